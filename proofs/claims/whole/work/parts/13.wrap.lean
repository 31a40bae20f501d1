/-! Methods with handlers. -/
def zMW (l : Launch) (y : MethodName) (yc : ByteArray) (yl : Nat) (yr : Option FieldType) (hh : List (Nat × Nat × Nat × Nat)) (d mc ms : Nat) (D : va_G) (cA : Nat → ClassId) (base n : Nat) (av : List Value) (σ : zS) (Qp : Option Value → zS → Prop) : Prop :=
  Met l y (Cond.codeWith y yc yl yr hh :: zWD) (zrm d mc ms) (fun v U => zPc D cA base n false av σ v U ∧ zTh base U) (zQc (zA base) D cA base n false Qp) mc ms (zA base)
theorem zMetW {l : Launch} {y : MethodName} {yc : ByteArray} {yl : Nat} {yr : Option FieldType} {hh : List (Nat × Nat × Nat × Nat)} {d mc ms : Nat} {D : va_G} {cA : Nat → ClassId} {base n : Nat} {av : List Value} {σ : zS} {Qp : Option Value → zS → Prop} {ls : List (Option Value)} (hy : plainName y.cls = true) (hls : zar av ++ List.replicate (yl - (zar av).length) none = ls) (hlen : (zar av).length ≤ yl)
    (body : ∀ (p : Program) (e : Env) (s : State) (m : MethodId) (args : Array Value) (below : List Frame) (meth : Method) (c : Code), meth.sig.returnType = yr → c.exceptionTable.toList.map (fun h => (h.startPc, h.endPc, h.handlerPc, h.catchType)) = hh → zTh base s → zG p l e (zrm d mc ms) s m args below meth c (MQ below (zQc (zA base) D cA base n false Qp) args s mc ms (zA base)) s.heap (zA base) base D cA yl false yc y.cls n 0 0 0 ls [] σ) :
    zMW l y yc yl yr hh d mc ms D cA base n av σ Qp := by
  refine va_MetW (cc := yc) (maxL := yl) (ret := yr) (hh := hh) hy rfl ?_
  intro p e s m args below meth c s₁ B hml hv
  obtain ⟨⟨rfl, hKK, hW, hb0⟩, hTh⟩ := hv
  have hts0 : ∀ w ∈ (Cond.codeWith y yc yl yr hh :: zWD), w.before (av.map (ztr base)).toArray s = true := atoms_spec (ws := Cond.codeWith y yc yl yr hh :: zWD) B.pre
  have hown : s.vm.findClass y.cls = some m.cls := findClass_of_methodNamed B.named
  have hexc : c.exceptionTable.toList.map (fun h => (h.startPc, h.endPc, h.handlerPc, h.catchType)) = hh := by
    obtain ⟨m', meth', c', hn', hm', hc', -, -, he', -⟩ := Cond.codeWith_spec (hts0 _ List.mem_cons_self)
    cases B.named.symm.trans hn'
    cases B.method.symm.trans hm'
    cases (Stand.of_body B).code.symm.trans hc'
    exact he'
  have hl := lv_entry (av.map (ztr base)) (n := yl) (by rw [zar_len]; exact hlen)
  rw [lg_entry_eq]
  refine body p e s m _ below meth c B.returns hexc hTh ⟨B.exec, B.bytes, hml, hown, fun w hw => hts0 w (List.mem_cons_of_mem _ hw), hKK.1, hKK.2, hb0, B.notSynchronized⟩ s.heap [] _ hW va_S.rf ⟨hl.1, hl.2.1, fun i v hi => ?_⟩
  refine hl.2.2 (i, ztr base v) ?_
  rw [← hls] at hi
  by_cases hlt : i < (zar av).length
  · rw [List.getElem?_append_left hlt] at hi
    have := zar_mem base av 0 i v hi
    rwa [Nat.zero_add] at this
  · rw [List.getElem?_append_right (by omega)] at hi
    have := List.eq_of_mem_replicate (List.mem_of_getElem? hi)
    cases this
section ZWW
variable {p : Program} {l : Launch} {e : Env} {R : Room} {s : State} {m : MethodId} {args : Array Value} {below : List Frame} {meth : Method} {c : Code} {Q : State → Prop} {H0 : Heap} {A : Nat → Prop} {base : Nat} {D : va_G} {cA : Nat → ClassId} {nL : Nat} {ex : Bool} {cc : ByteArray} {own : String} {n cu su pc : Nat} {ls : List (Option Value)} {st r : List Value} {σ : zS}
theorem zw_widen {k z : Nat} (h1 : cu ≤ k) (h2 : su ≤ z) (kk : zG p l e R s m args below meth c Q H0 A base D cA nL ex cc own n k z pc ls st σ) : zG p l e R s m args below meth c Q H0 A base D cA nL ex cc own n cu su pc ls st σ :=
  fun F H locs la hW hS hL => W.widen h1 h2 (kk F H locs la hW hS hL)
theorem zw_callSW {idx d mc ms yl : Nat} {y : MethodName} {yc : ByteArray} {yr : Option FieldType} {hh : List (Nat × Nat × Nat × Nat)} {Qp : Option Value → zS → Prop} {As : List Value} (hd : decode cc pc = .ok (.invokestatic idx, 3)) (hM : zMW l y yc yl yr hh d mc ms D cA base n As σ Qp) (h1 : Cond.methodLink own idx y ∈ zWD) (h2 : Cond.static y ∈ zWD) (h4 : Cond.initialized y.cls ∈ zWD) (h5 : Cond.codeWith y yc yl yr hh ∈ zWD)
    (hy : y.cls ≠ "java/lang/invoke/MethodHandle" ∧ y.cls ≠ "java/lang/invoke/VarHandle" ∧ (parseMethodDescriptor y.desc).map (fun d => d.parameters.length) = some As.length) (hR1 : d + 1 ≤ R.frames) (hR2 : 8 + (yl + 11) + 40 * d ≤ R.locals) (hf : cu + mc ≤ R.cells ∧ su + ms ≤ R.slots) (hst : (r.map fun v => v.category).sum ≤ 8) (hs : st = As.reverse ++ r) (hTh : zTh base s)
    (kk : ∀ (rv : Option Value) (σ' : zS), Qp rv σ' → zG p l e R s m args below meth c Q s.heap (zA base) base D cA nL false cc own n (cu + mc) (su + ms) (pc + 3) ls (rv.toList ++ r) σ') : zG p l e R s m args below meth c Q s.heap (zA base) base D cA nL false cc own n cu su pc ls st σ := by
  subst hs
  refine zw_run (a0 := (As.map (ztr base)).toArray) (fun H locs la F hW hS hL => ?_) kk
  intro T hT X
  have hts := F.2.2.2.2.1
  have hbl : FrameBlind (fun v U => zPc D cA base n false As σ v U ∧ zTh base U) := fun a U g mk h => ⟨zPc_blind _ _ _ _ _ _ _ a U g mk h.1, zTh.same (u := U) (U := U.calling g mk a) rfl rfl h.2⟩
  have hws : ∀ w ∈ Cond.codeWith y yc yl yr hh :: zWD, ∀ (a' : Array Value) (U : State), s.WarmedH U.vm → w.before a' U = true := by
    intro w hw a' U hU
    have hm : w ∈ zWD := by
      rcases List.mem_cons.mp hw with rfl | hw
      · exact h5
      · exact hw
    exact word_at hU (zgood w hm) (hts w hm)
  have hK : Back l R p e below s args y 3 8 (PreOf R mc ms (fun v U => zPc D cA base n false As σ v U ∧ zTh base U)) (PostOf (zQc (zA base) D cA base n false Qp) mc ms (zA base)) :=
    va_backW (hh := hh) (bytes := yc) (maxL := yl) (ret := yr) hM hbl rfl rfl hR1 hR2 hws List.mem_cons_self (fun a' U hU => word_at hU (zgood _ h4) (hts _ h4))
  obtain ⟨mk, methM, cM, hnamed, hmethM, -, -, -, -, -, -, hsigM⟩ := Cond.codeWith_spec (hts _ h5)
  have hstatic : methM.isStatic = true := Cond.static_spec hnamed hmethM (hts _ h2)
  obtain ⟨kP, hkP, -⟩ := className_of_methodNamed hnamed
  have hinitP : kP.init = .initialized := Cond.initialized_spec (findClass_of_methodNamed hnamed) hkP (hts _ h4)
  have hlen : (As.map (ztr base)).length = methM.sig.parameters.length := by
    have h2 := hy.2.2
    rw [hsigM] at h2
    rw [List.length_map]
    exact (Option.some.inj h2).symm
  obtain ⟨vm₁, X₁, hstep₁⟩ := X.invokestatic F.1 F.2.2.2.1 (hts _ h1) hnamed hmethM hstatic hkP hinitP ⟨hy.1, hy.2.1⟩ (g := F0 m pc la ((As.reverse ++ r).map (ztr base))) rfl (argsL := As.map (ztr base)) (rest := r.map (ztr base)) hlen (by simp [ztr]) (by rw [F.2.1]; exact hd)
  obtain ⟨v, ⟨U', l2, c2, s2⟩, X', hpost, hsteps⟩ := hK m meth c ⟨T.setVm vm₁, locs, cu, su⟩ { (F0 m pc la ((As.reverse ++ r).map (ztr base))) with stack := r.map (ztr base) } (.invokestatic idx) mk (As.map (ztr base)).toArray X₁ rfl (hL.1.trans F.2.2.1.symm) (by rw [F.2.1]; exact hd) (by rw [ztr_sum]; show 2 * 0 + _ ≤ 8; omega) (X₁.named hnamed)
    ⟨hf.1, hf.2, zF_pre F hW hS _ (T.setVm vm₁) hT X₁.warmed, hTh.to X₁.warmed (fun q hq => by
      show T.heap[q]? = _
      rw [hT]
      exact hS.2.1 q (Nat.lt_of_lt_of_le hq F.2.2.2.2.2.2.2.1) (fun h => by have := h.1; omega))⟩
  obtain ⟨g', mk', t, L, e1, e2, hq, g1, hL', g2, g3⟩ := hpost
  dsimp only [Pt.U, Pt.locs, Pt.cells, Pt.slots] at X' e1 e2 g1 g2 g3 hsteps hq
  subst g1; subst g2; subst g3
  exact ⟨v, _, t, U', L, hT, X', hL', e1, e2, hq, fun target h => hstep₁ _ fun acts => by rw [doInvoke_state]; exact hsteps.trans h⟩
end ZWW
