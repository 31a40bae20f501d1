/-! The law's entry. -/
theorem zinst : ∀ ci, ci < 8 → Cond.instantiable (zCn ci) (znf ci) ∈ zWD
  | 0, _ => zw_in (zt1 (List.mem_of_getElem? (i := 17) rfl)) rfl
  | 1, _ => zw_in (zt1 (List.mem_of_getElem? (i := 25) rfl)) rfl
  | 2, _ => zw_in (zt1 (List.mem_of_getElem? (i := 42) rfl)) rfl
  | 3, _ => zw_in (zt1 (List.mem_of_getElem? (i := 73) rfl)) rfl
  | 4, _ => zw_in (zt1 (List.mem_of_getElem? (i := 80) rfl)) rfl
  | 5, _ => zw_in (zt1 (List.mem_of_getElem? (i := 123) rfl)) rfl
  | 6, _ => zw_in (zt1 (List.mem_of_getElem? (i := 146) rfl)) rfl
  | 7, _ => zw_in (zt3 (List.mem_of_getElem? (i := 180) rfl)) rfl
  | _ + 8, h => absurd h (by omega)
theorem zarr_int : Cond.arrayClass .int ∈ zWD := zw_in (zt1 (List.mem_of_getElem? (i := 71) rfl)) rfl
theorem zarr_boolean : Cond.arrayClass .boolean ∈ zWD := zw_in (zt1 (List.mem_of_getElem? (i := 94) rfl)) rfl
theorem zarr_byte : Cond.arrayClass .byte ∈ zWD := zw_in (zt1 (List.mem_of_getElem? (i := 40) rfl)) rfl
theorem zarr_long : Cond.arrayClass .long ∈ zWD := zw_in (zt5 (List.mem_of_getElem? (i := 19) rfl)) rfl
theorem zarr_view : Cond.arrayOver (.object "ConstantFlow$View") ∈ tables_1 := zt1 (List.mem_of_getElem? (i := 79) rfl)
theorem zst_1 : Cond.laysStatic Bundle.tN "UNASSIGNED_STACK" Bundle.steD ∈ tables_1 := zt3 (List.mem_of_getElem? (i := 27) rfl)
theorem zst_2 : Cond.laysStatic Bundle.tN "SUPPRESSED_SENTINEL" Bundle.listD ∈ tables_1 := zt3 (List.mem_of_getElem? (i := 29) rfl)
theorem zarr_of {s : State} {A : Array Value} {ty : FieldType} (hp : ∀ C, ty ≠ .object C) (h : (Cond.arrayClass ty).before A s = true) : ∃ cA, ArrOfT s cA ty ∧ va_RA s cA ty := by
  obtain ⟨cA, kA, comp, h1, h2, h3⟩ := Cond.arrayClass_spec h
  refine ⟨cA, fun N z => ⟨(fun k h => by cases h), kA, h2, comp, h3⟩, ?_⟩
  cases ty with
  | object C => exact absurd rfl (hp C)
  | _ => exact h1
theorem zarr_ob {s : State} {A : Array Value} {C : String} (h : (Cond.arrayOver (.object C)).before A s = true) : ∃ cA, ArrOfT s cA (.object C) ∧ va_RA s cA (.object C) := by
  obtain ⟨comp, cA, kA, h1, -, h2, h3, h4⟩ := Cond.arrayOver_spec h
  exact ⟨cA, fun N z => ⟨(fun k h => by cases h), kA, h2, comp, h3⟩, kA, comp, h2, h3, h1, h4⟩
theorem zKn {s : State} {A : Array Value} (hts : ∀ w ∈ lw_tbl, w.before A s = true) : ∃ (D : va_G) (cA : Nat → ClassId), va_K D zcl (ztys cA) s := by
  have hz : ∀ w ∈ zWD, w.before A s = true := fun w hw => hts w (List.mem_filter.mp hw).1
  have ht : ∀ w ∈ tables_1, w.before A s = true := fun w hw => hts w (List.mem_append_right _ hw)
  have e1 : ∀ ci, ci < 8 → ∃ q : ClassId × (Nat → Nat), u_Kn s (zCn ci) (zFT ci) (znf ci) q.1 q.2 := by
    intro ci hci
    obtain ⟨a, b, h⟩ := u_known (ws := zWD) hz (zin ci hci) (hz _ (zinst ci hci))
    exact ⟨(a, b), h⟩
  obtain ⟨q0, _⟩ := e1 0 (by decide)
  have e2 : ∀ ci, ∃ q : ClassId × (Nat → Nat), ci < 8 → u_Kn s (zCn ci) (zFT ci) (znf ci) q.1 q.2 := by
    intro ci
    by_cases hci : ci < 8
    · obtain ⟨q, h⟩ := e1 ci hci
      exact ⟨q, fun _ => h⟩
    · exact ⟨q0, fun h => absurd h hci⟩
  obtain ⟨Dq, hD⟩ := Classical.axiomOfChoice e2
  obtain ⟨c10, a10⟩ := zarr_of (fun C h => by cases h) (hz _ zarr_int)
  obtain ⟨c11, a11⟩ := zarr_of (fun C h => by cases h) (hz _ zarr_boolean)
  obtain ⟨c12, a12⟩ := zarr_of (fun C h => by cases h) (hz _ zarr_byte)
  obtain ⟨c13, a13⟩ := zarr_ob (ht _ zarr_view)
  obtain ⟨c14, a14⟩ := zarr_of (fun C h => by cases h) (hz _ zarr_long)
  refine ⟨(fun c => (Dq c).1, fun c => (Dq c).2), fun t => if t = 10 then c10 else if t = 11 then c11 else if t = 12 then c12 else if t = 13 then c13 else c14, fun c q hq => ?_, fun k q hq => ?_⟩
  · have hc : c < 8 := (List.getElem?_eq_some_iff.mp hq).1
    rw [zcl_at c hc] at hq
    cases hq
    exact hD c hc
  · match k, hq with
    | 0, hq => cases hq; exact a10
    | 1, hq => cases hq; exact a11
    | 2, hq => cases hq; exact a12
    | 3, hq => cases hq; exact a13
    | 4, hq => cases hq; exact a14
    | k + 5, hq => simp at hq
theorem zTh_of {s : State} {A : Array Value} (hts : ∀ w ∈ lw_tbl, w.before A s = true) (hgv : (Jvm.Cond.and given_1 narrow_1).before A s = true) : zTh s.heap.size s := by
  have ht : ∀ w ∈ tables_1, w.before A s = true := fun w hw => hts w (List.mem_append_right _ hw)
  have hs := flat_of_before _ hgv
  refine ⟨zSt.of (ht _ zst_1) (hs _ (by decide +kernel)), zSt.of (ht _ zst_2) (hs _ (by decide +kernel)), fun k tx hk => ?_, fun w hw hc => ?_, va_Nc.of (hs _ (by decide +kernel))⟩
  · have h1 := ht _ hk
    have hcur : ∃ cur, s.vm.findClass "ConstantFlow" = some cur := by
      have h2 := h1
      simp only [Cond.before, Cond.holds, Cond.value] at h2
      cases hc : s.vm.findClass "ConstantFlow" with
      | none => simp [hc] at h2
      | some cur => exact ⟨cur, rfl⟩
    obtain ⟨cur, hcur⟩ := hcur
    obtain ⟨-, -, -, a, -, -, -, -, -, hev⟩ := Cond.stringRef_spec hcur h1
    exact ⟨a, vk_R.of h1 hev⟩
  · rcases zisC_kind hc with ⟨x, rfl⟩ | ⟨x, y, rfl⟩
    · exact va_Nw.of rfl (ht _ hw)
    · exact va_Nw.of rfl (ht _ hw)
theorem zNW_of {s : State} {A : Array Value} (hts : ∀ w ∈ lw_tbl, w.before A s = true) : ∀ w ∈ zNW, va_Nw w s := by
  intro w hw
  have h := hts w (List.mem_append_right _ (List.mem_filter.mp hw).1)
  rcases zNW_kind w hw with ⟨a, i, b, n, d, q, rfl⟩ | ⟨a, i, x, q, rfl⟩ | ⟨C, rfl⟩
  · exact va_Nw.of rfl h
  · exact va_Nw.of rfl h
  · exact va_AO.of h
theorem whole_walk {p : Program} {e : Env} {s : State} {m : MethodId} {below : List Frame} {meth : Method} {c : Code} (l : Launch) (hfl : l.flags = pinnedFlags ++ [noTraceFlag]) {b L : Nat} {xs : Nat → Int32} (hL : L ≤ 2048) (C0 : lw_At p s m meth c b L xs) : W p l e room_1 s m #[Value.ref b] below meth c s.heap [] 0 0 (lw_Z below #[Value.ref b] s) (entryFrame m ([Value.ref b] : List Value).toArray 7) := by
  obtain ⟨hx, hcode, hr, hml, hown, hts, hX, hbl, hlocks, hgv⟩ := C0
  obtain ⟨D, cA, hK⟩ := zKn hts
  have hTh := zTh_of hts hgv
  have hF : zF p s m #[Value.ref b] meth c s.heap s.heap.size D cA 7 code "ConstantFlowLaw" := ⟨hx, hcode, hml, hown, fun w hw => hts w (List.mem_filter.mp hw).1, zNW_of hts, hK, Nat.le_refl _, hlocks⟩
  have h := w_law (p := p) (e := e) (m := m) (below := below) (c := c) (D := D) (cA := cA) hX ⟨hbl, hbl⟩ hTh hfl hr (Nat.le_refl _) (law_ok (xs := xs) hL)
  have hl := lv_entry ([Value.ref b] : List Value) (n := 7) (Nat.le_of_ble_eq_true rfl)
  rw [lg_entry_eq]
  refine h hF s.heap [] _ ⟨fun k hk => absurd hk (by omega), fun _ => rfl, by decide⟩ va_S.rf ⟨hl.1, hl.2.1, fun i v hi => ?_⟩
  match i, hi with
  | 0, hi => cases hi; exact hl.2.2 (0, .ref b) (by simp [lv_args])
  | 1, hi => cases hi
  | 2, hi => cases hi
  | 3, hi => cases hi
  | 4, hi => cases hi
  | 5, hi => cases hi
  | 6, hi => cases hi
  | i + 7, hi => simp at hi
