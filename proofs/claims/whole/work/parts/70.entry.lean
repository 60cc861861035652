/-! what holds at the law's entry, as the walks want it -/
section LWE
variable {args : Array Value} {s : State}
theorem en_int {t : Term} {z : Int32} (h : (Cond.eq t (.int z)).before args s = true) : t.eval args s none [] s = some (.int z) := by
  cases hv : t.eval args s none [] s with
  | none => simp [Cond.before, Cond.holds, Cond.value, hv] at h
  | some w =>
    have hz : (Term.int z).eval args s none [] s = some (.int z) := rfl
    simp only [Cond.before, Cond.holds, Cond.value, hv, hz] at h
    cases w <;> simp_all
theorem en_arr {ty : FieldType} (h : (Cond.arrayClass ty).before args s = true) : ∃ cA : ClassId, ArrOfT s cA ty ∧ s.vm.findClass ("[" ++ ty.toString) = some cA := by
  obtain ⟨c, k, comp, h1, h2, h3⟩ := Cond.arrayClass_spec h
  exact ⟨c, fun n z => ⟨fun k h => (by cases h), k, h2, comp, h3⟩, h1⟩
theorem en_obj {C : String} (h : (Cond.arrayOver (.object C)).before args s = true) : ∃ cA : ClassId, ArrOfT s cA (.object C) ∧ va_RA s cA (.object C) := by
  obtain ⟨comp, c, k, h1, h2, h3, h4, h5⟩ := Cond.arrayOver_spec h
  exact ⟨c, fun n z => ⟨fun k h => (by cases h), k, h3, comp, h4⟩, k, comp, h3, h4, h1, h5⟩
def en_G (c0 c1 c2 c3 c4 c5 c6 : ClassId) (i0 i1 i2 i3 i4 i5 i6 : Nat → Nat) : va_G := (fun c => match c with | 0 => c0 | 1 => c1 | 2 => c2 | 3 => c3 | 4 => c4 | 5 => c5 | _ => c6, fun c => match c with | 0 => i0 | 1 => i1 | 2 => i2 | 3 => i3 | 4 => i4 | 5 => i5 | _ => i6)
def en_T (a0 a1 a2 a3 : ClassId) : Nat → ClassId := fun t => match t with | 0 => a0 | 1 => a1 | 2 => a2 | _ => a3
theorem k_ao : Cond.arrayOver (.object "java/lang/Object") ∈ w_tb := by decide +kernel
theorem k_ar_0 : Cond.arrayClass .int ∈ w_tb := by decide +kernel
theorem k_ar_1 : Cond.arrayClass .long ∈ w_tb := by decide +kernel
theorem k_ar_3 : Cond.arrayClass .boolean ∈ w_tb := by decide +kernel
theorem en_K (hts : ∀ w ∈ w_tb, w.before args s = true) : ∃ (G : va_G) (t : Nat → ClassId), ∀ (H : Heap) (x y : Nat), va_K G w_cl (h_ty (G, t, H, x, y) w_tl) s := by
  obtain ⟨c0, i0, k0⟩ := u_known hts i_Rows (hts _ k_made_Rows)
  obtain ⟨c1, i1, k1⟩ := u_known hts i_Job (hts _ k_made_Job)
  obtain ⟨c2, i2, k2⟩ := u_known hts i_Load (hts _ k_made_Load)
  obtain ⟨c3, i3, k3⟩ := u_known hts i_Ini (hts _ k_made_Ini)
  obtain ⟨c4, i4, k4⟩ := u_known hts i_NS (hts _ k_made_NS)
  obtain ⟨c5, i5, k5⟩ := u_known hts i_AL (hts _ k_made_AL)
  obtain ⟨c6, i6, k6⟩ := u_known hts i_Mod (hts _ k_made_Mod)
  obtain ⟨a0, b0, d0⟩ := en_arr (hts _ k_ar_0)
  obtain ⟨a1, b1, d1⟩ := en_arr (hts _ k_ar_1)
  obtain ⟨a2, b2, d2⟩ := en_obj (hts _ k_ao)
  obtain ⟨a3, b3, d3⟩ := en_arr (hts _ k_ar_3)
  refine ⟨en_G c0 c1 c2 c3 c4 c5 c6 i0 i1 i2 i3 i4 i5 i6, en_T a0 a1 a2 a3, fun H x y => ⟨fun c q hq => ?_, fun k q hk => ?_⟩⟩
  · match c, hq with
    | 0, hq => cases hq; exact k0
    | 1, hq => cases hq; exact k1
    | 2, hq => cases hq; exact k2
    | 3, hq => cases hq; exact k3
    | 4, hq => cases hq; exact k4
    | 5, hq => cases hq; exact k5
    | 6, hq => cases hq; exact k6
    | n + 7, hq => cases hq
  · match k, hk with
    | 0, hk => cases hk; exact ⟨b0, d0⟩
    | 1, hk => cases hk; exact ⟨b1, d1⟩
    | 2, hk => cases hk; exact ⟨b2, d2⟩
    | 3, hk => cases hk; exact ⟨b3, d3⟩
    | n + 4, hk => cases hk
theorem en_flat {w : Cond} (h : (Jvm.Cond.and given_1 narrow_1).before args s = true) (hw : w ∈ flatC (Jvm.Cond.and given_1 narrow_1)) : w.before args s = true := flat_of_before _ h w hw
theorem k_ly_0 : Cond.laysStatic "java/util/ArrayList" "DEFAULTCAPACITY_EMPTY_ELEMENTDATA" "[Ljava/lang/Object;" ∈ lw_tbl := List.mem_append_right _ (List.mem_of_getElem? (i := 41) (by decide +kernel))
theorem k_ly_1 : Cond.laysStatic Bundle.tN "UNASSIGNED_STACK" Bundle.steD ∈ lw_tbl := List.mem_append_right _ (List.mem_of_getElem? (i := 498) (by decide +kernel))
theorem k_ly_2 : Cond.laysStatic Bundle.tN "SUPPRESSED_SENTINEL" Bundle.listD ∈ lw_tbl := List.mem_append_right _ (List.mem_of_getElem? (i := 500) (by decide +kernel))
theorem k_in_T : Cond.initialized Bundle.tN ∈ lw_tbl := List.mem_append_right _ (List.mem_of_getElem? (i := 16) (by decide +kernel))
theorem k_in_AL : Cond.initialized "java/util/ArrayList" ∈ lw_tbl := List.mem_append_right _ (List.mem_of_getElem? (i := 4) (by decide +kernel))
theorem k_st_R : Cond.stringRef R_Rows 151 "all weights are 0" ∈ lw_tbl := List.mem_append_right _ (List.mem_of_getElem? (i := 510) (by decide +kernel))
theorem en_Z (hts : ∀ w ∈ lw_tbl, w.before args s = true) (hg : (Jvm.Cond.and given_1 narrow_1).before args s = true) : ∃ (x y : Nat), ∀ (G : va_G) (t : Nat → ClassId), hZ (G, t, s.heap, x, y) s := by
  have hA : ∀ a : Nat, a < s.heap.size → ¬ s.heap.size ≤ a := fun a h => Nat.not_le.mpr h
  obtain ⟨t, ht, hT⟩ := va_Tof (s := s) (tm := .static "java/util/ArrayList" "DEFAULTCAPACITY_EMPTY_ELEMENTDATA" "[Ljava/lang/Object;") (ty := .object "java/lang/Object") (N := 0) (f := fun _ => .null) (A := fun q => s.heap.size ≤ q) (by decide) (en_flat hg (by decide +kernel)) (en_int (en_flat hg (by decide +kernel))) (fun j hj => absurd hj (Nat.not_lt_zero j)) hA
  obtain ⟨mi, hM⟩ := va_Mi.of (C := "[Ljava/lang/Object;") (en_flat hg (by decide +kernel))
  exact ⟨t, mi, fun G t => ⟨va_Zof (hts _ k_ly_0) (hts _ k_in_AL) ht hA, hT, hM⟩⟩
theorem en_Zt {G : va_G} {t : Nat → ClassId} {x y : Nat} (hts : ∀ w ∈ lw_tbl, w.before args s = true) (hg : (Jvm.Cond.and given_1 narrow_1).before args s = true) : hZt (G, t, s.heap, x, y) s := by
  have hA : ∀ a : Nat, a < s.heap.size → ¬ s.heap.size ≤ a := fun a h => Nat.not_le.mpr h
  have g1 : (Cond.isRef (.static Bundle.tN "UNASSIGNED_STACK" Bundle.steD)).before args s = true := en_flat hg (by decide +kernel)
  have g2 : (Cond.isRef (.static Bundle.tN "SUPPRESSED_SENTINEL" Bundle.listD)).before args s = true := en_flat hg (by decide +kernel)
  have g3 : (Cond.exactly (.string R_Rows 151) "java/lang/String").before args s = true := en_flat hg (by decide +kernel)
  obtain ⟨v1, e1, r1⟩ := Cond.isRef_spec g1
  obtain ⟨v2, e2, r2⟩ := Cond.isRef_spec g2
  obtain ⟨a, -, -, -, e3, -⟩ := Cond.exactly_spec g3
  exact ⟨v1, v2, a, r1, r2, va_Zof (hts _ k_ly_1) (hts _ k_in_T) e1 hA, va_Zof (hts _ k_ly_2) (hts _ k_in_T) e2 hA, vk_R.of (hts _ k_st_R) e3, hts _ k_ly_1, hts _ k_ly_2⟩
end LWE
/-- YOUR PART: from the entry, for every script of at most 3072 ints, the law comes to its end with true -/
theorem whole_start {p : Program} {e : Env} {s : State} {m : MethodId} {below : List Frame} {meth : Method} {c : Code} (l : Launch) (hfl : l.flags = flags0) {b L : Nat} {xs : Nat → Int32} (hL : L ≤ 3072) (C0 : lw_At p s m meth c b L xs) : W p l e room_1 s m #[Value.ref b] below meth c s.heap [] 0 0 (lw_Z below #[Value.ref b] s) (entryFrame m ([Value.ref b] : List Value).toArray 8) := by
  obtain ⟨hx, hb, hrt, hml, hown, hts, hX, hbl, hlocks, hg⟩ := C0
  have htb : ∀ w ∈ w_tb, w.before #[Value.ref b] s = true := fun w hw => hts w (List.mem_filter.mp hw).1
  obtain ⟨G, t, hK⟩ := en_K htb
  obtain ⟨x, y, hZ0⟩ := en_Z hts hg
  have Z : lwC (G, t, s.heap, x, y) p s m meth c b L xs := ⟨⟨hx, hb, hml, hown, htb, hK s.heap x y, ⟨Nat.le_refl _, fun _ _ => rfl⟩, hZ0 G t, hrt, hlocks⟩, hX, hbl, hbl, en_Zt hts hg⟩
  rw [lg_entry_eq]
  refine S_law_begin Z rfl hfl hL (h := (x, y, fun _ => none)) (fun _ => rfl) ⟨[], fun k q hk => absurd hk (by simp), ?_, fun a x hx => absurd hx (by simp [rd]), rfl, rfl⟩ (lv_entry [Value.ref b] (Nat.le_of_ble_eq_true rfl))
  simp [va_D]
