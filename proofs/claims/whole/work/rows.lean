section
/-! A WORLD AS A MAP: what lies at an address. Contents: an array of ints (booleans, bytes ..) of the t-th array class, of longs, of references, or an object of the ci-th class -/
abbrev hE : Type := (Nat × Nat × (Nat → Int32)) ⊕ (Nat × Nat × (Nat → Int64)) ⊕ (Nat × Nat × (Nat → Option Nat)) ⊕ (Nat × List Value)
/-- (the shared empty array of lists, the class object of Object[], what lies where) -/
abbrev hM : Type := Nat × Nat × (Nat → Option hE)
def rd (h : hM) (a : Nat) : Option hE := h.2.2 a
def eT (t n : Nat) (f : Nat → Int32) : hE := .inl (t, n, f)
def eJ (t n : Nat) (f : Nat → Int64) : hE := .inr (.inl (t, n, f))
def eA (t n : Nat) (f : Nat → Option Nat) : hE := .inr (.inr (.inl (t, n, f)))
def eO (ci : Nat) (fs : List Value) : hE := .inr (.inr (.inr (ci, fs)))
def h_up (h : hM) (a : Nat) (x : hE) : hM := (h.1, h.2.1, fun q => if q = a then some x else h.2.2 q)
theorem h_up_self (h : hM) (a : Nat) (x : hE) : rd (h_up h a x) a = some x := by simp [rd, h_up]
theorem h_up_ne (h : hM) {a b : Nat} (x : hE) (n : b ≠ a) : rd (h_up h a x) b = rd h b := by simp [rd, h_up, n]
/-- the classes' numbers, the array classes' numbers, the heap with which the law began, the empty array, the class object -/
abbrev hX : Type := va_G × (Nat → ClassId) × Heap × Nat × Nat
def h_tr (κ : hX) : hE → va_E := fun x => match x with
  | .inl (t, n, f) => .inl (κ.2.1 t, n, .inl f)
  | .inr (.inl (t, n, f)) => .inl (κ.2.1 t, n, .inr (.inl f))
  | .inr (.inr (.inl (t, n, f))) => .inl (κ.2.1 t, n, .inr (.inr (.inr (.inr f))))
  | .inr (.inr (.inr (ci, fs))) => .inr (ci, fs)
def h_z (κ : hX) : Nat := κ.2.2.1.size
def h_A (κ : hX) : Nat → Prop := fun q => h_z κ ≤ q
def h_ty (κ : hX) (tl : List FieldType) : List (ClassId × FieldType) := (List.range tl.length).map (fun i => (κ.2.1 i, tl.getD i .int))
theorem h_ty_at {κ : hX} {tl : List FieldType} {t : Nat} {ty : FieldType} (h : tl[t]? = some ty) : (h_ty κ tl)[t]? = some (κ.2.1 t, ty) := by
  have hl : t < tl.length := (List.getElem?_eq_some_iff.mp h).1
  unfold h_ty
  rw [List.getElem?_map, List.getElem?_range hl]
  simp [List.getD, h]
def hp (κ : hX) (cl : List vw_C) (h : hM) (H : Heap) : Prop := ∃ ws : va_W, va_P κ.1 cl ws H ∧ va_D (h_A κ) ws ∧ (∀ (a : Nat) (x : hE), rd h a = some x → ∃ k : Nat, ws[k]? = some (a, h_tr κ x)) ∧ h.1 = κ.2.2.2.1 ∧ h.2.1 = κ.2.2.2.2
def hF (κ : hX) (H : Heap) : Prop := h_z κ ≤ H.size ∧ ∀ q : Nat, q < h_z κ → H[q]? = κ.2.2.1[q]?
theorem hF.go {κ : hX} {H0 H : Heap} {locs : List Loc} (h : hF κ H0) (hS : va_S (h_A κ) H0 H locs) : hF κ H :=
  ⟨Nat.le_trans h.1 hS.1, fun q hq => (hS.2.1 q (Nat.lt_of_lt_of_le hq h.1) (Nat.not_le.mpr hq)).trans (h.2 q hq)⟩
theorem hp.at {κ : hX} {cl : List vw_C} {h : hM} {H : Heap} (hh : hp κ cl h H) {a : Nat} {x : hE} (ha : rd h a = some x) : ∃ (ws : va_W) (k : Nat), va_P κ.1 cl ws H ∧ va_D (h_A κ) ws ∧ ws[k]? = some (a, h_tr κ x) ∧
    (∀ (H1 : Heap) (y : hE), va_P κ.1 cl (ws.set k (a, h_tr κ y)) H1 → va_D (h_A κ) (ws.set k (a, h_tr κ y)) → hp κ cl (h_up h a y) H1) ∧ ∀ (b : Nat) (y : hE), rd h b = some y → ∃ j : Nat, ws[j]? = some (b, h_tr κ y) := by
  obtain ⟨ws, hP, hD, hl, he⟩ := hh
  obtain ⟨k, hk⟩ := hl a x ha
  have hlt : k < ws.length := (List.getElem?_eq_some_iff.mp hk).1
  refine ⟨ws, k, hP, hD, hk, fun H1 y hP1 hD1 => ⟨_, hP1, hD1, fun b z hb => ?_, he⟩, hl⟩
  by_cases hba : b = a
  · subst hba
    rw [h_up_self] at hb
    cases hb
    exact ⟨k, List.getElem?_set_self hlt⟩
  · rw [h_up_ne _ _ hba] at hb
    obtain ⟨j, hj⟩ := hl b z hb
    refine ⟨j, ?_⟩
    rw [List.getElem?_set_ne, hj]
    intro hkj
    subst hkj
    rw [hk] at hj
    exact hba (congrArg Prod.fst (Option.some.inj hj)).symm
theorem hp.push {κ : hX} {cl : List vw_C} {h : hM} {H H1 : Heap} {ws : va_W} {q : Nat} {y : hE} (he : h.1 = κ.2.2.2.1 ∧ h.2.1 = κ.2.2.2.2) (hl : ∀ (a : Nat) (x : hE), rd h a = some x → ∃ k : Nat, ws[k]? = some (a, h_tr κ x)) (hP1 : va_P κ.1 cl (ws ++ [(q, h_tr κ y)]) H1) (hD1 : va_D (h_A κ) (ws ++ [(q, h_tr κ y)])) : rd h q = none ∧ h_z κ ≤ q ∧ hp κ cl (h_up h q y) H1 := by
  have hlast : (ws ++ [(q, h_tr κ y)])[ws.length]? = some (q, h_tr κ y) := by simp
  have hn : rd h q = none := by
    cases hq : rd h q with
    | none => rfl
    | some x =>
      obtain ⟨k, hk⟩ := hl q x hq
      have hlt : k < ws.length := (List.getElem?_eq_some_iff.mp hk).1
      have := hD1.1 k ws.length (q, h_tr κ x) (q, h_tr κ y) (by rw [List.getElem?_append_left hlt]; exact hk) hlast rfl
      omega
  refine ⟨hn, hD1.2 _ _ hlast, _, hP1, hD1, fun b z hb => ?_, he⟩
  by_cases hba : b = q
  · subst hba
    rw [h_up_self] at hb
    cases hb
    exact ⟨_, hlast⟩
  · rw [h_up_ne _ _ hba] at hb
    obtain ⟨j, hj⟩ := hl b z hb
    exact ⟨j, by rw [List.getElem?_append_left (List.getElem?_eq_some_iff.mp hj).1]; exact hj⟩
/-- what never changes: the static empty array of lists, and the class object of Object[] -/
def hZ (κ : hX) (U : State) : Prop := va_Z "java/util/ArrayList" "DEFAULTCAPACITY_EMPTY_ELEMENTDATA" "[Ljava/lang/Object;" (.ref κ.2.2.2.1) (h_A κ) U κ.2.2.1 ∧ va_T (.object "java/lang/Object") κ.2.2.2.1 0 (fun _ => .null) (h_A κ) U κ.2.2.1 ∧ va_Mi "[Ljava/lang/Object;" κ.2.2.2.2 U
theorem hZ.moved {κ : hX} {u U : State} (hvm : u.vm.Alike U.vm) (h : hZ κ u) : hZ κ U := ⟨va_Z.moved hvm h.1, va_T.moved hvm h.2.1, va_Mi.moved hvm h.2.2⟩
/-- what a walk rests on -/
def Cw (κ : hX) (cl : List vw_C) (tl : List FieldType) (TB : List Cond) (p : Program) (s : State) (m : MethodId) (args : Array Value) (meth : Method) (c : Code) (cc : ByteArray) (nL : Nat) (own : String) (ret : Option FieldType) : Prop :=
  p.tables.exec = Jvm.exec ∧ c.code = cc ∧ c.maxLocals = nL ∧ s.vm.findClass own = some m.cls ∧ (∀ w ∈ TB, w.before args s = true) ∧ va_K κ.1 cl (h_ty κ tl) s ∧ hF κ s.heap ∧ hZ κ s ∧ meth.sig.returnType = ret ∧ meth.locks = false
theorem va_rf_cat (o : Option Nat) : (va_rf o).category = 1 := by cases o <;> rfl
section HL
variable {p : Program} {l : Launch} {e : Env} {R : Room} {s : State} {m : MethodId} {args : Array Value} {below : List Frame} {meth : Method} {c : Code} {H : Heap} {locs : List Loc} {cells slots : Nat} {Q : State → Prop}
variable {cc : ByteArray} {pc nL : Nat} {ls : Array Slot} {rest : List Value} {κ : hX} {cl : List vw_C} {tl : List FieldType} {TB : List Cond} {own : String} {ret : Option FieldType} {h : hM} {a : Nat}
theorem h_get (C0 : Cw κ cl tl TB p s m args meth c cc nL own ret) (hh : hp κ cl h H) {ref C : String} {T : u_T} {N ci index k : Nat} {fs : List Value} {v : Value} (ha : rd h a = some (eO ci fs)) (hv : fs[k]? = some v) (hc : cl[ci]? = some (C, T, N)) (hin : ∀ w ∈ u_ws C T N, w ∈ TB) (hk : k < N) (hlink : Cond.fieldLink own index ref (T k).2.1 (T k).2.2.1 ∈ TB) (hsame : ∀ x, s.fieldFound? (T k).1 (T k).2.1 (T k).2.2.1 = some x → s.fieldFound? ref (T k).2.1 (T k).2.2.1 = some x) (hdg : decode cc pc = .ok (.getfield index, 3))
    (kk : W p l e R s m args below meth c H locs cells slots Q (F0 m (pc + 3) ls (v :: rest))) : W p l e R s m args below meth c H locs cells slots Q (F0 m pc ls (.ref a :: rest)) := by
  obtain ⟨hx, hb, -, hown, hts, hK, -⟩ := C0
  obtain ⟨ws, j, hP, -, hj, -⟩ := hh.at ha
  exact va_get hx hb hts hin hown hK hP j hj hc k hk (hts _ hlink) hsame hv hdg kk
theorem h_put (C0 : Cw κ cl tl TB p s m args meth c cc nL own ret) (hh : hp κ cl h H) (hS : va_S (h_A κ) s.heap H locs) {ref C : String} {T : u_T} {N ci index k : Nat} {fs : List Value} {v : Value} {ty : FieldType} (ha : rd h a = some (eO ci fs)) (hl : k < fs.length) (hc : cl[ci]? = some (C, T, N)) (hin : ∀ w ∈ u_ws C T N, w ∈ TB) (ty0 : Nat → FieldType) (hty : ∀ k, k < N → parseFieldDescriptor (T k).2.2.1 = some (ty0 k)) (hnm : ∀ a, a < N → ∀ b, b < N → a ≠ b → (T a).2.1 ≠ (T b).2.1) (hk : k < N) (hlink : Cond.fieldLink own index ref (T k).2.1 (T k).2.2.1 ∈ TB) (hsame : ∀ x, s.fieldFound? (T k).1 (T k).2.1 (T k).2.2.1 = some x → s.fieldFound? ref (T k).2.1 (T k).2.2.1 = some x) (hfin : (T k).2.2.2 = false) (hd : parseFieldDescriptor (T k).2.2.1 = some ty) (hn : narrow ty v = v) (hfit : fits ty v = true) (hdg : decode cc pc = .ok (.putfield index, 3))
    (kk : ∀ (H1 : Heap) (locs1 : List Loc), hp κ cl (h_up h a (eO ci (fs.set k v))) H1 → va_S (h_A κ) s.heap H1 locs1 → W p l e R s m args below meth c H1 locs1 cells slots Q (F0 m (pc + 3) ls rest)) : W p l e R s m args below meth c H locs cells slots Q (F0 m pc ls (v :: .ref a :: rest)) := by
  obtain ⟨hx, hb, -, hown, hts, hK, -⟩ := C0
  obtain ⟨ws, j, hP, hD, hj, back, -⟩ := hh.at ha
  exact va_put hx hb hts hin ty0 hty hnm hown hK hP hD hS j hj hc k hk (hts _ hlink) hsame hfin hd hn hfit hl hdg (fun H1 locs1 hP1 hD1 hS1 => kk H1 locs1 (back H1 (eO ci (fs.set k v)) hP1 hD1) hS1)
theorem h_putF (C0 : Cw κ cl tl TB p s m args meth c cc nL own ret) (hh : hp κ cl h H) (hS : va_S (h_A κ) s.heap H locs) {ref C : String} {T : u_T} {N ci index k : Nat} {fs : List Value} {v : Value} {ty : FieldType} (ha : rd h a = some (eO ci fs)) (hl : k < fs.length) (hc : cl[ci]? = some (C, T, N)) (hin : ∀ w ∈ u_ws C T N, w ∈ TB) (ty0 : Nat → FieldType) (hty : ∀ k, k < N → parseFieldDescriptor (T k).2.2.1 = some (ty0 k)) (hnm : ∀ a, a < N → ∀ b, b < N → a ≠ b → (T a).2.1 ≠ (T b).2.1) (hk : k < N) (hlink : Cond.fieldLink own index ref (T k).2.1 (T k).2.2.1 ∈ TB) (hsame : ∀ x, s.fieldFound? (T k).1 (T k).2.1 (T k).2.2.1 = some x → s.fieldFound? ref (T k).2.1 (T k).2.2.1 = some x) (hfin : (T k).2.2.2 = true) (hin2 : meth.name = "<init>") (hdecl : (T k).1 = own) (hd : parseFieldDescriptor (T k).2.2.1 = some ty) (hn : narrow ty v = v) (hfit : fits ty v = true) (hdg : decode cc pc = .ok (.putfield index, 3))
    (kk : ∀ (H1 : Heap) (locs1 : List Loc), hp κ cl (h_up h a (eO ci (fs.set k v))) H1 → va_S (h_A κ) s.heap H1 locs1 → W p l e R s m args below meth c H1 locs1 cells slots Q (F0 m (pc + 3) ls rest)) : W p l e R s m args below meth c H locs cells slots Q (F0 m pc ls (v :: .ref a :: rest)) := by
  obtain ⟨hx, hb, -, hown, hts, hK, -⟩ := C0
  obtain ⟨ws, j, hP, hD, hj, back, -⟩ := hh.at ha
  exact va_putF hx hb hts hin ty0 hty hnm hown hK hP hD hS j hj hc k hk (hts _ hlink) hsame hfin hin2 hdecl hd hn hfit hl hdg (fun H1 locs1 hP1 hD1 hS1 => kk H1 locs1 (back H1 (eO ci (fs.set k v)) hP1 hD1) hS1)
theorem h_iald (C0 : Cw κ cl tl TB p s m args meth c cc nL own ret) (hh : hp κ cl h H) {t n : Nat} {f : Nat → Int32} {i : Int32} (ha : rd h a = some (eT t n f)) (hi : vp_in i n) (ht : tl[t]? = some .int) (hdg : decode cc pc = .ok (.iaload, 1))
    (kk : W p l e R s m args below meth c H locs cells slots Q (F0 m (pc + 1) ls (.int (f i.toNatClampNeg) :: rest))) : W p l e R s m args below meth c H locs cells slots Q (F0 m pc ls (.int i :: .ref a :: rest)) := by
  obtain ⟨hx, hb, -, hown, hts, hK, -⟩ := C0
  obtain ⟨ws, j, hP, -, hj, -⟩ := hh.at ha
  exact va_iald hx hb hK hP j t hj (h_ty_at ht) hi hdg kk
theorem h_zald (C0 : Cw κ cl tl TB p s m args meth c cc nL own ret) (hh : hp κ cl h H) {t n : Nat} {f : Nat → Int32} {i : Int32} (ha : rd h a = some (eT t n f)) (hi : vp_in i n) (ht : tl[t]? = some .boolean) (hdg : decode cc pc = .ok (.baload, 1))
    (kk : W p l e R s m args below meth c H locs cells slots Q (F0 m (pc + 1) ls (.int (f i.toNatClampNeg) :: rest))) : W p l e R s m args below meth c H locs cells slots Q (F0 m pc ls (.int i :: .ref a :: rest)) := by
  obtain ⟨hx, hb, -, hown, hts, hK, -⟩ := C0
  obtain ⟨ws, j, hP, -, hj, -⟩ := hh.at ha
  exact va_zald hx hb hK hP j t hj (h_ty_at ht) hi hdg kk
theorem h_lald (C0 : Cw κ cl tl TB p s m args meth c cc nL own ret) (hh : hp κ cl h H) {t n : Nat} {f : Nat → Int64} {i : Int32} (ha : rd h a = some (eJ t n f)) (hi : vp_in i n) (ht : tl[t]? = some .long) (hdg : decode cc pc = .ok (.laload, 1))
    (kk : W p l e R s m args below meth c H locs cells slots Q (F0 m (pc + 1) ls (.long (f i.toNatClampNeg) :: rest))) : W p l e R s m args below meth c H locs cells slots Q (F0 m pc ls (.int i :: .ref a :: rest)) := by
  obtain ⟨hx, hb, -, hown, hts, hK, -⟩ := C0
  obtain ⟨ws, j, hP, -, hj, -⟩ := hh.at ha
  exact va_lald hx hb hK hP j t hj (h_ty_at ht) hi hdg kk
theorem h_aald (C0 : Cw κ cl tl TB p s m args meth c cc nL own ret) (hh : hp κ cl h H) {t n : Nat} {f : Nat → Option Nat} {i : Int32} {C : String} (ha : rd h a = some (eA t n f)) (hi : vp_in i n) (ht : tl[t]? = some (.object C)) (hdg : decode cc pc = .ok (.aaload, 1))
    (kk : W p l e R s m args below meth c H locs cells slots Q (F0 m (pc + 1) ls (va_rf (f i.toNatClampNeg) :: rest))) : W p l e R s m args below meth c H locs cells slots Q (F0 m pc ls (.int i :: .ref a :: rest)) := by
  obtain ⟨hx, hb, -, hown, hts, hK, -⟩ := C0
  obtain ⟨ws, j, hP, -, hj, -⟩ := hh.at ha
  exact va_aldq hx hb hK hP j t hj (h_ty_at ht) hi hdg kk
theorem h_alenT (C0 : Cw κ cl tl TB p s m args meth c cc nL own ret) (hh : hp κ cl h H) {t n : Nat} {f : Nat → Int32} {ty : FieldType} (ha : rd h a = some (eT t n f)) (ht : tl[t]? = some ty) (hdg : decode cc pc = .ok (.arraylength, 1))
    (kk : W p l e R s m args below meth c H locs cells slots Q (F0 m (pc + 1) ls (.int (nI n) :: rest))) : W p l e R s m args below meth c H locs cells slots Q (F0 m pc ls (.ref a :: rest)) := by
  obtain ⟨hx, hb, -, hown, hts, hK, -⟩ := C0
  obtain ⟨ws, j, hP, -, hj, -⟩ := hh.at ha
  exact va_alen hx hb hK hP j t hj (h_ty_at ht) (v := nI n) rfl hdg kk
theorem h_alenJ (C0 : Cw κ cl tl TB p s m args meth c cc nL own ret) (hh : hp κ cl h H) {t n : Nat} {f : Nat → Int64} {ty : FieldType} (ha : rd h a = some (eJ t n f)) (ht : tl[t]? = some ty) (hdg : decode cc pc = .ok (.arraylength, 1))
    (kk : W p l e R s m args below meth c H locs cells slots Q (F0 m (pc + 1) ls (.int (nI n) :: rest))) : W p l e R s m args below meth c H locs cells slots Q (F0 m pc ls (.ref a :: rest)) := by
  obtain ⟨hx, hb, -, hown, hts, hK, -⟩ := C0
  obtain ⟨ws, j, hP, -, hj, -⟩ := hh.at ha
  exact va_alen hx hb hK hP j t hj (h_ty_at ht) (v := nI n) rfl hdg kk
theorem h_alenA (C0 : Cw κ cl tl TB p s m args meth c cc nL own ret) (hh : hp κ cl h H) {t n : Nat} {f : Nat → Option Nat} {ty : FieldType} (ha : rd h a = some (eA t n f)) (ht : tl[t]? = some ty) (hdg : decode cc pc = .ok (.arraylength, 1))
    (kk : W p l e R s m args below meth c H locs cells slots Q (F0 m (pc + 1) ls (.int (nI n) :: rest))) : W p l e R s m args below meth c H locs cells slots Q (F0 m pc ls (.ref a :: rest)) := by
  obtain ⟨hx, hb, -, hown, hts, hK, -⟩ := C0
  obtain ⟨ws, j, hP, -, hj, -⟩ := hh.at ha
  exact va_alen hx hb hK hP j t hj (h_ty_at ht) (v := nI n) rfl hdg kk
theorem h_iast (C0 : Cw κ cl tl TB p s m args meth c cc nL own ret) (hh : hp κ cl h H) (hS : va_S (h_A κ) s.heap H locs) {t n : Nat} {f : Nat → Int32} {i x : Int32} (ha : rd h a = some (eT t n f)) (hi : vp_in i n) (ht : tl[t]? = some .int) (hdg : decode cc pc = .ok (.iastore, 1))
    (kk : ∀ (H1 : Heap) (locs1 : List Loc), hp κ cl (h_up h a (eT t n (upd f i.toNatClampNeg x))) H1 → va_S (h_A κ) s.heap H1 locs1 → W p l e R s m args below meth c H1 locs1 cells slots Q (F0 m (pc + 1) ls rest)) : W p l e R s m args below meth c H locs cells slots Q (F0 m pc ls (.int x :: .int i :: .ref a :: rest)) := by
  obtain ⟨hx, hb, -, hown, hts, hK, -⟩ := C0
  obtain ⟨ws, j, hP, hD, hj, back, -⟩ := hh.at ha
  exact va_iast hx hb hK hP hD hS j t hj (h_ty_at ht) hi hdg (fun H1 locs1 hP1 hD1 hS1 => kk H1 locs1 (back H1 (eT t n _) hP1 hD1) hS1)
theorem h_zast (C0 : Cw κ cl tl TB p s m args meth c cc nL own ret) (hh : hp κ cl h H) (hS : va_S (h_A κ) s.heap H locs) {t n : Nat} {f : Nat → Int32} {i x : Int32} (ha : rd h a = some (eT t n f)) (hi : vp_in i n) (ht : tl[t]? = some .boolean) (hx1 : vp_nar .boolean x = x) (hdg : decode cc pc = .ok (.bastore, 1))
    (kk : ∀ (H1 : Heap) (locs1 : List Loc), hp κ cl (h_up h a (eT t n (upd f i.toNatClampNeg x))) H1 → va_S (h_A κ) s.heap H1 locs1 → W p l e R s m args below meth c H1 locs1 cells slots Q (F0 m (pc + 1) ls rest)) : W p l e R s m args below meth c H locs cells slots Q (F0 m pc ls (.int x :: .int i :: .ref a :: rest)) := by
  obtain ⟨hx, hb, -, hown, hts, hK, -⟩ := C0
  obtain ⟨ws, j, hP, hD, hj, back, -⟩ := hh.at ha
  exact va_zast hx hb hK hP hD hS j t hj (h_ty_at ht) hi hdg (fun H1 locs1 hP1 hD1 hS1 => by rw [hx1] at hP1 hD1; exact kk H1 locs1 (back H1 (eT t n _) hP1 hD1) hS1)
theorem h_last (C0 : Cw κ cl tl TB p s m args meth c cc nL own ret) (hh : hp κ cl h H) (hS : va_S (h_A κ) s.heap H locs) {t n : Nat} {f : Nat → Int64} {i : Int32} {x : Int64} (ha : rd h a = some (eJ t n f)) (hi : vp_in i n) (ht : tl[t]? = some .long) (hdg : decode cc pc = .ok (.lastore, 1))
    (kk : ∀ (H1 : Heap) (locs1 : List Loc), hp κ cl (h_up h a (eJ t n (vp_updL f i.toNatClampNeg x))) H1 → va_S (h_A κ) s.heap H1 locs1 → W p l e R s m args below meth c H1 locs1 cells slots Q (F0 m (pc + 1) ls rest)) : W p l e R s m args below meth c H locs cells slots Q (F0 m pc ls (.long x :: .int i :: .ref a :: rest)) := by
  obtain ⟨hx, hb, -, hown, hts, hK, -⟩ := C0
  obtain ⟨ws, j, hP, hD, hj, back, -⟩ := hh.at ha
  exact va_last hx hb hK hP hD hS j t hj (h_ty_at ht) hi hdg (fun H1 locs1 hP1 hD1 hS1 => kk H1 locs1 (back H1 (eJ t n _) hP1 hD1) hS1)
theorem h_new (C0 : Cw κ cl tl TB p s m args meth c cc nL own ret) (hh : hp κ cl h H) (hS : va_S (h_A κ) s.heap H locs) {C : String} {T : u_T} {N ci index : Nat} {fs : List Value} (hc : cl[ci]? = some (C, T, N)) (hin : ∀ w ∈ u_ws C T N, w ∈ TB) (ty0 : Nat → FieldType) (hty : ∀ k, k < N → parseFieldDescriptor (T k).2.2.1 = some (ty0 k)) (hcl : Cond.classLink own index C ∈ TB) (hinst : Cond.instantiable C N ∈ TB) (hini : Cond.initialized C ∈ TB) (hfs : ∀ j, j < N → defaultValue (ty0 j) = vp_V fs j) (hcells : cells + 1 ≤ R.cells) (hslots : slots + N ≤ R.slots) (hdg : decode cc pc = .ok (.new index, 3))
    (kk : ∀ (q : Nat) (H1 : Heap), rd h q = none → h_z κ ≤ q → hp κ cl (h_up h q (eO ci fs)) H1 → va_S (h_A κ) s.heap H1 locs → W p l e R s m args below meth c H1 locs (cells + 1) (slots + N) Q (F0 m (pc + 3) ls (.ref q :: rest))) : W p l e R s m args below meth c H locs cells slots Q (F0 m pc ls rest) := by
  obtain ⟨hx, hb, -, hown, hts, hK, hF0, -⟩ := C0
  obtain ⟨ws, hP, hD, hl, he⟩ := hh
  exact va_new hx hb hts hin ty0 hty hown (hts _ hcl) (hts _ hinst) (hts _ hini) hK hP hD hS (fun q hq => Nat.le_trans hF0.1 hq) hc hfs hcells hslots hdg (fun q H1 hP1 hD1 hS1 => by
    obtain ⟨g1, g2, g3⟩ := hp.push (κ := κ) (y := eO ci fs) (H := H) he hl hP1 hD1
    exact kk q H1 g1 g2 g3 hS1)
theorem h_newa (C0 : Cw κ cl tl TB p s m args meth c cc nL own ret) (hh : hp κ cl h H) (hS : va_S (h_A κ) s.heap H locs) {atype : ArrayType} {t N' : Nat} {ty : FieldType} {y : hE} {a0 : vp_A} {n : Int32} (ht : tl[t]? = some ty) (hty : newarray.typeOf atype = ty) (hy : h_tr κ y = .inl (κ.2.1 t, a0)) (ha0 : ∀ cA : ClassId, vp_cell cA a0 = arrV cA N' (fun _ => defaultValue ty)) (hn : ¬ n < 0) (hN : n.toNatClampNeg = N') (hbytes : N' * componentBytes ty ≤ 536870912) (harr : Cond.arrayClass (newarray.typeOf atype) ∈ TB) (hcells : cells + 1 ≤ R.cells) (hslots : slots + N' ≤ R.slots) (hdg : decode cc pc = .ok (.newarray atype, 2))
    (kk : ∀ (q : Nat) (H1 : Heap), rd h q = none → h_z κ ≤ q → hp κ cl (h_up h q y) H1 → va_S (h_A κ) s.heap H1 locs → W p l e R s m args below meth c H1 locs (cells + 1) (slots + N') Q (F0 m (pc + 2) ls (.ref q :: rest))) : W p l e R s m args below meth c H locs cells slots Q (F0 m pc ls (.int n :: rest)) := by
  obtain ⟨hx, hb, -, hown, hts, hK, hF0, -⟩ := C0
  obtain ⟨ws, hP, hD, hl, he⟩ := hh
  refine va_newa hx hb (hts _ harr) hty hK hP hD hS (fun q hq => Nat.le_trans hF0.1 hq) ha0 hn hN hbytes hcells hslots hdg (fun q cA H1 hK1 hP1 hD1 hS1 => ?_)
  have e1 : cA = κ.2.1 t := by
    have g1 := (hK.2 t _ (h_ty_at ht)).2
    have g2 := (hK1.2 (h_ty κ tl).length (cA, ty) (by simp)).2
    subst hty
    cases atype <;> exact Option.some.inj (Eq.trans (Eq.symm g2) g1)
  subst e1
  obtain ⟨g1, g2, g3⟩ := hp.push (κ := κ) (y := y) (H := H) he hl (by rw [hy]; exact hP1) (by rw [hy]; exact hD1)
  exact kk q H1 g1 g2 g3 hS1
theorem h_newq (C0 : Cw κ cl tl TB p s m args meth c cc nL own ret) (hh : hp κ cl h H) (hS : va_S (h_A κ) s.heap H locs) {C : String} {t index N : Nat} {n : Int32} (B : Nat) (ht : tl[t]? = some (.object C)) (hcl : Cond.classLink own index C ∈ TB) (hao : Cond.arrayOver (.object C) ∈ TB) (hn : ¬ n < 0) (hN : n.toNatClampNeg = N) (hB : N ≤ B) (hbytes : B * 4 ≤ 536870912) (hcells : cells + 1 ≤ R.cells) (hslots : slots + B ≤ R.slots) (hdg : decode cc pc = .ok (.anewarray index, 3))
    (kk : ∀ (q : Nat) (H1 : Heap), rd h q = none → h_z κ ≤ q → hp κ cl (h_up h q (eA t N (fun _ => none))) H1 → va_S (h_A κ) s.heap H1 locs → W p l e R s m args below meth c H1 locs (cells + 1) (slots + B) Q (F0 m (pc + 3) ls (.ref q :: rest))) : W p l e R s m args below meth c H locs cells slots Q (F0 m pc ls (.int n :: rest)) := by
  obtain ⟨hx, hb, -, hown, hts, hK, hF0, -⟩ := C0
  obtain ⟨ws, hP, hD, hl, he⟩ := hh
  refine va_newq hx hb hown (hts _ hcl) (hts (Cond.arrayOver (.object C)) hao) hK hP hD hS (fun q hq => Nat.le_trans hF0.1 hq) hn hN (by omega) hcells (by omega) hdg (fun q cA H1 hK1 hP1 hD1 hS1 => ?_)
  have e1 : cA = κ.2.1 t := by
    obtain ⟨-, -, -, -, -, g1⟩ := (hK.2 t _ (h_ty_at ht)).2
    obtain ⟨-, -, -, -, -, g2⟩ := (hK1.2 (h_ty κ tl).length (cA, .object C) (by simp)).2
    exact Option.some.inj (Eq.trans (Eq.symm g2) g1)
  subst e1
  obtain ⟨g1, g2, g3⟩ := hp.push (κ := κ) (y := eA t N (fun _ => none)) (H := H) he hl hP1 hD1
  exact W.widen (Nat.le_refl _) (by omega) (kk q H1 g1 g2 g3 hS1)
theorem h_recv (C0 : Cw κ cl tl TB p s m args meth c cc nL own ret) (hh : hp κ cl h H) {C : String} {T : u_T} {N ci : Nat} {fs : List Value} (ha : rd h a = some (eO ci fs)) (hc : cl[ci]? = some (C, T, N)) : ∃ cell : Cell, H[a]? = some cell ∧ cell.vm.isStatics = false ∧ s.vm.findClass C = some cell.cls := by
  obtain ⟨hx, hb, -, hown, hts, hK, -⟩ := C0
  obtain ⟨ws, j, hP, -, hj, -⟩ := hh.at ha
  exact va_recv hK hP hc hj
theorem h_cast (C0 : Cw κ cl tl TB p s m args meth c cc nL own ret) (hh : hp κ cl h H) {C : String} {T : u_T} {N ci index : Nat} {fs : List Value} (ha : rd h a = some (eO ci fs)) (hc : cl[ci]? = some (C, T, N)) (hlink : Cond.classLink own index C ∈ TB) (hdg : decode cc pc = .ok (.checkcast index, 3))
    (kk : W p l e R s m args below meth c H locs cells slots Q (F0 m (pc + 3) ls (.ref a :: rest))) : W p l e R s m args below meth c H locs cells slots Q (F0 m pc ls (.ref a :: rest)) := by
  have hr := h_recv C0 hh ha hc
  obtain ⟨hx, hb, -, hown, hts, hK, -⟩ := C0
  exact va_castS hx hb hown (hts _ hlink) (hK.1 ci _ hc).2 hr hdg kk
theorem h_aast (C0 : Cw κ cl tl TB p s m args meth c cc nL own ret) (hh : hp κ cl h H) (hS : va_S (h_A κ) s.heap H locs) {t n v ci N : Nat} {f : Nat → Option Nat} {i : Int32} {C E : String} {T : u_T} {fs : List Value} (ha : rd h a = some (eA t n f)) (hi : vp_in i n) (ht : tl[t]? = some (.object E)) (hv : rd h v = some (eO ci fs)) (hc : cl[ci]? = some (C, T, N)) (hasg : Cond.castable C E ∈ TB) (hdg : decode cc pc = .ok (.aastore, 1))
    (kk : ∀ (H1 : Heap) (locs1 : List Loc), hp κ cl (h_up h a (eA t n (va_up f i.toNatClampNeg (some v)))) H1 → va_S (h_A κ) s.heap H1 locs1 → W p l e R s m args below meth c H1 locs1 cells slots Q (F0 m (pc + 1) ls rest)) : W p l e R s m args below meth c H locs cells slots Q (F0 m pc ls (.ref v :: .int i :: .ref a :: rest)) := by
  have hr := h_recv C0 hh hv hc
  obtain ⟨hx, hb, -, hown, hts, hK, -⟩ := C0
  obtain ⟨ws, j, hP, hD, hj, back, -⟩ := hh.at ha
  exact vb_astq hx hb hK hP hD hS j t hj (h_ty_at ht) hr (vb_asgC (va_Nw.of rfl (hts _ hasg))) hi hdg (fun H1 locs1 hP1 hD1 hS1 => kk H1 locs1 (back H1 (eA t n _) hP1 hD1) hS1)
/-- the static empty array -/
theorem h_gets (C0 : Cw κ cl tl TB p s m args meth c cc nL own ret) (hh : hp κ cl h H) (hS : va_S (h_A κ) s.heap H locs) {index : Nat} (hlink : Cond.fieldLink own index "java/util/ArrayList" "DEFAULTCAPACITY_EMPTY_ELEMENTDATA" "[Ljava/lang/Object;" ∈ TB) (hdg : decode cc pc = .ok (.getstatic index, 3))
    (kk : W p l e R s m args below meth c H locs cells slots Q (F0 m (pc + 3) ls (.ref h.1 :: rest))) : W p l e R s m args below meth c H locs cells slots Q (F0 m pc ls rest) := by
  obtain ⟨hx, hb, -, hown, hts, hK, hF0, hZ0, -⟩ := C0
  obtain ⟨ws, hP, hD, hl, he⟩ := hh
  rw [he.1] at kk
  exact va_gets hx hb (va_Z.kept hZ0.1 (fun q h1 h2 => hF0.2 q (Nat.not_le.mp h2))) hS hown (hts _ hlink) (fun _ h9 => h9) hdg kk
/-- the length of a list's array: the static empty one, or one of the world -/
theorem h_alenE (C0 : Cw κ cl tl TB p s m args meth c cc nL own ret) (hh : hp κ cl h H) (hS : va_S (h_A κ) s.heap H locs) {t n : Nat} {ty : FieldType} (ha : (a = h.1 ∧ n = 0) ∨ ∃ f : Nat → Option Nat, rd h a = some (eA t n f)) (ht : tl[t]? = some ty) (hdg : decode cc pc = .ok (.arraylength, 1))
    (kk : W p l e R s m args below meth c H locs cells slots Q (F0 m (pc + 1) ls (.int (nI n) :: rest))) : W p l e R s m args below meth c H locs cells slots Q (F0 m pc ls (.ref a :: rest)) := by
  rcases ha with ⟨rfl, rfl⟩ | ⟨f, ha⟩
  · obtain ⟨hx, hb, -, hown, hts, hK, hF0, hZ0, -⟩ := C0
    obtain ⟨ws, hP, hD, hl, he⟩ := hh
    obtain ⟨cell, g1, g2, g3, g4, g5, g6, g7⟩ := hZ0.2.1
    have hF1 := hF0.go hS
    refine W.alen (cell := cell) (ty := .object "java/lang/Object") (n := nI 0) hx hb ?_ g2 g5 rfl rfl hdg kk
    rw [he.1, hF1.2 _ (Nat.not_le.mp g7)]
    exact g1
  · exact h_alenA C0 hh ha ht hdg kk
/-- System.arraycopy between lists' arrays -/
theorem h_copyq (C0 : Cw κ cl tl TB p s m args meth c cc nL own ret) (hh : hp κ cl h H) (hS : va_S (h_A κ) s.heap H locs) (hls : ls.size = nL) {index a0 t n0 n1 ci N : Nat} {f g : Nat → Option Nat} {sp dp n : Int32} {E C : String} {T : u_T} (hlink : Cond.methodLink own index arraycopyName ∈ TB) (hnat : Cond.native arraycopyName ∈ TB) (hstat : Cond.static arraycopyName ∈ TB) (hini : Cond.initialized "java/lang/System" ∈ TB) (ha0 : rd h a0 = some (eA t n0 f)) (ha1 : rd h a = some (eA t n1 g)) (ht : tl[t]? = some (.object E)) (h1 : ¬ sp < 0) (h2 : ¬ dp < 0) (h3 : ¬ n < 0) (h4 : sp.toNatClampNeg + n.toNatClampNeg ≤ n0) (h5 : dp.toNatClampNeg + n.toNatClampNeg ≤ n1) (hc : cl[ci]? = some (C, T, N)) (hel : ∀ i : Nat, i < n.toNatClampNeg → ∀ y : Nat, f (sp.toNatClampNeg + i) = some y → ∃ fs : List Value, rd h y = some (eO ci fs)) (hasg : Cond.castable C E ∈ TB) (hframes : 1 ≤ R.frames) (hlocals : (rest.map fun v => v.category).sum + (nativeFrameWords "java/lang/System" "arraycopy" 5 + 11) ≤ R.locals) (hdg : decode cc pc = .ok (.invokestatic index, 3))
    (kk : ∀ (H1 : Heap) (locs1 : List Loc), hp κ cl (h_up h a (eA t n1 (va_cpy f g sp.toNatClampNeg dp.toNatClampNeg n.toNatClampNeg))) H1 → va_S (h_A κ) s.heap H1 locs1 → W p l e R s m args below meth c H1 locs1 cells slots Q (F0 m (pc + 3) ls rest)) : W p l e R s m args below meth c H locs cells slots Q (F0 m pc ls (.int n :: .int dp :: .ref a :: .int sp :: .ref a0 :: rest)) := by
  have hr : ∀ i : Nat, i < n.toNatClampNeg → ∀ y : Nat, f (sp.toNatClampNeg + i) = some y → ∃ cellV : Cell, H[y]? = some cellV ∧ cellV.vm.isStatics = false ∧ s.vm.findClass C = some cellV.cls := fun i hi y hy => by
    obtain ⟨fs, hfs⟩ := hel i hi y hy
    exact h_recv C0 hh hfs hc
  obtain ⟨hx, hb, hml, hown, hts, hK, -⟩ := C0
  obtain ⟨ws, j, hP, hD, hj, back, hl⟩ := hh.at ha1
  obtain ⟨j0, hj0⟩ := hl a0 _ ha0
  exact va_copyq hx hb (hml.trans hls.symm) hown (hts _ hlink) (hts _ hnat) (hts _ hstat) (hts _ hini) hK hP hD hS j0 j t t hj0 hj (h_ty_at ht) (h_ty_at ht) h1 h2 h3 h4 h5 hr (vb_asgC (va_Nw.of rfl (hts _ hasg))) hframes hlocals hdg (fun H1 locs1 hP1 hD1 hS1 => kk H1 locs1 (back H1 (eA t n1 _) hP1 hD1) hS1)
/-- getClass() of a list's array; the class constant -/
theorem h_getC (C0 : Cw κ cl tl TB p s m args meth c cc nL own ret) (hh : hp κ cl h H) (hls : ls.size = nL) {index t n : Nat} {f : Nat → Option Nat} (ha : rd h a = some (eA t n f)) (ht : tl[t]? = some (.object "java/lang/Object")) (hlink : Cond.methodLink own index ⟨"java/lang/Object", "getClass", "()Ljava/lang/Class;"⟩ ∈ TB) (hdecl : Cond.declares ⟨"java/lang/Object", "getClass", "()Ljava/lang/Class;"⟩ ∈ TB) (hsel : Cond.selects "[Ljava/lang/Object;" ⟨"java/lang/Object", "getClass", "()Ljava/lang/Class;"⟩ ⟨"java/lang/Object", "getClass", "()Ljava/lang/Class;"⟩ ∈ TB) (hinst : Cond.instanceMethod ⟨"java/lang/Object", "getClass", "()Ljava/lang/Class;"⟩ ∈ TB) (hnat : Cond.native ⟨"java/lang/Object", "getClass", "()Ljava/lang/Class;"⟩ ∈ TB) (hframes : 1 ≤ R.frames) (hlocals : (rest.map fun v => v.category).sum + 14 ≤ R.locals) (hdg : decode cc pc = .ok (.invokevirtual index, 3))
    (kk : W p l e R s m args below meth c H locs cells slots Q (F0 m (pc + 3) ls (.ref h.2.1 :: rest))) : W p l e R s m args below meth c H locs cells slots Q (F0 m pc ls (.ref a :: rest)) := by
  obtain ⟨hx, hb, hml, hown, hts, hK, hF0, hZ0, -⟩ := C0
  obtain ⟨ws, j, hP, hD, hj, -, -⟩ := hh.at ha
  obtain ⟨-, -, -, -, he⟩ := hh
  rw [he.2] at kk
  have hN : s.vm.findClass "[Ljava/lang/Object;" = some (κ.2.1 t) := va_nmO (hK.2 t _ (h_ty_at ht)).2 (by decide)
  exact va_getC hx hb (hml.trans hls.symm) hown (hts _ hlink) (hts _ hdecl) (hts _ hsel) (hts _ hinst) (hts _ hnat) hZ0.2.2 ⟨_, hP j _ hj, rfl, hN⟩ hframes hlocals hdg kk
theorem h_ldcM (C0 : Cw κ cl tl TB p s m args meth c cc nL own ret) (hh : hp κ cl h H) {index : Nat} (hlink : Cond.classLink own index "[Ljava/lang/Object;" ∈ TB) (hdg : decode cc pc = .ok (.ldc index, 2))
    (kk : W p l e R s m args below meth c H locs cells slots Q (F0 m (pc + 2) ls (.ref h.2.1 :: rest))) : W p l e R s m args below meth c H locs cells slots Q (F0 m pc ls rest) := by
  obtain ⟨hx, hb, hml, hown, hts, hK, hF0, hZ0, -⟩ := C0
  obtain ⟨-, -, -, -, he⟩ := hh
  rw [he.2] at kk
  exact va_ldcM hx hb hown (hts _ hlink) hZ0.2.2 hdg kk
theorem h_topO {o : Option Nat} (k : ∀ y : Option Nat, y = o → W p l e R s m args below meth c H locs cells slots Q (F0 m pc ls (va_rf y :: rest))) : W p l e R s m args below meth c H locs cells slots Q (F0 m pc ls (va_rf o :: rest)) := k o rfl
theorem h_aload_nO (hexec : p.tables.exec = Jvm.exec) (hb : c.code = cc) {k : Fin 4} {i : Nat} {o : Option Nat} (hdg : decode cc pc = .ok (.aload_n k, 1)) (hi : (k : Nat) = i) (hl : ls[i]? = some (.val (va_rf o)))
    (kk : W p l e R s m args below meth c H locs cells slots Q (F0 m (pc + 1) ls (va_rf o :: rest))) : W p l e R s m args below meth c H locs cells slots Q (F0 m pc ls rest) := by
  cases o with
  | none => exact lv_aload_nN hexec hb hdg hi hl kk
  | some a => exact lv_aload_n hexec hb hdg hi hl kk
theorem h_aloadO (hexec : p.tables.exec = Jvm.exec) (hb : c.code = cc) {i : Nat} {o : Option Nat} (hdg : decode cc pc = .ok (.aload i, 2)) (hl : ls[i]? = some (.val (va_rf o)))
    (kk : W p l e R s m args below meth c H locs cells slots Q (F0 m (pc + 2) ls (va_rf o :: rest))) : W p l e R s m args below meth c H locs cells slots Q (F0 m pc ls rest) := by
  cases o with
  | none => exact lv_aloadN hexec hb hdg hl kk
  | some a => exact lv_aload hexec hb hdg hl kk
theorem h_astore_nO (hexec : p.tables.exec = Jvm.exec) (hb : c.code = cc) {k : Fin 4} {i nL : Nat} {o : Option Nat} {lv lv' : List (Nat × Value)} (hdg : decode cc pc = .ok (.astore_n k, 1)) (hi : (k : Nat) = i) (h : lv_has ls nL lv) (hn : i < nL) (hl : (i, va_rf o) :: lv.filter (fun q => !(q.1 == i) && !(q.1 + 1 == i && q.2.category == 2)) = lv')
    (kk : ∀ ls' : Array Slot, lv_has ls' nL lv' → W p l e R s m args below meth c H locs cells slots Q (F0 m (pc + 1) ls' rest)) : W p l e R s m args below meth c H locs cells slots Q (F0 m pc ls (va_rf o :: rest)) := by
  cases o with
  | none => exact lv_astore_nN hexec hb hdg hi h hn hl kk
  | some a => exact lv_astore_n hexec hb hdg hi h hn hl kk
theorem h_astoreO (hexec : p.tables.exec = Jvm.exec) (hb : c.code = cc) {i nL : Nat} {o : Option Nat} {lv lv' : List (Nat × Value)} (hdg : decode cc pc = .ok (.astore i, 2)) (h : lv_has ls nL lv) (hn : i < nL) (hl : (i, va_rf o) :: lv.filter (fun q => !(q.1 == i) && !(q.1 + 1 == i && q.2.category == 2)) = lv')
    (kk : ∀ ls' : Array Slot, lv_has ls' nL lv' → W p l e R s m args below meth c H locs cells slots Q (F0 m (pc + 2) ls' rest)) : W p l e R s m args below meth c H locs cells slots Q (F0 m pc ls (va_rf o :: rest)) := by
  cases o with
  | none => exact lv_astoreN hexec hb hdg h hn hl kk
  | some a => exact lv_astore hexec hb hdg h hn hl kk
end HL
theorem h_nz {x : Int32} (h : x = 0 ∨ x = 1) : narrow .boolean (.int x) = .int x := by rcases h with rfl | rfl <;> rfl
theorem h_fz {x : Int32} (h : x = 0 ∨ x = 1) : fits .boolean (.int x) = true := by rcases h with rfl | rfl <;> rfl
theorem h_vz {x : Int32} (h : x = 0 ∨ x = 1) : vp_nar .boolean x = x := by rcases h with rfl | rfl <;> rfl
theorem h_nO (t : FieldType) (o : Option Nat) : narrow (.array t) (va_rf o) = va_rf o := by cases o <;> rfl
theorem h_fO (t : FieldType) (o : Option Nat) : fits (.array t) (va_rf o) = true := by cases o <;> rfl
/-! calls, beginnings and ends of methods over maps -/
def TBm (TB : List Cond) : Prop := ∀ w ∈ TB, ∀ (A A' : Array Value) (u U : State), u.WarmedH U.vm → w.before A u = true → w.before A' U = true
def hQ (κ : hX) (cl : List vw_C) (Qp : Option Value → hM → Prop) : Array Value → State → Outcome → State → Prop := fun _ st oc t => (∃ (r : Option Value) (u : hM), oc = .returned r ∧ Qp r u ∧ hp κ cl u t.heap) ∧ va_F (h_A κ) st t
def hPc (κ : hX) (cl : List vw_C) (tl : List FieldType) (TB : List Cond) (av : List Value) (h : hM) : Array Value → State → Prop := va_Pc av (fun U => hp κ cl h U.heap ∧ (∀ w ∈ TB, w.before #[] U = true) ∧ va_K κ.1 cl (h_ty κ tl) U ∧ hF κ U.heap ∧ hZ κ U)
theorem hPc.blind {κ : hX} {cl : List vw_C} {tl : List FieldType} {TB : List Cond} (hT : TBm TB) {av : List Value} {h : hM} : FrameBlind (hPc κ cl tl TB av h) := by
  intro a U g mk q
  obtain ⟨q0, q1, q2, q3, q4, q5⟩ := q
  exact ⟨q0, q1, fun w hw => hT w hw #[] #[] U (U.calling g mk a) (State.WarmedH.refl U) (q2 w hw), va_K.moved (u := U) (U := U.calling g mk a) (Vm.Alike.refl U.vm) q3, q4, hZ.moved (u := U) (U := U.calling g mk a) (Vm.Alike.refl U.vm) q5⟩
section HC
variable {p : Program} {l : Launch} {e : Env} {R : Room} {s : State} {m : MethodId} {args : Array Value} {below : List Frame} {meth : Method} {c : Code} {H : Heap} {locs : List Loc} {cells slots : Nat} {Q : State → Prop}
variable {cc : ByteArray} {pc nL : Nat} {ls : Array Slot} {rest : List Value} {κ : hX} {cl : List vw_C} {tl : List FieldType} {TB : List Cond} {own : String} {ret : Option FieldType} {h : hM} {a : Nat}
/-- the callee's start, out of the caller's walk -/
theorem h_pre (C0 : Cw κ cl tl TB p s m args meth c cc nL own ret) (hT : TBm TB) (hh : hp κ cl h H) (hS : va_S (h_A κ) s.heap H locs) {av : List Value} (U : State) (hU : U.heap = H) (hW : s.WarmedH U.vm) : hPc κ cl tl TB av h av.toArray U := by
  obtain ⟨hx, hb, -, hown, hts, hK, hF0, hZ0, -⟩ := C0
  exact ⟨rfl, by rw [hU]; exact hh, fun w hw => hT w hw args #[] s U hW (hts w hw), va_K.moved hW.alike hK, by rw [hU]; exact hF0.go hS, hZ0.moved hW.alike⟩
/-- behind a call -/
theorem h_back {Qp : Option Value → hM → Prop} {st0 : List Value} {av : Array Value} {mc ms : Nat} (hr : va_Run p l e R s m args below meth c H locs cells slots mc ms (F0 m pc ls st0) rest (hQ κ cl Qp av) (h_A κ)) (hS : va_S (h_A κ) s.heap H locs)
    (kk : ∀ (r : Option Value) (u : hM) (H1 : Heap) (locs1 : List Loc), Qp r u → hp κ cl u H1 → va_S (h_A κ) s.heap H1 locs1 → W p l e R s m args below meth c H1 locs1 (cells + mc) (slots + ms) Q (F0 m (pc + 3) ls (r.toList ++ rest))) : W p l e R s m args below meth c H locs cells slots Q (F0 m pc ls st0) := by
  intro T hT X
  obtain ⟨v, st₀, t, T', L, h0, X', hL, e1, e2, ⟨⟨r, u, hv, hp1, hb⟩, hz, hk⟩, st⟩ := hr T hT X
  cases hv
  rw [h0] at hz hk
  obtain ⟨t2, a1, b1⟩ := kk v u T'.heap (locs ++ L) hp1 (by rw [e1]; exact hb)
    ⟨Nat.le_trans hS.1 (by rw [e1]; exact hz), fun q h1 h2 => by rw [e1, hk q (Nat.lt_of_lt_of_le h1 hS.1) h2]; exact hS.2.1 q h1 h2, fun q hq => by
      rcases List.mem_append.mp hq with h | h
      · exact hS.2.2 q h
      · exact hL q h⟩ T' rfl X'
  exact ⟨t2, st t2 a1, b1⟩
theorem h_cb (C0 : Cw κ cl tl TB p s m args meth c cc nL own ret) (hT : TBm TB) {index : Nat} {y : MethodName} {bytes : ByteArray} {maxL : Nat} {ret1 : Option FieldType} {rm : Room} {n : Nat} (m1 : Cond.methodLink own index y ∈ TB) (m4 : Cond.initialized y.cls ∈ TB) (m5 : Cond.code y bytes maxL ret1 ∈ TB)
    (hd : y.cls ≠ "java/lang/invoke/MethodHandle" ∧ y.cls ≠ "java/lang/invoke/VarHandle" ∧ (parseMethodDescriptor y.desc).map (fun d => d.parameters.length) = some n) (hR : rm.frames + 1 ≤ R.frames ∧ 8 + (maxL + 11) + rm.locals ≤ R.locals) : CallB R s args own index y bytes maxL ret1 [Cond.code y bytes maxL ret1] rm rm.cells rm.slots n := by
  obtain ⟨hx, hb, -, hown, hts, hK, hF0, -⟩ := C0
  refine ⟨rfl, rfl, hR.1, hR.2, fun w hw a' U hW => ?_, List.mem_cons_self, hts _ m5, hts _ m4, ⟨hd.1, hd.2.1⟩, fun sig h => ?_, hts _ m1⟩
  · rw [List.mem_singleton.mp hw]
    exact hT _ m5 args a' s U hW (hts _ m5)
  · have h2 := hd.2.2
    rw [h] at h2
    exact (Option.some.inj h2).symm
/-- a virtual call of the receiver's own method -/
theorem h_callV (C0 : Cw κ cl tl TB p s m args meth c cc nL own ret) (hT : TBm TB) (hh : hp κ cl h H) (hS : va_S (h_A κ) s.heap H locs) (hl : ls.size = nL) {C : String} {T : u_T} {N ci index b n : Nat} {fs : List Value} {y : MethodName} {bytes : ByteArray} {maxL : Nat} {ret1 : Option FieldType} {rm : Room} (As : List Value) (rest : List Value) {st0 : List Value} {Qp : Option Value → hM → Prop}
    (hMt : Met l y [Cond.code y bytes maxL ret1] rm (hPc κ cl tl TB (.ref b :: As) h) (hQ κ cl Qp) rm.cells rm.slots (h_A κ)) (hb : rd h b = some (eO ci fs)) (hc : cl[ci]? = some (C, T, N)) (m1 : Cond.methodLink own index y ∈ TB) (m2 : Cond.instanceMethod y ∈ TB) (m3 : Cond.selects C y y ∈ TB) (m4 : Cond.initialized y.cls ∈ TB) (m5 : Cond.code y bytes maxL ret1 ∈ TB)
    (hd : y.cls ≠ "java/lang/invoke/MethodHandle" ∧ y.cls ≠ "java/lang/invoke/VarHandle" ∧ (parseMethodDescriptor y.desc).map (fun d => d.parameters.length) = some n) (hn : As.length = n) (hst : st0 = As.reverse ++ .ref b :: rest) (hroom : (rest.map fun v => v.category).sum ≤ 8) (hR : rm.frames + 1 ≤ R.frames ∧ 8 + (maxL + 11) + rm.locals ≤ R.locals) (hf : cells + rm.cells ≤ R.cells ∧ slots + rm.slots ≤ R.slots) (hdg : decode cc pc = .ok (.invokevirtual index, 3))
    (kk : ∀ (r : Option Value) (u : hM) (H1 : Heap) (locs1 : List Loc), Qp r u → hp κ cl u H1 → va_S (h_A κ) s.heap H1 locs1 → W p l e R s m args below meth c H1 locs1 (cells + rm.cells) (slots + rm.slots) Q (F0 m (pc + 3) ls (r.toList ++ rest))) : W p l e R s m args below meth c H locs cells slots Q (F0 m pc ls st0) := by
  have hcb := h_cb (n := n) (rm := rm) (R := R) C0 hT m1 m4 m5 hd hR
  have hpre := fun U hU hW => h_pre (av := .ref b :: As) C0 hT hh hS U hU hW
  obtain ⟨ws, j, hP, -, hj, -⟩ := hh.at hb
  obtain ⟨hx, hbc, hml, hown, hts, hK, hF0, -⟩ := C0
  exact h_back (va_runV (As := As) (rest := rest) ⟨hx, hbc, hml, hown, hts⟩ hMt ⟨hcb, hts _ m2, hts _ m3⟩ ⟨hPc.blind hT, va_recv hK hP hc hj, hpre⟩ rfl hn hl hst (lv_room hroom) hdg hf) hS kk
theorem h_callS (C0 : Cw κ cl tl TB p s m args meth c cc nL own ret) (hT : TBm TB) (hh : hp κ cl h H) (hS : va_S (h_A κ) s.heap H locs) (hl : ls.size = nL) {index n : Nat} {y : MethodName} {bytes : ByteArray} {maxL : Nat} {ret1 : Option FieldType} {rm : Room} (As : List Value) (rest : List Value) {st0 : List Value} {Qp : Option Value → hM → Prop}
    (hMt : Met l y [Cond.code y bytes maxL ret1] rm (hPc κ cl tl TB As h) (hQ κ cl Qp) rm.cells rm.slots (h_A κ)) (m1 : Cond.methodLink own index y ∈ TB) (m2 : Cond.static y ∈ TB) (m4 : Cond.initialized y.cls ∈ TB) (m5 : Cond.code y bytes maxL ret1 ∈ TB)
    (hd : y.cls ≠ "java/lang/invoke/MethodHandle" ∧ y.cls ≠ "java/lang/invoke/VarHandle" ∧ (parseMethodDescriptor y.desc).map (fun d => d.parameters.length) = some n) (hn : As.length = n) (hst : st0 = As.reverse ++ rest) (hroom : (rest.map fun v => v.category).sum ≤ 8) (hR : rm.frames + 1 ≤ R.frames ∧ 8 + (maxL + 11) + rm.locals ≤ R.locals) (hf : cells + rm.cells ≤ R.cells ∧ slots + rm.slots ≤ R.slots) (hdg : decode cc pc = .ok (.invokestatic index, 3))
    (kk : ∀ (r : Option Value) (u : hM) (H1 : Heap) (locs1 : List Loc), Qp r u → hp κ cl u H1 → va_S (h_A κ) s.heap H1 locs1 → W p l e R s m args below meth c H1 locs1 (cells + rm.cells) (slots + rm.slots) Q (F0 m (pc + 3) ls (r.toList ++ rest))) : W p l e R s m args below meth c H locs cells slots Q (F0 m pc ls st0) := by
  have hcb := h_cb (n := n) (rm := rm) (R := R) C0 hT m1 m4 m5 hd hR
  have hpre := fun U hU hW => h_pre (av := As) C0 hT hh hS U hU hW
  obtain ⟨hx, hbc, hml, hown, hts, hK, hF0, -⟩ := C0
  exact h_back (va_runS (As := As) (rest := rest) ⟨hx, hbc, hml, hown, hts⟩ hMt ⟨hcb, hts _ m2⟩ ⟨hPc.blind hT, hpre⟩ rfl hn hl hst (lv_room hroom) hdg hf) hS kk
theorem h_callI (C0 : Cw κ cl tl TB p s m args meth c cc nL own ret) (hT : TBm TB) (hh : hp κ cl h H) (hS : va_S (h_A κ) s.heap H locs) (hl : ls.size = nL) {index b n : Nat} {y : MethodName} {bytes : ByteArray} {maxL : Nat} {rm : Room} (As : List Value) (rest : List Value) {st0 : List Value} {Qp : Option Value → hM → Prop}
    (hMt : Met l y [Cond.code y bytes maxL none] rm (hPc κ cl tl TB (.ref b :: As) h) (hQ κ cl Qp) rm.cells rm.slots (h_A κ)) (m1 : Cond.methodLink own index y ∈ TB) (m2 : Cond.instanceMethod y ∈ TB) (hy : y.name = "<init>") (m4 : Cond.initialized y.cls ∈ TB) (m5 : Cond.code y bytes maxL none ∈ TB)
    (hd : y.cls ≠ "java/lang/invoke/MethodHandle" ∧ y.cls ≠ "java/lang/invoke/VarHandle" ∧ (parseMethodDescriptor y.desc).map (fun d => d.parameters.length) = some n) (hn : As.length = n) (hst : st0 = As.reverse ++ .ref b :: rest) (hroom : (rest.map fun v => v.category).sum ≤ 8) (hR : rm.frames + 1 ≤ R.frames ∧ 8 + (maxL + 11) + rm.locals ≤ R.locals) (hf : cells + rm.cells ≤ R.cells ∧ slots + rm.slots ≤ R.slots) (hdg : decode cc pc = .ok (.invokespecial index, 3))
    (kk : ∀ (r : Option Value) (u : hM) (H1 : Heap) (locs1 : List Loc), Qp r u → hp κ cl u H1 → va_S (h_A κ) s.heap H1 locs1 → W p l e R s m args below meth c H1 locs1 (cells + rm.cells) (slots + rm.slots) Q (F0 m (pc + 3) ls (r.toList ++ rest))) : W p l e R s m args below meth c H locs cells slots Q (F0 m pc ls st0) := by
  have hcb := h_cb (n := n) (rm := rm) (R := R) C0 hT m1 m4 m5 hd hR
  have hpre := fun U hU hW => h_pre (av := .ref b :: As) C0 hT hh hS U hU hW
  obtain ⟨hx, hbc, hml, hown, hts, hK, hF0, -⟩ := C0
  exact h_back (va_runI (As := As) (rest := rest) ⟨hx, hbc, hml, hown, hts⟩ hMt ⟨hcb, hy, hts _ m2⟩ ⟨hPc.blind hT, hpre⟩ rfl hn hl hst (lv_room hroom) hdg hf) hS kk
/-- a method's beginning -/
theorem h_enter (hT : TBm TB) {y : MethodName} {maxL : Nat} {rm : Room} {mc ms : Nat} {av : List Value} {Qp : Option Value → hM → Prop} (hy : plainName y.cls = true) (hlen : (lg_sl av).length ≤ maxL)
    (body : ∀ (p : Program) (e : Env) (s : State) (m : MethodId) (args : Array Value) (below : List Frame) (meth : Method) (c : Code), Cw κ cl tl TB p s m args meth c cc maxL y.cls ret → meth.name = y.name → hp κ cl h s.heap → va_S (h_A κ) s.heap s.heap [] → ∀ ls : Array Slot, lv_has ls maxL (lv_args 0 av) → W p l e rm s m args below meth c s.heap [] 0 0 (MQ below (hQ κ cl Qp) args s mc ms (h_A κ)) (F0 m 0 ls [])) :
    Met l y [Cond.code y cc maxL ret] rm (hPc κ cl tl TB av h) (hQ κ cl Qp) mc ms (h_A κ) := by
  refine Met.ofW (cc := cc) (maxL := maxL) (ret := ret) hy rfl ?_
  intro p e s m args below meth c s₁ B hml hv
  obtain ⟨rfl, hh, hw, hK, hF0, hZ0⟩ := hv
  have hown : s.vm.findClass y.cls = some m.cls := findClass_of_methodNamed B.named
  have hnm : meth.name = y.name := (name_of_methodNamed B.named B.method).1
  rw [lg_entry_eq]
  exact body p e s m _ below meth c ⟨B.exec, B.bytes, hml, hown, fun w hw1 => hT w hw1 #[] _ s s (State.WarmedH.refl s) (hw w hw1), hK, hF0, hZ0, B.returns, B.notSynchronized⟩ hnm hh va_S.rf _ (lv_entry av hlen)
theorem h_iret (C0 : Cw κ cl tl TB p s m args meth c cc nL own ret) (hh : hp κ cl h H) (hS : va_S (h_A κ) s.heap H locs) {Qp : Option Value → hM → Prop} {v : Int32} {ty : FieldType} (hr : ret = some ty) (hn : narrow ty (.int v) = .int v) (hq : Qp (some (.int v)) h) (hdg : decode cc pc = .ok (.ireturn, 1)) : W p l e R s m args below meth c H locs cells slots (MQ below (hQ κ cl Qp) args s cells slots (h_A κ)) (F0 m pc ls [.int v]) := by
  obtain ⟨hx, hb, -, -, -, -, -, -, hret, hlocks⟩ := C0
  subst hr
  exact W.zret hx hb hret hn (fun t ht hW => ⟨⟨_, h, rfl, hq, by rw [ht]; exact hh⟩, hS.F ht⟩) hS.2.2 hdg hlocks
theorem h_lret (C0 : Cw κ cl tl TB p s m args meth c cc nL own ret) (hh : hp κ cl h H) (hS : va_S (h_A κ) s.heap H locs) {Qp : Option Value → hM → Prop} {v : Int64} (hr : ret = some .long) (hq : Qp (some (.long v)) h) (hdg : decode cc pc = .ok (.lreturn, 1)) : W p l e R s m args below meth c H locs cells slots (MQ below (hQ κ cl Qp) args s cells slots (h_A κ)) (F0 m pc ls [.long v]) := by
  obtain ⟨hx, hb, -, -, -, -, -, -, hret, hlocks⟩ := C0
  subst hr
  exact W.lret hx hb hret (fun t ht hW => ⟨⟨_, h, rfl, hq, by rw [ht]; exact hh⟩, hS.F ht⟩) hS.2.2 hdg hlocks
theorem h_vret (C0 : Cw κ cl tl TB p s m args meth c cc nL own ret) (hh : hp κ cl h H) (hS : va_S (h_A κ) s.heap H locs) {Qp : Option Value → hM → Prop} (hr : ret = none) (hq : Qp none h) (hdg : decode cc pc = .ok (.return_, 1)) : W p l e R s m args below meth c H locs cells slots (MQ below (hQ κ cl Qp) args s cells slots (h_A κ)) (F0 m pc ls []) := by
  obtain ⟨hx, hb, -, -, -, -, -, -, hret, hlocks⟩ := C0
  subst hr
  exact W.vret hx hb hret (fun t ht hW => ⟨⟨_, h, rfl, hq, by rw [ht]; exact hh⟩, hS.F ht⟩) hS.2.2 hdg hlocks
theorem h_aret (C0 : Cw κ cl tl TB p s m args meth c cc nL own ret) (hh : hp κ cl h H) (hS : va_S (h_A κ) s.heap H locs) {Qp : Option Value → hM → Prop} {o : Option Nat} {rt : FieldType} (hr : ret = some rt) (hrt : (∃ n, rt = .object n) ∨ ∃ t, rt = .array t) (hq : Qp (some (va_rf o)) h) (hdg : decode cc pc = .ok (.areturn, 1)) : W p l e R s m args below meth c H locs cells slots (MQ below (hQ κ cl Qp) args s cells slots (h_A κ)) (F0 m pc ls [va_rf o]) := by
  obtain ⟨hx, hb, -, -, -, -, -, -, hret, hlocks⟩ := C0
  subst hr
  exact W.aret hx hb hret hrt (va_rf_or o) (fun t ht hW => ⟨⟨_, h, rfl, hq, by rw [ht]; exact hh⟩, hS.F ht⟩) hS.2.2 hdg hlocks
end HC
/-- a result of a kind -/
def qI (Q : Int32 → hM → Prop) : Option Value → hM → Prop := fun r u => ∃ x : Int32, r = some (.int x) ∧ Q x u
def qJ (Q : Int64 → hM → Prop) : Option Value → hM → Prop := fun r u => ∃ x : Int64, r = some (.long x) ∧ Q x u
def qO (Q : Option Nat → hM → Prop) : Option Value → hM → Prop := fun r u => ∃ x : Option Nat, r = some (va_rf x) ∧ Q x u
def qV (Q : hM → Prop) : Option Value → hM → Prop := fun r u => r = none ∧ Q u
section HK
variable {p : Program} {l : Launch} {e : Env} {R : Room} {s : State} {m : MethodId} {args : Array Value} {below : List Frame} {meth : Method} {c : Code} {c0 s0 k n : Nat} {Q : State → Prop} {pc : Nat} {ls : Array Slot} {rest : List Value} {κ : hX} {cl : List vw_C}
theorem h_kI {Qp : Int32 → hM → Prop} (h1 : c0 ≤ k) (h2 : s0 ≤ n) (kk : ∀ (x : Int32) (u : hM) (H1 : Heap) (locs1 : List Loc), Qp x u → hp κ cl u H1 → va_S (h_A κ) s.heap H1 locs1 → W p l e R s m args below meth c H1 locs1 k n Q (F0 m pc ls (.int x :: rest))) :
    ∀ (r : Option Value) (u : hM) (H1 : Heap) (locs1 : List Loc), qI Qp r u → hp κ cl u H1 → va_S (h_A κ) s.heap H1 locs1 → W p l e R s m args below meth c H1 locs1 c0 s0 Q (F0 m pc ls (r.toList ++ rest)) := by
  intro r u H1 locs1 hq hh hS
  obtain ⟨x, rfl, hq⟩ := hq
  exact W.widen h1 h2 (kk x u H1 locs1 hq hh hS)
theorem h_kJ {Qp : Int64 → hM → Prop} (h1 : c0 ≤ k) (h2 : s0 ≤ n) (kk : ∀ (x : Int64) (u : hM) (H1 : Heap) (locs1 : List Loc), Qp x u → hp κ cl u H1 → va_S (h_A κ) s.heap H1 locs1 → W p l e R s m args below meth c H1 locs1 k n Q (F0 m pc ls (.long x :: rest))) :
    ∀ (r : Option Value) (u : hM) (H1 : Heap) (locs1 : List Loc), qJ Qp r u → hp κ cl u H1 → va_S (h_A κ) s.heap H1 locs1 → W p l e R s m args below meth c H1 locs1 c0 s0 Q (F0 m pc ls (r.toList ++ rest)) := by
  intro r u H1 locs1 hq hh hS
  obtain ⟨x, rfl, hq⟩ := hq
  exact W.widen h1 h2 (kk x u H1 locs1 hq hh hS)
theorem h_kO {Qp : Option Nat → hM → Prop} (h1 : c0 ≤ k) (h2 : s0 ≤ n) (kk : ∀ (x : Option Nat) (u : hM) (H1 : Heap) (locs1 : List Loc), Qp x u → hp κ cl u H1 → va_S (h_A κ) s.heap H1 locs1 → W p l e R s m args below meth c H1 locs1 k n Q (F0 m pc ls (va_rf x :: rest))) :
    ∀ (r : Option Value) (u : hM) (H1 : Heap) (locs1 : List Loc), qO Qp r u → hp κ cl u H1 → va_S (h_A κ) s.heap H1 locs1 → W p l e R s m args below meth c H1 locs1 c0 s0 Q (F0 m pc ls (r.toList ++ rest)) := by
  intro r u H1 locs1 hq hh hS
  obtain ⟨x, rfl, hq⟩ := hq
  exact W.widen h1 h2 (kk x u H1 locs1 hq hh hS)
theorem h_kV {Qp : hM → Prop} (h1 : c0 ≤ k) (h2 : s0 ≤ n) (kk : ∀ (u : hM) (H1 : Heap) (locs1 : List Loc), Qp u → hp κ cl u H1 → va_S (h_A κ) s.heap H1 locs1 → W p l e R s m args below meth c H1 locs1 k n Q (F0 m pc ls rest)) :
    ∀ (r : Option Value) (u : hM) (H1 : Heap) (locs1 : List Loc), qV Qp r u → hp κ cl u H1 → va_S (h_A κ) s.heap H1 locs1 → W p l e R s m args below meth c H1 locs1 c0 s0 Q (F0 m pc ls (r.toList ++ rest)) := by
  intro r u H1 locs1 hq hh hS
  obtain ⟨rfl, hq⟩ := hq
  exact W.widen h1 h2 (kk u H1 locs1 hq hh hS)
end HK
end
section
-- ===== PART A: goes FIRST, ahead of the names: the tables' words, and 'selects' of the private methods out of them =====
/-- a private method of a class that the tables say can be made, by its rows of tables_1 -/
def lw_okq (q : MethodName × Nat) : Prop := (q.1.cls ≠ "java/lang/invoke/MethodHandle" ∧ q.1.cls ≠ "java/lang/invoke/VarHandle") ∧ Cond.instantiable q.1.cls q.2 ∈ tables_1 ∧ Cond.privateMethod q.1 ∈ tables_1 ∧ Cond.instanceMethod q.1 ∈ tables_1
theorem lw_p0 : lw_okq (⟨"java/util/ArrayList", "add", "(Ljava/lang/Object;[Ljava/lang/Object;I)V"⟩, 3) := ⟨⟨by decide +kernel, by decide +kernel⟩, List.mem_of_getElem? (i := 29) (by decide +kernel), List.mem_of_getElem? (i := 166) (by decide +kernel), List.mem_of_getElem? (i := 167) (by decide +kernel)⟩
theorem lw_p1 : lw_okq (⟨"java/util/ArrayList", "grow", "()[Ljava/lang/Object;"⟩, 3) := ⟨⟨by decide +kernel, by decide +kernel⟩, List.mem_of_getElem? (i := 29) (by decide +kernel), List.mem_of_getElem? (i := 170) (by decide +kernel), List.mem_of_getElem? (i := 171) (by decide +kernel)⟩
theorem lw_p2 : lw_okq (⟨"java/util/ArrayList", "grow", "(I)[Ljava/lang/Object;"⟩, 3) := ⟨⟨by decide +kernel, by decide +kernel⟩, List.mem_of_getElem? (i := 29) (by decide +kernel), List.mem_of_getElem? (i := 174) (by decide +kernel), List.mem_of_getElem? (i := 175) (by decide +kernel)⟩
theorem lw_p3 : lw_okq (⟨"InitiatorRows", "findInitiator", "(I)LInitiatorRows$Initiator;"⟩, 12) := ⟨⟨by decide +kernel, by decide +kernel⟩, List.mem_of_getElem? (i := 21) (by decide +kernel), List.mem_of_getElem? (i := 221) (by decide +kernel), List.mem_of_getElem? (i := 222) (by decide +kernel)⟩
theorem lw_p4 : lw_okq (⟨"InitiatorRows", "findJob", "(I)LInitiatorRows$Job;"⟩, 12) := ⟨⟨by decide +kernel, by decide +kernel⟩, List.mem_of_getElem? (i := 21) (by decide +kernel), List.mem_of_getElem? (i := 314) (by decide +kernel), List.mem_of_getElem? (i := 315) (by decide +kernel)⟩
theorem lw_p5 : lw_okq (⟨"InitiatorRows", "addNeed", "(LInitiatorRows$Job;LInitiatorRows$Job;)V"⟩, 12) := ⟨⟨by decide +kernel, by decide +kernel⟩, List.mem_of_getElem? (i := 21) (by decide +kernel), List.mem_of_getElem? (i := 326) (by decide +kernel), List.mem_of_getElem? (i := 327) (by decide +kernel)⟩
theorem lw_p6 : lw_okq (⟨"InitiatorRows", "nextFor", "(LInitiatorRows$Initiator;)LInitiatorRows$Job;"⟩, 12) := ⟨⟨by decide +kernel, by decide +kernel⟩, List.mem_of_getElem? (i := 21) (by decide +kernel), List.mem_of_getElem? (i := 361) (by decide +kernel), List.mem_of_getElem? (i := 362) (by decide +kernel)⟩
theorem lw_p7 : lw_okq (⟨"InitiatorRows", "nextOfClass", "(I)LInitiatorRows$Job;"⟩, 12) := ⟨⟨by decide +kernel, by decide +kernel⟩, List.mem_of_getElem? (i := 21) (by decide +kernel), List.mem_of_getElem? (i := 365) (by decide +kernel), List.mem_of_getElem? (i := 366) (by decide +kernel)⟩
theorem lw_p8 : lw_okq (⟨"InitiatorRows", "mayStart", "(LInitiatorRows$Job;)Z"⟩, 12) := ⟨⟨by decide +kernel, by decide +kernel⟩, List.mem_of_getElem? (i := 21) (by decide +kernel), List.mem_of_getElem? (i := 369) (by decide +kernel), List.mem_of_getElem? (i := 370) (by decide +kernel)⟩
theorem lw_p9 : lw_okq (⟨"InitiatorRows", "isWindowOpen", "(I)Z"⟩, 12) := ⟨⟨by decide +kernel, by decide +kernel⟩, List.mem_of_getElem? (i := 21) (by decide +kernel), List.mem_of_getElem? (i := 373) (by decide +kernel), List.mem_of_getElem? (i := 374) (by decide +kernel)⟩
theorem lw_p10 : lw_okq (⟨"InitiatorRows", "areUnitsEnough", "(LInitiatorRows$Job;)Z"⟩, 12) := ⟨⟨by decide +kernel, by decide +kernel⟩, List.mem_of_getElem? (i := 21) (by decide +kernel), List.mem_of_getElem? (i := 383) (by decide +kernel), List.mem_of_getElem? (i := 384) (by decide +kernel)⟩
theorem lw_p11 : lw_okq (⟨"InitiatorRows", "priorityNow", "(LInitiatorRows$Job;)I"⟩, 12) := ⟨⟨by decide +kernel, by decide +kernel⟩, List.mem_of_getElem? (i := 21) (by decide +kernel), List.mem_of_getElem? (i := 387) (by decide +kernel), List.mem_of_getElem? (i := 388) (by decide +kernel)⟩
theorem lw_p12 : lw_okq (⟨"InitiatorRows", "startJob", "(LInitiatorRows$Initiator;LInitiatorRows$Job;)V"⟩, 12) := ⟨⟨by decide +kernel, by decide +kernel⟩, List.mem_of_getElem? (i := 21) (by decide +kernel), List.mem_of_getElem? (i := 394) (by decide +kernel), List.mem_of_getElem? (i := 395) (by decide +kernel)⟩
theorem lw_p13 : lw_okq (⟨"InitiatorRows", "stopJob", "(LInitiatorRows$Job;)V"⟩, 12) := ⟨⟨by decide +kernel, by decide +kernel⟩, List.mem_of_getElem? (i := 21) (by decide +kernel), List.mem_of_getElem? (i := 407) (by decide +kernel), List.mem_of_getElem? (i := 408) (by decide +kernel)⟩
theorem lw_p14 : lw_okq (⟨"InitiatorRows", "jobsIn", "(I)I"⟩, 12) := ⟨⟨by decide +kernel, by decide +kernel⟩, List.mem_of_getElem? (i := 21) (by decide +kernel), List.mem_of_getElem? (i := 448) (by decide +kernel), List.mem_of_getElem? (i := 449) (by decide +kernel)⟩
theorem lw_p15 : lw_okq (⟨"InitiatorRows", "drainedAndIdle", "()I"⟩, 12) := ⟨⟨by decide +kernel, by decide +kernel⟩, List.mem_of_getElem? (i := 21) (by decide +kernel), List.mem_of_getElem? (i := 452) (by decide +kernel), List.mem_of_getElem? (i := 453) (by decide +kernel)⟩
def lw_privs_1 : List (MethodName × Nat) := [(⟨"java/util/ArrayList", "add", "(Ljava/lang/Object;[Ljava/lang/Object;I)V"⟩, 3), (⟨"java/util/ArrayList", "grow", "()[Ljava/lang/Object;"⟩, 3), (⟨"java/util/ArrayList", "grow", "(I)[Ljava/lang/Object;"⟩, 3), (⟨"InitiatorRows", "findInitiator", "(I)LInitiatorRows$Initiator;"⟩, 12), (⟨"InitiatorRows", "findJob", "(I)LInitiatorRows$Job;"⟩, 12), (⟨"InitiatorRows", "addNeed", "(LInitiatorRows$Job;LInitiatorRows$Job;)V"⟩, 12), (⟨"InitiatorRows", "nextFor", "(LInitiatorRows$Initiator;)LInitiatorRows$Job;"⟩, 12), (⟨"InitiatorRows", "nextOfClass", "(I)LInitiatorRows$Job;"⟩, 12), (⟨"InitiatorRows", "mayStart", "(LInitiatorRows$Job;)Z"⟩, 12), (⟨"InitiatorRows", "isWindowOpen", "(I)Z"⟩, 12), (⟨"InitiatorRows", "areUnitsEnough", "(LInitiatorRows$Job;)Z"⟩, 12), (⟨"InitiatorRows", "priorityNow", "(LInitiatorRows$Job;)I"⟩, 12), (⟨"InitiatorRows", "startJob", "(LInitiatorRows$Initiator;LInitiatorRows$Job;)V"⟩, 12), (⟨"InitiatorRows", "stopJob", "(LInitiatorRows$Job;)V"⟩, 12), (⟨"InitiatorRows", "jobsIn", "(I)I"⟩, 12), (⟨"InitiatorRows", "drainedAndIdle", "()I"⟩, 12)]
theorem lw_r1 : ∀ q ∈ lw_privs_1, lw_okq q := List.forall_mem_cons.mpr ⟨lw_p0, List.forall_mem_cons.mpr ⟨lw_p1, List.forall_mem_cons.mpr ⟨lw_p2, List.forall_mem_cons.mpr ⟨lw_p3, List.forall_mem_cons.mpr ⟨lw_p4, List.forall_mem_cons.mpr ⟨lw_p5, List.forall_mem_cons.mpr ⟨lw_p6, List.forall_mem_cons.mpr ⟨lw_p7, List.forall_mem_cons.mpr ⟨lw_p8, List.forall_mem_cons.mpr ⟨lw_p9, List.forall_mem_cons.mpr ⟨lw_p10, List.forall_mem_cons.mpr ⟨lw_p11, List.forall_mem_cons.mpr ⟨lw_p12, List.forall_mem_cons.mpr ⟨lw_p13, List.forall_mem_cons.mpr ⟨lw_p14, List.forall_mem_cons.mpr ⟨lw_p15, fun _ h => absurd h List.not_mem_nil⟩⟩⟩⟩⟩⟩⟩⟩⟩⟩⟩⟩⟩⟩⟩⟩
theorem lw_p16 : lw_okq (⟨"InitiatorRows", "unitsInUse", "(I)I"⟩, 12) := ⟨⟨by decide +kernel, by decide +kernel⟩, List.mem_of_getElem? (i := 21) (by decide +kernel), List.mem_of_getElem? (i := 456) (by decide +kernel), List.mem_of_getElem? (i := 457) (by decide +kernel)⟩
theorem lw_p17 : lw_okq (⟨"InitiatorRows", "sumOfWeights", "()J"⟩, 12) := ⟨⟨by decide +kernel, by decide +kernel⟩, List.mem_of_getElem? (i := 21) (by decide +kernel), List.mem_of_getElem? (i := 468) (by decide +kernel), List.mem_of_getElem? (i := 469) (by decide +kernel)⟩
theorem lw_p18 : lw_okq (⟨"java/lang/Throwable", "fillInStackTrace", "(I)Ljava/lang/Throwable;"⟩, 6) := ⟨⟨by decide +kernel, by decide +kernel⟩, List.mem_of_getElem? (i := 508) (by decide +kernel), List.mem_of_getElem? (i := 506) (by decide +kernel), List.mem_of_getElem? (i := 507) (by decide +kernel)⟩
theorem lw_p19 : lw_okq (⟨"InitiatorRowsModel", "isInitiator", "(I)Z"⟩, 25) := ⟨⟨by decide +kernel, by decide +kernel⟩, List.mem_of_getElem? (i := 538) (by decide +kernel), List.mem_of_getElem? (i := 634) (by decide +kernel), List.mem_of_getElem? (i := 635) (by decide +kernel)⟩
theorem lw_p20 : lw_okq (⟨"InitiatorRowsModel", "isJob", "(I)Z"⟩, 25) := ⟨⟨by decide +kernel, by decide +kernel⟩, List.mem_of_getElem? (i := 538) (by decide +kernel), List.mem_of_getElem? (i := 660) (by decide +kernel), List.mem_of_getElem? (i := 661) (by decide +kernel)⟩
theorem lw_p21 : lw_okq (⟨"InitiatorRowsModel", "reaches", "(II)Z"⟩, 25) := ⟨⟨by decide +kernel, by decide +kernel⟩, List.mem_of_getElem? (i := 538) (by decide +kernel), List.mem_of_getElem? (i := 664) (by decide +kernel), List.mem_of_getElem? (i := 665) (by decide +kernel)⟩
theorem lw_p22 : lw_okq (⟨"InitiatorRowsModel", "mayStart", "(I)Z"⟩, 25) := ⟨⟨by decide +kernel, by decide +kernel⟩, List.mem_of_getElem? (i := 538) (by decide +kernel), List.mem_of_getElem? (i := 688) (by decide +kernel), List.mem_of_getElem? (i := 689) (by decide +kernel)⟩
theorem lw_p23 : lw_okq (⟨"InitiatorRowsModel", "isOpen", "(I)Z"⟩, 25) := ⟨⟨by decide +kernel, by decide +kernel⟩, List.mem_of_getElem? (i := 538) (by decide +kernel), List.mem_of_getElem? (i := 692) (by decide +kernel), List.mem_of_getElem? (i := 693) (by decide +kernel)⟩
theorem lw_p24 : lw_okq (⟨"InitiatorRowsModel", "used", "(I)I"⟩, 25) := ⟨⟨by decide +kernel, by decide +kernel⟩, List.mem_of_getElem? (i := 538) (by decide +kernel), List.mem_of_getElem? (i := 697) (by decide +kernel), List.mem_of_getElem? (i := 698) (by decide +kernel)⟩
theorem lw_p25 : lw_okq (⟨"InitiatorRowsModel", "isAhead", "(II)Z"⟩, 25) := ⟨⟨by decide +kernel, by decide +kernel⟩, List.mem_of_getElem? (i := 538) (by decide +kernel), List.mem_of_getElem? (i := 701) (by decide +kernel), List.mem_of_getElem? (i := 702) (by decide +kernel)⟩
theorem lw_p26 : lw_okq (⟨"InitiatorRowsModel", "priority", "(I)J"⟩, 25) := ⟨⟨by decide +kernel, by decide +kernel⟩, List.mem_of_getElem? (i := 538) (by decide +kernel), List.mem_of_getElem? (i := 705) (by decide +kernel), List.mem_of_getElem? (i := 706) (by decide +kernel)⟩
theorem lw_p27 : lw_okq (⟨"InitiatorRowsModel", "those", "(IZ)I"⟩, 25) := ⟨⟨by decide +kernel, by decide +kernel⟩, List.mem_of_getElem? (i := 538) (by decide +kernel), List.mem_of_getElem? (i := 747) (by decide +kernel), List.mem_of_getElem? (i := 748) (by decide +kernel)⟩
def lw_privs_2 : List (MethodName × Nat) := [(⟨"InitiatorRows", "unitsInUse", "(I)I"⟩, 12), (⟨"InitiatorRows", "sumOfWeights", "()J"⟩, 12), (⟨"java/lang/Throwable", "fillInStackTrace", "(I)Ljava/lang/Throwable;"⟩, 6), (⟨"InitiatorRowsModel", "isInitiator", "(I)Z"⟩, 25), (⟨"InitiatorRowsModel", "isJob", "(I)Z"⟩, 25), (⟨"InitiatorRowsModel", "reaches", "(II)Z"⟩, 25), (⟨"InitiatorRowsModel", "mayStart", "(I)Z"⟩, 25), (⟨"InitiatorRowsModel", "isOpen", "(I)Z"⟩, 25), (⟨"InitiatorRowsModel", "used", "(I)I"⟩, 25), (⟨"InitiatorRowsModel", "isAhead", "(II)Z"⟩, 25), (⟨"InitiatorRowsModel", "priority", "(I)J"⟩, 25), (⟨"InitiatorRowsModel", "those", "(IZ)I"⟩, 25)]
theorem lw_r2 : ∀ q ∈ lw_privs_2, lw_okq q := List.forall_mem_cons.mpr ⟨lw_p16, List.forall_mem_cons.mpr ⟨lw_p17, List.forall_mem_cons.mpr ⟨lw_p18, List.forall_mem_cons.mpr ⟨lw_p19, List.forall_mem_cons.mpr ⟨lw_p20, List.forall_mem_cons.mpr ⟨lw_p21, List.forall_mem_cons.mpr ⟨lw_p22, List.forall_mem_cons.mpr ⟨lw_p23, List.forall_mem_cons.mpr ⟨lw_p24, List.forall_mem_cons.mpr ⟨lw_p25, List.forall_mem_cons.mpr ⟨lw_p26, List.forall_mem_cons.mpr ⟨lw_p27, fun _ h => absurd h List.not_mem_nil⟩⟩⟩⟩⟩⟩⟩⟩⟩⟩⟩⟩
def lw_privs : List (MethodName × Nat) := lw_privs_1 ++ (lw_privs_2)
def lw_tbl : List Cond := k2_sels lw_privs ++ tables_1
theorem lw_privs_ok : ∀ q ∈ lw_privs, lw_okq q := by
  show ∀ q ∈ lw_privs_1 ++ (lw_privs_2), lw_okq q
  exact List.forall_mem_append.mpr ⟨lw_r1, lw_r2⟩
/-- words that hold on, whatever the tables' notes -/
def w_sp : Cond → Bool
  | .castable .. => true
  | .declares .. => true
  | .arrayOver (.object _) => true
  | _ => false
def w_tb : List Cond := lw_tbl.filter (fun w => goodWord w || w_sp w)
theorem w_TBm : TBm w_tb := by
  intro w hw A A' u U hW hb
  have h := (List.mem_filter.mp hw).2
  cases hg : goodWord w with
  | true => exact word_at hW (good_of_word hg) hb
  | false =>
    rw [hg, Bool.false_or] at h
    cases w <;> first | (simp [w_sp] at h; done) | skip
    case castable a b => exact va_Nw.use rfl (va_Nw.warmC hW (va_Nw.of rfl hb))
    case declares a => exact va_Nw.use rfl (va_Nw.warmD hW (va_Nw.of rfl hb))
    case arrayOver t =>
      cases t <;> first | (simp [w_sp] at h; done) | skip
      exact va_AO.use (va_AO.moved hW.alike (va_AO.of hb))
def w_tl : List FieldType := [.int, .long, .object "java/lang/Object", .boolean]
def R_Rows : String := "InitiatorRows"
def R_Ini : String := "InitiatorRows$Initiator"
def R_Job : String := "InitiatorRows$Job"
def R_Load : String := "InitiatorRows$Load"
def R_NS : String := "InitiatorRows$NumberSet"
def R_Law : String := "InitiatorRowsLaw"
def R_Mod : String := "InitiatorRowsModel"
def R_AbC : String := "java/util/AbstractCollection"
def R_AbL : String := "java/util/AbstractList"
def R_AL : String := "java/util/ArrayList"
def R_Arrs : String := "java/util/Arrays"
def R_Objs : String := "java/util/Objects"
def R_ASup : String := "jdk/internal/util/ArraysSupport"
def R_Prec : String := "jdk/internal/util/Preconditions"
def F_Rows : u_T := fun k => match k with
  | 0 => ("InitiatorRows", "initiators", "Ljava/util/ArrayList;", true)
  | 1 => ("InitiatorRows", "jobs", "Ljava/util/ArrayList;", true)
  | 2 => ("InitiatorRows", "limits", "[I", true)
  | 3 => ("InitiatorRows", "windowStarts", "[I", true)
  | 4 => ("InitiatorRows", "windowEnds", "[I", true)
  | 5 => ("InitiatorRows", "weights", "[I", true)
  | 6 => ("InitiatorRows", "unitsThere", "[I", true)
  | 7 => ("InitiatorRows", "load", "LInitiatorRows$Load;", true)
  | 8 => ("InitiatorRows", "ended", "LInitiatorRows$NumberSet;", true)
  | 9 => ("InitiatorRows", "now", "J", false)
  | 10 => ("InitiatorRows", "agePer", "J", false)
  | _ => ("InitiatorRows", "ageMost", "I", false)
def t_Rows : Nat → FieldType := fun k => match k with
  | 0 => .object "java/util/ArrayList"
  | 1 => .object "java/util/ArrayList"
  | 2 => .array .int
  | 3 => .array .int
  | 4 => .array .int
  | 5 => .array .int
  | 6 => .array .int
  | 7 => .object "InitiatorRows$Load"
  | 8 => .object "InitiatorRows$NumberSet"
  | 9 => .long
  | 10 => .long
  | _ => .int
theorem n_Rows : ∀ a, a < 12 → ∀ b, b < 12 → a ≠ b → (F_Rows a).2.1 ≠ (F_Rows b).2.1 := by decide +kernel
theorem t_Rows_ok : ∀ k, k < 12 → parseFieldDescriptor (F_Rows k).2.2.1 = some (t_Rows k) := by decide +kernel
theorem i_Rows : ∀ w ∈ u_ws R_Rows F_Rows 12, w ∈ w_tb := by decide +kernel
theorem def_Rows : ∀ j, j < 12 → defaultValue (t_Rows j) = vp_V [.null, .null, .null, .null, .null, .null, .null, .null, .null, .long 0, .long 0, .int 0] j := by decide +kernel
theorem k_made_Rows : Cond.instantiable "InitiatorRows" 12 ∈ w_tb := List.mem_filter.mpr ⟨List.mem_append_right _ (List.mem_of_getElem? (i := 21) (by decide +kernel)), rfl⟩
def F_Job : u_T := fun k => match k with
  | 0 => ("InitiatorRows$Job", "number", "I", true)
  | 1 => ("InitiatorRows$Job", "inClass", "I", true)
  | 2 => ("InitiatorRows$Job", "priority", "I", true)
  | 3 => ("InitiatorRows$Job", "name", "I", true)
  | 4 => ("InitiatorRows$Job", "arrived", "J", true)
  | 5 => ("InitiatorRows$Job", "unitsUsed", "[I", true)
  | 6 => ("InitiatorRows$Job", "deepNeeds", "LInitiatorRows$NumberSet;", true)
  | 7 => ("InitiatorRows$Job", "runsAlone", "Z", false)
  | 8 => ("InitiatorRows$Job", "stage", "I", false)
  | _ => ("InitiatorRows$Job", "started", "J", false)
def t_Job : Nat → FieldType := fun k => match k with
  | 0 => .int
  | 1 => .int
  | 2 => .int
  | 3 => .int
  | 4 => .long
  | 5 => .array .int
  | 6 => .object "InitiatorRows$NumberSet"
  | 7 => .boolean
  | 8 => .int
  | _ => .long
theorem n_Job : ∀ a, a < 10 → ∀ b, b < 10 → a ≠ b → (F_Job a).2.1 ≠ (F_Job b).2.1 := by decide +kernel
theorem t_Job_ok : ∀ k, k < 10 → parseFieldDescriptor (F_Job k).2.2.1 = some (t_Job k) := by decide +kernel
theorem i_Job : ∀ w ∈ u_ws R_Job F_Job 10, w ∈ w_tb := by decide +kernel
theorem def_Job : ∀ j, j < 10 → defaultValue (t_Job j) = vp_V [.int 0, .int 0, .int 0, .int 0, .long 0, .null, .null, .int 0, .int 0, .long 0] j := by decide +kernel
theorem k_made_Job : Cond.instantiable "InitiatorRows$Job" 10 ∈ w_tb := List.mem_filter.mpr ⟨List.mem_append_right _ (List.mem_of_getElem? (i := 257) (by decide +kernel)), rfl⟩
def F_Load : u_T := fun k => match k with
  | 0 => ("InitiatorRows$Load", "ofClass", "[I", true)
  | 1 => ("InitiatorRows$Load", "unitsUsed", "[I", true)
  | 2 => ("InitiatorRows$Load", "names", "LInitiatorRows$NumberSet;", true)
  | 3 => ("InitiatorRows$Load", "running", "I", false)
  | _ => ("InitiatorRows$Load", "aloneRuns", "Z", false)
def t_Load : Nat → FieldType := fun k => match k with
  | 0 => .array .int
  | 1 => .array .int
  | 2 => .object "InitiatorRows$NumberSet"
  | 3 => .int
  | _ => .boolean
theorem n_Load : ∀ a, a < 5 → ∀ b, b < 5 → a ≠ b → (F_Load a).2.1 ≠ (F_Load b).2.1 := by decide +kernel
theorem t_Load_ok : ∀ k, k < 5 → parseFieldDescriptor (F_Load k).2.2.1 = some (t_Load k) := by decide +kernel
theorem i_Load : ∀ w ∈ u_ws R_Load F_Load 5, w ∈ w_tb := by decide +kernel
theorem def_Load : ∀ j, j < 5 → defaultValue (t_Load j) = vp_V [.null, .null, .null, .int 0, .int 0] j := by decide +kernel
theorem k_made_Load : Cond.instantiable "InitiatorRows$Load" 5 ∈ w_tb := List.mem_filter.mpr ⟨List.mem_append_right _ (List.mem_of_getElem? (i := 55) (by decide +kernel)), rfl⟩
def F_Ini : u_T := fun k => match k with
  | 0 => ("InitiatorRows$Initiator", "list", "[I", true)
  | 1 => ("InitiatorRows$Initiator", "drained", "Z", false)
  | _ => ("InitiatorRows$Initiator", "runningJob", "I", false)
def t_Ini : Nat → FieldType := fun k => match k with
  | 0 => .array .int
  | 1 => .boolean
  | _ => .int
theorem n_Ini : ∀ a, a < 3 → ∀ b, b < 3 → a ≠ b → (F_Ini a).2.1 ≠ (F_Ini b).2.1 := by decide +kernel
theorem t_Ini_ok : ∀ k, k < 3 → parseFieldDescriptor (F_Ini k).2.2.1 = some (t_Ini k) := by decide +kernel
theorem i_Ini : ∀ w ∈ u_ws R_Ini F_Ini 3, w ∈ w_tb := by decide +kernel
theorem def_Ini : ∀ j, j < 3 → defaultValue (t_Ini j) = vp_V [.null, .int 0, .int 0] j := by decide +kernel
theorem k_made_Ini : Cond.instantiable "InitiatorRows$Initiator" 3 ∈ w_tb := List.mem_filter.mpr ⟨List.mem_append_right _ (List.mem_of_getElem? (i := 143) (by decide +kernel)), rfl⟩
def F_NS : u_T := fun k => match k with
  | 0 => ("InitiatorRows$NumberSet", "low", "J", false)
  | _ => ("InitiatorRows$NumberSet", "high", "J", false)
def t_NS : Nat → FieldType := fun k => match k with
  | 0 => .long
  | _ => .long
theorem n_NS : ∀ a, a < 2 → ∀ b, b < 2 → a ≠ b → (F_NS a).2.1 ≠ (F_NS b).2.1 := by decide +kernel
theorem t_NS_ok : ∀ k, k < 2 → parseFieldDescriptor (F_NS k).2.2.1 = some (t_NS k) := by decide +kernel
theorem i_NS : ∀ w ∈ u_ws R_NS F_NS 2, w ∈ w_tb := by decide +kernel
theorem def_NS : ∀ j, j < 2 → defaultValue (t_NS j) = vp_V [.long 0, .long 0] j := by decide +kernel
theorem k_made_NS : Cond.instantiable "InitiatorRows$NumberSet" 2 ∈ w_tb := List.mem_filter.mpr ⟨List.mem_append_right _ (List.mem_of_getElem? (i := 61) (by decide +kernel)), rfl⟩
def F_AL : u_T := fun k => match k with
  | 0 => ("java/util/AbstractList", "modCount", "I", false)
  | 1 => ("java/util/ArrayList", "elementData", "[Ljava/lang/Object;", false)
  | _ => ("java/util/ArrayList", "size", "I", false)
def t_AL : Nat → FieldType := fun k => match k with
  | 0 => .int
  | 1 => (.array (.object "java/lang/Object"))
  | _ => .int
theorem n_AL : ∀ a, a < 3 → ∀ b, b < 3 → a ≠ b → (F_AL a).2.1 ≠ (F_AL b).2.1 := by decide +kernel
theorem t_AL_ok : ∀ k, k < 3 → parseFieldDescriptor (F_AL k).2.2.1 = some (t_AL k) := by decide +kernel
theorem i_AL : ∀ w ∈ u_ws R_AL F_AL 3, w ∈ w_tb := by decide +kernel
theorem def_AL : ∀ j, j < 3 → defaultValue (t_AL j) = vp_V [.int 0, .null, .int 0] j := by decide +kernel
theorem k_made_AL : Cond.instantiable "java/util/ArrayList" 3 ∈ w_tb := List.mem_filter.mpr ⟨List.mem_append_right _ (List.mem_of_getElem? (i := 29) (by decide +kernel)), rfl⟩
def F_Mod : u_T := fun k => match k with
  | 0 => ("InitiatorRowsModel", "thrown", "I", false)
  | 1 => ("InitiatorRowsModel", "now", "J", false)
  | 2 => ("InitiatorRowsModel", "lists", "[I", true)
  | 3 => ("InitiatorRowsModel", "runs", "[I", true)
  | 4 => ("InitiatorRowsModel", "drained", "[Z", true)
  | 5 => ("InitiatorRowsModel", "initiators", "I", false)
  | 6 => ("InitiatorRowsModel", "limits", "[I", true)
  | 7 => ("InitiatorRowsModel", "froms", "[I", true)
  | 8 => ("InitiatorRowsModel", "tos", "[I", true)
  | 9 => ("InitiatorRowsModel", "weights", "[I", true)
  | 10 => ("InitiatorRowsModel", "units", "[I", true)
  | 11 => ("InitiatorRowsModel", "sorts", "[I", true)
  | 12 => ("InitiatorRowsModel", "priorities", "[I", true)
  | 13 => ("InitiatorRowsModel", "names", "[I", true)
  | 14 => ("InitiatorRowsModel", "states", "[I", true)
  | 15 => ("InitiatorRowsModel", "uses", "[I", true)
  | 16 => ("InitiatorRowsModel", "held", "[Z", true)
  | 17 => ("InitiatorRowsModel", "lone", "[Z", true)
  | 18 => ("InitiatorRowsModel", "needed", "[Z", true)
  | 19 => ("InitiatorRowsModel", "reached", "[Z", true)
  | 20 => ("InitiatorRowsModel", "came", "[J", true)
  | 21 => ("InitiatorRowsModel", "ran", "[J", true)
  | 22 => ("InitiatorRowsModel", "jobs", "I", false)
  | 23 => ("InitiatorRowsModel", "per", "J", false)
  | _ => ("InitiatorRowsModel", "most", "I", false)
def t_Mod : Nat → FieldType := fun k => match k with
  | 0 => .int
  | 1 => .long
  | 2 => .array .int
  | 3 => .array .int
  | 4 => .array .boolean
  | 5 => .int
  | 6 => .array .int
  | 7 => .array .int
  | 8 => .array .int
  | 9 => .array .int
  | 10 => .array .int
  | 11 => .array .int
  | 12 => .array .int
  | 13 => .array .int
  | 14 => .array .int
  | 15 => .array .int
  | 16 => .array .boolean
  | 17 => .array .boolean
  | 18 => .array .boolean
  | 19 => .array .boolean
  | 20 => .array .long
  | 21 => .array .long
  | 22 => .int
  | 23 => .long
  | _ => .int
theorem n_Mod : ∀ a, a < 25 → ∀ b, b < 25 → a ≠ b → (F_Mod a).2.1 ≠ (F_Mod b).2.1 := by decide +kernel
theorem t_Mod_ok : ∀ k, k < 25 → parseFieldDescriptor (F_Mod k).2.2.1 = some (t_Mod k) := by decide +kernel
theorem i_Mod : ∀ w ∈ u_ws R_Mod F_Mod 25, w ∈ w_tb := by decide +kernel
theorem def_Mod : ∀ j, j < 25 → defaultValue (t_Mod j) = vp_V [.int 0, .long 0, .null, .null, .null, .int 0, .null, .null, .null, .null, .null, .null, .null, .null, .null, .null, .null, .null, .null, .null, .null, .null, .int 0, .long 0, .int 0] j := by decide +kernel
theorem k_made_Mod : Cond.instantiable "InitiatorRowsModel" 25 ∈ w_tb := List.mem_filter.mpr ⟨List.mem_append_right _ (List.mem_of_getElem? (i := 538) (by decide +kernel)), rfl⟩
def w_cl : List vw_C := [(R_Rows, F_Rows, 12), (R_Job, F_Job, 10), (R_Load, F_Load, 5), (R_Ini, F_Ini, 3), (R_NS, F_NS, 2), (R_AL, F_AL, 3), (R_Mod, F_Mod, 25)]
/-- classes of a list's elements -/
def w_el (ci : Nat) : Prop := ci = 1 ∨ ci = 3
theorem k_cast_Job : Cond.castable "InitiatorRows$Job" "java/lang/Object" ∈ w_tb := List.mem_filter.mpr ⟨List.mem_append_right _ (List.mem_of_getElem? (i := 762) (by decide +kernel)), rfl⟩
theorem k_cast_Ini : Cond.castable "InitiatorRows$Initiator" "java/lang/Object" ∈ w_tb := List.mem_filter.mpr ⟨List.mem_append_right _ (List.mem_of_getElem? (i := 761) (by decide +kernel)), rfl⟩
theorem w_castO {ci : Nat} (h : w_el ci) : ∃ (C : String) (U : u_T) (N : Nat), w_cl[ci]? = some (C, U, N) ∧ Cond.castable C "java/lang/Object" ∈ w_tb := by
  rcases h with rfl | rfl
  · exact ⟨_, _, _, rfl, k_cast_Job⟩
  · exact ⟨_, _, _, rfl, k_cast_Ini⟩
theorem k_ini_Rows : Cond.initialized "InitiatorRows" ∈ w_tb := List.mem_filter.mpr ⟨List.mem_append_right _ (List.mem_of_getElem? (i := 1) (by decide +kernel)), rfl⟩
theorem k_ini_Ini : Cond.initialized "InitiatorRows$Initiator" ∈ w_tb := List.mem_filter.mpr ⟨List.mem_append_right _ (List.mem_of_getElem? (i := 8) (by decide +kernel)), rfl⟩
theorem k_ini_Job : Cond.initialized "InitiatorRows$Job" ∈ w_tb := List.mem_filter.mpr ⟨List.mem_append_right _ (List.mem_of_getElem? (i := 15) (by decide +kernel)), rfl⟩
theorem k_ini_Load : Cond.initialized "InitiatorRows$Load" ∈ w_tb := List.mem_filter.mpr ⟨List.mem_append_right _ (List.mem_of_getElem? (i := 5) (by decide +kernel)), rfl⟩
theorem k_ini_NS : Cond.initialized "InitiatorRows$NumberSet" ∈ w_tb := List.mem_filter.mpr ⟨List.mem_append_right _ (List.mem_of_getElem? (i := 6) (by decide +kernel)), rfl⟩
theorem k_ini_Mod : Cond.initialized "InitiatorRowsModel" ∈ w_tb := List.mem_filter.mpr ⟨List.mem_append_right _ (List.mem_of_getElem? (i := 7) (by decide +kernel)), rfl⟩
theorem k_ini_Math : Cond.initialized "java/lang/Math" ∈ w_tb := List.mem_filter.mpr ⟨List.mem_append_right _ (List.mem_of_getElem? (i := 10) (by decide +kernel)), rfl⟩
theorem k_ini_System : Cond.initialized "java/lang/System" ∈ w_tb := List.mem_filter.mpr ⟨List.mem_append_right _ (List.mem_of_getElem? (i := 12) (by decide +kernel)), rfl⟩
theorem k_ini_AbC : Cond.initialized "java/util/AbstractCollection" ∈ w_tb := List.mem_filter.mpr ⟨List.mem_append_right _ (List.mem_of_getElem? (i := 2) (by decide +kernel)), rfl⟩
theorem k_ini_AbL : Cond.initialized "java/util/AbstractList" ∈ w_tb := List.mem_filter.mpr ⟨List.mem_append_right _ (List.mem_of_getElem? (i := 3) (by decide +kernel)), rfl⟩
theorem k_ini_AL : Cond.initialized "java/util/ArrayList" ∈ w_tb := List.mem_filter.mpr ⟨List.mem_append_right _ (List.mem_of_getElem? (i := 4) (by decide +kernel)), rfl⟩
theorem k_ini_Arrs : Cond.initialized "java/util/Arrays" ∈ w_tb := List.mem_filter.mpr ⟨List.mem_append_right _ (List.mem_of_getElem? (i := 11) (by decide +kernel)), rfl⟩
theorem k_ini_Objs : Cond.initialized "java/util/Objects" ∈ w_tb := List.mem_filter.mpr ⟨List.mem_append_right _ (List.mem_of_getElem? (i := 13) (by decide +kernel)), rfl⟩
theorem k_ini_ASup : Cond.initialized "jdk/internal/util/ArraysSupport" ∈ w_tb := List.mem_filter.mpr ⟨List.mem_append_right _ (List.mem_of_getElem? (i := 9) (by decide +kernel)), rfl⟩
theorem k_ini_Prec : Cond.initialized "jdk/internal/util/Preconditions" ∈ w_tb := List.mem_filter.mpr ⟨List.mem_append_right _ (List.mem_of_getElem? (i := 14) (by decide +kernel)), rfl⟩
theorem k_copy_nat : Cond.native arraycopyName ∈ w_tb := List.mem_filter.mpr ⟨List.mem_append_right _ (List.mem_of_getElem? (i := 213) (by decide +kernel)), rfl⟩
theorem k_copy_stat : Cond.static arraycopyName ∈ w_tb := List.mem_filter.mpr ⟨List.mem_append_right _ (List.mem_of_getElem? (i := 212) (by decide +kernel)), rfl⟩
theorem k_gc_decl : Cond.declares ⟨"java/lang/Object", "getClass", "()Ljava/lang/Class;"⟩ ∈ w_tb := List.mem_filter.mpr ⟨List.mem_append_right _ (List.mem_of_getElem? (i := 756) (by decide +kernel)), rfl⟩
theorem k_gc_sel : Cond.selects "[Ljava/lang/Object;" ⟨"java/lang/Object", "getClass", "()Ljava/lang/Class;"⟩ ⟨"java/lang/Object", "getClass", "()Ljava/lang/Class;"⟩ ∈ w_tb := List.mem_filter.mpr ⟨List.mem_append_right _ (List.mem_of_getElem? (i := 755) (by decide +kernel)), rfl⟩
theorem k_gc_inst : Cond.instanceMethod ⟨"java/lang/Object", "getClass", "()Ljava/lang/Class;"⟩ ∈ w_tb := List.mem_filter.mpr ⟨List.mem_append_right _ (List.mem_of_getElem? (i := 191) (by decide +kernel)), rfl⟩
theorem k_gc_nat : Cond.native ⟨"java/lang/Object", "getClass", "()Ljava/lang/Class;"⟩ ∈ w_tb := List.mem_filter.mpr ⟨List.mem_append_right _ (List.mem_of_getElem? (i := 201) (by decide +kernel)), rfl⟩
theorem k_over_Object : Cond.arrayOver (.object "java/lang/Object") ∈ w_tb := List.mem_filter.mpr ⟨List.mem_append_right _ (List.mem_of_getElem? (i := 206) (by decide +kernel)), rfl⟩
theorem k_arr_int : Cond.arrayClass (newarray.typeOf .int) ∈ w_tb := List.mem_filter.mpr ⟨List.mem_append_right _ (List.mem_of_getElem? (i := 73) (by decide +kernel)), rfl⟩
theorem k_arr_long : Cond.arrayClass (newarray.typeOf .long) ∈ w_tb := List.mem_filter.mpr ⟨List.mem_append_right _ (List.mem_of_getElem? (i := 620) (by decide +kernel)), rfl⟩
theorem k_arr_boolean : Cond.arrayClass (newarray.typeOf .boolean) ∈ w_tb := List.mem_filter.mpr ⟨List.mem_append_right _ (List.mem_of_getElem? (i := 619) (by decide +kernel)), rfl⟩
theorem k_oi_inst : Cond.instanceMethod objectInit ∈ w_tb := List.mem_filter.mpr ⟨List.mem_append_right _ (List.mem_of_getElem? (i := 26) (by decide +kernel)), rfl⟩
theorem k_oi_code : Cond.code objectInit ⟨#[0xb1]⟩ 1 none ∈ w_tb := List.mem_filter.mpr ⟨List.mem_append_right _ (List.mem_of_getElem? (i := 27) rfl), rfl⟩
theorem k_same_AL_modCount : Cond.sameField "java/util/ArrayList" "java/util/AbstractList" "modCount" "I" ∈ w_tb := List.mem_filter.mpr ⟨List.mem_append_right _ (List.mem_of_getElem? (i := 46) (by decide +kernel)), rfl⟩
theorem k_math_max_static : Cond.static Lib.Math.max.name ∈ w_tb := List.mem_filter.mpr ⟨List.mem_append_right _ (List.mem_of_getElem? (i := 181) (by decide +kernel)), rfl⟩
theorem k_math_max_code : Cond.code Lib.Math.max.name Lib.Math.max.code 2 (some .int) ∈ w_tb := List.mem_filter.mpr ⟨List.mem_append_right _ (List.mem_of_getElem? (i := 182) rfl), rfl⟩
theorem k_math_min_static : Cond.static Lib.Math.min.name ∈ w_tb := List.mem_filter.mpr ⟨List.mem_append_right _ (List.mem_of_getElem? (i := 209) (by decide +kernel)), rfl⟩
theorem k_math_min_code : Cond.code Lib.Math.min.name Lib.Math.min.code 2 (some .int) ∈ w_tb := List.mem_filter.mpr ⟨List.mem_append_right _ (List.mem_of_getElem? (i := 210) rfl), rfl⟩
theorem k_math_min_long_static : Cond.static Lib.MathLoose.min_long.x ∈ w_tb := List.mem_filter.mpr ⟨List.mem_append_right _ (List.mem_of_getElem? (i := 391) (by decide +kernel)), rfl⟩
theorem k_math_min_long_code : Cond.code Lib.MathLoose.min_long.x Lib.MathLoose.min_long.code 4 (some .long) ∈ w_tb := List.mem_filter.mpr ⟨List.mem_append_right _ (List.mem_of_getElem? (i := 392) rfl), rfl⟩
end
