section
/-! A WORLD AS A MAP: what lies at an address. Contents: an array of ints (booleans, bytes ..) of the t-th array class, of longs, of references, or an object of the ci-th class -/
abbrev hE : Type := (Nat × Nat × (Nat → Int32)) ⊕ (Nat × Nat × (Nat → Int64)) ⊕ (Nat × Nat × (Nat → Option Nat)) ⊕ (Nat × List Value)
/-- (the shared empty array of lists, the class object of Object[], what lies where) -/
abbrev hM : Type := Nat × Nat × (Nat → Option hE)
def rd (h : hM) (a : Nat) : Option hE := h.2.2 a
def eT (t n : Nat) (f : Nat → Int32) : hE := .inl (t, n, f)
def eJ (t n : Nat) (f : Nat → Int64) : hE := .inr (.inl (t, n, f))
def eA (t n : Nat) (f : Nat → Option Nat) : hE := .inr (.inr (.inl (t, n, f)))
def eO (ci : Nat) (fs : List Value) : hE := .inr (.inr (.inr (ci, fs)))
def h_up (h : hM) (a : Nat) (x : hE) : hM := (h.1, h.2.1, fun q => if q = a then some x else h.2.2 q)
theorem h_up_self (h : hM) (a : Nat) (x : hE) : rd (h_up h a x) a = some x := by simp [rd, h_up]
theorem h_up_ne (h : hM) {a b : Nat} (x : hE) (n : b ≠ a) : rd (h_up h a x) b = rd h b := by simp [rd, h_up, n]
/-- the classes' numbers, the array classes' numbers, the heap with which the law began, the empty array, the class object -/
abbrev hX : Type := va_G × (Nat → ClassId) × Heap × Nat × Nat
def h_tr (κ : hX) : hE → va_E := fun x => match x with
  | .inl (t, n, f) => .inl (κ.2.1 t, n, .inl f)
  | .inr (.inl (t, n, f)) => .inl (κ.2.1 t, n, .inr (.inl f))
  | .inr (.inr (.inl (t, n, f))) => .inl (κ.2.1 t, n, .inr (.inr (.inr (.inr f))))
  | .inr (.inr (.inr (ci, fs))) => .inr (ci, fs)
def h_z (κ : hX) : Nat := κ.2.2.1.size
def h_A (κ : hX) : Nat → Prop := fun q => h_z κ ≤ q
def h_ty (κ : hX) (tl : List FieldType) : List (ClassId × FieldType) := (List.range tl.length).map (fun i => (κ.2.1 i, tl.getD i .int))
theorem h_ty_at {κ : hX} {tl : List FieldType} {t : Nat} {ty : FieldType} (h : tl[t]? = some ty) : (h_ty κ tl)[t]? = some (κ.2.1 t, ty) := by
  have hl : t < tl.length := (List.getElem?_eq_some_iff.mp h).1
  unfold h_ty
  rw [List.getElem?_map, List.getElem?_range hl]
  simp [List.getD, h]
def hp (κ : hX) (cl : List vw_C) (h : hM) (H : Heap) : Prop := ∃ ws : va_W, va_P κ.1 cl ws H ∧ va_D (h_A κ) ws ∧ (∀ (a : Nat) (x : hE), rd h a = some x → ∃ k : Nat, ws[k]? = some (a, h_tr κ x)) ∧ h.1 = κ.2.2.2.1 ∧ h.2.1 = κ.2.2.2.2
def hF (κ : hX) (H : Heap) : Prop := h_z κ ≤ H.size ∧ ∀ q : Nat, q < h_z κ → H[q]? = κ.2.2.1[q]?
theorem hF.go {κ : hX} {H0 H : Heap} {locs : List Loc} (h : hF κ H0) (hS : va_S (h_A κ) H0 H locs) : hF κ H :=
  ⟨Nat.le_trans h.1 hS.1, fun q hq => (hS.2.1 q (Nat.lt_of_lt_of_le hq h.1) (Nat.not_le.mpr hq)).trans (h.2 q hq)⟩
theorem hp.at {κ : hX} {cl : List vw_C} {h : hM} {H : Heap} (hh : hp κ cl h H) {a : Nat} {x : hE} (ha : rd h a = some x) : ∃ (ws : va_W) (k : Nat), va_P κ.1 cl ws H ∧ va_D (h_A κ) ws ∧ ws[k]? = some (a, h_tr κ x) ∧
    (∀ (H1 : Heap) (y : hE), va_P κ.1 cl (ws.set k (a, h_tr κ y)) H1 → va_D (h_A κ) (ws.set k (a, h_tr κ y)) → hp κ cl (h_up h a y) H1) ∧ ∀ (b : Nat) (y : hE), rd h b = some y → ∃ j : Nat, ws[j]? = some (b, h_tr κ y) := by
  obtain ⟨ws, hP, hD, hl, he⟩ := hh
  obtain ⟨k, hk⟩ := hl a x ha
  have hlt : k < ws.length := (List.getElem?_eq_some_iff.mp hk).1
  refine ⟨ws, k, hP, hD, hk, fun H1 y hP1 hD1 => ⟨_, hP1, hD1, fun b z hb => ?_, he⟩, hl⟩
  by_cases hba : b = a
  · subst hba
    rw [h_up_self] at hb
    cases hb
    exact ⟨k, List.getElem?_set_self hlt⟩
  · rw [h_up_ne _ _ hba] at hb
    obtain ⟨j, hj⟩ := hl b z hb
    refine ⟨j, ?_⟩
    rw [List.getElem?_set_ne, hj]
    intro hkj
    subst hkj
    rw [hk] at hj
    exact hba (congrArg Prod.fst (Option.some.inj hj)).symm
theorem hp.push {κ : hX} {cl : List vw_C} {h : hM} {H H1 : Heap} {ws : va_W} {q : Nat} {y : hE} (he : h.1 = κ.2.2.2.1 ∧ h.2.1 = κ.2.2.2.2) (hl : ∀ (a : Nat) (x : hE), rd h a = some x → ∃ k : Nat, ws[k]? = some (a, h_tr κ x)) (hP1 : va_P κ.1 cl (ws ++ [(q, h_tr κ y)]) H1) (hD1 : va_D (h_A κ) (ws ++ [(q, h_tr κ y)])) : rd h q = none ∧ h_z κ ≤ q ∧ hp κ cl (h_up h q y) H1 := by
  have hlast : (ws ++ [(q, h_tr κ y)])[ws.length]? = some (q, h_tr κ y) := by simp
  have hn : rd h q = none := by
    cases hq : rd h q with
    | none => rfl
    | some x =>
      obtain ⟨k, hk⟩ := hl q x hq
      have hlt : k < ws.length := (List.getElem?_eq_some_iff.mp hk).1
      have := hD1.1 k ws.length (q, h_tr κ x) (q, h_tr κ y) (by rw [List.getElem?_append_left hlt]; exact hk) hlast rfl
      omega
  refine ⟨hn, hD1.2 _ _ hlast, _, hP1, hD1, fun b z hb => ?_, he⟩
  by_cases hba : b = q
  · subst hba
    rw [h_up_self] at hb
    cases hb
    exact ⟨_, hlast⟩
  · rw [h_up_ne _ _ hba] at hb
    obtain ⟨j, hj⟩ := hl b z hb
    exact ⟨j, by rw [List.getElem?_append_left (List.getElem?_eq_some_iff.mp hj).1]; exact hj⟩
/-- what never changes: the static empty array of lists, and the class object of Object[] -/
def hZ (κ : hX) (U : State) : Prop := va_Z "java/util/ArrayList" "DEFAULTCAPACITY_EMPTY_ELEMENTDATA" "[Ljava/lang/Object;" (.ref κ.2.2.2.1) (h_A κ) U κ.2.2.1 ∧ va_T (.object "java/lang/Object") κ.2.2.2.1 0 (fun _ => .null) (h_A κ) U κ.2.2.1 ∧ va_Mi "[Ljava/lang/Object;" κ.2.2.2.2 U
theorem hZ.moved {κ : hX} {u U : State} (hvm : u.vm.Alike U.vm) (h : hZ κ u) : hZ κ U := ⟨va_Z.moved hvm h.1, va_T.moved hvm h.2.1, va_Mi.moved hvm h.2.2⟩
/-- what a walk rests on -/
def Cw (κ : hX) (cl : List vw_C) (tl : List FieldType) (TB : List Cond) (p : Program) (s : State) (m : MethodId) (args : Array Value) (meth : Method) (c : Code) (cc : ByteArray) (nL : Nat) (own : String) (ret : Option FieldType) : Prop :=
  p.tables.exec = Jvm.exec ∧ c.code = cc ∧ c.maxLocals = nL ∧ s.vm.findClass own = some m.cls ∧ (∀ w ∈ TB, w.before args s = true) ∧ va_K κ.1 cl (h_ty κ tl) s ∧ hF κ s.heap ∧ hZ κ s ∧ meth.sig.returnType = ret ∧ meth.locks = false
theorem va_rf_cat (o : Option Nat) : (va_rf o).category = 1 := by cases o <;> rfl
section HL
variable {p : Program} {l : Launch} {e : Env} {R : Room} {s : State} {m : MethodId} {args : Array Value} {below : List Frame} {meth : Method} {c : Code} {H : Heap} {locs : List Loc} {cells slots : Nat} {Q : State → Prop}
variable {cc : ByteArray} {pc nL : Nat} {ls : Array Slot} {rest : List Value} {κ : hX} {cl : List vw_C} {tl : List FieldType} {TB : List Cond} {own : String} {ret : Option FieldType} {h : hM} {a : Nat}
theorem h_get (C0 : Cw κ cl tl TB p s m args meth c cc nL own ret) (hh : hp κ cl h H) {ref C : String} {T : u_T} {N ci index k : Nat} {fs : List Value} {v : Value} (ha : rd h a = some (eO ci fs)) (hv : fs[k]? = some v) (hc : cl[ci]? = some (C, T, N)) (hin : ∀ w ∈ u_ws C T N, w ∈ TB) (hk : k < N) (hlink : Cond.fieldLink own index ref (T k).2.1 (T k).2.2.1 ∈ TB) (hsame : ∀ x, s.fieldFound? (T k).1 (T k).2.1 (T k).2.2.1 = some x → s.fieldFound? ref (T k).2.1 (T k).2.2.1 = some x) (hdg : decode cc pc = .ok (.getfield index, 3))
    (kk : W p l e R s m args below meth c H locs cells slots Q (F0 m (pc + 3) ls (v :: rest))) : W p l e R s m args below meth c H locs cells slots Q (F0 m pc ls (.ref a :: rest)) := by
  obtain ⟨hx, hb, -, hown, hts, hK, -⟩ := C0
  obtain ⟨ws, j, hP, -, hj, -⟩ := hh.at ha
  exact va_get hx hb hts hin hown hK hP j hj hc k hk (hts _ hlink) hsame hv hdg kk
theorem h_put (C0 : Cw κ cl tl TB p s m args meth c cc nL own ret) (hh : hp κ cl h H) (hS : va_S (h_A κ) s.heap H locs) {ref C : String} {T : u_T} {N ci index k : Nat} {fs : List Value} {v : Value} {ty : FieldType} (ha : rd h a = some (eO ci fs)) (hl : k < fs.length) (hc : cl[ci]? = some (C, T, N)) (hin : ∀ w ∈ u_ws C T N, w ∈ TB) (ty0 : Nat → FieldType) (hty : ∀ k, k < N → parseFieldDescriptor (T k).2.2.1 = some (ty0 k)) (hnm : ∀ a, a < N → ∀ b, b < N → a ≠ b → (T a).2.1 ≠ (T b).2.1) (hk : k < N) (hlink : Cond.fieldLink own index ref (T k).2.1 (T k).2.2.1 ∈ TB) (hsame : ∀ x, s.fieldFound? (T k).1 (T k).2.1 (T k).2.2.1 = some x → s.fieldFound? ref (T k).2.1 (T k).2.2.1 = some x) (hfin : (T k).2.2.2 = false) (hd : parseFieldDescriptor (T k).2.2.1 = some ty) (hn : narrow ty v = v) (hfit : fits ty v = true) (hdg : decode cc pc = .ok (.putfield index, 3))
    (kk : ∀ (H1 : Heap) (locs1 : List Loc), hp κ cl (h_up h a (eO ci (fs.set k v))) H1 → va_S (h_A κ) s.heap H1 locs1 → W p l e R s m args below meth c H1 locs1 cells slots Q (F0 m (pc + 3) ls rest)) : W p l e R s m args below meth c H locs cells slots Q (F0 m pc ls (v :: .ref a :: rest)) := by
  obtain ⟨hx, hb, -, hown, hts, hK, -⟩ := C0
  obtain ⟨ws, j, hP, hD, hj, back, -⟩ := hh.at ha
  exact va_put hx hb hts hin ty0 hty hnm hown hK hP hD hS j hj hc k hk (hts _ hlink) hsame hfin hd hn hfit hl hdg (fun H1 locs1 hP1 hD1 hS1 => kk H1 locs1 (back H1 (eO ci (fs.set k v)) hP1 hD1) hS1)
theorem h_putF (C0 : Cw κ cl tl TB p s m args meth c cc nL own ret) (hh : hp κ cl h H) (hS : va_S (h_A κ) s.heap H locs) {ref C : String} {T : u_T} {N ci index k : Nat} {fs : List Value} {v : Value} {ty : FieldType} (ha : rd h a = some (eO ci fs)) (hl : k < fs.length) (hc : cl[ci]? = some (C, T, N)) (hin : ∀ w ∈ u_ws C T N, w ∈ TB) (ty0 : Nat → FieldType) (hty : ∀ k, k < N → parseFieldDescriptor (T k).2.2.1 = some (ty0 k)) (hnm : ∀ a, a < N → ∀ b, b < N → a ≠ b → (T a).2.1 ≠ (T b).2.1) (hk : k < N) (hlink : Cond.fieldLink own index ref (T k).2.1 (T k).2.2.1 ∈ TB) (hsame : ∀ x, s.fieldFound? (T k).1 (T k).2.1 (T k).2.2.1 = some x → s.fieldFound? ref (T k).2.1 (T k).2.2.1 = some x) (hfin : (T k).2.2.2 = true) (hin2 : meth.name = "<init>") (hdecl : (T k).1 = own) (hd : parseFieldDescriptor (T k).2.2.1 = some ty) (hn : narrow ty v = v) (hfit : fits ty v = true) (hdg : decode cc pc = .ok (.putfield index, 3))
    (kk : ∀ (H1 : Heap) (locs1 : List Loc), hp κ cl (h_up h a (eO ci (fs.set k v))) H1 → va_S (h_A κ) s.heap H1 locs1 → W p l e R s m args below meth c H1 locs1 cells slots Q (F0 m (pc + 3) ls rest)) : W p l e R s m args below meth c H locs cells slots Q (F0 m pc ls (v :: .ref a :: rest)) := by
  obtain ⟨hx, hb, -, hown, hts, hK, -⟩ := C0
  obtain ⟨ws, j, hP, hD, hj, back, -⟩ := hh.at ha
  exact va_putF hx hb hts hin ty0 hty hnm hown hK hP hD hS j hj hc k hk (hts _ hlink) hsame hfin hin2 hdecl hd hn hfit hl hdg (fun H1 locs1 hP1 hD1 hS1 => kk H1 locs1 (back H1 (eO ci (fs.set k v)) hP1 hD1) hS1)
theorem h_iald (C0 : Cw κ cl tl TB p s m args meth c cc nL own ret) (hh : hp κ cl h H) {t n : Nat} {f : Nat → Int32} {i : Int32} (ha : rd h a = some (eT t n f)) (hi : vp_in i n) (ht : tl[t]? = some .int) (hdg : decode cc pc = .ok (.iaload, 1))
    (kk : W p l e R s m args below meth c H locs cells slots Q (F0 m (pc + 1) ls (.int (f i.toNatClampNeg) :: rest))) : W p l e R s m args below meth c H locs cells slots Q (F0 m pc ls (.int i :: .ref a :: rest)) := by
  obtain ⟨hx, hb, -, hown, hts, hK, -⟩ := C0
  obtain ⟨ws, j, hP, -, hj, -⟩ := hh.at ha
  exact va_iald hx hb hK hP j t hj (h_ty_at ht) hi hdg kk
theorem h_zald (C0 : Cw κ cl tl TB p s m args meth c cc nL own ret) (hh : hp κ cl h H) {t n : Nat} {f : Nat → Int32} {i : Int32} (ha : rd h a = some (eT t n f)) (hi : vp_in i n) (ht : tl[t]? = some .boolean) (hdg : decode cc pc = .ok (.baload, 1))
    (kk : W p l e R s m args below meth c H locs cells slots Q (F0 m (pc + 1) ls (.int (f i.toNatClampNeg) :: rest))) : W p l e R s m args below meth c H locs cells slots Q (F0 m pc ls (.int i :: .ref a :: rest)) := by
  obtain ⟨hx, hb, -, hown, hts, hK, -⟩ := C0
  obtain ⟨ws, j, hP, -, hj, -⟩ := hh.at ha
  exact va_zald hx hb hK hP j t hj (h_ty_at ht) hi hdg kk
theorem h_lald (C0 : Cw κ cl tl TB p s m args meth c cc nL own ret) (hh : hp κ cl h H) {t n : Nat} {f : Nat → Int64} {i : Int32} (ha : rd h a = some (eJ t n f)) (hi : vp_in i n) (ht : tl[t]? = some .long) (hdg : decode cc pc = .ok (.laload, 1))
    (kk : W p l e R s m args below meth c H locs cells slots Q (F0 m (pc + 1) ls (.long (f i.toNatClampNeg) :: rest))) : W p l e R s m args below meth c H locs cells slots Q (F0 m pc ls (.int i :: .ref a :: rest)) := by
  obtain ⟨hx, hb, -, hown, hts, hK, -⟩ := C0
  obtain ⟨ws, j, hP, -, hj, -⟩ := hh.at ha
  exact va_lald hx hb hK hP j t hj (h_ty_at ht) hi hdg kk
theorem h_aald (C0 : Cw κ cl tl TB p s m args meth c cc nL own ret) (hh : hp κ cl h H) {t n : Nat} {f : Nat → Option Nat} {i : Int32} {C : String} (ha : rd h a = some (eA t n f)) (hi : vp_in i n) (ht : tl[t]? = some (.object C)) (hdg : decode cc pc = .ok (.aaload, 1))
    (kk : W p l e R s m args below meth c H locs cells slots Q (F0 m (pc + 1) ls (va_rf (f i.toNatClampNeg) :: rest))) : W p l e R s m args below meth c H locs cells slots Q (F0 m pc ls (.int i :: .ref a :: rest)) := by
  obtain ⟨hx, hb, -, hown, hts, hK, -⟩ := C0
  obtain ⟨ws, j, hP, -, hj, -⟩ := hh.at ha
  exact va_aldq hx hb hK hP j t hj (h_ty_at ht) hi hdg kk
theorem h_alenT (C0 : Cw κ cl tl TB p s m args meth c cc nL own ret) (hh : hp κ cl h H) {t n : Nat} {f : Nat → Int32} {ty : FieldType} (ha : rd h a = some (eT t n f)) (ht : tl[t]? = some ty) (hdg : decode cc pc = .ok (.arraylength, 1))
    (kk : W p l e R s m args below meth c H locs cells slots Q (F0 m (pc + 1) ls (.int (nI n) :: rest))) : W p l e R s m args below meth c H locs cells slots Q (F0 m pc ls (.ref a :: rest)) := by
  obtain ⟨hx, hb, -, hown, hts, hK, -⟩ := C0
  obtain ⟨ws, j, hP, -, hj, -⟩ := hh.at ha
  exact va_alen hx hb hK hP j t hj (h_ty_at ht) (v := nI n) rfl hdg kk
theorem h_alenJ (C0 : Cw κ cl tl TB p s m args meth c cc nL own ret) (hh : hp κ cl h H) {t n : Nat} {f : Nat → Int64} {ty : FieldType} (ha : rd h a = some (eJ t n f)) (ht : tl[t]? = some ty) (hdg : decode cc pc = .ok (.arraylength, 1))
    (kk : W p l e R s m args below meth c H locs cells slots Q (F0 m (pc + 1) ls (.int (nI n) :: rest))) : W p l e R s m args below meth c H locs cells slots Q (F0 m pc ls (.ref a :: rest)) := by
  obtain ⟨hx, hb, -, hown, hts, hK, -⟩ := C0
  obtain ⟨ws, j, hP, -, hj, -⟩ := hh.at ha
  exact va_alen hx hb hK hP j t hj (h_ty_at ht) (v := nI n) rfl hdg kk
theorem h_alenA (C0 : Cw κ cl tl TB p s m args meth c cc nL own ret) (hh : hp κ cl h H) {t n : Nat} {f : Nat → Option Nat} {ty : FieldType} (ha : rd h a = some (eA t n f)) (ht : tl[t]? = some ty) (hdg : decode cc pc = .ok (.arraylength, 1))
    (kk : W p l e R s m args below meth c H locs cells slots Q (F0 m (pc + 1) ls (.int (nI n) :: rest))) : W p l e R s m args below meth c H locs cells slots Q (F0 m pc ls (.ref a :: rest)) := by
  obtain ⟨hx, hb, -, hown, hts, hK, -⟩ := C0
  obtain ⟨ws, j, hP, -, hj, -⟩ := hh.at ha
  exact va_alen hx hb hK hP j t hj (h_ty_at ht) (v := nI n) rfl hdg kk
theorem h_iast (C0 : Cw κ cl tl TB p s m args meth c cc nL own ret) (hh : hp κ cl h H) (hS : va_S (h_A κ) s.heap H locs) {t n : Nat} {f : Nat → Int32} {i x : Int32} (ha : rd h a = some (eT t n f)) (hi : vp_in i n) (ht : tl[t]? = some .int) (hdg : decode cc pc = .ok (.iastore, 1))
    (kk : ∀ (H1 : Heap) (locs1 : List Loc), hp κ cl (h_up h a (eT t n (upd f i.toNatClampNeg x))) H1 → va_S (h_A κ) s.heap H1 locs1 → W p l e R s m args below meth c H1 locs1 cells slots Q (F0 m (pc + 1) ls rest)) : W p l e R s m args below meth c H locs cells slots Q (F0 m pc ls (.int x :: .int i :: .ref a :: rest)) := by
  obtain ⟨hx, hb, -, hown, hts, hK, -⟩ := C0
  obtain ⟨ws, j, hP, hD, hj, back, -⟩ := hh.at ha
  exact va_iast hx hb hK hP hD hS j t hj (h_ty_at ht) hi hdg (fun H1 locs1 hP1 hD1 hS1 => kk H1 locs1 (back H1 (eT t n _) hP1 hD1) hS1)
theorem h_zast (C0 : Cw κ cl tl TB p s m args meth c cc nL own ret) (hh : hp κ cl h H) (hS : va_S (h_A κ) s.heap H locs) {t n : Nat} {f : Nat → Int32} {i x : Int32} (ha : rd h a = some (eT t n f)) (hi : vp_in i n) (ht : tl[t]? = some .boolean) (hx1 : vp_nar .boolean x = x) (hdg : decode cc pc = .ok (.bastore, 1))
    (kk : ∀ (H1 : Heap) (locs1 : List Loc), hp κ cl (h_up h a (eT t n (upd f i.toNatClampNeg x))) H1 → va_S (h_A κ) s.heap H1 locs1 → W p l e R s m args below meth c H1 locs1 cells slots Q (F0 m (pc + 1) ls rest)) : W p l e R s m args below meth c H locs cells slots Q (F0 m pc ls (.int x :: .int i :: .ref a :: rest)) := by
  obtain ⟨hx, hb, -, hown, hts, hK, -⟩ := C0
  obtain ⟨ws, j, hP, hD, hj, back, -⟩ := hh.at ha
  exact va_zast hx hb hK hP hD hS j t hj (h_ty_at ht) hi hdg (fun H1 locs1 hP1 hD1 hS1 => by rw [hx1] at hP1 hD1; exact kk H1 locs1 (back H1 (eT t n _) hP1 hD1) hS1)
theorem h_last (C0 : Cw κ cl tl TB p s m args meth c cc nL own ret) (hh : hp κ cl h H) (hS : va_S (h_A κ) s.heap H locs) {t n : Nat} {f : Nat → Int64} {i : Int32} {x : Int64} (ha : rd h a = some (eJ t n f)) (hi : vp_in i n) (ht : tl[t]? = some .long) (hdg : decode cc pc = .ok (.lastore, 1))
    (kk : ∀ (H1 : Heap) (locs1 : List Loc), hp κ cl (h_up h a (eJ t n (vp_updL f i.toNatClampNeg x))) H1 → va_S (h_A κ) s.heap H1 locs1 → W p l e R s m args below meth c H1 locs1 cells slots Q (F0 m (pc + 1) ls rest)) : W p l e R s m args below meth c H locs cells slots Q (F0 m pc ls (.long x :: .int i :: .ref a :: rest)) := by
  obtain ⟨hx, hb, -, hown, hts, hK, -⟩ := C0
  obtain ⟨ws, j, hP, hD, hj, back, -⟩ := hh.at ha
  exact va_last hx hb hK hP hD hS j t hj (h_ty_at ht) hi hdg (fun H1 locs1 hP1 hD1 hS1 => kk H1 locs1 (back H1 (eJ t n _) hP1 hD1) hS1)
theorem h_new (C0 : Cw κ cl tl TB p s m args meth c cc nL own ret) (hh : hp κ cl h H) (hS : va_S (h_A κ) s.heap H locs) {C : String} {T : u_T} {N ci index : Nat} {fs : List Value} (hc : cl[ci]? = some (C, T, N)) (hin : ∀ w ∈ u_ws C T N, w ∈ TB) (ty0 : Nat → FieldType) (hty : ∀ k, k < N → parseFieldDescriptor (T k).2.2.1 = some (ty0 k)) (hcl : Cond.classLink own index C ∈ TB) (hinst : Cond.instantiable C N ∈ TB) (hini : Cond.initialized C ∈ TB) (hfs : ∀ j, j < N → defaultValue (ty0 j) = vp_V fs j) (hcells : cells + 1 ≤ R.cells) (hslots : slots + N ≤ R.slots) (hdg : decode cc pc = .ok (.new index, 3))
    (kk : ∀ (q : Nat) (H1 : Heap), rd h q = none → h_z κ ≤ q → hp κ cl (h_up h q (eO ci fs)) H1 → va_S (h_A κ) s.heap H1 locs → W p l e R s m args below meth c H1 locs (cells + 1) (slots + N) Q (F0 m (pc + 3) ls (.ref q :: rest))) : W p l e R s m args below meth c H locs cells slots Q (F0 m pc ls rest) := by
  obtain ⟨hx, hb, -, hown, hts, hK, hF0, -⟩ := C0
  obtain ⟨ws, hP, hD, hl, he⟩ := hh
  exact va_new hx hb hts hin ty0 hty hown (hts _ hcl) (hts _ hinst) (hts _ hini) hK hP hD hS (fun q hq => Nat.le_trans hF0.1 hq) hc hfs hcells hslots hdg (fun q H1 hP1 hD1 hS1 => by
    obtain ⟨g1, g2, g3⟩ := hp.push (κ := κ) (y := eO ci fs) (H := H) he hl hP1 hD1
    exact kk q H1 g1 g2 g3 hS1)
theorem h_newa (C0 : Cw κ cl tl TB p s m args meth c cc nL own ret) (hh : hp κ cl h H) (hS : va_S (h_A κ) s.heap H locs) {atype : ArrayType} {t N' : Nat} {ty : FieldType} {y : hE} {a0 : vp_A} {n : Int32} (ht : tl[t]? = some ty) (hty : newarray.typeOf atype = ty) (hy : h_tr κ y = .inl (κ.2.1 t, a0)) (ha0 : ∀ cA : ClassId, vp_cell cA a0 = arrV cA N' (fun _ => defaultValue ty)) (hn : ¬ n < 0) (hN : n.toNatClampNeg = N') (hbytes : N' * componentBytes ty ≤ 536870912) (harr : Cond.arrayClass (newarray.typeOf atype) ∈ TB) (hcells : cells + 1 ≤ R.cells) (hslots : slots + N' ≤ R.slots) (hdg : decode cc pc = .ok (.newarray atype, 2))
    (kk : ∀ (q : Nat) (H1 : Heap), rd h q = none → h_z κ ≤ q → hp κ cl (h_up h q y) H1 → va_S (h_A κ) s.heap H1 locs → W p l e R s m args below meth c H1 locs (cells + 1) (slots + N') Q (F0 m (pc + 2) ls (.ref q :: rest))) : W p l e R s m args below meth c H locs cells slots Q (F0 m pc ls (.int n :: rest)) := by
  obtain ⟨hx, hb, -, hown, hts, hK, hF0, -⟩ := C0
  obtain ⟨ws, hP, hD, hl, he⟩ := hh
  refine va_newa hx hb (hts _ harr) hty hK hP hD hS (fun q hq => Nat.le_trans hF0.1 hq) ha0 hn hN hbytes hcells hslots hdg (fun q cA H1 hK1 hP1 hD1 hS1 => ?_)
  have e1 : cA = κ.2.1 t := by
    have g1 := (hK.2 t _ (h_ty_at ht)).2
    have g2 := (hK1.2 (h_ty κ tl).length (cA, ty) (by simp)).2
    subst hty
    cases atype <;> exact Option.some.inj (Eq.trans (Eq.symm g2) g1)
  subst e1
  obtain ⟨g1, g2, g3⟩ := hp.push (κ := κ) (y := y) (H := H) he hl (by rw [hy]; exact hP1) (by rw [hy]; exact hD1)
  exact kk q H1 g1 g2 g3 hS1
theorem h_newq (C0 : Cw κ cl tl TB p s m args meth c cc nL own ret) (hh : hp κ cl h H) (hS : va_S (h_A κ) s.heap H locs) {C : String} {t index N : Nat} {n : Int32} (B : Nat) (ht : tl[t]? = some (.object C)) (hcl : Cond.classLink own index C ∈ TB) (hao : Cond.arrayOver (.object C) ∈ TB) (hn : ¬ n < 0) (hN : n.toNatClampNeg = N) (hB : N ≤ B) (hbytes : B * 4 ≤ 536870912) (hcells : cells + 1 ≤ R.cells) (hslots : slots + B ≤ R.slots) (hdg : decode cc pc = .ok (.anewarray index, 3))
    (kk : ∀ (q : Nat) (H1 : Heap), rd h q = none → h_z κ ≤ q → hp κ cl (h_up h q (eA t N (fun _ => none))) H1 → va_S (h_A κ) s.heap H1 locs → W p l e R s m args below meth c H1 locs (cells + 1) (slots + B) Q (F0 m (pc + 3) ls (.ref q :: rest))) : W p l e R s m args below meth c H locs cells slots Q (F0 m pc ls (.int n :: rest)) := by
  obtain ⟨hx, hb, -, hown, hts, hK, hF0, -⟩ := C0
  obtain ⟨ws, hP, hD, hl, he⟩ := hh
  refine va_newq hx hb hown (hts _ hcl) (hts (Cond.arrayOver (.object C)) hao) hK hP hD hS (fun q hq => Nat.le_trans hF0.1 hq) hn hN (by omega) hcells (by omega) hdg (fun q cA H1 hK1 hP1 hD1 hS1 => ?_)
  have e1 : cA = κ.2.1 t := by
    obtain ⟨-, -, -, -, -, g1⟩ := (hK.2 t _ (h_ty_at ht)).2
    obtain ⟨-, -, -, -, -, g2⟩ := (hK1.2 (h_ty κ tl).length (cA, .object C) (by simp)).2
    exact Option.some.inj (Eq.trans (Eq.symm g2) g1)
  subst e1
  obtain ⟨g1, g2, g3⟩ := hp.push (κ := κ) (y := eA t N (fun _ => none)) (H := H) he hl hP1 hD1
  exact W.widen (Nat.le_refl _) (by omega) (kk q H1 g1 g2 g3 hS1)
theorem h_recv (C0 : Cw κ cl tl TB p s m args meth c cc nL own ret) (hh : hp κ cl h H) {C : String} {T : u_T} {N ci : Nat} {fs : List Value} (ha : rd h a = some (eO ci fs)) (hc : cl[ci]? = some (C, T, N)) : ∃ cell : Cell, H[a]? = some cell ∧ cell.vm.isStatics = false ∧ s.vm.findClass C = some cell.cls := by
  obtain ⟨hx, hb, -, hown, hts, hK, -⟩ := C0
  obtain ⟨ws, j, hP, -, hj, -⟩ := hh.at ha
  exact va_recv hK hP hc hj
theorem h_cast (C0 : Cw κ cl tl TB p s m args meth c cc nL own ret) (hh : hp κ cl h H) {C : String} {T : u_T} {N ci index : Nat} {fs : List Value} (ha : rd h a = some (eO ci fs)) (hc : cl[ci]? = some (C, T, N)) (hlink : Cond.classLink own index C ∈ TB) (hdg : decode cc pc = .ok (.checkcast index, 3))
    (kk : W p l e R s m args below meth c H locs cells slots Q (F0 m (pc + 3) ls (.ref a :: rest))) : W p l e R s m args below meth c H locs cells slots Q (F0 m pc ls (.ref a :: rest)) := by
  have hr := h_recv C0 hh ha hc
  obtain ⟨hx, hb, -, hown, hts, hK, -⟩ := C0
  exact va_castS hx hb hown (hts _ hlink) (hK.1 ci _ hc).2 hr hdg kk
theorem h_aast (C0 : Cw κ cl tl TB p s m args meth c cc nL own ret) (hh : hp κ cl h H) (hS : va_S (h_A κ) s.heap H locs) {t n v ci N : Nat} {f : Nat → Option Nat} {i : Int32} {C E : String} {T : u_T} {fs : List Value} (ha : rd h a = some (eA t n f)) (hi : vp_in i n) (ht : tl[t]? = some (.object E)) (hv : rd h v = some (eO ci fs)) (hc : cl[ci]? = some (C, T, N)) (hasg : Cond.castable C E ∈ TB) (hdg : decode cc pc = .ok (.aastore, 1))
    (kk : ∀ (H1 : Heap) (locs1 : List Loc), hp κ cl (h_up h a (eA t n (va_up f i.toNatClampNeg (some v)))) H1 → va_S (h_A κ) s.heap H1 locs1 → W p l e R s m args below meth c H1 locs1 cells slots Q (F0 m (pc + 1) ls rest)) : W p l e R s m args below meth c H locs cells slots Q (F0 m pc ls (.ref v :: .int i :: .ref a :: rest)) := by
  have hr := h_recv C0 hh hv hc
  obtain ⟨hx, hb, -, hown, hts, hK, -⟩ := C0
  obtain ⟨ws, j, hP, hD, hj, back, -⟩ := hh.at ha
  exact vb_astq hx hb hK hP hD hS j t hj (h_ty_at ht) hr (vb_asgC (va_Nw.of rfl (hts _ hasg))) hi hdg (fun H1 locs1 hP1 hD1 hS1 => kk H1 locs1 (back H1 (eA t n _) hP1 hD1) hS1)
/-- the static empty array -/
theorem h_gets (C0 : Cw κ cl tl TB p s m args meth c cc nL own ret) (hh : hp κ cl h H) (hS : va_S (h_A κ) s.heap H locs) {index : Nat} (hlink : Cond.fieldLink own index "java/util/ArrayList" "DEFAULTCAPACITY_EMPTY_ELEMENTDATA" "[Ljava/lang/Object;" ∈ TB) (hdg : decode cc pc = .ok (.getstatic index, 3))
    (kk : W p l e R s m args below meth c H locs cells slots Q (F0 m (pc + 3) ls (.ref h.1 :: rest))) : W p l e R s m args below meth c H locs cells slots Q (F0 m pc ls rest) := by
  obtain ⟨hx, hb, -, hown, hts, hK, hF0, hZ0, -⟩ := C0
  obtain ⟨ws, hP, hD, hl, he⟩ := hh
  rw [he.1] at kk
  exact va_gets hx hb (va_Z.kept hZ0.1 (fun q h1 h2 => hF0.2 q (Nat.not_le.mp h2))) hS hown (hts _ hlink) (fun _ h9 => h9) hdg kk
/-- the length of a list's array: the static empty one, or one of the world -/
theorem h_alenE (C0 : Cw κ cl tl TB p s m args meth c cc nL own ret) (hh : hp κ cl h H) (hS : va_S (h_A κ) s.heap H locs) {t n : Nat} {ty : FieldType} (ha : (a = h.1 ∧ n = 0) ∨ ∃ f : Nat → Option Nat, rd h a = some (eA t n f)) (ht : tl[t]? = some ty) (hdg : decode cc pc = .ok (.arraylength, 1))
    (kk : W p l e R s m args below meth c H locs cells slots Q (F0 m (pc + 1) ls (.int (nI n) :: rest))) : W p l e R s m args below meth c H locs cells slots Q (F0 m pc ls (.ref a :: rest)) := by
  rcases ha with ⟨rfl, rfl⟩ | ⟨f, ha⟩
  · obtain ⟨hx, hb, -, hown, hts, hK, hF0, hZ0, -⟩ := C0
    obtain ⟨ws, hP, hD, hl, he⟩ := hh
    obtain ⟨cell, g1, g2, g3, g4, g5, g6, g7⟩ := hZ0.2.1
    have hF1 := hF0.go hS
    refine W.alen (cell := cell) (ty := .object "java/lang/Object") (n := nI 0) hx hb ?_ g2 g5 rfl rfl hdg kk
    rw [he.1, hF1.2 _ (Nat.not_le.mp g7)]
    exact g1
  · exact h_alenA C0 hh ha ht hdg kk
/-- System.arraycopy between lists' arrays -/
theorem h_copyq (C0 : Cw κ cl tl TB p s m args meth c cc nL own ret) (hh : hp κ cl h H) (hS : va_S (h_A κ) s.heap H locs) (hls : ls.size = nL) {index a0 t n0 n1 ci N : Nat} {f g : Nat → Option Nat} {sp dp n : Int32} {E C : String} {T : u_T} (hlink : Cond.methodLink own index arraycopyName ∈ TB) (hnat : Cond.native arraycopyName ∈ TB) (hstat : Cond.static arraycopyName ∈ TB) (hini : Cond.initialized "java/lang/System" ∈ TB) (ha0 : rd h a0 = some (eA t n0 f)) (ha1 : rd h a = some (eA t n1 g)) (ht : tl[t]? = some (.object E)) (h1 : ¬ sp < 0) (h2 : ¬ dp < 0) (h3 : ¬ n < 0) (h4 : sp.toNatClampNeg + n.toNatClampNeg ≤ n0) (h5 : dp.toNatClampNeg + n.toNatClampNeg ≤ n1) (hc : cl[ci]? = some (C, T, N)) (hel : ∀ i : Nat, i < n.toNatClampNeg → ∀ y : Nat, f (sp.toNatClampNeg + i) = some y → ∃ fs : List Value, rd h y = some (eO ci fs)) (hasg : Cond.castable C E ∈ TB) (hframes : 1 ≤ R.frames) (hlocals : (rest.map fun v => v.category).sum + (nativeFrameWords "java/lang/System" "arraycopy" 5 + 11) ≤ R.locals) (hdg : decode cc pc = .ok (.invokestatic index, 3))
    (kk : ∀ (H1 : Heap) (locs1 : List Loc), hp κ cl (h_up h a (eA t n1 (va_cpy f g sp.toNatClampNeg dp.toNatClampNeg n.toNatClampNeg))) H1 → va_S (h_A κ) s.heap H1 locs1 → W p l e R s m args below meth c H1 locs1 cells slots Q (F0 m (pc + 3) ls rest)) : W p l e R s m args below meth c H locs cells slots Q (F0 m pc ls (.int n :: .int dp :: .ref a :: .int sp :: .ref a0 :: rest)) := by
  have hr : ∀ i : Nat, i < n.toNatClampNeg → ∀ y : Nat, f (sp.toNatClampNeg + i) = some y → ∃ cellV : Cell, H[y]? = some cellV ∧ cellV.vm.isStatics = false ∧ s.vm.findClass C = some cellV.cls := fun i hi y hy => by
    obtain ⟨fs, hfs⟩ := hel i hi y hy
    exact h_recv C0 hh hfs hc
  obtain ⟨hx, hb, hml, hown, hts, hK, -⟩ := C0
  obtain ⟨ws, j, hP, hD, hj, back, hl⟩ := hh.at ha1
  obtain ⟨j0, hj0⟩ := hl a0 _ ha0
  exact va_copyq hx hb (hml.trans hls.symm) hown (hts _ hlink) (hts _ hnat) (hts _ hstat) (hts _ hini) hK hP hD hS j0 j t t hj0 hj (h_ty_at ht) (h_ty_at ht) h1 h2 h3 h4 h5 hr (vb_asgC (va_Nw.of rfl (hts _ hasg))) hframes hlocals hdg (fun H1 locs1 hP1 hD1 hS1 => kk H1 locs1 (back H1 (eA t n1 _) hP1 hD1) hS1)
/-- getClass() of a list's array; the class constant -/
theorem h_getC (C0 : Cw κ cl tl TB p s m args meth c cc nL own ret) (hh : hp κ cl h H) (hls : ls.size = nL) {index t n : Nat} {f : Nat → Option Nat} (ha : rd h a = some (eA t n f)) (ht : tl[t]? = some (.object "java/lang/Object")) (hlink : Cond.methodLink own index ⟨"java/lang/Object", "getClass", "()Ljava/lang/Class;"⟩ ∈ TB) (hdecl : Cond.declares ⟨"java/lang/Object", "getClass", "()Ljava/lang/Class;"⟩ ∈ TB) (hsel : Cond.selects "[Ljava/lang/Object;" ⟨"java/lang/Object", "getClass", "()Ljava/lang/Class;"⟩ ⟨"java/lang/Object", "getClass", "()Ljava/lang/Class;"⟩ ∈ TB) (hinst : Cond.instanceMethod ⟨"java/lang/Object", "getClass", "()Ljava/lang/Class;"⟩ ∈ TB) (hnat : Cond.native ⟨"java/lang/Object", "getClass", "()Ljava/lang/Class;"⟩ ∈ TB) (hframes : 1 ≤ R.frames) (hlocals : (rest.map fun v => v.category).sum + 14 ≤ R.locals) (hdg : decode cc pc = .ok (.invokevirtual index, 3))
    (kk : W p l e R s m args below meth c H locs cells slots Q (F0 m (pc + 3) ls (.ref h.2.1 :: rest))) : W p l e R s m args below meth c H locs cells slots Q (F0 m pc ls (.ref a :: rest)) := by
  obtain ⟨hx, hb, hml, hown, hts, hK, hF0, hZ0, -⟩ := C0
  obtain ⟨ws, j, hP, hD, hj, -, -⟩ := hh.at ha
  obtain ⟨-, -, -, -, he⟩ := hh
  rw [he.2] at kk
  have hN : s.vm.findClass "[Ljava/lang/Object;" = some (κ.2.1 t) := va_nmO (hK.2 t _ (h_ty_at ht)).2 (by decide)
  exact va_getC hx hb (hml.trans hls.symm) hown (hts _ hlink) (hts _ hdecl) (hts _ hsel) (hts _ hinst) (hts _ hnat) hZ0.2.2 ⟨_, hP j _ hj, rfl, hN⟩ hframes hlocals hdg kk
theorem h_ldcM (C0 : Cw κ cl tl TB p s m args meth c cc nL own ret) (hh : hp κ cl h H) {index : Nat} (hlink : Cond.classLink own index "[Ljava/lang/Object;" ∈ TB) (hdg : decode cc pc = .ok (.ldc index, 2))
    (kk : W p l e R s m args below meth c H locs cells slots Q (F0 m (pc + 2) ls (.ref h.2.1 :: rest))) : W p l e R s m args below meth c H locs cells slots Q (F0 m pc ls rest) := by
  obtain ⟨hx, hb, hml, hown, hts, hK, hF0, hZ0, -⟩ := C0
  obtain ⟨-, -, -, -, he⟩ := hh
  rw [he.2] at kk
  exact va_ldcM hx hb hown (hts _ hlink) hZ0.2.2 hdg kk
theorem h_topO {o : Option Nat} (k : ∀ y : Option Nat, y = o → W p l e R s m args below meth c H locs cells slots Q (F0 m pc ls (va_rf y :: rest))) : W p l e R s m args below meth c H locs cells slots Q (F0 m pc ls (va_rf o :: rest)) := k o rfl
theorem h_aload_nO (hexec : p.tables.exec = Jvm.exec) (hb : c.code = cc) {k : Fin 4} {i : Nat} {o : Option Nat} (hdg : decode cc pc = .ok (.aload_n k, 1)) (hi : (k : Nat) = i) (hl : ls[i]? = some (.val (va_rf o)))
    (kk : W p l e R s m args below meth c H locs cells slots Q (F0 m (pc + 1) ls (va_rf o :: rest))) : W p l e R s m args below meth c H locs cells slots Q (F0 m pc ls rest) := by
  cases o with
  | none => exact lv_aload_nN hexec hb hdg hi hl kk
  | some a => exact lv_aload_n hexec hb hdg hi hl kk
theorem h_aloadO (hexec : p.tables.exec = Jvm.exec) (hb : c.code = cc) {i : Nat} {o : Option Nat} (hdg : decode cc pc = .ok (.aload i, 2)) (hl : ls[i]? = some (.val (va_rf o)))
    (kk : W p l e R s m args below meth c H locs cells slots Q (F0 m (pc + 2) ls (va_rf o :: rest))) : W p l e R s m args below meth c H locs cells slots Q (F0 m pc ls rest) := by
  cases o with
  | none => exact lv_aloadN hexec hb hdg hl kk
  | some a => exact lv_aload hexec hb hdg hl kk
theorem h_astore_nO (hexec : p.tables.exec = Jvm.exec) (hb : c.code = cc) {k : Fin 4} {i nL : Nat} {o : Option Nat} {lv lv' : List (Nat × Value)} (hdg : decode cc pc = .ok (.astore_n k, 1)) (hi : (k : Nat) = i) (h : lv_has ls nL lv) (hn : i < nL) (hl : (i, va_rf o) :: lv.filter (fun q => !(q.1 == i) && !(q.1 + 1 == i && q.2.category == 2)) = lv')
    (kk : ∀ ls' : Array Slot, lv_has ls' nL lv' → W p l e R s m args below meth c H locs cells slots Q (F0 m (pc + 1) ls' rest)) : W p l e R s m args below meth c H locs cells slots Q (F0 m pc ls (va_rf o :: rest)) := by
  cases o with
  | none => exact lv_astore_nN hexec hb hdg hi h hn hl kk
  | some a => exact lv_astore_n hexec hb hdg hi h hn hl kk
theorem h_astoreO (hexec : p.tables.exec = Jvm.exec) (hb : c.code = cc) {i nL : Nat} {o : Option Nat} {lv lv' : List (Nat × Value)} (hdg : decode cc pc = .ok (.astore i, 2)) (h : lv_has ls nL lv) (hn : i < nL) (hl : (i, va_rf o) :: lv.filter (fun q => !(q.1 == i) && !(q.1 + 1 == i && q.2.category == 2)) = lv')
    (kk : ∀ ls' : Array Slot, lv_has ls' nL lv' → W p l e R s m args below meth c H locs cells slots Q (F0 m (pc + 2) ls' rest)) : W p l e R s m args below meth c H locs cells slots Q (F0 m pc ls (va_rf o :: rest)) := by
  cases o with
  | none => exact lv_astoreN hexec hb hdg h hn hl kk
  | some a => exact lv_astore hexec hb hdg h hn hl kk
end HL
theorem h_nz {x : Int32} (h : x = 0 ∨ x = 1) : narrow .boolean (.int x) = .int x := by rcases h with rfl | rfl <;> rfl
theorem h_fz {x : Int32} (h : x = 0 ∨ x = 1) : fits .boolean (.int x) = true := by rcases h with rfl | rfl <;> rfl
theorem h_vz {x : Int32} (h : x = 0 ∨ x = 1) : vp_nar .boolean x = x := by rcases h with rfl | rfl <;> rfl
theorem h_nO (t : FieldType) (o : Option Nat) : narrow (.array t) (va_rf o) = va_rf o := by cases o <;> rfl
theorem h_fO (t : FieldType) (o : Option Nat) : fits (.array t) (va_rf o) = true := by cases o <;> rfl
/-! calls, beginnings and ends of methods over maps -/
def TBm (TB : List Cond) : Prop := ∀ w ∈ TB, ∀ (A A' : Array Value) (u U : State), u.WarmedH U.vm → w.before A u = true → w.before A' U = true
def hQ (κ : hX) (cl : List vw_C) (Qp : Option Value → hM → Prop) : Array Value → State → Outcome → State → Prop := fun _ st oc t => (∃ (r : Option Value) (u : hM), oc = .returned r ∧ Qp r u ∧ hp κ cl u t.heap) ∧ va_F (h_A κ) st t
def hPc (κ : hX) (cl : List vw_C) (tl : List FieldType) (TB : List Cond) (av : List Value) (h : hM) : Array Value → State → Prop := va_Pc av (fun U => hp κ cl h U.heap ∧ (∀ w ∈ TB, w.before #[] U = true) ∧ va_K κ.1 cl (h_ty κ tl) U ∧ hF κ U.heap ∧ hZ κ U)
theorem hPc.blind {κ : hX} {cl : List vw_C} {tl : List FieldType} {TB : List Cond} (hT : TBm TB) {av : List Value} {h : hM} : FrameBlind (hPc κ cl tl TB av h) := by
  intro a U g mk q
  obtain ⟨q0, q1, q2, q3, q4, q5⟩ := q
  exact ⟨q0, q1, fun w hw => hT w hw #[] #[] U (U.calling g mk a) (State.WarmedH.refl U) (q2 w hw), va_K.moved (u := U) (U := U.calling g mk a) (Vm.Alike.refl U.vm) q3, q4, hZ.moved (u := U) (U := U.calling g mk a) (Vm.Alike.refl U.vm) q5⟩
section HC
variable {p : Program} {l : Launch} {e : Env} {R : Room} {s : State} {m : MethodId} {args : Array Value} {below : List Frame} {meth : Method} {c : Code} {H : Heap} {locs : List Loc} {cells slots : Nat} {Q : State → Prop}
variable {cc : ByteArray} {pc nL : Nat} {ls : Array Slot} {rest : List Value} {κ : hX} {cl : List vw_C} {tl : List FieldType} {TB : List Cond} {own : String} {ret : Option FieldType} {h : hM} {a : Nat}
/-- the callee's start, out of the caller's walk -/
theorem h_pre (C0 : Cw κ cl tl TB p s m args meth c cc nL own ret) (hT : TBm TB) (hh : hp κ cl h H) (hS : va_S (h_A κ) s.heap H locs) {av : List Value} (U : State) (hU : U.heap = H) (hW : s.WarmedH U.vm) : hPc κ cl tl TB av h av.toArray U := by
  obtain ⟨hx, hb, -, hown, hts, hK, hF0, hZ0, -⟩ := C0
  exact ⟨rfl, by rw [hU]; exact hh, fun w hw => hT w hw args #[] s U hW (hts w hw), va_K.moved hW.alike hK, by rw [hU]; exact hF0.go hS, hZ0.moved hW.alike⟩
/-- behind a call -/
theorem h_back {Qp : Option Value → hM → Prop} {st0 : List Value} {av : Array Value} {mc ms : Nat} (hr : va_Run p l e R s m args below meth c H locs cells slots mc ms (F0 m pc ls st0) rest (hQ κ cl Qp av) (h_A κ)) (hS : va_S (h_A κ) s.heap H locs)
    (kk : ∀ (r : Option Value) (u : hM) (H1 : Heap) (locs1 : List Loc), Qp r u → hp κ cl u H1 → va_S (h_A κ) s.heap H1 locs1 → W p l e R s m args below meth c H1 locs1 (cells + mc) (slots + ms) Q (F0 m (pc + 3) ls (r.toList ++ rest))) : W p l e R s m args below meth c H locs cells slots Q (F0 m pc ls st0) := by
  intro T hT X
  obtain ⟨v, st₀, t, T', L, h0, X', hL, e1, e2, ⟨⟨r, u, hv, hp1, hb⟩, hz, hk⟩, st⟩ := hr T hT X
  cases hv
  rw [h0] at hz hk
  obtain ⟨t2, a1, b1⟩ := kk v u T'.heap (locs ++ L) hp1 (by rw [e1]; exact hb)
    ⟨Nat.le_trans hS.1 (by rw [e1]; exact hz), fun q h1 h2 => by rw [e1, hk q (Nat.lt_of_lt_of_le h1 hS.1) h2]; exact hS.2.1 q h1 h2, fun q hq => by
      rcases List.mem_append.mp hq with h | h
      · exact hS.2.2 q h
      · exact hL q h⟩ T' rfl X'
  exact ⟨t2, st t2 a1, b1⟩
theorem h_cb (C0 : Cw κ cl tl TB p s m args meth c cc nL own ret) (hT : TBm TB) {index : Nat} {y : MethodName} {bytes : ByteArray} {maxL : Nat} {ret1 : Option FieldType} {rm : Room} {n : Nat} (m1 : Cond.methodLink own index y ∈ TB) (m4 : Cond.initialized y.cls ∈ TB) (m5 : Cond.code y bytes maxL ret1 ∈ TB)
    (hd : y.cls ≠ "java/lang/invoke/MethodHandle" ∧ y.cls ≠ "java/lang/invoke/VarHandle" ∧ (parseMethodDescriptor y.desc).map (fun d => d.parameters.length) = some n) (hR : rm.frames + 1 ≤ R.frames ∧ 8 + (maxL + 11) + rm.locals ≤ R.locals) : CallB R s args own index y bytes maxL ret1 [Cond.code y bytes maxL ret1] rm rm.cells rm.slots n := by
  obtain ⟨hx, hb, -, hown, hts, hK, hF0, -⟩ := C0
  refine ⟨rfl, rfl, hR.1, hR.2, fun w hw a' U hW => ?_, List.mem_cons_self, hts _ m5, hts _ m4, ⟨hd.1, hd.2.1⟩, fun sig h => ?_, hts _ m1⟩
  · rw [List.mem_singleton.mp hw]
    exact hT _ m5 args a' s U hW (hts _ m5)
  · have h2 := hd.2.2
    rw [h] at h2
    exact (Option.some.inj h2).symm
/-- a virtual call of the receiver's own method -/
theorem h_callV (C0 : Cw κ cl tl TB p s m args meth c cc nL own ret) (hT : TBm TB) (hh : hp κ cl h H) (hS : va_S (h_A κ) s.heap H locs) (hl : ls.size = nL) {C : String} {T : u_T} {N ci index b n : Nat} {fs : List Value} {y : MethodName} {bytes : ByteArray} {maxL : Nat} {ret1 : Option FieldType} {rm : Room} (As : List Value) (rest : List Value) {st0 : List Value} {Qp : Option Value → hM → Prop}
    (hMt : Met l y [Cond.code y bytes maxL ret1] rm (hPc κ cl tl TB (.ref b :: As) h) (hQ κ cl Qp) rm.cells rm.slots (h_A κ)) (hb : rd h b = some (eO ci fs)) (hc : cl[ci]? = some (C, T, N)) (m1 : Cond.methodLink own index y ∈ TB) (m2 : Cond.instanceMethod y ∈ TB) (m3 : Cond.selects C y y ∈ TB) (m4 : Cond.initialized y.cls ∈ TB) (m5 : Cond.code y bytes maxL ret1 ∈ TB)
    (hd : y.cls ≠ "java/lang/invoke/MethodHandle" ∧ y.cls ≠ "java/lang/invoke/VarHandle" ∧ (parseMethodDescriptor y.desc).map (fun d => d.parameters.length) = some n) (hn : As.length = n) (hst : st0 = As.reverse ++ .ref b :: rest) (hroom : (rest.map fun v => v.category).sum ≤ 8) (hR : rm.frames + 1 ≤ R.frames ∧ 8 + (maxL + 11) + rm.locals ≤ R.locals) (hf : cells + rm.cells ≤ R.cells ∧ slots + rm.slots ≤ R.slots) (hdg : decode cc pc = .ok (.invokevirtual index, 3))
    (kk : ∀ (r : Option Value) (u : hM) (H1 : Heap) (locs1 : List Loc), Qp r u → hp κ cl u H1 → va_S (h_A κ) s.heap H1 locs1 → W p l e R s m args below meth c H1 locs1 (cells + rm.cells) (slots + rm.slots) Q (F0 m (pc + 3) ls (r.toList ++ rest))) : W p l e R s m args below meth c H locs cells slots Q (F0 m pc ls st0) := by
  have hcb := h_cb (n := n) (rm := rm) (R := R) C0 hT m1 m4 m5 hd hR
  have hpre := fun U hU hW => h_pre (av := .ref b :: As) C0 hT hh hS U hU hW
  obtain ⟨ws, j, hP, -, hj, -⟩ := hh.at hb
  obtain ⟨hx, hbc, hml, hown, hts, hK, hF0, -⟩ := C0
  exact h_back (va_runV (As := As) (rest := rest) ⟨hx, hbc, hml, hown, hts⟩ hMt ⟨hcb, hts _ m2, hts _ m3⟩ ⟨hPc.blind hT, va_recv hK hP hc hj, hpre⟩ rfl hn hl hst (lv_room hroom) hdg hf) hS kk
theorem h_callS (C0 : Cw κ cl tl TB p s m args meth c cc nL own ret) (hT : TBm TB) (hh : hp κ cl h H) (hS : va_S (h_A κ) s.heap H locs) (hl : ls.size = nL) {index n : Nat} {y : MethodName} {bytes : ByteArray} {maxL : Nat} {ret1 : Option FieldType} {rm : Room} (As : List Value) (rest : List Value) {st0 : List Value} {Qp : Option Value → hM → Prop}
    (hMt : Met l y [Cond.code y bytes maxL ret1] rm (hPc κ cl tl TB As h) (hQ κ cl Qp) rm.cells rm.slots (h_A κ)) (m1 : Cond.methodLink own index y ∈ TB) (m2 : Cond.static y ∈ TB) (m4 : Cond.initialized y.cls ∈ TB) (m5 : Cond.code y bytes maxL ret1 ∈ TB)
    (hd : y.cls ≠ "java/lang/invoke/MethodHandle" ∧ y.cls ≠ "java/lang/invoke/VarHandle" ∧ (parseMethodDescriptor y.desc).map (fun d => d.parameters.length) = some n) (hn : As.length = n) (hst : st0 = As.reverse ++ rest) (hroom : (rest.map fun v => v.category).sum ≤ 8) (hR : rm.frames + 1 ≤ R.frames ∧ 8 + (maxL + 11) + rm.locals ≤ R.locals) (hf : cells + rm.cells ≤ R.cells ∧ slots + rm.slots ≤ R.slots) (hdg : decode cc pc = .ok (.invokestatic index, 3))
    (kk : ∀ (r : Option Value) (u : hM) (H1 : Heap) (locs1 : List Loc), Qp r u → hp κ cl u H1 → va_S (h_A κ) s.heap H1 locs1 → W p l e R s m args below meth c H1 locs1 (cells + rm.cells) (slots + rm.slots) Q (F0 m (pc + 3) ls (r.toList ++ rest))) : W p l e R s m args below meth c H locs cells slots Q (F0 m pc ls st0) := by
  have hcb := h_cb (n := n) (rm := rm) (R := R) C0 hT m1 m4 m5 hd hR
  have hpre := fun U hU hW => h_pre (av := As) C0 hT hh hS U hU hW
  obtain ⟨hx, hbc, hml, hown, hts, hK, hF0, -⟩ := C0
  exact h_back (va_runS (As := As) (rest := rest) ⟨hx, hbc, hml, hown, hts⟩ hMt ⟨hcb, hts _ m2⟩ ⟨hPc.blind hT, hpre⟩ rfl hn hl hst (lv_room hroom) hdg hf) hS kk
theorem h_callI (C0 : Cw κ cl tl TB p s m args meth c cc nL own ret) (hT : TBm TB) (hh : hp κ cl h H) (hS : va_S (h_A κ) s.heap H locs) (hl : ls.size = nL) {index b n : Nat} {y : MethodName} {bytes : ByteArray} {maxL : Nat} {rm : Room} (As : List Value) (rest : List Value) {st0 : List Value} {Qp : Option Value → hM → Prop}
    (hMt : Met l y [Cond.code y bytes maxL none] rm (hPc κ cl tl TB (.ref b :: As) h) (hQ κ cl Qp) rm.cells rm.slots (h_A κ)) (m1 : Cond.methodLink own index y ∈ TB) (m2 : Cond.instanceMethod y ∈ TB) (hy : y.name = "<init>") (m4 : Cond.initialized y.cls ∈ TB) (m5 : Cond.code y bytes maxL none ∈ TB)
    (hd : y.cls ≠ "java/lang/invoke/MethodHandle" ∧ y.cls ≠ "java/lang/invoke/VarHandle" ∧ (parseMethodDescriptor y.desc).map (fun d => d.parameters.length) = some n) (hn : As.length = n) (hst : st0 = As.reverse ++ .ref b :: rest) (hroom : (rest.map fun v => v.category).sum ≤ 8) (hR : rm.frames + 1 ≤ R.frames ∧ 8 + (maxL + 11) + rm.locals ≤ R.locals) (hf : cells + rm.cells ≤ R.cells ∧ slots + rm.slots ≤ R.slots) (hdg : decode cc pc = .ok (.invokespecial index, 3))
    (kk : ∀ (r : Option Value) (u : hM) (H1 : Heap) (locs1 : List Loc), Qp r u → hp κ cl u H1 → va_S (h_A κ) s.heap H1 locs1 → W p l e R s m args below meth c H1 locs1 (cells + rm.cells) (slots + rm.slots) Q (F0 m (pc + 3) ls (r.toList ++ rest))) : W p l e R s m args below meth c H locs cells slots Q (F0 m pc ls st0) := by
  have hcb := h_cb (n := n) (rm := rm) (R := R) C0 hT m1 m4 m5 hd hR
  have hpre := fun U hU hW => h_pre (av := .ref b :: As) C0 hT hh hS U hU hW
  obtain ⟨hx, hbc, hml, hown, hts, hK, hF0, -⟩ := C0
  exact h_back (va_runI (As := As) (rest := rest) ⟨hx, hbc, hml, hown, hts⟩ hMt ⟨hcb, hy, hts _ m2⟩ ⟨hPc.blind hT, hpre⟩ rfl hn hl hst (lv_room hroom) hdg hf) hS kk
/-- a method's beginning -/
theorem h_enter (hT : TBm TB) {y : MethodName} {maxL : Nat} {rm : Room} {mc ms : Nat} {av : List Value} {Qp : Option Value → hM → Prop} (hy : plainName y.cls = true) (hlen : (lg_sl av).length ≤ maxL)
    (body : ∀ (p : Program) (e : Env) (s : State) (m : MethodId) (args : Array Value) (below : List Frame) (meth : Method) (c : Code), Cw κ cl tl TB p s m args meth c cc maxL y.cls ret → meth.name = y.name → hp κ cl h s.heap → va_S (h_A κ) s.heap s.heap [] → ∀ ls : Array Slot, lv_has ls maxL (lv_args 0 av) → W p l e rm s m args below meth c s.heap [] 0 0 (MQ below (hQ κ cl Qp) args s mc ms (h_A κ)) (F0 m 0 ls [])) :
    Met l y [Cond.code y cc maxL ret] rm (hPc κ cl tl TB av h) (hQ κ cl Qp) mc ms (h_A κ) := by
  refine Met.ofW (cc := cc) (maxL := maxL) (ret := ret) hy rfl ?_
  intro p e s m args below meth c s₁ B hml hv
  obtain ⟨rfl, hh, hw, hK, hF0, hZ0⟩ := hv
  have hown : s.vm.findClass y.cls = some m.cls := findClass_of_methodNamed B.named
  have hnm : meth.name = y.name := (name_of_methodNamed B.named B.method).1
  rw [lg_entry_eq]
  exact body p e s m _ below meth c ⟨B.exec, B.bytes, hml, hown, fun w hw1 => hT w hw1 #[] _ s s (State.WarmedH.refl s) (hw w hw1), hK, hF0, hZ0, B.returns, B.notSynchronized⟩ hnm hh va_S.rf _ (lv_entry av hlen)
theorem h_iret (C0 : Cw κ cl tl TB p s m args meth c cc nL own ret) (hh : hp κ cl h H) (hS : va_S (h_A κ) s.heap H locs) {Qp : Option Value → hM → Prop} {v : Int32} {ty : FieldType} (hr : ret = some ty) (hn : narrow ty (.int v) = .int v) (hq : Qp (some (.int v)) h) (hdg : decode cc pc = .ok (.ireturn, 1)) : W p l e R s m args below meth c H locs cells slots (MQ below (hQ κ cl Qp) args s cells slots (h_A κ)) (F0 m pc ls [.int v]) := by
  obtain ⟨hx, hb, -, -, -, -, -, -, hret, hlocks⟩ := C0
  subst hr
  exact W.zret hx hb hret hn (fun t ht hW => ⟨⟨_, h, rfl, hq, by rw [ht]; exact hh⟩, hS.F ht⟩) hS.2.2 hdg hlocks
theorem h_lret (C0 : Cw κ cl tl TB p s m args meth c cc nL own ret) (hh : hp κ cl h H) (hS : va_S (h_A κ) s.heap H locs) {Qp : Option Value → hM → Prop} {v : Int64} (hr : ret = some .long) (hq : Qp (some (.long v)) h) (hdg : decode cc pc = .ok (.lreturn, 1)) : W p l e R s m args below meth c H locs cells slots (MQ below (hQ κ cl Qp) args s cells slots (h_A κ)) (F0 m pc ls [.long v]) := by
  obtain ⟨hx, hb, -, -, -, -, -, -, hret, hlocks⟩ := C0
  subst hr
  exact W.lret hx hb hret (fun t ht hW => ⟨⟨_, h, rfl, hq, by rw [ht]; exact hh⟩, hS.F ht⟩) hS.2.2 hdg hlocks
theorem h_vret (C0 : Cw κ cl tl TB p s m args meth c cc nL own ret) (hh : hp κ cl h H) (hS : va_S (h_A κ) s.heap H locs) {Qp : Option Value → hM → Prop} (hr : ret = none) (hq : Qp none h) (hdg : decode cc pc = .ok (.return_, 1)) : W p l e R s m args below meth c H locs cells slots (MQ below (hQ κ cl Qp) args s cells slots (h_A κ)) (F0 m pc ls []) := by
  obtain ⟨hx, hb, -, -, -, -, -, -, hret, hlocks⟩ := C0
  subst hr
  exact W.vret hx hb hret (fun t ht hW => ⟨⟨_, h, rfl, hq, by rw [ht]; exact hh⟩, hS.F ht⟩) hS.2.2 hdg hlocks
theorem h_aret (C0 : Cw κ cl tl TB p s m args meth c cc nL own ret) (hh : hp κ cl h H) (hS : va_S (h_A κ) s.heap H locs) {Qp : Option Value → hM → Prop} {o : Option Nat} {rt : FieldType} (hr : ret = some rt) (hrt : (∃ n, rt = .object n) ∨ ∃ t, rt = .array t) (hq : Qp (some (va_rf o)) h) (hdg : decode cc pc = .ok (.areturn, 1)) : W p l e R s m args below meth c H locs cells slots (MQ below (hQ κ cl Qp) args s cells slots (h_A κ)) (F0 m pc ls [va_rf o]) := by
  obtain ⟨hx, hb, -, -, -, -, -, -, hret, hlocks⟩ := C0
  subst hr
  exact W.aret hx hb hret hrt (va_rf_or o) (fun t ht hW => ⟨⟨_, h, rfl, hq, by rw [ht]; exact hh⟩, hS.F ht⟩) hS.2.2 hdg hlocks
end HC
/-- a result of a kind -/
def qI (Q : Int32 → hM → Prop) : Option Value → hM → Prop := fun r u => ∃ x : Int32, r = some (.int x) ∧ Q x u
def qJ (Q : Int64 → hM → Prop) : Option Value → hM → Prop := fun r u => ∃ x : Int64, r = some (.long x) ∧ Q x u
def qO (Q : Option Nat → hM → Prop) : Option Value → hM → Prop := fun r u => ∃ x : Option Nat, r = some (va_rf x) ∧ Q x u
def qV (Q : hM → Prop) : Option Value → hM → Prop := fun r u => r = none ∧ Q u
section HK
variable {p : Program} {l : Launch} {e : Env} {R : Room} {s : State} {m : MethodId} {args : Array Value} {below : List Frame} {meth : Method} {c : Code} {c0 s0 k n : Nat} {Q : State → Prop} {pc : Nat} {ls : Array Slot} {rest : List Value} {κ : hX} {cl : List vw_C}
theorem h_kI {Qp : Int32 → hM → Prop} (h1 : c0 ≤ k) (h2 : s0 ≤ n) (kk : ∀ (x : Int32) (u : hM) (H1 : Heap) (locs1 : List Loc), Qp x u → hp κ cl u H1 → va_S (h_A κ) s.heap H1 locs1 → W p l e R s m args below meth c H1 locs1 k n Q (F0 m pc ls (.int x :: rest))) :
    ∀ (r : Option Value) (u : hM) (H1 : Heap) (locs1 : List Loc), qI Qp r u → hp κ cl u H1 → va_S (h_A κ) s.heap H1 locs1 → W p l e R s m args below meth c H1 locs1 c0 s0 Q (F0 m pc ls (r.toList ++ rest)) := by
  intro r u H1 locs1 hq hh hS
  obtain ⟨x, rfl, hq⟩ := hq
  exact W.widen h1 h2 (kk x u H1 locs1 hq hh hS)
theorem h_kJ {Qp : Int64 → hM → Prop} (h1 : c0 ≤ k) (h2 : s0 ≤ n) (kk : ∀ (x : Int64) (u : hM) (H1 : Heap) (locs1 : List Loc), Qp x u → hp κ cl u H1 → va_S (h_A κ) s.heap H1 locs1 → W p l e R s m args below meth c H1 locs1 k n Q (F0 m pc ls (.long x :: rest))) :
    ∀ (r : Option Value) (u : hM) (H1 : Heap) (locs1 : List Loc), qJ Qp r u → hp κ cl u H1 → va_S (h_A κ) s.heap H1 locs1 → W p l e R s m args below meth c H1 locs1 c0 s0 Q (F0 m pc ls (r.toList ++ rest)) := by
  intro r u H1 locs1 hq hh hS
  obtain ⟨x, rfl, hq⟩ := hq
  exact W.widen h1 h2 (kk x u H1 locs1 hq hh hS)
theorem h_kO {Qp : Option Nat → hM → Prop} (h1 : c0 ≤ k) (h2 : s0 ≤ n) (kk : ∀ (x : Option Nat) (u : hM) (H1 : Heap) (locs1 : List Loc), Qp x u → hp κ cl u H1 → va_S (h_A κ) s.heap H1 locs1 → W p l e R s m args below meth c H1 locs1 k n Q (F0 m pc ls (va_rf x :: rest))) :
    ∀ (r : Option Value) (u : hM) (H1 : Heap) (locs1 : List Loc), qO Qp r u → hp κ cl u H1 → va_S (h_A κ) s.heap H1 locs1 → W p l e R s m args below meth c H1 locs1 c0 s0 Q (F0 m pc ls (r.toList ++ rest)) := by
  intro r u H1 locs1 hq hh hS
  obtain ⟨x, rfl, hq⟩ := hq
  exact W.widen h1 h2 (kk x u H1 locs1 hq hh hS)
theorem h_kV {Qp : hM → Prop} (h1 : c0 ≤ k) (h2 : s0 ≤ n) (kk : ∀ (u : hM) (H1 : Heap) (locs1 : List Loc), Qp u → hp κ cl u H1 → va_S (h_A κ) s.heap H1 locs1 → W p l e R s m args below meth c H1 locs1 k n Q (F0 m pc ls rest)) :
    ∀ (r : Option Value) (u : hM) (H1 : Heap) (locs1 : List Loc), qV Qp r u → hp κ cl u H1 → va_S (h_A κ) s.heap H1 locs1 → W p l e R s m args below meth c H1 locs1 c0 s0 Q (F0 m pc ls (r.toList ++ rest)) := by
  intro r u H1 locs1 hq hh hS
  obtain ⟨rfl, hq⟩ := hq
  exact W.widen h1 h2 (kk u H1 locs1 hq hh hS)
end HK
end
section
-- ===== PART A: goes FIRST, ahead of the names: the tables' words, and 'selects' of the private methods out of them =====
/-- a private method of a class that the tables say can be made, by its rows of tables_1 -/
def lw_okq (q : MethodName × Nat) : Prop := (q.1.cls ≠ "java/lang/invoke/MethodHandle" ∧ q.1.cls ≠ "java/lang/invoke/VarHandle") ∧ Cond.instantiable q.1.cls q.2 ∈ tables_1 ∧ Cond.privateMethod q.1 ∈ tables_1 ∧ Cond.instanceMethod q.1 ∈ tables_1
theorem lw_p0 : lw_okq (⟨"java/util/ArrayList", "add", "(Ljava/lang/Object;[Ljava/lang/Object;I)V"⟩, 3) := ⟨⟨by decide +kernel, by decide +kernel⟩, List.mem_of_getElem? (i := 29) (by decide +kernel), List.mem_of_getElem? (i := 166) (by decide +kernel), List.mem_of_getElem? (i := 167) (by decide +kernel)⟩
theorem lw_p1 : lw_okq (⟨"java/util/ArrayList", "grow", "()[Ljava/lang/Object;"⟩, 3) := ⟨⟨by decide +kernel, by decide +kernel⟩, List.mem_of_getElem? (i := 29) (by decide +kernel), List.mem_of_getElem? (i := 170) (by decide +kernel), List.mem_of_getElem? (i := 171) (by decide +kernel)⟩
theorem lw_p2 : lw_okq (⟨"java/util/ArrayList", "grow", "(I)[Ljava/lang/Object;"⟩, 3) := ⟨⟨by decide +kernel, by decide +kernel⟩, List.mem_of_getElem? (i := 29) (by decide +kernel), List.mem_of_getElem? (i := 174) (by decide +kernel), List.mem_of_getElem? (i := 175) (by decide +kernel)⟩
theorem lw_p3 : lw_okq (⟨"InitiatorRows", "findInitiator", "(I)LInitiatorRows$Initiator;"⟩, 12) := ⟨⟨by decide +kernel, by decide +kernel⟩, List.mem_of_getElem? (i := 21) (by decide +kernel), List.mem_of_getElem? (i := 221) (by decide +kernel), List.mem_of_getElem? (i := 222) (by decide +kernel)⟩
theorem lw_p4 : lw_okq (⟨"InitiatorRows", "findJob", "(I)LInitiatorRows$Job;"⟩, 12) := ⟨⟨by decide +kernel, by decide +kernel⟩, List.mem_of_getElem? (i := 21) (by decide +kernel), List.mem_of_getElem? (i := 314) (by decide +kernel), List.mem_of_getElem? (i := 315) (by decide +kernel)⟩
theorem lw_p5 : lw_okq (⟨"InitiatorRows", "addNeed", "(LInitiatorRows$Job;LInitiatorRows$Job;)V"⟩, 12) := ⟨⟨by decide +kernel, by decide +kernel⟩, List.mem_of_getElem? (i := 21) (by decide +kernel), List.mem_of_getElem? (i := 326) (by decide +kernel), List.mem_of_getElem? (i := 327) (by decide +kernel)⟩
theorem lw_p6 : lw_okq (⟨"InitiatorRows", "nextFor", "(LInitiatorRows$Initiator;)LInitiatorRows$Job;"⟩, 12) := ⟨⟨by decide +kernel, by decide +kernel⟩, List.mem_of_getElem? (i := 21) (by decide +kernel), List.mem_of_getElem? (i := 361) (by decide +kernel), List.mem_of_getElem? (i := 362) (by decide +kernel)⟩
theorem lw_p7 : lw_okq (⟨"InitiatorRows", "nextOfClass", "(I)LInitiatorRows$Job;"⟩, 12) := ⟨⟨by decide +kernel, by decide +kernel⟩, List.mem_of_getElem? (i := 21) (by decide +kernel), List.mem_of_getElem? (i := 365) (by decide +kernel), List.mem_of_getElem? (i := 366) (by decide +kernel)⟩
theorem lw_p8 : lw_okq (⟨"InitiatorRows", "mayStart", "(LInitiatorRows$Job;)Z"⟩, 12) := ⟨⟨by decide +kernel, by decide +kernel⟩, List.mem_of_getElem? (i := 21) (by decide +kernel), List.mem_of_getElem? (i := 369) (by decide +kernel), List.mem_of_getElem? (i := 370) (by decide +kernel)⟩
theorem lw_p9 : lw_okq (⟨"InitiatorRows", "isWindowOpen", "(I)Z"⟩, 12) := ⟨⟨by decide +kernel, by decide +kernel⟩, List.mem_of_getElem? (i := 21) (by decide +kernel), List.mem_of_getElem? (i := 373) (by decide +kernel), List.mem_of_getElem? (i := 374) (by decide +kernel)⟩
theorem lw_p10 : lw_okq (⟨"InitiatorRows", "areUnitsEnough", "(LInitiatorRows$Job;)Z"⟩, 12) := ⟨⟨by decide +kernel, by decide +kernel⟩, List.mem_of_getElem? (i := 21) (by decide +kernel), List.mem_of_getElem? (i := 383) (by decide +kernel), List.mem_of_getElem? (i := 384) (by decide +kernel)⟩
theorem lw_p11 : lw_okq (⟨"InitiatorRows", "priorityNow", "(LInitiatorRows$Job;)I"⟩, 12) := ⟨⟨by decide +kernel, by decide +kernel⟩, List.mem_of_getElem? (i := 21) (by decide +kernel), List.mem_of_getElem? (i := 387) (by decide +kernel), List.mem_of_getElem? (i := 388) (by decide +kernel)⟩
theorem lw_p12 : lw_okq (⟨"InitiatorRows", "startJob", "(LInitiatorRows$Initiator;LInitiatorRows$Job;)V"⟩, 12) := ⟨⟨by decide +kernel, by decide +kernel⟩, List.mem_of_getElem? (i := 21) (by decide +kernel), List.mem_of_getElem? (i := 394) (by decide +kernel), List.mem_of_getElem? (i := 395) (by decide +kernel)⟩
theorem lw_p13 : lw_okq (⟨"InitiatorRows", "stopJob", "(LInitiatorRows$Job;)V"⟩, 12) := ⟨⟨by decide +kernel, by decide +kernel⟩, List.mem_of_getElem? (i := 21) (by decide +kernel), List.mem_of_getElem? (i := 407) (by decide +kernel), List.mem_of_getElem? (i := 408) (by decide +kernel)⟩
theorem lw_p14 : lw_okq (⟨"InitiatorRows", "jobsIn", "(I)I"⟩, 12) := ⟨⟨by decide +kernel, by decide +kernel⟩, List.mem_of_getElem? (i := 21) (by decide +kernel), List.mem_of_getElem? (i := 448) (by decide +kernel), List.mem_of_getElem? (i := 449) (by decide +kernel)⟩
theorem lw_p15 : lw_okq (⟨"InitiatorRows", "drainedAndIdle", "()I"⟩, 12) := ⟨⟨by decide +kernel, by decide +kernel⟩, List.mem_of_getElem? (i := 21) (by decide +kernel), List.mem_of_getElem? (i := 452) (by decide +kernel), List.mem_of_getElem? (i := 453) (by decide +kernel)⟩
def lw_privs_1 : List (MethodName × Nat) := [(⟨"java/util/ArrayList", "add", "(Ljava/lang/Object;[Ljava/lang/Object;I)V"⟩, 3), (⟨"java/util/ArrayList", "grow", "()[Ljava/lang/Object;"⟩, 3), (⟨"java/util/ArrayList", "grow", "(I)[Ljava/lang/Object;"⟩, 3), (⟨"InitiatorRows", "findInitiator", "(I)LInitiatorRows$Initiator;"⟩, 12), (⟨"InitiatorRows", "findJob", "(I)LInitiatorRows$Job;"⟩, 12), (⟨"InitiatorRows", "addNeed", "(LInitiatorRows$Job;LInitiatorRows$Job;)V"⟩, 12), (⟨"InitiatorRows", "nextFor", "(LInitiatorRows$Initiator;)LInitiatorRows$Job;"⟩, 12), (⟨"InitiatorRows", "nextOfClass", "(I)LInitiatorRows$Job;"⟩, 12), (⟨"InitiatorRows", "mayStart", "(LInitiatorRows$Job;)Z"⟩, 12), (⟨"InitiatorRows", "isWindowOpen", "(I)Z"⟩, 12), (⟨"InitiatorRows", "areUnitsEnough", "(LInitiatorRows$Job;)Z"⟩, 12), (⟨"InitiatorRows", "priorityNow", "(LInitiatorRows$Job;)I"⟩, 12), (⟨"InitiatorRows", "startJob", "(LInitiatorRows$Initiator;LInitiatorRows$Job;)V"⟩, 12), (⟨"InitiatorRows", "stopJob", "(LInitiatorRows$Job;)V"⟩, 12), (⟨"InitiatorRows", "jobsIn", "(I)I"⟩, 12), (⟨"InitiatorRows", "drainedAndIdle", "()I"⟩, 12)]
theorem lw_r1 : ∀ q ∈ lw_privs_1, lw_okq q := List.forall_mem_cons.mpr ⟨lw_p0, List.forall_mem_cons.mpr ⟨lw_p1, List.forall_mem_cons.mpr ⟨lw_p2, List.forall_mem_cons.mpr ⟨lw_p3, List.forall_mem_cons.mpr ⟨lw_p4, List.forall_mem_cons.mpr ⟨lw_p5, List.forall_mem_cons.mpr ⟨lw_p6, List.forall_mem_cons.mpr ⟨lw_p7, List.forall_mem_cons.mpr ⟨lw_p8, List.forall_mem_cons.mpr ⟨lw_p9, List.forall_mem_cons.mpr ⟨lw_p10, List.forall_mem_cons.mpr ⟨lw_p11, List.forall_mem_cons.mpr ⟨lw_p12, List.forall_mem_cons.mpr ⟨lw_p13, List.forall_mem_cons.mpr ⟨lw_p14, List.forall_mem_cons.mpr ⟨lw_p15, fun _ h => absurd h List.not_mem_nil⟩⟩⟩⟩⟩⟩⟩⟩⟩⟩⟩⟩⟩⟩⟩⟩
theorem lw_p16 : lw_okq (⟨"InitiatorRows", "unitsInUse", "(I)I"⟩, 12) := ⟨⟨by decide +kernel, by decide +kernel⟩, List.mem_of_getElem? (i := 21) (by decide +kernel), List.mem_of_getElem? (i := 456) (by decide +kernel), List.mem_of_getElem? (i := 457) (by decide +kernel)⟩
theorem lw_p17 : lw_okq (⟨"InitiatorRows", "sumOfWeights", "()J"⟩, 12) := ⟨⟨by decide +kernel, by decide +kernel⟩, List.mem_of_getElem? (i := 21) (by decide +kernel), List.mem_of_getElem? (i := 468) (by decide +kernel), List.mem_of_getElem? (i := 469) (by decide +kernel)⟩
theorem lw_p18 : lw_okq (⟨"java/lang/Throwable", "fillInStackTrace", "(I)Ljava/lang/Throwable;"⟩, 6) := ⟨⟨by decide +kernel, by decide +kernel⟩, List.mem_of_getElem? (i := 508) (by decide +kernel), List.mem_of_getElem? (i := 506) (by decide +kernel), List.mem_of_getElem? (i := 507) (by decide +kernel)⟩
theorem lw_p19 : lw_okq (⟨"InitiatorRowsModel", "isInitiator", "(I)Z"⟩, 25) := ⟨⟨by decide +kernel, by decide +kernel⟩, List.mem_of_getElem? (i := 538) (by decide +kernel), List.mem_of_getElem? (i := 634) (by decide +kernel), List.mem_of_getElem? (i := 635) (by decide +kernel)⟩
theorem lw_p20 : lw_okq (⟨"InitiatorRowsModel", "isJob", "(I)Z"⟩, 25) := ⟨⟨by decide +kernel, by decide +kernel⟩, List.mem_of_getElem? (i := 538) (by decide +kernel), List.mem_of_getElem? (i := 660) (by decide +kernel), List.mem_of_getElem? (i := 661) (by decide +kernel)⟩
theorem lw_p21 : lw_okq (⟨"InitiatorRowsModel", "reaches", "(II)Z"⟩, 25) := ⟨⟨by decide +kernel, by decide +kernel⟩, List.mem_of_getElem? (i := 538) (by decide +kernel), List.mem_of_getElem? (i := 664) (by decide +kernel), List.mem_of_getElem? (i := 665) (by decide +kernel)⟩
theorem lw_p22 : lw_okq (⟨"InitiatorRowsModel", "mayStart", "(I)Z"⟩, 25) := ⟨⟨by decide +kernel, by decide +kernel⟩, List.mem_of_getElem? (i := 538) (by decide +kernel), List.mem_of_getElem? (i := 688) (by decide +kernel), List.mem_of_getElem? (i := 689) (by decide +kernel)⟩
theorem lw_p23 : lw_okq (⟨"InitiatorRowsModel", "isOpen", "(I)Z"⟩, 25) := ⟨⟨by decide +kernel, by decide +kernel⟩, List.mem_of_getElem? (i := 538) (by decide +kernel), List.mem_of_getElem? (i := 692) (by decide +kernel), List.mem_of_getElem? (i := 693) (by decide +kernel)⟩
theorem lw_p24 : lw_okq (⟨"InitiatorRowsModel", "used", "(I)I"⟩, 25) := ⟨⟨by decide +kernel, by decide +kernel⟩, List.mem_of_getElem? (i := 538) (by decide +kernel), List.mem_of_getElem? (i := 697) (by decide +kernel), List.mem_of_getElem? (i := 698) (by decide +kernel)⟩
theorem lw_p25 : lw_okq (⟨"InitiatorRowsModel", "isAhead", "(II)Z"⟩, 25) := ⟨⟨by decide +kernel, by decide +kernel⟩, List.mem_of_getElem? (i := 538) (by decide +kernel), List.mem_of_getElem? (i := 701) (by decide +kernel), List.mem_of_getElem? (i := 702) (by decide +kernel)⟩
theorem lw_p26 : lw_okq (⟨"InitiatorRowsModel", "priority", "(I)J"⟩, 25) := ⟨⟨by decide +kernel, by decide +kernel⟩, List.mem_of_getElem? (i := 538) (by decide +kernel), List.mem_of_getElem? (i := 705) (by decide +kernel), List.mem_of_getElem? (i := 706) (by decide +kernel)⟩
theorem lw_p27 : lw_okq (⟨"InitiatorRowsModel", "those", "(IZ)I"⟩, 25) := ⟨⟨by decide +kernel, by decide +kernel⟩, List.mem_of_getElem? (i := 538) (by decide +kernel), List.mem_of_getElem? (i := 747) (by decide +kernel), List.mem_of_getElem? (i := 748) (by decide +kernel)⟩
def lw_privs_2 : List (MethodName × Nat) := [(⟨"InitiatorRows", "unitsInUse", "(I)I"⟩, 12), (⟨"InitiatorRows", "sumOfWeights", "()J"⟩, 12), (⟨"java/lang/Throwable", "fillInStackTrace", "(I)Ljava/lang/Throwable;"⟩, 6), (⟨"InitiatorRowsModel", "isInitiator", "(I)Z"⟩, 25), (⟨"InitiatorRowsModel", "isJob", "(I)Z"⟩, 25), (⟨"InitiatorRowsModel", "reaches", "(II)Z"⟩, 25), (⟨"InitiatorRowsModel", "mayStart", "(I)Z"⟩, 25), (⟨"InitiatorRowsModel", "isOpen", "(I)Z"⟩, 25), (⟨"InitiatorRowsModel", "used", "(I)I"⟩, 25), (⟨"InitiatorRowsModel", "isAhead", "(II)Z"⟩, 25), (⟨"InitiatorRowsModel", "priority", "(I)J"⟩, 25), (⟨"InitiatorRowsModel", "those", "(IZ)I"⟩, 25)]
theorem lw_r2 : ∀ q ∈ lw_privs_2, lw_okq q := List.forall_mem_cons.mpr ⟨lw_p16, List.forall_mem_cons.mpr ⟨lw_p17, List.forall_mem_cons.mpr ⟨lw_p18, List.forall_mem_cons.mpr ⟨lw_p19, List.forall_mem_cons.mpr ⟨lw_p20, List.forall_mem_cons.mpr ⟨lw_p21, List.forall_mem_cons.mpr ⟨lw_p22, List.forall_mem_cons.mpr ⟨lw_p23, List.forall_mem_cons.mpr ⟨lw_p24, List.forall_mem_cons.mpr ⟨lw_p25, List.forall_mem_cons.mpr ⟨lw_p26, List.forall_mem_cons.mpr ⟨lw_p27, fun _ h => absurd h List.not_mem_nil⟩⟩⟩⟩⟩⟩⟩⟩⟩⟩⟩⟩
def lw_privs : List (MethodName × Nat) := lw_privs_1 ++ (lw_privs_2)
def lw_tbl : List Cond := k2_sels lw_privs ++ tables_1
theorem lw_privs_ok : ∀ q ∈ lw_privs, lw_okq q := by
  show ∀ q ∈ lw_privs_1 ++ (lw_privs_2), lw_okq q
  exact List.forall_mem_append.mpr ⟨lw_r1, lw_r2⟩
/-- words that hold on, whatever the tables' notes -/
def w_sp : Cond → Bool
  | .castable .. => true
  | .declares .. => true
  | .arrayOver (.object _) => true
  | _ => false
def w_tb : List Cond := lw_tbl.filter (fun w => goodWord w || w_sp w)
theorem w_TBm : TBm w_tb := by
  intro w hw A A' u U hW hb
  have h := (List.mem_filter.mp hw).2
  cases hg : goodWord w with
  | true => exact word_at hW (good_of_word hg) hb
  | false =>
    rw [hg, Bool.false_or] at h
    cases w <;> first | (simp [w_sp] at h; done) | skip
    case castable a b => exact va_Nw.use rfl (va_Nw.warmC hW (va_Nw.of rfl hb))
    case declares a => exact va_Nw.use rfl (va_Nw.warmD hW (va_Nw.of rfl hb))
    case arrayOver t =>
      cases t <;> first | (simp [w_sp] at h; done) | skip
      exact va_AO.use (va_AO.moved hW.alike (va_AO.of hb))
def w_tl : List FieldType := [.int, .long, .object "java/lang/Object", .boolean]
def R_Rows : String := "InitiatorRows"
def R_Ini : String := "InitiatorRows$Initiator"
def R_Job : String := "InitiatorRows$Job"
def R_Load : String := "InitiatorRows$Load"
def R_NS : String := "InitiatorRows$NumberSet"
def R_Law : String := "InitiatorRowsLaw"
def R_Mod : String := "InitiatorRowsModel"
def R_AbC : String := "java/util/AbstractCollection"
def R_AbL : String := "java/util/AbstractList"
def R_AL : String := "java/util/ArrayList"
def R_Arrs : String := "java/util/Arrays"
def R_Objs : String := "java/util/Objects"
def R_ASup : String := "jdk/internal/util/ArraysSupport"
def R_Prec : String := "jdk/internal/util/Preconditions"
def F_Rows : u_T := fun k => match k with
  | 0 => ("InitiatorRows", "initiators", "Ljava/util/ArrayList;", true)
  | 1 => ("InitiatorRows", "jobs", "Ljava/util/ArrayList;", true)
  | 2 => ("InitiatorRows", "limits", "[I", true)
  | 3 => ("InitiatorRows", "windowStarts", "[I", true)
  | 4 => ("InitiatorRows", "windowEnds", "[I", true)
  | 5 => ("InitiatorRows", "weights", "[I", true)
  | 6 => ("InitiatorRows", "unitsThere", "[I", true)
  | 7 => ("InitiatorRows", "load", "LInitiatorRows$Load;", true)
  | 8 => ("InitiatorRows", "ended", "LInitiatorRows$NumberSet;", true)
  | 9 => ("InitiatorRows", "now", "J", false)
  | 10 => ("InitiatorRows", "agePer", "J", false)
  | _ => ("InitiatorRows", "ageMost", "I", false)
def t_Rows : Nat → FieldType := fun k => match k with
  | 0 => .object "java/util/ArrayList"
  | 1 => .object "java/util/ArrayList"
  | 2 => .array .int
  | 3 => .array .int
  | 4 => .array .int
  | 5 => .array .int
  | 6 => .array .int
  | 7 => .object "InitiatorRows$Load"
  | 8 => .object "InitiatorRows$NumberSet"
  | 9 => .long
  | 10 => .long
  | _ => .int
theorem n_Rows : ∀ a, a < 12 → ∀ b, b < 12 → a ≠ b → (F_Rows a).2.1 ≠ (F_Rows b).2.1 := by decide +kernel
theorem t_Rows_ok : ∀ k, k < 12 → parseFieldDescriptor (F_Rows k).2.2.1 = some (t_Rows k) := by decide +kernel
theorem i_Rows : ∀ w ∈ u_ws R_Rows F_Rows 12, w ∈ w_tb := by decide +kernel
theorem def_Rows : ∀ j, j < 12 → defaultValue (t_Rows j) = vp_V [.null, .null, .null, .null, .null, .null, .null, .null, .null, .long 0, .long 0, .int 0] j := by decide +kernel
theorem k_made_Rows : Cond.instantiable "InitiatorRows" 12 ∈ w_tb := List.mem_filter.mpr ⟨List.mem_append_right _ (List.mem_of_getElem? (i := 21) (by decide +kernel)), rfl⟩
def F_Job : u_T := fun k => match k with
  | 0 => ("InitiatorRows$Job", "number", "I", true)
  | 1 => ("InitiatorRows$Job", "inClass", "I", true)
  | 2 => ("InitiatorRows$Job", "priority", "I", true)
  | 3 => ("InitiatorRows$Job", "name", "I", true)
  | 4 => ("InitiatorRows$Job", "arrived", "J", true)
  | 5 => ("InitiatorRows$Job", "unitsUsed", "[I", true)
  | 6 => ("InitiatorRows$Job", "deepNeeds", "LInitiatorRows$NumberSet;", true)
  | 7 => ("InitiatorRows$Job", "runsAlone", "Z", false)
  | 8 => ("InitiatorRows$Job", "stage", "I", false)
  | _ => ("InitiatorRows$Job", "started", "J", false)
def t_Job : Nat → FieldType := fun k => match k with
  | 0 => .int
  | 1 => .int
  | 2 => .int
  | 3 => .int
  | 4 => .long
  | 5 => .array .int
  | 6 => .object "InitiatorRows$NumberSet"
  | 7 => .boolean
  | 8 => .int
  | _ => .long
theorem n_Job : ∀ a, a < 10 → ∀ b, b < 10 → a ≠ b → (F_Job a).2.1 ≠ (F_Job b).2.1 := by decide +kernel
theorem t_Job_ok : ∀ k, k < 10 → parseFieldDescriptor (F_Job k).2.2.1 = some (t_Job k) := by decide +kernel
theorem i_Job : ∀ w ∈ u_ws R_Job F_Job 10, w ∈ w_tb := by decide +kernel
theorem def_Job : ∀ j, j < 10 → defaultValue (t_Job j) = vp_V [.int 0, .int 0, .int 0, .int 0, .long 0, .null, .null, .int 0, .int 0, .long 0] j := by decide +kernel
theorem k_made_Job : Cond.instantiable "InitiatorRows$Job" 10 ∈ w_tb := List.mem_filter.mpr ⟨List.mem_append_right _ (List.mem_of_getElem? (i := 257) (by decide +kernel)), rfl⟩
def F_Load : u_T := fun k => match k with
  | 0 => ("InitiatorRows$Load", "ofClass", "[I", true)
  | 1 => ("InitiatorRows$Load", "unitsUsed", "[I", true)
  | 2 => ("InitiatorRows$Load", "names", "LInitiatorRows$NumberSet;", true)
  | 3 => ("InitiatorRows$Load", "running", "I", false)
  | _ => ("InitiatorRows$Load", "aloneRuns", "Z", false)
def t_Load : Nat → FieldType := fun k => match k with
  | 0 => .array .int
  | 1 => .array .int
  | 2 => .object "InitiatorRows$NumberSet"
  | 3 => .int
  | _ => .boolean
theorem n_Load : ∀ a, a < 5 → ∀ b, b < 5 → a ≠ b → (F_Load a).2.1 ≠ (F_Load b).2.1 := by decide +kernel
theorem t_Load_ok : ∀ k, k < 5 → parseFieldDescriptor (F_Load k).2.2.1 = some (t_Load k) := by decide +kernel
theorem i_Load : ∀ w ∈ u_ws R_Load F_Load 5, w ∈ w_tb := by decide +kernel
theorem def_Load : ∀ j, j < 5 → defaultValue (t_Load j) = vp_V [.null, .null, .null, .int 0, .int 0] j := by decide +kernel
theorem k_made_Load : Cond.instantiable "InitiatorRows$Load" 5 ∈ w_tb := List.mem_filter.mpr ⟨List.mem_append_right _ (List.mem_of_getElem? (i := 55) (by decide +kernel)), rfl⟩
def F_Ini : u_T := fun k => match k with
  | 0 => ("InitiatorRows$Initiator", "list", "[I", true)
  | 1 => ("InitiatorRows$Initiator", "drained", "Z", false)
  | _ => ("InitiatorRows$Initiator", "runningJob", "I", false)
def t_Ini : Nat → FieldType := fun k => match k with
  | 0 => .array .int
  | 1 => .boolean
  | _ => .int
theorem n_Ini : ∀ a, a < 3 → ∀ b, b < 3 → a ≠ b → (F_Ini a).2.1 ≠ (F_Ini b).2.1 := by decide +kernel
theorem t_Ini_ok : ∀ k, k < 3 → parseFieldDescriptor (F_Ini k).2.2.1 = some (t_Ini k) := by decide +kernel
theorem i_Ini : ∀ w ∈ u_ws R_Ini F_Ini 3, w ∈ w_tb := by decide +kernel
theorem def_Ini : ∀ j, j < 3 → defaultValue (t_Ini j) = vp_V [.null, .int 0, .int 0] j := by decide +kernel
theorem k_made_Ini : Cond.instantiable "InitiatorRows$Initiator" 3 ∈ w_tb := List.mem_filter.mpr ⟨List.mem_append_right _ (List.mem_of_getElem? (i := 143) (by decide +kernel)), rfl⟩
def F_NS : u_T := fun k => match k with
  | 0 => ("InitiatorRows$NumberSet", "low", "J", false)
  | _ => ("InitiatorRows$NumberSet", "high", "J", false)
def t_NS : Nat → FieldType := fun k => match k with
  | 0 => .long
  | _ => .long
theorem n_NS : ∀ a, a < 2 → ∀ b, b < 2 → a ≠ b → (F_NS a).2.1 ≠ (F_NS b).2.1 := by decide +kernel
theorem t_NS_ok : ∀ k, k < 2 → parseFieldDescriptor (F_NS k).2.2.1 = some (t_NS k) := by decide +kernel
theorem i_NS : ∀ w ∈ u_ws R_NS F_NS 2, w ∈ w_tb := by decide +kernel
theorem def_NS : ∀ j, j < 2 → defaultValue (t_NS j) = vp_V [.long 0, .long 0] j := by decide +kernel
theorem k_made_NS : Cond.instantiable "InitiatorRows$NumberSet" 2 ∈ w_tb := List.mem_filter.mpr ⟨List.mem_append_right _ (List.mem_of_getElem? (i := 61) (by decide +kernel)), rfl⟩
def F_AL : u_T := fun k => match k with
  | 0 => ("java/util/AbstractList", "modCount", "I", false)
  | 1 => ("java/util/ArrayList", "elementData", "[Ljava/lang/Object;", false)
  | _ => ("java/util/ArrayList", "size", "I", false)
def t_AL : Nat → FieldType := fun k => match k with
  | 0 => .int
  | 1 => (.array (.object "java/lang/Object"))
  | _ => .int
theorem n_AL : ∀ a, a < 3 → ∀ b, b < 3 → a ≠ b → (F_AL a).2.1 ≠ (F_AL b).2.1 := by decide +kernel
theorem t_AL_ok : ∀ k, k < 3 → parseFieldDescriptor (F_AL k).2.2.1 = some (t_AL k) := by decide +kernel
theorem i_AL : ∀ w ∈ u_ws R_AL F_AL 3, w ∈ w_tb := by decide +kernel
theorem def_AL : ∀ j, j < 3 → defaultValue (t_AL j) = vp_V [.int 0, .null, .int 0] j := by decide +kernel
theorem k_made_AL : Cond.instantiable "java/util/ArrayList" 3 ∈ w_tb := List.mem_filter.mpr ⟨List.mem_append_right _ (List.mem_of_getElem? (i := 29) (by decide +kernel)), rfl⟩
def F_Mod : u_T := fun k => match k with
  | 0 => ("InitiatorRowsModel", "thrown", "I", false)
  | 1 => ("InitiatorRowsModel", "now", "J", false)
  | 2 => ("InitiatorRowsModel", "lists", "[I", true)
  | 3 => ("InitiatorRowsModel", "runs", "[I", true)
  | 4 => ("InitiatorRowsModel", "drained", "[Z", true)
  | 5 => ("InitiatorRowsModel", "initiators", "I", false)
  | 6 => ("InitiatorRowsModel", "limits", "[I", true)
  | 7 => ("InitiatorRowsModel", "froms", "[I", true)
  | 8 => ("InitiatorRowsModel", "tos", "[I", true)
  | 9 => ("InitiatorRowsModel", "weights", "[I", true)
  | 10 => ("InitiatorRowsModel", "units", "[I", true)
  | 11 => ("InitiatorRowsModel", "sorts", "[I", true)
  | 12 => ("InitiatorRowsModel", "priorities", "[I", true)
  | 13 => ("InitiatorRowsModel", "names", "[I", true)
  | 14 => ("InitiatorRowsModel", "states", "[I", true)
  | 15 => ("InitiatorRowsModel", "uses", "[I", true)
  | 16 => ("InitiatorRowsModel", "held", "[Z", true)
  | 17 => ("InitiatorRowsModel", "lone", "[Z", true)
  | 18 => ("InitiatorRowsModel", "needed", "[Z", true)
  | 19 => ("InitiatorRowsModel", "reached", "[Z", true)
  | 20 => ("InitiatorRowsModel", "came", "[J", true)
  | 21 => ("InitiatorRowsModel", "ran", "[J", true)
  | 22 => ("InitiatorRowsModel", "jobs", "I", false)
  | 23 => ("InitiatorRowsModel", "per", "J", false)
  | _ => ("InitiatorRowsModel", "most", "I", false)
def t_Mod : Nat → FieldType := fun k => match k with
  | 0 => .int
  | 1 => .long
  | 2 => .array .int
  | 3 => .array .int
  | 4 => .array .boolean
  | 5 => .int
  | 6 => .array .int
  | 7 => .array .int
  | 8 => .array .int
  | 9 => .array .int
  | 10 => .array .int
  | 11 => .array .int
  | 12 => .array .int
  | 13 => .array .int
  | 14 => .array .int
  | 15 => .array .int
  | 16 => .array .boolean
  | 17 => .array .boolean
  | 18 => .array .boolean
  | 19 => .array .boolean
  | 20 => .array .long
  | 21 => .array .long
  | 22 => .int
  | 23 => .long
  | _ => .int
theorem n_Mod : ∀ a, a < 25 → ∀ b, b < 25 → a ≠ b → (F_Mod a).2.1 ≠ (F_Mod b).2.1 := by decide +kernel
theorem t_Mod_ok : ∀ k, k < 25 → parseFieldDescriptor (F_Mod k).2.2.1 = some (t_Mod k) := by decide +kernel
theorem i_Mod : ∀ w ∈ u_ws R_Mod F_Mod 25, w ∈ w_tb := by decide +kernel
theorem def_Mod : ∀ j, j < 25 → defaultValue (t_Mod j) = vp_V [.int 0, .long 0, .null, .null, .null, .int 0, .null, .null, .null, .null, .null, .null, .null, .null, .null, .null, .null, .null, .null, .null, .null, .null, .int 0, .long 0, .int 0] j := by decide +kernel
theorem k_made_Mod : Cond.instantiable "InitiatorRowsModel" 25 ∈ w_tb := List.mem_filter.mpr ⟨List.mem_append_right _ (List.mem_of_getElem? (i := 538) (by decide +kernel)), rfl⟩
def w_cl : List vw_C := [(R_Rows, F_Rows, 12), (R_Job, F_Job, 10), (R_Load, F_Load, 5), (R_Ini, F_Ini, 3), (R_NS, F_NS, 2), (R_AL, F_AL, 3), (R_Mod, F_Mod, 25)]
/-- classes of a list's elements -/
def w_el (ci : Nat) : Prop := ci = 1 ∨ ci = 3
theorem k_cast_Job : Cond.castable "InitiatorRows$Job" "java/lang/Object" ∈ w_tb := List.mem_filter.mpr ⟨List.mem_append_right _ (List.mem_of_getElem? (i := 762) (by decide +kernel)), rfl⟩
theorem k_cast_Ini : Cond.castable "InitiatorRows$Initiator" "java/lang/Object" ∈ w_tb := List.mem_filter.mpr ⟨List.mem_append_right _ (List.mem_of_getElem? (i := 761) (by decide +kernel)), rfl⟩
theorem w_castO {ci : Nat} (h : w_el ci) : ∃ (C : String) (U : u_T) (N : Nat), w_cl[ci]? = some (C, U, N) ∧ Cond.castable C "java/lang/Object" ∈ w_tb := by
  rcases h with rfl | rfl
  · exact ⟨_, _, _, rfl, k_cast_Job⟩
  · exact ⟨_, _, _, rfl, k_cast_Ini⟩
theorem k_ini_Rows : Cond.initialized "InitiatorRows" ∈ w_tb := List.mem_filter.mpr ⟨List.mem_append_right _ (List.mem_of_getElem? (i := 1) (by decide +kernel)), rfl⟩
theorem k_ini_Ini : Cond.initialized "InitiatorRows$Initiator" ∈ w_tb := List.mem_filter.mpr ⟨List.mem_append_right _ (List.mem_of_getElem? (i := 8) (by decide +kernel)), rfl⟩
theorem k_ini_Job : Cond.initialized "InitiatorRows$Job" ∈ w_tb := List.mem_filter.mpr ⟨List.mem_append_right _ (List.mem_of_getElem? (i := 15) (by decide +kernel)), rfl⟩
theorem k_ini_Load : Cond.initialized "InitiatorRows$Load" ∈ w_tb := List.mem_filter.mpr ⟨List.mem_append_right _ (List.mem_of_getElem? (i := 5) (by decide +kernel)), rfl⟩
theorem k_ini_NS : Cond.initialized "InitiatorRows$NumberSet" ∈ w_tb := List.mem_filter.mpr ⟨List.mem_append_right _ (List.mem_of_getElem? (i := 6) (by decide +kernel)), rfl⟩
theorem k_ini_Mod : Cond.initialized "InitiatorRowsModel" ∈ w_tb := List.mem_filter.mpr ⟨List.mem_append_right _ (List.mem_of_getElem? (i := 7) (by decide +kernel)), rfl⟩
theorem k_ini_Math : Cond.initialized "java/lang/Math" ∈ w_tb := List.mem_filter.mpr ⟨List.mem_append_right _ (List.mem_of_getElem? (i := 10) (by decide +kernel)), rfl⟩
theorem k_ini_System : Cond.initialized "java/lang/System" ∈ w_tb := List.mem_filter.mpr ⟨List.mem_append_right _ (List.mem_of_getElem? (i := 12) (by decide +kernel)), rfl⟩
theorem k_ini_AbC : Cond.initialized "java/util/AbstractCollection" ∈ w_tb := List.mem_filter.mpr ⟨List.mem_append_right _ (List.mem_of_getElem? (i := 2) (by decide +kernel)), rfl⟩
theorem k_ini_AbL : Cond.initialized "java/util/AbstractList" ∈ w_tb := List.mem_filter.mpr ⟨List.mem_append_right _ (List.mem_of_getElem? (i := 3) (by decide +kernel)), rfl⟩
theorem k_ini_AL : Cond.initialized "java/util/ArrayList" ∈ w_tb := List.mem_filter.mpr ⟨List.mem_append_right _ (List.mem_of_getElem? (i := 4) (by decide +kernel)), rfl⟩
theorem k_ini_Arrs : Cond.initialized "java/util/Arrays" ∈ w_tb := List.mem_filter.mpr ⟨List.mem_append_right _ (List.mem_of_getElem? (i := 11) (by decide +kernel)), rfl⟩
theorem k_ini_Objs : Cond.initialized "java/util/Objects" ∈ w_tb := List.mem_filter.mpr ⟨List.mem_append_right _ (List.mem_of_getElem? (i := 13) (by decide +kernel)), rfl⟩
theorem k_ini_ASup : Cond.initialized "jdk/internal/util/ArraysSupport" ∈ w_tb := List.mem_filter.mpr ⟨List.mem_append_right _ (List.mem_of_getElem? (i := 9) (by decide +kernel)), rfl⟩
theorem k_ini_Prec : Cond.initialized "jdk/internal/util/Preconditions" ∈ w_tb := List.mem_filter.mpr ⟨List.mem_append_right _ (List.mem_of_getElem? (i := 14) (by decide +kernel)), rfl⟩
theorem k_copy_nat : Cond.native arraycopyName ∈ w_tb := List.mem_filter.mpr ⟨List.mem_append_right _ (List.mem_of_getElem? (i := 213) (by decide +kernel)), rfl⟩
theorem k_copy_stat : Cond.static arraycopyName ∈ w_tb := List.mem_filter.mpr ⟨List.mem_append_right _ (List.mem_of_getElem? (i := 212) (by decide +kernel)), rfl⟩
theorem k_gc_decl : Cond.declares ⟨"java/lang/Object", "getClass", "()Ljava/lang/Class;"⟩ ∈ w_tb := List.mem_filter.mpr ⟨List.mem_append_right _ (List.mem_of_getElem? (i := 756) (by decide +kernel)), rfl⟩
theorem k_gc_sel : Cond.selects "[Ljava/lang/Object;" ⟨"java/lang/Object", "getClass", "()Ljava/lang/Class;"⟩ ⟨"java/lang/Object", "getClass", "()Ljava/lang/Class;"⟩ ∈ w_tb := List.mem_filter.mpr ⟨List.mem_append_right _ (List.mem_of_getElem? (i := 755) (by decide +kernel)), rfl⟩
theorem k_gc_inst : Cond.instanceMethod ⟨"java/lang/Object", "getClass", "()Ljava/lang/Class;"⟩ ∈ w_tb := List.mem_filter.mpr ⟨List.mem_append_right _ (List.mem_of_getElem? (i := 191) (by decide +kernel)), rfl⟩
theorem k_gc_nat : Cond.native ⟨"java/lang/Object", "getClass", "()Ljava/lang/Class;"⟩ ∈ w_tb := List.mem_filter.mpr ⟨List.mem_append_right _ (List.mem_of_getElem? (i := 201) (by decide +kernel)), rfl⟩
theorem k_over_Object : Cond.arrayOver (.object "java/lang/Object") ∈ w_tb := List.mem_filter.mpr ⟨List.mem_append_right _ (List.mem_of_getElem? (i := 206) (by decide +kernel)), rfl⟩
theorem k_arr_int : Cond.arrayClass (newarray.typeOf .int) ∈ w_tb := List.mem_filter.mpr ⟨List.mem_append_right _ (List.mem_of_getElem? (i := 73) (by decide +kernel)), rfl⟩
theorem k_arr_long : Cond.arrayClass (newarray.typeOf .long) ∈ w_tb := List.mem_filter.mpr ⟨List.mem_append_right _ (List.mem_of_getElem? (i := 620) (by decide +kernel)), rfl⟩
theorem k_arr_boolean : Cond.arrayClass (newarray.typeOf .boolean) ∈ w_tb := List.mem_filter.mpr ⟨List.mem_append_right _ (List.mem_of_getElem? (i := 619) (by decide +kernel)), rfl⟩
theorem k_oi_inst : Cond.instanceMethod objectInit ∈ w_tb := List.mem_filter.mpr ⟨List.mem_append_right _ (List.mem_of_getElem? (i := 26) (by decide +kernel)), rfl⟩
set_option maxRecDepth 20000 in
theorem k_oi_code : Cond.code objectInit ⟨#[0xb1]⟩ 1 none ∈ w_tb := List.mem_filter.mpr ⟨List.mem_append_right _ (List.mem_of_getElem? (i := 27) rfl), rfl⟩
theorem k_same_AL_modCount : Cond.sameField "java/util/ArrayList" "java/util/AbstractList" "modCount" "I" ∈ w_tb := List.mem_filter.mpr ⟨List.mem_append_right _ (List.mem_of_getElem? (i := 46) (by decide +kernel)), rfl⟩
theorem k_math_max_static : Cond.static Lib.Math.max.name ∈ w_tb := List.mem_filter.mpr ⟨List.mem_append_right _ (List.mem_of_getElem? (i := 181) (by decide +kernel)), rfl⟩
set_option maxRecDepth 20000 in
theorem k_math_max_code : Cond.code Lib.Math.max.name Lib.Math.max.code 2 (some .int) ∈ w_tb := List.mem_filter.mpr ⟨List.mem_append_right _ (List.mem_of_getElem? (i := 182) rfl), rfl⟩
theorem k_math_min_static : Cond.static Lib.Math.min.name ∈ w_tb := List.mem_filter.mpr ⟨List.mem_append_right _ (List.mem_of_getElem? (i := 209) (by decide +kernel)), rfl⟩
set_option maxRecDepth 20000 in
theorem k_math_min_code : Cond.code Lib.Math.min.name Lib.Math.min.code 2 (some .int) ∈ w_tb := List.mem_filter.mpr ⟨List.mem_append_right _ (List.mem_of_getElem? (i := 210) rfl), rfl⟩
theorem k_math_min_long_static : Cond.static Lib.MathLoose.min_long.x ∈ w_tb := List.mem_filter.mpr ⟨List.mem_append_right _ (List.mem_of_getElem? (i := 391) (by decide +kernel)), rfl⟩
set_option maxRecDepth 20000 in
theorem k_math_min_long_code : Cond.code Lib.MathLoose.min_long.x Lib.MathLoose.min_long.code 4 (some .long) ∈ w_tb := List.mem_filter.mpr ⟨List.mem_append_right _ (List.mem_of_getElem? (i := 392) rfl), rfl⟩
end
section
abbrev b_AbC_init : ByteArray := prog_18_method_1_code
def y_AbC_init : MethodName := ⟨R_AbC, "<init>", "()V"⟩
abbrev rm_AbC_init : Room := { frames := 1, cells := 0, slots := 0, locals := 20 }
set_option maxRecDepth 20000 in
theorem k_code_AbC_init : Cond.code y_AbC_init b_AbC_init 1 none ∈ w_tb := List.mem_filter.mpr ⟨List.mem_append_right _ (List.mem_of_getElem? (i := 38) rfl), rfl⟩
theorem k_inst_AbC_init : Cond.instanceMethod y_AbC_init ∈ w_tb := List.mem_filter.mpr ⟨List.mem_append_right _ (List.mem_of_getElem? (i := 37) (by decide +kernel)), rfl⟩
abbrev b_AbL_init : ByteArray := prog_19_method_1_code
def y_AbL_init : MethodName := ⟨R_AbL, "<init>", "()V"⟩
abbrev rm_AbL_init : Room := { frames := 2, cells := 0, slots := 0, locals := 40 }
set_option maxRecDepth 20000 in
theorem k_code_AbL_init : Cond.code y_AbL_init b_AbL_init 1 none ∈ w_tb := List.mem_filter.mpr ⟨List.mem_append_right _ (List.mem_of_getElem? (i := 35) rfl), rfl⟩
theorem k_inst_AbL_init : Cond.instanceMethod y_AbL_init ∈ w_tb := List.mem_filter.mpr ⟨List.mem_append_right _ (List.mem_of_getElem? (i := 34) (by decide +kernel)), rfl⟩
abbrev b_AL_init_v : ByteArray := prog_20_method_2_code
def y_AL_init_v : MethodName := ⟨R_AL, "<init>", "()V"⟩
abbrev rm_AL_init_v : Room := { frames := 3, cells := 0, slots := 0, locals := 60 }
set_option maxRecDepth 20000 in
theorem k_code_AL_init_v : Cond.code y_AL_init_v b_AL_init_v 1 none ∈ w_tb := List.mem_filter.mpr ⟨List.mem_append_right _ (List.mem_of_getElem? (i := 32) rfl), rfl⟩
theorem k_inst_AL_init_v : Cond.instanceMethod y_AL_init_v ∈ w_tb := List.mem_filter.mpr ⟨List.mem_append_right _ (List.mem_of_getElem? (i := 31) (by decide +kernel)), rfl⟩
abbrev b_NS_init : ByteArray := prog_5_method_1_code
def y_NS_init : MethodName := ⟨R_NS, "<init>", "()V"⟩
abbrev rm_NS_init : Room := { frames := 1, cells := 0, slots := 0, locals := 20 }
set_option maxRecDepth 20000 in
theorem k_code_NS_init : Cond.code y_NS_init b_NS_init 1 none ∈ w_tb := List.mem_filter.mpr ⟨List.mem_append_right _ (List.mem_of_getElem? (i := 64) rfl), rfl⟩
theorem k_inst_NS_init : Cond.instanceMethod y_NS_init ∈ w_tb := List.mem_filter.mpr ⟨List.mem_append_right _ (List.mem_of_getElem? (i := 63) (by decide +kernel)), rfl⟩
abbrev b_Load_init : ByteArray := prog_4_method_1_code
def y_Load_init : MethodName := ⟨R_Load, "<init>", "()V"⟩
abbrev rm_Load_init : Room := { frames := 2, cells := 3, slots := 42, locals := 40 }
set_option maxRecDepth 20000 in
theorem k_code_Load_init : Cond.code y_Load_init b_Load_init 1 none ∈ w_tb := List.mem_filter.mpr ⟨List.mem_append_right _ (List.mem_of_getElem? (i := 58) rfl), rfl⟩
theorem k_inst_Load_init : Cond.instanceMethod y_Load_init ∈ w_tb := List.mem_filter.mpr ⟨List.mem_append_right _ (List.mem_of_getElem? (i := 57) (by decide +kernel)), rfl⟩
abbrev b_Rows_init : ByteArray := prog_1_method_1_code
def y_Rows_init : MethodName := ⟨R_Rows, "<init>", "()V"⟩
abbrev rm_Rows_init : Room := { frames := 4, cells := 12, slots := 203, locals := 80 }
set_option maxRecDepth 20000 in
theorem k_code_Rows_init : Cond.code y_Rows_init b_Rows_init 2 none ∈ w_tb := List.mem_filter.mpr ⟨List.mem_append_right _ (List.mem_of_getElem? (i := 24) rfl), rfl⟩
abbrev b_AL_size : ByteArray := prog_20_method_8_code
def y_AL_size : MethodName := ⟨R_AL, "size", "()I"⟩
abbrev rm_AL_size : Room := { frames := 0, cells := 0, slots := 0, locals := 0 }
set_option maxRecDepth 20000 in
theorem k_code_AL_size : Cond.code y_AL_size b_AL_size 1 (some .int) ∈ w_tb := List.mem_filter.mpr ⟨List.mem_append_right _ (List.mem_of_getElem? (i := 141) rfl), rfl⟩
theorem k_inst_AL_size : Cond.instanceMethod y_AL_size ∈ w_tb := List.mem_filter.mpr ⟨List.mem_append_right _ (List.mem_of_getElem? (i := 139) (by decide +kernel)), rfl⟩
theorem k_sel_AL_size : Cond.selects R_AL y_AL_size y_AL_size ∈ w_tb := List.mem_filter.mpr ⟨List.mem_append_right _ (List.mem_of_getElem? (i := 140) (by decide +kernel)), rfl⟩
abbrev b_Ini_init : ByteArray := prog_2_method_1_code
def y_Ini_init : MethodName := ⟨R_Ini, "<init>", "()V"⟩
abbrev rm_Ini_init : Room := { frames := 1, cells := 1, slots := 8, locals := 20 }
set_option maxRecDepth 20000 in
theorem k_code_Ini_init : Cond.code y_Ini_init b_Ini_init 2 none ∈ w_tb := List.mem_filter.mpr ⟨List.mem_append_right _ (List.mem_of_getElem? (i := 146) rfl), rfl⟩
theorem k_inst_Ini_init : Cond.instanceMethod y_Ini_init ∈ w_tb := List.mem_filter.mpr ⟨List.mem_append_right _ (List.mem_of_getElem? (i := 145) (by decide +kernel)), rfl⟩
abbrev b_ASup_newLength : ByteArray := prog_27_method_27_code
def y_ASup_newLength : MethodName := ⟨R_ASup, "newLength", "(III)I"⟩
abbrev rm_ASup_newLength : Room := { frames := 1, cells := 0, slots := 0, locals := 30 }
set_option maxRecDepth 20000 in
theorem k_code_ASup_newLength : Cond.code y_ASup_newLength b_ASup_newLength 4 (some .int) ∈ w_tb := List.mem_filter.mpr ⟨List.mem_append_right _ (List.mem_of_getElem? (i := 179) rfl), rfl⟩
theorem k_stat_ASup_newLength : Cond.static y_ASup_newLength ∈ w_tb := List.mem_filter.mpr ⟨List.mem_append_right _ (List.mem_of_getElem? (i := 178) (by decide +kernel)), rfl⟩
abbrev b_Arrs_copyOf_AIL : ByteArray := prog_21_method_120_code
def y_Arrs_copyOf_AIL : MethodName := ⟨R_Arrs, "copyOf", "([Ljava/lang/Object;ILjava/lang/Class;)[Ljava/lang/Object;"⟩
abbrev rm_Arrs_copyOf_AIL : Room := { frames := 1, cells := 1, slots := 160, locals := 60 }
set_option maxRecDepth 20000 in
theorem k_code_Arrs_copyOf_AIL : Cond.code y_Arrs_copyOf_AIL b_Arrs_copyOf_AIL 4 (some (.array (.object "java/lang/Object"))) ∈ w_tb := List.mem_filter.mpr ⟨List.mem_append_right _ (List.mem_of_getElem? (i := 204) rfl), rfl⟩
theorem k_stat_Arrs_copyOf_AIL : Cond.static y_Arrs_copyOf_AIL ∈ w_tb := List.mem_filter.mpr ⟨List.mem_append_right _ (List.mem_of_getElem? (i := 203) (by decide +kernel)), rfl⟩
abbrev b_Arrs_copyOf_AI : ByteArray := prog_21_method_119_code
def y_Arrs_copyOf_AI : MethodName := ⟨R_Arrs, "copyOf", "([Ljava/lang/Object;I)[Ljava/lang/Object;"⟩
abbrev rm_Arrs_copyOf_AI : Room := { frames := 2, cells := 1, slots := 160, locals := 83 }
set_option maxRecDepth 20000 in
theorem k_code_Arrs_copyOf_AI : Cond.code y_Arrs_copyOf_AI b_Arrs_copyOf_AI 2 (some (.array (.object "java/lang/Object"))) ∈ w_tb := List.mem_filter.mpr ⟨List.mem_append_right _ (List.mem_of_getElem? (i := 189) rfl), rfl⟩
theorem k_stat_Arrs_copyOf_AI : Cond.static y_Arrs_copyOf_AI ∈ w_tb := List.mem_filter.mpr ⟨List.mem_append_right _ (List.mem_of_getElem? (i := 188) (by decide +kernel)), rfl⟩
abbrev b_AL_grow_I : ByteArray := prog_20_method_6_code
def y_AL_grow_I : MethodName := ⟨R_AL, "grow", "(I)[Ljava/lang/Object;"⟩
abbrev rm_AL_grow_I : Room := { frames := 3, cells := 1, slots := 160, locals := 104 }
set_option maxRecDepth 20000 in
theorem k_code_AL_grow_I : Cond.code y_AL_grow_I b_AL_grow_I 4 (some (.array (.object "java/lang/Object"))) ∈ w_tb := List.mem_filter.mpr ⟨List.mem_append_right _ (List.mem_of_getElem? (i := 176) rfl), rfl⟩
theorem k_inst_AL_grow_I : Cond.instanceMethod y_AL_grow_I ∈ w_tb := List.mem_filter.mpr ⟨List.mem_append_right _ (List.mem_of_getElem? (i := 175) (by decide +kernel)), rfl⟩
theorem k_sel_AL_grow_I : Cond.selects R_AL y_AL_grow_I y_AL_grow_I ∈ w_tb := List.mem_filter.mpr ⟨List.mem_append_left _ (List.mem_of_getElem? (i := 2) rfl), rfl⟩
abbrev b_AL_grow_v : ByteArray := prog_20_method_7_code
def y_AL_grow_v : MethodName := ⟨R_AL, "grow", "()[Ljava/lang/Object;"⟩
abbrev rm_AL_grow_v : Room := { frames := 4, cells := 1, slots := 160, locals := 127 }
set_option maxRecDepth 20000 in
theorem k_code_AL_grow_v : Cond.code y_AL_grow_v b_AL_grow_v 1 (some (.array (.object "java/lang/Object"))) ∈ w_tb := List.mem_filter.mpr ⟨List.mem_append_right _ (List.mem_of_getElem? (i := 172) rfl), rfl⟩
theorem k_inst_AL_grow_v : Cond.instanceMethod y_AL_grow_v ∈ w_tb := List.mem_filter.mpr ⟨List.mem_append_right _ (List.mem_of_getElem? (i := 171) (by decide +kernel)), rfl⟩
theorem k_sel_AL_grow_v : Cond.selects R_AL y_AL_grow_v y_AL_grow_v ∈ w_tb := List.mem_filter.mpr ⟨List.mem_append_left _ (List.mem_of_getElem? (i := 1) rfl), rfl⟩
abbrev b_AL_add_LAI : ByteArray := prog_20_method_24_code
def y_AL_add_LAI : MethodName := ⟨R_AL, "add", "(Ljava/lang/Object;[Ljava/lang/Object;I)V"⟩
abbrev rm_AL_add_LAI : Room := { frames := 5, cells := 1, slots := 160, locals := 147 }
set_option maxRecDepth 20000 in
theorem k_code_AL_add_LAI : Cond.code y_AL_add_LAI b_AL_add_LAI 4 none ∈ w_tb := List.mem_filter.mpr ⟨List.mem_append_right _ (List.mem_of_getElem? (i := 168) rfl), rfl⟩
theorem k_inst_AL_add_LAI : Cond.instanceMethod y_AL_add_LAI ∈ w_tb := List.mem_filter.mpr ⟨List.mem_append_right _ (List.mem_of_getElem? (i := 167) (by decide +kernel)), rfl⟩
theorem k_sel_AL_add_LAI : Cond.selects R_AL y_AL_add_LAI y_AL_add_LAI ∈ w_tb := List.mem_filter.mpr ⟨List.mem_append_left _ (List.mem_of_getElem? (i := 0) rfl), rfl⟩
abbrev b_AL_add_L : ByteArray := prog_20_method_25_code
def y_AL_add_L : MethodName := ⟨R_AL, "add", "(Ljava/lang/Object;)Z"⟩
abbrev rm_AL_add_L : Room := { frames := 6, cells := 1, slots := 160, locals := 170 }
set_option maxRecDepth 20000 in
theorem k_code_AL_add_L : Cond.code y_AL_add_L b_AL_add_L 2 (some .boolean) ∈ w_tb := List.mem_filter.mpr ⟨List.mem_append_right _ (List.mem_of_getElem? (i := 164) rfl), rfl⟩
theorem k_inst_AL_add_L : Cond.instanceMethod y_AL_add_L ∈ w_tb := List.mem_filter.mpr ⟨List.mem_append_right _ (List.mem_of_getElem? (i := 162) (by decide +kernel)), rfl⟩
theorem k_sel_AL_add_L : Cond.selects R_AL y_AL_add_L y_AL_add_L ∈ w_tb := List.mem_filter.mpr ⟨List.mem_append_right _ (List.mem_of_getElem? (i := 163) (by decide +kernel)), rfl⟩
abbrev b_Rows_initiator : ByteArray := prog_1_method_2_code
def y_Rows_initiator : MethodName := ⟨R_Rows, "initiator", "()I"⟩
abbrev rm_Rows_initiator : Room := { frames := 7, cells := 3, slots := 171, locals := 191 }
set_option maxRecDepth 20000 in
theorem k_code_Rows_initiator : Cond.code y_Rows_initiator b_Rows_initiator 1 (some .int) ∈ w_tb := List.mem_filter.mpr ⟨List.mem_append_right _ (List.mem_of_getElem? (i := 137) rfl), rfl⟩
abbrev b_Rows_isIn : ByteArray := prog_1_method_22_code
def y_Rows_isIn : MethodName := ⟨R_Rows, "isIn", "(III)Z"⟩
abbrev rm_Rows_isIn : Room := { frames := 0, cells := 0, slots := 0, locals := 0 }
set_option maxRecDepth 20000 in
theorem k_code_Rows_isIn : Cond.code y_Rows_isIn b_Rows_isIn 3 (some .boolean) ∈ w_tb := List.mem_filter.mpr ⟨List.mem_append_right _ (List.mem_of_getElem? (i := 226) rfl), rfl⟩
theorem k_stat_Rows_isIn : Cond.static y_Rows_isIn ∈ w_tb := List.mem_filter.mpr ⟨List.mem_append_right _ (List.mem_of_getElem? (i := 225) (by decide +kernel)), rfl⟩
abbrev b_Prec_checkIndex_IIL : ByteArray := prog_28_method_11_code
def y_Prec_checkIndex_IIL : MethodName := ⟨R_Prec, "checkIndex", "(IILjava/util/function/BiFunction;)I"⟩
abbrev rm_Prec_checkIndex_IIL : Room := { frames := 0, cells := 0, slots := 0, locals := 0 }
set_option maxRecDepth 20000 in
theorem k_code_Prec_checkIndex_IIL : Cond.code y_Prec_checkIndex_IIL b_Prec_checkIndex_IIL 3 (some .int) ∈ w_tb := List.mem_filter.mpr ⟨List.mem_append_right _ (List.mem_of_getElem? (i := 236) rfl), rfl⟩
theorem k_stat_Prec_checkIndex_IIL : Cond.static y_Prec_checkIndex_IIL ∈ w_tb := List.mem_filter.mpr ⟨List.mem_append_right _ (List.mem_of_getElem? (i := 235) (by decide +kernel)), rfl⟩
abbrev b_Objs_checkIndex_II : ByteArray := prog_24_method_17_code
def y_Objs_checkIndex_II : MethodName := ⟨R_Objs, "checkIndex", "(II)I"⟩
abbrev rm_Objs_checkIndex_II : Room := { frames := 1, cells := 0, slots := 0, locals := 22 }
set_option maxRecDepth 20000 in
theorem k_code_Objs_checkIndex_II : Cond.code y_Objs_checkIndex_II b_Objs_checkIndex_II 2 (some .int) ∈ w_tb := List.mem_filter.mpr ⟨List.mem_append_right _ (List.mem_of_getElem? (i := 233) rfl), rfl⟩
theorem k_stat_Objs_checkIndex_II : Cond.static y_Objs_checkIndex_II ∈ w_tb := List.mem_filter.mpr ⟨List.mem_append_right _ (List.mem_of_getElem? (i := 232) (by decide +kernel)), rfl⟩
abbrev b_AL_elementData : ByteArray := prog_20_method_18_code
def y_AL_elementData : MethodName := ⟨R_AL, "elementData", "(I)Ljava/lang/Object;"⟩
abbrev rm_AL_elementData : Room := { frames := 0, cells := 0, slots := 0, locals := 0 }
set_option maxRecDepth 20000 in
theorem k_code_AL_elementData : Cond.code y_AL_elementData b_AL_elementData 2 (some (.object "java/lang/Object")) ∈ w_tb := List.mem_filter.mpr ⟨List.mem_append_right _ (List.mem_of_getElem? (i := 240) rfl), rfl⟩
theorem k_inst_AL_elementData : Cond.instanceMethod y_AL_elementData ∈ w_tb := List.mem_filter.mpr ⟨List.mem_append_right _ (List.mem_of_getElem? (i := 238) (by decide +kernel)), rfl⟩
theorem k_sel_AL_elementData : Cond.selects R_AL y_AL_elementData y_AL_elementData ∈ w_tb := List.mem_filter.mpr ⟨List.mem_append_right _ (List.mem_of_getElem? (i := 239) (by decide +kernel)), rfl⟩
abbrev b_AL_get : ByteArray := prog_20_method_20_code
def y_AL_get : MethodName := ⟨R_AL, "get", "(I)Ljava/lang/Object;"⟩
abbrev rm_AL_get : Room := { frames := 2, cells := 0, slots := 0, locals := 43 }
set_option maxRecDepth 20000 in
theorem k_code_AL_get : Cond.code y_AL_get b_AL_get 2 (some (.object "java/lang/Object")) ∈ w_tb := List.mem_filter.mpr ⟨List.mem_append_right _ (List.mem_of_getElem? (i := 230) rfl), rfl⟩
theorem k_inst_AL_get : Cond.instanceMethod y_AL_get ∈ w_tb := List.mem_filter.mpr ⟨List.mem_append_right _ (List.mem_of_getElem? (i := 228) (by decide +kernel)), rfl⟩
theorem k_sel_AL_get : Cond.selects R_AL y_AL_get y_AL_get ∈ w_tb := List.mem_filter.mpr ⟨List.mem_append_right _ (List.mem_of_getElem? (i := 229) (by decide +kernel)), rfl⟩
abbrev b_Rows_findInitiator : ByteArray := prog_1_method_25_code
def y_Rows_findInitiator : MethodName := ⟨R_Rows, "findInitiator", "(I)LInitiatorRows$Initiator;"⟩
abbrev rm_Rows_findInitiator : Room := { frames := 3, cells := 0, slots := 0, locals := 64 }
set_option maxRecDepth 20000 in
theorem k_code_Rows_findInitiator : Cond.code y_Rows_findInitiator b_Rows_findInitiator 2 (some (.object "InitiatorRows$Initiator")) ∈ w_tb := List.mem_filter.mpr ⟨List.mem_append_right _ (List.mem_of_getElem? (i := 223) rfl), rfl⟩
theorem k_inst_Rows_findInitiator : Cond.instanceMethod y_Rows_findInitiator ∈ w_tb := List.mem_filter.mpr ⟨List.mem_append_right _ (List.mem_of_getElem? (i := 222) (by decide +kernel)), rfl⟩
theorem k_sel_Rows_findInitiator : Cond.selects R_Rows y_Rows_findInitiator y_Rows_findInitiator ∈ w_tb := List.mem_filter.mpr ⟨List.mem_append_left _ (List.mem_of_getElem? (i := 3) rfl), rfl⟩
abbrev b_Rows_isClass : ByteArray := prog_1_method_23_code
def y_Rows_isClass : MethodName := ⟨R_Rows, "isClass", "(I)Z"⟩
abbrev rm_Rows_isClass : Room := { frames := 1, cells := 0, slots := 0, locals := 22 }
set_option maxRecDepth 20000 in
theorem k_code_Rows_isClass : Cond.code y_Rows_isClass b_Rows_isClass 1 (some .boolean) ∈ w_tb := List.mem_filter.mpr ⟨List.mem_append_right _ (List.mem_of_getElem? (i := 243) rfl), rfl⟩
theorem k_stat_Rows_isClass : Cond.static y_Rows_isClass ∈ w_tb := List.mem_filter.mpr ⟨List.mem_append_right _ (List.mem_of_getElem? (i := 242) (by decide +kernel)), rfl⟩
abbrev b_Rows_cls : ByteArray := prog_1_method_3_code
def y_Rows_cls : MethodName := ⟨R_Rows, "cls", "(III)I"⟩
abbrev rm_Rows_cls : Room := { frames := 4, cells := 0, slots := 0, locals := 85 }
set_option maxRecDepth 20000 in
theorem k_code_Rows_cls : Cond.code y_Rows_cls b_Rows_cls 5 (some .int) ∈ w_tb := List.mem_filter.mpr ⟨List.mem_append_right _ (List.mem_of_getElem? (i := 219) rfl), rfl⟩
abbrev b_Rows_limit : ByteArray := prog_1_method_4_code
def y_Rows_limit : MethodName := ⟨R_Rows, "limit", "(II)I"⟩
abbrev rm_Rows_limit : Room := { frames := 2, cells := 0, slots := 0, locals := 42 }
set_option maxRecDepth 20000 in
theorem k_code_Rows_limit : Cond.code y_Rows_limit b_Rows_limit 3 (some .int) ∈ w_tb := List.mem_filter.mpr ⟨List.mem_append_right _ (List.mem_of_getElem? (i := 247) rfl), rfl⟩
abbrev b_Rows_window : ByteArray := prog_1_method_5_code
def y_Rows_window : MethodName := ⟨R_Rows, "window", "(III)I"⟩
abbrev rm_Rows_window : Room := { frames := 2, cells := 0, slots := 0, locals := 42 }
set_option maxRecDepth 20000 in
theorem k_code_Rows_window : Cond.code y_Rows_window b_Rows_window 4 (some .int) ∈ w_tb := List.mem_filter.mpr ⟨List.mem_append_right _ (List.mem_of_getElem? (i := 251) rfl), rfl⟩
abbrev b_Job_init : ByteArray := prog_3_method_1_code
def y_Job_init : MethodName := ⟨R_Job, "<init>", "(IIIIJ)V"⟩
abbrev rm_Job_init : Room := { frames := 2, cells := 2, slots := 6, locals := 40 }
set_option maxRecDepth 20000 in
theorem k_code_Job_init : Cond.code y_Job_init b_Job_init 7 none ∈ w_tb := List.mem_filter.mpr ⟨List.mem_append_right _ (List.mem_of_getElem? (i := 260) rfl), rfl⟩
theorem k_inst_Job_init : Cond.instanceMethod y_Job_init ∈ w_tb := List.mem_filter.mpr ⟨List.mem_append_right _ (List.mem_of_getElem? (i := 259) (by decide +kernel)), rfl⟩
abbrev b_Rows_job : ByteArray := prog_1_method_6_code
def y_Rows_job : MethodName := ⟨R_Rows, "job", "(IIIJ)I"⟩
abbrev rm_Rows_job : Room := { frames := 7, cells := 4, slots := 176, locals := 191 }
set_option maxRecDepth 20000 in
theorem k_code_Rows_job : Cond.code y_Rows_job b_Rows_job 7 (some .int) ∈ w_tb := List.mem_filter.mpr ⟨List.mem_append_right _ (List.mem_of_getElem? (i := 255) rfl), rfl⟩
abbrev b_Rows_findJob : ByteArray := prog_1_method_26_code
def y_Rows_findJob : MethodName := ⟨R_Rows, "findJob", "(I)LInitiatorRows$Job;"⟩
abbrev rm_Rows_findJob : Room := { frames := 3, cells := 0, slots := 0, locals := 64 }
set_option maxRecDepth 20000 in
theorem k_code_Rows_findJob : Cond.code y_Rows_findJob b_Rows_findJob 2 (some (.object "InitiatorRows$Job")) ∈ w_tb := List.mem_filter.mpr ⟨List.mem_append_right _ (List.mem_of_getElem? (i := 316) rfl), rfl⟩
theorem k_inst_Rows_findJob : Cond.instanceMethod y_Rows_findJob ∈ w_tb := List.mem_filter.mpr ⟨List.mem_append_right _ (List.mem_of_getElem? (i := 315) (by decide +kernel)), rfl⟩
theorem k_sel_Rows_findJob : Cond.selects R_Rows y_Rows_findJob y_Rows_findJob ∈ w_tb := List.mem_filter.mpr ⟨List.mem_append_left _ (List.mem_of_getElem? (i := 4) rfl), rfl⟩
abbrev b_Job_isWaiting : ByteArray := prog_3_method_2_code
def y_Job_isWaiting : MethodName := ⟨R_Job, "isWaiting", "()Z"⟩
abbrev rm_Job_isWaiting : Room := { frames := 0, cells := 0, slots := 0, locals := 0 }
set_option maxRecDepth 20000 in
theorem k_code_Job_isWaiting : Cond.code y_Job_isWaiting b_Job_isWaiting 1 (some .boolean) ∈ w_tb := List.mem_filter.mpr ⟨List.mem_append_right _ (List.mem_of_getElem? (i := 320) rfl), rfl⟩
theorem k_inst_Job_isWaiting : Cond.instanceMethod y_Job_isWaiting ∈ w_tb := List.mem_filter.mpr ⟨List.mem_append_right _ (List.mem_of_getElem? (i := 318) (by decide +kernel)), rfl⟩
theorem k_sel_Job_isWaiting : Cond.selects R_Job y_Job_isWaiting y_Job_isWaiting ∈ w_tb := List.mem_filter.mpr ⟨List.mem_append_right _ (List.mem_of_getElem? (i := 319) (by decide +kernel)), rfl⟩
abbrev b_NS_has : ByteArray := prog_5_method_2_code
def y_NS_has : MethodName := ⟨R_NS, "has", "(I)Z"⟩
abbrev rm_NS_has : Room := { frames := 0, cells := 0, slots := 0, locals := 0 }
set_option maxRecDepth 20000 in
theorem k_code_NS_has : Cond.code y_NS_has b_NS_has 4 (some .boolean) ∈ w_tb := List.mem_filter.mpr ⟨List.mem_append_right _ (List.mem_of_getElem? (i := 324) rfl), rfl⟩
theorem k_inst_NS_has : Cond.instanceMethod y_NS_has ∈ w_tb := List.mem_filter.mpr ⟨List.mem_append_right _ (List.mem_of_getElem? (i := 322) (by decide +kernel)), rfl⟩
theorem k_sel_NS_has : Cond.selects R_NS y_NS_has y_NS_has ∈ w_tb := List.mem_filter.mpr ⟨List.mem_append_right _ (List.mem_of_getElem? (i := 323) (by decide +kernel)), rfl⟩
abbrev b_NS_put : ByteArray := prog_5_method_3_code
def y_NS_put : MethodName := ⟨R_NS, "put", "(I)V"⟩
abbrev rm_NS_put : Room := { frames := 0, cells := 0, slots := 0, locals := 0 }
set_option maxRecDepth 20000 in
theorem k_code_NS_put : Cond.code y_NS_put b_NS_put 2 none ∈ w_tb := List.mem_filter.mpr ⟨List.mem_append_right _ (List.mem_of_getElem? (i := 332) rfl), rfl⟩
theorem k_inst_NS_put : Cond.instanceMethod y_NS_put ∈ w_tb := List.mem_filter.mpr ⟨List.mem_append_right _ (List.mem_of_getElem? (i := 330) (by decide +kernel)), rfl⟩
theorem k_sel_NS_put : Cond.selects R_NS y_NS_put y_NS_put ∈ w_tb := List.mem_filter.mpr ⟨List.mem_append_right _ (List.mem_of_getElem? (i := 331) (by decide +kernel)), rfl⟩
abbrev b_NS_putAll : ByteArray := prog_5_method_5_code
def y_NS_putAll : MethodName := ⟨R_NS, "putAll", "(LInitiatorRows$NumberSet;)V"⟩
abbrev rm_NS_putAll : Room := { frames := 0, cells := 0, slots := 0, locals := 0 }
set_option maxRecDepth 20000 in
theorem k_code_NS_putAll : Cond.code y_NS_putAll b_NS_putAll 2 none ∈ w_tb := List.mem_filter.mpr ⟨List.mem_append_right _ (List.mem_of_getElem? (i := 336) rfl), rfl⟩
theorem k_inst_NS_putAll : Cond.instanceMethod y_NS_putAll ∈ w_tb := List.mem_filter.mpr ⟨List.mem_append_right _ (List.mem_of_getElem? (i := 334) (by decide +kernel)), rfl⟩
theorem k_sel_NS_putAll : Cond.selects R_NS y_NS_putAll y_NS_putAll ∈ w_tb := List.mem_filter.mpr ⟨List.mem_append_right _ (List.mem_of_getElem? (i := 335) (by decide +kernel)), rfl⟩
abbrev b_Rows_addNeed : ByteArray := prog_1_method_27_code
def y_Rows_addNeed : MethodName := ⟨R_Rows, "addNeed", "(LInitiatorRows$Job;LInitiatorRows$Job;)V"⟩
abbrev rm_Rows_addNeed : Room := { frames := 3, cells := 0, slots := 0, locals := 64 }
set_option maxRecDepth 20000 in
theorem k_code_Rows_addNeed : Cond.code y_Rows_addNeed b_Rows_addNeed 5 none ∈ w_tb := List.mem_filter.mpr ⟨List.mem_append_right _ (List.mem_of_getElem? (i := 328) rfl), rfl⟩
theorem k_inst_Rows_addNeed : Cond.instanceMethod y_Rows_addNeed ∈ w_tb := List.mem_filter.mpr ⟨List.mem_append_right _ (List.mem_of_getElem? (i := 327) (by decide +kernel)), rfl⟩
theorem k_sel_Rows_addNeed : Cond.selects R_Rows y_Rows_addNeed y_Rows_addNeed ∈ w_tb := List.mem_filter.mpr ⟨List.mem_append_left _ (List.mem_of_getElem? (i := 5) rfl), rfl⟩
abbrev b_Rows_needs : ByteArray := prog_1_method_7_code
def y_Rows_needs : MethodName := ⟨R_Rows, "needs", "(II)I"⟩
abbrev rm_Rows_needs : Room := { frames := 4, cells := 0, slots := 0, locals := 88 }
set_option maxRecDepth 20000 in
theorem k_code_Rows_needs : Cond.code y_Rows_needs b_Rows_needs 5 (some .int) ∈ w_tb := List.mem_filter.mpr ⟨List.mem_append_right _ (List.mem_of_getElem? (i := 312) rfl), rfl⟩
abbrev b_Rows_isKind : ByteArray := prog_1_method_24_code
def y_Rows_isKind : MethodName := ⟨R_Rows, "isKind", "(I)Z"⟩
abbrev rm_Rows_isKind : Room := { frames := 1, cells := 0, slots := 0, locals := 22 }
set_option maxRecDepth 20000 in
theorem k_code_Rows_isKind : Cond.code y_Rows_isKind b_Rows_isKind 1 (some .boolean) ∈ w_tb := List.mem_filter.mpr ⟨List.mem_append_right _ (List.mem_of_getElem? (i := 343) rfl), rfl⟩
theorem k_stat_Rows_isKind : Cond.static y_Rows_isKind ∈ w_tb := List.mem_filter.mpr ⟨List.mem_append_right _ (List.mem_of_getElem? (i := 342) (by decide +kernel)), rfl⟩
abbrev b_Rows_units : ByteArray := prog_1_method_8_code
def y_Rows_units : MethodName := ⟨R_Rows, "units", "(II)I"⟩
abbrev rm_Rows_units : Room := { frames := 2, cells := 0, slots := 0, locals := 42 }
set_option maxRecDepth 20000 in
theorem k_code_Rows_units : Cond.code y_Rows_units b_Rows_units 3 (some .int) ∈ w_tb := List.mem_filter.mpr ⟨List.mem_append_right _ (List.mem_of_getElem? (i := 340) rfl), rfl⟩
abbrev b_Rows_uses : ByteArray := prog_1_method_9_code
def y_Rows_uses : MethodName := ⟨R_Rows, "uses", "(III)I"⟩
abbrev rm_Rows_uses : Room := { frames := 4, cells := 0, slots := 0, locals := 85 }
set_option maxRecDepth 20000 in
theorem k_code_Rows_uses : Cond.code y_Rows_uses b_Rows_uses 5 (some .int) ∈ w_tb := List.mem_filter.mpr ⟨List.mem_append_right _ (List.mem_of_getElem? (i := 347) rfl), rfl⟩
abbrev b_Rows_alone : ByteArray := prog_1_method_10_code
def y_Rows_alone : MethodName := ⟨R_Rows, "alone", "(I)I"⟩
abbrev rm_Rows_alone : Room := { frames := 4, cells := 0, slots := 0, locals := 85 }
set_option maxRecDepth 20000 in
theorem k_code_Rows_alone : Cond.code y_Rows_alone b_Rows_alone 3 (some .int) ∈ w_tb := List.mem_filter.mpr ⟨List.mem_append_right _ (List.mem_of_getElem? (i := 351) rfl), rfl⟩
abbrev b_Rows_hold : ByteArray := prog_1_method_11_code
def y_Rows_hold : MethodName := ⟨R_Rows, "hold", "(IZ)I"⟩
abbrev rm_Rows_hold : Room := { frames := 4, cells := 0, slots := 0, locals := 85 }
set_option maxRecDepth 20000 in
theorem k_code_Rows_hold : Cond.code y_Rows_hold b_Rows_hold 5 (some .int) ∈ w_tb := List.mem_filter.mpr ⟨List.mem_append_right _ (List.mem_of_getElem? (i := 355) rfl), rfl⟩
abbrev b_Rows_isWindowOpen : ByteArray := prog_1_method_31_code
def y_Rows_isWindowOpen : MethodName := ⟨R_Rows, "isWindowOpen", "(I)Z"⟩
abbrev rm_Rows_isWindowOpen : Room := { frames := 0, cells := 0, slots := 0, locals := 0 }
set_option maxRecDepth 20000 in
theorem k_code_Rows_isWindowOpen : Cond.code y_Rows_isWindowOpen b_Rows_isWindowOpen 5 (some .boolean) ∈ w_tb := List.mem_filter.mpr ⟨List.mem_append_right _ (List.mem_of_getElem? (i := 375) rfl), rfl⟩
theorem k_inst_Rows_isWindowOpen : Cond.instanceMethod y_Rows_isWindowOpen ∈ w_tb := List.mem_filter.mpr ⟨List.mem_append_right _ (List.mem_of_getElem? (i := 374) (by decide +kernel)), rfl⟩
theorem k_sel_Rows_isWindowOpen : Cond.selects R_Rows y_Rows_isWindowOpen y_Rows_isWindowOpen ∈ w_tb := List.mem_filter.mpr ⟨List.mem_append_left _ (List.mem_of_getElem? (i := 9) rfl), rfl⟩
abbrev b_NS_isWithin : ByteArray := prog_5_method_6_code
def y_NS_isWithin : MethodName := ⟨R_NS, "isWithin", "(LInitiatorRows$NumberSet;)Z"⟩
abbrev rm_NS_isWithin : Room := { frames := 0, cells := 0, slots := 0, locals := 0 }
set_option maxRecDepth 20000 in
theorem k_code_NS_isWithin : Cond.code y_NS_isWithin b_NS_isWithin 2 (some .boolean) ∈ w_tb := List.mem_filter.mpr ⟨List.mem_append_right _ (List.mem_of_getElem? (i := 380) rfl), rfl⟩
theorem k_inst_NS_isWithin : Cond.instanceMethod y_NS_isWithin ∈ w_tb := List.mem_filter.mpr ⟨List.mem_append_right _ (List.mem_of_getElem? (i := 378) (by decide +kernel)), rfl⟩
theorem k_sel_NS_isWithin : Cond.selects R_NS y_NS_isWithin y_NS_isWithin ∈ w_tb := List.mem_filter.mpr ⟨List.mem_append_right _ (List.mem_of_getElem? (i := 379) (by decide +kernel)), rfl⟩
abbrev b_Rows_areUnitsEnough : ByteArray := prog_1_method_32_code
def y_Rows_areUnitsEnough : MethodName := ⟨R_Rows, "areUnitsEnough", "(LInitiatorRows$Job;)Z"⟩
abbrev rm_Rows_areUnitsEnough : Room := { frames := 0, cells := 0, slots := 0, locals := 0 }
set_option maxRecDepth 20000 in
theorem k_code_Rows_areUnitsEnough : Cond.code y_Rows_areUnitsEnough b_Rows_areUnitsEnough 3 (some .boolean) ∈ w_tb := List.mem_filter.mpr ⟨List.mem_append_right _ (List.mem_of_getElem? (i := 385) rfl), rfl⟩
theorem k_inst_Rows_areUnitsEnough : Cond.instanceMethod y_Rows_areUnitsEnough ∈ w_tb := List.mem_filter.mpr ⟨List.mem_append_right _ (List.mem_of_getElem? (i := 384) (by decide +kernel)), rfl⟩
theorem k_sel_Rows_areUnitsEnough : Cond.selects R_Rows y_Rows_areUnitsEnough y_Rows_areUnitsEnough ∈ w_tb := List.mem_filter.mpr ⟨List.mem_append_left _ (List.mem_of_getElem? (i := 10) rfl), rfl⟩
abbrev b_Rows_mayStart : ByteArray := prog_1_method_30_code
def y_Rows_mayStart : MethodName := ⟨R_Rows, "mayStart", "(LInitiatorRows$Job;)Z"⟩
abbrev rm_Rows_mayStart : Room := { frames := 1, cells := 0, slots := 0, locals := 24 }
set_option maxRecDepth 20000 in
theorem k_code_Rows_mayStart : Cond.code y_Rows_mayStart b_Rows_mayStart 2 (some .boolean) ∈ w_tb := List.mem_filter.mpr ⟨List.mem_append_right _ (List.mem_of_getElem? (i := 371) rfl), rfl⟩
theorem k_inst_Rows_mayStart : Cond.instanceMethod y_Rows_mayStart ∈ w_tb := List.mem_filter.mpr ⟨List.mem_append_right _ (List.mem_of_getElem? (i := 370) (by decide +kernel)), rfl⟩
theorem k_sel_Rows_mayStart : Cond.selects R_Rows y_Rows_mayStart y_Rows_mayStart ∈ w_tb := List.mem_filter.mpr ⟨List.mem_append_left _ (List.mem_of_getElem? (i := 8) rfl), rfl⟩
abbrev b_Rows_priorityNow : ByteArray := prog_1_method_33_code
def y_Rows_priorityNow : MethodName := ⟨R_Rows, "priorityNow", "(LInitiatorRows$Job;)I"⟩
abbrev rm_Rows_priorityNow : Room := { frames := 1, cells := 0, slots := 0, locals := 30 }
set_option maxRecDepth 20000 in
theorem k_code_Rows_priorityNow : Cond.code y_Rows_priorityNow b_Rows_priorityNow 5 (some .int) ∈ w_tb := List.mem_filter.mpr ⟨List.mem_append_right _ (List.mem_of_getElem? (i := 389) rfl), rfl⟩
theorem k_inst_Rows_priorityNow : Cond.instanceMethod y_Rows_priorityNow ∈ w_tb := List.mem_filter.mpr ⟨List.mem_append_right _ (List.mem_of_getElem? (i := 388) (by decide +kernel)), rfl⟩
theorem k_sel_Rows_priorityNow : Cond.selects R_Rows y_Rows_priorityNow y_Rows_priorityNow ∈ w_tb := List.mem_filter.mpr ⟨List.mem_append_left _ (List.mem_of_getElem? (i := 11) rfl), rfl⟩
abbrev b_Rows_nextOfClass : ByteArray := prog_1_method_29_code
def y_Rows_nextOfClass : MethodName := ⟨R_Rows, "nextOfClass", "(I)LInitiatorRows$Job;"⟩
abbrev rm_Rows_nextOfClass : Room := { frames := 3, cells := 0, slots := 0, locals := 64 }
set_option maxRecDepth 20000 in
theorem k_code_Rows_nextOfClass : Cond.code y_Rows_nextOfClass b_Rows_nextOfClass 5 (some (.object "InitiatorRows$Job")) ∈ w_tb := List.mem_filter.mpr ⟨List.mem_append_right _ (List.mem_of_getElem? (i := 367) rfl), rfl⟩
theorem k_inst_Rows_nextOfClass : Cond.instanceMethod y_Rows_nextOfClass ∈ w_tb := List.mem_filter.mpr ⟨List.mem_append_right _ (List.mem_of_getElem? (i := 366) (by decide +kernel)), rfl⟩
theorem k_sel_Rows_nextOfClass : Cond.selects R_Rows y_Rows_nextOfClass y_Rows_nextOfClass ∈ w_tb := List.mem_filter.mpr ⟨List.mem_append_left _ (List.mem_of_getElem? (i := 7) rfl), rfl⟩
abbrev b_Rows_nextFor : ByteArray := prog_1_method_28_code
def y_Rows_nextFor : MethodName := ⟨R_Rows, "nextFor", "(LInitiatorRows$Initiator;)LInitiatorRows$Job;"⟩
abbrev rm_Rows_nextFor : Room := { frames := 4, cells := 0, slots := 0, locals := 88 }
set_option maxRecDepth 20000 in
theorem k_code_Rows_nextFor : Cond.code y_Rows_nextFor b_Rows_nextFor 5 (some (.object "InitiatorRows$Job")) ∈ w_tb := List.mem_filter.mpr ⟨List.mem_append_right _ (List.mem_of_getElem? (i := 363) rfl), rfl⟩
theorem k_inst_Rows_nextFor : Cond.instanceMethod y_Rows_nextFor ∈ w_tb := List.mem_filter.mpr ⟨List.mem_append_right _ (List.mem_of_getElem? (i := 362) (by decide +kernel)), rfl⟩
theorem k_sel_Rows_nextFor : Cond.selects R_Rows y_Rows_nextFor y_Rows_nextFor ∈ w_tb := List.mem_filter.mpr ⟨List.mem_append_left _ (List.mem_of_getElem? (i := 6) rfl), rfl⟩
abbrev b_Load_take : ByteArray := prog_4_method_2_code
def y_Load_take : MethodName := ⟨R_Load, "take", "(LInitiatorRows$Job;)V"⟩
abbrev rm_Load_take : Room := { frames := 1, cells := 0, slots := 0, locals := 21 }
set_option maxRecDepth 20000 in
theorem k_code_Load_take : Cond.code y_Load_take b_Load_take 3 none ∈ w_tb := List.mem_filter.mpr ⟨List.mem_append_right _ (List.mem_of_getElem? (i := 400) rfl), rfl⟩
theorem k_inst_Load_take : Cond.instanceMethod y_Load_take ∈ w_tb := List.mem_filter.mpr ⟨List.mem_append_right _ (List.mem_of_getElem? (i := 398) (by decide +kernel)), rfl⟩
theorem k_sel_Load_take : Cond.selects R_Load y_Load_take y_Load_take ∈ w_tb := List.mem_filter.mpr ⟨List.mem_append_right _ (List.mem_of_getElem? (i := 399) (by decide +kernel)), rfl⟩
abbrev b_Rows_startJob : ByteArray := prog_1_method_34_code
def y_Rows_startJob : MethodName := ⟨R_Rows, "startJob", "(LInitiatorRows$Initiator;LInitiatorRows$Job;)V"⟩
abbrev rm_Rows_startJob : Room := { frames := 2, cells := 0, slots := 0, locals := 43 }
set_option maxRecDepth 20000 in
theorem k_code_Rows_startJob : Cond.code y_Rows_startJob b_Rows_startJob 3 none ∈ w_tb := List.mem_filter.mpr ⟨List.mem_append_right _ (List.mem_of_getElem? (i := 396) rfl), rfl⟩
theorem k_inst_Rows_startJob : Cond.instanceMethod y_Rows_startJob ∈ w_tb := List.mem_filter.mpr ⟨List.mem_append_right _ (List.mem_of_getElem? (i := 395) (by decide +kernel)), rfl⟩
theorem k_sel_Rows_startJob : Cond.selects R_Rows y_Rows_startJob y_Rows_startJob ∈ w_tb := List.mem_filter.mpr ⟨List.mem_append_left _ (List.mem_of_getElem? (i := 12) rfl), rfl⟩
abbrev b_Rows_next : ByteArray := prog_1_method_12_code
def y_Rows_next : MethodName := ⟨R_Rows, "next", "(IJ)I"⟩
abbrev rm_Rows_next : Room := { frames := 5, cells := 0, slots := 0, locals := 112 }
set_option maxRecDepth 20000 in
theorem k_code_Rows_next : Cond.code y_Rows_next b_Rows_next 6 (some .int) ∈ w_tb := List.mem_filter.mpr ⟨List.mem_append_right _ (List.mem_of_getElem? (i := 359) rfl), rfl⟩
abbrev b_NS_drop : ByteArray := prog_5_method_4_code
def y_NS_drop : MethodName := ⟨R_NS, "drop", "(I)V"⟩
abbrev rm_NS_drop : Room := { frames := 0, cells := 0, slots := 0, locals := 0 }
set_option maxRecDepth 20000 in
theorem k_code_NS_drop : Cond.code y_NS_drop b_NS_drop 2 none ∈ w_tb := List.mem_filter.mpr ⟨List.mem_append_right _ (List.mem_of_getElem? (i := 417) rfl), rfl⟩
theorem k_inst_NS_drop : Cond.instanceMethod y_NS_drop ∈ w_tb := List.mem_filter.mpr ⟨List.mem_append_right _ (List.mem_of_getElem? (i := 415) (by decide +kernel)), rfl⟩
theorem k_sel_NS_drop : Cond.selects R_NS y_NS_drop y_NS_drop ∈ w_tb := List.mem_filter.mpr ⟨List.mem_append_right _ (List.mem_of_getElem? (i := 416) (by decide +kernel)), rfl⟩
abbrev b_Load_release : ByteArray := prog_4_method_3_code
def y_Load_release : MethodName := ⟨R_Load, "release", "(LInitiatorRows$Job;)V"⟩
abbrev rm_Load_release : Room := { frames := 1, cells := 0, slots := 0, locals := 21 }
set_option maxRecDepth 20000 in
theorem k_code_Load_release : Cond.code y_Load_release b_Load_release 3 none ∈ w_tb := List.mem_filter.mpr ⟨List.mem_append_right _ (List.mem_of_getElem? (i := 413) rfl), rfl⟩
theorem k_inst_Load_release : Cond.instanceMethod y_Load_release ∈ w_tb := List.mem_filter.mpr ⟨List.mem_append_right _ (List.mem_of_getElem? (i := 411) (by decide +kernel)), rfl⟩
theorem k_sel_Load_release : Cond.selects R_Load y_Load_release y_Load_release ∈ w_tb := List.mem_filter.mpr ⟨List.mem_append_right _ (List.mem_of_getElem? (i := 412) (by decide +kernel)), rfl⟩
abbrev b_Rows_stopJob : ByteArray := prog_1_method_35_code
def y_Rows_stopJob : MethodName := ⟨R_Rows, "stopJob", "(LInitiatorRows$Job;)V"⟩
abbrev rm_Rows_stopJob : Room := { frames := 3, cells := 0, slots := 0, locals := 64 }
set_option maxRecDepth 20000 in
theorem k_code_Rows_stopJob : Cond.code y_Rows_stopJob b_Rows_stopJob 4 none ∈ w_tb := List.mem_filter.mpr ⟨List.mem_append_right _ (List.mem_of_getElem? (i := 409) rfl), rfl⟩
theorem k_inst_Rows_stopJob : Cond.instanceMethod y_Rows_stopJob ∈ w_tb := List.mem_filter.mpr ⟨List.mem_append_right _ (List.mem_of_getElem? (i := 408) (by decide +kernel)), rfl⟩
theorem k_sel_Rows_stopJob : Cond.selects R_Rows y_Rows_stopJob y_Rows_stopJob ∈ w_tb := List.mem_filter.mpr ⟨List.mem_append_left _ (List.mem_of_getElem? (i := 13) rfl), rfl⟩
abbrev b_Rows_end : ByteArray := prog_1_method_13_code
def y_Rows_end : MethodName := ⟨R_Rows, "end", "(I)I"⟩
abbrev rm_Rows_end : Room := { frames := 4, cells := 0, slots := 0, locals := 87 }
set_option maxRecDepth 20000 in
theorem k_code_Rows_end : Cond.code y_Rows_end b_Rows_end 3 (some .int) ∈ w_tb := List.mem_filter.mpr ⟨List.mem_append_right _ (List.mem_of_getElem? (i := 405) rfl), rfl⟩
abbrev b_Rows_age : ByteArray := prog_1_method_14_code
def y_Rows_age : MethodName := ⟨R_Rows, "age", "(JI)I"⟩
abbrev rm_Rows_age : Room := { frames := 1, cells := 0, slots := 0, locals := 22 }
set_option maxRecDepth 20000 in
theorem k_code_Rows_age : Cond.code y_Rows_age b_Rows_age 4 (some .int) ∈ w_tb := List.mem_filter.mpr ⟨List.mem_append_right _ (List.mem_of_getElem? (i := 421) rfl), rfl⟩
abbrev b_Rows_drain : ByteArray := prog_1_method_15_code
def y_Rows_drain : MethodName := ⟨R_Rows, "drain", "(IZ)I"⟩
abbrev rm_Rows_drain : Room := { frames := 4, cells := 0, slots := 0, locals := 85 }
set_option maxRecDepth 20000 in
theorem k_code_Rows_drain : Cond.code y_Rows_drain b_Rows_drain 4 (some .int) ∈ w_tb := List.mem_filter.mpr ⟨List.mem_append_right _ (List.mem_of_getElem? (i := 425) rfl), rfl⟩
abbrev b_Rows_weight : ByteArray := prog_1_method_16_code
def y_Rows_weight : MethodName := ⟨R_Rows, "weight", "(II)I"⟩
abbrev rm_Rows_weight : Room := { frames := 2, cells := 0, slots := 0, locals := 42 }
set_option maxRecDepth 20000 in
theorem k_code_Rows_weight : Cond.code y_Rows_weight b_Rows_weight 3 (some .int) ∈ w_tb := List.mem_filter.mpr ⟨List.mem_append_right _ (List.mem_of_getElem? (i := 429) rfl), rfl⟩
abbrev b_Rows_order : ByteArray := prog_1_method_18_code
def y_Rows_order : MethodName := ⟨R_Rows, "order", "(I)I"⟩
abbrev rm_Rows_order : Room := { frames := 3, cells := 0, slots := 0, locals := 64 }
set_option maxRecDepth 20000 in
theorem k_code_Rows_order : Cond.code y_Rows_order b_Rows_order 6 (some .int) ∈ w_tb := List.mem_filter.mpr ⟨List.mem_append_right _ (List.mem_of_getElem? (i := 433) rfl), rfl⟩
abbrev b_Rows_waited : ByteArray := prog_1_method_19_code
def y_Rows_waited : MethodName := ⟨R_Rows, "waited", "(I)J"⟩
abbrev rm_Rows_waited : Room := { frames := 4, cells := 0, slots := 0, locals := 85 }
set_option maxRecDepth 20000 in
theorem k_code_Rows_waited : Cond.code y_Rows_waited b_Rows_waited 3 (some .long) ∈ w_tb := List.mem_filter.mpr ⟨List.mem_append_right _ (List.mem_of_getElem? (i := 437) rfl), rfl⟩
abbrev b_Rows_state : ByteArray := prog_1_method_20_code
def y_Rows_state : MethodName := ⟨R_Rows, "state", "(I)I"⟩
abbrev rm_Rows_state : Room := { frames := 4, cells := 0, slots := 0, locals := 85 }
set_option maxRecDepth 20000 in
theorem k_code_Rows_state : Cond.code y_Rows_state b_Rows_state 3 (some .int) ∈ w_tb := List.mem_filter.mpr ⟨List.mem_append_right _ (List.mem_of_getElem? (i := 442) rfl), rfl⟩
abbrev b_Rows_jobsIn : ByteArray := prog_1_method_37_code
def y_Rows_jobsIn : MethodName := ⟨R_Rows, "jobsIn", "(I)I"⟩
abbrev rm_Rows_jobsIn : Room := { frames := 3, cells := 0, slots := 0, locals := 64 }
set_option maxRecDepth 20000 in
theorem k_code_Rows_jobsIn : Cond.code y_Rows_jobsIn b_Rows_jobsIn 4 (some .int) ∈ w_tb := List.mem_filter.mpr ⟨List.mem_append_right _ (List.mem_of_getElem? (i := 450) rfl), rfl⟩
theorem k_inst_Rows_jobsIn : Cond.instanceMethod y_Rows_jobsIn ∈ w_tb := List.mem_filter.mpr ⟨List.mem_append_right _ (List.mem_of_getElem? (i := 449) (by decide +kernel)), rfl⟩
theorem k_sel_Rows_jobsIn : Cond.selects R_Rows y_Rows_jobsIn y_Rows_jobsIn ∈ w_tb := List.mem_filter.mpr ⟨List.mem_append_left _ (List.mem_of_getElem? (i := 14) rfl), rfl⟩
abbrev b_Rows_drainedAndIdle : ByteArray := prog_1_method_38_code
def y_Rows_drainedAndIdle : MethodName := ⟨R_Rows, "drainedAndIdle", "()I"⟩
abbrev rm_Rows_drainedAndIdle : Room := { frames := 3, cells := 0, slots := 0, locals := 64 }
set_option maxRecDepth 20000 in
theorem k_code_Rows_drainedAndIdle : Cond.code y_Rows_drainedAndIdle b_Rows_drainedAndIdle 4 (some .int) ∈ w_tb := List.mem_filter.mpr ⟨List.mem_append_right _ (List.mem_of_getElem? (i := 454) rfl), rfl⟩
theorem k_inst_Rows_drainedAndIdle : Cond.instanceMethod y_Rows_drainedAndIdle ∈ w_tb := List.mem_filter.mpr ⟨List.mem_append_right _ (List.mem_of_getElem? (i := 453) (by decide +kernel)), rfl⟩
theorem k_sel_Rows_drainedAndIdle : Cond.selects R_Rows y_Rows_drainedAndIdle y_Rows_drainedAndIdle ∈ w_tb := List.mem_filter.mpr ⟨List.mem_append_left _ (List.mem_of_getElem? (i := 15) rfl), rfl⟩
abbrev b_Rows_unitsInUse : ByteArray := prog_1_method_39_code
def y_Rows_unitsInUse : MethodName := ⟨R_Rows, "unitsInUse", "(I)I"⟩
abbrev rm_Rows_unitsInUse : Room := { frames := 1, cells := 0, slots := 0, locals := 22 }
set_option maxRecDepth 20000 in
theorem k_code_Rows_unitsInUse : Cond.code y_Rows_unitsInUse b_Rows_unitsInUse 2 (some .int) ∈ w_tb := List.mem_filter.mpr ⟨List.mem_append_right _ (List.mem_of_getElem? (i := 458) rfl), rfl⟩
theorem k_inst_Rows_unitsInUse : Cond.instanceMethod y_Rows_unitsInUse ∈ w_tb := List.mem_filter.mpr ⟨List.mem_append_right _ (List.mem_of_getElem? (i := 457) (by decide +kernel)), rfl⟩
theorem k_sel_Rows_unitsInUse : Cond.selects R_Rows y_Rows_unitsInUse y_Rows_unitsInUse ∈ w_tb := List.mem_filter.mpr ⟨List.mem_append_left _ (List.mem_of_getElem? (i := 16) rfl), rfl⟩
abbrev b_Rows_count : ByteArray := prog_1_method_21_code
def y_Rows_count : MethodName := ⟨R_Rows, "count", "(I)I"⟩
abbrev rm_Rows_count : Room := { frames := 4, cells := 0, slots := 0, locals := 87 }
set_option maxRecDepth 20000 in
theorem k_code_Rows_count : Cond.code y_Rows_count b_Rows_count 2 (some .int) ∈ w_tb := List.mem_filter.mpr ⟨List.mem_append_right _ (List.mem_of_getElem? (i := 446) rfl), rfl⟩
abbrev b_Rows_sumOfWeights : ByteArray := prog_1_method_36_code
def y_Rows_sumOfWeights : MethodName := ⟨R_Rows, "sumOfWeights", "()J"⟩
abbrev rm_Rows_sumOfWeights : Room := { frames := 0, cells := 0, slots := 0, locals := 0 }
set_option maxRecDepth 20000 in
theorem k_code_Rows_sumOfWeights : Cond.code y_Rows_sumOfWeights b_Rows_sumOfWeights 4 (some .long) ∈ w_tb := List.mem_filter.mpr ⟨List.mem_append_right _ (List.mem_of_getElem? (i := 470) rfl), rfl⟩
abbrev b_Mod_init : ByteArray := prog_7_method_1_code
def y_Mod_init : MethodName := ⟨R_Mod, "<init>", "()V"⟩
abbrev rm_Mod_init : Room := { frames := 1, cells := 19, slots := 11568, locals := 20 }
set_option maxRecDepth 20000 in
theorem k_code_Mod_init : Cond.code y_Mod_init b_Mod_init 2 none ∈ w_tb := List.mem_filter.mpr ⟨List.mem_append_right _ (List.mem_of_getElem? (i := 541) rfl), rfl⟩
abbrev b_Mod_thrown : ByteArray := prog_7_method_2_code
def y_Mod_thrown : MethodName := ⟨R_Mod, "thrown", "()I"⟩
abbrev rm_Mod_thrown : Room := { frames := 0, cells := 0, slots := 0, locals := 0 }
set_option maxRecDepth 20000 in
theorem k_code_Mod_thrown : Cond.code y_Mod_thrown b_Mod_thrown 1 (some .int) ∈ w_tb := List.mem_filter.mpr ⟨List.mem_append_right _ (List.mem_of_getElem? (i := 624) rfl), rfl⟩
abbrev b_Mod_isInitiator : ByteArray := prog_7_method_3_code
def y_Mod_isInitiator : MethodName := ⟨R_Mod, "isInitiator", "(I)Z"⟩
abbrev rm_Mod_isInitiator : Room := { frames := 0, cells := 0, slots := 0, locals := 0 }
set_option maxRecDepth 20000 in
theorem k_code_Mod_isInitiator : Cond.code y_Mod_isInitiator b_Mod_isInitiator 2 (some .boolean) ∈ w_tb := List.mem_filter.mpr ⟨List.mem_append_right _ (List.mem_of_getElem? (i := 636) rfl), rfl⟩
theorem k_inst_Mod_isInitiator : Cond.instanceMethod y_Mod_isInitiator ∈ w_tb := List.mem_filter.mpr ⟨List.mem_append_right _ (List.mem_of_getElem? (i := 635) (by decide +kernel)), rfl⟩
theorem k_sel_Mod_isInitiator : Cond.selects R_Mod y_Mod_isInitiator y_Mod_isInitiator ∈ w_tb := List.mem_filter.mpr ⟨List.mem_append_left _ (List.mem_of_getElem? (i := 19) rfl), rfl⟩
abbrev b_Mod_isJob : ByteArray := prog_7_method_4_code
def y_Mod_isJob : MethodName := ⟨R_Mod, "isJob", "(I)Z"⟩
abbrev rm_Mod_isJob : Room := { frames := 0, cells := 0, slots := 0, locals := 0 }
set_option maxRecDepth 20000 in
theorem k_code_Mod_isJob : Cond.code y_Mod_isJob b_Mod_isJob 2 (some .boolean) ∈ w_tb := List.mem_filter.mpr ⟨List.mem_append_right _ (List.mem_of_getElem? (i := 662) rfl), rfl⟩
theorem k_inst_Mod_isJob : Cond.instanceMethod y_Mod_isJob ∈ w_tb := List.mem_filter.mpr ⟨List.mem_append_right _ (List.mem_of_getElem? (i := 661) (by decide +kernel)), rfl⟩
theorem k_sel_Mod_isJob : Cond.selects R_Mod y_Mod_isJob y_Mod_isJob ∈ w_tb := List.mem_filter.mpr ⟨List.mem_append_left _ (List.mem_of_getElem? (i := 20) rfl), rfl⟩
abbrev b_Mod_isClass : ByteArray := prog_7_method_5_code
def y_Mod_isClass : MethodName := ⟨R_Mod, "isClass", "(I)Z"⟩
abbrev rm_Mod_isClass : Room := { frames := 0, cells := 0, slots := 0, locals := 0 }
set_option maxRecDepth 20000 in
theorem k_code_Mod_isClass : Cond.code y_Mod_isClass b_Mod_isClass 1 (some .boolean) ∈ w_tb := List.mem_filter.mpr ⟨List.mem_append_right _ (List.mem_of_getElem? (i := 639) rfl), rfl⟩
theorem k_stat_Mod_isClass : Cond.static y_Mod_isClass ∈ w_tb := List.mem_filter.mpr ⟨List.mem_append_right _ (List.mem_of_getElem? (i := 638) (by decide +kernel)), rfl⟩
abbrev b_Mod_initiator : ByteArray := prog_7_method_6_code
def y_Mod_initiator : MethodName := ⟨R_Mod, "initiator", "()I"⟩
abbrev rm_Mod_initiator : Room := { frames := 0, cells := 0, slots := 0, locals := 0 }
set_option maxRecDepth 20000 in
theorem k_code_Mod_initiator : Cond.code y_Mod_initiator b_Mod_initiator 1 (some .int) ∈ w_tb := List.mem_filter.mpr ⟨List.mem_append_right _ (List.mem_of_getElem? (i := 628) rfl), rfl⟩
abbrev b_Mod_cls : ByteArray := prog_7_method_7_code
def y_Mod_cls : MethodName := ⟨R_Mod, "cls", "(III)I"⟩
abbrev rm_Mod_cls : Room := { frames := 1, cells := 0, slots := 0, locals := 21 }
set_option maxRecDepth 20000 in
theorem k_code_Mod_cls : Cond.code y_Mod_cls b_Mod_cls 4 (some .int) ∈ w_tb := List.mem_filter.mpr ⟨List.mem_append_right _ (List.mem_of_getElem? (i := 632) rfl), rfl⟩
abbrev b_Mod_limit : ByteArray := prog_7_method_8_code
def y_Mod_limit : MethodName := ⟨R_Mod, "limit", "(II)I"⟩
abbrev rm_Mod_limit : Room := { frames := 1, cells := 0, slots := 0, locals := 20 }
set_option maxRecDepth 20000 in
theorem k_code_Mod_limit : Cond.code y_Mod_limit b_Mod_limit 3 (some .int) ∈ w_tb := List.mem_filter.mpr ⟨List.mem_append_right _ (List.mem_of_getElem? (i := 643) rfl), rfl⟩
abbrev b_Mod_isMinute : ByteArray := prog_7_method_9_code
def y_Mod_isMinute : MethodName := ⟨R_Mod, "isMinute", "(I)Z"⟩
abbrev rm_Mod_isMinute : Room := { frames := 0, cells := 0, slots := 0, locals := 0 }
set_option maxRecDepth 20000 in
theorem k_code_Mod_isMinute : Cond.code y_Mod_isMinute b_Mod_isMinute 1 (some .boolean) ∈ w_tb := List.mem_filter.mpr ⟨List.mem_append_right _ (List.mem_of_getElem? (i := 650) rfl), rfl⟩
theorem k_stat_Mod_isMinute : Cond.static y_Mod_isMinute ∈ w_tb := List.mem_filter.mpr ⟨List.mem_append_right _ (List.mem_of_getElem? (i := 649) (by decide +kernel)), rfl⟩
abbrev b_Mod_window : ByteArray := prog_7_method_10_code
def y_Mod_window : MethodName := ⟨R_Mod, "window", "(III)I"⟩
abbrev rm_Mod_window : Room := { frames := 1, cells := 0, slots := 0, locals := 20 }
set_option maxRecDepth 20000 in
theorem k_code_Mod_window : Cond.code y_Mod_window b_Mod_window 4 (some .int) ∈ w_tb := List.mem_filter.mpr ⟨List.mem_append_right _ (List.mem_of_getElem? (i := 647) rfl), rfl⟩
abbrev b_Mod_job : ByteArray := prog_7_method_11_code
def y_Mod_job : MethodName := ⟨R_Mod, "job", "(IIIJ)I"⟩
abbrev rm_Mod_job : Room := { frames := 1, cells := 0, slots := 0, locals := 20 }
set_option maxRecDepth 20000 in
theorem k_code_Mod_job : Cond.code y_Mod_job b_Mod_job 6 (some .int) ∈ w_tb := List.mem_filter.mpr ⟨List.mem_append_right _ (List.mem_of_getElem? (i := 654) rfl), rfl⟩
abbrev b_Mod_reaches : ByteArray := prog_7_method_12_code
def y_Mod_reaches : MethodName := ⟨R_Mod, "reaches", "(II)Z"⟩
abbrev rm_Mod_reaches : Room := { frames := 0, cells := 0, slots := 0, locals := 0 }
set_option maxRecDepth 20000 in
theorem k_code_Mod_reaches : Cond.code y_Mod_reaches b_Mod_reaches 6 (some .boolean) ∈ w_tb := List.mem_filter.mpr ⟨List.mem_append_right _ (List.mem_of_getElem? (i := 666) rfl), rfl⟩
theorem k_inst_Mod_reaches : Cond.instanceMethod y_Mod_reaches ∈ w_tb := List.mem_filter.mpr ⟨List.mem_append_right _ (List.mem_of_getElem? (i := 665) (by decide +kernel)), rfl⟩
theorem k_sel_Mod_reaches : Cond.selects R_Mod y_Mod_reaches y_Mod_reaches ∈ w_tb := List.mem_filter.mpr ⟨List.mem_append_left _ (List.mem_of_getElem? (i := 21) rfl), rfl⟩
abbrev b_Mod_needs : ByteArray := prog_7_method_13_code
def y_Mod_needs : MethodName := ⟨R_Mod, "needs", "(II)I"⟩
abbrev rm_Mod_needs : Room := { frames := 1, cells := 0, slots := 0, locals := 25 }
set_option maxRecDepth 20000 in
theorem k_code_Mod_needs : Cond.code y_Mod_needs b_Mod_needs 3 (some .int) ∈ w_tb := List.mem_filter.mpr ⟨List.mem_append_right _ (List.mem_of_getElem? (i := 658) rfl), rfl⟩
abbrev b_Mod_units : ByteArray := prog_7_method_14_code
def y_Mod_units : MethodName := ⟨R_Mod, "units", "(II)I"⟩
abbrev rm_Mod_units : Room := { frames := 0, cells := 0, slots := 0, locals := 0 }
set_option maxRecDepth 20000 in
theorem k_code_Mod_units : Cond.code y_Mod_units b_Mod_units 3 (some .int) ∈ w_tb := List.mem_filter.mpr ⟨List.mem_append_right _ (List.mem_of_getElem? (i := 670) rfl), rfl⟩
abbrev b_Mod_uses : ByteArray := prog_7_method_15_code
def y_Mod_uses : MethodName := ⟨R_Mod, "uses", "(III)I"⟩
abbrev rm_Mod_uses : Room := { frames := 1, cells := 0, slots := 0, locals := 21 }
set_option maxRecDepth 20000 in
theorem k_code_Mod_uses : Cond.code y_Mod_uses b_Mod_uses 4 (some .int) ∈ w_tb := List.mem_filter.mpr ⟨List.mem_append_right _ (List.mem_of_getElem? (i := 674) rfl), rfl⟩
abbrev b_Mod_alone : ByteArray := prog_7_method_16_code
def y_Mod_alone : MethodName := ⟨R_Mod, "alone", "(I)I"⟩
abbrev rm_Mod_alone : Room := { frames := 1, cells := 0, slots := 0, locals := 21 }
set_option maxRecDepth 20000 in
theorem k_code_Mod_alone : Cond.code y_Mod_alone b_Mod_alone 2 (some .int) ∈ w_tb := List.mem_filter.mpr ⟨List.mem_append_right _ (List.mem_of_getElem? (i := 678) rfl), rfl⟩
abbrev b_Mod_hold : ByteArray := prog_7_method_17_code
def y_Mod_hold : MethodName := ⟨R_Mod, "hold", "(IZ)I"⟩
abbrev rm_Mod_hold : Room := { frames := 1, cells := 0, slots := 0, locals := 21 }
set_option maxRecDepth 20000 in
theorem k_code_Mod_hold : Cond.code y_Mod_hold b_Mod_hold 4 (some .int) ∈ w_tb := List.mem_filter.mpr ⟨List.mem_append_right _ (List.mem_of_getElem? (i := 682) rfl), rfl⟩
abbrev b_Mod_isOpen : ByteArray := prog_7_method_18_code
def y_Mod_isOpen : MethodName := ⟨R_Mod, "isOpen", "(I)Z"⟩
abbrev rm_Mod_isOpen : Room := { frames := 0, cells := 0, slots := 0, locals := 0 }
set_option maxRecDepth 20000 in
theorem k_code_Mod_isOpen : Cond.code y_Mod_isOpen b_Mod_isOpen 3 (some .boolean) ∈ w_tb := List.mem_filter.mpr ⟨List.mem_append_right _ (List.mem_of_getElem? (i := 694) rfl), rfl⟩
theorem k_inst_Mod_isOpen : Cond.instanceMethod y_Mod_isOpen ∈ w_tb := List.mem_filter.mpr ⟨List.mem_append_right _ (List.mem_of_getElem? (i := 693) (by decide +kernel)), rfl⟩
theorem k_sel_Mod_isOpen : Cond.selects R_Mod y_Mod_isOpen y_Mod_isOpen ∈ w_tb := List.mem_filter.mpr ⟨List.mem_append_left _ (List.mem_of_getElem? (i := 23) rfl), rfl⟩
abbrev b_Mod_used : ByteArray := prog_7_method_19_code
def y_Mod_used : MethodName := ⟨R_Mod, "used", "(I)I"⟩
abbrev rm_Mod_used : Room := { frames := 0, cells := 0, slots := 0, locals := 0 }
set_option maxRecDepth 20000 in
theorem k_code_Mod_used : Cond.code y_Mod_used b_Mod_used 4 (some .int) ∈ w_tb := List.mem_filter.mpr ⟨List.mem_append_right _ (List.mem_of_getElem? (i := 699) rfl), rfl⟩
theorem k_inst_Mod_used : Cond.instanceMethod y_Mod_used ∈ w_tb := List.mem_filter.mpr ⟨List.mem_append_right _ (List.mem_of_getElem? (i := 698) (by decide +kernel)), rfl⟩
theorem k_sel_Mod_used : Cond.selects R_Mod y_Mod_used y_Mod_used ∈ w_tb := List.mem_filter.mpr ⟨List.mem_append_left _ (List.mem_of_getElem? (i := 24) rfl), rfl⟩
abbrev b_Mod_mayStart : ByteArray := prog_7_method_20_code
def y_Mod_mayStart : MethodName := ⟨R_Mod, "mayStart", "(I)Z"⟩
abbrev rm_Mod_mayStart : Room := { frames := 1, cells := 0, slots := 0, locals := 23 }
set_option maxRecDepth 20000 in
theorem k_code_Mod_mayStart : Cond.code y_Mod_mayStart b_Mod_mayStart 8 (some .boolean) ∈ w_tb := List.mem_filter.mpr ⟨List.mem_append_right _ (List.mem_of_getElem? (i := 690) rfl), rfl⟩
theorem k_inst_Mod_mayStart : Cond.instanceMethod y_Mod_mayStart ∈ w_tb := List.mem_filter.mpr ⟨List.mem_append_right _ (List.mem_of_getElem? (i := 689) (by decide +kernel)), rfl⟩
theorem k_sel_Mod_mayStart : Cond.selects R_Mod y_Mod_mayStart y_Mod_mayStart ∈ w_tb := List.mem_filter.mpr ⟨List.mem_append_left _ (List.mem_of_getElem? (i := 22) rfl), rfl⟩
abbrev b_Mod_priority : ByteArray := prog_7_method_21_code
def y_Mod_priority : MethodName := ⟨R_Mod, "priority", "(I)J"⟩
abbrev rm_Mod_priority : Room := { frames := 0, cells := 0, slots := 0, locals := 0 }
set_option maxRecDepth 20000 in
theorem k_code_Mod_priority : Cond.code y_Mod_priority b_Mod_priority 10 (some .long) ∈ w_tb := List.mem_filter.mpr ⟨List.mem_append_right _ (List.mem_of_getElem? (i := 707) rfl), rfl⟩
theorem k_inst_Mod_priority : Cond.instanceMethod y_Mod_priority ∈ w_tb := List.mem_filter.mpr ⟨List.mem_append_right _ (List.mem_of_getElem? (i := 706) (by decide +kernel)), rfl⟩
theorem k_sel_Mod_priority : Cond.selects R_Mod y_Mod_priority y_Mod_priority ∈ w_tb := List.mem_filter.mpr ⟨List.mem_append_left _ (List.mem_of_getElem? (i := 26) rfl), rfl⟩
abbrev b_Mod_isAhead : ByteArray := prog_7_method_22_code
def y_Mod_isAhead : MethodName := ⟨R_Mod, "isAhead", "(II)Z"⟩
abbrev rm_Mod_isAhead : Room := { frames := 1, cells := 0, slots := 0, locals := 29 }
set_option maxRecDepth 20000 in
theorem k_code_Mod_isAhead : Cond.code y_Mod_isAhead b_Mod_isAhead 7 (some .boolean) ∈ w_tb := List.mem_filter.mpr ⟨List.mem_append_right _ (List.mem_of_getElem? (i := 703) rfl), rfl⟩
theorem k_inst_Mod_isAhead : Cond.instanceMethod y_Mod_isAhead ∈ w_tb := List.mem_filter.mpr ⟨List.mem_append_right _ (List.mem_of_getElem? (i := 702) (by decide +kernel)), rfl⟩
theorem k_sel_Mod_isAhead : Cond.selects R_Mod y_Mod_isAhead y_Mod_isAhead ∈ w_tb := List.mem_filter.mpr ⟨List.mem_append_left _ (List.mem_of_getElem? (i := 25) rfl), rfl⟩
abbrev b_Mod_next : ByteArray := prog_7_method_23_code
def y_Mod_next : MethodName := ⟨R_Mod, "next", "(IJ)I"⟩
abbrev rm_Mod_next : Room := { frames := 2, cells := 0, slots := 0, locals := 55 }
set_option maxRecDepth 20000 in
theorem k_code_Mod_next : Cond.code y_Mod_next b_Mod_next 8 (some .int) ∈ w_tb := List.mem_filter.mpr ⟨List.mem_append_right _ (List.mem_of_getElem? (i := 686) rfl), rfl⟩
abbrev b_Mod_end : ByteArray := prog_7_method_24_code
def y_Mod_end : MethodName := ⟨R_Mod, "end", "(I)I"⟩
abbrev rm_Mod_end : Room := { frames := 1, cells := 0, slots := 0, locals := 21 }
set_option maxRecDepth 20000 in
theorem k_code_Mod_end : Cond.code y_Mod_end b_Mod_end 3 (some .int) ∈ w_tb := List.mem_filter.mpr ⟨List.mem_append_right _ (List.mem_of_getElem? (i := 712) rfl), rfl⟩
abbrev b_Mod_age : ByteArray := prog_7_method_25_code
def y_Mod_age : MethodName := ⟨R_Mod, "age", "(JI)I"⟩
abbrev rm_Mod_age : Room := { frames := 0, cells := 0, slots := 0, locals := 0 }
set_option maxRecDepth 20000 in
theorem k_code_Mod_age : Cond.code y_Mod_age b_Mod_age 4 (some .int) ∈ w_tb := List.mem_filter.mpr ⟨List.mem_append_right _ (List.mem_of_getElem? (i := 716) rfl), rfl⟩
abbrev b_Mod_drain : ByteArray := prog_7_method_26_code
def y_Mod_drain : MethodName := ⟨R_Mod, "drain", "(IZ)I"⟩
abbrev rm_Mod_drain : Room := { frames := 1, cells := 0, slots := 0, locals := 21 }
set_option maxRecDepth 20000 in
theorem k_code_Mod_drain : Cond.code y_Mod_drain b_Mod_drain 4 (some .int) ∈ w_tb := List.mem_filter.mpr ⟨List.mem_append_right _ (List.mem_of_getElem? (i := 720) rfl), rfl⟩
abbrev b_Mod_weight : ByteArray := prog_7_method_27_code
def y_Mod_weight : MethodName := ⟨R_Mod, "weight", "(II)I"⟩
abbrev rm_Mod_weight : Room := { frames := 1, cells := 0, slots := 0, locals := 20 }
set_option maxRecDepth 20000 in
theorem k_code_Mod_weight : Cond.code y_Mod_weight b_Mod_weight 3 (some .int) ∈ w_tb := List.mem_filter.mpr ⟨List.mem_append_right _ (List.mem_of_getElem? (i := 724) rfl), rfl⟩
abbrev b_Mod_share : ByteArray := prog_7_method_28_code
def y_Mod_share : MethodName := ⟨R_Mod, "share", "(IJ)J"⟩
abbrev rm_Mod_share : Room := { frames := 1, cells := 0, slots := 0, locals := 20 }
set_option maxRecDepth 20000 in
theorem k_code_Mod_share : Cond.code y_Mod_share b_Mod_share 18 (some .long) ∈ w_tb := List.mem_filter.mpr ⟨List.mem_append_right _ (List.mem_of_getElem? (i := 728) rfl), rfl⟩
abbrev b_Mod_order : ByteArray := prog_7_method_29_code
def y_Mod_order : MethodName := ⟨R_Mod, "order", "(I)I"⟩
abbrev rm_Mod_order : Room := { frames := 2, cells := 0, slots := 0, locals := 55 }
set_option maxRecDepth 20000 in
theorem k_code_Mod_order : Cond.code y_Mod_order b_Mod_order 5 (some .int) ∈ w_tb := List.mem_filter.mpr ⟨List.mem_append_right _ (List.mem_of_getElem? (i := 733) rfl), rfl⟩
abbrev b_Mod_waited : ByteArray := prog_7_method_30_code
def y_Mod_waited : MethodName := ⟨R_Mod, "waited", "(I)J"⟩
abbrev rm_Mod_waited : Room := { frames := 1, cells := 0, slots := 0, locals := 21 }
set_option maxRecDepth 20000 in
theorem k_code_Mod_waited : Cond.code y_Mod_waited b_Mod_waited 2 (some .long) ∈ w_tb := List.mem_filter.mpr ⟨List.mem_append_right _ (List.mem_of_getElem? (i := 737) rfl), rfl⟩
abbrev b_Mod_state : ByteArray := prog_7_method_31_code
def y_Mod_state : MethodName := ⟨R_Mod, "state", "(I)I"⟩
abbrev rm_Mod_state : Room := { frames := 1, cells := 0, slots := 0, locals := 21 }
set_option maxRecDepth 20000 in
theorem k_code_Mod_state : Cond.code y_Mod_state b_Mod_state 2 (some .int) ∈ w_tb := List.mem_filter.mpr ⟨List.mem_append_right _ (List.mem_of_getElem? (i := 741) rfl), rfl⟩
abbrev b_Mod_those : ByteArray := prog_7_method_32_code
def y_Mod_those : MethodName := ⟨R_Mod, "those", "(IZ)I"⟩
abbrev rm_Mod_those : Room := { frames := 0, cells := 0, slots := 0, locals := 0 }
set_option maxRecDepth 20000 in
theorem k_code_Mod_those : Cond.code y_Mod_those b_Mod_those 5 (some .int) ∈ w_tb := List.mem_filter.mpr ⟨List.mem_append_right _ (List.mem_of_getElem? (i := 749) rfl), rfl⟩
theorem k_inst_Mod_those : Cond.instanceMethod y_Mod_those ∈ w_tb := List.mem_filter.mpr ⟨List.mem_append_right _ (List.mem_of_getElem? (i := 748) (by decide +kernel)), rfl⟩
theorem k_sel_Mod_those : Cond.selects R_Mod y_Mod_those y_Mod_those ∈ w_tb := List.mem_filter.mpr ⟨List.mem_append_left _ (List.mem_of_getElem? (i := 27) rfl), rfl⟩
abbrev b_Mod_count : ByteArray := prog_7_method_33_code
def y_Mod_count : MethodName := ⟨R_Mod, "count", "(I)I"⟩
abbrev rm_Mod_count : Room := { frames := 1, cells := 0, slots := 0, locals := 24 }
set_option maxRecDepth 20000 in
theorem k_code_Mod_count : Cond.code y_Mod_count b_Mod_count 4 (some .int) ∈ w_tb := List.mem_filter.mpr ⟨List.mem_append_right _ (List.mem_of_getElem? (i := 745) rfl), rfl⟩
theorem k_c_AL_7 : Cond.classLink R_AL 7 "java/lang/Object" ∈ w_tb := List.mem_filter.mpr ⟨List.mem_append_right _ (List.mem_of_getElem? (i := 215) (by decide +kernel)), rfl⟩
theorem k_c_Arrs_110 : Cond.classLink R_Arrs 110 "[Ljava/lang/Object;" ∈ w_tb := List.mem_filter.mpr ⟨List.mem_append_right _ (List.mem_of_getElem? (i := 205) (by decide +kernel)), rfl⟩
theorem k_c_Arrs_2 : Cond.classLink R_Arrs 2 "java/lang/Object" ∈ w_tb := List.mem_filter.mpr ⟨List.mem_append_right _ (List.mem_of_getElem? (i := 207) (by decide +kernel)), rfl⟩
theorem k_c_Job_32 : Cond.classLink R_Job 32 "InitiatorRows$NumberSet" ∈ w_tb := List.mem_filter.mpr ⟨List.mem_append_right _ (List.mem_of_getElem? (i := 262) (by decide +kernel)), rfl⟩
theorem k_c_Load_18 : Cond.classLink R_Load 18 "InitiatorRows$NumberSet" ∈ w_tb := List.mem_filter.mpr ⟨List.mem_append_right _ (List.mem_of_getElem? (i := 60) (by decide +kernel)), rfl⟩
theorem k_c_Rows_35 : Cond.classLink R_Rows 35 "InitiatorRows$Load" ∈ w_tb := List.mem_filter.mpr ⟨List.mem_append_right _ (List.mem_of_getElem? (i := 54) (by decide +kernel)), rfl⟩
theorem k_c_Rows_42 : Cond.classLink R_Rows 42 "InitiatorRows$NumberSet" ∈ w_tb := List.mem_filter.mpr ⟨List.mem_append_right _ (List.mem_of_getElem? (i := 95) (by decide +kernel)), rfl⟩
theorem k_c_Rows_64 : Cond.classLink R_Rows 64 "InitiatorRows$Initiator" ∈ w_tb := List.mem_filter.mpr ⟨List.mem_append_right _ (List.mem_of_getElem? (i := 142) (by decide +kernel)), rfl⟩
theorem k_c_Rows_7 : Cond.classLink R_Rows 7 "java/util/ArrayList" ∈ w_tb := List.mem_filter.mpr ⟨List.mem_append_right _ (List.mem_of_getElem? (i := 28) (by decide +kernel)), rfl⟩
theorem k_c_Rows_86 : Cond.classLink R_Rows 86 "InitiatorRows$Job" ∈ w_tb := List.mem_filter.mpr ⟨List.mem_append_right _ (List.mem_of_getElem? (i := 256) (by decide +kernel)), rfl⟩
theorem k_f_AL_39 : Cond.fieldLink R_AL 39 "java/util/ArrayList" "DEFAULTCAPACITY_EMPTY_ELEMENTDATA" "[Ljava/lang/Object;" ∈ w_tb := List.mem_filter.mpr ⟨List.mem_append_right _ (List.mem_of_getElem? (i := 40) (by decide +kernel)), rfl⟩
theorem k_f_AL_48 : Cond.fieldLink R_AL 48 "java/util/ArrayList" "size" "I" ∈ w_tb := List.mem_filter.mpr ⟨List.mem_append_right _ (List.mem_of_getElem? (i := 43) (by decide +kernel)), rfl⟩
theorem k_f_AL_63 : Cond.fieldLink R_AL 63 "java/util/ArrayList" "modCount" "I" ∈ w_tb := List.mem_filter.mpr ⟨List.mem_append_right _ (List.mem_of_getElem? (i := 45) (by decide +kernel)), rfl⟩
theorem k_f_AL_9 : Cond.fieldLink R_AL 9 "java/util/ArrayList" "elementData" "[Ljava/lang/Object;" ∈ w_tb := List.mem_filter.mpr ⟨List.mem_append_right _ (List.mem_of_getElem? (i := 42) (by decide +kernel)), rfl⟩
theorem k_f_AbL_7 : Cond.fieldLink R_AbL 7 "java/util/AbstractList" "modCount" "I" ∈ w_tb := List.mem_filter.mpr ⟨List.mem_append_right _ (List.mem_of_getElem? (i := 44) (by decide +kernel)), rfl⟩
theorem k_f_Ini_15 : Cond.fieldLink R_Ini 15 "InitiatorRows$Initiator" "drained" "Z" ∈ w_tb := List.mem_filter.mpr ⟨List.mem_append_right _ (List.mem_of_getElem? (i := 150) (by decide +kernel)), rfl⟩
theorem k_f_Ini_19 : Cond.fieldLink R_Ini 19 "InitiatorRows$Initiator" "runningJob" "I" ∈ w_tb := List.mem_filter.mpr ⟨List.mem_append_right _ (List.mem_of_getElem? (i := 152) (by decide +kernel)), rfl⟩
theorem k_f_Ini_9 : Cond.fieldLink R_Ini 9 "InitiatorRows$Initiator" "list" "[I" ∈ w_tb := List.mem_filter.mpr ⟨List.mem_append_right _ (List.mem_of_getElem? (i := 148) (by decide +kernel)), rfl⟩
theorem k_f_Job_15 : Cond.fieldLink R_Job 15 "InitiatorRows$Job" "inClass" "I" ∈ w_tb := List.mem_filter.mpr ⟨List.mem_append_right _ (List.mem_of_getElem? (i := 266) (by decide +kernel)), rfl⟩
theorem k_f_Job_18 : Cond.fieldLink R_Job 18 "InitiatorRows$Job" "priority" "I" ∈ w_tb := List.mem_filter.mpr ⟨List.mem_append_right _ (List.mem_of_getElem? (i := 269) (by decide +kernel)), rfl⟩
theorem k_f_Job_21 : Cond.fieldLink R_Job 21 "InitiatorRows$Job" "name" "I" ∈ w_tb := List.mem_filter.mpr ⟨List.mem_append_right _ (List.mem_of_getElem? (i := 271) (by decide +kernel)), rfl⟩
theorem k_f_Job_24 : Cond.fieldLink R_Job 24 "InitiatorRows$Job" "arrived" "J" ∈ w_tb := List.mem_filter.mpr ⟨List.mem_append_right _ (List.mem_of_getElem? (i := 274) (by decide +kernel)), rfl⟩
theorem k_f_Job_28 : Cond.fieldLink R_Job 28 "InitiatorRows$Job" "unitsUsed" "[I" ∈ w_tb := List.mem_filter.mpr ⟨List.mem_append_right _ (List.mem_of_getElem? (i := 276) (by decide +kernel)), rfl⟩
theorem k_f_Job_35 : Cond.fieldLink R_Job 35 "InitiatorRows$Job" "deepNeeds" "LInitiatorRows$NumberSet;" ∈ w_tb := List.mem_filter.mpr ⟨List.mem_append_right _ (List.mem_of_getElem? (i := 279) (by decide +kernel)), rfl⟩
theorem k_f_Job_39 : Cond.fieldLink R_Job 39 "InitiatorRows$Job" "runsAlone" "Z" ∈ w_tb := List.mem_filter.mpr ⟨List.mem_append_right _ (List.mem_of_getElem? (i := 281) (by decide +kernel)), rfl⟩
theorem k_f_Job_43 : Cond.fieldLink R_Job 43 "InitiatorRows$Job" "stage" "I" ∈ w_tb := List.mem_filter.mpr ⟨List.mem_append_right _ (List.mem_of_getElem? (i := 284) (by decide +kernel)), rfl⟩
theorem k_f_Job_46 : Cond.fieldLink R_Job 46 "InitiatorRows$Job" "started" "J" ∈ w_tb := List.mem_filter.mpr ⟨List.mem_append_right _ (List.mem_of_getElem? (i := 286) (by decide +kernel)), rfl⟩
theorem k_f_Job_9 : Cond.fieldLink R_Job 9 "InitiatorRows$Job" "number" "I" ∈ w_tb := List.mem_filter.mpr ⟨List.mem_append_right _ (List.mem_of_getElem? (i := 264) (by decide +kernel)), rfl⟩
theorem k_f_Load_15 : Cond.fieldLink R_Load 15 "InitiatorRows$Load" "unitsUsed" "[I" ∈ w_tb := List.mem_filter.mpr ⟨List.mem_append_right _ (List.mem_of_getElem? (i := 76) (by decide +kernel)), rfl⟩
theorem k_f_Load_21 : Cond.fieldLink R_Load 21 "InitiatorRows$Load" "names" "LInitiatorRows$NumberSet;" ∈ w_tb := List.mem_filter.mpr ⟨List.mem_append_right _ (List.mem_of_getElem? (i := 78) (by decide +kernel)), rfl⟩
theorem k_f_Load_25 : Cond.fieldLink R_Load 25 "InitiatorRows$Load" "running" "I" ∈ w_tb := List.mem_filter.mpr ⟨List.mem_append_right _ (List.mem_of_getElem? (i := 80) (by decide +kernel)), rfl⟩
theorem k_f_Load_29 : Cond.fieldLink R_Load 29 "InitiatorRows$Load" "aloneRuns" "Z" ∈ w_tb := List.mem_filter.mpr ⟨List.mem_append_right _ (List.mem_of_getElem? (i := 82) (by decide +kernel)), rfl⟩
theorem k_f_Load_33 : Cond.fieldLink R_Load 33 "InitiatorRows$Job" "inClass" "I" ∈ w_tb := List.mem_filter.mpr ⟨List.mem_append_right _ (List.mem_of_getElem? (i := 267) (by decide +kernel)), rfl⟩
theorem k_f_Load_38 : Cond.fieldLink R_Load 38 "InitiatorRows$Job" "unitsUsed" "[I" ∈ w_tb := List.mem_filter.mpr ⟨List.mem_append_right _ (List.mem_of_getElem? (i := 277) (by decide +kernel)), rfl⟩
theorem k_f_Load_39 : Cond.fieldLink R_Load 39 "InitiatorRows$Job" "name" "I" ∈ w_tb := List.mem_filter.mpr ⟨List.mem_append_right _ (List.mem_of_getElem? (i := 272) (by decide +kernel)), rfl⟩
theorem k_f_Load_46 : Cond.fieldLink R_Load 46 "InitiatorRows$Job" "runsAlone" "Z" ∈ w_tb := List.mem_filter.mpr ⟨List.mem_append_right _ (List.mem_of_getElem? (i := 282) (by decide +kernel)), rfl⟩
theorem k_f_Load_9 : Cond.fieldLink R_Load 9 "InitiatorRows$Load" "ofClass" "[I" ∈ w_tb := List.mem_filter.mpr ⟨List.mem_append_right _ (List.mem_of_getElem? (i := 74) (by decide +kernel)), rfl⟩
theorem k_f_Mod_109 : Cond.fieldLink R_Mod 109 "InitiatorRowsModel" "per" "J" ∈ w_tb := List.mem_filter.mpr ⟨List.mem_append_right _ (List.mem_of_getElem? (i := 566) (by decide +kernel)), rfl⟩
theorem k_f_Mod_114 : Cond.fieldLink R_Mod 114 "InitiatorRowsModel" "most" "I" ∈ w_tb := List.mem_filter.mpr ⟨List.mem_append_right _ (List.mem_of_getElem? (i := 567) (by decide +kernel)), rfl⟩
theorem k_f_Mod_13 : Cond.fieldLink R_Mod 13 "InitiatorRowsModel" "runs" "[I" ∈ w_tb := List.mem_filter.mpr ⟨List.mem_append_right _ (List.mem_of_getElem? (i := 546) (by decide +kernel)), rfl⟩
theorem k_f_Mod_16 : Cond.fieldLink R_Mod 16 "InitiatorRowsModel" "drained" "[Z" ∈ w_tb := List.mem_filter.mpr ⟨List.mem_append_right _ (List.mem_of_getElem? (i := 547) (by decide +kernel)), rfl⟩
theorem k_f_Mod_20 : Cond.fieldLink R_Mod 20 "InitiatorRowsModel" "limits" "[I" ∈ w_tb := List.mem_filter.mpr ⟨List.mem_append_right _ (List.mem_of_getElem? (i := 549) (by decide +kernel)), rfl⟩
theorem k_f_Mod_23 : Cond.fieldLink R_Mod 23 "InitiatorRowsModel" "froms" "[I" ∈ w_tb := List.mem_filter.mpr ⟨List.mem_append_right _ (List.mem_of_getElem? (i := 550) (by decide +kernel)), rfl⟩
theorem k_f_Mod_26 : Cond.fieldLink R_Mod 26 "InitiatorRowsModel" "tos" "[I" ∈ w_tb := List.mem_filter.mpr ⟨List.mem_append_right _ (List.mem_of_getElem? (i := 551) (by decide +kernel)), rfl⟩
theorem k_f_Mod_29 : Cond.fieldLink R_Mod 29 "InitiatorRowsModel" "weights" "[I" ∈ w_tb := List.mem_filter.mpr ⟨List.mem_append_right _ (List.mem_of_getElem? (i := 552) (by decide +kernel)), rfl⟩
theorem k_f_Mod_32 : Cond.fieldLink R_Mod 32 "InitiatorRowsModel" "units" "[I" ∈ w_tb := List.mem_filter.mpr ⟨List.mem_append_right _ (List.mem_of_getElem? (i := 553) (by decide +kernel)), rfl⟩
theorem k_f_Mod_35 : Cond.fieldLink R_Mod 35 "InitiatorRowsModel" "sorts" "[I" ∈ w_tb := List.mem_filter.mpr ⟨List.mem_append_right _ (List.mem_of_getElem? (i := 554) (by decide +kernel)), rfl⟩
theorem k_f_Mod_38 : Cond.fieldLink R_Mod 38 "InitiatorRowsModel" "priorities" "[I" ∈ w_tb := List.mem_filter.mpr ⟨List.mem_append_right _ (List.mem_of_getElem? (i := 555) (by decide +kernel)), rfl⟩
theorem k_f_Mod_41 : Cond.fieldLink R_Mod 41 "InitiatorRowsModel" "names" "[I" ∈ w_tb := List.mem_filter.mpr ⟨List.mem_append_right _ (List.mem_of_getElem? (i := 556) (by decide +kernel)), rfl⟩
theorem k_f_Mod_44 : Cond.fieldLink R_Mod 44 "InitiatorRowsModel" "states" "[I" ∈ w_tb := List.mem_filter.mpr ⟨List.mem_append_right _ (List.mem_of_getElem? (i := 557) (by decide +kernel)), rfl⟩
theorem k_f_Mod_47 : Cond.fieldLink R_Mod 47 "InitiatorRowsModel" "uses" "[I" ∈ w_tb := List.mem_filter.mpr ⟨List.mem_append_right _ (List.mem_of_getElem? (i := 558) (by decide +kernel)), rfl⟩
theorem k_f_Mod_50 : Cond.fieldLink R_Mod 50 "InitiatorRowsModel" "held" "[Z" ∈ w_tb := List.mem_filter.mpr ⟨List.mem_append_right _ (List.mem_of_getElem? (i := 559) (by decide +kernel)), rfl⟩
theorem k_f_Mod_53 : Cond.fieldLink R_Mod 53 "InitiatorRowsModel" "lone" "[Z" ∈ w_tb := List.mem_filter.mpr ⟨List.mem_append_right _ (List.mem_of_getElem? (i := 560) (by decide +kernel)), rfl⟩
theorem k_f_Mod_56 : Cond.fieldLink R_Mod 56 "InitiatorRowsModel" "needed" "[Z" ∈ w_tb := List.mem_filter.mpr ⟨List.mem_append_right _ (List.mem_of_getElem? (i := 561) (by decide +kernel)), rfl⟩
theorem k_f_Mod_59 : Cond.fieldLink R_Mod 59 "InitiatorRowsModel" "reached" "[Z" ∈ w_tb := List.mem_filter.mpr ⟨List.mem_append_right _ (List.mem_of_getElem? (i := 562) (by decide +kernel)), rfl⟩
theorem k_f_Mod_62 : Cond.fieldLink R_Mod 62 "InitiatorRowsModel" "came" "[J" ∈ w_tb := List.mem_filter.mpr ⟨List.mem_append_right _ (List.mem_of_getElem? (i := 563) (by decide +kernel)), rfl⟩
theorem k_f_Mod_66 : Cond.fieldLink R_Mod 66 "InitiatorRowsModel" "ran" "[J" ∈ w_tb := List.mem_filter.mpr ⟨List.mem_append_right _ (List.mem_of_getElem? (i := 564) (by decide +kernel)), rfl⟩
theorem k_f_Mod_69 : Cond.fieldLink R_Mod 69 "InitiatorRowsModel" "thrown" "I" ∈ w_tb := List.mem_filter.mpr ⟨List.mem_append_right _ (List.mem_of_getElem? (i := 543) (by decide +kernel)), rfl⟩
theorem k_f_Mod_7 : Cond.fieldLink R_Mod 7 "InitiatorRowsModel" "lists" "[I" ∈ w_tb := List.mem_filter.mpr ⟨List.mem_append_right _ (List.mem_of_getElem? (i := 545) (by decide +kernel)), rfl⟩
theorem k_f_Mod_73 : Cond.fieldLink R_Mod 73 "InitiatorRowsModel" "initiators" "I" ∈ w_tb := List.mem_filter.mpr ⟨List.mem_append_right _ (List.mem_of_getElem? (i := 548) (by decide +kernel)), rfl⟩
theorem k_f_Mod_76 : Cond.fieldLink R_Mod 76 "InitiatorRowsModel" "jobs" "I" ∈ w_tb := List.mem_filter.mpr ⟨List.mem_append_right _ (List.mem_of_getElem? (i := 565) (by decide +kernel)), rfl⟩
theorem k_f_Mod_89 : Cond.fieldLink R_Mod 89 "InitiatorRowsModel" "now" "J" ∈ w_tb := List.mem_filter.mpr ⟨List.mem_append_right _ (List.mem_of_getElem? (i := 544) (by decide +kernel)), rfl⟩
theorem k_f_NS_13 : Cond.fieldLink R_NS 13 "InitiatorRows$NumberSet" "high" "J" ∈ w_tb := List.mem_filter.mpr ⟨List.mem_append_right _ (List.mem_of_getElem? (i := 67) (by decide +kernel)), rfl⟩
theorem k_f_NS_7 : Cond.fieldLink R_NS 7 "InitiatorRows$NumberSet" "low" "J" ∈ w_tb := List.mem_filter.mpr ⟨List.mem_append_right _ (List.mem_of_getElem? (i := 66) (by decide +kernel)), rfl⟩
theorem k_f_Rows_10 : Cond.fieldLink R_Rows 10 "InitiatorRows" "initiators" "Ljava/util/ArrayList;" ∈ w_tb := List.mem_filter.mpr ⟨List.mem_append_right _ (List.mem_of_getElem? (i := 97) (by decide +kernel)), rfl⟩
theorem k_f_Rows_112 : Cond.fieldLink R_Rows 112 "InitiatorRows$Job" "unitsUsed" "[I" ∈ w_tb := List.mem_filter.mpr ⟨List.mem_append_right _ (List.mem_of_getElem? (i := 278) (by decide +kernel)), rfl⟩
theorem k_f_Rows_115 : Cond.fieldLink R_Rows 115 "InitiatorRows$Job" "runsAlone" "Z" ∈ w_tb := List.mem_filter.mpr ⟨List.mem_append_right _ (List.mem_of_getElem? (i := 283) (by decide +kernel)), rfl⟩
theorem k_f_Rows_119 : Cond.fieldLink R_Rows 119 "InitiatorRows$Job" "stage" "I" ∈ w_tb := List.mem_filter.mpr ⟨List.mem_append_right _ (List.mem_of_getElem? (i := 285) (by decide +kernel)), rfl⟩
theorem k_f_Rows_122 : Cond.fieldLink R_Rows 122 "InitiatorRows$Initiator" "drained" "Z" ∈ w_tb := List.mem_filter.mpr ⟨List.mem_append_right _ (List.mem_of_getElem? (i := 151) (by decide +kernel)), rfl⟩
theorem k_f_Rows_125 : Cond.fieldLink R_Rows 125 "InitiatorRows$Initiator" "runningJob" "I" ∈ w_tb := List.mem_filter.mpr ⟨List.mem_append_right _ (List.mem_of_getElem? (i := 153) (by decide +kernel)), rfl⟩
theorem k_f_Rows_136 : Cond.fieldLink R_Rows 136 "InitiatorRows$Job" "number" "I" ∈ w_tb := List.mem_filter.mpr ⟨List.mem_append_right _ (List.mem_of_getElem? (i := 265) (by decide +kernel)), rfl⟩
theorem k_f_Rows_16 : Cond.fieldLink R_Rows 16 "InitiatorRows" "jobs" "Ljava/util/ArrayList;" ∈ w_tb := List.mem_filter.mpr ⟨List.mem_append_right _ (List.mem_of_getElem? (i := 98) (by decide +kernel)), rfl⟩
theorem k_f_Rows_164 : Cond.fieldLink R_Rows 164 "InitiatorRows$Job" "started" "J" ∈ w_tb := List.mem_filter.mpr ⟨List.mem_append_right _ (List.mem_of_getElem? (i := 287) (by decide +kernel)), rfl⟩
theorem k_f_Rows_167 : Cond.fieldLink R_Rows 167 "InitiatorRows$Job" "arrived" "J" ∈ w_tb := List.mem_filter.mpr ⟨List.mem_append_right _ (List.mem_of_getElem? (i := 275) (by decide +kernel)), rfl⟩
theorem k_f_Rows_174 : Cond.fieldLink R_Rows 174 "InitiatorRows$Load" "running" "I" ∈ w_tb := List.mem_filter.mpr ⟨List.mem_append_right _ (List.mem_of_getElem? (i := 81) (by decide +kernel)), rfl⟩
theorem k_f_Rows_19 : Cond.fieldLink R_Rows 19 "InitiatorRows" "limits" "[I" ∈ w_tb := List.mem_filter.mpr ⟨List.mem_append_right _ (List.mem_of_getElem? (i := 99) (by decide +kernel)), rfl⟩
theorem k_f_Rows_194 : Cond.fieldLink R_Rows 194 "InitiatorRows$Job" "inClass" "I" ∈ w_tb := List.mem_filter.mpr ⟨List.mem_append_right _ (List.mem_of_getElem? (i := 268) (by decide +kernel)), rfl⟩
theorem k_f_Rows_201 : Cond.fieldLink R_Rows 201 "InitiatorRows$Load" "ofClass" "[I" ∈ w_tb := List.mem_filter.mpr ⟨List.mem_append_right _ (List.mem_of_getElem? (i := 75) (by decide +kernel)), rfl⟩
theorem k_f_Rows_207 : Cond.fieldLink R_Rows 207 "InitiatorRows$Load" "names" "LInitiatorRows$NumberSet;" ∈ w_tb := List.mem_filter.mpr ⟨List.mem_append_right _ (List.mem_of_getElem? (i := 79) (by decide +kernel)), rfl⟩
theorem k_f_Rows_210 : Cond.fieldLink R_Rows 210 "InitiatorRows$Job" "name" "I" ∈ w_tb := List.mem_filter.mpr ⟨List.mem_append_right _ (List.mem_of_getElem? (i := 273) (by decide +kernel)), rfl⟩
theorem k_f_Rows_220 : Cond.fieldLink R_Rows 220 "InitiatorRows$Load" "aloneRuns" "Z" ∈ w_tb := List.mem_filter.mpr ⟨List.mem_append_right _ (List.mem_of_getElem? (i := 83) (by decide +kernel)), rfl⟩
theorem k_f_Rows_225 : Cond.fieldLink R_Rows 225 "InitiatorRows$Load" "unitsUsed" "[I" ∈ w_tb := List.mem_filter.mpr ⟨List.mem_append_right _ (List.mem_of_getElem? (i := 77) (by decide +kernel)), rfl⟩
theorem k_f_Rows_226 : Cond.fieldLink R_Rows 226 "InitiatorRows$Job" "priority" "I" ∈ w_tb := List.mem_filter.mpr ⟨List.mem_append_right _ (List.mem_of_getElem? (i := 270) (by decide +kernel)), rfl⟩
theorem k_f_Rows_23 : Cond.fieldLink R_Rows 23 "InitiatorRows" "windowStarts" "[I" ∈ w_tb := List.mem_filter.mpr ⟨List.mem_append_right _ (List.mem_of_getElem? (i := 100) (by decide +kernel)), rfl⟩
theorem k_f_Rows_26 : Cond.fieldLink R_Rows 26 "InitiatorRows" "windowEnds" "[I" ∈ w_tb := List.mem_filter.mpr ⟨List.mem_append_right _ (List.mem_of_getElem? (i := 101) (by decide +kernel)), rfl⟩
theorem k_f_Rows_29 : Cond.fieldLink R_Rows 29 "InitiatorRows" "weights" "[I" ∈ w_tb := List.mem_filter.mpr ⟨List.mem_append_right _ (List.mem_of_getElem? (i := 102) (by decide +kernel)), rfl⟩
theorem k_f_Rows_32 : Cond.fieldLink R_Rows 32 "InitiatorRows" "unitsThere" "[I" ∈ w_tb := List.mem_filter.mpr ⟨List.mem_append_right _ (List.mem_of_getElem? (i := 103) (by decide +kernel)), rfl⟩
theorem k_f_Rows_38 : Cond.fieldLink R_Rows 38 "InitiatorRows" "load" "LInitiatorRows$Load;" ∈ w_tb := List.mem_filter.mpr ⟨List.mem_append_right _ (List.mem_of_getElem? (i := 104) (by decide +kernel)), rfl⟩
theorem k_f_Rows_45 : Cond.fieldLink R_Rows 45 "InitiatorRows" "ended" "LInitiatorRows$NumberSet;" ∈ w_tb := List.mem_filter.mpr ⟨List.mem_append_right _ (List.mem_of_getElem? (i := 105) (by decide +kernel)), rfl⟩
theorem k_f_Rows_49 : Cond.fieldLink R_Rows 49 "InitiatorRows" "now" "J" ∈ w_tb := List.mem_filter.mpr ⟨List.mem_append_right _ (List.mem_of_getElem? (i := 106) (by decide +kernel)), rfl⟩
theorem k_f_Rows_53 : Cond.fieldLink R_Rows 53 "InitiatorRows" "agePer" "J" ∈ w_tb := List.mem_filter.mpr ⟨List.mem_append_right _ (List.mem_of_getElem? (i := 107) (by decide +kernel)), rfl⟩
theorem k_f_Rows_56 : Cond.fieldLink R_Rows 56 "InitiatorRows" "ageMost" "I" ∈ w_tb := List.mem_filter.mpr ⟨List.mem_append_right _ (List.mem_of_getElem? (i := 108) (by decide +kernel)), rfl⟩
theorem k_f_Rows_83 : Cond.fieldLink R_Rows 83 "InitiatorRows$Initiator" "list" "[I" ∈ w_tb := List.mem_filter.mpr ⟨List.mem_append_right _ (List.mem_of_getElem? (i := 149) (by decide +kernel)), rfl⟩
theorem k_f_Rows_99 : Cond.fieldLink R_Rows 99 "InitiatorRows$Job" "deepNeeds" "LInitiatorRows$NumberSet;" ∈ w_tb := List.mem_filter.mpr ⟨List.mem_append_right _ (List.mem_of_getElem? (i := 280) (by decide +kernel)), rfl⟩
theorem k_k_ASup_200 : Cond.constant R_ASup 200 2147483639 ∈ w_tb := List.mem_filter.mpr ⟨List.mem_append_right _ (List.mem_of_getElem? (i := 183) (by decide +kernel)), rfl⟩
theorem k_k_Mod_100 : Cond.constantLong R_Mod 100 (1440) ∈ w_tb := List.mem_filter.mpr ⟨List.mem_append_right _ (List.mem_of_getElem? (i := 695) (by decide +kernel)), rfl⟩
theorem k_k_Mod_112 : Cond.constantLong R_Mod 112 (15) ∈ w_tb := List.mem_filter.mpr ⟨List.mem_append_right _ (List.mem_of_getElem? (i := 708) (by decide +kernel)), rfl⟩
theorem k_k_Mod_127 : Cond.constantLong R_Mod 127 (-1) ∈ w_tb := List.mem_filter.mpr ⟨List.mem_append_right _ (List.mem_of_getElem? (i := 729) (by decide +kernel)), rfl⟩
theorem k_k_NS_16 : Cond.constantLong R_NS 16 (-1) ∈ w_tb := List.mem_filter.mpr ⟨List.mem_append_right _ (List.mem_of_getElem? (i := 381) (by decide +kernel)), rfl⟩
theorem k_k_Rows_143 : Cond.constantLong R_Rows 143 (-1) ∈ w_tb := List.mem_filter.mpr ⟨List.mem_append_right _ (List.mem_of_getElem? (i := 438) (by decide +kernel)), rfl⟩
theorem k_k_Rows_223 : Cond.constantLong R_Rows 223 (1440) ∈ w_tb := List.mem_filter.mpr ⟨List.mem_append_right _ (List.mem_of_getElem? (i := 376) (by decide +kernel)), rfl⟩
theorem k_m_AL_1 : Cond.methodLink R_AL 1 y_AbL_init ∈ w_tb := List.mem_filter.mpr ⟨List.mem_append_right _ (List.mem_of_getElem? (i := 33) (by decide +kernel)), rfl⟩
theorem k_m_AL_118 : Cond.methodLink R_AL 118 y_Objs_checkIndex_II ∈ w_tb := List.mem_filter.mpr ⟨List.mem_append_right _ (List.mem_of_getElem? (i := 231) (by decide +kernel)), rfl⟩
theorem k_m_AL_123 : Cond.methodLink R_AL 123 y_AL_elementData ∈ w_tb := List.mem_filter.mpr ⟨List.mem_append_right _ (List.mem_of_getElem? (i := 237) (by decide +kernel)), rfl⟩
theorem k_m_AL_129 : Cond.methodLink R_AL 129 y_AL_grow_v ∈ w_tb := List.mem_filter.mpr ⟨List.mem_append_right _ (List.mem_of_getElem? (i := 169) (by decide +kernel)), rfl⟩
theorem k_m_AL_131 : Cond.methodLink R_AL 131 y_AL_add_LAI ∈ w_tb := List.mem_filter.mpr ⟨List.mem_append_right _ (List.mem_of_getElem? (i := 165) (by decide +kernel)), rfl⟩
theorem k_m_AL_66 : Cond.methodLink R_AL 66 y_Arrs_copyOf_AI ∈ w_tb := List.mem_filter.mpr ⟨List.mem_append_right _ (List.mem_of_getElem? (i := 187) (by decide +kernel)), rfl⟩
theorem k_m_AL_69 : Cond.methodLink R_AL 69 y_AL_grow_I ∈ w_tb := List.mem_filter.mpr ⟨List.mem_append_right _ (List.mem_of_getElem? (i := 173) (by decide +kernel)), rfl⟩
theorem k_m_AL_73 : Cond.methodLink R_AL 73 y_ASup_newLength ∈ w_tb := List.mem_filter.mpr ⟨List.mem_append_right _ (List.mem_of_getElem? (i := 177) (by decide +kernel)), rfl⟩
theorem k_m_AL_79 : Cond.methodLink R_AL 79 Lib.Math.max.name ∈ w_tb := List.mem_filter.mpr ⟨List.mem_append_right _ (List.mem_of_getElem? (i := 214) (by decide +kernel)), rfl⟩
theorem k_m_ASup_194 : Cond.methodLink R_ASup 194 Lib.Math.max.name ∈ w_tb := List.mem_filter.mpr ⟨List.mem_append_right _ (List.mem_of_getElem? (i := 180) (by decide +kernel)), rfl⟩
theorem k_m_AbC_1 : Cond.methodLink R_AbC 1 objectInit ∈ w_tb := List.mem_filter.mpr ⟨List.mem_append_right _ (List.mem_of_getElem? (i := 39) (by decide +kernel)), rfl⟩
theorem k_m_AbL_1 : Cond.methodLink R_AbL 1 y_AbC_init ∈ w_tb := List.mem_filter.mpr ⟨List.mem_append_right _ (List.mem_of_getElem? (i := 36) (by decide +kernel)), rfl⟩
theorem k_m_Arrs_150 : Cond.methodLink R_Arrs 150 arraycopyName ∈ w_tb := List.mem_filter.mpr ⟨List.mem_append_right _ (List.mem_of_getElem? (i := 211) (by decide +kernel)), rfl⟩
theorem k_m_Arrs_300 : Cond.methodLink R_Arrs 300 y_Arrs_copyOf_AIL ∈ w_tb := List.mem_filter.mpr ⟨List.mem_append_right _ (List.mem_of_getElem? (i := 202) (by decide +kernel)), rfl⟩
theorem k_m_Arrs_304 : Cond.methodLink R_Arrs 304 Lib.Math.min.name ∈ w_tb := List.mem_filter.mpr ⟨List.mem_append_right _ (List.mem_of_getElem? (i := 208) (by decide +kernel)), rfl⟩
theorem k_m_Arrs_86 : Cond.methodLink R_Arrs 86 ⟨"java/lang/Object", "getClass", "()Ljava/lang/Class;"⟩ ∈ w_tb := List.mem_filter.mpr ⟨List.mem_append_right _ (List.mem_of_getElem? (i := 190) (by decide +kernel)), rfl⟩
theorem k_m_Ini_3 : Cond.methodLink R_Ini 3 objectInit ∈ w_tb := List.mem_filter.mpr ⟨List.mem_append_right _ (List.mem_of_getElem? (i := 147) (by decide +kernel)), rfl⟩
theorem k_m_Job_3 : Cond.methodLink R_Job 3 objectInit ∈ w_tb := List.mem_filter.mpr ⟨List.mem_append_right _ (List.mem_of_getElem? (i := 261) (by decide +kernel)), rfl⟩
theorem k_m_Job_34 : Cond.methodLink R_Job 34 y_NS_init ∈ w_tb := List.mem_filter.mpr ⟨List.mem_append_right _ (List.mem_of_getElem? (i := 263) (by decide +kernel)), rfl⟩
theorem k_m_Load_20 : Cond.methodLink R_Load 20 y_NS_init ∈ w_tb := List.mem_filter.mpr ⟨List.mem_append_right _ (List.mem_of_getElem? (i := 62) (by decide +kernel)), rfl⟩
theorem k_m_Load_3 : Cond.methodLink R_Load 3 objectInit ∈ w_tb := List.mem_filter.mpr ⟨List.mem_append_right _ (List.mem_of_getElem? (i := 59) (by decide +kernel)), rfl⟩
theorem k_m_Load_42 : Cond.methodLink R_Load 42 y_NS_put ∈ w_tb := List.mem_filter.mpr ⟨List.mem_append_right _ (List.mem_of_getElem? (i := 401) (by decide +kernel)), rfl⟩
theorem k_m_Load_49 : Cond.methodLink R_Load 49 y_NS_drop ∈ w_tb := List.mem_filter.mpr ⟨List.mem_append_right _ (List.mem_of_getElem? (i := 414) (by decide +kernel)), rfl⟩
theorem k_m_Mod_1 : Cond.methodLink R_Mod 1 objectInit ∈ w_tb := List.mem_filter.mpr ⟨List.mem_append_right _ (List.mem_of_getElem? (i := 542) (by decide +kernel)), rfl⟩
theorem k_m_Mod_102 : Cond.methodLink R_Mod 102 y_Mod_isOpen ∈ w_tb := List.mem_filter.mpr ⟨List.mem_append_right _ (List.mem_of_getElem? (i := 691) (by decide +kernel)), rfl⟩
theorem k_m_Mod_105 : Cond.methodLink R_Mod 105 y_Mod_used ∈ w_tb := List.mem_filter.mpr ⟨List.mem_append_right _ (List.mem_of_getElem? (i := 696) (by decide +kernel)), rfl⟩
theorem k_m_Mod_117 : Cond.methodLink R_Mod 117 y_Mod_priority ∈ w_tb := List.mem_filter.mpr ⟨List.mem_append_right _ (List.mem_of_getElem? (i := 704) (by decide +kernel)), rfl⟩
theorem k_m_Mod_121 : Cond.methodLink R_Mod 121 y_Mod_mayStart ∈ w_tb := List.mem_filter.mpr ⟨List.mem_append_right _ (List.mem_of_getElem? (i := 687) (by decide +kernel)), rfl⟩
theorem k_m_Mod_124 : Cond.methodLink R_Mod 124 y_Mod_isAhead ∈ w_tb := List.mem_filter.mpr ⟨List.mem_append_right _ (List.mem_of_getElem? (i := 700) (by decide +kernel)), rfl⟩
theorem k_m_Mod_129 : Cond.methodLink R_Mod 129 y_Mod_those ∈ w_tb := List.mem_filter.mpr ⟨List.mem_append_right _ (List.mem_of_getElem? (i := 746) (by decide +kernel)), rfl⟩
theorem k_m_Mod_79 : Cond.methodLink R_Mod 79 y_Mod_isInitiator ∈ w_tb := List.mem_filter.mpr ⟨List.mem_append_right _ (List.mem_of_getElem? (i := 633) (by decide +kernel)), rfl⟩
theorem k_m_Mod_83 : Cond.methodLink R_Mod 83 y_Mod_isClass ∈ w_tb := List.mem_filter.mpr ⟨List.mem_append_right _ (List.mem_of_getElem? (i := 637) (by decide +kernel)), rfl⟩
theorem k_m_Mod_86 : Cond.methodLink R_Mod 86 y_Mod_isMinute ∈ w_tb := List.mem_filter.mpr ⟨List.mem_append_right _ (List.mem_of_getElem? (i := 648) (by decide +kernel)), rfl⟩
theorem k_m_Mod_93 : Cond.methodLink R_Mod 93 y_Mod_isJob ∈ w_tb := List.mem_filter.mpr ⟨List.mem_append_right _ (List.mem_of_getElem? (i := 659) (by decide +kernel)), rfl⟩
theorem k_m_Mod_96 : Cond.methodLink R_Mod 96 y_Mod_reaches ∈ w_tb := List.mem_filter.mpr ⟨List.mem_append_right _ (List.mem_of_getElem? (i := 663) (by decide +kernel)), rfl⟩
theorem k_m_NS_1 : Cond.methodLink R_NS 1 objectInit ∈ w_tb := List.mem_filter.mpr ⟨List.mem_append_right _ (List.mem_of_getElem? (i := 65) (by decide +kernel)), rfl⟩
theorem k_m_Objs_105 : Cond.methodLink R_Objs 105 y_Prec_checkIndex_IIL ∈ w_tb := List.mem_filter.mpr ⟨List.mem_append_right _ (List.mem_of_getElem? (i := 234) (by decide +kernel)), rfl⟩
theorem k_m_Rows_1 : Cond.methodLink R_Rows 1 objectInit ∈ w_tb := List.mem_filter.mpr ⟨List.mem_append_right _ (List.mem_of_getElem? (i := 25) (by decide +kernel)), rfl⟩
theorem k_m_Rows_102 : Cond.methodLink R_Rows 102 y_NS_has ∈ w_tb := List.mem_filter.mpr ⟨List.mem_append_right _ (List.mem_of_getElem? (i := 321) (by decide +kernel)), rfl⟩
theorem k_m_Rows_105 : Cond.methodLink R_Rows 105 y_Rows_addNeed ∈ w_tb := List.mem_filter.mpr ⟨List.mem_append_right _ (List.mem_of_getElem? (i := 325) (by decide +kernel)), rfl⟩
theorem k_m_Rows_109 : Cond.methodLink R_Rows 109 y_Rows_isKind ∈ w_tb := List.mem_filter.mpr ⟨List.mem_append_right _ (List.mem_of_getElem? (i := 341) (by decide +kernel)), rfl⟩
theorem k_m_Rows_128 : Cond.methodLink R_Rows 128 y_Rows_nextFor ∈ w_tb := List.mem_filter.mpr ⟨List.mem_append_right _ (List.mem_of_getElem? (i := 360) (by decide +kernel)), rfl⟩
theorem k_m_Rows_132 : Cond.methodLink R_Rows 132 y_Rows_startJob ∈ w_tb := List.mem_filter.mpr ⟨List.mem_append_right _ (List.mem_of_getElem? (i := 393) (by decide +kernel)), rfl⟩
theorem k_m_Rows_139 : Cond.methodLink R_Rows 139 y_Rows_stopJob ∈ w_tb := List.mem_filter.mpr ⟨List.mem_append_right _ (List.mem_of_getElem? (i := 406) (by decide +kernel)), rfl⟩
theorem k_m_Rows_156 : Cond.methodLink R_Rows 156 y_AL_get ∈ w_tb := List.mem_filter.mpr ⟨List.mem_append_right _ (List.mem_of_getElem? (i := 227) (by decide +kernel)), rfl⟩
theorem k_m_Rows_160 : Cond.methodLink R_Rows 160 y_Rows_priorityNow ∈ w_tb := List.mem_filter.mpr ⟨List.mem_append_right _ (List.mem_of_getElem? (i := 386) (by decide +kernel)), rfl⟩
theorem k_m_Rows_170 : Cond.methodLink R_Rows 170 y_Rows_jobsIn ∈ w_tb := List.mem_filter.mpr ⟨List.mem_append_right _ (List.mem_of_getElem? (i := 447) (by decide +kernel)), rfl⟩
theorem k_m_Rows_177 : Cond.methodLink R_Rows 177 y_Rows_drainedAndIdle ∈ w_tb := List.mem_filter.mpr ⟨List.mem_append_right _ (List.mem_of_getElem? (i := 451) (by decide +kernel)), rfl⟩
theorem k_m_Rows_180 : Cond.methodLink R_Rows 180 y_Rows_unitsInUse ∈ w_tb := List.mem_filter.mpr ⟨List.mem_append_right _ (List.mem_of_getElem? (i := 455) (by decide +kernel)), rfl⟩
theorem k_m_Rows_183 : Cond.methodLink R_Rows 183 y_NS_put ∈ w_tb := List.mem_filter.mpr ⟨List.mem_append_right _ (List.mem_of_getElem? (i := 329) (by decide +kernel)), rfl⟩
theorem k_m_Rows_187 : Cond.methodLink R_Rows 187 y_NS_putAll ∈ w_tb := List.mem_filter.mpr ⟨List.mem_append_right _ (List.mem_of_getElem? (i := 333) (by decide +kernel)), rfl⟩
theorem k_m_Rows_191 : Cond.methodLink R_Rows 191 y_Rows_nextOfClass ∈ w_tb := List.mem_filter.mpr ⟨List.mem_append_right _ (List.mem_of_getElem? (i := 364) (by decide +kernel)), rfl⟩
theorem k_m_Rows_197 : Cond.methodLink R_Rows 197 y_Rows_mayStart ∈ w_tb := List.mem_filter.mpr ⟨List.mem_append_right _ (List.mem_of_getElem? (i := 368) (by decide +kernel)), rfl⟩
theorem k_m_Rows_204 : Cond.methodLink R_Rows 204 y_Rows_isWindowOpen ∈ w_tb := List.mem_filter.mpr ⟨List.mem_append_right _ (List.mem_of_getElem? (i := 372) (by decide +kernel)), rfl⟩
theorem k_m_Rows_213 : Cond.methodLink R_Rows 213 y_NS_isWithin ∈ w_tb := List.mem_filter.mpr ⟨List.mem_append_right _ (List.mem_of_getElem? (i := 377) (by decide +kernel)), rfl⟩
theorem k_m_Rows_217 : Cond.methodLink R_Rows 217 y_Rows_areUnitsEnough ∈ w_tb := List.mem_filter.mpr ⟨List.mem_append_right _ (List.mem_of_getElem? (i := 382) (by decide +kernel)), rfl⟩
theorem k_m_Rows_229 : Cond.methodLink R_Rows 229 Lib.MathLoose.min_long.x ∈ w_tb := List.mem_filter.mpr ⟨List.mem_append_right _ (List.mem_of_getElem? (i := 390) (by decide +kernel)), rfl⟩
theorem k_m_Rows_235 : Cond.methodLink R_Rows 235 y_Load_take ∈ w_tb := List.mem_filter.mpr ⟨List.mem_append_right _ (List.mem_of_getElem? (i := 397) (by decide +kernel)), rfl⟩
theorem k_m_Rows_238 : Cond.methodLink R_Rows 238 y_Load_release ∈ w_tb := List.mem_filter.mpr ⟨List.mem_append_right _ (List.mem_of_getElem? (i := 410) (by decide +kernel)), rfl⟩
theorem k_m_Rows_37 : Cond.methodLink R_Rows 37 y_Load_init ∈ w_tb := List.mem_filter.mpr ⟨List.mem_append_right _ (List.mem_of_getElem? (i := 56) (by decide +kernel)), rfl⟩
theorem k_m_Rows_44 : Cond.methodLink R_Rows 44 y_NS_init ∈ w_tb := List.mem_filter.mpr ⟨List.mem_append_right _ (List.mem_of_getElem? (i := 96) (by decide +kernel)), rfl⟩
theorem k_m_Rows_60 : Cond.methodLink R_Rows 60 y_AL_size ∈ w_tb := List.mem_filter.mpr ⟨List.mem_append_right _ (List.mem_of_getElem? (i := 138) (by decide +kernel)), rfl⟩
theorem k_m_Rows_66 : Cond.methodLink R_Rows 66 y_Ini_init ∈ w_tb := List.mem_filter.mpr ⟨List.mem_append_right _ (List.mem_of_getElem? (i := 144) (by decide +kernel)), rfl⟩
theorem k_m_Rows_67 : Cond.methodLink R_Rows 67 y_AL_add_L ∈ w_tb := List.mem_filter.mpr ⟨List.mem_append_right _ (List.mem_of_getElem? (i := 161) (by decide +kernel)), rfl⟩
theorem k_m_Rows_71 : Cond.methodLink R_Rows 71 y_Rows_findInitiator ∈ w_tb := List.mem_filter.mpr ⟨List.mem_append_right _ (List.mem_of_getElem? (i := 220) (by decide +kernel)), rfl⟩
theorem k_m_Rows_75 : Cond.methodLink R_Rows 75 y_Rows_isIn ∈ w_tb := List.mem_filter.mpr ⟨List.mem_append_right _ (List.mem_of_getElem? (i := 224) (by decide +kernel)), rfl⟩
theorem k_m_Rows_79 : Cond.methodLink R_Rows 79 y_Rows_isClass ∈ w_tb := List.mem_filter.mpr ⟨List.mem_append_right _ (List.mem_of_getElem? (i := 241) (by decide +kernel)), rfl⟩
theorem k_m_Rows_88 : Cond.methodLink R_Rows 88 y_Job_init ∈ w_tb := List.mem_filter.mpr ⟨List.mem_append_right _ (List.mem_of_getElem? (i := 258) (by decide +kernel)), rfl⟩
theorem k_m_Rows_9 : Cond.methodLink R_Rows 9 y_AL_init_v ∈ w_tb := List.mem_filter.mpr ⟨List.mem_append_right _ (List.mem_of_getElem? (i := 30) (by decide +kernel)), rfl⟩
theorem k_m_Rows_91 : Cond.methodLink R_Rows 91 y_Rows_findJob ∈ w_tb := List.mem_filter.mpr ⟨List.mem_append_right _ (List.mem_of_getElem? (i := 313) (by decide +kernel)), rfl⟩
theorem k_m_Rows_95 : Cond.methodLink R_Rows 95 y_Job_isWaiting ∈ w_tb := List.mem_filter.mpr ⟨List.mem_append_right _ (List.mem_of_getElem? (i := 317) (by decide +kernel)), rfl⟩
end
section
theorem d_AbC_init_0 : decode b_AbC_init 0 = .ok (.aload_n 0, 1) := by decide +kernel
theorem d_AbC_init_1 : decode b_AbC_init 1 = .ok (.invokespecial 1, 3) := by decide +kernel
theorem d_AbC_init_4 : decode b_AbC_init 4 = .ok (.return_, 1) := by decide +kernel
theorem d_AbL_init_0 : decode b_AbL_init 0 = .ok (.aload_n 0, 1) := by decide +kernel
theorem d_AbL_init_1 : decode b_AbL_init 1 = .ok (.invokespecial 1, 3) := by decide +kernel
theorem d_AbL_init_4 : decode b_AbL_init 4 = .ok (.aload_n 0, 1) := by decide +kernel
theorem d_AbL_init_5 : decode b_AbL_init 5 = .ok (.iconst 0, 1) := by decide +kernel
theorem d_AbL_init_6 : decode b_AbL_init 6 = .ok (.putfield 7, 3) := by decide +kernel
theorem d_AbL_init_9 : decode b_AbL_init 9 = .ok (.return_, 1) := by decide +kernel
theorem d_AL_init_v_0 : decode b_AL_init_v 0 = .ok (.aload_n 0, 1) := by decide +kernel
theorem d_AL_init_v_1 : decode b_AL_init_v 1 = .ok (.invokespecial 1, 3) := by decide +kernel
theorem d_AL_init_v_4 : decode b_AL_init_v 4 = .ok (.aload_n 0, 1) := by decide +kernel
theorem d_AL_init_v_5 : decode b_AL_init_v 5 = .ok (.getstatic 39, 3) := by decide +kernel
theorem d_AL_init_v_8 : decode b_AL_init_v 8 = .ok (.putfield 9, 3) := by decide +kernel
theorem d_AL_init_v_11 : decode b_AL_init_v 11 = .ok (.return_, 1) := by decide +kernel
theorem d_NS_init_0 : decode b_NS_init 0 = .ok (.aload_n 0, 1) := by decide +kernel
theorem d_NS_init_1 : decode b_NS_init 1 = .ok (.invokespecial 1, 3) := by decide +kernel
theorem d_NS_init_4 : decode b_NS_init 4 = .ok (.aload_n 0, 1) := by decide +kernel
theorem d_NS_init_5 : decode b_NS_init 5 = .ok (.lconst 0, 1) := by decide +kernel
theorem d_NS_init_6 : decode b_NS_init 6 = .ok (.putfield 7, 3) := by decide +kernel
theorem d_NS_init_9 : decode b_NS_init 9 = .ok (.aload_n 0, 1) := by decide +kernel
theorem d_NS_init_10 : decode b_NS_init 10 = .ok (.lconst 0, 1) := by decide +kernel
theorem d_NS_init_11 : decode b_NS_init 11 = .ok (.putfield 13, 3) := by decide +kernel
theorem d_NS_init_14 : decode b_NS_init 14 = .ok (.return_, 1) := by decide +kernel
theorem d_Load_init_0 : decode b_Load_init 0 = .ok (.aload_n 0, 1) := by decide +kernel
theorem d_Load_init_1 : decode b_Load_init 1 = .ok (.invokespecial 3, 3) := by decide +kernel
theorem d_Load_init_4 : decode b_Load_init 4 = .ok (.aload_n 0, 1) := by decide +kernel
theorem d_Load_init_5 : decode b_Load_init 5 = .ok (.bipush 36, 2) := by decide +kernel
theorem d_Load_init_7 : decode b_Load_init 7 = .ok (.newarray .int, 2) := by decide +kernel
theorem d_Load_init_9 : decode b_Load_init 9 = .ok (.putfield 9, 3) := by decide +kernel
theorem d_Load_init_12 : decode b_Load_init 12 = .ok (.aload_n 0, 1) := by decide +kernel
theorem d_Load_init_13 : decode b_Load_init 13 = .ok (.iconst 4, 1) := by decide +kernel
theorem d_Load_init_14 : decode b_Load_init 14 = .ok (.newarray .int, 2) := by decide +kernel
theorem d_Load_init_16 : decode b_Load_init 16 = .ok (.putfield 15, 3) := by decide +kernel
theorem d_Load_init_19 : decode b_Load_init 19 = .ok (.aload_n 0, 1) := by decide +kernel
theorem d_Load_init_20 : decode b_Load_init 20 = .ok (.new 18, 3) := by decide +kernel
theorem d_Load_init_23 : decode b_Load_init 23 = .ok (.dup, 1) := by decide +kernel
theorem d_Load_init_24 : decode b_Load_init 24 = .ok (.invokespecial 20, 3) := by decide +kernel
theorem d_Load_init_27 : decode b_Load_init 27 = .ok (.putfield 21, 3) := by decide +kernel
theorem d_Load_init_30 : decode b_Load_init 30 = .ok (.aload_n 0, 1) := by decide +kernel
theorem d_Load_init_31 : decode b_Load_init 31 = .ok (.iconst 0, 1) := by decide +kernel
theorem d_Load_init_32 : decode b_Load_init 32 = .ok (.putfield 25, 3) := by decide +kernel
theorem d_Load_init_35 : decode b_Load_init 35 = .ok (.aload_n 0, 1) := by decide +kernel
theorem d_Load_init_36 : decode b_Load_init 36 = .ok (.iconst 0, 1) := by decide +kernel
theorem d_Load_init_37 : decode b_Load_init 37 = .ok (.putfield 29, 3) := by decide +kernel
theorem d_Load_init_40 : decode b_Load_init 40 = .ok (.return_, 1) := by decide +kernel
theorem d_Rows_init_0 : decode b_Rows_init 0 = .ok (.aload_n 0, 1) := by decide +kernel
theorem d_Rows_init_1 : decode b_Rows_init 1 = .ok (.invokespecial 1, 3) := by decide +kernel
theorem d_Rows_init_4 : decode b_Rows_init 4 = .ok (.aload_n 0, 1) := by decide +kernel
theorem d_Rows_init_5 : decode b_Rows_init 5 = .ok (.new 7, 3) := by decide +kernel
theorem d_Rows_init_8 : decode b_Rows_init 8 = .ok (.dup, 1) := by decide +kernel
theorem d_Rows_init_9 : decode b_Rows_init 9 = .ok (.invokespecial 9, 3) := by decide +kernel
theorem d_Rows_init_12 : decode b_Rows_init 12 = .ok (.putfield 10, 3) := by decide +kernel
theorem d_Rows_init_15 : decode b_Rows_init 15 = .ok (.aload_n 0, 1) := by decide +kernel
theorem d_Rows_init_16 : decode b_Rows_init 16 = .ok (.new 7, 3) := by decide +kernel
theorem d_Rows_init_19 : decode b_Rows_init 19 = .ok (.dup, 1) := by decide +kernel
theorem d_Rows_init_20 : decode b_Rows_init 20 = .ok (.invokespecial 9, 3) := by decide +kernel
theorem d_Rows_init_23 : decode b_Rows_init 23 = .ok (.putfield 16, 3) := by decide +kernel
theorem d_Rows_init_26 : decode b_Rows_init 26 = .ok (.aload_n 0, 1) := by decide +kernel
theorem d_Rows_init_27 : decode b_Rows_init 27 = .ok (.bipush 36, 2) := by decide +kernel
theorem d_Rows_init_29 : decode b_Rows_init 29 = .ok (.newarray .int, 2) := by decide +kernel
theorem d_Rows_init_31 : decode b_Rows_init 31 = .ok (.putfield 19, 3) := by decide +kernel
theorem d_Rows_init_34 : decode b_Rows_init 34 = .ok (.iconst 0, 1) := by decide +kernel
theorem d_Rows_init_35 : decode b_Rows_init 35 = .ok (.istore_n 1, 1) := by decide +kernel
theorem d_Rows_init_36 : decode b_Rows_init 36 = .ok (.iload_n 1, 1) := by decide +kernel
theorem d_Rows_init_37 : decode b_Rows_init 37 = .ok (.aload_n 0, 1) := by decide +kernel
theorem d_Rows_init_38 : decode b_Rows_init 38 = .ok (.getfield 19, 3) := by decide +kernel
theorem d_Rows_init_41 : decode b_Rows_init 41 = .ok (.arraylength, 1) := by decide +kernel
theorem d_Rows_init_42 : decode b_Rows_init 42 = .ok (.if_icmp .ge 17, 3) := by decide +kernel
theorem d_Rows_init_45 : decode b_Rows_init 45 = .ok (.aload_n 0, 1) := by decide +kernel
theorem d_Rows_init_46 : decode b_Rows_init 46 = .ok (.getfield 19, 3) := by decide +kernel
theorem d_Rows_init_49 : decode b_Rows_init 49 = .ok (.iload_n 1, 1) := by decide +kernel
theorem d_Rows_init_50 : decode b_Rows_init 50 = .ok (.bipush 40, 2) := by decide +kernel
theorem d_Rows_init_52 : decode b_Rows_init 52 = .ok (.iastore, 1) := by decide +kernel
theorem d_Rows_init_53 : decode b_Rows_init 53 = .ok (.iinc 1 1, 3) := by decide +kernel
theorem d_Rows_init_56 : decode b_Rows_init 56 = .ok (.goto (-20), 3) := by decide +kernel
theorem d_Rows_init_59 : decode b_Rows_init 59 = .ok (.aload_n 0, 1) := by decide +kernel
theorem d_Rows_init_60 : decode b_Rows_init 60 = .ok (.bipush 36, 2) := by decide +kernel
theorem d_Rows_init_62 : decode b_Rows_init 62 = .ok (.newarray .int, 2) := by decide +kernel
theorem d_Rows_init_64 : decode b_Rows_init 64 = .ok (.putfield 23, 3) := by decide +kernel
theorem d_Rows_init_67 : decode b_Rows_init 67 = .ok (.aload_n 0, 1) := by decide +kernel
theorem d_Rows_init_68 : decode b_Rows_init 68 = .ok (.bipush 36, 2) := by decide +kernel
theorem d_Rows_init_70 : decode b_Rows_init 70 = .ok (.newarray .int, 2) := by decide +kernel
theorem d_Rows_init_72 : decode b_Rows_init 72 = .ok (.putfield 26, 3) := by decide +kernel
theorem d_Rows_init_75 : decode b_Rows_init 75 = .ok (.aload_n 0, 1) := by decide +kernel
theorem d_Rows_init_76 : decode b_Rows_init 76 = .ok (.bipush 36, 2) := by decide +kernel
theorem d_Rows_init_78 : decode b_Rows_init 78 = .ok (.newarray .int, 2) := by decide +kernel
theorem d_Rows_init_80 : decode b_Rows_init 80 = .ok (.putfield 29, 3) := by decide +kernel
theorem d_Rows_init_83 : decode b_Rows_init 83 = .ok (.aload_n 0, 1) := by decide +kernel
theorem d_Rows_init_84 : decode b_Rows_init 84 = .ok (.iconst 4, 1) := by decide +kernel
theorem d_Rows_init_85 : decode b_Rows_init 85 = .ok (.newarray .int, 2) := by decide +kernel
theorem d_Rows_init_87 : decode b_Rows_init 87 = .ok (.putfield 32, 3) := by decide +kernel
theorem d_Rows_init_90 : decode b_Rows_init 90 = .ok (.aload_n 0, 1) := by decide +kernel
theorem d_Rows_init_91 : decode b_Rows_init 91 = .ok (.new 35, 3) := by decide +kernel
theorem d_Rows_init_94 : decode b_Rows_init 94 = .ok (.dup, 1) := by decide +kernel
theorem d_Rows_init_95 : decode b_Rows_init 95 = .ok (.invokespecial 37, 3) := by decide +kernel
theorem d_Rows_init_98 : decode b_Rows_init 98 = .ok (.putfield 38, 3) := by decide +kernel
theorem d_Rows_init_101 : decode b_Rows_init 101 = .ok (.aload_n 0, 1) := by decide +kernel
theorem d_Rows_init_102 : decode b_Rows_init 102 = .ok (.new 42, 3) := by decide +kernel
theorem d_Rows_init_105 : decode b_Rows_init 105 = .ok (.dup, 1) := by decide +kernel
theorem d_Rows_init_106 : decode b_Rows_init 106 = .ok (.invokespecial 44, 3) := by decide +kernel
theorem d_Rows_init_109 : decode b_Rows_init 109 = .ok (.putfield 45, 3) := by decide +kernel
theorem d_Rows_init_112 : decode b_Rows_init 112 = .ok (.aload_n 0, 1) := by decide +kernel
theorem d_Rows_init_113 : decode b_Rows_init 113 = .ok (.lconst 0, 1) := by decide +kernel
theorem d_Rows_init_114 : decode b_Rows_init 114 = .ok (.putfield 49, 3) := by decide +kernel
theorem d_Rows_init_117 : decode b_Rows_init 117 = .ok (.aload_n 0, 1) := by decide +kernel
theorem d_Rows_init_118 : decode b_Rows_init 118 = .ok (.lconst 0, 1) := by decide +kernel
theorem d_Rows_init_119 : decode b_Rows_init 119 = .ok (.putfield 53, 3) := by decide +kernel
theorem d_Rows_init_122 : decode b_Rows_init 122 = .ok (.aload_n 0, 1) := by decide +kernel
theorem d_Rows_init_123 : decode b_Rows_init 123 = .ok (.iconst 0, 1) := by decide +kernel
theorem d_Rows_init_124 : decode b_Rows_init 124 = .ok (.putfield 56, 3) := by decide +kernel
theorem d_Rows_init_127 : decode b_Rows_init 127 = .ok (.return_, 1) := by decide +kernel
theorem d_AL_size_0 : decode b_AL_size 0 = .ok (.aload_n 0, 1) := by decide +kernel
theorem d_AL_size_1 : decode b_AL_size 1 = .ok (.getfield 48, 3) := by decide +kernel
theorem d_AL_size_4 : decode b_AL_size 4 = .ok (.ireturn, 1) := by decide +kernel
theorem d_Ini_init_0 : decode b_Ini_init 0 = .ok (.aload_n 0, 1) := by decide +kernel
theorem d_Ini_init_1 : decode b_Ini_init 1 = .ok (.invokespecial 3, 3) := by decide +kernel
theorem d_Ini_init_4 : decode b_Ini_init 4 = .ok (.aload_n 0, 1) := by decide +kernel
theorem d_Ini_init_5 : decode b_Ini_init 5 = .ok (.bipush 8, 2) := by decide +kernel
theorem d_Ini_init_7 : decode b_Ini_init 7 = .ok (.newarray .int, 2) := by decide +kernel
theorem d_Ini_init_9 : decode b_Ini_init 9 = .ok (.putfield 9, 3) := by decide +kernel
theorem d_Ini_init_12 : decode b_Ini_init 12 = .ok (.iconst 0, 1) := by decide +kernel
theorem d_Ini_init_13 : decode b_Ini_init 13 = .ok (.istore_n 1, 1) := by decide +kernel
theorem d_Ini_init_14 : decode b_Ini_init 14 = .ok (.iload_n 1, 1) := by decide +kernel
theorem d_Ini_init_15 : decode b_Ini_init 15 = .ok (.aload_n 0, 1) := by decide +kernel
theorem d_Ini_init_16 : decode b_Ini_init 16 = .ok (.getfield 9, 3) := by decide +kernel
theorem d_Ini_init_19 : decode b_Ini_init 19 = .ok (.arraylength, 1) := by decide +kernel
theorem d_Ini_init_20 : decode b_Ini_init 20 = .ok (.if_icmp .ge 16, 3) := by decide +kernel
theorem d_Ini_init_23 : decode b_Ini_init 23 = .ok (.aload_n 0, 1) := by decide +kernel
theorem d_Ini_init_24 : decode b_Ini_init 24 = .ok (.getfield 9, 3) := by decide +kernel
theorem d_Ini_init_27 : decode b_Ini_init 27 = .ok (.iload_n 1, 1) := by decide +kernel
theorem d_Ini_init_28 : decode b_Ini_init 28 = .ok (.iconst (-1), 1) := by decide +kernel
theorem d_Ini_init_29 : decode b_Ini_init 29 = .ok (.iastore, 1) := by decide +kernel
theorem d_Ini_init_30 : decode b_Ini_init 30 = .ok (.iinc 1 1, 3) := by decide +kernel
theorem d_Ini_init_33 : decode b_Ini_init 33 = .ok (.goto (-19), 3) := by decide +kernel
theorem d_Ini_init_36 : decode b_Ini_init 36 = .ok (.aload_n 0, 1) := by decide +kernel
theorem d_Ini_init_37 : decode b_Ini_init 37 = .ok (.iconst 0, 1) := by decide +kernel
theorem d_Ini_init_38 : decode b_Ini_init 38 = .ok (.putfield 15, 3) := by decide +kernel
theorem d_Ini_init_41 : decode b_Ini_init 41 = .ok (.aload_n 0, 1) := by decide +kernel
theorem d_Ini_init_42 : decode b_Ini_init 42 = .ok (.iconst 0, 1) := by decide +kernel
theorem d_Ini_init_43 : decode b_Ini_init 43 = .ok (.putfield 19, 3) := by decide +kernel
theorem d_Ini_init_46 : decode b_Ini_init 46 = .ok (.return_, 1) := by decide +kernel
theorem d_ASup_newLength_0 : decode b_ASup_newLength 0 = .ok (.iload_n 0, 1) := by decide +kernel
theorem d_ASup_newLength_1 : decode b_ASup_newLength 1 = .ok (.iload_n 1, 1) := by decide +kernel
theorem d_ASup_newLength_2 : decode b_ASup_newLength 2 = .ok (.iload_n 2, 1) := by decide +kernel
theorem d_ASup_newLength_3 : decode b_ASup_newLength 3 = .ok (.invokestatic 194, 3) := by decide +kernel
theorem d_ASup_newLength_6 : decode b_ASup_newLength 6 = .ok (.iadd, 1) := by decide +kernel
theorem d_ASup_newLength_7 : decode b_ASup_newLength 7 = .ok (.istore_n 3, 1) := by decide +kernel
theorem d_ASup_newLength_8 : decode b_ASup_newLength 8 = .ok (.iconst 0, 1) := by decide +kernel
theorem d_ASup_newLength_9 : decode b_ASup_newLength 9 = .ok (.iload_n 3, 1) := by decide +kernel
theorem d_ASup_newLength_10 : decode b_ASup_newLength 10 = .ok (.if_icmp .ge 11, 3) := by decide +kernel
theorem d_ASup_newLength_13 : decode b_ASup_newLength 13 = .ok (.iload_n 3, 1) := by decide +kernel
theorem d_ASup_newLength_14 : decode b_ASup_newLength 14 = .ok (.ldc 200, 2) := by decide +kernel
theorem d_ASup_newLength_16 : decode b_ASup_newLength 16 = .ok (.if_icmp .gt 5, 3) := by decide +kernel
theorem d_ASup_newLength_19 : decode b_ASup_newLength 19 = .ok (.iload_n 3, 1) := by decide +kernel
theorem d_ASup_newLength_20 : decode b_ASup_newLength 20 = .ok (.ireturn, 1) := by decide +kernel
theorem d_ASup_newLength_21 : decode b_ASup_newLength 21 = .ok (.iload_n 0, 1) := by decide +kernel
theorem d_ASup_newLength_22 : decode b_ASup_newLength 22 = .ok (.iload_n 1, 1) := by decide +kernel
theorem d_ASup_newLength_23 : decode b_ASup_newLength 23 = .ok (.invokestatic 201, 3) := by decide +kernel
theorem d_ASup_newLength_26 : decode b_ASup_newLength 26 = .ok (.ireturn, 1) := by decide +kernel
theorem d_Arrs_copyOf_AIL_0 : decode b_Arrs_copyOf_AIL 0 = .ok (.aload_n 2, 1) := by decide +kernel
theorem d_Arrs_copyOf_AIL_1 : decode b_Arrs_copyOf_AIL 1 = .ok (.ldc 110, 2) := by decide +kernel
theorem d_Arrs_copyOf_AIL_3 : decode b_Arrs_copyOf_AIL 3 = .ok (.if_acmp .ne 10, 3) := by decide +kernel
theorem d_Arrs_copyOf_AIL_6 : decode b_Arrs_copyOf_AIL 6 = .ok (.iload_n 1, 1) := by decide +kernel
theorem d_Arrs_copyOf_AIL_7 : decode b_Arrs_copyOf_AIL 7 = .ok (.anewarray 2, 3) := by decide +kernel
theorem d_Arrs_copyOf_AIL_10 : decode b_Arrs_copyOf_AIL 10 = .ok (.goto 14, 3) := by decide +kernel
theorem d_Arrs_copyOf_AIL_13 : decode b_Arrs_copyOf_AIL 13 = .ok (.aload_n 2, 1) := by decide +kernel
theorem d_Arrs_copyOf_AIL_14 : decode b_Arrs_copyOf_AIL 14 = .ok (.invokevirtual 90, 3) := by decide +kernel
theorem d_Arrs_copyOf_AIL_17 : decode b_Arrs_copyOf_AIL 17 = .ok (.iload_n 1, 1) := by decide +kernel
theorem d_Arrs_copyOf_AIL_18 : decode b_Arrs_copyOf_AIL 18 = .ok (.invokestatic 95, 3) := by decide +kernel
theorem d_Arrs_copyOf_AIL_21 : decode b_Arrs_copyOf_AIL 21 = .ok (.checkcast 110, 3) := by decide +kernel
theorem d_Arrs_copyOf_AIL_24 : decode b_Arrs_copyOf_AIL 24 = .ok (.astore_n 3, 1) := by decide +kernel
theorem d_Arrs_copyOf_AIL_25 : decode b_Arrs_copyOf_AIL 25 = .ok (.aload_n 0, 1) := by decide +kernel
theorem d_Arrs_copyOf_AIL_26 : decode b_Arrs_copyOf_AIL 26 = .ok (.iconst 0, 1) := by decide +kernel
theorem d_Arrs_copyOf_AIL_27 : decode b_Arrs_copyOf_AIL 27 = .ok (.aload_n 3, 1) := by decide +kernel
theorem d_Arrs_copyOf_AIL_28 : decode b_Arrs_copyOf_AIL 28 = .ok (.iconst 0, 1) := by decide +kernel
theorem d_Arrs_copyOf_AIL_29 : decode b_Arrs_copyOf_AIL 29 = .ok (.aload_n 0, 1) := by decide +kernel
theorem d_Arrs_copyOf_AIL_30 : decode b_Arrs_copyOf_AIL 30 = .ok (.arraylength, 1) := by decide +kernel
theorem d_Arrs_copyOf_AIL_31 : decode b_Arrs_copyOf_AIL 31 = .ok (.iload_n 1, 1) := by decide +kernel
theorem d_Arrs_copyOf_AIL_32 : decode b_Arrs_copyOf_AIL 32 = .ok (.invokestatic 304, 3) := by decide +kernel
theorem d_Arrs_copyOf_AIL_35 : decode b_Arrs_copyOf_AIL 35 = .ok (.invokestatic 150, 3) := by decide +kernel
theorem d_Arrs_copyOf_AIL_38 : decode b_Arrs_copyOf_AIL 38 = .ok (.aload_n 3, 1) := by decide +kernel
theorem d_Arrs_copyOf_AIL_39 : decode b_Arrs_copyOf_AIL 39 = .ok (.areturn, 1) := by decide +kernel
theorem d_Arrs_copyOf_AI_0 : decode b_Arrs_copyOf_AI 0 = .ok (.aload_n 0, 1) := by decide +kernel
theorem d_Arrs_copyOf_AI_1 : decode b_Arrs_copyOf_AI 1 = .ok (.iload_n 1, 1) := by decide +kernel
theorem d_Arrs_copyOf_AI_2 : decode b_Arrs_copyOf_AI 2 = .ok (.aload_n 0, 1) := by decide +kernel
theorem d_Arrs_copyOf_AI_3 : decode b_Arrs_copyOf_AI 3 = .ok (.invokevirtual 86, 3) := by decide +kernel
theorem d_Arrs_copyOf_AI_6 : decode b_Arrs_copyOf_AI 6 = .ok (.invokestatic 300, 3) := by decide +kernel
theorem d_Arrs_copyOf_AI_9 : decode b_Arrs_copyOf_AI 9 = .ok (.areturn, 1) := by decide +kernel
theorem d_AL_grow_I_0 : decode b_AL_grow_I 0 = .ok (.aload_n 0, 1) := by decide +kernel
theorem d_AL_grow_I_1 : decode b_AL_grow_I 1 = .ok (.getfield 9, 3) := by decide +kernel
theorem d_AL_grow_I_4 : decode b_AL_grow_I 4 = .ok (.arraylength, 1) := by decide +kernel
theorem d_AL_grow_I_5 : decode b_AL_grow_I 5 = .ok (.istore_n 2, 1) := by decide +kernel
theorem d_AL_grow_I_6 : decode b_AL_grow_I 6 = .ok (.iload_n 2, 1) := by decide +kernel
theorem d_AL_grow_I_7 : decode b_AL_grow_I 7 = .ok (.ifCond .gt 13, 3) := by decide +kernel
theorem d_AL_grow_I_10 : decode b_AL_grow_I 10 = .ok (.aload_n 0, 1) := by decide +kernel
theorem d_AL_grow_I_11 : decode b_AL_grow_I 11 = .ok (.getfield 9, 3) := by decide +kernel
theorem d_AL_grow_I_14 : decode b_AL_grow_I 14 = .ok (.getstatic 39, 3) := by decide +kernel
theorem d_AL_grow_I_17 : decode b_AL_grow_I 17 = .ok (.if_acmp .eq 28, 3) := by decide +kernel
theorem d_AL_grow_I_20 : decode b_AL_grow_I 20 = .ok (.iload_n 2, 1) := by decide +kernel
theorem d_AL_grow_I_21 : decode b_AL_grow_I 21 = .ok (.iload_n 1, 1) := by decide +kernel
theorem d_AL_grow_I_22 : decode b_AL_grow_I 22 = .ok (.iload_n 2, 1) := by decide +kernel
theorem d_AL_grow_I_23 : decode b_AL_grow_I 23 = .ok (.isub, 1) := by decide +kernel
theorem d_AL_grow_I_24 : decode b_AL_grow_I 24 = .ok (.iload_n 2, 1) := by decide +kernel
theorem d_AL_grow_I_25 : decode b_AL_grow_I 25 = .ok (.iconst 1, 1) := by decide +kernel
theorem d_AL_grow_I_26 : decode b_AL_grow_I 26 = .ok (.ishr, 1) := by decide +kernel
theorem d_AL_grow_I_27 : decode b_AL_grow_I 27 = .ok (.invokestatic 73, 3) := by decide +kernel
theorem d_AL_grow_I_30 : decode b_AL_grow_I 30 = .ok (.istore_n 3, 1) := by decide +kernel
theorem d_AL_grow_I_31 : decode b_AL_grow_I 31 = .ok (.aload_n 0, 1) := by decide +kernel
theorem d_AL_grow_I_32 : decode b_AL_grow_I 32 = .ok (.aload_n 0, 1) := by decide +kernel
theorem d_AL_grow_I_33 : decode b_AL_grow_I 33 = .ok (.getfield 9, 3) := by decide +kernel
theorem d_AL_grow_I_36 : decode b_AL_grow_I 36 = .ok (.iload_n 3, 1) := by decide +kernel
theorem d_AL_grow_I_37 : decode b_AL_grow_I 37 = .ok (.invokestatic 66, 3) := by decide +kernel
theorem d_AL_grow_I_40 : decode b_AL_grow_I 40 = .ok (.dup_x1, 1) := by decide +kernel
theorem d_AL_grow_I_41 : decode b_AL_grow_I 41 = .ok (.putfield 9, 3) := by decide +kernel
theorem d_AL_grow_I_44 : decode b_AL_grow_I 44 = .ok (.areturn, 1) := by decide +kernel
theorem d_AL_grow_I_45 : decode b_AL_grow_I 45 = .ok (.aload_n 0, 1) := by decide +kernel
theorem d_AL_grow_I_46 : decode b_AL_grow_I 46 = .ok (.bipush 10, 2) := by decide +kernel
theorem d_AL_grow_I_48 : decode b_AL_grow_I 48 = .ok (.iload_n 1, 1) := by decide +kernel
theorem d_AL_grow_I_49 : decode b_AL_grow_I 49 = .ok (.invokestatic 79, 3) := by decide +kernel
theorem d_AL_grow_I_52 : decode b_AL_grow_I 52 = .ok (.anewarray 7, 3) := by decide +kernel
theorem d_AL_grow_I_55 : decode b_AL_grow_I 55 = .ok (.dup_x1, 1) := by decide +kernel
theorem d_AL_grow_I_56 : decode b_AL_grow_I 56 = .ok (.putfield 9, 3) := by decide +kernel
theorem d_AL_grow_I_59 : decode b_AL_grow_I 59 = .ok (.areturn, 1) := by decide +kernel
theorem d_AL_grow_v_0 : decode b_AL_grow_v 0 = .ok (.aload_n 0, 1) := by decide +kernel
theorem d_AL_grow_v_1 : decode b_AL_grow_v 1 = .ok (.aload_n 0, 1) := by decide +kernel
theorem d_AL_grow_v_2 : decode b_AL_grow_v 2 = .ok (.getfield 48, 3) := by decide +kernel
theorem d_AL_grow_v_5 : decode b_AL_grow_v 5 = .ok (.iconst 1, 1) := by decide +kernel
theorem d_AL_grow_v_6 : decode b_AL_grow_v 6 = .ok (.iadd, 1) := by decide +kernel
theorem d_AL_grow_v_7 : decode b_AL_grow_v 7 = .ok (.invokevirtual 69, 3) := by decide +kernel
theorem d_AL_grow_v_10 : decode b_AL_grow_v 10 = .ok (.areturn, 1) := by decide +kernel
theorem d_AL_add_LAI_0 : decode b_AL_add_LAI 0 = .ok (.iload_n 3, 1) := by decide +kernel
theorem d_AL_add_LAI_1 : decode b_AL_add_LAI 1 = .ok (.aload_n 2, 1) := by decide +kernel
theorem d_AL_add_LAI_2 : decode b_AL_add_LAI 2 = .ok (.arraylength, 1) := by decide +kernel
theorem d_AL_add_LAI_3 : decode b_AL_add_LAI 3 = .ok (.if_icmp .ne 8, 3) := by decide +kernel
theorem d_AL_add_LAI_6 : decode b_AL_add_LAI 6 = .ok (.aload_n 0, 1) := by decide +kernel
theorem d_AL_add_LAI_7 : decode b_AL_add_LAI 7 = .ok (.invokevirtual 129, 3) := by decide +kernel
theorem d_AL_add_LAI_10 : decode b_AL_add_LAI 10 = .ok (.astore_n 2, 1) := by decide +kernel
theorem d_AL_add_LAI_11 : decode b_AL_add_LAI 11 = .ok (.aload_n 2, 1) := by decide +kernel
theorem d_AL_add_LAI_12 : decode b_AL_add_LAI 12 = .ok (.iload_n 3, 1) := by decide +kernel
theorem d_AL_add_LAI_13 : decode b_AL_add_LAI 13 = .ok (.aload_n 1, 1) := by decide +kernel
theorem d_AL_add_LAI_14 : decode b_AL_add_LAI 14 = .ok (.aastore, 1) := by decide +kernel
theorem d_AL_add_LAI_15 : decode b_AL_add_LAI 15 = .ok (.aload_n 0, 1) := by decide +kernel
theorem d_AL_add_LAI_16 : decode b_AL_add_LAI 16 = .ok (.iload_n 3, 1) := by decide +kernel
theorem d_AL_add_LAI_17 : decode b_AL_add_LAI 17 = .ok (.iconst 1, 1) := by decide +kernel
theorem d_AL_add_LAI_18 : decode b_AL_add_LAI 18 = .ok (.iadd, 1) := by decide +kernel
theorem d_AL_add_LAI_19 : decode b_AL_add_LAI 19 = .ok (.putfield 48, 3) := by decide +kernel
theorem d_AL_add_LAI_22 : decode b_AL_add_LAI 22 = .ok (.return_, 1) := by decide +kernel
theorem d_AL_add_L_0 : decode b_AL_add_L 0 = .ok (.aload_n 0, 1) := by decide +kernel
theorem d_AL_add_L_1 : decode b_AL_add_L 1 = .ok (.dup, 1) := by decide +kernel
theorem d_AL_add_L_2 : decode b_AL_add_L 2 = .ok (.getfield 63, 3) := by decide +kernel
theorem d_AL_add_L_5 : decode b_AL_add_L 5 = .ok (.iconst 1, 1) := by decide +kernel
theorem d_AL_add_L_6 : decode b_AL_add_L 6 = .ok (.iadd, 1) := by decide +kernel
theorem d_AL_add_L_7 : decode b_AL_add_L 7 = .ok (.putfield 63, 3) := by decide +kernel
theorem d_AL_add_L_10 : decode b_AL_add_L 10 = .ok (.aload_n 0, 1) := by decide +kernel
theorem d_AL_add_L_11 : decode b_AL_add_L 11 = .ok (.aload_n 1, 1) := by decide +kernel
theorem d_AL_add_L_12 : decode b_AL_add_L 12 = .ok (.aload_n 0, 1) := by decide +kernel
theorem d_AL_add_L_13 : decode b_AL_add_L 13 = .ok (.getfield 9, 3) := by decide +kernel
theorem d_AL_add_L_16 : decode b_AL_add_L 16 = .ok (.aload_n 0, 1) := by decide +kernel
theorem d_AL_add_L_17 : decode b_AL_add_L 17 = .ok (.getfield 48, 3) := by decide +kernel
theorem d_AL_add_L_20 : decode b_AL_add_L 20 = .ok (.invokevirtual 131, 3) := by decide +kernel
theorem d_AL_add_L_23 : decode b_AL_add_L 23 = .ok (.iconst 1, 1) := by decide +kernel
theorem d_AL_add_L_24 : decode b_AL_add_L 24 = .ok (.ireturn, 1) := by decide +kernel
theorem d_Rows_initiator_0 : decode b_Rows_initiator 0 = .ok (.aload_n 0, 1) := by decide +kernel
theorem d_Rows_initiator_1 : decode b_Rows_initiator 1 = .ok (.getfield 10, 3) := by decide +kernel
theorem d_Rows_initiator_4 : decode b_Rows_initiator 4 = .ok (.invokevirtual 60, 3) := by decide +kernel
theorem d_Rows_initiator_7 : decode b_Rows_initiator 7 = .ok (.bipush 12, 2) := by decide +kernel
theorem d_Rows_initiator_9 : decode b_Rows_initiator 9 = .ok (.if_icmp .lt 5, 3) := by decide +kernel
theorem d_Rows_initiator_12 : decode b_Rows_initiator 12 = .ok (.iconst (-1), 1) := by decide +kernel
theorem d_Rows_initiator_13 : decode b_Rows_initiator 13 = .ok (.ireturn, 1) := by decide +kernel
theorem d_Rows_initiator_14 : decode b_Rows_initiator 14 = .ok (.aload_n 0, 1) := by decide +kernel
theorem d_Rows_initiator_15 : decode b_Rows_initiator 15 = .ok (.getfield 10, 3) := by decide +kernel
theorem d_Rows_initiator_18 : decode b_Rows_initiator 18 = .ok (.new 64, 3) := by decide +kernel
theorem d_Rows_initiator_21 : decode b_Rows_initiator 21 = .ok (.dup, 1) := by decide +kernel
theorem d_Rows_initiator_22 : decode b_Rows_initiator 22 = .ok (.invokespecial 66, 3) := by decide +kernel
theorem d_Rows_initiator_25 : decode b_Rows_initiator 25 = .ok (.invokevirtual 67, 3) := by decide +kernel
theorem d_Rows_initiator_28 : decode b_Rows_initiator 28 = .ok (.pop, 1) := by decide +kernel
theorem d_Rows_initiator_29 : decode b_Rows_initiator 29 = .ok (.aload_n 0, 1) := by decide +kernel
theorem d_Rows_initiator_30 : decode b_Rows_initiator 30 = .ok (.getfield 10, 3) := by decide +kernel
theorem d_Rows_initiator_33 : decode b_Rows_initiator 33 = .ok (.invokevirtual 60, 3) := by decide +kernel
theorem d_Rows_initiator_36 : decode b_Rows_initiator 36 = .ok (.ireturn, 1) := by decide +kernel
theorem d_Rows_isIn_0 : decode b_Rows_isIn 0 = .ok (.iload_n 0, 1) := by decide +kernel
theorem d_Rows_isIn_1 : decode b_Rows_isIn 1 = .ok (.iload_n 1, 1) := by decide +kernel
theorem d_Rows_isIn_2 : decode b_Rows_isIn 2 = .ok (.if_icmp .lt 12, 3) := by decide +kernel
theorem d_Rows_isIn_5 : decode b_Rows_isIn 5 = .ok (.iload_n 0, 1) := by decide +kernel
theorem d_Rows_isIn_6 : decode b_Rows_isIn 6 = .ok (.iload_n 2, 1) := by decide +kernel
theorem d_Rows_isIn_7 : decode b_Rows_isIn 7 = .ok (.if_icmp .gt 7, 3) := by decide +kernel
theorem d_Rows_isIn_10 : decode b_Rows_isIn 10 = .ok (.iconst 1, 1) := by decide +kernel
theorem d_Rows_isIn_11 : decode b_Rows_isIn 11 = .ok (.goto 4, 3) := by decide +kernel
theorem d_Rows_isIn_14 : decode b_Rows_isIn 14 = .ok (.iconst 0, 1) := by decide +kernel
theorem d_Rows_isIn_15 : decode b_Rows_isIn 15 = .ok (.ireturn, 1) := by decide +kernel
theorem d_Prec_checkIndex_IIL_0 : decode b_Prec_checkIndex_IIL 0 = .ok (.iload_n 0, 1) := by decide +kernel
theorem d_Prec_checkIndex_IIL_1 : decode b_Prec_checkIndex_IIL 1 = .ok (.ifCond .lt 8, 3) := by decide +kernel
theorem d_Prec_checkIndex_IIL_4 : decode b_Prec_checkIndex_IIL 4 = .ok (.iload_n 0, 1) := by decide +kernel
theorem d_Prec_checkIndex_IIL_5 : decode b_Prec_checkIndex_IIL 5 = .ok (.iload_n 1, 1) := by decide +kernel
theorem d_Prec_checkIndex_IIL_6 : decode b_Prec_checkIndex_IIL 6 = .ok (.if_icmp .lt 10, 3) := by decide +kernel
theorem d_Prec_checkIndex_IIL_16 : decode b_Prec_checkIndex_IIL 16 = .ok (.iload_n 0, 1) := by decide +kernel
theorem d_Prec_checkIndex_IIL_17 : decode b_Prec_checkIndex_IIL 17 = .ok (.ireturn, 1) := by decide +kernel
theorem d_Objs_checkIndex_II_0 : decode b_Objs_checkIndex_II 0 = .ok (.iload_n 0, 1) := by decide +kernel
theorem d_Objs_checkIndex_II_1 : decode b_Objs_checkIndex_II 1 = .ok (.iload_n 1, 1) := by decide +kernel
theorem d_Objs_checkIndex_II_2 : decode b_Objs_checkIndex_II 2 = .ok (.aconst_null, 1) := by decide +kernel
theorem d_Objs_checkIndex_II_3 : decode b_Objs_checkIndex_II 3 = .ok (.invokestatic 105, 3) := by decide +kernel
theorem d_Objs_checkIndex_II_6 : decode b_Objs_checkIndex_II 6 = .ok (.ireturn, 1) := by decide +kernel
theorem d_AL_elementData_0 : decode b_AL_elementData 0 = .ok (.aload_n 0, 1) := by decide +kernel
theorem d_AL_elementData_1 : decode b_AL_elementData 1 = .ok (.getfield 9, 3) := by decide +kernel
theorem d_AL_elementData_4 : decode b_AL_elementData 4 = .ok (.iload_n 1, 1) := by decide +kernel
theorem d_AL_elementData_5 : decode b_AL_elementData 5 = .ok (.aaload, 1) := by decide +kernel
theorem d_AL_elementData_6 : decode b_AL_elementData 6 = .ok (.areturn, 1) := by decide +kernel
theorem d_AL_get_0 : decode b_AL_get 0 = .ok (.iload_n 1, 1) := by decide +kernel
theorem d_AL_get_1 : decode b_AL_get 1 = .ok (.aload_n 0, 1) := by decide +kernel
theorem d_AL_get_2 : decode b_AL_get 2 = .ok (.getfield 48, 3) := by decide +kernel
theorem d_AL_get_5 : decode b_AL_get 5 = .ok (.invokestatic 118, 3) := by decide +kernel
theorem d_AL_get_8 : decode b_AL_get 8 = .ok (.pop, 1) := by decide +kernel
theorem d_AL_get_9 : decode b_AL_get 9 = .ok (.aload_n 0, 1) := by decide +kernel
theorem d_AL_get_10 : decode b_AL_get 10 = .ok (.iload_n 1, 1) := by decide +kernel
theorem d_AL_get_11 : decode b_AL_get 11 = .ok (.invokevirtual 123, 3) := by decide +kernel
theorem d_AL_get_14 : decode b_AL_get 14 = .ok (.areturn, 1) := by decide +kernel
theorem d_Rows_findInitiator_0 : decode b_Rows_findInitiator 0 = .ok (.iload_n 1, 1) := by decide +kernel
theorem d_Rows_findInitiator_1 : decode b_Rows_findInitiator 1 = .ok (.iconst 1, 1) := by decide +kernel
theorem d_Rows_findInitiator_2 : decode b_Rows_findInitiator 2 = .ok (.aload_n 0, 1) := by decide +kernel
theorem d_Rows_findInitiator_3 : decode b_Rows_findInitiator 3 = .ok (.getfield 10, 3) := by decide +kernel
theorem d_Rows_findInitiator_6 : decode b_Rows_findInitiator 6 = .ok (.invokevirtual 60, 3) := by decide +kernel
theorem d_Rows_findInitiator_9 : decode b_Rows_findInitiator 9 = .ok (.invokestatic 75, 3) := by decide +kernel
theorem d_Rows_findInitiator_12 : decode b_Rows_findInitiator 12 = .ok (.ifCond .eq 19, 3) := by decide +kernel
theorem d_Rows_findInitiator_15 : decode b_Rows_findInitiator 15 = .ok (.aload_n 0, 1) := by decide +kernel
theorem d_Rows_findInitiator_16 : decode b_Rows_findInitiator 16 = .ok (.getfield 10, 3) := by decide +kernel
theorem d_Rows_findInitiator_19 : decode b_Rows_findInitiator 19 = .ok (.iload_n 1, 1) := by decide +kernel
theorem d_Rows_findInitiator_20 : decode b_Rows_findInitiator 20 = .ok (.iconst 1, 1) := by decide +kernel
theorem d_Rows_findInitiator_21 : decode b_Rows_findInitiator 21 = .ok (.isub, 1) := by decide +kernel
theorem d_Rows_findInitiator_22 : decode b_Rows_findInitiator 22 = .ok (.invokevirtual 156, 3) := by decide +kernel
theorem d_Rows_findInitiator_25 : decode b_Rows_findInitiator 25 = .ok (.checkcast 64, 3) := by decide +kernel
theorem d_Rows_findInitiator_28 : decode b_Rows_findInitiator 28 = .ok (.goto 4, 3) := by decide +kernel
theorem d_Rows_findInitiator_31 : decode b_Rows_findInitiator 31 = .ok (.aconst_null, 1) := by decide +kernel
theorem d_Rows_findInitiator_32 : decode b_Rows_findInitiator 32 = .ok (.areturn, 1) := by decide +kernel
theorem d_Rows_isClass_0 : decode b_Rows_isClass 0 = .ok (.iload_n 0, 1) := by decide +kernel
theorem d_Rows_isClass_1 : decode b_Rows_isClass 1 = .ok (.iconst 0, 1) := by decide +kernel
theorem d_Rows_isClass_2 : decode b_Rows_isClass 2 = .ok (.bipush 35, 2) := by decide +kernel
theorem d_Rows_isClass_4 : decode b_Rows_isClass 4 = .ok (.invokestatic 75, 3) := by decide +kernel
theorem d_Rows_isClass_7 : decode b_Rows_isClass 7 = .ok (.ireturn, 1) := by decide +kernel
theorem d_Rows_cls_0 : decode b_Rows_cls 0 = .ok (.aload_n 0, 1) := by decide +kernel
theorem d_Rows_cls_1 : decode b_Rows_cls 1 = .ok (.iload_n 1, 1) := by decide +kernel
theorem d_Rows_cls_2 : decode b_Rows_cls 2 = .ok (.invokevirtual 71, 3) := by decide +kernel
theorem d_Rows_cls_5 : decode b_Rows_cls 5 = .ok (.astore 4, 2) := by decide +kernel
theorem d_Rows_cls_7 : decode b_Rows_cls 7 = .ok (.aload 4, 2) := by decide +kernel
theorem d_Rows_cls_9 : decode b_Rows_cls 9 = .ok (.ifnonnull 6, 3) := by decide +kernel
theorem d_Rows_cls_12 : decode b_Rows_cls 12 = .ok (.bipush (-2), 2) := by decide +kernel
theorem d_Rows_cls_14 : decode b_Rows_cls 14 = .ok (.ireturn, 1) := by decide +kernel
theorem d_Rows_cls_15 : decode b_Rows_cls 15 = .ok (.iload_n 2, 1) := by decide +kernel
theorem d_Rows_cls_16 : decode b_Rows_cls 16 = .ok (.iconst 0, 1) := by decide +kernel
theorem d_Rows_cls_17 : decode b_Rows_cls 17 = .ok (.bipush 7, 2) := by decide +kernel
theorem d_Rows_cls_19 : decode b_Rows_cls 19 = .ok (.invokestatic 75, 3) := by decide +kernel
theorem d_Rows_cls_22 : decode b_Rows_cls 22 = .ok (.ifCond .eq 15, 3) := by decide +kernel
theorem d_Rows_cls_25 : decode b_Rows_cls 25 = .ok (.iload_n 3, 1) := by decide +kernel
theorem d_Rows_cls_26 : decode b_Rows_cls 26 = .ok (.iconst (-1), 1) := by decide +kernel
theorem d_Rows_cls_27 : decode b_Rows_cls 27 = .ok (.if_icmp .eq 13, 3) := by decide +kernel
theorem d_Rows_cls_30 : decode b_Rows_cls 30 = .ok (.iload_n 3, 1) := by decide +kernel
theorem d_Rows_cls_31 : decode b_Rows_cls 31 = .ok (.invokestatic 79, 3) := by decide +kernel
theorem d_Rows_cls_34 : decode b_Rows_cls 34 = .ok (.ifCond .ne 6, 3) := by decide +kernel
theorem d_Rows_cls_37 : decode b_Rows_cls 37 = .ok (.bipush (-4), 2) := by decide +kernel
theorem d_Rows_cls_39 : decode b_Rows_cls 39 = .ok (.ireturn, 1) := by decide +kernel
theorem d_Rows_cls_40 : decode b_Rows_cls 40 = .ok (.aload 4, 2) := by decide +kernel
theorem d_Rows_cls_42 : decode b_Rows_cls 42 = .ok (.getfield 83, 3) := by decide +kernel
theorem d_Rows_cls_45 : decode b_Rows_cls 45 = .ok (.iload_n 2, 1) := by decide +kernel
theorem d_Rows_cls_46 : decode b_Rows_cls 46 = .ok (.iload_n 3, 1) := by decide +kernel
theorem d_Rows_cls_47 : decode b_Rows_cls 47 = .ok (.iastore, 1) := by decide +kernel
theorem d_Rows_cls_48 : decode b_Rows_cls 48 = .ok (.iconst 1, 1) := by decide +kernel
theorem d_Rows_cls_49 : decode b_Rows_cls 49 = .ok (.ireturn, 1) := by decide +kernel
theorem d_Rows_limit_0 : decode b_Rows_limit 0 = .ok (.iload_n 1, 1) := by decide +kernel
theorem d_Rows_limit_1 : decode b_Rows_limit 1 = .ok (.invokestatic 79, 3) := by decide +kernel
theorem d_Rows_limit_4 : decode b_Rows_limit 4 = .ok (.ifCond .eq 13, 3) := by decide +kernel
theorem d_Rows_limit_7 : decode b_Rows_limit 7 = .ok (.iload_n 2, 1) := by decide +kernel
theorem d_Rows_limit_8 : decode b_Rows_limit 8 = .ok (.iconst 0, 1) := by decide +kernel
theorem d_Rows_limit_9 : decode b_Rows_limit 9 = .ok (.bipush 40, 2) := by decide +kernel
theorem d_Rows_limit_11 : decode b_Rows_limit 11 = .ok (.invokestatic 75, 3) := by decide +kernel
theorem d_Rows_limit_14 : decode b_Rows_limit 14 = .ok (.ifCond .ne 6, 3) := by decide +kernel
theorem d_Rows_limit_17 : decode b_Rows_limit 17 = .ok (.bipush (-4), 2) := by decide +kernel
theorem d_Rows_limit_19 : decode b_Rows_limit 19 = .ok (.ireturn, 1) := by decide +kernel
theorem d_Rows_limit_20 : decode b_Rows_limit 20 = .ok (.aload_n 0, 1) := by decide +kernel
theorem d_Rows_limit_21 : decode b_Rows_limit 21 = .ok (.getfield 19, 3) := by decide +kernel
theorem d_Rows_limit_24 : decode b_Rows_limit 24 = .ok (.iload_n 1, 1) := by decide +kernel
theorem d_Rows_limit_25 : decode b_Rows_limit 25 = .ok (.iload_n 2, 1) := by decide +kernel
theorem d_Rows_limit_26 : decode b_Rows_limit 26 = .ok (.iastore, 1) := by decide +kernel
theorem d_Rows_limit_27 : decode b_Rows_limit 27 = .ok (.iconst 1, 1) := by decide +kernel
theorem d_Rows_limit_28 : decode b_Rows_limit 28 = .ok (.ireturn, 1) := by decide +kernel
theorem d_Rows_window_0 : decode b_Rows_window 0 = .ok (.iload_n 1, 1) := by decide +kernel
theorem d_Rows_window_1 : decode b_Rows_window 1 = .ok (.invokestatic 79, 3) := by decide +kernel
theorem d_Rows_window_4 : decode b_Rows_window 4 = .ok (.ifCond .eq 25, 3) := by decide +kernel
theorem d_Rows_window_7 : decode b_Rows_window 7 = .ok (.iload_n 2, 1) := by decide +kernel
theorem d_Rows_window_8 : decode b_Rows_window 8 = .ok (.iconst 0, 1) := by decide +kernel
theorem d_Rows_window_9 : decode b_Rows_window 9 = .ok (.sipush 1439, 3) := by decide +kernel
theorem d_Rows_window_12 : decode b_Rows_window 12 = .ok (.invokestatic 75, 3) := by decide +kernel
theorem d_Rows_window_15 : decode b_Rows_window 15 = .ok (.ifCond .eq 14, 3) := by decide +kernel
theorem d_Rows_window_18 : decode b_Rows_window 18 = .ok (.iload_n 3, 1) := by decide +kernel
theorem d_Rows_window_19 : decode b_Rows_window 19 = .ok (.iconst 0, 1) := by decide +kernel
theorem d_Rows_window_20 : decode b_Rows_window 20 = .ok (.sipush 1439, 3) := by decide +kernel
theorem d_Rows_window_23 : decode b_Rows_window 23 = .ok (.invokestatic 75, 3) := by decide +kernel
theorem d_Rows_window_26 : decode b_Rows_window 26 = .ok (.ifCond .ne 6, 3) := by decide +kernel
theorem d_Rows_window_29 : decode b_Rows_window 29 = .ok (.bipush (-4), 2) := by decide +kernel
theorem d_Rows_window_31 : decode b_Rows_window 31 = .ok (.ireturn, 1) := by decide +kernel
theorem d_Rows_window_32 : decode b_Rows_window 32 = .ok (.aload_n 0, 1) := by decide +kernel
end
section
theorem d_Rows_window_33 : decode b_Rows_window 33 = .ok (.getfield 23, 3) := by decide +kernel
theorem d_Rows_window_36 : decode b_Rows_window 36 = .ok (.iload_n 1, 1) := by decide +kernel
theorem d_Rows_window_37 : decode b_Rows_window 37 = .ok (.iload_n 2, 1) := by decide +kernel
theorem d_Rows_window_38 : decode b_Rows_window 38 = .ok (.iastore, 1) := by decide +kernel
theorem d_Rows_window_39 : decode b_Rows_window 39 = .ok (.aload_n 0, 1) := by decide +kernel
theorem d_Rows_window_40 : decode b_Rows_window 40 = .ok (.getfield 26, 3) := by decide +kernel
theorem d_Rows_window_43 : decode b_Rows_window 43 = .ok (.iload_n 1, 1) := by decide +kernel
theorem d_Rows_window_44 : decode b_Rows_window 44 = .ok (.iload_n 3, 1) := by decide +kernel
theorem d_Rows_window_45 : decode b_Rows_window 45 = .ok (.iastore, 1) := by decide +kernel
theorem d_Rows_window_46 : decode b_Rows_window 46 = .ok (.iconst 1, 1) := by decide +kernel
theorem d_Rows_window_47 : decode b_Rows_window 47 = .ok (.ireturn, 1) := by decide +kernel
theorem d_Job_init_0 : decode b_Job_init 0 = .ok (.aload_n 0, 1) := by decide +kernel
theorem d_Job_init_1 : decode b_Job_init 1 = .ok (.invokespecial 3, 3) := by decide +kernel
theorem d_Job_init_4 : decode b_Job_init 4 = .ok (.aload_n 0, 1) := by decide +kernel
theorem d_Job_init_5 : decode b_Job_init 5 = .ok (.iload_n 1, 1) := by decide +kernel
theorem d_Job_init_6 : decode b_Job_init 6 = .ok (.putfield 9, 3) := by decide +kernel
theorem d_Job_init_9 : decode b_Job_init 9 = .ok (.aload_n 0, 1) := by decide +kernel
theorem d_Job_init_10 : decode b_Job_init 10 = .ok (.iload_n 2, 1) := by decide +kernel
theorem d_Job_init_11 : decode b_Job_init 11 = .ok (.putfield 15, 3) := by decide +kernel
theorem d_Job_init_14 : decode b_Job_init 14 = .ok (.aload_n 0, 1) := by decide +kernel
theorem d_Job_init_15 : decode b_Job_init 15 = .ok (.iload_n 3, 1) := by decide +kernel
theorem d_Job_init_16 : decode b_Job_init 16 = .ok (.putfield 18, 3) := by decide +kernel
theorem d_Job_init_19 : decode b_Job_init 19 = .ok (.aload_n 0, 1) := by decide +kernel
theorem d_Job_init_20 : decode b_Job_init 20 = .ok (.iload 4, 2) := by decide +kernel
theorem d_Job_init_22 : decode b_Job_init 22 = .ok (.putfield 21, 3) := by decide +kernel
theorem d_Job_init_25 : decode b_Job_init 25 = .ok (.aload_n 0, 1) := by decide +kernel
theorem d_Job_init_26 : decode b_Job_init 26 = .ok (.lload 5, 2) := by decide +kernel
theorem d_Job_init_28 : decode b_Job_init 28 = .ok (.putfield 24, 3) := by decide +kernel
theorem d_Job_init_31 : decode b_Job_init 31 = .ok (.aload_n 0, 1) := by decide +kernel
theorem d_Job_init_32 : decode b_Job_init 32 = .ok (.iconst 4, 1) := by decide +kernel
theorem d_Job_init_33 : decode b_Job_init 33 = .ok (.newarray .int, 2) := by decide +kernel
theorem d_Job_init_35 : decode b_Job_init 35 = .ok (.putfield 28, 3) := by decide +kernel
theorem d_Job_init_38 : decode b_Job_init 38 = .ok (.aload_n 0, 1) := by decide +kernel
theorem d_Job_init_39 : decode b_Job_init 39 = .ok (.new 32, 3) := by decide +kernel
theorem d_Job_init_42 : decode b_Job_init 42 = .ok (.dup, 1) := by decide +kernel
theorem d_Job_init_43 : decode b_Job_init 43 = .ok (.invokespecial 34, 3) := by decide +kernel
theorem d_Job_init_46 : decode b_Job_init 46 = .ok (.putfield 35, 3) := by decide +kernel
theorem d_Job_init_49 : decode b_Job_init 49 = .ok (.aload_n 0, 1) := by decide +kernel
theorem d_Job_init_50 : decode b_Job_init 50 = .ok (.iconst 0, 1) := by decide +kernel
theorem d_Job_init_51 : decode b_Job_init 51 = .ok (.putfield 39, 3) := by decide +kernel
theorem d_Job_init_54 : decode b_Job_init 54 = .ok (.aload_n 0, 1) := by decide +kernel
theorem d_Job_init_55 : decode b_Job_init 55 = .ok (.iconst 0, 1) := by decide +kernel
theorem d_Job_init_56 : decode b_Job_init 56 = .ok (.putfield 43, 3) := by decide +kernel
theorem d_Job_init_59 : decode b_Job_init 59 = .ok (.aload_n 0, 1) := by decide +kernel
theorem d_Job_init_60 : decode b_Job_init 60 = .ok (.lload 5, 2) := by decide +kernel
theorem d_Job_init_62 : decode b_Job_init 62 = .ok (.putfield 46, 3) := by decide +kernel
theorem d_Job_init_65 : decode b_Job_init 65 = .ok (.return_, 1) := by decide +kernel
theorem d_Rows_job_0 : decode b_Rows_job 0 = .ok (.iload_n 1, 1) := by decide +kernel
theorem d_Rows_job_1 : decode b_Rows_job 1 = .ok (.invokestatic 79, 3) := by decide +kernel
theorem d_Rows_job_4 : decode b_Rows_job 4 = .ok (.ifCond .eq 33, 3) := by decide +kernel
theorem d_Rows_job_7 : decode b_Rows_job 7 = .ok (.iload_n 2, 1) := by decide +kernel
theorem d_Rows_job_8 : decode b_Rows_job 8 = .ok (.iconst 0, 1) := by decide +kernel
theorem d_Rows_job_9 : decode b_Rows_job 9 = .ok (.bipush 15, 2) := by decide +kernel
theorem d_Rows_job_11 : decode b_Rows_job 11 = .ok (.invokestatic 75, 3) := by decide +kernel
theorem d_Rows_job_14 : decode b_Rows_job 14 = .ok (.ifCond .eq 23, 3) := by decide +kernel
theorem d_Rows_job_17 : decode b_Rows_job 17 = .ok (.iload_n 3, 1) := by decide +kernel
theorem d_Rows_job_18 : decode b_Rows_job 18 = .ok (.iconst 0, 1) := by decide +kernel
theorem d_Rows_job_19 : decode b_Rows_job 19 = .ok (.bipush 99, 2) := by decide +kernel
theorem d_Rows_job_21 : decode b_Rows_job 21 = .ok (.invokestatic 75, 3) := by decide +kernel
theorem d_Rows_job_24 : decode b_Rows_job 24 = .ok (.ifCond .eq 13, 3) := by decide +kernel
theorem d_Rows_job_27 : decode b_Rows_job 27 = .ok (.lload 4, 2) := by decide +kernel
theorem d_Rows_job_29 : decode b_Rows_job 29 = .ok (.aload_n 0, 1) := by decide +kernel
theorem d_Rows_job_30 : decode b_Rows_job 30 = .ok (.getfield 49, 3) := by decide +kernel
theorem d_Rows_job_33 : decode b_Rows_job 33 = .ok (.lcmp, 1) := by decide +kernel
theorem d_Rows_job_34 : decode b_Rows_job 34 = .ok (.ifCond .ge 6, 3) := by decide +kernel
theorem d_Rows_job_37 : decode b_Rows_job 37 = .ok (.bipush (-4), 2) := by decide +kernel
theorem d_Rows_job_39 : decode b_Rows_job 39 = .ok (.ireturn, 1) := by decide +kernel
theorem d_Rows_job_40 : decode b_Rows_job 40 = .ok (.aload_n 0, 1) := by decide +kernel
theorem d_Rows_job_41 : decode b_Rows_job 41 = .ok (.getfield 16, 3) := by decide +kernel
theorem d_Rows_job_44 : decode b_Rows_job 44 = .ok (.invokevirtual 60, 3) := by decide +kernel
theorem d_Rows_job_47 : decode b_Rows_job 47 = .ok (.bipush 100, 2) := by decide +kernel
theorem d_Rows_job_49 : decode b_Rows_job 49 = .ok (.if_icmp .lt 5, 3) := by decide +kernel
theorem d_Rows_job_52 : decode b_Rows_job 52 = .ok (.iconst (-1), 1) := by decide +kernel
theorem d_Rows_job_53 : decode b_Rows_job 53 = .ok (.ireturn, 1) := by decide +kernel
theorem d_Rows_job_54 : decode b_Rows_job 54 = .ok (.aload_n 0, 1) := by decide +kernel
theorem d_Rows_job_55 : decode b_Rows_job 55 = .ok (.lload 4, 2) := by decide +kernel
theorem d_Rows_job_57 : decode b_Rows_job 57 = .ok (.putfield 49, 3) := by decide +kernel
theorem d_Rows_job_60 : decode b_Rows_job 60 = .ok (.aload_n 0, 1) := by decide +kernel
theorem d_Rows_job_61 : decode b_Rows_job 61 = .ok (.getfield 16, 3) := by decide +kernel
theorem d_Rows_job_64 : decode b_Rows_job 64 = .ok (.invokevirtual 60, 3) := by decide +kernel
theorem d_Rows_job_67 : decode b_Rows_job 67 = .ok (.iconst 1, 1) := by decide +kernel
theorem d_Rows_job_68 : decode b_Rows_job 68 = .ok (.iadd, 1) := by decide +kernel
theorem d_Rows_job_69 : decode b_Rows_job 69 = .ok (.istore 6, 2) := by decide +kernel
theorem d_Rows_job_71 : decode b_Rows_job 71 = .ok (.aload_n 0, 1) := by decide +kernel
theorem d_Rows_job_72 : decode b_Rows_job 72 = .ok (.getfield 16, 3) := by decide +kernel
theorem d_Rows_job_75 : decode b_Rows_job 75 = .ok (.new 86, 3) := by decide +kernel
theorem d_Rows_job_78 : decode b_Rows_job 78 = .ok (.dup, 1) := by decide +kernel
theorem d_Rows_job_79 : decode b_Rows_job 79 = .ok (.iload 6, 2) := by decide +kernel
theorem d_Rows_job_81 : decode b_Rows_job 81 = .ok (.iload_n 1, 1) := by decide +kernel
theorem d_Rows_job_82 : decode b_Rows_job 82 = .ok (.iload_n 2, 1) := by decide +kernel
theorem d_Rows_job_83 : decode b_Rows_job 83 = .ok (.iload_n 3, 1) := by decide +kernel
theorem d_Rows_job_84 : decode b_Rows_job 84 = .ok (.lload 4, 2) := by decide +kernel
theorem d_Rows_job_86 : decode b_Rows_job 86 = .ok (.invokespecial 88, 3) := by decide +kernel
theorem d_Rows_job_89 : decode b_Rows_job 89 = .ok (.invokevirtual 67, 3) := by decide +kernel
theorem d_Rows_job_92 : decode b_Rows_job 92 = .ok (.pop, 1) := by decide +kernel
theorem d_Rows_job_93 : decode b_Rows_job 93 = .ok (.iload 6, 2) := by decide +kernel
theorem d_Rows_job_95 : decode b_Rows_job 95 = .ok (.ireturn, 1) := by decide +kernel
theorem d_Rows_findJob_0 : decode b_Rows_findJob 0 = .ok (.iload_n 1, 1) := by decide +kernel
theorem d_Rows_findJob_1 : decode b_Rows_findJob 1 = .ok (.iconst 1, 1) := by decide +kernel
theorem d_Rows_findJob_2 : decode b_Rows_findJob 2 = .ok (.aload_n 0, 1) := by decide +kernel
theorem d_Rows_findJob_3 : decode b_Rows_findJob 3 = .ok (.getfield 16, 3) := by decide +kernel
theorem d_Rows_findJob_6 : decode b_Rows_findJob 6 = .ok (.invokevirtual 60, 3) := by decide +kernel
theorem d_Rows_findJob_9 : decode b_Rows_findJob 9 = .ok (.invokestatic 75, 3) := by decide +kernel
theorem d_Rows_findJob_12 : decode b_Rows_findJob 12 = .ok (.ifCond .eq 19, 3) := by decide +kernel
theorem d_Rows_findJob_15 : decode b_Rows_findJob 15 = .ok (.aload_n 0, 1) := by decide +kernel
theorem d_Rows_findJob_16 : decode b_Rows_findJob 16 = .ok (.getfield 16, 3) := by decide +kernel
theorem d_Rows_findJob_19 : decode b_Rows_findJob 19 = .ok (.iload_n 1, 1) := by decide +kernel
theorem d_Rows_findJob_20 : decode b_Rows_findJob 20 = .ok (.iconst 1, 1) := by decide +kernel
theorem d_Rows_findJob_21 : decode b_Rows_findJob 21 = .ok (.isub, 1) := by decide +kernel
theorem d_Rows_findJob_22 : decode b_Rows_findJob 22 = .ok (.invokevirtual 156, 3) := by decide +kernel
theorem d_Rows_findJob_25 : decode b_Rows_findJob 25 = .ok (.checkcast 86, 3) := by decide +kernel
theorem d_Rows_findJob_28 : decode b_Rows_findJob 28 = .ok (.goto 4, 3) := by decide +kernel
theorem d_Rows_findJob_31 : decode b_Rows_findJob 31 = .ok (.aconst_null, 1) := by decide +kernel
theorem d_Rows_findJob_32 : decode b_Rows_findJob 32 = .ok (.areturn, 1) := by decide +kernel
theorem d_Job_isWaiting_0 : decode b_Job_isWaiting 0 = .ok (.aload_n 0, 1) := by decide +kernel
theorem d_Job_isWaiting_1 : decode b_Job_isWaiting 1 = .ok (.getfield 43, 3) := by decide +kernel
theorem d_Job_isWaiting_4 : decode b_Job_isWaiting 4 = .ok (.ifCond .eq 11, 3) := by decide +kernel
theorem d_Job_isWaiting_7 : decode b_Job_isWaiting 7 = .ok (.aload_n 0, 1) := by decide +kernel
theorem d_Job_isWaiting_8 : decode b_Job_isWaiting 8 = .ok (.getfield 43, 3) := by decide +kernel
theorem d_Job_isWaiting_11 : decode b_Job_isWaiting 11 = .ok (.iconst 1, 1) := by decide +kernel
theorem d_Job_isWaiting_12 : decode b_Job_isWaiting 12 = .ok (.if_icmp .ne 7, 3) := by decide +kernel
theorem d_Job_isWaiting_15 : decode b_Job_isWaiting 15 = .ok (.iconst 1, 1) := by decide +kernel
theorem d_Job_isWaiting_16 : decode b_Job_isWaiting 16 = .ok (.goto 4, 3) := by decide +kernel
theorem d_Job_isWaiting_19 : decode b_Job_isWaiting 19 = .ok (.iconst 0, 1) := by decide +kernel
theorem d_Job_isWaiting_20 : decode b_Job_isWaiting 20 = .ok (.ireturn, 1) := by decide +kernel
theorem d_NS_has_0 : decode b_NS_has 0 = .ok (.iload_n 1, 1) := by decide +kernel
theorem d_NS_has_1 : decode b_NS_has 1 = .ok (.bipush 64, 2) := by decide +kernel
theorem d_NS_has_3 : decode b_NS_has 3 = .ok (.if_icmp .ge 14, 3) := by decide +kernel
theorem d_NS_has_6 : decode b_NS_has 6 = .ok (.aload_n 0, 1) := by decide +kernel
theorem d_NS_has_7 : decode b_NS_has 7 = .ok (.getfield 7, 3) := by decide +kernel
theorem d_NS_has_10 : decode b_NS_has 10 = .ok (.lconst 1, 1) := by decide +kernel
theorem d_NS_has_11 : decode b_NS_has 11 = .ok (.iload_n 1, 1) := by decide +kernel
theorem d_NS_has_12 : decode b_NS_has 12 = .ok (.lshl, 1) := by decide +kernel
theorem d_NS_has_13 : decode b_NS_has 13 = .ok (.land, 1) := by decide +kernel
theorem d_NS_has_14 : decode b_NS_has 14 = .ok (.goto 14, 3) := by decide +kernel
theorem d_NS_has_17 : decode b_NS_has 17 = .ok (.aload_n 0, 1) := by decide +kernel
theorem d_NS_has_18 : decode b_NS_has 18 = .ok (.getfield 13, 3) := by decide +kernel
theorem d_NS_has_21 : decode b_NS_has 21 = .ok (.lconst 1, 1) := by decide +kernel
theorem d_NS_has_22 : decode b_NS_has 22 = .ok (.iload_n 1, 1) := by decide +kernel
theorem d_NS_has_23 : decode b_NS_has 23 = .ok (.bipush 64, 2) := by decide +kernel
theorem d_NS_has_25 : decode b_NS_has 25 = .ok (.isub, 1) := by decide +kernel
theorem d_NS_has_26 : decode b_NS_has 26 = .ok (.lshl, 1) := by decide +kernel
theorem d_NS_has_27 : decode b_NS_has 27 = .ok (.land, 1) := by decide +kernel
theorem d_NS_has_28 : decode b_NS_has 28 = .ok (.lstore_n 2, 1) := by decide +kernel
theorem d_NS_has_29 : decode b_NS_has 29 = .ok (.lload_n 2, 1) := by decide +kernel
theorem d_NS_has_30 : decode b_NS_has 30 = .ok (.lconst 0, 1) := by decide +kernel
theorem d_NS_has_31 : decode b_NS_has 31 = .ok (.lcmp, 1) := by decide +kernel
theorem d_NS_has_32 : decode b_NS_has 32 = .ok (.ifCond .eq 7, 3) := by decide +kernel
theorem d_NS_has_35 : decode b_NS_has 35 = .ok (.iconst 1, 1) := by decide +kernel
theorem d_NS_has_36 : decode b_NS_has 36 = .ok (.goto 4, 3) := by decide +kernel
theorem d_NS_has_39 : decode b_NS_has 39 = .ok (.iconst 0, 1) := by decide +kernel
theorem d_NS_has_40 : decode b_NS_has 40 = .ok (.ireturn, 1) := by decide +kernel
theorem d_NS_put_0 : decode b_NS_put 0 = .ok (.iload_n 1, 1) := by decide +kernel
theorem d_NS_put_1 : decode b_NS_put 1 = .ok (.bipush 64, 2) := by decide +kernel
theorem d_NS_put_3 : decode b_NS_put 3 = .ok (.if_icmp .ge 18, 3) := by decide +kernel
theorem d_NS_put_6 : decode b_NS_put 6 = .ok (.aload_n 0, 1) := by decide +kernel
theorem d_NS_put_7 : decode b_NS_put 7 = .ok (.dup, 1) := by decide +kernel
theorem d_NS_put_8 : decode b_NS_put 8 = .ok (.getfield 7, 3) := by decide +kernel
theorem d_NS_put_11 : decode b_NS_put 11 = .ok (.lconst 1, 1) := by decide +kernel
theorem d_NS_put_12 : decode b_NS_put 12 = .ok (.iload_n 1, 1) := by decide +kernel
theorem d_NS_put_13 : decode b_NS_put 13 = .ok (.lshl, 1) := by decide +kernel
theorem d_NS_put_14 : decode b_NS_put 14 = .ok (.lor, 1) := by decide +kernel
theorem d_NS_put_15 : decode b_NS_put 15 = .ok (.putfield 7, 3) := by decide +kernel
theorem d_NS_put_18 : decode b_NS_put 18 = .ok (.goto 18, 3) := by decide +kernel
theorem d_NS_put_21 : decode b_NS_put 21 = .ok (.aload_n 0, 1) := by decide +kernel
theorem d_NS_put_22 : decode b_NS_put 22 = .ok (.dup, 1) := by decide +kernel
theorem d_NS_put_23 : decode b_NS_put 23 = .ok (.getfield 13, 3) := by decide +kernel
theorem d_NS_put_26 : decode b_NS_put 26 = .ok (.lconst 1, 1) := by decide +kernel
theorem d_NS_put_27 : decode b_NS_put 27 = .ok (.iload_n 1, 1) := by decide +kernel
theorem d_NS_put_28 : decode b_NS_put 28 = .ok (.bipush 64, 2) := by decide +kernel
theorem d_NS_put_30 : decode b_NS_put 30 = .ok (.isub, 1) := by decide +kernel
theorem d_NS_put_31 : decode b_NS_put 31 = .ok (.lshl, 1) := by decide +kernel
theorem d_NS_put_32 : decode b_NS_put 32 = .ok (.lor, 1) := by decide +kernel
theorem d_NS_put_33 : decode b_NS_put 33 = .ok (.putfield 13, 3) := by decide +kernel
theorem d_NS_put_36 : decode b_NS_put 36 = .ok (.return_, 1) := by decide +kernel
theorem d_NS_putAll_0 : decode b_NS_putAll 0 = .ok (.aload_n 0, 1) := by decide +kernel
theorem d_NS_putAll_1 : decode b_NS_putAll 1 = .ok (.dup, 1) := by decide +kernel
theorem d_NS_putAll_2 : decode b_NS_putAll 2 = .ok (.getfield 7, 3) := by decide +kernel
theorem d_NS_putAll_5 : decode b_NS_putAll 5 = .ok (.aload_n 1, 1) := by decide +kernel
theorem d_NS_putAll_6 : decode b_NS_putAll 6 = .ok (.getfield 7, 3) := by decide +kernel
theorem d_NS_putAll_9 : decode b_NS_putAll 9 = .ok (.lor, 1) := by decide +kernel
theorem d_NS_putAll_10 : decode b_NS_putAll 10 = .ok (.putfield 7, 3) := by decide +kernel
theorem d_NS_putAll_13 : decode b_NS_putAll 13 = .ok (.aload_n 0, 1) := by decide +kernel
theorem d_NS_putAll_14 : decode b_NS_putAll 14 = .ok (.dup, 1) := by decide +kernel
theorem d_NS_putAll_15 : decode b_NS_putAll 15 = .ok (.getfield 13, 3) := by decide +kernel
theorem d_NS_putAll_18 : decode b_NS_putAll 18 = .ok (.aload_n 1, 1) := by decide +kernel
theorem d_NS_putAll_19 : decode b_NS_putAll 19 = .ok (.getfield 13, 3) := by decide +kernel
theorem d_NS_putAll_22 : decode b_NS_putAll 22 = .ok (.lor, 1) := by decide +kernel
theorem d_NS_putAll_23 : decode b_NS_putAll 23 = .ok (.putfield 13, 3) := by decide +kernel
theorem d_NS_putAll_26 : decode b_NS_putAll 26 = .ok (.return_, 1) := by decide +kernel
theorem d_Rows_addNeed_0 : decode b_Rows_addNeed 0 = .ok (.iconst 0, 1) := by decide +kernel
theorem d_Rows_addNeed_1 : decode b_Rows_addNeed 1 = .ok (.istore_n 3, 1) := by decide +kernel
theorem d_Rows_addNeed_2 : decode b_Rows_addNeed 2 = .ok (.iload_n 3, 1) := by decide +kernel
theorem d_Rows_addNeed_3 : decode b_Rows_addNeed 3 = .ok (.aload_n 0, 1) := by decide +kernel
theorem d_Rows_addNeed_4 : decode b_Rows_addNeed 4 = .ok (.getfield 16, 3) := by decide +kernel
theorem d_Rows_addNeed_7 : decode b_Rows_addNeed 7 = .ok (.invokevirtual 60, 3) := by decide +kernel
theorem d_Rows_addNeed_10 : decode b_Rows_addNeed 10 = .ok (.if_icmp .ge 67, 3) := by decide +kernel
theorem d_Rows_addNeed_13 : decode b_Rows_addNeed 13 = .ok (.aload_n 0, 1) := by decide +kernel
theorem d_Rows_addNeed_14 : decode b_Rows_addNeed 14 = .ok (.getfield 16, 3) := by decide +kernel
theorem d_Rows_addNeed_17 : decode b_Rows_addNeed 17 = .ok (.iload_n 3, 1) := by decide +kernel
theorem d_Rows_addNeed_18 : decode b_Rows_addNeed 18 = .ok (.invokevirtual 156, 3) := by decide +kernel
theorem d_Rows_addNeed_21 : decode b_Rows_addNeed 21 = .ok (.checkcast 86, 3) := by decide +kernel
theorem d_Rows_addNeed_24 : decode b_Rows_addNeed 24 = .ok (.astore 4, 2) := by decide +kernel
theorem d_Rows_addNeed_26 : decode b_Rows_addNeed 26 = .ok (.aload 4, 2) := by decide +kernel
theorem d_Rows_addNeed_28 : decode b_Rows_addNeed 28 = .ok (.aload_n 1, 1) := by decide +kernel
theorem d_Rows_addNeed_29 : decode b_Rows_addNeed 29 = .ok (.if_acmp .eq 18, 3) := by decide +kernel
theorem d_Rows_addNeed_32 : decode b_Rows_addNeed 32 = .ok (.aload 4, 2) := by decide +kernel
theorem d_Rows_addNeed_34 : decode b_Rows_addNeed 34 = .ok (.getfield 99, 3) := by decide +kernel
theorem d_Rows_addNeed_37 : decode b_Rows_addNeed 37 = .ok (.aload_n 1, 1) := by decide +kernel
theorem d_Rows_addNeed_38 : decode b_Rows_addNeed 38 = .ok (.getfield 136, 3) := by decide +kernel
theorem d_Rows_addNeed_41 : decode b_Rows_addNeed 41 = .ok (.invokevirtual 102, 3) := by decide +kernel
theorem d_Rows_addNeed_44 : decode b_Rows_addNeed 44 = .ok (.ifCond .eq 27, 3) := by decide +kernel
theorem d_Rows_addNeed_47 : decode b_Rows_addNeed 47 = .ok (.aload 4, 2) := by decide +kernel
theorem d_Rows_addNeed_49 : decode b_Rows_addNeed 49 = .ok (.getfield 99, 3) := by decide +kernel
theorem d_Rows_addNeed_52 : decode b_Rows_addNeed 52 = .ok (.aload_n 2, 1) := by decide +kernel
theorem d_Rows_addNeed_53 : decode b_Rows_addNeed 53 = .ok (.getfield 136, 3) := by decide +kernel
theorem d_Rows_addNeed_56 : decode b_Rows_addNeed 56 = .ok (.invokevirtual 183, 3) := by decide +kernel
theorem d_Rows_addNeed_59 : decode b_Rows_addNeed 59 = .ok (.aload 4, 2) := by decide +kernel
theorem d_Rows_addNeed_61 : decode b_Rows_addNeed 61 = .ok (.getfield 99, 3) := by decide +kernel
theorem d_Rows_addNeed_64 : decode b_Rows_addNeed 64 = .ok (.aload_n 2, 1) := by decide +kernel
theorem d_Rows_addNeed_65 : decode b_Rows_addNeed 65 = .ok (.getfield 99, 3) := by decide +kernel
theorem d_Rows_addNeed_68 : decode b_Rows_addNeed 68 = .ok (.invokevirtual 187, 3) := by decide +kernel
theorem d_Rows_addNeed_71 : decode b_Rows_addNeed 71 = .ok (.iinc 3 1, 3) := by decide +kernel
theorem d_Rows_addNeed_74 : decode b_Rows_addNeed 74 = .ok (.goto (-72), 3) := by decide +kernel
theorem d_Rows_addNeed_77 : decode b_Rows_addNeed 77 = .ok (.return_, 1) := by decide +kernel
theorem d_Rows_needs_0 : decode b_Rows_needs 0 = .ok (.aload_n 0, 1) := by decide +kernel
theorem d_Rows_needs_1 : decode b_Rows_needs 1 = .ok (.iload_n 1, 1) := by decide +kernel
theorem d_Rows_needs_2 : decode b_Rows_needs 2 = .ok (.invokevirtual 91, 3) := by decide +kernel
theorem d_Rows_needs_5 : decode b_Rows_needs 5 = .ok (.astore_n 3, 1) := by decide +kernel
theorem d_Rows_needs_6 : decode b_Rows_needs 6 = .ok (.aload_n 0, 1) := by decide +kernel
theorem d_Rows_needs_7 : decode b_Rows_needs 7 = .ok (.iload_n 2, 1) := by decide +kernel
theorem d_Rows_needs_8 : decode b_Rows_needs 8 = .ok (.invokevirtual 91, 3) := by decide +kernel
theorem d_Rows_needs_11 : decode b_Rows_needs 11 = .ok (.astore 4, 2) := by decide +kernel
theorem d_Rows_needs_13 : decode b_Rows_needs 13 = .ok (.aload_n 3, 1) := by decide +kernel
theorem d_Rows_needs_14 : decode b_Rows_needs 14 = .ok (.ifnull 8, 3) := by decide +kernel
theorem d_Rows_needs_17 : decode b_Rows_needs 17 = .ok (.aload 4, 2) := by decide +kernel
theorem d_Rows_needs_19 : decode b_Rows_needs 19 = .ok (.ifnonnull 6, 3) := by decide +kernel
theorem d_Rows_needs_22 : decode b_Rows_needs 22 = .ok (.bipush (-2), 2) := by decide +kernel
theorem d_Rows_needs_24 : decode b_Rows_needs 24 = .ok (.ireturn, 1) := by decide +kernel
theorem d_Rows_needs_25 : decode b_Rows_needs 25 = .ok (.aload_n 3, 1) := by decide +kernel
theorem d_Rows_needs_26 : decode b_Rows_needs 26 = .ok (.invokevirtual 95, 3) := by decide +kernel
theorem d_Rows_needs_29 : decode b_Rows_needs 29 = .ok (.ifCond .ne 6, 3) := by decide +kernel
theorem d_Rows_needs_32 : decode b_Rows_needs 32 = .ok (.bipush (-5), 2) := by decide +kernel
theorem d_Rows_needs_34 : decode b_Rows_needs 34 = .ok (.ireturn, 1) := by decide +kernel
theorem d_Rows_needs_35 : decode b_Rows_needs 35 = .ok (.iload_n 1, 1) := by decide +kernel
theorem d_Rows_needs_36 : decode b_Rows_needs 36 = .ok (.iload_n 2, 1) := by decide +kernel
theorem d_Rows_needs_37 : decode b_Rows_needs 37 = .ok (.if_icmp .eq 15, 3) := by decide +kernel
theorem d_Rows_needs_40 : decode b_Rows_needs 40 = .ok (.aload 4, 2) := by decide +kernel
theorem d_Rows_needs_42 : decode b_Rows_needs 42 = .ok (.getfield 99, 3) := by decide +kernel
theorem d_Rows_needs_45 : decode b_Rows_needs 45 = .ok (.iload_n 1, 1) := by decide +kernel
theorem d_Rows_needs_46 : decode b_Rows_needs 46 = .ok (.invokevirtual 102, 3) := by decide +kernel
theorem d_Rows_needs_49 : decode b_Rows_needs 49 = .ok (.ifCond .eq 5, 3) := by decide +kernel
theorem d_Rows_needs_52 : decode b_Rows_needs 52 = .ok (.iconst 0, 1) := by decide +kernel
theorem d_Rows_needs_53 : decode b_Rows_needs 53 = .ok (.ireturn, 1) := by decide +kernel
theorem d_Rows_needs_54 : decode b_Rows_needs 54 = .ok (.aload_n 0, 1) := by decide +kernel
theorem d_Rows_needs_55 : decode b_Rows_needs 55 = .ok (.aload_n 3, 1) := by decide +kernel
theorem d_Rows_needs_56 : decode b_Rows_needs 56 = .ok (.aload 4, 2) := by decide +kernel
theorem d_Rows_needs_58 : decode b_Rows_needs 58 = .ok (.invokevirtual 105, 3) := by decide +kernel
theorem d_Rows_needs_61 : decode b_Rows_needs 61 = .ok (.iconst 1, 1) := by decide +kernel
theorem d_Rows_needs_62 : decode b_Rows_needs 62 = .ok (.ireturn, 1) := by decide +kernel
theorem d_Rows_isKind_0 : decode b_Rows_isKind 0 = .ok (.iload_n 0, 1) := by decide +kernel
theorem d_Rows_isKind_1 : decode b_Rows_isKind 1 = .ok (.iconst 0, 1) := by decide +kernel
theorem d_Rows_isKind_2 : decode b_Rows_isKind 2 = .ok (.iconst 3, 1) := by decide +kernel
theorem d_Rows_isKind_3 : decode b_Rows_isKind 3 = .ok (.invokestatic 75, 3) := by decide +kernel
theorem d_Rows_isKind_6 : decode b_Rows_isKind 6 = .ok (.ireturn, 1) := by decide +kernel
theorem d_Rows_units_0 : decode b_Rows_units 0 = .ok (.iload_n 1, 1) := by decide +kernel
theorem d_Rows_units_1 : decode b_Rows_units 1 = .ok (.invokestatic 109, 3) := by decide +kernel
theorem d_Rows_units_4 : decode b_Rows_units 4 = .ok (.ifCond .eq 14, 3) := by decide +kernel
theorem d_Rows_units_7 : decode b_Rows_units 7 = .ok (.iload_n 2, 1) := by decide +kernel
theorem d_Rows_units_8 : decode b_Rows_units 8 = .ok (.iconst 0, 1) := by decide +kernel
theorem d_Rows_units_9 : decode b_Rows_units 9 = .ok (.sipush 1000, 3) := by decide +kernel
theorem d_Rows_units_12 : decode b_Rows_units 12 = .ok (.invokestatic 75, 3) := by decide +kernel
theorem d_Rows_units_15 : decode b_Rows_units 15 = .ok (.ifCond .ne 6, 3) := by decide +kernel
theorem d_Rows_units_18 : decode b_Rows_units 18 = .ok (.bipush (-4), 2) := by decide +kernel
theorem d_Rows_units_20 : decode b_Rows_units 20 = .ok (.ireturn, 1) := by decide +kernel
theorem d_Rows_units_21 : decode b_Rows_units 21 = .ok (.aload_n 0, 1) := by decide +kernel
theorem d_Rows_units_22 : decode b_Rows_units 22 = .ok (.getfield 32, 3) := by decide +kernel
theorem d_Rows_units_25 : decode b_Rows_units 25 = .ok (.iload_n 1, 1) := by decide +kernel
theorem d_Rows_units_26 : decode b_Rows_units 26 = .ok (.iload_n 2, 1) := by decide +kernel
theorem d_Rows_units_27 : decode b_Rows_units 27 = .ok (.iastore, 1) := by decide +kernel
theorem d_Rows_units_28 : decode b_Rows_units 28 = .ok (.iconst 1, 1) := by decide +kernel
theorem d_Rows_units_29 : decode b_Rows_units 29 = .ok (.ireturn, 1) := by decide +kernel
theorem d_Rows_uses_0 : decode b_Rows_uses 0 = .ok (.aload_n 0, 1) := by decide +kernel
theorem d_Rows_uses_1 : decode b_Rows_uses 1 = .ok (.iload_n 1, 1) := by decide +kernel
theorem d_Rows_uses_2 : decode b_Rows_uses 2 = .ok (.invokevirtual 91, 3) := by decide +kernel
theorem d_Rows_uses_5 : decode b_Rows_uses 5 = .ok (.astore 4, 2) := by decide +kernel
theorem d_Rows_uses_7 : decode b_Rows_uses 7 = .ok (.aload 4, 2) := by decide +kernel
theorem d_Rows_uses_9 : decode b_Rows_uses 9 = .ok (.ifnonnull 6, 3) := by decide +kernel
theorem d_Rows_uses_12 : decode b_Rows_uses 12 = .ok (.bipush (-2), 2) := by decide +kernel
theorem d_Rows_uses_14 : decode b_Rows_uses 14 = .ok (.ireturn, 1) := by decide +kernel
theorem d_Rows_uses_15 : decode b_Rows_uses 15 = .ok (.iload_n 2, 1) := by decide +kernel
theorem d_Rows_uses_16 : decode b_Rows_uses 16 = .ok (.invokestatic 109, 3) := by decide +kernel
theorem d_Rows_uses_19 : decode b_Rows_uses 19 = .ok (.ifCond .eq 14, 3) := by decide +kernel
theorem d_Rows_uses_22 : decode b_Rows_uses 22 = .ok (.iload_n 3, 1) := by decide +kernel
theorem d_Rows_uses_23 : decode b_Rows_uses 23 = .ok (.iconst 0, 1) := by decide +kernel
theorem d_Rows_uses_24 : decode b_Rows_uses 24 = .ok (.sipush 1000, 3) := by decide +kernel
theorem d_Rows_uses_27 : decode b_Rows_uses 27 = .ok (.invokestatic 75, 3) := by decide +kernel
theorem d_Rows_uses_30 : decode b_Rows_uses 30 = .ok (.ifCond .ne 6, 3) := by decide +kernel
theorem d_Rows_uses_33 : decode b_Rows_uses 33 = .ok (.bipush (-4), 2) := by decide +kernel
theorem d_Rows_uses_35 : decode b_Rows_uses 35 = .ok (.ireturn, 1) := by decide +kernel
theorem d_Rows_uses_36 : decode b_Rows_uses 36 = .ok (.aload 4, 2) := by decide +kernel
theorem d_Rows_uses_38 : decode b_Rows_uses 38 = .ok (.invokevirtual 95, 3) := by decide +kernel
theorem d_Rows_uses_41 : decode b_Rows_uses 41 = .ok (.ifCond .ne 6, 3) := by decide +kernel
theorem d_Rows_uses_44 : decode b_Rows_uses 44 = .ok (.bipush (-5), 2) := by decide +kernel
theorem d_Rows_uses_46 : decode b_Rows_uses 46 = .ok (.ireturn, 1) := by decide +kernel
theorem d_Rows_uses_47 : decode b_Rows_uses 47 = .ok (.aload 4, 2) := by decide +kernel
theorem d_Rows_uses_49 : decode b_Rows_uses 49 = .ok (.getfield 112, 3) := by decide +kernel
theorem d_Rows_uses_52 : decode b_Rows_uses 52 = .ok (.iload_n 2, 1) := by decide +kernel
theorem d_Rows_uses_53 : decode b_Rows_uses 53 = .ok (.iload_n 3, 1) := by decide +kernel
theorem d_Rows_uses_54 : decode b_Rows_uses 54 = .ok (.iastore, 1) := by decide +kernel
theorem d_Rows_uses_55 : decode b_Rows_uses 55 = .ok (.iconst 1, 1) := by decide +kernel
theorem d_Rows_uses_56 : decode b_Rows_uses 56 = .ok (.ireturn, 1) := by decide +kernel
theorem d_Rows_alone_0 : decode b_Rows_alone 0 = .ok (.aload_n 0, 1) := by decide +kernel
theorem d_Rows_alone_1 : decode b_Rows_alone 1 = .ok (.iload_n 1, 1) := by decide +kernel
theorem d_Rows_alone_2 : decode b_Rows_alone 2 = .ok (.invokevirtual 91, 3) := by decide +kernel
theorem d_Rows_alone_5 : decode b_Rows_alone 5 = .ok (.astore_n 2, 1) := by decide +kernel
theorem d_Rows_alone_6 : decode b_Rows_alone 6 = .ok (.aload_n 2, 1) := by decide +kernel
theorem d_Rows_alone_7 : decode b_Rows_alone 7 = .ok (.ifnonnull 6, 3) := by decide +kernel
theorem d_Rows_alone_10 : decode b_Rows_alone 10 = .ok (.bipush (-2), 2) := by decide +kernel
theorem d_Rows_alone_12 : decode b_Rows_alone 12 = .ok (.ireturn, 1) := by decide +kernel
theorem d_Rows_alone_13 : decode b_Rows_alone 13 = .ok (.aload_n 2, 1) := by decide +kernel
theorem d_Rows_alone_14 : decode b_Rows_alone 14 = .ok (.invokevirtual 95, 3) := by decide +kernel
theorem d_Rows_alone_17 : decode b_Rows_alone 17 = .ok (.ifCond .ne 6, 3) := by decide +kernel
theorem d_Rows_alone_20 : decode b_Rows_alone 20 = .ok (.bipush (-5), 2) := by decide +kernel
theorem d_Rows_alone_22 : decode b_Rows_alone 22 = .ok (.ireturn, 1) := by decide +kernel
theorem d_Rows_alone_23 : decode b_Rows_alone 23 = .ok (.aload_n 2, 1) := by decide +kernel
theorem d_Rows_alone_24 : decode b_Rows_alone 24 = .ok (.iconst 1, 1) := by decide +kernel
theorem d_Rows_alone_25 : decode b_Rows_alone 25 = .ok (.putfield 115, 3) := by decide +kernel
theorem d_Rows_alone_28 : decode b_Rows_alone 28 = .ok (.iconst 1, 1) := by decide +kernel
theorem d_Rows_alone_29 : decode b_Rows_alone 29 = .ok (.ireturn, 1) := by decide +kernel
theorem d_Rows_hold_0 : decode b_Rows_hold 0 = .ok (.aload_n 0, 1) := by decide +kernel
theorem d_Rows_hold_1 : decode b_Rows_hold 1 = .ok (.iload_n 1, 1) := by decide +kernel
theorem d_Rows_hold_2 : decode b_Rows_hold 2 = .ok (.invokevirtual 91, 3) := by decide +kernel
theorem d_Rows_hold_5 : decode b_Rows_hold 5 = .ok (.astore_n 3, 1) := by decide +kernel
theorem d_Rows_hold_6 : decode b_Rows_hold 6 = .ok (.aload_n 3, 1) := by decide +kernel
theorem d_Rows_hold_7 : decode b_Rows_hold 7 = .ok (.ifnonnull 6, 3) := by decide +kernel
theorem d_Rows_hold_10 : decode b_Rows_hold 10 = .ok (.bipush (-2), 2) := by decide +kernel
theorem d_Rows_hold_12 : decode b_Rows_hold 12 = .ok (.ireturn, 1) := by decide +kernel
theorem d_Rows_hold_13 : decode b_Rows_hold 13 = .ok (.aload_n 3, 1) := by decide +kernel
theorem d_Rows_hold_14 : decode b_Rows_hold 14 = .ok (.invokevirtual 95, 3) := by decide +kernel
theorem d_Rows_hold_17 : decode b_Rows_hold 17 = .ok (.ifCond .ne 6, 3) := by decide +kernel
theorem d_Rows_hold_20 : decode b_Rows_hold 20 = .ok (.bipush (-5), 2) := by decide +kernel
theorem d_Rows_hold_22 : decode b_Rows_hold 22 = .ok (.ireturn, 1) := by decide +kernel
theorem d_Rows_hold_23 : decode b_Rows_hold 23 = .ok (.iload_n 2, 1) := by decide +kernel
theorem d_Rows_hold_24 : decode b_Rows_hold 24 = .ok (.ifCond .eq 7, 3) := by decide +kernel
theorem d_Rows_hold_27 : decode b_Rows_hold 27 = .ok (.iconst 1, 1) := by decide +kernel
theorem d_Rows_hold_28 : decode b_Rows_hold 28 = .ok (.goto 4, 3) := by decide +kernel
theorem d_Rows_hold_31 : decode b_Rows_hold 31 = .ok (.iconst 0, 1) := by decide +kernel
theorem d_Rows_hold_32 : decode b_Rows_hold 32 = .ok (.istore 4, 2) := by decide +kernel
theorem d_Rows_hold_34 : decode b_Rows_hold 34 = .ok (.aload_n 3, 1) := by decide +kernel
theorem d_Rows_hold_35 : decode b_Rows_hold 35 = .ok (.getfield 119, 3) := by decide +kernel
theorem d_Rows_hold_38 : decode b_Rows_hold 38 = .ok (.iload 4, 2) := by decide +kernel
theorem d_Rows_hold_40 : decode b_Rows_hold 40 = .ok (.if_icmp .ne 5, 3) := by decide +kernel
theorem d_Rows_hold_43 : decode b_Rows_hold 43 = .ok (.iconst 0, 1) := by decide +kernel
theorem d_Rows_hold_44 : decode b_Rows_hold 44 = .ok (.ireturn, 1) := by decide +kernel
theorem d_Rows_hold_45 : decode b_Rows_hold 45 = .ok (.aload_n 3, 1) := by decide +kernel
theorem d_Rows_hold_46 : decode b_Rows_hold 46 = .ok (.iload 4, 2) := by decide +kernel
theorem d_Rows_hold_48 : decode b_Rows_hold 48 = .ok (.putfield 119, 3) := by decide +kernel
theorem d_Rows_hold_51 : decode b_Rows_hold 51 = .ok (.iconst 1, 1) := by decide +kernel
theorem d_Rows_hold_52 : decode b_Rows_hold 52 = .ok (.ireturn, 1) := by decide +kernel
theorem d_Rows_isWindowOpen_0 : decode b_Rows_isWindowOpen 0 = .ok (.aload_n 0, 1) := by decide +kernel
theorem d_Rows_isWindowOpen_1 : decode b_Rows_isWindowOpen 1 = .ok (.getfield 49, 3) := by decide +kernel
theorem d_Rows_isWindowOpen_4 : decode b_Rows_isWindowOpen 4 = .ok (.ldc2_w 223, 3) := by decide +kernel
theorem d_Rows_isWindowOpen_7 : decode b_Rows_isWindowOpen 7 = .ok (.lrem, 1) := by decide +kernel
theorem d_Rows_isWindowOpen_8 : decode b_Rows_isWindowOpen 8 = .ok (.l2i, 1) := by decide +kernel
theorem d_Rows_isWindowOpen_9 : decode b_Rows_isWindowOpen 9 = .ok (.istore_n 2, 1) := by decide +kernel
theorem d_Rows_isWindowOpen_10 : decode b_Rows_isWindowOpen 10 = .ok (.aload_n 0, 1) := by decide +kernel
theorem d_Rows_isWindowOpen_11 : decode b_Rows_isWindowOpen 11 = .ok (.getfield 23, 3) := by decide +kernel
theorem d_Rows_isWindowOpen_14 : decode b_Rows_isWindowOpen 14 = .ok (.iload_n 1, 1) := by decide +kernel
theorem d_Rows_isWindowOpen_15 : decode b_Rows_isWindowOpen 15 = .ok (.iaload, 1) := by decide +kernel
theorem d_Rows_isWindowOpen_16 : decode b_Rows_isWindowOpen 16 = .ok (.istore_n 3, 1) := by decide +kernel
theorem d_Rows_isWindowOpen_17 : decode b_Rows_isWindowOpen 17 = .ok (.aload_n 0, 1) := by decide +kernel
theorem d_Rows_isWindowOpen_18 : decode b_Rows_isWindowOpen 18 = .ok (.getfield 26, 3) := by decide +kernel
theorem d_Rows_isWindowOpen_21 : decode b_Rows_isWindowOpen 21 = .ok (.iload_n 1, 1) := by decide +kernel
theorem d_Rows_isWindowOpen_22 : decode b_Rows_isWindowOpen 22 = .ok (.iaload, 1) := by decide +kernel
theorem d_Rows_isWindowOpen_23 : decode b_Rows_isWindowOpen 23 = .ok (.istore 4, 2) := by decide +kernel
theorem d_Rows_isWindowOpen_25 : decode b_Rows_isWindowOpen 25 = .ok (.iload_n 3, 1) := by decide +kernel
theorem d_Rows_isWindowOpen_26 : decode b_Rows_isWindowOpen 26 = .ok (.iload 4, 2) := by decide +kernel
theorem d_Rows_isWindowOpen_28 : decode b_Rows_isWindowOpen 28 = .ok (.if_icmp .ne 5, 3) := by decide +kernel
theorem d_Rows_isWindowOpen_31 : decode b_Rows_isWindowOpen 31 = .ok (.iconst 1, 1) := by decide +kernel
theorem d_Rows_isWindowOpen_32 : decode b_Rows_isWindowOpen 32 = .ok (.ireturn, 1) := by decide +kernel
theorem d_Rows_isWindowOpen_33 : decode b_Rows_isWindowOpen 33 = .ok (.iload_n 3, 1) := by decide +kernel
theorem d_Rows_isWindowOpen_34 : decode b_Rows_isWindowOpen 34 = .ok (.iload 4, 2) := by decide +kernel
theorem d_Rows_isWindowOpen_36 : decode b_Rows_isWindowOpen 36 = .ok (.if_icmp .ge 22, 3) := by decide +kernel
theorem d_Rows_isWindowOpen_39 : decode b_Rows_isWindowOpen 39 = .ok (.iload_n 2, 1) := by decide +kernel
theorem d_Rows_isWindowOpen_40 : decode b_Rows_isWindowOpen 40 = .ok (.iload_n 3, 1) := by decide +kernel
theorem d_Rows_isWindowOpen_41 : decode b_Rows_isWindowOpen 41 = .ok (.if_icmp .lt 13, 3) := by decide +kernel
theorem d_Rows_isWindowOpen_44 : decode b_Rows_isWindowOpen 44 = .ok (.iload_n 2, 1) := by decide +kernel
theorem d_Rows_isWindowOpen_45 : decode b_Rows_isWindowOpen 45 = .ok (.iload 4, 2) := by decide +kernel
theorem d_Rows_isWindowOpen_47 : decode b_Rows_isWindowOpen 47 = .ok (.if_icmp .ge 7, 3) := by decide +kernel
theorem d_Rows_isWindowOpen_50 : decode b_Rows_isWindowOpen 50 = .ok (.iconst 1, 1) := by decide +kernel
theorem d_Rows_isWindowOpen_51 : decode b_Rows_isWindowOpen 51 = .ok (.goto 23, 3) := by decide +kernel
theorem d_Rows_isWindowOpen_54 : decode b_Rows_isWindowOpen 54 = .ok (.iconst 0, 1) := by decide +kernel
theorem d_Rows_isWindowOpen_55 : decode b_Rows_isWindowOpen 55 = .ok (.goto 19, 3) := by decide +kernel
theorem d_Rows_isWindowOpen_58 : decode b_Rows_isWindowOpen 58 = .ok (.iload_n 2, 1) := by decide +kernel
theorem d_Rows_isWindowOpen_59 : decode b_Rows_isWindowOpen 59 = .ok (.iload_n 3, 1) := by decide +kernel
theorem d_Rows_isWindowOpen_60 : decode b_Rows_isWindowOpen 60 = .ok (.if_icmp .ge 9, 3) := by decide +kernel
theorem d_Rows_isWindowOpen_63 : decode b_Rows_isWindowOpen 63 = .ok (.iload_n 2, 1) := by decide +kernel
theorem d_Rows_isWindowOpen_64 : decode b_Rows_isWindowOpen 64 = .ok (.iload 4, 2) := by decide +kernel
theorem d_Rows_isWindowOpen_66 : decode b_Rows_isWindowOpen 66 = .ok (.if_icmp .ge 7, 3) := by decide +kernel
end
section
theorem d_Rows_isWindowOpen_69 : decode b_Rows_isWindowOpen 69 = .ok (.iconst 1, 1) := by decide +kernel
theorem d_Rows_isWindowOpen_70 : decode b_Rows_isWindowOpen 70 = .ok (.goto 4, 3) := by decide +kernel
theorem d_Rows_isWindowOpen_73 : decode b_Rows_isWindowOpen 73 = .ok (.iconst 0, 1) := by decide +kernel
theorem d_Rows_isWindowOpen_74 : decode b_Rows_isWindowOpen 74 = .ok (.ireturn, 1) := by decide +kernel
theorem d_NS_isWithin_0 : decode b_NS_isWithin 0 = .ok (.aload_n 0, 1) := by decide +kernel
theorem d_NS_isWithin_1 : decode b_NS_isWithin 1 = .ok (.getfield 7, 3) := by decide +kernel
theorem d_NS_isWithin_4 : decode b_NS_isWithin 4 = .ok (.aload_n 1, 1) := by decide +kernel
theorem d_NS_isWithin_5 : decode b_NS_isWithin 5 = .ok (.getfield 7, 3) := by decide +kernel
theorem d_NS_isWithin_8 : decode b_NS_isWithin 8 = .ok (.ldc2_w 16, 3) := by decide +kernel
theorem d_NS_isWithin_11 : decode b_NS_isWithin 11 = .ok (.lxor, 1) := by decide +kernel
theorem d_NS_isWithin_12 : decode b_NS_isWithin 12 = .ok (.land, 1) := by decide +kernel
theorem d_NS_isWithin_13 : decode b_NS_isWithin 13 = .ok (.lconst 0, 1) := by decide +kernel
theorem d_NS_isWithin_14 : decode b_NS_isWithin 14 = .ok (.lcmp, 1) := by decide +kernel
theorem d_NS_isWithin_15 : decode b_NS_isWithin 15 = .ok (.ifCond .ne 25, 3) := by decide +kernel
theorem d_NS_isWithin_18 : decode b_NS_isWithin 18 = .ok (.aload_n 0, 1) := by decide +kernel
theorem d_NS_isWithin_19 : decode b_NS_isWithin 19 = .ok (.getfield 13, 3) := by decide +kernel
theorem d_NS_isWithin_22 : decode b_NS_isWithin 22 = .ok (.aload_n 1, 1) := by decide +kernel
theorem d_NS_isWithin_23 : decode b_NS_isWithin 23 = .ok (.getfield 13, 3) := by decide +kernel
theorem d_NS_isWithin_26 : decode b_NS_isWithin 26 = .ok (.ldc2_w 16, 3) := by decide +kernel
theorem d_NS_isWithin_29 : decode b_NS_isWithin 29 = .ok (.lxor, 1) := by decide +kernel
theorem d_NS_isWithin_30 : decode b_NS_isWithin 30 = .ok (.land, 1) := by decide +kernel
theorem d_NS_isWithin_31 : decode b_NS_isWithin 31 = .ok (.lconst 0, 1) := by decide +kernel
theorem d_NS_isWithin_32 : decode b_NS_isWithin 32 = .ok (.lcmp, 1) := by decide +kernel
theorem d_NS_isWithin_33 : decode b_NS_isWithin 33 = .ok (.ifCond .ne 7, 3) := by decide +kernel
theorem d_NS_isWithin_36 : decode b_NS_isWithin 36 = .ok (.iconst 1, 1) := by decide +kernel
theorem d_NS_isWithin_37 : decode b_NS_isWithin 37 = .ok (.goto 4, 3) := by decide +kernel
theorem d_NS_isWithin_40 : decode b_NS_isWithin 40 = .ok (.iconst 0, 1) := by decide +kernel
theorem d_NS_isWithin_41 : decode b_NS_isWithin 41 = .ok (.ireturn, 1) := by decide +kernel
theorem d_Rows_areUnitsEnough_0 : decode b_Rows_areUnitsEnough 0 = .ok (.iconst 0, 1) := by decide +kernel
theorem d_Rows_areUnitsEnough_1 : decode b_Rows_areUnitsEnough 1 = .ok (.istore_n 2, 1) := by decide +kernel
theorem d_Rows_areUnitsEnough_2 : decode b_Rows_areUnitsEnough 2 = .ok (.iload_n 2, 1) := by decide +kernel
theorem d_Rows_areUnitsEnough_3 : decode b_Rows_areUnitsEnough 3 = .ok (.iconst 4, 1) := by decide +kernel
theorem d_Rows_areUnitsEnough_4 : decode b_Rows_areUnitsEnough 4 = .ok (.if_icmp .ge 36, 3) := by decide +kernel
theorem d_Rows_areUnitsEnough_7 : decode b_Rows_areUnitsEnough 7 = .ok (.aload_n 1, 1) := by decide +kernel
theorem d_Rows_areUnitsEnough_8 : decode b_Rows_areUnitsEnough 8 = .ok (.getfield 112, 3) := by decide +kernel
theorem d_Rows_areUnitsEnough_11 : decode b_Rows_areUnitsEnough 11 = .ok (.iload_n 2, 1) := by decide +kernel
theorem d_Rows_areUnitsEnough_12 : decode b_Rows_areUnitsEnough 12 = .ok (.iaload, 1) := by decide +kernel
theorem d_Rows_areUnitsEnough_13 : decode b_Rows_areUnitsEnough 13 = .ok (.aload_n 0, 1) := by decide +kernel
theorem d_Rows_areUnitsEnough_14 : decode b_Rows_areUnitsEnough 14 = .ok (.getfield 38, 3) := by decide +kernel
theorem d_Rows_areUnitsEnough_17 : decode b_Rows_areUnitsEnough 17 = .ok (.getfield 225, 3) := by decide +kernel
theorem d_Rows_areUnitsEnough_20 : decode b_Rows_areUnitsEnough 20 = .ok (.iload_n 2, 1) := by decide +kernel
theorem d_Rows_areUnitsEnough_21 : decode b_Rows_areUnitsEnough 21 = .ok (.iaload, 1) := by decide +kernel
theorem d_Rows_areUnitsEnough_22 : decode b_Rows_areUnitsEnough 22 = .ok (.iadd, 1) := by decide +kernel
theorem d_Rows_areUnitsEnough_23 : decode b_Rows_areUnitsEnough 23 = .ok (.aload_n 0, 1) := by decide +kernel
theorem d_Rows_areUnitsEnough_24 : decode b_Rows_areUnitsEnough 24 = .ok (.getfield 32, 3) := by decide +kernel
theorem d_Rows_areUnitsEnough_27 : decode b_Rows_areUnitsEnough 27 = .ok (.iload_n 2, 1) := by decide +kernel
theorem d_Rows_areUnitsEnough_28 : decode b_Rows_areUnitsEnough 28 = .ok (.iaload, 1) := by decide +kernel
theorem d_Rows_areUnitsEnough_29 : decode b_Rows_areUnitsEnough 29 = .ok (.if_icmp .le 5, 3) := by decide +kernel
theorem d_Rows_areUnitsEnough_32 : decode b_Rows_areUnitsEnough 32 = .ok (.iconst 0, 1) := by decide +kernel
theorem d_Rows_areUnitsEnough_33 : decode b_Rows_areUnitsEnough 33 = .ok (.ireturn, 1) := by decide +kernel
theorem d_Rows_areUnitsEnough_34 : decode b_Rows_areUnitsEnough 34 = .ok (.iinc 2 1, 3) := by decide +kernel
theorem d_Rows_areUnitsEnough_37 : decode b_Rows_areUnitsEnough 37 = .ok (.goto (-35), 3) := by decide +kernel
theorem d_Rows_areUnitsEnough_40 : decode b_Rows_areUnitsEnough 40 = .ok (.iconst 1, 1) := by decide +kernel
theorem d_Rows_areUnitsEnough_41 : decode b_Rows_areUnitsEnough 41 = .ok (.ireturn, 1) := by decide +kernel
theorem d_Rows_mayStart_0 : decode b_Rows_mayStart 0 = .ok (.aload_n 1, 1) := by decide +kernel
theorem d_Rows_mayStart_1 : decode b_Rows_mayStart 1 = .ok (.getfield 119, 3) := by decide +kernel
theorem d_Rows_mayStart_4 : decode b_Rows_mayStart 4 = .ok (.ifCond .ne 108, 3) := by decide +kernel
theorem d_Rows_mayStart_7 : decode b_Rows_mayStart 7 = .ok (.aload_n 0, 1) := by decide +kernel
theorem d_Rows_mayStart_8 : decode b_Rows_mayStart 8 = .ok (.getfield 38, 3) := by decide +kernel
theorem d_Rows_mayStart_11 : decode b_Rows_mayStart 11 = .ok (.getfield 201, 3) := by decide +kernel
theorem d_Rows_mayStart_14 : decode b_Rows_mayStart 14 = .ok (.aload_n 1, 1) := by decide +kernel
theorem d_Rows_mayStart_15 : decode b_Rows_mayStart 15 = .ok (.getfield 194, 3) := by decide +kernel
theorem d_Rows_mayStart_18 : decode b_Rows_mayStart 18 = .ok (.iaload, 1) := by decide +kernel
theorem d_Rows_mayStart_19 : decode b_Rows_mayStart 19 = .ok (.aload_n 0, 1) := by decide +kernel
theorem d_Rows_mayStart_20 : decode b_Rows_mayStart 20 = .ok (.getfield 19, 3) := by decide +kernel
theorem d_Rows_mayStart_23 : decode b_Rows_mayStart 23 = .ok (.aload_n 1, 1) := by decide +kernel
theorem d_Rows_mayStart_24 : decode b_Rows_mayStart 24 = .ok (.getfield 194, 3) := by decide +kernel
theorem d_Rows_mayStart_27 : decode b_Rows_mayStart 27 = .ok (.iaload, 1) := by decide +kernel
theorem d_Rows_mayStart_28 : decode b_Rows_mayStart 28 = .ok (.if_icmp .ge 84, 3) := by decide +kernel
theorem d_Rows_mayStart_31 : decode b_Rows_mayStart 31 = .ok (.aload_n 0, 1) := by decide +kernel
theorem d_Rows_mayStart_32 : decode b_Rows_mayStart 32 = .ok (.aload_n 1, 1) := by decide +kernel
theorem d_Rows_mayStart_33 : decode b_Rows_mayStart 33 = .ok (.getfield 194, 3) := by decide +kernel
theorem d_Rows_mayStart_36 : decode b_Rows_mayStart 36 = .ok (.invokevirtual 204, 3) := by decide +kernel
theorem d_Rows_mayStart_39 : decode b_Rows_mayStart 39 = .ok (.ifCond .eq 73, 3) := by decide +kernel
theorem d_Rows_mayStart_42 : decode b_Rows_mayStart 42 = .ok (.aload_n 0, 1) := by decide +kernel
theorem d_Rows_mayStart_43 : decode b_Rows_mayStart 43 = .ok (.getfield 38, 3) := by decide +kernel
theorem d_Rows_mayStart_46 : decode b_Rows_mayStart 46 = .ok (.getfield 207, 3) := by decide +kernel
theorem d_Rows_mayStart_49 : decode b_Rows_mayStart 49 = .ok (.aload_n 1, 1) := by decide +kernel
theorem d_Rows_mayStart_50 : decode b_Rows_mayStart 50 = .ok (.getfield 210, 3) := by decide +kernel
theorem d_Rows_mayStart_53 : decode b_Rows_mayStart 53 = .ok (.invokevirtual 102, 3) := by decide +kernel
theorem d_Rows_mayStart_56 : decode b_Rows_mayStart 56 = .ok (.ifCond .ne 56, 3) := by decide +kernel
theorem d_Rows_mayStart_59 : decode b_Rows_mayStart 59 = .ok (.aload_n 1, 1) := by decide +kernel
theorem d_Rows_mayStart_60 : decode b_Rows_mayStart 60 = .ok (.getfield 99, 3) := by decide +kernel
theorem d_Rows_mayStart_63 : decode b_Rows_mayStart 63 = .ok (.aload_n 0, 1) := by decide +kernel
theorem d_Rows_mayStart_64 : decode b_Rows_mayStart 64 = .ok (.getfield 45, 3) := by decide +kernel
theorem d_Rows_mayStart_67 : decode b_Rows_mayStart 67 = .ok (.invokevirtual 213, 3) := by decide +kernel
theorem d_Rows_mayStart_70 : decode b_Rows_mayStart 70 = .ok (.ifCond .eq 42, 3) := by decide +kernel
theorem d_Rows_mayStart_73 : decode b_Rows_mayStart 73 = .ok (.aload_n 0, 1) := by decide +kernel
theorem d_Rows_mayStart_74 : decode b_Rows_mayStart 74 = .ok (.aload_n 1, 1) := by decide +kernel
theorem d_Rows_mayStart_75 : decode b_Rows_mayStart 75 = .ok (.invokevirtual 217, 3) := by decide +kernel
theorem d_Rows_mayStart_78 : decode b_Rows_mayStart 78 = .ok (.ifCond .eq 34, 3) := by decide +kernel
theorem d_Rows_mayStart_81 : decode b_Rows_mayStart 81 = .ok (.aload_n 0, 1) := by decide +kernel
theorem d_Rows_mayStart_82 : decode b_Rows_mayStart 82 = .ok (.getfield 38, 3) := by decide +kernel
theorem d_Rows_mayStart_85 : decode b_Rows_mayStart 85 = .ok (.getfield 220, 3) := by decide +kernel
theorem d_Rows_mayStart_88 : decode b_Rows_mayStart 88 = .ok (.ifCond .ne 24, 3) := by decide +kernel
theorem d_Rows_mayStart_91 : decode b_Rows_mayStart 91 = .ok (.aload_n 1, 1) := by decide +kernel
theorem d_Rows_mayStart_92 : decode b_Rows_mayStart 92 = .ok (.getfield 115, 3) := by decide +kernel
theorem d_Rows_mayStart_95 : decode b_Rows_mayStart 95 = .ok (.ifCond .eq 13, 3) := by decide +kernel
theorem d_Rows_mayStart_98 : decode b_Rows_mayStart 98 = .ok (.aload_n 0, 1) := by decide +kernel
theorem d_Rows_mayStart_99 : decode b_Rows_mayStart 99 = .ok (.getfield 38, 3) := by decide +kernel
theorem d_Rows_mayStart_102 : decode b_Rows_mayStart 102 = .ok (.getfield 174, 3) := by decide +kernel
theorem d_Rows_mayStart_105 : decode b_Rows_mayStart 105 = .ok (.ifCond .gt 7, 3) := by decide +kernel
theorem d_Rows_mayStart_108 : decode b_Rows_mayStart 108 = .ok (.iconst 1, 1) := by decide +kernel
theorem d_Rows_mayStart_109 : decode b_Rows_mayStart 109 = .ok (.goto 4, 3) := by decide +kernel
theorem d_Rows_mayStart_112 : decode b_Rows_mayStart 112 = .ok (.iconst 0, 1) := by decide +kernel
theorem d_Rows_mayStart_113 : decode b_Rows_mayStart 113 = .ok (.ireturn, 1) := by decide +kernel
theorem d_Rows_priorityNow_0 : decode b_Rows_priorityNow 0 = .ok (.aload_n 0, 1) := by decide +kernel
theorem d_Rows_priorityNow_1 : decode b_Rows_priorityNow 1 = .ok (.getfield 56, 3) := by decide +kernel
theorem d_Rows_priorityNow_4 : decode b_Rows_priorityNow 4 = .ok (.aload_n 1, 1) := by decide +kernel
theorem d_Rows_priorityNow_5 : decode b_Rows_priorityNow 5 = .ok (.getfield 226, 3) := by decide +kernel
theorem d_Rows_priorityNow_8 : decode b_Rows_priorityNow 8 = .ok (.isub, 1) := by decide +kernel
theorem d_Rows_priorityNow_9 : decode b_Rows_priorityNow 9 = .ok (.istore_n 2, 1) := by decide +kernel
theorem d_Rows_priorityNow_10 : decode b_Rows_priorityNow 10 = .ok (.aload_n 0, 1) := by decide +kernel
theorem d_Rows_priorityNow_11 : decode b_Rows_priorityNow 11 = .ok (.getfield 53, 3) := by decide +kernel
theorem d_Rows_priorityNow_14 : decode b_Rows_priorityNow 14 = .ok (.lconst 0, 1) := by decide +kernel
theorem d_Rows_priorityNow_15 : decode b_Rows_priorityNow 15 = .ok (.lcmp, 1) := by decide +kernel
theorem d_Rows_priorityNow_16 : decode b_Rows_priorityNow 16 = .ok (.ifCond .le 7, 3) := by decide +kernel
theorem d_Rows_priorityNow_19 : decode b_Rows_priorityNow 19 = .ok (.iload_n 2, 1) := by decide +kernel
theorem d_Rows_priorityNow_20 : decode b_Rows_priorityNow 20 = .ok (.ifCond .gt 8, 3) := by decide +kernel
theorem d_Rows_priorityNow_23 : decode b_Rows_priorityNow 23 = .ok (.aload_n 1, 1) := by decide +kernel
theorem d_Rows_priorityNow_24 : decode b_Rows_priorityNow 24 = .ok (.getfield 226, 3) := by decide +kernel
theorem d_Rows_priorityNow_27 : decode b_Rows_priorityNow 27 = .ok (.ireturn, 1) := by decide +kernel
theorem d_Rows_priorityNow_28 : decode b_Rows_priorityNow 28 = .ok (.aload_n 0, 1) := by decide +kernel
theorem d_Rows_priorityNow_29 : decode b_Rows_priorityNow 29 = .ok (.getfield 49, 3) := by decide +kernel
theorem d_Rows_priorityNow_32 : decode b_Rows_priorityNow 32 = .ok (.aload_n 1, 1) := by decide +kernel
theorem d_Rows_priorityNow_33 : decode b_Rows_priorityNow 33 = .ok (.getfield 167, 3) := by decide +kernel
theorem d_Rows_priorityNow_36 : decode b_Rows_priorityNow 36 = .ok (.lsub, 1) := by decide +kernel
theorem d_Rows_priorityNow_37 : decode b_Rows_priorityNow 37 = .ok (.aload_n 0, 1) := by decide +kernel
theorem d_Rows_priorityNow_38 : decode b_Rows_priorityNow 38 = .ok (.getfield 53, 3) := by decide +kernel
theorem d_Rows_priorityNow_41 : decode b_Rows_priorityNow 41 = .ok (.ldiv, 1) := by decide +kernel
theorem d_Rows_priorityNow_42 : decode b_Rows_priorityNow 42 = .ok (.lstore_n 3, 1) := by decide +kernel
theorem d_Rows_priorityNow_43 : decode b_Rows_priorityNow 43 = .ok (.aload_n 1, 1) := by decide +kernel
theorem d_Rows_priorityNow_44 : decode b_Rows_priorityNow 44 = .ok (.getfield 226, 3) := by decide +kernel
theorem d_Rows_priorityNow_47 : decode b_Rows_priorityNow 47 = .ok (.lload_n 3, 1) := by decide +kernel
theorem d_Rows_priorityNow_48 : decode b_Rows_priorityNow 48 = .ok (.iload_n 2, 1) := by decide +kernel
theorem d_Rows_priorityNow_49 : decode b_Rows_priorityNow 49 = .ok (.i2l, 1) := by decide +kernel
theorem d_Rows_priorityNow_50 : decode b_Rows_priorityNow 50 = .ok (.invokestatic 229, 3) := by decide +kernel
theorem d_Rows_priorityNow_53 : decode b_Rows_priorityNow 53 = .ok (.l2i, 1) := by decide +kernel
theorem d_Rows_priorityNow_54 : decode b_Rows_priorityNow 54 = .ok (.iadd, 1) := by decide +kernel
theorem d_Rows_priorityNow_55 : decode b_Rows_priorityNow 55 = .ok (.ireturn, 1) := by decide +kernel
theorem d_Rows_nextOfClass_0 : decode b_Rows_nextOfClass 0 = .ok (.aconst_null, 1) := by decide +kernel
theorem d_Rows_nextOfClass_1 : decode b_Rows_nextOfClass 1 = .ok (.astore_n 2, 1) := by decide +kernel
theorem d_Rows_nextOfClass_2 : decode b_Rows_nextOfClass 2 = .ok (.iconst 0, 1) := by decide +kernel
theorem d_Rows_nextOfClass_3 : decode b_Rows_nextOfClass 3 = .ok (.istore_n 3, 1) := by decide +kernel
theorem d_Rows_nextOfClass_4 : decode b_Rows_nextOfClass 4 = .ok (.iload_n 3, 1) := by decide +kernel
theorem d_Rows_nextOfClass_5 : decode b_Rows_nextOfClass 5 = .ok (.aload_n 0, 1) := by decide +kernel
theorem d_Rows_nextOfClass_6 : decode b_Rows_nextOfClass 6 = .ok (.getfield 16, 3) := by decide +kernel
theorem d_Rows_nextOfClass_9 : decode b_Rows_nextOfClass 9 = .ok (.invokevirtual 60, 3) := by decide +kernel
theorem d_Rows_nextOfClass_12 : decode b_Rows_nextOfClass 12 = .ok (.if_icmp .ge 61, 3) := by decide +kernel
theorem d_Rows_nextOfClass_15 : decode b_Rows_nextOfClass 15 = .ok (.aload_n 0, 1) := by decide +kernel
theorem d_Rows_nextOfClass_16 : decode b_Rows_nextOfClass 16 = .ok (.getfield 16, 3) := by decide +kernel
theorem d_Rows_nextOfClass_19 : decode b_Rows_nextOfClass 19 = .ok (.iload_n 3, 1) := by decide +kernel
theorem d_Rows_nextOfClass_20 : decode b_Rows_nextOfClass 20 = .ok (.invokevirtual 156, 3) := by decide +kernel
theorem d_Rows_nextOfClass_23 : decode b_Rows_nextOfClass 23 = .ok (.checkcast 86, 3) := by decide +kernel
theorem d_Rows_nextOfClass_26 : decode b_Rows_nextOfClass 26 = .ok (.astore 4, 2) := by decide +kernel
theorem d_Rows_nextOfClass_28 : decode b_Rows_nextOfClass 28 = .ok (.aload 4, 2) := by decide +kernel
theorem d_Rows_nextOfClass_30 : decode b_Rows_nextOfClass 30 = .ok (.getfield 194, 3) := by decide +kernel
theorem d_Rows_nextOfClass_33 : decode b_Rows_nextOfClass 33 = .ok (.iload_n 1, 1) := by decide +kernel
theorem d_Rows_nextOfClass_34 : decode b_Rows_nextOfClass 34 = .ok (.if_icmp .ne 33, 3) := by decide +kernel
theorem d_Rows_nextOfClass_37 : decode b_Rows_nextOfClass 37 = .ok (.aload_n 0, 1) := by decide +kernel
theorem d_Rows_nextOfClass_38 : decode b_Rows_nextOfClass 38 = .ok (.aload 4, 2) := by decide +kernel
theorem d_Rows_nextOfClass_40 : decode b_Rows_nextOfClass 40 = .ok (.invokevirtual 197, 3) := by decide +kernel
theorem d_Rows_nextOfClass_43 : decode b_Rows_nextOfClass 43 = .ok (.ifCond .eq 24, 3) := by decide +kernel
theorem d_Rows_nextOfClass_46 : decode b_Rows_nextOfClass 46 = .ok (.aload_n 2, 1) := by decide +kernel
theorem d_Rows_nextOfClass_47 : decode b_Rows_nextOfClass 47 = .ok (.ifnull 17, 3) := by decide +kernel
theorem d_Rows_nextOfClass_50 : decode b_Rows_nextOfClass 50 = .ok (.aload_n 0, 1) := by decide +kernel
theorem d_Rows_nextOfClass_51 : decode b_Rows_nextOfClass 51 = .ok (.aload 4, 2) := by decide +kernel
theorem d_Rows_nextOfClass_53 : decode b_Rows_nextOfClass 53 = .ok (.invokevirtual 160, 3) := by decide +kernel
theorem d_Rows_nextOfClass_56 : decode b_Rows_nextOfClass 56 = .ok (.aload_n 0, 1) := by decide +kernel
theorem d_Rows_nextOfClass_57 : decode b_Rows_nextOfClass 57 = .ok (.aload_n 2, 1) := by decide +kernel
theorem d_Rows_nextOfClass_58 : decode b_Rows_nextOfClass 58 = .ok (.invokevirtual 160, 3) := by decide +kernel
theorem d_Rows_nextOfClass_61 : decode b_Rows_nextOfClass 61 = .ok (.if_icmp .le 6, 3) := by decide +kernel
theorem d_Rows_nextOfClass_64 : decode b_Rows_nextOfClass 64 = .ok (.aload 4, 2) := by decide +kernel
theorem d_Rows_nextOfClass_66 : decode b_Rows_nextOfClass 66 = .ok (.astore_n 2, 1) := by decide +kernel
theorem d_Rows_nextOfClass_67 : decode b_Rows_nextOfClass 67 = .ok (.iinc 3 1, 3) := by decide +kernel
theorem d_Rows_nextOfClass_70 : decode b_Rows_nextOfClass 70 = .ok (.goto (-66), 3) := by decide +kernel
theorem d_Rows_nextOfClass_73 : decode b_Rows_nextOfClass 73 = .ok (.aload_n 2, 1) := by decide +kernel
theorem d_Rows_nextOfClass_74 : decode b_Rows_nextOfClass 74 = .ok (.areturn, 1) := by decide +kernel
theorem d_Rows_nextFor_0 : decode b_Rows_nextFor 0 = .ok (.iconst 0, 1) := by decide +kernel
theorem d_Rows_nextFor_1 : decode b_Rows_nextFor 1 = .ok (.istore_n 2, 1) := by decide +kernel
theorem d_Rows_nextFor_2 : decode b_Rows_nextFor 2 = .ok (.iload_n 2, 1) := by decide +kernel
theorem d_Rows_nextFor_3 : decode b_Rows_nextFor 3 = .ok (.aload_n 1, 1) := by decide +kernel
theorem d_Rows_nextFor_4 : decode b_Rows_nextFor 4 = .ok (.getfield 83, 3) := by decide +kernel
theorem d_Rows_nextFor_7 : decode b_Rows_nextFor 7 = .ok (.arraylength, 1) := by decide +kernel
theorem d_Rows_nextFor_8 : decode b_Rows_nextFor 8 = .ok (.if_icmp .ge 40, 3) := by decide +kernel
theorem d_Rows_nextFor_11 : decode b_Rows_nextFor 11 = .ok (.aload_n 1, 1) := by decide +kernel
theorem d_Rows_nextFor_12 : decode b_Rows_nextFor 12 = .ok (.getfield 83, 3) := by decide +kernel
theorem d_Rows_nextFor_15 : decode b_Rows_nextFor 15 = .ok (.iload_n 2, 1) := by decide +kernel
theorem d_Rows_nextFor_16 : decode b_Rows_nextFor 16 = .ok (.iaload, 1) := by decide +kernel
theorem d_Rows_nextFor_17 : decode b_Rows_nextFor 17 = .ok (.istore_n 3, 1) := by decide +kernel
theorem d_Rows_nextFor_18 : decode b_Rows_nextFor 18 = .ok (.iload_n 3, 1) := by decide +kernel
theorem d_Rows_nextFor_19 : decode b_Rows_nextFor 19 = .ok (.iconst (-1), 1) := by decide +kernel
theorem d_Rows_nextFor_20 : decode b_Rows_nextFor 20 = .ok (.if_icmp .ne 7, 3) := by decide +kernel
theorem d_Rows_nextFor_23 : decode b_Rows_nextFor 23 = .ok (.aconst_null, 1) := by decide +kernel
theorem d_Rows_nextFor_24 : decode b_Rows_nextFor 24 = .ok (.goto 8, 3) := by decide +kernel
theorem d_Rows_nextFor_27 : decode b_Rows_nextFor 27 = .ok (.aload_n 0, 1) := by decide +kernel
theorem d_Rows_nextFor_28 : decode b_Rows_nextFor 28 = .ok (.iload_n 3, 1) := by decide +kernel
theorem d_Rows_nextFor_29 : decode b_Rows_nextFor 29 = .ok (.invokevirtual 191, 3) := by decide +kernel
theorem d_Rows_nextFor_32 : decode b_Rows_nextFor 32 = .ok (.astore 4, 2) := by decide +kernel
theorem d_Rows_nextFor_34 : decode b_Rows_nextFor 34 = .ok (.aload 4, 2) := by decide +kernel
theorem d_Rows_nextFor_36 : decode b_Rows_nextFor 36 = .ok (.ifnull 6, 3) := by decide +kernel
theorem d_Rows_nextFor_39 : decode b_Rows_nextFor 39 = .ok (.aload 4, 2) := by decide +kernel
theorem d_Rows_nextFor_41 : decode b_Rows_nextFor 41 = .ok (.areturn, 1) := by decide +kernel
theorem d_Rows_nextFor_42 : decode b_Rows_nextFor 42 = .ok (.iinc 2 1, 3) := by decide +kernel
theorem d_Rows_nextFor_45 : decode b_Rows_nextFor 45 = .ok (.goto (-43), 3) := by decide +kernel
theorem d_Rows_nextFor_48 : decode b_Rows_nextFor 48 = .ok (.aconst_null, 1) := by decide +kernel
theorem d_Rows_nextFor_49 : decode b_Rows_nextFor 49 = .ok (.areturn, 1) := by decide +kernel
theorem d_Load_take_0 : decode b_Load_take 0 = .ok (.aload_n 0, 1) := by decide +kernel
theorem d_Load_take_1 : decode b_Load_take 1 = .ok (.getfield 9, 3) := by decide +kernel
theorem d_Load_take_4 : decode b_Load_take 4 = .ok (.aload_n 1, 1) := by decide +kernel
theorem d_Load_take_5 : decode b_Load_take 5 = .ok (.getfield 33, 3) := by decide +kernel
theorem d_Load_take_8 : decode b_Load_take 8 = .ok (.dup2, 1) := by decide +kernel
theorem d_Load_take_9 : decode b_Load_take 9 = .ok (.iaload, 1) := by decide +kernel
theorem d_Load_take_10 : decode b_Load_take 10 = .ok (.iconst 1, 1) := by decide +kernel
theorem d_Load_take_11 : decode b_Load_take 11 = .ok (.iadd, 1) := by decide +kernel
theorem d_Load_take_12 : decode b_Load_take 12 = .ok (.iastore, 1) := by decide +kernel
theorem d_Load_take_13 : decode b_Load_take 13 = .ok (.iconst 0, 1) := by decide +kernel
theorem d_Load_take_14 : decode b_Load_take 14 = .ok (.istore_n 2, 1) := by decide +kernel
theorem d_Load_take_15 : decode b_Load_take 15 = .ok (.iload_n 2, 1) := by decide +kernel
theorem d_Load_take_16 : decode b_Load_take 16 = .ok (.iconst 4, 1) := by decide +kernel
theorem d_Load_take_17 : decode b_Load_take 17 = .ok (.if_icmp .ge 24, 3) := by decide +kernel
theorem d_Load_take_20 : decode b_Load_take 20 = .ok (.aload_n 0, 1) := by decide +kernel
theorem d_Load_take_21 : decode b_Load_take 21 = .ok (.getfield 15, 3) := by decide +kernel
theorem d_Load_take_24 : decode b_Load_take 24 = .ok (.iload_n 2, 1) := by decide +kernel
theorem d_Load_take_25 : decode b_Load_take 25 = .ok (.dup2, 1) := by decide +kernel
theorem d_Load_take_26 : decode b_Load_take 26 = .ok (.iaload, 1) := by decide +kernel
theorem d_Load_take_27 : decode b_Load_take 27 = .ok (.aload_n 1, 1) := by decide +kernel
theorem d_Load_take_28 : decode b_Load_take 28 = .ok (.getfield 38, 3) := by decide +kernel
theorem d_Load_take_31 : decode b_Load_take 31 = .ok (.iload_n 2, 1) := by decide +kernel
theorem d_Load_take_32 : decode b_Load_take 32 = .ok (.iaload, 1) := by decide +kernel
theorem d_Load_take_33 : decode b_Load_take 33 = .ok (.iadd, 1) := by decide +kernel
theorem d_Load_take_34 : decode b_Load_take 34 = .ok (.iastore, 1) := by decide +kernel
theorem d_Load_take_35 : decode b_Load_take 35 = .ok (.iinc 2 1, 3) := by decide +kernel
theorem d_Load_take_38 : decode b_Load_take 38 = .ok (.goto (-23), 3) := by decide +kernel
theorem d_Load_take_41 : decode b_Load_take 41 = .ok (.aload_n 0, 1) := by decide +kernel
theorem d_Load_take_42 : decode b_Load_take 42 = .ok (.getfield 21, 3) := by decide +kernel
theorem d_Load_take_45 : decode b_Load_take 45 = .ok (.aload_n 1, 1) := by decide +kernel
theorem d_Load_take_46 : decode b_Load_take 46 = .ok (.getfield 39, 3) := by decide +kernel
theorem d_Load_take_49 : decode b_Load_take 49 = .ok (.invokevirtual 42, 3) := by decide +kernel
theorem d_Load_take_52 : decode b_Load_take 52 = .ok (.aload_n 0, 1) := by decide +kernel
theorem d_Load_take_53 : decode b_Load_take 53 = .ok (.dup, 1) := by decide +kernel
theorem d_Load_take_54 : decode b_Load_take 54 = .ok (.getfield 25, 3) := by decide +kernel
theorem d_Load_take_57 : decode b_Load_take 57 = .ok (.iconst 1, 1) := by decide +kernel
theorem d_Load_take_58 : decode b_Load_take 58 = .ok (.iadd, 1) := by decide +kernel
theorem d_Load_take_59 : decode b_Load_take 59 = .ok (.putfield 25, 3) := by decide +kernel
theorem d_Load_take_62 : decode b_Load_take 62 = .ok (.aload_n 0, 1) := by decide +kernel
theorem d_Load_take_63 : decode b_Load_take 63 = .ok (.aload_n 1, 1) := by decide +kernel
theorem d_Load_take_64 : decode b_Load_take 64 = .ok (.getfield 46, 3) := by decide +kernel
theorem d_Load_take_67 : decode b_Load_take 67 = .ok (.putfield 29, 3) := by decide +kernel
theorem d_Load_take_70 : decode b_Load_take 70 = .ok (.return_, 1) := by decide +kernel
theorem d_Rows_startJob_0 : decode b_Rows_startJob 0 = .ok (.aload_n 1, 1) := by decide +kernel
theorem d_Rows_startJob_1 : decode b_Rows_startJob 1 = .ok (.aload_n 2, 1) := by decide +kernel
theorem d_Rows_startJob_2 : decode b_Rows_startJob 2 = .ok (.getfield 136, 3) := by decide +kernel
theorem d_Rows_startJob_5 : decode b_Rows_startJob 5 = .ok (.putfield 125, 3) := by decide +kernel
theorem d_Rows_startJob_8 : decode b_Rows_startJob 8 = .ok (.aload_n 2, 1) := by decide +kernel
theorem d_Rows_startJob_9 : decode b_Rows_startJob 9 = .ok (.iconst 2, 1) := by decide +kernel
theorem d_Rows_startJob_10 : decode b_Rows_startJob 10 = .ok (.putfield 119, 3) := by decide +kernel
theorem d_Rows_startJob_13 : decode b_Rows_startJob 13 = .ok (.aload_n 2, 1) := by decide +kernel
theorem d_Rows_startJob_14 : decode b_Rows_startJob 14 = .ok (.aload_n 0, 1) := by decide +kernel
theorem d_Rows_startJob_15 : decode b_Rows_startJob 15 = .ok (.getfield 49, 3) := by decide +kernel
theorem d_Rows_startJob_18 : decode b_Rows_startJob 18 = .ok (.putfield 164, 3) := by decide +kernel
theorem d_Rows_startJob_21 : decode b_Rows_startJob 21 = .ok (.aload_n 0, 1) := by decide +kernel
theorem d_Rows_startJob_22 : decode b_Rows_startJob 22 = .ok (.getfield 38, 3) := by decide +kernel
theorem d_Rows_startJob_25 : decode b_Rows_startJob 25 = .ok (.aload_n 2, 1) := by decide +kernel
theorem d_Rows_startJob_26 : decode b_Rows_startJob 26 = .ok (.invokevirtual 235, 3) := by decide +kernel
theorem d_Rows_startJob_29 : decode b_Rows_startJob 29 = .ok (.return_, 1) := by decide +kernel
theorem d_Rows_next_0 : decode b_Rows_next 0 = .ok (.aload_n 0, 1) := by decide +kernel
theorem d_Rows_next_1 : decode b_Rows_next 1 = .ok (.iload_n 1, 1) := by decide +kernel
theorem d_Rows_next_2 : decode b_Rows_next 2 = .ok (.invokevirtual 71, 3) := by decide +kernel
theorem d_Rows_next_5 : decode b_Rows_next 5 = .ok (.astore 4, 2) := by decide +kernel
theorem d_Rows_next_7 : decode b_Rows_next 7 = .ok (.aload 4, 2) := by decide +kernel
theorem d_Rows_next_9 : decode b_Rows_next 9 = .ok (.ifnonnull 6, 3) := by decide +kernel
theorem d_Rows_next_12 : decode b_Rows_next 12 = .ok (.bipush (-2), 2) := by decide +kernel
theorem d_Rows_next_14 : decode b_Rows_next 14 = .ok (.ireturn, 1) := by decide +kernel
theorem d_Rows_next_15 : decode b_Rows_next 15 = .ok (.lload_n 2, 1) := by decide +kernel
theorem d_Rows_next_16 : decode b_Rows_next 16 = .ok (.aload_n 0, 1) := by decide +kernel
theorem d_Rows_next_17 : decode b_Rows_next 17 = .ok (.getfield 49, 3) := by decide +kernel
theorem d_Rows_next_20 : decode b_Rows_next 20 = .ok (.lcmp, 1) := by decide +kernel
theorem d_Rows_next_21 : decode b_Rows_next 21 = .ok (.ifCond .ge 6, 3) := by decide +kernel
theorem d_Rows_next_24 : decode b_Rows_next 24 = .ok (.bipush (-4), 2) := by decide +kernel
theorem d_Rows_next_26 : decode b_Rows_next 26 = .ok (.ireturn, 1) := by decide +kernel
theorem d_Rows_next_27 : decode b_Rows_next 27 = .ok (.aload 4, 2) := by decide +kernel
theorem d_Rows_next_29 : decode b_Rows_next 29 = .ok (.getfield 122, 3) := by decide +kernel
theorem d_Rows_next_32 : decode b_Rows_next 32 = .ok (.ifCond .ne 11, 3) := by decide +kernel
theorem d_Rows_next_35 : decode b_Rows_next 35 = .ok (.aload 4, 2) := by decide +kernel
theorem d_Rows_next_37 : decode b_Rows_next 37 = .ok (.getfield 125, 3) := by decide +kernel
theorem d_Rows_next_40 : decode b_Rows_next 40 = .ok (.ifCond .eq 6, 3) := by decide +kernel
theorem d_Rows_next_43 : decode b_Rows_next 43 = .ok (.bipush (-5), 2) := by decide +kernel
theorem d_Rows_next_45 : decode b_Rows_next 45 = .ok (.ireturn, 1) := by decide +kernel
theorem d_Rows_next_46 : decode b_Rows_next 46 = .ok (.aload_n 0, 1) := by decide +kernel
theorem d_Rows_next_47 : decode b_Rows_next 47 = .ok (.lload_n 2, 1) := by decide +kernel
theorem d_Rows_next_48 : decode b_Rows_next 48 = .ok (.putfield 49, 3) := by decide +kernel
theorem d_Rows_next_51 : decode b_Rows_next 51 = .ok (.aload_n 0, 1) := by decide +kernel
theorem d_Rows_next_52 : decode b_Rows_next 52 = .ok (.aload 4, 2) := by decide +kernel
theorem d_Rows_next_54 : decode b_Rows_next 54 = .ok (.invokevirtual 128, 3) := by decide +kernel
theorem d_Rows_next_57 : decode b_Rows_next 57 = .ok (.astore 5, 2) := by decide +kernel
theorem d_Rows_next_59 : decode b_Rows_next 59 = .ok (.aload 5, 2) := by decide +kernel
theorem d_Rows_next_61 : decode b_Rows_next 61 = .ok (.ifnonnull 5, 3) := by decide +kernel
theorem d_Rows_next_64 : decode b_Rows_next 64 = .ok (.iconst 0, 1) := by decide +kernel
theorem d_Rows_next_65 : decode b_Rows_next 65 = .ok (.ireturn, 1) := by decide +kernel
theorem d_Rows_next_66 : decode b_Rows_next 66 = .ok (.aload_n 0, 1) := by decide +kernel
theorem d_Rows_next_67 : decode b_Rows_next 67 = .ok (.aload 4, 2) := by decide +kernel
theorem d_Rows_next_69 : decode b_Rows_next 69 = .ok (.aload 5, 2) := by decide +kernel
theorem d_Rows_next_71 : decode b_Rows_next 71 = .ok (.invokevirtual 132, 3) := by decide +kernel
theorem d_Rows_next_74 : decode b_Rows_next 74 = .ok (.aload 5, 2) := by decide +kernel
theorem d_Rows_next_76 : decode b_Rows_next 76 = .ok (.getfield 136, 3) := by decide +kernel
theorem d_Rows_next_79 : decode b_Rows_next 79 = .ok (.ireturn, 1) := by decide +kernel
theorem d_NS_drop_0 : decode b_NS_drop 0 = .ok (.iload_n 1, 1) := by decide +kernel
theorem d_NS_drop_1 : decode b_NS_drop 1 = .ok (.bipush 64, 2) := by decide +kernel
theorem d_NS_drop_3 : decode b_NS_drop 3 = .ok (.if_icmp .ge 22, 3) := by decide +kernel
theorem d_NS_drop_6 : decode b_NS_drop 6 = .ok (.aload_n 0, 1) := by decide +kernel
theorem d_NS_drop_7 : decode b_NS_drop 7 = .ok (.dup, 1) := by decide +kernel
theorem d_NS_drop_8 : decode b_NS_drop 8 = .ok (.getfield 7, 3) := by decide +kernel
theorem d_NS_drop_11 : decode b_NS_drop 11 = .ok (.lconst 1, 1) := by decide +kernel
theorem d_NS_drop_12 : decode b_NS_drop 12 = .ok (.iload_n 1, 1) := by decide +kernel
theorem d_NS_drop_13 : decode b_NS_drop 13 = .ok (.lshl, 1) := by decide +kernel
theorem d_NS_drop_14 : decode b_NS_drop 14 = .ok (.ldc2_w 16, 3) := by decide +kernel
theorem d_NS_drop_17 : decode b_NS_drop 17 = .ok (.lxor, 1) := by decide +kernel
theorem d_NS_drop_18 : decode b_NS_drop 18 = .ok (.land, 1) := by decide +kernel
theorem d_NS_drop_19 : decode b_NS_drop 19 = .ok (.putfield 7, 3) := by decide +kernel
theorem d_NS_drop_22 : decode b_NS_drop 22 = .ok (.goto 22, 3) := by decide +kernel
theorem d_NS_drop_25 : decode b_NS_drop 25 = .ok (.aload_n 0, 1) := by decide +kernel
theorem d_NS_drop_26 : decode b_NS_drop 26 = .ok (.dup, 1) := by decide +kernel
theorem d_NS_drop_27 : decode b_NS_drop 27 = .ok (.getfield 13, 3) := by decide +kernel
theorem d_NS_drop_30 : decode b_NS_drop 30 = .ok (.lconst 1, 1) := by decide +kernel
theorem d_NS_drop_31 : decode b_NS_drop 31 = .ok (.iload_n 1, 1) := by decide +kernel
theorem d_NS_drop_32 : decode b_NS_drop 32 = .ok (.bipush 64, 2) := by decide +kernel
theorem d_NS_drop_34 : decode b_NS_drop 34 = .ok (.isub, 1) := by decide +kernel
theorem d_NS_drop_35 : decode b_NS_drop 35 = .ok (.lshl, 1) := by decide +kernel
theorem d_NS_drop_36 : decode b_NS_drop 36 = .ok (.ldc2_w 16, 3) := by decide +kernel
theorem d_NS_drop_39 : decode b_NS_drop 39 = .ok (.lxor, 1) := by decide +kernel
theorem d_NS_drop_40 : decode b_NS_drop 40 = .ok (.land, 1) := by decide +kernel
theorem d_NS_drop_41 : decode b_NS_drop 41 = .ok (.putfield 13, 3) := by decide +kernel
theorem d_NS_drop_44 : decode b_NS_drop 44 = .ok (.return_, 1) := by decide +kernel
theorem d_Load_release_0 : decode b_Load_release 0 = .ok (.aload_n 0, 1) := by decide +kernel
theorem d_Load_release_1 : decode b_Load_release 1 = .ok (.getfield 9, 3) := by decide +kernel
theorem d_Load_release_4 : decode b_Load_release 4 = .ok (.aload_n 1, 1) := by decide +kernel
theorem d_Load_release_5 : decode b_Load_release 5 = .ok (.getfield 33, 3) := by decide +kernel
theorem d_Load_release_8 : decode b_Load_release 8 = .ok (.dup2, 1) := by decide +kernel
theorem d_Load_release_9 : decode b_Load_release 9 = .ok (.iaload, 1) := by decide +kernel
theorem d_Load_release_10 : decode b_Load_release 10 = .ok (.iconst 1, 1) := by decide +kernel
theorem d_Load_release_11 : decode b_Load_release 11 = .ok (.isub, 1) := by decide +kernel
theorem d_Load_release_12 : decode b_Load_release 12 = .ok (.iastore, 1) := by decide +kernel
theorem d_Load_release_13 : decode b_Load_release 13 = .ok (.iconst 0, 1) := by decide +kernel
theorem d_Load_release_14 : decode b_Load_release 14 = .ok (.istore_n 2, 1) := by decide +kernel
theorem d_Load_release_15 : decode b_Load_release 15 = .ok (.iload_n 2, 1) := by decide +kernel
theorem d_Load_release_16 : decode b_Load_release 16 = .ok (.iconst 4, 1) := by decide +kernel
theorem d_Load_release_17 : decode b_Load_release 17 = .ok (.if_icmp .ge 24, 3) := by decide +kernel
theorem d_Load_release_20 : decode b_Load_release 20 = .ok (.aload_n 0, 1) := by decide +kernel
theorem d_Load_release_21 : decode b_Load_release 21 = .ok (.getfield 15, 3) := by decide +kernel
theorem d_Load_release_24 : decode b_Load_release 24 = .ok (.iload_n 2, 1) := by decide +kernel
theorem d_Load_release_25 : decode b_Load_release 25 = .ok (.dup2, 1) := by decide +kernel
theorem d_Load_release_26 : decode b_Load_release 26 = .ok (.iaload, 1) := by decide +kernel
theorem d_Load_release_27 : decode b_Load_release 27 = .ok (.aload_n 1, 1) := by decide +kernel
theorem d_Load_release_28 : decode b_Load_release 28 = .ok (.getfield 38, 3) := by decide +kernel
theorem d_Load_release_31 : decode b_Load_release 31 = .ok (.iload_n 2, 1) := by decide +kernel
theorem d_Load_release_32 : decode b_Load_release 32 = .ok (.iaload, 1) := by decide +kernel
theorem d_Load_release_33 : decode b_Load_release 33 = .ok (.isub, 1) := by decide +kernel
theorem d_Load_release_34 : decode b_Load_release 34 = .ok (.iastore, 1) := by decide +kernel
theorem d_Load_release_35 : decode b_Load_release 35 = .ok (.iinc 2 1, 3) := by decide +kernel
theorem d_Load_release_38 : decode b_Load_release 38 = .ok (.goto (-23), 3) := by decide +kernel
theorem d_Load_release_41 : decode b_Load_release 41 = .ok (.aload_n 0, 1) := by decide +kernel
theorem d_Load_release_42 : decode b_Load_release 42 = .ok (.getfield 21, 3) := by decide +kernel
theorem d_Load_release_45 : decode b_Load_release 45 = .ok (.aload_n 1, 1) := by decide +kernel
theorem d_Load_release_46 : decode b_Load_release 46 = .ok (.getfield 39, 3) := by decide +kernel
theorem d_Load_release_49 : decode b_Load_release 49 = .ok (.invokevirtual 49, 3) := by decide +kernel
theorem d_Load_release_52 : decode b_Load_release 52 = .ok (.aload_n 0, 1) := by decide +kernel
theorem d_Load_release_53 : decode b_Load_release 53 = .ok (.dup, 1) := by decide +kernel
theorem d_Load_release_54 : decode b_Load_release 54 = .ok (.getfield 25, 3) := by decide +kernel
theorem d_Load_release_57 : decode b_Load_release 57 = .ok (.iconst 1, 1) := by decide +kernel
theorem d_Load_release_58 : decode b_Load_release 58 = .ok (.isub, 1) := by decide +kernel
theorem d_Load_release_59 : decode b_Load_release 59 = .ok (.putfield 25, 3) := by decide +kernel
theorem d_Load_release_62 : decode b_Load_release 62 = .ok (.aload_n 0, 1) := by decide +kernel
theorem d_Load_release_63 : decode b_Load_release 63 = .ok (.iconst 0, 1) := by decide +kernel
theorem d_Load_release_64 : decode b_Load_release 64 = .ok (.putfield 29, 3) := by decide +kernel
theorem d_Load_release_67 : decode b_Load_release 67 = .ok (.return_, 1) := by decide +kernel
theorem d_Rows_stopJob_0 : decode b_Rows_stopJob 0 = .ok (.iconst 0, 1) := by decide +kernel
theorem d_Rows_stopJob_1 : decode b_Rows_stopJob 1 = .ok (.istore_n 2, 1) := by decide +kernel
theorem d_Rows_stopJob_2 : decode b_Rows_stopJob 2 = .ok (.iload_n 2, 1) := by decide +kernel
theorem d_Rows_stopJob_3 : decode b_Rows_stopJob 3 = .ok (.aload_n 0, 1) := by decide +kernel
theorem d_Rows_stopJob_4 : decode b_Rows_stopJob 4 = .ok (.getfield 10, 3) := by decide +kernel
theorem d_Rows_stopJob_7 : decode b_Rows_stopJob 7 = .ok (.invokevirtual 60, 3) := by decide +kernel
theorem d_Rows_stopJob_10 : decode b_Rows_stopJob 10 = .ok (.if_icmp .ge 37, 3) := by decide +kernel
theorem d_Rows_stopJob_13 : decode b_Rows_stopJob 13 = .ok (.aload_n 0, 1) := by decide +kernel
theorem d_Rows_stopJob_14 : decode b_Rows_stopJob 14 = .ok (.getfield 10, 3) := by decide +kernel
theorem d_Rows_stopJob_17 : decode b_Rows_stopJob 17 = .ok (.iload_n 2, 1) := by decide +kernel
theorem d_Rows_stopJob_18 : decode b_Rows_stopJob 18 = .ok (.invokevirtual 156, 3) := by decide +kernel
theorem d_Rows_stopJob_21 : decode b_Rows_stopJob 21 = .ok (.checkcast 64, 3) := by decide +kernel
theorem d_Rows_stopJob_24 : decode b_Rows_stopJob 24 = .ok (.astore_n 3, 1) := by decide +kernel
theorem d_Rows_stopJob_25 : decode b_Rows_stopJob 25 = .ok (.aload_n 3, 1) := by decide +kernel
theorem d_Rows_stopJob_26 : decode b_Rows_stopJob 26 = .ok (.getfield 125, 3) := by decide +kernel
theorem d_Rows_stopJob_29 : decode b_Rows_stopJob 29 = .ok (.aload_n 1, 1) := by decide +kernel
theorem d_Rows_stopJob_30 : decode b_Rows_stopJob 30 = .ok (.getfield 136, 3) := by decide +kernel
theorem d_Rows_stopJob_33 : decode b_Rows_stopJob 33 = .ok (.if_icmp .ne 8, 3) := by decide +kernel
theorem d_Rows_stopJob_36 : decode b_Rows_stopJob 36 = .ok (.aload_n 3, 1) := by decide +kernel
theorem d_Rows_stopJob_37 : decode b_Rows_stopJob 37 = .ok (.iconst 0, 1) := by decide +kernel
theorem d_Rows_stopJob_38 : decode b_Rows_stopJob 38 = .ok (.putfield 125, 3) := by decide +kernel
theorem d_Rows_stopJob_41 : decode b_Rows_stopJob 41 = .ok (.iinc 2 1, 3) := by decide +kernel
theorem d_Rows_stopJob_44 : decode b_Rows_stopJob 44 = .ok (.goto (-42), 3) := by decide +kernel
theorem d_Rows_stopJob_47 : decode b_Rows_stopJob 47 = .ok (.aload_n 1, 1) := by decide +kernel
end
section
theorem d_Rows_stopJob_48 : decode b_Rows_stopJob 48 = .ok (.iconst 3, 1) := by decide +kernel
theorem d_Rows_stopJob_49 : decode b_Rows_stopJob 49 = .ok (.putfield 119, 3) := by decide +kernel
theorem d_Rows_stopJob_52 : decode b_Rows_stopJob 52 = .ok (.aload_n 0, 1) := by decide +kernel
theorem d_Rows_stopJob_53 : decode b_Rows_stopJob 53 = .ok (.getfield 45, 3) := by decide +kernel
theorem d_Rows_stopJob_56 : decode b_Rows_stopJob 56 = .ok (.aload_n 1, 1) := by decide +kernel
theorem d_Rows_stopJob_57 : decode b_Rows_stopJob 57 = .ok (.getfield 136, 3) := by decide +kernel
theorem d_Rows_stopJob_60 : decode b_Rows_stopJob 60 = .ok (.invokevirtual 183, 3) := by decide +kernel
theorem d_Rows_stopJob_63 : decode b_Rows_stopJob 63 = .ok (.aload_n 0, 1) := by decide +kernel
theorem d_Rows_stopJob_64 : decode b_Rows_stopJob 64 = .ok (.getfield 38, 3) := by decide +kernel
theorem d_Rows_stopJob_67 : decode b_Rows_stopJob 67 = .ok (.aload_n 1, 1) := by decide +kernel
theorem d_Rows_stopJob_68 : decode b_Rows_stopJob 68 = .ok (.invokevirtual 238, 3) := by decide +kernel
theorem d_Rows_stopJob_71 : decode b_Rows_stopJob 71 = .ok (.return_, 1) := by decide +kernel
theorem d_Rows_end_0 : decode b_Rows_end 0 = .ok (.aload_n 0, 1) := by decide +kernel
theorem d_Rows_end_1 : decode b_Rows_end 1 = .ok (.iload_n 1, 1) := by decide +kernel
theorem d_Rows_end_2 : decode b_Rows_end 2 = .ok (.invokevirtual 91, 3) := by decide +kernel
theorem d_Rows_end_5 : decode b_Rows_end 5 = .ok (.astore_n 2, 1) := by decide +kernel
theorem d_Rows_end_6 : decode b_Rows_end 6 = .ok (.aload_n 2, 1) := by decide +kernel
theorem d_Rows_end_7 : decode b_Rows_end 7 = .ok (.ifnonnull 6, 3) := by decide +kernel
theorem d_Rows_end_10 : decode b_Rows_end 10 = .ok (.bipush (-2), 2) := by decide +kernel
theorem d_Rows_end_12 : decode b_Rows_end 12 = .ok (.ireturn, 1) := by decide +kernel
theorem d_Rows_end_13 : decode b_Rows_end 13 = .ok (.aload_n 2, 1) := by decide +kernel
theorem d_Rows_end_14 : decode b_Rows_end 14 = .ok (.getfield 119, 3) := by decide +kernel
theorem d_Rows_end_17 : decode b_Rows_end 17 = .ok (.iconst 2, 1) := by decide +kernel
theorem d_Rows_end_18 : decode b_Rows_end 18 = .ok (.if_icmp .eq 6, 3) := by decide +kernel
theorem d_Rows_end_21 : decode b_Rows_end 21 = .ok (.bipush (-5), 2) := by decide +kernel
theorem d_Rows_end_23 : decode b_Rows_end 23 = .ok (.ireturn, 1) := by decide +kernel
theorem d_Rows_end_24 : decode b_Rows_end 24 = .ok (.aload_n 0, 1) := by decide +kernel
theorem d_Rows_end_25 : decode b_Rows_end 25 = .ok (.aload_n 2, 1) := by decide +kernel
theorem d_Rows_end_26 : decode b_Rows_end 26 = .ok (.invokevirtual 139, 3) := by decide +kernel
theorem d_Rows_end_29 : decode b_Rows_end 29 = .ok (.iconst 1, 1) := by decide +kernel
theorem d_Rows_end_30 : decode b_Rows_end 30 = .ok (.ireturn, 1) := by decide +kernel
theorem d_Rows_age_0 : decode b_Rows_age 0 = .ok (.lload_n 1, 1) := by decide +kernel
theorem d_Rows_age_1 : decode b_Rows_age 1 = .ok (.lconst 0, 1) := by decide +kernel
theorem d_Rows_age_2 : decode b_Rows_age 2 = .ok (.lcmp, 1) := by decide +kernel
theorem d_Rows_age_3 : decode b_Rows_age 3 = .ok (.ifCond .lt 13, 3) := by decide +kernel
theorem d_Rows_age_6 : decode b_Rows_age 6 = .ok (.iload_n 3, 1) := by decide +kernel
theorem d_Rows_age_7 : decode b_Rows_age 7 = .ok (.iconst 0, 1) := by decide +kernel
theorem d_Rows_age_8 : decode b_Rows_age 8 = .ok (.bipush 15, 2) := by decide +kernel
theorem d_Rows_age_10 : decode b_Rows_age 10 = .ok (.invokestatic 75, 3) := by decide +kernel
theorem d_Rows_age_13 : decode b_Rows_age 13 = .ok (.ifCond .ne 6, 3) := by decide +kernel
theorem d_Rows_age_16 : decode b_Rows_age 16 = .ok (.bipush (-4), 2) := by decide +kernel
theorem d_Rows_age_18 : decode b_Rows_age 18 = .ok (.ireturn, 1) := by decide +kernel
theorem d_Rows_age_19 : decode b_Rows_age 19 = .ok (.aload_n 0, 1) := by decide +kernel
theorem d_Rows_age_20 : decode b_Rows_age 20 = .ok (.lload_n 1, 1) := by decide +kernel
theorem d_Rows_age_21 : decode b_Rows_age 21 = .ok (.putfield 53, 3) := by decide +kernel
theorem d_Rows_age_24 : decode b_Rows_age 24 = .ok (.aload_n 0, 1) := by decide +kernel
theorem d_Rows_age_25 : decode b_Rows_age 25 = .ok (.iload_n 3, 1) := by decide +kernel
theorem d_Rows_age_26 : decode b_Rows_age 26 = .ok (.putfield 56, 3) := by decide +kernel
theorem d_Rows_age_29 : decode b_Rows_age 29 = .ok (.iconst 1, 1) := by decide +kernel
theorem d_Rows_age_30 : decode b_Rows_age 30 = .ok (.ireturn, 1) := by decide +kernel
theorem d_Rows_drain_0 : decode b_Rows_drain 0 = .ok (.aload_n 0, 1) := by decide +kernel
theorem d_Rows_drain_1 : decode b_Rows_drain 1 = .ok (.iload_n 1, 1) := by decide +kernel
theorem d_Rows_drain_2 : decode b_Rows_drain 2 = .ok (.invokevirtual 71, 3) := by decide +kernel
theorem d_Rows_drain_5 : decode b_Rows_drain 5 = .ok (.astore_n 3, 1) := by decide +kernel
theorem d_Rows_drain_6 : decode b_Rows_drain 6 = .ok (.aload_n 3, 1) := by decide +kernel
theorem d_Rows_drain_7 : decode b_Rows_drain 7 = .ok (.ifnonnull 6, 3) := by decide +kernel
theorem d_Rows_drain_10 : decode b_Rows_drain 10 = .ok (.bipush (-2), 2) := by decide +kernel
theorem d_Rows_drain_12 : decode b_Rows_drain 12 = .ok (.ireturn, 1) := by decide +kernel
theorem d_Rows_drain_13 : decode b_Rows_drain 13 = .ok (.aload_n 3, 1) := by decide +kernel
theorem d_Rows_drain_14 : decode b_Rows_drain 14 = .ok (.getfield 122, 3) := by decide +kernel
theorem d_Rows_drain_17 : decode b_Rows_drain 17 = .ok (.iload_n 2, 1) := by decide +kernel
theorem d_Rows_drain_18 : decode b_Rows_drain 18 = .ok (.if_icmp .ne 5, 3) := by decide +kernel
theorem d_Rows_drain_21 : decode b_Rows_drain 21 = .ok (.iconst 0, 1) := by decide +kernel
theorem d_Rows_drain_22 : decode b_Rows_drain 22 = .ok (.ireturn, 1) := by decide +kernel
theorem d_Rows_drain_23 : decode b_Rows_drain 23 = .ok (.aload_n 3, 1) := by decide +kernel
theorem d_Rows_drain_24 : decode b_Rows_drain 24 = .ok (.iload_n 2, 1) := by decide +kernel
theorem d_Rows_drain_25 : decode b_Rows_drain 25 = .ok (.putfield 122, 3) := by decide +kernel
theorem d_Rows_drain_28 : decode b_Rows_drain 28 = .ok (.iconst 1, 1) := by decide +kernel
theorem d_Rows_drain_29 : decode b_Rows_drain 29 = .ok (.ireturn, 1) := by decide +kernel
theorem d_Rows_weight_0 : decode b_Rows_weight 0 = .ok (.iload_n 1, 1) := by decide +kernel
theorem d_Rows_weight_1 : decode b_Rows_weight 1 = .ok (.invokestatic 79, 3) := by decide +kernel
theorem d_Rows_weight_4 : decode b_Rows_weight 4 = .ok (.ifCond .eq 14, 3) := by decide +kernel
theorem d_Rows_weight_7 : decode b_Rows_weight 7 = .ok (.iload_n 2, 1) := by decide +kernel
theorem d_Rows_weight_8 : decode b_Rows_weight 8 = .ok (.iconst 0, 1) := by decide +kernel
theorem d_Rows_weight_9 : decode b_Rows_weight 9 = .ok (.sipush 1000, 3) := by decide +kernel
theorem d_Rows_weight_12 : decode b_Rows_weight 12 = .ok (.invokestatic 75, 3) := by decide +kernel
theorem d_Rows_weight_15 : decode b_Rows_weight 15 = .ok (.ifCond .ne 6, 3) := by decide +kernel
theorem d_Rows_weight_18 : decode b_Rows_weight 18 = .ok (.bipush (-4), 2) := by decide +kernel
theorem d_Rows_weight_20 : decode b_Rows_weight 20 = .ok (.ireturn, 1) := by decide +kernel
theorem d_Rows_weight_21 : decode b_Rows_weight 21 = .ok (.aload_n 0, 1) := by decide +kernel
theorem d_Rows_weight_22 : decode b_Rows_weight 22 = .ok (.getfield 29, 3) := by decide +kernel
theorem d_Rows_weight_25 : decode b_Rows_weight 25 = .ok (.iload_n 1, 1) := by decide +kernel
theorem d_Rows_weight_26 : decode b_Rows_weight 26 = .ok (.iload_n 2, 1) := by decide +kernel
theorem d_Rows_weight_27 : decode b_Rows_weight 27 = .ok (.iastore, 1) := by decide +kernel
theorem d_Rows_weight_28 : decode b_Rows_weight 28 = .ok (.iconst 1, 1) := by decide +kernel
theorem d_Rows_weight_29 : decode b_Rows_weight 29 = .ok (.ireturn, 1) := by decide +kernel
theorem d_Rows_order_0 : decode b_Rows_order 0 = .ok (.iload_n 1, 1) := by decide +kernel
theorem d_Rows_order_1 : decode b_Rows_order 1 = .ok (.ifCond .ge 5, 3) := by decide +kernel
theorem d_Rows_order_4 : decode b_Rows_order 4 = .ok (.iconst (-1), 1) := by decide +kernel
theorem d_Rows_order_5 : decode b_Rows_order 5 = .ok (.ireturn, 1) := by decide +kernel
theorem d_Rows_order_6 : decode b_Rows_order 6 = .ok (.iload_n 1, 1) := by decide +kernel
theorem d_Rows_order_7 : decode b_Rows_order 7 = .ok (.istore_n 2, 1) := by decide +kernel
theorem d_Rows_order_8 : decode b_Rows_order 8 = .ok (.bipush 15, 2) := by decide +kernel
theorem d_Rows_order_10 : decode b_Rows_order 10 = .ok (.istore_n 3, 1) := by decide +kernel
theorem d_Rows_order_11 : decode b_Rows_order 11 = .ok (.iload_n 3, 1) := by decide +kernel
theorem d_Rows_order_12 : decode b_Rows_order 12 = .ok (.ifCond .lt 75, 3) := by decide +kernel
theorem d_Rows_order_15 : decode b_Rows_order 15 = .ok (.iconst 0, 1) := by decide +kernel
theorem d_Rows_order_16 : decode b_Rows_order 16 = .ok (.istore 4, 2) := by decide +kernel
theorem d_Rows_order_18 : decode b_Rows_order 18 = .ok (.iload 4, 2) := by decide +kernel
theorem d_Rows_order_20 : decode b_Rows_order 20 = .ok (.aload_n 0, 1) := by decide +kernel
theorem d_Rows_order_21 : decode b_Rows_order 21 = .ok (.getfield 16, 3) := by decide +kernel
theorem d_Rows_order_24 : decode b_Rows_order 24 = .ok (.invokevirtual 60, 3) := by decide +kernel
theorem d_Rows_order_27 : decode b_Rows_order 27 = .ok (.if_icmp .ge 54, 3) := by decide +kernel
theorem d_Rows_order_30 : decode b_Rows_order 30 = .ok (.aload_n 0, 1) := by decide +kernel
theorem d_Rows_order_31 : decode b_Rows_order 31 = .ok (.getfield 16, 3) := by decide +kernel
theorem d_Rows_order_34 : decode b_Rows_order 34 = .ok (.iload 4, 2) := by decide +kernel
theorem d_Rows_order_36 : decode b_Rows_order 36 = .ok (.invokevirtual 156, 3) := by decide +kernel
theorem d_Rows_order_39 : decode b_Rows_order 39 = .ok (.checkcast 86, 3) := by decide +kernel
theorem d_Rows_order_42 : decode b_Rows_order 42 = .ok (.astore 5, 2) := by decide +kernel
theorem d_Rows_order_44 : decode b_Rows_order 44 = .ok (.aload 5, 2) := by decide +kernel
theorem d_Rows_order_46 : decode b_Rows_order 46 = .ok (.getfield 119, 3) := by decide +kernel
theorem d_Rows_order_49 : decode b_Rows_order 49 = .ok (.ifCond .ne 26, 3) := by decide +kernel
theorem d_Rows_order_52 : decode b_Rows_order 52 = .ok (.aload_n 0, 1) := by decide +kernel
theorem d_Rows_order_53 : decode b_Rows_order 53 = .ok (.aload 5, 2) := by decide +kernel
theorem d_Rows_order_55 : decode b_Rows_order 55 = .ok (.invokevirtual 160, 3) := by decide +kernel
theorem d_Rows_order_58 : decode b_Rows_order 58 = .ok (.iload_n 3, 1) := by decide +kernel
theorem d_Rows_order_59 : decode b_Rows_order 59 = .ok (.if_icmp .ne 16, 3) := by decide +kernel
theorem d_Rows_order_62 : decode b_Rows_order 62 = .ok (.iload_n 2, 1) := by decide +kernel
theorem d_Rows_order_63 : decode b_Rows_order 63 = .ok (.ifCond .ne 9, 3) := by decide +kernel
theorem d_Rows_order_66 : decode b_Rows_order 66 = .ok (.aload 5, 2) := by decide +kernel
theorem d_Rows_order_68 : decode b_Rows_order 68 = .ok (.getfield 136, 3) := by decide +kernel
theorem d_Rows_order_71 : decode b_Rows_order 71 = .ok (.ireturn, 1) := by decide +kernel
theorem d_Rows_order_72 : decode b_Rows_order 72 = .ok (.iinc 2 (-1), 3) := by decide +kernel
theorem d_Rows_order_75 : decode b_Rows_order 75 = .ok (.iinc 4 1, 3) := by decide +kernel
theorem d_Rows_order_78 : decode b_Rows_order 78 = .ok (.goto (-60), 3) := by decide +kernel
theorem d_Rows_order_81 : decode b_Rows_order 81 = .ok (.iinc 3 (-1), 3) := by decide +kernel
theorem d_Rows_order_84 : decode b_Rows_order 84 = .ok (.goto (-73), 3) := by decide +kernel
theorem d_Rows_order_87 : decode b_Rows_order 87 = .ok (.iconst (-1), 1) := by decide +kernel
theorem d_Rows_order_88 : decode b_Rows_order 88 = .ok (.ireturn, 1) := by decide +kernel
theorem d_Rows_waited_0 : decode b_Rows_waited 0 = .ok (.aload_n 0, 1) := by decide +kernel
theorem d_Rows_waited_1 : decode b_Rows_waited 1 = .ok (.iload_n 1, 1) := by decide +kernel
theorem d_Rows_waited_2 : decode b_Rows_waited 2 = .ok (.invokevirtual 91, 3) := by decide +kernel
theorem d_Rows_waited_5 : decode b_Rows_waited 5 = .ok (.astore_n 2, 1) := by decide +kernel
theorem d_Rows_waited_6 : decode b_Rows_waited 6 = .ok (.aload_n 2, 1) := by decide +kernel
theorem d_Rows_waited_7 : decode b_Rows_waited 7 = .ok (.ifnonnull 7, 3) := by decide +kernel
theorem d_Rows_waited_10 : decode b_Rows_waited 10 = .ok (.ldc2_w 143, 3) := by decide +kernel
theorem d_Rows_waited_13 : decode b_Rows_waited 13 = .ok (.lreturn, 1) := by decide +kernel
theorem d_Rows_waited_14 : decode b_Rows_waited 14 = .ok (.aload_n 2, 1) := by decide +kernel
theorem d_Rows_waited_15 : decode b_Rows_waited 15 = .ok (.invokevirtual 95, 3) := by decide +kernel
theorem d_Rows_waited_18 : decode b_Rows_waited 18 = .ok (.ifCond .eq 10, 3) := by decide +kernel
theorem d_Rows_waited_21 : decode b_Rows_waited 21 = .ok (.aload_n 0, 1) := by decide +kernel
theorem d_Rows_waited_22 : decode b_Rows_waited 22 = .ok (.getfield 49, 3) := by decide +kernel
theorem d_Rows_waited_25 : decode b_Rows_waited 25 = .ok (.goto 7, 3) := by decide +kernel
theorem d_Rows_waited_28 : decode b_Rows_waited 28 = .ok (.aload_n 2, 1) := by decide +kernel
theorem d_Rows_waited_29 : decode b_Rows_waited 29 = .ok (.getfield 164, 3) := by decide +kernel
theorem d_Rows_waited_32 : decode b_Rows_waited 32 = .ok (.aload_n 2, 1) := by decide +kernel
theorem d_Rows_waited_33 : decode b_Rows_waited 33 = .ok (.getfield 167, 3) := by decide +kernel
theorem d_Rows_waited_36 : decode b_Rows_waited 36 = .ok (.lsub, 1) := by decide +kernel
theorem d_Rows_waited_37 : decode b_Rows_waited 37 = .ok (.lreturn, 1) := by decide +kernel
theorem d_Rows_state_0 : decode b_Rows_state 0 = .ok (.aload_n 0, 1) := by decide +kernel
theorem d_Rows_state_1 : decode b_Rows_state 1 = .ok (.iload_n 1, 1) := by decide +kernel
theorem d_Rows_state_2 : decode b_Rows_state 2 = .ok (.invokevirtual 91, 3) := by decide +kernel
theorem d_Rows_state_5 : decode b_Rows_state 5 = .ok (.astore_n 2, 1) := by decide +kernel
theorem d_Rows_state_6 : decode b_Rows_state 6 = .ok (.aload_n 2, 1) := by decide +kernel
theorem d_Rows_state_7 : decode b_Rows_state 7 = .ok (.ifnonnull 7, 3) := by decide +kernel
theorem d_Rows_state_10 : decode b_Rows_state 10 = .ok (.iconst (-1), 1) := by decide +kernel
theorem d_Rows_state_11 : decode b_Rows_state 11 = .ok (.goto 7, 3) := by decide +kernel
theorem d_Rows_state_14 : decode b_Rows_state 14 = .ok (.aload_n 2, 1) := by decide +kernel
theorem d_Rows_state_15 : decode b_Rows_state 15 = .ok (.getfield 119, 3) := by decide +kernel
theorem d_Rows_state_18 : decode b_Rows_state 18 = .ok (.ireturn, 1) := by decide +kernel
theorem d_Rows_jobsIn_0 : decode b_Rows_jobsIn 0 = .ok (.iconst 0, 1) := by decide +kernel
theorem d_Rows_jobsIn_1 : decode b_Rows_jobsIn 1 = .ok (.istore_n 2, 1) := by decide +kernel
theorem d_Rows_jobsIn_2 : decode b_Rows_jobsIn 2 = .ok (.iconst 0, 1) := by decide +kernel
theorem d_Rows_jobsIn_3 : decode b_Rows_jobsIn 3 = .ok (.istore_n 3, 1) := by decide +kernel
theorem d_Rows_jobsIn_4 : decode b_Rows_jobsIn 4 = .ok (.iload_n 3, 1) := by decide +kernel
theorem d_Rows_jobsIn_5 : decode b_Rows_jobsIn 5 = .ok (.aload_n 0, 1) := by decide +kernel
theorem d_Rows_jobsIn_6 : decode b_Rows_jobsIn 6 = .ok (.getfield 16, 3) := by decide +kernel
theorem d_Rows_jobsIn_9 : decode b_Rows_jobsIn 9 = .ok (.invokevirtual 60, 3) := by decide +kernel
theorem d_Rows_jobsIn_12 : decode b_Rows_jobsIn 12 = .ok (.if_icmp .ge 30, 3) := by decide +kernel
theorem d_Rows_jobsIn_15 : decode b_Rows_jobsIn 15 = .ok (.aload_n 0, 1) := by decide +kernel
theorem d_Rows_jobsIn_16 : decode b_Rows_jobsIn 16 = .ok (.getfield 16, 3) := by decide +kernel
theorem d_Rows_jobsIn_19 : decode b_Rows_jobsIn 19 = .ok (.iload_n 3, 1) := by decide +kernel
theorem d_Rows_jobsIn_20 : decode b_Rows_jobsIn 20 = .ok (.invokevirtual 156, 3) := by decide +kernel
theorem d_Rows_jobsIn_23 : decode b_Rows_jobsIn 23 = .ok (.checkcast 86, 3) := by decide +kernel
theorem d_Rows_jobsIn_26 : decode b_Rows_jobsIn 26 = .ok (.getfield 119, 3) := by decide +kernel
theorem d_Rows_jobsIn_29 : decode b_Rows_jobsIn 29 = .ok (.iload_n 1, 1) := by decide +kernel
theorem d_Rows_jobsIn_30 : decode b_Rows_jobsIn 30 = .ok (.if_icmp .ne 6, 3) := by decide +kernel
theorem d_Rows_jobsIn_33 : decode b_Rows_jobsIn 33 = .ok (.iinc 2 1, 3) := by decide +kernel
theorem d_Rows_jobsIn_36 : decode b_Rows_jobsIn 36 = .ok (.iinc 3 1, 3) := by decide +kernel
theorem d_Rows_jobsIn_39 : decode b_Rows_jobsIn 39 = .ok (.goto (-35), 3) := by decide +kernel
theorem d_Rows_jobsIn_42 : decode b_Rows_jobsIn 42 = .ok (.iload_n 2, 1) := by decide +kernel
theorem d_Rows_jobsIn_43 : decode b_Rows_jobsIn 43 = .ok (.ireturn, 1) := by decide +kernel
theorem d_Rows_drainedAndIdle_0 : decode b_Rows_drainedAndIdle 0 = .ok (.iconst 0, 1) := by decide +kernel
theorem d_Rows_drainedAndIdle_1 : decode b_Rows_drainedAndIdle 1 = .ok (.istore_n 1, 1) := by decide +kernel
theorem d_Rows_drainedAndIdle_2 : decode b_Rows_drainedAndIdle 2 = .ok (.iconst 0, 1) := by decide +kernel
theorem d_Rows_drainedAndIdle_3 : decode b_Rows_drainedAndIdle 3 = .ok (.istore_n 2, 1) := by decide +kernel
theorem d_Rows_drainedAndIdle_4 : decode b_Rows_drainedAndIdle 4 = .ok (.iload_n 2, 1) := by decide +kernel
theorem d_Rows_drainedAndIdle_5 : decode b_Rows_drainedAndIdle 5 = .ok (.aload_n 0, 1) := by decide +kernel
theorem d_Rows_drainedAndIdle_6 : decode b_Rows_drainedAndIdle 6 = .ok (.getfield 10, 3) := by decide +kernel
theorem d_Rows_drainedAndIdle_9 : decode b_Rows_drainedAndIdle 9 = .ok (.invokevirtual 60, 3) := by decide +kernel
theorem d_Rows_drainedAndIdle_12 : decode b_Rows_drainedAndIdle 12 = .ok (.if_icmp .ge 38, 3) := by decide +kernel
theorem d_Rows_drainedAndIdle_15 : decode b_Rows_drainedAndIdle 15 = .ok (.aload_n 0, 1) := by decide +kernel
theorem d_Rows_drainedAndIdle_16 : decode b_Rows_drainedAndIdle 16 = .ok (.getfield 10, 3) := by decide +kernel
theorem d_Rows_drainedAndIdle_19 : decode b_Rows_drainedAndIdle 19 = .ok (.iload_n 2, 1) := by decide +kernel
theorem d_Rows_drainedAndIdle_20 : decode b_Rows_drainedAndIdle 20 = .ok (.invokevirtual 156, 3) := by decide +kernel
theorem d_Rows_drainedAndIdle_23 : decode b_Rows_drainedAndIdle 23 = .ok (.checkcast 64, 3) := by decide +kernel
theorem d_Rows_drainedAndIdle_26 : decode b_Rows_drainedAndIdle 26 = .ok (.astore_n 3, 1) := by decide +kernel
theorem d_Rows_drainedAndIdle_27 : decode b_Rows_drainedAndIdle 27 = .ok (.aload_n 3, 1) := by decide +kernel
theorem d_Rows_drainedAndIdle_28 : decode b_Rows_drainedAndIdle 28 = .ok (.getfield 122, 3) := by decide +kernel
theorem d_Rows_drainedAndIdle_31 : decode b_Rows_drainedAndIdle 31 = .ok (.ifCond .eq 13, 3) := by decide +kernel
theorem d_Rows_drainedAndIdle_34 : decode b_Rows_drainedAndIdle 34 = .ok (.aload_n 3, 1) := by decide +kernel
theorem d_Rows_drainedAndIdle_35 : decode b_Rows_drainedAndIdle 35 = .ok (.getfield 125, 3) := by decide +kernel
theorem d_Rows_drainedAndIdle_38 : decode b_Rows_drainedAndIdle 38 = .ok (.ifCond .ne 6, 3) := by decide +kernel
theorem d_Rows_drainedAndIdle_41 : decode b_Rows_drainedAndIdle 41 = .ok (.iinc 1 1, 3) := by decide +kernel
theorem d_Rows_drainedAndIdle_44 : decode b_Rows_drainedAndIdle 44 = .ok (.iinc 2 1, 3) := by decide +kernel
theorem d_Rows_drainedAndIdle_47 : decode b_Rows_drainedAndIdle 47 = .ok (.goto (-43), 3) := by decide +kernel
theorem d_Rows_drainedAndIdle_50 : decode b_Rows_drainedAndIdle 50 = .ok (.iload_n 1, 1) := by decide +kernel
theorem d_Rows_drainedAndIdle_51 : decode b_Rows_drainedAndIdle 51 = .ok (.ireturn, 1) := by decide +kernel
theorem d_Rows_unitsInUse_0 : decode b_Rows_unitsInUse 0 = .ok (.iload_n 1, 1) := by decide +kernel
theorem d_Rows_unitsInUse_1 : decode b_Rows_unitsInUse 1 = .ok (.bipush 10, 2) := by decide +kernel
theorem d_Rows_unitsInUse_3 : decode b_Rows_unitsInUse 3 = .ok (.bipush 13, 2) := by decide +kernel
theorem d_Rows_unitsInUse_5 : decode b_Rows_unitsInUse 5 = .ok (.invokestatic 75, 3) := by decide +kernel
theorem d_Rows_unitsInUse_8 : decode b_Rows_unitsInUse 8 = .ok (.ifCond .ne 5, 3) := by decide +kernel
theorem d_Rows_unitsInUse_11 : decode b_Rows_unitsInUse 11 = .ok (.iconst (-1), 1) := by decide +kernel
theorem d_Rows_unitsInUse_12 : decode b_Rows_unitsInUse 12 = .ok (.ireturn, 1) := by decide +kernel
theorem d_Rows_unitsInUse_13 : decode b_Rows_unitsInUse 13 = .ok (.aload_n 0, 1) := by decide +kernel
theorem d_Rows_unitsInUse_14 : decode b_Rows_unitsInUse 14 = .ok (.getfield 38, 3) := by decide +kernel
theorem d_Rows_unitsInUse_17 : decode b_Rows_unitsInUse 17 = .ok (.getfield 225, 3) := by decide +kernel
theorem d_Rows_unitsInUse_20 : decode b_Rows_unitsInUse 20 = .ok (.iload_n 1, 1) := by decide +kernel
theorem d_Rows_unitsInUse_21 : decode b_Rows_unitsInUse 21 = .ok (.bipush 10, 2) := by decide +kernel
theorem d_Rows_unitsInUse_23 : decode b_Rows_unitsInUse 23 = .ok (.isub, 1) := by decide +kernel
theorem d_Rows_unitsInUse_24 : decode b_Rows_unitsInUse 24 = .ok (.iaload, 1) := by decide +kernel
theorem d_Rows_unitsInUse_25 : decode b_Rows_unitsInUse 25 = .ok (.ireturn, 1) := by decide +kernel
theorem d_Rows_count_0 : decode b_Rows_count 0 = .ok (.iload_n 1, 1) := by decide +kernel
theorem d_Rows_count_1 : decode b_Rows_count 1 = .ok (.tableswitch 86 0 5 #[39, 47, 55, 67, 73, 81], 39) := by decide +kernel
theorem d_Rows_count_40 : decode b_Rows_count 40 = .ok (.aload_n 0, 1) := by decide +kernel
theorem d_Rows_count_41 : decode b_Rows_count 41 = .ok (.getfield 10, 3) := by decide +kernel
theorem d_Rows_count_44 : decode b_Rows_count 44 = .ok (.invokevirtual 60, 3) := by decide +kernel
theorem d_Rows_count_47 : decode b_Rows_count 47 = .ok (.ireturn, 1) := by decide +kernel
theorem d_Rows_count_48 : decode b_Rows_count 48 = .ok (.aload_n 0, 1) := by decide +kernel
theorem d_Rows_count_49 : decode b_Rows_count 49 = .ok (.getfield 16, 3) := by decide +kernel
theorem d_Rows_count_52 : decode b_Rows_count 52 = .ok (.invokevirtual 60, 3) := by decide +kernel
theorem d_Rows_count_55 : decode b_Rows_count 55 = .ok (.ireturn, 1) := by decide +kernel
theorem d_Rows_count_56 : decode b_Rows_count 56 = .ok (.aload_n 0, 1) := by decide +kernel
theorem d_Rows_count_57 : decode b_Rows_count 57 = .ok (.iconst 0, 1) := by decide +kernel
theorem d_Rows_count_58 : decode b_Rows_count 58 = .ok (.invokevirtual 170, 3) := by decide +kernel
theorem d_Rows_count_61 : decode b_Rows_count 61 = .ok (.aload_n 0, 1) := by decide +kernel
theorem d_Rows_count_62 : decode b_Rows_count 62 = .ok (.iconst 1, 1) := by decide +kernel
theorem d_Rows_count_63 : decode b_Rows_count 63 = .ok (.invokevirtual 170, 3) := by decide +kernel
theorem d_Rows_count_66 : decode b_Rows_count 66 = .ok (.iadd, 1) := by decide +kernel
theorem d_Rows_count_67 : decode b_Rows_count 67 = .ok (.ireturn, 1) := by decide +kernel
theorem d_Rows_count_68 : decode b_Rows_count 68 = .ok (.aload_n 0, 1) := by decide +kernel
theorem d_Rows_count_69 : decode b_Rows_count 69 = .ok (.iconst 1, 1) := by decide +kernel
theorem d_Rows_count_70 : decode b_Rows_count 70 = .ok (.invokevirtual 170, 3) := by decide +kernel
theorem d_Rows_count_73 : decode b_Rows_count 73 = .ok (.ireturn, 1) := by decide +kernel
theorem d_Rows_count_74 : decode b_Rows_count 74 = .ok (.aload_n 0, 1) := by decide +kernel
theorem d_Rows_count_75 : decode b_Rows_count 75 = .ok (.getfield 38, 3) := by decide +kernel
theorem d_Rows_count_78 : decode b_Rows_count 78 = .ok (.getfield 174, 3) := by decide +kernel
theorem d_Rows_count_81 : decode b_Rows_count 81 = .ok (.ireturn, 1) := by decide +kernel
theorem d_Rows_count_82 : decode b_Rows_count 82 = .ok (.aload_n 0, 1) := by decide +kernel
theorem d_Rows_count_83 : decode b_Rows_count 83 = .ok (.invokevirtual 177, 3) := by decide +kernel
theorem d_Rows_count_86 : decode b_Rows_count 86 = .ok (.ireturn, 1) := by decide +kernel
theorem d_Rows_count_87 : decode b_Rows_count 87 = .ok (.aload_n 0, 1) := by decide +kernel
theorem d_Rows_count_88 : decode b_Rows_count 88 = .ok (.iload_n 1, 1) := by decide +kernel
theorem d_Rows_count_89 : decode b_Rows_count 89 = .ok (.invokevirtual 180, 3) := by decide +kernel
theorem d_Rows_count_92 : decode b_Rows_count 92 = .ok (.ireturn, 1) := by decide +kernel
theorem d_Rows_sumOfWeights_0 : decode b_Rows_sumOfWeights 0 = .ok (.lconst 0, 1) := by decide +kernel
theorem d_Rows_sumOfWeights_1 : decode b_Rows_sumOfWeights 1 = .ok (.lstore_n 1, 1) := by decide +kernel
theorem d_Rows_sumOfWeights_2 : decode b_Rows_sumOfWeights 2 = .ok (.iconst 0, 1) := by decide +kernel
theorem d_Rows_sumOfWeights_3 : decode b_Rows_sumOfWeights 3 = .ok (.istore_n 3, 1) := by decide +kernel
theorem d_Rows_sumOfWeights_4 : decode b_Rows_sumOfWeights 4 = .ok (.iload_n 3, 1) := by decide +kernel
theorem d_Rows_sumOfWeights_5 : decode b_Rows_sumOfWeights 5 = .ok (.aload_n 0, 1) := by decide +kernel
theorem d_Rows_sumOfWeights_6 : decode b_Rows_sumOfWeights 6 = .ok (.getfield 29, 3) := by decide +kernel
theorem d_Rows_sumOfWeights_9 : decode b_Rows_sumOfWeights 9 = .ok (.arraylength, 1) := by decide +kernel
theorem d_Rows_sumOfWeights_10 : decode b_Rows_sumOfWeights 10 = .ok (.if_icmp .ge 19, 3) := by decide +kernel
theorem d_Rows_sumOfWeights_13 : decode b_Rows_sumOfWeights 13 = .ok (.lload_n 1, 1) := by decide +kernel
theorem d_Rows_sumOfWeights_14 : decode b_Rows_sumOfWeights 14 = .ok (.aload_n 0, 1) := by decide +kernel
theorem d_Rows_sumOfWeights_15 : decode b_Rows_sumOfWeights 15 = .ok (.getfield 29, 3) := by decide +kernel
theorem d_Rows_sumOfWeights_18 : decode b_Rows_sumOfWeights 18 = .ok (.iload_n 3, 1) := by decide +kernel
theorem d_Rows_sumOfWeights_19 : decode b_Rows_sumOfWeights 19 = .ok (.iaload, 1) := by decide +kernel
theorem d_Rows_sumOfWeights_20 : decode b_Rows_sumOfWeights 20 = .ok (.i2l, 1) := by decide +kernel
theorem d_Rows_sumOfWeights_21 : decode b_Rows_sumOfWeights 21 = .ok (.ladd, 1) := by decide +kernel
theorem d_Rows_sumOfWeights_22 : decode b_Rows_sumOfWeights 22 = .ok (.lstore_n 1, 1) := by decide +kernel
theorem d_Rows_sumOfWeights_23 : decode b_Rows_sumOfWeights 23 = .ok (.iinc 3 1, 3) := by decide +kernel
theorem d_Rows_sumOfWeights_26 : decode b_Rows_sumOfWeights 26 = .ok (.goto (-22), 3) := by decide +kernel
theorem d_Rows_sumOfWeights_29 : decode b_Rows_sumOfWeights 29 = .ok (.lload_n 1, 1) := by decide +kernel
theorem d_Rows_sumOfWeights_30 : decode b_Rows_sumOfWeights 30 = .ok (.lreturn, 1) := by decide +kernel
end
section
theorem d_Mod_init_0 : decode b_Mod_init 0 = .ok (.aload_n 0, 1) := by decide +kernel
theorem d_Mod_init_1 : decode b_Mod_init 1 = .ok (.invokespecial 1, 3) := by decide +kernel
theorem d_Mod_init_4 : decode b_Mod_init 4 = .ok (.aload_n 0, 1) := by decide +kernel
theorem d_Mod_init_5 : decode b_Mod_init 5 = .ok (.bipush 96, 2) := by decide +kernel
theorem d_Mod_init_7 : decode b_Mod_init 7 = .ok (.newarray .int, 2) := by decide +kernel
theorem d_Mod_init_9 : decode b_Mod_init 9 = .ok (.putfield 7, 3) := by decide +kernel
theorem d_Mod_init_12 : decode b_Mod_init 12 = .ok (.aload_n 0, 1) := by decide +kernel
theorem d_Mod_init_13 : decode b_Mod_init 13 = .ok (.bipush 12, 2) := by decide +kernel
theorem d_Mod_init_15 : decode b_Mod_init 15 = .ok (.newarray .int, 2) := by decide +kernel
theorem d_Mod_init_17 : decode b_Mod_init 17 = .ok (.putfield 13, 3) := by decide +kernel
theorem d_Mod_init_20 : decode b_Mod_init 20 = .ok (.aload_n 0, 1) := by decide +kernel
theorem d_Mod_init_21 : decode b_Mod_init 21 = .ok (.bipush 12, 2) := by decide +kernel
theorem d_Mod_init_23 : decode b_Mod_init 23 = .ok (.newarray .boolean, 2) := by decide +kernel
theorem d_Mod_init_25 : decode b_Mod_init 25 = .ok (.putfield 16, 3) := by decide +kernel
theorem d_Mod_init_28 : decode b_Mod_init 28 = .ok (.aload_n 0, 1) := by decide +kernel
theorem d_Mod_init_29 : decode b_Mod_init 29 = .ok (.bipush 36, 2) := by decide +kernel
theorem d_Mod_init_31 : decode b_Mod_init 31 = .ok (.newarray .int, 2) := by decide +kernel
theorem d_Mod_init_33 : decode b_Mod_init 33 = .ok (.putfield 20, 3) := by decide +kernel
theorem d_Mod_init_36 : decode b_Mod_init 36 = .ok (.aload_n 0, 1) := by decide +kernel
theorem d_Mod_init_37 : decode b_Mod_init 37 = .ok (.bipush 36, 2) := by decide +kernel
theorem d_Mod_init_39 : decode b_Mod_init 39 = .ok (.newarray .int, 2) := by decide +kernel
theorem d_Mod_init_41 : decode b_Mod_init 41 = .ok (.putfield 23, 3) := by decide +kernel
theorem d_Mod_init_44 : decode b_Mod_init 44 = .ok (.aload_n 0, 1) := by decide +kernel
theorem d_Mod_init_45 : decode b_Mod_init 45 = .ok (.bipush 36, 2) := by decide +kernel
theorem d_Mod_init_47 : decode b_Mod_init 47 = .ok (.newarray .int, 2) := by decide +kernel
theorem d_Mod_init_49 : decode b_Mod_init 49 = .ok (.putfield 26, 3) := by decide +kernel
theorem d_Mod_init_52 : decode b_Mod_init 52 = .ok (.aload_n 0, 1) := by decide +kernel
theorem d_Mod_init_53 : decode b_Mod_init 53 = .ok (.bipush 36, 2) := by decide +kernel
theorem d_Mod_init_55 : decode b_Mod_init 55 = .ok (.newarray .int, 2) := by decide +kernel
theorem d_Mod_init_57 : decode b_Mod_init 57 = .ok (.putfield 29, 3) := by decide +kernel
theorem d_Mod_init_60 : decode b_Mod_init 60 = .ok (.aload_n 0, 1) := by decide +kernel
theorem d_Mod_init_61 : decode b_Mod_init 61 = .ok (.iconst 4, 1) := by decide +kernel
theorem d_Mod_init_62 : decode b_Mod_init 62 = .ok (.newarray .int, 2) := by decide +kernel
theorem d_Mod_init_64 : decode b_Mod_init 64 = .ok (.putfield 32, 3) := by decide +kernel
theorem d_Mod_init_67 : decode b_Mod_init 67 = .ok (.aload_n 0, 1) := by decide +kernel
theorem d_Mod_init_68 : decode b_Mod_init 68 = .ok (.bipush 100, 2) := by decide +kernel
theorem d_Mod_init_70 : decode b_Mod_init 70 = .ok (.newarray .int, 2) := by decide +kernel
theorem d_Mod_init_72 : decode b_Mod_init 72 = .ok (.putfield 35, 3) := by decide +kernel
theorem d_Mod_init_75 : decode b_Mod_init 75 = .ok (.aload_n 0, 1) := by decide +kernel
theorem d_Mod_init_76 : decode b_Mod_init 76 = .ok (.bipush 100, 2) := by decide +kernel
theorem d_Mod_init_78 : decode b_Mod_init 78 = .ok (.newarray .int, 2) := by decide +kernel
theorem d_Mod_init_80 : decode b_Mod_init 80 = .ok (.putfield 38, 3) := by decide +kernel
theorem d_Mod_init_83 : decode b_Mod_init 83 = .ok (.aload_n 0, 1) := by decide +kernel
theorem d_Mod_init_84 : decode b_Mod_init 84 = .ok (.bipush 100, 2) := by decide +kernel
theorem d_Mod_init_86 : decode b_Mod_init 86 = .ok (.newarray .int, 2) := by decide +kernel
theorem d_Mod_init_88 : decode b_Mod_init 88 = .ok (.putfield 41, 3) := by decide +kernel
theorem d_Mod_init_91 : decode b_Mod_init 91 = .ok (.aload_n 0, 1) := by decide +kernel
theorem d_Mod_init_92 : decode b_Mod_init 92 = .ok (.bipush 100, 2) := by decide +kernel
theorem d_Mod_init_94 : decode b_Mod_init 94 = .ok (.newarray .int, 2) := by decide +kernel
theorem d_Mod_init_96 : decode b_Mod_init 96 = .ok (.putfield 44, 3) := by decide +kernel
theorem d_Mod_init_99 : decode b_Mod_init 99 = .ok (.aload_n 0, 1) := by decide +kernel
theorem d_Mod_init_100 : decode b_Mod_init 100 = .ok (.sipush 400, 3) := by decide +kernel
theorem d_Mod_init_103 : decode b_Mod_init 103 = .ok (.newarray .int, 2) := by decide +kernel
theorem d_Mod_init_105 : decode b_Mod_init 105 = .ok (.putfield 47, 3) := by decide +kernel
theorem d_Mod_init_108 : decode b_Mod_init 108 = .ok (.aload_n 0, 1) := by decide +kernel
theorem d_Mod_init_109 : decode b_Mod_init 109 = .ok (.bipush 100, 2) := by decide +kernel
theorem d_Mod_init_111 : decode b_Mod_init 111 = .ok (.newarray .boolean, 2) := by decide +kernel
theorem d_Mod_init_113 : decode b_Mod_init 113 = .ok (.putfield 50, 3) := by decide +kernel
theorem d_Mod_init_116 : decode b_Mod_init 116 = .ok (.aload_n 0, 1) := by decide +kernel
theorem d_Mod_init_117 : decode b_Mod_init 117 = .ok (.bipush 100, 2) := by decide +kernel
theorem d_Mod_init_119 : decode b_Mod_init 119 = .ok (.newarray .boolean, 2) := by decide +kernel
theorem d_Mod_init_121 : decode b_Mod_init 121 = .ok (.putfield 53, 3) := by decide +kernel
theorem d_Mod_init_124 : decode b_Mod_init 124 = .ok (.aload_n 0, 1) := by decide +kernel
theorem d_Mod_init_125 : decode b_Mod_init 125 = .ok (.sipush 10000, 3) := by decide +kernel
theorem d_Mod_init_128 : decode b_Mod_init 128 = .ok (.newarray .boolean, 2) := by decide +kernel
theorem d_Mod_init_130 : decode b_Mod_init 130 = .ok (.putfield 56, 3) := by decide +kernel
theorem d_Mod_init_133 : decode b_Mod_init 133 = .ok (.aload_n 0, 1) := by decide +kernel
theorem d_Mod_init_134 : decode b_Mod_init 134 = .ok (.bipush 100, 2) := by decide +kernel
theorem d_Mod_init_136 : decode b_Mod_init 136 = .ok (.newarray .boolean, 2) := by decide +kernel
theorem d_Mod_init_138 : decode b_Mod_init 138 = .ok (.putfield 59, 3) := by decide +kernel
theorem d_Mod_init_141 : decode b_Mod_init 141 = .ok (.aload_n 0, 1) := by decide +kernel
theorem d_Mod_init_142 : decode b_Mod_init 142 = .ok (.bipush 100, 2) := by decide +kernel
theorem d_Mod_init_144 : decode b_Mod_init 144 = .ok (.newarray .long, 2) := by decide +kernel
theorem d_Mod_init_146 : decode b_Mod_init 146 = .ok (.putfield 62, 3) := by decide +kernel
theorem d_Mod_init_149 : decode b_Mod_init 149 = .ok (.aload_n 0, 1) := by decide +kernel
theorem d_Mod_init_150 : decode b_Mod_init 150 = .ok (.bipush 100, 2) := by decide +kernel
theorem d_Mod_init_152 : decode b_Mod_init 152 = .ok (.newarray .long, 2) := by decide +kernel
theorem d_Mod_init_154 : decode b_Mod_init 154 = .ok (.putfield 66, 3) := by decide +kernel
theorem d_Mod_init_157 : decode b_Mod_init 157 = .ok (.iconst 0, 1) := by decide +kernel
theorem d_Mod_init_158 : decode b_Mod_init 158 = .ok (.istore_n 1, 1) := by decide +kernel
theorem d_Mod_init_159 : decode b_Mod_init 159 = .ok (.iload_n 1, 1) := by decide +kernel
theorem d_Mod_init_160 : decode b_Mod_init 160 = .ok (.aload_n 0, 1) := by decide +kernel
theorem d_Mod_init_161 : decode b_Mod_init 161 = .ok (.getfield 7, 3) := by decide +kernel
theorem d_Mod_init_164 : decode b_Mod_init 164 = .ok (.arraylength, 1) := by decide +kernel
theorem d_Mod_init_165 : decode b_Mod_init 165 = .ok (.if_icmp .ge 16, 3) := by decide +kernel
theorem d_Mod_init_168 : decode b_Mod_init 168 = .ok (.aload_n 0, 1) := by decide +kernel
theorem d_Mod_init_169 : decode b_Mod_init 169 = .ok (.getfield 7, 3) := by decide +kernel
theorem d_Mod_init_172 : decode b_Mod_init 172 = .ok (.iload_n 1, 1) := by decide +kernel
theorem d_Mod_init_173 : decode b_Mod_init 173 = .ok (.iconst (-1), 1) := by decide +kernel
theorem d_Mod_init_174 : decode b_Mod_init 174 = .ok (.iastore, 1) := by decide +kernel
theorem d_Mod_init_175 : decode b_Mod_init 175 = .ok (.iinc 1 1, 3) := by decide +kernel
theorem d_Mod_init_178 : decode b_Mod_init 178 = .ok (.goto (-19), 3) := by decide +kernel
theorem d_Mod_init_181 : decode b_Mod_init 181 = .ok (.iconst 0, 1) := by decide +kernel
theorem d_Mod_init_182 : decode b_Mod_init 182 = .ok (.istore_n 1, 1) := by decide +kernel
theorem d_Mod_init_183 : decode b_Mod_init 183 = .ok (.iload_n 1, 1) := by decide +kernel
theorem d_Mod_init_184 : decode b_Mod_init 184 = .ok (.bipush 36, 2) := by decide +kernel
theorem d_Mod_init_186 : decode b_Mod_init 186 = .ok (.if_icmp .ge 17, 3) := by decide +kernel
theorem d_Mod_init_189 : decode b_Mod_init 189 = .ok (.aload_n 0, 1) := by decide +kernel
theorem d_Mod_init_190 : decode b_Mod_init 190 = .ok (.getfield 20, 3) := by decide +kernel
theorem d_Mod_init_193 : decode b_Mod_init 193 = .ok (.iload_n 1, 1) := by decide +kernel
theorem d_Mod_init_194 : decode b_Mod_init 194 = .ok (.bipush 40, 2) := by decide +kernel
theorem d_Mod_init_196 : decode b_Mod_init 196 = .ok (.iastore, 1) := by decide +kernel
theorem d_Mod_init_197 : decode b_Mod_init 197 = .ok (.iinc 1 1, 3) := by decide +kernel
theorem d_Mod_init_200 : decode b_Mod_init 200 = .ok (.goto (-17), 3) := by decide +kernel
theorem d_Mod_init_203 : decode b_Mod_init 203 = .ok (.iconst 0, 1) := by decide +kernel
theorem d_Mod_init_204 : decode b_Mod_init 204 = .ok (.istore_n 1, 1) := by decide +kernel
theorem d_Mod_init_205 : decode b_Mod_init 205 = .ok (.iload_n 1, 1) := by decide +kernel
theorem d_Mod_init_206 : decode b_Mod_init 206 = .ok (.bipush 12, 2) := by decide +kernel
theorem d_Mod_init_208 : decode b_Mod_init 208 = .ok (.if_icmp .ge 16, 3) := by decide +kernel
theorem d_Mod_init_211 : decode b_Mod_init 211 = .ok (.aload_n 0, 1) := by decide +kernel
theorem d_Mod_init_212 : decode b_Mod_init 212 = .ok (.getfield 13, 3) := by decide +kernel
theorem d_Mod_init_215 : decode b_Mod_init 215 = .ok (.iload_n 1, 1) := by decide +kernel
theorem d_Mod_init_216 : decode b_Mod_init 216 = .ok (.iconst (-1), 1) := by decide +kernel
theorem d_Mod_init_217 : decode b_Mod_init 217 = .ok (.iastore, 1) := by decide +kernel
theorem d_Mod_init_218 : decode b_Mod_init 218 = .ok (.iinc 1 1, 3) := by decide +kernel
theorem d_Mod_init_221 : decode b_Mod_init 221 = .ok (.goto (-16), 3) := by decide +kernel
theorem d_Mod_init_224 : decode b_Mod_init 224 = .ok (.return_, 1) := by decide +kernel
theorem d_Mod_thrown_0 : decode b_Mod_thrown 0 = .ok (.aload_n 0, 1) := by decide +kernel
theorem d_Mod_thrown_1 : decode b_Mod_thrown 1 = .ok (.getfield 69, 3) := by decide +kernel
theorem d_Mod_thrown_4 : decode b_Mod_thrown 4 = .ok (.ireturn, 1) := by decide +kernel
theorem d_Mod_isInitiator_0 : decode b_Mod_isInitiator 0 = .ok (.iload_n 1, 1) := by decide +kernel
theorem d_Mod_isInitiator_1 : decode b_Mod_isInitiator 1 = .ok (.iconst 1, 1) := by decide +kernel
theorem d_Mod_isInitiator_2 : decode b_Mod_isInitiator 2 = .ok (.if_icmp .lt 15, 3) := by decide +kernel
theorem d_Mod_isInitiator_5 : decode b_Mod_isInitiator 5 = .ok (.iload_n 1, 1) := by decide +kernel
theorem d_Mod_isInitiator_6 : decode b_Mod_isInitiator 6 = .ok (.aload_n 0, 1) := by decide +kernel
theorem d_Mod_isInitiator_7 : decode b_Mod_isInitiator 7 = .ok (.getfield 73, 3) := by decide +kernel
theorem d_Mod_isInitiator_10 : decode b_Mod_isInitiator 10 = .ok (.if_icmp .gt 7, 3) := by decide +kernel
theorem d_Mod_isInitiator_13 : decode b_Mod_isInitiator 13 = .ok (.iconst 1, 1) := by decide +kernel
theorem d_Mod_isInitiator_14 : decode b_Mod_isInitiator 14 = .ok (.goto 4, 3) := by decide +kernel
theorem d_Mod_isInitiator_17 : decode b_Mod_isInitiator 17 = .ok (.iconst 0, 1) := by decide +kernel
theorem d_Mod_isInitiator_18 : decode b_Mod_isInitiator 18 = .ok (.ireturn, 1) := by decide +kernel
theorem d_Mod_isJob_0 : decode b_Mod_isJob 0 = .ok (.iload_n 1, 1) := by decide +kernel
theorem d_Mod_isJob_1 : decode b_Mod_isJob 1 = .ok (.iconst 1, 1) := by decide +kernel
theorem d_Mod_isJob_2 : decode b_Mod_isJob 2 = .ok (.if_icmp .lt 15, 3) := by decide +kernel
theorem d_Mod_isJob_5 : decode b_Mod_isJob 5 = .ok (.iload_n 1, 1) := by decide +kernel
theorem d_Mod_isJob_6 : decode b_Mod_isJob 6 = .ok (.aload_n 0, 1) := by decide +kernel
theorem d_Mod_isJob_7 : decode b_Mod_isJob 7 = .ok (.getfield 76, 3) := by decide +kernel
theorem d_Mod_isJob_10 : decode b_Mod_isJob 10 = .ok (.if_icmp .gt 7, 3) := by decide +kernel
theorem d_Mod_isJob_13 : decode b_Mod_isJob 13 = .ok (.iconst 1, 1) := by decide +kernel
theorem d_Mod_isJob_14 : decode b_Mod_isJob 14 = .ok (.goto 4, 3) := by decide +kernel
theorem d_Mod_isJob_17 : decode b_Mod_isJob 17 = .ok (.iconst 0, 1) := by decide +kernel
theorem d_Mod_isJob_18 : decode b_Mod_isJob 18 = .ok (.ireturn, 1) := by decide +kernel
theorem d_Mod_isClass_0 : decode b_Mod_isClass 0 = .ok (.iload_n 0, 1) := by decide +kernel
theorem d_Mod_isClass_1 : decode b_Mod_isClass 1 = .ok (.ifCond .lt 13, 3) := by decide +kernel
theorem d_Mod_isClass_4 : decode b_Mod_isClass 4 = .ok (.iload_n 0, 1) := by decide +kernel
theorem d_Mod_isClass_5 : decode b_Mod_isClass 5 = .ok (.bipush 36, 2) := by decide +kernel
theorem d_Mod_isClass_7 : decode b_Mod_isClass 7 = .ok (.if_icmp .ge 7, 3) := by decide +kernel
theorem d_Mod_isClass_10 : decode b_Mod_isClass 10 = .ok (.iconst 1, 1) := by decide +kernel
theorem d_Mod_isClass_11 : decode b_Mod_isClass 11 = .ok (.goto 4, 3) := by decide +kernel
theorem d_Mod_isClass_14 : decode b_Mod_isClass 14 = .ok (.iconst 0, 1) := by decide +kernel
theorem d_Mod_isClass_15 : decode b_Mod_isClass 15 = .ok (.ireturn, 1) := by decide +kernel
theorem d_Mod_initiator_0 : decode b_Mod_initiator 0 = .ok (.aload_n 0, 1) := by decide +kernel
theorem d_Mod_initiator_1 : decode b_Mod_initiator 1 = .ok (.iconst 0, 1) := by decide +kernel
theorem d_Mod_initiator_2 : decode b_Mod_initiator 2 = .ok (.putfield 69, 3) := by decide +kernel
theorem d_Mod_initiator_5 : decode b_Mod_initiator 5 = .ok (.aload_n 0, 1) := by decide +kernel
theorem d_Mod_initiator_6 : decode b_Mod_initiator 6 = .ok (.getfield 73, 3) := by decide +kernel
theorem d_Mod_initiator_9 : decode b_Mod_initiator 9 = .ok (.bipush 12, 2) := by decide +kernel
theorem d_Mod_initiator_11 : decode b_Mod_initiator 11 = .ok (.if_icmp .ne 5, 3) := by decide +kernel
theorem d_Mod_initiator_14 : decode b_Mod_initiator 14 = .ok (.iconst (-1), 1) := by decide +kernel
theorem d_Mod_initiator_15 : decode b_Mod_initiator 15 = .ok (.ireturn, 1) := by decide +kernel
theorem d_Mod_initiator_16 : decode b_Mod_initiator 16 = .ok (.aload_n 0, 1) := by decide +kernel
theorem d_Mod_initiator_17 : decode b_Mod_initiator 17 = .ok (.dup, 1) := by decide +kernel
theorem d_Mod_initiator_18 : decode b_Mod_initiator 18 = .ok (.getfield 73, 3) := by decide +kernel
theorem d_Mod_initiator_21 : decode b_Mod_initiator 21 = .ok (.iconst 1, 1) := by decide +kernel
theorem d_Mod_initiator_22 : decode b_Mod_initiator 22 = .ok (.iadd, 1) := by decide +kernel
theorem d_Mod_initiator_23 : decode b_Mod_initiator 23 = .ok (.putfield 73, 3) := by decide +kernel
theorem d_Mod_initiator_26 : decode b_Mod_initiator 26 = .ok (.aload_n 0, 1) := by decide +kernel
theorem d_Mod_initiator_27 : decode b_Mod_initiator 27 = .ok (.getfield 73, 3) := by decide +kernel
theorem d_Mod_initiator_30 : decode b_Mod_initiator 30 = .ok (.ireturn, 1) := by decide +kernel
theorem d_Mod_cls_0 : decode b_Mod_cls 0 = .ok (.aload_n 0, 1) := by decide +kernel
theorem d_Mod_cls_1 : decode b_Mod_cls 1 = .ok (.iconst 0, 1) := by decide +kernel
theorem d_Mod_cls_2 : decode b_Mod_cls 2 = .ok (.putfield 69, 3) := by decide +kernel
theorem d_Mod_cls_5 : decode b_Mod_cls 5 = .ok (.aload_n 0, 1) := by decide +kernel
theorem d_Mod_cls_6 : decode b_Mod_cls 6 = .ok (.iload_n 1, 1) := by decide +kernel
theorem d_Mod_cls_7 : decode b_Mod_cls 7 = .ok (.invokevirtual 79, 3) := by decide +kernel
theorem d_Mod_cls_10 : decode b_Mod_cls 10 = .ok (.ifCond .ne 6, 3) := by decide +kernel
theorem d_Mod_cls_13 : decode b_Mod_cls 13 = .ok (.bipush (-2), 2) := by decide +kernel
theorem d_Mod_cls_15 : decode b_Mod_cls 15 = .ok (.ireturn, 1) := by decide +kernel
theorem d_Mod_cls_16 : decode b_Mod_cls 16 = .ok (.iload_n 2, 1) := by decide +kernel
theorem d_Mod_cls_17 : decode b_Mod_cls 17 = .ok (.ifCond .lt 21, 3) := by decide +kernel
theorem d_Mod_cls_20 : decode b_Mod_cls 20 = .ok (.iload_n 2, 1) := by decide +kernel
theorem d_Mod_cls_21 : decode b_Mod_cls 21 = .ok (.bipush 7, 2) := by decide +kernel
theorem d_Mod_cls_23 : decode b_Mod_cls 23 = .ok (.if_icmp .gt 15, 3) := by decide +kernel
theorem d_Mod_cls_26 : decode b_Mod_cls 26 = .ok (.iload_n 3, 1) := by decide +kernel
theorem d_Mod_cls_27 : decode b_Mod_cls 27 = .ok (.iconst (-1), 1) := by decide +kernel
theorem d_Mod_cls_28 : decode b_Mod_cls 28 = .ok (.if_icmp .eq 13, 3) := by decide +kernel
theorem d_Mod_cls_31 : decode b_Mod_cls 31 = .ok (.iload_n 3, 1) := by decide +kernel
theorem d_Mod_cls_32 : decode b_Mod_cls 32 = .ok (.invokestatic 83, 3) := by decide +kernel
theorem d_Mod_cls_35 : decode b_Mod_cls 35 = .ok (.ifCond .ne 6, 3) := by decide +kernel
theorem d_Mod_cls_38 : decode b_Mod_cls 38 = .ok (.bipush (-4), 2) := by decide +kernel
theorem d_Mod_cls_40 : decode b_Mod_cls 40 = .ok (.ireturn, 1) := by decide +kernel
theorem d_Mod_cls_41 : decode b_Mod_cls 41 = .ok (.aload_n 0, 1) := by decide +kernel
theorem d_Mod_cls_42 : decode b_Mod_cls 42 = .ok (.getfield 7, 3) := by decide +kernel
theorem d_Mod_cls_45 : decode b_Mod_cls 45 = .ok (.bipush 8, 2) := by decide +kernel
theorem d_Mod_cls_47 : decode b_Mod_cls 47 = .ok (.iload_n 1, 1) := by decide +kernel
theorem d_Mod_cls_48 : decode b_Mod_cls 48 = .ok (.imul, 1) := by decide +kernel
theorem d_Mod_cls_49 : decode b_Mod_cls 49 = .ok (.bipush 8, 2) := by decide +kernel
theorem d_Mod_cls_51 : decode b_Mod_cls 51 = .ok (.isub, 1) := by decide +kernel
theorem d_Mod_cls_52 : decode b_Mod_cls 52 = .ok (.iload_n 2, 1) := by decide +kernel
theorem d_Mod_cls_53 : decode b_Mod_cls 53 = .ok (.iadd, 1) := by decide +kernel
theorem d_Mod_cls_54 : decode b_Mod_cls 54 = .ok (.iload_n 3, 1) := by decide +kernel
theorem d_Mod_cls_55 : decode b_Mod_cls 55 = .ok (.iastore, 1) := by decide +kernel
theorem d_Mod_cls_56 : decode b_Mod_cls 56 = .ok (.iconst 1, 1) := by decide +kernel
theorem d_Mod_cls_57 : decode b_Mod_cls 57 = .ok (.ireturn, 1) := by decide +kernel
theorem d_Mod_limit_0 : decode b_Mod_limit 0 = .ok (.aload_n 0, 1) := by decide +kernel
theorem d_Mod_limit_1 : decode b_Mod_limit 1 = .ok (.iconst 0, 1) := by decide +kernel
theorem d_Mod_limit_2 : decode b_Mod_limit 2 = .ok (.putfield 69, 3) := by decide +kernel
theorem d_Mod_limit_5 : decode b_Mod_limit 5 = .ok (.iload_n 1, 1) := by decide +kernel
theorem d_Mod_limit_6 : decode b_Mod_limit 6 = .ok (.invokestatic 83, 3) := by decide +kernel
theorem d_Mod_limit_9 : decode b_Mod_limit 9 = .ok (.ifCond .eq 13, 3) := by decide +kernel
theorem d_Mod_limit_12 : decode b_Mod_limit 12 = .ok (.iload_n 2, 1) := by decide +kernel
theorem d_Mod_limit_13 : decode b_Mod_limit 13 = .ok (.ifCond .lt 9, 3) := by decide +kernel
theorem d_Mod_limit_16 : decode b_Mod_limit 16 = .ok (.iload_n 2, 1) := by decide +kernel
theorem d_Mod_limit_17 : decode b_Mod_limit 17 = .ok (.bipush 40, 2) := by decide +kernel
theorem d_Mod_limit_19 : decode b_Mod_limit 19 = .ok (.if_icmp .le 6, 3) := by decide +kernel
theorem d_Mod_limit_22 : decode b_Mod_limit 22 = .ok (.bipush (-4), 2) := by decide +kernel
theorem d_Mod_limit_24 : decode b_Mod_limit 24 = .ok (.ireturn, 1) := by decide +kernel
theorem d_Mod_limit_25 : decode b_Mod_limit 25 = .ok (.aload_n 0, 1) := by decide +kernel
theorem d_Mod_limit_26 : decode b_Mod_limit 26 = .ok (.getfield 20, 3) := by decide +kernel
theorem d_Mod_limit_29 : decode b_Mod_limit 29 = .ok (.iload_n 1, 1) := by decide +kernel
theorem d_Mod_limit_30 : decode b_Mod_limit 30 = .ok (.iload_n 2, 1) := by decide +kernel
theorem d_Mod_limit_31 : decode b_Mod_limit 31 = .ok (.iastore, 1) := by decide +kernel
theorem d_Mod_limit_32 : decode b_Mod_limit 32 = .ok (.iconst 1, 1) := by decide +kernel
theorem d_Mod_limit_33 : decode b_Mod_limit 33 = .ok (.ireturn, 1) := by decide +kernel
theorem d_Mod_isMinute_0 : decode b_Mod_isMinute 0 = .ok (.iload_n 0, 1) := by decide +kernel
theorem d_Mod_isMinute_1 : decode b_Mod_isMinute 1 = .ok (.ifCond .lt 14, 3) := by decide +kernel
theorem d_Mod_isMinute_4 : decode b_Mod_isMinute 4 = .ok (.iload_n 0, 1) := by decide +kernel
theorem d_Mod_isMinute_5 : decode b_Mod_isMinute 5 = .ok (.sipush 1440, 3) := by decide +kernel
theorem d_Mod_isMinute_8 : decode b_Mod_isMinute 8 = .ok (.if_icmp .ge 7, 3) := by decide +kernel
theorem d_Mod_isMinute_11 : decode b_Mod_isMinute 11 = .ok (.iconst 1, 1) := by decide +kernel
theorem d_Mod_isMinute_12 : decode b_Mod_isMinute 12 = .ok (.goto 4, 3) := by decide +kernel
theorem d_Mod_isMinute_15 : decode b_Mod_isMinute 15 = .ok (.iconst 0, 1) := by decide +kernel
theorem d_Mod_isMinute_16 : decode b_Mod_isMinute 16 = .ok (.ireturn, 1) := by decide +kernel
theorem d_Mod_window_0 : decode b_Mod_window 0 = .ok (.aload_n 0, 1) := by decide +kernel
theorem d_Mod_window_1 : decode b_Mod_window 1 = .ok (.iconst 0, 1) := by decide +kernel
theorem d_Mod_window_2 : decode b_Mod_window 2 = .ok (.putfield 69, 3) := by decide +kernel
theorem d_Mod_window_5 : decode b_Mod_window 5 = .ok (.iload_n 1, 1) := by decide +kernel
theorem d_Mod_window_6 : decode b_Mod_window 6 = .ok (.invokestatic 83, 3) := by decide +kernel
theorem d_Mod_window_9 : decode b_Mod_window 9 = .ok (.ifCond .eq 17, 3) := by decide +kernel
theorem d_Mod_window_12 : decode b_Mod_window 12 = .ok (.iload_n 2, 1) := by decide +kernel
theorem d_Mod_window_13 : decode b_Mod_window 13 = .ok (.invokestatic 86, 3) := by decide +kernel
theorem d_Mod_window_16 : decode b_Mod_window 16 = .ok (.ifCond .eq 10, 3) := by decide +kernel
theorem d_Mod_window_19 : decode b_Mod_window 19 = .ok (.iload_n 3, 1) := by decide +kernel
theorem d_Mod_window_20 : decode b_Mod_window 20 = .ok (.invokestatic 86, 3) := by decide +kernel
theorem d_Mod_window_23 : decode b_Mod_window 23 = .ok (.ifCond .ne 6, 3) := by decide +kernel
theorem d_Mod_window_26 : decode b_Mod_window 26 = .ok (.bipush (-4), 2) := by decide +kernel
theorem d_Mod_window_28 : decode b_Mod_window 28 = .ok (.ireturn, 1) := by decide +kernel
theorem d_Mod_window_29 : decode b_Mod_window 29 = .ok (.aload_n 0, 1) := by decide +kernel
theorem d_Mod_window_30 : decode b_Mod_window 30 = .ok (.getfield 23, 3) := by decide +kernel
theorem d_Mod_window_33 : decode b_Mod_window 33 = .ok (.iload_n 1, 1) := by decide +kernel
theorem d_Mod_window_34 : decode b_Mod_window 34 = .ok (.iload_n 2, 1) := by decide +kernel
theorem d_Mod_window_35 : decode b_Mod_window 35 = .ok (.iastore, 1) := by decide +kernel
theorem d_Mod_window_36 : decode b_Mod_window 36 = .ok (.aload_n 0, 1) := by decide +kernel
theorem d_Mod_window_37 : decode b_Mod_window 37 = .ok (.getfield 26, 3) := by decide +kernel
theorem d_Mod_window_40 : decode b_Mod_window 40 = .ok (.iload_n 1, 1) := by decide +kernel
theorem d_Mod_window_41 : decode b_Mod_window 41 = .ok (.iload_n 3, 1) := by decide +kernel
theorem d_Mod_window_42 : decode b_Mod_window 42 = .ok (.iastore, 1) := by decide +kernel
theorem d_Mod_window_43 : decode b_Mod_window 43 = .ok (.iconst 1, 1) := by decide +kernel
theorem d_Mod_window_44 : decode b_Mod_window 44 = .ok (.ireturn, 1) := by decide +kernel
theorem d_Mod_job_0 : decode b_Mod_job 0 = .ok (.aload_n 0, 1) := by decide +kernel
theorem d_Mod_job_1 : decode b_Mod_job 1 = .ok (.iconst 0, 1) := by decide +kernel
theorem d_Mod_job_2 : decode b_Mod_job 2 = .ok (.putfield 69, 3) := by decide +kernel
theorem d_Mod_job_5 : decode b_Mod_job 5 = .ok (.iload_n 1, 1) := by decide +kernel
theorem d_Mod_job_6 : decode b_Mod_job 6 = .ok (.invokestatic 83, 3) := by decide +kernel
theorem d_Mod_job_9 : decode b_Mod_job 9 = .ok (.ifCond .eq 33, 3) := by decide +kernel
theorem d_Mod_job_12 : decode b_Mod_job 12 = .ok (.iload_n 2, 1) := by decide +kernel
theorem d_Mod_job_13 : decode b_Mod_job 13 = .ok (.ifCond .lt 29, 3) := by decide +kernel
theorem d_Mod_job_16 : decode b_Mod_job 16 = .ok (.iload_n 2, 1) := by decide +kernel
theorem d_Mod_job_17 : decode b_Mod_job 17 = .ok (.bipush 15, 2) := by decide +kernel
theorem d_Mod_job_19 : decode b_Mod_job 19 = .ok (.if_icmp .gt 23, 3) := by decide +kernel
theorem d_Mod_job_22 : decode b_Mod_job 22 = .ok (.iload_n 3, 1) := by decide +kernel
theorem d_Mod_job_23 : decode b_Mod_job 23 = .ok (.ifCond .lt 19, 3) := by decide +kernel
theorem d_Mod_job_26 : decode b_Mod_job 26 = .ok (.iload_n 3, 1) := by decide +kernel
theorem d_Mod_job_27 : decode b_Mod_job 27 = .ok (.bipush 99, 2) := by decide +kernel
theorem d_Mod_job_29 : decode b_Mod_job 29 = .ok (.if_icmp .gt 13, 3) := by decide +kernel
theorem d_Mod_job_32 : decode b_Mod_job 32 = .ok (.lload 4, 2) := by decide +kernel
theorem d_Mod_job_34 : decode b_Mod_job 34 = .ok (.aload_n 0, 1) := by decide +kernel
theorem d_Mod_job_35 : decode b_Mod_job 35 = .ok (.getfield 89, 3) := by decide +kernel
theorem d_Mod_job_38 : decode b_Mod_job 38 = .ok (.lcmp, 1) := by decide +kernel
theorem d_Mod_job_39 : decode b_Mod_job 39 = .ok (.ifCond .ge 6, 3) := by decide +kernel
theorem d_Mod_job_42 : decode b_Mod_job 42 = .ok (.bipush (-4), 2) := by decide +kernel
theorem d_Mod_job_44 : decode b_Mod_job 44 = .ok (.ireturn, 1) := by decide +kernel
theorem d_Mod_job_45 : decode b_Mod_job 45 = .ok (.aload_n 0, 1) := by decide +kernel
theorem d_Mod_job_46 : decode b_Mod_job 46 = .ok (.getfield 76, 3) := by decide +kernel
theorem d_Mod_job_49 : decode b_Mod_job 49 = .ok (.bipush 100, 2) := by decide +kernel
theorem d_Mod_job_51 : decode b_Mod_job 51 = .ok (.if_icmp .ne 5, 3) := by decide +kernel
theorem d_Mod_job_54 : decode b_Mod_job 54 = .ok (.iconst (-1), 1) := by decide +kernel
theorem d_Mod_job_55 : decode b_Mod_job 55 = .ok (.ireturn, 1) := by decide +kernel
theorem d_Mod_job_56 : decode b_Mod_job 56 = .ok (.aload_n 0, 1) := by decide +kernel
theorem d_Mod_job_57 : decode b_Mod_job 57 = .ok (.lload 4, 2) := by decide +kernel
theorem d_Mod_job_59 : decode b_Mod_job 59 = .ok (.putfield 89, 3) := by decide +kernel
theorem d_Mod_job_62 : decode b_Mod_job 62 = .ok (.aload_n 0, 1) := by decide +kernel
theorem d_Mod_job_63 : decode b_Mod_job 63 = .ok (.getfield 35, 3) := by decide +kernel
theorem d_Mod_job_66 : decode b_Mod_job 66 = .ok (.aload_n 0, 1) := by decide +kernel
theorem d_Mod_job_67 : decode b_Mod_job 67 = .ok (.getfield 76, 3) := by decide +kernel
theorem d_Mod_job_70 : decode b_Mod_job 70 = .ok (.iload_n 1, 1) := by decide +kernel
theorem d_Mod_job_71 : decode b_Mod_job 71 = .ok (.iastore, 1) := by decide +kernel
theorem d_Mod_job_72 : decode b_Mod_job 72 = .ok (.aload_n 0, 1) := by decide +kernel
theorem d_Mod_job_73 : decode b_Mod_job 73 = .ok (.getfield 38, 3) := by decide +kernel
theorem d_Mod_job_76 : decode b_Mod_job 76 = .ok (.aload_n 0, 1) := by decide +kernel
theorem d_Mod_job_77 : decode b_Mod_job 77 = .ok (.getfield 76, 3) := by decide +kernel
theorem d_Mod_job_80 : decode b_Mod_job 80 = .ok (.iload_n 2, 1) := by decide +kernel
theorem d_Mod_job_81 : decode b_Mod_job 81 = .ok (.iastore, 1) := by decide +kernel
theorem d_Mod_job_82 : decode b_Mod_job 82 = .ok (.aload_n 0, 1) := by decide +kernel
theorem d_Mod_job_83 : decode b_Mod_job 83 = .ok (.getfield 41, 3) := by decide +kernel
theorem d_Mod_job_86 : decode b_Mod_job 86 = .ok (.aload_n 0, 1) := by decide +kernel
theorem d_Mod_job_87 : decode b_Mod_job 87 = .ok (.getfield 76, 3) := by decide +kernel
theorem d_Mod_job_90 : decode b_Mod_job 90 = .ok (.iload_n 3, 1) := by decide +kernel
theorem d_Mod_job_91 : decode b_Mod_job 91 = .ok (.iastore, 1) := by decide +kernel
theorem d_Mod_job_92 : decode b_Mod_job 92 = .ok (.aload_n 0, 1) := by decide +kernel
theorem d_Mod_job_93 : decode b_Mod_job 93 = .ok (.getfield 62, 3) := by decide +kernel
theorem d_Mod_job_96 : decode b_Mod_job 96 = .ok (.aload_n 0, 1) := by decide +kernel
theorem d_Mod_job_97 : decode b_Mod_job 97 = .ok (.getfield 76, 3) := by decide +kernel
theorem d_Mod_job_100 : decode b_Mod_job 100 = .ok (.lload 4, 2) := by decide +kernel
theorem d_Mod_job_102 : decode b_Mod_job 102 = .ok (.lastore, 1) := by decide +kernel
theorem d_Mod_job_103 : decode b_Mod_job 103 = .ok (.aload_n 0, 1) := by decide +kernel
theorem d_Mod_job_104 : decode b_Mod_job 104 = .ok (.dup, 1) := by decide +kernel
theorem d_Mod_job_105 : decode b_Mod_job 105 = .ok (.getfield 76, 3) := by decide +kernel
theorem d_Mod_job_108 : decode b_Mod_job 108 = .ok (.iconst 1, 1) := by decide +kernel
theorem d_Mod_job_109 : decode b_Mod_job 109 = .ok (.iadd, 1) := by decide +kernel
theorem d_Mod_job_110 : decode b_Mod_job 110 = .ok (.putfield 76, 3) := by decide +kernel
theorem d_Mod_job_113 : decode b_Mod_job 113 = .ok (.aload_n 0, 1) := by decide +kernel
theorem d_Mod_job_114 : decode b_Mod_job 114 = .ok (.getfield 76, 3) := by decide +kernel
theorem d_Mod_job_117 : decode b_Mod_job 117 = .ok (.ireturn, 1) := by decide +kernel
theorem d_Mod_reaches_0 : decode b_Mod_reaches 0 = .ok (.iconst 0, 1) := by decide +kernel
theorem d_Mod_reaches_1 : decode b_Mod_reaches 1 = .ok (.istore_n 3, 1) := by decide +kernel
theorem d_Mod_reaches_2 : decode b_Mod_reaches 2 = .ok (.iload_n 3, 1) := by decide +kernel
theorem d_Mod_reaches_3 : decode b_Mod_reaches 3 = .ok (.bipush 100, 2) := by decide +kernel
theorem d_Mod_reaches_5 : decode b_Mod_reaches 5 = .ok (.if_icmp .ge 25, 3) := by decide +kernel
theorem d_Mod_reaches_8 : decode b_Mod_reaches 8 = .ok (.aload_n 0, 1) := by decide +kernel
theorem d_Mod_reaches_9 : decode b_Mod_reaches 9 = .ok (.getfield 59, 3) := by decide +kernel
theorem d_Mod_reaches_12 : decode b_Mod_reaches 12 = .ok (.iload_n 3, 1) := by decide +kernel
theorem d_Mod_reaches_13 : decode b_Mod_reaches 13 = .ok (.iload_n 3, 1) := by decide +kernel
theorem d_Mod_reaches_14 : decode b_Mod_reaches 14 = .ok (.iload_n 1, 1) := by decide +kernel
theorem d_Mod_reaches_15 : decode b_Mod_reaches 15 = .ok (.if_icmp .ne 7, 3) := by decide +kernel
theorem d_Mod_reaches_18 : decode b_Mod_reaches 18 = .ok (.iconst 1, 1) := by decide +kernel
theorem d_Mod_reaches_19 : decode b_Mod_reaches 19 = .ok (.goto 4, 3) := by decide +kernel
theorem d_Mod_reaches_22 : decode b_Mod_reaches 22 = .ok (.iconst 0, 1) := by decide +kernel
theorem d_Mod_reaches_23 : decode b_Mod_reaches 23 = .ok (.bastore, 1) := by decide +kernel
theorem d_Mod_reaches_24 : decode b_Mod_reaches 24 = .ok (.iinc 3 1, 3) := by decide +kernel
theorem d_Mod_reaches_27 : decode b_Mod_reaches 27 = .ok (.goto (-25), 3) := by decide +kernel
theorem d_Mod_reaches_30 : decode b_Mod_reaches 30 = .ok (.iconst 1, 1) := by decide +kernel
theorem d_Mod_reaches_31 : decode b_Mod_reaches 31 = .ok (.istore_n 3, 1) := by decide +kernel
theorem d_Mod_reaches_32 : decode b_Mod_reaches 32 = .ok (.iload_n 3, 1) := by decide +kernel
theorem d_Mod_reaches_33 : decode b_Mod_reaches 33 = .ok (.ifCond .eq 89, 3) := by decide +kernel
theorem d_Mod_reaches_36 : decode b_Mod_reaches 36 = .ok (.iconst 0, 1) := by decide +kernel
theorem d_Mod_reaches_37 : decode b_Mod_reaches 37 = .ok (.istore_n 3, 1) := by decide +kernel
theorem d_Mod_reaches_38 : decode b_Mod_reaches 38 = .ok (.iconst 0, 1) := by decide +kernel
theorem d_Mod_reaches_39 : decode b_Mod_reaches 39 = .ok (.istore 4, 2) := by decide +kernel
theorem d_Mod_reaches_41 : decode b_Mod_reaches 41 = .ok (.iload 4, 2) := by decide +kernel
theorem d_Mod_reaches_43 : decode b_Mod_reaches 43 = .ok (.bipush 100, 2) := by decide +kernel
theorem d_Mod_reaches_45 : decode b_Mod_reaches 45 = .ok (.if_icmp .ge 74, 3) := by decide +kernel
theorem d_Mod_reaches_48 : decode b_Mod_reaches 48 = .ok (.iconst 0, 1) := by decide +kernel
theorem d_Mod_reaches_49 : decode b_Mod_reaches 49 = .ok (.istore 5, 2) := by decide +kernel
theorem d_Mod_reaches_51 : decode b_Mod_reaches 51 = .ok (.iload 5, 2) := by decide +kernel
theorem d_Mod_reaches_53 : decode b_Mod_reaches 53 = .ok (.bipush 100, 2) := by decide +kernel
theorem d_Mod_reaches_55 : decode b_Mod_reaches 55 = .ok (.if_icmp .ge 58, 3) := by decide +kernel
theorem d_Mod_reaches_58 : decode b_Mod_reaches 58 = .ok (.aload_n 0, 1) := by decide +kernel
theorem d_Mod_reaches_59 : decode b_Mod_reaches 59 = .ok (.getfield 59, 3) := by decide +kernel
theorem d_Mod_reaches_62 : decode b_Mod_reaches 62 = .ok (.iload 4, 2) := by decide +kernel
theorem d_Mod_reaches_64 : decode b_Mod_reaches 64 = .ok (.baload, 1) := by decide +kernel
theorem d_Mod_reaches_65 : decode b_Mod_reaches 65 = .ok (.ifCond .eq 48, 3) := by decide +kernel
theorem d_Mod_reaches_68 : decode b_Mod_reaches 68 = .ok (.aload_n 0, 1) := by decide +kernel
theorem d_Mod_reaches_69 : decode b_Mod_reaches 69 = .ok (.getfield 56, 3) := by decide +kernel
theorem d_Mod_reaches_72 : decode b_Mod_reaches 72 = .ok (.bipush 100, 2) := by decide +kernel
theorem d_Mod_reaches_74 : decode b_Mod_reaches 74 = .ok (.iload 4, 2) := by decide +kernel
theorem d_Mod_reaches_76 : decode b_Mod_reaches 76 = .ok (.imul, 1) := by decide +kernel
theorem d_Mod_reaches_77 : decode b_Mod_reaches 77 = .ok (.iload 5, 2) := by decide +kernel
theorem d_Mod_reaches_79 : decode b_Mod_reaches 79 = .ok (.iadd, 1) := by decide +kernel
theorem d_Mod_reaches_80 : decode b_Mod_reaches 80 = .ok (.baload, 1) := by decide +kernel
theorem d_Mod_reaches_81 : decode b_Mod_reaches 81 = .ok (.ifCond .eq 26, 3) := by decide +kernel
theorem d_Mod_reaches_84 : decode b_Mod_reaches 84 = .ok (.aload_n 0, 1) := by decide +kernel
theorem d_Mod_reaches_85 : decode b_Mod_reaches 85 = .ok (.getfield 59, 3) := by decide +kernel
theorem d_Mod_reaches_88 : decode b_Mod_reaches 88 = .ok (.iload 5, 2) := by decide +kernel
theorem d_Mod_reaches_90 : decode b_Mod_reaches 90 = .ok (.baload, 1) := by decide +kernel
theorem d_Mod_reaches_91 : decode b_Mod_reaches 91 = .ok (.ifCond .eq 6, 3) := by decide +kernel
theorem d_Mod_reaches_94 : decode b_Mod_reaches 94 = .ok (.goto 13, 3) := by decide +kernel
theorem d_Mod_reaches_97 : decode b_Mod_reaches 97 = .ok (.aload_n 0, 1) := by decide +kernel
theorem d_Mod_reaches_98 : decode b_Mod_reaches 98 = .ok (.getfield 59, 3) := by decide +kernel
theorem d_Mod_reaches_101 : decode b_Mod_reaches 101 = .ok (.iload 5, 2) := by decide +kernel
theorem d_Mod_reaches_103 : decode b_Mod_reaches 103 = .ok (.iconst 1, 1) := by decide +kernel
theorem d_Mod_reaches_104 : decode b_Mod_reaches 104 = .ok (.bastore, 1) := by decide +kernel
theorem d_Mod_reaches_105 : decode b_Mod_reaches 105 = .ok (.iconst 1, 1) := by decide +kernel
theorem d_Mod_reaches_106 : decode b_Mod_reaches 106 = .ok (.istore_n 3, 1) := by decide +kernel
theorem d_Mod_reaches_107 : decode b_Mod_reaches 107 = .ok (.iinc 5 1, 3) := by decide +kernel
theorem d_Mod_reaches_110 : decode b_Mod_reaches 110 = .ok (.goto (-59), 3) := by decide +kernel
theorem d_Mod_reaches_113 : decode b_Mod_reaches 113 = .ok (.iinc 4 1, 3) := by decide +kernel
theorem d_Mod_reaches_116 : decode b_Mod_reaches 116 = .ok (.goto (-75), 3) := by decide +kernel
theorem d_Mod_reaches_119 : decode b_Mod_reaches 119 = .ok (.goto (-87), 3) := by decide +kernel
theorem d_Mod_reaches_122 : decode b_Mod_reaches 122 = .ok (.aload_n 0, 1) := by decide +kernel
theorem d_Mod_reaches_123 : decode b_Mod_reaches 123 = .ok (.getfield 59, 3) := by decide +kernel
theorem d_Mod_reaches_126 : decode b_Mod_reaches 126 = .ok (.iload_n 2, 1) := by decide +kernel
theorem d_Mod_reaches_127 : decode b_Mod_reaches 127 = .ok (.baload, 1) := by decide +kernel
theorem d_Mod_reaches_128 : decode b_Mod_reaches 128 = .ok (.ireturn, 1) := by decide +kernel
theorem d_Mod_needs_0 : decode b_Mod_needs 0 = .ok (.aload_n 0, 1) := by decide +kernel
theorem d_Mod_needs_1 : decode b_Mod_needs 1 = .ok (.iconst 0, 1) := by decide +kernel
theorem d_Mod_needs_2 : decode b_Mod_needs 2 = .ok (.putfield 69, 3) := by decide +kernel
theorem d_Mod_needs_5 : decode b_Mod_needs 5 = .ok (.aload_n 0, 1) := by decide +kernel
theorem d_Mod_needs_6 : decode b_Mod_needs 6 = .ok (.iload_n 1, 1) := by decide +kernel
theorem d_Mod_needs_7 : decode b_Mod_needs 7 = .ok (.invokevirtual 93, 3) := by decide +kernel
end
section
theorem d_Mod_needs_10 : decode b_Mod_needs 10 = .ok (.ifCond .eq 11, 3) := by decide +kernel
theorem d_Mod_needs_13 : decode b_Mod_needs 13 = .ok (.aload_n 0, 1) := by decide +kernel
theorem d_Mod_needs_14 : decode b_Mod_needs 14 = .ok (.iload_n 2, 1) := by decide +kernel
theorem d_Mod_needs_15 : decode b_Mod_needs 15 = .ok (.invokevirtual 93, 3) := by decide +kernel
theorem d_Mod_needs_18 : decode b_Mod_needs 18 = .ok (.ifCond .ne 6, 3) := by decide +kernel
theorem d_Mod_needs_21 : decode b_Mod_needs 21 = .ok (.bipush (-2), 2) := by decide +kernel
theorem d_Mod_needs_23 : decode b_Mod_needs 23 = .ok (.ireturn, 1) := by decide +kernel
theorem d_Mod_needs_24 : decode b_Mod_needs 24 = .ok (.aload_n 0, 1) := by decide +kernel
theorem d_Mod_needs_25 : decode b_Mod_needs 25 = .ok (.getfield 44, 3) := by decide +kernel
theorem d_Mod_needs_28 : decode b_Mod_needs 28 = .ok (.iload_n 1, 1) := by decide +kernel
theorem d_Mod_needs_29 : decode b_Mod_needs 29 = .ok (.iconst 1, 1) := by decide +kernel
theorem d_Mod_needs_30 : decode b_Mod_needs 30 = .ok (.isub, 1) := by decide +kernel
theorem d_Mod_needs_31 : decode b_Mod_needs 31 = .ok (.iaload, 1) := by decide +kernel
theorem d_Mod_needs_32 : decode b_Mod_needs 32 = .ok (.ifCond .eq 6, 3) := by decide +kernel
theorem d_Mod_needs_35 : decode b_Mod_needs 35 = .ok (.bipush (-5), 2) := by decide +kernel
theorem d_Mod_needs_37 : decode b_Mod_needs 37 = .ok (.ireturn, 1) := by decide +kernel
theorem d_Mod_needs_38 : decode b_Mod_needs 38 = .ok (.aload_n 0, 1) := by decide +kernel
theorem d_Mod_needs_39 : decode b_Mod_needs 39 = .ok (.iload_n 2, 1) := by decide +kernel
theorem d_Mod_needs_40 : decode b_Mod_needs 40 = .ok (.iconst 1, 1) := by decide +kernel
theorem d_Mod_needs_41 : decode b_Mod_needs 41 = .ok (.isub, 1) := by decide +kernel
theorem d_Mod_needs_42 : decode b_Mod_needs 42 = .ok (.iload_n 1, 1) := by decide +kernel
theorem d_Mod_needs_43 : decode b_Mod_needs 43 = .ok (.iconst 1, 1) := by decide +kernel
theorem d_Mod_needs_44 : decode b_Mod_needs 44 = .ok (.isub, 1) := by decide +kernel
theorem d_Mod_needs_45 : decode b_Mod_needs 45 = .ok (.invokevirtual 96, 3) := by decide +kernel
theorem d_Mod_needs_48 : decode b_Mod_needs 48 = .ok (.ifCond .eq 5, 3) := by decide +kernel
theorem d_Mod_needs_51 : decode b_Mod_needs 51 = .ok (.iconst 0, 1) := by decide +kernel
theorem d_Mod_needs_52 : decode b_Mod_needs 52 = .ok (.ireturn, 1) := by decide +kernel
theorem d_Mod_needs_53 : decode b_Mod_needs 53 = .ok (.aload_n 0, 1) := by decide +kernel
theorem d_Mod_needs_54 : decode b_Mod_needs 54 = .ok (.getfield 56, 3) := by decide +kernel
theorem d_Mod_needs_57 : decode b_Mod_needs 57 = .ok (.bipush 100, 2) := by decide +kernel
theorem d_Mod_needs_59 : decode b_Mod_needs 59 = .ok (.iload_n 1, 1) := by decide +kernel
theorem d_Mod_needs_60 : decode b_Mod_needs 60 = .ok (.iconst 1, 1) := by decide +kernel
theorem d_Mod_needs_61 : decode b_Mod_needs 61 = .ok (.isub, 1) := by decide +kernel
theorem d_Mod_needs_62 : decode b_Mod_needs 62 = .ok (.imul, 1) := by decide +kernel
theorem d_Mod_needs_63 : decode b_Mod_needs 63 = .ok (.iload_n 2, 1) := by decide +kernel
theorem d_Mod_needs_64 : decode b_Mod_needs 64 = .ok (.iadd, 1) := by decide +kernel
theorem d_Mod_needs_65 : decode b_Mod_needs 65 = .ok (.iconst 1, 1) := by decide +kernel
theorem d_Mod_needs_66 : decode b_Mod_needs 66 = .ok (.isub, 1) := by decide +kernel
theorem d_Mod_needs_67 : decode b_Mod_needs 67 = .ok (.iconst 1, 1) := by decide +kernel
theorem d_Mod_needs_68 : decode b_Mod_needs 68 = .ok (.bastore, 1) := by decide +kernel
theorem d_Mod_needs_69 : decode b_Mod_needs 69 = .ok (.iconst 1, 1) := by decide +kernel
theorem d_Mod_needs_70 : decode b_Mod_needs 70 = .ok (.ireturn, 1) := by decide +kernel
theorem d_Mod_units_0 : decode b_Mod_units 0 = .ok (.aload_n 0, 1) := by decide +kernel
theorem d_Mod_units_1 : decode b_Mod_units 1 = .ok (.iconst 0, 1) := by decide +kernel
theorem d_Mod_units_2 : decode b_Mod_units 2 = .ok (.putfield 69, 3) := by decide +kernel
theorem d_Mod_units_5 : decode b_Mod_units 5 = .ok (.iload_n 1, 1) := by decide +kernel
theorem d_Mod_units_6 : decode b_Mod_units 6 = .ok (.ifCond .lt 19, 3) := by decide +kernel
theorem d_Mod_units_9 : decode b_Mod_units 9 = .ok (.iload_n 1, 1) := by decide +kernel
theorem d_Mod_units_10 : decode b_Mod_units 10 = .ok (.iconst 3, 1) := by decide +kernel
theorem d_Mod_units_11 : decode b_Mod_units 11 = .ok (.if_icmp .gt 14, 3) := by decide +kernel
theorem d_Mod_units_14 : decode b_Mod_units 14 = .ok (.iload_n 2, 1) := by decide +kernel
theorem d_Mod_units_15 : decode b_Mod_units 15 = .ok (.ifCond .lt 10, 3) := by decide +kernel
theorem d_Mod_units_18 : decode b_Mod_units 18 = .ok (.iload_n 2, 1) := by decide +kernel
theorem d_Mod_units_19 : decode b_Mod_units 19 = .ok (.sipush 1000, 3) := by decide +kernel
theorem d_Mod_units_22 : decode b_Mod_units 22 = .ok (.if_icmp .le 6, 3) := by decide +kernel
theorem d_Mod_units_25 : decode b_Mod_units 25 = .ok (.bipush (-4), 2) := by decide +kernel
theorem d_Mod_units_27 : decode b_Mod_units 27 = .ok (.ireturn, 1) := by decide +kernel
theorem d_Mod_units_28 : decode b_Mod_units 28 = .ok (.aload_n 0, 1) := by decide +kernel
theorem d_Mod_units_29 : decode b_Mod_units 29 = .ok (.getfield 32, 3) := by decide +kernel
theorem d_Mod_units_32 : decode b_Mod_units 32 = .ok (.iload_n 1, 1) := by decide +kernel
theorem d_Mod_units_33 : decode b_Mod_units 33 = .ok (.iload_n 2, 1) := by decide +kernel
theorem d_Mod_units_34 : decode b_Mod_units 34 = .ok (.iastore, 1) := by decide +kernel
theorem d_Mod_units_35 : decode b_Mod_units 35 = .ok (.iconst 1, 1) := by decide +kernel
theorem d_Mod_units_36 : decode b_Mod_units 36 = .ok (.ireturn, 1) := by decide +kernel
theorem d_Mod_uses_0 : decode b_Mod_uses 0 = .ok (.aload_n 0, 1) := by decide +kernel
theorem d_Mod_uses_1 : decode b_Mod_uses 1 = .ok (.iconst 0, 1) := by decide +kernel
theorem d_Mod_uses_2 : decode b_Mod_uses 2 = .ok (.putfield 69, 3) := by decide +kernel
theorem d_Mod_uses_5 : decode b_Mod_uses 5 = .ok (.aload_n 0, 1) := by decide +kernel
theorem d_Mod_uses_6 : decode b_Mod_uses 6 = .ok (.iload_n 1, 1) := by decide +kernel
theorem d_Mod_uses_7 : decode b_Mod_uses 7 = .ok (.invokevirtual 93, 3) := by decide +kernel
theorem d_Mod_uses_10 : decode b_Mod_uses 10 = .ok (.ifCond .ne 6, 3) := by decide +kernel
theorem d_Mod_uses_13 : decode b_Mod_uses 13 = .ok (.bipush (-2), 2) := by decide +kernel
theorem d_Mod_uses_15 : decode b_Mod_uses 15 = .ok (.ireturn, 1) := by decide +kernel
theorem d_Mod_uses_16 : decode b_Mod_uses 16 = .ok (.iload_n 2, 1) := by decide +kernel
theorem d_Mod_uses_17 : decode b_Mod_uses 17 = .ok (.ifCond .lt 19, 3) := by decide +kernel
theorem d_Mod_uses_20 : decode b_Mod_uses 20 = .ok (.iload_n 2, 1) := by decide +kernel
theorem d_Mod_uses_21 : decode b_Mod_uses 21 = .ok (.iconst 3, 1) := by decide +kernel
theorem d_Mod_uses_22 : decode b_Mod_uses 22 = .ok (.if_icmp .gt 14, 3) := by decide +kernel
theorem d_Mod_uses_25 : decode b_Mod_uses 25 = .ok (.iload_n 3, 1) := by decide +kernel
theorem d_Mod_uses_26 : decode b_Mod_uses 26 = .ok (.ifCond .lt 10, 3) := by decide +kernel
theorem d_Mod_uses_29 : decode b_Mod_uses 29 = .ok (.iload_n 3, 1) := by decide +kernel
theorem d_Mod_uses_30 : decode b_Mod_uses 30 = .ok (.sipush 1000, 3) := by decide +kernel
theorem d_Mod_uses_33 : decode b_Mod_uses 33 = .ok (.if_icmp .le 6, 3) := by decide +kernel
theorem d_Mod_uses_36 : decode b_Mod_uses 36 = .ok (.bipush (-4), 2) := by decide +kernel
theorem d_Mod_uses_38 : decode b_Mod_uses 38 = .ok (.ireturn, 1) := by decide +kernel
theorem d_Mod_uses_39 : decode b_Mod_uses 39 = .ok (.aload_n 0, 1) := by decide +kernel
theorem d_Mod_uses_40 : decode b_Mod_uses 40 = .ok (.getfield 44, 3) := by decide +kernel
theorem d_Mod_uses_43 : decode b_Mod_uses 43 = .ok (.iload_n 1, 1) := by decide +kernel
theorem d_Mod_uses_44 : decode b_Mod_uses 44 = .ok (.iconst 1, 1) := by decide +kernel
theorem d_Mod_uses_45 : decode b_Mod_uses 45 = .ok (.isub, 1) := by decide +kernel
theorem d_Mod_uses_46 : decode b_Mod_uses 46 = .ok (.iaload, 1) := by decide +kernel
theorem d_Mod_uses_47 : decode b_Mod_uses 47 = .ok (.ifCond .eq 6, 3) := by decide +kernel
theorem d_Mod_uses_50 : decode b_Mod_uses 50 = .ok (.bipush (-5), 2) := by decide +kernel
theorem d_Mod_uses_52 : decode b_Mod_uses 52 = .ok (.ireturn, 1) := by decide +kernel
theorem d_Mod_uses_53 : decode b_Mod_uses 53 = .ok (.aload_n 0, 1) := by decide +kernel
theorem d_Mod_uses_54 : decode b_Mod_uses 54 = .ok (.getfield 47, 3) := by decide +kernel
theorem d_Mod_uses_57 : decode b_Mod_uses 57 = .ok (.iconst 4, 1) := by decide +kernel
theorem d_Mod_uses_58 : decode b_Mod_uses 58 = .ok (.iload_n 1, 1) := by decide +kernel
theorem d_Mod_uses_59 : decode b_Mod_uses 59 = .ok (.imul, 1) := by decide +kernel
theorem d_Mod_uses_60 : decode b_Mod_uses 60 = .ok (.iconst 4, 1) := by decide +kernel
theorem d_Mod_uses_61 : decode b_Mod_uses 61 = .ok (.isub, 1) := by decide +kernel
theorem d_Mod_uses_62 : decode b_Mod_uses 62 = .ok (.iload_n 2, 1) := by decide +kernel
theorem d_Mod_uses_63 : decode b_Mod_uses 63 = .ok (.iadd, 1) := by decide +kernel
theorem d_Mod_uses_64 : decode b_Mod_uses 64 = .ok (.iload_n 3, 1) := by decide +kernel
theorem d_Mod_uses_65 : decode b_Mod_uses 65 = .ok (.iastore, 1) := by decide +kernel
theorem d_Mod_uses_66 : decode b_Mod_uses 66 = .ok (.iconst 1, 1) := by decide +kernel
theorem d_Mod_uses_67 : decode b_Mod_uses 67 = .ok (.ireturn, 1) := by decide +kernel
theorem d_Mod_alone_0 : decode b_Mod_alone 0 = .ok (.aload_n 0, 1) := by decide +kernel
theorem d_Mod_alone_1 : decode b_Mod_alone 1 = .ok (.iconst 0, 1) := by decide +kernel
theorem d_Mod_alone_2 : decode b_Mod_alone 2 = .ok (.putfield 69, 3) := by decide +kernel
theorem d_Mod_alone_5 : decode b_Mod_alone 5 = .ok (.aload_n 0, 1) := by decide +kernel
theorem d_Mod_alone_6 : decode b_Mod_alone 6 = .ok (.iload_n 1, 1) := by decide +kernel
theorem d_Mod_alone_7 : decode b_Mod_alone 7 = .ok (.invokevirtual 93, 3) := by decide +kernel
theorem d_Mod_alone_10 : decode b_Mod_alone 10 = .ok (.ifCond .ne 6, 3) := by decide +kernel
theorem d_Mod_alone_13 : decode b_Mod_alone 13 = .ok (.bipush (-2), 2) := by decide +kernel
theorem d_Mod_alone_15 : decode b_Mod_alone 15 = .ok (.ireturn, 1) := by decide +kernel
theorem d_Mod_alone_16 : decode b_Mod_alone 16 = .ok (.aload_n 0, 1) := by decide +kernel
theorem d_Mod_alone_17 : decode b_Mod_alone 17 = .ok (.getfield 44, 3) := by decide +kernel
theorem d_Mod_alone_20 : decode b_Mod_alone 20 = .ok (.iload_n 1, 1) := by decide +kernel
theorem d_Mod_alone_21 : decode b_Mod_alone 21 = .ok (.iconst 1, 1) := by decide +kernel
theorem d_Mod_alone_22 : decode b_Mod_alone 22 = .ok (.isub, 1) := by decide +kernel
theorem d_Mod_alone_23 : decode b_Mod_alone 23 = .ok (.iaload, 1) := by decide +kernel
theorem d_Mod_alone_24 : decode b_Mod_alone 24 = .ok (.ifCond .eq 6, 3) := by decide +kernel
theorem d_Mod_alone_27 : decode b_Mod_alone 27 = .ok (.bipush (-5), 2) := by decide +kernel
theorem d_Mod_alone_29 : decode b_Mod_alone 29 = .ok (.ireturn, 1) := by decide +kernel
theorem d_Mod_alone_30 : decode b_Mod_alone 30 = .ok (.aload_n 0, 1) := by decide +kernel
theorem d_Mod_alone_31 : decode b_Mod_alone 31 = .ok (.getfield 53, 3) := by decide +kernel
theorem d_Mod_alone_34 : decode b_Mod_alone 34 = .ok (.iload_n 1, 1) := by decide +kernel
theorem d_Mod_alone_35 : decode b_Mod_alone 35 = .ok (.iconst 1, 1) := by decide +kernel
theorem d_Mod_alone_36 : decode b_Mod_alone 36 = .ok (.isub, 1) := by decide +kernel
theorem d_Mod_alone_37 : decode b_Mod_alone 37 = .ok (.iconst 1, 1) := by decide +kernel
theorem d_Mod_alone_38 : decode b_Mod_alone 38 = .ok (.bastore, 1) := by decide +kernel
theorem d_Mod_alone_39 : decode b_Mod_alone 39 = .ok (.iconst 1, 1) := by decide +kernel
theorem d_Mod_alone_40 : decode b_Mod_alone 40 = .ok (.ireturn, 1) := by decide +kernel
theorem d_Mod_hold_0 : decode b_Mod_hold 0 = .ok (.aload_n 0, 1) := by decide +kernel
theorem d_Mod_hold_1 : decode b_Mod_hold 1 = .ok (.iconst 0, 1) := by decide +kernel
theorem d_Mod_hold_2 : decode b_Mod_hold 2 = .ok (.putfield 69, 3) := by decide +kernel
theorem d_Mod_hold_5 : decode b_Mod_hold 5 = .ok (.aload_n 0, 1) := by decide +kernel
theorem d_Mod_hold_6 : decode b_Mod_hold 6 = .ok (.iload_n 1, 1) := by decide +kernel
theorem d_Mod_hold_7 : decode b_Mod_hold 7 = .ok (.invokevirtual 93, 3) := by decide +kernel
theorem d_Mod_hold_10 : decode b_Mod_hold 10 = .ok (.ifCond .ne 6, 3) := by decide +kernel
theorem d_Mod_hold_13 : decode b_Mod_hold 13 = .ok (.bipush (-2), 2) := by decide +kernel
theorem d_Mod_hold_15 : decode b_Mod_hold 15 = .ok (.ireturn, 1) := by decide +kernel
theorem d_Mod_hold_16 : decode b_Mod_hold 16 = .ok (.aload_n 0, 1) := by decide +kernel
theorem d_Mod_hold_17 : decode b_Mod_hold 17 = .ok (.getfield 44, 3) := by decide +kernel
theorem d_Mod_hold_20 : decode b_Mod_hold 20 = .ok (.iload_n 1, 1) := by decide +kernel
theorem d_Mod_hold_21 : decode b_Mod_hold 21 = .ok (.iconst 1, 1) := by decide +kernel
theorem d_Mod_hold_22 : decode b_Mod_hold 22 = .ok (.isub, 1) := by decide +kernel
theorem d_Mod_hold_23 : decode b_Mod_hold 23 = .ok (.iaload, 1) := by decide +kernel
theorem d_Mod_hold_24 : decode b_Mod_hold 24 = .ok (.ifCond .eq 6, 3) := by decide +kernel
theorem d_Mod_hold_27 : decode b_Mod_hold 27 = .ok (.bipush (-5), 2) := by decide +kernel
theorem d_Mod_hold_29 : decode b_Mod_hold 29 = .ok (.ireturn, 1) := by decide +kernel
theorem d_Mod_hold_30 : decode b_Mod_hold 30 = .ok (.aload_n 0, 1) := by decide +kernel
theorem d_Mod_hold_31 : decode b_Mod_hold 31 = .ok (.getfield 50, 3) := by decide +kernel
theorem d_Mod_hold_34 : decode b_Mod_hold 34 = .ok (.iload_n 1, 1) := by decide +kernel
theorem d_Mod_hold_35 : decode b_Mod_hold 35 = .ok (.iconst 1, 1) := by decide +kernel
theorem d_Mod_hold_36 : decode b_Mod_hold 36 = .ok (.isub, 1) := by decide +kernel
theorem d_Mod_hold_37 : decode b_Mod_hold 37 = .ok (.baload, 1) := by decide +kernel
theorem d_Mod_hold_38 : decode b_Mod_hold 38 = .ok (.istore_n 3, 1) := by decide +kernel
theorem d_Mod_hold_39 : decode b_Mod_hold 39 = .ok (.aload_n 0, 1) := by decide +kernel
theorem d_Mod_hold_40 : decode b_Mod_hold 40 = .ok (.getfield 50, 3) := by decide +kernel
theorem d_Mod_hold_43 : decode b_Mod_hold 43 = .ok (.iload_n 1, 1) := by decide +kernel
theorem d_Mod_hold_44 : decode b_Mod_hold 44 = .ok (.iconst 1, 1) := by decide +kernel
theorem d_Mod_hold_45 : decode b_Mod_hold 45 = .ok (.isub, 1) := by decide +kernel
theorem d_Mod_hold_46 : decode b_Mod_hold 46 = .ok (.iload_n 2, 1) := by decide +kernel
theorem d_Mod_hold_47 : decode b_Mod_hold 47 = .ok (.bastore, 1) := by decide +kernel
theorem d_Mod_hold_48 : decode b_Mod_hold 48 = .ok (.iload_n 3, 1) := by decide +kernel
theorem d_Mod_hold_49 : decode b_Mod_hold 49 = .ok (.iload_n 2, 1) := by decide +kernel
theorem d_Mod_hold_50 : decode b_Mod_hold 50 = .ok (.if_icmp .ne 7, 3) := by decide +kernel
theorem d_Mod_hold_53 : decode b_Mod_hold 53 = .ok (.iconst 0, 1) := by decide +kernel
theorem d_Mod_hold_54 : decode b_Mod_hold 54 = .ok (.goto 4, 3) := by decide +kernel
theorem d_Mod_hold_57 : decode b_Mod_hold 57 = .ok (.iconst 1, 1) := by decide +kernel
theorem d_Mod_hold_58 : decode b_Mod_hold 58 = .ok (.ireturn, 1) := by decide +kernel
theorem d_Mod_isOpen_0 : decode b_Mod_isOpen 0 = .ok (.aload_n 0, 1) := by decide +kernel
theorem d_Mod_isOpen_1 : decode b_Mod_isOpen 1 = .ok (.getfield 89, 3) := by decide +kernel
theorem d_Mod_isOpen_4 : decode b_Mod_isOpen 4 = .ok (.ldc2_w 100, 3) := by decide +kernel
theorem d_Mod_isOpen_7 : decode b_Mod_isOpen 7 = .ok (.lrem, 1) := by decide +kernel
theorem d_Mod_isOpen_8 : decode b_Mod_isOpen 8 = .ok (.l2i, 1) := by decide +kernel
theorem d_Mod_isOpen_9 : decode b_Mod_isOpen 9 = .ok (.istore_n 2, 1) := by decide +kernel
theorem d_Mod_isOpen_10 : decode b_Mod_isOpen 10 = .ok (.aload_n 0, 1) := by decide +kernel
theorem d_Mod_isOpen_11 : decode b_Mod_isOpen 11 = .ok (.getfield 23, 3) := by decide +kernel
theorem d_Mod_isOpen_14 : decode b_Mod_isOpen 14 = .ok (.iload_n 1, 1) := by decide +kernel
theorem d_Mod_isOpen_15 : decode b_Mod_isOpen 15 = .ok (.iaload, 1) := by decide +kernel
theorem d_Mod_isOpen_16 : decode b_Mod_isOpen 16 = .ok (.aload_n 0, 1) := by decide +kernel
theorem d_Mod_isOpen_17 : decode b_Mod_isOpen 17 = .ok (.getfield 26, 3) := by decide +kernel
theorem d_Mod_isOpen_20 : decode b_Mod_isOpen 20 = .ok (.iload_n 1, 1) := by decide +kernel
theorem d_Mod_isOpen_21 : decode b_Mod_isOpen 21 = .ok (.iaload, 1) := by decide +kernel
theorem d_Mod_isOpen_22 : decode b_Mod_isOpen 22 = .ok (.if_icmp .ne 5, 3) := by decide +kernel
theorem d_Mod_isOpen_25 : decode b_Mod_isOpen 25 = .ok (.iconst 1, 1) := by decide +kernel
theorem d_Mod_isOpen_26 : decode b_Mod_isOpen 26 = .ok (.ireturn, 1) := by decide +kernel
theorem d_Mod_isOpen_27 : decode b_Mod_isOpen 27 = .ok (.aload_n 0, 1) := by decide +kernel
theorem d_Mod_isOpen_28 : decode b_Mod_isOpen 28 = .ok (.getfield 23, 3) := by decide +kernel
theorem d_Mod_isOpen_31 : decode b_Mod_isOpen 31 = .ok (.iload_n 1, 1) := by decide +kernel
theorem d_Mod_isOpen_32 : decode b_Mod_isOpen 32 = .ok (.iaload, 1) := by decide +kernel
theorem d_Mod_isOpen_33 : decode b_Mod_isOpen 33 = .ok (.aload_n 0, 1) := by decide +kernel
theorem d_Mod_isOpen_34 : decode b_Mod_isOpen 34 = .ok (.getfield 26, 3) := by decide +kernel
theorem d_Mod_isOpen_37 : decode b_Mod_isOpen 37 = .ok (.iload_n 1, 1) := by decide +kernel
theorem d_Mod_isOpen_38 : decode b_Mod_isOpen 38 = .ok (.iaload, 1) := by decide +kernel
theorem d_Mod_isOpen_39 : decode b_Mod_isOpen 39 = .ok (.if_icmp .ge 31, 3) := by decide +kernel
theorem d_Mod_isOpen_42 : decode b_Mod_isOpen 42 = .ok (.iload_n 2, 1) := by decide +kernel
theorem d_Mod_isOpen_43 : decode b_Mod_isOpen 43 = .ok (.aload_n 0, 1) := by decide +kernel
theorem d_Mod_isOpen_44 : decode b_Mod_isOpen 44 = .ok (.getfield 23, 3) := by decide +kernel
theorem d_Mod_isOpen_47 : decode b_Mod_isOpen 47 = .ok (.iload_n 1, 1) := by decide +kernel
theorem d_Mod_isOpen_48 : decode b_Mod_isOpen 48 = .ok (.iaload, 1) := by decide +kernel
theorem d_Mod_isOpen_49 : decode b_Mod_isOpen 49 = .ok (.if_icmp .lt 17, 3) := by decide +kernel
theorem d_Mod_isOpen_52 : decode b_Mod_isOpen 52 = .ok (.iload_n 2, 1) := by decide +kernel
theorem d_Mod_isOpen_53 : decode b_Mod_isOpen 53 = .ok (.aload_n 0, 1) := by decide +kernel
theorem d_Mod_isOpen_54 : decode b_Mod_isOpen 54 = .ok (.getfield 26, 3) := by decide +kernel
theorem d_Mod_isOpen_57 : decode b_Mod_isOpen 57 = .ok (.iload_n 1, 1) := by decide +kernel
theorem d_Mod_isOpen_58 : decode b_Mod_isOpen 58 = .ok (.iaload, 1) := by decide +kernel
theorem d_Mod_isOpen_59 : decode b_Mod_isOpen 59 = .ok (.if_icmp .ge 7, 3) := by decide +kernel
theorem d_Mod_isOpen_62 : decode b_Mod_isOpen 62 = .ok (.iconst 1, 1) := by decide +kernel
theorem d_Mod_isOpen_63 : decode b_Mod_isOpen 63 = .ok (.goto 32, 3) := by decide +kernel
theorem d_Mod_isOpen_66 : decode b_Mod_isOpen 66 = .ok (.iconst 0, 1) := by decide +kernel
theorem d_Mod_isOpen_67 : decode b_Mod_isOpen 67 = .ok (.goto 28, 3) := by decide +kernel
theorem d_Mod_isOpen_70 : decode b_Mod_isOpen 70 = .ok (.iload_n 2, 1) := by decide +kernel
theorem d_Mod_isOpen_71 : decode b_Mod_isOpen 71 = .ok (.aload_n 0, 1) := by decide +kernel
theorem d_Mod_isOpen_72 : decode b_Mod_isOpen 72 = .ok (.getfield 23, 3) := by decide +kernel
theorem d_Mod_isOpen_75 : decode b_Mod_isOpen 75 = .ok (.iload_n 1, 1) := by decide +kernel
theorem d_Mod_isOpen_76 : decode b_Mod_isOpen 76 = .ok (.iaload, 1) := by decide +kernel
theorem d_Mod_isOpen_77 : decode b_Mod_isOpen 77 = .ok (.if_icmp .ge 13, 3) := by decide +kernel
theorem d_Mod_isOpen_80 : decode b_Mod_isOpen 80 = .ok (.iload_n 2, 1) := by decide +kernel
theorem d_Mod_isOpen_81 : decode b_Mod_isOpen 81 = .ok (.aload_n 0, 1) := by decide +kernel
theorem d_Mod_isOpen_82 : decode b_Mod_isOpen 82 = .ok (.getfield 26, 3) := by decide +kernel
theorem d_Mod_isOpen_85 : decode b_Mod_isOpen 85 = .ok (.iload_n 1, 1) := by decide +kernel
theorem d_Mod_isOpen_86 : decode b_Mod_isOpen 86 = .ok (.iaload, 1) := by decide +kernel
theorem d_Mod_isOpen_87 : decode b_Mod_isOpen 87 = .ok (.if_icmp .ge 7, 3) := by decide +kernel
theorem d_Mod_isOpen_90 : decode b_Mod_isOpen 90 = .ok (.iconst 1, 1) := by decide +kernel
theorem d_Mod_isOpen_91 : decode b_Mod_isOpen 91 = .ok (.goto 4, 3) := by decide +kernel
theorem d_Mod_isOpen_94 : decode b_Mod_isOpen 94 = .ok (.iconst 0, 1) := by decide +kernel
theorem d_Mod_isOpen_95 : decode b_Mod_isOpen 95 = .ok (.ireturn, 1) := by decide +kernel
theorem d_Mod_used_0 : decode b_Mod_used 0 = .ok (.iconst 0, 1) := by decide +kernel
theorem d_Mod_used_1 : decode b_Mod_used 1 = .ok (.istore_n 2, 1) := by decide +kernel
theorem d_Mod_used_2 : decode b_Mod_used 2 = .ok (.iconst 0, 1) := by decide +kernel
theorem d_Mod_used_3 : decode b_Mod_used 3 = .ok (.istore_n 3, 1) := by decide +kernel
theorem d_Mod_used_4 : decode b_Mod_used 4 = .ok (.iload_n 3, 1) := by decide +kernel
theorem d_Mod_used_5 : decode b_Mod_used 5 = .ok (.aload_n 0, 1) := by decide +kernel
theorem d_Mod_used_6 : decode b_Mod_used 6 = .ok (.getfield 76, 3) := by decide +kernel
theorem d_Mod_used_9 : decode b_Mod_used 9 = .ok (.if_icmp .ge 36, 3) := by decide +kernel
theorem d_Mod_used_12 : decode b_Mod_used 12 = .ok (.iload_n 2, 1) := by decide +kernel
theorem d_Mod_used_13 : decode b_Mod_used 13 = .ok (.aload_n 0, 1) := by decide +kernel
theorem d_Mod_used_14 : decode b_Mod_used 14 = .ok (.getfield 44, 3) := by decide +kernel
theorem d_Mod_used_17 : decode b_Mod_used 17 = .ok (.iload_n 3, 1) := by decide +kernel
theorem d_Mod_used_18 : decode b_Mod_used 18 = .ok (.iaload, 1) := by decide +kernel
theorem d_Mod_used_19 : decode b_Mod_used 19 = .ok (.iconst 2, 1) := by decide +kernel
theorem d_Mod_used_20 : decode b_Mod_used 20 = .ok (.if_icmp .ne 16, 3) := by decide +kernel
theorem d_Mod_used_23 : decode b_Mod_used 23 = .ok (.aload_n 0, 1) := by decide +kernel
theorem d_Mod_used_24 : decode b_Mod_used 24 = .ok (.getfield 47, 3) := by decide +kernel
theorem d_Mod_used_27 : decode b_Mod_used 27 = .ok (.iconst 4, 1) := by decide +kernel
theorem d_Mod_used_28 : decode b_Mod_used 28 = .ok (.iload_n 3, 1) := by decide +kernel
theorem d_Mod_used_29 : decode b_Mod_used 29 = .ok (.imul, 1) := by decide +kernel
theorem d_Mod_used_30 : decode b_Mod_used 30 = .ok (.iload_n 1, 1) := by decide +kernel
theorem d_Mod_used_31 : decode b_Mod_used 31 = .ok (.iadd, 1) := by decide +kernel
theorem d_Mod_used_32 : decode b_Mod_used 32 = .ok (.iaload, 1) := by decide +kernel
theorem d_Mod_used_33 : decode b_Mod_used 33 = .ok (.goto 4, 3) := by decide +kernel
theorem d_Mod_used_36 : decode b_Mod_used 36 = .ok (.iconst 0, 1) := by decide +kernel
theorem d_Mod_used_37 : decode b_Mod_used 37 = .ok (.iadd, 1) := by decide +kernel
theorem d_Mod_used_38 : decode b_Mod_used 38 = .ok (.istore_n 2, 1) := by decide +kernel
theorem d_Mod_used_39 : decode b_Mod_used 39 = .ok (.iinc 3 1, 3) := by decide +kernel
theorem d_Mod_used_42 : decode b_Mod_used 42 = .ok (.goto (-38), 3) := by decide +kernel
theorem d_Mod_used_45 : decode b_Mod_used 45 = .ok (.iload_n 2, 1) := by decide +kernel
theorem d_Mod_used_46 : decode b_Mod_used 46 = .ok (.ireturn, 1) := by decide +kernel
theorem d_Mod_mayStart_0 : decode b_Mod_mayStart 0 = .ok (.aload_n 0, 1) := by decide +kernel
theorem d_Mod_mayStart_1 : decode b_Mod_mayStart 1 = .ok (.getfield 44, 3) := by decide +kernel
theorem d_Mod_mayStart_4 : decode b_Mod_mayStart 4 = .ok (.iload_n 1, 1) := by decide +kernel
theorem d_Mod_mayStart_5 : decode b_Mod_mayStart 5 = .ok (.iaload, 1) := by decide +kernel
theorem d_Mod_mayStart_6 : decode b_Mod_mayStart 6 = .ok (.ifCond .ne 25, 3) := by decide +kernel
theorem d_Mod_mayStart_9 : decode b_Mod_mayStart 9 = .ok (.aload_n 0, 1) := by decide +kernel
theorem d_Mod_mayStart_10 : decode b_Mod_mayStart 10 = .ok (.getfield 50, 3) := by decide +kernel
theorem d_Mod_mayStart_13 : decode b_Mod_mayStart 13 = .ok (.iload_n 1, 1) := by decide +kernel
theorem d_Mod_mayStart_14 : decode b_Mod_mayStart 14 = .ok (.baload, 1) := by decide +kernel
theorem d_Mod_mayStart_15 : decode b_Mod_mayStart 15 = .ok (.ifCond .ne 16, 3) := by decide +kernel
theorem d_Mod_mayStart_18 : decode b_Mod_mayStart 18 = .ok (.aload_n 0, 1) := by decide +kernel
theorem d_Mod_mayStart_19 : decode b_Mod_mayStart 19 = .ok (.aload_n 0, 1) := by decide +kernel
theorem d_Mod_mayStart_20 : decode b_Mod_mayStart 20 = .ok (.getfield 35, 3) := by decide +kernel
theorem d_Mod_mayStart_23 : decode b_Mod_mayStart 23 = .ok (.iload_n 1, 1) := by decide +kernel
theorem d_Mod_mayStart_24 : decode b_Mod_mayStart 24 = .ok (.iaload, 1) := by decide +kernel
theorem d_Mod_mayStart_25 : decode b_Mod_mayStart 25 = .ok (.invokevirtual 102, 3) := by decide +kernel
theorem d_Mod_mayStart_28 : decode b_Mod_mayStart 28 = .ok (.ifCond .ne 5, 3) := by decide +kernel
theorem d_Mod_mayStart_31 : decode b_Mod_mayStart 31 = .ok (.iconst 0, 1) := by decide +kernel
theorem d_Mod_mayStart_32 : decode b_Mod_mayStart 32 = .ok (.ireturn, 1) := by decide +kernel
theorem d_Mod_mayStart_33 : decode b_Mod_mayStart 33 = .ok (.iconst 0, 1) := by decide +kernel
theorem d_Mod_mayStart_34 : decode b_Mod_mayStart 34 = .ok (.istore_n 2, 1) := by decide +kernel
theorem d_Mod_mayStart_35 : decode b_Mod_mayStart 35 = .ok (.iconst 1, 1) := by decide +kernel
theorem d_Mod_mayStart_36 : decode b_Mod_mayStart 36 = .ok (.istore_n 3, 1) := by decide +kernel
theorem d_Mod_mayStart_37 : decode b_Mod_mayStart 37 = .ok (.iconst 0, 1) := by decide +kernel
theorem d_Mod_mayStart_38 : decode b_Mod_mayStart 38 = .ok (.istore 4, 2) := by decide +kernel
theorem d_Mod_mayStart_40 : decode b_Mod_mayStart 40 = .ok (.iconst 0, 1) := by decide +kernel
theorem d_Mod_mayStart_41 : decode b_Mod_mayStart 41 = .ok (.istore 5, 2) := by decide +kernel
theorem d_Mod_mayStart_43 : decode b_Mod_mayStart 43 = .ok (.iconst 0, 1) := by decide +kernel
theorem d_Mod_mayStart_44 : decode b_Mod_mayStart 44 = .ok (.istore 6, 2) := by decide +kernel
theorem d_Mod_mayStart_46 : decode b_Mod_mayStart 46 = .ok (.iload 6, 2) := by decide +kernel
theorem d_Mod_mayStart_48 : decode b_Mod_mayStart 48 = .ok (.aload_n 0, 1) := by decide +kernel
theorem d_Mod_mayStart_49 : decode b_Mod_mayStart 49 = .ok (.getfield 76, 3) := by decide +kernel
theorem d_Mod_mayStart_52 : decode b_Mod_mayStart 52 = .ok (.if_icmp .ge 152, 3) := by decide +kernel
theorem d_Mod_mayStart_55 : decode b_Mod_mayStart 55 = .ok (.aload_n 0, 1) := by decide +kernel
theorem d_Mod_mayStart_56 : decode b_Mod_mayStart 56 = .ok (.getfield 44, 3) := by decide +kernel
theorem d_Mod_mayStart_59 : decode b_Mod_mayStart 59 = .ok (.iload 6, 2) := by decide +kernel
theorem d_Mod_mayStart_61 : decode b_Mod_mayStart 61 = .ok (.iaload, 1) := by decide +kernel
theorem d_Mod_mayStart_62 : decode b_Mod_mayStart 62 = .ok (.iconst 2, 1) := by decide +kernel
theorem d_Mod_mayStart_63 : decode b_Mod_mayStart 63 = .ok (.if_icmp .ne 7, 3) := by decide +kernel
theorem d_Mod_mayStart_66 : decode b_Mod_mayStart 66 = .ok (.iconst 1, 1) := by decide +kernel
theorem d_Mod_mayStart_67 : decode b_Mod_mayStart 67 = .ok (.goto 4, 3) := by decide +kernel
theorem d_Mod_mayStart_70 : decode b_Mod_mayStart 70 = .ok (.iconst 0, 1) := by decide +kernel
theorem d_Mod_mayStart_71 : decode b_Mod_mayStart 71 = .ok (.istore 7, 2) := by decide +kernel
theorem d_Mod_mayStart_73 : decode b_Mod_mayStart 73 = .ok (.iload 4, 2) := by decide +kernel
theorem d_Mod_mayStart_75 : decode b_Mod_mayStart 75 = .ok (.ifCond .ne 8, 3) := by decide +kernel
theorem d_Mod_mayStart_78 : decode b_Mod_mayStart 78 = .ok (.iload 7, 2) := by decide +kernel
theorem d_Mod_mayStart_80 : decode b_Mod_mayStart 80 = .ok (.ifCond .eq 7, 3) := by decide +kernel
theorem d_Mod_mayStart_83 : decode b_Mod_mayStart 83 = .ok (.iconst 1, 1) := by decide +kernel
theorem d_Mod_mayStart_84 : decode b_Mod_mayStart 84 = .ok (.goto 4, 3) := by decide +kernel
theorem d_Mod_mayStart_87 : decode b_Mod_mayStart 87 = .ok (.iconst 0, 1) := by decide +kernel
theorem d_Mod_mayStart_88 : decode b_Mod_mayStart 88 = .ok (.istore 4, 2) := by decide +kernel
theorem d_Mod_mayStart_90 : decode b_Mod_mayStart 90 = .ok (.iload_n 2, 1) := by decide +kernel
theorem d_Mod_mayStart_91 : decode b_Mod_mayStart 91 = .ok (.iload 7, 2) := by decide +kernel
theorem d_Mod_mayStart_93 : decode b_Mod_mayStart 93 = .ok (.ifCond .eq 23, 3) := by decide +kernel
theorem d_Mod_mayStart_96 : decode b_Mod_mayStart 96 = .ok (.aload_n 0, 1) := by decide +kernel
theorem d_Mod_mayStart_97 : decode b_Mod_mayStart 97 = .ok (.getfield 35, 3) := by decide +kernel
theorem d_Mod_mayStart_100 : decode b_Mod_mayStart 100 = .ok (.iload 6, 2) := by decide +kernel
theorem d_Mod_mayStart_102 : decode b_Mod_mayStart 102 = .ok (.iaload, 1) := by decide +kernel
theorem d_Mod_mayStart_103 : decode b_Mod_mayStart 103 = .ok (.aload_n 0, 1) := by decide +kernel
theorem d_Mod_mayStart_104 : decode b_Mod_mayStart 104 = .ok (.getfield 35, 3) := by decide +kernel
theorem d_Mod_mayStart_107 : decode b_Mod_mayStart 107 = .ok (.iload_n 1, 1) := by decide +kernel
theorem d_Mod_mayStart_108 : decode b_Mod_mayStart 108 = .ok (.iaload, 1) := by decide +kernel
theorem d_Mod_mayStart_109 : decode b_Mod_mayStart 109 = .ok (.if_icmp .ne 7, 3) := by decide +kernel
theorem d_Mod_mayStart_112 : decode b_Mod_mayStart 112 = .ok (.iconst 1, 1) := by decide +kernel
theorem d_Mod_mayStart_113 : decode b_Mod_mayStart 113 = .ok (.goto 4, 3) := by decide +kernel
theorem d_Mod_mayStart_116 : decode b_Mod_mayStart 116 = .ok (.iconst 0, 1) := by decide +kernel
theorem d_Mod_mayStart_117 : decode b_Mod_mayStart 117 = .ok (.iadd, 1) := by decide +kernel
theorem d_Mod_mayStart_118 : decode b_Mod_mayStart 118 = .ok (.istore_n 2, 1) := by decide +kernel
theorem d_Mod_mayStart_119 : decode b_Mod_mayStart 119 = .ok (.iload_n 3, 1) := by decide +kernel
theorem d_Mod_mayStart_120 : decode b_Mod_mayStart 120 = .ok (.ifCond .eq 38, 3) := by decide +kernel
theorem d_Mod_mayStart_123 : decode b_Mod_mayStart 123 = .ok (.iload 7, 2) := by decide +kernel
theorem d_Mod_mayStart_125 : decode b_Mod_mayStart 125 = .ok (.ifCond .eq 29, 3) := by decide +kernel
theorem d_Mod_mayStart_128 : decode b_Mod_mayStart 128 = .ok (.aload_n 0, 1) := by decide +kernel
theorem d_Mod_mayStart_129 : decode b_Mod_mayStart 129 = .ok (.getfield 41, 3) := by decide +kernel
theorem d_Mod_mayStart_132 : decode b_Mod_mayStart 132 = .ok (.iload 6, 2) := by decide +kernel
theorem d_Mod_mayStart_134 : decode b_Mod_mayStart 134 = .ok (.iaload, 1) := by decide +kernel
theorem d_Mod_mayStart_135 : decode b_Mod_mayStart 135 = .ok (.aload_n 0, 1) := by decide +kernel
theorem d_Mod_mayStart_136 : decode b_Mod_mayStart 136 = .ok (.getfield 41, 3) := by decide +kernel
theorem d_Mod_mayStart_139 : decode b_Mod_mayStart 139 = .ok (.iload_n 1, 1) := by decide +kernel
theorem d_Mod_mayStart_140 : decode b_Mod_mayStart 140 = .ok (.iaload, 1) := by decide +kernel
theorem d_Mod_mayStart_141 : decode b_Mod_mayStart 141 = .ok (.if_icmp .eq 17, 3) := by decide +kernel
theorem d_Mod_mayStart_144 : decode b_Mod_mayStart 144 = .ok (.aload_n 0, 1) := by decide +kernel
theorem d_Mod_mayStart_145 : decode b_Mod_mayStart 145 = .ok (.getfield 53, 3) := by decide +kernel
theorem d_Mod_mayStart_148 : decode b_Mod_mayStart 148 = .ok (.iload 6, 2) := by decide +kernel
theorem d_Mod_mayStart_150 : decode b_Mod_mayStart 150 = .ok (.baload, 1) := by decide +kernel
theorem d_Mod_mayStart_151 : decode b_Mod_mayStart 151 = .ok (.ifCond .ne 7, 3) := by decide +kernel
theorem d_Mod_mayStart_154 : decode b_Mod_mayStart 154 = .ok (.iconst 1, 1) := by decide +kernel
theorem d_Mod_mayStart_155 : decode b_Mod_mayStart 155 = .ok (.goto 4, 3) := by decide +kernel
theorem d_Mod_mayStart_158 : decode b_Mod_mayStart 158 = .ok (.iconst 0, 1) := by decide +kernel
theorem d_Mod_mayStart_159 : decode b_Mod_mayStart 159 = .ok (.istore_n 3, 1) := by decide +kernel
theorem d_Mod_mayStart_160 : decode b_Mod_mayStart 160 = .ok (.iload 5, 2) := by decide +kernel
theorem d_Mod_mayStart_162 : decode b_Mod_mayStart 162 = .ok (.ifCond .ne 29, 3) := by decide +kernel
theorem d_Mod_mayStart_165 : decode b_Mod_mayStart 165 = .ok (.aload_n 0, 1) := by decide +kernel
theorem d_Mod_mayStart_166 : decode b_Mod_mayStart 166 = .ok (.getfield 56, 3) := by decide +kernel
theorem d_Mod_mayStart_169 : decode b_Mod_mayStart 169 = .ok (.bipush 100, 2) := by decide +kernel
theorem d_Mod_mayStart_171 : decode b_Mod_mayStart 171 = .ok (.iload_n 1, 1) := by decide +kernel
theorem d_Mod_mayStart_172 : decode b_Mod_mayStart 172 = .ok (.imul, 1) := by decide +kernel
theorem d_Mod_mayStart_173 : decode b_Mod_mayStart 173 = .ok (.iload 6, 2) := by decide +kernel
theorem d_Mod_mayStart_175 : decode b_Mod_mayStart 175 = .ok (.iadd, 1) := by decide +kernel
theorem d_Mod_mayStart_176 : decode b_Mod_mayStart 176 = .ok (.baload, 1) := by decide +kernel
theorem d_Mod_mayStart_177 : decode b_Mod_mayStart 177 = .ok (.ifCond .eq 18, 3) := by decide +kernel
theorem d_Mod_mayStart_180 : decode b_Mod_mayStart 180 = .ok (.aload_n 0, 1) := by decide +kernel
theorem d_Mod_mayStart_181 : decode b_Mod_mayStart 181 = .ok (.getfield 44, 3) := by decide +kernel
theorem d_Mod_mayStart_184 : decode b_Mod_mayStart 184 = .ok (.iload 6, 2) := by decide +kernel
theorem d_Mod_mayStart_186 : decode b_Mod_mayStart 186 = .ok (.iaload, 1) := by decide +kernel
theorem d_Mod_mayStart_187 : decode b_Mod_mayStart 187 = .ok (.iconst 3, 1) := by decide +kernel
theorem d_Mod_mayStart_188 : decode b_Mod_mayStart 188 = .ok (.if_icmp .eq 7, 3) := by decide +kernel
theorem d_Mod_mayStart_191 : decode b_Mod_mayStart 191 = .ok (.iconst 1, 1) := by decide +kernel
theorem d_Mod_mayStart_192 : decode b_Mod_mayStart 192 = .ok (.goto 4, 3) := by decide +kernel
theorem d_Mod_mayStart_195 : decode b_Mod_mayStart 195 = .ok (.iconst 0, 1) := by decide +kernel
theorem d_Mod_mayStart_196 : decode b_Mod_mayStart 196 = .ok (.istore 5, 2) := by decide +kernel
theorem d_Mod_mayStart_198 : decode b_Mod_mayStart 198 = .ok (.iinc 6 1, 3) := by decide +kernel
theorem d_Mod_mayStart_201 : decode b_Mod_mayStart 201 = .ok (.goto (-155), 3) := by decide +kernel
theorem d_Mod_mayStart_204 : decode b_Mod_mayStart 204 = .ok (.iconst 1, 1) := by decide +kernel
theorem d_Mod_mayStart_205 : decode b_Mod_mayStart 205 = .ok (.istore 6, 2) := by decide +kernel
theorem d_Mod_mayStart_207 : decode b_Mod_mayStart 207 = .ok (.iconst 0, 1) := by decide +kernel
theorem d_Mod_mayStart_208 : decode b_Mod_mayStart 208 = .ok (.istore 7, 2) := by decide +kernel
theorem d_Mod_mayStart_210 : decode b_Mod_mayStart 210 = .ok (.iload 7, 2) := by decide +kernel
theorem d_Mod_mayStart_212 : decode b_Mod_mayStart 212 = .ok (.iconst 4, 1) := by decide +kernel
theorem d_Mod_mayStart_213 : decode b_Mod_mayStart 213 = .ok (.if_icmp .ge 49, 3) := by decide +kernel
theorem d_Mod_mayStart_216 : decode b_Mod_mayStart 216 = .ok (.iload 6, 2) := by decide +kernel
theorem d_Mod_mayStart_218 : decode b_Mod_mayStart 218 = .ok (.ifCond .eq 35, 3) := by decide +kernel
theorem d_Mod_mayStart_221 : decode b_Mod_mayStart 221 = .ok (.aload_n 0, 1) := by decide +kernel
theorem d_Mod_mayStart_222 : decode b_Mod_mayStart 222 = .ok (.getfield 47, 3) := by decide +kernel
theorem d_Mod_mayStart_225 : decode b_Mod_mayStart 225 = .ok (.iconst 4, 1) := by decide +kernel
theorem d_Mod_mayStart_226 : decode b_Mod_mayStart 226 = .ok (.iload_n 1, 1) := by decide +kernel
theorem d_Mod_mayStart_227 : decode b_Mod_mayStart 227 = .ok (.imul, 1) := by decide +kernel
theorem d_Mod_mayStart_228 : decode b_Mod_mayStart 228 = .ok (.iload 7, 2) := by decide +kernel
theorem d_Mod_mayStart_230 : decode b_Mod_mayStart 230 = .ok (.iadd, 1) := by decide +kernel
theorem d_Mod_mayStart_231 : decode b_Mod_mayStart 231 = .ok (.iaload, 1) := by decide +kernel
theorem d_Mod_mayStart_232 : decode b_Mod_mayStart 232 = .ok (.aload_n 0, 1) := by decide +kernel
theorem d_Mod_mayStart_233 : decode b_Mod_mayStart 233 = .ok (.iload 7, 2) := by decide +kernel
theorem d_Mod_mayStart_235 : decode b_Mod_mayStart 235 = .ok (.invokevirtual 105, 3) := by decide +kernel
theorem d_Mod_mayStart_238 : decode b_Mod_mayStart 238 = .ok (.iadd, 1) := by decide +kernel
theorem d_Mod_mayStart_239 : decode b_Mod_mayStart 239 = .ok (.aload_n 0, 1) := by decide +kernel
theorem d_Mod_mayStart_240 : decode b_Mod_mayStart 240 = .ok (.getfield 32, 3) := by decide +kernel
theorem d_Mod_mayStart_243 : decode b_Mod_mayStart 243 = .ok (.iload 7, 2) := by decide +kernel
theorem d_Mod_mayStart_245 : decode b_Mod_mayStart 245 = .ok (.iaload, 1) := by decide +kernel
end
section
theorem d_Mod_mayStart_246 : decode b_Mod_mayStart 246 = .ok (.if_icmp .gt 7, 3) := by decide +kernel
theorem d_Mod_mayStart_249 : decode b_Mod_mayStart 249 = .ok (.iconst 1, 1) := by decide +kernel
theorem d_Mod_mayStart_250 : decode b_Mod_mayStart 250 = .ok (.goto 4, 3) := by decide +kernel
theorem d_Mod_mayStart_253 : decode b_Mod_mayStart 253 = .ok (.iconst 0, 1) := by decide +kernel
theorem d_Mod_mayStart_254 : decode b_Mod_mayStart 254 = .ok (.istore 6, 2) := by decide +kernel
theorem d_Mod_mayStart_256 : decode b_Mod_mayStart 256 = .ok (.iinc 7 1, 3) := by decide +kernel
theorem d_Mod_mayStart_259 : decode b_Mod_mayStart 259 = .ok (.goto (-49), 3) := by decide +kernel
theorem d_Mod_mayStart_262 : decode b_Mod_mayStart 262 = .ok (.iload_n 3, 1) := by decide +kernel
theorem d_Mod_mayStart_263 : decode b_Mod_mayStart 263 = .ok (.ifCond .eq 46, 3) := by decide +kernel
theorem d_Mod_mayStart_266 : decode b_Mod_mayStart 266 = .ok (.iload 5, 2) := by decide +kernel
theorem d_Mod_mayStart_268 : decode b_Mod_mayStart 268 = .ok (.ifCond .ne 41, 3) := by decide +kernel
theorem d_Mod_mayStart_271 : decode b_Mod_mayStart 271 = .ok (.iload 6, 2) := by decide +kernel
theorem d_Mod_mayStart_273 : decode b_Mod_mayStart 273 = .ok (.ifCond .eq 36, 3) := by decide +kernel
theorem d_Mod_mayStart_276 : decode b_Mod_mayStart 276 = .ok (.iload_n 2, 1) := by decide +kernel
theorem d_Mod_mayStart_277 : decode b_Mod_mayStart 277 = .ok (.aload_n 0, 1) := by decide +kernel
theorem d_Mod_mayStart_278 : decode b_Mod_mayStart 278 = .ok (.getfield 20, 3) := by decide +kernel
theorem d_Mod_mayStart_281 : decode b_Mod_mayStart 281 = .ok (.aload_n 0, 1) := by decide +kernel
theorem d_Mod_mayStart_282 : decode b_Mod_mayStart 282 = .ok (.getfield 35, 3) := by decide +kernel
theorem d_Mod_mayStart_285 : decode b_Mod_mayStart 285 = .ok (.iload_n 1, 1) := by decide +kernel
theorem d_Mod_mayStart_286 : decode b_Mod_mayStart 286 = .ok (.iaload, 1) := by decide +kernel
theorem d_Mod_mayStart_287 : decode b_Mod_mayStart 287 = .ok (.iaload, 1) := by decide +kernel
theorem d_Mod_mayStart_288 : decode b_Mod_mayStart 288 = .ok (.if_icmp .ge 21, 3) := by decide +kernel
theorem d_Mod_mayStart_291 : decode b_Mod_mayStart 291 = .ok (.aload_n 0, 1) := by decide +kernel
theorem d_Mod_mayStart_292 : decode b_Mod_mayStart 292 = .ok (.getfield 53, 3) := by decide +kernel
theorem d_Mod_mayStart_295 : decode b_Mod_mayStart 295 = .ok (.iload_n 1, 1) := by decide +kernel
theorem d_Mod_mayStart_296 : decode b_Mod_mayStart 296 = .ok (.baload, 1) := by decide +kernel
theorem d_Mod_mayStart_297 : decode b_Mod_mayStart 297 = .ok (.ifCond .eq 8, 3) := by decide +kernel
theorem d_Mod_mayStart_300 : decode b_Mod_mayStart 300 = .ok (.iload 4, 2) := by decide +kernel
theorem d_Mod_mayStart_302 : decode b_Mod_mayStart 302 = .ok (.ifCond .ne 7, 3) := by decide +kernel
theorem d_Mod_mayStart_305 : decode b_Mod_mayStart 305 = .ok (.iconst 1, 1) := by decide +kernel
theorem d_Mod_mayStart_306 : decode b_Mod_mayStart 306 = .ok (.goto 4, 3) := by decide +kernel
theorem d_Mod_mayStart_309 : decode b_Mod_mayStart 309 = .ok (.iconst 0, 1) := by decide +kernel
theorem d_Mod_mayStart_310 : decode b_Mod_mayStart 310 = .ok (.ireturn, 1) := by decide +kernel
theorem d_Mod_priority_0 : decode b_Mod_priority 0 = .ok (.aload_n 0, 1) := by decide +kernel
theorem d_Mod_priority_1 : decode b_Mod_priority 1 = .ok (.getfield 38, 3) := by decide +kernel
theorem d_Mod_priority_4 : decode b_Mod_priority 4 = .ok (.iload_n 1, 1) := by decide +kernel
theorem d_Mod_priority_5 : decode b_Mod_priority 5 = .ok (.iaload, 1) := by decide +kernel
theorem d_Mod_priority_6 : decode b_Mod_priority 6 = .ok (.i2l, 1) := by decide +kernel
theorem d_Mod_priority_7 : decode b_Mod_priority 7 = .ok (.lstore_n 2, 1) := by decide +kernel
theorem d_Mod_priority_8 : decode b_Mod_priority 8 = .ok (.aload_n 0, 1) := by decide +kernel
theorem d_Mod_priority_9 : decode b_Mod_priority 9 = .ok (.getfield 109, 3) := by decide +kernel
theorem d_Mod_priority_12 : decode b_Mod_priority 12 = .ok (.lconst 0, 1) := by decide +kernel
theorem d_Mod_priority_13 : decode b_Mod_priority 13 = .ok (.lcmp, 1) := by decide +kernel
theorem d_Mod_priority_14 : decode b_Mod_priority 14 = .ok (.ifCond .ne 5, 3) := by decide +kernel
theorem d_Mod_priority_17 : decode b_Mod_priority 17 = .ok (.lload_n 2, 1) := by decide +kernel
theorem d_Mod_priority_18 : decode b_Mod_priority 18 = .ok (.lreturn, 1) := by decide +kernel
theorem d_Mod_priority_19 : decode b_Mod_priority 19 = .ok (.aload_n 0, 1) := by decide +kernel
theorem d_Mod_priority_20 : decode b_Mod_priority 20 = .ok (.getfield 89, 3) := by decide +kernel
theorem d_Mod_priority_23 : decode b_Mod_priority 23 = .ok (.aload_n 0, 1) := by decide +kernel
theorem d_Mod_priority_24 : decode b_Mod_priority 24 = .ok (.getfield 62, 3) := by decide +kernel
theorem d_Mod_priority_27 : decode b_Mod_priority 27 = .ok (.iload_n 1, 1) := by decide +kernel
theorem d_Mod_priority_28 : decode b_Mod_priority 28 = .ok (.laload, 1) := by decide +kernel
theorem d_Mod_priority_29 : decode b_Mod_priority 29 = .ok (.lsub, 1) := by decide +kernel
theorem d_Mod_priority_30 : decode b_Mod_priority 30 = .ok (.aload_n 0, 1) := by decide +kernel
theorem d_Mod_priority_31 : decode b_Mod_priority 31 = .ok (.getfield 109, 3) := by decide +kernel
theorem d_Mod_priority_34 : decode b_Mod_priority 34 = .ok (.ldiv, 1) := by decide +kernel
theorem d_Mod_priority_35 : decode b_Mod_priority 35 = .ok (.lstore 4, 2) := by decide +kernel
theorem d_Mod_priority_37 : decode b_Mod_priority 37 = .ok (.lload 4, 2) := by decide +kernel
theorem d_Mod_priority_39 : decode b_Mod_priority 39 = .ok (.ldc2_w 112, 3) := by decide +kernel
theorem d_Mod_priority_42 : decode b_Mod_priority 42 = .ok (.lcmp, 1) := by decide +kernel
theorem d_Mod_priority_43 : decode b_Mod_priority 43 = .ok (.ifCond .le 9, 3) := by decide +kernel
theorem d_Mod_priority_46 : decode b_Mod_priority 46 = .ok (.ldc2_w 112, 3) := by decide +kernel
theorem d_Mod_priority_49 : decode b_Mod_priority 49 = .ok (.goto 5, 3) := by decide +kernel
theorem d_Mod_priority_52 : decode b_Mod_priority 52 = .ok (.lload 4, 2) := by decide +kernel
theorem d_Mod_priority_54 : decode b_Mod_priority 54 = .ok (.lstore 6, 2) := by decide +kernel
theorem d_Mod_priority_56 : decode b_Mod_priority 56 = .ok (.lload_n 2, 1) := by decide +kernel
theorem d_Mod_priority_57 : decode b_Mod_priority 57 = .ok (.lload 6, 2) := by decide +kernel
theorem d_Mod_priority_59 : decode b_Mod_priority 59 = .ok (.ladd, 1) := by decide +kernel
theorem d_Mod_priority_60 : decode b_Mod_priority 60 = .ok (.aload_n 0, 1) := by decide +kernel
theorem d_Mod_priority_61 : decode b_Mod_priority 61 = .ok (.getfield 114, 3) := by decide +kernel
theorem d_Mod_priority_64 : decode b_Mod_priority 64 = .ok (.i2l, 1) := by decide +kernel
theorem d_Mod_priority_65 : decode b_Mod_priority 65 = .ok (.lcmp, 1) := by decide +kernel
theorem d_Mod_priority_66 : decode b_Mod_priority 66 = .ok (.ifCond .le 11, 3) := by decide +kernel
theorem d_Mod_priority_69 : decode b_Mod_priority 69 = .ok (.aload_n 0, 1) := by decide +kernel
theorem d_Mod_priority_70 : decode b_Mod_priority 70 = .ok (.getfield 114, 3) := by decide +kernel
theorem d_Mod_priority_73 : decode b_Mod_priority 73 = .ok (.i2l, 1) := by decide +kernel
theorem d_Mod_priority_74 : decode b_Mod_priority 74 = .ok (.goto 7, 3) := by decide +kernel
theorem d_Mod_priority_77 : decode b_Mod_priority 77 = .ok (.lload_n 2, 1) := by decide +kernel
theorem d_Mod_priority_78 : decode b_Mod_priority 78 = .ok (.lload 6, 2) := by decide +kernel
theorem d_Mod_priority_80 : decode b_Mod_priority 80 = .ok (.ladd, 1) := by decide +kernel
theorem d_Mod_priority_81 : decode b_Mod_priority 81 = .ok (.lstore 8, 2) := by decide +kernel
theorem d_Mod_priority_83 : decode b_Mod_priority 83 = .ok (.lload 8, 2) := by decide +kernel
theorem d_Mod_priority_85 : decode b_Mod_priority 85 = .ok (.lload_n 2, 1) := by decide +kernel
theorem d_Mod_priority_86 : decode b_Mod_priority 86 = .ok (.lcmp, 1) := by decide +kernel
theorem d_Mod_priority_87 : decode b_Mod_priority 87 = .ok (.ifCond .ge 7, 3) := by decide +kernel
theorem d_Mod_priority_90 : decode b_Mod_priority 90 = .ok (.lload_n 2, 1) := by decide +kernel
theorem d_Mod_priority_91 : decode b_Mod_priority 91 = .ok (.goto 5, 3) := by decide +kernel
theorem d_Mod_priority_94 : decode b_Mod_priority 94 = .ok (.lload 8, 2) := by decide +kernel
theorem d_Mod_priority_96 : decode b_Mod_priority 96 = .ok (.lreturn, 1) := by decide +kernel
theorem d_Mod_isAhead_0 : decode b_Mod_isAhead 0 = .ok (.aload_n 0, 1) := by decide +kernel
theorem d_Mod_isAhead_1 : decode b_Mod_isAhead 1 = .ok (.iload_n 1, 1) := by decide +kernel
theorem d_Mod_isAhead_2 : decode b_Mod_isAhead 2 = .ok (.invokevirtual 117, 3) := by decide +kernel
theorem d_Mod_isAhead_5 : decode b_Mod_isAhead 5 = .ok (.lstore_n 3, 1) := by decide +kernel
theorem d_Mod_isAhead_6 : decode b_Mod_isAhead 6 = .ok (.aload_n 0, 1) := by decide +kernel
theorem d_Mod_isAhead_7 : decode b_Mod_isAhead 7 = .ok (.iload_n 2, 1) := by decide +kernel
theorem d_Mod_isAhead_8 : decode b_Mod_isAhead 8 = .ok (.invokevirtual 117, 3) := by decide +kernel
theorem d_Mod_isAhead_11 : decode b_Mod_isAhead 11 = .ok (.lstore 5, 2) := by decide +kernel
theorem d_Mod_isAhead_13 : decode b_Mod_isAhead 13 = .ok (.lload_n 3, 1) := by decide +kernel
theorem d_Mod_isAhead_14 : decode b_Mod_isAhead 14 = .ok (.lload 5, 2) := by decide +kernel
theorem d_Mod_isAhead_16 : decode b_Mod_isAhead 16 = .ok (.lcmp, 1) := by decide +kernel
theorem d_Mod_isAhead_17 : decode b_Mod_isAhead 17 = .ok (.ifCond .gt 15, 3) := by decide +kernel
theorem d_Mod_isAhead_20 : decode b_Mod_isAhead 20 = .ok (.lload_n 3, 1) := by decide +kernel
theorem d_Mod_isAhead_21 : decode b_Mod_isAhead 21 = .ok (.lload 5, 2) := by decide +kernel
theorem d_Mod_isAhead_23 : decode b_Mod_isAhead 23 = .ok (.lcmp, 1) := by decide +kernel
theorem d_Mod_isAhead_24 : decode b_Mod_isAhead 24 = .ok (.ifCond .ne 12, 3) := by decide +kernel
theorem d_Mod_isAhead_27 : decode b_Mod_isAhead 27 = .ok (.iload_n 1, 1) := by decide +kernel
theorem d_Mod_isAhead_28 : decode b_Mod_isAhead 28 = .ok (.iload_n 2, 1) := by decide +kernel
theorem d_Mod_isAhead_29 : decode b_Mod_isAhead 29 = .ok (.if_icmp .ge 7, 3) := by decide +kernel
theorem d_Mod_isAhead_32 : decode b_Mod_isAhead 32 = .ok (.iconst 1, 1) := by decide +kernel
theorem d_Mod_isAhead_33 : decode b_Mod_isAhead 33 = .ok (.goto 4, 3) := by decide +kernel
theorem d_Mod_isAhead_36 : decode b_Mod_isAhead 36 = .ok (.iconst 0, 1) := by decide +kernel
theorem d_Mod_isAhead_37 : decode b_Mod_isAhead 37 = .ok (.ireturn, 1) := by decide +kernel
theorem d_Mod_next_0 : decode b_Mod_next 0 = .ok (.aload_n 0, 1) := by decide +kernel
theorem d_Mod_next_1 : decode b_Mod_next 1 = .ok (.iconst 0, 1) := by decide +kernel
theorem d_Mod_next_2 : decode b_Mod_next 2 = .ok (.putfield 69, 3) := by decide +kernel
theorem d_Mod_next_5 : decode b_Mod_next 5 = .ok (.aload_n 0, 1) := by decide +kernel
theorem d_Mod_next_6 : decode b_Mod_next 6 = .ok (.iload_n 1, 1) := by decide +kernel
theorem d_Mod_next_7 : decode b_Mod_next 7 = .ok (.invokevirtual 79, 3) := by decide +kernel
theorem d_Mod_next_10 : decode b_Mod_next 10 = .ok (.ifCond .ne 6, 3) := by decide +kernel
theorem d_Mod_next_13 : decode b_Mod_next 13 = .ok (.bipush (-2), 2) := by decide +kernel
theorem d_Mod_next_15 : decode b_Mod_next 15 = .ok (.ireturn, 1) := by decide +kernel
theorem d_Mod_next_16 : decode b_Mod_next 16 = .ok (.lload_n 2, 1) := by decide +kernel
theorem d_Mod_next_17 : decode b_Mod_next 17 = .ok (.aload_n 0, 1) := by decide +kernel
theorem d_Mod_next_18 : decode b_Mod_next 18 = .ok (.getfield 89, 3) := by decide +kernel
theorem d_Mod_next_21 : decode b_Mod_next 21 = .ok (.lcmp, 1) := by decide +kernel
theorem d_Mod_next_22 : decode b_Mod_next 22 = .ok (.ifCond .ge 6, 3) := by decide +kernel
theorem d_Mod_next_25 : decode b_Mod_next 25 = .ok (.bipush (-4), 2) := by decide +kernel
theorem d_Mod_next_27 : decode b_Mod_next 27 = .ok (.ireturn, 1) := by decide +kernel
theorem d_Mod_next_28 : decode b_Mod_next 28 = .ok (.iload_n 1, 1) := by decide +kernel
theorem d_Mod_next_29 : decode b_Mod_next 29 = .ok (.iconst 1, 1) := by decide +kernel
theorem d_Mod_next_30 : decode b_Mod_next 30 = .ok (.isub, 1) := by decide +kernel
theorem d_Mod_next_31 : decode b_Mod_next 31 = .ok (.istore 4, 2) := by decide +kernel
theorem d_Mod_next_33 : decode b_Mod_next 33 = .ok (.aload_n 0, 1) := by decide +kernel
theorem d_Mod_next_34 : decode b_Mod_next 34 = .ok (.getfield 16, 3) := by decide +kernel
theorem d_Mod_next_37 : decode b_Mod_next 37 = .ok (.iload 4, 2) := by decide +kernel
theorem d_Mod_next_39 : decode b_Mod_next 39 = .ok (.baload, 1) := by decide +kernel
theorem d_Mod_next_40 : decode b_Mod_next 40 = .ok (.ifCond .ne 14, 3) := by decide +kernel
theorem d_Mod_next_43 : decode b_Mod_next 43 = .ok (.aload_n 0, 1) := by decide +kernel
theorem d_Mod_next_44 : decode b_Mod_next 44 = .ok (.getfield 13, 3) := by decide +kernel
theorem d_Mod_next_47 : decode b_Mod_next 47 = .ok (.iload 4, 2) := by decide +kernel
theorem d_Mod_next_49 : decode b_Mod_next 49 = .ok (.iaload, 1) := by decide +kernel
theorem d_Mod_next_50 : decode b_Mod_next 50 = .ok (.iconst (-1), 1) := by decide +kernel
theorem d_Mod_next_51 : decode b_Mod_next 51 = .ok (.if_icmp .eq 6, 3) := by decide +kernel
theorem d_Mod_next_54 : decode b_Mod_next 54 = .ok (.bipush (-5), 2) := by decide +kernel
theorem d_Mod_next_56 : decode b_Mod_next 56 = .ok (.ireturn, 1) := by decide +kernel
theorem d_Mod_next_57 : decode b_Mod_next 57 = .ok (.aload_n 0, 1) := by decide +kernel
theorem d_Mod_next_58 : decode b_Mod_next 58 = .ok (.lload_n 2, 1) := by decide +kernel
theorem d_Mod_next_59 : decode b_Mod_next 59 = .ok (.putfield 89, 3) := by decide +kernel
theorem d_Mod_next_62 : decode b_Mod_next 62 = .ok (.iconst (-1), 1) := by decide +kernel
theorem d_Mod_next_63 : decode b_Mod_next 63 = .ok (.istore 5, 2) := by decide +kernel
theorem d_Mod_next_65 : decode b_Mod_next 65 = .ok (.iconst 0, 1) := by decide +kernel
theorem d_Mod_next_66 : decode b_Mod_next 66 = .ok (.istore 6, 2) := by decide +kernel
theorem d_Mod_next_68 : decode b_Mod_next 68 = .ok (.iload 6, 2) := by decide +kernel
theorem d_Mod_next_70 : decode b_Mod_next 70 = .ok (.bipush 8, 2) := by decide +kernel
theorem d_Mod_next_72 : decode b_Mod_next 72 = .ok (.if_icmp .ge 86, 3) := by decide +kernel
theorem d_Mod_next_75 : decode b_Mod_next 75 = .ok (.iload 5, 2) := by decide +kernel
theorem d_Mod_next_77 : decode b_Mod_next 77 = .ok (.iconst (-1), 1) := by decide +kernel
theorem d_Mod_next_78 : decode b_Mod_next 78 = .ok (.if_icmp .ne 80, 3) := by decide +kernel
theorem d_Mod_next_81 : decode b_Mod_next 81 = .ok (.iconst 0, 1) := by decide +kernel
theorem d_Mod_next_82 : decode b_Mod_next 82 = .ok (.istore 7, 2) := by decide +kernel
theorem d_Mod_next_84 : decode b_Mod_next 84 = .ok (.iload 7, 2) := by decide +kernel
theorem d_Mod_next_86 : decode b_Mod_next 86 = .ok (.aload_n 0, 1) := by decide +kernel
theorem d_Mod_next_87 : decode b_Mod_next 87 = .ok (.getfield 76, 3) := by decide +kernel
theorem d_Mod_next_90 : decode b_Mod_next 90 = .ok (.if_icmp .ge 62, 3) := by decide +kernel
theorem d_Mod_next_93 : decode b_Mod_next 93 = .ok (.aload_n 0, 1) := by decide +kernel
theorem d_Mod_next_94 : decode b_Mod_next 94 = .ok (.getfield 35, 3) := by decide +kernel
theorem d_Mod_next_97 : decode b_Mod_next 97 = .ok (.iload 7, 2) := by decide +kernel
theorem d_Mod_next_99 : decode b_Mod_next 99 = .ok (.iaload, 1) := by decide +kernel
theorem d_Mod_next_100 : decode b_Mod_next 100 = .ok (.aload_n 0, 1) := by decide +kernel
theorem d_Mod_next_101 : decode b_Mod_next 101 = .ok (.getfield 7, 3) := by decide +kernel
theorem d_Mod_next_104 : decode b_Mod_next 104 = .ok (.bipush 8, 2) := by decide +kernel
theorem d_Mod_next_106 : decode b_Mod_next 106 = .ok (.iload 4, 2) := by decide +kernel
theorem d_Mod_next_108 : decode b_Mod_next 108 = .ok (.imul, 1) := by decide +kernel
theorem d_Mod_next_109 : decode b_Mod_next 109 = .ok (.iload 6, 2) := by decide +kernel
theorem d_Mod_next_111 : decode b_Mod_next 111 = .ok (.iadd, 1) := by decide +kernel
theorem d_Mod_next_112 : decode b_Mod_next 112 = .ok (.iaload, 1) := by decide +kernel
theorem d_Mod_next_113 : decode b_Mod_next 113 = .ok (.if_icmp .ne 33, 3) := by decide +kernel
theorem d_Mod_next_116 : decode b_Mod_next 116 = .ok (.aload_n 0, 1) := by decide +kernel
theorem d_Mod_next_117 : decode b_Mod_next 117 = .ok (.iload 7, 2) := by decide +kernel
theorem d_Mod_next_119 : decode b_Mod_next 119 = .ok (.invokevirtual 121, 3) := by decide +kernel
theorem d_Mod_next_122 : decode b_Mod_next 122 = .ok (.ifCond .eq 24, 3) := by decide +kernel
theorem d_Mod_next_125 : decode b_Mod_next 125 = .ok (.iload 5, 2) := by decide +kernel
theorem d_Mod_next_127 : decode b_Mod_next 127 = .ok (.iconst (-1), 1) := by decide +kernel
theorem d_Mod_next_128 : decode b_Mod_next 128 = .ok (.if_icmp .eq 14, 3) := by decide +kernel
theorem d_Mod_next_131 : decode b_Mod_next 131 = .ok (.aload_n 0, 1) := by decide +kernel
theorem d_Mod_next_132 : decode b_Mod_next 132 = .ok (.iload 7, 2) := by decide +kernel
theorem d_Mod_next_134 : decode b_Mod_next 134 = .ok (.iload 5, 2) := by decide +kernel
theorem d_Mod_next_136 : decode b_Mod_next 136 = .ok (.invokevirtual 124, 3) := by decide +kernel
theorem d_Mod_next_139 : decode b_Mod_next 139 = .ok (.ifCond .eq 7, 3) := by decide +kernel
theorem d_Mod_next_142 : decode b_Mod_next 142 = .ok (.iload 7, 2) := by decide +kernel
theorem d_Mod_next_144 : decode b_Mod_next 144 = .ok (.istore 5, 2) := by decide +kernel
theorem d_Mod_next_146 : decode b_Mod_next 146 = .ok (.iinc 7 1, 3) := by decide +kernel
theorem d_Mod_next_149 : decode b_Mod_next 149 = .ok (.goto (-65), 3) := by decide +kernel
theorem d_Mod_next_152 : decode b_Mod_next 152 = .ok (.iinc 6 1, 3) := by decide +kernel
theorem d_Mod_next_155 : decode b_Mod_next 155 = .ok (.goto (-87), 3) := by decide +kernel
theorem d_Mod_next_158 : decode b_Mod_next 158 = .ok (.iload 5, 2) := by decide +kernel
theorem d_Mod_next_160 : decode b_Mod_next 160 = .ok (.iconst (-1), 1) := by decide +kernel
theorem d_Mod_next_161 : decode b_Mod_next 161 = .ok (.if_icmp .ne 5, 3) := by decide +kernel
theorem d_Mod_next_164 : decode b_Mod_next 164 = .ok (.iconst 0, 1) := by decide +kernel
theorem d_Mod_next_165 : decode b_Mod_next 165 = .ok (.ireturn, 1) := by decide +kernel
theorem d_Mod_next_166 : decode b_Mod_next 166 = .ok (.aload_n 0, 1) := by decide +kernel
theorem d_Mod_next_167 : decode b_Mod_next 167 = .ok (.getfield 13, 3) := by decide +kernel
theorem d_Mod_next_170 : decode b_Mod_next 170 = .ok (.iload 4, 2) := by decide +kernel
theorem d_Mod_next_172 : decode b_Mod_next 172 = .ok (.iload 5, 2) := by decide +kernel
theorem d_Mod_next_174 : decode b_Mod_next 174 = .ok (.iastore, 1) := by decide +kernel
theorem d_Mod_next_175 : decode b_Mod_next 175 = .ok (.aload_n 0, 1) := by decide +kernel
theorem d_Mod_next_176 : decode b_Mod_next 176 = .ok (.getfield 44, 3) := by decide +kernel
theorem d_Mod_next_179 : decode b_Mod_next 179 = .ok (.iload 5, 2) := by decide +kernel
theorem d_Mod_next_181 : decode b_Mod_next 181 = .ok (.iconst 2, 1) := by decide +kernel
theorem d_Mod_next_182 : decode b_Mod_next 182 = .ok (.iastore, 1) := by decide +kernel
theorem d_Mod_next_183 : decode b_Mod_next 183 = .ok (.aload_n 0, 1) := by decide +kernel
theorem d_Mod_next_184 : decode b_Mod_next 184 = .ok (.getfield 66, 3) := by decide +kernel
theorem d_Mod_next_187 : decode b_Mod_next 187 = .ok (.iload 5, 2) := by decide +kernel
theorem d_Mod_next_189 : decode b_Mod_next 189 = .ok (.aload_n 0, 1) := by decide +kernel
theorem d_Mod_next_190 : decode b_Mod_next 190 = .ok (.getfield 89, 3) := by decide +kernel
theorem d_Mod_next_193 : decode b_Mod_next 193 = .ok (.lastore, 1) := by decide +kernel
theorem d_Mod_next_194 : decode b_Mod_next 194 = .ok (.iload 5, 2) := by decide +kernel
theorem d_Mod_next_196 : decode b_Mod_next 196 = .ok (.iconst 1, 1) := by decide +kernel
theorem d_Mod_next_197 : decode b_Mod_next 197 = .ok (.iadd, 1) := by decide +kernel
theorem d_Mod_next_198 : decode b_Mod_next 198 = .ok (.ireturn, 1) := by decide +kernel
theorem d_Mod_end_0 : decode b_Mod_end 0 = .ok (.aload_n 0, 1) := by decide +kernel
theorem d_Mod_end_1 : decode b_Mod_end 1 = .ok (.iconst 0, 1) := by decide +kernel
theorem d_Mod_end_2 : decode b_Mod_end 2 = .ok (.putfield 69, 3) := by decide +kernel
theorem d_Mod_end_5 : decode b_Mod_end 5 = .ok (.aload_n 0, 1) := by decide +kernel
theorem d_Mod_end_6 : decode b_Mod_end 6 = .ok (.iload_n 1, 1) := by decide +kernel
theorem d_Mod_end_7 : decode b_Mod_end 7 = .ok (.invokevirtual 93, 3) := by decide +kernel
theorem d_Mod_end_10 : decode b_Mod_end 10 = .ok (.ifCond .ne 6, 3) := by decide +kernel
theorem d_Mod_end_13 : decode b_Mod_end 13 = .ok (.bipush (-2), 2) := by decide +kernel
theorem d_Mod_end_15 : decode b_Mod_end 15 = .ok (.ireturn, 1) := by decide +kernel
theorem d_Mod_end_16 : decode b_Mod_end 16 = .ok (.aload_n 0, 1) := by decide +kernel
theorem d_Mod_end_17 : decode b_Mod_end 17 = .ok (.getfield 44, 3) := by decide +kernel
theorem d_Mod_end_20 : decode b_Mod_end 20 = .ok (.iload_n 1, 1) := by decide +kernel
theorem d_Mod_end_21 : decode b_Mod_end 21 = .ok (.iconst 1, 1) := by decide +kernel
theorem d_Mod_end_22 : decode b_Mod_end 22 = .ok (.isub, 1) := by decide +kernel
theorem d_Mod_end_23 : decode b_Mod_end 23 = .ok (.iaload, 1) := by decide +kernel
theorem d_Mod_end_24 : decode b_Mod_end 24 = .ok (.iconst 2, 1) := by decide +kernel
theorem d_Mod_end_25 : decode b_Mod_end 25 = .ok (.if_icmp .eq 6, 3) := by decide +kernel
theorem d_Mod_end_28 : decode b_Mod_end 28 = .ok (.bipush (-5), 2) := by decide +kernel
theorem d_Mod_end_30 : decode b_Mod_end 30 = .ok (.ireturn, 1) := by decide +kernel
theorem d_Mod_end_31 : decode b_Mod_end 31 = .ok (.aload_n 0, 1) := by decide +kernel
theorem d_Mod_end_32 : decode b_Mod_end 32 = .ok (.getfield 44, 3) := by decide +kernel
theorem d_Mod_end_35 : decode b_Mod_end 35 = .ok (.iload_n 1, 1) := by decide +kernel
theorem d_Mod_end_36 : decode b_Mod_end 36 = .ok (.iconst 1, 1) := by decide +kernel
theorem d_Mod_end_37 : decode b_Mod_end 37 = .ok (.isub, 1) := by decide +kernel
theorem d_Mod_end_38 : decode b_Mod_end 38 = .ok (.iconst 3, 1) := by decide +kernel
theorem d_Mod_end_39 : decode b_Mod_end 39 = .ok (.iastore, 1) := by decide +kernel
theorem d_Mod_end_40 : decode b_Mod_end 40 = .ok (.iconst 0, 1) := by decide +kernel
theorem d_Mod_end_41 : decode b_Mod_end 41 = .ok (.istore_n 2, 1) := by decide +kernel
theorem d_Mod_end_42 : decode b_Mod_end 42 = .ok (.iload_n 2, 1) := by decide +kernel
theorem d_Mod_end_43 : decode b_Mod_end 43 = .ok (.bipush 12, 2) := by decide +kernel
theorem d_Mod_end_45 : decode b_Mod_end 45 = .ok (.if_icmp .ge 37, 3) := by decide +kernel
theorem d_Mod_end_48 : decode b_Mod_end 48 = .ok (.aload_n 0, 1) := by decide +kernel
theorem d_Mod_end_49 : decode b_Mod_end 49 = .ok (.getfield 13, 3) := by decide +kernel
theorem d_Mod_end_52 : decode b_Mod_end 52 = .ok (.iload_n 2, 1) := by decide +kernel
theorem d_Mod_end_53 : decode b_Mod_end 53 = .ok (.aload_n 0, 1) := by decide +kernel
theorem d_Mod_end_54 : decode b_Mod_end 54 = .ok (.getfield 13, 3) := by decide +kernel
theorem d_Mod_end_57 : decode b_Mod_end 57 = .ok (.iload_n 2, 1) := by decide +kernel
theorem d_Mod_end_58 : decode b_Mod_end 58 = .ok (.iaload, 1) := by decide +kernel
theorem d_Mod_end_59 : decode b_Mod_end 59 = .ok (.iload_n 1, 1) := by decide +kernel
theorem d_Mod_end_60 : decode b_Mod_end 60 = .ok (.iconst 1, 1) := by decide +kernel
theorem d_Mod_end_61 : decode b_Mod_end 61 = .ok (.isub, 1) := by decide +kernel
theorem d_Mod_end_62 : decode b_Mod_end 62 = .ok (.if_icmp .ne 7, 3) := by decide +kernel
theorem d_Mod_end_65 : decode b_Mod_end 65 = .ok (.iconst (-1), 1) := by decide +kernel
theorem d_Mod_end_66 : decode b_Mod_end 66 = .ok (.goto 9, 3) := by decide +kernel
theorem d_Mod_end_69 : decode b_Mod_end 69 = .ok (.aload_n 0, 1) := by decide +kernel
theorem d_Mod_end_70 : decode b_Mod_end 70 = .ok (.getfield 13, 3) := by decide +kernel
theorem d_Mod_end_73 : decode b_Mod_end 73 = .ok (.iload_n 2, 1) := by decide +kernel
theorem d_Mod_end_74 : decode b_Mod_end 74 = .ok (.iaload, 1) := by decide +kernel
theorem d_Mod_end_75 : decode b_Mod_end 75 = .ok (.iastore, 1) := by decide +kernel
theorem d_Mod_end_76 : decode b_Mod_end 76 = .ok (.iinc 2 1, 3) := by decide +kernel
theorem d_Mod_end_79 : decode b_Mod_end 79 = .ok (.goto (-37), 3) := by decide +kernel
theorem d_Mod_end_82 : decode b_Mod_end 82 = .ok (.iconst 1, 1) := by decide +kernel
theorem d_Mod_end_83 : decode b_Mod_end 83 = .ok (.ireturn, 1) := by decide +kernel
theorem d_Mod_age_0 : decode b_Mod_age 0 = .ok (.aload_n 0, 1) := by decide +kernel
theorem d_Mod_age_1 : decode b_Mod_age 1 = .ok (.iconst 0, 1) := by decide +kernel
theorem d_Mod_age_2 : decode b_Mod_age 2 = .ok (.putfield 69, 3) := by decide +kernel
theorem d_Mod_age_5 : decode b_Mod_age 5 = .ok (.lload_n 1, 1) := by decide +kernel
theorem d_Mod_age_6 : decode b_Mod_age 6 = .ok (.lconst 0, 1) := by decide +kernel
theorem d_Mod_age_7 : decode b_Mod_age 7 = .ok (.lcmp, 1) := by decide +kernel
theorem d_Mod_age_8 : decode b_Mod_age 8 = .ok (.ifCond .lt 13, 3) := by decide +kernel
theorem d_Mod_age_11 : decode b_Mod_age 11 = .ok (.iload_n 3, 1) := by decide +kernel
theorem d_Mod_age_12 : decode b_Mod_age 12 = .ok (.ifCond .lt 9, 3) := by decide +kernel
theorem d_Mod_age_15 : decode b_Mod_age 15 = .ok (.iload_n 3, 1) := by decide +kernel
theorem d_Mod_age_16 : decode b_Mod_age 16 = .ok (.bipush 15, 2) := by decide +kernel
theorem d_Mod_age_18 : decode b_Mod_age 18 = .ok (.if_icmp .le 6, 3) := by decide +kernel
theorem d_Mod_age_21 : decode b_Mod_age 21 = .ok (.bipush (-4), 2) := by decide +kernel
theorem d_Mod_age_23 : decode b_Mod_age 23 = .ok (.ireturn, 1) := by decide +kernel
theorem d_Mod_age_24 : decode b_Mod_age 24 = .ok (.aload_n 0, 1) := by decide +kernel
theorem d_Mod_age_25 : decode b_Mod_age 25 = .ok (.lload_n 1, 1) := by decide +kernel
theorem d_Mod_age_26 : decode b_Mod_age 26 = .ok (.putfield 109, 3) := by decide +kernel
theorem d_Mod_age_29 : decode b_Mod_age 29 = .ok (.aload_n 0, 1) := by decide +kernel
theorem d_Mod_age_30 : decode b_Mod_age 30 = .ok (.iload_n 3, 1) := by decide +kernel
theorem d_Mod_age_31 : decode b_Mod_age 31 = .ok (.putfield 114, 3) := by decide +kernel
theorem d_Mod_age_34 : decode b_Mod_age 34 = .ok (.iconst 1, 1) := by decide +kernel
theorem d_Mod_age_35 : decode b_Mod_age 35 = .ok (.ireturn, 1) := by decide +kernel
theorem d_Mod_drain_0 : decode b_Mod_drain 0 = .ok (.aload_n 0, 1) := by decide +kernel
theorem d_Mod_drain_1 : decode b_Mod_drain 1 = .ok (.iconst 0, 1) := by decide +kernel
theorem d_Mod_drain_2 : decode b_Mod_drain 2 = .ok (.putfield 69, 3) := by decide +kernel
theorem d_Mod_drain_5 : decode b_Mod_drain 5 = .ok (.aload_n 0, 1) := by decide +kernel
theorem d_Mod_drain_6 : decode b_Mod_drain 6 = .ok (.iload_n 1, 1) := by decide +kernel
theorem d_Mod_drain_7 : decode b_Mod_drain 7 = .ok (.invokevirtual 79, 3) := by decide +kernel
theorem d_Mod_drain_10 : decode b_Mod_drain 10 = .ok (.ifCond .ne 6, 3) := by decide +kernel
theorem d_Mod_drain_13 : decode b_Mod_drain 13 = .ok (.bipush (-2), 2) := by decide +kernel
theorem d_Mod_drain_15 : decode b_Mod_drain 15 = .ok (.ireturn, 1) := by decide +kernel
theorem d_Mod_drain_16 : decode b_Mod_drain 16 = .ok (.aload_n 0, 1) := by decide +kernel
theorem d_Mod_drain_17 : decode b_Mod_drain 17 = .ok (.getfield 16, 3) := by decide +kernel
theorem d_Mod_drain_20 : decode b_Mod_drain 20 = .ok (.iload_n 1, 1) := by decide +kernel
theorem d_Mod_drain_21 : decode b_Mod_drain 21 = .ok (.iconst 1, 1) := by decide +kernel
theorem d_Mod_drain_22 : decode b_Mod_drain 22 = .ok (.isub, 1) := by decide +kernel
theorem d_Mod_drain_23 : decode b_Mod_drain 23 = .ok (.baload, 1) := by decide +kernel
theorem d_Mod_drain_24 : decode b_Mod_drain 24 = .ok (.istore_n 3, 1) := by decide +kernel
theorem d_Mod_drain_25 : decode b_Mod_drain 25 = .ok (.aload_n 0, 1) := by decide +kernel
theorem d_Mod_drain_26 : decode b_Mod_drain 26 = .ok (.getfield 16, 3) := by decide +kernel
theorem d_Mod_drain_29 : decode b_Mod_drain 29 = .ok (.iload_n 1, 1) := by decide +kernel
theorem d_Mod_drain_30 : decode b_Mod_drain 30 = .ok (.iconst 1, 1) := by decide +kernel
theorem d_Mod_drain_31 : decode b_Mod_drain 31 = .ok (.isub, 1) := by decide +kernel
theorem d_Mod_drain_32 : decode b_Mod_drain 32 = .ok (.iload_n 2, 1) := by decide +kernel
theorem d_Mod_drain_33 : decode b_Mod_drain 33 = .ok (.bastore, 1) := by decide +kernel
theorem d_Mod_drain_34 : decode b_Mod_drain 34 = .ok (.iload_n 3, 1) := by decide +kernel
theorem d_Mod_drain_35 : decode b_Mod_drain 35 = .ok (.iload_n 2, 1) := by decide +kernel
theorem d_Mod_drain_36 : decode b_Mod_drain 36 = .ok (.if_icmp .ne 7, 3) := by decide +kernel
theorem d_Mod_drain_39 : decode b_Mod_drain 39 = .ok (.iconst 0, 1) := by decide +kernel
theorem d_Mod_drain_40 : decode b_Mod_drain 40 = .ok (.goto 4, 3) := by decide +kernel
theorem d_Mod_drain_43 : decode b_Mod_drain 43 = .ok (.iconst 1, 1) := by decide +kernel
theorem d_Mod_drain_44 : decode b_Mod_drain 44 = .ok (.ireturn, 1) := by decide +kernel
theorem d_Mod_weight_0 : decode b_Mod_weight 0 = .ok (.aload_n 0, 1) := by decide +kernel
theorem d_Mod_weight_1 : decode b_Mod_weight 1 = .ok (.iconst 0, 1) := by decide +kernel
theorem d_Mod_weight_2 : decode b_Mod_weight 2 = .ok (.putfield 69, 3) := by decide +kernel
theorem d_Mod_weight_5 : decode b_Mod_weight 5 = .ok (.iload_n 1, 1) := by decide +kernel
theorem d_Mod_weight_6 : decode b_Mod_weight 6 = .ok (.invokestatic 83, 3) := by decide +kernel
theorem d_Mod_weight_9 : decode b_Mod_weight 9 = .ok (.ifCond .eq 14, 3) := by decide +kernel
theorem d_Mod_weight_12 : decode b_Mod_weight 12 = .ok (.iload_n 2, 1) := by decide +kernel
theorem d_Mod_weight_13 : decode b_Mod_weight 13 = .ok (.ifCond .lt 10, 3) := by decide +kernel
theorem d_Mod_weight_16 : decode b_Mod_weight 16 = .ok (.iload_n 2, 1) := by decide +kernel
theorem d_Mod_weight_17 : decode b_Mod_weight 17 = .ok (.sipush 1000, 3) := by decide +kernel
theorem d_Mod_weight_20 : decode b_Mod_weight 20 = .ok (.if_icmp .le 6, 3) := by decide +kernel
theorem d_Mod_weight_23 : decode b_Mod_weight 23 = .ok (.bipush (-4), 2) := by decide +kernel
theorem d_Mod_weight_25 : decode b_Mod_weight 25 = .ok (.ireturn, 1) := by decide +kernel
theorem d_Mod_weight_26 : decode b_Mod_weight 26 = .ok (.aload_n 0, 1) := by decide +kernel
theorem d_Mod_weight_27 : decode b_Mod_weight 27 = .ok (.getfield 29, 3) := by decide +kernel
theorem d_Mod_weight_30 : decode b_Mod_weight 30 = .ok (.iload_n 1, 1) := by decide +kernel
theorem d_Mod_weight_31 : decode b_Mod_weight 31 = .ok (.iload_n 2, 1) := by decide +kernel
theorem d_Mod_weight_32 : decode b_Mod_weight 32 = .ok (.iastore, 1) := by decide +kernel
theorem d_Mod_weight_33 : decode b_Mod_weight 33 = .ok (.iconst 1, 1) := by decide +kernel
theorem d_Mod_weight_34 : decode b_Mod_weight 34 = .ok (.ireturn, 1) := by decide +kernel
theorem d_Mod_share_0 : decode b_Mod_share 0 = .ok (.aload_n 0, 1) := by decide +kernel
theorem d_Mod_share_1 : decode b_Mod_share 1 = .ok (.iconst 0, 1) := by decide +kernel
theorem d_Mod_share_2 : decode b_Mod_share 2 = .ok (.putfield 69, 3) := by decide +kernel
theorem d_Mod_share_5 : decode b_Mod_share 5 = .ok (.iload_n 1, 1) := by decide +kernel
theorem d_Mod_share_6 : decode b_Mod_share 6 = .ok (.invokestatic 83, 3) := by decide +kernel
theorem d_Mod_share_9 : decode b_Mod_share 9 = .ok (.ifCond .eq 9, 3) := by decide +kernel
theorem d_Mod_share_12 : decode b_Mod_share 12 = .ok (.lload_n 2, 1) := by decide +kernel
theorem d_Mod_share_13 : decode b_Mod_share 13 = .ok (.lconst 0, 1) := by decide +kernel
theorem d_Mod_share_14 : decode b_Mod_share 14 = .ok (.lcmp, 1) := by decide +kernel
theorem d_Mod_share_15 : decode b_Mod_share 15 = .ok (.ifCond .ge 7, 3) := by decide +kernel
theorem d_Mod_share_18 : decode b_Mod_share 18 = .ok (.ldc2_w 127, 3) := by decide +kernel
theorem d_Mod_share_21 : decode b_Mod_share 21 = .ok (.lreturn, 1) := by decide +kernel
theorem d_Mod_share_22 : decode b_Mod_share 22 = .ok (.lconst 0, 1) := by decide +kernel
theorem d_Mod_share_23 : decode b_Mod_share 23 = .ok (.lstore 4, 2) := by decide +kernel
theorem d_Mod_share_25 : decode b_Mod_share 25 = .ok (.iconst 0, 1) := by decide +kernel
theorem d_Mod_share_26 : decode b_Mod_share 26 = .ok (.istore 6, 2) := by decide +kernel
theorem d_Mod_share_28 : decode b_Mod_share 28 = .ok (.iload 6, 2) := by decide +kernel
theorem d_Mod_share_30 : decode b_Mod_share 30 = .ok (.bipush 36, 2) := by decide +kernel
theorem d_Mod_share_32 : decode b_Mod_share 32 = .ok (.if_icmp .ge 22, 3) := by decide +kernel
theorem d_Mod_share_35 : decode b_Mod_share 35 = .ok (.lload 4, 2) := by decide +kernel
theorem d_Mod_share_37 : decode b_Mod_share 37 = .ok (.aload_n 0, 1) := by decide +kernel
theorem d_Mod_share_38 : decode b_Mod_share 38 = .ok (.getfield 29, 3) := by decide +kernel
theorem d_Mod_share_41 : decode b_Mod_share 41 = .ok (.iload 6, 2) := by decide +kernel
theorem d_Mod_share_43 : decode b_Mod_share 43 = .ok (.iaload, 1) := by decide +kernel
theorem d_Mod_share_44 : decode b_Mod_share 44 = .ok (.i2l, 1) := by decide +kernel
theorem d_Mod_share_45 : decode b_Mod_share 45 = .ok (.ladd, 1) := by decide +kernel
theorem d_Mod_share_46 : decode b_Mod_share 46 = .ok (.lstore 4, 2) := by decide +kernel
theorem d_Mod_share_48 : decode b_Mod_share 48 = .ok (.iinc 6 1, 3) := by decide +kernel
theorem d_Mod_share_51 : decode b_Mod_share 51 = .ok (.goto (-23), 3) := by decide +kernel
theorem d_Mod_share_54 : decode b_Mod_share 54 = .ok (.lload 4, 2) := by decide +kernel
theorem d_Mod_share_56 : decode b_Mod_share 56 = .ok (.lconst 0, 1) := by decide +kernel
theorem d_Mod_share_57 : decode b_Mod_share 57 = .ok (.lcmp, 1) := by decide +kernel
theorem d_Mod_share_58 : decode b_Mod_share 58 = .ok (.ifCond .ne 10, 3) := by decide +kernel
theorem d_Mod_share_61 : decode b_Mod_share 61 = .ok (.aload_n 0, 1) := by decide +kernel
theorem d_Mod_share_62 : decode b_Mod_share 62 = .ok (.iconst 1, 1) := by decide +kernel
theorem d_Mod_share_63 : decode b_Mod_share 63 = .ok (.putfield 69, 3) := by decide +kernel
theorem d_Mod_share_66 : decode b_Mod_share 66 = .ok (.lconst 0, 1) := by decide +kernel
theorem d_Mod_share_67 : decode b_Mod_share 67 = .ok (.lreturn, 1) := by decide +kernel
theorem d_Mod_share_68 : decode b_Mod_share 68 = .ok (.lload_n 2, 1) := by decide +kernel
theorem d_Mod_share_69 : decode b_Mod_share 69 = .ok (.lload 4, 2) := by decide +kernel
theorem d_Mod_share_71 : decode b_Mod_share 71 = .ok (.ldiv, 1) := by decide +kernel
theorem d_Mod_share_72 : decode b_Mod_share 72 = .ok (.lstore 6, 2) := by decide +kernel
theorem d_Mod_share_74 : decode b_Mod_share 74 = .ok (.lload_n 2, 1) := by decide +kernel
theorem d_Mod_share_75 : decode b_Mod_share 75 = .ok (.lload 4, 2) := by decide +kernel
theorem d_Mod_share_77 : decode b_Mod_share 77 = .ok (.lrem, 1) := by decide +kernel
theorem d_Mod_share_78 : decode b_Mod_share 78 = .ok (.lstore 8, 2) := by decide +kernel
theorem d_Mod_share_80 : decode b_Mod_share 80 = .ok (.lload_n 2, 1) := by decide +kernel
theorem d_Mod_share_81 : decode b_Mod_share 81 = .ok (.lstore 10, 2) := by decide +kernel
theorem d_Mod_share_83 : decode b_Mod_share 83 = .ok (.iconst 0, 1) := by decide +kernel
theorem d_Mod_share_84 : decode b_Mod_share 84 = .ok (.istore 12, 2) := by decide +kernel
theorem d_Mod_share_86 : decode b_Mod_share 86 = .ok (.lload 8, 2) := by decide +kernel
theorem d_Mod_share_88 : decode b_Mod_share 88 = .ok (.aload_n 0, 1) := by decide +kernel
theorem d_Mod_share_89 : decode b_Mod_share 89 = .ok (.getfield 29, 3) := by decide +kernel
theorem d_Mod_share_92 : decode b_Mod_share 92 = .ok (.iload_n 1, 1) := by decide +kernel
theorem d_Mod_share_93 : decode b_Mod_share 93 = .ok (.iaload, 1) := by decide +kernel
end
section
theorem d_Mod_share_94 : decode b_Mod_share 94 = .ok (.i2l, 1) := by decide +kernel
theorem d_Mod_share_95 : decode b_Mod_share 95 = .ok (.lmul, 1) := by decide +kernel
theorem d_Mod_share_96 : decode b_Mod_share 96 = .ok (.lload 4, 2) := by decide +kernel
theorem d_Mod_share_98 : decode b_Mod_share 98 = .ok (.lrem, 1) := by decide +kernel
theorem d_Mod_share_99 : decode b_Mod_share 99 = .ok (.lstore 13, 2) := by decide +kernel
theorem d_Mod_share_101 : decode b_Mod_share 101 = .ok (.iconst 0, 1) := by decide +kernel
theorem d_Mod_share_102 : decode b_Mod_share 102 = .ok (.istore 15, 2) := by decide +kernel
theorem d_Mod_share_104 : decode b_Mod_share 104 = .ok (.iload 15, 2) := by decide +kernel
theorem d_Mod_share_106 : decode b_Mod_share 106 = .ok (.bipush 36, 2) := by decide +kernel
theorem d_Mod_share_108 : decode b_Mod_share 108 = .ok (.if_icmp .ge 88, 3) := by decide +kernel
theorem d_Mod_share_111 : decode b_Mod_share 111 = .ok (.lload 10, 2) := by decide +kernel
theorem d_Mod_share_113 : decode b_Mod_share 113 = .ok (.lload 6, 2) := by decide +kernel
theorem d_Mod_share_115 : decode b_Mod_share 115 = .ok (.aload_n 0, 1) := by decide +kernel
theorem d_Mod_share_116 : decode b_Mod_share 116 = .ok (.getfield 29, 3) := by decide +kernel
theorem d_Mod_share_119 : decode b_Mod_share 119 = .ok (.iload 15, 2) := by decide +kernel
theorem d_Mod_share_121 : decode b_Mod_share 121 = .ok (.iaload, 1) := by decide +kernel
theorem d_Mod_share_122 : decode b_Mod_share 122 = .ok (.i2l, 1) := by decide +kernel
theorem d_Mod_share_123 : decode b_Mod_share 123 = .ok (.lmul, 1) := by decide +kernel
theorem d_Mod_share_124 : decode b_Mod_share 124 = .ok (.lload 8, 2) := by decide +kernel
theorem d_Mod_share_126 : decode b_Mod_share 126 = .ok (.aload_n 0, 1) := by decide +kernel
theorem d_Mod_share_127 : decode b_Mod_share 127 = .ok (.getfield 29, 3) := by decide +kernel
theorem d_Mod_share_130 : decode b_Mod_share 130 = .ok (.iload 15, 2) := by decide +kernel
theorem d_Mod_share_132 : decode b_Mod_share 132 = .ok (.iaload, 1) := by decide +kernel
theorem d_Mod_share_133 : decode b_Mod_share 133 = .ok (.i2l, 1) := by decide +kernel
theorem d_Mod_share_134 : decode b_Mod_share 134 = .ok (.lmul, 1) := by decide +kernel
theorem d_Mod_share_135 : decode b_Mod_share 135 = .ok (.lload 4, 2) := by decide +kernel
theorem d_Mod_share_137 : decode b_Mod_share 137 = .ok (.ldiv, 1) := by decide +kernel
theorem d_Mod_share_138 : decode b_Mod_share 138 = .ok (.ladd, 1) := by decide +kernel
theorem d_Mod_share_139 : decode b_Mod_share 139 = .ok (.lsub, 1) := by decide +kernel
theorem d_Mod_share_140 : decode b_Mod_share 140 = .ok (.lstore 10, 2) := by decide +kernel
theorem d_Mod_share_142 : decode b_Mod_share 142 = .ok (.lload 8, 2) := by decide +kernel
theorem d_Mod_share_144 : decode b_Mod_share 144 = .ok (.aload_n 0, 1) := by decide +kernel
theorem d_Mod_share_145 : decode b_Mod_share 145 = .ok (.getfield 29, 3) := by decide +kernel
theorem d_Mod_share_148 : decode b_Mod_share 148 = .ok (.iload 15, 2) := by decide +kernel
theorem d_Mod_share_150 : decode b_Mod_share 150 = .ok (.iaload, 1) := by decide +kernel
theorem d_Mod_share_151 : decode b_Mod_share 151 = .ok (.i2l, 1) := by decide +kernel
theorem d_Mod_share_152 : decode b_Mod_share 152 = .ok (.lmul, 1) := by decide +kernel
theorem d_Mod_share_153 : decode b_Mod_share 153 = .ok (.lload 4, 2) := by decide +kernel
theorem d_Mod_share_155 : decode b_Mod_share 155 = .ok (.lrem, 1) := by decide +kernel
theorem d_Mod_share_156 : decode b_Mod_share 156 = .ok (.lstore 16, 2) := by decide +kernel
theorem d_Mod_share_158 : decode b_Mod_share 158 = .ok (.iload 12, 2) := by decide +kernel
theorem d_Mod_share_160 : decode b_Mod_share 160 = .ok (.lload 16, 2) := by decide +kernel
theorem d_Mod_share_162 : decode b_Mod_share 162 = .ok (.lload 13, 2) := by decide +kernel
theorem d_Mod_share_164 : decode b_Mod_share 164 = .ok (.lcmp, 1) := by decide +kernel
theorem d_Mod_share_165 : decode b_Mod_share 165 = .ok (.ifCond .gt 17, 3) := by decide +kernel
theorem d_Mod_share_168 : decode b_Mod_share 168 = .ok (.lload 16, 2) := by decide +kernel
theorem d_Mod_share_170 : decode b_Mod_share 170 = .ok (.lload 13, 2) := by decide +kernel
theorem d_Mod_share_172 : decode b_Mod_share 172 = .ok (.lcmp, 1) := by decide +kernel
theorem d_Mod_share_173 : decode b_Mod_share 173 = .ok (.ifCond .ne 13, 3) := by decide +kernel
theorem d_Mod_share_176 : decode b_Mod_share 176 = .ok (.iload 15, 2) := by decide +kernel
theorem d_Mod_share_178 : decode b_Mod_share 178 = .ok (.iload_n 1, 1) := by decide +kernel
theorem d_Mod_share_179 : decode b_Mod_share 179 = .ok (.if_icmp .ge 7, 3) := by decide +kernel
theorem d_Mod_share_182 : decode b_Mod_share 182 = .ok (.iconst 1, 1) := by decide +kernel
theorem d_Mod_share_183 : decode b_Mod_share 183 = .ok (.goto 4, 3) := by decide +kernel
theorem d_Mod_share_186 : decode b_Mod_share 186 = .ok (.iconst 0, 1) := by decide +kernel
theorem d_Mod_share_187 : decode b_Mod_share 187 = .ok (.iadd, 1) := by decide +kernel
theorem d_Mod_share_188 : decode b_Mod_share 188 = .ok (.istore 12, 2) := by decide +kernel
theorem d_Mod_share_190 : decode b_Mod_share 190 = .ok (.iinc 15 1, 3) := by decide +kernel
theorem d_Mod_share_193 : decode b_Mod_share 193 = .ok (.goto (-89), 3) := by decide +kernel
theorem d_Mod_share_196 : decode b_Mod_share 196 = .ok (.lload 6, 2) := by decide +kernel
theorem d_Mod_share_198 : decode b_Mod_share 198 = .ok (.aload_n 0, 1) := by decide +kernel
theorem d_Mod_share_199 : decode b_Mod_share 199 = .ok (.getfield 29, 3) := by decide +kernel
theorem d_Mod_share_202 : decode b_Mod_share 202 = .ok (.iload_n 1, 1) := by decide +kernel
theorem d_Mod_share_203 : decode b_Mod_share 203 = .ok (.iaload, 1) := by decide +kernel
theorem d_Mod_share_204 : decode b_Mod_share 204 = .ok (.i2l, 1) := by decide +kernel
theorem d_Mod_share_205 : decode b_Mod_share 205 = .ok (.lmul, 1) := by decide +kernel
theorem d_Mod_share_206 : decode b_Mod_share 206 = .ok (.lload 8, 2) := by decide +kernel
theorem d_Mod_share_208 : decode b_Mod_share 208 = .ok (.aload_n 0, 1) := by decide +kernel
theorem d_Mod_share_209 : decode b_Mod_share 209 = .ok (.getfield 29, 3) := by decide +kernel
theorem d_Mod_share_212 : decode b_Mod_share 212 = .ok (.iload_n 1, 1) := by decide +kernel
theorem d_Mod_share_213 : decode b_Mod_share 213 = .ok (.iaload, 1) := by decide +kernel
theorem d_Mod_share_214 : decode b_Mod_share 214 = .ok (.i2l, 1) := by decide +kernel
theorem d_Mod_share_215 : decode b_Mod_share 215 = .ok (.lmul, 1) := by decide +kernel
theorem d_Mod_share_216 : decode b_Mod_share 216 = .ok (.lload 4, 2) := by decide +kernel
theorem d_Mod_share_218 : decode b_Mod_share 218 = .ok (.ldiv, 1) := by decide +kernel
theorem d_Mod_share_219 : decode b_Mod_share 219 = .ok (.ladd, 1) := by decide +kernel
theorem d_Mod_share_220 : decode b_Mod_share 220 = .ok (.iload 12, 2) := by decide +kernel
theorem d_Mod_share_222 : decode b_Mod_share 222 = .ok (.i2l, 1) := by decide +kernel
theorem d_Mod_share_223 : decode b_Mod_share 223 = .ok (.lload 10, 2) := by decide +kernel
theorem d_Mod_share_225 : decode b_Mod_share 225 = .ok (.lcmp, 1) := by decide +kernel
theorem d_Mod_share_226 : decode b_Mod_share 226 = .ok (.ifCond .ge 7, 3) := by decide +kernel
theorem d_Mod_share_229 : decode b_Mod_share 229 = .ok (.lconst 1, 1) := by decide +kernel
theorem d_Mod_share_230 : decode b_Mod_share 230 = .ok (.goto 4, 3) := by decide +kernel
theorem d_Mod_share_233 : decode b_Mod_share 233 = .ok (.lconst 0, 1) := by decide +kernel
theorem d_Mod_share_234 : decode b_Mod_share 234 = .ok (.ladd, 1) := by decide +kernel
theorem d_Mod_share_235 : decode b_Mod_share 235 = .ok (.lreturn, 1) := by decide +kernel
theorem d_Mod_order_0 : decode b_Mod_order 0 = .ok (.aload_n 0, 1) := by decide +kernel
theorem d_Mod_order_1 : decode b_Mod_order 1 = .ok (.iconst 0, 1) := by decide +kernel
theorem d_Mod_order_2 : decode b_Mod_order 2 = .ok (.putfield 69, 3) := by decide +kernel
theorem d_Mod_order_5 : decode b_Mod_order 5 = .ok (.iconst 0, 1) := by decide +kernel
theorem d_Mod_order_6 : decode b_Mod_order 6 = .ok (.istore_n 2, 1) := by decide +kernel
theorem d_Mod_order_7 : decode b_Mod_order 7 = .ok (.iload_n 2, 1) := by decide +kernel
theorem d_Mod_order_8 : decode b_Mod_order 8 = .ok (.aload_n 0, 1) := by decide +kernel
theorem d_Mod_order_9 : decode b_Mod_order 9 = .ok (.getfield 76, 3) := by decide +kernel
theorem d_Mod_order_12 : decode b_Mod_order 12 = .ok (.if_icmp .ge 103, 3) := by decide +kernel
theorem d_Mod_order_15 : decode b_Mod_order 15 = .ok (.aload_n 0, 1) := by decide +kernel
theorem d_Mod_order_16 : decode b_Mod_order 16 = .ok (.getfield 44, 3) := by decide +kernel
theorem d_Mod_order_19 : decode b_Mod_order 19 = .ok (.iload_n 2, 1) := by decide +kernel
theorem d_Mod_order_20 : decode b_Mod_order 20 = .ok (.iaload, 1) := by decide +kernel
theorem d_Mod_order_21 : decode b_Mod_order 21 = .ok (.ifCond .ne 88, 3) := by decide +kernel
theorem d_Mod_order_24 : decode b_Mod_order 24 = .ok (.aload_n 0, 1) := by decide +kernel
theorem d_Mod_order_25 : decode b_Mod_order 25 = .ok (.getfield 50, 3) := by decide +kernel
theorem d_Mod_order_28 : decode b_Mod_order 28 = .ok (.iload_n 2, 1) := by decide +kernel
theorem d_Mod_order_29 : decode b_Mod_order 29 = .ok (.baload, 1) := by decide +kernel
theorem d_Mod_order_30 : decode b_Mod_order 30 = .ok (.ifCond .eq 6, 3) := by decide +kernel
theorem d_Mod_order_33 : decode b_Mod_order 33 = .ok (.goto 76, 3) := by decide +kernel
theorem d_Mod_order_36 : decode b_Mod_order 36 = .ok (.iconst 0, 1) := by decide +kernel
theorem d_Mod_order_37 : decode b_Mod_order 37 = .ok (.istore_n 3, 1) := by decide +kernel
theorem d_Mod_order_38 : decode b_Mod_order 38 = .ok (.iconst 0, 1) := by decide +kernel
theorem d_Mod_order_39 : decode b_Mod_order 39 = .ok (.istore 4, 2) := by decide +kernel
theorem d_Mod_order_41 : decode b_Mod_order 41 = .ok (.iload 4, 2) := by decide +kernel
theorem d_Mod_order_43 : decode b_Mod_order 43 = .ok (.aload_n 0, 1) := by decide +kernel
theorem d_Mod_order_44 : decode b_Mod_order 44 = .ok (.getfield 76, 3) := by decide +kernel
theorem d_Mod_order_47 : decode b_Mod_order 47 = .ok (.if_icmp .ge 53, 3) := by decide +kernel
theorem d_Mod_order_50 : decode b_Mod_order 50 = .ok (.iload_n 3, 1) := by decide +kernel
theorem d_Mod_order_51 : decode b_Mod_order 51 = .ok (.aload_n 0, 1) := by decide +kernel
theorem d_Mod_order_52 : decode b_Mod_order 52 = .ok (.getfield 44, 3) := by decide +kernel
theorem d_Mod_order_55 : decode b_Mod_order 55 = .ok (.iload 4, 2) := by decide +kernel
theorem d_Mod_order_57 : decode b_Mod_order 57 = .ok (.iaload, 1) := by decide +kernel
theorem d_Mod_order_58 : decode b_Mod_order 58 = .ok (.ifCond .ne 33, 3) := by decide +kernel
theorem d_Mod_order_61 : decode b_Mod_order 61 = .ok (.aload_n 0, 1) := by decide +kernel
theorem d_Mod_order_62 : decode b_Mod_order 62 = .ok (.getfield 50, 3) := by decide +kernel
theorem d_Mod_order_65 : decode b_Mod_order 65 = .ok (.iload 4, 2) := by decide +kernel
theorem d_Mod_order_67 : decode b_Mod_order 67 = .ok (.baload, 1) := by decide +kernel
theorem d_Mod_order_68 : decode b_Mod_order 68 = .ok (.ifCond .ne 23, 3) := by decide +kernel
theorem d_Mod_order_71 : decode b_Mod_order 71 = .ok (.iload 4, 2) := by decide +kernel
theorem d_Mod_order_73 : decode b_Mod_order 73 = .ok (.iload_n 2, 1) := by decide +kernel
theorem d_Mod_order_74 : decode b_Mod_order 74 = .ok (.if_icmp .eq 17, 3) := by decide +kernel
theorem d_Mod_order_77 : decode b_Mod_order 77 = .ok (.aload_n 0, 1) := by decide +kernel
theorem d_Mod_order_78 : decode b_Mod_order 78 = .ok (.iload 4, 2) := by decide +kernel
theorem d_Mod_order_80 : decode b_Mod_order 80 = .ok (.iload_n 2, 1) := by decide +kernel
theorem d_Mod_order_81 : decode b_Mod_order 81 = .ok (.invokevirtual 124, 3) := by decide +kernel
theorem d_Mod_order_84 : decode b_Mod_order 84 = .ok (.ifCond .eq 7, 3) := by decide +kernel
theorem d_Mod_order_87 : decode b_Mod_order 87 = .ok (.iconst 1, 1) := by decide +kernel
theorem d_Mod_order_88 : decode b_Mod_order 88 = .ok (.goto 4, 3) := by decide +kernel
theorem d_Mod_order_91 : decode b_Mod_order 91 = .ok (.iconst 0, 1) := by decide +kernel
theorem d_Mod_order_92 : decode b_Mod_order 92 = .ok (.iadd, 1) := by decide +kernel
theorem d_Mod_order_93 : decode b_Mod_order 93 = .ok (.istore_n 3, 1) := by decide +kernel
theorem d_Mod_order_94 : decode b_Mod_order 94 = .ok (.iinc 4 1, 3) := by decide +kernel
theorem d_Mod_order_97 : decode b_Mod_order 97 = .ok (.goto (-56), 3) := by decide +kernel
theorem d_Mod_order_100 : decode b_Mod_order 100 = .ok (.iload_n 3, 1) := by decide +kernel
theorem d_Mod_order_101 : decode b_Mod_order 101 = .ok (.iload_n 1, 1) := by decide +kernel
theorem d_Mod_order_102 : decode b_Mod_order 102 = .ok (.if_icmp .ne 7, 3) := by decide +kernel
theorem d_Mod_order_105 : decode b_Mod_order 105 = .ok (.iload_n 2, 1) := by decide +kernel
theorem d_Mod_order_106 : decode b_Mod_order 106 = .ok (.iconst 1, 1) := by decide +kernel
theorem d_Mod_order_107 : decode b_Mod_order 107 = .ok (.iadd, 1) := by decide +kernel
theorem d_Mod_order_108 : decode b_Mod_order 108 = .ok (.ireturn, 1) := by decide +kernel
theorem d_Mod_order_109 : decode b_Mod_order 109 = .ok (.iinc 2 1, 3) := by decide +kernel
theorem d_Mod_order_112 : decode b_Mod_order 112 = .ok (.goto (-105), 3) := by decide +kernel
theorem d_Mod_order_115 : decode b_Mod_order 115 = .ok (.iconst (-1), 1) := by decide +kernel
theorem d_Mod_order_116 : decode b_Mod_order 116 = .ok (.ireturn, 1) := by decide +kernel
theorem d_Mod_waited_0 : decode b_Mod_waited 0 = .ok (.aload_n 0, 1) := by decide +kernel
theorem d_Mod_waited_1 : decode b_Mod_waited 1 = .ok (.iconst 0, 1) := by decide +kernel
theorem d_Mod_waited_2 : decode b_Mod_waited 2 = .ok (.putfield 69, 3) := by decide +kernel
theorem d_Mod_waited_5 : decode b_Mod_waited 5 = .ok (.aload_n 0, 1) := by decide +kernel
theorem d_Mod_waited_6 : decode b_Mod_waited 6 = .ok (.iload_n 1, 1) := by decide +kernel
theorem d_Mod_waited_7 : decode b_Mod_waited 7 = .ok (.invokevirtual 93, 3) := by decide +kernel
theorem d_Mod_waited_10 : decode b_Mod_waited 10 = .ok (.ifCond .ne 7, 3) := by decide +kernel
theorem d_Mod_waited_13 : decode b_Mod_waited 13 = .ok (.ldc2_w 127, 3) := by decide +kernel
theorem d_Mod_waited_16 : decode b_Mod_waited 16 = .ok (.lreturn, 1) := by decide +kernel
theorem d_Mod_waited_17 : decode b_Mod_waited 17 = .ok (.aload_n 0, 1) := by decide +kernel
theorem d_Mod_waited_18 : decode b_Mod_waited 18 = .ok (.getfield 44, 3) := by decide +kernel
theorem d_Mod_waited_21 : decode b_Mod_waited 21 = .ok (.iload_n 1, 1) := by decide +kernel
theorem d_Mod_waited_22 : decode b_Mod_waited 22 = .ok (.iconst 1, 1) := by decide +kernel
theorem d_Mod_waited_23 : decode b_Mod_waited 23 = .ok (.isub, 1) := by decide +kernel
theorem d_Mod_waited_24 : decode b_Mod_waited 24 = .ok (.iaload, 1) := by decide +kernel
theorem d_Mod_waited_25 : decode b_Mod_waited 25 = .ok (.ifCond .ne 10, 3) := by decide +kernel
theorem d_Mod_waited_28 : decode b_Mod_waited 28 = .ok (.aload_n 0, 1) := by decide +kernel
theorem d_Mod_waited_29 : decode b_Mod_waited 29 = .ok (.getfield 89, 3) := by decide +kernel
theorem d_Mod_waited_32 : decode b_Mod_waited 32 = .ok (.goto 11, 3) := by decide +kernel
theorem d_Mod_waited_35 : decode b_Mod_waited 35 = .ok (.aload_n 0, 1) := by decide +kernel
theorem d_Mod_waited_36 : decode b_Mod_waited 36 = .ok (.getfield 66, 3) := by decide +kernel
theorem d_Mod_waited_39 : decode b_Mod_waited 39 = .ok (.iload_n 1, 1) := by decide +kernel
theorem d_Mod_waited_40 : decode b_Mod_waited 40 = .ok (.iconst 1, 1) := by decide +kernel
theorem d_Mod_waited_41 : decode b_Mod_waited 41 = .ok (.isub, 1) := by decide +kernel
theorem d_Mod_waited_42 : decode b_Mod_waited 42 = .ok (.laload, 1) := by decide +kernel
theorem d_Mod_waited_43 : decode b_Mod_waited 43 = .ok (.aload_n 0, 1) := by decide +kernel
theorem d_Mod_waited_44 : decode b_Mod_waited 44 = .ok (.getfield 62, 3) := by decide +kernel
theorem d_Mod_waited_47 : decode b_Mod_waited 47 = .ok (.iload_n 1, 1) := by decide +kernel
theorem d_Mod_waited_48 : decode b_Mod_waited 48 = .ok (.iconst 1, 1) := by decide +kernel
theorem d_Mod_waited_49 : decode b_Mod_waited 49 = .ok (.isub, 1) := by decide +kernel
theorem d_Mod_waited_50 : decode b_Mod_waited 50 = .ok (.laload, 1) := by decide +kernel
theorem d_Mod_waited_51 : decode b_Mod_waited 51 = .ok (.lsub, 1) := by decide +kernel
theorem d_Mod_waited_52 : decode b_Mod_waited 52 = .ok (.lreturn, 1) := by decide +kernel
theorem d_Mod_state_0 : decode b_Mod_state 0 = .ok (.aload_n 0, 1) := by decide +kernel
theorem d_Mod_state_1 : decode b_Mod_state 1 = .ok (.iconst 0, 1) := by decide +kernel
theorem d_Mod_state_2 : decode b_Mod_state 2 = .ok (.putfield 69, 3) := by decide +kernel
theorem d_Mod_state_5 : decode b_Mod_state 5 = .ok (.aload_n 0, 1) := by decide +kernel
theorem d_Mod_state_6 : decode b_Mod_state 6 = .ok (.iload_n 1, 1) := by decide +kernel
theorem d_Mod_state_7 : decode b_Mod_state 7 = .ok (.invokevirtual 93, 3) := by decide +kernel
theorem d_Mod_state_10 : decode b_Mod_state 10 = .ok (.ifCond .ne 5, 3) := by decide +kernel
theorem d_Mod_state_13 : decode b_Mod_state 13 = .ok (.iconst (-1), 1) := by decide +kernel
theorem d_Mod_state_14 : decode b_Mod_state 14 = .ok (.ireturn, 1) := by decide +kernel
theorem d_Mod_state_15 : decode b_Mod_state 15 = .ok (.aload_n 0, 1) := by decide +kernel
theorem d_Mod_state_16 : decode b_Mod_state 16 = .ok (.getfield 44, 3) := by decide +kernel
theorem d_Mod_state_19 : decode b_Mod_state 19 = .ok (.iload_n 1, 1) := by decide +kernel
theorem d_Mod_state_20 : decode b_Mod_state 20 = .ok (.iconst 1, 1) := by decide +kernel
theorem d_Mod_state_21 : decode b_Mod_state 21 = .ok (.isub, 1) := by decide +kernel
theorem d_Mod_state_22 : decode b_Mod_state 22 = .ok (.iaload, 1) := by decide +kernel
theorem d_Mod_state_23 : decode b_Mod_state 23 = .ok (.ifCond .ne 18, 3) := by decide +kernel
theorem d_Mod_state_26 : decode b_Mod_state 26 = .ok (.aload_n 0, 1) := by decide +kernel
theorem d_Mod_state_27 : decode b_Mod_state 27 = .ok (.getfield 50, 3) := by decide +kernel
theorem d_Mod_state_30 : decode b_Mod_state 30 = .ok (.iload_n 1, 1) := by decide +kernel
theorem d_Mod_state_31 : decode b_Mod_state 31 = .ok (.iconst 1, 1) := by decide +kernel
theorem d_Mod_state_32 : decode b_Mod_state 32 = .ok (.isub, 1) := by decide +kernel
theorem d_Mod_state_33 : decode b_Mod_state 33 = .ok (.baload, 1) := by decide +kernel
theorem d_Mod_state_34 : decode b_Mod_state 34 = .ok (.ifCond .eq 7, 3) := by decide +kernel
theorem d_Mod_state_37 : decode b_Mod_state 37 = .ok (.iconst 1, 1) := by decide +kernel
theorem d_Mod_state_38 : decode b_Mod_state 38 = .ok (.goto 11, 3) := by decide +kernel
theorem d_Mod_state_41 : decode b_Mod_state 41 = .ok (.aload_n 0, 1) := by decide +kernel
theorem d_Mod_state_42 : decode b_Mod_state 42 = .ok (.getfield 44, 3) := by decide +kernel
theorem d_Mod_state_45 : decode b_Mod_state 45 = .ok (.iload_n 1, 1) := by decide +kernel
theorem d_Mod_state_46 : decode b_Mod_state 46 = .ok (.iconst 1, 1) := by decide +kernel
theorem d_Mod_state_47 : decode b_Mod_state 47 = .ok (.isub, 1) := by decide +kernel
theorem d_Mod_state_48 : decode b_Mod_state 48 = .ok (.iaload, 1) := by decide +kernel
theorem d_Mod_state_49 : decode b_Mod_state 49 = .ok (.ireturn, 1) := by decide +kernel
theorem d_Mod_those_0 : decode b_Mod_those 0 = .ok (.iconst 0, 1) := by decide +kernel
theorem d_Mod_those_1 : decode b_Mod_those 1 = .ok (.istore_n 3, 1) := by decide +kernel
theorem d_Mod_those_2 : decode b_Mod_those 2 = .ok (.iconst 0, 1) := by decide +kernel
theorem d_Mod_those_3 : decode b_Mod_those 3 = .ok (.istore 4, 2) := by decide +kernel
theorem d_Mod_those_5 : decode b_Mod_those 5 = .ok (.iload 4, 2) := by decide +kernel
theorem d_Mod_those_7 : decode b_Mod_those 7 = .ok (.aload_n 0, 1) := by decide +kernel
theorem d_Mod_those_8 : decode b_Mod_those 8 = .ok (.getfield 76, 3) := by decide +kernel
theorem d_Mod_those_11 : decode b_Mod_those 11 = .ok (.if_icmp .ge 42, 3) := by decide +kernel
theorem d_Mod_those_14 : decode b_Mod_those 14 = .ok (.iload_n 3, 1) := by decide +kernel
theorem d_Mod_those_15 : decode b_Mod_those 15 = .ok (.aload_n 0, 1) := by decide +kernel
theorem d_Mod_those_16 : decode b_Mod_those 16 = .ok (.getfield 44, 3) := by decide +kernel
theorem d_Mod_those_19 : decode b_Mod_those 19 = .ok (.iload 4, 2) := by decide +kernel
theorem d_Mod_those_21 : decode b_Mod_those 21 = .ok (.iaload, 1) := by decide +kernel
theorem d_Mod_those_22 : decode b_Mod_those 22 = .ok (.iload_n 1, 1) := by decide +kernel
theorem d_Mod_those_23 : decode b_Mod_those 23 = .ok (.if_icmp .ne 21, 3) := by decide +kernel
theorem d_Mod_those_26 : decode b_Mod_those 26 = .ok (.iload_n 2, 1) := by decide +kernel
theorem d_Mod_those_27 : decode b_Mod_those 27 = .ok (.ifCond .ne 13, 3) := by decide +kernel
theorem d_Mod_those_30 : decode b_Mod_those 30 = .ok (.aload_n 0, 1) := by decide +kernel
theorem d_Mod_those_31 : decode b_Mod_those 31 = .ok (.getfield 50, 3) := by decide +kernel
theorem d_Mod_those_34 : decode b_Mod_those 34 = .ok (.iload 4, 2) := by decide +kernel
theorem d_Mod_those_36 : decode b_Mod_those 36 = .ok (.baload, 1) := by decide +kernel
theorem d_Mod_those_37 : decode b_Mod_those 37 = .ok (.ifCond .eq 7, 3) := by decide +kernel
theorem d_Mod_those_40 : decode b_Mod_those 40 = .ok (.iconst 1, 1) := by decide +kernel
theorem d_Mod_those_41 : decode b_Mod_those 41 = .ok (.goto 4, 3) := by decide +kernel
theorem d_Mod_those_44 : decode b_Mod_those 44 = .ok (.iconst 0, 1) := by decide +kernel
theorem d_Mod_those_45 : decode b_Mod_those 45 = .ok (.iadd, 1) := by decide +kernel
theorem d_Mod_those_46 : decode b_Mod_those 46 = .ok (.istore_n 3, 1) := by decide +kernel
theorem d_Mod_those_47 : decode b_Mod_those 47 = .ok (.iinc 4 1, 3) := by decide +kernel
theorem d_Mod_those_50 : decode b_Mod_those 50 = .ok (.goto (-45), 3) := by decide +kernel
theorem d_Mod_those_53 : decode b_Mod_those 53 = .ok (.iload_n 3, 1) := by decide +kernel
theorem d_Mod_those_54 : decode b_Mod_those 54 = .ok (.ireturn, 1) := by decide +kernel
theorem d_Mod_count_0 : decode b_Mod_count 0 = .ok (.aload_n 0, 1) := by decide +kernel
theorem d_Mod_count_1 : decode b_Mod_count 1 = .ok (.iconst 0, 1) := by decide +kernel
theorem d_Mod_count_2 : decode b_Mod_count 2 = .ok (.putfield 69, 3) := by decide +kernel
theorem d_Mod_count_5 : decode b_Mod_count 5 = .ok (.iload_n 1, 1) := by decide +kernel
theorem d_Mod_count_6 : decode b_Mod_count 6 = .ok (.tableswitch 157 0 13 #[70, 75, 80, 87, 94, 101, 157, 157, 157, 157, 148, 148, 148, 148], 70) := by decide +kernel
theorem d_Mod_count_76 : decode b_Mod_count 76 = .ok (.aload_n 0, 1) := by decide +kernel
theorem d_Mod_count_77 : decode b_Mod_count 77 = .ok (.getfield 73, 3) := by decide +kernel
theorem d_Mod_count_80 : decode b_Mod_count 80 = .ok (.ireturn, 1) := by decide +kernel
theorem d_Mod_count_81 : decode b_Mod_count 81 = .ok (.aload_n 0, 1) := by decide +kernel
theorem d_Mod_count_82 : decode b_Mod_count 82 = .ok (.getfield 76, 3) := by decide +kernel
theorem d_Mod_count_85 : decode b_Mod_count 85 = .ok (.ireturn, 1) := by decide +kernel
theorem d_Mod_count_86 : decode b_Mod_count 86 = .ok (.aload_n 0, 1) := by decide +kernel
theorem d_Mod_count_87 : decode b_Mod_count 87 = .ok (.iconst 0, 1) := by decide +kernel
theorem d_Mod_count_88 : decode b_Mod_count 88 = .ok (.iconst 1, 1) := by decide +kernel
theorem d_Mod_count_89 : decode b_Mod_count 89 = .ok (.invokevirtual 129, 3) := by decide +kernel
theorem d_Mod_count_92 : decode b_Mod_count 92 = .ok (.ireturn, 1) := by decide +kernel
theorem d_Mod_count_93 : decode b_Mod_count 93 = .ok (.aload_n 0, 1) := by decide +kernel
theorem d_Mod_count_94 : decode b_Mod_count 94 = .ok (.iconst 0, 1) := by decide +kernel
theorem d_Mod_count_95 : decode b_Mod_count 95 = .ok (.iconst 0, 1) := by decide +kernel
theorem d_Mod_count_96 : decode b_Mod_count 96 = .ok (.invokevirtual 129, 3) := by decide +kernel
theorem d_Mod_count_99 : decode b_Mod_count 99 = .ok (.ireturn, 1) := by decide +kernel
theorem d_Mod_count_100 : decode b_Mod_count 100 = .ok (.aload_n 0, 1) := by decide +kernel
theorem d_Mod_count_101 : decode b_Mod_count 101 = .ok (.iconst 2, 1) := by decide +kernel
theorem d_Mod_count_102 : decode b_Mod_count 102 = .ok (.iconst 1, 1) := by decide +kernel
theorem d_Mod_count_103 : decode b_Mod_count 103 = .ok (.invokevirtual 129, 3) := by decide +kernel
theorem d_Mod_count_106 : decode b_Mod_count 106 = .ok (.ireturn, 1) := by decide +kernel
theorem d_Mod_count_107 : decode b_Mod_count 107 = .ok (.iconst 0, 1) := by decide +kernel
theorem d_Mod_count_108 : decode b_Mod_count 108 = .ok (.istore_n 2, 1) := by decide +kernel
theorem d_Mod_count_109 : decode b_Mod_count 109 = .ok (.iconst 0, 1) := by decide +kernel
theorem d_Mod_count_110 : decode b_Mod_count 110 = .ok (.istore_n 3, 1) := by decide +kernel
theorem d_Mod_count_111 : decode b_Mod_count 111 = .ok (.iload_n 3, 1) := by decide +kernel
theorem d_Mod_count_112 : decode b_Mod_count 112 = .ok (.aload_n 0, 1) := by decide +kernel
theorem d_Mod_count_113 : decode b_Mod_count 113 = .ok (.getfield 73, 3) := by decide +kernel
theorem d_Mod_count_116 : decode b_Mod_count 116 = .ok (.if_icmp .ge 36, 3) := by decide +kernel
theorem d_Mod_count_119 : decode b_Mod_count 119 = .ok (.iload_n 2, 1) := by decide +kernel
theorem d_Mod_count_120 : decode b_Mod_count 120 = .ok (.aload_n 0, 1) := by decide +kernel
theorem d_Mod_count_121 : decode b_Mod_count 121 = .ok (.getfield 16, 3) := by decide +kernel
theorem d_Mod_count_124 : decode b_Mod_count 124 = .ok (.iload_n 3, 1) := by decide +kernel
theorem d_Mod_count_125 : decode b_Mod_count 125 = .ok (.baload, 1) := by decide +kernel
theorem d_Mod_count_126 : decode b_Mod_count 126 = .ok (.ifCond .eq 17, 3) := by decide +kernel
theorem d_Mod_count_129 : decode b_Mod_count 129 = .ok (.aload_n 0, 1) := by decide +kernel
theorem d_Mod_count_130 : decode b_Mod_count 130 = .ok (.getfield 13, 3) := by decide +kernel
theorem d_Mod_count_133 : decode b_Mod_count 133 = .ok (.iload_n 3, 1) := by decide +kernel
theorem d_Mod_count_134 : decode b_Mod_count 134 = .ok (.iaload, 1) := by decide +kernel
theorem d_Mod_count_135 : decode b_Mod_count 135 = .ok (.iconst (-1), 1) := by decide +kernel
theorem d_Mod_count_136 : decode b_Mod_count 136 = .ok (.if_icmp .ne 7, 3) := by decide +kernel
theorem d_Mod_count_139 : decode b_Mod_count 139 = .ok (.iconst 1, 1) := by decide +kernel
theorem d_Mod_count_140 : decode b_Mod_count 140 = .ok (.goto 4, 3) := by decide +kernel
theorem d_Mod_count_143 : decode b_Mod_count 143 = .ok (.iconst 0, 1) := by decide +kernel
theorem d_Mod_count_144 : decode b_Mod_count 144 = .ok (.iadd, 1) := by decide +kernel
theorem d_Mod_count_145 : decode b_Mod_count 145 = .ok (.istore_n 2, 1) := by decide +kernel
theorem d_Mod_count_146 : decode b_Mod_count 146 = .ok (.iinc 3 1, 3) := by decide +kernel
theorem d_Mod_count_149 : decode b_Mod_count 149 = .ok (.goto (-38), 3) := by decide +kernel
theorem d_Mod_count_152 : decode b_Mod_count 152 = .ok (.iload_n 2, 1) := by decide +kernel
theorem d_Mod_count_153 : decode b_Mod_count 153 = .ok (.ireturn, 1) := by decide +kernel
theorem d_Mod_count_154 : decode b_Mod_count 154 = .ok (.aload_n 0, 1) := by decide +kernel
theorem d_Mod_count_155 : decode b_Mod_count 155 = .ok (.iload_n 1, 1) := by decide +kernel
theorem d_Mod_count_156 : decode b_Mod_count 156 = .ok (.bipush 10, 2) := by decide +kernel
theorem d_Mod_count_158 : decode b_Mod_count 158 = .ok (.isub, 1) := by decide +kernel
theorem d_Mod_count_159 : decode b_Mod_count 159 = .ok (.invokevirtual 105, 3) := by decide +kernel
theorem d_Mod_count_162 : decode b_Mod_count 162 = .ok (.ireturn, 1) := by decide +kernel
theorem d_Mod_count_163 : decode b_Mod_count 163 = .ok (.iconst (-1), 1) := by decide +kernel
theorem d_Mod_count_164 : decode b_Mod_count 164 = .ok (.ireturn, 1) := by decide +kernel
end
section
def P_AbC_init (Q : hM → Prop) (h : hM) (x0 : Nat) : Prop :=
  Q h
def P_AbL_init (Q : hM → Prop) (h : hM) (x0 : Nat) : Prop :=
  (P_AbC_init (fun h7 => (∃ fs9 : List Value, rd h7 x0 = some (eO 5 fs9) ∧ 0 < fs9.length ∧ ∀ h12 : hM, h12 = h_up h7 x0 (eO 5 (fs9.set 0 (.int (0 : Int32)))) → Q h12)) h x0)
def P_AL_init_v (Q : hM → Prop) (h : hM) (x0 : Nat) : Prop :=
  (P_AbL_init (fun h7 => (∃ fs9 : List Value, rd h7 x0 = some (eO 5 fs9) ∧ 1 < fs9.length ∧ ∀ h12 : hM, h12 = h_up h7 x0 (eO 5 (fs9.set 1 (.ref h7.1))) → Q h12)) h x0)
def P_AL_size (Q : Int32 → hM → Prop) (h : hM) (x0 : Nat) : Prop :=
  (∃ (fs5 : List Value) (i8 : Int32), rd h x0 = some (eO 5 fs5) ∧ fs5[2]? = some (.int i8) ∧ Q i8 h)
def P_ASup_newLength_21 (Q : Int32 → hM → Prop) (h : hM) (x0 : Int32) (x1 : Int32) : Prop :=
  False
def P_ASup_newLength (Q : Int32 → hM → Prop) (h : hM) (x0 : Int32) (x1 : Int32) (x2 : Int32) : Prop :=
  (∀ x3_7 : Int32, x3_7 = (x0 + (if x1 < x2 then x2 else x1)) → ((x3_7 ≤ (0 : Int32) → P_ASup_newLength_21 Q h x0 x1) ∧ (¬ x3_7 ≤ (0 : Int32) → (((2147483639 : Int32) < x3_7 → P_ASup_newLength_21 Q h x0 x1) ∧ (¬ (2147483639 : Int32) < x3_7 → Q x3_7 h)))))
def P_Arrs_copyOf_AIL_24 (Q : Option Nat → hM → Prop) (h : hM) (x0 : Nat) (x1 : Int32) (t0 : Nat) : Prop :=
  (∃ n27 : Nat, ((x0 = h.1 ∧ n27 = 0) ∨ ∃ f28 : Nat → Option Nat, rd h x0 = some (eA 2 n27 f28)) ∧ (∃ (n30 : Nat) (f31 : Nat → Option Nat) (n32 : Nat) (f33 : Nat → Option Nat), rd h x0 = some (eA 2 n30 f31) ∧ rd h t0 = some (eA 2 n32 f33) ∧ ¬ (0 : Int32) < 0 ∧ ¬ (0 : Int32) < 0 ∧ ¬ (if x1 < (nI n27) then x1 else (nI n27)) < 0 ∧ (0 : Int32).toNatClampNeg + (if x1 < (nI n27) then x1 else (nI n27)).toNatClampNeg ≤ n30 ∧ (0 : Int32).toNatClampNeg + (if x1 < (nI n27) then x1 else (nI n27)).toNatClampNeg ≤ n32 ∧ (∃ ci34 : Nat, w_el ci34 ∧ ∀ i : Nat, i < (if x1 < (nI n27) then x1 else (nI n27)).toNatClampNeg → ∀ y : Nat, f31 ((0 : Int32).toNatClampNeg + i) = some y → ∃ fs : List Value, rd h y = some (eO ci34 fs)) ∧ ∀ h35 : hM, h35 = h_up h t0 (eA 2 n32 (va_cpy f31 f33 (0 : Int32).toNatClampNeg (0 : Int32).toNatClampNeg (if x1 < (nI n27) then x1 else (nI n27)).toNatClampNeg)) → Q (some t0) h35))
def P_Arrs_copyOf_AIL (Q : Option Nat → hM → Prop) (h : hM) (x0 : Nat) (x1 : Int32) (x2 : Nat) : Prop :=
  ((¬ x2 = h.2.1 → False) ∧ (x2 = h.2.1 → (¬ x1 < 0 ∧ ∃ n39 : Nat, x1.toNatClampNeg = n39 ∧ n39 ≤ 160 ∧ ∀ q37 : Nat, rd h q37 = none → ∀ h38 : hM, h38 = h_up h q37 (eA 2 n39 (fun _ => none)) → P_Arrs_copyOf_AIL_24 Q h38 x0 x1 q37)))
def P_Arrs_copyOf_AI (Q : Option Nat → hM → Prop) (h : hM) (x0 : Nat) (x1 : Int32) : Prop :=
  (∃ (n5 : Nat) (f6 : Nat → Option Nat), rd h x0 = some (eA 2 n5 f6) ∧ (P_Arrs_copyOf_AIL (fun o8 h7 => Q o8 h7) h x0 x1 h.2.1))
def P_AL_grow_I_20 (Q : Option Nat → hM → Prop) (h : hM) (x0 : Nat) (x1 : Int32) (x2 : Int32) : Prop :=
  (P_ASup_newLength (fun i68 h67 => (∃ (fs69 : List Value) (r72 : Nat), rd h67 x0 = some (eO 5 fs69) ∧ fs69[1]? = some (.ref r72) ∧ (P_Arrs_copyOf_AI (fun o74 h73 => (∃ fs75 : List Value, rd h73 x0 = some (eO 5 fs75) ∧ 1 < fs75.length ∧ ∀ h78 : hM, h78 = h_up h73 x0 (eO 5 (fs75.set 1 (va_rf o74))) → Q o74 h78)) h67 r72 i68))) h x2 (x1 - x2) (x2 >>> ((1 : Int32) &&& 31)))
def P_AL_grow_I (Q : Option Nat → hM → Prop) (h : hM) (x0 : Nat) (x1 : Int32) : Prop :=
  (∃ (fs79 : List Value) (r82 : Nat), rd h x0 = some (eO 5 fs79) ∧ fs79[1]? = some (.ref r82) ∧ (∃ n83 : Nat, ((r82 = h.1 ∧ n83 = 0) ∨ ∃ f84 : Nat → Option Nat, rd h r82 = some (eA 2 n83 f84)) ∧ (∀ x2_86 : Int32, x2_86 = (nI n83) → ((0 < x2_86 → P_AL_grow_I_20 Q h x0 x1 x2_86) ∧ (¬ 0 < x2_86 → (∃ (fs88 : List Value) (r91 : Nat), rd h x0 = some (eO 5 fs88) ∧ fs88[1]? = some (.ref r91) ∧ ((r91 = h.1 → (¬ (if (10 : Int32) < x1 then x1 else (10 : Int32)) < 0 ∧ ∃ n95 : Nat, (if (10 : Int32) < x1 then x1 else (10 : Int32)).toNatClampNeg = n95 ∧ n95 ≤ 160 ∧ ∀ q93 : Nat, rd h q93 = none → ∀ h94 : hM, h94 = h_up h q93 (eA 2 n95 (fun _ => none)) → (∃ fs96 : List Value, rd h94 x0 = some (eO 5 fs96) ∧ 1 < fs96.length ∧ ∀ h99 : hM, h99 = h_up h94 x0 (eO 5 (fs96.set 1 (.ref q93))) → Q (some q93) h99))) ∧ (¬ r91 = h.1 → P_AL_grow_I_20 Q h x0 x1 x2_86))))))))
def P_AL_grow_v (Q : Option Nat → hM → Prop) (h : hM) (x0 : Nat) : Prop :=
  (∃ (fs9 : List Value) (i12 : Int32), rd h x0 = some (eO 5 fs9) ∧ fs9[2]? = some (.int i12) ∧ (∃ fs13 : List Value, rd h x0 = some (eO 5 fs13) ∧ P_AL_grow_I (fun o16 h15 => Q o16 h15) h x0 (i12 + (1 : Int32))))
def P_AL_add_LAI_11 (Q : hM → Prop) (h : hM) (x0 : Nat) (x1 : Nat) (x2 : Option Nat) (x3 : Int32) : Prop :=
  (∃ a41 : Nat, x2 = some a41 ∧ ∃ (n42 : Nat) (f43 : Nat → Option Nat), rd h a41 = some (eA 2 n42 f43) ∧ vp_in x3 n42 ∧ (∃ (ci47 : Nat) (fs48 : List Value), rd h x1 = some (eO ci47 fs48) ∧ w_el ci47) ∧ ∀ h46 : hM, h46 = h_up h a41 (eA 2 n42 (va_up f43 x3.toNatClampNeg (some x1))) → (∃ fs49 : List Value, rd h46 x0 = some (eO 5 fs49) ∧ 2 < fs49.length ∧ ∀ h52 : hM, h52 = h_up h46 x0 (eO 5 (fs49.set 2 (.int (x3 + (1 : Int32))))) → Q h52))
def P_AL_add_LAI (Q : hM → Prop) (h : hM) (x0 : Nat) (x1 : Nat) (x2 : Nat) (x3 : Int32) : Prop :=
  (∃ n53 : Nat, ((x2 = h.1 ∧ n53 = 0) ∨ ∃ f54 : Nat → Option Nat, rd h x2 = some (eA 2 n53 f54)) ∧ ((¬ x3 = (nI n53) → P_AL_add_LAI_11 Q h x0 x1 (some x2) x3) ∧ (x3 = (nI n53) → (∃ fs57 : List Value, rd h x0 = some (eO 5 fs57) ∧ P_AL_grow_v (fun o60 h59 => P_AL_add_LAI_11 Q h59 x0 x1 o60 x3) h x0))))
def P_AL_add_L (Q : Int32 → hM → Prop) (h : hM) (x0 : Nat) (x1 : Nat) : Prop :=
  (∃ (fs21 : List Value) (i24 : Int32), rd h x0 = some (eO 5 fs21) ∧ fs21[0]? = some (.int i24) ∧ (∃ fs25 : List Value, rd h x0 = some (eO 5 fs25) ∧ 0 < fs25.length ∧ ∀ h28 : hM, h28 = h_up h x0 (eO 5 (fs25.set 0 (.int (i24 + (1 : Int32))))) → (∃ (fs29 : List Value) (r32 : Nat), rd h28 x0 = some (eO 5 fs29) ∧ fs29[1]? = some (.ref r32) ∧ (∃ (fs33 : List Value) (i36 : Int32), rd h28 x0 = some (eO 5 fs33) ∧ fs33[2]? = some (.int i36) ∧ (∃ fs37 : List Value, rd h28 x0 = some (eO 5 fs37) ∧ P_AL_add_LAI (fun h39 => Q (1 : Int32) h39) h28 x0 x1 r32 i36)))))
def P_Prec_checkIndex_IIL (Q : Int32 → hM → Prop) (h : hM) (x0 : Int32) (x1 : Int32) : Prop :=
  ((x0 < 0 → False) ∧ (¬ x0 < 0 → ((x0 < x1 → Q x0 h) ∧ (¬ x0 < x1 → False))))
def P_Objs_checkIndex_II (Q : Int32 → hM → Prop) (h : hM) (x0 : Int32) (x1 : Int32) : Prop :=
  (P_Prec_checkIndex_IIL (fun i4 h3 => Q i4 h3) h x0 x1)
def P_AL_elementData (Q : Option Nat → hM → Prop) (h : hM) (x0 : Nat) (x1 : Int32) : Prop :=
  (∃ (fs10 : List Value) (r13 : Nat), rd h x0 = some (eO 5 fs10) ∧ fs10[1]? = some (.ref r13) ∧ (∃ (n14 : Nat) (f15 : Nat → Option Nat), rd h r13 = some (eA 2 n14 f15) ∧ vp_in x1 n14 ∧ ∀ o18 : Option Nat, o18 = (f15 x1.toNatClampNeg) → Q o18 h))
def P_AL_get (Q : Option Nat → hM → Prop) (h : hM) (x0 : Nat) (x1 : Int32) : Prop :=
  (∃ (fs11 : List Value) (i14 : Int32), rd h x0 = some (eO 5 fs11) ∧ fs11[2]? = some (.int i14) ∧ (P_Objs_checkIndex_II (fun i16 h15 => (∃ fs17 : List Value, rd h15 x0 = some (eO 5 fs17) ∧ P_AL_elementData (fun o20 h19 => Q o20 h19) h15 x0 x1)) h x1 i14))
end
section
def P_NS_init (Q : hM → Prop) (h : hM) (x0 : Nat) : Prop :=
  (∃ fs9 : List Value, rd h x0 = some (eO 4 fs9) ∧ 0 < fs9.length ∧ ∀ h12 : hM, h12 = h_up h x0 (eO 4 (fs9.set 0 (.long (0 : Int64)))) → (∃ fs13 : List Value, rd h12 x0 = some (eO 4 fs13) ∧ 1 < fs13.length ∧ ∀ h16 : hM, h16 = h_up h12 x0 (eO 4 (fs13.set 1 (.long (0 : Int64)))) → Q h16))
def P_NS_has_28 (Q : Int32 → hM → Prop) (h : hM) (t0 : Int64) : Prop :=
  ((t0 = (0 : Int64) → Q (0 : Int32) h) ∧ (¬ t0 = (0 : Int64) → Q (1 : Int32) h))
def P_NS_has (Q : Int32 → hM → Prop) (h : hM) (x0 : Nat) (x1 : Int32) : Prop :=
  (((64 : Int32) ≤ x1 → (∃ (fs23 : List Value) (j26 : Int64), rd h x0 = some (eO 4 fs23) ∧ fs23[1]? = some (.long j26) ∧ P_NS_has_28 Q h (j26 &&& (((1 : Int64) <<< ((x1 - (64 : Int32)).toInt64 &&& 63)))))) ∧ (¬ (64 : Int32) ≤ x1 → (∃ (fs27 : List Value) (j30 : Int64), rd h x0 = some (eO 4 fs27) ∧ fs27[0]? = some (.long j30) ∧ P_NS_has_28 Q h (j30 &&& (((1 : Int64) <<< (x1.toInt64 &&& 63)))))))
def P_NS_put (Q : hM → Prop) (h : hM) (x0 : Nat) (x1 : Int32) : Prop :=
  (((64 : Int32) ≤ x1 → (∃ (fs19 : List Value) (j22 : Int64), rd h x0 = some (eO 4 fs19) ∧ fs19[1]? = some (.long j22) ∧ (∃ fs23 : List Value, rd h x0 = some (eO 4 fs23) ∧ 1 < fs23.length ∧ ∀ h26 : hM, h26 = h_up h x0 (eO 4 (fs23.set 1 (.long (j22 ||| (((1 : Int64) <<< ((x1 - (64 : Int32)).toInt64 &&& 63))))))) → Q h26))) ∧ (¬ (64 : Int32) ≤ x1 → (∃ (fs27 : List Value) (j30 : Int64), rd h x0 = some (eO 4 fs27) ∧ fs27[0]? = some (.long j30) ∧ (∃ fs31 : List Value, rd h x0 = some (eO 4 fs31) ∧ 0 < fs31.length ∧ ∀ h34 : hM, h34 = h_up h x0 (eO 4 (fs31.set 0 (.long (j30 ||| (((1 : Int64) <<< (x1.toInt64 &&& 63))))))) → Q h34))))
def P_NS_putAll (Q : hM → Prop) (h : hM) (x0 : Nat) (x1 : Nat) : Prop :=
  (∃ (fs25 : List Value) (j28 : Int64), rd h x0 = some (eO 4 fs25) ∧ fs25[0]? = some (.long j28) ∧ (∃ (fs29 : List Value) (j32 : Int64), rd h x1 = some (eO 4 fs29) ∧ fs29[0]? = some (.long j32) ∧ (∃ fs33 : List Value, rd h x0 = some (eO 4 fs33) ∧ 0 < fs33.length ∧ ∀ h36 : hM, h36 = h_up h x0 (eO 4 (fs33.set 0 (.long (j28 ||| j32)))) → (∃ (fs37 : List Value) (j40 : Int64), rd h36 x0 = some (eO 4 fs37) ∧ fs37[1]? = some (.long j40) ∧ (∃ (fs41 : List Value) (j44 : Int64), rd h36 x1 = some (eO 4 fs41) ∧ fs41[1]? = some (.long j44) ∧ (∃ fs45 : List Value, rd h36 x0 = some (eO 4 fs45) ∧ 1 < fs45.length ∧ ∀ h48 : hM, h48 = h_up h36 x0 (eO 4 (fs45.set 1 (.long (j40 ||| j44)))) → Q h48))))))
def P_NS_isWithin (Q : Int32 → hM → Prop) (h : hM) (x0 : Nat) (x1 : Nat) : Prop :=
  (∃ (fs19 : List Value) (j22 : Int64), rd h x0 = some (eO 4 fs19) ∧ fs19[0]? = some (.long j22) ∧ (∃ (fs23 : List Value) (j26 : Int64), rd h x1 = some (eO 4 fs23) ∧ fs23[0]? = some (.long j26) ∧ ((¬ (j22 &&& (j26 ^^^ (-1 : Int64))) = (0 : Int64) → Q (0 : Int32) h) ∧ ((j22 &&& (j26 ^^^ (-1 : Int64))) = (0 : Int64) → (∃ (fs28 : List Value) (j31 : Int64), rd h x0 = some (eO 4 fs28) ∧ fs28[1]? = some (.long j31) ∧ (∃ (fs32 : List Value) (j35 : Int64), rd h x1 = some (eO 4 fs32) ∧ fs32[1]? = some (.long j35) ∧ ((¬ (j31 &&& (j35 ^^^ (-1 : Int64))) = (0 : Int64) → Q (0 : Int32) h) ∧ ((j31 &&& (j35 ^^^ (-1 : Int64))) = (0 : Int64) → Q (1 : Int32) h))))))))
def P_NS_drop (Q : hM → Prop) (h : hM) (x0 : Nat) (x1 : Int32) : Prop :=
  (((64 : Int32) ≤ x1 → (∃ (fs19 : List Value) (j22 : Int64), rd h x0 = some (eO 4 fs19) ∧ fs19[1]? = some (.long j22) ∧ (∃ fs23 : List Value, rd h x0 = some (eO 4 fs23) ∧ 1 < fs23.length ∧ ∀ h26 : hM, h26 = h_up h x0 (eO 4 (fs23.set 1 (.long (j22 &&& ((((1 : Int64) <<< ((x1 - (64 : Int32)).toInt64 &&& 63))) ^^^ (-1 : Int64)))))) → Q h26))) ∧ (¬ (64 : Int32) ≤ x1 → (∃ (fs27 : List Value) (j30 : Int64), rd h x0 = some (eO 4 fs27) ∧ fs27[0]? = some (.long j30) ∧ (∃ fs31 : List Value, rd h x0 = some (eO 4 fs31) ∧ 0 < fs31.length ∧ ∀ h34 : hM, h34 = h_up h x0 (eO 4 (fs31.set 0 (.long (j30 &&& ((((1 : Int64) <<< (x1.toInt64 &&& 63))) ^^^ (-1 : Int64)))))) → Q h34))))
end
section
def P_Load_init (Q : hM → Prop) (h : hM) (x0 : Nat) : Prop :=
  (∀ q29 : Nat, rd h q29 = none → ∀ h30 : hM, h30 = h_up h q29 (eT 0 36 (fun _ => 0)) → (∃ fs31 : List Value, rd h30 x0 = some (eO 2 fs31) ∧ 0 < fs31.length ∧ ∀ h34 : hM, h34 = h_up h30 x0 (eO 2 (fs31.set 0 (.ref q29))) → (∀ q35 : Nat, rd h34 q35 = none → ∀ h36 : hM, h36 = h_up h34 q35 (eT 0 4 (fun _ => 0)) → (∃ fs37 : List Value, rd h36 x0 = some (eO 2 fs37) ∧ 1 < fs37.length ∧ ∀ h40 : hM, h40 = h_up h36 x0 (eO 2 (fs37.set 1 (.ref q35))) → (∀ q41 : Nat, rd h40 q41 = none → ∀ h42 : hM, h42 = h_up h40 q41 (eO 4 [.long 0, .long 0]) → (P_NS_init (fun h43 => (∃ fs45 : List Value, rd h43 x0 = some (eO 2 fs45) ∧ 2 < fs45.length ∧ ∀ h48 : hM, h48 = h_up h43 x0 (eO 2 (fs45.set 2 (.ref q41))) → (∃ fs49 : List Value, rd h48 x0 = some (eO 2 fs49) ∧ 3 < fs49.length ∧ ∀ h52 : hM, h52 = h_up h48 x0 (eO 2 (fs49.set 3 (.int (0 : Int32)))) → (∃ fs53 : List Value, rd h52 x0 = some (eO 2 fs53) ∧ 4 < fs53.length ∧ ∀ h56 : hM, h56 = h_up h52 x0 (eO 2 (fs53.set 4 (.int (0 : Int32)))) → Q h56)))) h42 q41))))))
def P_Ini_init_14 (Q : hM → Prop) (K14 : hM → Nat → Int32 → Prop) (h : hM) (x0 : Nat) (x1 : Int32) : Prop :=
  (∃ (fs65 : List Value) (r68 : Nat), rd h x0 = some (eO 3 fs65) ∧ fs65[0]? = some (.ref r68) ∧ (∃ (n69 : Nat) (f70 : Nat → Int32), rd h r68 = some (eT 0 n69 f70) ∧ (((nI n69) ≤ x1 → (∃ fs73 : List Value, rd h x0 = some (eO 3 fs73) ∧ 1 < fs73.length ∧ ∀ h76 : hM, h76 = h_up h x0 (eO 3 (fs73.set 1 (.int (0 : Int32)))) → (∃ fs77 : List Value, rd h76 x0 = some (eO 3 fs77) ∧ 2 < fs77.length ∧ ∀ h80 : hM, h80 = h_up h76 x0 (eO 3 (fs77.set 2 (.int (0 : Int32)))) → Q h80))) ∧ (¬ (nI n69) ≤ x1 → (∃ (fs81 : List Value) (r84 : Nat), rd h x0 = some (eO 3 fs81) ∧ fs81[0]? = some (.ref r84) ∧ (∃ (n85 : Nat) (f86 : Nat → Int32), rd h r84 = some (eT 0 n85 f86) ∧ vp_in x1 n85 ∧ ∀ h89 : hM, h89 = h_up h r84 (eT 0 n85 (upd f86 x1.toNatClampNeg (-1 : Int32))) → (∀ x1_90 : Int32, x1_90 = x1 + 1 → K14 h89 x0 x1_90)))))))
def L_Ini_init_14 (Q : hM → Prop) : Nat → hM → Nat → Int32 → Prop
  | 0 => fun _ _ _ => False
  | n + 1 => P_Ini_init_14 Q (L_Ini_init_14 Q n)
def P_Ini_init (Q : hM → Prop) (h : hM) (x0 : Nat) : Prop :=
  (∀ q91 : Nat, rd h q91 = none → ∀ h92 : hM, h92 = h_up h q91 (eT 0 8 (fun _ => 0)) → (∃ fs93 : List Value, rd h92 x0 = some (eO 3 fs93) ∧ 0 < fs93.length ∧ ∀ h96 : hM, h96 = h_up h92 x0 (eO 3 (fs93.set 0 (.ref q91))) → (∃ n0 : Nat, L_Ini_init_14 Q n0 h96 x0 (0 : Int32))))
def P_Job_init (Q : hM → Prop) (h : hM) (x0 : Nat) (x1 : Int32) (x2 : Int32) (x3 : Int32) (x4 : Int32) (x5 : Int64) : Prop :=
  (∃ fs47 : List Value, rd h x0 = some (eO 1 fs47) ∧ 0 < fs47.length ∧ ∀ h50 : hM, h50 = h_up h x0 (eO 1 (fs47.set 0 (.int x1))) → (∃ fs51 : List Value, rd h50 x0 = some (eO 1 fs51) ∧ 1 < fs51.length ∧ ∀ h54 : hM, h54 = h_up h50 x0 (eO 1 (fs51.set 1 (.int x2))) → (∃ fs55 : List Value, rd h54 x0 = some (eO 1 fs55) ∧ 2 < fs55.length ∧ ∀ h58 : hM, h58 = h_up h54 x0 (eO 1 (fs55.set 2 (.int x3))) → (∃ fs59 : List Value, rd h58 x0 = some (eO 1 fs59) ∧ 3 < fs59.length ∧ ∀ h62 : hM, h62 = h_up h58 x0 (eO 1 (fs59.set 3 (.int x4))) → (∃ fs63 : List Value, rd h62 x0 = some (eO 1 fs63) ∧ 4 < fs63.length ∧ ∀ h66 : hM, h66 = h_up h62 x0 (eO 1 (fs63.set 4 (.long x5))) → (∀ q67 : Nat, rd h66 q67 = none → ∀ h68 : hM, h68 = h_up h66 q67 (eT 0 4 (fun _ => 0)) → (∃ fs69 : List Value, rd h68 x0 = some (eO 1 fs69) ∧ 5 < fs69.length ∧ ∀ h72 : hM, h72 = h_up h68 x0 (eO 1 (fs69.set 5 (.ref q67))) → (∀ q73 : Nat, rd h72 q73 = none → ∀ h74 : hM, h74 = h_up h72 q73 (eO 4 [.long 0, .long 0]) → (P_NS_init (fun h75 => (∃ fs77 : List Value, rd h75 x0 = some (eO 1 fs77) ∧ 6 < fs77.length ∧ ∀ h80 : hM, h80 = h_up h75 x0 (eO 1 (fs77.set 6 (.ref q73))) → (∃ fs81 : List Value, rd h80 x0 = some (eO 1 fs81) ∧ 7 < fs81.length ∧ ∀ h84 : hM, h84 = h_up h80 x0 (eO 1 (fs81.set 7 (.int (0 : Int32)))) → (∃ fs85 : List Value, rd h84 x0 = some (eO 1 fs85) ∧ 8 < fs85.length ∧ ∀ h88 : hM, h88 = h_up h84 x0 (eO 1 (fs85.set 8 (.int (0 : Int32)))) → (∃ fs89 : List Value, rd h88 x0 = some (eO 1 fs89) ∧ 9 < fs89.length ∧ ∀ h92 : hM, h92 = h_up h88 x0 (eO 1 (fs89.set 9 (.long x5))) → Q h92))))) h74 q73)))))))))
def P_Job_isWaiting (Q : Int32 → hM → Prop) (h : hM) (x0 : Nat) : Prop :=
  (∃ (fs11 : List Value) (i14 : Int32), rd h x0 = some (eO 1 fs11) ∧ fs11[8]? = some (.int i14) ∧ ((i14 = 0 → Q (1 : Int32) h) ∧ (¬ i14 = 0 → (∃ (fs16 : List Value) (i19 : Int32), rd h x0 = some (eO 1 fs16) ∧ fs16[8]? = some (.int i19) ∧ ((¬ i19 = (1 : Int32) → Q (0 : Int32) h) ∧ (i19 = (1 : Int32) → Q (1 : Int32) h))))))
def P_Load_take_15 (Q : hM → Prop) (K15 : hM → Nat → Nat → Int32 → Prop) (h : hM) (x0 : Nat) (x1 : Nat) (x2 : Int32) : Prop :=
  (((4 : Int32) ≤ x2 → (∃ (fs138 : List Value) (r141 : Nat), rd h x0 = some (eO 2 fs138) ∧ fs138[2]? = some (.ref r141) ∧ (∃ (fs142 : List Value) (i145 : Int32), rd h x1 = some (eO 1 fs142) ∧ fs142[3]? = some (.int i145) ∧ (∃ fs146 : List Value, rd h r141 = some (eO 4 fs146) ∧ P_NS_put (fun h148 => (∃ (fs150 : List Value) (i153 : Int32), rd h148 x0 = some (eO 2 fs150) ∧ fs150[3]? = some (.int i153) ∧ (∃ fs154 : List Value, rd h148 x0 = some (eO 2 fs154) ∧ 3 < fs154.length ∧ ∀ h157 : hM, h157 = h_up h148 x0 (eO 2 (fs154.set 3 (.int (i153 + (1 : Int32))))) → (∃ (fs158 : List Value) (i161 : Int32), rd h157 x1 = some (eO 1 fs158) ∧ fs158[7]? = some (.int i161) ∧ ((i161 = 0 ∨ i161 = 1) ∧ ∃ fs162 : List Value, rd h157 x0 = some (eO 2 fs162) ∧ 4 < fs162.length ∧ ∀ h165 : hM, h165 = h_up h157 x0 (eO 2 (fs162.set 4 (.int i161))) → Q h165))))) h r141 i145)))) ∧ (¬ (4 : Int32) ≤ x2 → (∃ (fs166 : List Value) (r169 : Nat), rd h x0 = some (eO 2 fs166) ∧ fs166[1]? = some (.ref r169) ∧ (∃ (n170 : Nat) (f171 : Nat → Int32), rd h r169 = some (eT 0 n170 f171) ∧ vp_in x2 n170 ∧ (∃ (fs174 : List Value) (r177 : Nat), rd h x1 = some (eO 1 fs174) ∧ fs174[5]? = some (.ref r177) ∧ (∃ (n178 : Nat) (f179 : Nat → Int32), rd h r177 = some (eT 0 n178 f179) ∧ vp_in x2 n178 ∧ (∃ (n182 : Nat) (f183 : Nat → Int32), rd h r169 = some (eT 0 n182 f183) ∧ vp_in x2 n182 ∧ ∀ h186 : hM, h186 = h_up h r169 (eT 0 n182 (upd f183 x2.toNatClampNeg ((f171 x2.toNatClampNeg) + (f179 x2.toNatClampNeg)))) → (∀ x2_187 : Int32, x2_187 = x2 + 1 → K15 h186 x0 x1 x2_187))))))))
def L_Load_take_15 (Q : hM → Prop) : Nat → hM → Nat → Nat → Int32 → Prop
  | 0 => fun _ _ _ _ => False
  | n + 1 => P_Load_take_15 Q (L_Load_take_15 Q n)
def P_Load_take (Q : hM → Prop) (h : hM) (x0 : Nat) (x1 : Nat) : Prop :=
  (∃ (fs188 : List Value) (r191 : Nat), rd h x0 = some (eO 2 fs188) ∧ fs188[0]? = some (.ref r191) ∧ (∃ (fs192 : List Value) (i195 : Int32), rd h x1 = some (eO 1 fs192) ∧ fs192[1]? = some (.int i195) ∧ (∃ (n196 : Nat) (f197 : Nat → Int32), rd h r191 = some (eT 0 n196 f197) ∧ vp_in i195 n196 ∧ (∃ (n200 : Nat) (f201 : Nat → Int32), rd h r191 = some (eT 0 n200 f201) ∧ vp_in i195 n200 ∧ ∀ h204 : hM, h204 = h_up h r191 (eT 0 n200 (upd f201 i195.toNatClampNeg ((f197 i195.toNatClampNeg) + (1 : Int32)))) → (∃ n0 : Nat, L_Load_take_15 Q n0 h204 x0 x1 (0 : Int32))))))
def P_Load_release_15 (Q : hM → Prop) (K15 : hM → Nat → Nat → Int32 → Prop) (h : hM) (x0 : Nat) (x1 : Nat) (x2 : Int32) : Prop :=
  (((4 : Int32) ≤ x2 → (∃ (fs130 : List Value) (r133 : Nat), rd h x0 = some (eO 2 fs130) ∧ fs130[2]? = some (.ref r133) ∧ (∃ (fs134 : List Value) (i137 : Int32), rd h x1 = some (eO 1 fs134) ∧ fs134[3]? = some (.int i137) ∧ (∃ fs138 : List Value, rd h r133 = some (eO 4 fs138) ∧ P_NS_drop (fun h140 => (∃ (fs142 : List Value) (i145 : Int32), rd h140 x0 = some (eO 2 fs142) ∧ fs142[3]? = some (.int i145) ∧ (∃ fs146 : List Value, rd h140 x0 = some (eO 2 fs146) ∧ 3 < fs146.length ∧ ∀ h149 : hM, h149 = h_up h140 x0 (eO 2 (fs146.set 3 (.int (i145 - (1 : Int32))))) → (∃ fs150 : List Value, rd h149 x0 = some (eO 2 fs150) ∧ 4 < fs150.length ∧ ∀ h153 : hM, h153 = h_up h149 x0 (eO 2 (fs150.set 4 (.int (0 : Int32)))) → Q h153)))) h r133 i137)))) ∧ (¬ (4 : Int32) ≤ x2 → (∃ (fs154 : List Value) (r157 : Nat), rd h x0 = some (eO 2 fs154) ∧ fs154[1]? = some (.ref r157) ∧ (∃ (n158 : Nat) (f159 : Nat → Int32), rd h r157 = some (eT 0 n158 f159) ∧ vp_in x2 n158 ∧ (∃ (fs162 : List Value) (r165 : Nat), rd h x1 = some (eO 1 fs162) ∧ fs162[5]? = some (.ref r165) ∧ (∃ (n166 : Nat) (f167 : Nat → Int32), rd h r165 = some (eT 0 n166 f167) ∧ vp_in x2 n166 ∧ (∃ (n170 : Nat) (f171 : Nat → Int32), rd h r157 = some (eT 0 n170 f171) ∧ vp_in x2 n170 ∧ ∀ h174 : hM, h174 = h_up h r157 (eT 0 n170 (upd f171 x2.toNatClampNeg ((f159 x2.toNatClampNeg) - (f167 x2.toNatClampNeg)))) → (∀ x2_175 : Int32, x2_175 = x2 + 1 → K15 h174 x0 x1 x2_175))))))))
def L_Load_release_15 (Q : hM → Prop) : Nat → hM → Nat → Nat → Int32 → Prop
  | 0 => fun _ _ _ _ => False
  | n + 1 => P_Load_release_15 Q (L_Load_release_15 Q n)
def P_Load_release (Q : hM → Prop) (h : hM) (x0 : Nat) (x1 : Nat) : Prop :=
  (∃ (fs176 : List Value) (r179 : Nat), rd h x0 = some (eO 2 fs176) ∧ fs176[0]? = some (.ref r179) ∧ (∃ (fs180 : List Value) (i183 : Int32), rd h x1 = some (eO 1 fs180) ∧ fs180[1]? = some (.int i183) ∧ (∃ (n184 : Nat) (f185 : Nat → Int32), rd h r179 = some (eT 0 n184 f185) ∧ vp_in i183 n184 ∧ (∃ (n188 : Nat) (f189 : Nat → Int32), rd h r179 = some (eT 0 n188 f189) ∧ vp_in i183 n188 ∧ ∀ h192 : hM, h192 = h_up h r179 (eT 0 n188 (upd f189 i183.toNatClampNeg ((f185 i183.toNatClampNeg) - (1 : Int32)))) → (∃ n0 : Nat, L_Load_release_15 Q n0 h192 x0 x1 (0 : Int32))))))
end
section
def P_Rows_init_36 (Q : hM → Prop) (K36 : hM → Nat → Int32 → Prop) (h : hM) (x0 : Nat) (x1 : Int32) : Prop :=
  (∃ (fs185 : List Value) (r188 : Nat), rd h x0 = some (eO 0 fs185) ∧ fs185[2]? = some (.ref r188) ∧ (∃ (n189 : Nat) (f190 : Nat → Int32), rd h r188 = some (eT 0 n189 f190) ∧ (((nI n189) ≤ x1 → (∀ q193 : Nat, rd h q193 = none → ∀ h194 : hM, h194 = h_up h q193 (eT 0 36 (fun _ => 0)) → (∃ fs195 : List Value, rd h194 x0 = some (eO 0 fs195) ∧ 3 < fs195.length ∧ ∀ h198 : hM, h198 = h_up h194 x0 (eO 0 (fs195.set 3 (.ref q193))) → (∀ q199 : Nat, rd h198 q199 = none → ∀ h200 : hM, h200 = h_up h198 q199 (eT 0 36 (fun _ => 0)) → (∃ fs201 : List Value, rd h200 x0 = some (eO 0 fs201) ∧ 4 < fs201.length ∧ ∀ h204 : hM, h204 = h_up h200 x0 (eO 0 (fs201.set 4 (.ref q199))) → (∀ q205 : Nat, rd h204 q205 = none → ∀ h206 : hM, h206 = h_up h204 q205 (eT 0 36 (fun _ => 0)) → (∃ fs207 : List Value, rd h206 x0 = some (eO 0 fs207) ∧ 5 < fs207.length ∧ ∀ h210 : hM, h210 = h_up h206 x0 (eO 0 (fs207.set 5 (.ref q205))) → (∀ q211 : Nat, rd h210 q211 = none → ∀ h212 : hM, h212 = h_up h210 q211 (eT 0 4 (fun _ => 0)) → (∃ fs213 : List Value, rd h212 x0 = some (eO 0 fs213) ∧ 6 < fs213.length ∧ ∀ h216 : hM, h216 = h_up h212 x0 (eO 0 (fs213.set 6 (.ref q211))) → (∀ q217 : Nat, rd h216 q217 = none → ∀ h218 : hM, h218 = h_up h216 q217 (eO 2 [.null, .null, .null, .int 0, .int 0]) → (P_Load_init (fun h219 => (∃ fs221 : List Value, rd h219 x0 = some (eO 0 fs221) ∧ 7 < fs221.length ∧ ∀ h224 : hM, h224 = h_up h219 x0 (eO 0 (fs221.set 7 (.ref q217))) → (∀ q225 : Nat, rd h224 q225 = none → ∀ h226 : hM, h226 = h_up h224 q225 (eO 4 [.long 0, .long 0]) → (P_NS_init (fun h227 => (∃ fs229 : List Value, rd h227 x0 = some (eO 0 fs229) ∧ 8 < fs229.length ∧ ∀ h232 : hM, h232 = h_up h227 x0 (eO 0 (fs229.set 8 (.ref q225))) → (∃ fs233 : List Value, rd h232 x0 = some (eO 0 fs233) ∧ 9 < fs233.length ∧ ∀ h236 : hM, h236 = h_up h232 x0 (eO 0 (fs233.set 9 (.long (0 : Int64)))) → (∃ fs237 : List Value, rd h236 x0 = some (eO 0 fs237) ∧ 10 < fs237.length ∧ ∀ h240 : hM, h240 = h_up h236 x0 (eO 0 (fs237.set 10 (.long (0 : Int64)))) → (∃ fs241 : List Value, rd h240 x0 = some (eO 0 fs241) ∧ 11 < fs241.length ∧ ∀ h244 : hM, h244 = h_up h240 x0 (eO 0 (fs241.set 11 (.int (0 : Int32)))) → Q h244))))) h226 q225)))) h218 q217))))))))))) ∧ (¬ (nI n189) ≤ x1 → (∃ (fs245 : List Value) (r248 : Nat), rd h x0 = some (eO 0 fs245) ∧ fs245[2]? = some (.ref r248) ∧ (∃ (n249 : Nat) (f250 : Nat → Int32), rd h r248 = some (eT 0 n249 f250) ∧ vp_in x1 n249 ∧ ∀ h253 : hM, h253 = h_up h r248 (eT 0 n249 (upd f250 x1.toNatClampNeg (40 : Int32))) → (∀ x1_254 : Int32, x1_254 = x1 + 1 → K36 h253 x0 x1_254)))))))
def L_Rows_init_36 (Q : hM → Prop) : Nat → hM → Nat → Int32 → Prop
  | 0 => fun _ _ _ => False
  | n + 1 => P_Rows_init_36 Q (L_Rows_init_36 Q n)
def P_Rows_init (Q : hM → Prop) (h : hM) (x0 : Nat) : Prop :=
  (∀ q255 : Nat, rd h q255 = none → ∀ h256 : hM, h256 = h_up h q255 (eO 5 [.int 0, .null, .int 0]) → (P_AL_init_v (fun h257 => (∃ fs259 : List Value, rd h257 x0 = some (eO 0 fs259) ∧ 0 < fs259.length ∧ ∀ h262 : hM, h262 = h_up h257 x0 (eO 0 (fs259.set 0 (.ref q255))) → (∀ q263 : Nat, rd h262 q263 = none → ∀ h264 : hM, h264 = h_up h262 q263 (eO 5 [.int 0, .null, .int 0]) → (P_AL_init_v (fun h265 => (∃ fs267 : List Value, rd h265 x0 = some (eO 0 fs267) ∧ 1 < fs267.length ∧ ∀ h270 : hM, h270 = h_up h265 x0 (eO 0 (fs267.set 1 (.ref q263))) → (∀ q271 : Nat, rd h270 q271 = none → ∀ h272 : hM, h272 = h_up h270 q271 (eT 0 36 (fun _ => 0)) → (∃ fs273 : List Value, rd h272 x0 = some (eO 0 fs273) ∧ 2 < fs273.length ∧ ∀ h276 : hM, h276 = h_up h272 x0 (eO 0 (fs273.set 2 (.ref q271))) → (∃ n0 : Nat, L_Rows_init_36 Q n0 h276 x0 (0 : Int32)))))) h264 q263)))) h256 q255))
def P_Rows_initiator (Q : Int32 → hM → Prop) (h : hM) (x0 : Nat) : Prop :=
  (∃ (fs30 : List Value) (r33 : Nat), rd h x0 = some (eO 0 fs30) ∧ fs30[0]? = some (.ref r33) ∧ (∃ fs34 : List Value, rd h r33 = some (eO 5 fs34) ∧ P_AL_size (fun i37 h36 => ((i37 < (12 : Int32) → (∃ (fs39 : List Value) (r42 : Nat), rd h36 x0 = some (eO 0 fs39) ∧ fs39[0]? = some (.ref r42) ∧ (∀ q43 : Nat, rd h36 q43 = none → ∀ h44 : hM, h44 = h_up h36 q43 (eO 3 [.null, .int 0, .int 0]) → (P_Ini_init (fun h45 => (∃ fs47 : List Value, rd h45 r42 = some (eO 5 fs47) ∧ P_AL_add_L (fun i50 h49 => (∃ (fs51 : List Value) (r54 : Nat), rd h49 x0 = some (eO 0 fs51) ∧ fs51[0]? = some (.ref r54) ∧ (∃ fs55 : List Value, rd h49 r54 = some (eO 5 fs55) ∧ P_AL_size (fun i58 h57 => Q i58 h57) h49 r54))) h45 r42 q43)) h44 q43)))) ∧ (¬ i37 < (12 : Int32) → Q (-1 : Int32) h36))) h r33))
def P_Rows_isIn (Q : Int32 → hM → Prop) (h : hM) (x0 : Int32) (x1 : Int32) (x2 : Int32) : Prop :=
  ((x0 < x1 → Q (0 : Int32) h) ∧ (¬ x0 < x1 → ((x2 < x0 → Q (0 : Int32) h) ∧ (¬ x2 < x0 → Q (1 : Int32) h))))
def P_Rows_findInitiator (Q : Option Nat → hM → Prop) (h : hM) (x0 : Nat) (x1 : Int32) : Prop :=
  (∃ (fs23 : List Value) (r26 : Nat), rd h x0 = some (eO 0 fs23) ∧ fs23[0]? = some (.ref r26) ∧ (∃ fs27 : List Value, rd h r26 = some (eO 5 fs27) ∧ P_AL_size (fun i30 h29 => (P_Rows_isIn (fun i32 h31 => ((i32 = 0 → Q none h31) ∧ (¬ i32 = 0 → (∃ (fs34 : List Value) (r37 : Nat), rd h31 x0 = some (eO 0 fs34) ∧ fs34[0]? = some (.ref r37) ∧ (∃ fs38 : List Value, rd h31 r37 = some (eO 5 fs38) ∧ P_AL_get (fun o41 h40 => ((o41 = none → Q none h40) ∧ (∀ a42 : Nat, o41 = some a42 → ((∃ fs43 : List Value, rd h40 a42 = some (eO 3 fs43)) ∧ Q (some a42) h40)))) h31 r37 (x1 - (1 : Int32))))))) h29 x1 (1 : Int32) i30)) h r26))
def P_Rows_isClass (Q : Int32 → hM → Prop) (h : hM) (x0 : Int32) : Prop :=
  (P_Rows_isIn (fun i4 h3 => ((i4 = 0 ∨ i4 = 1) ∧ Q i4 h3)) h x0 (0 : Int32) (35 : Int32))
def P_Rows_cls_40 (Q : Int32 → hM → Prop) (h : hM) (x2 : Int32) (x3 : Int32) (x4 : Nat) : Prop :=
  (∃ (fs45 : List Value) (r48 : Nat), rd h x4 = some (eO 3 fs45) ∧ fs45[0]? = some (.ref r48) ∧ (∃ (n49 : Nat) (f50 : Nat → Int32), rd h r48 = some (eT 0 n49 f50) ∧ vp_in x2 n49 ∧ ∀ h53 : hM, h53 = h_up h r48 (eT 0 n49 (upd f50 x2.toNatClampNeg x3)) → Q (1 : Int32) h53))
def P_Rows_cls (Q : Int32 → hM → Prop) (h : hM) (x0 : Nat) (x1 : Int32) (x2 : Int32) (x3 : Int32) : Prop :=
  (∃ fs54 : List Value, rd h x0 = some (eO 0 fs54) ∧ P_Rows_findInitiator (fun o57 h56 => ((o57 = none → Q (-2 : Int32) h56) ∧ (∀ a59 : Nat, o57 = some a59 → (P_Rows_isIn (fun i61 h60 => ((i61 = 0 → Q (-4 : Int32) h60) ∧ (¬ i61 = 0 → ((x3 = (-1 : Int32) → P_Rows_cls_40 Q h60 x2 x3 a59) ∧ (¬ x3 = (-1 : Int32) → (P_Rows_isClass (fun i65 h64 => ((¬ i65 = 0 → P_Rows_cls_40 Q h64 x2 x3 a59) ∧ (i65 = 0 → Q (-4 : Int32) h64))) h60 x3)))))) h56 x2 (0 : Int32) (7 : Int32))))) h x0 x1)
def P_Rows_limit (Q : Int32 → hM → Prop) (h : hM) (x0 : Nat) (x1 : Int32) (x2 : Int32) : Prop :=
  (P_Rows_isClass (fun i17 h16 => ((i17 = 0 → Q (-4 : Int32) h16) ∧ (¬ i17 = 0 → (P_Rows_isIn (fun i20 h19 => ((¬ i20 = 0 → (∃ (fs22 : List Value) (r25 : Nat), rd h19 x0 = some (eO 0 fs22) ∧ fs22[2]? = some (.ref r25) ∧ (∃ (n26 : Nat) (f27 : Nat → Int32), rd h19 r25 = some (eT 0 n26 f27) ∧ vp_in x1 n26 ∧ ∀ h30 : hM, h30 = h_up h19 r25 (eT 0 n26 (upd f27 x1.toNatClampNeg x2)) → Q (1 : Int32) h30))) ∧ (i20 = 0 → Q (-4 : Int32) h19))) h16 x2 (0 : Int32) (40 : Int32))))) h x1)
def P_Rows_window (Q : Int32 → hM → Prop) (h : hM) (x0 : Nat) (x1 : Int32) (x2 : Int32) (x3 : Int32) : Prop :=
  (P_Rows_isClass (fun i29 h28 => ((i29 = 0 → Q (-4 : Int32) h28) ∧ (¬ i29 = 0 → (P_Rows_isIn (fun i32 h31 => ((i32 = 0 → Q (-4 : Int32) h31) ∧ (¬ i32 = 0 → (P_Rows_isIn (fun i35 h34 => ((¬ i35 = 0 → (∃ (fs37 : List Value) (r40 : Nat), rd h34 x0 = some (eO 0 fs37) ∧ fs37[3]? = some (.ref r40) ∧ (∃ (n41 : Nat) (f42 : Nat → Int32), rd h34 r40 = some (eT 0 n41 f42) ∧ vp_in x1 n41 ∧ ∀ h45 : hM, h45 = h_up h34 r40 (eT 0 n41 (upd f42 x1.toNatClampNeg x2)) → (∃ (fs46 : List Value) (r49 : Nat), rd h45 x0 = some (eO 0 fs46) ∧ fs46[4]? = some (.ref r49) ∧ (∃ (n50 : Nat) (f51 : Nat → Int32), rd h45 r49 = some (eT 0 n50 f51) ∧ vp_in x1 n50 ∧ ∀ h54 : hM, h54 = h_up h45 r49 (eT 0 n50 (upd f51 x1.toNatClampNeg x3)) → Q (1 : Int32) h54))))) ∧ (i35 = 0 → Q (-4 : Int32) h34))) h31 x3 (0 : Int32) (1439 : Int32))))) h28 x2 (0 : Int32) (1439 : Int32))))) h x1)
def P_Rows_job (Q : Int32 → hM → Prop) (h : hM) (x0 : Nat) (x1 : Int32) (x2 : Int32) (x3 : Int32) (x4 : Int64) : Prop :=
  (P_Rows_isClass (fun i50 h49 => ((i50 = 0 → Q (-4 : Int32) h49) ∧ (¬ i50 = 0 → (P_Rows_isIn (fun i53 h52 => ((i53 = 0 → Q (-4 : Int32) h52) ∧ (¬ i53 = 0 → (P_Rows_isIn (fun i56 h55 => ((i56 = 0 → Q (-4 : Int32) h55) ∧ (¬ i56 = 0 → (∃ (fs58 : List Value) (j61 : Int64), rd h55 x0 = some (eO 0 fs58) ∧ fs58[9]? = some (.long j61) ∧ ((j61 ≤ x4 → (∃ (fs63 : List Value) (r66 : Nat), rd h55 x0 = some (eO 0 fs63) ∧ fs63[1]? = some (.ref r66) ∧ (∃ fs67 : List Value, rd h55 r66 = some (eO 5 fs67) ∧ P_AL_size (fun i70 h69 => ((i70 < (100 : Int32) → (∃ fs72 : List Value, rd h69 x0 = some (eO 0 fs72) ∧ 9 < fs72.length ∧ ∀ h75 : hM, h75 = h_up h69 x0 (eO 0 (fs72.set 9 (.long x4))) → (∃ (fs76 : List Value) (r79 : Nat), rd h75 x0 = some (eO 0 fs76) ∧ fs76[1]? = some (.ref r79) ∧ (∃ fs80 : List Value, rd h75 r79 = some (eO 5 fs80) ∧ P_AL_size (fun i83 h82 => (∀ x6_84 : Int32, x6_84 = (i83 + (1 : Int32)) → (∃ (fs85 : List Value) (r88 : Nat), rd h82 x0 = some (eO 0 fs85) ∧ fs85[1]? = some (.ref r88) ∧ (∀ q89 : Nat, rd h82 q89 = none → ∀ h90 : hM, h90 = h_up h82 q89 (eO 1 [.int 0, .int 0, .int 0, .int 0, .long 0, .null, .null, .int 0, .int 0, .long 0]) → (P_Job_init (fun h91 => (∃ fs93 : List Value, rd h91 r88 = some (eO 5 fs93) ∧ P_AL_add_L (fun i96 h95 => Q x6_84 h95) h91 r88 q89)) h90 q89 x6_84 x1 x2 x3 x4))))) h75 r79)))) ∧ (¬ i70 < (100 : Int32) → Q (-1 : Int32) h69))) h55 r66))) ∧ (¬ j61 ≤ x4 → Q (-4 : Int32) h55)))))) h52 x3 (0 : Int32) (99 : Int32))))) h49 x2 (0 : Int32) (15 : Int32))))) h x1)
def P_Rows_findJob (Q : Option Nat → hM → Prop) (h : hM) (x0 : Nat) (x1 : Int32) : Prop :=
  (∃ (fs23 : List Value) (r26 : Nat), rd h x0 = some (eO 0 fs23) ∧ fs23[1]? = some (.ref r26) ∧ (∃ fs27 : List Value, rd h r26 = some (eO 5 fs27) ∧ P_AL_size (fun i30 h29 => (P_Rows_isIn (fun i32 h31 => ((i32 = 0 → Q none h31) ∧ (¬ i32 = 0 → (∃ (fs34 : List Value) (r37 : Nat), rd h31 x0 = some (eO 0 fs34) ∧ fs34[1]? = some (.ref r37) ∧ (∃ fs38 : List Value, rd h31 r37 = some (eO 5 fs38) ∧ P_AL_get (fun o41 h40 => ((o41 = none → Q none h40) ∧ (∀ a42 : Nat, o41 = some a42 → ((∃ fs43 : List Value, rd h40 a42 = some (eO 1 fs43)) ∧ Q (some a42) h40)))) h31 r37 (x1 - (1 : Int32))))))) h29 x1 (1 : Int32) i30)) h r26))
def P_Rows_addNeed_71 (Q : hM → Prop) (K2 : hM → Nat → Nat → Nat → Int32 → Prop) (h : hM) (x0 : Nat) (x1 : Nat) (x2 : Nat) (x3 : Int32) : Prop :=
  (∀ x3_123 : Int32, x3_123 = x3 + 1 → K2 h x0 x1 x2 x3_123)
def P_Rows_addNeed_47 (Q : hM → Prop) (K2 : hM → Nat → Nat → Nat → Int32 → Prop) (h : hM) (x0 : Nat) (x1 : Nat) (x2 : Nat) (x3 : Int32) (x4 : Option Nat) : Prop :=
  (∃ a124 : Nat, x4 = some a124 ∧ ∃ (fs125 : List Value) (r128 : Nat), rd h a124 = some (eO 1 fs125) ∧ fs125[6]? = some (.ref r128) ∧ (∃ (fs129 : List Value) (i132 : Int32), rd h x2 = some (eO 1 fs129) ∧ fs129[0]? = some (.int i132) ∧ (∃ fs133 : List Value, rd h r128 = some (eO 4 fs133) ∧ P_NS_put (fun h135 => (∃ (fs137 : List Value) (r140 : Nat), rd h135 a124 = some (eO 1 fs137) ∧ fs137[6]? = some (.ref r140) ∧ (∃ (fs141 : List Value) (r144 : Nat), rd h135 x2 = some (eO 1 fs141) ∧ fs141[6]? = some (.ref r144) ∧ (∃ fs145 : List Value, rd h135 r140 = some (eO 4 fs145) ∧ P_NS_putAll (fun h147 => P_Rows_addNeed_71 Q K2 h147 x0 x1 x2 x3) h135 r140 r144)))) h r128 i132)))
def P_Rows_addNeed_2 (Q : hM → Prop) (K2 : hM → Nat → Nat → Nat → Int32 → Prop) (h : hM) (x0 : Nat) (x1 : Nat) (x2 : Nat) (x3 : Int32) : Prop :=
  (∃ (fs149 : List Value) (r152 : Nat), rd h x0 = some (eO 0 fs149) ∧ fs149[1]? = some (.ref r152) ∧ (∃ fs153 : List Value, rd h r152 = some (eO 5 fs153) ∧ P_AL_size (fun i156 h155 => ((i156 ≤ x3 → Q h155) ∧ (¬ i156 ≤ x3 → (∃ (fs158 : List Value) (r161 : Nat), rd h155 x0 = some (eO 0 fs158) ∧ fs158[1]? = some (.ref r161) ∧ (∃ fs162 : List Value, rd h155 r161 = some (eO 5 fs162) ∧ P_AL_get (fun o165 h164 => ((o165 = none → ((none = (some x1) → P_Rows_addNeed_47 Q K2 h164 x0 x1 x2 x3 none) ∧ (¬ none = (some x1) → False))) ∧ (∀ a166 : Nat, o165 = some a166 → ((∃ fs168 : List Value, rd h164 a166 = some (eO 1 fs168)) ∧ ((a166 = x1 → P_Rows_addNeed_47 Q K2 h164 x0 x1 x2 x3 (some a166)) ∧ (¬ a166 = x1 → (∃ (fs171 : List Value) (r174 : Nat), rd h164 a166 = some (eO 1 fs171) ∧ fs171[6]? = some (.ref r174) ∧ (∃ (fs175 : List Value) (i178 : Int32), rd h164 x1 = some (eO 1 fs175) ∧ fs175[0]? = some (.int i178) ∧ (∃ fs179 : List Value, rd h164 r174 = some (eO 4 fs179) ∧ P_NS_has (fun i182 h181 => ((i182 = 0 → P_Rows_addNeed_71 Q K2 h181 x0 x1 x2 x3) ∧ (¬ i182 = 0 → P_Rows_addNeed_47 Q K2 h181 x0 x1 x2 x3 (some a166)))) h164 r174 i178))))))))) h155 r161 x3))))) h r152))
def L_Rows_addNeed_2 (Q : hM → Prop) : Nat → hM → Nat → Nat → Nat → Int32 → Prop
  | 0 => fun _ _ _ _ _ => False
  | n + 1 => P_Rows_addNeed_2 Q (L_Rows_addNeed_2 Q n)
def P_Rows_addNeed (Q : hM → Prop) (h : hM) (x0 : Nat) (x1 : Nat) (x2 : Nat) : Prop :=
  (∃ n0 : Nat, L_Rows_addNeed_2 Q n0 h x0 x1 x2 (0 : Int32))
def P_Rows_needs (Q : Int32 → hM → Prop) (h : hM) (x0 : Nat) (x1 : Int32) (x2 : Int32) : Prop :=
  (∃ fs32 : List Value, rd h x0 = some (eO 0 fs32) ∧ P_Rows_findJob (fun o35 h34 => (∃ fs36 : List Value, rd h34 x0 = some (eO 0 fs36) ∧ P_Rows_findJob (fun o39 h38 => ((o35 = none → Q (-2 : Int32) h38) ∧ (∀ a41 : Nat, o35 = some a41 → ((o39 = none → Q (-2 : Int32) h38) ∧ (∀ a43 : Nat, o39 = some a43 → (∃ fs44 : List Value, rd h38 a41 = some (eO 1 fs44) ∧ P_Job_isWaiting (fun i47 h46 => ((¬ i47 = 0 → ((x1 = x2 → Q (0 : Int32) h46) ∧ (¬ x1 = x2 → (∃ (fs50 : List Value) (r53 : Nat), rd h46 a43 = some (eO 1 fs50) ∧ fs50[6]? = some (.ref r53) ∧ (∃ fs54 : List Value, rd h46 r53 = some (eO 4 fs54) ∧ P_NS_has (fun i57 h56 => ((i57 = 0 → (∃ fs59 : List Value, rd h56 x0 = some (eO 0 fs59) ∧ P_Rows_addNeed (fun h61 => Q (1 : Int32) h61) h56 x0 a41 a43)) ∧ (¬ i57 = 0 → Q (0 : Int32) h56))) h46 r53 x1))))) ∧ (i47 = 0 → Q (-5 : Int32) h46))) h38 a41)))))) h34 x0 x2)) h x0 x1)
def P_Rows_isKind (Q : Int32 → hM → Prop) (h : hM) (x0 : Int32) : Prop :=
  (P_Rows_isIn (fun i4 h3 => ((i4 = 0 ∨ i4 = 1) ∧ Q i4 h3)) h x0 (0 : Int32) (3 : Int32))
def P_Rows_units (Q : Int32 → hM → Prop) (h : hM) (x0 : Nat) (x1 : Int32) (x2 : Int32) : Prop :=
  (P_Rows_isKind (fun i17 h16 => ((i17 = 0 → Q (-4 : Int32) h16) ∧ (¬ i17 = 0 → (P_Rows_isIn (fun i20 h19 => ((¬ i20 = 0 → (∃ (fs22 : List Value) (r25 : Nat), rd h19 x0 = some (eO 0 fs22) ∧ fs22[6]? = some (.ref r25) ∧ (∃ (n26 : Nat) (f27 : Nat → Int32), rd h19 r25 = some (eT 0 n26 f27) ∧ vp_in x1 n26 ∧ ∀ h30 : hM, h30 = h_up h19 r25 (eT 0 n26 (upd f27 x1.toNatClampNeg x2)) → Q (1 : Int32) h30))) ∧ (i20 = 0 → Q (-4 : Int32) h19))) h16 x2 (0 : Int32) (1000 : Int32))))) h x1)
def P_Rows_uses (Q : Int32 → hM → Prop) (h : hM) (x0 : Nat) (x1 : Int32) (x2 : Int32) (x3 : Int32) : Prop :=
  (∃ fs27 : List Value, rd h x0 = some (eO 0 fs27) ∧ P_Rows_findJob (fun o30 h29 => ((o30 = none → Q (-2 : Int32) h29) ∧ (∀ a32 : Nat, o30 = some a32 → (P_Rows_isKind (fun i34 h33 => ((i34 = 0 → Q (-4 : Int32) h33) ∧ (¬ i34 = 0 → (P_Rows_isIn (fun i37 h36 => ((¬ i37 = 0 → (∃ fs39 : List Value, rd h36 a32 = some (eO 1 fs39) ∧ P_Job_isWaiting (fun i42 h41 => ((¬ i42 = 0 → (∃ (fs44 : List Value) (r47 : Nat), rd h41 a32 = some (eO 1 fs44) ∧ fs44[5]? = some (.ref r47) ∧ (∃ (n48 : Nat) (f49 : Nat → Int32), rd h41 r47 = some (eT 0 n48 f49) ∧ vp_in x2 n48 ∧ ∀ h52 : hM, h52 = h_up h41 r47 (eT 0 n48 (upd f49 x2.toNatClampNeg x3)) → Q (1 : Int32) h52))) ∧ (i42 = 0 → Q (-5 : Int32) h41))) h36 a32)) ∧ (i37 = 0 → Q (-4 : Int32) h36))) h33 x3 (0 : Int32) (1000 : Int32))))) h29 x2)))) h x0 x1)
def P_Rows_alone (Q : Int32 → hM → Prop) (h : hM) (x0 : Nat) (x1 : Int32) : Prop :=
  (∃ fs16 : List Value, rd h x0 = some (eO 0 fs16) ∧ P_Rows_findJob (fun o19 h18 => ((o19 = none → Q (-2 : Int32) h18) ∧ (∀ a21 : Nat, o19 = some a21 → (∃ fs22 : List Value, rd h18 a21 = some (eO 1 fs22) ∧ P_Job_isWaiting (fun i25 h24 => ((¬ i25 = 0 → (∃ fs27 : List Value, rd h24 a21 = some (eO 1 fs27) ∧ 7 < fs27.length ∧ ∀ h30 : hM, h30 = h_up h24 a21 (eO 1 (fs27.set 7 (.int (1 : Int32)))) → Q (1 : Int32) h30)) ∧ (i25 = 0 → Q (-5 : Int32) h24))) h18 a21)))) h x0 x1)
def P_Rows_hold_32 (Q : Int32 → hM → Prop) (h : hM) (x3 : Nat) (t0 : Int32) : Prop :=
  (∃ (fs43 : List Value) (i46 : Int32), rd h x3 = some (eO 1 fs43) ∧ fs43[8]? = some (.int i46) ∧ ((¬ i46 = t0 → (∃ fs48 : List Value, rd h x3 = some (eO 1 fs48) ∧ 8 < fs48.length ∧ ∀ h51 : hM, h51 = h_up h x3 (eO 1 (fs48.set 8 (.int t0))) → Q (1 : Int32) h51)) ∧ (i46 = t0 → Q (0 : Int32) h)))
def P_Rows_hold (Q : Int32 → hM → Prop) (h : hM) (x0 : Nat) (x1 : Int32) (x2 : Int32) : Prop :=
  (∃ fs52 : List Value, rd h x0 = some (eO 0 fs52) ∧ P_Rows_findJob (fun o55 h54 => ((o55 = none → Q (-2 : Int32) h54) ∧ (∀ a57 : Nat, o55 = some a57 → (∃ fs58 : List Value, rd h54 a57 = some (eO 1 fs58) ∧ P_Job_isWaiting (fun i61 h60 => ((¬ i61 = 0 → ((x2 = 0 → P_Rows_hold_32 Q h60 a57 (0 : Int32)) ∧ (¬ x2 = 0 → P_Rows_hold_32 Q h60 a57 (1 : Int32)))) ∧ (i61 = 0 → Q (-5 : Int32) h60))) h54 a57)))) h x0 x1)
def P_Rows_isWindowOpen (Q : Int32 → hM → Prop) (h : hM) (x0 : Nat) (x1 : Int32) : Prop :=
  (∃ (fs30 : List Value) (j33 : Int64), rd h x0 = some (eO 0 fs30) ∧ fs30[9]? = some (.long j33) ∧ (∀ x2_34 : Int32, x2_34 = ((j33 - j33 / (1440 : Int64) * (1440 : Int64)).toInt32) → (∃ (fs35 : List Value) (r38 : Nat), rd h x0 = some (eO 0 fs35) ∧ fs35[3]? = some (.ref r38) ∧ (∃ (n39 : Nat) (f40 : Nat → Int32), rd h r38 = some (eT 0 n39 f40) ∧ vp_in x1 n39 ∧ (∀ x3_43 : Int32, x3_43 = (f40 x1.toNatClampNeg) → (∃ (fs44 : List Value) (r47 : Nat), rd h x0 = some (eO 0 fs44) ∧ fs44[4]? = some (.ref r47) ∧ (∃ (n48 : Nat) (f49 : Nat → Int32), rd h r47 = some (eT 0 n48 f49) ∧ vp_in x1 n48 ∧ (∀ x4_52 : Int32, x4_52 = (f49 x1.toNatClampNeg) → ((¬ x3_43 = x4_52 → ((x4_52 ≤ x3_43 → ((x3_43 ≤ x2_34 → Q (1 : Int32) h) ∧ (¬ x3_43 ≤ x2_34 → ((x4_52 ≤ x2_34 → Q (0 : Int32) h) ∧ (¬ x4_52 ≤ x2_34 → Q (1 : Int32) h))))) ∧ (¬ x4_52 ≤ x3_43 → ((x2_34 < x3_43 → Q (0 : Int32) h) ∧ (¬ x2_34 < x3_43 → ((x4_52 ≤ x2_34 → Q (0 : Int32) h) ∧ (¬ x4_52 ≤ x2_34 → Q (1 : Int32) h))))))) ∧ (x3_43 = x4_52 → Q (1 : Int32) h))))))))))
def P_Rows_areUnitsEnough_2 (Q : Int32 → hM → Prop) (K2 : hM → Nat → Nat → Int32 → Prop) (h : hM) (x0 : Nat) (x1 : Nat) (x2 : Int32) : Prop :=
  (((4 : Int32) ≤ x2 → Q (1 : Int32) h) ∧ (¬ (4 : Int32) ≤ x2 → (∃ (fs64 : List Value) (r67 : Nat), rd h x1 = some (eO 1 fs64) ∧ fs64[5]? = some (.ref r67) ∧ (∃ (n68 : Nat) (f69 : Nat → Int32), rd h r67 = some (eT 0 n68 f69) ∧ vp_in x2 n68 ∧ (∃ (fs72 : List Value) (r75 : Nat), rd h x0 = some (eO 0 fs72) ∧ fs72[7]? = some (.ref r75) ∧ (∃ (fs76 : List Value) (r79 : Nat), rd h r75 = some (eO 2 fs76) ∧ fs76[1]? = some (.ref r79) ∧ (∃ (n80 : Nat) (f81 : Nat → Int32), rd h r79 = some (eT 0 n80 f81) ∧ vp_in x2 n80 ∧ (∃ (fs84 : List Value) (r87 : Nat), rd h x0 = some (eO 0 fs84) ∧ fs84[6]? = some (.ref r87) ∧ (∃ (n88 : Nat) (f89 : Nat → Int32), rd h r87 = some (eT 0 n88 f89) ∧ vp_in x2 n88 ∧ ((((f69 x2.toNatClampNeg) + (f81 x2.toNatClampNeg)) ≤ (f89 x2.toNatClampNeg) → (∀ x2_93 : Int32, x2_93 = x2 + 1 → K2 h x0 x1 x2_93)) ∧ (¬ ((f69 x2.toNatClampNeg) + (f81 x2.toNatClampNeg)) ≤ (f89 x2.toNatClampNeg) → Q (0 : Int32) h)))))))))))
def L_Rows_areUnitsEnough_2 (Q : Int32 → hM → Prop) : Nat → hM → Nat → Nat → Int32 → Prop
  | 0 => fun _ _ _ _ => False
  | n + 1 => P_Rows_areUnitsEnough_2 Q (L_Rows_areUnitsEnough_2 Q n)
def P_Rows_areUnitsEnough (Q : Int32 → hM → Prop) (h : hM) (x0 : Nat) (x1 : Nat) : Prop :=
  (∃ n0 : Nat, L_Rows_areUnitsEnough_2 Q n0 h x0 x1 (0 : Int32))
def P_Rows_mayStart (Q : Int32 → hM → Prop) (h : hM) (x0 : Nat) (x1 : Nat) : Prop :=
  (∃ (fs102 : List Value) (i105 : Int32), rd h x1 = some (eO 1 fs102) ∧ fs102[8]? = some (.int i105) ∧ ((¬ i105 = 0 → Q (0 : Int32) h) ∧ (i105 = 0 → (∃ (fs107 : List Value) (r110 : Nat), rd h x0 = some (eO 0 fs107) ∧ fs107[7]? = some (.ref r110) ∧ (∃ (fs111 : List Value) (r114 : Nat), rd h r110 = some (eO 2 fs111) ∧ fs111[0]? = some (.ref r114) ∧ (∃ (fs115 : List Value) (i118 : Int32), rd h x1 = some (eO 1 fs115) ∧ fs115[1]? = some (.int i118) ∧ (∃ (n119 : Nat) (f120 : Nat → Int32), rd h r114 = some (eT 0 n119 f120) ∧ vp_in i118 n119 ∧ (∃ (fs123 : List Value) (r126 : Nat), rd h x0 = some (eO 0 fs123) ∧ fs123[2]? = some (.ref r126) ∧ (∃ (fs127 : List Value) (i130 : Int32), rd h x1 = some (eO 1 fs127) ∧ fs127[1]? = some (.int i130) ∧ (∃ (n131 : Nat) (f132 : Nat → Int32), rd h r126 = some (eT 0 n131 f132) ∧ vp_in i130 n131 ∧ (((f132 i130.toNatClampNeg) ≤ (f120 i118.toNatClampNeg) → Q (0 : Int32) h) ∧ (¬ (f132 i130.toNatClampNeg) ≤ (f120 i118.toNatClampNeg) → (∃ (fs136 : List Value) (i139 : Int32), rd h x1 = some (eO 1 fs136) ∧ fs136[1]? = some (.int i139) ∧ (∃ fs140 : List Value, rd h x0 = some (eO 0 fs140) ∧ P_Rows_isWindowOpen (fun i143 h142 => ((i143 = 0 → Q (0 : Int32) h142) ∧ (¬ i143 = 0 → (∃ (fs145 : List Value) (r148 : Nat), rd h142 x0 = some (eO 0 fs145) ∧ fs145[7]? = some (.ref r148) ∧ (∃ (fs149 : List Value) (r152 : Nat), rd h142 r148 = some (eO 2 fs149) ∧ fs149[2]? = some (.ref r152) ∧ (∃ (fs153 : List Value) (i156 : Int32), rd h142 x1 = some (eO 1 fs153) ∧ fs153[3]? = some (.int i156) ∧ (∃ fs157 : List Value, rd h142 r152 = some (eO 4 fs157) ∧ P_NS_has (fun i160 h159 => ((¬ i160 = 0 → Q (0 : Int32) h159) ∧ (i160 = 0 → (∃ (fs162 : List Value) (r165 : Nat), rd h159 x1 = some (eO 1 fs162) ∧ fs162[6]? = some (.ref r165) ∧ (∃ (fs166 : List Value) (r169 : Nat), rd h159 x0 = some (eO 0 fs166) ∧ fs166[8]? = some (.ref r169) ∧ (∃ fs170 : List Value, rd h159 r165 = some (eO 4 fs170) ∧ P_NS_isWithin (fun i173 h172 => ((i173 = 0 → Q (0 : Int32) h172) ∧ (¬ i173 = 0 → (∃ fs175 : List Value, rd h172 x0 = some (eO 0 fs175) ∧ P_Rows_areUnitsEnough (fun i178 h177 => ((i178 = 0 → Q (0 : Int32) h177) ∧ (¬ i178 = 0 → (∃ (fs180 : List Value) (r183 : Nat), rd h177 x0 = some (eO 0 fs180) ∧ fs180[7]? = some (.ref r183) ∧ (∃ (fs184 : List Value) (i187 : Int32), rd h177 r183 = some (eO 2 fs184) ∧ fs184[4]? = some (.int i187) ∧ ((¬ i187 = 0 → Q (0 : Int32) h177) ∧ (i187 = 0 → (∃ (fs189 : List Value) (i192 : Int32), rd h177 x1 = some (eO 1 fs189) ∧ fs189[7]? = some (.int i192) ∧ ((i192 = 0 → Q (1 : Int32) h177) ∧ (¬ i192 = 0 → (∃ (fs194 : List Value) (r197 : Nat), rd h177 x0 = some (eO 0 fs194) ∧ fs194[7]? = some (.ref r197) ∧ (∃ (fs198 : List Value) (i201 : Int32), rd h177 r197 = some (eO 2 fs198) ∧ fs198[3]? = some (.int i201) ∧ ((0 < i201 → Q (0 : Int32) h177) ∧ (¬ 0 < i201 → Q (1 : Int32) h177)))))))))))))) h172 x0 x1)))) h159 r165 r169)))))) h142 r152 i156))))))) h x0 i139))))))))))))))
def P_Rows_priorityNow (Q : Int32 → hM → Prop) (h : hM) (x0 : Nat) (x1 : Nat) : Prop :=
  (∃ (fs41 : List Value) (i44 : Int32), rd h x0 = some (eO 0 fs41) ∧ fs41[11]? = some (.int i44) ∧ (∃ (fs45 : List Value) (i48 : Int32), rd h x1 = some (eO 1 fs45) ∧ fs45[2]? = some (.int i48) ∧ (∀ x2_49 : Int32, x2_49 = (i44 - i48) → (∃ (fs50 : List Value) (j53 : Int64), rd h x0 = some (eO 0 fs50) ∧ fs50[10]? = some (.long j53) ∧ ((j53 ≤ (0 : Int64) → (∃ (fs55 : List Value) (i58 : Int32), rd h x1 = some (eO 1 fs55) ∧ fs55[2]? = some (.int i58) ∧ Q i58 h)) ∧ (¬ j53 ≤ (0 : Int64) → ((0 < x2_49 → (∃ (fs60 : List Value) (j63 : Int64), rd h x0 = some (eO 0 fs60) ∧ fs60[9]? = some (.long j63) ∧ (∃ (fs64 : List Value) (j67 : Int64), rd h x1 = some (eO 1 fs64) ∧ fs64[4]? = some (.long j67) ∧ (∃ (fs68 : List Value) (j71 : Int64), rd h x0 = some (eO 0 fs68) ∧ fs68[10]? = some (.long j71) ∧ (¬ j71 = 0 ∧ (∀ x3_72 : Int64, x3_72 = ((j63 - j67) / j71) → (∃ (fs73 : List Value) (i76 : Int32), rd h x1 = some (eO 1 fs73) ∧ fs73[2]? = some (.int i76) ∧ Q (i76 + ((if (x2_49.toInt64) < x3_72 then (x2_49.toInt64) else x3_72).toInt32)) h))))))) ∧ (¬ 0 < x2_49 → (∃ (fs77 : List Value) (i80 : Int32), rd h x1 = some (eO 1 fs77) ∧ fs77[2]? = some (.int i80) ∧ Q i80 h)))))))))
def P_Rows_nextOfClass_67 (Q : Option Nat → hM → Prop) (K4 : hM → Nat → Int32 → Option Nat → Int32 → Prop) (h : hM) (x0 : Nat) (x1 : Int32) (x2 : Option Nat) (x3 : Int32) : Prop :=
  (∀ x3_75 : Int32, x3_75 = x3 + 1 → K4 h x0 x1 x2 x3_75)
def P_Rows_nextOfClass_64 (Q : Option Nat → hM → Prop) (K4 : hM → Nat → Int32 → Option Nat → Int32 → Prop) (h : hM) (x0 : Nat) (x1 : Int32) (x3 : Int32) (x4 : Nat) : Prop :=
  P_Rows_nextOfClass_67 Q K4 h x0 x1 (some x4) x3
def P_Rows_nextOfClass_4 (Q : Option Nat → hM → Prop) (K4 : hM → Nat → Int32 → Option Nat → Int32 → Prop) (h : hM) (x0 : Nat) (x1 : Int32) (x2 : Option Nat) (x3 : Int32) : Prop :=
  (∃ (fs76 : List Value) (r79 : Nat), rd h x0 = some (eO 0 fs76) ∧ fs76[1]? = some (.ref r79) ∧ (∃ fs80 : List Value, rd h r79 = some (eO 5 fs80) ∧ P_AL_size (fun i83 h82 => ((i83 ≤ x3 → Q x2 h82) ∧ (¬ i83 ≤ x3 → (∃ (fs85 : List Value) (r88 : Nat), rd h82 x0 = some (eO 0 fs85) ∧ fs85[1]? = some (.ref r88) ∧ (∃ fs89 : List Value, rd h82 r88 = some (eO 5 fs89) ∧ P_AL_get (fun o92 h91 => ((o92 = none → False) ∧ (∀ a93 : Nat, o92 = some a93 → ((∃ fs94 : List Value, rd h91 a93 = some (eO 1 fs94)) ∧ (∃ (fs96 : List Value) (i99 : Int32), rd h91 a93 = some (eO 1 fs96) ∧ fs96[1]? = some (.int i99) ∧ ((¬ i99 = x1 → P_Rows_nextOfClass_67 Q K4 h91 x0 x1 x2 x3) ∧ (i99 = x1 → (∃ fs101 : List Value, rd h91 x0 = some (eO 0 fs101) ∧ P_Rows_mayStart (fun i104 h103 => ((i104 = 0 → P_Rows_nextOfClass_67 Q K4 h103 x0 x1 x2 x3) ∧ (¬ i104 = 0 → ((x2 = none → P_Rows_nextOfClass_64 Q K4 h103 x0 x1 x3 a93) ∧ (∀ a107 : Nat, x2 = some a107 → (∃ fs108 : List Value, rd h103 x0 = some (eO 0 fs108) ∧ P_Rows_priorityNow (fun i111 h110 => (∃ fs112 : List Value, rd h110 x0 = some (eO 0 fs112) ∧ P_Rows_priorityNow (fun i115 h114 => ((i111 ≤ i115 → P_Rows_nextOfClass_67 Q K4 h114 x0 x1 (some a107) x3) ∧ (¬ i111 ≤ i115 → P_Rows_nextOfClass_64 Q K4 h114 x0 x1 x3 a93))) h110 x0 a107)) h103 x0 a93)))))) h91 x0 a93)))))))) h82 r88 x3))))) h r79))
def L_Rows_nextOfClass_4 (Q : Option Nat → hM → Prop) : Nat → hM → Nat → Int32 → Option Nat → Int32 → Prop
  | 0 => fun _ _ _ _ _ => False
  | n + 1 => P_Rows_nextOfClass_4 Q (L_Rows_nextOfClass_4 Q n)
def P_Rows_nextOfClass (Q : Option Nat → hM → Prop) (h : hM) (x0 : Nat) (x1 : Int32) : Prop :=
  (∃ n0 : Nat, L_Rows_nextOfClass_4 Q n0 h x0 x1 none (0 : Int32))
def P_Rows_nextFor_32 (Q : Option Nat → hM → Prop) (K2 : hM → Nat → Nat → Int32 → Prop) (h : hM) (x0 : Nat) (x1 : Nat) (x2 : Int32) (t0 : Option Nat) : Prop :=
  ((t0 = none → (∀ x2_53 : Int32, x2_53 = x2 + 1 → K2 h x0 x1 x2_53)) ∧ (∀ a52 : Nat, t0 = some a52 → Q (some a52) h))
def P_Rows_nextFor_2 (Q : Option Nat → hM → Prop) (K2 : hM → Nat → Nat → Int32 → Prop) (h : hM) (x0 : Nat) (x1 : Nat) (x2 : Int32) : Prop :=
  (∃ (fs54 : List Value) (r57 : Nat), rd h x1 = some (eO 3 fs54) ∧ fs54[0]? = some (.ref r57) ∧ (∃ (n58 : Nat) (f59 : Nat → Int32), rd h r57 = some (eT 0 n58 f59) ∧ (((nI n58) ≤ x2 → Q none h) ∧ (¬ (nI n58) ≤ x2 → (∃ (fs62 : List Value) (r65 : Nat), rd h x1 = some (eO 3 fs62) ∧ fs62[0]? = some (.ref r65) ∧ (∃ (n66 : Nat) (f67 : Nat → Int32), rd h r65 = some (eT 0 n66 f67) ∧ vp_in x2 n66 ∧ (∀ x3_70 : Int32, x3_70 = (f67 x2.toNatClampNeg) → ((¬ x3_70 = (-1 : Int32) → (∃ fs72 : List Value, rd h x0 = some (eO 0 fs72) ∧ P_Rows_nextOfClass (fun o75 h74 => P_Rows_nextFor_32 Q K2 h74 x0 x1 x2 o75) h x0 x3_70)) ∧ (x3_70 = (-1 : Int32) → P_Rows_nextFor_32 Q K2 h x0 x1 x2 none)))))))))
def L_Rows_nextFor_2 (Q : Option Nat → hM → Prop) : Nat → hM → Nat → Nat → Int32 → Prop
  | 0 => fun _ _ _ _ => False
  | n + 1 => P_Rows_nextFor_2 Q (L_Rows_nextFor_2 Q n)
def P_Rows_nextFor (Q : Option Nat → hM → Prop) (h : hM) (x0 : Nat) (x1 : Nat) : Prop :=
  (∃ n0 : Nat, L_Rows_nextFor_2 Q n0 h x0 x1 (0 : Int32))
def P_Rows_startJob (Q : hM → Prop) (h : hM) (x0 : Nat) (x1 : Nat) (x2 : Nat) : Prop :=
  (∃ (fs29 : List Value) (i32 : Int32), rd h x2 = some (eO 1 fs29) ∧ fs29[0]? = some (.int i32) ∧ (∃ fs33 : List Value, rd h x1 = some (eO 3 fs33) ∧ 2 < fs33.length ∧ ∀ h36 : hM, h36 = h_up h x1 (eO 3 (fs33.set 2 (.int i32))) → (∃ fs37 : List Value, rd h36 x2 = some (eO 1 fs37) ∧ 8 < fs37.length ∧ ∀ h40 : hM, h40 = h_up h36 x2 (eO 1 (fs37.set 8 (.int (2 : Int32)))) → (∃ (fs41 : List Value) (j44 : Int64), rd h40 x0 = some (eO 0 fs41) ∧ fs41[9]? = some (.long j44) ∧ (∃ fs45 : List Value, rd h40 x2 = some (eO 1 fs45) ∧ 9 < fs45.length ∧ ∀ h48 : hM, h48 = h_up h40 x2 (eO 1 (fs45.set 9 (.long j44))) → (∃ (fs49 : List Value) (r52 : Nat), rd h48 x0 = some (eO 0 fs49) ∧ fs49[7]? = some (.ref r52) ∧ (∃ fs53 : List Value, rd h48 r52 = some (eO 2 fs53) ∧ P_Load_take (fun h55 => Q h55) h48 r52 x2)))))))
def P_Rows_next (Q : Int32 → hM → Prop) (h : hM) (x0 : Nat) (x1 : Int32) (x2 : Int64) : Prop :=
  (∃ fs40 : List Value, rd h x0 = some (eO 0 fs40) ∧ P_Rows_findInitiator (fun o43 h42 => ((o43 = none → Q (-2 : Int32) h42) ∧ (∀ a45 : Nat, o43 = some a45 → (∃ (fs46 : List Value) (j49 : Int64), rd h42 x0 = some (eO 0 fs46) ∧ fs46[9]? = some (.long j49) ∧ ((j49 ≤ x2 → (∃ (fs51 : List Value) (i54 : Int32), rd h42 a45 = some (eO 3 fs51) ∧ fs51[1]? = some (.int i54) ∧ ((¬ i54 = 0 → Q (-5 : Int32) h42) ∧ (i54 = 0 → (∃ (fs56 : List Value) (i59 : Int32), rd h42 a45 = some (eO 3 fs56) ∧ fs56[2]? = some (.int i59) ∧ ((i59 = 0 → (∃ fs61 : List Value, rd h42 x0 = some (eO 0 fs61) ∧ 9 < fs61.length ∧ ∀ h64 : hM, h64 = h_up h42 x0 (eO 0 (fs61.set 9 (.long x2))) → (∃ fs65 : List Value, rd h64 x0 = some (eO 0 fs65) ∧ P_Rows_nextFor (fun o68 h67 => ((o68 = none → Q (0 : Int32) h67) ∧ (∀ a70 : Nat, o68 = some a70 → (∃ fs71 : List Value, rd h67 x0 = some (eO 0 fs71) ∧ P_Rows_startJob (fun h73 => (∃ (fs75 : List Value) (i78 : Int32), rd h73 a70 = some (eO 1 fs75) ∧ fs75[0]? = some (.int i78) ∧ Q i78 h73)) h67 x0 a45 a70)))) h64 x0 a45))) ∧ (¬ i59 = 0 → Q (-5 : Int32) h42))))))) ∧ (¬ j49 ≤ x2 → Q (-4 : Int32) h42)))))) h x0 x1)
def P_Rows_stopJob_41 (Q : hM → Prop) (K2 : hM → Nat → Nat → Int32 → Prop) (h : hM) (x0 : Nat) (x1 : Nat) (x2 : Int32) : Prop :=
  (∀ x2_117 : Int32, x2_117 = x2 + 1 → K2 h x0 x1 x2_117)
def P_Rows_stopJob_2 (Q : hM → Prop) (K2 : hM → Nat → Nat → Int32 → Prop) (h : hM) (x0 : Nat) (x1 : Nat) (x2 : Int32) : Prop :=
  (∃ (fs118 : List Value) (r121 : Nat), rd h x0 = some (eO 0 fs118) ∧ fs118[0]? = some (.ref r121) ∧ (∃ fs122 : List Value, rd h r121 = some (eO 5 fs122) ∧ P_AL_size (fun i125 h124 => ((i125 ≤ x2 → (∃ fs127 : List Value, rd h124 x1 = some (eO 1 fs127) ∧ 8 < fs127.length ∧ ∀ h130 : hM, h130 = h_up h124 x1 (eO 1 (fs127.set 8 (.int (3 : Int32)))) → (∃ (fs131 : List Value) (r134 : Nat), rd h130 x0 = some (eO 0 fs131) ∧ fs131[8]? = some (.ref r134) ∧ (∃ (fs135 : List Value) (i138 : Int32), rd h130 x1 = some (eO 1 fs135) ∧ fs135[0]? = some (.int i138) ∧ (∃ fs139 : List Value, rd h130 r134 = some (eO 4 fs139) ∧ P_NS_put (fun h141 => (∃ (fs143 : List Value) (r146 : Nat), rd h141 x0 = some (eO 0 fs143) ∧ fs143[7]? = some (.ref r146) ∧ (∃ fs147 : List Value, rd h141 r146 = some (eO 2 fs147) ∧ P_Load_release (fun h149 => Q h149) h141 r146 x1))) h130 r134 i138))))) ∧ (¬ i125 ≤ x2 → (∃ (fs151 : List Value) (r154 : Nat), rd h124 x0 = some (eO 0 fs151) ∧ fs151[0]? = some (.ref r154) ∧ (∃ fs155 : List Value, rd h124 r154 = some (eO 5 fs155) ∧ P_AL_get (fun o158 h157 => ((o158 = none → False) ∧ (∀ a159 : Nat, o158 = some a159 → ((∃ fs160 : List Value, rd h157 a159 = some (eO 3 fs160)) ∧ (∃ (fs162 : List Value) (i165 : Int32), rd h157 a159 = some (eO 3 fs162) ∧ fs162[2]? = some (.int i165) ∧ (∃ (fs166 : List Value) (i169 : Int32), rd h157 x1 = some (eO 1 fs166) ∧ fs166[0]? = some (.int i169) ∧ ((¬ i165 = i169 → P_Rows_stopJob_41 Q K2 h157 x0 x1 x2) ∧ (i165 = i169 → (∃ fs171 : List Value, rd h157 a159 = some (eO 3 fs171) ∧ 2 < fs171.length ∧ ∀ h174 : hM, h174 = h_up h157 a159 (eO 3 (fs171.set 2 (.int (0 : Int32)))) → P_Rows_stopJob_41 Q K2 h174 x0 x1 x2))))))))) h124 r154 x2))))) h r121))
def L_Rows_stopJob_2 (Q : hM → Prop) : Nat → hM → Nat → Nat → Int32 → Prop
  | 0 => fun _ _ _ _ => False
  | n + 1 => P_Rows_stopJob_2 Q (L_Rows_stopJob_2 Q n)
def P_Rows_stopJob (Q : hM → Prop) (h : hM) (x0 : Nat) (x1 : Nat) : Prop :=
  (∃ n0 : Nat, L_Rows_stopJob_2 Q n0 h x0 x1 (0 : Int32))
def P_Rows_end (Q : Int32 → hM → Prop) (h : hM) (x0 : Nat) (x1 : Int32) : Prop :=
  (∃ fs16 : List Value, rd h x0 = some (eO 0 fs16) ∧ P_Rows_findJob (fun o19 h18 => ((o19 = none → Q (-2 : Int32) h18) ∧ (∀ a21 : Nat, o19 = some a21 → (∃ (fs22 : List Value) (i25 : Int32), rd h18 a21 = some (eO 1 fs22) ∧ fs22[8]? = some (.int i25) ∧ ((i25 = (2 : Int32) → (∃ fs27 : List Value, rd h18 x0 = some (eO 0 fs27) ∧ P_Rows_stopJob (fun h29 => Q (1 : Int32) h29) h18 x0 a21)) ∧ (¬ i25 = (2 : Int32) → Q (-5 : Int32) h18)))))) h x0 x1)
def P_Rows_age (Q : Int32 → hM → Prop) (h : hM) (x0 : Nat) (x1 : Int64) (x3 : Int32) : Prop :=
  ((x1 < (0 : Int64) → Q (-4 : Int32) h) ∧ (¬ x1 < (0 : Int64) → (P_Rows_isIn (fun i15 h14 => ((¬ i15 = 0 → (∃ fs17 : List Value, rd h14 x0 = some (eO 0 fs17) ∧ 10 < fs17.length ∧ ∀ h20 : hM, h20 = h_up h14 x0 (eO 0 (fs17.set 10 (.long x1))) → (∃ fs21 : List Value, rd h20 x0 = some (eO 0 fs21) ∧ 11 < fs21.length ∧ ∀ h24 : hM, h24 = h_up h20 x0 (eO 0 (fs21.set 11 (.int x3))) → Q (1 : Int32) h24))) ∧ (i15 = 0 → Q (-4 : Int32) h14))) h x3 (0 : Int32) (15 : Int32))))
def P_Rows_drain (Q : Int32 → hM → Prop) (h : hM) (x0 : Nat) (x1 : Int32) (x2 : Int32) : Prop :=
  (∃ fs16 : List Value, rd h x0 = some (eO 0 fs16) ∧ P_Rows_findInitiator (fun o19 h18 => ((o19 = none → Q (-2 : Int32) h18) ∧ (∀ a21 : Nat, o19 = some a21 → (∃ (fs22 : List Value) (i25 : Int32), rd h18 a21 = some (eO 3 fs22) ∧ fs22[1]? = some (.int i25) ∧ ((¬ i25 = x2 → ((x2 = 0 ∨ x2 = 1) ∧ ∃ fs27 : List Value, rd h18 a21 = some (eO 3 fs27) ∧ 1 < fs27.length ∧ ∀ h30 : hM, h30 = h_up h18 a21 (eO 3 (fs27.set 1 (.int x2))) → Q (1 : Int32) h30)) ∧ (i25 = x2 → Q (0 : Int32) h18)))))) h x0 x1)
def P_Rows_weight (Q : Int32 → hM → Prop) (h : hM) (x0 : Nat) (x1 : Int32) (x2 : Int32) : Prop :=
  (P_Rows_isClass (fun i17 h16 => ((i17 = 0 → Q (-4 : Int32) h16) ∧ (¬ i17 = 0 → (P_Rows_isIn (fun i20 h19 => ((¬ i20 = 0 → (∃ (fs22 : List Value) (r25 : Nat), rd h19 x0 = some (eO 0 fs22) ∧ fs22[5]? = some (.ref r25) ∧ (∃ (n26 : Nat) (f27 : Nat → Int32), rd h19 r25 = some (eT 0 n26 f27) ∧ vp_in x1 n26 ∧ ∀ h30 : hM, h30 = h_up h19 r25 (eT 0 n26 (upd f27 x1.toNatClampNeg x2)) → Q (1 : Int32) h30))) ∧ (i20 = 0 → Q (-4 : Int32) h19))) h16 x2 (0 : Int32) (1000 : Int32))))) h x1)
def P_Rows_order_75 (Q : Int32 → hM → Prop) (K18 : hM → Nat → Int32 → Int32 → Int32 → Prop) (h : hM) (x0 : Nat) (x2 : Int32) (x3 : Int32) (x4 : Int32) : Prop :=
  (∀ x4_81 : Int32, x4_81 = x4 + 1 → K18 h x0 x2 x3 x4_81)
def P_Rows_order_18 (Q : Int32 → hM → Prop) (K11 : hM → Nat → Int32 → Int32 → Prop) (K18 : hM → Nat → Int32 → Int32 → Int32 → Prop) (h : hM) (x0 : Nat) (x2 : Int32) (x3 : Int32) (x4 : Int32) : Prop :=
  (∃ (fs82 : List Value) (r85 : Nat), rd h x0 = some (eO 0 fs82) ∧ fs82[1]? = some (.ref r85) ∧ (∃ fs86 : List Value, rd h r85 = some (eO 5 fs86) ∧ P_AL_size (fun i89 h88 => ((i89 ≤ x4 → (∀ x3_91 : Int32, x3_91 = x3 + (-1) → K11 h88 x0 x2 x3_91)) ∧ (¬ i89 ≤ x4 → (∃ (fs92 : List Value) (r95 : Nat), rd h88 x0 = some (eO 0 fs92) ∧ fs92[1]? = some (.ref r95) ∧ (∃ fs96 : List Value, rd h88 r95 = some (eO 5 fs96) ∧ P_AL_get (fun o99 h98 => ((o99 = none → False) ∧ (∀ a100 : Nat, o99 = some a100 → ((∃ fs101 : List Value, rd h98 a100 = some (eO 1 fs101)) ∧ (∃ (fs103 : List Value) (i106 : Int32), rd h98 a100 = some (eO 1 fs103) ∧ fs103[8]? = some (.int i106) ∧ ((¬ i106 = 0 → P_Rows_order_75 Q K18 h98 x0 x2 x3 x4) ∧ (i106 = 0 → (∃ fs108 : List Value, rd h98 x0 = some (eO 0 fs108) ∧ P_Rows_priorityNow (fun i111 h110 => ((¬ i111 = x3 → P_Rows_order_75 Q K18 h110 x0 x2 x3 x4) ∧ (i111 = x3 → ((¬ x2 = 0 → (∀ x2_114 : Int32, x2_114 = x2 + (-1) → P_Rows_order_75 Q K18 h110 x0 x2_114 x3 x4)) ∧ (x2 = 0 → (∃ (fs115 : List Value) (i118 : Int32), rd h110 a100 = some (eO 1 fs115) ∧ fs115[0]? = some (.int i118) ∧ Q i118 h110)))))) h98 x0 a100)))))))) h88 r95 x4))))) h r85))
def L_Rows_order_18 (Q : Int32 → hM → Prop) (K11 : hM → Nat → Int32 → Int32 → Prop) : Nat → hM → Nat → Int32 → Int32 → Int32 → Prop
  | 0 => fun _ _ _ _ _ => False
  | n + 1 => P_Rows_order_18 Q K11 (L_Rows_order_18 Q K11 n)
def P_Rows_order_11 (Q : Int32 → hM → Prop) (K11 : hM → Nat → Int32 → Int32 → Prop) (h : hM) (x0 : Nat) (x2 : Int32) (x3 : Int32) : Prop :=
  ((x3 < 0 → Q (-1 : Int32) h) ∧ (¬ x3 < 0 → (∃ n0 : Nat, L_Rows_order_18 Q K11 n0 h x0 x2 x3 (0 : Int32))))
def L_Rows_order_11 (Q : Int32 → hM → Prop) : Nat → hM → Nat → Int32 → Int32 → Prop
  | 0 => fun _ _ _ _ => False
  | n + 1 => P_Rows_order_11 Q (L_Rows_order_11 Q n)
def P_Rows_order (Q : Int32 → hM → Prop) (h : hM) (x0 : Nat) (x1 : Int32) : Prop :=
  ((0 ≤ x1 → (∃ n0 : Nat, L_Rows_order_11 Q n0 h x0 x1 (15 : Int32))) ∧ (¬ 0 ≤ x1 → Q (-1 : Int32) h))
def P_Rows_waited (Q : Int64 → hM → Prop) (h : hM) (x0 : Nat) (x1 : Int32) : Prop :=
  (∃ fs28 : List Value, rd h x0 = some (eO 0 fs28) ∧ P_Rows_findJob (fun o31 h30 => ((o31 = none → Q (-1 : Int64) h30) ∧ (∀ a33 : Nat, o31 = some a33 → (∃ fs34 : List Value, rd h30 a33 = some (eO 1 fs34) ∧ P_Job_isWaiting (fun i37 h36 => ((i37 = 0 → (∃ (fs39 : List Value) (j42 : Int64), rd h36 a33 = some (eO 1 fs39) ∧ fs39[9]? = some (.long j42) ∧ (∃ (fs43 : List Value) (j46 : Int64), rd h36 a33 = some (eO 1 fs43) ∧ fs43[4]? = some (.long j46) ∧ Q (j42 - j46) h36))) ∧ (¬ i37 = 0 → (∃ (fs47 : List Value) (j50 : Int64), rd h36 x0 = some (eO 0 fs47) ∧ fs47[9]? = some (.long j50) ∧ (∃ (fs51 : List Value) (j54 : Int64), rd h36 a33 = some (eO 1 fs51) ∧ fs51[4]? = some (.long j54) ∧ Q (j50 - j54) h36))))) h30 a33)))) h x0 x1)
def P_Rows_state (Q : Int32 → hM → Prop) (h : hM) (x0 : Nat) (x1 : Int32) : Prop :=
  (∃ fs11 : List Value, rd h x0 = some (eO 0 fs11) ∧ P_Rows_findJob (fun o14 h13 => ((o14 = none → Q (-1 : Int32) h13) ∧ (∀ a16 : Nat, o14 = some a16 → (∃ (fs17 : List Value) (i20 : Int32), rd h13 a16 = some (eO 1 fs17) ∧ fs17[8]? = some (.int i20) ∧ Q i20 h13)))) h x0 x1)
def P_Rows_jobsIn_36 (Q : Int32 → hM → Prop) (K4 : hM → Nat → Int32 → Int32 → Int32 → Prop) (h : hM) (x0 : Nat) (x1 : Int32) (x2 : Int32) (x3 : Int32) : Prop :=
  (∀ x3_55 : Int32, x3_55 = x3 + 1 → K4 h x0 x1 x2 x3_55)
def P_Rows_jobsIn_4 (Q : Int32 → hM → Prop) (K4 : hM → Nat → Int32 → Int32 → Int32 → Prop) (h : hM) (x0 : Nat) (x1 : Int32) (x2 : Int32) (x3 : Int32) : Prop :=
  (∃ (fs56 : List Value) (r59 : Nat), rd h x0 = some (eO 0 fs56) ∧ fs56[1]? = some (.ref r59) ∧ (∃ fs60 : List Value, rd h r59 = some (eO 5 fs60) ∧ P_AL_size (fun i63 h62 => ((i63 ≤ x3 → Q x2 h62) ∧ (¬ i63 ≤ x3 → (∃ (fs65 : List Value) (r68 : Nat), rd h62 x0 = some (eO 0 fs65) ∧ fs65[1]? = some (.ref r68) ∧ (∃ fs69 : List Value, rd h62 r68 = some (eO 5 fs69) ∧ P_AL_get (fun o72 h71 => ((o72 = none → False) ∧ (∀ a73 : Nat, o72 = some a73 → ((∃ fs74 : List Value, rd h71 a73 = some (eO 1 fs74)) ∧ (∃ (fs76 : List Value) (i79 : Int32), rd h71 a73 = some (eO 1 fs76) ∧ fs76[8]? = some (.int i79) ∧ ((¬ i79 = x1 → P_Rows_jobsIn_36 Q K4 h71 x0 x1 x2 x3) ∧ (i79 = x1 → (∀ x2_81 : Int32, x2_81 = x2 + 1 → P_Rows_jobsIn_36 Q K4 h71 x0 x1 x2_81 x3)))))))) h62 r68 x3))))) h r59))
def L_Rows_jobsIn_4 (Q : Int32 → hM → Prop) : Nat → hM → Nat → Int32 → Int32 → Int32 → Prop
  | 0 => fun _ _ _ _ _ => False
  | n + 1 => P_Rows_jobsIn_4 Q (L_Rows_jobsIn_4 Q n)
def P_Rows_jobsIn (Q : Int32 → hM → Prop) (h : hM) (x0 : Nat) (x1 : Int32) : Prop :=
  (∃ n0 : Nat, L_Rows_jobsIn_4 Q n0 h x0 x1 (0 : Int32) (0 : Int32))
def P_Rows_drainedAndIdle_44 (Q : Int32 → hM → Prop) (K4 : hM → Nat → Int32 → Int32 → Prop) (h : hM) (x0 : Nat) (x1 : Int32) (x2 : Int32) : Prop :=
  (∀ x2_65 : Int32, x2_65 = x2 + 1 → K4 h x0 x1 x2_65)
def P_Rows_drainedAndIdle_4 (Q : Int32 → hM → Prop) (K4 : hM → Nat → Int32 → Int32 → Prop) (h : hM) (x0 : Nat) (x1 : Int32) (x2 : Int32) : Prop :=
  (∃ (fs66 : List Value) (r69 : Nat), rd h x0 = some (eO 0 fs66) ∧ fs66[0]? = some (.ref r69) ∧ (∃ fs70 : List Value, rd h r69 = some (eO 5 fs70) ∧ P_AL_size (fun i73 h72 => ((i73 ≤ x2 → Q x1 h72) ∧ (¬ i73 ≤ x2 → (∃ (fs75 : List Value) (r78 : Nat), rd h72 x0 = some (eO 0 fs75) ∧ fs75[0]? = some (.ref r78) ∧ (∃ fs79 : List Value, rd h72 r78 = some (eO 5 fs79) ∧ P_AL_get (fun o82 h81 => ((o82 = none → False) ∧ (∀ a83 : Nat, o82 = some a83 → ((∃ fs84 : List Value, rd h81 a83 = some (eO 3 fs84)) ∧ (∃ (fs86 : List Value) (i89 : Int32), rd h81 a83 = some (eO 3 fs86) ∧ fs86[1]? = some (.int i89) ∧ ((i89 = 0 → P_Rows_drainedAndIdle_44 Q K4 h81 x0 x1 x2) ∧ (¬ i89 = 0 → (∃ (fs91 : List Value) (i94 : Int32), rd h81 a83 = some (eO 3 fs91) ∧ fs91[2]? = some (.int i94) ∧ ((¬ i94 = 0 → P_Rows_drainedAndIdle_44 Q K4 h81 x0 x1 x2) ∧ (i94 = 0 → (∀ x1_96 : Int32, x1_96 = x1 + 1 → P_Rows_drainedAndIdle_44 Q K4 h81 x0 x1_96 x2))))))))))) h72 r78 x2))))) h r69))
def L_Rows_drainedAndIdle_4 (Q : Int32 → hM → Prop) : Nat → hM → Nat → Int32 → Int32 → Prop
  | 0 => fun _ _ _ _ => False
  | n + 1 => P_Rows_drainedAndIdle_4 Q (L_Rows_drainedAndIdle_4 Q n)
def P_Rows_drainedAndIdle (Q : Int32 → hM → Prop) (h : hM) (x0 : Nat) : Prop :=
  (∃ n0 : Nat, L_Rows_drainedAndIdle_4 Q n0 h x0 (0 : Int32) (0 : Int32))
def P_Rows_unitsInUse (Q : Int32 → hM → Prop) (h : hM) (x0 : Nat) (x1 : Int32) : Prop :=
  (P_Rows_isIn (fun i17 h16 => ((¬ i17 = 0 → (∃ (fs19 : List Value) (r22 : Nat), rd h16 x0 = some (eO 0 fs19) ∧ fs19[7]? = some (.ref r22) ∧ (∃ (fs23 : List Value) (r26 : Nat), rd h16 r22 = some (eO 2 fs23) ∧ fs23[1]? = some (.ref r26) ∧ (∃ (n27 : Nat) (f28 : Nat → Int32), rd h16 r26 = some (eT 0 n27 f28) ∧ vp_in (x1 - (10 : Int32)) n27 ∧ Q (f28 (x1 - (10 : Int32)).toNatClampNeg) h16)))) ∧ (i17 = 0 → Q (-1 : Int32) h16))) h x1 (10 : Int32) (13 : Int32))
def P_Rows_count (Q : Int32 → hM → Prop) (h : hM) (x0 : Nat) (x1 : Int32) : Prop :=
  ((x1 = 0 → (∃ (fs51 : List Value) (r54 : Nat), rd h x0 = some (eO 0 fs51) ∧ fs51[0]? = some (.ref r54) ∧ (∃ fs55 : List Value, rd h r54 = some (eO 5 fs55) ∧ P_AL_size (fun i58 h57 => Q i58 h57) h r54))) ∧ (x1 = 1 → (∃ (fs60 : List Value) (r63 : Nat), rd h x0 = some (eO 0 fs60) ∧ fs60[1]? = some (.ref r63) ∧ (∃ fs64 : List Value, rd h r63 = some (eO 5 fs64) ∧ P_AL_size (fun i67 h66 => Q i67 h66) h r63))) ∧ (x1 = 2 → (∃ fs69 : List Value, rd h x0 = some (eO 0 fs69) ∧ P_Rows_jobsIn (fun i72 h71 => (∃ fs73 : List Value, rd h71 x0 = some (eO 0 fs73) ∧ P_Rows_jobsIn (fun i76 h75 => Q (i72 + i76) h75) h71 x0 (1 : Int32))) h x0 (0 : Int32))) ∧ (x1 = 3 → (∃ fs78 : List Value, rd h x0 = some (eO 0 fs78) ∧ P_Rows_jobsIn (fun i81 h80 => Q i81 h80) h x0 (1 : Int32))) ∧ (x1 = 4 → (∃ (fs83 : List Value) (r86 : Nat), rd h x0 = some (eO 0 fs83) ∧ fs83[7]? = some (.ref r86) ∧ (∃ (fs87 : List Value) (i90 : Int32), rd h r86 = some (eO 2 fs87) ∧ fs87[3]? = some (.int i90) ∧ Q i90 h))) ∧ (x1 = 5 → (∃ fs92 : List Value, rd h x0 = some (eO 0 fs92) ∧ P_Rows_drainedAndIdle (fun i95 h94 => Q i95 h94) h x0)) ∧ (¬ x1 = 0 ∧ ¬ x1 = 1 ∧ ¬ x1 = 2 ∧ ¬ x1 = 3 ∧ ¬ x1 = 4 ∧ ¬ x1 = 5 → (∃ fs97 : List Value, rd h x0 = some (eO 0 fs97) ∧ P_Rows_unitsInUse (fun i100 h99 => Q i100 h99) h x0 x1)))
def P_Rows_sumOfWeights_4 (Q : Int64 → hM → Prop) (K4 : hM → Nat → Int64 → Int32 → Prop) (h : hM) (x0 : Nat) (x1 : Int64) (x3 : Int32) : Prop :=
  (∃ (fs37 : List Value) (r40 : Nat), rd h x0 = some (eO 0 fs37) ∧ fs37[5]? = some (.ref r40) ∧ (∃ (n41 : Nat) (f42 : Nat → Int32), rd h r40 = some (eT 0 n41 f42) ∧ (((nI n41) ≤ x3 → Q x1 h) ∧ (¬ (nI n41) ≤ x3 → (∃ (fs45 : List Value) (r48 : Nat), rd h x0 = some (eO 0 fs45) ∧ fs45[5]? = some (.ref r48) ∧ (∃ (n49 : Nat) (f50 : Nat → Int32), rd h r48 = some (eT 0 n49 f50) ∧ vp_in x3 n49 ∧ (∀ x1_53 : Int64, x1_53 = (x1 + ((f50 x3.toNatClampNeg).toInt64)) → (∀ x3_54 : Int32, x3_54 = x3 + 1 → K4 h x0 x1_53 x3_54))))))))
def L_Rows_sumOfWeights_4 (Q : Int64 → hM → Prop) : Nat → hM → Nat → Int64 → Int32 → Prop
  | 0 => fun _ _ _ _ => False
  | n + 1 => P_Rows_sumOfWeights_4 Q (L_Rows_sumOfWeights_4 Q n)
def P_Rows_sumOfWeights (Q : Int64 → hM → Prop) (h : hM) (x0 : Nat) : Prop :=
  (∃ n0 : Nat, L_Rows_sumOfWeights_4 Q n0 h x0 (0 : Int64) (0 : Int32))
end
section
set_option maxHeartbeats 4000000 in
set_option maxRecDepth 100000 in
theorem S_AbC_init {l : Launch} {κ : hX} (Q : hM → Prop) (h : hM) (x0 : Nat) (hw : P_AbC_init Q h x0) : Met l y_AbC_init [Cond.code y_AbC_init b_AbC_init 1 none] rm_AbC_init (hPc κ w_cl w_tl w_tb [.ref x0] h) (hQ κ w_cl (qV Q)) 0 0 (h_A κ) := by
  refine h_enter w_TBm (by decide) (Nat.le_of_ble_eq_true rfl) ?_
  intro p e s m args below meth c C0 hnm hh hS ls hl
  obtain ⟨hx, hb, hml, hown, hts, hK, hF0, hrt, hlocks⟩ := id C0
  have hl : lv_has ls 1 [(0, .ref x0)] := hl
  refine lv_aload_n hx hb d_AbC_init_0 rfl (lv_at hl 0 rfl) ?_
  refine W.objInit hx hb hown (hts _ k_m_AbC_1) (hts _ k_oi_inst) (hts _ k_oi_code) rfl (by rw [hml]; exact hl.1) rfl d_AbC_init_1 (Nat.le_of_ble_eq_true rfl) (Nat.le_of_ble_eq_true rfl) ?_
  refine W.eq (g2 := F0 m 4 ls []) rfl ?_
  exact h_vret C0 hh hS rfl ⟨rfl, hw⟩ d_AbC_init_4
set_option maxHeartbeats 4000000 in
set_option maxRecDepth 100000 in
theorem S_AbL_init {l : Launch} {κ : hX} (Q : hM → Prop) (h : hM) (x0 : Nat) (hw : P_AbL_init Q h x0) : Met l y_AbL_init [Cond.code y_AbL_init b_AbL_init 1 none] rm_AbL_init (hPc κ w_cl w_tl w_tb [.ref x0] h) (hQ κ w_cl (qV Q)) 0 0 (h_A κ) := by
  refine h_enter w_TBm (by decide) (Nat.le_of_ble_eq_true rfl) ?_
  intro p e s m args below meth c C0 hnm hh hS ls hl
  obtain ⟨hx, hb, hml, hown, hts, hK, hF0, hrt, hlocks⟩ := id C0
  have hl : lv_has ls 1 [(0, .ref x0)] := hl
  refine lv_aload_n hx hb d_AbL_init_0 rfl (lv_at hl 0 rfl) ?_
  refine h_callI (n := 0) C0 w_TBm hh hS hl.1 [] [] (S_AbC_init _ _ _ hw) k_m_AbL_1 k_inst_AbC_init rfl k_ini_AbC k_code_AbC_init (by decide +kernel) rfl rfl (Nat.le_of_ble_eq_true rfl) ⟨(Nat.le_of_ble_eq_true rfl), (Nat.le_of_ble_eq_true rfl)⟩ ⟨(Nat.le_of_ble_eq_true rfl), (Nat.le_of_ble_eq_true rfl)⟩ d_AbL_init_1 (h_kV (k := 0) (n := 0) (Nat.le_of_ble_eq_true rfl) (Nat.le_of_ble_eq_true rfl) (fun h7 H locs hw hh hS => ?_))
  refine lv_aload_n hx hb d_AbL_init_4 rfl (lv_at hl 0 rfl) ?_
  refine lv_iconst (v := 0) hx hb d_AbL_init_5 (by decide) ?_
  obtain ⟨fs9, hr10, hk11, hw⟩ := hw
  refine h_put C0 hh hS (v := .int (0 : Int32)) hr10 hk11 rfl i_AL t_AL t_AL_ok n_AL (by decide) k_f_AbL_7 (fun _ h9 => h9) rfl rfl rfl rfl d_AbL_init_6 (fun H locs hh hS => ?_)
  obtain ⟨h12, eh12⟩ : ∃ z : hM, z = h_up h7 x0 (eO 5 (fs9.set 0 (.int (0 : Int32)))) := ⟨_, rfl⟩
  rw [← eh12] at hh
  have hw := hw h12 eh12
  exact h_vret C0 hh hS rfl ⟨rfl, hw⟩ d_AbL_init_9
set_option maxHeartbeats 4000000 in
set_option maxRecDepth 100000 in
theorem S_AL_init_v {l : Launch} {κ : hX} (Q : hM → Prop) (h : hM) (x0 : Nat) (hw : P_AL_init_v Q h x0) : Met l y_AL_init_v [Cond.code y_AL_init_v b_AL_init_v 1 none] rm_AL_init_v (hPc κ w_cl w_tl w_tb [.ref x0] h) (hQ κ w_cl (qV Q)) 0 0 (h_A κ) := by
  refine h_enter w_TBm (by decide) (Nat.le_of_ble_eq_true rfl) ?_
  intro p e s m args below meth c C0 hnm hh hS ls hl
  obtain ⟨hx, hb, hml, hown, hts, hK, hF0, hrt, hlocks⟩ := id C0
  have hl : lv_has ls 1 [(0, .ref x0)] := hl
  refine lv_aload_n hx hb d_AL_init_v_0 rfl (lv_at hl 0 rfl) ?_
  refine h_callI (n := 0) C0 w_TBm hh hS hl.1 [] [] (S_AbL_init _ _ _ hw) k_m_AL_1 k_inst_AbL_init rfl k_ini_AbL k_code_AbL_init (by decide +kernel) rfl rfl (Nat.le_of_ble_eq_true rfl) ⟨(Nat.le_of_ble_eq_true rfl), (Nat.le_of_ble_eq_true rfl)⟩ ⟨(Nat.le_of_ble_eq_true rfl), (Nat.le_of_ble_eq_true rfl)⟩ d_AL_init_v_1 (h_kV (k := 0) (n := 0) (Nat.le_of_ble_eq_true rfl) (Nat.le_of_ble_eq_true rfl) (fun h7 H locs hw hh hS => ?_))
  refine lv_aload_n hx hb d_AL_init_v_4 rfl (lv_at hl 0 rfl) ?_
  refine h_gets C0 hh hS k_f_AL_39 d_AL_init_v_5 ?_
  obtain ⟨fs9, hr10, hk11, hw⟩ := hw
  refine h_put C0 hh hS (v := .ref h7.1) hr10 hk11 rfl i_AL t_AL t_AL_ok n_AL (by decide) k_f_AL_9 (fun _ h9 => h9) rfl rfl rfl rfl d_AL_init_v_8 (fun H locs hh hS => ?_)
  obtain ⟨h12, eh12⟩ : ∃ z : hM, z = h_up h7 x0 (eO 5 (fs9.set 1 (.ref h7.1))) := ⟨_, rfl⟩
  rw [← eh12] at hh
  have hw := hw h12 eh12
  exact h_vret C0 hh hS rfl ⟨rfl, hw⟩ d_AL_init_v_11
set_option maxHeartbeats 4000000 in
set_option maxRecDepth 100000 in
theorem S_AL_size {l : Launch} {κ : hX} (Q : Int32 → hM → Prop) (h : hM) (x0 : Nat) (hw : P_AL_size Q h x0) : Met l y_AL_size [Cond.code y_AL_size b_AL_size 1 (some .int)] rm_AL_size (hPc κ w_cl w_tl w_tb [.ref x0] h) (hQ κ w_cl (qI Q)) 0 0 (h_A κ) := by
  refine h_enter w_TBm (by decide) (Nat.le_of_ble_eq_true rfl) ?_
  intro p e s m args below meth c C0 hnm hh hS ls hl
  obtain ⟨hx, hb, hml, hown, hts, hK, hF0, hrt, hlocks⟩ := id C0
  have hl : lv_has ls 1 [(0, .ref x0)] := hl
  refine lv_aload_n hx hb d_AL_size_0 rfl (lv_at hl 0 rfl) ?_
  obtain ⟨fs5, i8, hr6, hk7, hw⟩ := hw
  refine h_get C0 hh hr6 hk7 rfl i_AL (by decide) k_f_AL_48 (fun _ h9 => h9) d_AL_size_1 ?_
  exact h_iret C0 hh hS rfl rfl ⟨_, rfl, hw⟩ d_AL_size_4
set_option maxHeartbeats 4000000 in
set_option maxRecDepth 100000 in
theorem S_ASup_newLength_21 {p : Program} {l : Launch} {e : Env} {s : State} {m : MethodId} {args : Array Value} {below : List Frame} {meth : Method} {c : Code} {κ : hX} {Q : Int32 → hM → Prop} (C0 : Cw κ w_cl w_tl w_tb p s m args meth c b_ASup_newLength 4 R_ASup (some .int)) : ∀ (h : hM) (x0 : Int32) (x1 : Int32) (H : Heap) (locs : List Loc) (ls : Array Slot), P_ASup_newLength_21 Q h x0 x1 → hp κ w_cl h H → va_S (h_A κ) s.heap H locs → lv_has ls 4 [(0, .int x0), (1, .int x1)] → W p l e rm_ASup_newLength s m args below meth c H locs 0 0 (MQ below (hQ κ w_cl (qI Q)) args s 0 0 (h_A κ)) (F0 m 21 ls []) := by
  obtain ⟨hx, hb, hml, hown, hts, hK, hF0, hrt, hlocks⟩ := id C0
  intro h x0 x1 H locs ls hw hh hS hl
  refine lv_iload_n hx hb d_ASup_newLength_21 rfl (lv_at hl 0 rfl) ?_
  refine lv_iload_n hx hb d_ASup_newLength_22 rfl (lv_at hl 1 rfl) ?_
  exact hw.elim
set_option maxHeartbeats 4000000 in
set_option maxRecDepth 100000 in
theorem S_ASup_newLength {l : Launch} {κ : hX} (Q : Int32 → hM → Prop) (h : hM) (x0 : Int32) (x1 : Int32) (x2 : Int32) (hw : P_ASup_newLength Q h x0 x1 x2) : Met l y_ASup_newLength [Cond.code y_ASup_newLength b_ASup_newLength 4 (some .int)] rm_ASup_newLength (hPc κ w_cl w_tl w_tb [.int x0, .int x1, .int x2] h) (hQ κ w_cl (qI Q)) 0 0 (h_A κ) := by
  refine h_enter w_TBm (by decide) (Nat.le_of_ble_eq_true rfl) ?_
  intro p e s m args below meth c C0 hnm hh hS ls hl
  obtain ⟨hx, hb, hml, hown, hts, hK, hF0, hrt, hlocks⟩ := id C0
  have hl : lv_has ls 4 [(0, .int x0), (1, .int x1), (2, .int x2)] := hl
  refine lv_iload_n hx hb d_ASup_newLength_0 rfl (lv_at hl 0 rfl) ?_
  refine lv_iload_n hx hb d_ASup_newLength_1 rfl (lv_at hl 1 rfl) ?_
  refine lv_iload_n hx hb d_ASup_newLength_2 rfl (lv_at hl 2 rfl) ?_
  refine va_mmax hx hb (hml.trans hl.1.symm) hown (hts _ k_m_ASup_194) (hts _ k_math_max_static) (hts _ k_ini_Math) (hts _ k_math_max_code) (Nat.le_of_ble_eq_true rfl) (Nat.le_of_ble_eq_true rfl) (Nat.le_of_ble_eq_true rfl) (Nat.le_of_ble_eq_true rfl) d_ASup_newLength_3 ?_
  refine lv_iadd hx hb d_ASup_newLength_6 ?_
  refine lv_topi (fun x3_7 ex3_7 => ?_)
  have hw := hw x3_7 ex3_7
  refine lv_istore_n (lv' := [(3, .int x3_7), (0, .int x0), (1, .int x1), (2, .int x2)]) hx hb d_ASup_newLength_7 rfl hl (by decide) rfl (fun ls hl => ?_)
  refine lv_iconst (v := 0) hx hb d_ASup_newLength_8 (by decide) ?_
  refine lv_iload_n hx hb d_ASup_newLength_9 rfl (lv_at hl 0 rfl) ?_
  refine lv_icmp_ge (tgt := 21) hx hb d_ASup_newLength_10 (by decide) (fun c8 => ?_) (fun c8 => ?_)
  · have hw := hw.1 c8
    exact S_ASup_newLength_21 C0 _ _ _ _ _ _ hw hh hS (lv_sub hl [1, 2] rfl)
  · have hw := hw.2 c8
    refine lv_iload_n hx hb d_ASup_newLength_13 rfl (lv_at hl 0 rfl) ?_
    refine lv_ldc (v := 2147483639) hx hb hown (hts _ k_k_ASup_200) d_ASup_newLength_14 ?_
    refine lv_icmp_gt (tgt := 21) hx hb d_ASup_newLength_16 (by decide) (fun c9 => ?_) (fun c9 => ?_)
    · have hw := hw.1 c9
      exact S_ASup_newLength_21 C0 _ _ _ _ _ _ hw hh hS (lv_sub hl [1, 2] rfl)
    · have hw := hw.2 c9
      refine lv_iload_n hx hb d_ASup_newLength_19 rfl (lv_at hl 0 rfl) ?_
      exact h_iret C0 hh hS rfl rfl ⟨_, rfl, hw⟩ d_ASup_newLength_20
set_option maxHeartbeats 4000000 in
set_option maxRecDepth 100000 in
theorem S_Arrs_copyOf_AIL_24 {p : Program} {l : Launch} {e : Env} {s : State} {m : MethodId} {args : Array Value} {below : List Frame} {meth : Method} {c : Code} {κ : hX} {Q : Option Nat → hM → Prop} (C0 : Cw κ w_cl w_tl w_tb p s m args meth c b_Arrs_copyOf_AIL 4 R_Arrs (some (.array (.object "java/lang/Object")))) : ∀ (h : hM) (x0 : Nat) (x1 : Int32) (t0 : Nat) (H : Heap) (locs : List Loc) (ls : Array Slot), P_Arrs_copyOf_AIL_24 Q h x0 x1 t0 → hp κ w_cl h H → va_S (h_A κ) s.heap H locs → lv_has ls 4 [(0, .ref x0), (1, .int x1)] → W p l e rm_Arrs_copyOf_AIL s m args below meth c H locs 1 160 (MQ below (hQ κ w_cl (qO Q)) args s 1 160 (h_A κ)) (F0 m 24 ls [.ref t0]) := by
  obtain ⟨hx, hb, hml, hown, hts, hK, hF0, hrt, hlocks⟩ := id C0
  intro h x0 x1 t0 H locs ls hw hh hS hl
  refine lv_astore_n (lv' := [(3, .ref t0), (0, .ref x0), (1, .int x1)]) hx hb d_Arrs_copyOf_AIL_24 rfl hl (by decide) rfl (fun ls hl => ?_)
  refine lv_aload_n hx hb d_Arrs_copyOf_AIL_25 rfl (lv_at hl 1 rfl) ?_
  refine lv_iconst (v := 0) hx hb d_Arrs_copyOf_AIL_26 (by decide) ?_
  refine lv_aload_n hx hb d_Arrs_copyOf_AIL_27 rfl (lv_at hl 0 rfl) ?_
  refine lv_iconst (v := 0) hx hb d_Arrs_copyOf_AIL_28 (by decide) ?_
  refine lv_aload_n hx hb d_Arrs_copyOf_AIL_29 rfl (lv_at hl 1 rfl) ?_
  obtain ⟨n27, hr29, hw⟩ := hw
  refine h_alenE C0 hh hS hr29 (rfl : w_tl[2]? = _) d_Arrs_copyOf_AIL_30 ?_
  refine lv_iload_n hx hb d_Arrs_copyOf_AIL_31 rfl (lv_at hl 2 rfl) ?_
  refine va_mmin hx hb (hml.trans hl.1.symm) hown (hts _ k_m_Arrs_304) (hts _ k_math_min_static) (hts _ k_ini_Math) (hts _ k_math_min_code) (Nat.le_of_ble_eq_true rfl) (Nat.le_of_ble_eq_true rfl) (Nat.le_of_ble_eq_true rfl) (Nat.le_of_ble_eq_true rfl) d_Arrs_copyOf_AIL_32 ?_
  obtain ⟨n30, f31, n32, f33, g1, g2, g3, g4, g5, g6, g7, ⟨ci9, g8, g9⟩, hw⟩ := hw
  obtain ⟨C9, T9, N9, hc8, hc7⟩ := w_castO g8
  refine h_copyq C0 hh hS hl.1 k_m_Arrs_150 k_copy_nat k_copy_stat k_ini_System g1 g2 rfl g3 g4 g5 g6 g7 hc8 g9 hc7 (Nat.le_of_ble_eq_true rfl) (Nat.le_of_ble_eq_true rfl) d_Arrs_copyOf_AIL_35 (fun H locs hh hS => ?_)
  obtain ⟨h35, eh35⟩ : ∃ z : hM, z = h_up h t0 (eA 2 n32 (va_cpy f31 f33 (0 : Int32).toNatClampNeg (0 : Int32).toNatClampNeg (if x1 < (nI n27) then x1 else (nI n27)).toNatClampNeg)) := ⟨_, rfl⟩
  rw [← eh35] at hh
  have hw := hw h35 eh35
  refine lv_aload_n hx hb d_Arrs_copyOf_AIL_38 rfl (lv_at hl 0 rfl) ?_
  exact h_aret (o := (some t0)) C0 hh hS rfl (Or.inr ⟨_, rfl⟩) ⟨_, rfl, hw⟩ d_Arrs_copyOf_AIL_39
set_option maxHeartbeats 4000000 in
set_option maxRecDepth 100000 in
theorem S_Arrs_copyOf_AIL {l : Launch} {κ : hX} (Q : Option Nat → hM → Prop) (h : hM) (x0 : Nat) (x1 : Int32) (x2 : Nat) (hw : P_Arrs_copyOf_AIL Q h x0 x1 x2) : Met l y_Arrs_copyOf_AIL [Cond.code y_Arrs_copyOf_AIL b_Arrs_copyOf_AIL 4 (some (.array (.object "java/lang/Object")))] rm_Arrs_copyOf_AIL (hPc κ w_cl w_tl w_tb [.ref x0, .int x1, .ref x2] h) (hQ κ w_cl (qO Q)) 1 160 (h_A κ) := by
  refine h_enter w_TBm (by decide) (Nat.le_of_ble_eq_true rfl) ?_
  intro p e s m args below meth c C0 hnm hh hS ls hl
  obtain ⟨hx, hb, hml, hown, hts, hK, hF0, hrt, hlocks⟩ := id C0
  have hl : lv_has ls 4 [(0, .ref x0), (1, .int x1), (2, .ref x2)] := hl
  refine lv_aload_n hx hb d_Arrs_copyOf_AIL_0 rfl (lv_at hl 2 rfl) ?_
  refine h_ldcM C0 hh k_c_Arrs_110 d_Arrs_copyOf_AIL_1 ?_
  refine lv_acmp_ne (rx := (some x2)) (ry := (some h.2.1)) (tgt := 13) hx hb d_Arrs_copyOf_AIL_3 (by decide) (fun c36 => ?_) (fun c36 => ?_)
  · have hw := hw.1 (fun z => c36 (congrArg some z))
    refine lv_aload_n hx hb d_Arrs_copyOf_AIL_13 rfl (lv_at hl 2 rfl) ?_
    exact hw.elim
  · have hw := hw.2 (Option.some.inj c36)
    refine lv_iload_n hx hb d_Arrs_copyOf_AIL_6 rfl (lv_at hl 1 rfl) ?_
    obtain ⟨hn9, n39, hN9, hB9, hw⟩ := hw
    refine h_newq C0 hh hS 160 (t := 2) rfl k_c_Arrs_2 k_over_Object hn9 hN9 hB9 (Nat.le_of_ble_eq_true rfl) (Nat.le_of_ble_eq_true rfl) (Nat.le_of_ble_eq_true rfl) d_Arrs_copyOf_AIL_7 (fun q37 H hqq37 hzq37 hh hS => ?_)
    obtain ⟨h38, eh38⟩ : ∃ z : hM, z = h_up h q37 (eA 2 n39 (fun _ => none)) := ⟨_, rfl⟩
    rw [← eh38] at hh
    have hw := hw q37 hqq37 h38 eh38
    refine W.widen (k := 1) (n := 160) (Nat.le_of_ble_eq_true rfl) (Nat.le_of_ble_eq_true rfl) ?_
    refine lv_goto (tgt := 24) hx hb d_Arrs_copyOf_AIL_10 (by decide) ?_
    exact S_Arrs_copyOf_AIL_24 C0 _ _ _ _ _ _ _ hw hh hS (lv_sub hl [0, 1] rfl)
set_option maxHeartbeats 4000000 in
set_option maxRecDepth 100000 in
theorem S_Arrs_copyOf_AI {l : Launch} {κ : hX} (Q : Option Nat → hM → Prop) (h : hM) (x0 : Nat) (x1 : Int32) (hw : P_Arrs_copyOf_AI Q h x0 x1) : Met l y_Arrs_copyOf_AI [Cond.code y_Arrs_copyOf_AI b_Arrs_copyOf_AI 2 (some (.array (.object "java/lang/Object")))] rm_Arrs_copyOf_AI (hPc κ w_cl w_tl w_tb [.ref x0, .int x1] h) (hQ κ w_cl (qO Q)) 1 160 (h_A κ) := by
  refine h_enter w_TBm (by decide) (Nat.le_of_ble_eq_true rfl) ?_
  intro p e s m args below meth c C0 hnm hh hS ls hl
  obtain ⟨hx, hb, hml, hown, hts, hK, hF0, hrt, hlocks⟩ := id C0
  have hl : lv_has ls 2 [(0, .ref x0), (1, .int x1)] := hl
  refine lv_aload_n hx hb d_Arrs_copyOf_AI_0 rfl (lv_at hl 0 rfl) ?_
  refine lv_iload_n hx hb d_Arrs_copyOf_AI_1 rfl (lv_at hl 1 rfl) ?_
  refine lv_aload_n hx hb d_Arrs_copyOf_AI_2 rfl (lv_at hl 0 rfl) ?_
  obtain ⟨n5, f6, g1, hw⟩ := hw
  refine h_getC C0 hh hl.1 g1 rfl k_m_Arrs_86 k_gc_decl k_gc_sel k_gc_inst k_gc_nat (Nat.le_of_ble_eq_true rfl) (Nat.le_of_ble_eq_true rfl) d_Arrs_copyOf_AI_3 ?_
  refine h_callS (n := 3) C0 w_TBm hh hS hl.1 [.ref x0, .int x1, .ref h.2.1] [] (S_Arrs_copyOf_AIL _ _ _ _ _ hw) k_m_Arrs_300 k_stat_Arrs_copyOf_AIL k_ini_Arrs k_code_Arrs_copyOf_AIL (by decide +kernel) rfl rfl (Nat.le_of_ble_eq_true rfl) ⟨(Nat.le_of_ble_eq_true rfl), (Nat.le_of_ble_eq_true rfl)⟩ ⟨(Nat.le_of_ble_eq_true rfl), (Nat.le_of_ble_eq_true rfl)⟩ d_Arrs_copyOf_AI_6 (h_kO (k := 1) (n := 160) (Nat.le_of_ble_eq_true rfl) (Nat.le_of_ble_eq_true rfl) (fun o8 h7 H locs hw hh hS => ?_))
  exact h_aret (o := o8) C0 hh hS rfl (Or.inr ⟨_, rfl⟩) ⟨_, rfl, hw⟩ d_Arrs_copyOf_AI_9
set_option maxHeartbeats 4000000 in
set_option maxRecDepth 100000 in
theorem S_AL_grow_I_20 {p : Program} {l : Launch} {e : Env} {s : State} {m : MethodId} {args : Array Value} {below : List Frame} {meth : Method} {c : Code} {κ : hX} {Q : Option Nat → hM → Prop} (C0 : Cw κ w_cl w_tl w_tb p s m args meth c b_AL_grow_I 4 R_AL (some (.array (.object "java/lang/Object")))) : ∀ (h : hM) (x0 : Nat) (x1 : Int32) (x2 : Int32) (H : Heap) (locs : List Loc) (ls : Array Slot), P_AL_grow_I_20 Q h x0 x1 x2 → hp κ w_cl h H → va_S (h_A κ) s.heap H locs → lv_has ls 4 [(0, .ref x0), (1, .int x1), (2, .int x2)] → W p l e rm_AL_grow_I s m args below meth c H locs 0 0 (MQ below (hQ κ w_cl (qO Q)) args s 1 160 (h_A κ)) (F0 m 20 ls []) := by
  obtain ⟨hx, hb, hml, hown, hts, hK, hF0, hrt, hlocks⟩ := id C0
  intro h x0 x1 x2 H locs ls hw hh hS hl
  refine lv_iload_n hx hb d_AL_grow_I_20 rfl (lv_at hl 2 rfl) ?_
  refine lv_iload_n hx hb d_AL_grow_I_21 rfl (lv_at hl 1 rfl) ?_
  refine lv_iload_n hx hb d_AL_grow_I_22 rfl (lv_at hl 2 rfl) ?_
  refine lv_isub hx hb d_AL_grow_I_23 ?_
  refine lv_iload_n hx hb d_AL_grow_I_24 rfl (lv_at hl 2 rfl) ?_
  refine lv_iconst (v := 1) hx hb d_AL_grow_I_25 (by decide) ?_
  refine lv_ishr hx hb d_AL_grow_I_26 ?_
  refine h_callS (n := 3) C0 w_TBm hh hS hl.1 [.int x2, .int (x1 - x2), .int (x2 >>> ((1 : Int32) &&& 31))] [] (S_ASup_newLength _ _ _ _ _ hw) k_m_AL_73 k_stat_ASup_newLength k_ini_ASup k_code_ASup_newLength (by decide +kernel) rfl rfl (Nat.le_of_ble_eq_true rfl) ⟨(Nat.le_of_ble_eq_true rfl), (Nat.le_of_ble_eq_true rfl)⟩ ⟨(Nat.le_of_ble_eq_true rfl), (Nat.le_of_ble_eq_true rfl)⟩ d_AL_grow_I_27 (h_kI (k := 0) (n := 0) (Nat.le_of_ble_eq_true rfl) (Nat.le_of_ble_eq_true rfl) (fun i68 h67 H locs hw hh hS => ?_))
  refine lv_istore_n (lv' := [(3, .int i68), (0, .ref x0), (1, .int x1), (2, .int x2)]) hx hb d_AL_grow_I_30 rfl hl (by decide) rfl (fun ls hl => ?_)
  refine lv_aload_n hx hb d_AL_grow_I_31 rfl (lv_at hl 1 rfl) ?_
  refine lv_aload_n hx hb d_AL_grow_I_32 rfl (lv_at hl 1 rfl) ?_
  obtain ⟨fs69, r72, hr70, hk71, hw⟩ := hw
  refine h_get C0 hh hr70 hk71 rfl i_AL (by decide) k_f_AL_9 (fun _ h9 => h9) d_AL_grow_I_33 ?_
  refine lv_iload_n hx hb d_AL_grow_I_36 rfl (lv_at hl 0 rfl) ?_
  refine h_callS (n := 2) C0 w_TBm hh hS hl.1 [.ref r72, .int i68] [.ref x0] (S_Arrs_copyOf_AI _ _ _ _ hw) k_m_AL_66 k_stat_Arrs_copyOf_AI k_ini_Arrs k_code_Arrs_copyOf_AI (by decide +kernel) rfl rfl (Nat.le_of_ble_eq_true rfl) ⟨(Nat.le_of_ble_eq_true rfl), (Nat.le_of_ble_eq_true rfl)⟩ ⟨(Nat.le_of_ble_eq_true rfl), (Nat.le_of_ble_eq_true rfl)⟩ d_AL_grow_I_37 (h_kO (k := 1) (n := 160) (Nat.le_of_ble_eq_true rfl) (Nat.le_of_ble_eq_true rfl) (fun o74 h73 H locs hw hh hS => ?_))
  refine lv_dup_x1 hx hb d_AL_grow_I_40 (va_rf_cat _) rfl ?_
  obtain ⟨fs75, hr76, hk77, hw⟩ := hw
  refine h_put C0 hh hS (v := va_rf o74) hr76 hk77 rfl i_AL t_AL t_AL_ok n_AL (by decide) k_f_AL_9 (fun _ h9 => h9) rfl rfl (h_nO _ _) (h_fO _ _) d_AL_grow_I_41 (fun H locs hh hS => ?_)
  obtain ⟨h78, eh78⟩ : ∃ z : hM, z = h_up h73 x0 (eO 5 (fs75.set 1 (va_rf o74))) := ⟨_, rfl⟩
  rw [← eh78] at hh
  have hw := hw h78 eh78
  exact h_aret (o := o74) C0 hh hS rfl (Or.inr ⟨_, rfl⟩) ⟨_, rfl, hw⟩ d_AL_grow_I_44
set_option maxHeartbeats 4000000 in
set_option maxRecDepth 100000 in
theorem S_AL_grow_I {l : Launch} {κ : hX} (Q : Option Nat → hM → Prop) (h : hM) (x0 : Nat) (x1 : Int32) (hw : P_AL_grow_I Q h x0 x1) : Met l y_AL_grow_I [Cond.code y_AL_grow_I b_AL_grow_I 4 (some (.array (.object "java/lang/Object")))] rm_AL_grow_I (hPc κ w_cl w_tl w_tb [.ref x0, .int x1] h) (hQ κ w_cl (qO Q)) 1 160 (h_A κ) := by
  refine h_enter w_TBm (by decide) (Nat.le_of_ble_eq_true rfl) ?_
  intro p e s m args below meth c C0 hnm hh hS ls hl
  obtain ⟨hx, hb, hml, hown, hts, hK, hF0, hrt, hlocks⟩ := id C0
  have hl : lv_has ls 4 [(0, .ref x0), (1, .int x1)] := hl
  refine lv_aload_n hx hb d_AL_grow_I_0 rfl (lv_at hl 0 rfl) ?_
  obtain ⟨fs79, r82, hr80, hk81, hw⟩ := hw
  refine h_get C0 hh hr80 hk81 rfl i_AL (by decide) k_f_AL_9 (fun _ h9 => h9) d_AL_grow_I_1 ?_
  obtain ⟨n83, hr85, hw⟩ := hw
  refine h_alenE C0 hh hS hr85 (rfl : w_tl[2]? = _) d_AL_grow_I_4 ?_
  refine lv_topi (fun x2_86 ex2_86 => ?_)
  have hw := hw x2_86 ex2_86
  refine lv_istore_n (lv' := [(2, .int x2_86), (0, .ref x0), (1, .int x1)]) hx hb d_AL_grow_I_5 rfl hl (by decide) rfl (fun ls hl => ?_)
  refine lv_iload_n hx hb d_AL_grow_I_6 rfl (lv_at hl 0 rfl) ?_
  refine lv_if_gt (tgt := 20) hx hb d_AL_grow_I_7 (by decide) (fun c87 => ?_) (fun c87 => ?_)
  · have hw := hw.1 c87
    exact S_AL_grow_I_20 C0 _ _ _ _ _ _ _ hw hh hS (lv_sub hl [1, 2, 0] rfl)
  · have hw := hw.2 c87
    refine lv_aload_n hx hb d_AL_grow_I_10 rfl (lv_at hl 1 rfl) ?_
    obtain ⟨fs88, r91, hr89, hk90, hw⟩ := hw
    refine h_get C0 hh hr89 hk90 rfl i_AL (by decide) k_f_AL_9 (fun _ h9 => h9) d_AL_grow_I_11 ?_
    refine h_gets C0 hh hS k_f_AL_39 d_AL_grow_I_14 ?_
    refine lv_acmp_eq (rx := (some r91)) (ry := (some h.1)) (tgt := 45) hx hb d_AL_grow_I_17 (by decide) (fun c92 => ?_) (fun c92 => ?_)
    · have hw := hw.1 (Option.some.inj c92)
      refine lv_aload_n hx hb d_AL_grow_I_45 rfl (lv_at hl 1 rfl) ?_
      refine lv_bipush (v := 10) hx hb d_AL_grow_I_46 (by decide) ?_
      refine lv_iload_n hx hb d_AL_grow_I_48 rfl (lv_at hl 2 rfl) ?_
      refine va_mmax hx hb (hml.trans hl.1.symm) hown (hts _ k_m_AL_79) (hts _ k_math_max_static) (hts _ k_ini_Math) (hts _ k_math_max_code) (Nat.le_of_ble_eq_true rfl) (Nat.le_of_ble_eq_true rfl) (Nat.le_of_ble_eq_true rfl) (Nat.le_of_ble_eq_true rfl) d_AL_grow_I_49 ?_
      obtain ⟨hn9, n95, hN9, hB9, hw⟩ := hw
      refine h_newq C0 hh hS 160 (t := 2) rfl k_c_AL_7 k_over_Object hn9 hN9 hB9 (Nat.le_of_ble_eq_true rfl) (Nat.le_of_ble_eq_true rfl) (Nat.le_of_ble_eq_true rfl) d_AL_grow_I_52 (fun q93 H hqq93 hzq93 hh hS => ?_)
      obtain ⟨h94, eh94⟩ : ∃ z : hM, z = h_up h q93 (eA 2 n95 (fun _ => none)) := ⟨_, rfl⟩
      rw [← eh94] at hh
      have hw := hw q93 hqq93 h94 eh94
      refine W.widen (k := 1) (n := 160) (Nat.le_of_ble_eq_true rfl) (Nat.le_of_ble_eq_true rfl) ?_
      refine lv_dup_x1 hx hb d_AL_grow_I_55 rfl rfl ?_
      obtain ⟨fs96, hr97, hk98, hw⟩ := hw
      refine h_put C0 hh hS (v := .ref q93) hr97 hk98 rfl i_AL t_AL t_AL_ok n_AL (by decide) k_f_AL_9 (fun _ h9 => h9) rfl rfl rfl rfl d_AL_grow_I_56 (fun H locs hh hS => ?_)
      obtain ⟨h99, eh99⟩ : ∃ z : hM, z = h_up h94 x0 (eO 5 (fs96.set 1 (.ref q93))) := ⟨_, rfl⟩
      rw [← eh99] at hh
      have hw := hw h99 eh99
      exact h_aret (o := (some q93)) C0 hh hS rfl (Or.inr ⟨_, rfl⟩) ⟨_, rfl, hw⟩ d_AL_grow_I_59
    · have hw := hw.2 (fun z => c92 (congrArg some z))
      exact S_AL_grow_I_20 C0 _ _ _ _ _ _ _ hw hh hS (lv_sub hl [1, 2, 0] rfl)
set_option maxHeartbeats 4000000 in
set_option maxRecDepth 100000 in
theorem S_AL_grow_v {l : Launch} {κ : hX} (Q : Option Nat → hM → Prop) (h : hM) (x0 : Nat) (hw : P_AL_grow_v Q h x0) : Met l y_AL_grow_v [Cond.code y_AL_grow_v b_AL_grow_v 1 (some (.array (.object "java/lang/Object")))] rm_AL_grow_v (hPc κ w_cl w_tl w_tb [.ref x0] h) (hQ κ w_cl (qO Q)) 1 160 (h_A κ) := by
  refine h_enter w_TBm (by decide) (Nat.le_of_ble_eq_true rfl) ?_
  intro p e s m args below meth c C0 hnm hh hS ls hl
  obtain ⟨hx, hb, hml, hown, hts, hK, hF0, hrt, hlocks⟩ := id C0
  have hl : lv_has ls 1 [(0, .ref x0)] := hl
  refine lv_aload_n hx hb d_AL_grow_v_0 rfl (lv_at hl 0 rfl) ?_
  refine lv_aload_n hx hb d_AL_grow_v_1 rfl (lv_at hl 0 rfl) ?_
  obtain ⟨fs9, i12, hr10, hk11, hw⟩ := hw
  refine h_get C0 hh hr10 hk11 rfl i_AL (by decide) k_f_AL_48 (fun _ h9 => h9) d_AL_grow_v_2 ?_
  refine lv_iconst (v := 1) hx hb d_AL_grow_v_5 (by decide) ?_
  refine lv_iadd hx hb d_AL_grow_v_6 ?_
  obtain ⟨fs13, hr14, hw⟩ := hw
  refine h_callV (n := 1) C0 w_TBm hh hS hl.1 [.int (i12 + (1 : Int32))] [] (S_AL_grow_I _ _ _ _ hw) hr14 rfl k_m_AL_69 k_inst_AL_grow_I k_sel_AL_grow_I k_ini_AL k_code_AL_grow_I (by decide +kernel) rfl rfl (Nat.le_of_ble_eq_true rfl) ⟨(Nat.le_of_ble_eq_true rfl), (Nat.le_of_ble_eq_true rfl)⟩ ⟨(Nat.le_of_ble_eq_true rfl), (Nat.le_of_ble_eq_true rfl)⟩ d_AL_grow_v_7 (h_kO (k := 1) (n := 160) (Nat.le_of_ble_eq_true rfl) (Nat.le_of_ble_eq_true rfl) (fun o16 h15 H locs hw hh hS => ?_))
  exact h_aret (o := o16) C0 hh hS rfl (Or.inr ⟨_, rfl⟩) ⟨_, rfl, hw⟩ d_AL_grow_v_10
set_option maxHeartbeats 4000000 in
set_option maxRecDepth 100000 in
theorem S_AL_add_LAI_11 {p : Program} {l : Launch} {e : Env} {s : State} {m : MethodId} {args : Array Value} {below : List Frame} {meth : Method} {c : Code} {κ : hX} {Q : hM → Prop} (C0 : Cw κ w_cl w_tl w_tb p s m args meth c b_AL_add_LAI 4 R_AL none) : ∀ (h : hM) (x0 : Nat) (x1 : Nat) (x2 : Option Nat) (x3 : Int32) (H : Heap) (locs : List Loc) (ls : Array Slot), P_AL_add_LAI_11 Q h x0 x1 x2 x3 → hp κ w_cl h H → va_S (h_A κ) s.heap H locs → lv_has ls 4 [(0, .ref x0), (1, .ref x1), (2, va_rf x2), (3, .int x3)] → W p l e rm_AL_add_LAI s m args below meth c H locs 1 160 (MQ below (hQ κ w_cl (qV Q)) args s 1 160 (h_A κ)) (F0 m 11 ls []) := by
  obtain ⟨hx, hb, hml, hown, hts, hK, hF0, hrt, hlocks⟩ := id C0
  intro h x0 x1 x2 x3 H locs ls hw hh hS hl
  refine h_aload_nO hx hb d_AL_add_LAI_11 rfl (lv_at hl 2 rfl) ?_
  refine lv_iload_n hx hb d_AL_add_LAI_12 rfl (lv_at hl 3 rfl) ?_
  refine lv_aload_n hx hb d_AL_add_LAI_13 rfl (lv_at hl 1 rfl) ?_
  obtain ⟨a41, he9, hw⟩ := hw
  subst he9
  have hl : lv_has ls 4 [(0, .ref x0), (1, .ref x1), (2, .ref a41), (3, .int x3)] := hl
  obtain ⟨n42, f43, hr44, hi45, hw⟩ := hw
  obtain ⟨⟨ci9, fs9, hv9, hc9⟩, hw⟩ := hw
  obtain ⟨C9, T9, N9, hc8, hc7⟩ := w_castO hc9
  refine h_aast C0 hh hS hr44 hi45 rfl hv9 hc8 hc7 d_AL_add_LAI_14 (fun H locs hh hS => ?_)
  obtain ⟨h46, eh46⟩ : ∃ z : hM, z = h_up h a41 (eA 2 n42 (va_up f43 x3.toNatClampNeg (some x1))) := ⟨_, rfl⟩
  rw [← eh46] at hh
  have hw := hw h46 eh46
  refine lv_aload_n hx hb d_AL_add_LAI_15 rfl (lv_at hl 0 rfl) ?_
  refine lv_iload_n hx hb d_AL_add_LAI_16 rfl (lv_at hl 3 rfl) ?_
  refine lv_iconst (v := 1) hx hb d_AL_add_LAI_17 (by decide) ?_
  refine lv_iadd hx hb d_AL_add_LAI_18 ?_
  obtain ⟨fs49, hr50, hk51, hw⟩ := hw
  refine h_put C0 hh hS (v := .int (x3 + (1 : Int32))) hr50 hk51 rfl i_AL t_AL t_AL_ok n_AL (by decide) k_f_AL_48 (fun _ h9 => h9) rfl rfl rfl rfl d_AL_add_LAI_19 (fun H locs hh hS => ?_)
  obtain ⟨h52, eh52⟩ : ∃ z : hM, z = h_up h46 x0 (eO 5 (fs49.set 2 (.int (x3 + (1 : Int32))))) := ⟨_, rfl⟩
  rw [← eh52] at hh
  have hw := hw h52 eh52
  exact h_vret C0 hh hS rfl ⟨rfl, hw⟩ d_AL_add_LAI_22
set_option maxHeartbeats 4000000 in
set_option maxRecDepth 100000 in
theorem S_AL_add_LAI {l : Launch} {κ : hX} (Q : hM → Prop) (h : hM) (x0 : Nat) (x1 : Nat) (x2 : Nat) (x3 : Int32) (hw : P_AL_add_LAI Q h x0 x1 x2 x3) : Met l y_AL_add_LAI [Cond.code y_AL_add_LAI b_AL_add_LAI 4 none] rm_AL_add_LAI (hPc κ w_cl w_tl w_tb [.ref x0, .ref x1, .ref x2, .int x3] h) (hQ κ w_cl (qV Q)) 1 160 (h_A κ) := by
  refine h_enter w_TBm (by decide) (Nat.le_of_ble_eq_true rfl) ?_
  intro p e s m args below meth c C0 hnm hh hS ls hl
  obtain ⟨hx, hb, hml, hown, hts, hK, hF0, hrt, hlocks⟩ := id C0
  have hl : lv_has ls 4 [(0, .ref x0), (1, .ref x1), (2, .ref x2), (3, .int x3)] := hl
  refine lv_iload_n hx hb d_AL_add_LAI_0 rfl (lv_at hl 3 rfl) ?_
  refine lv_aload_n hx hb d_AL_add_LAI_1 rfl (lv_at hl 2 rfl) ?_
  obtain ⟨n53, hr55, hw⟩ := hw
  refine h_alenE C0 hh hS hr55 (rfl : w_tl[2]? = _) d_AL_add_LAI_2 ?_
  refine lv_icmp_ne (tgt := 11) hx hb d_AL_add_LAI_3 (by decide) (fun c56 => ?_) (fun c56 => ?_)
  · have hw := hw.1 c56
    refine W.widen (k := 1) (n := 160) (Nat.le_of_ble_eq_true rfl) (Nat.le_of_ble_eq_true rfl) ?_
    exact S_AL_add_LAI_11 C0 _ _ _ _ _ _ _ _ hw hh hS (lv_sub hl [0, 1, 2, 3] rfl)
  · have hw := hw.2 c56
    refine lv_aload_n hx hb d_AL_add_LAI_6 rfl (lv_at hl 0 rfl) ?_
    obtain ⟨fs57, hr58, hw⟩ := hw
    refine h_callV (n := 0) C0 w_TBm hh hS hl.1 [] [] (S_AL_grow_v _ _ _ hw) hr58 rfl k_m_AL_129 k_inst_AL_grow_v k_sel_AL_grow_v k_ini_AL k_code_AL_grow_v (by decide +kernel) rfl rfl (Nat.le_of_ble_eq_true rfl) ⟨(Nat.le_of_ble_eq_true rfl), (Nat.le_of_ble_eq_true rfl)⟩ ⟨(Nat.le_of_ble_eq_true rfl), (Nat.le_of_ble_eq_true rfl)⟩ d_AL_add_LAI_7 (h_kO (k := 1) (n := 160) (Nat.le_of_ble_eq_true rfl) (Nat.le_of_ble_eq_true rfl) (fun o60 h59 H locs hw hh hS => ?_))
    refine h_astore_nO (lv' := [(2, va_rf o60), (0, .ref x0), (1, .ref x1), (3, .int x3)]) hx hb d_AL_add_LAI_10 rfl hl (by decide) rfl (fun ls hl => ?_)
    exact S_AL_add_LAI_11 C0 _ _ _ _ _ _ _ _ hw hh hS (lv_sub hl [1, 2, 0, 3] rfl)
set_option maxHeartbeats 4000000 in
set_option maxRecDepth 100000 in
theorem S_AL_add_L {l : Launch} {κ : hX} (Q : Int32 → hM → Prop) (h : hM) (x0 : Nat) (x1 : Nat) (hw : P_AL_add_L Q h x0 x1) : Met l y_AL_add_L [Cond.code y_AL_add_L b_AL_add_L 2 (some .boolean)] rm_AL_add_L (hPc κ w_cl w_tl w_tb [.ref x0, .ref x1] h) (hQ κ w_cl (qI Q)) 1 160 (h_A κ) := by
  refine h_enter w_TBm (by decide) (Nat.le_of_ble_eq_true rfl) ?_
  intro p e s m args below meth c C0 hnm hh hS ls hl
  obtain ⟨hx, hb, hml, hown, hts, hK, hF0, hrt, hlocks⟩ := id C0
  have hl : lv_has ls 2 [(0, .ref x0), (1, .ref x1)] := hl
  refine lv_aload_n hx hb d_AL_add_L_0 rfl (lv_at hl 0 rfl) ?_
  refine lv_dup hx hb d_AL_add_L_1 rfl ?_
  obtain ⟨fs21, i24, hr22, hk23, hw⟩ := hw
  refine h_get C0 hh hr22 hk23 rfl i_AL (by decide) k_f_AL_63 (u_same (hts _ k_same_AL_modCount)) d_AL_add_L_2 ?_
  refine lv_iconst (v := 1) hx hb d_AL_add_L_5 (by decide) ?_
  refine lv_iadd hx hb d_AL_add_L_6 ?_
  obtain ⟨fs25, hr26, hk27, hw⟩ := hw
  refine h_put C0 hh hS (v := .int (i24 + (1 : Int32))) hr26 hk27 rfl i_AL t_AL t_AL_ok n_AL (by decide) k_f_AL_63 (u_same (hts _ k_same_AL_modCount)) rfl rfl rfl rfl d_AL_add_L_7 (fun H locs hh hS => ?_)
  obtain ⟨h28, eh28⟩ : ∃ z : hM, z = h_up h x0 (eO 5 (fs25.set 0 (.int (i24 + (1 : Int32))))) := ⟨_, rfl⟩
  rw [← eh28] at hh
  have hw := hw h28 eh28
  refine lv_aload_n hx hb d_AL_add_L_10 rfl (lv_at hl 0 rfl) ?_
  refine lv_aload_n hx hb d_AL_add_L_11 rfl (lv_at hl 1 rfl) ?_
  refine lv_aload_n hx hb d_AL_add_L_12 rfl (lv_at hl 0 rfl) ?_
  obtain ⟨fs29, r32, hr30, hk31, hw⟩ := hw
  refine h_get C0 hh hr30 hk31 rfl i_AL (by decide) k_f_AL_9 (fun _ h9 => h9) d_AL_add_L_13 ?_
  refine lv_aload_n hx hb d_AL_add_L_16 rfl (lv_at hl 0 rfl) ?_
  obtain ⟨fs33, i36, hr34, hk35, hw⟩ := hw
  refine h_get C0 hh hr34 hk35 rfl i_AL (by decide) k_f_AL_48 (fun _ h9 => h9) d_AL_add_L_17 ?_
  obtain ⟨fs37, hr38, hw⟩ := hw
  refine h_callV (n := 3) C0 w_TBm hh hS hl.1 [.ref x1, .ref r32, .int i36] [] (S_AL_add_LAI _ _ _ _ _ _ hw) hr38 rfl k_m_AL_131 k_inst_AL_add_LAI k_sel_AL_add_LAI k_ini_AL k_code_AL_add_LAI (by decide +kernel) rfl rfl (Nat.le_of_ble_eq_true rfl) ⟨(Nat.le_of_ble_eq_true rfl), (Nat.le_of_ble_eq_true rfl)⟩ ⟨(Nat.le_of_ble_eq_true rfl), (Nat.le_of_ble_eq_true rfl)⟩ d_AL_add_L_20 (h_kV (k := 1) (n := 160) (Nat.le_of_ble_eq_true rfl) (Nat.le_of_ble_eq_true rfl) (fun h39 H locs hw hh hS => ?_))
  refine lv_iconst (v := 1) hx hb d_AL_add_L_23 (by decide) ?_
  exact h_iret C0 hh hS rfl rfl ⟨_, rfl, hw⟩ d_AL_add_L_24
set_option maxHeartbeats 4000000 in
set_option maxRecDepth 100000 in
theorem S_Prec_checkIndex_IIL {l : Launch} {κ : hX} (Q : Int32 → hM → Prop) (h : hM) (x0 : Int32) (x1 : Int32) (hw : P_Prec_checkIndex_IIL Q h x0 x1) : Met l y_Prec_checkIndex_IIL [Cond.code y_Prec_checkIndex_IIL b_Prec_checkIndex_IIL 3 (some .int)] rm_Prec_checkIndex_IIL (hPc κ w_cl w_tl w_tb [.int x0, .int x1, .null] h) (hQ κ w_cl (qI Q)) 0 0 (h_A κ) := by
  refine h_enter w_TBm (by decide) (Nat.le_of_ble_eq_true rfl) ?_
  intro p e s m args below meth c C0 hnm hh hS ls hl
  obtain ⟨hx, hb, hml, hown, hts, hK, hF0, hrt, hlocks⟩ := id C0
  have hl : lv_has ls 3 [(0, .int x0), (1, .int x1), (2, .null)] := hl
  refine lv_iload_n hx hb d_Prec_checkIndex_IIL_0 rfl (lv_at hl 0 rfl) ?_
  refine lv_if_lt (tgt := 9) hx hb d_Prec_checkIndex_IIL_1 (by decide) (fun c3 => ?_) (fun c3 => ?_)
  · have hw := hw.1 c3
    exact hw.elim
  · have hw := hw.2 c3
    refine lv_iload_n hx hb d_Prec_checkIndex_IIL_4 rfl (lv_at hl 0 rfl) ?_
    refine lv_iload_n hx hb d_Prec_checkIndex_IIL_5 rfl (lv_at hl 1 rfl) ?_
    refine lv_icmp_lt (tgt := 16) hx hb d_Prec_checkIndex_IIL_6 (by decide) (fun c4 => ?_) (fun c4 => ?_)
    · have hw := hw.1 c4
      refine lv_iload_n hx hb d_Prec_checkIndex_IIL_16 rfl (lv_at hl 0 rfl) ?_
      exact h_iret C0 hh hS rfl rfl ⟨_, rfl, hw⟩ d_Prec_checkIndex_IIL_17
    · have hw := hw.2 c4
      exact hw.elim
set_option maxHeartbeats 4000000 in
set_option maxRecDepth 100000 in
theorem S_Objs_checkIndex_II {l : Launch} {κ : hX} (Q : Int32 → hM → Prop) (h : hM) (x0 : Int32) (x1 : Int32) (hw : P_Objs_checkIndex_II Q h x0 x1) : Met l y_Objs_checkIndex_II [Cond.code y_Objs_checkIndex_II b_Objs_checkIndex_II 2 (some .int)] rm_Objs_checkIndex_II (hPc κ w_cl w_tl w_tb [.int x0, .int x1] h) (hQ κ w_cl (qI Q)) 0 0 (h_A κ) := by
  refine h_enter w_TBm (by decide) (Nat.le_of_ble_eq_true rfl) ?_
  intro p e s m args below meth c C0 hnm hh hS ls hl
  obtain ⟨hx, hb, hml, hown, hts, hK, hF0, hrt, hlocks⟩ := id C0
  have hl : lv_has ls 2 [(0, .int x0), (1, .int x1)] := hl
  refine lv_iload_n hx hb d_Objs_checkIndex_II_0 rfl (lv_at hl 0 rfl) ?_
  refine lv_iload_n hx hb d_Objs_checkIndex_II_1 rfl (lv_at hl 1 rfl) ?_
  refine lv_null hx hb d_Objs_checkIndex_II_2 ?_
  refine h_callS (n := 3) C0 w_TBm hh hS hl.1 [.int x0, .int x1, .null] [] (S_Prec_checkIndex_IIL _ _ _ _ hw) k_m_Objs_105 k_stat_Prec_checkIndex_IIL k_ini_Prec k_code_Prec_checkIndex_IIL (by decide +kernel) rfl rfl (Nat.le_of_ble_eq_true rfl) ⟨(Nat.le_of_ble_eq_true rfl), (Nat.le_of_ble_eq_true rfl)⟩ ⟨(Nat.le_of_ble_eq_true rfl), (Nat.le_of_ble_eq_true rfl)⟩ d_Objs_checkIndex_II_3 (h_kI (k := 0) (n := 0) (Nat.le_of_ble_eq_true rfl) (Nat.le_of_ble_eq_true rfl) (fun i4 h3 H locs hw hh hS => ?_))
  exact h_iret C0 hh hS rfl rfl ⟨_, rfl, hw⟩ d_Objs_checkIndex_II_6
set_option maxHeartbeats 4000000 in
set_option maxRecDepth 100000 in
theorem S_AL_elementData {l : Launch} {κ : hX} (Q : Option Nat → hM → Prop) (h : hM) (x0 : Nat) (x1 : Int32) (hw : P_AL_elementData Q h x0 x1) : Met l y_AL_elementData [Cond.code y_AL_elementData b_AL_elementData 2 (some (.object "java/lang/Object"))] rm_AL_elementData (hPc κ w_cl w_tl w_tb [.ref x0, .int x1] h) (hQ κ w_cl (qO Q)) 0 0 (h_A κ) := by
  refine h_enter w_TBm (by decide) (Nat.le_of_ble_eq_true rfl) ?_
  intro p e s m args below meth c C0 hnm hh hS ls hl
  obtain ⟨hx, hb, hml, hown, hts, hK, hF0, hrt, hlocks⟩ := id C0
  have hl : lv_has ls 2 [(0, .ref x0), (1, .int x1)] := hl
  refine lv_aload_n hx hb d_AL_elementData_0 rfl (lv_at hl 0 rfl) ?_
  obtain ⟨fs10, r13, hr11, hk12, hw⟩ := hw
  refine h_get C0 hh hr11 hk12 rfl i_AL (by decide) k_f_AL_9 (fun _ h9 => h9) d_AL_elementData_1 ?_
  refine lv_iload_n hx hb d_AL_elementData_4 rfl (lv_at hl 1 rfl) ?_
  obtain ⟨n14, f15, hr16, hi17, hw⟩ := hw
  refine h_aald C0 hh hr16 hi17 rfl d_AL_elementData_5 ?_
  refine h_topO (fun o18 eo18 => ?_)
  have hw := hw o18 eo18
  exact h_aret (o := o18) C0 hh hS rfl (Or.inl ⟨_, rfl⟩) ⟨_, rfl, hw⟩ d_AL_elementData_6
set_option maxHeartbeats 4000000 in
set_option maxRecDepth 100000 in
theorem S_AL_get {l : Launch} {κ : hX} (Q : Option Nat → hM → Prop) (h : hM) (x0 : Nat) (x1 : Int32) (hw : P_AL_get Q h x0 x1) : Met l y_AL_get [Cond.code y_AL_get b_AL_get 2 (some (.object "java/lang/Object"))] rm_AL_get (hPc κ w_cl w_tl w_tb [.ref x0, .int x1] h) (hQ κ w_cl (qO Q)) 0 0 (h_A κ) := by
  refine h_enter w_TBm (by decide) (Nat.le_of_ble_eq_true rfl) ?_
  intro p e s m args below meth c C0 hnm hh hS ls hl
  obtain ⟨hx, hb, hml, hown, hts, hK, hF0, hrt, hlocks⟩ := id C0
  have hl : lv_has ls 2 [(0, .ref x0), (1, .int x1)] := hl
  refine lv_iload_n hx hb d_AL_get_0 rfl (lv_at hl 1 rfl) ?_
  refine lv_aload_n hx hb d_AL_get_1 rfl (lv_at hl 0 rfl) ?_
  obtain ⟨fs11, i14, hr12, hk13, hw⟩ := hw
  refine h_get C0 hh hr12 hk13 rfl i_AL (by decide) k_f_AL_48 (fun _ h9 => h9) d_AL_get_2 ?_
  refine h_callS (n := 2) C0 w_TBm hh hS hl.1 [.int x1, .int i14] [] (S_Objs_checkIndex_II _ _ _ _ hw) k_m_AL_118 k_stat_Objs_checkIndex_II k_ini_Objs k_code_Objs_checkIndex_II (by decide +kernel) rfl rfl (Nat.le_of_ble_eq_true rfl) ⟨(Nat.le_of_ble_eq_true rfl), (Nat.le_of_ble_eq_true rfl)⟩ ⟨(Nat.le_of_ble_eq_true rfl), (Nat.le_of_ble_eq_true rfl)⟩ d_AL_get_5 (h_kI (k := 0) (n := 0) (Nat.le_of_ble_eq_true rfl) (Nat.le_of_ble_eq_true rfl) (fun i16 h15 H locs hw hh hS => ?_))
  refine lv_pop hx hb d_AL_get_8 rfl ?_
  refine lv_aload_n hx hb d_AL_get_9 rfl (lv_at hl 0 rfl) ?_
  refine lv_iload_n hx hb d_AL_get_10 rfl (lv_at hl 1 rfl) ?_
  obtain ⟨fs17, hr18, hw⟩ := hw
  refine h_callV (n := 1) C0 w_TBm hh hS hl.1 [.int x1] [] (S_AL_elementData _ _ _ _ hw) hr18 rfl k_m_AL_123 k_inst_AL_elementData k_sel_AL_elementData k_ini_AL k_code_AL_elementData (by decide +kernel) rfl rfl (Nat.le_of_ble_eq_true rfl) ⟨(Nat.le_of_ble_eq_true rfl), (Nat.le_of_ble_eq_true rfl)⟩ ⟨(Nat.le_of_ble_eq_true rfl), (Nat.le_of_ble_eq_true rfl)⟩ d_AL_get_11 (h_kO (k := 0) (n := 0) (Nat.le_of_ble_eq_true rfl) (Nat.le_of_ble_eq_true rfl) (fun o20 h19 H locs hw hh hS => ?_))
  exact h_aret (o := o20) C0 hh hS rfl (Or.inl ⟨_, rfl⟩) ⟨_, rfl, hw⟩ d_AL_get_14
end
section
set_option maxHeartbeats 4000000 in
set_option maxRecDepth 100000 in
theorem S_NS_init {l : Launch} {κ : hX} (Q : hM → Prop) (h : hM) (x0 : Nat) (hw : P_NS_init Q h x0) : Met l y_NS_init [Cond.code y_NS_init b_NS_init 1 none] rm_NS_init (hPc κ w_cl w_tl w_tb [.ref x0] h) (hQ κ w_cl (qV Q)) 0 0 (h_A κ) := by
  refine h_enter w_TBm (by decide) (Nat.le_of_ble_eq_true rfl) ?_
  intro p e s m args below meth c C0 hnm hh hS ls hl
  obtain ⟨hx, hb, hml, hown, hts, hK, hF0, hrt, hlocks⟩ := id C0
  have hl : lv_has ls 1 [(0, .ref x0)] := hl
  refine lv_aload_n hx hb d_NS_init_0 rfl (lv_at hl 0 rfl) ?_
  refine W.objInit hx hb hown (hts _ k_m_NS_1) (hts _ k_oi_inst) (hts _ k_oi_code) rfl (by rw [hml]; exact hl.1) rfl d_NS_init_1 (Nat.le_of_ble_eq_true rfl) (Nat.le_of_ble_eq_true rfl) ?_
  refine W.eq (g2 := F0 m 4 ls []) rfl ?_
  refine lv_aload_n hx hb d_NS_init_4 rfl (lv_at hl 0 rfl) ?_
  refine lv_lconst (v := 0) hx hb d_NS_init_5 (by decide) ?_
  obtain ⟨fs9, hr10, hk11, hw⟩ := hw
  refine h_put C0 hh hS (v := .long (0 : Int64)) hr10 hk11 rfl i_NS t_NS t_NS_ok n_NS (by decide) k_f_NS_7 (fun _ h9 => h9) rfl rfl rfl rfl d_NS_init_6 (fun H locs hh hS => ?_)
  obtain ⟨h12, eh12⟩ : ∃ z : hM, z = h_up h x0 (eO 4 (fs9.set 0 (.long (0 : Int64)))) := ⟨_, rfl⟩
  rw [← eh12] at hh
  have hw := hw h12 eh12
  refine lv_aload_n hx hb d_NS_init_9 rfl (lv_at hl 0 rfl) ?_
  refine lv_lconst (v := 0) hx hb d_NS_init_10 (by decide) ?_
  obtain ⟨fs13, hr14, hk15, hw⟩ := hw
  refine h_put C0 hh hS (v := .long (0 : Int64)) hr14 hk15 rfl i_NS t_NS t_NS_ok n_NS (by decide) k_f_NS_13 (fun _ h9 => h9) rfl rfl rfl rfl d_NS_init_11 (fun H locs hh hS => ?_)
  obtain ⟨h16, eh16⟩ : ∃ z : hM, z = h_up h12 x0 (eO 4 (fs13.set 1 (.long (0 : Int64)))) := ⟨_, rfl⟩
  rw [← eh16] at hh
  have hw := hw h16 eh16
  exact h_vret C0 hh hS rfl ⟨rfl, hw⟩ d_NS_init_14
set_option maxHeartbeats 4000000 in
set_option maxRecDepth 100000 in
theorem S_NS_has_28 {p : Program} {l : Launch} {e : Env} {s : State} {m : MethodId} {args : Array Value} {below : List Frame} {meth : Method} {c : Code} {κ : hX} {Q : Int32 → hM → Prop} (C0 : Cw κ w_cl w_tl w_tb p s m args meth c b_NS_has 4 R_NS (some .boolean)) : ∀ (h : hM) (t0 : Int64) (H : Heap) (locs : List Loc) (ls : Array Slot), P_NS_has_28 Q h t0 → hp κ w_cl h H → va_S (h_A κ) s.heap H locs → lv_has ls 4 [] → W p l e rm_NS_has s m args below meth c H locs 0 0 (MQ below (hQ κ w_cl (qI Q)) args s 0 0 (h_A κ)) (F0 m 28 ls [.long t0]) := by
  obtain ⟨hx, hb, hml, hown, hts, hK, hF0, hrt, hlocks⟩ := id C0
  intro h t0 H locs ls hw hh hS hl
  refine lv_lstore_n (lv' := [(2, .long t0)]) hx hb d_NS_has_28 rfl hl (by decide) rfl (fun ls hl => ?_)
  refine lv_lload_n hx hb d_NS_has_29 rfl (lv_at hl 0 rfl) ?_
  refine lv_lconst (v := 0) hx hb d_NS_has_30 (by decide) ?_
  refine W.lcmp hx hb d_NS_has_31 ?_
  refine lv_if_eq (tgt := 39) hx hb d_NS_has_32 (by decide) (fun c21 => ?_) (fun c21 => ?_)
  · have hw := hw.1 ((lg_cmp_eq _ _).mp c21)
    refine lv_iconst (v := 0) hx hb d_NS_has_39 (by decide) ?_
    exact h_iret C0 hh hS rfl rfl ⟨_, rfl, hw⟩ d_NS_has_40
  · have hw := hw.2 (fun z => c21 ((lg_cmp_eq _ _).mpr z))
    refine lv_iconst (v := 1) hx hb d_NS_has_35 (by decide) ?_
    refine lv_goto (tgt := 40) hx hb d_NS_has_36 (by decide) ?_
    exact h_iret C0 hh hS rfl rfl ⟨_, rfl, hw⟩ d_NS_has_40
set_option maxHeartbeats 4000000 in
set_option maxRecDepth 100000 in
theorem S_NS_has {l : Launch} {κ : hX} (Q : Int32 → hM → Prop) (h : hM) (x0 : Nat) (x1 : Int32) (hw : P_NS_has Q h x0 x1) : Met l y_NS_has [Cond.code y_NS_has b_NS_has 4 (some .boolean)] rm_NS_has (hPc κ w_cl w_tl w_tb [.ref x0, .int x1] h) (hQ κ w_cl (qI Q)) 0 0 (h_A κ) := by
  refine h_enter w_TBm (by decide) (Nat.le_of_ble_eq_true rfl) ?_
  intro p e s m args below meth c C0 hnm hh hS ls hl
  obtain ⟨hx, hb, hml, hown, hts, hK, hF0, hrt, hlocks⟩ := id C0
  have hl : lv_has ls 4 [(0, .ref x0), (1, .int x1)] := hl
  refine lv_iload_n hx hb d_NS_has_0 rfl (lv_at hl 1 rfl) ?_
  refine lv_bipush (v := 64) hx hb d_NS_has_1 (by decide) ?_
  refine lv_icmp_ge (tgt := 17) hx hb d_NS_has_3 (by decide) (fun c22 => ?_) (fun c22 => ?_)
  · have hw := hw.1 c22
    refine lv_aload_n hx hb d_NS_has_17 rfl (lv_at hl 0 rfl) ?_
    obtain ⟨fs23, j26, hr24, hk25, hw⟩ := hw
    refine h_get C0 hh hr24 hk25 rfl i_NS (by decide) k_f_NS_13 (fun _ h9 => h9) d_NS_has_18 ?_
    refine lv_lconst (v := 1) hx hb d_NS_has_21 (by decide) ?_
    refine lv_iload_n hx hb d_NS_has_22 rfl (lv_at hl 1 rfl) ?_
    refine lv_bipush (v := 64) hx hb d_NS_has_23 (by decide) ?_
    refine lv_isub hx hb d_NS_has_25 ?_
    refine lv_lshl (v := ((1 : Int64) <<< ((x1 - (64 : Int32)).toInt64 &&& 63))) hx hb d_NS_has_26 rfl ?_
    refine lv_land hx hb d_NS_has_27 ?_
    exact S_NS_has_28 C0 _ _ _ _ _ hw hh hS (lv_sub hl [] rfl)
  · have hw := hw.2 c22
    refine lv_aload_n hx hb d_NS_has_6 rfl (lv_at hl 0 rfl) ?_
    obtain ⟨fs27, j30, hr28, hk29, hw⟩ := hw
    refine h_get C0 hh hr28 hk29 rfl i_NS (by decide) k_f_NS_7 (fun _ h9 => h9) d_NS_has_7 ?_
    refine lv_lconst (v := 1) hx hb d_NS_has_10 (by decide) ?_
    refine lv_iload_n hx hb d_NS_has_11 rfl (lv_at hl 1 rfl) ?_
    refine lv_lshl (v := ((1 : Int64) <<< (x1.toInt64 &&& 63))) hx hb d_NS_has_12 rfl ?_
    refine lv_land hx hb d_NS_has_13 ?_
    refine lv_goto (tgt := 28) hx hb d_NS_has_14 (by decide) ?_
    exact S_NS_has_28 C0 _ _ _ _ _ hw hh hS (lv_sub hl [] rfl)
set_option maxHeartbeats 4000000 in
set_option maxRecDepth 100000 in
theorem S_NS_put {l : Launch} {κ : hX} (Q : hM → Prop) (h : hM) (x0 : Nat) (x1 : Int32) (hw : P_NS_put Q h x0 x1) : Met l y_NS_put [Cond.code y_NS_put b_NS_put 2 none] rm_NS_put (hPc κ w_cl w_tl w_tb [.ref x0, .int x1] h) (hQ κ w_cl (qV Q)) 0 0 (h_A κ) := by
  refine h_enter w_TBm (by decide) (Nat.le_of_ble_eq_true rfl) ?_
  intro p e s m args below meth c C0 hnm hh hS ls hl
  obtain ⟨hx, hb, hml, hown, hts, hK, hF0, hrt, hlocks⟩ := id C0
  have hl : lv_has ls 2 [(0, .ref x0), (1, .int x1)] := hl
  refine lv_iload_n hx hb d_NS_put_0 rfl (lv_at hl 1 rfl) ?_
  refine lv_bipush (v := 64) hx hb d_NS_put_1 (by decide) ?_
  refine lv_icmp_ge (tgt := 21) hx hb d_NS_put_3 (by decide) (fun c18 => ?_) (fun c18 => ?_)
  · have hw := hw.1 c18
    refine lv_aload_n hx hb d_NS_put_21 rfl (lv_at hl 0 rfl) ?_
    refine lv_dup hx hb d_NS_put_22 rfl ?_
    obtain ⟨fs19, j22, hr20, hk21, hw⟩ := hw
    refine h_get C0 hh hr20 hk21 rfl i_NS (by decide) k_f_NS_13 (fun _ h9 => h9) d_NS_put_23 ?_
    refine lv_lconst (v := 1) hx hb d_NS_put_26 (by decide) ?_
    refine lv_iload_n hx hb d_NS_put_27 rfl (lv_at hl 1 rfl) ?_
    refine lv_bipush (v := 64) hx hb d_NS_put_28 (by decide) ?_
    refine lv_isub hx hb d_NS_put_30 ?_
    refine lv_lshl (v := ((1 : Int64) <<< ((x1 - (64 : Int32)).toInt64 &&& 63))) hx hb d_NS_put_31 rfl ?_
    refine lv_lor hx hb d_NS_put_32 ?_
    obtain ⟨fs23, hr24, hk25, hw⟩ := hw
    refine h_put C0 hh hS (v := .long (j22 ||| (((1 : Int64) <<< ((x1 - (64 : Int32)).toInt64 &&& 63))))) hr24 hk25 rfl i_NS t_NS t_NS_ok n_NS (by decide) k_f_NS_13 (fun _ h9 => h9) rfl rfl rfl rfl d_NS_put_33 (fun H locs hh hS => ?_)
    obtain ⟨h26, eh26⟩ : ∃ z : hM, z = h_up h x0 (eO 4 (fs23.set 1 (.long (j22 ||| (((1 : Int64) <<< ((x1 - (64 : Int32)).toInt64 &&& 63))))))) := ⟨_, rfl⟩
    rw [← eh26] at hh
    have hw := hw h26 eh26
    exact h_vret C0 hh hS rfl ⟨rfl, hw⟩ d_NS_put_36
  · have hw := hw.2 c18
    refine lv_aload_n hx hb d_NS_put_6 rfl (lv_at hl 0 rfl) ?_
    refine lv_dup hx hb d_NS_put_7 rfl ?_
    obtain ⟨fs27, j30, hr28, hk29, hw⟩ := hw
    refine h_get C0 hh hr28 hk29 rfl i_NS (by decide) k_f_NS_7 (fun _ h9 => h9) d_NS_put_8 ?_
    refine lv_lconst (v := 1) hx hb d_NS_put_11 (by decide) ?_
    refine lv_iload_n hx hb d_NS_put_12 rfl (lv_at hl 1 rfl) ?_
    refine lv_lshl (v := ((1 : Int64) <<< (x1.toInt64 &&& 63))) hx hb d_NS_put_13 rfl ?_
    refine lv_lor hx hb d_NS_put_14 ?_
    obtain ⟨fs31, hr32, hk33, hw⟩ := hw
    refine h_put C0 hh hS (v := .long (j30 ||| (((1 : Int64) <<< (x1.toInt64 &&& 63))))) hr32 hk33 rfl i_NS t_NS t_NS_ok n_NS (by decide) k_f_NS_7 (fun _ h9 => h9) rfl rfl rfl rfl d_NS_put_15 (fun H locs hh hS => ?_)
    obtain ⟨h34, eh34⟩ : ∃ z : hM, z = h_up h x0 (eO 4 (fs31.set 0 (.long (j30 ||| (((1 : Int64) <<< (x1.toInt64 &&& 63))))))) := ⟨_, rfl⟩
    rw [← eh34] at hh
    have hw := hw h34 eh34
    refine lv_goto (tgt := 36) hx hb d_NS_put_18 (by decide) ?_
    exact h_vret C0 hh hS rfl ⟨rfl, hw⟩ d_NS_put_36
set_option maxHeartbeats 4000000 in
set_option maxRecDepth 100000 in
theorem S_NS_putAll {l : Launch} {κ : hX} (Q : hM → Prop) (h : hM) (x0 : Nat) (x1 : Nat) (hw : P_NS_putAll Q h x0 x1) : Met l y_NS_putAll [Cond.code y_NS_putAll b_NS_putAll 2 none] rm_NS_putAll (hPc κ w_cl w_tl w_tb [.ref x0, .ref x1] h) (hQ κ w_cl (qV Q)) 0 0 (h_A κ) := by
  refine h_enter w_TBm (by decide) (Nat.le_of_ble_eq_true rfl) ?_
  intro p e s m args below meth c C0 hnm hh hS ls hl
  obtain ⟨hx, hb, hml, hown, hts, hK, hF0, hrt, hlocks⟩ := id C0
  have hl : lv_has ls 2 [(0, .ref x0), (1, .ref x1)] := hl
  refine lv_aload_n hx hb d_NS_putAll_0 rfl (lv_at hl 0 rfl) ?_
  refine lv_dup hx hb d_NS_putAll_1 rfl ?_
  obtain ⟨fs25, j28, hr26, hk27, hw⟩ := hw
  refine h_get C0 hh hr26 hk27 rfl i_NS (by decide) k_f_NS_7 (fun _ h9 => h9) d_NS_putAll_2 ?_
  refine lv_aload_n hx hb d_NS_putAll_5 rfl (lv_at hl 1 rfl) ?_
  obtain ⟨fs29, j32, hr30, hk31, hw⟩ := hw
  refine h_get C0 hh hr30 hk31 rfl i_NS (by decide) k_f_NS_7 (fun _ h9 => h9) d_NS_putAll_6 ?_
  refine lv_lor hx hb d_NS_putAll_9 ?_
  obtain ⟨fs33, hr34, hk35, hw⟩ := hw
  refine h_put C0 hh hS (v := .long (j28 ||| j32)) hr34 hk35 rfl i_NS t_NS t_NS_ok n_NS (by decide) k_f_NS_7 (fun _ h9 => h9) rfl rfl rfl rfl d_NS_putAll_10 (fun H locs hh hS => ?_)
  obtain ⟨h36, eh36⟩ : ∃ z : hM, z = h_up h x0 (eO 4 (fs33.set 0 (.long (j28 ||| j32)))) := ⟨_, rfl⟩
  rw [← eh36] at hh
  have hw := hw h36 eh36
  refine lv_aload_n hx hb d_NS_putAll_13 rfl (lv_at hl 0 rfl) ?_
  refine lv_dup hx hb d_NS_putAll_14 rfl ?_
  obtain ⟨fs37, j40, hr38, hk39, hw⟩ := hw
  refine h_get C0 hh hr38 hk39 rfl i_NS (by decide) k_f_NS_13 (fun _ h9 => h9) d_NS_putAll_15 ?_
  refine lv_aload_n hx hb d_NS_putAll_18 rfl (lv_at hl 1 rfl) ?_
  obtain ⟨fs41, j44, hr42, hk43, hw⟩ := hw
  refine h_get C0 hh hr42 hk43 rfl i_NS (by decide) k_f_NS_13 (fun _ h9 => h9) d_NS_putAll_19 ?_
  refine lv_lor hx hb d_NS_putAll_22 ?_
  obtain ⟨fs45, hr46, hk47, hw⟩ := hw
  refine h_put C0 hh hS (v := .long (j40 ||| j44)) hr46 hk47 rfl i_NS t_NS t_NS_ok n_NS (by decide) k_f_NS_13 (fun _ h9 => h9) rfl rfl rfl rfl d_NS_putAll_23 (fun H locs hh hS => ?_)
  obtain ⟨h48, eh48⟩ : ∃ z : hM, z = h_up h36 x0 (eO 4 (fs45.set 1 (.long (j40 ||| j44)))) := ⟨_, rfl⟩
  rw [← eh48] at hh
  have hw := hw h48 eh48
  exact h_vret C0 hh hS rfl ⟨rfl, hw⟩ d_NS_putAll_26
set_option maxHeartbeats 4000000 in
set_option maxRecDepth 100000 in
theorem S_NS_isWithin {l : Launch} {κ : hX} (Q : Int32 → hM → Prop) (h : hM) (x0 : Nat) (x1 : Nat) (hw : P_NS_isWithin Q h x0 x1) : Met l y_NS_isWithin [Cond.code y_NS_isWithin b_NS_isWithin 2 (some .boolean)] rm_NS_isWithin (hPc κ w_cl w_tl w_tb [.ref x0, .ref x1] h) (hQ κ w_cl (qI Q)) 0 0 (h_A κ) := by
  refine h_enter w_TBm (by decide) (Nat.le_of_ble_eq_true rfl) ?_
  intro p e s m args below meth c C0 hnm hh hS ls hl
  obtain ⟨hx, hb, hml, hown, hts, hK, hF0, hrt, hlocks⟩ := id C0
  have hl : lv_has ls 2 [(0, .ref x0), (1, .ref x1)] := hl
  refine lv_aload_n hx hb d_NS_isWithin_0 rfl (lv_at hl 0 rfl) ?_
  obtain ⟨fs19, j22, hr20, hk21, hw⟩ := hw
  refine h_get C0 hh hr20 hk21 rfl i_NS (by decide) k_f_NS_7 (fun _ h9 => h9) d_NS_isWithin_1 ?_
  refine lv_aload_n hx hb d_NS_isWithin_4 rfl (lv_at hl 1 rfl) ?_
  obtain ⟨fs23, j26, hr24, hk25, hw⟩ := hw
  refine h_get C0 hh hr24 hk25 rfl i_NS (by decide) k_f_NS_7 (fun _ h9 => h9) d_NS_isWithin_5 ?_
  refine lv_ldc2 (v := -1) hx hb hown (hts _ k_k_NS_16) d_NS_isWithin_8 ?_
  refine lv_lxor hx hb d_NS_isWithin_11 ?_
  refine lv_land hx hb d_NS_isWithin_12 ?_
  refine lv_lconst (v := 0) hx hb d_NS_isWithin_13 (by decide) ?_
  refine W.lcmp hx hb d_NS_isWithin_14 ?_
  refine lv_if_ne (tgt := 40) hx hb d_NS_isWithin_15 (by decide) (fun c27 => ?_) (fun c27 => ?_)
  · have hw := hw.1 (fun z => c27 ((lg_cmp_eq _ _).mpr z))
    refine lv_iconst (v := 0) hx hb d_NS_isWithin_40 (by decide) ?_
    exact h_iret C0 hh hS rfl rfl ⟨_, rfl, hw⟩ d_NS_isWithin_41
  · have hw := hw.2 ((lg_cmp_eq _ _).mp c27)
    refine lv_aload_n hx hb d_NS_isWithin_18 rfl (lv_at hl 0 rfl) ?_
    obtain ⟨fs28, j31, hr29, hk30, hw⟩ := hw
    refine h_get C0 hh hr29 hk30 rfl i_NS (by decide) k_f_NS_13 (fun _ h9 => h9) d_NS_isWithin_19 ?_
    refine lv_aload_n hx hb d_NS_isWithin_22 rfl (lv_at hl 1 rfl) ?_
    obtain ⟨fs32, j35, hr33, hk34, hw⟩ := hw
    refine h_get C0 hh hr33 hk34 rfl i_NS (by decide) k_f_NS_13 (fun _ h9 => h9) d_NS_isWithin_23 ?_
    refine lv_ldc2 (v := -1) hx hb hown (hts _ k_k_NS_16) d_NS_isWithin_26 ?_
    refine lv_lxor hx hb d_NS_isWithin_29 ?_
    refine lv_land hx hb d_NS_isWithin_30 ?_
    refine lv_lconst (v := 0) hx hb d_NS_isWithin_31 (by decide) ?_
    refine W.lcmp hx hb d_NS_isWithin_32 ?_
    refine lv_if_ne (tgt := 40) hx hb d_NS_isWithin_33 (by decide) (fun c36 => ?_) (fun c36 => ?_)
    · have hw := hw.1 (fun z => c36 ((lg_cmp_eq _ _).mpr z))
      refine lv_iconst (v := 0) hx hb d_NS_isWithin_40 (by decide) ?_
      exact h_iret C0 hh hS rfl rfl ⟨_, rfl, hw⟩ d_NS_isWithin_41
    · have hw := hw.2 ((lg_cmp_eq _ _).mp c36)
      refine lv_iconst (v := 1) hx hb d_NS_isWithin_36 (by decide) ?_
      refine lv_goto (tgt := 41) hx hb d_NS_isWithin_37 (by decide) ?_
      exact h_iret C0 hh hS rfl rfl ⟨_, rfl, hw⟩ d_NS_isWithin_41
set_option maxHeartbeats 4000000 in
set_option maxRecDepth 100000 in
theorem S_NS_drop {l : Launch} {κ : hX} (Q : hM → Prop) (h : hM) (x0 : Nat) (x1 : Int32) (hw : P_NS_drop Q h x0 x1) : Met l y_NS_drop [Cond.code y_NS_drop b_NS_drop 2 none] rm_NS_drop (hPc κ w_cl w_tl w_tb [.ref x0, .int x1] h) (hQ κ w_cl (qV Q)) 0 0 (h_A κ) := by
  refine h_enter w_TBm (by decide) (Nat.le_of_ble_eq_true rfl) ?_
  intro p e s m args below meth c C0 hnm hh hS ls hl
  obtain ⟨hx, hb, hml, hown, hts, hK, hF0, hrt, hlocks⟩ := id C0
  have hl : lv_has ls 2 [(0, .ref x0), (1, .int x1)] := hl
  refine lv_iload_n hx hb d_NS_drop_0 rfl (lv_at hl 1 rfl) ?_
  refine lv_bipush (v := 64) hx hb d_NS_drop_1 (by decide) ?_
  refine lv_icmp_ge (tgt := 25) hx hb d_NS_drop_3 (by decide) (fun c18 => ?_) (fun c18 => ?_)
  · have hw := hw.1 c18
    refine lv_aload_n hx hb d_NS_drop_25 rfl (lv_at hl 0 rfl) ?_
    refine lv_dup hx hb d_NS_drop_26 rfl ?_
    obtain ⟨fs19, j22, hr20, hk21, hw⟩ := hw
    refine h_get C0 hh hr20 hk21 rfl i_NS (by decide) k_f_NS_13 (fun _ h9 => h9) d_NS_drop_27 ?_
    refine lv_lconst (v := 1) hx hb d_NS_drop_30 (by decide) ?_
    refine lv_iload_n hx hb d_NS_drop_31 rfl (lv_at hl 1 rfl) ?_
    refine lv_bipush (v := 64) hx hb d_NS_drop_32 (by decide) ?_
    refine lv_isub hx hb d_NS_drop_34 ?_
    refine lv_lshl (v := ((1 : Int64) <<< ((x1 - (64 : Int32)).toInt64 &&& 63))) hx hb d_NS_drop_35 rfl ?_
    refine lv_ldc2 (v := -1) hx hb hown (hts _ k_k_NS_16) d_NS_drop_36 ?_
    refine lv_lxor hx hb d_NS_drop_39 ?_
    refine lv_land hx hb d_NS_drop_40 ?_
    obtain ⟨fs23, hr24, hk25, hw⟩ := hw
    refine h_put C0 hh hS (v := .long (j22 &&& ((((1 : Int64) <<< ((x1 - (64 : Int32)).toInt64 &&& 63))) ^^^ (-1 : Int64)))) hr24 hk25 rfl i_NS t_NS t_NS_ok n_NS (by decide) k_f_NS_13 (fun _ h9 => h9) rfl rfl rfl rfl d_NS_drop_41 (fun H locs hh hS => ?_)
    obtain ⟨h26, eh26⟩ : ∃ z : hM, z = h_up h x0 (eO 4 (fs23.set 1 (.long (j22 &&& ((((1 : Int64) <<< ((x1 - (64 : Int32)).toInt64 &&& 63))) ^^^ (-1 : Int64)))))) := ⟨_, rfl⟩
    rw [← eh26] at hh
    have hw := hw h26 eh26
    exact h_vret C0 hh hS rfl ⟨rfl, hw⟩ d_NS_drop_44
  · have hw := hw.2 c18
    refine lv_aload_n hx hb d_NS_drop_6 rfl (lv_at hl 0 rfl) ?_
    refine lv_dup hx hb d_NS_drop_7 rfl ?_
    obtain ⟨fs27, j30, hr28, hk29, hw⟩ := hw
    refine h_get C0 hh hr28 hk29 rfl i_NS (by decide) k_f_NS_7 (fun _ h9 => h9) d_NS_drop_8 ?_
    refine lv_lconst (v := 1) hx hb d_NS_drop_11 (by decide) ?_
    refine lv_iload_n hx hb d_NS_drop_12 rfl (lv_at hl 1 rfl) ?_
    refine lv_lshl (v := ((1 : Int64) <<< (x1.toInt64 &&& 63))) hx hb d_NS_drop_13 rfl ?_
    refine lv_ldc2 (v := -1) hx hb hown (hts _ k_k_NS_16) d_NS_drop_14 ?_
    refine lv_lxor hx hb d_NS_drop_17 ?_
    refine lv_land hx hb d_NS_drop_18 ?_
    obtain ⟨fs31, hr32, hk33, hw⟩ := hw
    refine h_put C0 hh hS (v := .long (j30 &&& ((((1 : Int64) <<< (x1.toInt64 &&& 63))) ^^^ (-1 : Int64)))) hr32 hk33 rfl i_NS t_NS t_NS_ok n_NS (by decide) k_f_NS_7 (fun _ h9 => h9) rfl rfl rfl rfl d_NS_drop_19 (fun H locs hh hS => ?_)
    obtain ⟨h34, eh34⟩ : ∃ z : hM, z = h_up h x0 (eO 4 (fs31.set 0 (.long (j30 &&& ((((1 : Int64) <<< (x1.toInt64 &&& 63))) ^^^ (-1 : Int64)))))) := ⟨_, rfl⟩
    rw [← eh34] at hh
    have hw := hw h34 eh34
    refine lv_goto (tgt := 44) hx hb d_NS_drop_22 (by decide) ?_
    exact h_vret C0 hh hS rfl ⟨rfl, hw⟩ d_NS_drop_44
end
section
set_option maxHeartbeats 4000000 in
set_option maxRecDepth 100000 in
theorem S_Load_init {l : Launch} {κ : hX} (Q : hM → Prop) (h : hM) (x0 : Nat) (hw : P_Load_init Q h x0) : Met l y_Load_init [Cond.code y_Load_init b_Load_init 1 none] rm_Load_init (hPc κ w_cl w_tl w_tb [.ref x0] h) (hQ κ w_cl (qV Q)) 3 42 (h_A κ) := by
  refine h_enter w_TBm (by decide) (Nat.le_of_ble_eq_true rfl) ?_
  intro p e s m args below meth c C0 hnm hh hS ls hl
  obtain ⟨hx, hb, hml, hown, hts, hK, hF0, hrt, hlocks⟩ := id C0
  have hl : lv_has ls 1 [(0, .ref x0)] := hl
  refine lv_aload_n hx hb d_Load_init_0 rfl (lv_at hl 0 rfl) ?_
  refine W.objInit hx hb hown (hts _ k_m_Load_3) (hts _ k_oi_inst) (hts _ k_oi_code) rfl (by rw [hml]; exact hl.1) rfl d_Load_init_1 (Nat.le_of_ble_eq_true rfl) (Nat.le_of_ble_eq_true rfl) ?_
  refine W.eq (g2 := F0 m 4 ls []) rfl ?_
  refine lv_aload_n hx hb d_Load_init_4 rfl (lv_at hl 0 rfl) ?_
  refine lv_bipush (v := 36) hx hb d_Load_init_5 (by decide) ?_
  refine h_newa C0 hh hS (t := 0) (y := (eT 0 36 (fun _ => 0))) (ty := .int) rfl rfl rfl (fun _ => rfl) (by decide) rfl (Nat.le_of_ble_eq_true rfl) k_arr_int (Nat.le_of_ble_eq_true rfl) (Nat.le_of_ble_eq_true rfl) d_Load_init_7 (fun q29 H hqq29 hzq29 hh hS => ?_)
  obtain ⟨h30, eh30⟩ : ∃ z : hM, z = h_up h q29 (eT 0 36 (fun _ => 0)) := ⟨_, rfl⟩
  rw [← eh30] at hh
  have hw := hw q29 hqq29 h30 eh30
  refine W.widen (k := 1) (n := 36) (Nat.le_of_ble_eq_true rfl) (Nat.le_of_ble_eq_true rfl) ?_
  obtain ⟨fs31, hr32, hk33, hw⟩ := hw
  refine h_putF C0 hh hS (v := .ref q29) hr32 hk33 rfl i_Load t_Load t_Load_ok n_Load (by decide) k_f_Load_9 (fun _ h9 => h9) rfl hnm rfl rfl rfl rfl d_Load_init_9 (fun H locs hh hS => ?_)
  obtain ⟨h34, eh34⟩ : ∃ z : hM, z = h_up h30 x0 (eO 2 (fs31.set 0 (.ref q29))) := ⟨_, rfl⟩
  rw [← eh34] at hh
  have hw := hw h34 eh34
  refine lv_aload_n hx hb d_Load_init_12 rfl (lv_at hl 0 rfl) ?_
  refine lv_iconst (v := 4) hx hb d_Load_init_13 (by decide) ?_
  refine h_newa C0 hh hS (t := 0) (y := (eT 0 4 (fun _ => 0))) (ty := .int) rfl rfl rfl (fun _ => rfl) (by decide) rfl (Nat.le_of_ble_eq_true rfl) k_arr_int (Nat.le_of_ble_eq_true rfl) (Nat.le_of_ble_eq_true rfl) d_Load_init_14 (fun q35 H hqq35 hzq35 hh hS => ?_)
  obtain ⟨h36, eh36⟩ : ∃ z : hM, z = h_up h34 q35 (eT 0 4 (fun _ => 0)) := ⟨_, rfl⟩
  rw [← eh36] at hh
  have hw := hw q35 hqq35 h36 eh36
  refine W.widen (k := 2) (n := 40) (Nat.le_of_ble_eq_true rfl) (Nat.le_of_ble_eq_true rfl) ?_
  obtain ⟨fs37, hr38, hk39, hw⟩ := hw
  refine h_putF C0 hh hS (v := .ref q35) hr38 hk39 rfl i_Load t_Load t_Load_ok n_Load (by decide) k_f_Load_15 (fun _ h9 => h9) rfl hnm rfl rfl rfl rfl d_Load_init_16 (fun H locs hh hS => ?_)
  obtain ⟨h40, eh40⟩ : ∃ z : hM, z = h_up h36 x0 (eO 2 (fs37.set 1 (.ref q35))) := ⟨_, rfl⟩
  rw [← eh40] at hh
  have hw := hw h40 eh40
  refine lv_aload_n hx hb d_Load_init_19 rfl (lv_at hl 0 rfl) ?_
  refine h_new C0 hh hS (ci := 4) (fs := [.long 0, .long 0]) rfl i_NS t_NS t_NS_ok k_c_Load_18 k_made_NS k_ini_NS def_NS (Nat.le_of_ble_eq_true rfl) (Nat.le_of_ble_eq_true rfl) d_Load_init_20 (fun q41 H hqq41 hzq41 hh hS => ?_)
  obtain ⟨h42, eh42⟩ : ∃ z : hM, z = h_up h40 q41 (eO 4 [.long 0, .long 0]) := ⟨_, rfl⟩
  rw [← eh42] at hh
  have hw := hw q41 hqq41 h42 eh42
  refine W.widen (k := 3) (n := 42) (Nat.le_of_ble_eq_true rfl) (Nat.le_of_ble_eq_true rfl) ?_
  refine lv_dup hx hb d_Load_init_23 rfl ?_
  refine h_callI (n := 0) C0 w_TBm hh hS hl.1 [] [.ref q41, .ref x0] (S_NS_init _ _ _ hw) k_m_Load_20 k_inst_NS_init rfl k_ini_NS k_code_NS_init (by decide +kernel) rfl rfl (Nat.le_of_ble_eq_true rfl) ⟨(Nat.le_of_ble_eq_true rfl), (Nat.le_of_ble_eq_true rfl)⟩ ⟨(Nat.le_of_ble_eq_true rfl), (Nat.le_of_ble_eq_true rfl)⟩ d_Load_init_24 (h_kV (k := 3) (n := 42) (Nat.le_of_ble_eq_true rfl) (Nat.le_of_ble_eq_true rfl) (fun h43 H locs hw hh hS => ?_))
  obtain ⟨fs45, hr46, hk47, hw⟩ := hw
  refine h_putF C0 hh hS (v := .ref q41) hr46 hk47 rfl i_Load t_Load t_Load_ok n_Load (by decide) k_f_Load_21 (fun _ h9 => h9) rfl hnm rfl rfl rfl rfl d_Load_init_27 (fun H locs hh hS => ?_)
  obtain ⟨h48, eh48⟩ : ∃ z : hM, z = h_up h43 x0 (eO 2 (fs45.set 2 (.ref q41))) := ⟨_, rfl⟩
  rw [← eh48] at hh
  have hw := hw h48 eh48
  refine lv_aload_n hx hb d_Load_init_30 rfl (lv_at hl 0 rfl) ?_
  refine lv_iconst (v := 0) hx hb d_Load_init_31 (by decide) ?_
  obtain ⟨fs49, hr50, hk51, hw⟩ := hw
  refine h_put C0 hh hS (v := .int (0 : Int32)) hr50 hk51 rfl i_Load t_Load t_Load_ok n_Load (by decide) k_f_Load_25 (fun _ h9 => h9) rfl rfl rfl rfl d_Load_init_32 (fun H locs hh hS => ?_)
  obtain ⟨h52, eh52⟩ : ∃ z : hM, z = h_up h48 x0 (eO 2 (fs49.set 3 (.int (0 : Int32)))) := ⟨_, rfl⟩
  rw [← eh52] at hh
  have hw := hw h52 eh52
  refine lv_aload_n hx hb d_Load_init_35 rfl (lv_at hl 0 rfl) ?_
  refine lv_iconst (v := 0) hx hb d_Load_init_36 (by decide) ?_
  obtain ⟨fs53, hr54, hk55, hw⟩ := hw
  refine h_put C0 hh hS (v := .int (0 : Int32)) hr54 hk55 rfl i_Load t_Load t_Load_ok n_Load (by decide) k_f_Load_29 (fun _ h9 => h9) rfl rfl rfl rfl d_Load_init_37 (fun H locs hh hS => ?_)
  obtain ⟨h56, eh56⟩ : ∃ z : hM, z = h_up h52 x0 (eO 2 (fs53.set 4 (.int (0 : Int32)))) := ⟨_, rfl⟩
  rw [← eh56] at hh
  have hw := hw h56 eh56
  exact h_vret C0 hh hS rfl ⟨rfl, hw⟩ d_Load_init_40
set_option maxHeartbeats 4000000 in
set_option maxRecDepth 100000 in
theorem S_Ini_init_14 {p : Program} {l : Launch} {e : Env} {s : State} {m : MethodId} {args : Array Value} {below : List Frame} {meth : Method} {c : Code} {κ : hX} {Q : hM → Prop} (C0 : Cw κ w_cl w_tl w_tb p s m args meth c b_Ini_init 2 R_Ini none) (hnm : meth.name = "<init>") : ∀ (n : Nat) (h : hM) (x0 : Nat) (x1 : Int32) (H : Heap) (locs : List Loc) (ls : Array Slot), L_Ini_init_14 Q n h x0 x1 → hp κ w_cl h H → va_S (h_A κ) s.heap H locs → lv_has ls 2 [(0, .ref x0), (1, .int x1)] → W p l e rm_Ini_init s m args below meth c H locs 1 8 (MQ below (hQ κ w_cl (qV Q)) args s 1 8 (h_A κ)) (F0 m 14 ls []) := by
  obtain ⟨hx, hb, hml, hown, hts, hK, hF0, hrt, hlocks⟩ := id C0
  intro n
  induction n with
  | zero =>
    intro h x0 x1 H locs ls hw
    exact hw.elim
  | succ n hK14 =>
    intro h x0 x1 H locs ls hw hh hS hl
    have hw : P_Ini_init_14 Q (L_Ini_init_14 Q n) h x0 x1 := hw
    refine lv_iload_n hx hb d_Ini_init_14 rfl (lv_at hl 1 rfl) ?_
    refine lv_aload_n hx hb d_Ini_init_15 rfl (lv_at hl 0 rfl) ?_
    obtain ⟨fs65, r68, hr66, hk67, hw⟩ := hw
    refine h_get C0 hh hr66 hk67 rfl i_Ini (by decide) k_f_Ini_9 (fun _ h9 => h9) d_Ini_init_16 ?_
    obtain ⟨n69, f70, hr71, hw⟩ := hw
    refine h_alenT C0 hh hr71 (rfl : w_tl[0]? = _) d_Ini_init_19 ?_
    refine lv_icmp_ge (tgt := 36) hx hb d_Ini_init_20 (by decide) (fun c72 => ?_) (fun c72 => ?_)
    · have hw := hw.1 c72
      refine lv_aload_n hx hb d_Ini_init_36 rfl (lv_at hl 0 rfl) ?_
      refine lv_iconst (v := 0) hx hb d_Ini_init_37 (by decide) ?_
      obtain ⟨fs73, hr74, hk75, hw⟩ := hw
      refine h_put C0 hh hS (v := .int (0 : Int32)) hr74 hk75 rfl i_Ini t_Ini t_Ini_ok n_Ini (by decide) k_f_Ini_15 (fun _ h9 => h9) rfl rfl rfl rfl d_Ini_init_38 (fun H locs hh hS => ?_)
      obtain ⟨h76, eh76⟩ : ∃ z : hM, z = h_up h x0 (eO 3 (fs73.set 1 (.int (0 : Int32)))) := ⟨_, rfl⟩
      rw [← eh76] at hh
      have hw := hw h76 eh76
      refine lv_aload_n hx hb d_Ini_init_41 rfl (lv_at hl 0 rfl) ?_
      refine lv_iconst (v := 0) hx hb d_Ini_init_42 (by decide) ?_
      obtain ⟨fs77, hr78, hk79, hw⟩ := hw
      refine h_put C0 hh hS (v := .int (0 : Int32)) hr78 hk79 rfl i_Ini t_Ini t_Ini_ok n_Ini (by decide) k_f_Ini_19 (fun _ h9 => h9) rfl rfl rfl rfl d_Ini_init_43 (fun H locs hh hS => ?_)
      obtain ⟨h80, eh80⟩ : ∃ z : hM, z = h_up h76 x0 (eO 3 (fs77.set 2 (.int (0 : Int32)))) := ⟨_, rfl⟩
      rw [← eh80] at hh
      have hw := hw h80 eh80
      exact h_vret C0 hh hS rfl ⟨rfl, hw⟩ d_Ini_init_46
    · have hw := hw.2 c72
      refine lv_aload_n hx hb d_Ini_init_23 rfl (lv_at hl 0 rfl) ?_
      obtain ⟨fs81, r84, hr82, hk83, hw⟩ := hw
      refine h_get C0 hh hr82 hk83 rfl i_Ini (by decide) k_f_Ini_9 (fun _ h9 => h9) d_Ini_init_24 ?_
      refine lv_iload_n hx hb d_Ini_init_27 rfl (lv_at hl 1 rfl) ?_
      refine lv_iconst (v := -1) hx hb d_Ini_init_28 (by decide) ?_
      obtain ⟨n85, f86, hr87, hi88, hw⟩ := hw
      refine h_iast C0 hh hS hr87 hi88 rfl d_Ini_init_29 (fun H locs hh hS => ?_)
      obtain ⟨h89, eh89⟩ : ∃ z : hM, z = h_up h r84 (eT 0 n85 (upd f86 x1.toNatClampNeg (-1 : Int32))) := ⟨_, rfl⟩
      rw [← eh89] at hh
      have hw := hw h89 eh89
      obtain ⟨x1_90, ex1_90⟩ : ∃ z : Int32, z = x1 + 1 := ⟨_, rfl⟩
      have hw := hw x1_90 ex1_90
      refine lv_iinc (v := x1_90) (lv' := [(1, .int x1_90), (0, .ref x0)]) hx hb d_Ini_init_30 hl (k := 1) rfl (by rw [ex1_90]; rfl) (by decide) rfl (fun ls hl => ?_)
      refine lv_goto (tgt := 14) hx hb d_Ini_init_33 (by decide) ?_
      exact hK14 _ _ _ _ _ _ hw hh hS (lv_sub hl [1, 0] rfl)
set_option maxHeartbeats 4000000 in
set_option maxRecDepth 100000 in
theorem S_Ini_init {l : Launch} {κ : hX} (Q : hM → Prop) (h : hM) (x0 : Nat) (hw : P_Ini_init Q h x0) : Met l y_Ini_init [Cond.code y_Ini_init b_Ini_init 2 none] rm_Ini_init (hPc κ w_cl w_tl w_tb [.ref x0] h) (hQ κ w_cl (qV Q)) 1 8 (h_A κ) := by
  refine h_enter w_TBm (by decide) (Nat.le_of_ble_eq_true rfl) ?_
  intro p e s m args below meth c C0 hnm hh hS ls hl
  obtain ⟨hx, hb, hml, hown, hts, hK, hF0, hrt, hlocks⟩ := id C0
  have hl : lv_has ls 2 [(0, .ref x0)] := hl
  refine lv_aload_n hx hb d_Ini_init_0 rfl (lv_at hl 0 rfl) ?_
  refine W.objInit hx hb hown (hts _ k_m_Ini_3) (hts _ k_oi_inst) (hts _ k_oi_code) rfl (by rw [hml]; exact hl.1) rfl d_Ini_init_1 (Nat.le_of_ble_eq_true rfl) (Nat.le_of_ble_eq_true rfl) ?_
  refine W.eq (g2 := F0 m 4 ls []) rfl ?_
  refine lv_aload_n hx hb d_Ini_init_4 rfl (lv_at hl 0 rfl) ?_
  refine lv_bipush (v := 8) hx hb d_Ini_init_5 (by decide) ?_
  refine h_newa C0 hh hS (t := 0) (y := (eT 0 8 (fun _ => 0))) (ty := .int) rfl rfl rfl (fun _ => rfl) (by decide) rfl (Nat.le_of_ble_eq_true rfl) k_arr_int (Nat.le_of_ble_eq_true rfl) (Nat.le_of_ble_eq_true rfl) d_Ini_init_7 (fun q91 H hqq91 hzq91 hh hS => ?_)
  obtain ⟨h92, eh92⟩ : ∃ z : hM, z = h_up h q91 (eT 0 8 (fun _ => 0)) := ⟨_, rfl⟩
  rw [← eh92] at hh
  have hw := hw q91 hqq91 h92 eh92
  refine W.widen (k := 1) (n := 8) (Nat.le_of_ble_eq_true rfl) (Nat.le_of_ble_eq_true rfl) ?_
  obtain ⟨fs93, hr94, hk95, hw⟩ := hw
  refine h_putF C0 hh hS (v := .ref q91) hr94 hk95 rfl i_Ini t_Ini t_Ini_ok n_Ini (by decide) k_f_Ini_9 (fun _ h9 => h9) rfl hnm rfl rfl rfl rfl d_Ini_init_9 (fun H locs hh hS => ?_)
  obtain ⟨h96, eh96⟩ : ∃ z : hM, z = h_up h92 x0 (eO 3 (fs93.set 0 (.ref q91))) := ⟨_, rfl⟩
  rw [← eh96] at hh
  have hw := hw h96 eh96
  refine lv_iconst (v := 0) hx hb d_Ini_init_12 (by decide) ?_
  refine lv_istore_n (lv' := [(1, .int (0 : Int32)), (0, .ref x0)]) hx hb d_Ini_init_13 rfl hl (by decide) rfl (fun ls hl => ?_)
  obtain ⟨n0, hw⟩ := hw
  exact S_Ini_init_14 C0 hnm n0 _ _ _ _ _ _ hw hh hS (lv_sub hl [1, 0] rfl)
set_option maxHeartbeats 4000000 in
set_option maxRecDepth 100000 in
theorem S_Job_init {l : Launch} {κ : hX} (Q : hM → Prop) (h : hM) (x0 : Nat) (x1 : Int32) (x2 : Int32) (x3 : Int32) (x4 : Int32) (x5 : Int64) (hw : P_Job_init Q h x0 x1 x2 x3 x4 x5) : Met l y_Job_init [Cond.code y_Job_init b_Job_init 7 none] rm_Job_init (hPc κ w_cl w_tl w_tb [.ref x0, .int x1, .int x2, .int x3, .int x4, .long x5] h) (hQ κ w_cl (qV Q)) 2 6 (h_A κ) := by
  refine h_enter w_TBm (by decide) (Nat.le_of_ble_eq_true rfl) ?_
  intro p e s m args below meth c C0 hnm hh hS ls hl
  obtain ⟨hx, hb, hml, hown, hts, hK, hF0, hrt, hlocks⟩ := id C0
  have hl : lv_has ls 7 [(0, .ref x0), (1, .int x1), (2, .int x2), (3, .int x3), (4, .int x4), (5, .long x5)] := hl
  refine lv_aload_n hx hb d_Job_init_0 rfl (lv_at hl 0 rfl) ?_
  refine W.objInit hx hb hown (hts _ k_m_Job_3) (hts _ k_oi_inst) (hts _ k_oi_code) rfl (by rw [hml]; exact hl.1) rfl d_Job_init_1 (Nat.le_of_ble_eq_true rfl) (Nat.le_of_ble_eq_true rfl) ?_
  refine W.eq (g2 := F0 m 4 ls []) rfl ?_
  refine lv_aload_n hx hb d_Job_init_4 rfl (lv_at hl 0 rfl) ?_
  refine lv_iload_n hx hb d_Job_init_5 rfl (lv_at hl 1 rfl) ?_
  obtain ⟨fs47, hr48, hk49, hw⟩ := hw
  refine h_putF C0 hh hS (v := .int x1) hr48 hk49 rfl i_Job t_Job t_Job_ok n_Job (by decide) k_f_Job_9 (fun _ h9 => h9) rfl hnm rfl rfl rfl rfl d_Job_init_6 (fun H locs hh hS => ?_)
  obtain ⟨h50, eh50⟩ : ∃ z : hM, z = h_up h x0 (eO 1 (fs47.set 0 (.int x1))) := ⟨_, rfl⟩
  rw [← eh50] at hh
  have hw := hw h50 eh50
  refine lv_aload_n hx hb d_Job_init_9 rfl (lv_at hl 0 rfl) ?_
  refine lv_iload_n hx hb d_Job_init_10 rfl (lv_at hl 2 rfl) ?_
  obtain ⟨fs51, hr52, hk53, hw⟩ := hw
  refine h_putF C0 hh hS (v := .int x2) hr52 hk53 rfl i_Job t_Job t_Job_ok n_Job (by decide) k_f_Job_15 (fun _ h9 => h9) rfl hnm rfl rfl rfl rfl d_Job_init_11 (fun H locs hh hS => ?_)
  obtain ⟨h54, eh54⟩ : ∃ z : hM, z = h_up h50 x0 (eO 1 (fs51.set 1 (.int x2))) := ⟨_, rfl⟩
  rw [← eh54] at hh
  have hw := hw h54 eh54
  refine lv_aload_n hx hb d_Job_init_14 rfl (lv_at hl 0 rfl) ?_
  refine lv_iload_n hx hb d_Job_init_15 rfl (lv_at hl 3 rfl) ?_
  obtain ⟨fs55, hr56, hk57, hw⟩ := hw
  refine h_putF C0 hh hS (v := .int x3) hr56 hk57 rfl i_Job t_Job t_Job_ok n_Job (by decide) k_f_Job_18 (fun _ h9 => h9) rfl hnm rfl rfl rfl rfl d_Job_init_16 (fun H locs hh hS => ?_)
  obtain ⟨h58, eh58⟩ : ∃ z : hM, z = h_up h54 x0 (eO 1 (fs55.set 2 (.int x3))) := ⟨_, rfl⟩
  rw [← eh58] at hh
  have hw := hw h58 eh58
  refine lv_aload_n hx hb d_Job_init_19 rfl (lv_at hl 0 rfl) ?_
  refine lv_iload hx hb d_Job_init_20 (lv_at hl 4 rfl) ?_
  obtain ⟨fs59, hr60, hk61, hw⟩ := hw
  refine h_putF C0 hh hS (v := .int x4) hr60 hk61 rfl i_Job t_Job t_Job_ok n_Job (by decide) k_f_Job_21 (fun _ h9 => h9) rfl hnm rfl rfl rfl rfl d_Job_init_22 (fun H locs hh hS => ?_)
  obtain ⟨h62, eh62⟩ : ∃ z : hM, z = h_up h58 x0 (eO 1 (fs59.set 3 (.int x4))) := ⟨_, rfl⟩
  rw [← eh62] at hh
  have hw := hw h62 eh62
  refine lv_aload_n hx hb d_Job_init_25 rfl (lv_at hl 0 rfl) ?_
  refine lv_lload hx hb d_Job_init_26 (lv_at hl 5 rfl) ?_
  obtain ⟨fs63, hr64, hk65, hw⟩ := hw
  refine h_putF C0 hh hS (v := .long x5) hr64 hk65 rfl i_Job t_Job t_Job_ok n_Job (by decide) k_f_Job_24 (fun _ h9 => h9) rfl hnm rfl rfl rfl rfl d_Job_init_28 (fun H locs hh hS => ?_)
  obtain ⟨h66, eh66⟩ : ∃ z : hM, z = h_up h62 x0 (eO 1 (fs63.set 4 (.long x5))) := ⟨_, rfl⟩
  rw [← eh66] at hh
  have hw := hw h66 eh66
  refine lv_aload_n hx hb d_Job_init_31 rfl (lv_at hl 0 rfl) ?_
  refine lv_iconst (v := 4) hx hb d_Job_init_32 (by decide) ?_
  refine h_newa C0 hh hS (t := 0) (y := (eT 0 4 (fun _ => 0))) (ty := .int) rfl rfl rfl (fun _ => rfl) (by decide) rfl (Nat.le_of_ble_eq_true rfl) k_arr_int (Nat.le_of_ble_eq_true rfl) (Nat.le_of_ble_eq_true rfl) d_Job_init_33 (fun q67 H hqq67 hzq67 hh hS => ?_)
  obtain ⟨h68, eh68⟩ : ∃ z : hM, z = h_up h66 q67 (eT 0 4 (fun _ => 0)) := ⟨_, rfl⟩
  rw [← eh68] at hh
  have hw := hw q67 hqq67 h68 eh68
  refine W.widen (k := 1) (n := 4) (Nat.le_of_ble_eq_true rfl) (Nat.le_of_ble_eq_true rfl) ?_
  obtain ⟨fs69, hr70, hk71, hw⟩ := hw
  refine h_putF C0 hh hS (v := .ref q67) hr70 hk71 rfl i_Job t_Job t_Job_ok n_Job (by decide) k_f_Job_28 (fun _ h9 => h9) rfl hnm rfl rfl rfl rfl d_Job_init_35 (fun H locs hh hS => ?_)
  obtain ⟨h72, eh72⟩ : ∃ z : hM, z = h_up h68 x0 (eO 1 (fs69.set 5 (.ref q67))) := ⟨_, rfl⟩
  rw [← eh72] at hh
  have hw := hw h72 eh72
  refine lv_aload_n hx hb d_Job_init_38 rfl (lv_at hl 0 rfl) ?_
  refine h_new C0 hh hS (ci := 4) (fs := [.long 0, .long 0]) rfl i_NS t_NS t_NS_ok k_c_Job_32 k_made_NS k_ini_NS def_NS (Nat.le_of_ble_eq_true rfl) (Nat.le_of_ble_eq_true rfl) d_Job_init_39 (fun q73 H hqq73 hzq73 hh hS => ?_)
  obtain ⟨h74, eh74⟩ : ∃ z : hM, z = h_up h72 q73 (eO 4 [.long 0, .long 0]) := ⟨_, rfl⟩
  rw [← eh74] at hh
  have hw := hw q73 hqq73 h74 eh74
  refine W.widen (k := 2) (n := 6) (Nat.le_of_ble_eq_true rfl) (Nat.le_of_ble_eq_true rfl) ?_
  refine lv_dup hx hb d_Job_init_42 rfl ?_
  refine h_callI (n := 0) C0 w_TBm hh hS hl.1 [] [.ref q73, .ref x0] (S_NS_init _ _ _ hw) k_m_Job_34 k_inst_NS_init rfl k_ini_NS k_code_NS_init (by decide +kernel) rfl rfl (Nat.le_of_ble_eq_true rfl) ⟨(Nat.le_of_ble_eq_true rfl), (Nat.le_of_ble_eq_true rfl)⟩ ⟨(Nat.le_of_ble_eq_true rfl), (Nat.le_of_ble_eq_true rfl)⟩ d_Job_init_43 (h_kV (k := 2) (n := 6) (Nat.le_of_ble_eq_true rfl) (Nat.le_of_ble_eq_true rfl) (fun h75 H locs hw hh hS => ?_))
  obtain ⟨fs77, hr78, hk79, hw⟩ := hw
  refine h_putF C0 hh hS (v := .ref q73) hr78 hk79 rfl i_Job t_Job t_Job_ok n_Job (by decide) k_f_Job_35 (fun _ h9 => h9) rfl hnm rfl rfl rfl rfl d_Job_init_46 (fun H locs hh hS => ?_)
  obtain ⟨h80, eh80⟩ : ∃ z : hM, z = h_up h75 x0 (eO 1 (fs77.set 6 (.ref q73))) := ⟨_, rfl⟩
  rw [← eh80] at hh
  have hw := hw h80 eh80
  refine lv_aload_n hx hb d_Job_init_49 rfl (lv_at hl 0 rfl) ?_
  refine lv_iconst (v := 0) hx hb d_Job_init_50 (by decide) ?_
  obtain ⟨fs81, hr82, hk83, hw⟩ := hw
  refine h_put C0 hh hS (v := .int (0 : Int32)) hr82 hk83 rfl i_Job t_Job t_Job_ok n_Job (by decide) k_f_Job_39 (fun _ h9 => h9) rfl rfl rfl rfl d_Job_init_51 (fun H locs hh hS => ?_)
  obtain ⟨h84, eh84⟩ : ∃ z : hM, z = h_up h80 x0 (eO 1 (fs81.set 7 (.int (0 : Int32)))) := ⟨_, rfl⟩
  rw [← eh84] at hh
  have hw := hw h84 eh84
  refine lv_aload_n hx hb d_Job_init_54 rfl (lv_at hl 0 rfl) ?_
  refine lv_iconst (v := 0) hx hb d_Job_init_55 (by decide) ?_
  obtain ⟨fs85, hr86, hk87, hw⟩ := hw
  refine h_put C0 hh hS (v := .int (0 : Int32)) hr86 hk87 rfl i_Job t_Job t_Job_ok n_Job (by decide) k_f_Job_43 (fun _ h9 => h9) rfl rfl rfl rfl d_Job_init_56 (fun H locs hh hS => ?_)
  obtain ⟨h88, eh88⟩ : ∃ z : hM, z = h_up h84 x0 (eO 1 (fs85.set 8 (.int (0 : Int32)))) := ⟨_, rfl⟩
  rw [← eh88] at hh
  have hw := hw h88 eh88
  refine lv_aload_n hx hb d_Job_init_59 rfl (lv_at hl 0 rfl) ?_
  refine lv_lload hx hb d_Job_init_60 (lv_at hl 5 rfl) ?_
  obtain ⟨fs89, hr90, hk91, hw⟩ := hw
  refine h_put C0 hh hS (v := .long x5) hr90 hk91 rfl i_Job t_Job t_Job_ok n_Job (by decide) k_f_Job_46 (fun _ h9 => h9) rfl rfl rfl rfl d_Job_init_62 (fun H locs hh hS => ?_)
  obtain ⟨h92, eh92⟩ : ∃ z : hM, z = h_up h88 x0 (eO 1 (fs89.set 9 (.long x5))) := ⟨_, rfl⟩
  rw [← eh92] at hh
  have hw := hw h92 eh92
  exact h_vret C0 hh hS rfl ⟨rfl, hw⟩ d_Job_init_65
set_option maxHeartbeats 4000000 in
set_option maxRecDepth 100000 in
theorem S_Job_isWaiting {l : Launch} {κ : hX} (Q : Int32 → hM → Prop) (h : hM) (x0 : Nat) (hw : P_Job_isWaiting Q h x0) : Met l y_Job_isWaiting [Cond.code y_Job_isWaiting b_Job_isWaiting 1 (some .boolean)] rm_Job_isWaiting (hPc κ w_cl w_tl w_tb [.ref x0] h) (hQ κ w_cl (qI Q)) 0 0 (h_A κ) := by
  refine h_enter w_TBm (by decide) (Nat.le_of_ble_eq_true rfl) ?_
  intro p e s m args below meth c C0 hnm hh hS ls hl
  obtain ⟨hx, hb, hml, hown, hts, hK, hF0, hrt, hlocks⟩ := id C0
  have hl : lv_has ls 1 [(0, .ref x0)] := hl
  refine lv_aload_n hx hb d_Job_isWaiting_0 rfl (lv_at hl 0 rfl) ?_
  obtain ⟨fs11, i14, hr12, hk13, hw⟩ := hw
  refine h_get C0 hh hr12 hk13 rfl i_Job (by decide) k_f_Job_43 (fun _ h9 => h9) d_Job_isWaiting_1 ?_
  refine lv_if_eq (tgt := 15) hx hb d_Job_isWaiting_4 (by decide) (fun c15 => ?_) (fun c15 => ?_)
  · have hw := hw.1 c15
    refine lv_iconst (v := 1) hx hb d_Job_isWaiting_15 (by decide) ?_
    refine lv_goto (tgt := 20) hx hb d_Job_isWaiting_16 (by decide) ?_
    exact h_iret C0 hh hS rfl rfl ⟨_, rfl, hw⟩ d_Job_isWaiting_20
  · have hw := hw.2 c15
    refine lv_aload_n hx hb d_Job_isWaiting_7 rfl (lv_at hl 0 rfl) ?_
    obtain ⟨fs16, i19, hr17, hk18, hw⟩ := hw
    refine h_get C0 hh hr17 hk18 rfl i_Job (by decide) k_f_Job_43 (fun _ h9 => h9) d_Job_isWaiting_8 ?_
    refine lv_iconst (v := 1) hx hb d_Job_isWaiting_11 (by decide) ?_
    refine lv_icmp_ne (tgt := 19) hx hb d_Job_isWaiting_12 (by decide) (fun c20 => ?_) (fun c20 => ?_)
    · have hw := hw.1 c20
      refine lv_iconst (v := 0) hx hb d_Job_isWaiting_19 (by decide) ?_
      exact h_iret C0 hh hS rfl rfl ⟨_, rfl, hw⟩ d_Job_isWaiting_20
    · have hw := hw.2 c20
      refine lv_iconst (v := 1) hx hb d_Job_isWaiting_15 (by decide) ?_
      refine lv_goto (tgt := 20) hx hb d_Job_isWaiting_16 (by decide) ?_
      exact h_iret C0 hh hS rfl rfl ⟨_, rfl, hw⟩ d_Job_isWaiting_20
set_option maxHeartbeats 4000000 in
set_option maxRecDepth 100000 in
theorem S_Load_take_15 {p : Program} {l : Launch} {e : Env} {s : State} {m : MethodId} {args : Array Value} {below : List Frame} {meth : Method} {c : Code} {κ : hX} {Q : hM → Prop} (C0 : Cw κ w_cl w_tl w_tb p s m args meth c b_Load_take 3 R_Load none) : ∀ (n : Nat) (h : hM) (x0 : Nat) (x1 : Nat) (x2 : Int32) (H : Heap) (locs : List Loc) (ls : Array Slot), L_Load_take_15 Q n h x0 x1 x2 → hp κ w_cl h H → va_S (h_A κ) s.heap H locs → lv_has ls 3 [(0, .ref x0), (1, .ref x1), (2, .int x2)] → W p l e rm_Load_take s m args below meth c H locs 0 0 (MQ below (hQ κ w_cl (qV Q)) args s 0 0 (h_A κ)) (F0 m 15 ls []) := by
  obtain ⟨hx, hb, hml, hown, hts, hK, hF0, hrt, hlocks⟩ := id C0
  intro n
  induction n with
  | zero =>
    intro h x0 x1 x2 H locs ls hw
    exact hw.elim
  | succ n hK15 =>
    intro h x0 x1 x2 H locs ls hw hh hS hl
    have hw : P_Load_take_15 Q (L_Load_take_15 Q n) h x0 x1 x2 := hw
    refine lv_iload_n hx hb d_Load_take_15 rfl (lv_at hl 2 rfl) ?_
    refine lv_iconst (v := 4) hx hb d_Load_take_16 (by decide) ?_
    refine lv_icmp_ge (tgt := 41) hx hb d_Load_take_17 (by decide) (fun c137 => ?_) (fun c137 => ?_)
    · have hw := hw.1 c137
      refine lv_aload_n hx hb d_Load_take_41 rfl (lv_at hl 0 rfl) ?_
      obtain ⟨fs138, r141, hr139, hk140, hw⟩ := hw
      refine h_get C0 hh hr139 hk140 rfl i_Load (by decide) k_f_Load_21 (fun _ h9 => h9) d_Load_take_42 ?_
      refine lv_aload_n hx hb d_Load_take_45 rfl (lv_at hl 1 rfl) ?_
      obtain ⟨fs142, i145, hr143, hk144, hw⟩ := hw
      refine h_get C0 hh hr143 hk144 rfl i_Job (by decide) k_f_Load_39 (fun _ h9 => h9) d_Load_take_46 ?_
      obtain ⟨fs146, hr147, hw⟩ := hw
      refine h_callV (n := 1) C0 w_TBm hh hS hl.1 [.int i145] [] (S_NS_put _ _ _ _ hw) hr147 rfl k_m_Load_42 k_inst_NS_put k_sel_NS_put k_ini_NS k_code_NS_put (by decide +kernel) rfl rfl (Nat.le_of_ble_eq_true rfl) ⟨(Nat.le_of_ble_eq_true rfl), (Nat.le_of_ble_eq_true rfl)⟩ ⟨(Nat.le_of_ble_eq_true rfl), (Nat.le_of_ble_eq_true rfl)⟩ d_Load_take_49 (h_kV (k := 0) (n := 0) (Nat.le_of_ble_eq_true rfl) (Nat.le_of_ble_eq_true rfl) (fun h148 H locs hw hh hS => ?_))
      refine lv_aload_n hx hb d_Load_take_52 rfl (lv_at hl 0 rfl) ?_
      refine lv_dup hx hb d_Load_take_53 rfl ?_
      obtain ⟨fs150, i153, hr151, hk152, hw⟩ := hw
      refine h_get C0 hh hr151 hk152 rfl i_Load (by decide) k_f_Load_25 (fun _ h9 => h9) d_Load_take_54 ?_
      refine lv_iconst (v := 1) hx hb d_Load_take_57 (by decide) ?_
      refine lv_iadd hx hb d_Load_take_58 ?_
      obtain ⟨fs154, hr155, hk156, hw⟩ := hw
      refine h_put C0 hh hS (v := .int (i153 + (1 : Int32))) hr155 hk156 rfl i_Load t_Load t_Load_ok n_Load (by decide) k_f_Load_25 (fun _ h9 => h9) rfl rfl rfl rfl d_Load_take_59 (fun H locs hh hS => ?_)
      obtain ⟨h157, eh157⟩ : ∃ z : hM, z = h_up h148 x0 (eO 2 (fs154.set 3 (.int (i153 + (1 : Int32))))) := ⟨_, rfl⟩
      rw [← eh157] at hh
      have hw := hw h157 eh157
      refine lv_aload_n hx hb d_Load_take_62 rfl (lv_at hl 0 rfl) ?_
      refine lv_aload_n hx hb d_Load_take_63 rfl (lv_at hl 1 rfl) ?_
      obtain ⟨fs158, i161, hr159, hk160, hw⟩ := hw
      refine h_get C0 hh hr159 hk160 rfl i_Job (by decide) k_f_Load_46 (fun _ h9 => h9) d_Load_take_64 ?_
      obtain ⟨hz9, hw⟩ := hw
      obtain ⟨fs162, hr163, hk164, hw⟩ := hw
      refine h_put C0 hh hS (v := .int i161) hr163 hk164 rfl i_Load t_Load t_Load_ok n_Load (by decide) k_f_Load_29 (fun _ h9 => h9) rfl rfl (h_nz hz9) (h_fz hz9) d_Load_take_67 (fun H locs hh hS => ?_)
      obtain ⟨h165, eh165⟩ : ∃ z : hM, z = h_up h157 x0 (eO 2 (fs162.set 4 (.int i161))) := ⟨_, rfl⟩
      rw [← eh165] at hh
      have hw := hw h165 eh165
      exact h_vret C0 hh hS rfl ⟨rfl, hw⟩ d_Load_take_70
    · have hw := hw.2 c137
      refine lv_aload_n hx hb d_Load_take_20 rfl (lv_at hl 0 rfl) ?_
      obtain ⟨fs166, r169, hr167, hk168, hw⟩ := hw
      refine h_get C0 hh hr167 hk168 rfl i_Load (by decide) k_f_Load_15 (fun _ h9 => h9) d_Load_take_21 ?_
      refine lv_iload_n hx hb d_Load_take_24 rfl (lv_at hl 2 rfl) ?_
      refine lv_dup2_11 hx hb d_Load_take_25 rfl rfl ?_
      obtain ⟨n170, f171, hr172, hi173, hw⟩ := hw
      refine h_iald C0 hh hr172 hi173 rfl d_Load_take_26 ?_
      refine lv_aload_n hx hb d_Load_take_27 rfl (lv_at hl 1 rfl) ?_
      obtain ⟨fs174, r177, hr175, hk176, hw⟩ := hw
      refine h_get C0 hh hr175 hk176 rfl i_Job (by decide) k_f_Load_38 (fun _ h9 => h9) d_Load_take_28 ?_
      refine lv_iload_n hx hb d_Load_take_31 rfl (lv_at hl 2 rfl) ?_
      obtain ⟨n178, f179, hr180, hi181, hw⟩ := hw
      refine h_iald C0 hh hr180 hi181 rfl d_Load_take_32 ?_
      refine lv_iadd hx hb d_Load_take_33 ?_
      obtain ⟨n182, f183, hr184, hi185, hw⟩ := hw
      refine h_iast C0 hh hS hr184 hi185 rfl d_Load_take_34 (fun H locs hh hS => ?_)
      obtain ⟨h186, eh186⟩ : ∃ z : hM, z = h_up h r169 (eT 0 n182 (upd f183 x2.toNatClampNeg ((f171 x2.toNatClampNeg) + (f179 x2.toNatClampNeg)))) := ⟨_, rfl⟩
      rw [← eh186] at hh
      have hw := hw h186 eh186
      obtain ⟨x2_187, ex2_187⟩ : ∃ z : Int32, z = x2 + 1 := ⟨_, rfl⟩
      have hw := hw x2_187 ex2_187
      refine lv_iinc (v := x2_187) (lv' := [(2, .int x2_187), (0, .ref x0), (1, .ref x1)]) hx hb d_Load_take_35 hl (k := 2) rfl (by rw [ex2_187]; rfl) (by decide) rfl (fun ls hl => ?_)
      refine lv_goto (tgt := 15) hx hb d_Load_take_38 (by decide) ?_
      exact hK15 _ _ _ _ _ _ _ hw hh hS (lv_sub hl [1, 2, 0] rfl)
set_option maxHeartbeats 4000000 in
set_option maxRecDepth 100000 in
theorem S_Load_take {l : Launch} {κ : hX} (Q : hM → Prop) (h : hM) (x0 : Nat) (x1 : Nat) (hw : P_Load_take Q h x0 x1) : Met l y_Load_take [Cond.code y_Load_take b_Load_take 3 none] rm_Load_take (hPc κ w_cl w_tl w_tb [.ref x0, .ref x1] h) (hQ κ w_cl (qV Q)) 0 0 (h_A κ) := by
  refine h_enter w_TBm (by decide) (Nat.le_of_ble_eq_true rfl) ?_
  intro p e s m args below meth c C0 hnm hh hS ls hl
  obtain ⟨hx, hb, hml, hown, hts, hK, hF0, hrt, hlocks⟩ := id C0
  have hl : lv_has ls 3 [(0, .ref x0), (1, .ref x1)] := hl
  refine lv_aload_n hx hb d_Load_take_0 rfl (lv_at hl 0 rfl) ?_
  obtain ⟨fs188, r191, hr189, hk190, hw⟩ := hw
  refine h_get C0 hh hr189 hk190 rfl i_Load (by decide) k_f_Load_9 (fun _ h9 => h9) d_Load_take_1 ?_
  refine lv_aload_n hx hb d_Load_take_4 rfl (lv_at hl 1 rfl) ?_
  obtain ⟨fs192, i195, hr193, hk194, hw⟩ := hw
  refine h_get C0 hh hr193 hk194 rfl i_Job (by decide) k_f_Load_33 (fun _ h9 => h9) d_Load_take_5 ?_
  refine lv_dup2_11 hx hb d_Load_take_8 rfl rfl ?_
  obtain ⟨n196, f197, hr198, hi199, hw⟩ := hw
  refine h_iald C0 hh hr198 hi199 rfl d_Load_take_9 ?_
  refine lv_iconst (v := 1) hx hb d_Load_take_10 (by decide) ?_
  refine lv_iadd hx hb d_Load_take_11 ?_
  obtain ⟨n200, f201, hr202, hi203, hw⟩ := hw
  refine h_iast C0 hh hS hr202 hi203 rfl d_Load_take_12 (fun H locs hh hS => ?_)
  obtain ⟨h204, eh204⟩ : ∃ z : hM, z = h_up h r191 (eT 0 n200 (upd f201 i195.toNatClampNeg ((f197 i195.toNatClampNeg) + (1 : Int32)))) := ⟨_, rfl⟩
  rw [← eh204] at hh
  have hw := hw h204 eh204
  refine lv_iconst (v := 0) hx hb d_Load_take_13 (by decide) ?_
  refine lv_istore_n (lv' := [(2, .int (0 : Int32)), (0, .ref x0), (1, .ref x1)]) hx hb d_Load_take_14 rfl hl (by decide) rfl (fun ls hl => ?_)
  obtain ⟨n0, hw⟩ := hw
  exact S_Load_take_15 C0 n0 _ _ _ _ _ _ _ hw hh hS (lv_sub hl [1, 2, 0] rfl)
set_option maxHeartbeats 4000000 in
set_option maxRecDepth 100000 in
theorem S_Load_release_15 {p : Program} {l : Launch} {e : Env} {s : State} {m : MethodId} {args : Array Value} {below : List Frame} {meth : Method} {c : Code} {κ : hX} {Q : hM → Prop} (C0 : Cw κ w_cl w_tl w_tb p s m args meth c b_Load_release 3 R_Load none) : ∀ (n : Nat) (h : hM) (x0 : Nat) (x1 : Nat) (x2 : Int32) (H : Heap) (locs : List Loc) (ls : Array Slot), L_Load_release_15 Q n h x0 x1 x2 → hp κ w_cl h H → va_S (h_A κ) s.heap H locs → lv_has ls 3 [(0, .ref x0), (1, .ref x1), (2, .int x2)] → W p l e rm_Load_release s m args below meth c H locs 0 0 (MQ below (hQ κ w_cl (qV Q)) args s 0 0 (h_A κ)) (F0 m 15 ls []) := by
  obtain ⟨hx, hb, hml, hown, hts, hK, hF0, hrt, hlocks⟩ := id C0
  intro n
  induction n with
  | zero =>
    intro h x0 x1 x2 H locs ls hw
    exact hw.elim
  | succ n hK15 =>
    intro h x0 x1 x2 H locs ls hw hh hS hl
    have hw : P_Load_release_15 Q (L_Load_release_15 Q n) h x0 x1 x2 := hw
    refine lv_iload_n hx hb d_Load_release_15 rfl (lv_at hl 2 rfl) ?_
    refine lv_iconst (v := 4) hx hb d_Load_release_16 (by decide) ?_
    refine lv_icmp_ge (tgt := 41) hx hb d_Load_release_17 (by decide) (fun c129 => ?_) (fun c129 => ?_)
    · have hw := hw.1 c129
      refine lv_aload_n hx hb d_Load_release_41 rfl (lv_at hl 0 rfl) ?_
      obtain ⟨fs130, r133, hr131, hk132, hw⟩ := hw
      refine h_get C0 hh hr131 hk132 rfl i_Load (by decide) k_f_Load_21 (fun _ h9 => h9) d_Load_release_42 ?_
      refine lv_aload_n hx hb d_Load_release_45 rfl (lv_at hl 1 rfl) ?_
      obtain ⟨fs134, i137, hr135, hk136, hw⟩ := hw
      refine h_get C0 hh hr135 hk136 rfl i_Job (by decide) k_f_Load_39 (fun _ h9 => h9) d_Load_release_46 ?_
      obtain ⟨fs138, hr139, hw⟩ := hw
      refine h_callV (n := 1) C0 w_TBm hh hS hl.1 [.int i137] [] (S_NS_drop _ _ _ _ hw) hr139 rfl k_m_Load_49 k_inst_NS_drop k_sel_NS_drop k_ini_NS k_code_NS_drop (by decide +kernel) rfl rfl (Nat.le_of_ble_eq_true rfl) ⟨(Nat.le_of_ble_eq_true rfl), (Nat.le_of_ble_eq_true rfl)⟩ ⟨(Nat.le_of_ble_eq_true rfl), (Nat.le_of_ble_eq_true rfl)⟩ d_Load_release_49 (h_kV (k := 0) (n := 0) (Nat.le_of_ble_eq_true rfl) (Nat.le_of_ble_eq_true rfl) (fun h140 H locs hw hh hS => ?_))
      refine lv_aload_n hx hb d_Load_release_52 rfl (lv_at hl 0 rfl) ?_
      refine lv_dup hx hb d_Load_release_53 rfl ?_
      obtain ⟨fs142, i145, hr143, hk144, hw⟩ := hw
      refine h_get C0 hh hr143 hk144 rfl i_Load (by decide) k_f_Load_25 (fun _ h9 => h9) d_Load_release_54 ?_
      refine lv_iconst (v := 1) hx hb d_Load_release_57 (by decide) ?_
      refine lv_isub hx hb d_Load_release_58 ?_
      obtain ⟨fs146, hr147, hk148, hw⟩ := hw
      refine h_put C0 hh hS (v := .int (i145 - (1 : Int32))) hr147 hk148 rfl i_Load t_Load t_Load_ok n_Load (by decide) k_f_Load_25 (fun _ h9 => h9) rfl rfl rfl rfl d_Load_release_59 (fun H locs hh hS => ?_)
      obtain ⟨h149, eh149⟩ : ∃ z : hM, z = h_up h140 x0 (eO 2 (fs146.set 3 (.int (i145 - (1 : Int32))))) := ⟨_, rfl⟩
      rw [← eh149] at hh
      have hw := hw h149 eh149
      refine lv_aload_n hx hb d_Load_release_62 rfl (lv_at hl 0 rfl) ?_
      refine lv_iconst (v := 0) hx hb d_Load_release_63 (by decide) ?_
      obtain ⟨fs150, hr151, hk152, hw⟩ := hw
      refine h_put C0 hh hS (v := .int (0 : Int32)) hr151 hk152 rfl i_Load t_Load t_Load_ok n_Load (by decide) k_f_Load_29 (fun _ h9 => h9) rfl rfl rfl rfl d_Load_release_64 (fun H locs hh hS => ?_)
      obtain ⟨h153, eh153⟩ : ∃ z : hM, z = h_up h149 x0 (eO 2 (fs150.set 4 (.int (0 : Int32)))) := ⟨_, rfl⟩
      rw [← eh153] at hh
      have hw := hw h153 eh153
      exact h_vret C0 hh hS rfl ⟨rfl, hw⟩ d_Load_release_67
    · have hw := hw.2 c129
      refine lv_aload_n hx hb d_Load_release_20 rfl (lv_at hl 0 rfl) ?_
      obtain ⟨fs154, r157, hr155, hk156, hw⟩ := hw
      refine h_get C0 hh hr155 hk156 rfl i_Load (by decide) k_f_Load_15 (fun _ h9 => h9) d_Load_release_21 ?_
      refine lv_iload_n hx hb d_Load_release_24 rfl (lv_at hl 2 rfl) ?_
      refine lv_dup2_11 hx hb d_Load_release_25 rfl rfl ?_
      obtain ⟨n158, f159, hr160, hi161, hw⟩ := hw
      refine h_iald C0 hh hr160 hi161 rfl d_Load_release_26 ?_
      refine lv_aload_n hx hb d_Load_release_27 rfl (lv_at hl 1 rfl) ?_
      obtain ⟨fs162, r165, hr163, hk164, hw⟩ := hw
      refine h_get C0 hh hr163 hk164 rfl i_Job (by decide) k_f_Load_38 (fun _ h9 => h9) d_Load_release_28 ?_
      refine lv_iload_n hx hb d_Load_release_31 rfl (lv_at hl 2 rfl) ?_
      obtain ⟨n166, f167, hr168, hi169, hw⟩ := hw
      refine h_iald C0 hh hr168 hi169 rfl d_Load_release_32 ?_
      refine lv_isub hx hb d_Load_release_33 ?_
      obtain ⟨n170, f171, hr172, hi173, hw⟩ := hw
      refine h_iast C0 hh hS hr172 hi173 rfl d_Load_release_34 (fun H locs hh hS => ?_)
      obtain ⟨h174, eh174⟩ : ∃ z : hM, z = h_up h r157 (eT 0 n170 (upd f171 x2.toNatClampNeg ((f159 x2.toNatClampNeg) - (f167 x2.toNatClampNeg)))) := ⟨_, rfl⟩
      rw [← eh174] at hh
      have hw := hw h174 eh174
      obtain ⟨x2_175, ex2_175⟩ : ∃ z : Int32, z = x2 + 1 := ⟨_, rfl⟩
      have hw := hw x2_175 ex2_175
      refine lv_iinc (v := x2_175) (lv' := [(2, .int x2_175), (0, .ref x0), (1, .ref x1)]) hx hb d_Load_release_35 hl (k := 2) rfl (by rw [ex2_175]; rfl) (by decide) rfl (fun ls hl => ?_)
      refine lv_goto (tgt := 15) hx hb d_Load_release_38 (by decide) ?_
      exact hK15 _ _ _ _ _ _ _ hw hh hS (lv_sub hl [1, 2, 0] rfl)
set_option maxHeartbeats 4000000 in
set_option maxRecDepth 100000 in
theorem S_Load_release {l : Launch} {κ : hX} (Q : hM → Prop) (h : hM) (x0 : Nat) (x1 : Nat) (hw : P_Load_release Q h x0 x1) : Met l y_Load_release [Cond.code y_Load_release b_Load_release 3 none] rm_Load_release (hPc κ w_cl w_tl w_tb [.ref x0, .ref x1] h) (hQ κ w_cl (qV Q)) 0 0 (h_A κ) := by
  refine h_enter w_TBm (by decide) (Nat.le_of_ble_eq_true rfl) ?_
  intro p e s m args below meth c C0 hnm hh hS ls hl
  obtain ⟨hx, hb, hml, hown, hts, hK, hF0, hrt, hlocks⟩ := id C0
  have hl : lv_has ls 3 [(0, .ref x0), (1, .ref x1)] := hl
  refine lv_aload_n hx hb d_Load_release_0 rfl (lv_at hl 0 rfl) ?_
  obtain ⟨fs176, r179, hr177, hk178, hw⟩ := hw
  refine h_get C0 hh hr177 hk178 rfl i_Load (by decide) k_f_Load_9 (fun _ h9 => h9) d_Load_release_1 ?_
  refine lv_aload_n hx hb d_Load_release_4 rfl (lv_at hl 1 rfl) ?_
  obtain ⟨fs180, i183, hr181, hk182, hw⟩ := hw
  refine h_get C0 hh hr181 hk182 rfl i_Job (by decide) k_f_Load_33 (fun _ h9 => h9) d_Load_release_5 ?_
  refine lv_dup2_11 hx hb d_Load_release_8 rfl rfl ?_
  obtain ⟨n184, f185, hr186, hi187, hw⟩ := hw
  refine h_iald C0 hh hr186 hi187 rfl d_Load_release_9 ?_
  refine lv_iconst (v := 1) hx hb d_Load_release_10 (by decide) ?_
  refine lv_isub hx hb d_Load_release_11 ?_
  obtain ⟨n188, f189, hr190, hi191, hw⟩ := hw
  refine h_iast C0 hh hS hr190 hi191 rfl d_Load_release_12 (fun H locs hh hS => ?_)
  obtain ⟨h192, eh192⟩ : ∃ z : hM, z = h_up h r179 (eT 0 n188 (upd f189 i183.toNatClampNeg ((f185 i183.toNatClampNeg) - (1 : Int32)))) := ⟨_, rfl⟩
  rw [← eh192] at hh
  have hw := hw h192 eh192
  refine lv_iconst (v := 0) hx hb d_Load_release_13 (by decide) ?_
  refine lv_istore_n (lv' := [(2, .int (0 : Int32)), (0, .ref x0), (1, .ref x1)]) hx hb d_Load_release_14 rfl hl (by decide) rfl (fun ls hl => ?_)
  obtain ⟨n0, hw⟩ := hw
  exact S_Load_release_15 C0 n0 _ _ _ _ _ _ _ hw hh hS (lv_sub hl [1, 2, 0] rfl)
end
section
set_option maxHeartbeats 4000000 in
set_option maxRecDepth 100000 in
theorem S_Rows_init_36 {p : Program} {l : Launch} {e : Env} {s : State} {m : MethodId} {args : Array Value} {below : List Frame} {meth : Method} {c : Code} {κ : hX} {Q : hM → Prop} (C0 : Cw κ w_cl w_tl w_tb p s m args meth c b_Rows_init 2 R_Rows none) (hnm : meth.name = "<init>") : ∀ (n : Nat) (h : hM) (x0 : Nat) (x1 : Int32) (H : Heap) (locs : List Loc) (ls : Array Slot), L_Rows_init_36 Q n h x0 x1 → hp κ w_cl h H → va_S (h_A κ) s.heap H locs → lv_has ls 2 [(0, .ref x0), (1, .int x1)] → W p l e rm_Rows_init s m args below meth c H locs 3 42 (MQ below (hQ κ w_cl (qV Q)) args s 12 203 (h_A κ)) (F0 m 36 ls []) := by
  obtain ⟨hx, hb, hml, hown, hts, hK, hF0, hrt, hlocks⟩ := id C0
  intro n
  induction n with
  | zero =>
    intro h x0 x1 H locs ls hw
    exact hw.elim
  | succ n hK36 =>
    intro h x0 x1 H locs ls hw hh hS hl
    have hw : P_Rows_init_36 Q (L_Rows_init_36 Q n) h x0 x1 := hw
    refine lv_iload_n hx hb d_Rows_init_36 rfl (lv_at hl 1 rfl) ?_
    refine lv_aload_n hx hb d_Rows_init_37 rfl (lv_at hl 0 rfl) ?_
    obtain ⟨fs185, r188, hr186, hk187, hw⟩ := hw
    refine h_get C0 hh hr186 hk187 rfl i_Rows (by decide) k_f_Rows_19 (fun _ h9 => h9) d_Rows_init_38 ?_
    obtain ⟨n189, f190, hr191, hw⟩ := hw
    refine h_alenT C0 hh hr191 (rfl : w_tl[0]? = _) d_Rows_init_41 ?_
    refine lv_icmp_ge (tgt := 59) hx hb d_Rows_init_42 (by decide) (fun c192 => ?_) (fun c192 => ?_)
    · have hw := hw.1 c192
      refine lv_aload_n hx hb d_Rows_init_59 rfl (lv_at hl 0 rfl) ?_
      refine lv_bipush (v := 36) hx hb d_Rows_init_60 (by decide) ?_
      refine h_newa C0 hh hS (t := 0) (y := (eT 0 36 (fun _ => 0))) (ty := .int) rfl rfl rfl (fun _ => rfl) (by decide) rfl (Nat.le_of_ble_eq_true rfl) k_arr_int (Nat.le_of_ble_eq_true rfl) (Nat.le_of_ble_eq_true rfl) d_Rows_init_62 (fun q193 H hqq193 hzq193 hh hS => ?_)
      obtain ⟨h194, eh194⟩ : ∃ z : hM, z = h_up h q193 (eT 0 36 (fun _ => 0)) := ⟨_, rfl⟩
      rw [← eh194] at hh
      have hw := hw q193 hqq193 h194 eh194
      refine W.widen (k := 4) (n := 78) (Nat.le_of_ble_eq_true rfl) (Nat.le_of_ble_eq_true rfl) ?_
      obtain ⟨fs195, hr196, hk197, hw⟩ := hw
      refine h_putF C0 hh hS (v := .ref q193) hr196 hk197 rfl i_Rows t_Rows t_Rows_ok n_Rows (by decide) k_f_Rows_23 (fun _ h9 => h9) rfl hnm rfl rfl rfl rfl d_Rows_init_64 (fun H locs hh hS => ?_)
      obtain ⟨h198, eh198⟩ : ∃ z : hM, z = h_up h194 x0 (eO 0 (fs195.set 3 (.ref q193))) := ⟨_, rfl⟩
      rw [← eh198] at hh
      have hw := hw h198 eh198
      refine lv_aload_n hx hb d_Rows_init_67 rfl (lv_at hl 0 rfl) ?_
      refine lv_bipush (v := 36) hx hb d_Rows_init_68 (by decide) ?_
      refine h_newa C0 hh hS (t := 0) (y := (eT 0 36 (fun _ => 0))) (ty := .int) rfl rfl rfl (fun _ => rfl) (by decide) rfl (Nat.le_of_ble_eq_true rfl) k_arr_int (Nat.le_of_ble_eq_true rfl) (Nat.le_of_ble_eq_true rfl) d_Rows_init_70 (fun q199 H hqq199 hzq199 hh hS => ?_)
      obtain ⟨h200, eh200⟩ : ∃ z : hM, z = h_up h198 q199 (eT 0 36 (fun _ => 0)) := ⟨_, rfl⟩
      rw [← eh200] at hh
      have hw := hw q199 hqq199 h200 eh200
      refine W.widen (k := 5) (n := 114) (Nat.le_of_ble_eq_true rfl) (Nat.le_of_ble_eq_true rfl) ?_
      obtain ⟨fs201, hr202, hk203, hw⟩ := hw
      refine h_putF C0 hh hS (v := .ref q199) hr202 hk203 rfl i_Rows t_Rows t_Rows_ok n_Rows (by decide) k_f_Rows_26 (fun _ h9 => h9) rfl hnm rfl rfl rfl rfl d_Rows_init_72 (fun H locs hh hS => ?_)
      obtain ⟨h204, eh204⟩ : ∃ z : hM, z = h_up h200 x0 (eO 0 (fs201.set 4 (.ref q199))) := ⟨_, rfl⟩
      rw [← eh204] at hh
      have hw := hw h204 eh204
      refine lv_aload_n hx hb d_Rows_init_75 rfl (lv_at hl 0 rfl) ?_
      refine lv_bipush (v := 36) hx hb d_Rows_init_76 (by decide) ?_
      refine h_newa C0 hh hS (t := 0) (y := (eT 0 36 (fun _ => 0))) (ty := .int) rfl rfl rfl (fun _ => rfl) (by decide) rfl (Nat.le_of_ble_eq_true rfl) k_arr_int (Nat.le_of_ble_eq_true rfl) (Nat.le_of_ble_eq_true rfl) d_Rows_init_78 (fun q205 H hqq205 hzq205 hh hS => ?_)
      obtain ⟨h206, eh206⟩ : ∃ z : hM, z = h_up h204 q205 (eT 0 36 (fun _ => 0)) := ⟨_, rfl⟩
      rw [← eh206] at hh
      have hw := hw q205 hqq205 h206 eh206
      refine W.widen (k := 6) (n := 150) (Nat.le_of_ble_eq_true rfl) (Nat.le_of_ble_eq_true rfl) ?_
      obtain ⟨fs207, hr208, hk209, hw⟩ := hw
      refine h_putF C0 hh hS (v := .ref q205) hr208 hk209 rfl i_Rows t_Rows t_Rows_ok n_Rows (by decide) k_f_Rows_29 (fun _ h9 => h9) rfl hnm rfl rfl rfl rfl d_Rows_init_80 (fun H locs hh hS => ?_)
      obtain ⟨h210, eh210⟩ : ∃ z : hM, z = h_up h206 x0 (eO 0 (fs207.set 5 (.ref q205))) := ⟨_, rfl⟩
      rw [← eh210] at hh
      have hw := hw h210 eh210
      refine lv_aload_n hx hb d_Rows_init_83 rfl (lv_at hl 0 rfl) ?_
      refine lv_iconst (v := 4) hx hb d_Rows_init_84 (by decide) ?_
      refine h_newa C0 hh hS (t := 0) (y := (eT 0 4 (fun _ => 0))) (ty := .int) rfl rfl rfl (fun _ => rfl) (by decide) rfl (Nat.le_of_ble_eq_true rfl) k_arr_int (Nat.le_of_ble_eq_true rfl) (Nat.le_of_ble_eq_true rfl) d_Rows_init_85 (fun q211 H hqq211 hzq211 hh hS => ?_)
      obtain ⟨h212, eh212⟩ : ∃ z : hM, z = h_up h210 q211 (eT 0 4 (fun _ => 0)) := ⟨_, rfl⟩
      rw [← eh212] at hh
      have hw := hw q211 hqq211 h212 eh212
      refine W.widen (k := 7) (n := 154) (Nat.le_of_ble_eq_true rfl) (Nat.le_of_ble_eq_true rfl) ?_
      obtain ⟨fs213, hr214, hk215, hw⟩ := hw
      refine h_putF C0 hh hS (v := .ref q211) hr214 hk215 rfl i_Rows t_Rows t_Rows_ok n_Rows (by decide) k_f_Rows_32 (fun _ h9 => h9) rfl hnm rfl rfl rfl rfl d_Rows_init_87 (fun H locs hh hS => ?_)
      obtain ⟨h216, eh216⟩ : ∃ z : hM, z = h_up h212 x0 (eO 0 (fs213.set 6 (.ref q211))) := ⟨_, rfl⟩
      rw [← eh216] at hh
      have hw := hw h216 eh216
      refine lv_aload_n hx hb d_Rows_init_90 rfl (lv_at hl 0 rfl) ?_
      refine h_new C0 hh hS (ci := 2) (fs := [.null, .null, .null, .int 0, .int 0]) rfl i_Load t_Load t_Load_ok k_c_Rows_35 k_made_Load k_ini_Load def_Load (Nat.le_of_ble_eq_true rfl) (Nat.le_of_ble_eq_true rfl) d_Rows_init_91 (fun q217 H hqq217 hzq217 hh hS => ?_)
      obtain ⟨h218, eh218⟩ : ∃ z : hM, z = h_up h216 q217 (eO 2 [.null, .null, .null, .int 0, .int 0]) := ⟨_, rfl⟩
      rw [← eh218] at hh
      have hw := hw q217 hqq217 h218 eh218
      refine W.widen (k := 8) (n := 159) (Nat.le_of_ble_eq_true rfl) (Nat.le_of_ble_eq_true rfl) ?_
      refine lv_dup hx hb d_Rows_init_94 rfl ?_
      refine h_callI (n := 0) C0 w_TBm hh hS hl.1 [] [.ref q217, .ref x0] (S_Load_init _ _ _ hw) k_m_Rows_37 k_inst_Load_init rfl k_ini_Load k_code_Load_init (by decide +kernel) rfl rfl (Nat.le_of_ble_eq_true rfl) ⟨(Nat.le_of_ble_eq_true rfl), (Nat.le_of_ble_eq_true rfl)⟩ ⟨(Nat.le_of_ble_eq_true rfl), (Nat.le_of_ble_eq_true rfl)⟩ d_Rows_init_95 (h_kV (k := 11) (n := 201) (Nat.le_of_ble_eq_true rfl) (Nat.le_of_ble_eq_true rfl) (fun h219 H locs hw hh hS => ?_))
      obtain ⟨fs221, hr222, hk223, hw⟩ := hw
      refine h_putF C0 hh hS (v := .ref q217) hr222 hk223 rfl i_Rows t_Rows t_Rows_ok n_Rows (by decide) k_f_Rows_38 (fun _ h9 => h9) rfl hnm rfl rfl rfl rfl d_Rows_init_98 (fun H locs hh hS => ?_)
      obtain ⟨h224, eh224⟩ : ∃ z : hM, z = h_up h219 x0 (eO 0 (fs221.set 7 (.ref q217))) := ⟨_, rfl⟩
      rw [← eh224] at hh
      have hw := hw h224 eh224
      refine lv_aload_n hx hb d_Rows_init_101 rfl (lv_at hl 0 rfl) ?_
      refine h_new C0 hh hS (ci := 4) (fs := [.long 0, .long 0]) rfl i_NS t_NS t_NS_ok k_c_Rows_42 k_made_NS k_ini_NS def_NS (Nat.le_of_ble_eq_true rfl) (Nat.le_of_ble_eq_true rfl) d_Rows_init_102 (fun q225 H hqq225 hzq225 hh hS => ?_)
      obtain ⟨h226, eh226⟩ : ∃ z : hM, z = h_up h224 q225 (eO 4 [.long 0, .long 0]) := ⟨_, rfl⟩
      rw [← eh226] at hh
      have hw := hw q225 hqq225 h226 eh226
      refine W.widen (k := 12) (n := 203) (Nat.le_of_ble_eq_true rfl) (Nat.le_of_ble_eq_true rfl) ?_
      refine lv_dup hx hb d_Rows_init_105 rfl ?_
      refine h_callI (n := 0) C0 w_TBm hh hS hl.1 [] [.ref q225, .ref x0] (S_NS_init _ _ _ hw) k_m_Rows_44 k_inst_NS_init rfl k_ini_NS k_code_NS_init (by decide +kernel) rfl rfl (Nat.le_of_ble_eq_true rfl) ⟨(Nat.le_of_ble_eq_true rfl), (Nat.le_of_ble_eq_true rfl)⟩ ⟨(Nat.le_of_ble_eq_true rfl), (Nat.le_of_ble_eq_true rfl)⟩ d_Rows_init_106 (h_kV (k := 12) (n := 203) (Nat.le_of_ble_eq_true rfl) (Nat.le_of_ble_eq_true rfl) (fun h227 H locs hw hh hS => ?_))
      obtain ⟨fs229, hr230, hk231, hw⟩ := hw
      refine h_putF C0 hh hS (v := .ref q225) hr230 hk231 rfl i_Rows t_Rows t_Rows_ok n_Rows (by decide) k_f_Rows_45 (fun _ h9 => h9) rfl hnm rfl rfl rfl rfl d_Rows_init_109 (fun H locs hh hS => ?_)
      obtain ⟨h232, eh232⟩ : ∃ z : hM, z = h_up h227 x0 (eO 0 (fs229.set 8 (.ref q225))) := ⟨_, rfl⟩
      rw [← eh232] at hh
      have hw := hw h232 eh232
      refine lv_aload_n hx hb d_Rows_init_112 rfl (lv_at hl 0 rfl) ?_
      refine lv_lconst (v := 0) hx hb d_Rows_init_113 (by decide) ?_
      obtain ⟨fs233, hr234, hk235, hw⟩ := hw
      refine h_put C0 hh hS (v := .long (0 : Int64)) hr234 hk235 rfl i_Rows t_Rows t_Rows_ok n_Rows (by decide) k_f_Rows_49 (fun _ h9 => h9) rfl rfl rfl rfl d_Rows_init_114 (fun H locs hh hS => ?_)
      obtain ⟨h236, eh236⟩ : ∃ z : hM, z = h_up h232 x0 (eO 0 (fs233.set 9 (.long (0 : Int64)))) := ⟨_, rfl⟩
      rw [← eh236] at hh
      have hw := hw h236 eh236
      refine lv_aload_n hx hb d_Rows_init_117 rfl (lv_at hl 0 rfl) ?_
      refine lv_lconst (v := 0) hx hb d_Rows_init_118 (by decide) ?_
      obtain ⟨fs237, hr238, hk239, hw⟩ := hw
      refine h_put C0 hh hS (v := .long (0 : Int64)) hr238 hk239 rfl i_Rows t_Rows t_Rows_ok n_Rows (by decide) k_f_Rows_53 (fun _ h9 => h9) rfl rfl rfl rfl d_Rows_init_119 (fun H locs hh hS => ?_)
      obtain ⟨h240, eh240⟩ : ∃ z : hM, z = h_up h236 x0 (eO 0 (fs237.set 10 (.long (0 : Int64)))) := ⟨_, rfl⟩
      rw [← eh240] at hh
      have hw := hw h240 eh240
      refine lv_aload_n hx hb d_Rows_init_122 rfl (lv_at hl 0 rfl) ?_
      refine lv_iconst (v := 0) hx hb d_Rows_init_123 (by decide) ?_
      obtain ⟨fs241, hr242, hk243, hw⟩ := hw
      refine h_put C0 hh hS (v := .int (0 : Int32)) hr242 hk243 rfl i_Rows t_Rows t_Rows_ok n_Rows (by decide) k_f_Rows_56 (fun _ h9 => h9) rfl rfl rfl rfl d_Rows_init_124 (fun H locs hh hS => ?_)
      obtain ⟨h244, eh244⟩ : ∃ z : hM, z = h_up h240 x0 (eO 0 (fs241.set 11 (.int (0 : Int32)))) := ⟨_, rfl⟩
      rw [← eh244] at hh
      have hw := hw h244 eh244
      exact h_vret C0 hh hS rfl ⟨rfl, hw⟩ d_Rows_init_127
    · have hw := hw.2 c192
      refine lv_aload_n hx hb d_Rows_init_45 rfl (lv_at hl 0 rfl) ?_
      obtain ⟨fs245, r248, hr246, hk247, hw⟩ := hw
      refine h_get C0 hh hr246 hk247 rfl i_Rows (by decide) k_f_Rows_19 (fun _ h9 => h9) d_Rows_init_46 ?_
      refine lv_iload_n hx hb d_Rows_init_49 rfl (lv_at hl 1 rfl) ?_
      refine lv_bipush (v := 40) hx hb d_Rows_init_50 (by decide) ?_
      obtain ⟨n249, f250, hr251, hi252, hw⟩ := hw
      refine h_iast C0 hh hS hr251 hi252 rfl d_Rows_init_52 (fun H locs hh hS => ?_)
      obtain ⟨h253, eh253⟩ : ∃ z : hM, z = h_up h r248 (eT 0 n249 (upd f250 x1.toNatClampNeg (40 : Int32))) := ⟨_, rfl⟩
      rw [← eh253] at hh
      have hw := hw h253 eh253
      obtain ⟨x1_254, ex1_254⟩ : ∃ z : Int32, z = x1 + 1 := ⟨_, rfl⟩
      have hw := hw x1_254 ex1_254
      refine lv_iinc (v := x1_254) (lv' := [(1, .int x1_254), (0, .ref x0)]) hx hb d_Rows_init_53 hl (k := 1) rfl (by rw [ex1_254]; rfl) (by decide) rfl (fun ls hl => ?_)
      refine lv_goto (tgt := 36) hx hb d_Rows_init_56 (by decide) ?_
      exact hK36 _ _ _ _ _ _ hw hh hS (lv_sub hl [1, 0] rfl)
set_option maxHeartbeats 4000000 in
set_option maxRecDepth 100000 in
theorem S_Rows_init {l : Launch} {κ : hX} (Q : hM → Prop) (h : hM) (x0 : Nat) (hw : P_Rows_init Q h x0) : Met l y_Rows_init [Cond.code y_Rows_init b_Rows_init 2 none] rm_Rows_init (hPc κ w_cl w_tl w_tb [.ref x0] h) (hQ κ w_cl (qV Q)) 12 203 (h_A κ) := by
  refine h_enter w_TBm (by decide) (Nat.le_of_ble_eq_true rfl) ?_
  intro p e s m args below meth c C0 hnm hh hS ls hl
  obtain ⟨hx, hb, hml, hown, hts, hK, hF0, hrt, hlocks⟩ := id C0
  have hl : lv_has ls 2 [(0, .ref x0)] := hl
  refine lv_aload_n hx hb d_Rows_init_0 rfl (lv_at hl 0 rfl) ?_
  refine W.objInit hx hb hown (hts _ k_m_Rows_1) (hts _ k_oi_inst) (hts _ k_oi_code) rfl (by rw [hml]; exact hl.1) rfl d_Rows_init_1 (Nat.le_of_ble_eq_true rfl) (Nat.le_of_ble_eq_true rfl) ?_
  refine W.eq (g2 := F0 m 4 ls []) rfl ?_
  refine lv_aload_n hx hb d_Rows_init_4 rfl (lv_at hl 0 rfl) ?_
  refine h_new C0 hh hS (ci := 5) (fs := [.int 0, .null, .int 0]) rfl i_AL t_AL t_AL_ok k_c_Rows_7 k_made_AL k_ini_AL def_AL (Nat.le_of_ble_eq_true rfl) (Nat.le_of_ble_eq_true rfl) d_Rows_init_5 (fun q255 H hqq255 hzq255 hh hS => ?_)
  obtain ⟨h256, eh256⟩ : ∃ z : hM, z = h_up h q255 (eO 5 [.int 0, .null, .int 0]) := ⟨_, rfl⟩
  rw [← eh256] at hh
  have hw := hw q255 hqq255 h256 eh256
  refine W.widen (k := 1) (n := 3) (Nat.le_of_ble_eq_true rfl) (Nat.le_of_ble_eq_true rfl) ?_
  refine lv_dup hx hb d_Rows_init_8 rfl ?_
  refine h_callI (n := 0) C0 w_TBm hh hS hl.1 [] [.ref q255, .ref x0] (S_AL_init_v _ _ _ hw) k_m_Rows_9 k_inst_AL_init_v rfl k_ini_AL k_code_AL_init_v (by decide +kernel) rfl rfl (Nat.le_of_ble_eq_true rfl) ⟨(Nat.le_of_ble_eq_true rfl), (Nat.le_of_ble_eq_true rfl)⟩ ⟨(Nat.le_of_ble_eq_true rfl), (Nat.le_of_ble_eq_true rfl)⟩ d_Rows_init_9 (h_kV (k := 1) (n := 3) (Nat.le_of_ble_eq_true rfl) (Nat.le_of_ble_eq_true rfl) (fun h257 H locs hw hh hS => ?_))
  obtain ⟨fs259, hr260, hk261, hw⟩ := hw
  refine h_putF C0 hh hS (v := .ref q255) hr260 hk261 rfl i_Rows t_Rows t_Rows_ok n_Rows (by decide) k_f_Rows_10 (fun _ h9 => h9) rfl hnm rfl rfl rfl rfl d_Rows_init_12 (fun H locs hh hS => ?_)
  obtain ⟨h262, eh262⟩ : ∃ z : hM, z = h_up h257 x0 (eO 0 (fs259.set 0 (.ref q255))) := ⟨_, rfl⟩
  rw [← eh262] at hh
  have hw := hw h262 eh262
  refine lv_aload_n hx hb d_Rows_init_15 rfl (lv_at hl 0 rfl) ?_
  refine h_new C0 hh hS (ci := 5) (fs := [.int 0, .null, .int 0]) rfl i_AL t_AL t_AL_ok k_c_Rows_7 k_made_AL k_ini_AL def_AL (Nat.le_of_ble_eq_true rfl) (Nat.le_of_ble_eq_true rfl) d_Rows_init_16 (fun q263 H hqq263 hzq263 hh hS => ?_)
  obtain ⟨h264, eh264⟩ : ∃ z : hM, z = h_up h262 q263 (eO 5 [.int 0, .null, .int 0]) := ⟨_, rfl⟩
  rw [← eh264] at hh
  have hw := hw q263 hqq263 h264 eh264
  refine W.widen (k := 2) (n := 6) (Nat.le_of_ble_eq_true rfl) (Nat.le_of_ble_eq_true rfl) ?_
  refine lv_dup hx hb d_Rows_init_19 rfl ?_
  refine h_callI (n := 0) C0 w_TBm hh hS hl.1 [] [.ref q263, .ref x0] (S_AL_init_v _ _ _ hw) k_m_Rows_9 k_inst_AL_init_v rfl k_ini_AL k_code_AL_init_v (by decide +kernel) rfl rfl (Nat.le_of_ble_eq_true rfl) ⟨(Nat.le_of_ble_eq_true rfl), (Nat.le_of_ble_eq_true rfl)⟩ ⟨(Nat.le_of_ble_eq_true rfl), (Nat.le_of_ble_eq_true rfl)⟩ d_Rows_init_20 (h_kV (k := 2) (n := 6) (Nat.le_of_ble_eq_true rfl) (Nat.le_of_ble_eq_true rfl) (fun h265 H locs hw hh hS => ?_))
  obtain ⟨fs267, hr268, hk269, hw⟩ := hw
  refine h_putF C0 hh hS (v := .ref q263) hr268 hk269 rfl i_Rows t_Rows t_Rows_ok n_Rows (by decide) k_f_Rows_16 (fun _ h9 => h9) rfl hnm rfl rfl rfl rfl d_Rows_init_23 (fun H locs hh hS => ?_)
  obtain ⟨h270, eh270⟩ : ∃ z : hM, z = h_up h265 x0 (eO 0 (fs267.set 1 (.ref q263))) := ⟨_, rfl⟩
  rw [← eh270] at hh
  have hw := hw h270 eh270
  refine lv_aload_n hx hb d_Rows_init_26 rfl (lv_at hl 0 rfl) ?_
  refine lv_bipush (v := 36) hx hb d_Rows_init_27 (by decide) ?_
  refine h_newa C0 hh hS (t := 0) (y := (eT 0 36 (fun _ => 0))) (ty := .int) rfl rfl rfl (fun _ => rfl) (by decide) rfl (Nat.le_of_ble_eq_true rfl) k_arr_int (Nat.le_of_ble_eq_true rfl) (Nat.le_of_ble_eq_true rfl) d_Rows_init_29 (fun q271 H hqq271 hzq271 hh hS => ?_)
  obtain ⟨h272, eh272⟩ : ∃ z : hM, z = h_up h270 q271 (eT 0 36 (fun _ => 0)) := ⟨_, rfl⟩
  rw [← eh272] at hh
  have hw := hw q271 hqq271 h272 eh272
  refine W.widen (k := 3) (n := 42) (Nat.le_of_ble_eq_true rfl) (Nat.le_of_ble_eq_true rfl) ?_
  obtain ⟨fs273, hr274, hk275, hw⟩ := hw
  refine h_putF C0 hh hS (v := .ref q271) hr274 hk275 rfl i_Rows t_Rows t_Rows_ok n_Rows (by decide) k_f_Rows_19 (fun _ h9 => h9) rfl hnm rfl rfl rfl rfl d_Rows_init_31 (fun H locs hh hS => ?_)
  obtain ⟨h276, eh276⟩ : ∃ z : hM, z = h_up h272 x0 (eO 0 (fs273.set 2 (.ref q271))) := ⟨_, rfl⟩
  rw [← eh276] at hh
  have hw := hw h276 eh276
  refine lv_iconst (v := 0) hx hb d_Rows_init_34 (by decide) ?_
  refine lv_istore_n (lv' := [(1, .int (0 : Int32)), (0, .ref x0)]) hx hb d_Rows_init_35 rfl hl (by decide) rfl (fun ls hl => ?_)
  obtain ⟨n0, hw⟩ := hw
  exact S_Rows_init_36 C0 hnm n0 _ _ _ _ _ _ hw hh hS (lv_sub hl [1, 0] rfl)
set_option maxHeartbeats 4000000 in
set_option maxRecDepth 100000 in
theorem S_Rows_initiator {l : Launch} {κ : hX} (Q : Int32 → hM → Prop) (h : hM) (x0 : Nat) (hw : P_Rows_initiator Q h x0) : Met l y_Rows_initiator [Cond.code y_Rows_initiator b_Rows_initiator 1 (some .int)] rm_Rows_initiator (hPc κ w_cl w_tl w_tb [.ref x0] h) (hQ κ w_cl (qI Q)) 3 171 (h_A κ) := by
  refine h_enter w_TBm (by decide) (Nat.le_of_ble_eq_true rfl) ?_
  intro p e s m args below meth c C0 hnm hh hS ls hl
  obtain ⟨hx, hb, hml, hown, hts, hK, hF0, hrt, hlocks⟩ := id C0
  have hl : lv_has ls 1 [(0, .ref x0)] := hl
  refine lv_aload_n hx hb d_Rows_initiator_0 rfl (lv_at hl 0 rfl) ?_
  obtain ⟨fs30, r33, hr31, hk32, hw⟩ := hw
  refine h_get C0 hh hr31 hk32 rfl i_Rows (by decide) k_f_Rows_10 (fun _ h9 => h9) d_Rows_initiator_1 ?_
  obtain ⟨fs34, hr35, hw⟩ := hw
  refine h_callV (n := 0) C0 w_TBm hh hS hl.1 [] [] (S_AL_size _ _ _ hw) hr35 rfl k_m_Rows_60 k_inst_AL_size k_sel_AL_size k_ini_AL k_code_AL_size (by decide +kernel) rfl rfl (Nat.le_of_ble_eq_true rfl) ⟨(Nat.le_of_ble_eq_true rfl), (Nat.le_of_ble_eq_true rfl)⟩ ⟨(Nat.le_of_ble_eq_true rfl), (Nat.le_of_ble_eq_true rfl)⟩ d_Rows_initiator_4 (h_kI (k := 0) (n := 0) (Nat.le_of_ble_eq_true rfl) (Nat.le_of_ble_eq_true rfl) (fun i37 h36 H locs hw hh hS => ?_))
  refine lv_bipush (v := 12) hx hb d_Rows_initiator_7 (by decide) ?_
  refine lv_icmp_lt (tgt := 14) hx hb d_Rows_initiator_9 (by decide) (fun c38 => ?_) (fun c38 => ?_)
  · have hw := hw.1 c38
    refine lv_aload_n hx hb d_Rows_initiator_14 rfl (lv_at hl 0 rfl) ?_
    obtain ⟨fs39, r42, hr40, hk41, hw⟩ := hw
    refine h_get C0 hh hr40 hk41 rfl i_Rows (by decide) k_f_Rows_10 (fun _ h9 => h9) d_Rows_initiator_15 ?_
    refine h_new C0 hh hS (ci := 3) (fs := [.null, .int 0, .int 0]) rfl i_Ini t_Ini t_Ini_ok k_c_Rows_64 k_made_Ini k_ini_Ini def_Ini (Nat.le_of_ble_eq_true rfl) (Nat.le_of_ble_eq_true rfl) d_Rows_initiator_18 (fun q43 H hqq43 hzq43 hh hS => ?_)
    obtain ⟨h44, eh44⟩ : ∃ z : hM, z = h_up h36 q43 (eO 3 [.null, .int 0, .int 0]) := ⟨_, rfl⟩
    rw [← eh44] at hh
    have hw := hw q43 hqq43 h44 eh44
    refine W.widen (k := 1) (n := 3) (Nat.le_of_ble_eq_true rfl) (Nat.le_of_ble_eq_true rfl) ?_
    refine lv_dup hx hb d_Rows_initiator_21 rfl ?_
    refine h_callI (n := 0) C0 w_TBm hh hS hl.1 [] [.ref q43, .ref r42] (S_Ini_init _ _ _ hw) k_m_Rows_66 k_inst_Ini_init rfl k_ini_Ini k_code_Ini_init (by decide +kernel) rfl rfl (Nat.le_of_ble_eq_true rfl) ⟨(Nat.le_of_ble_eq_true rfl), (Nat.le_of_ble_eq_true rfl)⟩ ⟨(Nat.le_of_ble_eq_true rfl), (Nat.le_of_ble_eq_true rfl)⟩ d_Rows_initiator_22 (h_kV (k := 2) (n := 11) (Nat.le_of_ble_eq_true rfl) (Nat.le_of_ble_eq_true rfl) (fun h45 H locs hw hh hS => ?_))
    obtain ⟨fs47, hr48, hw⟩ := hw
    refine h_callV (n := 1) C0 w_TBm hh hS hl.1 [.ref q43] [] (S_AL_add_L _ _ _ _ hw) hr48 rfl k_m_Rows_67 k_inst_AL_add_L k_sel_AL_add_L k_ini_AL k_code_AL_add_L (by decide +kernel) rfl rfl (Nat.le_of_ble_eq_true rfl) ⟨(Nat.le_of_ble_eq_true rfl), (Nat.le_of_ble_eq_true rfl)⟩ ⟨(Nat.le_of_ble_eq_true rfl), (Nat.le_of_ble_eq_true rfl)⟩ d_Rows_initiator_25 (h_kI (k := 3) (n := 171) (Nat.le_of_ble_eq_true rfl) (Nat.le_of_ble_eq_true rfl) (fun i50 h49 H locs hw hh hS => ?_))
    refine lv_pop hx hb d_Rows_initiator_28 rfl ?_
    refine lv_aload_n hx hb d_Rows_initiator_29 rfl (lv_at hl 0 rfl) ?_
    obtain ⟨fs51, r54, hr52, hk53, hw⟩ := hw
    refine h_get C0 hh hr52 hk53 rfl i_Rows (by decide) k_f_Rows_10 (fun _ h9 => h9) d_Rows_initiator_30 ?_
    obtain ⟨fs55, hr56, hw⟩ := hw
    refine h_callV (n := 0) C0 w_TBm hh hS hl.1 [] [] (S_AL_size _ _ _ hw) hr56 rfl k_m_Rows_60 k_inst_AL_size k_sel_AL_size k_ini_AL k_code_AL_size (by decide +kernel) rfl rfl (Nat.le_of_ble_eq_true rfl) ⟨(Nat.le_of_ble_eq_true rfl), (Nat.le_of_ble_eq_true rfl)⟩ ⟨(Nat.le_of_ble_eq_true rfl), (Nat.le_of_ble_eq_true rfl)⟩ d_Rows_initiator_33 (h_kI (k := 3) (n := 171) (Nat.le_of_ble_eq_true rfl) (Nat.le_of_ble_eq_true rfl) (fun i58 h57 H locs hw hh hS => ?_))
    exact h_iret C0 hh hS rfl rfl ⟨_, rfl, hw⟩ d_Rows_initiator_36
  · have hw := hw.2 c38
    refine lv_iconst (v := -1) hx hb d_Rows_initiator_12 (by decide) ?_
    refine W.widen (k := 3) (n := 171) (Nat.le_of_ble_eq_true rfl) (Nat.le_of_ble_eq_true rfl) ?_
    exact h_iret C0 hh hS rfl rfl ⟨_, rfl, hw⟩ d_Rows_initiator_13
set_option maxHeartbeats 4000000 in
set_option maxRecDepth 100000 in
theorem S_Rows_isIn {l : Launch} {κ : hX} (Q : Int32 → hM → Prop) (h : hM) (x0 : Int32) (x1 : Int32) (x2 : Int32) (hw : P_Rows_isIn Q h x0 x1 x2) : Met l y_Rows_isIn [Cond.code y_Rows_isIn b_Rows_isIn 3 (some .boolean)] rm_Rows_isIn (hPc κ w_cl w_tl w_tb [.int x0, .int x1, .int x2] h) (hQ κ w_cl (qI Q)) 0 0 (h_A κ) := by
  refine h_enter w_TBm (by decide) (Nat.le_of_ble_eq_true rfl) ?_
  intro p e s m args below meth c C0 hnm hh hS ls hl
  obtain ⟨hx, hb, hml, hown, hts, hK, hF0, hrt, hlocks⟩ := id C0
  have hl : lv_has ls 3 [(0, .int x0), (1, .int x1), (2, .int x2)] := hl
  refine lv_iload_n hx hb d_Rows_isIn_0 rfl (lv_at hl 0 rfl) ?_
  refine lv_iload_n hx hb d_Rows_isIn_1 rfl (lv_at hl 1 rfl) ?_
  refine lv_icmp_lt (tgt := 14) hx hb d_Rows_isIn_2 (by decide) (fun c3 => ?_) (fun c3 => ?_)
  · have hw := hw.1 c3
    refine lv_iconst (v := 0) hx hb d_Rows_isIn_14 (by decide) ?_
    exact h_iret C0 hh hS rfl rfl ⟨_, rfl, hw⟩ d_Rows_isIn_15
  · have hw := hw.2 c3
    refine lv_iload_n hx hb d_Rows_isIn_5 rfl (lv_at hl 0 rfl) ?_
    refine lv_iload_n hx hb d_Rows_isIn_6 rfl (lv_at hl 2 rfl) ?_
    refine lv_icmp_gt (tgt := 14) hx hb d_Rows_isIn_7 (by decide) (fun c4 => ?_) (fun c4 => ?_)
    · have hw := hw.1 c4
      refine lv_iconst (v := 0) hx hb d_Rows_isIn_14 (by decide) ?_
      exact h_iret C0 hh hS rfl rfl ⟨_, rfl, hw⟩ d_Rows_isIn_15
    · have hw := hw.2 c4
      refine lv_iconst (v := 1) hx hb d_Rows_isIn_10 (by decide) ?_
      refine lv_goto (tgt := 15) hx hb d_Rows_isIn_11 (by decide) ?_
      exact h_iret C0 hh hS rfl rfl ⟨_, rfl, hw⟩ d_Rows_isIn_15
set_option maxHeartbeats 4000000 in
set_option maxRecDepth 100000 in
theorem S_Rows_findInitiator {l : Launch} {κ : hX} (Q : Option Nat → hM → Prop) (h : hM) (x0 : Nat) (x1 : Int32) (hw : P_Rows_findInitiator Q h x0 x1) : Met l y_Rows_findInitiator [Cond.code y_Rows_findInitiator b_Rows_findInitiator 2 (some (.object "InitiatorRows$Initiator"))] rm_Rows_findInitiator (hPc κ w_cl w_tl w_tb [.ref x0, .int x1] h) (hQ κ w_cl (qO Q)) 0 0 (h_A κ) := by
  refine h_enter w_TBm (by decide) (Nat.le_of_ble_eq_true rfl) ?_
  intro p e s m args below meth c C0 hnm hh hS ls hl
  obtain ⟨hx, hb, hml, hown, hts, hK, hF0, hrt, hlocks⟩ := id C0
  have hl : lv_has ls 2 [(0, .ref x0), (1, .int x1)] := hl
  refine lv_iload_n hx hb d_Rows_findInitiator_0 rfl (lv_at hl 1 rfl) ?_
  refine lv_iconst (v := 1) hx hb d_Rows_findInitiator_1 (by decide) ?_
  refine lv_aload_n hx hb d_Rows_findInitiator_2 rfl (lv_at hl 0 rfl) ?_
  obtain ⟨fs23, r26, hr24, hk25, hw⟩ := hw
  refine h_get C0 hh hr24 hk25 rfl i_Rows (by decide) k_f_Rows_10 (fun _ h9 => h9) d_Rows_findInitiator_3 ?_
  obtain ⟨fs27, hr28, hw⟩ := hw
  refine h_callV (n := 0) C0 w_TBm hh hS hl.1 [] [.int (1 : Int32), .int x1] (S_AL_size _ _ _ hw) hr28 rfl k_m_Rows_60 k_inst_AL_size k_sel_AL_size k_ini_AL k_code_AL_size (by decide +kernel) rfl rfl (Nat.le_of_ble_eq_true rfl) ⟨(Nat.le_of_ble_eq_true rfl), (Nat.le_of_ble_eq_true rfl)⟩ ⟨(Nat.le_of_ble_eq_true rfl), (Nat.le_of_ble_eq_true rfl)⟩ d_Rows_findInitiator_6 (h_kI (k := 0) (n := 0) (Nat.le_of_ble_eq_true rfl) (Nat.le_of_ble_eq_true rfl) (fun i30 h29 H locs hw hh hS => ?_))
  refine h_callS (n := 3) C0 w_TBm hh hS hl.1 [.int x1, .int (1 : Int32), .int i30] [] (S_Rows_isIn _ _ _ _ _ hw) k_m_Rows_75 k_stat_Rows_isIn k_ini_Rows k_code_Rows_isIn (by decide +kernel) rfl rfl (Nat.le_of_ble_eq_true rfl) ⟨(Nat.le_of_ble_eq_true rfl), (Nat.le_of_ble_eq_true rfl)⟩ ⟨(Nat.le_of_ble_eq_true rfl), (Nat.le_of_ble_eq_true rfl)⟩ d_Rows_findInitiator_9 (h_kI (k := 0) (n := 0) (Nat.le_of_ble_eq_true rfl) (Nat.le_of_ble_eq_true rfl) (fun i32 h31 H locs hw hh hS => ?_))
  refine lv_if_eq (tgt := 31) hx hb d_Rows_findInitiator_12 (by decide) (fun c33 => ?_) (fun c33 => ?_)
  · have hw := hw.1 c33
    refine lv_null hx hb d_Rows_findInitiator_31 ?_
    exact h_aret (o := none) C0 hh hS rfl (Or.inl ⟨_, rfl⟩) ⟨_, rfl, hw⟩ d_Rows_findInitiator_32
  · have hw := hw.2 c33
    refine lv_aload_n hx hb d_Rows_findInitiator_15 rfl (lv_at hl 0 rfl) ?_
    obtain ⟨fs34, r37, hr35, hk36, hw⟩ := hw
    refine h_get C0 hh hr35 hk36 rfl i_Rows (by decide) k_f_Rows_10 (fun _ h9 => h9) d_Rows_findInitiator_16 ?_
    refine lv_iload_n hx hb d_Rows_findInitiator_19 rfl (lv_at hl 1 rfl) ?_
    refine lv_iconst (v := 1) hx hb d_Rows_findInitiator_20 (by decide) ?_
    refine lv_isub hx hb d_Rows_findInitiator_21 ?_
    obtain ⟨fs38, hr39, hw⟩ := hw
    refine h_callV (n := 1) C0 w_TBm hh hS hl.1 [.int (x1 - (1 : Int32))] [] (S_AL_get _ _ _ _ hw) hr39 rfl k_m_Rows_156 k_inst_AL_get k_sel_AL_get k_ini_AL k_code_AL_get (by decide +kernel) rfl rfl (Nat.le_of_ble_eq_true rfl) ⟨(Nat.le_of_ble_eq_true rfl), (Nat.le_of_ble_eq_true rfl)⟩ ⟨(Nat.le_of_ble_eq_true rfl), (Nat.le_of_ble_eq_true rfl)⟩ d_Rows_findInitiator_22 (h_kO (k := 0) (n := 0) (Nat.le_of_ble_eq_true rfl) (Nat.le_of_ble_eq_true rfl) (fun o41 h40 H locs hw hh hS => ?_))
    rcases o41 with _ | a42
    · have hw := hw.1 rfl
      have hl : lv_has ls 2 [(0, .ref x0), (1, .int x1)] := hl
      refine lv_castN hx hb d_Rows_findInitiator_25 ?_
      refine lv_goto (tgt := 32) hx hb d_Rows_findInitiator_28 (by decide) ?_
      exact h_aret (o := none) C0 hh hS rfl (Or.inl ⟨_, rfl⟩) ⟨_, rfl, hw⟩ d_Rows_findInitiator_32
    · have hw := hw.2 a42 rfl
      have hl : lv_has ls 2 [(0, .ref x0), (1, .int x1)] := hl
      obtain ⟨⟨fs43, hr44⟩, hw⟩ := hw
      refine h_cast C0 hh hr44 rfl k_c_Rows_64 d_Rows_findInitiator_25 ?_
      refine lv_goto (tgt := 32) hx hb d_Rows_findInitiator_28 (by decide) ?_
      exact h_aret (o := (some a42)) C0 hh hS rfl (Or.inl ⟨_, rfl⟩) ⟨_, rfl, hw⟩ d_Rows_findInitiator_32
set_option maxHeartbeats 4000000 in
set_option maxRecDepth 100000 in
theorem S_Rows_isClass {l : Launch} {κ : hX} (Q : Int32 → hM → Prop) (h : hM) (x0 : Int32) (hw : P_Rows_isClass Q h x0) : Met l y_Rows_isClass [Cond.code y_Rows_isClass b_Rows_isClass 1 (some .boolean)] rm_Rows_isClass (hPc κ w_cl w_tl w_tb [.int x0] h) (hQ κ w_cl (qI Q)) 0 0 (h_A κ) := by
  refine h_enter w_TBm (by decide) (Nat.le_of_ble_eq_true rfl) ?_
  intro p e s m args below meth c C0 hnm hh hS ls hl
  obtain ⟨hx, hb, hml, hown, hts, hK, hF0, hrt, hlocks⟩ := id C0
  have hl : lv_has ls 1 [(0, .int x0)] := hl
  refine lv_iload_n hx hb d_Rows_isClass_0 rfl (lv_at hl 0 rfl) ?_
  refine lv_iconst (v := 0) hx hb d_Rows_isClass_1 (by decide) ?_
  refine lv_bipush (v := 35) hx hb d_Rows_isClass_2 (by decide) ?_
  refine h_callS (n := 3) C0 w_TBm hh hS hl.1 [.int x0, .int (0 : Int32), .int (35 : Int32)] [] (S_Rows_isIn _ _ _ _ _ hw) k_m_Rows_75 k_stat_Rows_isIn k_ini_Rows k_code_Rows_isIn (by decide +kernel) rfl rfl (Nat.le_of_ble_eq_true rfl) ⟨(Nat.le_of_ble_eq_true rfl), (Nat.le_of_ble_eq_true rfl)⟩ ⟨(Nat.le_of_ble_eq_true rfl), (Nat.le_of_ble_eq_true rfl)⟩ d_Rows_isClass_4 (h_kI (k := 0) (n := 0) (Nat.le_of_ble_eq_true rfl) (Nat.le_of_ble_eq_true rfl) (fun i4 h3 H locs hw hh hS => ?_))
  exact h_iret C0 hh hS rfl (h_nz hw.1) ⟨_, rfl, hw.2⟩ d_Rows_isClass_7
set_option maxHeartbeats 4000000 in
set_option maxRecDepth 100000 in
theorem S_Rows_cls_40 {p : Program} {l : Launch} {e : Env} {s : State} {m : MethodId} {args : Array Value} {below : List Frame} {meth : Method} {c : Code} {κ : hX} {Q : Int32 → hM → Prop} (C0 : Cw κ w_cl w_tl w_tb p s m args meth c b_Rows_cls 5 R_Rows (some .int)) : ∀ (h : hM) (x2 : Int32) (x3 : Int32) (x4 : Nat) (H : Heap) (locs : List Loc) (ls : Array Slot), P_Rows_cls_40 Q h x2 x3 x4 → hp κ w_cl h H → va_S (h_A κ) s.heap H locs → lv_has ls 5 [(2, .int x2), (3, .int x3), (4, .ref x4)] → W p l e rm_Rows_cls s m args below meth c H locs 0 0 (MQ below (hQ κ w_cl (qI Q)) args s 0 0 (h_A κ)) (F0 m 40 ls []) := by
  obtain ⟨hx, hb, hml, hown, hts, hK, hF0, hrt, hlocks⟩ := id C0
  intro h x2 x3 x4 H locs ls hw hh hS hl
  refine lv_aload hx hb d_Rows_cls_40 (lv_at hl 2 rfl) ?_
  obtain ⟨fs45, r48, hr46, hk47, hw⟩ := hw
  refine h_get C0 hh hr46 hk47 rfl i_Ini (by decide) k_f_Rows_83 (fun _ h9 => h9) d_Rows_cls_42 ?_
  refine lv_iload_n hx hb d_Rows_cls_45 rfl (lv_at hl 0 rfl) ?_
  refine lv_iload_n hx hb d_Rows_cls_46 rfl (lv_at hl 1 rfl) ?_
  obtain ⟨n49, f50, hr51, hi52, hw⟩ := hw
  refine h_iast C0 hh hS hr51 hi52 rfl d_Rows_cls_47 (fun H locs hh hS => ?_)
  obtain ⟨h53, eh53⟩ : ∃ z : hM, z = h_up h r48 (eT 0 n49 (upd f50 x2.toNatClampNeg x3)) := ⟨_, rfl⟩
  rw [← eh53] at hh
  have hw := hw h53 eh53
  refine lv_iconst (v := 1) hx hb d_Rows_cls_48 (by decide) ?_
  exact h_iret C0 hh hS rfl rfl ⟨_, rfl, hw⟩ d_Rows_cls_49
set_option maxHeartbeats 4000000 in
set_option maxRecDepth 100000 in
theorem S_Rows_cls {l : Launch} {κ : hX} (Q : Int32 → hM → Prop) (h : hM) (x0 : Nat) (x1 : Int32) (x2 : Int32) (x3 : Int32) (hw : P_Rows_cls Q h x0 x1 x2 x3) : Met l y_Rows_cls [Cond.code y_Rows_cls b_Rows_cls 5 (some .int)] rm_Rows_cls (hPc κ w_cl w_tl w_tb [.ref x0, .int x1, .int x2, .int x3] h) (hQ κ w_cl (qI Q)) 0 0 (h_A κ) := by
  refine h_enter w_TBm (by decide) (Nat.le_of_ble_eq_true rfl) ?_
  intro p e s m args below meth c C0 hnm hh hS ls hl
  obtain ⟨hx, hb, hml, hown, hts, hK, hF0, hrt, hlocks⟩ := id C0
  have hl : lv_has ls 5 [(0, .ref x0), (1, .int x1), (2, .int x2), (3, .int x3)] := hl
  refine lv_aload_n hx hb d_Rows_cls_0 rfl (lv_at hl 0 rfl) ?_
  refine lv_iload_n hx hb d_Rows_cls_1 rfl (lv_at hl 1 rfl) ?_
  obtain ⟨fs54, hr55, hw⟩ := hw
  refine h_callV (n := 1) C0 w_TBm hh hS hl.1 [.int x1] [] (S_Rows_findInitiator _ _ _ _ hw) hr55 rfl k_m_Rows_71 k_inst_Rows_findInitiator k_sel_Rows_findInitiator k_ini_Rows k_code_Rows_findInitiator (by decide +kernel) rfl rfl (Nat.le_of_ble_eq_true rfl) ⟨(Nat.le_of_ble_eq_true rfl), (Nat.le_of_ble_eq_true rfl)⟩ ⟨(Nat.le_of_ble_eq_true rfl), (Nat.le_of_ble_eq_true rfl)⟩ d_Rows_cls_2 (h_kO (k := 0) (n := 0) (Nat.le_of_ble_eq_true rfl) (Nat.le_of_ble_eq_true rfl) (fun o57 h56 H locs hw hh hS => ?_))
  refine h_astoreO (lv' := [(4, va_rf o57), (0, .ref x0), (1, .int x1), (2, .int x2), (3, .int x3)]) hx hb d_Rows_cls_5 hl (by decide) rfl (fun ls hl => ?_)
  refine h_aloadO hx hb d_Rows_cls_7 (lv_at hl 0 rfl) ?_
  rcases o57 with _ | a59
  · have hw := hw.1 rfl
    have hl : lv_has ls 5 [(4, .null), (0, .ref x0), (1, .int x1), (2, .int x2), (3, .int x3)] := hl
    refine lv_ifnonnullN hx hb d_Rows_cls_9 ?_
    refine lv_bipush (v := -2) hx hb d_Rows_cls_12 (by decide) ?_
    exact h_iret C0 hh hS rfl rfl ⟨_, rfl, hw⟩ d_Rows_cls_14
  · have hw := hw.2 a59 rfl
    have hl : lv_has ls 5 [(4, .ref a59), (0, .ref x0), (1, .int x1), (2, .int x2), (3, .int x3)] := hl
    refine lv_ifnonnull (tgt := 15) hx hb d_Rows_cls_9 (by decide) ?_
    refine lv_iload_n hx hb d_Rows_cls_15 rfl (lv_at hl 3 rfl) ?_
    refine lv_iconst (v := 0) hx hb d_Rows_cls_16 (by decide) ?_
    refine lv_bipush (v := 7) hx hb d_Rows_cls_17 (by decide) ?_
    refine h_callS (n := 3) C0 w_TBm hh hS hl.1 [.int x2, .int (0 : Int32), .int (7 : Int32)] [] (S_Rows_isIn _ _ _ _ _ hw) k_m_Rows_75 k_stat_Rows_isIn k_ini_Rows k_code_Rows_isIn (by decide +kernel) rfl rfl (Nat.le_of_ble_eq_true rfl) ⟨(Nat.le_of_ble_eq_true rfl), (Nat.le_of_ble_eq_true rfl)⟩ ⟨(Nat.le_of_ble_eq_true rfl), (Nat.le_of_ble_eq_true rfl)⟩ d_Rows_cls_19 (h_kI (k := 0) (n := 0) (Nat.le_of_ble_eq_true rfl) (Nat.le_of_ble_eq_true rfl) (fun i61 h60 H locs hw hh hS => ?_))
    refine lv_if_eq (tgt := 37) hx hb d_Rows_cls_22 (by decide) (fun c62 => ?_) (fun c62 => ?_)
    · have hw := hw.1 c62
      refine lv_bipush (v := -4) hx hb d_Rows_cls_37 (by decide) ?_
      exact h_iret C0 hh hS rfl rfl ⟨_, rfl, hw⟩ d_Rows_cls_39
    · have hw := hw.2 c62
      refine lv_iload_n hx hb d_Rows_cls_25 rfl (lv_at hl 4 rfl) ?_
      refine lv_iconst (v := -1) hx hb d_Rows_cls_26 (by decide) ?_
      refine lv_icmp_eq (tgt := 40) hx hb d_Rows_cls_27 (by decide) (fun c63 => ?_) (fun c63 => ?_)
      · have hw := hw.1 c63
        exact S_Rows_cls_40 C0 _ _ _ _ _ _ _ hw hh hS (lv_sub hl [3, 4, 0] rfl)
      · have hw := hw.2 c63
        refine lv_iload_n hx hb d_Rows_cls_30 rfl (lv_at hl 4 rfl) ?_
        refine h_callS (n := 1) C0 w_TBm hh hS hl.1 [.int x3] [] (S_Rows_isClass _ _ _ hw) k_m_Rows_79 k_stat_Rows_isClass k_ini_Rows k_code_Rows_isClass (by decide +kernel) rfl rfl (Nat.le_of_ble_eq_true rfl) ⟨(Nat.le_of_ble_eq_true rfl), (Nat.le_of_ble_eq_true rfl)⟩ ⟨(Nat.le_of_ble_eq_true rfl), (Nat.le_of_ble_eq_true rfl)⟩ d_Rows_cls_31 (h_kI (k := 0) (n := 0) (Nat.le_of_ble_eq_true rfl) (Nat.le_of_ble_eq_true rfl) (fun i65 h64 H locs hw hh hS => ?_))
        refine lv_if_ne (tgt := 40) hx hb d_Rows_cls_34 (by decide) (fun c66 => ?_) (fun c66 => ?_)
        · have hw := hw.1 c66
          exact S_Rows_cls_40 C0 _ _ _ _ _ _ _ hw hh hS (lv_sub hl [3, 4, 0] rfl)
        · have hw := hw.2 c66
          refine lv_bipush (v := -4) hx hb d_Rows_cls_37 (by decide) ?_
          exact h_iret C0 hh hS rfl rfl ⟨_, rfl, hw⟩ d_Rows_cls_39
set_option maxHeartbeats 4000000 in
set_option maxRecDepth 100000 in
theorem S_Rows_limit {l : Launch} {κ : hX} (Q : Int32 → hM → Prop) (h : hM) (x0 : Nat) (x1 : Int32) (x2 : Int32) (hw : P_Rows_limit Q h x0 x1 x2) : Met l y_Rows_limit [Cond.code y_Rows_limit b_Rows_limit 3 (some .int)] rm_Rows_limit (hPc κ w_cl w_tl w_tb [.ref x0, .int x1, .int x2] h) (hQ κ w_cl (qI Q)) 0 0 (h_A κ) := by
  refine h_enter w_TBm (by decide) (Nat.le_of_ble_eq_true rfl) ?_
  intro p e s m args below meth c C0 hnm hh hS ls hl
  obtain ⟨hx, hb, hml, hown, hts, hK, hF0, hrt, hlocks⟩ := id C0
  have hl : lv_has ls 3 [(0, .ref x0), (1, .int x1), (2, .int x2)] := hl
  refine lv_iload_n hx hb d_Rows_limit_0 rfl (lv_at hl 1 rfl) ?_
  refine h_callS (n := 1) C0 w_TBm hh hS hl.1 [.int x1] [] (S_Rows_isClass _ _ _ hw) k_m_Rows_79 k_stat_Rows_isClass k_ini_Rows k_code_Rows_isClass (by decide +kernel) rfl rfl (Nat.le_of_ble_eq_true rfl) ⟨(Nat.le_of_ble_eq_true rfl), (Nat.le_of_ble_eq_true rfl)⟩ ⟨(Nat.le_of_ble_eq_true rfl), (Nat.le_of_ble_eq_true rfl)⟩ d_Rows_limit_1 (h_kI (k := 0) (n := 0) (Nat.le_of_ble_eq_true rfl) (Nat.le_of_ble_eq_true rfl) (fun i17 h16 H locs hw hh hS => ?_))
  refine lv_if_eq (tgt := 17) hx hb d_Rows_limit_4 (by decide) (fun c18 => ?_) (fun c18 => ?_)
  · have hw := hw.1 c18
    refine lv_bipush (v := -4) hx hb d_Rows_limit_17 (by decide) ?_
    exact h_iret C0 hh hS rfl rfl ⟨_, rfl, hw⟩ d_Rows_limit_19
  · have hw := hw.2 c18
    refine lv_iload_n hx hb d_Rows_limit_7 rfl (lv_at hl 2 rfl) ?_
    refine lv_iconst (v := 0) hx hb d_Rows_limit_8 (by decide) ?_
    refine lv_bipush (v := 40) hx hb d_Rows_limit_9 (by decide) ?_
    refine h_callS (n := 3) C0 w_TBm hh hS hl.1 [.int x2, .int (0 : Int32), .int (40 : Int32)] [] (S_Rows_isIn _ _ _ _ _ hw) k_m_Rows_75 k_stat_Rows_isIn k_ini_Rows k_code_Rows_isIn (by decide +kernel) rfl rfl (Nat.le_of_ble_eq_true rfl) ⟨(Nat.le_of_ble_eq_true rfl), (Nat.le_of_ble_eq_true rfl)⟩ ⟨(Nat.le_of_ble_eq_true rfl), (Nat.le_of_ble_eq_true rfl)⟩ d_Rows_limit_11 (h_kI (k := 0) (n := 0) (Nat.le_of_ble_eq_true rfl) (Nat.le_of_ble_eq_true rfl) (fun i20 h19 H locs hw hh hS => ?_))
    refine lv_if_ne (tgt := 20) hx hb d_Rows_limit_14 (by decide) (fun c21 => ?_) (fun c21 => ?_)
    · have hw := hw.1 c21
      refine lv_aload_n hx hb d_Rows_limit_20 rfl (lv_at hl 0 rfl) ?_
      obtain ⟨fs22, r25, hr23, hk24, hw⟩ := hw
      refine h_get C0 hh hr23 hk24 rfl i_Rows (by decide) k_f_Rows_19 (fun _ h9 => h9) d_Rows_limit_21 ?_
      refine lv_iload_n hx hb d_Rows_limit_24 rfl (lv_at hl 1 rfl) ?_
      refine lv_iload_n hx hb d_Rows_limit_25 rfl (lv_at hl 2 rfl) ?_
      obtain ⟨n26, f27, hr28, hi29, hw⟩ := hw
      refine h_iast C0 hh hS hr28 hi29 rfl d_Rows_limit_26 (fun H locs hh hS => ?_)
      obtain ⟨h30, eh30⟩ : ∃ z : hM, z = h_up h19 r25 (eT 0 n26 (upd f27 x1.toNatClampNeg x2)) := ⟨_, rfl⟩
      rw [← eh30] at hh
      have hw := hw h30 eh30
      refine lv_iconst (v := 1) hx hb d_Rows_limit_27 (by decide) ?_
      exact h_iret C0 hh hS rfl rfl ⟨_, rfl, hw⟩ d_Rows_limit_28
    · have hw := hw.2 c21
      refine lv_bipush (v := -4) hx hb d_Rows_limit_17 (by decide) ?_
      exact h_iret C0 hh hS rfl rfl ⟨_, rfl, hw⟩ d_Rows_limit_19
set_option maxHeartbeats 4000000 in
set_option maxRecDepth 100000 in
theorem S_Rows_window {l : Launch} {κ : hX} (Q : Int32 → hM → Prop) (h : hM) (x0 : Nat) (x1 : Int32) (x2 : Int32) (x3 : Int32) (hw : P_Rows_window Q h x0 x1 x2 x3) : Met l y_Rows_window [Cond.code y_Rows_window b_Rows_window 4 (some .int)] rm_Rows_window (hPc κ w_cl w_tl w_tb [.ref x0, .int x1, .int x2, .int x3] h) (hQ κ w_cl (qI Q)) 0 0 (h_A κ) := by
  refine h_enter w_TBm (by decide) (Nat.le_of_ble_eq_true rfl) ?_
  intro p e s m args below meth c C0 hnm hh hS ls hl
  obtain ⟨hx, hb, hml, hown, hts, hK, hF0, hrt, hlocks⟩ := id C0
  have hl : lv_has ls 4 [(0, .ref x0), (1, .int x1), (2, .int x2), (3, .int x3)] := hl
  refine lv_iload_n hx hb d_Rows_window_0 rfl (lv_at hl 1 rfl) ?_
  refine h_callS (n := 1) C0 w_TBm hh hS hl.1 [.int x1] [] (S_Rows_isClass _ _ _ hw) k_m_Rows_79 k_stat_Rows_isClass k_ini_Rows k_code_Rows_isClass (by decide +kernel) rfl rfl (Nat.le_of_ble_eq_true rfl) ⟨(Nat.le_of_ble_eq_true rfl), (Nat.le_of_ble_eq_true rfl)⟩ ⟨(Nat.le_of_ble_eq_true rfl), (Nat.le_of_ble_eq_true rfl)⟩ d_Rows_window_1 (h_kI (k := 0) (n := 0) (Nat.le_of_ble_eq_true rfl) (Nat.le_of_ble_eq_true rfl) (fun i29 h28 H locs hw hh hS => ?_))
  refine lv_if_eq (tgt := 29) hx hb d_Rows_window_4 (by decide) (fun c30 => ?_) (fun c30 => ?_)
  · have hw := hw.1 c30
    refine lv_bipush (v := -4) hx hb d_Rows_window_29 (by decide) ?_
    exact h_iret C0 hh hS rfl rfl ⟨_, rfl, hw⟩ d_Rows_window_31
  · have hw := hw.2 c30
    refine lv_iload_n hx hb d_Rows_window_7 rfl (lv_at hl 2 rfl) ?_
    refine lv_iconst (v := 0) hx hb d_Rows_window_8 (by decide) ?_
    refine lv_sipush (v := 1439) hx hb d_Rows_window_9 (by decide) ?_
    refine h_callS (n := 3) C0 w_TBm hh hS hl.1 [.int x2, .int (0 : Int32), .int (1439 : Int32)] [] (S_Rows_isIn _ _ _ _ _ hw) k_m_Rows_75 k_stat_Rows_isIn k_ini_Rows k_code_Rows_isIn (by decide +kernel) rfl rfl (Nat.le_of_ble_eq_true rfl) ⟨(Nat.le_of_ble_eq_true rfl), (Nat.le_of_ble_eq_true rfl)⟩ ⟨(Nat.le_of_ble_eq_true rfl), (Nat.le_of_ble_eq_true rfl)⟩ d_Rows_window_12 (h_kI (k := 0) (n := 0) (Nat.le_of_ble_eq_true rfl) (Nat.le_of_ble_eq_true rfl) (fun i32 h31 H locs hw hh hS => ?_))
    refine lv_if_eq (tgt := 29) hx hb d_Rows_window_15 (by decide) (fun c33 => ?_) (fun c33 => ?_)
    · have hw := hw.1 c33
      refine lv_bipush (v := -4) hx hb d_Rows_window_29 (by decide) ?_
      exact h_iret C0 hh hS rfl rfl ⟨_, rfl, hw⟩ d_Rows_window_31
    · have hw := hw.2 c33
      refine lv_iload_n hx hb d_Rows_window_18 rfl (lv_at hl 3 rfl) ?_
      refine lv_iconst (v := 0) hx hb d_Rows_window_19 (by decide) ?_
      refine lv_sipush (v := 1439) hx hb d_Rows_window_20 (by decide) ?_
      refine h_callS (n := 3) C0 w_TBm hh hS hl.1 [.int x3, .int (0 : Int32), .int (1439 : Int32)] [] (S_Rows_isIn _ _ _ _ _ hw) k_m_Rows_75 k_stat_Rows_isIn k_ini_Rows k_code_Rows_isIn (by decide +kernel) rfl rfl (Nat.le_of_ble_eq_true rfl) ⟨(Nat.le_of_ble_eq_true rfl), (Nat.le_of_ble_eq_true rfl)⟩ ⟨(Nat.le_of_ble_eq_true rfl), (Nat.le_of_ble_eq_true rfl)⟩ d_Rows_window_23 (h_kI (k := 0) (n := 0) (Nat.le_of_ble_eq_true rfl) (Nat.le_of_ble_eq_true rfl) (fun i35 h34 H locs hw hh hS => ?_))
      refine lv_if_ne (tgt := 32) hx hb d_Rows_window_26 (by decide) (fun c36 => ?_) (fun c36 => ?_)
      · have hw := hw.1 c36
        refine lv_aload_n hx hb d_Rows_window_32 rfl (lv_at hl 0 rfl) ?_
        obtain ⟨fs37, r40, hr38, hk39, hw⟩ := hw
        refine h_get C0 hh hr38 hk39 rfl i_Rows (by decide) k_f_Rows_23 (fun _ h9 => h9) d_Rows_window_33 ?_
        refine lv_iload_n hx hb d_Rows_window_36 rfl (lv_at hl 1 rfl) ?_
        refine lv_iload_n hx hb d_Rows_window_37 rfl (lv_at hl 2 rfl) ?_
        obtain ⟨n41, f42, hr43, hi44, hw⟩ := hw
        refine h_iast C0 hh hS hr43 hi44 rfl d_Rows_window_38 (fun H locs hh hS => ?_)
        obtain ⟨h45, eh45⟩ : ∃ z : hM, z = h_up h34 r40 (eT 0 n41 (upd f42 x1.toNatClampNeg x2)) := ⟨_, rfl⟩
        rw [← eh45] at hh
        have hw := hw h45 eh45
        refine lv_aload_n hx hb d_Rows_window_39 rfl (lv_at hl 0 rfl) ?_
        obtain ⟨fs46, r49, hr47, hk48, hw⟩ := hw
        refine h_get C0 hh hr47 hk48 rfl i_Rows (by decide) k_f_Rows_26 (fun _ h9 => h9) d_Rows_window_40 ?_
        refine lv_iload_n hx hb d_Rows_window_43 rfl (lv_at hl 1 rfl) ?_
        refine lv_iload_n hx hb d_Rows_window_44 rfl (lv_at hl 3 rfl) ?_
        obtain ⟨n50, f51, hr52, hi53, hw⟩ := hw
        refine h_iast C0 hh hS hr52 hi53 rfl d_Rows_window_45 (fun H locs hh hS => ?_)
        obtain ⟨h54, eh54⟩ : ∃ z : hM, z = h_up h45 r49 (eT 0 n50 (upd f51 x1.toNatClampNeg x3)) := ⟨_, rfl⟩
        rw [← eh54] at hh
        have hw := hw h54 eh54
        refine lv_iconst (v := 1) hx hb d_Rows_window_46 (by decide) ?_
        exact h_iret C0 hh hS rfl rfl ⟨_, rfl, hw⟩ d_Rows_window_47
      · have hw := hw.2 c36
        refine lv_bipush (v := -4) hx hb d_Rows_window_29 (by decide) ?_
        exact h_iret C0 hh hS rfl rfl ⟨_, rfl, hw⟩ d_Rows_window_31
set_option maxHeartbeats 4000000 in
set_option maxRecDepth 100000 in
theorem S_Rows_job {l : Launch} {κ : hX} (Q : Int32 → hM → Prop) (h : hM) (x0 : Nat) (x1 : Int32) (x2 : Int32) (x3 : Int32) (x4 : Int64) (hw : P_Rows_job Q h x0 x1 x2 x3 x4) : Met l y_Rows_job [Cond.code y_Rows_job b_Rows_job 7 (some .int)] rm_Rows_job (hPc κ w_cl w_tl w_tb [.ref x0, .int x1, .int x2, .int x3, .long x4] h) (hQ κ w_cl (qI Q)) 4 176 (h_A κ) := by
  refine h_enter w_TBm (by decide) (Nat.le_of_ble_eq_true rfl) ?_
  intro p e s m args below meth c C0 hnm hh hS ls hl
  obtain ⟨hx, hb, hml, hown, hts, hK, hF0, hrt, hlocks⟩ := id C0
  have hl : lv_has ls 7 [(0, .ref x0), (1, .int x1), (2, .int x2), (3, .int x3), (4, .long x4)] := hl
  refine lv_iload_n hx hb d_Rows_job_0 rfl (lv_at hl 1 rfl) ?_
  refine h_callS (n := 1) C0 w_TBm hh hS hl.1 [.int x1] [] (S_Rows_isClass _ _ _ hw) k_m_Rows_79 k_stat_Rows_isClass k_ini_Rows k_code_Rows_isClass (by decide +kernel) rfl rfl (Nat.le_of_ble_eq_true rfl) ⟨(Nat.le_of_ble_eq_true rfl), (Nat.le_of_ble_eq_true rfl)⟩ ⟨(Nat.le_of_ble_eq_true rfl), (Nat.le_of_ble_eq_true rfl)⟩ d_Rows_job_1 (h_kI (k := 0) (n := 0) (Nat.le_of_ble_eq_true rfl) (Nat.le_of_ble_eq_true rfl) (fun i50 h49 H locs hw hh hS => ?_))
  refine lv_if_eq (tgt := 37) hx hb d_Rows_job_4 (by decide) (fun c51 => ?_) (fun c51 => ?_)
  · have hw := hw.1 c51
    refine lv_bipush (v := -4) hx hb d_Rows_job_37 (by decide) ?_
    refine W.widen (k := 4) (n := 176) (Nat.le_of_ble_eq_true rfl) (Nat.le_of_ble_eq_true rfl) ?_
    exact h_iret C0 hh hS rfl rfl ⟨_, rfl, hw⟩ d_Rows_job_39
  · have hw := hw.2 c51
    refine lv_iload_n hx hb d_Rows_job_7 rfl (lv_at hl 2 rfl) ?_
    refine lv_iconst (v := 0) hx hb d_Rows_job_8 (by decide) ?_
    refine lv_bipush (v := 15) hx hb d_Rows_job_9 (by decide) ?_
    refine h_callS (n := 3) C0 w_TBm hh hS hl.1 [.int x2, .int (0 : Int32), .int (15 : Int32)] [] (S_Rows_isIn _ _ _ _ _ hw) k_m_Rows_75 k_stat_Rows_isIn k_ini_Rows k_code_Rows_isIn (by decide +kernel) rfl rfl (Nat.le_of_ble_eq_true rfl) ⟨(Nat.le_of_ble_eq_true rfl), (Nat.le_of_ble_eq_true rfl)⟩ ⟨(Nat.le_of_ble_eq_true rfl), (Nat.le_of_ble_eq_true rfl)⟩ d_Rows_job_11 (h_kI (k := 0) (n := 0) (Nat.le_of_ble_eq_true rfl) (Nat.le_of_ble_eq_true rfl) (fun i53 h52 H locs hw hh hS => ?_))
    refine lv_if_eq (tgt := 37) hx hb d_Rows_job_14 (by decide) (fun c54 => ?_) (fun c54 => ?_)
    · have hw := hw.1 c54
      refine lv_bipush (v := -4) hx hb d_Rows_job_37 (by decide) ?_
      refine W.widen (k := 4) (n := 176) (Nat.le_of_ble_eq_true rfl) (Nat.le_of_ble_eq_true rfl) ?_
      exact h_iret C0 hh hS rfl rfl ⟨_, rfl, hw⟩ d_Rows_job_39
    · have hw := hw.2 c54
      refine lv_iload_n hx hb d_Rows_job_17 rfl (lv_at hl 3 rfl) ?_
      refine lv_iconst (v := 0) hx hb d_Rows_job_18 (by decide) ?_
      refine lv_bipush (v := 99) hx hb d_Rows_job_19 (by decide) ?_
      refine h_callS (n := 3) C0 w_TBm hh hS hl.1 [.int x3, .int (0 : Int32), .int (99 : Int32)] [] (S_Rows_isIn _ _ _ _ _ hw) k_m_Rows_75 k_stat_Rows_isIn k_ini_Rows k_code_Rows_isIn (by decide +kernel) rfl rfl (Nat.le_of_ble_eq_true rfl) ⟨(Nat.le_of_ble_eq_true rfl), (Nat.le_of_ble_eq_true rfl)⟩ ⟨(Nat.le_of_ble_eq_true rfl), (Nat.le_of_ble_eq_true rfl)⟩ d_Rows_job_21 (h_kI (k := 0) (n := 0) (Nat.le_of_ble_eq_true rfl) (Nat.le_of_ble_eq_true rfl) (fun i56 h55 H locs hw hh hS => ?_))
      refine lv_if_eq (tgt := 37) hx hb d_Rows_job_24 (by decide) (fun c57 => ?_) (fun c57 => ?_)
      · have hw := hw.1 c57
        refine lv_bipush (v := -4) hx hb d_Rows_job_37 (by decide) ?_
        refine W.widen (k := 4) (n := 176) (Nat.le_of_ble_eq_true rfl) (Nat.le_of_ble_eq_true rfl) ?_
        exact h_iret C0 hh hS rfl rfl ⟨_, rfl, hw⟩ d_Rows_job_39
      · have hw := hw.2 c57
        refine lv_lload hx hb d_Rows_job_27 (lv_at hl 4 rfl) ?_
        refine lv_aload_n hx hb d_Rows_job_29 rfl (lv_at hl 0 rfl) ?_
        obtain ⟨fs58, j61, hr59, hk60, hw⟩ := hw
        refine h_get C0 hh hr59 hk60 rfl i_Rows (by decide) k_f_Rows_49 (fun _ h9 => h9) d_Rows_job_30 ?_
        refine W.lcmp hx hb d_Rows_job_33 ?_
        refine lv_if_ge (tgt := 40) hx hb d_Rows_job_34 (by decide) (fun c62 => ?_) (fun c62 => ?_)
        · have hw := hw.1 ((lg_cmp_ge _ _).mp c62)
          refine lv_aload_n hx hb d_Rows_job_40 rfl (lv_at hl 0 rfl) ?_
          obtain ⟨fs63, r66, hr64, hk65, hw⟩ := hw
          refine h_get C0 hh hr64 hk65 rfl i_Rows (by decide) k_f_Rows_16 (fun _ h9 => h9) d_Rows_job_41 ?_
          obtain ⟨fs67, hr68, hw⟩ := hw
          refine h_callV (n := 0) C0 w_TBm hh hS hl.1 [] [] (S_AL_size _ _ _ hw) hr68 rfl k_m_Rows_60 k_inst_AL_size k_sel_AL_size k_ini_AL k_code_AL_size (by decide +kernel) rfl rfl (Nat.le_of_ble_eq_true rfl) ⟨(Nat.le_of_ble_eq_true rfl), (Nat.le_of_ble_eq_true rfl)⟩ ⟨(Nat.le_of_ble_eq_true rfl), (Nat.le_of_ble_eq_true rfl)⟩ d_Rows_job_44 (h_kI (k := 0) (n := 0) (Nat.le_of_ble_eq_true rfl) (Nat.le_of_ble_eq_true rfl) (fun i70 h69 H locs hw hh hS => ?_))
          refine lv_bipush (v := 100) hx hb d_Rows_job_47 (by decide) ?_
          refine lv_icmp_lt (tgt := 54) hx hb d_Rows_job_49 (by decide) (fun c71 => ?_) (fun c71 => ?_)
          · have hw := hw.1 c71
            refine lv_aload_n hx hb d_Rows_job_54 rfl (lv_at hl 0 rfl) ?_
            refine lv_lload hx hb d_Rows_job_55 (lv_at hl 4 rfl) ?_
            obtain ⟨fs72, hr73, hk74, hw⟩ := hw
            refine h_put C0 hh hS (v := .long x4) hr73 hk74 rfl i_Rows t_Rows t_Rows_ok n_Rows (by decide) k_f_Rows_49 (fun _ h9 => h9) rfl rfl rfl rfl d_Rows_job_57 (fun H locs hh hS => ?_)
            obtain ⟨h75, eh75⟩ : ∃ z : hM, z = h_up h69 x0 (eO 0 (fs72.set 9 (.long x4))) := ⟨_, rfl⟩
            rw [← eh75] at hh
            have hw := hw h75 eh75
            refine lv_aload_n hx hb d_Rows_job_60 rfl (lv_at hl 0 rfl) ?_
            obtain ⟨fs76, r79, hr77, hk78, hw⟩ := hw
            refine h_get C0 hh hr77 hk78 rfl i_Rows (by decide) k_f_Rows_16 (fun _ h9 => h9) d_Rows_job_61 ?_
            obtain ⟨fs80, hr81, hw⟩ := hw
            refine h_callV (n := 0) C0 w_TBm hh hS hl.1 [] [] (S_AL_size _ _ _ hw) hr81 rfl k_m_Rows_60 k_inst_AL_size k_sel_AL_size k_ini_AL k_code_AL_size (by decide +kernel) rfl rfl (Nat.le_of_ble_eq_true rfl) ⟨(Nat.le_of_ble_eq_true rfl), (Nat.le_of_ble_eq_true rfl)⟩ ⟨(Nat.le_of_ble_eq_true rfl), (Nat.le_of_ble_eq_true rfl)⟩ d_Rows_job_64 (h_kI (k := 0) (n := 0) (Nat.le_of_ble_eq_true rfl) (Nat.le_of_ble_eq_true rfl) (fun i83 h82 H locs hw hh hS => ?_))
            refine lv_iconst (v := 1) hx hb d_Rows_job_67 (by decide) ?_
            refine lv_iadd hx hb d_Rows_job_68 ?_
            refine lv_topi (fun x6_84 ex6_84 => ?_)
            have hw := hw x6_84 ex6_84
            refine lv_istore (lv' := [(6, .int x6_84), (0, .ref x0), (1, .int x1), (2, .int x2), (3, .int x3), (4, .long x4)]) hx hb d_Rows_job_69 hl (by decide) rfl (fun ls hl => ?_)
            refine lv_aload_n hx hb d_Rows_job_71 rfl (lv_at hl 1 rfl) ?_
            obtain ⟨fs85, r88, hr86, hk87, hw⟩ := hw
            refine h_get C0 hh hr86 hk87 rfl i_Rows (by decide) k_f_Rows_16 (fun _ h9 => h9) d_Rows_job_72 ?_
            refine h_new C0 hh hS (ci := 1) (fs := [.int 0, .int 0, .int 0, .int 0, .long 0, .null, .null, .int 0, .int 0, .long 0]) rfl i_Job t_Job t_Job_ok k_c_Rows_86 k_made_Job k_ini_Job def_Job (Nat.le_of_ble_eq_true rfl) (Nat.le_of_ble_eq_true rfl) d_Rows_job_75 (fun q89 H hqq89 hzq89 hh hS => ?_)
            obtain ⟨h90, eh90⟩ : ∃ z : hM, z = h_up h82 q89 (eO 1 [.int 0, .int 0, .int 0, .int 0, .long 0, .null, .null, .int 0, .int 0, .long 0]) := ⟨_, rfl⟩
            rw [← eh90] at hh
            have hw := hw q89 hqq89 h90 eh90
            refine W.widen (k := 1) (n := 10) (Nat.le_of_ble_eq_true rfl) (Nat.le_of_ble_eq_true rfl) ?_
            refine lv_dup hx hb d_Rows_job_78 rfl ?_
            refine lv_iload hx hb d_Rows_job_79 (lv_at hl 0 rfl) ?_
            refine lv_iload_n hx hb d_Rows_job_81 rfl (lv_at hl 2 rfl) ?_
            refine lv_iload_n hx hb d_Rows_job_82 rfl (lv_at hl 3 rfl) ?_
            refine lv_iload_n hx hb d_Rows_job_83 rfl (lv_at hl 4 rfl) ?_
            refine lv_lload hx hb d_Rows_job_84 (lv_at hl 5 rfl) ?_
            refine h_callI (n := 5) C0 w_TBm hh hS hl.1 [.int x6_84, .int x1, .int x2, .int x3, .long x4] [.ref q89, .ref r88] (S_Job_init _ _ _ _ _ _ _ _ hw) k_m_Rows_88 k_inst_Job_init rfl k_ini_Job k_code_Job_init (by decide +kernel) rfl rfl (Nat.le_of_ble_eq_true rfl) ⟨(Nat.le_of_ble_eq_true rfl), (Nat.le_of_ble_eq_true rfl)⟩ ⟨(Nat.le_of_ble_eq_true rfl), (Nat.le_of_ble_eq_true rfl)⟩ d_Rows_job_86 (h_kV (k := 3) (n := 16) (Nat.le_of_ble_eq_true rfl) (Nat.le_of_ble_eq_true rfl) (fun h91 H locs hw hh hS => ?_))
            obtain ⟨fs93, hr94, hw⟩ := hw
            refine h_callV (n := 1) C0 w_TBm hh hS hl.1 [.ref q89] [] (S_AL_add_L _ _ _ _ hw) hr94 rfl k_m_Rows_67 k_inst_AL_add_L k_sel_AL_add_L k_ini_AL k_code_AL_add_L (by decide +kernel) rfl rfl (Nat.le_of_ble_eq_true rfl) ⟨(Nat.le_of_ble_eq_true rfl), (Nat.le_of_ble_eq_true rfl)⟩ ⟨(Nat.le_of_ble_eq_true rfl), (Nat.le_of_ble_eq_true rfl)⟩ d_Rows_job_89 (h_kI (k := 4) (n := 176) (Nat.le_of_ble_eq_true rfl) (Nat.le_of_ble_eq_true rfl) (fun i96 h95 H locs hw hh hS => ?_))
            refine lv_pop hx hb d_Rows_job_92 rfl ?_
            refine lv_iload hx hb d_Rows_job_93 (lv_at hl 0 rfl) ?_
            exact h_iret C0 hh hS rfl rfl ⟨_, rfl, hw⟩ d_Rows_job_95
          · have hw := hw.2 c71
            refine lv_iconst (v := -1) hx hb d_Rows_job_52 (by decide) ?_
            refine W.widen (k := 4) (n := 176) (Nat.le_of_ble_eq_true rfl) (Nat.le_of_ble_eq_true rfl) ?_
            exact h_iret C0 hh hS rfl rfl ⟨_, rfl, hw⟩ d_Rows_job_53
        · have hw := hw.2 (fun z => c62 ((lg_cmp_ge _ _).mpr z))
          refine lv_bipush (v := -4) hx hb d_Rows_job_37 (by decide) ?_
          refine W.widen (k := 4) (n := 176) (Nat.le_of_ble_eq_true rfl) (Nat.le_of_ble_eq_true rfl) ?_
          exact h_iret C0 hh hS rfl rfl ⟨_, rfl, hw⟩ d_Rows_job_39
set_option maxHeartbeats 4000000 in
set_option maxRecDepth 100000 in
theorem S_Rows_findJob {l : Launch} {κ : hX} (Q : Option Nat → hM → Prop) (h : hM) (x0 : Nat) (x1 : Int32) (hw : P_Rows_findJob Q h x0 x1) : Met l y_Rows_findJob [Cond.code y_Rows_findJob b_Rows_findJob 2 (some (.object "InitiatorRows$Job"))] rm_Rows_findJob (hPc κ w_cl w_tl w_tb [.ref x0, .int x1] h) (hQ κ w_cl (qO Q)) 0 0 (h_A κ) := by
  refine h_enter w_TBm (by decide) (Nat.le_of_ble_eq_true rfl) ?_
  intro p e s m args below meth c C0 hnm hh hS ls hl
  obtain ⟨hx, hb, hml, hown, hts, hK, hF0, hrt, hlocks⟩ := id C0
  have hl : lv_has ls 2 [(0, .ref x0), (1, .int x1)] := hl
  refine lv_iload_n hx hb d_Rows_findJob_0 rfl (lv_at hl 1 rfl) ?_
  refine lv_iconst (v := 1) hx hb d_Rows_findJob_1 (by decide) ?_
  refine lv_aload_n hx hb d_Rows_findJob_2 rfl (lv_at hl 0 rfl) ?_
  obtain ⟨fs23, r26, hr24, hk25, hw⟩ := hw
  refine h_get C0 hh hr24 hk25 rfl i_Rows (by decide) k_f_Rows_16 (fun _ h9 => h9) d_Rows_findJob_3 ?_
  obtain ⟨fs27, hr28, hw⟩ := hw
  refine h_callV (n := 0) C0 w_TBm hh hS hl.1 [] [.int (1 : Int32), .int x1] (S_AL_size _ _ _ hw) hr28 rfl k_m_Rows_60 k_inst_AL_size k_sel_AL_size k_ini_AL k_code_AL_size (by decide +kernel) rfl rfl (Nat.le_of_ble_eq_true rfl) ⟨(Nat.le_of_ble_eq_true rfl), (Nat.le_of_ble_eq_true rfl)⟩ ⟨(Nat.le_of_ble_eq_true rfl), (Nat.le_of_ble_eq_true rfl)⟩ d_Rows_findJob_6 (h_kI (k := 0) (n := 0) (Nat.le_of_ble_eq_true rfl) (Nat.le_of_ble_eq_true rfl) (fun i30 h29 H locs hw hh hS => ?_))
  refine h_callS (n := 3) C0 w_TBm hh hS hl.1 [.int x1, .int (1 : Int32), .int i30] [] (S_Rows_isIn _ _ _ _ _ hw) k_m_Rows_75 k_stat_Rows_isIn k_ini_Rows k_code_Rows_isIn (by decide +kernel) rfl rfl (Nat.le_of_ble_eq_true rfl) ⟨(Nat.le_of_ble_eq_true rfl), (Nat.le_of_ble_eq_true rfl)⟩ ⟨(Nat.le_of_ble_eq_true rfl), (Nat.le_of_ble_eq_true rfl)⟩ d_Rows_findJob_9 (h_kI (k := 0) (n := 0) (Nat.le_of_ble_eq_true rfl) (Nat.le_of_ble_eq_true rfl) (fun i32 h31 H locs hw hh hS => ?_))
  refine lv_if_eq (tgt := 31) hx hb d_Rows_findJob_12 (by decide) (fun c33 => ?_) (fun c33 => ?_)
  · have hw := hw.1 c33
    refine lv_null hx hb d_Rows_findJob_31 ?_
    exact h_aret (o := none) C0 hh hS rfl (Or.inl ⟨_, rfl⟩) ⟨_, rfl, hw⟩ d_Rows_findJob_32
  · have hw := hw.2 c33
    refine lv_aload_n hx hb d_Rows_findJob_15 rfl (lv_at hl 0 rfl) ?_
    obtain ⟨fs34, r37, hr35, hk36, hw⟩ := hw
    refine h_get C0 hh hr35 hk36 rfl i_Rows (by decide) k_f_Rows_16 (fun _ h9 => h9) d_Rows_findJob_16 ?_
    refine lv_iload_n hx hb d_Rows_findJob_19 rfl (lv_at hl 1 rfl) ?_
    refine lv_iconst (v := 1) hx hb d_Rows_findJob_20 (by decide) ?_
    refine lv_isub hx hb d_Rows_findJob_21 ?_
    obtain ⟨fs38, hr39, hw⟩ := hw
    refine h_callV (n := 1) C0 w_TBm hh hS hl.1 [.int (x1 - (1 : Int32))] [] (S_AL_get _ _ _ _ hw) hr39 rfl k_m_Rows_156 k_inst_AL_get k_sel_AL_get k_ini_AL k_code_AL_get (by decide +kernel) rfl rfl (Nat.le_of_ble_eq_true rfl) ⟨(Nat.le_of_ble_eq_true rfl), (Nat.le_of_ble_eq_true rfl)⟩ ⟨(Nat.le_of_ble_eq_true rfl), (Nat.le_of_ble_eq_true rfl)⟩ d_Rows_findJob_22 (h_kO (k := 0) (n := 0) (Nat.le_of_ble_eq_true rfl) (Nat.le_of_ble_eq_true rfl) (fun o41 h40 H locs hw hh hS => ?_))
    rcases o41 with _ | a42
    · have hw := hw.1 rfl
      have hl : lv_has ls 2 [(0, .ref x0), (1, .int x1)] := hl
      refine lv_castN hx hb d_Rows_findJob_25 ?_
      refine lv_goto (tgt := 32) hx hb d_Rows_findJob_28 (by decide) ?_
      exact h_aret (o := none) C0 hh hS rfl (Or.inl ⟨_, rfl⟩) ⟨_, rfl, hw⟩ d_Rows_findJob_32
    · have hw := hw.2 a42 rfl
      have hl : lv_has ls 2 [(0, .ref x0), (1, .int x1)] := hl
      obtain ⟨⟨fs43, hr44⟩, hw⟩ := hw
      refine h_cast C0 hh hr44 rfl k_c_Rows_86 d_Rows_findJob_25 ?_
      refine lv_goto (tgt := 32) hx hb d_Rows_findJob_28 (by decide) ?_
      exact h_aret (o := (some a42)) C0 hh hS rfl (Or.inl ⟨_, rfl⟩) ⟨_, rfl, hw⟩ d_Rows_findJob_32
set_option maxHeartbeats 4000000 in
set_option maxRecDepth 100000 in
theorem S_Rows_addNeed_71 {p : Program} {l : Launch} {e : Env} {s : State} {m : MethodId} {args : Array Value} {below : List Frame} {meth : Method} {c : Code} {κ : hX} {Q : hM → Prop} {K2 : hM → Nat → Nat → Nat → Int32 → Prop} (C0 : Cw κ w_cl w_tl w_tb p s m args meth c b_Rows_addNeed 5 R_Rows none) (hK2 : ∀ (h : hM) (x0 : Nat) (x1 : Nat) (x2 : Nat) (x3 : Int32) (H : Heap) (locs : List Loc) (ls : Array Slot), K2 h x0 x1 x2 x3 → hp κ w_cl h H → va_S (h_A κ) s.heap H locs → lv_has ls 5 [(0, .ref x0), (1, .ref x1), (2, .ref x2), (3, .int x3)] → W p l e rm_Rows_addNeed s m args below meth c H locs 0 0 (MQ below (hQ κ w_cl (qV Q)) args s 0 0 (h_A κ)) (F0 m 2 ls [])) : ∀ (h : hM) (x0 : Nat) (x1 : Nat) (x2 : Nat) (x3 : Int32) (H : Heap) (locs : List Loc) (ls : Array Slot), P_Rows_addNeed_71 Q K2 h x0 x1 x2 x3 → hp κ w_cl h H → va_S (h_A κ) s.heap H locs → lv_has ls 5 [(0, .ref x0), (1, .ref x1), (2, .ref x2), (3, .int x3)] → W p l e rm_Rows_addNeed s m args below meth c H locs 0 0 (MQ below (hQ κ w_cl (qV Q)) args s 0 0 (h_A κ)) (F0 m 71 ls []) := by
  obtain ⟨hx, hb, hml, hown, hts, hK, hF0, hrt, hlocks⟩ := id C0
  intro h x0 x1 x2 x3 H locs ls hw hh hS hl
  obtain ⟨x3_123, ex3_123⟩ : ∃ z : Int32, z = x3 + 1 := ⟨_, rfl⟩
  have hw := hw x3_123 ex3_123
  refine lv_iinc (v := x3_123) (lv' := [(3, .int x3_123), (0, .ref x0), (1, .ref x1), (2, .ref x2)]) hx hb d_Rows_addNeed_71 hl (k := 3) rfl (by rw [ex3_123]; rfl) (by decide) rfl (fun ls hl => ?_)
  refine lv_goto (tgt := 2) hx hb d_Rows_addNeed_74 (by decide) ?_
  exact hK2 _ _ _ _ _ _ _ _ hw hh hS (lv_sub hl [1, 2, 3, 0] rfl)
set_option maxHeartbeats 4000000 in
set_option maxRecDepth 100000 in
theorem S_Rows_addNeed_47 {p : Program} {l : Launch} {e : Env} {s : State} {m : MethodId} {args : Array Value} {below : List Frame} {meth : Method} {c : Code} {κ : hX} {Q : hM → Prop} {K2 : hM → Nat → Nat → Nat → Int32 → Prop} (C0 : Cw κ w_cl w_tl w_tb p s m args meth c b_Rows_addNeed 5 R_Rows none) (hK2 : ∀ (h : hM) (x0 : Nat) (x1 : Nat) (x2 : Nat) (x3 : Int32) (H : Heap) (locs : List Loc) (ls : Array Slot), K2 h x0 x1 x2 x3 → hp κ w_cl h H → va_S (h_A κ) s.heap H locs → lv_has ls 5 [(0, .ref x0), (1, .ref x1), (2, .ref x2), (3, .int x3)] → W p l e rm_Rows_addNeed s m args below meth c H locs 0 0 (MQ below (hQ κ w_cl (qV Q)) args s 0 0 (h_A κ)) (F0 m 2 ls [])) : ∀ (h : hM) (x0 : Nat) (x1 : Nat) (x2 : Nat) (x3 : Int32) (x4 : Option Nat) (H : Heap) (locs : List Loc) (ls : Array Slot), P_Rows_addNeed_47 Q K2 h x0 x1 x2 x3 x4 → hp κ w_cl h H → va_S (h_A κ) s.heap H locs → lv_has ls 5 [(0, .ref x0), (1, .ref x1), (2, .ref x2), (3, .int x3), (4, va_rf x4)] → W p l e rm_Rows_addNeed s m args below meth c H locs 0 0 (MQ below (hQ κ w_cl (qV Q)) args s 0 0 (h_A κ)) (F0 m 47 ls []) := by
  obtain ⟨hx, hb, hml, hown, hts, hK, hF0, hrt, hlocks⟩ := id C0
  intro h x0 x1 x2 x3 x4 H locs ls hw hh hS hl
  refine h_aloadO hx hb d_Rows_addNeed_47 (lv_at hl 4 rfl) ?_
  obtain ⟨a124, he9, hw⟩ := hw
  subst he9
  have hl : lv_has ls 5 [(0, .ref x0), (1, .ref x1), (2, .ref x2), (3, .int x3), (4, .ref a124)] := hl
  obtain ⟨fs125, r128, hr126, hk127, hw⟩ := hw
  refine h_get C0 hh hr126 hk127 rfl i_Job (by decide) k_f_Rows_99 (fun _ h9 => h9) d_Rows_addNeed_49 ?_
  refine lv_aload_n hx hb d_Rows_addNeed_52 rfl (lv_at hl 2 rfl) ?_
  obtain ⟨fs129, i132, hr130, hk131, hw⟩ := hw
  refine h_get C0 hh hr130 hk131 rfl i_Job (by decide) k_f_Rows_136 (fun _ h9 => h9) d_Rows_addNeed_53 ?_
  obtain ⟨fs133, hr134, hw⟩ := hw
  refine h_callV (n := 1) C0 w_TBm hh hS hl.1 [.int i132] [] (S_NS_put _ _ _ _ hw) hr134 rfl k_m_Rows_183 k_inst_NS_put k_sel_NS_put k_ini_NS k_code_NS_put (by decide +kernel) rfl rfl (Nat.le_of_ble_eq_true rfl) ⟨(Nat.le_of_ble_eq_true rfl), (Nat.le_of_ble_eq_true rfl)⟩ ⟨(Nat.le_of_ble_eq_true rfl), (Nat.le_of_ble_eq_true rfl)⟩ d_Rows_addNeed_56 (h_kV (k := 0) (n := 0) (Nat.le_of_ble_eq_true rfl) (Nat.le_of_ble_eq_true rfl) (fun h135 H locs hw hh hS => ?_))
  refine lv_aload hx hb d_Rows_addNeed_59 (lv_at hl 4 rfl) ?_
  obtain ⟨fs137, r140, hr138, hk139, hw⟩ := hw
  refine h_get C0 hh hr138 hk139 rfl i_Job (by decide) k_f_Rows_99 (fun _ h9 => h9) d_Rows_addNeed_61 ?_
  refine lv_aload_n hx hb d_Rows_addNeed_64 rfl (lv_at hl 2 rfl) ?_
  obtain ⟨fs141, r144, hr142, hk143, hw⟩ := hw
  refine h_get C0 hh hr142 hk143 rfl i_Job (by decide) k_f_Rows_99 (fun _ h9 => h9) d_Rows_addNeed_65 ?_
  obtain ⟨fs145, hr146, hw⟩ := hw
  refine h_callV (n := 1) C0 w_TBm hh hS hl.1 [.ref r144] [] (S_NS_putAll _ _ _ _ hw) hr146 rfl k_m_Rows_187 k_inst_NS_putAll k_sel_NS_putAll k_ini_NS k_code_NS_putAll (by decide +kernel) rfl rfl (Nat.le_of_ble_eq_true rfl) ⟨(Nat.le_of_ble_eq_true rfl), (Nat.le_of_ble_eq_true rfl)⟩ ⟨(Nat.le_of_ble_eq_true rfl), (Nat.le_of_ble_eq_true rfl)⟩ d_Rows_addNeed_68 (h_kV (k := 0) (n := 0) (Nat.le_of_ble_eq_true rfl) (Nat.le_of_ble_eq_true rfl) (fun h147 H locs hw hh hS => ?_))
  exact S_Rows_addNeed_71 C0 hK2 _ _ _ _ _ _ _ _ hw hh hS (lv_sub hl [0, 1, 2, 3] rfl)
end
section
set_option maxHeartbeats 4000000 in
set_option maxRecDepth 100000 in
theorem S_Rows_addNeed_2 {p : Program} {l : Launch} {e : Env} {s : State} {m : MethodId} {args : Array Value} {below : List Frame} {meth : Method} {c : Code} {κ : hX} {Q : hM → Prop} (C0 : Cw κ w_cl w_tl w_tb p s m args meth c b_Rows_addNeed 5 R_Rows none) : ∀ (n : Nat) (h : hM) (x0 : Nat) (x1 : Nat) (x2 : Nat) (x3 : Int32) (H : Heap) (locs : List Loc) (ls : Array Slot), L_Rows_addNeed_2 Q n h x0 x1 x2 x3 → hp κ w_cl h H → va_S (h_A κ) s.heap H locs → lv_has ls 5 [(0, .ref x0), (1, .ref x1), (2, .ref x2), (3, .int x3)] → W p l e rm_Rows_addNeed s m args below meth c H locs 0 0 (MQ below (hQ κ w_cl (qV Q)) args s 0 0 (h_A κ)) (F0 m 2 ls []) := by
  obtain ⟨hx, hb, hml, hown, hts, hK, hF0, hrt, hlocks⟩ := id C0
  intro n
  induction n with
  | zero =>
    intro h x0 x1 x2 x3 H locs ls hw
    exact hw.elim
  | succ n hK2 =>
    intro h x0 x1 x2 x3 H locs ls hw hh hS hl
    have hw : P_Rows_addNeed_2 Q (L_Rows_addNeed_2 Q n) h x0 x1 x2 x3 := hw
    refine lv_iload_n hx hb d_Rows_addNeed_2 rfl (lv_at hl 3 rfl) ?_
    refine lv_aload_n hx hb d_Rows_addNeed_3 rfl (lv_at hl 0 rfl) ?_
    obtain ⟨fs149, r152, hr150, hk151, hw⟩ := hw
    refine h_get C0 hh hr150 hk151 rfl i_Rows (by decide) k_f_Rows_16 (fun _ h9 => h9) d_Rows_addNeed_4 ?_
    obtain ⟨fs153, hr154, hw⟩ := hw
    refine h_callV (n := 0) C0 w_TBm hh hS hl.1 [] [.int x3] (S_AL_size _ _ _ hw) hr154 rfl k_m_Rows_60 k_inst_AL_size k_sel_AL_size k_ini_AL k_code_AL_size (by decide +kernel) rfl rfl (Nat.le_of_ble_eq_true rfl) ⟨(Nat.le_of_ble_eq_true rfl), (Nat.le_of_ble_eq_true rfl)⟩ ⟨(Nat.le_of_ble_eq_true rfl), (Nat.le_of_ble_eq_true rfl)⟩ d_Rows_addNeed_7 (h_kI (k := 0) (n := 0) (Nat.le_of_ble_eq_true rfl) (Nat.le_of_ble_eq_true rfl) (fun i156 h155 H locs hw hh hS => ?_))
    refine lv_icmp_ge (tgt := 77) hx hb d_Rows_addNeed_10 (by decide) (fun c157 => ?_) (fun c157 => ?_)
    · have hw := hw.1 c157
      exact h_vret C0 hh hS rfl ⟨rfl, hw⟩ d_Rows_addNeed_77
    · have hw := hw.2 c157
      refine lv_aload_n hx hb d_Rows_addNeed_13 rfl (lv_at hl 0 rfl) ?_
      obtain ⟨fs158, r161, hr159, hk160, hw⟩ := hw
      refine h_get C0 hh hr159 hk160 rfl i_Rows (by decide) k_f_Rows_16 (fun _ h9 => h9) d_Rows_addNeed_14 ?_
      refine lv_iload_n hx hb d_Rows_addNeed_17 rfl (lv_at hl 3 rfl) ?_
      obtain ⟨fs162, hr163, hw⟩ := hw
      refine h_callV (n := 1) C0 w_TBm hh hS hl.1 [.int x3] [] (S_AL_get _ _ _ _ hw) hr163 rfl k_m_Rows_156 k_inst_AL_get k_sel_AL_get k_ini_AL k_code_AL_get (by decide +kernel) rfl rfl (Nat.le_of_ble_eq_true rfl) ⟨(Nat.le_of_ble_eq_true rfl), (Nat.le_of_ble_eq_true rfl)⟩ ⟨(Nat.le_of_ble_eq_true rfl), (Nat.le_of_ble_eq_true rfl)⟩ d_Rows_addNeed_18 (h_kO (k := 0) (n := 0) (Nat.le_of_ble_eq_true rfl) (Nat.le_of_ble_eq_true rfl) (fun o165 h164 H locs hw hh hS => ?_))
      rcases o165 with _ | a166
      · have hw := hw.1 rfl
        have hl : lv_has ls 5 [(0, .ref x0), (1, .ref x1), (2, .ref x2), (3, .int x3)] := hl
        refine lv_castN hx hb d_Rows_addNeed_21 ?_
        refine lv_astoreN (lv' := [(4, .null), (0, .ref x0), (1, .ref x1), (2, .ref x2), (3, .int x3)]) hx hb d_Rows_addNeed_24 hl (by decide) rfl (fun ls hl => ?_)
        refine lv_aloadN hx hb d_Rows_addNeed_26 (lv_at hl 0 rfl) ?_
        refine lv_aload_n hx hb d_Rows_addNeed_28 rfl (lv_at hl 2 rfl) ?_
        refine lv_acmp_eq (rx := none) (ry := (some x1)) (tgt := 47) hx hb d_Rows_addNeed_29 (by decide) (fun c167 => ?_) (fun c167 => ?_)
        · have hw := hw.1 c167
          exact S_Rows_addNeed_47 C0 hK2 _ _ _ _ _ _ _ _ _ hw hh hS (lv_sub hl [1, 2, 3, 4, 0] rfl)
        · have hw := hw.2 c167
          refine lv_aloadN hx hb d_Rows_addNeed_32 (lv_at hl 0 rfl) ?_
          exact hw.elim
      · have hw := hw.2 a166 rfl
        have hl : lv_has ls 5 [(0, .ref x0), (1, .ref x1), (2, .ref x2), (3, .int x3)] := hl
        obtain ⟨⟨fs168, hr169⟩, hw⟩ := hw
        refine h_cast C0 hh hr169 rfl k_c_Rows_86 d_Rows_addNeed_21 ?_
        refine lv_astore (lv' := [(4, .ref a166), (0, .ref x0), (1, .ref x1), (2, .ref x2), (3, .int x3)]) hx hb d_Rows_addNeed_24 hl (by decide) rfl (fun ls hl => ?_)
        refine lv_aload hx hb d_Rows_addNeed_26 (lv_at hl 0 rfl) ?_
        refine lv_aload_n hx hb d_Rows_addNeed_28 rfl (lv_at hl 2 rfl) ?_
        refine lv_acmp_eq (rx := (some a166)) (ry := (some x1)) (tgt := 47) hx hb d_Rows_addNeed_29 (by decide) (fun c170 => ?_) (fun c170 => ?_)
        · have hw := hw.1 (Option.some.inj c170)
          exact S_Rows_addNeed_47 C0 hK2 _ _ _ _ _ _ _ _ _ hw hh hS (lv_sub hl [1, 2, 3, 4, 0] rfl)
        · have hw := hw.2 (fun z => c170 (congrArg some z))
          refine lv_aload hx hb d_Rows_addNeed_32 (lv_at hl 0 rfl) ?_
          obtain ⟨fs171, r174, hr172, hk173, hw⟩ := hw
          refine h_get C0 hh hr172 hk173 rfl i_Job (by decide) k_f_Rows_99 (fun _ h9 => h9) d_Rows_addNeed_34 ?_
          refine lv_aload_n hx hb d_Rows_addNeed_37 rfl (lv_at hl 2 rfl) ?_
          obtain ⟨fs175, i178, hr176, hk177, hw⟩ := hw
          refine h_get C0 hh hr176 hk177 rfl i_Job (by decide) k_f_Rows_136 (fun _ h9 => h9) d_Rows_addNeed_38 ?_
          obtain ⟨fs179, hr180, hw⟩ := hw
          refine h_callV (n := 1) C0 w_TBm hh hS hl.1 [.int i178] [] (S_NS_has _ _ _ _ hw) hr180 rfl k_m_Rows_102 k_inst_NS_has k_sel_NS_has k_ini_NS k_code_NS_has (by decide +kernel) rfl rfl (Nat.le_of_ble_eq_true rfl) ⟨(Nat.le_of_ble_eq_true rfl), (Nat.le_of_ble_eq_true rfl)⟩ ⟨(Nat.le_of_ble_eq_true rfl), (Nat.le_of_ble_eq_true rfl)⟩ d_Rows_addNeed_41 (h_kI (k := 0) (n := 0) (Nat.le_of_ble_eq_true rfl) (Nat.le_of_ble_eq_true rfl) (fun i182 h181 H locs hw hh hS => ?_))
          refine lv_if_eq (tgt := 71) hx hb d_Rows_addNeed_44 (by decide) (fun c183 => ?_) (fun c183 => ?_)
          · have hw := hw.1 c183
            exact S_Rows_addNeed_71 C0 hK2 _ _ _ _ _ _ _ _ hw hh hS (lv_sub hl [1, 2, 3, 4] rfl)
          · have hw := hw.2 c183
            exact S_Rows_addNeed_47 C0 hK2 _ _ _ _ _ _ _ _ _ hw hh hS (lv_sub hl [1, 2, 3, 4, 0] rfl)
set_option maxHeartbeats 4000000 in
set_option maxRecDepth 100000 in
theorem S_Rows_addNeed {l : Launch} {κ : hX} (Q : hM → Prop) (h : hM) (x0 : Nat) (x1 : Nat) (x2 : Nat) (hw : P_Rows_addNeed Q h x0 x1 x2) : Met l y_Rows_addNeed [Cond.code y_Rows_addNeed b_Rows_addNeed 5 none] rm_Rows_addNeed (hPc κ w_cl w_tl w_tb [.ref x0, .ref x1, .ref x2] h) (hQ κ w_cl (qV Q)) 0 0 (h_A κ) := by
  refine h_enter w_TBm (by decide) (Nat.le_of_ble_eq_true rfl) ?_
  intro p e s m args below meth c C0 hnm hh hS ls hl
  obtain ⟨hx, hb, hml, hown, hts, hK, hF0, hrt, hlocks⟩ := id C0
  have hl : lv_has ls 5 [(0, .ref x0), (1, .ref x1), (2, .ref x2)] := hl
  refine lv_iconst (v := 0) hx hb d_Rows_addNeed_0 (by decide) ?_
  refine lv_istore_n (lv' := [(3, .int (0 : Int32)), (0, .ref x0), (1, .ref x1), (2, .ref x2)]) hx hb d_Rows_addNeed_1 rfl hl (by decide) rfl (fun ls hl => ?_)
  obtain ⟨n0, hw⟩ := hw
  exact S_Rows_addNeed_2 C0 n0 _ _ _ _ _ _ _ _ hw hh hS (lv_sub hl [1, 2, 3, 0] rfl)
set_option maxHeartbeats 4000000 in
set_option maxRecDepth 100000 in
theorem S_Rows_needs {l : Launch} {κ : hX} (Q : Int32 → hM → Prop) (h : hM) (x0 : Nat) (x1 : Int32) (x2 : Int32) (hw : P_Rows_needs Q h x0 x1 x2) : Met l y_Rows_needs [Cond.code y_Rows_needs b_Rows_needs 5 (some .int)] rm_Rows_needs (hPc κ w_cl w_tl w_tb [.ref x0, .int x1, .int x2] h) (hQ κ w_cl (qI Q)) 0 0 (h_A κ) := by
  refine h_enter w_TBm (by decide) (Nat.le_of_ble_eq_true rfl) ?_
  intro p e s m args below meth c C0 hnm hh hS ls hl
  obtain ⟨hx, hb, hml, hown, hts, hK, hF0, hrt, hlocks⟩ := id C0
  have hl : lv_has ls 5 [(0, .ref x0), (1, .int x1), (2, .int x2)] := hl
  refine lv_aload_n hx hb d_Rows_needs_0 rfl (lv_at hl 0 rfl) ?_
  refine lv_iload_n hx hb d_Rows_needs_1 rfl (lv_at hl 1 rfl) ?_
  obtain ⟨fs32, hr33, hw⟩ := hw
  refine h_callV (n := 1) C0 w_TBm hh hS hl.1 [.int x1] [] (S_Rows_findJob _ _ _ _ hw) hr33 rfl k_m_Rows_91 k_inst_Rows_findJob k_sel_Rows_findJob k_ini_Rows k_code_Rows_findJob (by decide +kernel) rfl rfl (Nat.le_of_ble_eq_true rfl) ⟨(Nat.le_of_ble_eq_true rfl), (Nat.le_of_ble_eq_true rfl)⟩ ⟨(Nat.le_of_ble_eq_true rfl), (Nat.le_of_ble_eq_true rfl)⟩ d_Rows_needs_2 (h_kO (k := 0) (n := 0) (Nat.le_of_ble_eq_true rfl) (Nat.le_of_ble_eq_true rfl) (fun o35 h34 H locs hw hh hS => ?_))
  refine h_astore_nO (lv' := [(3, va_rf o35), (0, .ref x0), (1, .int x1), (2, .int x2)]) hx hb d_Rows_needs_5 rfl hl (by decide) rfl (fun ls hl => ?_)
  refine lv_aload_n hx hb d_Rows_needs_6 rfl (lv_at hl 1 rfl) ?_
  refine lv_iload_n hx hb d_Rows_needs_7 rfl (lv_at hl 3 rfl) ?_
  obtain ⟨fs36, hr37, hw⟩ := hw
  refine h_callV (n := 1) C0 w_TBm hh hS hl.1 [.int x2] [] (S_Rows_findJob _ _ _ _ hw) hr37 rfl k_m_Rows_91 k_inst_Rows_findJob k_sel_Rows_findJob k_ini_Rows k_code_Rows_findJob (by decide +kernel) rfl rfl (Nat.le_of_ble_eq_true rfl) ⟨(Nat.le_of_ble_eq_true rfl), (Nat.le_of_ble_eq_true rfl)⟩ ⟨(Nat.le_of_ble_eq_true rfl), (Nat.le_of_ble_eq_true rfl)⟩ d_Rows_needs_8 (h_kO (k := 0) (n := 0) (Nat.le_of_ble_eq_true rfl) (Nat.le_of_ble_eq_true rfl) (fun o39 h38 H locs hw hh hS => ?_))
  refine h_astoreO (lv' := [(4, va_rf o39), (3, va_rf o35), (0, .ref x0), (1, .int x1), (2, .int x2)]) hx hb d_Rows_needs_11 hl (by decide) (by cases o35 <;> rfl) (fun ls hl => ?_)
  refine h_aload_nO hx hb d_Rows_needs_13 rfl (lv_at hl 1 rfl) ?_
  rcases o35 with _ | a41
  · have hw := hw.1 rfl
    have hl : lv_has ls 5 [(4, va_rf o39), (3, .null), (0, .ref x0), (1, .int x1), (2, .int x2)] := hl
    refine lv_ifnullN (tgt := 22) hx hb d_Rows_needs_14 (by decide) ?_
    refine lv_bipush (v := -2) hx hb d_Rows_needs_22 (by decide) ?_
    exact h_iret C0 hh hS rfl rfl ⟨_, rfl, hw⟩ d_Rows_needs_24
  · have hw := hw.2 a41 rfl
    have hl : lv_has ls 5 [(4, va_rf o39), (3, .ref a41), (0, .ref x0), (1, .int x1), (2, .int x2)] := hl
    refine lv_ifnull hx hb d_Rows_needs_14 ?_
    refine h_aloadO hx hb d_Rows_needs_17 (lv_at hl 0 rfl) ?_
    rcases o39 with _ | a43
    · have hw := hw.1 rfl
      have hl : lv_has ls 5 [(4, .null), (3, .ref a41), (0, .ref x0), (1, .int x1), (2, .int x2)] := hl
      refine lv_ifnonnullN hx hb d_Rows_needs_19 ?_
      refine lv_bipush (v := -2) hx hb d_Rows_needs_22 (by decide) ?_
      exact h_iret C0 hh hS rfl rfl ⟨_, rfl, hw⟩ d_Rows_needs_24
    · have hw := hw.2 a43 rfl
      have hl : lv_has ls 5 [(4, .ref a43), (3, .ref a41), (0, .ref x0), (1, .int x1), (2, .int x2)] := hl
      refine lv_ifnonnull (tgt := 25) hx hb d_Rows_needs_19 (by decide) ?_
      refine lv_aload_n hx hb d_Rows_needs_25 rfl (lv_at hl 1 rfl) ?_
      obtain ⟨fs44, hr45, hw⟩ := hw
      refine h_callV (n := 0) C0 w_TBm hh hS hl.1 [] [] (S_Job_isWaiting _ _ _ hw) hr45 rfl k_m_Rows_95 k_inst_Job_isWaiting k_sel_Job_isWaiting k_ini_Job k_code_Job_isWaiting (by decide +kernel) rfl rfl (Nat.le_of_ble_eq_true rfl) ⟨(Nat.le_of_ble_eq_true rfl), (Nat.le_of_ble_eq_true rfl)⟩ ⟨(Nat.le_of_ble_eq_true rfl), (Nat.le_of_ble_eq_true rfl)⟩ d_Rows_needs_26 (h_kI (k := 0) (n := 0) (Nat.le_of_ble_eq_true rfl) (Nat.le_of_ble_eq_true rfl) (fun i47 h46 H locs hw hh hS => ?_))
      refine lv_if_ne (tgt := 35) hx hb d_Rows_needs_29 (by decide) (fun c48 => ?_) (fun c48 => ?_)
      · have hw := hw.1 c48
        refine lv_iload_n hx hb d_Rows_needs_35 rfl (lv_at hl 3 rfl) ?_
        refine lv_iload_n hx hb d_Rows_needs_36 rfl (lv_at hl 4 rfl) ?_
        refine lv_icmp_eq (tgt := 52) hx hb d_Rows_needs_37 (by decide) (fun c49 => ?_) (fun c49 => ?_)
        · have hw := hw.1 c49
          refine lv_iconst (v := 0) hx hb d_Rows_needs_52 (by decide) ?_
          exact h_iret C0 hh hS rfl rfl ⟨_, rfl, hw⟩ d_Rows_needs_53
        · have hw := hw.2 c49
          refine lv_aload hx hb d_Rows_needs_40 (lv_at hl 0 rfl) ?_
          obtain ⟨fs50, r53, hr51, hk52, hw⟩ := hw
          refine h_get C0 hh hr51 hk52 rfl i_Job (by decide) k_f_Rows_99 (fun _ h9 => h9) d_Rows_needs_42 ?_
          refine lv_iload_n hx hb d_Rows_needs_45 rfl (lv_at hl 3 rfl) ?_
          obtain ⟨fs54, hr55, hw⟩ := hw
          refine h_callV (n := 1) C0 w_TBm hh hS hl.1 [.int x1] [] (S_NS_has _ _ _ _ hw) hr55 rfl k_m_Rows_102 k_inst_NS_has k_sel_NS_has k_ini_NS k_code_NS_has (by decide +kernel) rfl rfl (Nat.le_of_ble_eq_true rfl) ⟨(Nat.le_of_ble_eq_true rfl), (Nat.le_of_ble_eq_true rfl)⟩ ⟨(Nat.le_of_ble_eq_true rfl), (Nat.le_of_ble_eq_true rfl)⟩ d_Rows_needs_46 (h_kI (k := 0) (n := 0) (Nat.le_of_ble_eq_true rfl) (Nat.le_of_ble_eq_true rfl) (fun i57 h56 H locs hw hh hS => ?_))
          refine lv_if_eq (tgt := 54) hx hb d_Rows_needs_49 (by decide) (fun c58 => ?_) (fun c58 => ?_)
          · have hw := hw.1 c58
            refine lv_aload_n hx hb d_Rows_needs_54 rfl (lv_at hl 2 rfl) ?_
            refine lv_aload_n hx hb d_Rows_needs_55 rfl (lv_at hl 1 rfl) ?_
            refine lv_aload hx hb d_Rows_needs_56 (lv_at hl 0 rfl) ?_
            obtain ⟨fs59, hr60, hw⟩ := hw
            refine h_callV (n := 2) C0 w_TBm hh hS hl.1 [.ref a41, .ref a43] [] (S_Rows_addNeed _ _ _ _ _ hw) hr60 rfl k_m_Rows_105 k_inst_Rows_addNeed k_sel_Rows_addNeed k_ini_Rows k_code_Rows_addNeed (by decide +kernel) rfl rfl (Nat.le_of_ble_eq_true rfl) ⟨(Nat.le_of_ble_eq_true rfl), (Nat.le_of_ble_eq_true rfl)⟩ ⟨(Nat.le_of_ble_eq_true rfl), (Nat.le_of_ble_eq_true rfl)⟩ d_Rows_needs_58 (h_kV (k := 0) (n := 0) (Nat.le_of_ble_eq_true rfl) (Nat.le_of_ble_eq_true rfl) (fun h61 H locs hw hh hS => ?_))
            refine lv_iconst (v := 1) hx hb d_Rows_needs_61 (by decide) ?_
            exact h_iret C0 hh hS rfl rfl ⟨_, rfl, hw⟩ d_Rows_needs_62
          · have hw := hw.2 c58
            refine lv_iconst (v := 0) hx hb d_Rows_needs_52 (by decide) ?_
            exact h_iret C0 hh hS rfl rfl ⟨_, rfl, hw⟩ d_Rows_needs_53
      · have hw := hw.2 c48
        refine lv_bipush (v := -5) hx hb d_Rows_needs_32 (by decide) ?_
        exact h_iret C0 hh hS rfl rfl ⟨_, rfl, hw⟩ d_Rows_needs_34
set_option maxHeartbeats 4000000 in
set_option maxRecDepth 100000 in
theorem S_Rows_isKind {l : Launch} {κ : hX} (Q : Int32 → hM → Prop) (h : hM) (x0 : Int32) (hw : P_Rows_isKind Q h x0) : Met l y_Rows_isKind [Cond.code y_Rows_isKind b_Rows_isKind 1 (some .boolean)] rm_Rows_isKind (hPc κ w_cl w_tl w_tb [.int x0] h) (hQ κ w_cl (qI Q)) 0 0 (h_A κ) := by
  refine h_enter w_TBm (by decide) (Nat.le_of_ble_eq_true rfl) ?_
  intro p e s m args below meth c C0 hnm hh hS ls hl
  obtain ⟨hx, hb, hml, hown, hts, hK, hF0, hrt, hlocks⟩ := id C0
  have hl : lv_has ls 1 [(0, .int x0)] := hl
  refine lv_iload_n hx hb d_Rows_isKind_0 rfl (lv_at hl 0 rfl) ?_
  refine lv_iconst (v := 0) hx hb d_Rows_isKind_1 (by decide) ?_
  refine lv_iconst (v := 3) hx hb d_Rows_isKind_2 (by decide) ?_
  refine h_callS (n := 3) C0 w_TBm hh hS hl.1 [.int x0, .int (0 : Int32), .int (3 : Int32)] [] (S_Rows_isIn _ _ _ _ _ hw) k_m_Rows_75 k_stat_Rows_isIn k_ini_Rows k_code_Rows_isIn (by decide +kernel) rfl rfl (Nat.le_of_ble_eq_true rfl) ⟨(Nat.le_of_ble_eq_true rfl), (Nat.le_of_ble_eq_true rfl)⟩ ⟨(Nat.le_of_ble_eq_true rfl), (Nat.le_of_ble_eq_true rfl)⟩ d_Rows_isKind_3 (h_kI (k := 0) (n := 0) (Nat.le_of_ble_eq_true rfl) (Nat.le_of_ble_eq_true rfl) (fun i4 h3 H locs hw hh hS => ?_))
  exact h_iret C0 hh hS rfl (h_nz hw.1) ⟨_, rfl, hw.2⟩ d_Rows_isKind_6
set_option maxHeartbeats 4000000 in
set_option maxRecDepth 100000 in
theorem S_Rows_units {l : Launch} {κ : hX} (Q : Int32 → hM → Prop) (h : hM) (x0 : Nat) (x1 : Int32) (x2 : Int32) (hw : P_Rows_units Q h x0 x1 x2) : Met l y_Rows_units [Cond.code y_Rows_units b_Rows_units 3 (some .int)] rm_Rows_units (hPc κ w_cl w_tl w_tb [.ref x0, .int x1, .int x2] h) (hQ κ w_cl (qI Q)) 0 0 (h_A κ) := by
  refine h_enter w_TBm (by decide) (Nat.le_of_ble_eq_true rfl) ?_
  intro p e s m args below meth c C0 hnm hh hS ls hl
  obtain ⟨hx, hb, hml, hown, hts, hK, hF0, hrt, hlocks⟩ := id C0
  have hl : lv_has ls 3 [(0, .ref x0), (1, .int x1), (2, .int x2)] := hl
  refine lv_iload_n hx hb d_Rows_units_0 rfl (lv_at hl 1 rfl) ?_
  refine h_callS (n := 1) C0 w_TBm hh hS hl.1 [.int x1] [] (S_Rows_isKind _ _ _ hw) k_m_Rows_109 k_stat_Rows_isKind k_ini_Rows k_code_Rows_isKind (by decide +kernel) rfl rfl (Nat.le_of_ble_eq_true rfl) ⟨(Nat.le_of_ble_eq_true rfl), (Nat.le_of_ble_eq_true rfl)⟩ ⟨(Nat.le_of_ble_eq_true rfl), (Nat.le_of_ble_eq_true rfl)⟩ d_Rows_units_1 (h_kI (k := 0) (n := 0) (Nat.le_of_ble_eq_true rfl) (Nat.le_of_ble_eq_true rfl) (fun i17 h16 H locs hw hh hS => ?_))
  refine lv_if_eq (tgt := 18) hx hb d_Rows_units_4 (by decide) (fun c18 => ?_) (fun c18 => ?_)
  · have hw := hw.1 c18
    refine lv_bipush (v := -4) hx hb d_Rows_units_18 (by decide) ?_
    exact h_iret C0 hh hS rfl rfl ⟨_, rfl, hw⟩ d_Rows_units_20
  · have hw := hw.2 c18
    refine lv_iload_n hx hb d_Rows_units_7 rfl (lv_at hl 2 rfl) ?_
    refine lv_iconst (v := 0) hx hb d_Rows_units_8 (by decide) ?_
    refine lv_sipush (v := 1000) hx hb d_Rows_units_9 (by decide) ?_
    refine h_callS (n := 3) C0 w_TBm hh hS hl.1 [.int x2, .int (0 : Int32), .int (1000 : Int32)] [] (S_Rows_isIn _ _ _ _ _ hw) k_m_Rows_75 k_stat_Rows_isIn k_ini_Rows k_code_Rows_isIn (by decide +kernel) rfl rfl (Nat.le_of_ble_eq_true rfl) ⟨(Nat.le_of_ble_eq_true rfl), (Nat.le_of_ble_eq_true rfl)⟩ ⟨(Nat.le_of_ble_eq_true rfl), (Nat.le_of_ble_eq_true rfl)⟩ d_Rows_units_12 (h_kI (k := 0) (n := 0) (Nat.le_of_ble_eq_true rfl) (Nat.le_of_ble_eq_true rfl) (fun i20 h19 H locs hw hh hS => ?_))
    refine lv_if_ne (tgt := 21) hx hb d_Rows_units_15 (by decide) (fun c21 => ?_) (fun c21 => ?_)
    · have hw := hw.1 c21
      refine lv_aload_n hx hb d_Rows_units_21 rfl (lv_at hl 0 rfl) ?_
      obtain ⟨fs22, r25, hr23, hk24, hw⟩ := hw
      refine h_get C0 hh hr23 hk24 rfl i_Rows (by decide) k_f_Rows_32 (fun _ h9 => h9) d_Rows_units_22 ?_
      refine lv_iload_n hx hb d_Rows_units_25 rfl (lv_at hl 1 rfl) ?_
      refine lv_iload_n hx hb d_Rows_units_26 rfl (lv_at hl 2 rfl) ?_
      obtain ⟨n26, f27, hr28, hi29, hw⟩ := hw
      refine h_iast C0 hh hS hr28 hi29 rfl d_Rows_units_27 (fun H locs hh hS => ?_)
      obtain ⟨h30, eh30⟩ : ∃ z : hM, z = h_up h19 r25 (eT 0 n26 (upd f27 x1.toNatClampNeg x2)) := ⟨_, rfl⟩
      rw [← eh30] at hh
      have hw := hw h30 eh30
      refine lv_iconst (v := 1) hx hb d_Rows_units_28 (by decide) ?_
      exact h_iret C0 hh hS rfl rfl ⟨_, rfl, hw⟩ d_Rows_units_29
    · have hw := hw.2 c21
      refine lv_bipush (v := -4) hx hb d_Rows_units_18 (by decide) ?_
      exact h_iret C0 hh hS rfl rfl ⟨_, rfl, hw⟩ d_Rows_units_20
set_option maxHeartbeats 4000000 in
set_option maxRecDepth 100000 in
theorem S_Rows_uses {l : Launch} {κ : hX} (Q : Int32 → hM → Prop) (h : hM) (x0 : Nat) (x1 : Int32) (x2 : Int32) (x3 : Int32) (hw : P_Rows_uses Q h x0 x1 x2 x3) : Met l y_Rows_uses [Cond.code y_Rows_uses b_Rows_uses 5 (some .int)] rm_Rows_uses (hPc κ w_cl w_tl w_tb [.ref x0, .int x1, .int x2, .int x3] h) (hQ κ w_cl (qI Q)) 0 0 (h_A κ) := by
  refine h_enter w_TBm (by decide) (Nat.le_of_ble_eq_true rfl) ?_
  intro p e s m args below meth c C0 hnm hh hS ls hl
  obtain ⟨hx, hb, hml, hown, hts, hK, hF0, hrt, hlocks⟩ := id C0
  have hl : lv_has ls 5 [(0, .ref x0), (1, .int x1), (2, .int x2), (3, .int x3)] := hl
  refine lv_aload_n hx hb d_Rows_uses_0 rfl (lv_at hl 0 rfl) ?_
  refine lv_iload_n hx hb d_Rows_uses_1 rfl (lv_at hl 1 rfl) ?_
  obtain ⟨fs27, hr28, hw⟩ := hw
  refine h_callV (n := 1) C0 w_TBm hh hS hl.1 [.int x1] [] (S_Rows_findJob _ _ _ _ hw) hr28 rfl k_m_Rows_91 k_inst_Rows_findJob k_sel_Rows_findJob k_ini_Rows k_code_Rows_findJob (by decide +kernel) rfl rfl (Nat.le_of_ble_eq_true rfl) ⟨(Nat.le_of_ble_eq_true rfl), (Nat.le_of_ble_eq_true rfl)⟩ ⟨(Nat.le_of_ble_eq_true rfl), (Nat.le_of_ble_eq_true rfl)⟩ d_Rows_uses_2 (h_kO (k := 0) (n := 0) (Nat.le_of_ble_eq_true rfl) (Nat.le_of_ble_eq_true rfl) (fun o30 h29 H locs hw hh hS => ?_))
  refine h_astoreO (lv' := [(4, va_rf o30), (0, .ref x0), (1, .int x1), (2, .int x2), (3, .int x3)]) hx hb d_Rows_uses_5 hl (by decide) rfl (fun ls hl => ?_)
  refine h_aloadO hx hb d_Rows_uses_7 (lv_at hl 0 rfl) ?_
  rcases o30 with _ | a32
  · have hw := hw.1 rfl
    have hl : lv_has ls 5 [(4, .null), (0, .ref x0), (1, .int x1), (2, .int x2), (3, .int x3)] := hl
    refine lv_ifnonnullN hx hb d_Rows_uses_9 ?_
    refine lv_bipush (v := -2) hx hb d_Rows_uses_12 (by decide) ?_
    exact h_iret C0 hh hS rfl rfl ⟨_, rfl, hw⟩ d_Rows_uses_14
  · have hw := hw.2 a32 rfl
    have hl : lv_has ls 5 [(4, .ref a32), (0, .ref x0), (1, .int x1), (2, .int x2), (3, .int x3)] := hl
    refine lv_ifnonnull (tgt := 15) hx hb d_Rows_uses_9 (by decide) ?_
    refine lv_iload_n hx hb d_Rows_uses_15 rfl (lv_at hl 3 rfl) ?_
    refine h_callS (n := 1) C0 w_TBm hh hS hl.1 [.int x2] [] (S_Rows_isKind _ _ _ hw) k_m_Rows_109 k_stat_Rows_isKind k_ini_Rows k_code_Rows_isKind (by decide +kernel) rfl rfl (Nat.le_of_ble_eq_true rfl) ⟨(Nat.le_of_ble_eq_true rfl), (Nat.le_of_ble_eq_true rfl)⟩ ⟨(Nat.le_of_ble_eq_true rfl), (Nat.le_of_ble_eq_true rfl)⟩ d_Rows_uses_16 (h_kI (k := 0) (n := 0) (Nat.le_of_ble_eq_true rfl) (Nat.le_of_ble_eq_true rfl) (fun i34 h33 H locs hw hh hS => ?_))
    refine lv_if_eq (tgt := 33) hx hb d_Rows_uses_19 (by decide) (fun c35 => ?_) (fun c35 => ?_)
    · have hw := hw.1 c35
      refine lv_bipush (v := -4) hx hb d_Rows_uses_33 (by decide) ?_
      exact h_iret C0 hh hS rfl rfl ⟨_, rfl, hw⟩ d_Rows_uses_35
    · have hw := hw.2 c35
      refine lv_iload_n hx hb d_Rows_uses_22 rfl (lv_at hl 4 rfl) ?_
      refine lv_iconst (v := 0) hx hb d_Rows_uses_23 (by decide) ?_
      refine lv_sipush (v := 1000) hx hb d_Rows_uses_24 (by decide) ?_
      refine h_callS (n := 3) C0 w_TBm hh hS hl.1 [.int x3, .int (0 : Int32), .int (1000 : Int32)] [] (S_Rows_isIn _ _ _ _ _ hw) k_m_Rows_75 k_stat_Rows_isIn k_ini_Rows k_code_Rows_isIn (by decide +kernel) rfl rfl (Nat.le_of_ble_eq_true rfl) ⟨(Nat.le_of_ble_eq_true rfl), (Nat.le_of_ble_eq_true rfl)⟩ ⟨(Nat.le_of_ble_eq_true rfl), (Nat.le_of_ble_eq_true rfl)⟩ d_Rows_uses_27 (h_kI (k := 0) (n := 0) (Nat.le_of_ble_eq_true rfl) (Nat.le_of_ble_eq_true rfl) (fun i37 h36 H locs hw hh hS => ?_))
      refine lv_if_ne (tgt := 36) hx hb d_Rows_uses_30 (by decide) (fun c38 => ?_) (fun c38 => ?_)
      · have hw := hw.1 c38
        refine lv_aload hx hb d_Rows_uses_36 (lv_at hl 0 rfl) ?_
        obtain ⟨fs39, hr40, hw⟩ := hw
        refine h_callV (n := 0) C0 w_TBm hh hS hl.1 [] [] (S_Job_isWaiting _ _ _ hw) hr40 rfl k_m_Rows_95 k_inst_Job_isWaiting k_sel_Job_isWaiting k_ini_Job k_code_Job_isWaiting (by decide +kernel) rfl rfl (Nat.le_of_ble_eq_true rfl) ⟨(Nat.le_of_ble_eq_true rfl), (Nat.le_of_ble_eq_true rfl)⟩ ⟨(Nat.le_of_ble_eq_true rfl), (Nat.le_of_ble_eq_true rfl)⟩ d_Rows_uses_38 (h_kI (k := 0) (n := 0) (Nat.le_of_ble_eq_true rfl) (Nat.le_of_ble_eq_true rfl) (fun i42 h41 H locs hw hh hS => ?_))
        refine lv_if_ne (tgt := 47) hx hb d_Rows_uses_41 (by decide) (fun c43 => ?_) (fun c43 => ?_)
        · have hw := hw.1 c43
          refine lv_aload hx hb d_Rows_uses_47 (lv_at hl 0 rfl) ?_
          obtain ⟨fs44, r47, hr45, hk46, hw⟩ := hw
          refine h_get C0 hh hr45 hk46 rfl i_Job (by decide) k_f_Rows_112 (fun _ h9 => h9) d_Rows_uses_49 ?_
          refine lv_iload_n hx hb d_Rows_uses_52 rfl (lv_at hl 3 rfl) ?_
          refine lv_iload_n hx hb d_Rows_uses_53 rfl (lv_at hl 4 rfl) ?_
          obtain ⟨n48, f49, hr50, hi51, hw⟩ := hw
          refine h_iast C0 hh hS hr50 hi51 rfl d_Rows_uses_54 (fun H locs hh hS => ?_)
          obtain ⟨h52, eh52⟩ : ∃ z : hM, z = h_up h41 r47 (eT 0 n48 (upd f49 x2.toNatClampNeg x3)) := ⟨_, rfl⟩
          rw [← eh52] at hh
          have hw := hw h52 eh52
          refine lv_iconst (v := 1) hx hb d_Rows_uses_55 (by decide) ?_
          exact h_iret C0 hh hS rfl rfl ⟨_, rfl, hw⟩ d_Rows_uses_56
        · have hw := hw.2 c43
          refine lv_bipush (v := -5) hx hb d_Rows_uses_44 (by decide) ?_
          exact h_iret C0 hh hS rfl rfl ⟨_, rfl, hw⟩ d_Rows_uses_46
      · have hw := hw.2 c38
        refine lv_bipush (v := -4) hx hb d_Rows_uses_33 (by decide) ?_
        exact h_iret C0 hh hS rfl rfl ⟨_, rfl, hw⟩ d_Rows_uses_35
set_option maxHeartbeats 4000000 in
set_option maxRecDepth 100000 in
theorem S_Rows_alone {l : Launch} {κ : hX} (Q : Int32 → hM → Prop) (h : hM) (x0 : Nat) (x1 : Int32) (hw : P_Rows_alone Q h x0 x1) : Met l y_Rows_alone [Cond.code y_Rows_alone b_Rows_alone 3 (some .int)] rm_Rows_alone (hPc κ w_cl w_tl w_tb [.ref x0, .int x1] h) (hQ κ w_cl (qI Q)) 0 0 (h_A κ) := by
  refine h_enter w_TBm (by decide) (Nat.le_of_ble_eq_true rfl) ?_
  intro p e s m args below meth c C0 hnm hh hS ls hl
  obtain ⟨hx, hb, hml, hown, hts, hK, hF0, hrt, hlocks⟩ := id C0
  have hl : lv_has ls 3 [(0, .ref x0), (1, .int x1)] := hl
  refine lv_aload_n hx hb d_Rows_alone_0 rfl (lv_at hl 0 rfl) ?_
  refine lv_iload_n hx hb d_Rows_alone_1 rfl (lv_at hl 1 rfl) ?_
  obtain ⟨fs16, hr17, hw⟩ := hw
  refine h_callV (n := 1) C0 w_TBm hh hS hl.1 [.int x1] [] (S_Rows_findJob _ _ _ _ hw) hr17 rfl k_m_Rows_91 k_inst_Rows_findJob k_sel_Rows_findJob k_ini_Rows k_code_Rows_findJob (by decide +kernel) rfl rfl (Nat.le_of_ble_eq_true rfl) ⟨(Nat.le_of_ble_eq_true rfl), (Nat.le_of_ble_eq_true rfl)⟩ ⟨(Nat.le_of_ble_eq_true rfl), (Nat.le_of_ble_eq_true rfl)⟩ d_Rows_alone_2 (h_kO (k := 0) (n := 0) (Nat.le_of_ble_eq_true rfl) (Nat.le_of_ble_eq_true rfl) (fun o19 h18 H locs hw hh hS => ?_))
  refine h_astore_nO (lv' := [(2, va_rf o19), (0, .ref x0), (1, .int x1)]) hx hb d_Rows_alone_5 rfl hl (by decide) rfl (fun ls hl => ?_)
  refine h_aload_nO hx hb d_Rows_alone_6 rfl (lv_at hl 0 rfl) ?_
  rcases o19 with _ | a21
  · have hw := hw.1 rfl
    have hl : lv_has ls 3 [(2, .null), (0, .ref x0), (1, .int x1)] := hl
    refine lv_ifnonnullN hx hb d_Rows_alone_7 ?_
    refine lv_bipush (v := -2) hx hb d_Rows_alone_10 (by decide) ?_
    exact h_iret C0 hh hS rfl rfl ⟨_, rfl, hw⟩ d_Rows_alone_12
  · have hw := hw.2 a21 rfl
    have hl : lv_has ls 3 [(2, .ref a21), (0, .ref x0), (1, .int x1)] := hl
    refine lv_ifnonnull (tgt := 13) hx hb d_Rows_alone_7 (by decide) ?_
    refine lv_aload_n hx hb d_Rows_alone_13 rfl (lv_at hl 0 rfl) ?_
    obtain ⟨fs22, hr23, hw⟩ := hw
    refine h_callV (n := 0) C0 w_TBm hh hS hl.1 [] [] (S_Job_isWaiting _ _ _ hw) hr23 rfl k_m_Rows_95 k_inst_Job_isWaiting k_sel_Job_isWaiting k_ini_Job k_code_Job_isWaiting (by decide +kernel) rfl rfl (Nat.le_of_ble_eq_true rfl) ⟨(Nat.le_of_ble_eq_true rfl), (Nat.le_of_ble_eq_true rfl)⟩ ⟨(Nat.le_of_ble_eq_true rfl), (Nat.le_of_ble_eq_true rfl)⟩ d_Rows_alone_14 (h_kI (k := 0) (n := 0) (Nat.le_of_ble_eq_true rfl) (Nat.le_of_ble_eq_true rfl) (fun i25 h24 H locs hw hh hS => ?_))
    refine lv_if_ne (tgt := 23) hx hb d_Rows_alone_17 (by decide) (fun c26 => ?_) (fun c26 => ?_)
    · have hw := hw.1 c26
      refine lv_aload_n hx hb d_Rows_alone_23 rfl (lv_at hl 0 rfl) ?_
      refine lv_iconst (v := 1) hx hb d_Rows_alone_24 (by decide) ?_
      obtain ⟨fs27, hr28, hk29, hw⟩ := hw
      refine h_put C0 hh hS (v := .int (1 : Int32)) hr28 hk29 rfl i_Job t_Job t_Job_ok n_Job (by decide) k_f_Rows_115 (fun _ h9 => h9) rfl rfl rfl rfl d_Rows_alone_25 (fun H locs hh hS => ?_)
      obtain ⟨h30, eh30⟩ : ∃ z : hM, z = h_up h24 a21 (eO 1 (fs27.set 7 (.int (1 : Int32)))) := ⟨_, rfl⟩
      rw [← eh30] at hh
      have hw := hw h30 eh30
      refine lv_iconst (v := 1) hx hb d_Rows_alone_28 (by decide) ?_
      exact h_iret C0 hh hS rfl rfl ⟨_, rfl, hw⟩ d_Rows_alone_29
    · have hw := hw.2 c26
      refine lv_bipush (v := -5) hx hb d_Rows_alone_20 (by decide) ?_
      exact h_iret C0 hh hS rfl rfl ⟨_, rfl, hw⟩ d_Rows_alone_22
set_option maxHeartbeats 4000000 in
set_option maxRecDepth 100000 in
theorem S_Rows_hold_32 {p : Program} {l : Launch} {e : Env} {s : State} {m : MethodId} {args : Array Value} {below : List Frame} {meth : Method} {c : Code} {κ : hX} {Q : Int32 → hM → Prop} (C0 : Cw κ w_cl w_tl w_tb p s m args meth c b_Rows_hold 5 R_Rows (some .int)) : ∀ (h : hM) (x3 : Nat) (t0 : Int32) (H : Heap) (locs : List Loc) (ls : Array Slot), P_Rows_hold_32 Q h x3 t0 → hp κ w_cl h H → va_S (h_A κ) s.heap H locs → lv_has ls 5 [(3, .ref x3)] → W p l e rm_Rows_hold s m args below meth c H locs 0 0 (MQ below (hQ κ w_cl (qI Q)) args s 0 0 (h_A κ)) (F0 m 32 ls [.int t0]) := by
  obtain ⟨hx, hb, hml, hown, hts, hK, hF0, hrt, hlocks⟩ := id C0
  intro h x3 t0 H locs ls hw hh hS hl
  refine lv_istore (lv' := [(4, .int t0), (3, .ref x3)]) hx hb d_Rows_hold_32 hl (by decide) rfl (fun ls hl => ?_)
  refine lv_aload_n hx hb d_Rows_hold_34 rfl (lv_at hl 1 rfl) ?_
  obtain ⟨fs43, i46, hr44, hk45, hw⟩ := hw
  refine h_get C0 hh hr44 hk45 rfl i_Job (by decide) k_f_Rows_119 (fun _ h9 => h9) d_Rows_hold_35 ?_
  refine lv_iload hx hb d_Rows_hold_38 (lv_at hl 0 rfl) ?_
  refine lv_icmp_ne (tgt := 45) hx hb d_Rows_hold_40 (by decide) (fun c47 => ?_) (fun c47 => ?_)
  · have hw := hw.1 c47
    refine lv_aload_n hx hb d_Rows_hold_45 rfl (lv_at hl 1 rfl) ?_
    refine lv_iload hx hb d_Rows_hold_46 (lv_at hl 0 rfl) ?_
    obtain ⟨fs48, hr49, hk50, hw⟩ := hw
    refine h_put C0 hh hS (v := .int t0) hr49 hk50 rfl i_Job t_Job t_Job_ok n_Job (by decide) k_f_Rows_119 (fun _ h9 => h9) rfl rfl rfl rfl d_Rows_hold_48 (fun H locs hh hS => ?_)
    obtain ⟨h51, eh51⟩ : ∃ z : hM, z = h_up h x3 (eO 1 (fs48.set 8 (.int t0))) := ⟨_, rfl⟩
    rw [← eh51] at hh
    have hw := hw h51 eh51
    refine lv_iconst (v := 1) hx hb d_Rows_hold_51 (by decide) ?_
    exact h_iret C0 hh hS rfl rfl ⟨_, rfl, hw⟩ d_Rows_hold_52
  · have hw := hw.2 c47
    refine lv_iconst (v := 0) hx hb d_Rows_hold_43 (by decide) ?_
    exact h_iret C0 hh hS rfl rfl ⟨_, rfl, hw⟩ d_Rows_hold_44
set_option maxHeartbeats 4000000 in
set_option maxRecDepth 100000 in
theorem S_Rows_hold {l : Launch} {κ : hX} (Q : Int32 → hM → Prop) (h : hM) (x0 : Nat) (x1 : Int32) (x2 : Int32) (hw : P_Rows_hold Q h x0 x1 x2) : Met l y_Rows_hold [Cond.code y_Rows_hold b_Rows_hold 5 (some .int)] rm_Rows_hold (hPc κ w_cl w_tl w_tb [.ref x0, .int x1, .int x2] h) (hQ κ w_cl (qI Q)) 0 0 (h_A κ) := by
  refine h_enter w_TBm (by decide) (Nat.le_of_ble_eq_true rfl) ?_
  intro p e s m args below meth c C0 hnm hh hS ls hl
  obtain ⟨hx, hb, hml, hown, hts, hK, hF0, hrt, hlocks⟩ := id C0
  have hl : lv_has ls 5 [(0, .ref x0), (1, .int x1), (2, .int x2)] := hl
  refine lv_aload_n hx hb d_Rows_hold_0 rfl (lv_at hl 0 rfl) ?_
  refine lv_iload_n hx hb d_Rows_hold_1 rfl (lv_at hl 1 rfl) ?_
  obtain ⟨fs52, hr53, hw⟩ := hw
  refine h_callV (n := 1) C0 w_TBm hh hS hl.1 [.int x1] [] (S_Rows_findJob _ _ _ _ hw) hr53 rfl k_m_Rows_91 k_inst_Rows_findJob k_sel_Rows_findJob k_ini_Rows k_code_Rows_findJob (by decide +kernel) rfl rfl (Nat.le_of_ble_eq_true rfl) ⟨(Nat.le_of_ble_eq_true rfl), (Nat.le_of_ble_eq_true rfl)⟩ ⟨(Nat.le_of_ble_eq_true rfl), (Nat.le_of_ble_eq_true rfl)⟩ d_Rows_hold_2 (h_kO (k := 0) (n := 0) (Nat.le_of_ble_eq_true rfl) (Nat.le_of_ble_eq_true rfl) (fun o55 h54 H locs hw hh hS => ?_))
  refine h_astore_nO (lv' := [(3, va_rf o55), (0, .ref x0), (1, .int x1), (2, .int x2)]) hx hb d_Rows_hold_5 rfl hl (by decide) rfl (fun ls hl => ?_)
  refine h_aload_nO hx hb d_Rows_hold_6 rfl (lv_at hl 0 rfl) ?_
  rcases o55 with _ | a57
  · have hw := hw.1 rfl
    have hl : lv_has ls 5 [(3, .null), (0, .ref x0), (1, .int x1), (2, .int x2)] := hl
    refine lv_ifnonnullN hx hb d_Rows_hold_7 ?_
    refine lv_bipush (v := -2) hx hb d_Rows_hold_10 (by decide) ?_
    exact h_iret C0 hh hS rfl rfl ⟨_, rfl, hw⟩ d_Rows_hold_12
  · have hw := hw.2 a57 rfl
    have hl : lv_has ls 5 [(3, .ref a57), (0, .ref x0), (1, .int x1), (2, .int x2)] := hl
    refine lv_ifnonnull (tgt := 13) hx hb d_Rows_hold_7 (by decide) ?_
    refine lv_aload_n hx hb d_Rows_hold_13 rfl (lv_at hl 0 rfl) ?_
    obtain ⟨fs58, hr59, hw⟩ := hw
    refine h_callV (n := 0) C0 w_TBm hh hS hl.1 [] [] (S_Job_isWaiting _ _ _ hw) hr59 rfl k_m_Rows_95 k_inst_Job_isWaiting k_sel_Job_isWaiting k_ini_Job k_code_Job_isWaiting (by decide +kernel) rfl rfl (Nat.le_of_ble_eq_true rfl) ⟨(Nat.le_of_ble_eq_true rfl), (Nat.le_of_ble_eq_true rfl)⟩ ⟨(Nat.le_of_ble_eq_true rfl), (Nat.le_of_ble_eq_true rfl)⟩ d_Rows_hold_14 (h_kI (k := 0) (n := 0) (Nat.le_of_ble_eq_true rfl) (Nat.le_of_ble_eq_true rfl) (fun i61 h60 H locs hw hh hS => ?_))
    refine lv_if_ne (tgt := 23) hx hb d_Rows_hold_17 (by decide) (fun c62 => ?_) (fun c62 => ?_)
    · have hw := hw.1 c62
      refine lv_iload_n hx hb d_Rows_hold_23 rfl (lv_at hl 3 rfl) ?_
      refine lv_if_eq (tgt := 31) hx hb d_Rows_hold_24 (by decide) (fun c63 => ?_) (fun c63 => ?_)
      · have hw := hw.1 c63
        refine lv_iconst (v := 0) hx hb d_Rows_hold_31 (by decide) ?_
        exact S_Rows_hold_32 C0 _ _ _ _ _ _ hw hh hS (lv_sub hl [0] rfl)
      · have hw := hw.2 c63
        refine lv_iconst (v := 1) hx hb d_Rows_hold_27 (by decide) ?_
        refine lv_goto (tgt := 32) hx hb d_Rows_hold_28 (by decide) ?_
        exact S_Rows_hold_32 C0 _ _ _ _ _ _ hw hh hS (lv_sub hl [0] rfl)
    · have hw := hw.2 c62
      refine lv_bipush (v := -5) hx hb d_Rows_hold_20 (by decide) ?_
      exact h_iret C0 hh hS rfl rfl ⟨_, rfl, hw⟩ d_Rows_hold_22
set_option maxHeartbeats 4000000 in
set_option maxRecDepth 100000 in
theorem S_Rows_isWindowOpen {l : Launch} {κ : hX} (Q : Int32 → hM → Prop) (h : hM) (x0 : Nat) (x1 : Int32) (hw : P_Rows_isWindowOpen Q h x0 x1) : Met l y_Rows_isWindowOpen [Cond.code y_Rows_isWindowOpen b_Rows_isWindowOpen 5 (some .boolean)] rm_Rows_isWindowOpen (hPc κ w_cl w_tl w_tb [.ref x0, .int x1] h) (hQ κ w_cl (qI Q)) 0 0 (h_A κ) := by
  refine h_enter w_TBm (by decide) (Nat.le_of_ble_eq_true rfl) ?_
  intro p e s m args below meth c C0 hnm hh hS ls hl
  obtain ⟨hx, hb, hml, hown, hts, hK, hF0, hrt, hlocks⟩ := id C0
  have hl : lv_has ls 5 [(0, .ref x0), (1, .int x1)] := hl
  refine lv_aload_n hx hb d_Rows_isWindowOpen_0 rfl (lv_at hl 0 rfl) ?_
  obtain ⟨fs30, j33, hr31, hk32, hw⟩ := hw
  refine h_get C0 hh hr31 hk32 rfl i_Rows (by decide) k_f_Rows_49 (fun _ h9 => h9) d_Rows_isWindowOpen_1 ?_
  refine lv_ldc2 (v := 1440) hx hb hown (hts _ k_k_Rows_223) d_Rows_isWindowOpen_4 ?_
  refine lv_lrem hx hb d_Rows_isWindowOpen_7 (by decide) ?_
  refine lv_l2i (v := (j33 - j33 / (1440 : Int64) * (1440 : Int64)).toInt32) hx hb d_Rows_isWindowOpen_8 rfl ?_
  refine lv_topi (fun x2_34 ex2_34 => ?_)
  have hw := hw x2_34 ex2_34
  refine lv_istore_n (lv' := [(2, .int x2_34), (0, .ref x0), (1, .int x1)]) hx hb d_Rows_isWindowOpen_9 rfl hl (by decide) rfl (fun ls hl => ?_)
  refine lv_aload_n hx hb d_Rows_isWindowOpen_10 rfl (lv_at hl 1 rfl) ?_
  obtain ⟨fs35, r38, hr36, hk37, hw⟩ := hw
  refine h_get C0 hh hr36 hk37 rfl i_Rows (by decide) k_f_Rows_23 (fun _ h9 => h9) d_Rows_isWindowOpen_11 ?_
  refine lv_iload_n hx hb d_Rows_isWindowOpen_14 rfl (lv_at hl 2 rfl) ?_
  obtain ⟨n39, f40, hr41, hi42, hw⟩ := hw
  refine h_iald C0 hh hr41 hi42 rfl d_Rows_isWindowOpen_15 ?_
  refine lv_topi (fun x3_43 ex3_43 => ?_)
  have hw := hw x3_43 ex3_43
  refine lv_istore_n (lv' := [(3, .int x3_43), (2, .int x2_34), (0, .ref x0), (1, .int x1)]) hx hb d_Rows_isWindowOpen_16 rfl hl (by decide) rfl (fun ls hl => ?_)
  refine lv_aload_n hx hb d_Rows_isWindowOpen_17 rfl (lv_at hl 2 rfl) ?_
  obtain ⟨fs44, r47, hr45, hk46, hw⟩ := hw
  refine h_get C0 hh hr45 hk46 rfl i_Rows (by decide) k_f_Rows_26 (fun _ h9 => h9) d_Rows_isWindowOpen_18 ?_
  refine lv_iload_n hx hb d_Rows_isWindowOpen_21 rfl (lv_at hl 3 rfl) ?_
  obtain ⟨n48, f49, hr50, hi51, hw⟩ := hw
  refine h_iald C0 hh hr50 hi51 rfl d_Rows_isWindowOpen_22 ?_
  refine lv_topi (fun x4_52 ex4_52 => ?_)
  have hw := hw x4_52 ex4_52
  refine lv_istore (lv' := [(4, .int x4_52), (3, .int x3_43), (2, .int x2_34), (0, .ref x0), (1, .int x1)]) hx hb d_Rows_isWindowOpen_23 hl (by decide) rfl (fun ls hl => ?_)
  refine lv_iload_n hx hb d_Rows_isWindowOpen_25 rfl (lv_at hl 1 rfl) ?_
  refine lv_iload hx hb d_Rows_isWindowOpen_26 (lv_at hl 0 rfl) ?_
  refine lv_icmp_ne (tgt := 33) hx hb d_Rows_isWindowOpen_28 (by decide) (fun c53 => ?_) (fun c53 => ?_)
  · have hw := hw.1 c53
    refine lv_iload_n hx hb d_Rows_isWindowOpen_33 rfl (lv_at hl 1 rfl) ?_
    refine lv_iload hx hb d_Rows_isWindowOpen_34 (lv_at hl 0 rfl) ?_
    refine lv_icmp_ge (tgt := 58) hx hb d_Rows_isWindowOpen_36 (by decide) (fun c54 => ?_) (fun c54 => ?_)
    · have hw := hw.1 c54
      refine lv_iload_n hx hb d_Rows_isWindowOpen_58 rfl (lv_at hl 2 rfl) ?_
      refine lv_iload_n hx hb d_Rows_isWindowOpen_59 rfl (lv_at hl 1 rfl) ?_
      refine lv_icmp_ge (tgt := 69) hx hb d_Rows_isWindowOpen_60 (by decide) (fun c55 => ?_) (fun c55 => ?_)
      · have hw := hw.1 c55
        refine lv_iconst (v := 1) hx hb d_Rows_isWindowOpen_69 (by decide) ?_
        refine lv_goto (tgt := 74) hx hb d_Rows_isWindowOpen_70 (by decide) ?_
        exact h_iret C0 hh hS rfl rfl ⟨_, rfl, hw⟩ d_Rows_isWindowOpen_74
      · have hw := hw.2 c55
        refine lv_iload_n hx hb d_Rows_isWindowOpen_63 rfl (lv_at hl 2 rfl) ?_
        refine lv_iload hx hb d_Rows_isWindowOpen_64 (lv_at hl 0 rfl) ?_
        refine lv_icmp_ge (tgt := 73) hx hb d_Rows_isWindowOpen_66 (by decide) (fun c56 => ?_) (fun c56 => ?_)
        · have hw := hw.1 c56
          refine lv_iconst (v := 0) hx hb d_Rows_isWindowOpen_73 (by decide) ?_
          exact h_iret C0 hh hS rfl rfl ⟨_, rfl, hw⟩ d_Rows_isWindowOpen_74
        · have hw := hw.2 c56
          refine lv_iconst (v := 1) hx hb d_Rows_isWindowOpen_69 (by decide) ?_
          refine lv_goto (tgt := 74) hx hb d_Rows_isWindowOpen_70 (by decide) ?_
          exact h_iret C0 hh hS rfl rfl ⟨_, rfl, hw⟩ d_Rows_isWindowOpen_74
    · have hw := hw.2 c54
      refine lv_iload_n hx hb d_Rows_isWindowOpen_39 rfl (lv_at hl 2 rfl) ?_
      refine lv_iload_n hx hb d_Rows_isWindowOpen_40 rfl (lv_at hl 1 rfl) ?_
      refine lv_icmp_lt (tgt := 54) hx hb d_Rows_isWindowOpen_41 (by decide) (fun c57 => ?_) (fun c57 => ?_)
      · have hw := hw.1 c57
        refine lv_iconst (v := 0) hx hb d_Rows_isWindowOpen_54 (by decide) ?_
        refine lv_goto (tgt := 74) hx hb d_Rows_isWindowOpen_55 (by decide) ?_
        exact h_iret C0 hh hS rfl rfl ⟨_, rfl, hw⟩ d_Rows_isWindowOpen_74
      · have hw := hw.2 c57
        refine lv_iload_n hx hb d_Rows_isWindowOpen_44 rfl (lv_at hl 2 rfl) ?_
        refine lv_iload hx hb d_Rows_isWindowOpen_45 (lv_at hl 0 rfl) ?_
        refine lv_icmp_ge (tgt := 54) hx hb d_Rows_isWindowOpen_47 (by decide) (fun c58 => ?_) (fun c58 => ?_)
        · have hw := hw.1 c58
          refine lv_iconst (v := 0) hx hb d_Rows_isWindowOpen_54 (by decide) ?_
          refine lv_goto (tgt := 74) hx hb d_Rows_isWindowOpen_55 (by decide) ?_
          exact h_iret C0 hh hS rfl rfl ⟨_, rfl, hw⟩ d_Rows_isWindowOpen_74
        · have hw := hw.2 c58
          refine lv_iconst (v := 1) hx hb d_Rows_isWindowOpen_50 (by decide) ?_
          refine lv_goto (tgt := 74) hx hb d_Rows_isWindowOpen_51 (by decide) ?_
          exact h_iret C0 hh hS rfl rfl ⟨_, rfl, hw⟩ d_Rows_isWindowOpen_74
  · have hw := hw.2 c53
    refine lv_iconst (v := 1) hx hb d_Rows_isWindowOpen_31 (by decide) ?_
    exact h_iret C0 hh hS rfl rfl ⟨_, rfl, hw⟩ d_Rows_isWindowOpen_32
set_option maxHeartbeats 4000000 in
set_option maxRecDepth 100000 in
theorem S_Rows_areUnitsEnough_2 {p : Program} {l : Launch} {e : Env} {s : State} {m : MethodId} {args : Array Value} {below : List Frame} {meth : Method} {c : Code} {κ : hX} {Q : Int32 → hM → Prop} (C0 : Cw κ w_cl w_tl w_tb p s m args meth c b_Rows_areUnitsEnough 3 R_Rows (some .boolean)) : ∀ (n : Nat) (h : hM) (x0 : Nat) (x1 : Nat) (x2 : Int32) (H : Heap) (locs : List Loc) (ls : Array Slot), L_Rows_areUnitsEnough_2 Q n h x0 x1 x2 → hp κ w_cl h H → va_S (h_A κ) s.heap H locs → lv_has ls 3 [(0, .ref x0), (1, .ref x1), (2, .int x2)] → W p l e rm_Rows_areUnitsEnough s m args below meth c H locs 0 0 (MQ below (hQ κ w_cl (qI Q)) args s 0 0 (h_A κ)) (F0 m 2 ls []) := by
  obtain ⟨hx, hb, hml, hown, hts, hK, hF0, hrt, hlocks⟩ := id C0
  intro n
  induction n with
  | zero =>
    intro h x0 x1 x2 H locs ls hw
    exact hw.elim
  | succ n hK2 =>
    intro h x0 x1 x2 H locs ls hw hh hS hl
    have hw : P_Rows_areUnitsEnough_2 Q (L_Rows_areUnitsEnough_2 Q n) h x0 x1 x2 := hw
    refine lv_iload_n hx hb d_Rows_areUnitsEnough_2 rfl (lv_at hl 2 rfl) ?_
    refine lv_iconst (v := 4) hx hb d_Rows_areUnitsEnough_3 (by decide) ?_
    refine lv_icmp_ge (tgt := 40) hx hb d_Rows_areUnitsEnough_4 (by decide) (fun c63 => ?_) (fun c63 => ?_)
    · have hw := hw.1 c63
      refine lv_iconst (v := 1) hx hb d_Rows_areUnitsEnough_40 (by decide) ?_
      exact h_iret C0 hh hS rfl rfl ⟨_, rfl, hw⟩ d_Rows_areUnitsEnough_41
    · have hw := hw.2 c63
      refine lv_aload_n hx hb d_Rows_areUnitsEnough_7 rfl (lv_at hl 1 rfl) ?_
      obtain ⟨fs64, r67, hr65, hk66, hw⟩ := hw
      refine h_get C0 hh hr65 hk66 rfl i_Job (by decide) k_f_Rows_112 (fun _ h9 => h9) d_Rows_areUnitsEnough_8 ?_
      refine lv_iload_n hx hb d_Rows_areUnitsEnough_11 rfl (lv_at hl 2 rfl) ?_
      obtain ⟨n68, f69, hr70, hi71, hw⟩ := hw
      refine h_iald C0 hh hr70 hi71 rfl d_Rows_areUnitsEnough_12 ?_
      refine lv_aload_n hx hb d_Rows_areUnitsEnough_13 rfl (lv_at hl 0 rfl) ?_
      obtain ⟨fs72, r75, hr73, hk74, hw⟩ := hw
      refine h_get C0 hh hr73 hk74 rfl i_Rows (by decide) k_f_Rows_38 (fun _ h9 => h9) d_Rows_areUnitsEnough_14 ?_
      obtain ⟨fs76, r79, hr77, hk78, hw⟩ := hw
      refine h_get C0 hh hr77 hk78 rfl i_Load (by decide) k_f_Rows_225 (fun _ h9 => h9) d_Rows_areUnitsEnough_17 ?_
      refine lv_iload_n hx hb d_Rows_areUnitsEnough_20 rfl (lv_at hl 2 rfl) ?_
      obtain ⟨n80, f81, hr82, hi83, hw⟩ := hw
      refine h_iald C0 hh hr82 hi83 rfl d_Rows_areUnitsEnough_21 ?_
      refine lv_iadd hx hb d_Rows_areUnitsEnough_22 ?_
      refine lv_aload_n hx hb d_Rows_areUnitsEnough_23 rfl (lv_at hl 0 rfl) ?_
      obtain ⟨fs84, r87, hr85, hk86, hw⟩ := hw
      refine h_get C0 hh hr85 hk86 rfl i_Rows (by decide) k_f_Rows_32 (fun _ h9 => h9) d_Rows_areUnitsEnough_24 ?_
      refine lv_iload_n hx hb d_Rows_areUnitsEnough_27 rfl (lv_at hl 2 rfl) ?_
      obtain ⟨n88, f89, hr90, hi91, hw⟩ := hw
      refine h_iald C0 hh hr90 hi91 rfl d_Rows_areUnitsEnough_28 ?_
      refine lv_icmp_le (tgt := 34) hx hb d_Rows_areUnitsEnough_29 (by decide) (fun c92 => ?_) (fun c92 => ?_)
      · have hw := hw.1 c92
        obtain ⟨x2_93, ex2_93⟩ : ∃ z : Int32, z = x2 + 1 := ⟨_, rfl⟩
        have hw := hw x2_93 ex2_93
        refine lv_iinc (v := x2_93) (lv' := [(2, .int x2_93), (0, .ref x0), (1, .ref x1)]) hx hb d_Rows_areUnitsEnough_34 hl (k := 2) rfl (by rw [ex2_93]; rfl) (by decide) rfl (fun ls hl => ?_)
        refine lv_goto (tgt := 2) hx hb d_Rows_areUnitsEnough_37 (by decide) ?_
        exact hK2 _ _ _ _ _ _ _ hw hh hS (lv_sub hl [1, 2, 0] rfl)
      · have hw := hw.2 c92
        refine lv_iconst (v := 0) hx hb d_Rows_areUnitsEnough_32 (by decide) ?_
        exact h_iret C0 hh hS rfl rfl ⟨_, rfl, hw⟩ d_Rows_areUnitsEnough_33
set_option maxHeartbeats 4000000 in
set_option maxRecDepth 100000 in
theorem S_Rows_areUnitsEnough {l : Launch} {κ : hX} (Q : Int32 → hM → Prop) (h : hM) (x0 : Nat) (x1 : Nat) (hw : P_Rows_areUnitsEnough Q h x0 x1) : Met l y_Rows_areUnitsEnough [Cond.code y_Rows_areUnitsEnough b_Rows_areUnitsEnough 3 (some .boolean)] rm_Rows_areUnitsEnough (hPc κ w_cl w_tl w_tb [.ref x0, .ref x1] h) (hQ κ w_cl (qI Q)) 0 0 (h_A κ) := by
  refine h_enter w_TBm (by decide) (Nat.le_of_ble_eq_true rfl) ?_
  intro p e s m args below meth c C0 hnm hh hS ls hl
  obtain ⟨hx, hb, hml, hown, hts, hK, hF0, hrt, hlocks⟩ := id C0
  have hl : lv_has ls 3 [(0, .ref x0), (1, .ref x1)] := hl
  refine lv_iconst (v := 0) hx hb d_Rows_areUnitsEnough_0 (by decide) ?_
  refine lv_istore_n (lv' := [(2, .int (0 : Int32)), (0, .ref x0), (1, .ref x1)]) hx hb d_Rows_areUnitsEnough_1 rfl hl (by decide) rfl (fun ls hl => ?_)
  obtain ⟨n0, hw⟩ := hw
  exact S_Rows_areUnitsEnough_2 C0 n0 _ _ _ _ _ _ _ hw hh hS (lv_sub hl [1, 2, 0] rfl)
set_option maxHeartbeats 4000000 in
set_option maxRecDepth 100000 in
theorem S_Rows_mayStart {l : Launch} {κ : hX} (Q : Int32 → hM → Prop) (h : hM) (x0 : Nat) (x1 : Nat) (hw : P_Rows_mayStart Q h x0 x1) : Met l y_Rows_mayStart [Cond.code y_Rows_mayStart b_Rows_mayStart 2 (some .boolean)] rm_Rows_mayStart (hPc κ w_cl w_tl w_tb [.ref x0, .ref x1] h) (hQ κ w_cl (qI Q)) 0 0 (h_A κ) := by
  refine h_enter w_TBm (by decide) (Nat.le_of_ble_eq_true rfl) ?_
  intro p e s m args below meth c C0 hnm hh hS ls hl
  obtain ⟨hx, hb, hml, hown, hts, hK, hF0, hrt, hlocks⟩ := id C0
  have hl : lv_has ls 2 [(0, .ref x0), (1, .ref x1)] := hl
  refine lv_aload_n hx hb d_Rows_mayStart_0 rfl (lv_at hl 1 rfl) ?_
  obtain ⟨fs102, i105, hr103, hk104, hw⟩ := hw
  refine h_get C0 hh hr103 hk104 rfl i_Job (by decide) k_f_Rows_119 (fun _ h9 => h9) d_Rows_mayStart_1 ?_
  refine lv_if_ne (tgt := 112) hx hb d_Rows_mayStart_4 (by decide) (fun c106 => ?_) (fun c106 => ?_)
  · have hw := hw.1 c106
    refine lv_iconst (v := 0) hx hb d_Rows_mayStart_112 (by decide) ?_
    exact h_iret C0 hh hS rfl rfl ⟨_, rfl, hw⟩ d_Rows_mayStart_113
  · have hw := hw.2 c106
    refine lv_aload_n hx hb d_Rows_mayStart_7 rfl (lv_at hl 0 rfl) ?_
    obtain ⟨fs107, r110, hr108, hk109, hw⟩ := hw
    refine h_get C0 hh hr108 hk109 rfl i_Rows (by decide) k_f_Rows_38 (fun _ h9 => h9) d_Rows_mayStart_8 ?_
    obtain ⟨fs111, r114, hr112, hk113, hw⟩ := hw
    refine h_get C0 hh hr112 hk113 rfl i_Load (by decide) k_f_Rows_201 (fun _ h9 => h9) d_Rows_mayStart_11 ?_
    refine lv_aload_n hx hb d_Rows_mayStart_14 rfl (lv_at hl 1 rfl) ?_
    obtain ⟨fs115, i118, hr116, hk117, hw⟩ := hw
    refine h_get C0 hh hr116 hk117 rfl i_Job (by decide) k_f_Rows_194 (fun _ h9 => h9) d_Rows_mayStart_15 ?_
    obtain ⟨n119, f120, hr121, hi122, hw⟩ := hw
    refine h_iald C0 hh hr121 hi122 rfl d_Rows_mayStart_18 ?_
    refine lv_aload_n hx hb d_Rows_mayStart_19 rfl (lv_at hl 0 rfl) ?_
    obtain ⟨fs123, r126, hr124, hk125, hw⟩ := hw
    refine h_get C0 hh hr124 hk125 rfl i_Rows (by decide) k_f_Rows_19 (fun _ h9 => h9) d_Rows_mayStart_20 ?_
    refine lv_aload_n hx hb d_Rows_mayStart_23 rfl (lv_at hl 1 rfl) ?_
    obtain ⟨fs127, i130, hr128, hk129, hw⟩ := hw
    refine h_get C0 hh hr128 hk129 rfl i_Job (by decide) k_f_Rows_194 (fun _ h9 => h9) d_Rows_mayStart_24 ?_
    obtain ⟨n131, f132, hr133, hi134, hw⟩ := hw
    refine h_iald C0 hh hr133 hi134 rfl d_Rows_mayStart_27 ?_
    refine lv_icmp_ge (tgt := 112) hx hb d_Rows_mayStart_28 (by decide) (fun c135 => ?_) (fun c135 => ?_)
    · have hw := hw.1 c135
      refine lv_iconst (v := 0) hx hb d_Rows_mayStart_112 (by decide) ?_
      exact h_iret C0 hh hS rfl rfl ⟨_, rfl, hw⟩ d_Rows_mayStart_113
    · have hw := hw.2 c135
      refine lv_aload_n hx hb d_Rows_mayStart_31 rfl (lv_at hl 0 rfl) ?_
      refine lv_aload_n hx hb d_Rows_mayStart_32 rfl (lv_at hl 1 rfl) ?_
      obtain ⟨fs136, i139, hr137, hk138, hw⟩ := hw
      refine h_get C0 hh hr137 hk138 rfl i_Job (by decide) k_f_Rows_194 (fun _ h9 => h9) d_Rows_mayStart_33 ?_
      obtain ⟨fs140, hr141, hw⟩ := hw
      refine h_callV (n := 1) C0 w_TBm hh hS hl.1 [.int i139] [] (S_Rows_isWindowOpen _ _ _ _ hw) hr141 rfl k_m_Rows_204 k_inst_Rows_isWindowOpen k_sel_Rows_isWindowOpen k_ini_Rows k_code_Rows_isWindowOpen (by decide +kernel) rfl rfl (Nat.le_of_ble_eq_true rfl) ⟨(Nat.le_of_ble_eq_true rfl), (Nat.le_of_ble_eq_true rfl)⟩ ⟨(Nat.le_of_ble_eq_true rfl), (Nat.le_of_ble_eq_true rfl)⟩ d_Rows_mayStart_36 (h_kI (k := 0) (n := 0) (Nat.le_of_ble_eq_true rfl) (Nat.le_of_ble_eq_true rfl) (fun i143 h142 H locs hw hh hS => ?_))
      refine lv_if_eq (tgt := 112) hx hb d_Rows_mayStart_39 (by decide) (fun c144 => ?_) (fun c144 => ?_)
      · have hw := hw.1 c144
        refine lv_iconst (v := 0) hx hb d_Rows_mayStart_112 (by decide) ?_
        exact h_iret C0 hh hS rfl rfl ⟨_, rfl, hw⟩ d_Rows_mayStart_113
      · have hw := hw.2 c144
        refine lv_aload_n hx hb d_Rows_mayStart_42 rfl (lv_at hl 0 rfl) ?_
        obtain ⟨fs145, r148, hr146, hk147, hw⟩ := hw
        refine h_get C0 hh hr146 hk147 rfl i_Rows (by decide) k_f_Rows_38 (fun _ h9 => h9) d_Rows_mayStart_43 ?_
        obtain ⟨fs149, r152, hr150, hk151, hw⟩ := hw
        refine h_get C0 hh hr150 hk151 rfl i_Load (by decide) k_f_Rows_207 (fun _ h9 => h9) d_Rows_mayStart_46 ?_
        refine lv_aload_n hx hb d_Rows_mayStart_49 rfl (lv_at hl 1 rfl) ?_
        obtain ⟨fs153, i156, hr154, hk155, hw⟩ := hw
        refine h_get C0 hh hr154 hk155 rfl i_Job (by decide) k_f_Rows_210 (fun _ h9 => h9) d_Rows_mayStart_50 ?_
        obtain ⟨fs157, hr158, hw⟩ := hw
        refine h_callV (n := 1) C0 w_TBm hh hS hl.1 [.int i156] [] (S_NS_has _ _ _ _ hw) hr158 rfl k_m_Rows_102 k_inst_NS_has k_sel_NS_has k_ini_NS k_code_NS_has (by decide +kernel) rfl rfl (Nat.le_of_ble_eq_true rfl) ⟨(Nat.le_of_ble_eq_true rfl), (Nat.le_of_ble_eq_true rfl)⟩ ⟨(Nat.le_of_ble_eq_true rfl), (Nat.le_of_ble_eq_true rfl)⟩ d_Rows_mayStart_53 (h_kI (k := 0) (n := 0) (Nat.le_of_ble_eq_true rfl) (Nat.le_of_ble_eq_true rfl) (fun i160 h159 H locs hw hh hS => ?_))
        refine lv_if_ne (tgt := 112) hx hb d_Rows_mayStart_56 (by decide) (fun c161 => ?_) (fun c161 => ?_)
        · have hw := hw.1 c161
          refine lv_iconst (v := 0) hx hb d_Rows_mayStart_112 (by decide) ?_
          exact h_iret C0 hh hS rfl rfl ⟨_, rfl, hw⟩ d_Rows_mayStart_113
        · have hw := hw.2 c161
          refine lv_aload_n hx hb d_Rows_mayStart_59 rfl (lv_at hl 1 rfl) ?_
          obtain ⟨fs162, r165, hr163, hk164, hw⟩ := hw
          refine h_get C0 hh hr163 hk164 rfl i_Job (by decide) k_f_Rows_99 (fun _ h9 => h9) d_Rows_mayStart_60 ?_
          refine lv_aload_n hx hb d_Rows_mayStart_63 rfl (lv_at hl 0 rfl) ?_
          obtain ⟨fs166, r169, hr167, hk168, hw⟩ := hw
          refine h_get C0 hh hr167 hk168 rfl i_Rows (by decide) k_f_Rows_45 (fun _ h9 => h9) d_Rows_mayStart_64 ?_
          obtain ⟨fs170, hr171, hw⟩ := hw
          refine h_callV (n := 1) C0 w_TBm hh hS hl.1 [.ref r169] [] (S_NS_isWithin _ _ _ _ hw) hr171 rfl k_m_Rows_213 k_inst_NS_isWithin k_sel_NS_isWithin k_ini_NS k_code_NS_isWithin (by decide +kernel) rfl rfl (Nat.le_of_ble_eq_true rfl) ⟨(Nat.le_of_ble_eq_true rfl), (Nat.le_of_ble_eq_true rfl)⟩ ⟨(Nat.le_of_ble_eq_true rfl), (Nat.le_of_ble_eq_true rfl)⟩ d_Rows_mayStart_67 (h_kI (k := 0) (n := 0) (Nat.le_of_ble_eq_true rfl) (Nat.le_of_ble_eq_true rfl) (fun i173 h172 H locs hw hh hS => ?_))
          refine lv_if_eq (tgt := 112) hx hb d_Rows_mayStart_70 (by decide) (fun c174 => ?_) (fun c174 => ?_)
          · have hw := hw.1 c174
            refine lv_iconst (v := 0) hx hb d_Rows_mayStart_112 (by decide) ?_
            exact h_iret C0 hh hS rfl rfl ⟨_, rfl, hw⟩ d_Rows_mayStart_113
          · have hw := hw.2 c174
            refine lv_aload_n hx hb d_Rows_mayStart_73 rfl (lv_at hl 0 rfl) ?_
            refine lv_aload_n hx hb d_Rows_mayStart_74 rfl (lv_at hl 1 rfl) ?_
            obtain ⟨fs175, hr176, hw⟩ := hw
            refine h_callV (n := 1) C0 w_TBm hh hS hl.1 [.ref x1] [] (S_Rows_areUnitsEnough _ _ _ _ hw) hr176 rfl k_m_Rows_217 k_inst_Rows_areUnitsEnough k_sel_Rows_areUnitsEnough k_ini_Rows k_code_Rows_areUnitsEnough (by decide +kernel) rfl rfl (Nat.le_of_ble_eq_true rfl) ⟨(Nat.le_of_ble_eq_true rfl), (Nat.le_of_ble_eq_true rfl)⟩ ⟨(Nat.le_of_ble_eq_true rfl), (Nat.le_of_ble_eq_true rfl)⟩ d_Rows_mayStart_75 (h_kI (k := 0) (n := 0) (Nat.le_of_ble_eq_true rfl) (Nat.le_of_ble_eq_true rfl) (fun i178 h177 H locs hw hh hS => ?_))
            refine lv_if_eq (tgt := 112) hx hb d_Rows_mayStart_78 (by decide) (fun c179 => ?_) (fun c179 => ?_)
            · have hw := hw.1 c179
              refine lv_iconst (v := 0) hx hb d_Rows_mayStart_112 (by decide) ?_
              exact h_iret C0 hh hS rfl rfl ⟨_, rfl, hw⟩ d_Rows_mayStart_113
            · have hw := hw.2 c179
              refine lv_aload_n hx hb d_Rows_mayStart_81 rfl (lv_at hl 0 rfl) ?_
              obtain ⟨fs180, r183, hr181, hk182, hw⟩ := hw
              refine h_get C0 hh hr181 hk182 rfl i_Rows (by decide) k_f_Rows_38 (fun _ h9 => h9) d_Rows_mayStart_82 ?_
              obtain ⟨fs184, i187, hr185, hk186, hw⟩ := hw
              refine h_get C0 hh hr185 hk186 rfl i_Load (by decide) k_f_Rows_220 (fun _ h9 => h9) d_Rows_mayStart_85 ?_
              refine lv_if_ne (tgt := 112) hx hb d_Rows_mayStart_88 (by decide) (fun c188 => ?_) (fun c188 => ?_)
              · have hw := hw.1 c188
                refine lv_iconst (v := 0) hx hb d_Rows_mayStart_112 (by decide) ?_
                exact h_iret C0 hh hS rfl rfl ⟨_, rfl, hw⟩ d_Rows_mayStart_113
              · have hw := hw.2 c188
                refine lv_aload_n hx hb d_Rows_mayStart_91 rfl (lv_at hl 1 rfl) ?_
                obtain ⟨fs189, i192, hr190, hk191, hw⟩ := hw
                refine h_get C0 hh hr190 hk191 rfl i_Job (by decide) k_f_Rows_115 (fun _ h9 => h9) d_Rows_mayStart_92 ?_
                refine lv_if_eq (tgt := 108) hx hb d_Rows_mayStart_95 (by decide) (fun c193 => ?_) (fun c193 => ?_)
                · have hw := hw.1 c193
                  refine lv_iconst (v := 1) hx hb d_Rows_mayStart_108 (by decide) ?_
                  refine lv_goto (tgt := 113) hx hb d_Rows_mayStart_109 (by decide) ?_
                  exact h_iret C0 hh hS rfl rfl ⟨_, rfl, hw⟩ d_Rows_mayStart_113
                · have hw := hw.2 c193
                  refine lv_aload_n hx hb d_Rows_mayStart_98 rfl (lv_at hl 0 rfl) ?_
                  obtain ⟨fs194, r197, hr195, hk196, hw⟩ := hw
                  refine h_get C0 hh hr195 hk196 rfl i_Rows (by decide) k_f_Rows_38 (fun _ h9 => h9) d_Rows_mayStart_99 ?_
                  obtain ⟨fs198, i201, hr199, hk200, hw⟩ := hw
                  refine h_get C0 hh hr199 hk200 rfl i_Load (by decide) k_f_Rows_174 (fun _ h9 => h9) d_Rows_mayStart_102 ?_
                  refine lv_if_gt (tgt := 112) hx hb d_Rows_mayStart_105 (by decide) (fun c202 => ?_) (fun c202 => ?_)
                  · have hw := hw.1 c202
                    refine lv_iconst (v := 0) hx hb d_Rows_mayStart_112 (by decide) ?_
                    exact h_iret C0 hh hS rfl rfl ⟨_, rfl, hw⟩ d_Rows_mayStart_113
                  · have hw := hw.2 c202
                    refine lv_iconst (v := 1) hx hb d_Rows_mayStart_108 (by decide) ?_
                    refine lv_goto (tgt := 113) hx hb d_Rows_mayStart_109 (by decide) ?_
                    exact h_iret C0 hh hS rfl rfl ⟨_, rfl, hw⟩ d_Rows_mayStart_113
set_option maxHeartbeats 4000000 in
set_option maxRecDepth 100000 in
theorem S_Rows_priorityNow {l : Launch} {κ : hX} (Q : Int32 → hM → Prop) (h : hM) (x0 : Nat) (x1 : Nat) (hw : P_Rows_priorityNow Q h x0 x1) : Met l y_Rows_priorityNow [Cond.code y_Rows_priorityNow b_Rows_priorityNow 5 (some .int)] rm_Rows_priorityNow (hPc κ w_cl w_tl w_tb [.ref x0, .ref x1] h) (hQ κ w_cl (qI Q)) 0 0 (h_A κ) := by
  refine h_enter w_TBm (by decide) (Nat.le_of_ble_eq_true rfl) ?_
  intro p e s m args below meth c C0 hnm hh hS ls hl
  obtain ⟨hx, hb, hml, hown, hts, hK, hF0, hrt, hlocks⟩ := id C0
  have hl : lv_has ls 5 [(0, .ref x0), (1, .ref x1)] := hl
  refine lv_aload_n hx hb d_Rows_priorityNow_0 rfl (lv_at hl 0 rfl) ?_
  obtain ⟨fs41, i44, hr42, hk43, hw⟩ := hw
  refine h_get C0 hh hr42 hk43 rfl i_Rows (by decide) k_f_Rows_56 (fun _ h9 => h9) d_Rows_priorityNow_1 ?_
  refine lv_aload_n hx hb d_Rows_priorityNow_4 rfl (lv_at hl 1 rfl) ?_
  obtain ⟨fs45, i48, hr46, hk47, hw⟩ := hw
  refine h_get C0 hh hr46 hk47 rfl i_Job (by decide) k_f_Rows_226 (fun _ h9 => h9) d_Rows_priorityNow_5 ?_
  refine lv_isub hx hb d_Rows_priorityNow_8 ?_
  refine lv_topi (fun x2_49 ex2_49 => ?_)
  have hw := hw x2_49 ex2_49
  refine lv_istore_n (lv' := [(2, .int x2_49), (0, .ref x0), (1, .ref x1)]) hx hb d_Rows_priorityNow_9 rfl hl (by decide) rfl (fun ls hl => ?_)
  refine lv_aload_n hx hb d_Rows_priorityNow_10 rfl (lv_at hl 1 rfl) ?_
  obtain ⟨fs50, j53, hr51, hk52, hw⟩ := hw
  refine h_get C0 hh hr51 hk52 rfl i_Rows (by decide) k_f_Rows_53 (fun _ h9 => h9) d_Rows_priorityNow_11 ?_
  refine lv_lconst (v := 0) hx hb d_Rows_priorityNow_14 (by decide) ?_
  refine W.lcmp hx hb d_Rows_priorityNow_15 ?_
  refine lv_if_le (tgt := 23) hx hb d_Rows_priorityNow_16 (by decide) (fun c54 => ?_) (fun c54 => ?_)
  · have hw := hw.1 ((lg_cmp_le _ _).mp c54)
    refine lv_aload_n hx hb d_Rows_priorityNow_23 rfl (lv_at hl 2 rfl) ?_
    obtain ⟨fs55, i58, hr56, hk57, hw⟩ := hw
    refine h_get C0 hh hr56 hk57 rfl i_Job (by decide) k_f_Rows_226 (fun _ h9 => h9) d_Rows_priorityNow_24 ?_
    exact h_iret C0 hh hS rfl rfl ⟨_, rfl, hw⟩ d_Rows_priorityNow_27
  · have hw := hw.2 (fun z => c54 ((lg_cmp_le _ _).mpr z))
    refine lv_iload_n hx hb d_Rows_priorityNow_19 rfl (lv_at hl 0 rfl) ?_
    refine lv_if_gt (tgt := 28) hx hb d_Rows_priorityNow_20 (by decide) (fun c59 => ?_) (fun c59 => ?_)
    · have hw := hw.1 c59
      refine lv_aload_n hx hb d_Rows_priorityNow_28 rfl (lv_at hl 1 rfl) ?_
      obtain ⟨fs60, j63, hr61, hk62, hw⟩ := hw
      refine h_get C0 hh hr61 hk62 rfl i_Rows (by decide) k_f_Rows_49 (fun _ h9 => h9) d_Rows_priorityNow_29 ?_
      refine lv_aload_n hx hb d_Rows_priorityNow_32 rfl (lv_at hl 2 rfl) ?_
      obtain ⟨fs64, j67, hr65, hk66, hw⟩ := hw
      refine h_get C0 hh hr65 hk66 rfl i_Job (by decide) k_f_Rows_167 (fun _ h9 => h9) d_Rows_priorityNow_33 ?_
      refine lv_lsub hx hb d_Rows_priorityNow_36 ?_
      refine lv_aload_n hx hb d_Rows_priorityNow_37 rfl (lv_at hl 1 rfl) ?_
      obtain ⟨fs68, j71, hr69, hk70, hw⟩ := hw
      refine h_get C0 hh hr69 hk70 rfl i_Rows (by decide) k_f_Rows_53 (fun _ h9 => h9) d_Rows_priorityNow_38 ?_
      obtain ⟨hne, hw⟩ := hw
      refine lv_ldiv hx hb d_Rows_priorityNow_41 hne ?_
      refine lv_topl (fun x3_72 ex3_72 => ?_)
      have hw := hw x3_72 ex3_72
      refine lv_lstore_n (lv' := [(3, .long x3_72), (2, .int x2_49), (0, .ref x0), (1, .ref x1)]) hx hb d_Rows_priorityNow_42 rfl hl (by decide) rfl (fun ls hl => ?_)
      refine lv_aload_n hx hb d_Rows_priorityNow_43 rfl (lv_at hl 3 rfl) ?_
      obtain ⟨fs73, i76, hr74, hk75, hw⟩ := hw
      refine h_get C0 hh hr74 hk75 rfl i_Job (by decide) k_f_Rows_226 (fun _ h9 => h9) d_Rows_priorityNow_44 ?_
      refine lv_lload_n hx hb d_Rows_priorityNow_47 rfl (lv_at hl 0 rfl) ?_
      refine lv_iload_n hx hb d_Rows_priorityNow_48 rfl (lv_at hl 1 rfl) ?_
      refine lv_i2l (v := x2_49.toInt64) hx hb d_Rows_priorityNow_49 rfl ?_
      refine va_mmin_long hx hb (hml.trans hl.1.symm) hown (hts _ k_m_Rows_229) (hts _ k_math_min_long_static) (hts _ k_ini_Math) (hts _ k_math_min_long_code) (Nat.le_of_ble_eq_true rfl) (Nat.le_of_ble_eq_true rfl) (Nat.le_of_ble_eq_true rfl) (Nat.le_of_ble_eq_true rfl) d_Rows_priorityNow_50 ?_
      refine lv_l2i (v := (if (x2_49.toInt64) < x3_72 then (x2_49.toInt64) else x3_72).toInt32) hx hb d_Rows_priorityNow_53 rfl ?_
      refine lv_iadd hx hb d_Rows_priorityNow_54 ?_
      exact h_iret C0 hh hS rfl rfl ⟨_, rfl, hw⟩ d_Rows_priorityNow_55
    · have hw := hw.2 c59
      refine lv_aload_n hx hb d_Rows_priorityNow_23 rfl (lv_at hl 2 rfl) ?_
      obtain ⟨fs77, i80, hr78, hk79, hw⟩ := hw
      refine h_get C0 hh hr78 hk79 rfl i_Job (by decide) k_f_Rows_226 (fun _ h9 => h9) d_Rows_priorityNow_24 ?_
      exact h_iret C0 hh hS rfl rfl ⟨_, rfl, hw⟩ d_Rows_priorityNow_27
set_option maxHeartbeats 4000000 in
set_option maxRecDepth 100000 in
theorem S_Rows_nextOfClass_67 {p : Program} {l : Launch} {e : Env} {s : State} {m : MethodId} {args : Array Value} {below : List Frame} {meth : Method} {c : Code} {κ : hX} {Q : Option Nat → hM → Prop} {K4 : hM → Nat → Int32 → Option Nat → Int32 → Prop} (C0 : Cw κ w_cl w_tl w_tb p s m args meth c b_Rows_nextOfClass 5 R_Rows (some (.object "InitiatorRows$Job"))) (hK4 : ∀ (h : hM) (x0 : Nat) (x1 : Int32) (x2 : Option Nat) (x3 : Int32) (H : Heap) (locs : List Loc) (ls : Array Slot), K4 h x0 x1 x2 x3 → hp κ w_cl h H → va_S (h_A κ) s.heap H locs → lv_has ls 5 [(0, .ref x0), (1, .int x1), (2, va_rf x2), (3, .int x3)] → W p l e rm_Rows_nextOfClass s m args below meth c H locs 0 0 (MQ below (hQ κ w_cl (qO Q)) args s 0 0 (h_A κ)) (F0 m 4 ls [])) : ∀ (h : hM) (x0 : Nat) (x1 : Int32) (x2 : Option Nat) (x3 : Int32) (H : Heap) (locs : List Loc) (ls : Array Slot), P_Rows_nextOfClass_67 Q K4 h x0 x1 x2 x3 → hp κ w_cl h H → va_S (h_A κ) s.heap H locs → lv_has ls 5 [(0, .ref x0), (1, .int x1), (2, va_rf x2), (3, .int x3)] → W p l e rm_Rows_nextOfClass s m args below meth c H locs 0 0 (MQ below (hQ κ w_cl (qO Q)) args s 0 0 (h_A κ)) (F0 m 67 ls []) := by
  obtain ⟨hx, hb, hml, hown, hts, hK, hF0, hrt, hlocks⟩ := id C0
  intro h x0 x1 x2 x3 H locs ls hw hh hS hl
  obtain ⟨x3_75, ex3_75⟩ : ∃ z : Int32, z = x3 + 1 := ⟨_, rfl⟩
  have hw := hw x3_75 ex3_75
  refine lv_iinc (v := x3_75) (lv' := [(3, .int x3_75), (0, .ref x0), (1, .int x1), (2, va_rf x2)]) hx hb d_Rows_nextOfClass_67 hl (k := 3) rfl (by rw [ex3_75]; rfl) (by decide) (by cases x2 <;> rfl) (fun ls hl => ?_)
  refine lv_goto (tgt := 4) hx hb d_Rows_nextOfClass_70 (by decide) ?_
  exact hK4 _ _ _ _ _ _ _ _ hw hh hS (lv_sub hl [1, 2, 3, 0] rfl)
end
section
set_option maxHeartbeats 4000000 in
set_option maxRecDepth 100000 in
theorem S_Rows_nextOfClass_64 {p : Program} {l : Launch} {e : Env} {s : State} {m : MethodId} {args : Array Value} {below : List Frame} {meth : Method} {c : Code} {κ : hX} {Q : Option Nat → hM → Prop} {K4 : hM → Nat → Int32 → Option Nat → Int32 → Prop} (C0 : Cw κ w_cl w_tl w_tb p s m args meth c b_Rows_nextOfClass 5 R_Rows (some (.object "InitiatorRows$Job"))) (hK4 : ∀ (h : hM) (x0 : Nat) (x1 : Int32) (x2 : Option Nat) (x3 : Int32) (H : Heap) (locs : List Loc) (ls : Array Slot), K4 h x0 x1 x2 x3 → hp κ w_cl h H → va_S (h_A κ) s.heap H locs → lv_has ls 5 [(0, .ref x0), (1, .int x1), (2, va_rf x2), (3, .int x3)] → W p l e rm_Rows_nextOfClass s m args below meth c H locs 0 0 (MQ below (hQ κ w_cl (qO Q)) args s 0 0 (h_A κ)) (F0 m 4 ls [])) : ∀ (h : hM) (x0 : Nat) (x1 : Int32) (x3 : Int32) (x4 : Nat) (H : Heap) (locs : List Loc) (ls : Array Slot), P_Rows_nextOfClass_64 Q K4 h x0 x1 x3 x4 → hp κ w_cl h H → va_S (h_A κ) s.heap H locs → lv_has ls 5 [(0, .ref x0), (1, .int x1), (3, .int x3), (4, .ref x4)] → W p l e rm_Rows_nextOfClass s m args below meth c H locs 0 0 (MQ below (hQ κ w_cl (qO Q)) args s 0 0 (h_A κ)) (F0 m 64 ls []) := by
  obtain ⟨hx, hb, hml, hown, hts, hK, hF0, hrt, hlocks⟩ := id C0
  intro h x0 x1 x3 x4 H locs ls hw hh hS hl
  refine lv_aload hx hb d_Rows_nextOfClass_64 (lv_at hl 3 rfl) ?_
  refine lv_astore_n (lv' := [(2, .ref x4), (0, .ref x0), (1, .int x1), (3, .int x3), (4, .ref x4)]) hx hb d_Rows_nextOfClass_66 rfl hl (by decide) rfl (fun ls hl => ?_)
  exact S_Rows_nextOfClass_67 C0 hK4 _ _ _ _ _ _ _ _ hw hh hS (lv_sub hl [1, 2, 0, 3] rfl)
set_option maxHeartbeats 4000000 in
set_option maxRecDepth 100000 in
theorem S_Rows_nextOfClass_4 {p : Program} {l : Launch} {e : Env} {s : State} {m : MethodId} {args : Array Value} {below : List Frame} {meth : Method} {c : Code} {κ : hX} {Q : Option Nat → hM → Prop} (C0 : Cw κ w_cl w_tl w_tb p s m args meth c b_Rows_nextOfClass 5 R_Rows (some (.object "InitiatorRows$Job"))) : ∀ (n : Nat) (h : hM) (x0 : Nat) (x1 : Int32) (x2 : Option Nat) (x3 : Int32) (H : Heap) (locs : List Loc) (ls : Array Slot), L_Rows_nextOfClass_4 Q n h x0 x1 x2 x3 → hp κ w_cl h H → va_S (h_A κ) s.heap H locs → lv_has ls 5 [(0, .ref x0), (1, .int x1), (2, va_rf x2), (3, .int x3)] → W p l e rm_Rows_nextOfClass s m args below meth c H locs 0 0 (MQ below (hQ κ w_cl (qO Q)) args s 0 0 (h_A κ)) (F0 m 4 ls []) := by
  obtain ⟨hx, hb, hml, hown, hts, hK, hF0, hrt, hlocks⟩ := id C0
  intro n
  induction n with
  | zero =>
    intro h x0 x1 x2 x3 H locs ls hw
    exact hw.elim
  | succ n hK4 =>
    intro h x0 x1 x2 x3 H locs ls hw hh hS hl
    have hw : P_Rows_nextOfClass_4 Q (L_Rows_nextOfClass_4 Q n) h x0 x1 x2 x3 := hw
    refine lv_iload_n hx hb d_Rows_nextOfClass_4 rfl (lv_at hl 3 rfl) ?_
    refine lv_aload_n hx hb d_Rows_nextOfClass_5 rfl (lv_at hl 0 rfl) ?_
    obtain ⟨fs76, r79, hr77, hk78, hw⟩ := hw
    refine h_get C0 hh hr77 hk78 rfl i_Rows (by decide) k_f_Rows_16 (fun _ h9 => h9) d_Rows_nextOfClass_6 ?_
    obtain ⟨fs80, hr81, hw⟩ := hw
    refine h_callV (n := 0) C0 w_TBm hh hS hl.1 [] [.int x3] (S_AL_size _ _ _ hw) hr81 rfl k_m_Rows_60 k_inst_AL_size k_sel_AL_size k_ini_AL k_code_AL_size (by decide +kernel) rfl rfl (Nat.le_of_ble_eq_true rfl) ⟨(Nat.le_of_ble_eq_true rfl), (Nat.le_of_ble_eq_true rfl)⟩ ⟨(Nat.le_of_ble_eq_true rfl), (Nat.le_of_ble_eq_true rfl)⟩ d_Rows_nextOfClass_9 (h_kI (k := 0) (n := 0) (Nat.le_of_ble_eq_true rfl) (Nat.le_of_ble_eq_true rfl) (fun i83 h82 H locs hw hh hS => ?_))
    refine lv_icmp_ge (tgt := 73) hx hb d_Rows_nextOfClass_12 (by decide) (fun c84 => ?_) (fun c84 => ?_)
    · have hw := hw.1 c84
      refine h_aload_nO hx hb d_Rows_nextOfClass_73 rfl (lv_at hl 2 rfl) ?_
      exact h_aret (o := x2) C0 hh hS rfl (Or.inl ⟨_, rfl⟩) ⟨_, rfl, hw⟩ d_Rows_nextOfClass_74
    · have hw := hw.2 c84
      refine lv_aload_n hx hb d_Rows_nextOfClass_15 rfl (lv_at hl 0 rfl) ?_
      obtain ⟨fs85, r88, hr86, hk87, hw⟩ := hw
      refine h_get C0 hh hr86 hk87 rfl i_Rows (by decide) k_f_Rows_16 (fun _ h9 => h9) d_Rows_nextOfClass_16 ?_
      refine lv_iload_n hx hb d_Rows_nextOfClass_19 rfl (lv_at hl 3 rfl) ?_
      obtain ⟨fs89, hr90, hw⟩ := hw
      refine h_callV (n := 1) C0 w_TBm hh hS hl.1 [.int x3] [] (S_AL_get _ _ _ _ hw) hr90 rfl k_m_Rows_156 k_inst_AL_get k_sel_AL_get k_ini_AL k_code_AL_get (by decide +kernel) rfl rfl (Nat.le_of_ble_eq_true rfl) ⟨(Nat.le_of_ble_eq_true rfl), (Nat.le_of_ble_eq_true rfl)⟩ ⟨(Nat.le_of_ble_eq_true rfl), (Nat.le_of_ble_eq_true rfl)⟩ d_Rows_nextOfClass_20 (h_kO (k := 0) (n := 0) (Nat.le_of_ble_eq_true rfl) (Nat.le_of_ble_eq_true rfl) (fun o92 h91 H locs hw hh hS => ?_))
      rcases o92 with _ | a93
      · have hw := hw.1 rfl
        have hl : lv_has ls 5 [(0, .ref x0), (1, .int x1), (2, va_rf x2), (3, .int x3)] := hl
        refine lv_castN hx hb d_Rows_nextOfClass_23 ?_
        refine lv_astoreN (lv' := [(4, .null), (0, .ref x0), (1, .int x1), (2, va_rf x2), (3, .int x3)]) hx hb d_Rows_nextOfClass_26 hl (by decide) rfl (fun ls hl => ?_)
        refine lv_aloadN hx hb d_Rows_nextOfClass_28 (lv_at hl 0 rfl) ?_
        exact hw.elim
      · have hw := hw.2 a93 rfl
        have hl : lv_has ls 5 [(0, .ref x0), (1, .int x1), (2, va_rf x2), (3, .int x3)] := hl
        obtain ⟨⟨fs94, hr95⟩, hw⟩ := hw
        refine h_cast C0 hh hr95 rfl k_c_Rows_86 d_Rows_nextOfClass_23 ?_
        refine lv_astore (lv' := [(4, .ref a93), (0, .ref x0), (1, .int x1), (2, va_rf x2), (3, .int x3)]) hx hb d_Rows_nextOfClass_26 hl (by decide) rfl (fun ls hl => ?_)
        refine lv_aload hx hb d_Rows_nextOfClass_28 (lv_at hl 0 rfl) ?_
        obtain ⟨fs96, i99, hr97, hk98, hw⟩ := hw
        refine h_get C0 hh hr97 hk98 rfl i_Job (by decide) k_f_Rows_194 (fun _ h9 => h9) d_Rows_nextOfClass_30 ?_
        refine lv_iload_n hx hb d_Rows_nextOfClass_33 rfl (lv_at hl 2 rfl) ?_
        refine lv_icmp_ne (tgt := 67) hx hb d_Rows_nextOfClass_34 (by decide) (fun c100 => ?_) (fun c100 => ?_)
        · have hw := hw.1 c100
          exact S_Rows_nextOfClass_67 C0 hK4 _ _ _ _ _ _ _ _ hw hh hS (lv_sub hl [1, 2, 3, 4] rfl)
        · have hw := hw.2 c100
          refine lv_aload_n hx hb d_Rows_nextOfClass_37 rfl (lv_at hl 1 rfl) ?_
          refine lv_aload hx hb d_Rows_nextOfClass_38 (lv_at hl 0 rfl) ?_
          obtain ⟨fs101, hr102, hw⟩ := hw
          refine h_callV (n := 1) C0 w_TBm hh hS hl.1 [.ref a93] [] (S_Rows_mayStart _ _ _ _ hw) hr102 rfl k_m_Rows_197 k_inst_Rows_mayStart k_sel_Rows_mayStart k_ini_Rows k_code_Rows_mayStart (by decide +kernel) rfl rfl (Nat.le_of_ble_eq_true rfl) ⟨(Nat.le_of_ble_eq_true rfl), (Nat.le_of_ble_eq_true rfl)⟩ ⟨(Nat.le_of_ble_eq_true rfl), (Nat.le_of_ble_eq_true rfl)⟩ d_Rows_nextOfClass_40 (h_kI (k := 0) (n := 0) (Nat.le_of_ble_eq_true rfl) (Nat.le_of_ble_eq_true rfl) (fun i104 h103 H locs hw hh hS => ?_))
          refine lv_if_eq (tgt := 67) hx hb d_Rows_nextOfClass_43 (by decide) (fun c105 => ?_) (fun c105 => ?_)
          · have hw := hw.1 c105
            exact S_Rows_nextOfClass_67 C0 hK4 _ _ _ _ _ _ _ _ hw hh hS (lv_sub hl [1, 2, 3, 4] rfl)
          · have hw := hw.2 c105
            refine h_aload_nO hx hb d_Rows_nextOfClass_46 rfl (lv_at hl 3 rfl) ?_
            rcases x2 with _ | a107
            · have hw := hw.1 rfl
              have hl : lv_has ls 5 [(4, .ref a93), (0, .ref x0), (1, .int x1), (2, .null), (3, .int x3)] := hl
              refine lv_ifnullN (tgt := 64) hx hb d_Rows_nextOfClass_47 (by decide) ?_
              exact S_Rows_nextOfClass_64 C0 hK4 _ _ _ _ _ _ _ _ hw hh hS (lv_sub hl [1, 2, 4, 0] rfl)
            · have hw := hw.2 a107 rfl
              have hl : lv_has ls 5 [(4, .ref a93), (0, .ref x0), (1, .int x1), (2, .ref a107), (3, .int x3)] := hl
              refine lv_ifnull hx hb d_Rows_nextOfClass_47 ?_
              refine lv_aload_n hx hb d_Rows_nextOfClass_50 rfl (lv_at hl 1 rfl) ?_
              refine lv_aload hx hb d_Rows_nextOfClass_51 (lv_at hl 0 rfl) ?_
              obtain ⟨fs108, hr109, hw⟩ := hw
              refine h_callV (n := 1) C0 w_TBm hh hS hl.1 [.ref a93] [] (S_Rows_priorityNow _ _ _ _ hw) hr109 rfl k_m_Rows_160 k_inst_Rows_priorityNow k_sel_Rows_priorityNow k_ini_Rows k_code_Rows_priorityNow (by decide +kernel) rfl rfl (Nat.le_of_ble_eq_true rfl) ⟨(Nat.le_of_ble_eq_true rfl), (Nat.le_of_ble_eq_true rfl)⟩ ⟨(Nat.le_of_ble_eq_true rfl), (Nat.le_of_ble_eq_true rfl)⟩ d_Rows_nextOfClass_53 (h_kI (k := 0) (n := 0) (Nat.le_of_ble_eq_true rfl) (Nat.le_of_ble_eq_true rfl) (fun i111 h110 H locs hw hh hS => ?_))
              refine lv_aload_n hx hb d_Rows_nextOfClass_56 rfl (lv_at hl 1 rfl) ?_
              refine lv_aload_n hx hb d_Rows_nextOfClass_57 rfl (lv_at hl 3 rfl) ?_
              obtain ⟨fs112, hr113, hw⟩ := hw
              refine h_callV (n := 1) C0 w_TBm hh hS hl.1 [.ref a107] [.int i111] (S_Rows_priorityNow _ _ _ _ hw) hr113 rfl k_m_Rows_160 k_inst_Rows_priorityNow k_sel_Rows_priorityNow k_ini_Rows k_code_Rows_priorityNow (by decide +kernel) rfl rfl (Nat.le_of_ble_eq_true rfl) ⟨(Nat.le_of_ble_eq_true rfl), (Nat.le_of_ble_eq_true rfl)⟩ ⟨(Nat.le_of_ble_eq_true rfl), (Nat.le_of_ble_eq_true rfl)⟩ d_Rows_nextOfClass_58 (h_kI (k := 0) (n := 0) (Nat.le_of_ble_eq_true rfl) (Nat.le_of_ble_eq_true rfl) (fun i115 h114 H locs hw hh hS => ?_))
              refine lv_icmp_le (tgt := 67) hx hb d_Rows_nextOfClass_61 (by decide) (fun c116 => ?_) (fun c116 => ?_)
              · have hw := hw.1 c116
                exact S_Rows_nextOfClass_67 C0 hK4 _ _ _ _ _ _ _ _ hw hh hS (lv_sub hl [1, 2, 3, 4] rfl)
              · have hw := hw.2 c116
                exact S_Rows_nextOfClass_64 C0 hK4 _ _ _ _ _ _ _ _ hw hh hS (lv_sub hl [1, 2, 4, 0] rfl)
set_option maxHeartbeats 4000000 in
set_option maxRecDepth 100000 in
theorem S_Rows_nextOfClass {l : Launch} {κ : hX} (Q : Option Nat → hM → Prop) (h : hM) (x0 : Nat) (x1 : Int32) (hw : P_Rows_nextOfClass Q h x0 x1) : Met l y_Rows_nextOfClass [Cond.code y_Rows_nextOfClass b_Rows_nextOfClass 5 (some (.object "InitiatorRows$Job"))] rm_Rows_nextOfClass (hPc κ w_cl w_tl w_tb [.ref x0, .int x1] h) (hQ κ w_cl (qO Q)) 0 0 (h_A κ) := by
  refine h_enter w_TBm (by decide) (Nat.le_of_ble_eq_true rfl) ?_
  intro p e s m args below meth c C0 hnm hh hS ls hl
  obtain ⟨hx, hb, hml, hown, hts, hK, hF0, hrt, hlocks⟩ := id C0
  have hl : lv_has ls 5 [(0, .ref x0), (1, .int x1)] := hl
  refine lv_null hx hb d_Rows_nextOfClass_0 ?_
  refine lv_astore_nN (lv' := [(2, .null), (0, .ref x0), (1, .int x1)]) hx hb d_Rows_nextOfClass_1 rfl hl (by decide) rfl (fun ls hl => ?_)
  refine lv_iconst (v := 0) hx hb d_Rows_nextOfClass_2 (by decide) ?_
  refine lv_istore_n (lv' := [(3, .int (0 : Int32)), (2, .null), (0, .ref x0), (1, .int x1)]) hx hb d_Rows_nextOfClass_3 rfl hl (by decide) rfl (fun ls hl => ?_)
  obtain ⟨n0, hw⟩ := hw
  exact S_Rows_nextOfClass_4 C0 n0 _ _ _ _ _ _ _ _ hw hh hS (lv_sub hl [2, 3, 1, 0] rfl)
set_option maxHeartbeats 4000000 in
set_option maxRecDepth 100000 in
theorem S_Rows_nextFor_32 {p : Program} {l : Launch} {e : Env} {s : State} {m : MethodId} {args : Array Value} {below : List Frame} {meth : Method} {c : Code} {κ : hX} {Q : Option Nat → hM → Prop} {K2 : hM → Nat → Nat → Int32 → Prop} (C0 : Cw κ w_cl w_tl w_tb p s m args meth c b_Rows_nextFor 5 R_Rows (some (.object "InitiatorRows$Job"))) (hK2 : ∀ (h : hM) (x0 : Nat) (x1 : Nat) (x2 : Int32) (H : Heap) (locs : List Loc) (ls : Array Slot), K2 h x0 x1 x2 → hp κ w_cl h H → va_S (h_A κ) s.heap H locs → lv_has ls 5 [(0, .ref x0), (1, .ref x1), (2, .int x2)] → W p l e rm_Rows_nextFor s m args below meth c H locs 0 0 (MQ below (hQ κ w_cl (qO Q)) args s 0 0 (h_A κ)) (F0 m 2 ls [])) : ∀ (h : hM) (x0 : Nat) (x1 : Nat) (x2 : Int32) (t0 : Option Nat) (H : Heap) (locs : List Loc) (ls : Array Slot), P_Rows_nextFor_32 Q K2 h x0 x1 x2 t0 → hp κ w_cl h H → va_S (h_A κ) s.heap H locs → lv_has ls 5 [(0, .ref x0), (1, .ref x1), (2, .int x2)] → W p l e rm_Rows_nextFor s m args below meth c H locs 0 0 (MQ below (hQ κ w_cl (qO Q)) args s 0 0 (h_A κ)) (F0 m 32 ls [va_rf t0]) := by
  obtain ⟨hx, hb, hml, hown, hts, hK, hF0, hrt, hlocks⟩ := id C0
  intro h x0 x1 x2 t0 H locs ls hw hh hS hl
  refine h_astoreO (lv' := [(4, va_rf t0), (0, .ref x0), (1, .ref x1), (2, .int x2)]) hx hb d_Rows_nextFor_32 hl (by decide) rfl (fun ls hl => ?_)
  refine h_aloadO hx hb d_Rows_nextFor_34 (lv_at hl 0 rfl) ?_
  rcases t0 with _ | a52
  · have hw := hw.1 rfl
    have hl : lv_has ls 5 [(4, .null), (0, .ref x0), (1, .ref x1), (2, .int x2)] := hl
    refine lv_ifnullN (tgt := 42) hx hb d_Rows_nextFor_36 (by decide) ?_
    obtain ⟨x2_53, ex2_53⟩ : ∃ z : Int32, z = x2 + 1 := ⟨_, rfl⟩
    have hw := hw x2_53 ex2_53
    refine lv_iinc (v := x2_53) (lv' := [(2, .int x2_53), (4, .null), (0, .ref x0), (1, .ref x1)]) hx hb d_Rows_nextFor_42 hl (k := 3) rfl (by rw [ex2_53]; rfl) (by decide) rfl (fun ls hl => ?_)
    refine lv_goto (tgt := 2) hx hb d_Rows_nextFor_45 (by decide) ?_
    exact hK2 _ _ _ _ _ _ _ hw hh hS (lv_sub hl [2, 3, 0] rfl)
  · have hw := hw.2 a52 rfl
    have hl : lv_has ls 5 [(4, .ref a52), (0, .ref x0), (1, .ref x1), (2, .int x2)] := hl
    refine lv_ifnull hx hb d_Rows_nextFor_36 ?_
    refine lv_aload hx hb d_Rows_nextFor_39 (lv_at hl 0 rfl) ?_
    exact h_aret (o := (some a52)) C0 hh hS rfl (Or.inl ⟨_, rfl⟩) ⟨_, rfl, hw⟩ d_Rows_nextFor_41
set_option maxHeartbeats 4000000 in
set_option maxRecDepth 100000 in
theorem S_Rows_nextFor_2 {p : Program} {l : Launch} {e : Env} {s : State} {m : MethodId} {args : Array Value} {below : List Frame} {meth : Method} {c : Code} {κ : hX} {Q : Option Nat → hM → Prop} (C0 : Cw κ w_cl w_tl w_tb p s m args meth c b_Rows_nextFor 5 R_Rows (some (.object "InitiatorRows$Job"))) : ∀ (n : Nat) (h : hM) (x0 : Nat) (x1 : Nat) (x2 : Int32) (H : Heap) (locs : List Loc) (ls : Array Slot), L_Rows_nextFor_2 Q n h x0 x1 x2 → hp κ w_cl h H → va_S (h_A κ) s.heap H locs → lv_has ls 5 [(0, .ref x0), (1, .ref x1), (2, .int x2)] → W p l e rm_Rows_nextFor s m args below meth c H locs 0 0 (MQ below (hQ κ w_cl (qO Q)) args s 0 0 (h_A κ)) (F0 m 2 ls []) := by
  obtain ⟨hx, hb, hml, hown, hts, hK, hF0, hrt, hlocks⟩ := id C0
  intro n
  induction n with
  | zero =>
    intro h x0 x1 x2 H locs ls hw
    exact hw.elim
  | succ n hK2 =>
    intro h x0 x1 x2 H locs ls hw hh hS hl
    have hw : P_Rows_nextFor_2 Q (L_Rows_nextFor_2 Q n) h x0 x1 x2 := hw
    refine lv_iload_n hx hb d_Rows_nextFor_2 rfl (lv_at hl 2 rfl) ?_
    refine lv_aload_n hx hb d_Rows_nextFor_3 rfl (lv_at hl 1 rfl) ?_
    obtain ⟨fs54, r57, hr55, hk56, hw⟩ := hw
    refine h_get C0 hh hr55 hk56 rfl i_Ini (by decide) k_f_Rows_83 (fun _ h9 => h9) d_Rows_nextFor_4 ?_
    obtain ⟨n58, f59, hr60, hw⟩ := hw
    refine h_alenT C0 hh hr60 (rfl : w_tl[0]? = _) d_Rows_nextFor_7 ?_
    refine lv_icmp_ge (tgt := 48) hx hb d_Rows_nextFor_8 (by decide) (fun c61 => ?_) (fun c61 => ?_)
    · have hw := hw.1 c61
      refine lv_null hx hb d_Rows_nextFor_48 ?_
      exact h_aret (o := none) C0 hh hS rfl (Or.inl ⟨_, rfl⟩) ⟨_, rfl, hw⟩ d_Rows_nextFor_49
    · have hw := hw.2 c61
      refine lv_aload_n hx hb d_Rows_nextFor_11 rfl (lv_at hl 1 rfl) ?_
      obtain ⟨fs62, r65, hr63, hk64, hw⟩ := hw
      refine h_get C0 hh hr63 hk64 rfl i_Ini (by decide) k_f_Rows_83 (fun _ h9 => h9) d_Rows_nextFor_12 ?_
      refine lv_iload_n hx hb d_Rows_nextFor_15 rfl (lv_at hl 2 rfl) ?_
      obtain ⟨n66, f67, hr68, hi69, hw⟩ := hw
      refine h_iald C0 hh hr68 hi69 rfl d_Rows_nextFor_16 ?_
      refine lv_topi (fun x3_70 ex3_70 => ?_)
      have hw := hw x3_70 ex3_70
      refine lv_istore_n (lv' := [(3, .int x3_70), (0, .ref x0), (1, .ref x1), (2, .int x2)]) hx hb d_Rows_nextFor_17 rfl hl (by decide) rfl (fun ls hl => ?_)
      refine lv_iload_n hx hb d_Rows_nextFor_18 rfl (lv_at hl 0 rfl) ?_
      refine lv_iconst (v := -1) hx hb d_Rows_nextFor_19 (by decide) ?_
      refine lv_icmp_ne (tgt := 27) hx hb d_Rows_nextFor_20 (by decide) (fun c71 => ?_) (fun c71 => ?_)
      · have hw := hw.1 c71
        refine lv_aload_n hx hb d_Rows_nextFor_27 rfl (lv_at hl 1 rfl) ?_
        refine lv_iload_n hx hb d_Rows_nextFor_28 rfl (lv_at hl 0 rfl) ?_
        obtain ⟨fs72, hr73, hw⟩ := hw
        refine h_callV (n := 1) C0 w_TBm hh hS hl.1 [.int x3_70] [] (S_Rows_nextOfClass _ _ _ _ hw) hr73 rfl k_m_Rows_191 k_inst_Rows_nextOfClass k_sel_Rows_nextOfClass k_ini_Rows k_code_Rows_nextOfClass (by decide +kernel) rfl rfl (Nat.le_of_ble_eq_true rfl) ⟨(Nat.le_of_ble_eq_true rfl), (Nat.le_of_ble_eq_true rfl)⟩ ⟨(Nat.le_of_ble_eq_true rfl), (Nat.le_of_ble_eq_true rfl)⟩ d_Rows_nextFor_29 (h_kO (k := 0) (n := 0) (Nat.le_of_ble_eq_true rfl) (Nat.le_of_ble_eq_true rfl) (fun o75 h74 H locs hw hh hS => ?_))
        exact S_Rows_nextFor_32 C0 hK2 _ _ _ _ _ _ _ _ hw hh hS (lv_sub hl [1, 2, 3] rfl)
      · have hw := hw.2 c71
        refine lv_null hx hb d_Rows_nextFor_23 ?_
        refine lv_goto (tgt := 32) hx hb d_Rows_nextFor_24 (by decide) ?_
        exact S_Rows_nextFor_32 C0 hK2 _ _ _ _ _ _ _ _ hw hh hS (lv_sub hl [1, 2, 3] rfl)
set_option maxHeartbeats 4000000 in
set_option maxRecDepth 100000 in
theorem S_Rows_nextFor {l : Launch} {κ : hX} (Q : Option Nat → hM → Prop) (h : hM) (x0 : Nat) (x1 : Nat) (hw : P_Rows_nextFor Q h x0 x1) : Met l y_Rows_nextFor [Cond.code y_Rows_nextFor b_Rows_nextFor 5 (some (.object "InitiatorRows$Job"))] rm_Rows_nextFor (hPc κ w_cl w_tl w_tb [.ref x0, .ref x1] h) (hQ κ w_cl (qO Q)) 0 0 (h_A κ) := by
  refine h_enter w_TBm (by decide) (Nat.le_of_ble_eq_true rfl) ?_
  intro p e s m args below meth c C0 hnm hh hS ls hl
  obtain ⟨hx, hb, hml, hown, hts, hK, hF0, hrt, hlocks⟩ := id C0
  have hl : lv_has ls 5 [(0, .ref x0), (1, .ref x1)] := hl
  refine lv_iconst (v := 0) hx hb d_Rows_nextFor_0 (by decide) ?_
  refine lv_istore_n (lv' := [(2, .int (0 : Int32)), (0, .ref x0), (1, .ref x1)]) hx hb d_Rows_nextFor_1 rfl hl (by decide) rfl (fun ls hl => ?_)
  obtain ⟨n0, hw⟩ := hw
  exact S_Rows_nextFor_2 C0 n0 _ _ _ _ _ _ _ hw hh hS (lv_sub hl [1, 2, 0] rfl)
set_option maxHeartbeats 4000000 in
set_option maxRecDepth 100000 in
theorem S_Rows_startJob {l : Launch} {κ : hX} (Q : hM → Prop) (h : hM) (x0 : Nat) (x1 : Nat) (x2 : Nat) (hw : P_Rows_startJob Q h x0 x1 x2) : Met l y_Rows_startJob [Cond.code y_Rows_startJob b_Rows_startJob 3 none] rm_Rows_startJob (hPc κ w_cl w_tl w_tb [.ref x0, .ref x1, .ref x2] h) (hQ κ w_cl (qV Q)) 0 0 (h_A κ) := by
  refine h_enter w_TBm (by decide) (Nat.le_of_ble_eq_true rfl) ?_
  intro p e s m args below meth c C0 hnm hh hS ls hl
  obtain ⟨hx, hb, hml, hown, hts, hK, hF0, hrt, hlocks⟩ := id C0
  have hl : lv_has ls 3 [(0, .ref x0), (1, .ref x1), (2, .ref x2)] := hl
  refine lv_aload_n hx hb d_Rows_startJob_0 rfl (lv_at hl 1 rfl) ?_
  refine lv_aload_n hx hb d_Rows_startJob_1 rfl (lv_at hl 2 rfl) ?_
  obtain ⟨fs29, i32, hr30, hk31, hw⟩ := hw
  refine h_get C0 hh hr30 hk31 rfl i_Job (by decide) k_f_Rows_136 (fun _ h9 => h9) d_Rows_startJob_2 ?_
  obtain ⟨fs33, hr34, hk35, hw⟩ := hw
  refine h_put C0 hh hS (v := .int i32) hr34 hk35 rfl i_Ini t_Ini t_Ini_ok n_Ini (by decide) k_f_Rows_125 (fun _ h9 => h9) rfl rfl rfl rfl d_Rows_startJob_5 (fun H locs hh hS => ?_)
  obtain ⟨h36, eh36⟩ : ∃ z : hM, z = h_up h x1 (eO 3 (fs33.set 2 (.int i32))) := ⟨_, rfl⟩
  rw [← eh36] at hh
  have hw := hw h36 eh36
  refine lv_aload_n hx hb d_Rows_startJob_8 rfl (lv_at hl 2 rfl) ?_
  refine lv_iconst (v := 2) hx hb d_Rows_startJob_9 (by decide) ?_
  obtain ⟨fs37, hr38, hk39, hw⟩ := hw
  refine h_put C0 hh hS (v := .int (2 : Int32)) hr38 hk39 rfl i_Job t_Job t_Job_ok n_Job (by decide) k_f_Rows_119 (fun _ h9 => h9) rfl rfl rfl rfl d_Rows_startJob_10 (fun H locs hh hS => ?_)
  obtain ⟨h40, eh40⟩ : ∃ z : hM, z = h_up h36 x2 (eO 1 (fs37.set 8 (.int (2 : Int32)))) := ⟨_, rfl⟩
  rw [← eh40] at hh
  have hw := hw h40 eh40
  refine lv_aload_n hx hb d_Rows_startJob_13 rfl (lv_at hl 2 rfl) ?_
  refine lv_aload_n hx hb d_Rows_startJob_14 rfl (lv_at hl 0 rfl) ?_
  obtain ⟨fs41, j44, hr42, hk43, hw⟩ := hw
  refine h_get C0 hh hr42 hk43 rfl i_Rows (by decide) k_f_Rows_49 (fun _ h9 => h9) d_Rows_startJob_15 ?_
  obtain ⟨fs45, hr46, hk47, hw⟩ := hw
  refine h_put C0 hh hS (v := .long j44) hr46 hk47 rfl i_Job t_Job t_Job_ok n_Job (by decide) k_f_Rows_164 (fun _ h9 => h9) rfl rfl rfl rfl d_Rows_startJob_18 (fun H locs hh hS => ?_)
  obtain ⟨h48, eh48⟩ : ∃ z : hM, z = h_up h40 x2 (eO 1 (fs45.set 9 (.long j44))) := ⟨_, rfl⟩
  rw [← eh48] at hh
  have hw := hw h48 eh48
  refine lv_aload_n hx hb d_Rows_startJob_21 rfl (lv_at hl 0 rfl) ?_
  obtain ⟨fs49, r52, hr50, hk51, hw⟩ := hw
  refine h_get C0 hh hr50 hk51 rfl i_Rows (by decide) k_f_Rows_38 (fun _ h9 => h9) d_Rows_startJob_22 ?_
  refine lv_aload_n hx hb d_Rows_startJob_25 rfl (lv_at hl 2 rfl) ?_
  obtain ⟨fs53, hr54, hw⟩ := hw
  refine h_callV (n := 1) C0 w_TBm hh hS hl.1 [.ref x2] [] (S_Load_take _ _ _ _ hw) hr54 rfl k_m_Rows_235 k_inst_Load_take k_sel_Load_take k_ini_Load k_code_Load_take (by decide +kernel) rfl rfl (Nat.le_of_ble_eq_true rfl) ⟨(Nat.le_of_ble_eq_true rfl), (Nat.le_of_ble_eq_true rfl)⟩ ⟨(Nat.le_of_ble_eq_true rfl), (Nat.le_of_ble_eq_true rfl)⟩ d_Rows_startJob_26 (h_kV (k := 0) (n := 0) (Nat.le_of_ble_eq_true rfl) (Nat.le_of_ble_eq_true rfl) (fun h55 H locs hw hh hS => ?_))
  exact h_vret C0 hh hS rfl ⟨rfl, hw⟩ d_Rows_startJob_29
set_option maxHeartbeats 4000000 in
set_option maxRecDepth 100000 in
theorem S_Rows_next {l : Launch} {κ : hX} (Q : Int32 → hM → Prop) (h : hM) (x0 : Nat) (x1 : Int32) (x2 : Int64) (hw : P_Rows_next Q h x0 x1 x2) : Met l y_Rows_next [Cond.code y_Rows_next b_Rows_next 6 (some .int)] rm_Rows_next (hPc κ w_cl w_tl w_tb [.ref x0, .int x1, .long x2] h) (hQ κ w_cl (qI Q)) 0 0 (h_A κ) := by
  refine h_enter w_TBm (by decide) (Nat.le_of_ble_eq_true rfl) ?_
  intro p e s m args below meth c C0 hnm hh hS ls hl
  obtain ⟨hx, hb, hml, hown, hts, hK, hF0, hrt, hlocks⟩ := id C0
  have hl : lv_has ls 6 [(0, .ref x0), (1, .int x1), (2, .long x2)] := hl
  refine lv_aload_n hx hb d_Rows_next_0 rfl (lv_at hl 0 rfl) ?_
  refine lv_iload_n hx hb d_Rows_next_1 rfl (lv_at hl 1 rfl) ?_
  obtain ⟨fs40, hr41, hw⟩ := hw
  refine h_callV (n := 1) C0 w_TBm hh hS hl.1 [.int x1] [] (S_Rows_findInitiator _ _ _ _ hw) hr41 rfl k_m_Rows_71 k_inst_Rows_findInitiator k_sel_Rows_findInitiator k_ini_Rows k_code_Rows_findInitiator (by decide +kernel) rfl rfl (Nat.le_of_ble_eq_true rfl) ⟨(Nat.le_of_ble_eq_true rfl), (Nat.le_of_ble_eq_true rfl)⟩ ⟨(Nat.le_of_ble_eq_true rfl), (Nat.le_of_ble_eq_true rfl)⟩ d_Rows_next_2 (h_kO (k := 0) (n := 0) (Nat.le_of_ble_eq_true rfl) (Nat.le_of_ble_eq_true rfl) (fun o43 h42 H locs hw hh hS => ?_))
  refine h_astoreO (lv' := [(4, va_rf o43), (0, .ref x0), (1, .int x1), (2, .long x2)]) hx hb d_Rows_next_5 hl (by decide) rfl (fun ls hl => ?_)
  refine h_aloadO hx hb d_Rows_next_7 (lv_at hl 0 rfl) ?_
  rcases o43 with _ | a45
  · have hw := hw.1 rfl
    have hl : lv_has ls 6 [(4, .null), (0, .ref x0), (1, .int x1), (2, .long x2)] := hl
    refine lv_ifnonnullN hx hb d_Rows_next_9 ?_
    refine lv_bipush (v := -2) hx hb d_Rows_next_12 (by decide) ?_
    exact h_iret C0 hh hS rfl rfl ⟨_, rfl, hw⟩ d_Rows_next_14
  · have hw := hw.2 a45 rfl
    have hl : lv_has ls 6 [(4, .ref a45), (0, .ref x0), (1, .int x1), (2, .long x2)] := hl
    refine lv_ifnonnull (tgt := 15) hx hb d_Rows_next_9 (by decide) ?_
    refine lv_lload_n hx hb d_Rows_next_15 rfl (lv_at hl 3 rfl) ?_
    refine lv_aload_n hx hb d_Rows_next_16 rfl (lv_at hl 1 rfl) ?_
    obtain ⟨fs46, j49, hr47, hk48, hw⟩ := hw
    refine h_get C0 hh hr47 hk48 rfl i_Rows (by decide) k_f_Rows_49 (fun _ h9 => h9) d_Rows_next_17 ?_
    refine W.lcmp hx hb d_Rows_next_20 ?_
    refine lv_if_ge (tgt := 27) hx hb d_Rows_next_21 (by decide) (fun c50 => ?_) (fun c50 => ?_)
    · have hw := hw.1 ((lg_cmp_ge _ _).mp c50)
      refine lv_aload hx hb d_Rows_next_27 (lv_at hl 0 rfl) ?_
      obtain ⟨fs51, i54, hr52, hk53, hw⟩ := hw
      refine h_get C0 hh hr52 hk53 rfl i_Ini (by decide) k_f_Rows_122 (fun _ h9 => h9) d_Rows_next_29 ?_
      refine lv_if_ne (tgt := 43) hx hb d_Rows_next_32 (by decide) (fun c55 => ?_) (fun c55 => ?_)
      · have hw := hw.1 c55
        refine lv_bipush (v := -5) hx hb d_Rows_next_43 (by decide) ?_
        exact h_iret C0 hh hS rfl rfl ⟨_, rfl, hw⟩ d_Rows_next_45
      · have hw := hw.2 c55
        refine lv_aload hx hb d_Rows_next_35 (lv_at hl 0 rfl) ?_
        obtain ⟨fs56, i59, hr57, hk58, hw⟩ := hw
        refine h_get C0 hh hr57 hk58 rfl i_Ini (by decide) k_f_Rows_125 (fun _ h9 => h9) d_Rows_next_37 ?_
        refine lv_if_eq (tgt := 46) hx hb d_Rows_next_40 (by decide) (fun c60 => ?_) (fun c60 => ?_)
        · have hw := hw.1 c60
          refine lv_aload_n hx hb d_Rows_next_46 rfl (lv_at hl 1 rfl) ?_
          refine lv_lload_n hx hb d_Rows_next_47 rfl (lv_at hl 3 rfl) ?_
          obtain ⟨fs61, hr62, hk63, hw⟩ := hw
          refine h_put C0 hh hS (v := .long x2) hr62 hk63 rfl i_Rows t_Rows t_Rows_ok n_Rows (by decide) k_f_Rows_49 (fun _ h9 => h9) rfl rfl rfl rfl d_Rows_next_48 (fun H locs hh hS => ?_)
          obtain ⟨h64, eh64⟩ : ∃ z : hM, z = h_up h42 x0 (eO 0 (fs61.set 9 (.long x2))) := ⟨_, rfl⟩
          rw [← eh64] at hh
          have hw := hw h64 eh64
          refine lv_aload_n hx hb d_Rows_next_51 rfl (lv_at hl 1 rfl) ?_
          refine lv_aload hx hb d_Rows_next_52 (lv_at hl 0 rfl) ?_
          obtain ⟨fs65, hr66, hw⟩ := hw
          refine h_callV (n := 1) C0 w_TBm hh hS hl.1 [.ref a45] [] (S_Rows_nextFor _ _ _ _ hw) hr66 rfl k_m_Rows_128 k_inst_Rows_nextFor k_sel_Rows_nextFor k_ini_Rows k_code_Rows_nextFor (by decide +kernel) rfl rfl (Nat.le_of_ble_eq_true rfl) ⟨(Nat.le_of_ble_eq_true rfl), (Nat.le_of_ble_eq_true rfl)⟩ ⟨(Nat.le_of_ble_eq_true rfl), (Nat.le_of_ble_eq_true rfl)⟩ d_Rows_next_54 (h_kO (k := 0) (n := 0) (Nat.le_of_ble_eq_true rfl) (Nat.le_of_ble_eq_true rfl) (fun o68 h67 H locs hw hh hS => ?_))
          refine h_astoreO (lv' := [(5, va_rf o68), (4, .ref a45), (0, .ref x0), (1, .int x1), (2, .long x2)]) hx hb d_Rows_next_57 hl (by decide) rfl (fun ls hl => ?_)
          refine h_aloadO hx hb d_Rows_next_59 (lv_at hl 0 rfl) ?_
          rcases o68 with _ | a70
          · have hw := hw.1 rfl
            have hl : lv_has ls 6 [(5, .null), (4, .ref a45), (0, .ref x0), (1, .int x1), (2, .long x2)] := hl
            refine lv_ifnonnullN hx hb d_Rows_next_61 ?_
            refine lv_iconst (v := 0) hx hb d_Rows_next_64 (by decide) ?_
            exact h_iret C0 hh hS rfl rfl ⟨_, rfl, hw⟩ d_Rows_next_65
          · have hw := hw.2 a70 rfl
            have hl : lv_has ls 6 [(5, .ref a70), (4, .ref a45), (0, .ref x0), (1, .int x1), (2, .long x2)] := hl
            refine lv_ifnonnull (tgt := 66) hx hb d_Rows_next_61 (by decide) ?_
            refine lv_aload_n hx hb d_Rows_next_66 rfl (lv_at hl 2 rfl) ?_
            refine lv_aload hx hb d_Rows_next_67 (lv_at hl 1 rfl) ?_
            refine lv_aload hx hb d_Rows_next_69 (lv_at hl 0 rfl) ?_
            obtain ⟨fs71, hr72, hw⟩ := hw
            refine h_callV (n := 2) C0 w_TBm hh hS hl.1 [.ref a45, .ref a70] [] (S_Rows_startJob _ _ _ _ _ hw) hr72 rfl k_m_Rows_132 k_inst_Rows_startJob k_sel_Rows_startJob k_ini_Rows k_code_Rows_startJob (by decide +kernel) rfl rfl (Nat.le_of_ble_eq_true rfl) ⟨(Nat.le_of_ble_eq_true rfl), (Nat.le_of_ble_eq_true rfl)⟩ ⟨(Nat.le_of_ble_eq_true rfl), (Nat.le_of_ble_eq_true rfl)⟩ d_Rows_next_71 (h_kV (k := 0) (n := 0) (Nat.le_of_ble_eq_true rfl) (Nat.le_of_ble_eq_true rfl) (fun h73 H locs hw hh hS => ?_))
            refine lv_aload hx hb d_Rows_next_74 (lv_at hl 0 rfl) ?_
            obtain ⟨fs75, i78, hr76, hk77, hw⟩ := hw
            refine h_get C0 hh hr76 hk77 rfl i_Job (by decide) k_f_Rows_136 (fun _ h9 => h9) d_Rows_next_76 ?_
            exact h_iret C0 hh hS rfl rfl ⟨_, rfl, hw⟩ d_Rows_next_79
        · have hw := hw.2 c60
          refine lv_bipush (v := -5) hx hb d_Rows_next_43 (by decide) ?_
          exact h_iret C0 hh hS rfl rfl ⟨_, rfl, hw⟩ d_Rows_next_45
    · have hw := hw.2 (fun z => c50 ((lg_cmp_ge _ _).mpr z))
      refine lv_bipush (v := -4) hx hb d_Rows_next_24 (by decide) ?_
      exact h_iret C0 hh hS rfl rfl ⟨_, rfl, hw⟩ d_Rows_next_26
set_option maxHeartbeats 4000000 in
set_option maxRecDepth 100000 in
theorem S_Rows_stopJob_41 {p : Program} {l : Launch} {e : Env} {s : State} {m : MethodId} {args : Array Value} {below : List Frame} {meth : Method} {c : Code} {κ : hX} {Q : hM → Prop} {K2 : hM → Nat → Nat → Int32 → Prop} (C0 : Cw κ w_cl w_tl w_tb p s m args meth c b_Rows_stopJob 4 R_Rows none) (hK2 : ∀ (h : hM) (x0 : Nat) (x1 : Nat) (x2 : Int32) (H : Heap) (locs : List Loc) (ls : Array Slot), K2 h x0 x1 x2 → hp κ w_cl h H → va_S (h_A κ) s.heap H locs → lv_has ls 4 [(0, .ref x0), (1, .ref x1), (2, .int x2)] → W p l e rm_Rows_stopJob s m args below meth c H locs 0 0 (MQ below (hQ κ w_cl (qV Q)) args s 0 0 (h_A κ)) (F0 m 2 ls [])) : ∀ (h : hM) (x0 : Nat) (x1 : Nat) (x2 : Int32) (H : Heap) (locs : List Loc) (ls : Array Slot), P_Rows_stopJob_41 Q K2 h x0 x1 x2 → hp κ w_cl h H → va_S (h_A κ) s.heap H locs → lv_has ls 4 [(0, .ref x0), (1, .ref x1), (2, .int x2)] → W p l e rm_Rows_stopJob s m args below meth c H locs 0 0 (MQ below (hQ κ w_cl (qV Q)) args s 0 0 (h_A κ)) (F0 m 41 ls []) := by
  obtain ⟨hx, hb, hml, hown, hts, hK, hF0, hrt, hlocks⟩ := id C0
  intro h x0 x1 x2 H locs ls hw hh hS hl
  obtain ⟨x2_117, ex2_117⟩ : ∃ z : Int32, z = x2 + 1 := ⟨_, rfl⟩
  have hw := hw x2_117 ex2_117
  refine lv_iinc (v := x2_117) (lv' := [(2, .int x2_117), (0, .ref x0), (1, .ref x1)]) hx hb d_Rows_stopJob_41 hl (k := 2) rfl (by rw [ex2_117]; rfl) (by decide) rfl (fun ls hl => ?_)
  refine lv_goto (tgt := 2) hx hb d_Rows_stopJob_44 (by decide) ?_
  exact hK2 _ _ _ _ _ _ _ hw hh hS (lv_sub hl [1, 2, 0] rfl)
set_option maxHeartbeats 4000000 in
set_option maxRecDepth 100000 in
theorem S_Rows_stopJob_2 {p : Program} {l : Launch} {e : Env} {s : State} {m : MethodId} {args : Array Value} {below : List Frame} {meth : Method} {c : Code} {κ : hX} {Q : hM → Prop} (C0 : Cw κ w_cl w_tl w_tb p s m args meth c b_Rows_stopJob 4 R_Rows none) : ∀ (n : Nat) (h : hM) (x0 : Nat) (x1 : Nat) (x2 : Int32) (H : Heap) (locs : List Loc) (ls : Array Slot), L_Rows_stopJob_2 Q n h x0 x1 x2 → hp κ w_cl h H → va_S (h_A κ) s.heap H locs → lv_has ls 4 [(0, .ref x0), (1, .ref x1), (2, .int x2)] → W p l e rm_Rows_stopJob s m args below meth c H locs 0 0 (MQ below (hQ κ w_cl (qV Q)) args s 0 0 (h_A κ)) (F0 m 2 ls []) := by
  obtain ⟨hx, hb, hml, hown, hts, hK, hF0, hrt, hlocks⟩ := id C0
  intro n
  induction n with
  | zero =>
    intro h x0 x1 x2 H locs ls hw
    exact hw.elim
  | succ n hK2 =>
    intro h x0 x1 x2 H locs ls hw hh hS hl
    have hw : P_Rows_stopJob_2 Q (L_Rows_stopJob_2 Q n) h x0 x1 x2 := hw
    refine lv_iload_n hx hb d_Rows_stopJob_2 rfl (lv_at hl 2 rfl) ?_
    refine lv_aload_n hx hb d_Rows_stopJob_3 rfl (lv_at hl 0 rfl) ?_
    obtain ⟨fs118, r121, hr119, hk120, hw⟩ := hw
    refine h_get C0 hh hr119 hk120 rfl i_Rows (by decide) k_f_Rows_10 (fun _ h9 => h9) d_Rows_stopJob_4 ?_
    obtain ⟨fs122, hr123, hw⟩ := hw
    refine h_callV (n := 0) C0 w_TBm hh hS hl.1 [] [.int x2] (S_AL_size _ _ _ hw) hr123 rfl k_m_Rows_60 k_inst_AL_size k_sel_AL_size k_ini_AL k_code_AL_size (by decide +kernel) rfl rfl (Nat.le_of_ble_eq_true rfl) ⟨(Nat.le_of_ble_eq_true rfl), (Nat.le_of_ble_eq_true rfl)⟩ ⟨(Nat.le_of_ble_eq_true rfl), (Nat.le_of_ble_eq_true rfl)⟩ d_Rows_stopJob_7 (h_kI (k := 0) (n := 0) (Nat.le_of_ble_eq_true rfl) (Nat.le_of_ble_eq_true rfl) (fun i125 h124 H locs hw hh hS => ?_))
    refine lv_icmp_ge (tgt := 47) hx hb d_Rows_stopJob_10 (by decide) (fun c126 => ?_) (fun c126 => ?_)
    · have hw := hw.1 c126
      refine lv_aload_n hx hb d_Rows_stopJob_47 rfl (lv_at hl 1 rfl) ?_
      refine lv_iconst (v := 3) hx hb d_Rows_stopJob_48 (by decide) ?_
      obtain ⟨fs127, hr128, hk129, hw⟩ := hw
      refine h_put C0 hh hS (v := .int (3 : Int32)) hr128 hk129 rfl i_Job t_Job t_Job_ok n_Job (by decide) k_f_Rows_119 (fun _ h9 => h9) rfl rfl rfl rfl d_Rows_stopJob_49 (fun H locs hh hS => ?_)
      obtain ⟨h130, eh130⟩ : ∃ z : hM, z = h_up h124 x1 (eO 1 (fs127.set 8 (.int (3 : Int32)))) := ⟨_, rfl⟩
      rw [← eh130] at hh
      have hw := hw h130 eh130
      refine lv_aload_n hx hb d_Rows_stopJob_52 rfl (lv_at hl 0 rfl) ?_
      obtain ⟨fs131, r134, hr132, hk133, hw⟩ := hw
      refine h_get C0 hh hr132 hk133 rfl i_Rows (by decide) k_f_Rows_45 (fun _ h9 => h9) d_Rows_stopJob_53 ?_
      refine lv_aload_n hx hb d_Rows_stopJob_56 rfl (lv_at hl 1 rfl) ?_
      obtain ⟨fs135, i138, hr136, hk137, hw⟩ := hw
      refine h_get C0 hh hr136 hk137 rfl i_Job (by decide) k_f_Rows_136 (fun _ h9 => h9) d_Rows_stopJob_57 ?_
      obtain ⟨fs139, hr140, hw⟩ := hw
      refine h_callV (n := 1) C0 w_TBm hh hS hl.1 [.int i138] [] (S_NS_put _ _ _ _ hw) hr140 rfl k_m_Rows_183 k_inst_NS_put k_sel_NS_put k_ini_NS k_code_NS_put (by decide +kernel) rfl rfl (Nat.le_of_ble_eq_true rfl) ⟨(Nat.le_of_ble_eq_true rfl), (Nat.le_of_ble_eq_true rfl)⟩ ⟨(Nat.le_of_ble_eq_true rfl), (Nat.le_of_ble_eq_true rfl)⟩ d_Rows_stopJob_60 (h_kV (k := 0) (n := 0) (Nat.le_of_ble_eq_true rfl) (Nat.le_of_ble_eq_true rfl) (fun h141 H locs hw hh hS => ?_))
      refine lv_aload_n hx hb d_Rows_stopJob_63 rfl (lv_at hl 0 rfl) ?_
      obtain ⟨fs143, r146, hr144, hk145, hw⟩ := hw
      refine h_get C0 hh hr144 hk145 rfl i_Rows (by decide) k_f_Rows_38 (fun _ h9 => h9) d_Rows_stopJob_64 ?_
      refine lv_aload_n hx hb d_Rows_stopJob_67 rfl (lv_at hl 1 rfl) ?_
      obtain ⟨fs147, hr148, hw⟩ := hw
      refine h_callV (n := 1) C0 w_TBm hh hS hl.1 [.ref x1] [] (S_Load_release _ _ _ _ hw) hr148 rfl k_m_Rows_238 k_inst_Load_release k_sel_Load_release k_ini_Load k_code_Load_release (by decide +kernel) rfl rfl (Nat.le_of_ble_eq_true rfl) ⟨(Nat.le_of_ble_eq_true rfl), (Nat.le_of_ble_eq_true rfl)⟩ ⟨(Nat.le_of_ble_eq_true rfl), (Nat.le_of_ble_eq_true rfl)⟩ d_Rows_stopJob_68 (h_kV (k := 0) (n := 0) (Nat.le_of_ble_eq_true rfl) (Nat.le_of_ble_eq_true rfl) (fun h149 H locs hw hh hS => ?_))
      exact h_vret C0 hh hS rfl ⟨rfl, hw⟩ d_Rows_stopJob_71
    · have hw := hw.2 c126
      refine lv_aload_n hx hb d_Rows_stopJob_13 rfl (lv_at hl 0 rfl) ?_
      obtain ⟨fs151, r154, hr152, hk153, hw⟩ := hw
      refine h_get C0 hh hr152 hk153 rfl i_Rows (by decide) k_f_Rows_10 (fun _ h9 => h9) d_Rows_stopJob_14 ?_
      refine lv_iload_n hx hb d_Rows_stopJob_17 rfl (lv_at hl 2 rfl) ?_
      obtain ⟨fs155, hr156, hw⟩ := hw
      refine h_callV (n := 1) C0 w_TBm hh hS hl.1 [.int x2] [] (S_AL_get _ _ _ _ hw) hr156 rfl k_m_Rows_156 k_inst_AL_get k_sel_AL_get k_ini_AL k_code_AL_get (by decide +kernel) rfl rfl (Nat.le_of_ble_eq_true rfl) ⟨(Nat.le_of_ble_eq_true rfl), (Nat.le_of_ble_eq_true rfl)⟩ ⟨(Nat.le_of_ble_eq_true rfl), (Nat.le_of_ble_eq_true rfl)⟩ d_Rows_stopJob_18 (h_kO (k := 0) (n := 0) (Nat.le_of_ble_eq_true rfl) (Nat.le_of_ble_eq_true rfl) (fun o158 h157 H locs hw hh hS => ?_))
      rcases o158 with _ | a159
      · have hw := hw.1 rfl
        have hl : lv_has ls 4 [(0, .ref x0), (1, .ref x1), (2, .int x2)] := hl
        refine lv_castN hx hb d_Rows_stopJob_21 ?_
        refine lv_astore_nN (lv' := [(3, .null), (0, .ref x0), (1, .ref x1), (2, .int x2)]) hx hb d_Rows_stopJob_24 rfl hl (by decide) rfl (fun ls hl => ?_)
        refine lv_aload_nN hx hb d_Rows_stopJob_25 rfl (lv_at hl 0 rfl) ?_
        exact hw.elim
      · have hw := hw.2 a159 rfl
        have hl : lv_has ls 4 [(0, .ref x0), (1, .ref x1), (2, .int x2)] := hl
        obtain ⟨⟨fs160, hr161⟩, hw⟩ := hw
        refine h_cast C0 hh hr161 rfl k_c_Rows_64 d_Rows_stopJob_21 ?_
        refine lv_astore_n (lv' := [(3, .ref a159), (0, .ref x0), (1, .ref x1), (2, .int x2)]) hx hb d_Rows_stopJob_24 rfl hl (by decide) rfl (fun ls hl => ?_)
        refine lv_aload_n hx hb d_Rows_stopJob_25 rfl (lv_at hl 0 rfl) ?_
        obtain ⟨fs162, i165, hr163, hk164, hw⟩ := hw
        refine h_get C0 hh hr163 hk164 rfl i_Ini (by decide) k_f_Rows_125 (fun _ h9 => h9) d_Rows_stopJob_26 ?_
        refine lv_aload_n hx hb d_Rows_stopJob_29 rfl (lv_at hl 2 rfl) ?_
        obtain ⟨fs166, i169, hr167, hk168, hw⟩ := hw
        refine h_get C0 hh hr167 hk168 rfl i_Job (by decide) k_f_Rows_136 (fun _ h9 => h9) d_Rows_stopJob_30 ?_
        refine lv_icmp_ne (tgt := 41) hx hb d_Rows_stopJob_33 (by decide) (fun c170 => ?_) (fun c170 => ?_)
        · have hw := hw.1 c170
          exact S_Rows_stopJob_41 C0 hK2 _ _ _ _ _ _ _ hw hh hS (lv_sub hl [1, 2, 3] rfl)
        · have hw := hw.2 c170
          refine lv_aload_n hx hb d_Rows_stopJob_36 rfl (lv_at hl 0 rfl) ?_
          refine lv_iconst (v := 0) hx hb d_Rows_stopJob_37 (by decide) ?_
          obtain ⟨fs171, hr172, hk173, hw⟩ := hw
          refine h_put C0 hh hS (v := .int (0 : Int32)) hr172 hk173 rfl i_Ini t_Ini t_Ini_ok n_Ini (by decide) k_f_Rows_125 (fun _ h9 => h9) rfl rfl rfl rfl d_Rows_stopJob_38 (fun H locs hh hS => ?_)
          obtain ⟨h174, eh174⟩ : ∃ z : hM, z = h_up h157 a159 (eO 3 (fs171.set 2 (.int (0 : Int32)))) := ⟨_, rfl⟩
          rw [← eh174] at hh
          have hw := hw h174 eh174
          exact S_Rows_stopJob_41 C0 hK2 _ _ _ _ _ _ _ hw hh hS (lv_sub hl [1, 2, 3] rfl)
set_option maxHeartbeats 4000000 in
set_option maxRecDepth 100000 in
theorem S_Rows_stopJob {l : Launch} {κ : hX} (Q : hM → Prop) (h : hM) (x0 : Nat) (x1 : Nat) (hw : P_Rows_stopJob Q h x0 x1) : Met l y_Rows_stopJob [Cond.code y_Rows_stopJob b_Rows_stopJob 4 none] rm_Rows_stopJob (hPc κ w_cl w_tl w_tb [.ref x0, .ref x1] h) (hQ κ w_cl (qV Q)) 0 0 (h_A κ) := by
  refine h_enter w_TBm (by decide) (Nat.le_of_ble_eq_true rfl) ?_
  intro p e s m args below meth c C0 hnm hh hS ls hl
  obtain ⟨hx, hb, hml, hown, hts, hK, hF0, hrt, hlocks⟩ := id C0
  have hl : lv_has ls 4 [(0, .ref x0), (1, .ref x1)] := hl
  refine lv_iconst (v := 0) hx hb d_Rows_stopJob_0 (by decide) ?_
  refine lv_istore_n (lv' := [(2, .int (0 : Int32)), (0, .ref x0), (1, .ref x1)]) hx hb d_Rows_stopJob_1 rfl hl (by decide) rfl (fun ls hl => ?_)
  obtain ⟨n0, hw⟩ := hw
  exact S_Rows_stopJob_2 C0 n0 _ _ _ _ _ _ _ hw hh hS (lv_sub hl [1, 2, 0] rfl)
set_option maxHeartbeats 4000000 in
set_option maxRecDepth 100000 in
theorem S_Rows_end {l : Launch} {κ : hX} (Q : Int32 → hM → Prop) (h : hM) (x0 : Nat) (x1 : Int32) (hw : P_Rows_end Q h x0 x1) : Met l y_Rows_end [Cond.code y_Rows_end b_Rows_end 3 (some .int)] rm_Rows_end (hPc κ w_cl w_tl w_tb [.ref x0, .int x1] h) (hQ κ w_cl (qI Q)) 0 0 (h_A κ) := by
  refine h_enter w_TBm (by decide) (Nat.le_of_ble_eq_true rfl) ?_
  intro p e s m args below meth c C0 hnm hh hS ls hl
  obtain ⟨hx, hb, hml, hown, hts, hK, hF0, hrt, hlocks⟩ := id C0
  have hl : lv_has ls 3 [(0, .ref x0), (1, .int x1)] := hl
  refine lv_aload_n hx hb d_Rows_end_0 rfl (lv_at hl 0 rfl) ?_
  refine lv_iload_n hx hb d_Rows_end_1 rfl (lv_at hl 1 rfl) ?_
  obtain ⟨fs16, hr17, hw⟩ := hw
  refine h_callV (n := 1) C0 w_TBm hh hS hl.1 [.int x1] [] (S_Rows_findJob _ _ _ _ hw) hr17 rfl k_m_Rows_91 k_inst_Rows_findJob k_sel_Rows_findJob k_ini_Rows k_code_Rows_findJob (by decide +kernel) rfl rfl (Nat.le_of_ble_eq_true rfl) ⟨(Nat.le_of_ble_eq_true rfl), (Nat.le_of_ble_eq_true rfl)⟩ ⟨(Nat.le_of_ble_eq_true rfl), (Nat.le_of_ble_eq_true rfl)⟩ d_Rows_end_2 (h_kO (k := 0) (n := 0) (Nat.le_of_ble_eq_true rfl) (Nat.le_of_ble_eq_true rfl) (fun o19 h18 H locs hw hh hS => ?_))
  refine h_astore_nO (lv' := [(2, va_rf o19), (0, .ref x0), (1, .int x1)]) hx hb d_Rows_end_5 rfl hl (by decide) rfl (fun ls hl => ?_)
  refine h_aload_nO hx hb d_Rows_end_6 rfl (lv_at hl 0 rfl) ?_
  rcases o19 with _ | a21
  · have hw := hw.1 rfl
    have hl : lv_has ls 3 [(2, .null), (0, .ref x0), (1, .int x1)] := hl
    refine lv_ifnonnullN hx hb d_Rows_end_7 ?_
    refine lv_bipush (v := -2) hx hb d_Rows_end_10 (by decide) ?_
    exact h_iret C0 hh hS rfl rfl ⟨_, rfl, hw⟩ d_Rows_end_12
  · have hw := hw.2 a21 rfl
    have hl : lv_has ls 3 [(2, .ref a21), (0, .ref x0), (1, .int x1)] := hl
    refine lv_ifnonnull (tgt := 13) hx hb d_Rows_end_7 (by decide) ?_
    refine lv_aload_n hx hb d_Rows_end_13 rfl (lv_at hl 0 rfl) ?_
    obtain ⟨fs22, i25, hr23, hk24, hw⟩ := hw
    refine h_get C0 hh hr23 hk24 rfl i_Job (by decide) k_f_Rows_119 (fun _ h9 => h9) d_Rows_end_14 ?_
    refine lv_iconst (v := 2) hx hb d_Rows_end_17 (by decide) ?_
    refine lv_icmp_eq (tgt := 24) hx hb d_Rows_end_18 (by decide) (fun c26 => ?_) (fun c26 => ?_)
    · have hw := hw.1 c26
      refine lv_aload_n hx hb d_Rows_end_24 rfl (lv_at hl 1 rfl) ?_
      refine lv_aload_n hx hb d_Rows_end_25 rfl (lv_at hl 0 rfl) ?_
      obtain ⟨fs27, hr28, hw⟩ := hw
      refine h_callV (n := 1) C0 w_TBm hh hS hl.1 [.ref a21] [] (S_Rows_stopJob _ _ _ _ hw) hr28 rfl k_m_Rows_139 k_inst_Rows_stopJob k_sel_Rows_stopJob k_ini_Rows k_code_Rows_stopJob (by decide +kernel) rfl rfl (Nat.le_of_ble_eq_true rfl) ⟨(Nat.le_of_ble_eq_true rfl), (Nat.le_of_ble_eq_true rfl)⟩ ⟨(Nat.le_of_ble_eq_true rfl), (Nat.le_of_ble_eq_true rfl)⟩ d_Rows_end_26 (h_kV (k := 0) (n := 0) (Nat.le_of_ble_eq_true rfl) (Nat.le_of_ble_eq_true rfl) (fun h29 H locs hw hh hS => ?_))
      refine lv_iconst (v := 1) hx hb d_Rows_end_29 (by decide) ?_
      exact h_iret C0 hh hS rfl rfl ⟨_, rfl, hw⟩ d_Rows_end_30
    · have hw := hw.2 c26
      refine lv_bipush (v := -5) hx hb d_Rows_end_21 (by decide) ?_
      exact h_iret C0 hh hS rfl rfl ⟨_, rfl, hw⟩ d_Rows_end_23
set_option maxHeartbeats 4000000 in
set_option maxRecDepth 100000 in
theorem S_Rows_age {l : Launch} {κ : hX} (Q : Int32 → hM → Prop) (h : hM) (x0 : Nat) (x1 : Int64) (x3 : Int32) (hw : P_Rows_age Q h x0 x1 x3) : Met l y_Rows_age [Cond.code y_Rows_age b_Rows_age 4 (some .int)] rm_Rows_age (hPc κ w_cl w_tl w_tb [.ref x0, .long x1, .int x3] h) (hQ κ w_cl (qI Q)) 0 0 (h_A κ) := by
  refine h_enter w_TBm (by decide) (Nat.le_of_ble_eq_true rfl) ?_
  intro p e s m args below meth c C0 hnm hh hS ls hl
  obtain ⟨hx, hb, hml, hown, hts, hK, hF0, hrt, hlocks⟩ := id C0
  have hl : lv_has ls 4 [(0, .ref x0), (1, .long x1), (3, .int x3)] := hl
  refine lv_lload_n hx hb d_Rows_age_0 rfl (lv_at hl 1 rfl) ?_
  refine lv_lconst (v := 0) hx hb d_Rows_age_1 (by decide) ?_
  refine W.lcmp hx hb d_Rows_age_2 ?_
  refine lv_if_lt (tgt := 16) hx hb d_Rows_age_3 (by decide) (fun c13 => ?_) (fun c13 => ?_)
  · have hw := hw.1 ((lg_cmp_lt _ _).mp c13)
    refine lv_bipush (v := -4) hx hb d_Rows_age_16 (by decide) ?_
    exact h_iret C0 hh hS rfl rfl ⟨_, rfl, hw⟩ d_Rows_age_18
  · have hw := hw.2 (fun z => c13 ((lg_cmp_lt _ _).mpr z))
    refine lv_iload_n hx hb d_Rows_age_6 rfl (lv_at hl 2 rfl) ?_
    refine lv_iconst (v := 0) hx hb d_Rows_age_7 (by decide) ?_
    refine lv_bipush (v := 15) hx hb d_Rows_age_8 (by decide) ?_
    refine h_callS (n := 3) C0 w_TBm hh hS hl.1 [.int x3, .int (0 : Int32), .int (15 : Int32)] [] (S_Rows_isIn _ _ _ _ _ hw) k_m_Rows_75 k_stat_Rows_isIn k_ini_Rows k_code_Rows_isIn (by decide +kernel) rfl rfl (Nat.le_of_ble_eq_true rfl) ⟨(Nat.le_of_ble_eq_true rfl), (Nat.le_of_ble_eq_true rfl)⟩ ⟨(Nat.le_of_ble_eq_true rfl), (Nat.le_of_ble_eq_true rfl)⟩ d_Rows_age_10 (h_kI (k := 0) (n := 0) (Nat.le_of_ble_eq_true rfl) (Nat.le_of_ble_eq_true rfl) (fun i15 h14 H locs hw hh hS => ?_))
    refine lv_if_ne (tgt := 19) hx hb d_Rows_age_13 (by decide) (fun c16 => ?_) (fun c16 => ?_)
    · have hw := hw.1 c16
      refine lv_aload_n hx hb d_Rows_age_19 rfl (lv_at hl 0 rfl) ?_
      refine lv_lload_n hx hb d_Rows_age_20 rfl (lv_at hl 1 rfl) ?_
      obtain ⟨fs17, hr18, hk19, hw⟩ := hw
      refine h_put C0 hh hS (v := .long x1) hr18 hk19 rfl i_Rows t_Rows t_Rows_ok n_Rows (by decide) k_f_Rows_53 (fun _ h9 => h9) rfl rfl rfl rfl d_Rows_age_21 (fun H locs hh hS => ?_)
      obtain ⟨h20, eh20⟩ : ∃ z : hM, z = h_up h14 x0 (eO 0 (fs17.set 10 (.long x1))) := ⟨_, rfl⟩
      rw [← eh20] at hh
      have hw := hw h20 eh20
      refine lv_aload_n hx hb d_Rows_age_24 rfl (lv_at hl 0 rfl) ?_
      refine lv_iload_n hx hb d_Rows_age_25 rfl (lv_at hl 2 rfl) ?_
      obtain ⟨fs21, hr22, hk23, hw⟩ := hw
      refine h_put C0 hh hS (v := .int x3) hr22 hk23 rfl i_Rows t_Rows t_Rows_ok n_Rows (by decide) k_f_Rows_56 (fun _ h9 => h9) rfl rfl rfl rfl d_Rows_age_26 (fun H locs hh hS => ?_)
      obtain ⟨h24, eh24⟩ : ∃ z : hM, z = h_up h20 x0 (eO 0 (fs21.set 11 (.int x3))) := ⟨_, rfl⟩
      rw [← eh24] at hh
      have hw := hw h24 eh24
      refine lv_iconst (v := 1) hx hb d_Rows_age_29 (by decide) ?_
      exact h_iret C0 hh hS rfl rfl ⟨_, rfl, hw⟩ d_Rows_age_30
    · have hw := hw.2 c16
      refine lv_bipush (v := -4) hx hb d_Rows_age_16 (by decide) ?_
      exact h_iret C0 hh hS rfl rfl ⟨_, rfl, hw⟩ d_Rows_age_18
set_option maxHeartbeats 4000000 in
set_option maxRecDepth 100000 in
theorem S_Rows_drain {l : Launch} {κ : hX} (Q : Int32 → hM → Prop) (h : hM) (x0 : Nat) (x1 : Int32) (x2 : Int32) (hw : P_Rows_drain Q h x0 x1 x2) : Met l y_Rows_drain [Cond.code y_Rows_drain b_Rows_drain 4 (some .int)] rm_Rows_drain (hPc κ w_cl w_tl w_tb [.ref x0, .int x1, .int x2] h) (hQ κ w_cl (qI Q)) 0 0 (h_A κ) := by
  refine h_enter w_TBm (by decide) (Nat.le_of_ble_eq_true rfl) ?_
  intro p e s m args below meth c C0 hnm hh hS ls hl
  obtain ⟨hx, hb, hml, hown, hts, hK, hF0, hrt, hlocks⟩ := id C0
  have hl : lv_has ls 4 [(0, .ref x0), (1, .int x1), (2, .int x2)] := hl
  refine lv_aload_n hx hb d_Rows_drain_0 rfl (lv_at hl 0 rfl) ?_
  refine lv_iload_n hx hb d_Rows_drain_1 rfl (lv_at hl 1 rfl) ?_
  obtain ⟨fs16, hr17, hw⟩ := hw
  refine h_callV (n := 1) C0 w_TBm hh hS hl.1 [.int x1] [] (S_Rows_findInitiator _ _ _ _ hw) hr17 rfl k_m_Rows_71 k_inst_Rows_findInitiator k_sel_Rows_findInitiator k_ini_Rows k_code_Rows_findInitiator (by decide +kernel) rfl rfl (Nat.le_of_ble_eq_true rfl) ⟨(Nat.le_of_ble_eq_true rfl), (Nat.le_of_ble_eq_true rfl)⟩ ⟨(Nat.le_of_ble_eq_true rfl), (Nat.le_of_ble_eq_true rfl)⟩ d_Rows_drain_2 (h_kO (k := 0) (n := 0) (Nat.le_of_ble_eq_true rfl) (Nat.le_of_ble_eq_true rfl) (fun o19 h18 H locs hw hh hS => ?_))
  refine h_astore_nO (lv' := [(3, va_rf o19), (0, .ref x0), (1, .int x1), (2, .int x2)]) hx hb d_Rows_drain_5 rfl hl (by decide) rfl (fun ls hl => ?_)
  refine h_aload_nO hx hb d_Rows_drain_6 rfl (lv_at hl 0 rfl) ?_
  rcases o19 with _ | a21
  · have hw := hw.1 rfl
    have hl : lv_has ls 4 [(3, .null), (0, .ref x0), (1, .int x1), (2, .int x2)] := hl
    refine lv_ifnonnullN hx hb d_Rows_drain_7 ?_
    refine lv_bipush (v := -2) hx hb d_Rows_drain_10 (by decide) ?_
    exact h_iret C0 hh hS rfl rfl ⟨_, rfl, hw⟩ d_Rows_drain_12
  · have hw := hw.2 a21 rfl
    have hl : lv_has ls 4 [(3, .ref a21), (0, .ref x0), (1, .int x1), (2, .int x2)] := hl
    refine lv_ifnonnull (tgt := 13) hx hb d_Rows_drain_7 (by decide) ?_
    refine lv_aload_n hx hb d_Rows_drain_13 rfl (lv_at hl 0 rfl) ?_
    obtain ⟨fs22, i25, hr23, hk24, hw⟩ := hw
    refine h_get C0 hh hr23 hk24 rfl i_Ini (by decide) k_f_Rows_122 (fun _ h9 => h9) d_Rows_drain_14 ?_
    refine lv_iload_n hx hb d_Rows_drain_17 rfl (lv_at hl 3 rfl) ?_
    refine lv_icmp_ne (tgt := 23) hx hb d_Rows_drain_18 (by decide) (fun c26 => ?_) (fun c26 => ?_)
    · have hw := hw.1 c26
      refine lv_aload_n hx hb d_Rows_drain_23 rfl (lv_at hl 0 rfl) ?_
      refine lv_iload_n hx hb d_Rows_drain_24 rfl (lv_at hl 3 rfl) ?_
      obtain ⟨hz9, hw⟩ := hw
      obtain ⟨fs27, hr28, hk29, hw⟩ := hw
      refine h_put C0 hh hS (v := .int x2) hr28 hk29 rfl i_Ini t_Ini t_Ini_ok n_Ini (by decide) k_f_Rows_122 (fun _ h9 => h9) rfl rfl (h_nz hz9) (h_fz hz9) d_Rows_drain_25 (fun H locs hh hS => ?_)
      obtain ⟨h30, eh30⟩ : ∃ z : hM, z = h_up h18 a21 (eO 3 (fs27.set 1 (.int x2))) := ⟨_, rfl⟩
      rw [← eh30] at hh
      have hw := hw h30 eh30
      refine lv_iconst (v := 1) hx hb d_Rows_drain_28 (by decide) ?_
      exact h_iret C0 hh hS rfl rfl ⟨_, rfl, hw⟩ d_Rows_drain_29
    · have hw := hw.2 c26
      refine lv_iconst (v := 0) hx hb d_Rows_drain_21 (by decide) ?_
      exact h_iret C0 hh hS rfl rfl ⟨_, rfl, hw⟩ d_Rows_drain_22
set_option maxHeartbeats 4000000 in
set_option maxRecDepth 100000 in
theorem S_Rows_weight {l : Launch} {κ : hX} (Q : Int32 → hM → Prop) (h : hM) (x0 : Nat) (x1 : Int32) (x2 : Int32) (hw : P_Rows_weight Q h x0 x1 x2) : Met l y_Rows_weight [Cond.code y_Rows_weight b_Rows_weight 3 (some .int)] rm_Rows_weight (hPc κ w_cl w_tl w_tb [.ref x0, .int x1, .int x2] h) (hQ κ w_cl (qI Q)) 0 0 (h_A κ) := by
  refine h_enter w_TBm (by decide) (Nat.le_of_ble_eq_true rfl) ?_
  intro p e s m args below meth c C0 hnm hh hS ls hl
  obtain ⟨hx, hb, hml, hown, hts, hK, hF0, hrt, hlocks⟩ := id C0
  have hl : lv_has ls 3 [(0, .ref x0), (1, .int x1), (2, .int x2)] := hl
  refine lv_iload_n hx hb d_Rows_weight_0 rfl (lv_at hl 1 rfl) ?_
  refine h_callS (n := 1) C0 w_TBm hh hS hl.1 [.int x1] [] (S_Rows_isClass _ _ _ hw) k_m_Rows_79 k_stat_Rows_isClass k_ini_Rows k_code_Rows_isClass (by decide +kernel) rfl rfl (Nat.le_of_ble_eq_true rfl) ⟨(Nat.le_of_ble_eq_true rfl), (Nat.le_of_ble_eq_true rfl)⟩ ⟨(Nat.le_of_ble_eq_true rfl), (Nat.le_of_ble_eq_true rfl)⟩ d_Rows_weight_1 (h_kI (k := 0) (n := 0) (Nat.le_of_ble_eq_true rfl) (Nat.le_of_ble_eq_true rfl) (fun i17 h16 H locs hw hh hS => ?_))
  refine lv_if_eq (tgt := 18) hx hb d_Rows_weight_4 (by decide) (fun c18 => ?_) (fun c18 => ?_)
  · have hw := hw.1 c18
    refine lv_bipush (v := -4) hx hb d_Rows_weight_18 (by decide) ?_
    exact h_iret C0 hh hS rfl rfl ⟨_, rfl, hw⟩ d_Rows_weight_20
  · have hw := hw.2 c18
    refine lv_iload_n hx hb d_Rows_weight_7 rfl (lv_at hl 2 rfl) ?_
    refine lv_iconst (v := 0) hx hb d_Rows_weight_8 (by decide) ?_
    refine lv_sipush (v := 1000) hx hb d_Rows_weight_9 (by decide) ?_
    refine h_callS (n := 3) C0 w_TBm hh hS hl.1 [.int x2, .int (0 : Int32), .int (1000 : Int32)] [] (S_Rows_isIn _ _ _ _ _ hw) k_m_Rows_75 k_stat_Rows_isIn k_ini_Rows k_code_Rows_isIn (by decide +kernel) rfl rfl (Nat.le_of_ble_eq_true rfl) ⟨(Nat.le_of_ble_eq_true rfl), (Nat.le_of_ble_eq_true rfl)⟩ ⟨(Nat.le_of_ble_eq_true rfl), (Nat.le_of_ble_eq_true rfl)⟩ d_Rows_weight_12 (h_kI (k := 0) (n := 0) (Nat.le_of_ble_eq_true rfl) (Nat.le_of_ble_eq_true rfl) (fun i20 h19 H locs hw hh hS => ?_))
    refine lv_if_ne (tgt := 21) hx hb d_Rows_weight_15 (by decide) (fun c21 => ?_) (fun c21 => ?_)
    · have hw := hw.1 c21
      refine lv_aload_n hx hb d_Rows_weight_21 rfl (lv_at hl 0 rfl) ?_
      obtain ⟨fs22, r25, hr23, hk24, hw⟩ := hw
      refine h_get C0 hh hr23 hk24 rfl i_Rows (by decide) k_f_Rows_29 (fun _ h9 => h9) d_Rows_weight_22 ?_
      refine lv_iload_n hx hb d_Rows_weight_25 rfl (lv_at hl 1 rfl) ?_
      refine lv_iload_n hx hb d_Rows_weight_26 rfl (lv_at hl 2 rfl) ?_
      obtain ⟨n26, f27, hr28, hi29, hw⟩ := hw
      refine h_iast C0 hh hS hr28 hi29 rfl d_Rows_weight_27 (fun H locs hh hS => ?_)
      obtain ⟨h30, eh30⟩ : ∃ z : hM, z = h_up h19 r25 (eT 0 n26 (upd f27 x1.toNatClampNeg x2)) := ⟨_, rfl⟩
      rw [← eh30] at hh
      have hw := hw h30 eh30
      refine lv_iconst (v := 1) hx hb d_Rows_weight_28 (by decide) ?_
      exact h_iret C0 hh hS rfl rfl ⟨_, rfl, hw⟩ d_Rows_weight_29
    · have hw := hw.2 c21
      refine lv_bipush (v := -4) hx hb d_Rows_weight_18 (by decide) ?_
      exact h_iret C0 hh hS rfl rfl ⟨_, rfl, hw⟩ d_Rows_weight_20
set_option maxHeartbeats 4000000 in
set_option maxRecDepth 100000 in
theorem S_Rows_order_75 {p : Program} {l : Launch} {e : Env} {s : State} {m : MethodId} {args : Array Value} {below : List Frame} {meth : Method} {c : Code} {κ : hX} {Q : Int32 → hM → Prop} {K18 : hM → Nat → Int32 → Int32 → Int32 → Prop} (C0 : Cw κ w_cl w_tl w_tb p s m args meth c b_Rows_order 6 R_Rows (some .int)) (hK18 : ∀ (h : hM) (x0 : Nat) (x2 : Int32) (x3 : Int32) (x4 : Int32) (H : Heap) (locs : List Loc) (ls : Array Slot), K18 h x0 x2 x3 x4 → hp κ w_cl h H → va_S (h_A κ) s.heap H locs → lv_has ls 6 [(0, .ref x0), (2, .int x2), (3, .int x3), (4, .int x4)] → W p l e rm_Rows_order s m args below meth c H locs 0 0 (MQ below (hQ κ w_cl (qI Q)) args s 0 0 (h_A κ)) (F0 m 18 ls [])) : ∀ (h : hM) (x0 : Nat) (x2 : Int32) (x3 : Int32) (x4 : Int32) (H : Heap) (locs : List Loc) (ls : Array Slot), P_Rows_order_75 Q K18 h x0 x2 x3 x4 → hp κ w_cl h H → va_S (h_A κ) s.heap H locs → lv_has ls 6 [(0, .ref x0), (2, .int x2), (3, .int x3), (4, .int x4)] → W p l e rm_Rows_order s m args below meth c H locs 0 0 (MQ below (hQ κ w_cl (qI Q)) args s 0 0 (h_A κ)) (F0 m 75 ls []) := by
  obtain ⟨hx, hb, hml, hown, hts, hK, hF0, hrt, hlocks⟩ := id C0
  intro h x0 x2 x3 x4 H locs ls hw hh hS hl
  obtain ⟨x4_81, ex4_81⟩ : ∃ z : Int32, z = x4 + 1 := ⟨_, rfl⟩
  have hw := hw x4_81 ex4_81
  refine lv_iinc (v := x4_81) (lv' := [(4, .int x4_81), (0, .ref x0), (2, .int x2), (3, .int x3)]) hx hb d_Rows_order_75 hl (k := 3) rfl (by rw [ex4_81]; rfl) (by decide) rfl (fun ls hl => ?_)
  refine lv_goto (tgt := 18) hx hb d_Rows_order_78 (by decide) ?_
  exact hK18 _ _ _ _ _ _ _ _ hw hh hS (lv_sub hl [1, 2, 3, 0] rfl)
set_option maxHeartbeats 4000000 in
set_option maxRecDepth 100000 in
theorem S_Rows_order_18 {p : Program} {l : Launch} {e : Env} {s : State} {m : MethodId} {args : Array Value} {below : List Frame} {meth : Method} {c : Code} {κ : hX} {Q : Int32 → hM → Prop} {K11 : hM → Nat → Int32 → Int32 → Prop} (C0 : Cw κ w_cl w_tl w_tb p s m args meth c b_Rows_order 6 R_Rows (some .int)) (hK11 : ∀ (h : hM) (x0 : Nat) (x2 : Int32) (x3 : Int32) (H : Heap) (locs : List Loc) (ls : Array Slot), K11 h x0 x2 x3 → hp κ w_cl h H → va_S (h_A κ) s.heap H locs → lv_has ls 6 [(0, .ref x0), (2, .int x2), (3, .int x3)] → W p l e rm_Rows_order s m args below meth c H locs 0 0 (MQ below (hQ κ w_cl (qI Q)) args s 0 0 (h_A κ)) (F0 m 11 ls [])) : ∀ (n : Nat) (h : hM) (x0 : Nat) (x2 : Int32) (x3 : Int32) (x4 : Int32) (H : Heap) (locs : List Loc) (ls : Array Slot), L_Rows_order_18 Q K11 n h x0 x2 x3 x4 → hp κ w_cl h H → va_S (h_A κ) s.heap H locs → lv_has ls 6 [(0, .ref x0), (2, .int x2), (3, .int x3), (4, .int x4)] → W p l e rm_Rows_order s m args below meth c H locs 0 0 (MQ below (hQ κ w_cl (qI Q)) args s 0 0 (h_A κ)) (F0 m 18 ls []) := by
  obtain ⟨hx, hb, hml, hown, hts, hK, hF0, hrt, hlocks⟩ := id C0
  intro n
  induction n with
  | zero =>
    intro h x0 x2 x3 x4 H locs ls hw
    exact hw.elim
  | succ n hK18 =>
    intro h x0 x2 x3 x4 H locs ls hw hh hS hl
    have hw : P_Rows_order_18 Q K11 (L_Rows_order_18 Q K11 n) h x0 x2 x3 x4 := hw
    refine lv_iload hx hb d_Rows_order_18 (lv_at hl 3 rfl) ?_
    refine lv_aload_n hx hb d_Rows_order_20 rfl (lv_at hl 0 rfl) ?_
    obtain ⟨fs82, r85, hr83, hk84, hw⟩ := hw
    refine h_get C0 hh hr83 hk84 rfl i_Rows (by decide) k_f_Rows_16 (fun _ h9 => h9) d_Rows_order_21 ?_
    obtain ⟨fs86, hr87, hw⟩ := hw
    refine h_callV (n := 0) C0 w_TBm hh hS hl.1 [] [.int x4] (S_AL_size _ _ _ hw) hr87 rfl k_m_Rows_60 k_inst_AL_size k_sel_AL_size k_ini_AL k_code_AL_size (by decide +kernel) rfl rfl (Nat.le_of_ble_eq_true rfl) ⟨(Nat.le_of_ble_eq_true rfl), (Nat.le_of_ble_eq_true rfl)⟩ ⟨(Nat.le_of_ble_eq_true rfl), (Nat.le_of_ble_eq_true rfl)⟩ d_Rows_order_24 (h_kI (k := 0) (n := 0) (Nat.le_of_ble_eq_true rfl) (Nat.le_of_ble_eq_true rfl) (fun i89 h88 H locs hw hh hS => ?_))
    refine lv_icmp_ge (tgt := 81) hx hb d_Rows_order_27 (by decide) (fun c90 => ?_) (fun c90 => ?_)
    · have hw := hw.1 c90
      obtain ⟨x3_91, ex3_91⟩ : ∃ z : Int32, z = x3 + (-1) := ⟨_, rfl⟩
      have hw := hw x3_91 ex3_91
      refine lv_iinc (v := x3_91) (lv' := [(3, .int x3_91), (0, .ref x0), (2, .int x2), (4, .int x4)]) hx hb d_Rows_order_81 hl (k := 2) rfl (by rw [ex3_91]; rfl) (by decide) rfl (fun ls hl => ?_)
      refine lv_goto (tgt := 11) hx hb d_Rows_order_84 (by decide) ?_
      exact hK11 _ _ _ _ _ _ _ hw hh hS (lv_sub hl [1, 2, 0] rfl)
    · have hw := hw.2 c90
      refine lv_aload_n hx hb d_Rows_order_30 rfl (lv_at hl 0 rfl) ?_
      obtain ⟨fs92, r95, hr93, hk94, hw⟩ := hw
      refine h_get C0 hh hr93 hk94 rfl i_Rows (by decide) k_f_Rows_16 (fun _ h9 => h9) d_Rows_order_31 ?_
      refine lv_iload hx hb d_Rows_order_34 (lv_at hl 3 rfl) ?_
      obtain ⟨fs96, hr97, hw⟩ := hw
      refine h_callV (n := 1) C0 w_TBm hh hS hl.1 [.int x4] [] (S_AL_get _ _ _ _ hw) hr97 rfl k_m_Rows_156 k_inst_AL_get k_sel_AL_get k_ini_AL k_code_AL_get (by decide +kernel) rfl rfl (Nat.le_of_ble_eq_true rfl) ⟨(Nat.le_of_ble_eq_true rfl), (Nat.le_of_ble_eq_true rfl)⟩ ⟨(Nat.le_of_ble_eq_true rfl), (Nat.le_of_ble_eq_true rfl)⟩ d_Rows_order_36 (h_kO (k := 0) (n := 0) (Nat.le_of_ble_eq_true rfl) (Nat.le_of_ble_eq_true rfl) (fun o99 h98 H locs hw hh hS => ?_))
      rcases o99 with _ | a100
      · have hw := hw.1 rfl
        have hl : lv_has ls 6 [(0, .ref x0), (2, .int x2), (3, .int x3), (4, .int x4)] := hl
        refine lv_castN hx hb d_Rows_order_39 ?_
        refine lv_astoreN (lv' := [(5, .null), (0, .ref x0), (2, .int x2), (3, .int x3), (4, .int x4)]) hx hb d_Rows_order_42 hl (by decide) rfl (fun ls hl => ?_)
        refine lv_aloadN hx hb d_Rows_order_44 (lv_at hl 0 rfl) ?_
        exact hw.elim
      · have hw := hw.2 a100 rfl
        have hl : lv_has ls 6 [(0, .ref x0), (2, .int x2), (3, .int x3), (4, .int x4)] := hl
        obtain ⟨⟨fs101, hr102⟩, hw⟩ := hw
        refine h_cast C0 hh hr102 rfl k_c_Rows_86 d_Rows_order_39 ?_
        refine lv_astore (lv' := [(5, .ref a100), (0, .ref x0), (2, .int x2), (3, .int x3), (4, .int x4)]) hx hb d_Rows_order_42 hl (by decide) rfl (fun ls hl => ?_)
        refine lv_aload hx hb d_Rows_order_44 (lv_at hl 0 rfl) ?_
        obtain ⟨fs103, i106, hr104, hk105, hw⟩ := hw
        refine h_get C0 hh hr104 hk105 rfl i_Job (by decide) k_f_Rows_119 (fun _ h9 => h9) d_Rows_order_46 ?_
        refine lv_if_ne (tgt := 75) hx hb d_Rows_order_49 (by decide) (fun c107 => ?_) (fun c107 => ?_)
        · have hw := hw.1 c107
          exact S_Rows_order_75 C0 hK18 _ _ _ _ _ _ _ _ hw hh hS (lv_sub hl [1, 2, 3, 4] rfl)
        · have hw := hw.2 c107
          refine lv_aload_n hx hb d_Rows_order_52 rfl (lv_at hl 1 rfl) ?_
          refine lv_aload hx hb d_Rows_order_53 (lv_at hl 0 rfl) ?_
          obtain ⟨fs108, hr109, hw⟩ := hw
          refine h_callV (n := 1) C0 w_TBm hh hS hl.1 [.ref a100] [] (S_Rows_priorityNow _ _ _ _ hw) hr109 rfl k_m_Rows_160 k_inst_Rows_priorityNow k_sel_Rows_priorityNow k_ini_Rows k_code_Rows_priorityNow (by decide +kernel) rfl rfl (Nat.le_of_ble_eq_true rfl) ⟨(Nat.le_of_ble_eq_true rfl), (Nat.le_of_ble_eq_true rfl)⟩ ⟨(Nat.le_of_ble_eq_true rfl), (Nat.le_of_ble_eq_true rfl)⟩ d_Rows_order_55 (h_kI (k := 0) (n := 0) (Nat.le_of_ble_eq_true rfl) (Nat.le_of_ble_eq_true rfl) (fun i111 h110 H locs hw hh hS => ?_))
          refine lv_iload_n hx hb d_Rows_order_58 rfl (lv_at hl 3 rfl) ?_
          refine lv_icmp_ne (tgt := 75) hx hb d_Rows_order_59 (by decide) (fun c112 => ?_) (fun c112 => ?_)
          · have hw := hw.1 c112
            exact S_Rows_order_75 C0 hK18 _ _ _ _ _ _ _ _ hw hh hS (lv_sub hl [1, 2, 3, 4] rfl)
          · have hw := hw.2 c112
            refine lv_iload_n hx hb d_Rows_order_62 rfl (lv_at hl 2 rfl) ?_
            refine lv_if_ne (tgt := 72) hx hb d_Rows_order_63 (by decide) (fun c113 => ?_) (fun c113 => ?_)
            · have hw := hw.1 c113
              obtain ⟨x2_114, ex2_114⟩ : ∃ z : Int32, z = x2 + (-1) := ⟨_, rfl⟩
              have hw := hw x2_114 ex2_114
              refine lv_iinc (v := x2_114) (lv' := [(2, .int x2_114), (5, .ref a100), (0, .ref x0), (3, .int x3), (4, .int x4)]) hx hb d_Rows_order_72 hl (k := 2) rfl (by rw [ex2_114]; rfl) (by decide) rfl (fun ls hl => ?_)
              exact S_Rows_order_75 C0 hK18 _ _ _ _ _ _ _ _ hw hh hS (lv_sub hl [2, 0, 3, 4] rfl)
            · have hw := hw.2 c113
              refine lv_aload hx hb d_Rows_order_66 (lv_at hl 0 rfl) ?_
              obtain ⟨fs115, i118, hr116, hk117, hw⟩ := hw
              refine h_get C0 hh hr116 hk117 rfl i_Job (by decide) k_f_Rows_136 (fun _ h9 => h9) d_Rows_order_68 ?_
              exact h_iret C0 hh hS rfl rfl ⟨_, rfl, hw⟩ d_Rows_order_71
set_option maxHeartbeats 4000000 in
set_option maxRecDepth 100000 in
theorem S_Rows_order_11 {p : Program} {l : Launch} {e : Env} {s : State} {m : MethodId} {args : Array Value} {below : List Frame} {meth : Method} {c : Code} {κ : hX} {Q : Int32 → hM → Prop} (C0 : Cw κ w_cl w_tl w_tb p s m args meth c b_Rows_order 6 R_Rows (some .int)) : ∀ (n : Nat) (h : hM) (x0 : Nat) (x2 : Int32) (x3 : Int32) (H : Heap) (locs : List Loc) (ls : Array Slot), L_Rows_order_11 Q n h x0 x2 x3 → hp κ w_cl h H → va_S (h_A κ) s.heap H locs → lv_has ls 6 [(0, .ref x0), (2, .int x2), (3, .int x3)] → W p l e rm_Rows_order s m args below meth c H locs 0 0 (MQ below (hQ κ w_cl (qI Q)) args s 0 0 (h_A κ)) (F0 m 11 ls []) := by
  obtain ⟨hx, hb, hml, hown, hts, hK, hF0, hrt, hlocks⟩ := id C0
  intro n
  induction n with
  | zero =>
    intro h x0 x2 x3 H locs ls hw
    exact hw.elim
  | succ n hK11 =>
    intro h x0 x2 x3 H locs ls hw hh hS hl
    have hw : P_Rows_order_11 Q (L_Rows_order_11 Q n) h x0 x2 x3 := hw
    refine lv_iload_n hx hb d_Rows_order_11 rfl (lv_at hl 2 rfl) ?_
    refine lv_if_lt (tgt := 87) hx hb d_Rows_order_12 (by decide) (fun c119 => ?_) (fun c119 => ?_)
    · have hw := hw.1 c119
      refine lv_iconst (v := -1) hx hb d_Rows_order_87 (by decide) ?_
      exact h_iret C0 hh hS rfl rfl ⟨_, rfl, hw⟩ d_Rows_order_88
    · have hw := hw.2 c119
      refine lv_iconst (v := 0) hx hb d_Rows_order_15 (by decide) ?_
      refine lv_istore (lv' := [(4, .int (0 : Int32)), (0, .ref x0), (2, .int x2), (3, .int x3)]) hx hb d_Rows_order_16 hl (by decide) rfl (fun ls hl => ?_)
      obtain ⟨n0, hw⟩ := hw
      exact S_Rows_order_18 C0 hK11 n0 _ _ _ _ _ _ _ _ hw hh hS (lv_sub hl [1, 2, 3, 0] rfl)
end
section
set_option maxHeartbeats 4000000 in
set_option maxRecDepth 100000 in
theorem S_Rows_order {l : Launch} {κ : hX} (Q : Int32 → hM → Prop) (h : hM) (x0 : Nat) (x1 : Int32) (hw : P_Rows_order Q h x0 x1) : Met l y_Rows_order [Cond.code y_Rows_order b_Rows_order 6 (some .int)] rm_Rows_order (hPc κ w_cl w_tl w_tb [.ref x0, .int x1] h) (hQ κ w_cl (qI Q)) 0 0 (h_A κ) := by
  refine h_enter w_TBm (by decide) (Nat.le_of_ble_eq_true rfl) ?_
  intro p e s m args below meth c C0 hnm hh hS ls hl
  obtain ⟨hx, hb, hml, hown, hts, hK, hF0, hrt, hlocks⟩ := id C0
  have hl : lv_has ls 6 [(0, .ref x0), (1, .int x1)] := hl
  refine lv_iload_n hx hb d_Rows_order_0 rfl (lv_at hl 1 rfl) ?_
  refine lv_if_ge (tgt := 6) hx hb d_Rows_order_1 (by decide) (fun c120 => ?_) (fun c120 => ?_)
  · have hw := hw.1 c120
    refine lv_iload_n hx hb d_Rows_order_6 rfl (lv_at hl 1 rfl) ?_
    refine lv_istore_n (lv' := [(2, .int x1), (0, .ref x0), (1, .int x1)]) hx hb d_Rows_order_7 rfl hl (by decide) rfl (fun ls hl => ?_)
    refine lv_bipush (v := 15) hx hb d_Rows_order_8 (by decide) ?_
    refine lv_istore_n (lv' := [(3, .int (15 : Int32)), (2, .int x1), (0, .ref x0), (1, .int x1)]) hx hb d_Rows_order_10 rfl hl (by decide) rfl (fun ls hl => ?_)
    obtain ⟨n0, hw⟩ := hw
    exact S_Rows_order_11 C0 n0 _ _ _ _ _ _ _ hw hh hS (lv_sub hl [2, 1, 0] rfl)
  · have hw := hw.2 c120
    refine lv_iconst (v := -1) hx hb d_Rows_order_4 (by decide) ?_
    exact h_iret C0 hh hS rfl rfl ⟨_, rfl, hw⟩ d_Rows_order_5
set_option maxHeartbeats 4000000 in
set_option maxRecDepth 100000 in
theorem S_Rows_waited {l : Launch} {κ : hX} (Q : Int64 → hM → Prop) (h : hM) (x0 : Nat) (x1 : Int32) (hw : P_Rows_waited Q h x0 x1) : Met l y_Rows_waited [Cond.code y_Rows_waited b_Rows_waited 3 (some .long)] rm_Rows_waited (hPc κ w_cl w_tl w_tb [.ref x0, .int x1] h) (hQ κ w_cl (qJ Q)) 0 0 (h_A κ) := by
  refine h_enter w_TBm (by decide) (Nat.le_of_ble_eq_true rfl) ?_
  intro p e s m args below meth c C0 hnm hh hS ls hl
  obtain ⟨hx, hb, hml, hown, hts, hK, hF0, hrt, hlocks⟩ := id C0
  have hl : lv_has ls 3 [(0, .ref x0), (1, .int x1)] := hl
  refine lv_aload_n hx hb d_Rows_waited_0 rfl (lv_at hl 0 rfl) ?_
  refine lv_iload_n hx hb d_Rows_waited_1 rfl (lv_at hl 1 rfl) ?_
  obtain ⟨fs28, hr29, hw⟩ := hw
  refine h_callV (n := 1) C0 w_TBm hh hS hl.1 [.int x1] [] (S_Rows_findJob _ _ _ _ hw) hr29 rfl k_m_Rows_91 k_inst_Rows_findJob k_sel_Rows_findJob k_ini_Rows k_code_Rows_findJob (by decide +kernel) rfl rfl (Nat.le_of_ble_eq_true rfl) ⟨(Nat.le_of_ble_eq_true rfl), (Nat.le_of_ble_eq_true rfl)⟩ ⟨(Nat.le_of_ble_eq_true rfl), (Nat.le_of_ble_eq_true rfl)⟩ d_Rows_waited_2 (h_kO (k := 0) (n := 0) (Nat.le_of_ble_eq_true rfl) (Nat.le_of_ble_eq_true rfl) (fun o31 h30 H locs hw hh hS => ?_))
  refine h_astore_nO (lv' := [(2, va_rf o31), (0, .ref x0), (1, .int x1)]) hx hb d_Rows_waited_5 rfl hl (by decide) rfl (fun ls hl => ?_)
  refine h_aload_nO hx hb d_Rows_waited_6 rfl (lv_at hl 0 rfl) ?_
  rcases o31 with _ | a33
  · have hw := hw.1 rfl
    have hl : lv_has ls 3 [(2, .null), (0, .ref x0), (1, .int x1)] := hl
    refine lv_ifnonnullN hx hb d_Rows_waited_7 ?_
    refine lv_ldc2 (v := -1) hx hb hown (hts _ k_k_Rows_143) d_Rows_waited_10 ?_
    exact h_lret C0 hh hS rfl ⟨_, rfl, hw⟩ d_Rows_waited_13
  · have hw := hw.2 a33 rfl
    have hl : lv_has ls 3 [(2, .ref a33), (0, .ref x0), (1, .int x1)] := hl
    refine lv_ifnonnull (tgt := 14) hx hb d_Rows_waited_7 (by decide) ?_
    refine lv_aload_n hx hb d_Rows_waited_14 rfl (lv_at hl 0 rfl) ?_
    obtain ⟨fs34, hr35, hw⟩ := hw
    refine h_callV (n := 0) C0 w_TBm hh hS hl.1 [] [] (S_Job_isWaiting _ _ _ hw) hr35 rfl k_m_Rows_95 k_inst_Job_isWaiting k_sel_Job_isWaiting k_ini_Job k_code_Job_isWaiting (by decide +kernel) rfl rfl (Nat.le_of_ble_eq_true rfl) ⟨(Nat.le_of_ble_eq_true rfl), (Nat.le_of_ble_eq_true rfl)⟩ ⟨(Nat.le_of_ble_eq_true rfl), (Nat.le_of_ble_eq_true rfl)⟩ d_Rows_waited_15 (h_kI (k := 0) (n := 0) (Nat.le_of_ble_eq_true rfl) (Nat.le_of_ble_eq_true rfl) (fun i37 h36 H locs hw hh hS => ?_))
    refine lv_if_eq (tgt := 28) hx hb d_Rows_waited_18 (by decide) (fun c38 => ?_) (fun c38 => ?_)
    · have hw := hw.1 c38
      refine lv_aload_n hx hb d_Rows_waited_28 rfl (lv_at hl 0 rfl) ?_
      obtain ⟨fs39, j42, hr40, hk41, hw⟩ := hw
      refine h_get C0 hh hr40 hk41 rfl i_Job (by decide) k_f_Rows_164 (fun _ h9 => h9) d_Rows_waited_29 ?_
      refine lv_aload_n hx hb d_Rows_waited_32 rfl (lv_at hl 0 rfl) ?_
      obtain ⟨fs43, j46, hr44, hk45, hw⟩ := hw
      refine h_get C0 hh hr44 hk45 rfl i_Job (by decide) k_f_Rows_167 (fun _ h9 => h9) d_Rows_waited_33 ?_
      refine lv_lsub hx hb d_Rows_waited_36 ?_
      exact h_lret C0 hh hS rfl ⟨_, rfl, hw⟩ d_Rows_waited_37
    · have hw := hw.2 c38
      refine lv_aload_n hx hb d_Rows_waited_21 rfl (lv_at hl 1 rfl) ?_
      obtain ⟨fs47, j50, hr48, hk49, hw⟩ := hw
      refine h_get C0 hh hr48 hk49 rfl i_Rows (by decide) k_f_Rows_49 (fun _ h9 => h9) d_Rows_waited_22 ?_
      refine lv_goto (tgt := 32) hx hb d_Rows_waited_25 (by decide) ?_
      refine lv_aload_n hx hb d_Rows_waited_32 rfl (lv_at hl 0 rfl) ?_
      obtain ⟨fs51, j54, hr52, hk53, hw⟩ := hw
      refine h_get C0 hh hr52 hk53 rfl i_Job (by decide) k_f_Rows_167 (fun _ h9 => h9) d_Rows_waited_33 ?_
      refine lv_lsub hx hb d_Rows_waited_36 ?_
      exact h_lret C0 hh hS rfl ⟨_, rfl, hw⟩ d_Rows_waited_37
set_option maxHeartbeats 4000000 in
set_option maxRecDepth 100000 in
theorem S_Rows_state {l : Launch} {κ : hX} (Q : Int32 → hM → Prop) (h : hM) (x0 : Nat) (x1 : Int32) (hw : P_Rows_state Q h x0 x1) : Met l y_Rows_state [Cond.code y_Rows_state b_Rows_state 3 (some .int)] rm_Rows_state (hPc κ w_cl w_tl w_tb [.ref x0, .int x1] h) (hQ κ w_cl (qI Q)) 0 0 (h_A κ) := by
  refine h_enter w_TBm (by decide) (Nat.le_of_ble_eq_true rfl) ?_
  intro p e s m args below meth c C0 hnm hh hS ls hl
  obtain ⟨hx, hb, hml, hown, hts, hK, hF0, hrt, hlocks⟩ := id C0
  have hl : lv_has ls 3 [(0, .ref x0), (1, .int x1)] := hl
  refine lv_aload_n hx hb d_Rows_state_0 rfl (lv_at hl 0 rfl) ?_
  refine lv_iload_n hx hb d_Rows_state_1 rfl (lv_at hl 1 rfl) ?_
  obtain ⟨fs11, hr12, hw⟩ := hw
  refine h_callV (n := 1) C0 w_TBm hh hS hl.1 [.int x1] [] (S_Rows_findJob _ _ _ _ hw) hr12 rfl k_m_Rows_91 k_inst_Rows_findJob k_sel_Rows_findJob k_ini_Rows k_code_Rows_findJob (by decide +kernel) rfl rfl (Nat.le_of_ble_eq_true rfl) ⟨(Nat.le_of_ble_eq_true rfl), (Nat.le_of_ble_eq_true rfl)⟩ ⟨(Nat.le_of_ble_eq_true rfl), (Nat.le_of_ble_eq_true rfl)⟩ d_Rows_state_2 (h_kO (k := 0) (n := 0) (Nat.le_of_ble_eq_true rfl) (Nat.le_of_ble_eq_true rfl) (fun o14 h13 H locs hw hh hS => ?_))
  refine h_astore_nO (lv' := [(2, va_rf o14), (0, .ref x0), (1, .int x1)]) hx hb d_Rows_state_5 rfl hl (by decide) rfl (fun ls hl => ?_)
  refine h_aload_nO hx hb d_Rows_state_6 rfl (lv_at hl 0 rfl) ?_
  rcases o14 with _ | a16
  · have hw := hw.1 rfl
    have hl : lv_has ls 3 [(2, .null), (0, .ref x0), (1, .int x1)] := hl
    refine lv_ifnonnullN hx hb d_Rows_state_7 ?_
    refine lv_iconst (v := -1) hx hb d_Rows_state_10 (by decide) ?_
    refine lv_goto (tgt := 18) hx hb d_Rows_state_11 (by decide) ?_
    exact h_iret C0 hh hS rfl rfl ⟨_, rfl, hw⟩ d_Rows_state_18
  · have hw := hw.2 a16 rfl
    have hl : lv_has ls 3 [(2, .ref a16), (0, .ref x0), (1, .int x1)] := hl
    refine lv_ifnonnull (tgt := 14) hx hb d_Rows_state_7 (by decide) ?_
    refine lv_aload_n hx hb d_Rows_state_14 rfl (lv_at hl 0 rfl) ?_
    obtain ⟨fs17, i20, hr18, hk19, hw⟩ := hw
    refine h_get C0 hh hr18 hk19 rfl i_Job (by decide) k_f_Rows_119 (fun _ h9 => h9) d_Rows_state_15 ?_
    exact h_iret C0 hh hS rfl rfl ⟨_, rfl, hw⟩ d_Rows_state_18
set_option maxHeartbeats 4000000 in
set_option maxRecDepth 100000 in
theorem S_Rows_jobsIn_36 {p : Program} {l : Launch} {e : Env} {s : State} {m : MethodId} {args : Array Value} {below : List Frame} {meth : Method} {c : Code} {κ : hX} {Q : Int32 → hM → Prop} {K4 : hM → Nat → Int32 → Int32 → Int32 → Prop} (C0 : Cw κ w_cl w_tl w_tb p s m args meth c b_Rows_jobsIn 4 R_Rows (some .int)) (hK4 : ∀ (h : hM) (x0 : Nat) (x1 : Int32) (x2 : Int32) (x3 : Int32) (H : Heap) (locs : List Loc) (ls : Array Slot), K4 h x0 x1 x2 x3 → hp κ w_cl h H → va_S (h_A κ) s.heap H locs → lv_has ls 4 [(0, .ref x0), (1, .int x1), (2, .int x2), (3, .int x3)] → W p l e rm_Rows_jobsIn s m args below meth c H locs 0 0 (MQ below (hQ κ w_cl (qI Q)) args s 0 0 (h_A κ)) (F0 m 4 ls [])) : ∀ (h : hM) (x0 : Nat) (x1 : Int32) (x2 : Int32) (x3 : Int32) (H : Heap) (locs : List Loc) (ls : Array Slot), P_Rows_jobsIn_36 Q K4 h x0 x1 x2 x3 → hp κ w_cl h H → va_S (h_A κ) s.heap H locs → lv_has ls 4 [(0, .ref x0), (1, .int x1), (2, .int x2), (3, .int x3)] → W p l e rm_Rows_jobsIn s m args below meth c H locs 0 0 (MQ below (hQ κ w_cl (qI Q)) args s 0 0 (h_A κ)) (F0 m 36 ls []) := by
  obtain ⟨hx, hb, hml, hown, hts, hK, hF0, hrt, hlocks⟩ := id C0
  intro h x0 x1 x2 x3 H locs ls hw hh hS hl
  obtain ⟨x3_55, ex3_55⟩ : ∃ z : Int32, z = x3 + 1 := ⟨_, rfl⟩
  have hw := hw x3_55 ex3_55
  refine lv_iinc (v := x3_55) (lv' := [(3, .int x3_55), (0, .ref x0), (1, .int x1), (2, .int x2)]) hx hb d_Rows_jobsIn_36 hl (k := 3) rfl (by rw [ex3_55]; rfl) (by decide) rfl (fun ls hl => ?_)
  refine lv_goto (tgt := 4) hx hb d_Rows_jobsIn_39 (by decide) ?_
  exact hK4 _ _ _ _ _ _ _ _ hw hh hS (lv_sub hl [1, 2, 3, 0] rfl)
set_option maxHeartbeats 4000000 in
set_option maxRecDepth 100000 in
theorem S_Rows_jobsIn_4 {p : Program} {l : Launch} {e : Env} {s : State} {m : MethodId} {args : Array Value} {below : List Frame} {meth : Method} {c : Code} {κ : hX} {Q : Int32 → hM → Prop} (C0 : Cw κ w_cl w_tl w_tb p s m args meth c b_Rows_jobsIn 4 R_Rows (some .int)) : ∀ (n : Nat) (h : hM) (x0 : Nat) (x1 : Int32) (x2 : Int32) (x3 : Int32) (H : Heap) (locs : List Loc) (ls : Array Slot), L_Rows_jobsIn_4 Q n h x0 x1 x2 x3 → hp κ w_cl h H → va_S (h_A κ) s.heap H locs → lv_has ls 4 [(0, .ref x0), (1, .int x1), (2, .int x2), (3, .int x3)] → W p l e rm_Rows_jobsIn s m args below meth c H locs 0 0 (MQ below (hQ κ w_cl (qI Q)) args s 0 0 (h_A κ)) (F0 m 4 ls []) := by
  obtain ⟨hx, hb, hml, hown, hts, hK, hF0, hrt, hlocks⟩ := id C0
  intro n
  induction n with
  | zero =>
    intro h x0 x1 x2 x3 H locs ls hw
    exact hw.elim
  | succ n hK4 =>
    intro h x0 x1 x2 x3 H locs ls hw hh hS hl
    have hw : P_Rows_jobsIn_4 Q (L_Rows_jobsIn_4 Q n) h x0 x1 x2 x3 := hw
    refine lv_iload_n hx hb d_Rows_jobsIn_4 rfl (lv_at hl 3 rfl) ?_
    refine lv_aload_n hx hb d_Rows_jobsIn_5 rfl (lv_at hl 0 rfl) ?_
    obtain ⟨fs56, r59, hr57, hk58, hw⟩ := hw
    refine h_get C0 hh hr57 hk58 rfl i_Rows (by decide) k_f_Rows_16 (fun _ h9 => h9) d_Rows_jobsIn_6 ?_
    obtain ⟨fs60, hr61, hw⟩ := hw
    refine h_callV (n := 0) C0 w_TBm hh hS hl.1 [] [.int x3] (S_AL_size _ _ _ hw) hr61 rfl k_m_Rows_60 k_inst_AL_size k_sel_AL_size k_ini_AL k_code_AL_size (by decide +kernel) rfl rfl (Nat.le_of_ble_eq_true rfl) ⟨(Nat.le_of_ble_eq_true rfl), (Nat.le_of_ble_eq_true rfl)⟩ ⟨(Nat.le_of_ble_eq_true rfl), (Nat.le_of_ble_eq_true rfl)⟩ d_Rows_jobsIn_9 (h_kI (k := 0) (n := 0) (Nat.le_of_ble_eq_true rfl) (Nat.le_of_ble_eq_true rfl) (fun i63 h62 H locs hw hh hS => ?_))
    refine lv_icmp_ge (tgt := 42) hx hb d_Rows_jobsIn_12 (by decide) (fun c64 => ?_) (fun c64 => ?_)
    · have hw := hw.1 c64
      refine lv_iload_n hx hb d_Rows_jobsIn_42 rfl (lv_at hl 2 rfl) ?_
      exact h_iret C0 hh hS rfl rfl ⟨_, rfl, hw⟩ d_Rows_jobsIn_43
    · have hw := hw.2 c64
      refine lv_aload_n hx hb d_Rows_jobsIn_15 rfl (lv_at hl 0 rfl) ?_
      obtain ⟨fs65, r68, hr66, hk67, hw⟩ := hw
      refine h_get C0 hh hr66 hk67 rfl i_Rows (by decide) k_f_Rows_16 (fun _ h9 => h9) d_Rows_jobsIn_16 ?_
      refine lv_iload_n hx hb d_Rows_jobsIn_19 rfl (lv_at hl 3 rfl) ?_
      obtain ⟨fs69, hr70, hw⟩ := hw
      refine h_callV (n := 1) C0 w_TBm hh hS hl.1 [.int x3] [] (S_AL_get _ _ _ _ hw) hr70 rfl k_m_Rows_156 k_inst_AL_get k_sel_AL_get k_ini_AL k_code_AL_get (by decide +kernel) rfl rfl (Nat.le_of_ble_eq_true rfl) ⟨(Nat.le_of_ble_eq_true rfl), (Nat.le_of_ble_eq_true rfl)⟩ ⟨(Nat.le_of_ble_eq_true rfl), (Nat.le_of_ble_eq_true rfl)⟩ d_Rows_jobsIn_20 (h_kO (k := 0) (n := 0) (Nat.le_of_ble_eq_true rfl) (Nat.le_of_ble_eq_true rfl) (fun o72 h71 H locs hw hh hS => ?_))
      rcases o72 with _ | a73
      · have hw := hw.1 rfl
        have hl : lv_has ls 4 [(0, .ref x0), (1, .int x1), (2, .int x2), (3, .int x3)] := hl
        refine lv_castN hx hb d_Rows_jobsIn_23 ?_
        exact hw.elim
      · have hw := hw.2 a73 rfl
        have hl : lv_has ls 4 [(0, .ref x0), (1, .int x1), (2, .int x2), (3, .int x3)] := hl
        obtain ⟨⟨fs74, hr75⟩, hw⟩ := hw
        refine h_cast C0 hh hr75 rfl k_c_Rows_86 d_Rows_jobsIn_23 ?_
        obtain ⟨fs76, i79, hr77, hk78, hw⟩ := hw
        refine h_get C0 hh hr77 hk78 rfl i_Job (by decide) k_f_Rows_119 (fun _ h9 => h9) d_Rows_jobsIn_26 ?_
        refine lv_iload_n hx hb d_Rows_jobsIn_29 rfl (lv_at hl 1 rfl) ?_
        refine lv_icmp_ne (tgt := 36) hx hb d_Rows_jobsIn_30 (by decide) (fun c80 => ?_) (fun c80 => ?_)
        · have hw := hw.1 c80
          exact S_Rows_jobsIn_36 C0 hK4 _ _ _ _ _ _ _ _ hw hh hS (lv_sub hl [0, 1, 2, 3] rfl)
        · have hw := hw.2 c80
          obtain ⟨x2_81, ex2_81⟩ : ∃ z : Int32, z = x2 + 1 := ⟨_, rfl⟩
          have hw := hw x2_81 ex2_81
          refine lv_iinc (v := x2_81) (lv' := [(2, .int x2_81), (0, .ref x0), (1, .int x1), (3, .int x3)]) hx hb d_Rows_jobsIn_33 hl (k := 2) rfl (by rw [ex2_81]; rfl) (by decide) rfl (fun ls hl => ?_)
          exact S_Rows_jobsIn_36 C0 hK4 _ _ _ _ _ _ _ _ hw hh hS (lv_sub hl [1, 2, 0, 3] rfl)
set_option maxHeartbeats 4000000 in
set_option maxRecDepth 100000 in
theorem S_Rows_jobsIn {l : Launch} {κ : hX} (Q : Int32 → hM → Prop) (h : hM) (x0 : Nat) (x1 : Int32) (hw : P_Rows_jobsIn Q h x0 x1) : Met l y_Rows_jobsIn [Cond.code y_Rows_jobsIn b_Rows_jobsIn 4 (some .int)] rm_Rows_jobsIn (hPc κ w_cl w_tl w_tb [.ref x0, .int x1] h) (hQ κ w_cl (qI Q)) 0 0 (h_A κ) := by
  refine h_enter w_TBm (by decide) (Nat.le_of_ble_eq_true rfl) ?_
  intro p e s m args below meth c C0 hnm hh hS ls hl
  obtain ⟨hx, hb, hml, hown, hts, hK, hF0, hrt, hlocks⟩ := id C0
  have hl : lv_has ls 4 [(0, .ref x0), (1, .int x1)] := hl
  refine lv_iconst (v := 0) hx hb d_Rows_jobsIn_0 (by decide) ?_
  refine lv_istore_n (lv' := [(2, .int (0 : Int32)), (0, .ref x0), (1, .int x1)]) hx hb d_Rows_jobsIn_1 rfl hl (by decide) rfl (fun ls hl => ?_)
  refine lv_iconst (v := 0) hx hb d_Rows_jobsIn_2 (by decide) ?_
  refine lv_istore_n (lv' := [(3, .int (0 : Int32)), (2, .int (0 : Int32)), (0, .ref x0), (1, .int x1)]) hx hb d_Rows_jobsIn_3 rfl hl (by decide) rfl (fun ls hl => ?_)
  obtain ⟨n0, hw⟩ := hw
  exact S_Rows_jobsIn_4 C0 n0 _ _ _ _ _ _ _ _ hw hh hS (lv_sub hl [2, 3, 1, 0] rfl)
set_option maxHeartbeats 4000000 in
set_option maxRecDepth 100000 in
theorem S_Rows_drainedAndIdle_44 {p : Program} {l : Launch} {e : Env} {s : State} {m : MethodId} {args : Array Value} {below : List Frame} {meth : Method} {c : Code} {κ : hX} {Q : Int32 → hM → Prop} {K4 : hM → Nat → Int32 → Int32 → Prop} (C0 : Cw κ w_cl w_tl w_tb p s m args meth c b_Rows_drainedAndIdle 4 R_Rows (some .int)) (hK4 : ∀ (h : hM) (x0 : Nat) (x1 : Int32) (x2 : Int32) (H : Heap) (locs : List Loc) (ls : Array Slot), K4 h x0 x1 x2 → hp κ w_cl h H → va_S (h_A κ) s.heap H locs → lv_has ls 4 [(0, .ref x0), (1, .int x1), (2, .int x2)] → W p l e rm_Rows_drainedAndIdle s m args below meth c H locs 0 0 (MQ below (hQ κ w_cl (qI Q)) args s 0 0 (h_A κ)) (F0 m 4 ls [])) : ∀ (h : hM) (x0 : Nat) (x1 : Int32) (x2 : Int32) (H : Heap) (locs : List Loc) (ls : Array Slot), P_Rows_drainedAndIdle_44 Q K4 h x0 x1 x2 → hp κ w_cl h H → va_S (h_A κ) s.heap H locs → lv_has ls 4 [(0, .ref x0), (1, .int x1), (2, .int x2)] → W p l e rm_Rows_drainedAndIdle s m args below meth c H locs 0 0 (MQ below (hQ κ w_cl (qI Q)) args s 0 0 (h_A κ)) (F0 m 44 ls []) := by
  obtain ⟨hx, hb, hml, hown, hts, hK, hF0, hrt, hlocks⟩ := id C0
  intro h x0 x1 x2 H locs ls hw hh hS hl
  obtain ⟨x2_65, ex2_65⟩ : ∃ z : Int32, z = x2 + 1 := ⟨_, rfl⟩
  have hw := hw x2_65 ex2_65
  refine lv_iinc (v := x2_65) (lv' := [(2, .int x2_65), (0, .ref x0), (1, .int x1)]) hx hb d_Rows_drainedAndIdle_44 hl (k := 2) rfl (by rw [ex2_65]; rfl) (by decide) rfl (fun ls hl => ?_)
  refine lv_goto (tgt := 4) hx hb d_Rows_drainedAndIdle_47 (by decide) ?_
  exact hK4 _ _ _ _ _ _ _ hw hh hS (lv_sub hl [1, 2, 0] rfl)
set_option maxHeartbeats 4000000 in
set_option maxRecDepth 100000 in
theorem S_Rows_drainedAndIdle_4 {p : Program} {l : Launch} {e : Env} {s : State} {m : MethodId} {args : Array Value} {below : List Frame} {meth : Method} {c : Code} {κ : hX} {Q : Int32 → hM → Prop} (C0 : Cw κ w_cl w_tl w_tb p s m args meth c b_Rows_drainedAndIdle 4 R_Rows (some .int)) : ∀ (n : Nat) (h : hM) (x0 : Nat) (x1 : Int32) (x2 : Int32) (H : Heap) (locs : List Loc) (ls : Array Slot), L_Rows_drainedAndIdle_4 Q n h x0 x1 x2 → hp κ w_cl h H → va_S (h_A κ) s.heap H locs → lv_has ls 4 [(0, .ref x0), (1, .int x1), (2, .int x2)] → W p l e rm_Rows_drainedAndIdle s m args below meth c H locs 0 0 (MQ below (hQ κ w_cl (qI Q)) args s 0 0 (h_A κ)) (F0 m 4 ls []) := by
  obtain ⟨hx, hb, hml, hown, hts, hK, hF0, hrt, hlocks⟩ := id C0
  intro n
  induction n with
  | zero =>
    intro h x0 x1 x2 H locs ls hw
    exact hw.elim
  | succ n hK4 =>
    intro h x0 x1 x2 H locs ls hw hh hS hl
    have hw : P_Rows_drainedAndIdle_4 Q (L_Rows_drainedAndIdle_4 Q n) h x0 x1 x2 := hw
    refine lv_iload_n hx hb d_Rows_drainedAndIdle_4 rfl (lv_at hl 2 rfl) ?_
    refine lv_aload_n hx hb d_Rows_drainedAndIdle_5 rfl (lv_at hl 0 rfl) ?_
    obtain ⟨fs66, r69, hr67, hk68, hw⟩ := hw
    refine h_get C0 hh hr67 hk68 rfl i_Rows (by decide) k_f_Rows_10 (fun _ h9 => h9) d_Rows_drainedAndIdle_6 ?_
    obtain ⟨fs70, hr71, hw⟩ := hw
    refine h_callV (n := 0) C0 w_TBm hh hS hl.1 [] [.int x2] (S_AL_size _ _ _ hw) hr71 rfl k_m_Rows_60 k_inst_AL_size k_sel_AL_size k_ini_AL k_code_AL_size (by decide +kernel) rfl rfl (Nat.le_of_ble_eq_true rfl) ⟨(Nat.le_of_ble_eq_true rfl), (Nat.le_of_ble_eq_true rfl)⟩ ⟨(Nat.le_of_ble_eq_true rfl), (Nat.le_of_ble_eq_true rfl)⟩ d_Rows_drainedAndIdle_9 (h_kI (k := 0) (n := 0) (Nat.le_of_ble_eq_true rfl) (Nat.le_of_ble_eq_true rfl) (fun i73 h72 H locs hw hh hS => ?_))
    refine lv_icmp_ge (tgt := 50) hx hb d_Rows_drainedAndIdle_12 (by decide) (fun c74 => ?_) (fun c74 => ?_)
    · have hw := hw.1 c74
      refine lv_iload_n hx hb d_Rows_drainedAndIdle_50 rfl (lv_at hl 1 rfl) ?_
      exact h_iret C0 hh hS rfl rfl ⟨_, rfl, hw⟩ d_Rows_drainedAndIdle_51
    · have hw := hw.2 c74
      refine lv_aload_n hx hb d_Rows_drainedAndIdle_15 rfl (lv_at hl 0 rfl) ?_
      obtain ⟨fs75, r78, hr76, hk77, hw⟩ := hw
      refine h_get C0 hh hr76 hk77 rfl i_Rows (by decide) k_f_Rows_10 (fun _ h9 => h9) d_Rows_drainedAndIdle_16 ?_
      refine lv_iload_n hx hb d_Rows_drainedAndIdle_19 rfl (lv_at hl 2 rfl) ?_
      obtain ⟨fs79, hr80, hw⟩ := hw
      refine h_callV (n := 1) C0 w_TBm hh hS hl.1 [.int x2] [] (S_AL_get _ _ _ _ hw) hr80 rfl k_m_Rows_156 k_inst_AL_get k_sel_AL_get k_ini_AL k_code_AL_get (by decide +kernel) rfl rfl (Nat.le_of_ble_eq_true rfl) ⟨(Nat.le_of_ble_eq_true rfl), (Nat.le_of_ble_eq_true rfl)⟩ ⟨(Nat.le_of_ble_eq_true rfl), (Nat.le_of_ble_eq_true rfl)⟩ d_Rows_drainedAndIdle_20 (h_kO (k := 0) (n := 0) (Nat.le_of_ble_eq_true rfl) (Nat.le_of_ble_eq_true rfl) (fun o82 h81 H locs hw hh hS => ?_))
      rcases o82 with _ | a83
      · have hw := hw.1 rfl
        have hl : lv_has ls 4 [(0, .ref x0), (1, .int x1), (2, .int x2)] := hl
        refine lv_castN hx hb d_Rows_drainedAndIdle_23 ?_
        refine lv_astore_nN (lv' := [(3, .null), (0, .ref x0), (1, .int x1), (2, .int x2)]) hx hb d_Rows_drainedAndIdle_26 rfl hl (by decide) rfl (fun ls hl => ?_)
        refine lv_aload_nN hx hb d_Rows_drainedAndIdle_27 rfl (lv_at hl 0 rfl) ?_
        exact hw.elim
      · have hw := hw.2 a83 rfl
        have hl : lv_has ls 4 [(0, .ref x0), (1, .int x1), (2, .int x2)] := hl
        obtain ⟨⟨fs84, hr85⟩, hw⟩ := hw
        refine h_cast C0 hh hr85 rfl k_c_Rows_64 d_Rows_drainedAndIdle_23 ?_
        refine lv_astore_n (lv' := [(3, .ref a83), (0, .ref x0), (1, .int x1), (2, .int x2)]) hx hb d_Rows_drainedAndIdle_26 rfl hl (by decide) rfl (fun ls hl => ?_)
        refine lv_aload_n hx hb d_Rows_drainedAndIdle_27 rfl (lv_at hl 0 rfl) ?_
        obtain ⟨fs86, i89, hr87, hk88, hw⟩ := hw
        refine h_get C0 hh hr87 hk88 rfl i_Ini (by decide) k_f_Rows_122 (fun _ h9 => h9) d_Rows_drainedAndIdle_28 ?_
        refine lv_if_eq (tgt := 44) hx hb d_Rows_drainedAndIdle_31 (by decide) (fun c90 => ?_) (fun c90 => ?_)
        · have hw := hw.1 c90
          exact S_Rows_drainedAndIdle_44 C0 hK4 _ _ _ _ _ _ _ hw hh hS (lv_sub hl [1, 2, 3] rfl)
        · have hw := hw.2 c90
          refine lv_aload_n hx hb d_Rows_drainedAndIdle_34 rfl (lv_at hl 0 rfl) ?_
          obtain ⟨fs91, i94, hr92, hk93, hw⟩ := hw
          refine h_get C0 hh hr92 hk93 rfl i_Ini (by decide) k_f_Rows_125 (fun _ h9 => h9) d_Rows_drainedAndIdle_35 ?_
          refine lv_if_ne (tgt := 44) hx hb d_Rows_drainedAndIdle_38 (by decide) (fun c95 => ?_) (fun c95 => ?_)
          · have hw := hw.1 c95
            exact S_Rows_drainedAndIdle_44 C0 hK4 _ _ _ _ _ _ _ hw hh hS (lv_sub hl [1, 2, 3] rfl)
          · have hw := hw.2 c95
            obtain ⟨x1_96, ex1_96⟩ : ∃ z : Int32, z = x1 + 1 := ⟨_, rfl⟩
            have hw := hw x1_96 ex1_96
            refine lv_iinc (v := x1_96) (lv' := [(1, .int x1_96), (3, .ref a83), (0, .ref x0), (2, .int x2)]) hx hb d_Rows_drainedAndIdle_41 hl (k := 2) rfl (by rw [ex1_96]; rfl) (by decide) rfl (fun ls hl => ?_)
            exact S_Rows_drainedAndIdle_44 C0 hK4 _ _ _ _ _ _ _ hw hh hS (lv_sub hl [2, 0, 3] rfl)
set_option maxHeartbeats 4000000 in
set_option maxRecDepth 100000 in
theorem S_Rows_drainedAndIdle {l : Launch} {κ : hX} (Q : Int32 → hM → Prop) (h : hM) (x0 : Nat) (hw : P_Rows_drainedAndIdle Q h x0) : Met l y_Rows_drainedAndIdle [Cond.code y_Rows_drainedAndIdle b_Rows_drainedAndIdle 4 (some .int)] rm_Rows_drainedAndIdle (hPc κ w_cl w_tl w_tb [.ref x0] h) (hQ κ w_cl (qI Q)) 0 0 (h_A κ) := by
  refine h_enter w_TBm (by decide) (Nat.le_of_ble_eq_true rfl) ?_
  intro p e s m args below meth c C0 hnm hh hS ls hl
  obtain ⟨hx, hb, hml, hown, hts, hK, hF0, hrt, hlocks⟩ := id C0
  have hl : lv_has ls 4 [(0, .ref x0)] := hl
  refine lv_iconst (v := 0) hx hb d_Rows_drainedAndIdle_0 (by decide) ?_
  refine lv_istore_n (lv' := [(1, .int (0 : Int32)), (0, .ref x0)]) hx hb d_Rows_drainedAndIdle_1 rfl hl (by decide) rfl (fun ls hl => ?_)
  refine lv_iconst (v := 0) hx hb d_Rows_drainedAndIdle_2 (by decide) ?_
  refine lv_istore_n (lv' := [(2, .int (0 : Int32)), (1, .int (0 : Int32)), (0, .ref x0)]) hx hb d_Rows_drainedAndIdle_3 rfl hl (by decide) rfl (fun ls hl => ?_)
  obtain ⟨n0, hw⟩ := hw
  exact S_Rows_drainedAndIdle_4 C0 n0 _ _ _ _ _ _ _ hw hh hS (lv_sub hl [2, 1, 0] rfl)
set_option maxHeartbeats 4000000 in
set_option maxRecDepth 100000 in
theorem S_Rows_unitsInUse {l : Launch} {κ : hX} (Q : Int32 → hM → Prop) (h : hM) (x0 : Nat) (x1 : Int32) (hw : P_Rows_unitsInUse Q h x0 x1) : Met l y_Rows_unitsInUse [Cond.code y_Rows_unitsInUse b_Rows_unitsInUse 2 (some .int)] rm_Rows_unitsInUse (hPc κ w_cl w_tl w_tb [.ref x0, .int x1] h) (hQ κ w_cl (qI Q)) 0 0 (h_A κ) := by
  refine h_enter w_TBm (by decide) (Nat.le_of_ble_eq_true rfl) ?_
  intro p e s m args below meth c C0 hnm hh hS ls hl
  obtain ⟨hx, hb, hml, hown, hts, hK, hF0, hrt, hlocks⟩ := id C0
  have hl : lv_has ls 2 [(0, .ref x0), (1, .int x1)] := hl
  refine lv_iload_n hx hb d_Rows_unitsInUse_0 rfl (lv_at hl 1 rfl) ?_
  refine lv_bipush (v := 10) hx hb d_Rows_unitsInUse_1 (by decide) ?_
  refine lv_bipush (v := 13) hx hb d_Rows_unitsInUse_3 (by decide) ?_
  refine h_callS (n := 3) C0 w_TBm hh hS hl.1 [.int x1, .int (10 : Int32), .int (13 : Int32)] [] (S_Rows_isIn _ _ _ _ _ hw) k_m_Rows_75 k_stat_Rows_isIn k_ini_Rows k_code_Rows_isIn (by decide +kernel) rfl rfl (Nat.le_of_ble_eq_true rfl) ⟨(Nat.le_of_ble_eq_true rfl), (Nat.le_of_ble_eq_true rfl)⟩ ⟨(Nat.le_of_ble_eq_true rfl), (Nat.le_of_ble_eq_true rfl)⟩ d_Rows_unitsInUse_5 (h_kI (k := 0) (n := 0) (Nat.le_of_ble_eq_true rfl) (Nat.le_of_ble_eq_true rfl) (fun i17 h16 H locs hw hh hS => ?_))
  refine lv_if_ne (tgt := 13) hx hb d_Rows_unitsInUse_8 (by decide) (fun c18 => ?_) (fun c18 => ?_)
  · have hw := hw.1 c18
    refine lv_aload_n hx hb d_Rows_unitsInUse_13 rfl (lv_at hl 0 rfl) ?_
    obtain ⟨fs19, r22, hr20, hk21, hw⟩ := hw
    refine h_get C0 hh hr20 hk21 rfl i_Rows (by decide) k_f_Rows_38 (fun _ h9 => h9) d_Rows_unitsInUse_14 ?_
    obtain ⟨fs23, r26, hr24, hk25, hw⟩ := hw
    refine h_get C0 hh hr24 hk25 rfl i_Load (by decide) k_f_Rows_225 (fun _ h9 => h9) d_Rows_unitsInUse_17 ?_
    refine lv_iload_n hx hb d_Rows_unitsInUse_20 rfl (lv_at hl 1 rfl) ?_
    refine lv_bipush (v := 10) hx hb d_Rows_unitsInUse_21 (by decide) ?_
    refine lv_isub hx hb d_Rows_unitsInUse_23 ?_
    obtain ⟨n27, f28, hr29, hi30, hw⟩ := hw
    refine h_iald C0 hh hr29 hi30 rfl d_Rows_unitsInUse_24 ?_
    exact h_iret C0 hh hS rfl rfl ⟨_, rfl, hw⟩ d_Rows_unitsInUse_25
  · have hw := hw.2 c18
    refine lv_iconst (v := -1) hx hb d_Rows_unitsInUse_11 (by decide) ?_
    exact h_iret C0 hh hS rfl rfl ⟨_, rfl, hw⟩ d_Rows_unitsInUse_12
set_option maxHeartbeats 4000000 in
set_option maxRecDepth 100000 in
theorem S_Rows_count {l : Launch} {κ : hX} (Q : Int32 → hM → Prop) (h : hM) (x0 : Nat) (x1 : Int32) (hw : P_Rows_count Q h x0 x1) : Met l y_Rows_count [Cond.code y_Rows_count b_Rows_count 2 (some .int)] rm_Rows_count (hPc κ w_cl w_tl w_tb [.ref x0, .int x1] h) (hQ κ w_cl (qI Q)) 0 0 (h_A κ) := by
  refine h_enter w_TBm (by decide) (Nat.le_of_ble_eq_true rfl) ?_
  intro p e s m args below meth c C0 hnm hh hS ls hl
  obtain ⟨hx, hb, hml, hown, hts, hK, hF0, hrt, hlocks⟩ := id C0
  have hl : lv_has ls 2 [(0, .ref x0), (1, .int x1)] := hl
  refine lv_iload_n hx hb d_Rows_count_0 rfl (lv_at hl 1 rfl) ?_
  by_cases c59 : x1 = 0
  · have hw := hw.1 c59
    refine lv_tableIn (tgt := 40) hx hb d_Rows_count_1 (by rw [c59]; decide) (by rw [c59]; decide) (by rw [c59]; rfl) (by decide) ?_
    refine lv_aload_n hx hb d_Rows_count_40 rfl (lv_at hl 0 rfl) ?_
    obtain ⟨fs51, r54, hr52, hk53, hw⟩ := hw
    refine h_get C0 hh hr52 hk53 rfl i_Rows (by decide) k_f_Rows_10 (fun _ h9 => h9) d_Rows_count_41 ?_
    obtain ⟨fs55, hr56, hw⟩ := hw
    refine h_callV (n := 0) C0 w_TBm hh hS hl.1 [] [] (S_AL_size _ _ _ hw) hr56 rfl k_m_Rows_60 k_inst_AL_size k_sel_AL_size k_ini_AL k_code_AL_size (by decide +kernel) rfl rfl (Nat.le_of_ble_eq_true rfl) ⟨(Nat.le_of_ble_eq_true rfl), (Nat.le_of_ble_eq_true rfl)⟩ ⟨(Nat.le_of_ble_eq_true rfl), (Nat.le_of_ble_eq_true rfl)⟩ d_Rows_count_44 (h_kI (k := 0) (n := 0) (Nat.le_of_ble_eq_true rfl) (Nat.le_of_ble_eq_true rfl) (fun i58 h57 H locs hw hh hS => ?_))
    exact h_iret C0 hh hS rfl rfl ⟨_, rfl, hw⟩ d_Rows_count_47
  by_cases c68 : x1 = 1
  · have hw := hw.2.1 c68
    refine lv_tableIn (tgt := 48) hx hb d_Rows_count_1 (by rw [c68]; decide) (by rw [c68]; decide) (by rw [c68]; rfl) (by decide) ?_
    refine lv_aload_n hx hb d_Rows_count_48 rfl (lv_at hl 0 rfl) ?_
    obtain ⟨fs60, r63, hr61, hk62, hw⟩ := hw
    refine h_get C0 hh hr61 hk62 rfl i_Rows (by decide) k_f_Rows_16 (fun _ h9 => h9) d_Rows_count_49 ?_
    obtain ⟨fs64, hr65, hw⟩ := hw
    refine h_callV (n := 0) C0 w_TBm hh hS hl.1 [] [] (S_AL_size _ _ _ hw) hr65 rfl k_m_Rows_60 k_inst_AL_size k_sel_AL_size k_ini_AL k_code_AL_size (by decide +kernel) rfl rfl (Nat.le_of_ble_eq_true rfl) ⟨(Nat.le_of_ble_eq_true rfl), (Nat.le_of_ble_eq_true rfl)⟩ ⟨(Nat.le_of_ble_eq_true rfl), (Nat.le_of_ble_eq_true rfl)⟩ d_Rows_count_52 (h_kI (k := 0) (n := 0) (Nat.le_of_ble_eq_true rfl) (Nat.le_of_ble_eq_true rfl) (fun i67 h66 H locs hw hh hS => ?_))
    exact h_iret C0 hh hS rfl rfl ⟨_, rfl, hw⟩ d_Rows_count_55
  by_cases c77 : x1 = 2
  · have hw := hw.2.2.1 c77
    refine lv_tableIn (tgt := 56) hx hb d_Rows_count_1 (by rw [c77]; decide) (by rw [c77]; decide) (by rw [c77]; rfl) (by decide) ?_
    refine lv_aload_n hx hb d_Rows_count_56 rfl (lv_at hl 0 rfl) ?_
    refine lv_iconst (v := 0) hx hb d_Rows_count_57 (by decide) ?_
    obtain ⟨fs69, hr70, hw⟩ := hw
    refine h_callV (n := 1) C0 w_TBm hh hS hl.1 [.int (0 : Int32)] [] (S_Rows_jobsIn _ _ _ _ hw) hr70 rfl k_m_Rows_170 k_inst_Rows_jobsIn k_sel_Rows_jobsIn k_ini_Rows k_code_Rows_jobsIn (by decide +kernel) rfl rfl (Nat.le_of_ble_eq_true rfl) ⟨(Nat.le_of_ble_eq_true rfl), (Nat.le_of_ble_eq_true rfl)⟩ ⟨(Nat.le_of_ble_eq_true rfl), (Nat.le_of_ble_eq_true rfl)⟩ d_Rows_count_58 (h_kI (k := 0) (n := 0) (Nat.le_of_ble_eq_true rfl) (Nat.le_of_ble_eq_true rfl) (fun i72 h71 H locs hw hh hS => ?_))
    refine lv_aload_n hx hb d_Rows_count_61 rfl (lv_at hl 0 rfl) ?_
    refine lv_iconst (v := 1) hx hb d_Rows_count_62 (by decide) ?_
    obtain ⟨fs73, hr74, hw⟩ := hw
    refine h_callV (n := 1) C0 w_TBm hh hS hl.1 [.int (1 : Int32)] [.int i72] (S_Rows_jobsIn _ _ _ _ hw) hr74 rfl k_m_Rows_170 k_inst_Rows_jobsIn k_sel_Rows_jobsIn k_ini_Rows k_code_Rows_jobsIn (by decide +kernel) rfl rfl (Nat.le_of_ble_eq_true rfl) ⟨(Nat.le_of_ble_eq_true rfl), (Nat.le_of_ble_eq_true rfl)⟩ ⟨(Nat.le_of_ble_eq_true rfl), (Nat.le_of_ble_eq_true rfl)⟩ d_Rows_count_63 (h_kI (k := 0) (n := 0) (Nat.le_of_ble_eq_true rfl) (Nat.le_of_ble_eq_true rfl) (fun i76 h75 H locs hw hh hS => ?_))
    refine lv_iadd hx hb d_Rows_count_66 ?_
    exact h_iret C0 hh hS rfl rfl ⟨_, rfl, hw⟩ d_Rows_count_67
  by_cases c82 : x1 = 3
  · have hw := hw.2.2.2.1 c82
    refine lv_tableIn (tgt := 68) hx hb d_Rows_count_1 (by rw [c82]; decide) (by rw [c82]; decide) (by rw [c82]; rfl) (by decide) ?_
    refine lv_aload_n hx hb d_Rows_count_68 rfl (lv_at hl 0 rfl) ?_
    refine lv_iconst (v := 1) hx hb d_Rows_count_69 (by decide) ?_
    obtain ⟨fs78, hr79, hw⟩ := hw
    refine h_callV (n := 1) C0 w_TBm hh hS hl.1 [.int (1 : Int32)] [] (S_Rows_jobsIn _ _ _ _ hw) hr79 rfl k_m_Rows_170 k_inst_Rows_jobsIn k_sel_Rows_jobsIn k_ini_Rows k_code_Rows_jobsIn (by decide +kernel) rfl rfl (Nat.le_of_ble_eq_true rfl) ⟨(Nat.le_of_ble_eq_true rfl), (Nat.le_of_ble_eq_true rfl)⟩ ⟨(Nat.le_of_ble_eq_true rfl), (Nat.le_of_ble_eq_true rfl)⟩ d_Rows_count_70 (h_kI (k := 0) (n := 0) (Nat.le_of_ble_eq_true rfl) (Nat.le_of_ble_eq_true rfl) (fun i81 h80 H locs hw hh hS => ?_))
    exact h_iret C0 hh hS rfl rfl ⟨_, rfl, hw⟩ d_Rows_count_73
  by_cases c91 : x1 = 4
  · have hw := hw.2.2.2.2.1 c91
    refine lv_tableIn (tgt := 74) hx hb d_Rows_count_1 (by rw [c91]; decide) (by rw [c91]; decide) (by rw [c91]; rfl) (by decide) ?_
    refine lv_aload_n hx hb d_Rows_count_74 rfl (lv_at hl 0 rfl) ?_
    obtain ⟨fs83, r86, hr84, hk85, hw⟩ := hw
    refine h_get C0 hh hr84 hk85 rfl i_Rows (by decide) k_f_Rows_38 (fun _ h9 => h9) d_Rows_count_75 ?_
    obtain ⟨fs87, i90, hr88, hk89, hw⟩ := hw
    refine h_get C0 hh hr88 hk89 rfl i_Load (by decide) k_f_Rows_174 (fun _ h9 => h9) d_Rows_count_78 ?_
    exact h_iret C0 hh hS rfl rfl ⟨_, rfl, hw⟩ d_Rows_count_81
  by_cases c96 : x1 = 5
  · have hw := hw.2.2.2.2.2.1 c96
    refine lv_tableIn (tgt := 82) hx hb d_Rows_count_1 (by rw [c96]; decide) (by rw [c96]; decide) (by rw [c96]; rfl) (by decide) ?_
    refine lv_aload_n hx hb d_Rows_count_82 rfl (lv_at hl 0 rfl) ?_
    obtain ⟨fs92, hr93, hw⟩ := hw
    refine h_callV (n := 0) C0 w_TBm hh hS hl.1 [] [] (S_Rows_drainedAndIdle _ _ _ hw) hr93 rfl k_m_Rows_177 k_inst_Rows_drainedAndIdle k_sel_Rows_drainedAndIdle k_ini_Rows k_code_Rows_drainedAndIdle (by decide +kernel) rfl rfl (Nat.le_of_ble_eq_true rfl) ⟨(Nat.le_of_ble_eq_true rfl), (Nat.le_of_ble_eq_true rfl)⟩ ⟨(Nat.le_of_ble_eq_true rfl), (Nat.le_of_ble_eq_true rfl)⟩ d_Rows_count_83 (h_kI (k := 0) (n := 0) (Nat.le_of_ble_eq_true rfl) (Nat.le_of_ble_eq_true rfl) (fun i95 h94 H locs hw hh hS => ?_))
    exact h_iret C0 hh hS rfl rfl ⟨_, rfl, hw⟩ d_Rows_count_86
  have hw := hw.2.2.2.2.2.2 ⟨c59, c68, c77, c82, c91, c96⟩
  refine lv_tableOut (tgt := 87) hx hb d_Rows_count_1 (by have n0 := lv_neT (a := 0) c59 (by decide); have n1 := lv_neT (a := 1) c68 (by decide); have n2 := lv_neT (a := 2) c77 (by decide); have n3 := lv_neT (a := 3) c82 (by decide); have n4 := lv_neT (a := 4) c91 (by decide); have n5 := lv_neT (a := 5) c96 (by decide); omega) (by decide) ?_
  refine lv_aload_n hx hb d_Rows_count_87 rfl (lv_at hl 0 rfl) ?_
  refine lv_iload_n hx hb d_Rows_count_88 rfl (lv_at hl 1 rfl) ?_
  obtain ⟨fs97, hr98, hw⟩ := hw
  refine h_callV (n := 1) C0 w_TBm hh hS hl.1 [.int x1] [] (S_Rows_unitsInUse _ _ _ _ hw) hr98 rfl k_m_Rows_180 k_inst_Rows_unitsInUse k_sel_Rows_unitsInUse k_ini_Rows k_code_Rows_unitsInUse (by decide +kernel) rfl rfl (Nat.le_of_ble_eq_true rfl) ⟨(Nat.le_of_ble_eq_true rfl), (Nat.le_of_ble_eq_true rfl)⟩ ⟨(Nat.le_of_ble_eq_true rfl), (Nat.le_of_ble_eq_true rfl)⟩ d_Rows_count_89 (h_kI (k := 0) (n := 0) (Nat.le_of_ble_eq_true rfl) (Nat.le_of_ble_eq_true rfl) (fun i100 h99 H locs hw hh hS => ?_))
  exact h_iret C0 hh hS rfl rfl ⟨_, rfl, hw⟩ d_Rows_count_92
set_option maxHeartbeats 4000000 in
set_option maxRecDepth 100000 in
theorem S_Rows_sumOfWeights_4 {p : Program} {l : Launch} {e : Env} {s : State} {m : MethodId} {args : Array Value} {below : List Frame} {meth : Method} {c : Code} {κ : hX} {Q : Int64 → hM → Prop} (C0 : Cw κ w_cl w_tl w_tb p s m args meth c b_Rows_sumOfWeights 4 R_Rows (some .long)) : ∀ (n : Nat) (h : hM) (x0 : Nat) (x1 : Int64) (x3 : Int32) (H : Heap) (locs : List Loc) (ls : Array Slot), L_Rows_sumOfWeights_4 Q n h x0 x1 x3 → hp κ w_cl h H → va_S (h_A κ) s.heap H locs → lv_has ls 4 [(0, .ref x0), (1, .long x1), (3, .int x3)] → W p l e rm_Rows_sumOfWeights s m args below meth c H locs 0 0 (MQ below (hQ κ w_cl (qJ Q)) args s 0 0 (h_A κ)) (F0 m 4 ls []) := by
  obtain ⟨hx, hb, hml, hown, hts, hK, hF0, hrt, hlocks⟩ := id C0
  intro n
  induction n with
  | zero =>
    intro h x0 x1 x3 H locs ls hw
    exact hw.elim
  | succ n hK4 =>
    intro h x0 x1 x3 H locs ls hw hh hS hl
    have hw : P_Rows_sumOfWeights_4 Q (L_Rows_sumOfWeights_4 Q n) h x0 x1 x3 := hw
    refine lv_iload_n hx hb d_Rows_sumOfWeights_4 rfl (lv_at hl 2 rfl) ?_
    refine lv_aload_n hx hb d_Rows_sumOfWeights_5 rfl (lv_at hl 0 rfl) ?_
    obtain ⟨fs37, r40, hr38, hk39, hw⟩ := hw
    refine h_get C0 hh hr38 hk39 rfl i_Rows (by decide) k_f_Rows_29 (fun _ h9 => h9) d_Rows_sumOfWeights_6 ?_
    obtain ⟨n41, f42, hr43, hw⟩ := hw
    refine h_alenT C0 hh hr43 (rfl : w_tl[0]? = _) d_Rows_sumOfWeights_9 ?_
    refine lv_icmp_ge (tgt := 29) hx hb d_Rows_sumOfWeights_10 (by decide) (fun c44 => ?_) (fun c44 => ?_)
    · have hw := hw.1 c44
      refine lv_lload_n hx hb d_Rows_sumOfWeights_29 rfl (lv_at hl 1 rfl) ?_
      exact h_lret C0 hh hS rfl ⟨_, rfl, hw⟩ d_Rows_sumOfWeights_30
    · have hw := hw.2 c44
      refine lv_lload_n hx hb d_Rows_sumOfWeights_13 rfl (lv_at hl 1 rfl) ?_
      refine lv_aload_n hx hb d_Rows_sumOfWeights_14 rfl (lv_at hl 0 rfl) ?_
      obtain ⟨fs45, r48, hr46, hk47, hw⟩ := hw
      refine h_get C0 hh hr46 hk47 rfl i_Rows (by decide) k_f_Rows_29 (fun _ h9 => h9) d_Rows_sumOfWeights_15 ?_
      refine lv_iload_n hx hb d_Rows_sumOfWeights_18 rfl (lv_at hl 2 rfl) ?_
      obtain ⟨n49, f50, hr51, hi52, hw⟩ := hw
      refine h_iald C0 hh hr51 hi52 rfl d_Rows_sumOfWeights_19 ?_
      refine lv_i2l (v := (f50 x3.toNatClampNeg).toInt64) hx hb d_Rows_sumOfWeights_20 rfl ?_
      refine lv_ladd hx hb d_Rows_sumOfWeights_21 ?_
      refine lv_topl (fun x1_53 ex1_53 => ?_)
      have hw := hw x1_53 ex1_53
      refine lv_lstore_n (lv' := [(1, .long x1_53), (0, .ref x0), (3, .int x3)]) hx hb d_Rows_sumOfWeights_22 rfl hl (by decide) rfl (fun ls hl => ?_)
      obtain ⟨x3_54, ex3_54⟩ : ∃ z : Int32, z = x3 + 1 := ⟨_, rfl⟩
      have hw := hw x3_54 ex3_54
      refine lv_iinc (v := x3_54) (lv' := [(3, .int x3_54), (1, .long x1_53), (0, .ref x0)]) hx hb d_Rows_sumOfWeights_23 hl (k := 2) rfl (by rw [ex3_54]; rfl) (by decide) rfl (fun ls hl => ?_)
      refine lv_goto (tgt := 4) hx hb d_Rows_sumOfWeights_26 (by decide) ?_
      exact hK4 _ _ _ _ _ _ _ hw hh hS (lv_sub hl [2, 1, 0] rfl)
set_option maxHeartbeats 4000000 in
set_option maxRecDepth 100000 in
theorem S_Rows_sumOfWeights {l : Launch} {κ : hX} (Q : Int64 → hM → Prop) (h : hM) (x0 : Nat) (hw : P_Rows_sumOfWeights Q h x0) : Met l y_Rows_sumOfWeights [Cond.code y_Rows_sumOfWeights b_Rows_sumOfWeights 4 (some .long)] rm_Rows_sumOfWeights (hPc κ w_cl w_tl w_tb [.ref x0] h) (hQ κ w_cl (qJ Q)) 0 0 (h_A κ) := by
  refine h_enter w_TBm (by decide) (Nat.le_of_ble_eq_true rfl) ?_
  intro p e s m args below meth c C0 hnm hh hS ls hl
  obtain ⟨hx, hb, hml, hown, hts, hK, hF0, hrt, hlocks⟩ := id C0
  have hl : lv_has ls 4 [(0, .ref x0)] := hl
  refine lv_lconst (v := 0) hx hb d_Rows_sumOfWeights_0 (by decide) ?_
  refine lv_lstore_n (lv' := [(1, .long (0 : Int64)), (0, .ref x0)]) hx hb d_Rows_sumOfWeights_1 rfl hl (by decide) rfl (fun ls hl => ?_)
  refine lv_iconst (v := 0) hx hb d_Rows_sumOfWeights_2 (by decide) ?_
  refine lv_istore_n (lv' := [(3, .int (0 : Int32)), (1, .long (0 : Int64)), (0, .ref x0)]) hx hb d_Rows_sumOfWeights_3 rfl hl (by decide) rfl (fun ls hl => ?_)
  obtain ⟨n0, hw⟩ := hw
  exact S_Rows_sumOfWeights_4 C0 n0 _ _ _ _ _ _ _ hw hh hS (lv_sub hl [2, 1, 0] rfl)
end
