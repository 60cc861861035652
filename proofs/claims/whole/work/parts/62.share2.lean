/-! share of the class, where it throws; the law's own share -/
def tw_at : List Cond := Bundle.ownAtoms R_Rows 153 "java/lang/ArithmeticException" ["java/lang/RuntimeException", "java/lang/Exception"]
def tw_u : Cond := .isRef (.static Bundle.tN "UNASSIGNED_STACK" Bundle.steD)
def tw_s : Cond := .isRef (.static Bundle.tN "SUPPRESSED_SENTINEL" Bundle.listD)
def tw_y : Cond := .laysStatic Bundle.tN "UNASSIGNED_STACK" Bundle.steD
def tw_z : Cond := .laysStatic Bundle.tN "SUPPRESSED_SENTINEL" Bundle.listD
set_option maxRecDepth 100000 in
theorem tw_in : ∀ w ∈ tw_at, w = tw_u ∨ w = tw_s ∨ w = tw_y ∨ w = tw_z ∨ w ∈ w_tb := by decide +kernel
/-- a static field is laid out in the heap with which the law began -/
def hLy (κ : hX) (C n d : String) (U : State) : Prop := (Cond.laysStatic C n d).before #[] ({ U with heap := κ.2.2.1 } : State) = true
theorem hLy.moved {κ : hX} {C n d : String} {u U : State} (hvm : u.vm.Alike U.vm) (h : hLy κ C n d u) : hLy κ C n d U := by
  have := Cond.laysStatic_setVm (s := ({ u with heap := κ.2.2.1 } : State)) (vm' := U.vm) hvm h
  exact this
theorem hLy.use {κ : hX} {C n d : String} {s : State} {args : Array Value} (h : hLy κ C n d s) (hF0 : hF κ s.heap) : (Cond.laysStatic C n d).before args s = true := by
  obtain ⟨c, k, i, f, a, cell, h1, h2, h3, h4, h5, h6, h7, h8, h9⟩ := Cond.laysStatic_spec (args := #[]) (first := ({ s with heap := κ.2.2.1 } : State)) (o := none) (s := ({ s with heap := κ.2.2.1 } : State)) (idx := []) h
  have ha : a < h_z κ := (Array.getElem?_eq_some_iff.mp h5).1
  exact Cond.laysStatic_of (s := s) h1 h2 h3 h4 ((hF0.2 a ha).trans h5) h6 h7 h8 h9
/-- what a throw needs of the world besides the tables -/
def hZt (κ : hX) (U : State) : Prop := ∃ (v1 v2 : Value) (a : Nat), v1.isRef = true ∧ v2.isRef = true ∧ va_Z Bundle.tN "UNASSIGNED_STACK" Bundle.steD v1 (h_A κ) U κ.2.2.1 ∧ va_Z Bundle.tN "SUPPRESSED_SENTINEL" Bundle.listD v2 (h_A κ) U κ.2.2.1 ∧ vk_R R_Rows 151 "all weights are 0" a U ∧ hLy κ Bundle.tN "UNASSIGNED_STACK" Bundle.steD U ∧ hLy κ Bundle.tN "SUPPRESSED_SENTINEL" Bundle.listD U
theorem hZt.warm {κ : hX} {u U : State} (hW : u.WarmedH U.vm) (h : hZt κ u) : hZt κ U := by
  obtain ⟨v1, v2, a, h1, h2, h3, h4, h5, h6, h7⟩ := h
  exact ⟨v1, v2, a, h1, h2, va_Z.moved hW.alike h3, va_Z.moved hW.alike h4, h5.warm hW, h6.moved hW.alike, h7.moved hW.alike⟩
theorem tw_isRef {C n d : String} {v : Value} {A : Nat → Prop} {U : State} {args : Array Value} (hv : v.isRef = true) (h : va_Z C n d v A U U.heap) : (Cond.isRef (.static C n d)).before args U = true := by
  obtain ⟨cf, kf, fi, f, a, cell, h1, h2, h3, h4, h5, h6, h7, -⟩ := h
  have he : (Term.static C n d).eval args U none [] U = some v := by
    simp [Term.eval, State.fieldNamed?, h1, h2, h4, h5, h6, h7]
  simp only [Cond.before, Cond.holds, Cond.value]
  rw [he]
  cases v <;> simp [Value.isRef] at hv ⊢
theorem hZt.use {κ : hX} {s : State} {args : Array Value} (h : hZt κ s) (hF0 : hF κ s.heap) (hts : ∀ w ∈ w_tb, w.before args s = true) : ∀ w ∈ tw_at, w.before args s = true := by
  obtain ⟨v1, v2, a, h1, h2, h3, h4, h5, h6, h7⟩ := h
  intro w hw
  rcases tw_in w hw with rfl | rfl | rfl | rfl | hw
  · exact tw_isRef h1 (va_Z.kept h3 (fun q _ hq => hF0.2 q (Nat.not_le.mp hq)))
  · exact tw_isRef h2 (va_Z.kept h4 (fun q _ hq => hF0.2 q (Nat.not_le.mp hq)))
  · exact h6.use hF0
  · exact h7.use hF0
  · exact hts w hw
theorem hp.keep {κ : hX} {cl : List vw_C} {h : hM} {H H1 : Heap} (hh : hp κ cl h H) (hk : ∀ q : Nat, q < H.size → H1[q]? = H[q]?) : hp κ cl h H1 := by
  obtain ⟨ws, hP, hD, hl, he⟩ := hh
  exact ⟨ws, hP.kept (fun k q hq => hk _ (hP k q hq).lt), hD, hl, he⟩
def hPt (κ : hX) (cl : List vw_C) (tl : List FieldType) (TB : List Cond) (av : List Value) (h : hM) : Array Value → State → Prop := fun a U => hPc κ cl tl TB av h a U ∧ hZt κ U
theorem hPt.blind {κ : hX} {cl : List vw_C} {tl : List FieldType} {TB : List Cond} (hT : TBm TB) {av : List Value} {h : hM} : FrameBlind (hPt κ cl tl TB av h) := fun a U g mk q => ⟨hPc.blind hT a U g mk q.1, hZt.warm (U := U.calling g mk a) (State.WarmedH.refl U) q.2⟩
/-- it threw, and the world is .. -/
def TQ (κ : hX) (cl : List vw_C) (Tp : hM → Prop) (st : State) (o : Outcome) (t : State) : Prop := ∃ x : Addr, o = .threw x ∧ st.WarmedH t.vm ∧ (∃ L : List Loc, st.sameButNew ({ t with vm := st.vm } : State) L 1 6 ∧ ∀ q ∈ L, h_A κ q.base) ∧ va_F (h_A κ) st t ∧ (∃ u : hM, Tp u ∧ hp κ cl u t.heap) ∧ ∃ ce : Cell, t.heap[x]? = some ce ∧ ce.vm = .none ∧ st.vm.findClass "java/lang/ArithmeticException" = some ce.cls
abbrev rmT : Room := { frames := 6, cells := 1, slots := 6, locals := 100 }
def MetT (l : Launch) (κ : hX) (y : MethodName) (ws : List Cond) (Pc : Array Value → State → Prop) (Tp : hM → Prop) : Prop := MetFree l y (headSpec ws rmT) Pc (fun _ _ _ _ _ => True) (fun _ st o t => TQ κ w_cl Tp st o t)
theorem d_Rows_share_30 : decode b_Rows_share 30 = .ok (.new 149, 3) := by decide +kernel
theorem d_Rows_share_33 : decode b_Rows_share 33 = .ok (.dup, 1) := by decide +kernel
theorem d_Rows_share_34 : decode b_Rows_share 34 = .ok (.ldc 151, 2) := by decide +kernel
theorem d_Rows_share_36 : decode b_Rows_share 36 = .ok (.invokespecial 153, 3) := by decide +kernel
theorem d_Rows_share_39 : decode b_Rows_share 39 = .ok (.athrow, 1) := by decide +kernel
theorem k_c_Rows_149 : Cond.classLink R_Rows 149 "java/lang/ArithmeticException" ∈ w_tb := by decide +kernel
theorem k_made_AE : Cond.instantiable "java/lang/ArithmeticException" 6 ∈ w_tb := by decide +kernel
theorem k_ini_AE : Cond.initialized "java/lang/ArithmeticException" ∈ w_tb := by decide +kernel
section S2
variable {p : Program} {l : Launch} {e : Env} {s : State} {m : MethodId} {args : Array Value} {below : List Frame} {meth : Method} {c : Code} {H : Heap} {locs : List Loc} {ls : Array Slot} {κ : hX} {h : hM} {Tp : hM → Prop}
set_option maxHeartbeats 4000000 in
set_option maxRecDepth 100000 in
theorem tw_end (C0 : Cw κ w_cl w_tl w_tb p s m args meth c b_Rows_share 17 R_Rows (some .long)) (hfl : l.flags = Jvm.pinnedFlags ++ [Jvm.noTraceFlag]) (hzt : hZt κ s) (htab : c.exceptionTable.toList = []) (hh : hp κ w_cl h H) (hS : va_S (h_A κ) s.heap H locs) (hls : ls.size = 17) (hT : Tp h) : W p l e rmT s m args below meth c H locs 0 0 (fun t => ∃ o, t.status = .running ∧ Ended t below o ∧ TQ κ w_cl Tp s o t) (F0 m 30 ls []) := by
  obtain ⟨hx, hb, hml, hown, hts, hK, hF0, hZ0, hret, hlocks⟩ := C0
  have hat := hzt.use hF0 hts
  obtain ⟨v1, v2, aS, i1, i2, z1, z2, z3, -, -⟩ := hzt
  refine W.newc hx hb hown (hts _ k_c_Rows_149) (hts _ k_made_AE) (hts _ k_ini_AE) rfl d_Rows_share_30 (by decide) (by decide) (fun cC kC h1 h2 h3 h4 => ?_)
  refine W.eq (g2 := F0 m 33 ls [.ref H.size]) rfl ?_
  refine lv_dup hx hb d_Rows_share_33 rfl ?_
  intro T hT1 X
  have st1 := X.ldcString (g := F0 m 34 ls [.ref H.size, .ref H.size]) hx hown (z3.1) (z3.2) rfl (by rw [hb]; exact d_Rows_share_34)
  have hsz : T.heap.size = H.size + 1 := by rw [hT1, Array.size_push]
  have hcl : T.heap[H.size]? = some (freshCell cC kC) := by rw [hT1]; simp
  obtain ⟨U, go, r1, r2, r3, r4, r5, r6, ce, q1, q2, q3⟩ := tw_go (g := F0 m 36 ls [.ref aS, .ref H.size, .ref H.size]) X hx (Launch.traces_off hfl X.admits) hown (cls := "java/lang/ArithmeticException") (names := ["java/lang/RuntimeException", "java/lang/Exception"]) (ic := 153) (by decide) (by decide) hat (fun cf kf i f hf aS hs j hj => by
      obtain ⟨cf', kf', fi', f', a', cell', g1, g2, g3, g4, g5, g6, g7, g8⟩ := z1
      have e1 := Option.some.inj (hf.symm.trans g1)
      simp only [Prod.mk.injEq] at e1
      obtain ⟨-, rfl, -, -⟩ := e1
      cases Option.some.inj (hs.symm.trans g4)
      exact g8 (hS.2.2 _ hj)) h1 h2 hcl hS.1 (msg := .ref aS) rfl rfl (by rw [hls, hml]) rfl rfl (rest := []) rfl (by rw [hb]; exact d_Rows_share_36) (by rw [hb]; exact d_Rows_share_39) (by rw [htab]; exact fun y hy => absurd hy List.not_mem_nil) (by decide) (Nat.le_of_ble_eq_true rfl) hlocks
  have hU : ∀ q : Nat, q < H.size → U.heap[q]? = H[q]? := fun q hq => by
    rw [r5 q (by omega), hT1, Array.getElem?_push_lt hq]
    exact (Array.getElem?_eq_getElem hq).symm
  refine ⟨U, st1 U go, _, r1, r2, H.size, rfl, r3, ⟨locs, r4, hS.2.2⟩, ⟨by rw [r6, hsz]; have := hS.1; omega, fun q g1 g2 => ?_⟩, ⟨h, hT, hh.keep hU⟩, ce, q1, q2, by rw [q3]; exact h1⟩
  rw [hU q (Nat.lt_of_lt_of_le g1 hS.1)]
  exact hS.2.1 q g1 g2
/-- what must hold so that share throws, and Tp holds of the world then -/
def PT_share (Tp : hM → Prop) (h : hM) (x0 : Nat) (x1 : Int32) (x2 : Int64) : Prop := P_Rows_isClass (fun i h1 => ¬ i = 0 ∧ (0 : Int64) ≤ x2 ∧ ∃ fs : List Value, rd h1 x0 = some (eO 0 fs) ∧ P_Rows_sumOfWeights (fun j h2 => ¬ (0 : Int64) < j ∧ Tp h2) h1 x0) h x1
set_option maxHeartbeats 4000000 in
set_option maxRecDepth 100000 in
theorem S_thr (hfl : l.flags = Jvm.pinnedFlags ++ [Jvm.noTraceFlag]) {x0 : Nat} {x1 : Int32} {x2 : Int64} (hw : PT_share Tp h x0 x1 x2) : MetT l κ y_Rows_share [Cond.code y_Rows_share b_Rows_share 17 (some .long)] (hPt κ w_cl w_tl w_tb [.ref x0, .int x1, .long x2] h) Tp := by
  refine MetFree.of_bodyS (code := b_Rows_share) (maxLocals := 17) (ret := some .long) (by decide) ?_ ?_
  · intro args s m g hn
    obtain ⟨meth, c, h1, h2, h3, h4, h5, h6, -, -⟩ := Cond.code_spec hn (atoms_spec (ws := [Cond.code y_Rows_share b_Rows_share 17 (some .long)]) g _ List.mem_cons_self)
    exact ⟨meth, c, h1, h2, h3, h4, h5, h6⟩
  · intro p e s m args below meth c s₁ B hml hv _
    have hh0 : s₁.heap = s.heap := by rw [B.state]; rfl
    obtain ⟨⟨rfl, hh, hwd, hK, hF0, hZ0⟩, hzt⟩ := hv
    have hown : s.vm.findClass R_Rows = some m.cls := findClass_of_methodNamed B.named
    have htab : c.exceptionTable.toList = [] := by
      have h1 := BodyLoose.noHandlers B (atoms_spec (ws := [Cond.code y_Rows_share b_Rows_share 17 (some .long)]) B.pre _ List.mem_cons_self)
      have h0 : c.exceptionTable.size = 0 := by simpa [Array.isEmpty] using h1
      exact List.eq_nil_of_length_eq_zero (by simpa using h0)
    have C0 : Cw κ w_cl w_tl w_tb p s m [.ref x0, .int x1, .long x2].toArray meth c b_Rows_share 17 R_Rows (some .long) := ⟨B.exec, B.bytes, hml, hown, fun w hw1 => w_TBm w hw1 #[] _ s s (State.WarmedH.refl s) (hwd w hw1), hK, hF0, hZ0, B.returns, B.notSynchronized⟩
    have hS : va_S (h_A κ) s.heap s.heap [] := va_S.rf
    have K : W p l e rmT s m [.ref x0, .int x1, .long x2].toArray below meth c s.heap [] 0 0 (fun t => ∃ o, t.status = .running ∧ Ended t below o ∧ TQ κ w_cl Tp s o t) (entryFrame m [.ref x0, .int x1, .long x2].toArray 17) := by
      rw [lg_entry_eq]
      have hl := lv_entry [.ref x0, .int x1, .long x2] (n := 17) (Nat.le_of_ble_eq_true rfl)
      generalize (lg_sl [.ref x0, .int x1, .long x2] ++ List.replicate (17 - (lg_sl [.ref x0, .int x1, .long x2]).length) Slot.unset).toArray = ls at hl ⊢
      have hl : lv_has ls 17 [(0, .ref x0), (1, .int x1), (2, .long x2)] := hl
      obtain ⟨hx, hb, hml, hown, hts, hK, hF0, hrt, hlocks⟩ := id C0
      refine lv_iload_n hx hb d_Rows_share_0 rfl (lv_at hl 1 rfl) ?_
      refine h_callS (n := 1) C0 w_TBm hh hS hl.1 [.int x1] [] (S_Rows_isClass _ _ _ hw) k_m_Rows_79 k_stat_Rows_isClass k_ini_Rows k_code_Rows_isClass (by decide +kernel) rfl rfl (Nat.le_of_ble_eq_true rfl) ⟨(Nat.le_of_ble_eq_true rfl), (Nat.le_of_ble_eq_true rfl)⟩ ⟨(Nat.le_of_ble_eq_true rfl), (Nat.le_of_ble_eq_true rfl)⟩ d_Rows_share_1 (h_kI (k := 0) (n := 0) (Nat.le_of_ble_eq_true rfl) (Nat.le_of_ble_eq_true rfl) (fun i166 h165 H locs hw hh hS => ?_))
      obtain ⟨w1, w2, fs169, hr170, hw⟩ := hw
      refine lv_if_eq (tgt := 13) hx hb d_Rows_share_4 (by decide) (fun c167 => absurd c167 w1) (fun c167 => ?_)
      refine lv_lload_n hx hb d_Rows_share_7 rfl (lv_at hl 2 rfl) ?_
      refine lv_lconst (v := 0) hx hb d_Rows_share_8 (by decide) ?_
      refine W.lcmp hx hb d_Rows_share_9 ?_
      refine lv_if_ge (tgt := 17) hx hb d_Rows_share_10 (by decide) (fun c168 => ?_) (fun c168 => absurd ((lg_cmp_ge _ _).mpr w2) c168)
      refine lv_aload_n hx hb d_Rows_share_17 rfl (lv_at hl 0 rfl) ?_
      refine h_callV (n := 0) C0 w_TBm hh hS hl.1 [] [] (S_Rows_sumOfWeights _ _ _ hw) hr170 rfl k_m_Rows_145 k_inst_Rows_sumOfWeights k_sel_Rows_sumOfWeights k_ini_Rows k_code_Rows_sumOfWeights (by decide +kernel) rfl rfl (Nat.le_of_ble_eq_true rfl) ⟨(Nat.le_of_ble_eq_true rfl), (Nat.le_of_ble_eq_true rfl)⟩ ⟨(Nat.le_of_ble_eq_true rfl), (Nat.le_of_ble_eq_true rfl)⟩ d_Rows_share_18 (h_kJ (k := 0) (n := 0) (Nat.le_of_ble_eq_true rfl) (Nat.le_of_ble_eq_true rfl) (fun j172 h171 H locs hw hh hS => ?_))
      refine lv_lstore (lv' := [(4, .long j172), (0, .ref x0), (1, .int x1), (2, .long x2)]) hx hb d_Rows_share_21 hl (by decide) rfl (fun ls hl => ?_)
      refine lv_lload hx hb d_Rows_share_23 (lv_at hl 0 rfl) ?_
      refine lv_lconst (v := 0) hx hb d_Rows_share_25 (by decide) ?_
      refine W.lcmp hx hb d_Rows_share_26 ?_
      refine lv_if_gt (tgt := 40) hx hb d_Rows_share_27 (by decide) (fun c173 => absurd ((lg_cmp_gt _ _).mp c173) hw.1) (fun c173 => ?_)
      exact tw_end C0 hfl hzt htab hh hS hl.1 hw.2
    obtain ⟨t, a1, o, b1, b2, b3⟩ := K s₁ hh0 (Stand.of_body B)
    exact ⟨t, o, a1, b1, b2, b3⟩
end S2
