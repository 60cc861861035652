abbrev b_Law_share : ByteArray := method_3_code
def y_Law_share : MethodName := ⟨R_Law, "share", "(LInitiatorRows;IJ[J)I"⟩
abbrev rm_Law_share : Room := { frames := 7, cells := 1, slots := 6, locals := 136 }
abbrev w_Law_share : Cond := Cond.codeWith y_Law_share b_Law_share 6 (some .int) [(0, 10, 13, 13)]
theorem d_Law_share_0 : decode b_Law_share 0 = .ok (.aload 4, 2) := by decide +kernel
theorem d_Law_share_2 : decode b_Law_share 2 = .ok (.iconst 0, 1) := by decide +kernel
theorem d_Law_share_3 : decode b_Law_share 3 = .ok (.aload_n 0, 1) := by decide +kernel
theorem d_Law_share_4 : decode b_Law_share 4 = .ok (.iload_n 1, 1) := by decide +kernel
theorem d_Law_share_5 : decode b_Law_share 5 = .ok (.lload_n 2, 1) := by decide +kernel
theorem d_Law_share_6 : decode b_Law_share 6 = .ok (.invokevirtual 7, 3) := by decide +kernel
theorem d_Law_share_9 : decode b_Law_share 9 = .ok (.lastore, 1) := by decide +kernel
theorem d_Law_share_10 : decode b_Law_share 10 = .ok (.goto 7, 3) := by decide +kernel
theorem d_Law_share_13 : decode b_Law_share 13 = .ok (.astore 5, 2) := by decide +kernel
theorem d_Law_share_15 : decode b_Law_share 15 = .ok (.iconst 1, 1) := by decide +kernel
theorem d_Law_share_16 : decode b_Law_share 16 = .ok (.ireturn, 1) := by decide +kernel
theorem d_Law_share_17 : decode b_Law_share 17 = .ok (.iconst 0, 1) := by decide +kernel
theorem d_Law_share_18 : decode b_Law_share 18 = .ok (.ireturn, 1) := by decide +kernel
theorem k_m_Law_7 : Cond.methodLink R_Law 7 y_Rows_share ∈ w_tb := by decide +kernel
theorem k_c_Law_13 : Cond.classLink R_Law 13 "java/lang/ArithmeticException" ∈ w_tb := by decide +kernel
theorem k_cast_AE : Cond.castable "java/lang/ArithmeticException" "java/lang/ArithmeticException" ∈ w_tb := by decide +kernel
theorem k_inst_Rows_share : Cond.instanceMethod y_Rows_share ∈ w_tb := by decide +kernel
theorem k_sel_Rows_share : Cond.selects R_Rows y_Rows_share y_Rows_share ∈ w_tb := by decide +kernel
theorem k_code_Law_share : w_Law_share ∈ w_tb := by decide +kernel
theorem k_stat_Law_share : Cond.static y_Law_share ∈ w_tb := by decide +kernel
theorem k_ini_Law : Cond.initialized R_Law ∈ w_tb := by decide +kernel
section LSH
variable {p : Program} {l : Launch} {e : Env} {R : Room} {s : State} {m : MethodId} {args : Array Value} {below : List Frame} {meth : Method} {c : Code} {H : Heap} {locs : List Loc} {cells slots : Nat} {Q : State → Prop}
variable {cc : ByteArray} {pc nL : Nat} {ls : Array Slot} {κ : hX} {own : String} {ret : Option FieldType} {h : hM} {Tp : hM → Prop}
set_option maxHeartbeats 4000000 in
/-- a call of share that throws, and is caught in the caller -/
theorem tw_call (C0 : Cw κ w_cl w_tl w_tb p s m args meth c cc nL own ret) (hzt : hZt κ s) {en : ExceptionTableEntry} {tab : List ExceptionTableEntry} (htab : c.exceptionTable.toList = en :: tab) (hcv : covers en pc = true) {ix : Nat} (hct : en.catchType = ix) (hix : ix ≠ 0) (m13 : Cond.classLink own ix "java/lang/ArithmeticException" ∈ w_tb) (hh : hp κ w_cl h H) (hS : va_S (h_A κ) s.heap H locs) (hls : ls.size = nL) {index b : Nat} {fs : List Value} (As : List Value) (rest : List Value) {st0 : List Value}
    (hMT : MetT l κ y_Rows_share [Cond.code y_Rows_share b_Rows_share 17 (some .long)] (hPt κ w_cl w_tl w_tb (.ref b :: As) h) Tp) (hb : rd h b = some (eO 0 fs)) (m1 : Cond.methodLink own index y_Rows_share ∈ w_tb) (hn : As.length = 2) (hst : st0 = As.reverse ++ .ref b :: rest) (hroom : (rest.map fun v => v.category).sum ≤ 8) (hR : 7 ≤ R.frames ∧ 136 ≤ R.locals) (hf : cells + 1 ≤ R.cells ∧ slots + 6 ≤ R.slots) (hdg : decode cc pc = .ok (.invokevirtual index, 3))
    (kk : ∀ (x : Nat) (u : hM) (H1 : Heap) (locs1 : List Loc), Tp u → hp κ w_cl u H1 → va_S (h_A κ) s.heap H1 locs1 → W p l e R s m args below meth c H1 locs1 (cells + 1) (slots + 6) Q (F0 m en.handlerPc ls [.ref x])) : W p l e R s m args below meth c H locs cells slots Q (F0 m pc ls st0) := by
  have hpre : ∀ U : State, U.heap = H → s.WarmedH U.vm → hPt κ w_cl w_tl w_tb (.ref b :: As) h (.ref b :: As).toArray U := fun U hU hW => ⟨h_pre (av := .ref b :: As) C0 w_TBm hh hS U hU hW, hzt.warm hW⟩
  obtain ⟨cellB, hcB, hoB, hclB⟩ := h_recv C0 hh hb (C := R_Rows) rfl
  obtain ⟨hx, hbc, hml, hown, hts, hK, hF0, hZ0, hret, hlocks⟩ := C0
  have hwd : ∀ w ∈ w_tb, ∀ (a : Array Value) (U : State), s.WarmedH U.vm → w.before a U = true := fun w hw a U hW => w_TBm w hw args a s U hW (hts w hw)
  intro T hT X
  obtain ⟨mk, methM, hnamed, hmethM, hstM, habM⟩ := Cond.instanceMethod_spec (hts _ k_inst_Rows_share)
  obtain ⟨methM', cM, hmethM', hcM, -, hlM, -, -, -, hsigM⟩ := Cond.code_spec hnamed (hts _ k_code_Rows_share)
  cases hmethM.symm.trans hmethM'
  obtain ⟨c2, r2, m2, q1, q2, q3, q4, kP, hkP, hkPi⟩ := Cond.selects_spec (hts _ k_sel_Rows_share)
  cases hclB.symm.trans q1
  cases (State.methodFound?_of_named hnamed (by decide)).symm.trans q2
  cases hnamed.symm.trans q3
  have hselP : selectMethod e.platform s.vm cellB.cls mk = .method mk := by rw [Launch.admits_selectMethod X.admits]; exact q4
  have hlen : As.length = methM.sig.parameters.length := by
    have h2 : (parseMethodDescriptor y_Rows_share.desc).map (fun d => d.parameters.length) = some 2 := by decide +kernel
    rw [hsigM] at h2
    rw [hn]
    exact (Option.some.inj h2).symm
  have hdg' : decode c.code pc = .ok (.invokevirtual index, 3) := by rw [hbc]; exact hdg
  obtain ⟨vm₁, X₁, hstep₁⟩ := X.invokevirtual hx hown (hts _ m1) hnamed hmethM hstM hkP hkPi (by decide) (a := b) (cell := cellB) (by rw [hT]; exact hcB) (fun z h => by rw [h] at hoB; cases hoB) hselP hmethM habM hkP hkPi (g := F0 m pc ls st0) rfl (argsL := As) (rest := rest) hlen hst hdg'
  have hW1 := X₁.warmed
  have hn1 : (T.setVm vm₁).methodNamed? y_Rows_share = some mk := X₁.named hnamed
  obtain ⟨kY, hkY, -⟩ := className_of_methodNamed hn1
  have hiY : kY.init = .initialized := Cond.initialized_spec (findClass_of_methodNamed hn1) hkY (hwd _ k_ini_Rows args (T.setVm vm₁) hW1)
  have hAt : At (T.setVm vm₁) m c below := X₁.here
  have hmY : (T.setVm vm₁).vm.method? mk = some methM := by
    rw [hW1.alike.method?]
    exact hmethM
  have happ : (headSpec [Cond.code y_Rows_share b_Rows_share 17 (some .long)] rmT).appliesLoose y_Rows_share e.platform ((T.setVm vm₁).calling (F0 m pc ls rest) mk (.ref b :: As).toArray) = true :=
    Spec.appliesLoose_calling (g := F0 m pc ls rest) hAt hdg' hn1 hkY hiY (X₁.room_calling (g := F0 m pc ls rest) (R' := rmT) (hls.trans hml.symm) hmY hcM hR.1 (by
      have : (F0 m pc ls rest).monitorRoom = 0 := rfl
      rw [hlM, this]
      show 2 * 0 + (rest.map fun v => v.category).sum + (17 + 11) + 100 ≤ R.locals
      omega) hf.1 hf.2) (atoms_intro fun w hw => by
        rw [List.mem_singleton.mp hw]
        exact hwd _ k_code_Rows_share _ _ hW1)
  obtain ⟨mid, hmid⟩ := hAt.above
  have hfr : ((T.setVm vm₁).setTop (F0 m pc ls rest)).frames = (.java (F0 m pc ls rest) :: mid) ++ below := by rw [State.frames_setTop' _ hAt.top, hmid]; rfl
  obtain ⟨o, s₂, hsteps, -, hend, hq⟩ := Steps.callFree hMT p X₁.admits X₁.cas X₁.clock (acts := []) hfr happ (hPt.blind w_TBm (.ref b :: As).toArray (T.setVm vm₁) (F0 m pc ls rest) mk (hpre (T.setVm vm₁) hT hW1)) trivial
  obtain ⟨x, rfl, w1, ⟨L, sm, hL⟩, hF1, ⟨u, hu, hpu⟩, ce, hce, hcv2, hcc⟩ := hq
  rw [State.frames_setTop' _ hAt.top] at hend
  have hend' : Ended s₂ (.java (F0 m pc ls rest) :: below) (.threw x) := by
    have : (T.setVm vm₁).frames.tail = below := X₁.tail
    rw [this] at hend
    exact hend
  obtain ⟨T', X', -, -, ht⟩ := X₁.outOfThrown (g := F0 m pc ls rest) (mk := mk) (a := (Value.ref b :: As).toArray) rfl hend' w1 sm
  have hheap : s₂.heap = T'.heap := by rw [ht, throwing_heap]
  have hce' : T'.heap[x]? = some ce := by rw [← hheap]; exact hce
  have hcc' : s.vm.findClass "java/lang/ArithmeticException" = some ce.cls := by
    have : (T.setVm vm₁).vm.findClass "java/lang/ArithmeticException" = some ce.cls := hcc
    rw [hW1.alike.findClass] at this
    exact this
  obtain ⟨vm', X'', hst''⟩ := tw_catch X' hown (hts _ m13) (hts _ k_cast_AE) htab (g := F0 m pc ls rest) rfl hcv hct hix hce' hcv2 hcc'
  have hst0 : (((T.setVm vm₁).setTop (F0 m pc ls rest)).pushFrame (.invoking mk (Value.ref b :: As).toArray)).heap = H := hT
  obtain ⟨f1, f2⟩ := hF1
  obtain ⟨t2, a1, b1⟩ := kk x u T'.heap (locs ++ L) hu (by rw [← hheap]; exact hpu) ⟨by rw [← hheap]; exact Nat.le_trans hS.1 (by rw [← hst0]; exact f1), fun q g1 g2 => by
      rw [← hheap, f2 q (by rw [hst0]; exact Nat.lt_of_lt_of_le g1 hS.1) g2, hst0]
      exact hS.2.1 q g1 g2, fun q hq => by
      rcases List.mem_append.mp hq with g | g
      · exact hS.2.2 q g
      · exact hL q g⟩ (T'.setVm vm') rfl X''
  refine ⟨t2, hstep₁ _ (fun acts => ?_), b1⟩
  rw [doInvoke_state]
  refine hsteps.trans ?_
  rw [ht]
  exact hst'' t2 a1
/-- a call of the law's own share -/
theorem h_callSW (C0 : Cw κ w_cl w_tl w_tb p s m args meth c cc nL own ret) (hzt : hZt κ s) (hh : hp κ w_cl h H) (hS : va_S (h_A κ) s.heap H locs) (hl : ls.size = nL) {index : Nat} (As : List Value) (rest : List Value) {st0 : List Value} {Qp : Option Value → hM → Prop}
    (hMt : Met l y_Law_share [w_Law_share] rm_Law_share (hPt κ w_cl w_tl w_tb As h) (hQ κ w_cl Qp) 1 6 (h_A κ)) (m1 : Cond.methodLink own index y_Law_share ∈ w_tb) (hn : As.length = 4) (hst : st0 = As.reverse ++ rest) (hroom : (rest.map fun v => v.category).sum ≤ 8) (hR : 8 ≤ R.frames ∧ 161 ≤ R.locals) (hf : cells + 1 ≤ R.cells ∧ slots + 6 ≤ R.slots) (hdg : decode cc pc = .ok (.invokestatic index, 3))
    (kk : ∀ (r : Option Value) (u : hM) (H1 : Heap) (locs1 : List Loc), Qp r u → hp κ w_cl u H1 → va_S (h_A κ) s.heap H1 locs1 → W p l e R s m args below meth c H1 locs1 (cells + 1) (slots + 6) Q (F0 m (pc + 3) ls (r.toList ++ rest))) : W p l e R s m args below meth c H locs cells slots Q (F0 m pc ls st0) := by
  have hpre : ∀ U : State, U.heap = H → s.WarmedH U.vm → hPt κ w_cl w_tl w_tb As h As.toArray U := fun U hU hW => ⟨h_pre (av := As) C0 w_TBm hh hS U hU hW, hzt.warm hW⟩
  obtain ⟨hx, hbc, hml, hown, hts, hK, hF0, hZ0, hret, hlocks⟩ := C0
  have hwd : ∀ w ∈ w_tb, ∀ (a : Array Value) (U : State), s.WarmedH U.vm → w.before a U = true := fun w hw a U hW => w_TBm w hw args a s U hW (hts w hw)
  have hB : Back l R p e below s args y_Law_share 3 8 (PreOf R 1 6 (hPt κ w_cl w_tl w_tb As h)) (PostOf (hQ κ w_cl Qp) 1 6 (h_A κ)) :=
    va_backW (hh := [(0, 10, 13, 13)]) (bytes := b_Law_share) (maxL := 6) (ret := some .int) hMt (hPt.blind w_TBm) rfl rfl hR.1 hR.2 (fun w hw a' U hW => by rw [List.mem_singleton.mp hw]; exact hwd _ k_code_Law_share a' U hW) List.mem_cons_self (fun a' U hW => hwd _ k_ini_Law a' U hW)
  refine h_back (mc := 1) (ms := 6) (av := As.toArray) (rest := rest) (Qp := Qp) ?_ hS kk
  intro T hT X
  obtain ⟨mk, methM, cM, hnamed, hmethM, hcM, -, hlM, -, -, -, hsigM⟩ := Cond.codeWith_spec (args := args) (first := s) (o := none) (s := s) (idx := []) (hts _ k_code_Law_share)
  have hstatic : methM.isStatic = true := Cond.static_spec hnamed hmethM (hts _ k_stat_Law_share)
  obtain ⟨kP, hkP, -⟩ := className_of_methodNamed hnamed
  have hinitP : kP.init = .initialized := Cond.initialized_spec (findClass_of_methodNamed hnamed) hkP (hts _ k_ini_Law)
  have hlen : As.length = methM.sig.parameters.length := by
    have h2 : (parseMethodDescriptor y_Law_share.desc).map (fun d => d.parameters.length) = some 4 := by decide +kernel
    rw [hsigM] at h2
    rw [hn]
    exact (Option.some.inj h2).symm
  have hdg' : decode c.code pc = .ok (.invokestatic index, 3) := by rw [hbc]; exact hdg
  obtain ⟨vm₁, X₁, hstep₁⟩ := X.invokestatic hx hown (hts _ m1) hnamed hmethM hstatic hkP hinitP (by decide) (g := F0 m pc ls st0) rfl (argsL := As) (rest := rest) hlen hst hdg'
  obtain ⟨v, ⟨U', l2, c2, s2⟩, X', ⟨g', mk', t, L, e1, e2, hq, h1, hL, h2, h3⟩, hsteps⟩ := hB m meth c ⟨T.setVm vm₁, locs, cells, slots⟩ (F0 m pc ls rest) (.invokestatic index) mk As.toArray X₁ rfl (hl.trans hml.symm) hdg' (by
    have : (F0 m pc ls rest).monitorRoom = 0 := rfl
    rw [this]
    show 2 * 0 + (rest.map fun v => v.category).sum ≤ 8
    omega) (X₁.named hnamed) ⟨hf.1, hf.2, hpre (T.setVm vm₁) hT X₁.warmed⟩
  dsimp only [Pt.U, Pt.locs, Pt.cells, Pt.slots] at X' e1 e2 h1 h2 h3 hsteps
  subst h1; subst h2; subst h3
  exact ⟨v, (T.setVm vm₁).calling g' mk' As.toArray, t, U', L, hT, X', hL, e1, e2, hq, fun target hr => hstep₁ _ (fun acts => by rw [doInvoke_state]; exact hsteps.trans hr)⟩
end LSH
/-- what must hold so that the law's share returns with Q -/
def P_Law_share (Q : Int32 → hM → Prop) (h : hM) (x0 : Nat) (x1 : Int32) (x2 : Int64) (x4 : Nat) : Prop := (∃ fs : List Value, rd h x0 = some (eO 0 fs)) ∧ ((P_Rows_share (fun j h1 => ∃ (n : Nat) (f : Nat → Int64), rd h1 x4 = some (eJ 1 n f) ∧ vp_in 0 n ∧ ∀ h2 : hM, h2 = h_up h1 x4 (eJ 1 n (vp_updL f (0 : Int32).toNatClampNeg j)) → Q 0 h2) h x0 x1 x2) ∨ PT_share (fun h1 => Q 1 h1) h x0 x1 x2)
set_option maxHeartbeats 4000000 in
set_option maxRecDepth 100000 in
theorem S_Law_share {l : Launch} {κ : hX} (hfl : l.flags = Jvm.pinnedFlags ++ [Jvm.noTraceFlag]) (Q : Int32 → hM → Prop) (h : hM) (x0 : Nat) (x1 : Int32) (x2 : Int64) (x4 : Nat) (hw : P_Law_share Q h x0 x1 x2 x4) : Met l y_Law_share [w_Law_share] rm_Law_share (hPt κ w_cl w_tl w_tb [.ref x0, .int x1, .long x2, .ref x4] h) (hQ κ w_cl (qI Q)) 1 6 (h_A κ) := by
  refine va_MetW (cc := b_Law_share) (maxL := 6) (ret := some .int) (hh := [(0, 10, 13, 13)]) (by decide) rfl ?_
  intro p e s m args below meth c s₁ B hml hv
  obtain ⟨⟨rfl, hh, hwd, hK, hF0, hZ0⟩, hzt⟩ := hv
  have hown : s.vm.findClass R_Law = some m.cls := findClass_of_methodNamed B.named
  have htab : c.exceptionTable.toList.map (fun h => (h.startPc, h.endPc, h.handlerPc, h.catchType)) = [(0, 10, 13, 13)] := by
    obtain ⟨m9, meth9, c9, hn9, h1, h2, h3, h4, h5, -⟩ := Cond.codeWith_spec (args := #[]) (first := s) (o := none) (s := s) (idx := []) (hwd _ k_code_Law_share)
    cases B.named.symm.trans hn9
    cases B.method.symm.trans h1
    cases (Stand.of_body B).code.symm.trans h2
    exact h5
  obtain ⟨en, htl, t1, t2, t3, t4⟩ : ∃ en, c.exceptionTable.toList = [en] ∧ en.startPc = 0 ∧ en.endPc = 10 ∧ en.handlerPc = 13 ∧ en.catchType = 13 := by
    cases hc : c.exceptionTable.toList with
    | nil => rw [hc] at htab; cases htab
    | cons a r =>
      rw [hc] at htab
      cases r with
      | nil =>
        simp only [List.map_cons, List.map_nil, List.cons.injEq, Prod.mk.injEq, and_true] at htab
        exact ⟨a, rfl, htab.1, htab.2.1, htab.2.2.1, htab.2.2.2⟩
      | cons a2 r2 => simp at htab
  have C0 : Cw κ w_cl w_tl w_tb p s m [.ref x0, .int x1, .long x2, .ref x4].toArray meth c b_Law_share 6 R_Law (some .int) := ⟨B.exec, B.bytes, hml, hown, fun w hw1 => w_TBm w hw1 #[] _ s s (State.WarmedH.refl s) (hwd w hw1), hK, hF0, hZ0, B.returns, B.notSynchronized⟩
  have hS : va_S (h_A κ) s.heap s.heap [] := va_S.rf
  rw [lg_entry_eq]
  have hl := lv_entry [.ref x0, .int x1, .long x2, .ref x4] (n := 6) (Nat.le_of_ble_eq_true rfl)
  generalize (lg_sl [.ref x0, .int x1, .long x2, .ref x4] ++ List.replicate (6 - (lg_sl [.ref x0, .int x1, .long x2, .ref x4]).length) Slot.unset).toArray = ls at hl ⊢
  have hl : lv_has ls 6 [(0, .ref x0), (1, .int x1), (2, .long x2), (4, .ref x4)] := hl
  obtain ⟨hx, hb, hml, hown, hts, hK, hF0, hrt, hlocks⟩ := id C0
  refine lv_aload hx hb d_Law_share_0 (lv_at hl 3 rfl) ?_
  refine lv_iconst (v := 0) hx hb d_Law_share_2 (by decide) ?_
  refine lv_aload_n hx hb d_Law_share_3 rfl (lv_at hl 0 rfl) ?_
  refine lv_iload_n hx hb d_Law_share_4 rfl (lv_at hl 1 rfl) ?_
  refine lv_lload_n hx hb d_Law_share_5 rfl (lv_at hl 2 rfl) ?_
  obtain ⟨⟨fs, hr⟩, hw⟩ := hw
  rcases hw with hw | hw
  · refine h_callV (n := 2) C0 w_TBm hh hS hl.1 [.int x1, .long x2] [.int 0, .ref x4] (S_Rows_share _ _ _ _ _ hw) hr rfl k_m_Law_7 k_inst_Rows_share k_sel_Rows_share k_ini_Rows k_code_Rows_share (by decide +kernel) rfl rfl (Nat.le_of_ble_eq_true rfl) ⟨(Nat.le_of_ble_eq_true rfl), (Nat.le_of_ble_eq_true rfl)⟩ ⟨(Nat.le_of_ble_eq_true rfl), (Nat.le_of_ble_eq_true rfl)⟩ d_Law_share_6 (h_kJ (k := 0) (n := 0) (Nat.le_of_ble_eq_true rfl) (Nat.le_of_ble_eq_true rfl) (fun j h1 H locs hw hh hS => ?_))
    obtain ⟨n, f, g1, g2, hw⟩ := hw
    refine h_last C0 hh hS g1 g2 rfl d_Law_share_9 (fun H locs hh hS => ?_)
    refine lv_goto (tgt := 17) hx hb d_Law_share_10 (by decide) ?_
    refine lv_iconst (v := 0) hx hb d_Law_share_17 (by decide) ?_
    refine W.widen (k := 1) (n := 6) (Nat.le_of_ble_eq_true rfl) (Nat.le_of_ble_eq_true rfl) ?_
    exact h_iret C0 hh hS rfl rfl ⟨_, rfl, hw _ rfl⟩ d_Law_share_18
  · refine tw_call C0 hzt htl (by rw [show covers en 6 = (decide (en.startPc ≤ 6) && decide (6 < en.endPc)) from rfl, t1, t2]; rfl) t4 (by decide) k_c_Law_13 hh hS hl.1 [.int x1, .long x2] [.int 0, .ref x4] (S_thr hfl hw) hr k_m_Law_7 rfl rfl (Nat.le_of_ble_eq_true rfl) ⟨(Nat.le_of_ble_eq_true rfl), (Nat.le_of_ble_eq_true rfl)⟩ ⟨(Nat.le_of_ble_eq_true rfl), (Nat.le_of_ble_eq_true rfl)⟩ d_Law_share_6 (fun x u H locs hw hh hS => ?_)
    rw [t3]
    refine lv_astore (lv' := [(5, .ref x), (0, .ref x0), (1, .int x1), (2, .long x2), (4, .ref x4)]) hx hb d_Law_share_13 hl (by decide) rfl (fun ls hl => ?_)
    refine lv_iconst (v := 1) hx hb d_Law_share_15 (by decide) ?_
    exact h_iret C0 hh hS rfl rfl ⟨_, rfl, hw⟩ d_Law_share_16
