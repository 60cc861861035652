set_option maxHeartbeats 4000000 in
set_option maxRecDepth 100000 in
theorem S_AbC_init {l : Launch} {κ : hX} (Q : hM → Prop) (h : hM) (x0 : Nat) (hw : P_AbC_init Q h x0) : Met l y_AbC_init [Cond.code y_AbC_init b_AbC_init 1 none] rm_AbC_init (hPc κ w_cl w_tl w_tb [.ref x0] h) (hQ κ w_cl (qV Q)) 0 0 (h_A κ) := by
  refine h_enter w_TBm (by decide) (Nat.le_of_ble_eq_true rfl) ?_
  intro p e s m args below meth c C0 hnm hh hS ls hl
  obtain ⟨hx, hb, hml, hown, hts, hK, hF0, hrt, hlocks⟩ := id C0
  have hl : lv_has ls 1 [(0, .ref x0)] := hl
  refine lv_aload_n hx hb d_AbC_init_0 rfl (lv_at hl 0 rfl) ?_
  refine W.objInit hx hb hown (hts _ k_m_AbC_1) (hts _ k_oi_inst) (hts _ k_oi_code) rfl (by rw [hml]; exact hl.1) rfl d_AbC_init_1 (Nat.le_of_ble_eq_true rfl) (Nat.le_of_ble_eq_true rfl) ?_
  refine W.eq (g2 := F0 m 4 ls []) rfl ?_
  exact h_vret C0 hh hS rfl ⟨rfl, hw⟩ d_AbC_init_4
set_option maxHeartbeats 4000000 in
set_option maxRecDepth 100000 in
theorem S_AbL_init {l : Launch} {κ : hX} (Q : hM → Prop) (h : hM) (x0 : Nat) (hw : P_AbL_init Q h x0) : Met l y_AbL_init [Cond.code y_AbL_init b_AbL_init 1 none] rm_AbL_init (hPc κ w_cl w_tl w_tb [.ref x0] h) (hQ κ w_cl (qV Q)) 0 0 (h_A κ) := by
  refine h_enter w_TBm (by decide) (Nat.le_of_ble_eq_true rfl) ?_
  intro p e s m args below meth c C0 hnm hh hS ls hl
  obtain ⟨hx, hb, hml, hown, hts, hK, hF0, hrt, hlocks⟩ := id C0
  have hl : lv_has ls 1 [(0, .ref x0)] := hl
  refine lv_aload_n hx hb d_AbL_init_0 rfl (lv_at hl 0 rfl) ?_
  refine h_callI (n := 0) C0 w_TBm hh hS hl.1 [] [] (S_AbC_init _ _ _ hw) k_m_AbL_1 k_inst_AbC_init rfl k_ini_AbC k_code_AbC_init (by decide +kernel) rfl rfl (Nat.le_of_ble_eq_true rfl) ⟨(Nat.le_of_ble_eq_true rfl), (Nat.le_of_ble_eq_true rfl)⟩ ⟨(Nat.le_of_ble_eq_true rfl), (Nat.le_of_ble_eq_true rfl)⟩ d_AbL_init_1 (h_kV (k := 0) (n := 0) (Nat.le_of_ble_eq_true rfl) (Nat.le_of_ble_eq_true rfl) (fun h7 H locs hw hh hS => ?_))
  refine lv_aload_n hx hb d_AbL_init_4 rfl (lv_at hl 0 rfl) ?_
  refine lv_iconst (v := 0) hx hb d_AbL_init_5 (by decide) ?_
  obtain ⟨fs9, hr10, hk11, hw⟩ := hw
  refine h_put C0 hh hS (v := .int (0 : Int32)) hr10 hk11 rfl i_AL t_AL t_AL_ok n_AL (by decide) k_f_AbL_7 (fun _ h9 => h9) rfl rfl rfl rfl d_AbL_init_6 (fun H locs hh hS => ?_)
  obtain ⟨h12, eh12⟩ : ∃ z : hM, z = h_up h7 x0 (eO 5 (fs9.set 0 (.int (0 : Int32)))) := ⟨_, rfl⟩
  rw [← eh12] at hh
  have hw := hw h12 eh12
  exact h_vret C0 hh hS rfl ⟨rfl, hw⟩ d_AbL_init_9
set_option maxHeartbeats 4000000 in
set_option maxRecDepth 100000 in
theorem S_AL_init_v {l : Launch} {κ : hX} (Q : hM → Prop) (h : hM) (x0 : Nat) (hw : P_AL_init_v Q h x0) : Met l y_AL_init_v [Cond.code y_AL_init_v b_AL_init_v 1 none] rm_AL_init_v (hPc κ w_cl w_tl w_tb [.ref x0] h) (hQ κ w_cl (qV Q)) 0 0 (h_A κ) := by
  refine h_enter w_TBm (by decide) (Nat.le_of_ble_eq_true rfl) ?_
  intro p e s m args below meth c C0 hnm hh hS ls hl
  obtain ⟨hx, hb, hml, hown, hts, hK, hF0, hrt, hlocks⟩ := id C0
  have hl : lv_has ls 1 [(0, .ref x0)] := hl
  refine lv_aload_n hx hb d_AL_init_v_0 rfl (lv_at hl 0 rfl) ?_
  refine h_callI (n := 0) C0 w_TBm hh hS hl.1 [] [] (S_AbL_init _ _ _ hw) k_m_AL_1 k_inst_AbL_init rfl k_ini_AbL k_code_AbL_init (by decide +kernel) rfl rfl (Nat.le_of_ble_eq_true rfl) ⟨(Nat.le_of_ble_eq_true rfl), (Nat.le_of_ble_eq_true rfl)⟩ ⟨(Nat.le_of_ble_eq_true rfl), (Nat.le_of_ble_eq_true rfl)⟩ d_AL_init_v_1 (h_kV (k := 0) (n := 0) (Nat.le_of_ble_eq_true rfl) (Nat.le_of_ble_eq_true rfl) (fun h7 H locs hw hh hS => ?_))
  refine lv_aload_n hx hb d_AL_init_v_4 rfl (lv_at hl 0 rfl) ?_
  refine h_gets C0 hh hS k_f_AL_39 d_AL_init_v_5 ?_
  obtain ⟨fs9, hr10, hk11, hw⟩ := hw
  refine h_put C0 hh hS (v := .ref h7.1) hr10 hk11 rfl i_AL t_AL t_AL_ok n_AL (by decide) k_f_AL_9 (fun _ h9 => h9) rfl rfl rfl rfl d_AL_init_v_8 (fun H locs hh hS => ?_)
  obtain ⟨h12, eh12⟩ : ∃ z : hM, z = h_up h7 x0 (eO 5 (fs9.set 1 (.ref h7.1))) := ⟨_, rfl⟩
  rw [← eh12] at hh
  have hw := hw h12 eh12
  exact h_vret C0 hh hS rfl ⟨rfl, hw⟩ d_AL_init_v_11
set_option maxHeartbeats 4000000 in
set_option maxRecDepth 100000 in
theorem S_AL_size {l : Launch} {κ : hX} (Q : Int32 → hM → Prop) (h : hM) (x0 : Nat) (hw : P_AL_size Q h x0) : Met l y_AL_size [Cond.code y_AL_size b_AL_size 1 (some .int)] rm_AL_size (hPc κ w_cl w_tl w_tb [.ref x0] h) (hQ κ w_cl (qI Q)) 0 0 (h_A κ) := by
  refine h_enter w_TBm (by decide) (Nat.le_of_ble_eq_true rfl) ?_
  intro p e s m args below meth c C0 hnm hh hS ls hl
  obtain ⟨hx, hb, hml, hown, hts, hK, hF0, hrt, hlocks⟩ := id C0
  have hl : lv_has ls 1 [(0, .ref x0)] := hl
  refine lv_aload_n hx hb d_AL_size_0 rfl (lv_at hl 0 rfl) ?_
  obtain ⟨fs5, i8, hr6, hk7, hw⟩ := hw
  refine h_get C0 hh hr6 hk7 rfl i_AL (by decide) k_f_AL_48 (fun _ h9 => h9) d_AL_size_1 ?_
  exact h_iret C0 hh hS rfl rfl ⟨_, rfl, hw⟩ d_AL_size_4
set_option maxHeartbeats 4000000 in
set_option maxRecDepth 100000 in
theorem S_ASup_newLength_21 {p : Program} {l : Launch} {e : Env} {s : State} {m : MethodId} {args : Array Value} {below : List Frame} {meth : Method} {c : Code} {κ : hX} {Q : Int32 → hM → Prop} (C0 : Cw κ w_cl w_tl w_tb p s m args meth c b_ASup_newLength 4 R_ASup (some .int)) : ∀ (h : hM) (x0 : Int32) (x1 : Int32) (H : Heap) (locs : List Loc) (ls : Array Slot), P_ASup_newLength_21 Q h x0 x1 → hp κ w_cl h H → va_S (h_A κ) s.heap H locs → lv_has ls 4 [(0, .int x0), (1, .int x1)] → W p l e rm_ASup_newLength s m args below meth c H locs 0 0 (MQ below (hQ κ w_cl (qI Q)) args s 0 0 (h_A κ)) (F0 m 21 ls []) := by
  obtain ⟨hx, hb, hml, hown, hts, hK, hF0, hrt, hlocks⟩ := id C0
  intro h x0 x1 H locs ls hw hh hS hl
  refine lv_iload_n hx hb d_ASup_newLength_21 rfl (lv_at hl 0 rfl) ?_
  refine lv_iload_n hx hb d_ASup_newLength_22 rfl (lv_at hl 1 rfl) ?_
  exact hw.elim
set_option maxHeartbeats 4000000 in
set_option maxRecDepth 100000 in
theorem S_ASup_newLength {l : Launch} {κ : hX} (Q : Int32 → hM → Prop) (h : hM) (x0 : Int32) (x1 : Int32) (x2 : Int32) (hw : P_ASup_newLength Q h x0 x1 x2) : Met l y_ASup_newLength [Cond.code y_ASup_newLength b_ASup_newLength 4 (some .int)] rm_ASup_newLength (hPc κ w_cl w_tl w_tb [.int x0, .int x1, .int x2] h) (hQ κ w_cl (qI Q)) 0 0 (h_A κ) := by
  refine h_enter w_TBm (by decide) (Nat.le_of_ble_eq_true rfl) ?_
  intro p e s m args below meth c C0 hnm hh hS ls hl
  obtain ⟨hx, hb, hml, hown, hts, hK, hF0, hrt, hlocks⟩ := id C0
  have hl : lv_has ls 4 [(0, .int x0), (1, .int x1), (2, .int x2)] := hl
  refine lv_iload_n hx hb d_ASup_newLength_0 rfl (lv_at hl 0 rfl) ?_
  refine lv_iload_n hx hb d_ASup_newLength_1 rfl (lv_at hl 1 rfl) ?_
  refine lv_iload_n hx hb d_ASup_newLength_2 rfl (lv_at hl 2 rfl) ?_
  refine va_mmax hx hb (hml.trans hl.1.symm) hown (hts _ k_m_ASup_194) (hts _ k_math_max_static) (hts _ k_ini_Math) (hts _ k_math_max_code) (Nat.le_of_ble_eq_true rfl) (Nat.le_of_ble_eq_true rfl) (Nat.le_of_ble_eq_true rfl) (Nat.le_of_ble_eq_true rfl) d_ASup_newLength_3 ?_
  refine lv_iadd hx hb d_ASup_newLength_6 ?_
  refine lv_topi (fun x3_7 ex3_7 => ?_)
  have hw := hw x3_7 ex3_7
  refine lv_istore_n (lv' := [(3, .int x3_7), (0, .int x0), (1, .int x1), (2, .int x2)]) hx hb d_ASup_newLength_7 rfl hl (by decide) rfl (fun ls hl => ?_)
  refine lv_iconst (v := 0) hx hb d_ASup_newLength_8 (by decide) ?_
  refine lv_iload_n hx hb d_ASup_newLength_9 rfl (lv_at hl 0 rfl) ?_
  refine lv_icmp_ge (tgt := 21) hx hb d_ASup_newLength_10 (by decide) (fun c8 => ?_) (fun c8 => ?_)
  · have hw := hw.1 c8
    exact S_ASup_newLength_21 C0 _ _ _ _ _ _ hw hh hS (lv_sub hl [1, 2] rfl)
  · have hw := hw.2 c8
    refine lv_iload_n hx hb d_ASup_newLength_13 rfl (lv_at hl 0 rfl) ?_
    refine lv_ldc (v := 2147483639) hx hb hown (hts _ k_k_ASup_200) d_ASup_newLength_14 ?_
    refine lv_icmp_gt (tgt := 21) hx hb d_ASup_newLength_16 (by decide) (fun c9 => ?_) (fun c9 => ?_)
    · have hw := hw.1 c9
      exact S_ASup_newLength_21 C0 _ _ _ _ _ _ hw hh hS (lv_sub hl [1, 2] rfl)
    · have hw := hw.2 c9
      refine lv_iload_n hx hb d_ASup_newLength_19 rfl (lv_at hl 0 rfl) ?_
      exact h_iret C0 hh hS rfl rfl ⟨_, rfl, hw⟩ d_ASup_newLength_20
set_option maxHeartbeats 4000000 in
set_option maxRecDepth 100000 in
theorem S_Arrs_copyOf_AIL_24 {p : Program} {l : Launch} {e : Env} {s : State} {m : MethodId} {args : Array Value} {below : List Frame} {meth : Method} {c : Code} {κ : hX} {Q : Option Nat → hM → Prop} (C0 : Cw κ w_cl w_tl w_tb p s m args meth c b_Arrs_copyOf_AIL 4 R_Arrs (some (.array (.object "java/lang/Object")))) : ∀ (h : hM) (x0 : Nat) (x1 : Int32) (t0 : Nat) (H : Heap) (locs : List Loc) (ls : Array Slot), P_Arrs_copyOf_AIL_24 Q h x0 x1 t0 → hp κ w_cl h H → va_S (h_A κ) s.heap H locs → lv_has ls 4 [(0, .ref x0), (1, .int x1)] → W p l e rm_Arrs_copyOf_AIL s m args below meth c H locs 1 160 (MQ below (hQ κ w_cl (qO Q)) args s 1 160 (h_A κ)) (F0 m 24 ls [.ref t0]) := by
  obtain ⟨hx, hb, hml, hown, hts, hK, hF0, hrt, hlocks⟩ := id C0
  intro h x0 x1 t0 H locs ls hw hh hS hl
  refine lv_astore_n (lv' := [(3, .ref t0), (0, .ref x0), (1, .int x1)]) hx hb d_Arrs_copyOf_AIL_24 rfl hl (by decide) rfl (fun ls hl => ?_)
  refine lv_aload_n hx hb d_Arrs_copyOf_AIL_25 rfl (lv_at hl 1 rfl) ?_
  refine lv_iconst (v := 0) hx hb d_Arrs_copyOf_AIL_26 (by decide) ?_
  refine lv_aload_n hx hb d_Arrs_copyOf_AIL_27 rfl (lv_at hl 0 rfl) ?_
  refine lv_iconst (v := 0) hx hb d_Arrs_copyOf_AIL_28 (by decide) ?_
  refine lv_aload_n hx hb d_Arrs_copyOf_AIL_29 rfl (lv_at hl 1 rfl) ?_
  obtain ⟨n27, hr29, hw⟩ := hw
  refine h_alenE C0 hh hS hr29 (rfl : w_tl[2]? = _) d_Arrs_copyOf_AIL_30 ?_
  refine lv_iload_n hx hb d_Arrs_copyOf_AIL_31 rfl (lv_at hl 2 rfl) ?_
  refine va_mmin hx hb (hml.trans hl.1.symm) hown (hts _ k_m_Arrs_304) (hts _ k_math_min_static) (hts _ k_ini_Math) (hts _ k_math_min_code) (Nat.le_of_ble_eq_true rfl) (Nat.le_of_ble_eq_true rfl) (Nat.le_of_ble_eq_true rfl) (Nat.le_of_ble_eq_true rfl) d_Arrs_copyOf_AIL_32 ?_
  obtain ⟨n30, f31, n32, f33, g1, g2, g3, g4, g5, g6, g7, ⟨ci9, g8, g9⟩, hw⟩ := hw
  obtain ⟨C9, T9, N9, hc8, hc7⟩ := w_castO g8
  refine h_copyq C0 hh hS hl.1 k_m_Arrs_150 k_copy_nat k_copy_stat k_ini_System g1 g2 rfl g3 g4 g5 g6 g7 hc8 g9 hc7 (Nat.le_of_ble_eq_true rfl) (Nat.le_of_ble_eq_true rfl) d_Arrs_copyOf_AIL_35 (fun H locs hh hS => ?_)
  obtain ⟨h35, eh35⟩ : ∃ z : hM, z = h_up h t0 (eA 2 n32 (va_cpy f31 f33 (0 : Int32).toNatClampNeg (0 : Int32).toNatClampNeg (if x1 < (nI n27) then x1 else (nI n27)).toNatClampNeg)) := ⟨_, rfl⟩
  rw [← eh35] at hh
  have hw := hw h35 eh35
  refine lv_aload_n hx hb d_Arrs_copyOf_AIL_38 rfl (lv_at hl 0 rfl) ?_
  exact h_aret (o := (some t0)) C0 hh hS rfl (Or.inr ⟨_, rfl⟩) ⟨_, rfl, hw⟩ d_Arrs_copyOf_AIL_39
set_option maxHeartbeats 4000000 in
set_option maxRecDepth 100000 in
theorem S_Arrs_copyOf_AIL {l : Launch} {κ : hX} (Q : Option Nat → hM → Prop) (h : hM) (x0 : Nat) (x1 : Int32) (x2 : Nat) (hw : P_Arrs_copyOf_AIL Q h x0 x1 x2) : Met l y_Arrs_copyOf_AIL [Cond.code y_Arrs_copyOf_AIL b_Arrs_copyOf_AIL 4 (some (.array (.object "java/lang/Object")))] rm_Arrs_copyOf_AIL (hPc κ w_cl w_tl w_tb [.ref x0, .int x1, .ref x2] h) (hQ κ w_cl (qO Q)) 1 160 (h_A κ) := by
  refine h_enter w_TBm (by decide) (Nat.le_of_ble_eq_true rfl) ?_
  intro p e s m args below meth c C0 hnm hh hS ls hl
  obtain ⟨hx, hb, hml, hown, hts, hK, hF0, hrt, hlocks⟩ := id C0
  have hl : lv_has ls 4 [(0, .ref x0), (1, .int x1), (2, .ref x2)] := hl
  refine lv_aload_n hx hb d_Arrs_copyOf_AIL_0 rfl (lv_at hl 2 rfl) ?_
  refine h_ldcM C0 hh k_c_Arrs_110 d_Arrs_copyOf_AIL_1 ?_
  refine lv_acmp_ne (rx := (some x2)) (ry := (some h.2.1)) (tgt := 13) hx hb d_Arrs_copyOf_AIL_3 (by decide) (fun c36 => ?_) (fun c36 => ?_)
  · have hw := hw.1 (fun z => c36 (congrArg some z))
    refine lv_aload_n hx hb d_Arrs_copyOf_AIL_13 rfl (lv_at hl 2 rfl) ?_
    exact hw.elim
  · have hw := hw.2 (Option.some.inj c36)
    refine lv_iload_n hx hb d_Arrs_copyOf_AIL_6 rfl (lv_at hl 1 rfl) ?_
    obtain ⟨hn9, n39, hN9, hB9, hw⟩ := hw
    refine h_newq C0 hh hS 160 (t := 2) rfl k_c_Arrs_2 k_over_Object hn9 hN9 hB9 (Nat.le_of_ble_eq_true rfl) (Nat.le_of_ble_eq_true rfl) (Nat.le_of_ble_eq_true rfl) d_Arrs_copyOf_AIL_7 (fun q37 H hqq37 hzq37 hh hS => ?_)
    obtain ⟨h38, eh38⟩ : ∃ z : hM, z = h_up h q37 (eA 2 n39 (fun _ => none)) := ⟨_, rfl⟩
    rw [← eh38] at hh
    have hw := hw q37 hqq37 h38 eh38
    refine W.widen (k := 1) (n := 160) (Nat.le_of_ble_eq_true rfl) (Nat.le_of_ble_eq_true rfl) ?_
    refine lv_goto (tgt := 24) hx hb d_Arrs_copyOf_AIL_10 (by decide) ?_
    exact S_Arrs_copyOf_AIL_24 C0 _ _ _ _ _ _ _ hw hh hS (lv_sub hl [0, 1] rfl)
set_option maxHeartbeats 4000000 in
set_option maxRecDepth 100000 in
theorem S_Arrs_copyOf_AI {l : Launch} {κ : hX} (Q : Option Nat → hM → Prop) (h : hM) (x0 : Nat) (x1 : Int32) (hw : P_Arrs_copyOf_AI Q h x0 x1) : Met l y_Arrs_copyOf_AI [Cond.code y_Arrs_copyOf_AI b_Arrs_copyOf_AI 2 (some (.array (.object "java/lang/Object")))] rm_Arrs_copyOf_AI (hPc κ w_cl w_tl w_tb [.ref x0, .int x1] h) (hQ κ w_cl (qO Q)) 1 160 (h_A κ) := by
  refine h_enter w_TBm (by decide) (Nat.le_of_ble_eq_true rfl) ?_
  intro p e s m args below meth c C0 hnm hh hS ls hl
  obtain ⟨hx, hb, hml, hown, hts, hK, hF0, hrt, hlocks⟩ := id C0
  have hl : lv_has ls 2 [(0, .ref x0), (1, .int x1)] := hl
  refine lv_aload_n hx hb d_Arrs_copyOf_AI_0 rfl (lv_at hl 0 rfl) ?_
  refine lv_iload_n hx hb d_Arrs_copyOf_AI_1 rfl (lv_at hl 1 rfl) ?_
  refine lv_aload_n hx hb d_Arrs_copyOf_AI_2 rfl (lv_at hl 0 rfl) ?_
  obtain ⟨n5, f6, g1, hw⟩ := hw
  refine h_getC C0 hh hl.1 g1 rfl k_m_Arrs_86 k_gc_decl k_gc_sel k_gc_inst k_gc_nat (Nat.le_of_ble_eq_true rfl) (Nat.le_of_ble_eq_true rfl) d_Arrs_copyOf_AI_3 ?_
  refine h_callS (n := 3) C0 w_TBm hh hS hl.1 [.ref x0, .int x1, .ref h.2.1] [] (S_Arrs_copyOf_AIL _ _ _ _ _ hw) k_m_Arrs_300 k_stat_Arrs_copyOf_AIL k_ini_Arrs k_code_Arrs_copyOf_AIL (by decide +kernel) rfl rfl (Nat.le_of_ble_eq_true rfl) ⟨(Nat.le_of_ble_eq_true rfl), (Nat.le_of_ble_eq_true rfl)⟩ ⟨(Nat.le_of_ble_eq_true rfl), (Nat.le_of_ble_eq_true rfl)⟩ d_Arrs_copyOf_AI_6 (h_kO (k := 1) (n := 160) (Nat.le_of_ble_eq_true rfl) (Nat.le_of_ble_eq_true rfl) (fun o8 h7 H locs hw hh hS => ?_))
  exact h_aret (o := o8) C0 hh hS rfl (Or.inr ⟨_, rfl⟩) ⟨_, rfl, hw⟩ d_Arrs_copyOf_AI_9
set_option maxHeartbeats 4000000 in
set_option maxRecDepth 100000 in
theorem S_AL_grow_I_20 {p : Program} {l : Launch} {e : Env} {s : State} {m : MethodId} {args : Array Value} {below : List Frame} {meth : Method} {c : Code} {κ : hX} {Q : Option Nat → hM → Prop} (C0 : Cw κ w_cl w_tl w_tb p s m args meth c b_AL_grow_I 4 R_AL (some (.array (.object "java/lang/Object")))) : ∀ (h : hM) (x0 : Nat) (x1 : Int32) (x2 : Int32) (H : Heap) (locs : List Loc) (ls : Array Slot), P_AL_grow_I_20 Q h x0 x1 x2 → hp κ w_cl h H → va_S (h_A κ) s.heap H locs → lv_has ls 4 [(0, .ref x0), (1, .int x1), (2, .int x2)] → W p l e rm_AL_grow_I s m args below meth c H locs 0 0 (MQ below (hQ κ w_cl (qO Q)) args s 1 160 (h_A κ)) (F0 m 20 ls []) := by
  obtain ⟨hx, hb, hml, hown, hts, hK, hF0, hrt, hlocks⟩ := id C0
  intro h x0 x1 x2 H locs ls hw hh hS hl
  refine lv_iload_n hx hb d_AL_grow_I_20 rfl (lv_at hl 2 rfl) ?_
  refine lv_iload_n hx hb d_AL_grow_I_21 rfl (lv_at hl 1 rfl) ?_
  refine lv_iload_n hx hb d_AL_grow_I_22 rfl (lv_at hl 2 rfl) ?_
  refine lv_isub hx hb d_AL_grow_I_23 ?_
  refine lv_iload_n hx hb d_AL_grow_I_24 rfl (lv_at hl 2 rfl) ?_
  refine lv_iconst (v := 1) hx hb d_AL_grow_I_25 (by decide) ?_
  refine lv_ishr hx hb d_AL_grow_I_26 ?_
  refine h_callS (n := 3) C0 w_TBm hh hS hl.1 [.int x2, .int (x1 - x2), .int (x2 >>> ((1 : Int32) &&& 31))] [] (S_ASup_newLength _ _ _ _ _ hw) k_m_AL_73 k_stat_ASup_newLength k_ini_ASup k_code_ASup_newLength (by decide +kernel) rfl rfl (Nat.le_of_ble_eq_true rfl) ⟨(Nat.le_of_ble_eq_true rfl), (Nat.le_of_ble_eq_true rfl)⟩ ⟨(Nat.le_of_ble_eq_true rfl), (Nat.le_of_ble_eq_true rfl)⟩ d_AL_grow_I_27 (h_kI (k := 0) (n := 0) (Nat.le_of_ble_eq_true rfl) (Nat.le_of_ble_eq_true rfl) (fun i68 h67 H locs hw hh hS => ?_))
  refine lv_istore_n (lv' := [(3, .int i68), (0, .ref x0), (1, .int x1), (2, .int x2)]) hx hb d_AL_grow_I_30 rfl hl (by decide) rfl (fun ls hl => ?_)
  refine lv_aload_n hx hb d_AL_grow_I_31 rfl (lv_at hl 1 rfl) ?_
  refine lv_aload_n hx hb d_AL_grow_I_32 rfl (lv_at hl 1 rfl) ?_
  obtain ⟨fs69, r72, hr70, hk71, hw⟩ := hw
  refine h_get C0 hh hr70 hk71 rfl i_AL (by decide) k_f_AL_9 (fun _ h9 => h9) d_AL_grow_I_33 ?_
  refine lv_iload_n hx hb d_AL_grow_I_36 rfl (lv_at hl 0 rfl) ?_
  refine h_callS (n := 2) C0 w_TBm hh hS hl.1 [.ref r72, .int i68] [.ref x0] (S_Arrs_copyOf_AI _ _ _ _ hw) k_m_AL_66 k_stat_Arrs_copyOf_AI k_ini_Arrs k_code_Arrs_copyOf_AI (by decide +kernel) rfl rfl (Nat.le_of_ble_eq_true rfl) ⟨(Nat.le_of_ble_eq_true rfl), (Nat.le_of_ble_eq_true rfl)⟩ ⟨(Nat.le_of_ble_eq_true rfl), (Nat.le_of_ble_eq_true rfl)⟩ d_AL_grow_I_37 (h_kO (k := 1) (n := 160) (Nat.le_of_ble_eq_true rfl) (Nat.le_of_ble_eq_true rfl) (fun o74 h73 H locs hw hh hS => ?_))
  refine lv_dup_x1 hx hb d_AL_grow_I_40 (va_rf_cat _) rfl ?_
  obtain ⟨fs75, hr76, hk77, hw⟩ := hw
  refine h_put C0 hh hS (v := va_rf o74) hr76 hk77 rfl i_AL t_AL t_AL_ok n_AL (by decide) k_f_AL_9 (fun _ h9 => h9) rfl rfl (h_nO _ _) (h_fO _ _) d_AL_grow_I_41 (fun H locs hh hS => ?_)
  obtain ⟨h78, eh78⟩ : ∃ z : hM, z = h_up h73 x0 (eO 5 (fs75.set 1 (va_rf o74))) := ⟨_, rfl⟩
  rw [← eh78] at hh
  have hw := hw h78 eh78
  exact h_aret (o := o74) C0 hh hS rfl (Or.inr ⟨_, rfl⟩) ⟨_, rfl, hw⟩ d_AL_grow_I_44
set_option maxHeartbeats 4000000 in
set_option maxRecDepth 100000 in
theorem S_AL_grow_I {l : Launch} {κ : hX} (Q : Option Nat → hM → Prop) (h : hM) (x0 : Nat) (x1 : Int32) (hw : P_AL_grow_I Q h x0 x1) : Met l y_AL_grow_I [Cond.code y_AL_grow_I b_AL_grow_I 4 (some (.array (.object "java/lang/Object")))] rm_AL_grow_I (hPc κ w_cl w_tl w_tb [.ref x0, .int x1] h) (hQ κ w_cl (qO Q)) 1 160 (h_A κ) := by
  refine h_enter w_TBm (by decide) (Nat.le_of_ble_eq_true rfl) ?_
  intro p e s m args below meth c C0 hnm hh hS ls hl
  obtain ⟨hx, hb, hml, hown, hts, hK, hF0, hrt, hlocks⟩ := id C0
  have hl : lv_has ls 4 [(0, .ref x0), (1, .int x1)] := hl
  refine lv_aload_n hx hb d_AL_grow_I_0 rfl (lv_at hl 0 rfl) ?_
  obtain ⟨fs79, r82, hr80, hk81, hw⟩ := hw
  refine h_get C0 hh hr80 hk81 rfl i_AL (by decide) k_f_AL_9 (fun _ h9 => h9) d_AL_grow_I_1 ?_
  obtain ⟨n83, hr85, hw⟩ := hw
  refine h_alenE C0 hh hS hr85 (rfl : w_tl[2]? = _) d_AL_grow_I_4 ?_
  refine lv_topi (fun x2_86 ex2_86 => ?_)
  have hw := hw x2_86 ex2_86
  refine lv_istore_n (lv' := [(2, .int x2_86), (0, .ref x0), (1, .int x1)]) hx hb d_AL_grow_I_5 rfl hl (by decide) rfl (fun ls hl => ?_)
  refine lv_iload_n hx hb d_AL_grow_I_6 rfl (lv_at hl 0 rfl) ?_
  refine lv_if_gt (tgt := 20) hx hb d_AL_grow_I_7 (by decide) (fun c87 => ?_) (fun c87 => ?_)
  · have hw := hw.1 c87
    exact S_AL_grow_I_20 C0 _ _ _ _ _ _ _ hw hh hS (lv_sub hl [1, 2, 0] rfl)
  · have hw := hw.2 c87
    refine lv_aload_n hx hb d_AL_grow_I_10 rfl (lv_at hl 1 rfl) ?_
    obtain ⟨fs88, r91, hr89, hk90, hw⟩ := hw
    refine h_get C0 hh hr89 hk90 rfl i_AL (by decide) k_f_AL_9 (fun _ h9 => h9) d_AL_grow_I_11 ?_
    refine h_gets C0 hh hS k_f_AL_39 d_AL_grow_I_14 ?_
    refine lv_acmp_eq (rx := (some r91)) (ry := (some h.1)) (tgt := 45) hx hb d_AL_grow_I_17 (by decide) (fun c92 => ?_) (fun c92 => ?_)
    · have hw := hw.1 (Option.some.inj c92)
      refine lv_aload_n hx hb d_AL_grow_I_45 rfl (lv_at hl 1 rfl) ?_
      refine lv_bipush (v := 10) hx hb d_AL_grow_I_46 (by decide) ?_
      refine lv_iload_n hx hb d_AL_grow_I_48 rfl (lv_at hl 2 rfl) ?_
      refine va_mmax hx hb (hml.trans hl.1.symm) hown (hts _ k_m_AL_79) (hts _ k_math_max_static) (hts _ k_ini_Math) (hts _ k_math_max_code) (Nat.le_of_ble_eq_true rfl) (Nat.le_of_ble_eq_true rfl) (Nat.le_of_ble_eq_true rfl) (Nat.le_of_ble_eq_true rfl) d_AL_grow_I_49 ?_
      obtain ⟨hn9, n95, hN9, hB9, hw⟩ := hw
      refine h_newq C0 hh hS 160 (t := 2) rfl k_c_AL_7 k_over_Object hn9 hN9 hB9 (Nat.le_of_ble_eq_true rfl) (Nat.le_of_ble_eq_true rfl) (Nat.le_of_ble_eq_true rfl) d_AL_grow_I_52 (fun q93 H hqq93 hzq93 hh hS => ?_)
      obtain ⟨h94, eh94⟩ : ∃ z : hM, z = h_up h q93 (eA 2 n95 (fun _ => none)) := ⟨_, rfl⟩
      rw [← eh94] at hh
      have hw := hw q93 hqq93 h94 eh94
      refine W.widen (k := 1) (n := 160) (Nat.le_of_ble_eq_true rfl) (Nat.le_of_ble_eq_true rfl) ?_
      refine lv_dup_x1 hx hb d_AL_grow_I_55 rfl rfl ?_
      obtain ⟨fs96, hr97, hk98, hw⟩ := hw
      refine h_put C0 hh hS (v := .ref q93) hr97 hk98 rfl i_AL t_AL t_AL_ok n_AL (by decide) k_f_AL_9 (fun _ h9 => h9) rfl rfl rfl rfl d_AL_grow_I_56 (fun H locs hh hS => ?_)
      obtain ⟨h99, eh99⟩ : ∃ z : hM, z = h_up h94 x0 (eO 5 (fs96.set 1 (.ref q93))) := ⟨_, rfl⟩
      rw [← eh99] at hh
      have hw := hw h99 eh99
      exact h_aret (o := (some q93)) C0 hh hS rfl (Or.inr ⟨_, rfl⟩) ⟨_, rfl, hw⟩ d_AL_grow_I_59
    · have hw := hw.2 (fun z => c92 (congrArg some z))
      exact S_AL_grow_I_20 C0 _ _ _ _ _ _ _ hw hh hS (lv_sub hl [1, 2, 0] rfl)
set_option maxHeartbeats 4000000 in
set_option maxRecDepth 100000 in
theorem S_AL_grow_v {l : Launch} {κ : hX} (Q : Option Nat → hM → Prop) (h : hM) (x0 : Nat) (hw : P_AL_grow_v Q h x0) : Met l y_AL_grow_v [Cond.code y_AL_grow_v b_AL_grow_v 1 (some (.array (.object "java/lang/Object")))] rm_AL_grow_v (hPc κ w_cl w_tl w_tb [.ref x0] h) (hQ κ w_cl (qO Q)) 1 160 (h_A κ) := by
  refine h_enter w_TBm (by decide) (Nat.le_of_ble_eq_true rfl) ?_
  intro p e s m args below meth c C0 hnm hh hS ls hl
  obtain ⟨hx, hb, hml, hown, hts, hK, hF0, hrt, hlocks⟩ := id C0
  have hl : lv_has ls 1 [(0, .ref x0)] := hl
  refine lv_aload_n hx hb d_AL_grow_v_0 rfl (lv_at hl 0 rfl) ?_
  refine lv_aload_n hx hb d_AL_grow_v_1 rfl (lv_at hl 0 rfl) ?_
  obtain ⟨fs9, i12, hr10, hk11, hw⟩ := hw
  refine h_get C0 hh hr10 hk11 rfl i_AL (by decide) k_f_AL_48 (fun _ h9 => h9) d_AL_grow_v_2 ?_
  refine lv_iconst (v := 1) hx hb d_AL_grow_v_5 (by decide) ?_
  refine lv_iadd hx hb d_AL_grow_v_6 ?_
  obtain ⟨fs13, hr14, hw⟩ := hw
  refine h_callV (n := 1) C0 w_TBm hh hS hl.1 [.int (i12 + (1 : Int32))] [] (S_AL_grow_I _ _ _ _ hw) hr14 rfl k_m_AL_69 k_inst_AL_grow_I k_sel_AL_grow_I k_ini_AL k_code_AL_grow_I (by decide +kernel) rfl rfl (Nat.le_of_ble_eq_true rfl) ⟨(Nat.le_of_ble_eq_true rfl), (Nat.le_of_ble_eq_true rfl)⟩ ⟨(Nat.le_of_ble_eq_true rfl), (Nat.le_of_ble_eq_true rfl)⟩ d_AL_grow_v_7 (h_kO (k := 1) (n := 160) (Nat.le_of_ble_eq_true rfl) (Nat.le_of_ble_eq_true rfl) (fun o16 h15 H locs hw hh hS => ?_))
  exact h_aret (o := o16) C0 hh hS rfl (Or.inr ⟨_, rfl⟩) ⟨_, rfl, hw⟩ d_AL_grow_v_10
set_option maxHeartbeats 4000000 in
set_option maxRecDepth 100000 in
theorem S_AL_add_LAI_11 {p : Program} {l : Launch} {e : Env} {s : State} {m : MethodId} {args : Array Value} {below : List Frame} {meth : Method} {c : Code} {κ : hX} {Q : hM → Prop} (C0 : Cw κ w_cl w_tl w_tb p s m args meth c b_AL_add_LAI 4 R_AL none) : ∀ (h : hM) (x0 : Nat) (x1 : Nat) (x2 : Option Nat) (x3 : Int32) (H : Heap) (locs : List Loc) (ls : Array Slot), P_AL_add_LAI_11 Q h x0 x1 x2 x3 → hp κ w_cl h H → va_S (h_A κ) s.heap H locs → lv_has ls 4 [(0, .ref x0), (1, .ref x1), (2, va_rf x2), (3, .int x3)] → W p l e rm_AL_add_LAI s m args below meth c H locs 1 160 (MQ below (hQ κ w_cl (qV Q)) args s 1 160 (h_A κ)) (F0 m 11 ls []) := by
  obtain ⟨hx, hb, hml, hown, hts, hK, hF0, hrt, hlocks⟩ := id C0
  intro h x0 x1 x2 x3 H locs ls hw hh hS hl
  refine h_aload_nO hx hb d_AL_add_LAI_11 rfl (lv_at hl 2 rfl) ?_
  refine lv_iload_n hx hb d_AL_add_LAI_12 rfl (lv_at hl 3 rfl) ?_
  refine lv_aload_n hx hb d_AL_add_LAI_13 rfl (lv_at hl 1 rfl) ?_
  obtain ⟨a41, he9, hw⟩ := hw
  subst he9
  have hl : lv_has ls 4 [(0, .ref x0), (1, .ref x1), (2, .ref a41), (3, .int x3)] := hl
  obtain ⟨n42, f43, hr44, hi45, hw⟩ := hw
  obtain ⟨⟨ci9, fs9, hv9, hc9⟩, hw⟩ := hw
  obtain ⟨C9, T9, N9, hc8, hc7⟩ := w_castO hc9
  refine h_aast C0 hh hS hr44 hi45 rfl hv9 hc8 hc7 d_AL_add_LAI_14 (fun H locs hh hS => ?_)
  obtain ⟨h46, eh46⟩ : ∃ z : hM, z = h_up h a41 (eA 2 n42 (va_up f43 x3.toNatClampNeg (some x1))) := ⟨_, rfl⟩
  rw [← eh46] at hh
  have hw := hw h46 eh46
  refine lv_aload_n hx hb d_AL_add_LAI_15 rfl (lv_at hl 0 rfl) ?_
  refine lv_iload_n hx hb d_AL_add_LAI_16 rfl (lv_at hl 3 rfl) ?_
  refine lv_iconst (v := 1) hx hb d_AL_add_LAI_17 (by decide) ?_
  refine lv_iadd hx hb d_AL_add_LAI_18 ?_
  obtain ⟨fs49, hr50, hk51, hw⟩ := hw
  refine h_put C0 hh hS (v := .int (x3 + (1 : Int32))) hr50 hk51 rfl i_AL t_AL t_AL_ok n_AL (by decide) k_f_AL_48 (fun _ h9 => h9) rfl rfl rfl rfl d_AL_add_LAI_19 (fun H locs hh hS => ?_)
  obtain ⟨h52, eh52⟩ : ∃ z : hM, z = h_up h46 x0 (eO 5 (fs49.set 2 (.int (x3 + (1 : Int32))))) := ⟨_, rfl⟩
  rw [← eh52] at hh
  have hw := hw h52 eh52
  exact h_vret C0 hh hS rfl ⟨rfl, hw⟩ d_AL_add_LAI_22
set_option maxHeartbeats 4000000 in
set_option maxRecDepth 100000 in
theorem S_AL_add_LAI {l : Launch} {κ : hX} (Q : hM → Prop) (h : hM) (x0 : Nat) (x1 : Nat) (x2 : Nat) (x3 : Int32) (hw : P_AL_add_LAI Q h x0 x1 x2 x3) : Met l y_AL_add_LAI [Cond.code y_AL_add_LAI b_AL_add_LAI 4 none] rm_AL_add_LAI (hPc κ w_cl w_tl w_tb [.ref x0, .ref x1, .ref x2, .int x3] h) (hQ κ w_cl (qV Q)) 1 160 (h_A κ) := by
  refine h_enter w_TBm (by decide) (Nat.le_of_ble_eq_true rfl) ?_
  intro p e s m args below meth c C0 hnm hh hS ls hl
  obtain ⟨hx, hb, hml, hown, hts, hK, hF0, hrt, hlocks⟩ := id C0
  have hl : lv_has ls 4 [(0, .ref x0), (1, .ref x1), (2, .ref x2), (3, .int x3)] := hl
  refine lv_iload_n hx hb d_AL_add_LAI_0 rfl (lv_at hl 3 rfl) ?_
  refine lv_aload_n hx hb d_AL_add_LAI_1 rfl (lv_at hl 2 rfl) ?_
  obtain ⟨n53, hr55, hw⟩ := hw
  refine h_alenE C0 hh hS hr55 (rfl : w_tl[2]? = _) d_AL_add_LAI_2 ?_
  refine lv_icmp_ne (tgt := 11) hx hb d_AL_add_LAI_3 (by decide) (fun c56 => ?_) (fun c56 => ?_)
  · have hw := hw.1 c56
    refine W.widen (k := 1) (n := 160) (Nat.le_of_ble_eq_true rfl) (Nat.le_of_ble_eq_true rfl) ?_
    exact S_AL_add_LAI_11 C0 _ _ _ _ _ _ _ _ hw hh hS (lv_sub hl [0, 1, 2, 3] rfl)
  · have hw := hw.2 c56
    refine lv_aload_n hx hb d_AL_add_LAI_6 rfl (lv_at hl 0 rfl) ?_
    obtain ⟨fs57, hr58, hw⟩ := hw
    refine h_callV (n := 0) C0 w_TBm hh hS hl.1 [] [] (S_AL_grow_v _ _ _ hw) hr58 rfl k_m_AL_129 k_inst_AL_grow_v k_sel_AL_grow_v k_ini_AL k_code_AL_grow_v (by decide +kernel) rfl rfl (Nat.le_of_ble_eq_true rfl) ⟨(Nat.le_of_ble_eq_true rfl), (Nat.le_of_ble_eq_true rfl)⟩ ⟨(Nat.le_of_ble_eq_true rfl), (Nat.le_of_ble_eq_true rfl)⟩ d_AL_add_LAI_7 (h_kO (k := 1) (n := 160) (Nat.le_of_ble_eq_true rfl) (Nat.le_of_ble_eq_true rfl) (fun o60 h59 H locs hw hh hS => ?_))
    refine h_astore_nO (lv' := [(2, va_rf o60), (0, .ref x0), (1, .ref x1), (3, .int x3)]) hx hb d_AL_add_LAI_10 rfl hl (by decide) rfl (fun ls hl => ?_)
    exact S_AL_add_LAI_11 C0 _ _ _ _ _ _ _ _ hw hh hS (lv_sub hl [1, 2, 0, 3] rfl)
set_option maxHeartbeats 4000000 in
set_option maxRecDepth 100000 in
theorem S_AL_add_L {l : Launch} {κ : hX} (Q : Int32 → hM → Prop) (h : hM) (x0 : Nat) (x1 : Nat) (hw : P_AL_add_L Q h x0 x1) : Met l y_AL_add_L [Cond.code y_AL_add_L b_AL_add_L 2 (some .boolean)] rm_AL_add_L (hPc κ w_cl w_tl w_tb [.ref x0, .ref x1] h) (hQ κ w_cl (qI Q)) 1 160 (h_A κ) := by
  refine h_enter w_TBm (by decide) (Nat.le_of_ble_eq_true rfl) ?_
  intro p e s m args below meth c C0 hnm hh hS ls hl
  obtain ⟨hx, hb, hml, hown, hts, hK, hF0, hrt, hlocks⟩ := id C0
  have hl : lv_has ls 2 [(0, .ref x0), (1, .ref x1)] := hl
  refine lv_aload_n hx hb d_AL_add_L_0 rfl (lv_at hl 0 rfl) ?_
  refine lv_dup hx hb d_AL_add_L_1 rfl ?_
  obtain ⟨fs21, i24, hr22, hk23, hw⟩ := hw
  refine h_get C0 hh hr22 hk23 rfl i_AL (by decide) k_f_AL_63 (u_same (hts _ k_same_AL_modCount)) d_AL_add_L_2 ?_
  refine lv_iconst (v := 1) hx hb d_AL_add_L_5 (by decide) ?_
  refine lv_iadd hx hb d_AL_add_L_6 ?_
  obtain ⟨fs25, hr26, hk27, hw⟩ := hw
  refine h_put C0 hh hS (v := .int (i24 + (1 : Int32))) hr26 hk27 rfl i_AL t_AL t_AL_ok n_AL (by decide) k_f_AL_63 (u_same (hts _ k_same_AL_modCount)) rfl rfl rfl rfl d_AL_add_L_7 (fun H locs hh hS => ?_)
  obtain ⟨h28, eh28⟩ : ∃ z : hM, z = h_up h x0 (eO 5 (fs25.set 0 (.int (i24 + (1 : Int32))))) := ⟨_, rfl⟩
  rw [← eh28] at hh
  have hw := hw h28 eh28
  refine lv_aload_n hx hb d_AL_add_L_10 rfl (lv_at hl 0 rfl) ?_
  refine lv_aload_n hx hb d_AL_add_L_11 rfl (lv_at hl 1 rfl) ?_
  refine lv_aload_n hx hb d_AL_add_L_12 rfl (lv_at hl 0 rfl) ?_
  obtain ⟨fs29, r32, hr30, hk31, hw⟩ := hw
  refine h_get C0 hh hr30 hk31 rfl i_AL (by decide) k_f_AL_9 (fun _ h9 => h9) d_AL_add_L_13 ?_
  refine lv_aload_n hx hb d_AL_add_L_16 rfl (lv_at hl 0 rfl) ?_
  obtain ⟨fs33, i36, hr34, hk35, hw⟩ := hw
  refine h_get C0 hh hr34 hk35 rfl i_AL (by decide) k_f_AL_48 (fun _ h9 => h9) d_AL_add_L_17 ?_
  obtain ⟨fs37, hr38, hw⟩ := hw
  refine h_callV (n := 3) C0 w_TBm hh hS hl.1 [.ref x1, .ref r32, .int i36] [] (S_AL_add_LAI _ _ _ _ _ _ hw) hr38 rfl k_m_AL_131 k_inst_AL_add_LAI k_sel_AL_add_LAI k_ini_AL k_code_AL_add_LAI (by decide +kernel) rfl rfl (Nat.le_of_ble_eq_true rfl) ⟨(Nat.le_of_ble_eq_true rfl), (Nat.le_of_ble_eq_true rfl)⟩ ⟨(Nat.le_of_ble_eq_true rfl), (Nat.le_of_ble_eq_true rfl)⟩ d_AL_add_L_20 (h_kV (k := 1) (n := 160) (Nat.le_of_ble_eq_true rfl) (Nat.le_of_ble_eq_true rfl) (fun h39 H locs hw hh hS => ?_))
  refine lv_iconst (v := 1) hx hb d_AL_add_L_23 (by decide) ?_
  exact h_iret C0 hh hS rfl rfl ⟨_, rfl, hw⟩ d_AL_add_L_24
set_option maxHeartbeats 4000000 in
set_option maxRecDepth 100000 in
theorem S_Prec_checkIndex_IIL {l : Launch} {κ : hX} (Q : Int32 → hM → Prop) (h : hM) (x0 : Int32) (x1 : Int32) (hw : P_Prec_checkIndex_IIL Q h x0 x1) : Met l y_Prec_checkIndex_IIL [Cond.code y_Prec_checkIndex_IIL b_Prec_checkIndex_IIL 3 (some .int)] rm_Prec_checkIndex_IIL (hPc κ w_cl w_tl w_tb [.int x0, .int x1, .null] h) (hQ κ w_cl (qI Q)) 0 0 (h_A κ) := by
  refine h_enter w_TBm (by decide) (Nat.le_of_ble_eq_true rfl) ?_
  intro p e s m args below meth c C0 hnm hh hS ls hl
  obtain ⟨hx, hb, hml, hown, hts, hK, hF0, hrt, hlocks⟩ := id C0
  have hl : lv_has ls 3 [(0, .int x0), (1, .int x1), (2, .null)] := hl
  refine lv_iload_n hx hb d_Prec_checkIndex_IIL_0 rfl (lv_at hl 0 rfl) ?_
  refine lv_if_lt (tgt := 9) hx hb d_Prec_checkIndex_IIL_1 (by decide) (fun c3 => ?_) (fun c3 => ?_)
  · have hw := hw.1 c3
    exact hw.elim
  · have hw := hw.2 c3
    refine lv_iload_n hx hb d_Prec_checkIndex_IIL_4 rfl (lv_at hl 0 rfl) ?_
    refine lv_iload_n hx hb d_Prec_checkIndex_IIL_5 rfl (lv_at hl 1 rfl) ?_
    refine lv_icmp_lt (tgt := 16) hx hb d_Prec_checkIndex_IIL_6 (by decide) (fun c4 => ?_) (fun c4 => ?_)
    · have hw := hw.1 c4
      refine lv_iload_n hx hb d_Prec_checkIndex_IIL_16 rfl (lv_at hl 0 rfl) ?_
      exact h_iret C0 hh hS rfl rfl ⟨_, rfl, hw⟩ d_Prec_checkIndex_IIL_17
    · have hw := hw.2 c4
      exact hw.elim
set_option maxHeartbeats 4000000 in
set_option maxRecDepth 100000 in
theorem S_Objs_checkIndex_II {l : Launch} {κ : hX} (Q : Int32 → hM → Prop) (h : hM) (x0 : Int32) (x1 : Int32) (hw : P_Objs_checkIndex_II Q h x0 x1) : Met l y_Objs_checkIndex_II [Cond.code y_Objs_checkIndex_II b_Objs_checkIndex_II 2 (some .int)] rm_Objs_checkIndex_II (hPc κ w_cl w_tl w_tb [.int x0, .int x1] h) (hQ κ w_cl (qI Q)) 0 0 (h_A κ) := by
  refine h_enter w_TBm (by decide) (Nat.le_of_ble_eq_true rfl) ?_
  intro p e s m args below meth c C0 hnm hh hS ls hl
  obtain ⟨hx, hb, hml, hown, hts, hK, hF0, hrt, hlocks⟩ := id C0
  have hl : lv_has ls 2 [(0, .int x0), (1, .int x1)] := hl
  refine lv_iload_n hx hb d_Objs_checkIndex_II_0 rfl (lv_at hl 0 rfl) ?_
  refine lv_iload_n hx hb d_Objs_checkIndex_II_1 rfl (lv_at hl 1 rfl) ?_
  refine lv_null hx hb d_Objs_checkIndex_II_2 ?_
  refine h_callS (n := 3) C0 w_TBm hh hS hl.1 [.int x0, .int x1, .null] [] (S_Prec_checkIndex_IIL _ _ _ _ hw) k_m_Objs_105 k_stat_Prec_checkIndex_IIL k_ini_Prec k_code_Prec_checkIndex_IIL (by decide +kernel) rfl rfl (Nat.le_of_ble_eq_true rfl) ⟨(Nat.le_of_ble_eq_true rfl), (Nat.le_of_ble_eq_true rfl)⟩ ⟨(Nat.le_of_ble_eq_true rfl), (Nat.le_of_ble_eq_true rfl)⟩ d_Objs_checkIndex_II_3 (h_kI (k := 0) (n := 0) (Nat.le_of_ble_eq_true rfl) (Nat.le_of_ble_eq_true rfl) (fun i4 h3 H locs hw hh hS => ?_))
  exact h_iret C0 hh hS rfl rfl ⟨_, rfl, hw⟩ d_Objs_checkIndex_II_6
set_option maxHeartbeats 4000000 in
set_option maxRecDepth 100000 in
theorem S_AL_elementData {l : Launch} {κ : hX} (Q : Option Nat → hM → Prop) (h : hM) (x0 : Nat) (x1 : Int32) (hw : P_AL_elementData Q h x0 x1) : Met l y_AL_elementData [Cond.code y_AL_elementData b_AL_elementData 2 (some (.object "java/lang/Object"))] rm_AL_elementData (hPc κ w_cl w_tl w_tb [.ref x0, .int x1] h) (hQ κ w_cl (qO Q)) 0 0 (h_A κ) := by
  refine h_enter w_TBm (by decide) (Nat.le_of_ble_eq_true rfl) ?_
  intro p e s m args below meth c C0 hnm hh hS ls hl
  obtain ⟨hx, hb, hml, hown, hts, hK, hF0, hrt, hlocks⟩ := id C0
  have hl : lv_has ls 2 [(0, .ref x0), (1, .int x1)] := hl
  refine lv_aload_n hx hb d_AL_elementData_0 rfl (lv_at hl 0 rfl) ?_
  obtain ⟨fs10, r13, hr11, hk12, hw⟩ := hw
  refine h_get C0 hh hr11 hk12 rfl i_AL (by decide) k_f_AL_9 (fun _ h9 => h9) d_AL_elementData_1 ?_
  refine lv_iload_n hx hb d_AL_elementData_4 rfl (lv_at hl 1 rfl) ?_
  obtain ⟨n14, f15, hr16, hi17, hw⟩ := hw
  refine h_aald C0 hh hr16 hi17 rfl d_AL_elementData_5 ?_
  refine h_topO (fun o18 eo18 => ?_)
  have hw := hw o18 eo18
  exact h_aret (o := o18) C0 hh hS rfl (Or.inl ⟨_, rfl⟩) ⟨_, rfl, hw⟩ d_AL_elementData_6
set_option maxHeartbeats 4000000 in
set_option maxRecDepth 100000 in
theorem S_AL_get {l : Launch} {κ : hX} (Q : Option Nat → hM → Prop) (h : hM) (x0 : Nat) (x1 : Int32) (hw : P_AL_get Q h x0 x1) : Met l y_AL_get [Cond.code y_AL_get b_AL_get 2 (some (.object "java/lang/Object"))] rm_AL_get (hPc κ w_cl w_tl w_tb [.ref x0, .int x1] h) (hQ κ w_cl (qO Q)) 0 0 (h_A κ) := by
  refine h_enter w_TBm (by decide) (Nat.le_of_ble_eq_true rfl) ?_
  intro p e s m args below meth c C0 hnm hh hS ls hl
  obtain ⟨hx, hb, hml, hown, hts, hK, hF0, hrt, hlocks⟩ := id C0
  have hl : lv_has ls 2 [(0, .ref x0), (1, .int x1)] := hl
  refine lv_iload_n hx hb d_AL_get_0 rfl (lv_at hl 1 rfl) ?_
  refine lv_aload_n hx hb d_AL_get_1 rfl (lv_at hl 0 rfl) ?_
  obtain ⟨fs11, i14, hr12, hk13, hw⟩ := hw
  refine h_get C0 hh hr12 hk13 rfl i_AL (by decide) k_f_AL_48 (fun _ h9 => h9) d_AL_get_2 ?_
  refine h_callS (n := 2) C0 w_TBm hh hS hl.1 [.int x1, .int i14] [] (S_Objs_checkIndex_II _ _ _ _ hw) k_m_AL_118 k_stat_Objs_checkIndex_II k_ini_Objs k_code_Objs_checkIndex_II (by decide +kernel) rfl rfl (Nat.le_of_ble_eq_true rfl) ⟨(Nat.le_of_ble_eq_true rfl), (Nat.le_of_ble_eq_true rfl)⟩ ⟨(Nat.le_of_ble_eq_true rfl), (Nat.le_of_ble_eq_true rfl)⟩ d_AL_get_5 (h_kI (k := 0) (n := 0) (Nat.le_of_ble_eq_true rfl) (Nat.le_of_ble_eq_true rfl) (fun i16 h15 H locs hw hh hS => ?_))
  refine lv_pop hx hb d_AL_get_8 rfl ?_
  refine lv_aload_n hx hb d_AL_get_9 rfl (lv_at hl 0 rfl) ?_
  refine lv_iload_n hx hb d_AL_get_10 rfl (lv_at hl 1 rfl) ?_
  obtain ⟨fs17, hr18, hw⟩ := hw
  refine h_callV (n := 1) C0 w_TBm hh hS hl.1 [.int x1] [] (S_AL_elementData _ _ _ _ hw) hr18 rfl k_m_AL_123 k_inst_AL_elementData k_sel_AL_elementData k_ini_AL k_code_AL_elementData (by decide +kernel) rfl rfl (Nat.le_of_ble_eq_true rfl) ⟨(Nat.le_of_ble_eq_true rfl), (Nat.le_of_ble_eq_true rfl)⟩ ⟨(Nat.le_of_ble_eq_true rfl), (Nat.le_of_ble_eq_true rfl)⟩ d_AL_get_11 (h_kO (k := 0) (n := 0) (Nat.le_of_ble_eq_true rfl) (Nat.le_of_ble_eq_true rfl) (fun o20 h19 H locs hw hh hS => ?_))
  exact h_aret (o := o20) C0 hh hS rfl (Or.inl ⟨_, rfl⟩) ⟨_, rfl, hw⟩ d_AL_get_14
