set_option maxHeartbeats 4000000 in
set_option maxRecDepth 100000 in
theorem S_Rows_addNeed_2 {p : Program} {l : Launch} {e : Env} {s : State} {m : MethodId} {args : Array Value} {below : List Frame} {meth : Method} {c : Code} {κ : hX} {Q : hM → Prop} (C0 : Cw κ w_cl w_tl w_tb p s m args meth c b_Rows_addNeed 5 R_Rows none) : ∀ (n : Nat) (h : hM) (x0 : Nat) (x1 : Nat) (x2 : Nat) (x3 : Int32) (H : Heap) (locs : List Loc) (ls : Array Slot), L_Rows_addNeed_2 Q n h x0 x1 x2 x3 → hp κ w_cl h H → va_S (h_A κ) s.heap H locs → lv_has ls 5 [(0, .ref x0), (1, .ref x1), (2, .ref x2), (3, .int x3)] → W p l e rm_Rows_addNeed s m args below meth c H locs 0 0 (MQ below (hQ κ w_cl (qV Q)) args s 0 0 (h_A κ)) (F0 m 2 ls []) := by
  obtain ⟨hx, hb, hml, hown, hts, hK, hF0, hrt, hlocks⟩ := id C0
  intro n
  induction n with
  | zero =>
    intro h x0 x1 x2 x3 H locs ls hw
    exact hw.elim
  | succ n hK2 =>
    intro h x0 x1 x2 x3 H locs ls hw hh hS hl
    have hw : P_Rows_addNeed_2 Q (L_Rows_addNeed_2 Q n) h x0 x1 x2 x3 := hw
    refine lv_iload_n hx hb d_Rows_addNeed_2 rfl (lv_at hl 3 rfl) ?_
    refine lv_aload_n hx hb d_Rows_addNeed_3 rfl (lv_at hl 0 rfl) ?_
    obtain ⟨fs149, r152, hr150, hk151, hw⟩ := hw
    refine h_get C0 hh hr150 hk151 rfl i_Rows (by decide) k_f_Rows_16 (fun _ h9 => h9) d_Rows_addNeed_4 ?_
    obtain ⟨fs153, hr154, hw⟩ := hw
    refine h_callV (n := 0) C0 w_TBm hh hS hl.1 [] [.int x3] (S_AL_size _ _ _ hw) hr154 rfl k_m_Rows_60 k_inst_AL_size k_sel_AL_size k_ini_AL k_code_AL_size (by decide +kernel) rfl rfl (Nat.le_of_ble_eq_true rfl) ⟨(Nat.le_of_ble_eq_true rfl), (Nat.le_of_ble_eq_true rfl)⟩ ⟨(Nat.le_of_ble_eq_true rfl), (Nat.le_of_ble_eq_true rfl)⟩ d_Rows_addNeed_7 (h_kI (k := 0) (n := 0) (Nat.le_of_ble_eq_true rfl) (Nat.le_of_ble_eq_true rfl) (fun i156 h155 H locs hw hh hS => ?_))
    refine lv_icmp_ge (tgt := 77) hx hb d_Rows_addNeed_10 (by decide) (fun c157 => ?_) (fun c157 => ?_)
    · have hw := hw.1 c157
      exact h_vret C0 hh hS rfl ⟨rfl, hw⟩ d_Rows_addNeed_77
    · have hw := hw.2 c157
      refine lv_aload_n hx hb d_Rows_addNeed_13 rfl (lv_at hl 0 rfl) ?_
      obtain ⟨fs158, r161, hr159, hk160, hw⟩ := hw
      refine h_get C0 hh hr159 hk160 rfl i_Rows (by decide) k_f_Rows_16 (fun _ h9 => h9) d_Rows_addNeed_14 ?_
      refine lv_iload_n hx hb d_Rows_addNeed_17 rfl (lv_at hl 3 rfl) ?_
      obtain ⟨fs162, hr163, hw⟩ := hw
      refine h_callV (n := 1) C0 w_TBm hh hS hl.1 [.int x3] [] (S_AL_get _ _ _ _ hw) hr163 rfl k_m_Rows_156 k_inst_AL_get k_sel_AL_get k_ini_AL k_code_AL_get (by decide +kernel) rfl rfl (Nat.le_of_ble_eq_true rfl) ⟨(Nat.le_of_ble_eq_true rfl), (Nat.le_of_ble_eq_true rfl)⟩ ⟨(Nat.le_of_ble_eq_true rfl), (Nat.le_of_ble_eq_true rfl)⟩ d_Rows_addNeed_18 (h_kO (k := 0) (n := 0) (Nat.le_of_ble_eq_true rfl) (Nat.le_of_ble_eq_true rfl) (fun o165 h164 H locs hw hh hS => ?_))
      rcases o165 with _ | a166
      · have hw := hw.1 rfl
        have hl : lv_has ls 5 [(0, .ref x0), (1, .ref x1), (2, .ref x2), (3, .int x3)] := hl
        refine lv_castN hx hb d_Rows_addNeed_21 ?_
        refine lv_astoreN (lv' := [(4, .null), (0, .ref x0), (1, .ref x1), (2, .ref x2), (3, .int x3)]) hx hb d_Rows_addNeed_24 hl (by decide) rfl (fun ls hl => ?_)
        refine lv_aloadN hx hb d_Rows_addNeed_26 (lv_at hl 0 rfl) ?_
        refine lv_aload_n hx hb d_Rows_addNeed_28 rfl (lv_at hl 2 rfl) ?_
        refine lv_acmp_eq (rx := none) (ry := (some x1)) (tgt := 47) hx hb d_Rows_addNeed_29 (by decide) (fun c167 => ?_) (fun c167 => ?_)
        · have hw := hw.1 c167
          exact S_Rows_addNeed_47 C0 hK2 _ _ _ _ _ _ _ _ _ hw hh hS (lv_sub hl [1, 2, 3, 4, 0] rfl)
        · have hw := hw.2 c167
          refine lv_aloadN hx hb d_Rows_addNeed_32 (lv_at hl 0 rfl) ?_
          exact hw.elim
      · have hw := hw.2 a166 rfl
        have hl : lv_has ls 5 [(0, .ref x0), (1, .ref x1), (2, .ref x2), (3, .int x3)] := hl
        obtain ⟨⟨fs168, hr169⟩, hw⟩ := hw
        refine h_cast C0 hh hr169 rfl k_c_Rows_86 d_Rows_addNeed_21 ?_
        refine lv_astore (lv' := [(4, .ref a166), (0, .ref x0), (1, .ref x1), (2, .ref x2), (3, .int x3)]) hx hb d_Rows_addNeed_24 hl (by decide) rfl (fun ls hl => ?_)
        refine lv_aload hx hb d_Rows_addNeed_26 (lv_at hl 0 rfl) ?_
        refine lv_aload_n hx hb d_Rows_addNeed_28 rfl (lv_at hl 2 rfl) ?_
        refine lv_acmp_eq (rx := (some a166)) (ry := (some x1)) (tgt := 47) hx hb d_Rows_addNeed_29 (by decide) (fun c170 => ?_) (fun c170 => ?_)
        · have hw := hw.1 (Option.some.inj c170)
          exact S_Rows_addNeed_47 C0 hK2 _ _ _ _ _ _ _ _ _ hw hh hS (lv_sub hl [1, 2, 3, 4, 0] rfl)
        · have hw := hw.2 (fun z => c170 (congrArg some z))
          refine lv_aload hx hb d_Rows_addNeed_32 (lv_at hl 0 rfl) ?_
          obtain ⟨fs171, r174, hr172, hk173, hw⟩ := hw
          refine h_get C0 hh hr172 hk173 rfl i_Job (by decide) k_f_Rows_99 (fun _ h9 => h9) d_Rows_addNeed_34 ?_
          refine lv_aload_n hx hb d_Rows_addNeed_37 rfl (lv_at hl 2 rfl) ?_
          obtain ⟨fs175, i178, hr176, hk177, hw⟩ := hw
          refine h_get C0 hh hr176 hk177 rfl i_Job (by decide) k_f_Rows_136 (fun _ h9 => h9) d_Rows_addNeed_38 ?_
          obtain ⟨fs179, hr180, hw⟩ := hw
          refine h_callV (n := 1) C0 w_TBm hh hS hl.1 [.int i178] [] (S_NS_has _ _ _ _ hw) hr180 rfl k_m_Rows_102 k_inst_NS_has k_sel_NS_has k_ini_NS k_code_NS_has (by decide +kernel) rfl rfl (Nat.le_of_ble_eq_true rfl) ⟨(Nat.le_of_ble_eq_true rfl), (Nat.le_of_ble_eq_true rfl)⟩ ⟨(Nat.le_of_ble_eq_true rfl), (Nat.le_of_ble_eq_true rfl)⟩ d_Rows_addNeed_41 (h_kI (k := 0) (n := 0) (Nat.le_of_ble_eq_true rfl) (Nat.le_of_ble_eq_true rfl) (fun i182 h181 H locs hw hh hS => ?_))
          refine lv_if_eq (tgt := 71) hx hb d_Rows_addNeed_44 (by decide) (fun c183 => ?_) (fun c183 => ?_)
          · have hw := hw.1 c183
            exact S_Rows_addNeed_71 C0 hK2 _ _ _ _ _ _ _ _ hw hh hS (lv_sub hl [1, 2, 3, 4] rfl)
          · have hw := hw.2 c183
            exact S_Rows_addNeed_47 C0 hK2 _ _ _ _ _ _ _ _ _ hw hh hS (lv_sub hl [1, 2, 3, 4, 0] rfl)
set_option maxHeartbeats 4000000 in
set_option maxRecDepth 100000 in
theorem S_Rows_addNeed {l : Launch} {κ : hX} (Q : hM → Prop) (h : hM) (x0 : Nat) (x1 : Nat) (x2 : Nat) (hw : P_Rows_addNeed Q h x0 x1 x2) : Met l y_Rows_addNeed [Cond.code y_Rows_addNeed b_Rows_addNeed 5 none] rm_Rows_addNeed (hPc κ w_cl w_tl w_tb [.ref x0, .ref x1, .ref x2] h) (hQ κ w_cl (qV Q)) 0 0 (h_A κ) := by
  refine h_enter w_TBm (by decide) (Nat.le_of_ble_eq_true rfl) ?_
  intro p e s m args below meth c C0 hnm hh hS ls hl
  obtain ⟨hx, hb, hml, hown, hts, hK, hF0, hrt, hlocks⟩ := id C0
  have hl : lv_has ls 5 [(0, .ref x0), (1, .ref x1), (2, .ref x2)] := hl
  refine lv_iconst (v := 0) hx hb d_Rows_addNeed_0 (by decide) ?_
  refine lv_istore_n (lv' := [(3, .int (0 : Int32)), (0, .ref x0), (1, .ref x1), (2, .ref x2)]) hx hb d_Rows_addNeed_1 rfl hl (by decide) rfl (fun ls hl => ?_)
  obtain ⟨n0, hw⟩ := hw
  exact S_Rows_addNeed_2 C0 n0 _ _ _ _ _ _ _ _ hw hh hS (lv_sub hl [1, 2, 3, 0] rfl)
set_option maxHeartbeats 4000000 in
set_option maxRecDepth 100000 in
theorem S_Rows_needs {l : Launch} {κ : hX} (Q : Int32 → hM → Prop) (h : hM) (x0 : Nat) (x1 : Int32) (x2 : Int32) (hw : P_Rows_needs Q h x0 x1 x2) : Met l y_Rows_needs [Cond.code y_Rows_needs b_Rows_needs 5 (some .int)] rm_Rows_needs (hPc κ w_cl w_tl w_tb [.ref x0, .int x1, .int x2] h) (hQ κ w_cl (qI Q)) 0 0 (h_A κ) := by
  refine h_enter w_TBm (by decide) (Nat.le_of_ble_eq_true rfl) ?_
  intro p e s m args below meth c C0 hnm hh hS ls hl
  obtain ⟨hx, hb, hml, hown, hts, hK, hF0, hrt, hlocks⟩ := id C0
  have hl : lv_has ls 5 [(0, .ref x0), (1, .int x1), (2, .int x2)] := hl
  refine lv_aload_n hx hb d_Rows_needs_0 rfl (lv_at hl 0 rfl) ?_
  refine lv_iload_n hx hb d_Rows_needs_1 rfl (lv_at hl 1 rfl) ?_
  obtain ⟨fs32, hr33, hw⟩ := hw
  refine h_callV (n := 1) C0 w_TBm hh hS hl.1 [.int x1] [] (S_Rows_findJob _ _ _ _ hw) hr33 rfl k_m_Rows_91 k_inst_Rows_findJob k_sel_Rows_findJob k_ini_Rows k_code_Rows_findJob (by decide +kernel) rfl rfl (Nat.le_of_ble_eq_true rfl) ⟨(Nat.le_of_ble_eq_true rfl), (Nat.le_of_ble_eq_true rfl)⟩ ⟨(Nat.le_of_ble_eq_true rfl), (Nat.le_of_ble_eq_true rfl)⟩ d_Rows_needs_2 (h_kO (k := 0) (n := 0) (Nat.le_of_ble_eq_true rfl) (Nat.le_of_ble_eq_true rfl) (fun o35 h34 H locs hw hh hS => ?_))
  refine h_astore_nO (lv' := [(3, va_rf o35), (0, .ref x0), (1, .int x1), (2, .int x2)]) hx hb d_Rows_needs_5 rfl hl (by decide) rfl (fun ls hl => ?_)
  refine lv_aload_n hx hb d_Rows_needs_6 rfl (lv_at hl 1 rfl) ?_
  refine lv_iload_n hx hb d_Rows_needs_7 rfl (lv_at hl 3 rfl) ?_
  obtain ⟨fs36, hr37, hw⟩ := hw
  refine h_callV (n := 1) C0 w_TBm hh hS hl.1 [.int x2] [] (S_Rows_findJob _ _ _ _ hw) hr37 rfl k_m_Rows_91 k_inst_Rows_findJob k_sel_Rows_findJob k_ini_Rows k_code_Rows_findJob (by decide +kernel) rfl rfl (Nat.le_of_ble_eq_true rfl) ⟨(Nat.le_of_ble_eq_true rfl), (Nat.le_of_ble_eq_true rfl)⟩ ⟨(Nat.le_of_ble_eq_true rfl), (Nat.le_of_ble_eq_true rfl)⟩ d_Rows_needs_8 (h_kO (k := 0) (n := 0) (Nat.le_of_ble_eq_true rfl) (Nat.le_of_ble_eq_true rfl) (fun o39 h38 H locs hw hh hS => ?_))
  refine h_astoreO (lv' := [(4, va_rf o39), (3, va_rf o35), (0, .ref x0), (1, .int x1), (2, .int x2)]) hx hb d_Rows_needs_11 hl (by decide) (by cases o35 <;> rfl) (fun ls hl => ?_)
  refine h_aload_nO hx hb d_Rows_needs_13 rfl (lv_at hl 1 rfl) ?_
  rcases o35 with _ | a41
  · have hw := hw.1 rfl
    have hl : lv_has ls 5 [(4, va_rf o39), (3, .null), (0, .ref x0), (1, .int x1), (2, .int x2)] := hl
    refine lv_ifnullN (tgt := 22) hx hb d_Rows_needs_14 (by decide) ?_
    refine lv_bipush (v := -2) hx hb d_Rows_needs_22 (by decide) ?_
    exact h_iret C0 hh hS rfl rfl ⟨_, rfl, hw⟩ d_Rows_needs_24
  · have hw := hw.2 a41 rfl
    have hl : lv_has ls 5 [(4, va_rf o39), (3, .ref a41), (0, .ref x0), (1, .int x1), (2, .int x2)] := hl
    refine lv_ifnull hx hb d_Rows_needs_14 ?_
    refine h_aloadO hx hb d_Rows_needs_17 (lv_at hl 0 rfl) ?_
    rcases o39 with _ | a43
    · have hw := hw.1 rfl
      have hl : lv_has ls 5 [(4, .null), (3, .ref a41), (0, .ref x0), (1, .int x1), (2, .int x2)] := hl
      refine lv_ifnonnullN hx hb d_Rows_needs_19 ?_
      refine lv_bipush (v := -2) hx hb d_Rows_needs_22 (by decide) ?_
      exact h_iret C0 hh hS rfl rfl ⟨_, rfl, hw⟩ d_Rows_needs_24
    · have hw := hw.2 a43 rfl
      have hl : lv_has ls 5 [(4, .ref a43), (3, .ref a41), (0, .ref x0), (1, .int x1), (2, .int x2)] := hl
      refine lv_ifnonnull (tgt := 25) hx hb d_Rows_needs_19 (by decide) ?_
      refine lv_aload_n hx hb d_Rows_needs_25 rfl (lv_at hl 1 rfl) ?_
      obtain ⟨fs44, hr45, hw⟩ := hw
      refine h_callV (n := 0) C0 w_TBm hh hS hl.1 [] [] (S_Job_isWaiting _ _ _ hw) hr45 rfl k_m_Rows_95 k_inst_Job_isWaiting k_sel_Job_isWaiting k_ini_Job k_code_Job_isWaiting (by decide +kernel) rfl rfl (Nat.le_of_ble_eq_true rfl) ⟨(Nat.le_of_ble_eq_true rfl), (Nat.le_of_ble_eq_true rfl)⟩ ⟨(Nat.le_of_ble_eq_true rfl), (Nat.le_of_ble_eq_true rfl)⟩ d_Rows_needs_26 (h_kI (k := 0) (n := 0) (Nat.le_of_ble_eq_true rfl) (Nat.le_of_ble_eq_true rfl) (fun i47 h46 H locs hw hh hS => ?_))
      refine lv_if_ne (tgt := 35) hx hb d_Rows_needs_29 (by decide) (fun c48 => ?_) (fun c48 => ?_)
      · have hw := hw.1 c48
        refine lv_iload_n hx hb d_Rows_needs_35 rfl (lv_at hl 3 rfl) ?_
        refine lv_iload_n hx hb d_Rows_needs_36 rfl (lv_at hl 4 rfl) ?_
        refine lv_icmp_eq (tgt := 52) hx hb d_Rows_needs_37 (by decide) (fun c49 => ?_) (fun c49 => ?_)
        · have hw := hw.1 c49
          refine lv_iconst (v := 0) hx hb d_Rows_needs_52 (by decide) ?_
          exact h_iret C0 hh hS rfl rfl ⟨_, rfl, hw⟩ d_Rows_needs_53
        · have hw := hw.2 c49
          refine lv_aload hx hb d_Rows_needs_40 (lv_at hl 0 rfl) ?_
          obtain ⟨fs50, r53, hr51, hk52, hw⟩ := hw
          refine h_get C0 hh hr51 hk52 rfl i_Job (by decide) k_f_Rows_99 (fun _ h9 => h9) d_Rows_needs_42 ?_
          refine lv_iload_n hx hb d_Rows_needs_45 rfl (lv_at hl 3 rfl) ?_
          obtain ⟨fs54, hr55, hw⟩ := hw
          refine h_callV (n := 1) C0 w_TBm hh hS hl.1 [.int x1] [] (S_NS_has _ _ _ _ hw) hr55 rfl k_m_Rows_102 k_inst_NS_has k_sel_NS_has k_ini_NS k_code_NS_has (by decide +kernel) rfl rfl (Nat.le_of_ble_eq_true rfl) ⟨(Nat.le_of_ble_eq_true rfl), (Nat.le_of_ble_eq_true rfl)⟩ ⟨(Nat.le_of_ble_eq_true rfl), (Nat.le_of_ble_eq_true rfl)⟩ d_Rows_needs_46 (h_kI (k := 0) (n := 0) (Nat.le_of_ble_eq_true rfl) (Nat.le_of_ble_eq_true rfl) (fun i57 h56 H locs hw hh hS => ?_))
          refine lv_if_eq (tgt := 54) hx hb d_Rows_needs_49 (by decide) (fun c58 => ?_) (fun c58 => ?_)
          · have hw := hw.1 c58
            refine lv_aload_n hx hb d_Rows_needs_54 rfl (lv_at hl 2 rfl) ?_
            refine lv_aload_n hx hb d_Rows_needs_55 rfl (lv_at hl 1 rfl) ?_
            refine lv_aload hx hb d_Rows_needs_56 (lv_at hl 0 rfl) ?_
            obtain ⟨fs59, hr60, hw⟩ := hw
            refine h_callV (n := 2) C0 w_TBm hh hS hl.1 [.ref a41, .ref a43] [] (S_Rows_addNeed _ _ _ _ _ hw) hr60 rfl k_m_Rows_105 k_inst_Rows_addNeed k_sel_Rows_addNeed k_ini_Rows k_code_Rows_addNeed (by decide +kernel) rfl rfl (Nat.le_of_ble_eq_true rfl) ⟨(Nat.le_of_ble_eq_true rfl), (Nat.le_of_ble_eq_true rfl)⟩ ⟨(Nat.le_of_ble_eq_true rfl), (Nat.le_of_ble_eq_true rfl)⟩ d_Rows_needs_58 (h_kV (k := 0) (n := 0) (Nat.le_of_ble_eq_true rfl) (Nat.le_of_ble_eq_true rfl) (fun h61 H locs hw hh hS => ?_))
            refine lv_iconst (v := 1) hx hb d_Rows_needs_61 (by decide) ?_
            exact h_iret C0 hh hS rfl rfl ⟨_, rfl, hw⟩ d_Rows_needs_62
          · have hw := hw.2 c58
            refine lv_iconst (v := 0) hx hb d_Rows_needs_52 (by decide) ?_
            exact h_iret C0 hh hS rfl rfl ⟨_, rfl, hw⟩ d_Rows_needs_53
      · have hw := hw.2 c48
        refine lv_bipush (v := -5) hx hb d_Rows_needs_32 (by decide) ?_
        exact h_iret C0 hh hS rfl rfl ⟨_, rfl, hw⟩ d_Rows_needs_34
set_option maxHeartbeats 4000000 in
set_option maxRecDepth 100000 in
theorem S_Rows_isKind {l : Launch} {κ : hX} (Q : Int32 → hM → Prop) (h : hM) (x0 : Int32) (hw : P_Rows_isKind Q h x0) : Met l y_Rows_isKind [Cond.code y_Rows_isKind b_Rows_isKind 1 (some .boolean)] rm_Rows_isKind (hPc κ w_cl w_tl w_tb [.int x0] h) (hQ κ w_cl (qI Q)) 0 0 (h_A κ) := by
  refine h_enter w_TBm (by decide) (Nat.le_of_ble_eq_true rfl) ?_
  intro p e s m args below meth c C0 hnm hh hS ls hl
  obtain ⟨hx, hb, hml, hown, hts, hK, hF0, hrt, hlocks⟩ := id C0
  have hl : lv_has ls 1 [(0, .int x0)] := hl
  refine lv_iload_n hx hb d_Rows_isKind_0 rfl (lv_at hl 0 rfl) ?_
  refine lv_iconst (v := 0) hx hb d_Rows_isKind_1 (by decide) ?_
  refine lv_iconst (v := 3) hx hb d_Rows_isKind_2 (by decide) ?_
  refine h_callS (n := 3) C0 w_TBm hh hS hl.1 [.int x0, .int (0 : Int32), .int (3 : Int32)] [] (S_Rows_isIn _ _ _ _ _ hw) k_m_Rows_75 k_stat_Rows_isIn k_ini_Rows k_code_Rows_isIn (by decide +kernel) rfl rfl (Nat.le_of_ble_eq_true rfl) ⟨(Nat.le_of_ble_eq_true rfl), (Nat.le_of_ble_eq_true rfl)⟩ ⟨(Nat.le_of_ble_eq_true rfl), (Nat.le_of_ble_eq_true rfl)⟩ d_Rows_isKind_3 (h_kI (k := 0) (n := 0) (Nat.le_of_ble_eq_true rfl) (Nat.le_of_ble_eq_true rfl) (fun i4 h3 H locs hw hh hS => ?_))
  exact h_iret C0 hh hS rfl (h_nz hw.1) ⟨_, rfl, hw.2⟩ d_Rows_isKind_6
set_option maxHeartbeats 4000000 in
set_option maxRecDepth 100000 in
theorem S_Rows_units {l : Launch} {κ : hX} (Q : Int32 → hM → Prop) (h : hM) (x0 : Nat) (x1 : Int32) (x2 : Int32) (hw : P_Rows_units Q h x0 x1 x2) : Met l y_Rows_units [Cond.code y_Rows_units b_Rows_units 3 (some .int)] rm_Rows_units (hPc κ w_cl w_tl w_tb [.ref x0, .int x1, .int x2] h) (hQ κ w_cl (qI Q)) 0 0 (h_A κ) := by
  refine h_enter w_TBm (by decide) (Nat.le_of_ble_eq_true rfl) ?_
  intro p e s m args below meth c C0 hnm hh hS ls hl
  obtain ⟨hx, hb, hml, hown, hts, hK, hF0, hrt, hlocks⟩ := id C0
  have hl : lv_has ls 3 [(0, .ref x0), (1, .int x1), (2, .int x2)] := hl
  refine lv_iload_n hx hb d_Rows_units_0 rfl (lv_at hl 1 rfl) ?_
  refine h_callS (n := 1) C0 w_TBm hh hS hl.1 [.int x1] [] (S_Rows_isKind _ _ _ hw) k_m_Rows_109 k_stat_Rows_isKind k_ini_Rows k_code_Rows_isKind (by decide +kernel) rfl rfl (Nat.le_of_ble_eq_true rfl) ⟨(Nat.le_of_ble_eq_true rfl), (Nat.le_of_ble_eq_true rfl)⟩ ⟨(Nat.le_of_ble_eq_true rfl), (Nat.le_of_ble_eq_true rfl)⟩ d_Rows_units_1 (h_kI (k := 0) (n := 0) (Nat.le_of_ble_eq_true rfl) (Nat.le_of_ble_eq_true rfl) (fun i17 h16 H locs hw hh hS => ?_))
  refine lv_if_eq (tgt := 18) hx hb d_Rows_units_4 (by decide) (fun c18 => ?_) (fun c18 => ?_)
  · have hw := hw.1 c18
    refine lv_bipush (v := -4) hx hb d_Rows_units_18 (by decide) ?_
    exact h_iret C0 hh hS rfl rfl ⟨_, rfl, hw⟩ d_Rows_units_20
  · have hw := hw.2 c18
    refine lv_iload_n hx hb d_Rows_units_7 rfl (lv_at hl 2 rfl) ?_
    refine lv_iconst (v := 0) hx hb d_Rows_units_8 (by decide) ?_
    refine lv_sipush (v := 1000) hx hb d_Rows_units_9 (by decide) ?_
    refine h_callS (n := 3) C0 w_TBm hh hS hl.1 [.int x2, .int (0 : Int32), .int (1000 : Int32)] [] (S_Rows_isIn _ _ _ _ _ hw) k_m_Rows_75 k_stat_Rows_isIn k_ini_Rows k_code_Rows_isIn (by decide +kernel) rfl rfl (Nat.le_of_ble_eq_true rfl) ⟨(Nat.le_of_ble_eq_true rfl), (Nat.le_of_ble_eq_true rfl)⟩ ⟨(Nat.le_of_ble_eq_true rfl), (Nat.le_of_ble_eq_true rfl)⟩ d_Rows_units_12 (h_kI (k := 0) (n := 0) (Nat.le_of_ble_eq_true rfl) (Nat.le_of_ble_eq_true rfl) (fun i20 h19 H locs hw hh hS => ?_))
    refine lv_if_ne (tgt := 21) hx hb d_Rows_units_15 (by decide) (fun c21 => ?_) (fun c21 => ?_)
    · have hw := hw.1 c21
      refine lv_aload_n hx hb d_Rows_units_21 rfl (lv_at hl 0 rfl) ?_
      obtain ⟨fs22, r25, hr23, hk24, hw⟩ := hw
      refine h_get C0 hh hr23 hk24 rfl i_Rows (by decide) k_f_Rows_32 (fun _ h9 => h9) d_Rows_units_22 ?_
      refine lv_iload_n hx hb d_Rows_units_25 rfl (lv_at hl 1 rfl) ?_
      refine lv_iload_n hx hb d_Rows_units_26 rfl (lv_at hl 2 rfl) ?_
      obtain ⟨n26, f27, hr28, hi29, hw⟩ := hw
      refine h_iast C0 hh hS hr28 hi29 rfl d_Rows_units_27 (fun H locs hh hS => ?_)
      obtain ⟨h30, eh30⟩ : ∃ z : hM, z = h_up h19 r25 (eT 0 n26 (upd f27 x1.toNatClampNeg x2)) := ⟨_, rfl⟩
      rw [← eh30] at hh
      have hw := hw h30 eh30
      refine lv_iconst (v := 1) hx hb d_Rows_units_28 (by decide) ?_
      exact h_iret C0 hh hS rfl rfl ⟨_, rfl, hw⟩ d_Rows_units_29
    · have hw := hw.2 c21
      refine lv_bipush (v := -4) hx hb d_Rows_units_18 (by decide) ?_
      exact h_iret C0 hh hS rfl rfl ⟨_, rfl, hw⟩ d_Rows_units_20
set_option maxHeartbeats 4000000 in
set_option maxRecDepth 100000 in
theorem S_Rows_uses {l : Launch} {κ : hX} (Q : Int32 → hM → Prop) (h : hM) (x0 : Nat) (x1 : Int32) (x2 : Int32) (x3 : Int32) (hw : P_Rows_uses Q h x0 x1 x2 x3) : Met l y_Rows_uses [Cond.code y_Rows_uses b_Rows_uses 5 (some .int)] rm_Rows_uses (hPc κ w_cl w_tl w_tb [.ref x0, .int x1, .int x2, .int x3] h) (hQ κ w_cl (qI Q)) 0 0 (h_A κ) := by
  refine h_enter w_TBm (by decide) (Nat.le_of_ble_eq_true rfl) ?_
  intro p e s m args below meth c C0 hnm hh hS ls hl
  obtain ⟨hx, hb, hml, hown, hts, hK, hF0, hrt, hlocks⟩ := id C0
  have hl : lv_has ls 5 [(0, .ref x0), (1, .int x1), (2, .int x2), (3, .int x3)] := hl
  refine lv_aload_n hx hb d_Rows_uses_0 rfl (lv_at hl 0 rfl) ?_
  refine lv_iload_n hx hb d_Rows_uses_1 rfl (lv_at hl 1 rfl) ?_
  obtain ⟨fs27, hr28, hw⟩ := hw
  refine h_callV (n := 1) C0 w_TBm hh hS hl.1 [.int x1] [] (S_Rows_findJob _ _ _ _ hw) hr28 rfl k_m_Rows_91 k_inst_Rows_findJob k_sel_Rows_findJob k_ini_Rows k_code_Rows_findJob (by decide +kernel) rfl rfl (Nat.le_of_ble_eq_true rfl) ⟨(Nat.le_of_ble_eq_true rfl), (Nat.le_of_ble_eq_true rfl)⟩ ⟨(Nat.le_of_ble_eq_true rfl), (Nat.le_of_ble_eq_true rfl)⟩ d_Rows_uses_2 (h_kO (k := 0) (n := 0) (Nat.le_of_ble_eq_true rfl) (Nat.le_of_ble_eq_true rfl) (fun o30 h29 H locs hw hh hS => ?_))
  refine h_astoreO (lv' := [(4, va_rf o30), (0, .ref x0), (1, .int x1), (2, .int x2), (3, .int x3)]) hx hb d_Rows_uses_5 hl (by decide) rfl (fun ls hl => ?_)
  refine h_aloadO hx hb d_Rows_uses_7 (lv_at hl 0 rfl) ?_
  rcases o30 with _ | a32
  · have hw := hw.1 rfl
    have hl : lv_has ls 5 [(4, .null), (0, .ref x0), (1, .int x1), (2, .int x2), (3, .int x3)] := hl
    refine lv_ifnonnullN hx hb d_Rows_uses_9 ?_
    refine lv_bipush (v := -2) hx hb d_Rows_uses_12 (by decide) ?_
    exact h_iret C0 hh hS rfl rfl ⟨_, rfl, hw⟩ d_Rows_uses_14
  · have hw := hw.2 a32 rfl
    have hl : lv_has ls 5 [(4, .ref a32), (0, .ref x0), (1, .int x1), (2, .int x2), (3, .int x3)] := hl
    refine lv_ifnonnull (tgt := 15) hx hb d_Rows_uses_9 (by decide) ?_
    refine lv_iload_n hx hb d_Rows_uses_15 rfl (lv_at hl 3 rfl) ?_
    refine h_callS (n := 1) C0 w_TBm hh hS hl.1 [.int x2] [] (S_Rows_isKind _ _ _ hw) k_m_Rows_109 k_stat_Rows_isKind k_ini_Rows k_code_Rows_isKind (by decide +kernel) rfl rfl (Nat.le_of_ble_eq_true rfl) ⟨(Nat.le_of_ble_eq_true rfl), (Nat.le_of_ble_eq_true rfl)⟩ ⟨(Nat.le_of_ble_eq_true rfl), (Nat.le_of_ble_eq_true rfl)⟩ d_Rows_uses_16 (h_kI (k := 0) (n := 0) (Nat.le_of_ble_eq_true rfl) (Nat.le_of_ble_eq_true rfl) (fun i34 h33 H locs hw hh hS => ?_))
    refine lv_if_eq (tgt := 33) hx hb d_Rows_uses_19 (by decide) (fun c35 => ?_) (fun c35 => ?_)
    · have hw := hw.1 c35
      refine lv_bipush (v := -4) hx hb d_Rows_uses_33 (by decide) ?_
      exact h_iret C0 hh hS rfl rfl ⟨_, rfl, hw⟩ d_Rows_uses_35
    · have hw := hw.2 c35
      refine lv_iload_n hx hb d_Rows_uses_22 rfl (lv_at hl 4 rfl) ?_
      refine lv_iconst (v := 0) hx hb d_Rows_uses_23 (by decide) ?_
      refine lv_sipush (v := 1000) hx hb d_Rows_uses_24 (by decide) ?_
      refine h_callS (n := 3) C0 w_TBm hh hS hl.1 [.int x3, .int (0 : Int32), .int (1000 : Int32)] [] (S_Rows_isIn _ _ _ _ _ hw) k_m_Rows_75 k_stat_Rows_isIn k_ini_Rows k_code_Rows_isIn (by decide +kernel) rfl rfl (Nat.le_of_ble_eq_true rfl) ⟨(Nat.le_of_ble_eq_true rfl), (Nat.le_of_ble_eq_true rfl)⟩ ⟨(Nat.le_of_ble_eq_true rfl), (Nat.le_of_ble_eq_true rfl)⟩ d_Rows_uses_27 (h_kI (k := 0) (n := 0) (Nat.le_of_ble_eq_true rfl) (Nat.le_of_ble_eq_true rfl) (fun i37 h36 H locs hw hh hS => ?_))
      refine lv_if_ne (tgt := 36) hx hb d_Rows_uses_30 (by decide) (fun c38 => ?_) (fun c38 => ?_)
      · have hw := hw.1 c38
        refine lv_aload hx hb d_Rows_uses_36 (lv_at hl 0 rfl) ?_
        obtain ⟨fs39, hr40, hw⟩ := hw
        refine h_callV (n := 0) C0 w_TBm hh hS hl.1 [] [] (S_Job_isWaiting _ _ _ hw) hr40 rfl k_m_Rows_95 k_inst_Job_isWaiting k_sel_Job_isWaiting k_ini_Job k_code_Job_isWaiting (by decide +kernel) rfl rfl (Nat.le_of_ble_eq_true rfl) ⟨(Nat.le_of_ble_eq_true rfl), (Nat.le_of_ble_eq_true rfl)⟩ ⟨(Nat.le_of_ble_eq_true rfl), (Nat.le_of_ble_eq_true rfl)⟩ d_Rows_uses_38 (h_kI (k := 0) (n := 0) (Nat.le_of_ble_eq_true rfl) (Nat.le_of_ble_eq_true rfl) (fun i42 h41 H locs hw hh hS => ?_))
        refine lv_if_ne (tgt := 47) hx hb d_Rows_uses_41 (by decide) (fun c43 => ?_) (fun c43 => ?_)
        · have hw := hw.1 c43
          refine lv_aload hx hb d_Rows_uses_47 (lv_at hl 0 rfl) ?_
          obtain ⟨fs44, r47, hr45, hk46, hw⟩ := hw
          refine h_get C0 hh hr45 hk46 rfl i_Job (by decide) k_f_Rows_112 (fun _ h9 => h9) d_Rows_uses_49 ?_
          refine lv_iload_n hx hb d_Rows_uses_52 rfl (lv_at hl 3 rfl) ?_
          refine lv_iload_n hx hb d_Rows_uses_53 rfl (lv_at hl 4 rfl) ?_
          obtain ⟨n48, f49, hr50, hi51, hw⟩ := hw
          refine h_iast C0 hh hS hr50 hi51 rfl d_Rows_uses_54 (fun H locs hh hS => ?_)
          obtain ⟨h52, eh52⟩ : ∃ z : hM, z = h_up h41 r47 (eT 0 n48 (upd f49 x2.toNatClampNeg x3)) := ⟨_, rfl⟩
          rw [← eh52] at hh
          have hw := hw h52 eh52
          refine lv_iconst (v := 1) hx hb d_Rows_uses_55 (by decide) ?_
          exact h_iret C0 hh hS rfl rfl ⟨_, rfl, hw⟩ d_Rows_uses_56
        · have hw := hw.2 c43
          refine lv_bipush (v := -5) hx hb d_Rows_uses_44 (by decide) ?_
          exact h_iret C0 hh hS rfl rfl ⟨_, rfl, hw⟩ d_Rows_uses_46
      · have hw := hw.2 c38
        refine lv_bipush (v := -4) hx hb d_Rows_uses_33 (by decide) ?_
        exact h_iret C0 hh hS rfl rfl ⟨_, rfl, hw⟩ d_Rows_uses_35
set_option maxHeartbeats 4000000 in
set_option maxRecDepth 100000 in
theorem S_Rows_alone {l : Launch} {κ : hX} (Q : Int32 → hM → Prop) (h : hM) (x0 : Nat) (x1 : Int32) (hw : P_Rows_alone Q h x0 x1) : Met l y_Rows_alone [Cond.code y_Rows_alone b_Rows_alone 3 (some .int)] rm_Rows_alone (hPc κ w_cl w_tl w_tb [.ref x0, .int x1] h) (hQ κ w_cl (qI Q)) 0 0 (h_A κ) := by
  refine h_enter w_TBm (by decide) (Nat.le_of_ble_eq_true rfl) ?_
  intro p e s m args below meth c C0 hnm hh hS ls hl
  obtain ⟨hx, hb, hml, hown, hts, hK, hF0, hrt, hlocks⟩ := id C0
  have hl : lv_has ls 3 [(0, .ref x0), (1, .int x1)] := hl
  refine lv_aload_n hx hb d_Rows_alone_0 rfl (lv_at hl 0 rfl) ?_
  refine lv_iload_n hx hb d_Rows_alone_1 rfl (lv_at hl 1 rfl) ?_
  obtain ⟨fs16, hr17, hw⟩ := hw
  refine h_callV (n := 1) C0 w_TBm hh hS hl.1 [.int x1] [] (S_Rows_findJob _ _ _ _ hw) hr17 rfl k_m_Rows_91 k_inst_Rows_findJob k_sel_Rows_findJob k_ini_Rows k_code_Rows_findJob (by decide +kernel) rfl rfl (Nat.le_of_ble_eq_true rfl) ⟨(Nat.le_of_ble_eq_true rfl), (Nat.le_of_ble_eq_true rfl)⟩ ⟨(Nat.le_of_ble_eq_true rfl), (Nat.le_of_ble_eq_true rfl)⟩ d_Rows_alone_2 (h_kO (k := 0) (n := 0) (Nat.le_of_ble_eq_true rfl) (Nat.le_of_ble_eq_true rfl) (fun o19 h18 H locs hw hh hS => ?_))
  refine h_astore_nO (lv' := [(2, va_rf o19), (0, .ref x0), (1, .int x1)]) hx hb d_Rows_alone_5 rfl hl (by decide) rfl (fun ls hl => ?_)
  refine h_aload_nO hx hb d_Rows_alone_6 rfl (lv_at hl 0 rfl) ?_
  rcases o19 with _ | a21
  · have hw := hw.1 rfl
    have hl : lv_has ls 3 [(2, .null), (0, .ref x0), (1, .int x1)] := hl
    refine lv_ifnonnullN hx hb d_Rows_alone_7 ?_
    refine lv_bipush (v := -2) hx hb d_Rows_alone_10 (by decide) ?_
    exact h_iret C0 hh hS rfl rfl ⟨_, rfl, hw⟩ d_Rows_alone_12
  · have hw := hw.2 a21 rfl
    have hl : lv_has ls 3 [(2, .ref a21), (0, .ref x0), (1, .int x1)] := hl
    refine lv_ifnonnull (tgt := 13) hx hb d_Rows_alone_7 (by decide) ?_
    refine lv_aload_n hx hb d_Rows_alone_13 rfl (lv_at hl 0 rfl) ?_
    obtain ⟨fs22, hr23, hw⟩ := hw
    refine h_callV (n := 0) C0 w_TBm hh hS hl.1 [] [] (S_Job_isWaiting _ _ _ hw) hr23 rfl k_m_Rows_95 k_inst_Job_isWaiting k_sel_Job_isWaiting k_ini_Job k_code_Job_isWaiting (by decide +kernel) rfl rfl (Nat.le_of_ble_eq_true rfl) ⟨(Nat.le_of_ble_eq_true rfl), (Nat.le_of_ble_eq_true rfl)⟩ ⟨(Nat.le_of_ble_eq_true rfl), (Nat.le_of_ble_eq_true rfl)⟩ d_Rows_alone_14 (h_kI (k := 0) (n := 0) (Nat.le_of_ble_eq_true rfl) (Nat.le_of_ble_eq_true rfl) (fun i25 h24 H locs hw hh hS => ?_))
    refine lv_if_ne (tgt := 23) hx hb d_Rows_alone_17 (by decide) (fun c26 => ?_) (fun c26 => ?_)
    · have hw := hw.1 c26
      refine lv_aload_n hx hb d_Rows_alone_23 rfl (lv_at hl 0 rfl) ?_
      refine lv_iconst (v := 1) hx hb d_Rows_alone_24 (by decide) ?_
      obtain ⟨fs27, hr28, hk29, hw⟩ := hw
      refine h_put C0 hh hS (v := .int (1 : Int32)) hr28 hk29 rfl i_Job t_Job t_Job_ok n_Job (by decide) k_f_Rows_115 (fun _ h9 => h9) rfl rfl rfl rfl d_Rows_alone_25 (fun H locs hh hS => ?_)
      obtain ⟨h30, eh30⟩ : ∃ z : hM, z = h_up h24 a21 (eO 1 (fs27.set 7 (.int (1 : Int32)))) := ⟨_, rfl⟩
      rw [← eh30] at hh
      have hw := hw h30 eh30
      refine lv_iconst (v := 1) hx hb d_Rows_alone_28 (by decide) ?_
      exact h_iret C0 hh hS rfl rfl ⟨_, rfl, hw⟩ d_Rows_alone_29
    · have hw := hw.2 c26
      refine lv_bipush (v := -5) hx hb d_Rows_alone_20 (by decide) ?_
      exact h_iret C0 hh hS rfl rfl ⟨_, rfl, hw⟩ d_Rows_alone_22
set_option maxHeartbeats 4000000 in
set_option maxRecDepth 100000 in
theorem S_Rows_hold_32 {p : Program} {l : Launch} {e : Env} {s : State} {m : MethodId} {args : Array Value} {below : List Frame} {meth : Method} {c : Code} {κ : hX} {Q : Int32 → hM → Prop} (C0 : Cw κ w_cl w_tl w_tb p s m args meth c b_Rows_hold 5 R_Rows (some .int)) : ∀ (h : hM) (x3 : Nat) (t0 : Int32) (H : Heap) (locs : List Loc) (ls : Array Slot), P_Rows_hold_32 Q h x3 t0 → hp κ w_cl h H → va_S (h_A κ) s.heap H locs → lv_has ls 5 [(3, .ref x3)] → W p l e rm_Rows_hold s m args below meth c H locs 0 0 (MQ below (hQ κ w_cl (qI Q)) args s 0 0 (h_A κ)) (F0 m 32 ls [.int t0]) := by
  obtain ⟨hx, hb, hml, hown, hts, hK, hF0, hrt, hlocks⟩ := id C0
  intro h x3 t0 H locs ls hw hh hS hl
  refine lv_istore (lv' := [(4, .int t0), (3, .ref x3)]) hx hb d_Rows_hold_32 hl (by decide) rfl (fun ls hl => ?_)
  refine lv_aload_n hx hb d_Rows_hold_34 rfl (lv_at hl 1 rfl) ?_
  obtain ⟨fs43, i46, hr44, hk45, hw⟩ := hw
  refine h_get C0 hh hr44 hk45 rfl i_Job (by decide) k_f_Rows_119 (fun _ h9 => h9) d_Rows_hold_35 ?_
  refine lv_iload hx hb d_Rows_hold_38 (lv_at hl 0 rfl) ?_
  refine lv_icmp_ne (tgt := 45) hx hb d_Rows_hold_40 (by decide) (fun c47 => ?_) (fun c47 => ?_)
  · have hw := hw.1 c47
    refine lv_aload_n hx hb d_Rows_hold_45 rfl (lv_at hl 1 rfl) ?_
    refine lv_iload hx hb d_Rows_hold_46 (lv_at hl 0 rfl) ?_
    obtain ⟨fs48, hr49, hk50, hw⟩ := hw
    refine h_put C0 hh hS (v := .int t0) hr49 hk50 rfl i_Job t_Job t_Job_ok n_Job (by decide) k_f_Rows_119 (fun _ h9 => h9) rfl rfl rfl rfl d_Rows_hold_48 (fun H locs hh hS => ?_)
    obtain ⟨h51, eh51⟩ : ∃ z : hM, z = h_up h x3 (eO 1 (fs48.set 8 (.int t0))) := ⟨_, rfl⟩
    rw [← eh51] at hh
    have hw := hw h51 eh51
    refine lv_iconst (v := 1) hx hb d_Rows_hold_51 (by decide) ?_
    exact h_iret C0 hh hS rfl rfl ⟨_, rfl, hw⟩ d_Rows_hold_52
  · have hw := hw.2 c47
    refine lv_iconst (v := 0) hx hb d_Rows_hold_43 (by decide) ?_
    exact h_iret C0 hh hS rfl rfl ⟨_, rfl, hw⟩ d_Rows_hold_44
set_option maxHeartbeats 4000000 in
set_option maxRecDepth 100000 in
theorem S_Rows_hold {l : Launch} {κ : hX} (Q : Int32 → hM → Prop) (h : hM) (x0 : Nat) (x1 : Int32) (x2 : Int32) (hw : P_Rows_hold Q h x0 x1 x2) : Met l y_Rows_hold [Cond.code y_Rows_hold b_Rows_hold 5 (some .int)] rm_Rows_hold (hPc κ w_cl w_tl w_tb [.ref x0, .int x1, .int x2] h) (hQ κ w_cl (qI Q)) 0 0 (h_A κ) := by
  refine h_enter w_TBm (by decide) (Nat.le_of_ble_eq_true rfl) ?_
  intro p e s m args below meth c C0 hnm hh hS ls hl
  obtain ⟨hx, hb, hml, hown, hts, hK, hF0, hrt, hlocks⟩ := id C0
  have hl : lv_has ls 5 [(0, .ref x0), (1, .int x1), (2, .int x2)] := hl
  refine lv_aload_n hx hb d_Rows_hold_0 rfl (lv_at hl 0 rfl) ?_
  refine lv_iload_n hx hb d_Rows_hold_1 rfl (lv_at hl 1 rfl) ?_
  obtain ⟨fs52, hr53, hw⟩ := hw
  refine h_callV (n := 1) C0 w_TBm hh hS hl.1 [.int x1] [] (S_Rows_findJob _ _ _ _ hw) hr53 rfl k_m_Rows_91 k_inst_Rows_findJob k_sel_Rows_findJob k_ini_Rows k_code_Rows_findJob (by decide +kernel) rfl rfl (Nat.le_of_ble_eq_true rfl) ⟨(Nat.le_of_ble_eq_true rfl), (Nat.le_of_ble_eq_true rfl)⟩ ⟨(Nat.le_of_ble_eq_true rfl), (Nat.le_of_ble_eq_true rfl)⟩ d_Rows_hold_2 (h_kO (k := 0) (n := 0) (Nat.le_of_ble_eq_true rfl) (Nat.le_of_ble_eq_true rfl) (fun o55 h54 H locs hw hh hS => ?_))
  refine h_astore_nO (lv' := [(3, va_rf o55), (0, .ref x0), (1, .int x1), (2, .int x2)]) hx hb d_Rows_hold_5 rfl hl (by decide) rfl (fun ls hl => ?_)
  refine h_aload_nO hx hb d_Rows_hold_6 rfl (lv_at hl 0 rfl) ?_
  rcases o55 with _ | a57
  · have hw := hw.1 rfl
    have hl : lv_has ls 5 [(3, .null), (0, .ref x0), (1, .int x1), (2, .int x2)] := hl
    refine lv_ifnonnullN hx hb d_Rows_hold_7 ?_
    refine lv_bipush (v := -2) hx hb d_Rows_hold_10 (by decide) ?_
    exact h_iret C0 hh hS rfl rfl ⟨_, rfl, hw⟩ d_Rows_hold_12
  · have hw := hw.2 a57 rfl
    have hl : lv_has ls 5 [(3, .ref a57), (0, .ref x0), (1, .int x1), (2, .int x2)] := hl
    refine lv_ifnonnull (tgt := 13) hx hb d_Rows_hold_7 (by decide) ?_
    refine lv_aload_n hx hb d_Rows_hold_13 rfl (lv_at hl 0 rfl) ?_
    obtain ⟨fs58, hr59, hw⟩ := hw
    refine h_callV (n := 0) C0 w_TBm hh hS hl.1 [] [] (S_Job_isWaiting _ _ _ hw) hr59 rfl k_m_Rows_95 k_inst_Job_isWaiting k_sel_Job_isWaiting k_ini_Job k_code_Job_isWaiting (by decide +kernel) rfl rfl (Nat.le_of_ble_eq_true rfl) ⟨(Nat.le_of_ble_eq_true rfl), (Nat.le_of_ble_eq_true rfl)⟩ ⟨(Nat.le_of_ble_eq_true rfl), (Nat.le_of_ble_eq_true rfl)⟩ d_Rows_hold_14 (h_kI (k := 0) (n := 0) (Nat.le_of_ble_eq_true rfl) (Nat.le_of_ble_eq_true rfl) (fun i61 h60 H locs hw hh hS => ?_))
    refine lv_if_ne (tgt := 23) hx hb d_Rows_hold_17 (by decide) (fun c62 => ?_) (fun c62 => ?_)
    · have hw := hw.1 c62
      refine lv_iload_n hx hb d_Rows_hold_23 rfl (lv_at hl 3 rfl) ?_
      refine lv_if_eq (tgt := 31) hx hb d_Rows_hold_24 (by decide) (fun c63 => ?_) (fun c63 => ?_)
      · have hw := hw.1 c63
        refine lv_iconst (v := 0) hx hb d_Rows_hold_31 (by decide) ?_
        exact S_Rows_hold_32 C0 _ _ _ _ _ _ hw hh hS (lv_sub hl [0] rfl)
      · have hw := hw.2 c63
        refine lv_iconst (v := 1) hx hb d_Rows_hold_27 (by decide) ?_
        refine lv_goto (tgt := 32) hx hb d_Rows_hold_28 (by decide) ?_
        exact S_Rows_hold_32 C0 _ _ _ _ _ _ hw hh hS (lv_sub hl [0] rfl)
    · have hw := hw.2 c62
      refine lv_bipush (v := -5) hx hb d_Rows_hold_20 (by decide) ?_
      exact h_iret C0 hh hS rfl rfl ⟨_, rfl, hw⟩ d_Rows_hold_22
set_option maxHeartbeats 4000000 in
set_option maxRecDepth 100000 in
theorem S_Rows_isWindowOpen {l : Launch} {κ : hX} (Q : Int32 → hM → Prop) (h : hM) (x0 : Nat) (x1 : Int32) (hw : P_Rows_isWindowOpen Q h x0 x1) : Met l y_Rows_isWindowOpen [Cond.code y_Rows_isWindowOpen b_Rows_isWindowOpen 5 (some .boolean)] rm_Rows_isWindowOpen (hPc κ w_cl w_tl w_tb [.ref x0, .int x1] h) (hQ κ w_cl (qI Q)) 0 0 (h_A κ) := by
  refine h_enter w_TBm (by decide) (Nat.le_of_ble_eq_true rfl) ?_
  intro p e s m args below meth c C0 hnm hh hS ls hl
  obtain ⟨hx, hb, hml, hown, hts, hK, hF0, hrt, hlocks⟩ := id C0
  have hl : lv_has ls 5 [(0, .ref x0), (1, .int x1)] := hl
  refine lv_aload_n hx hb d_Rows_isWindowOpen_0 rfl (lv_at hl 0 rfl) ?_
  obtain ⟨fs30, j33, hr31, hk32, hw⟩ := hw
  refine h_get C0 hh hr31 hk32 rfl i_Rows (by decide) k_f_Rows_49 (fun _ h9 => h9) d_Rows_isWindowOpen_1 ?_
  refine lv_ldc2 (v := 1440) hx hb hown (hts _ k_k_Rows_223) d_Rows_isWindowOpen_4 ?_
  refine lv_lrem hx hb d_Rows_isWindowOpen_7 (by decide) ?_
  refine lv_l2i (v := (j33 - j33 / (1440 : Int64) * (1440 : Int64)).toInt32) hx hb d_Rows_isWindowOpen_8 rfl ?_
  refine lv_topi (fun x2_34 ex2_34 => ?_)
  have hw := hw x2_34 ex2_34
  refine lv_istore_n (lv' := [(2, .int x2_34), (0, .ref x0), (1, .int x1)]) hx hb d_Rows_isWindowOpen_9 rfl hl (by decide) rfl (fun ls hl => ?_)
  refine lv_aload_n hx hb d_Rows_isWindowOpen_10 rfl (lv_at hl 1 rfl) ?_
  obtain ⟨fs35, r38, hr36, hk37, hw⟩ := hw
  refine h_get C0 hh hr36 hk37 rfl i_Rows (by decide) k_f_Rows_23 (fun _ h9 => h9) d_Rows_isWindowOpen_11 ?_
  refine lv_iload_n hx hb d_Rows_isWindowOpen_14 rfl (lv_at hl 2 rfl) ?_
  obtain ⟨n39, f40, hr41, hi42, hw⟩ := hw
  refine h_iald C0 hh hr41 hi42 rfl d_Rows_isWindowOpen_15 ?_
  refine lv_topi (fun x3_43 ex3_43 => ?_)
  have hw := hw x3_43 ex3_43
  refine lv_istore_n (lv' := [(3, .int x3_43), (2, .int x2_34), (0, .ref x0), (1, .int x1)]) hx hb d_Rows_isWindowOpen_16 rfl hl (by decide) rfl (fun ls hl => ?_)
  refine lv_aload_n hx hb d_Rows_isWindowOpen_17 rfl (lv_at hl 2 rfl) ?_
  obtain ⟨fs44, r47, hr45, hk46, hw⟩ := hw
  refine h_get C0 hh hr45 hk46 rfl i_Rows (by decide) k_f_Rows_26 (fun _ h9 => h9) d_Rows_isWindowOpen_18 ?_
  refine lv_iload_n hx hb d_Rows_isWindowOpen_21 rfl (lv_at hl 3 rfl) ?_
  obtain ⟨n48, f49, hr50, hi51, hw⟩ := hw
  refine h_iald C0 hh hr50 hi51 rfl d_Rows_isWindowOpen_22 ?_
  refine lv_topi (fun x4_52 ex4_52 => ?_)
  have hw := hw x4_52 ex4_52
  refine lv_istore (lv' := [(4, .int x4_52), (3, .int x3_43), (2, .int x2_34), (0, .ref x0), (1, .int x1)]) hx hb d_Rows_isWindowOpen_23 hl (by decide) rfl (fun ls hl => ?_)
  refine lv_iload_n hx hb d_Rows_isWindowOpen_25 rfl (lv_at hl 1 rfl) ?_
  refine lv_iload hx hb d_Rows_isWindowOpen_26 (lv_at hl 0 rfl) ?_
  refine lv_icmp_ne (tgt := 33) hx hb d_Rows_isWindowOpen_28 (by decide) (fun c53 => ?_) (fun c53 => ?_)
  · have hw := hw.1 c53
    refine lv_iload_n hx hb d_Rows_isWindowOpen_33 rfl (lv_at hl 1 rfl) ?_
    refine lv_iload hx hb d_Rows_isWindowOpen_34 (lv_at hl 0 rfl) ?_
    refine lv_icmp_ge (tgt := 58) hx hb d_Rows_isWindowOpen_36 (by decide) (fun c54 => ?_) (fun c54 => ?_)
    · have hw := hw.1 c54
      refine lv_iload_n hx hb d_Rows_isWindowOpen_58 rfl (lv_at hl 2 rfl) ?_
      refine lv_iload_n hx hb d_Rows_isWindowOpen_59 rfl (lv_at hl 1 rfl) ?_
      refine lv_icmp_ge (tgt := 69) hx hb d_Rows_isWindowOpen_60 (by decide) (fun c55 => ?_) (fun c55 => ?_)
      · have hw := hw.1 c55
        refine lv_iconst (v := 1) hx hb d_Rows_isWindowOpen_69 (by decide) ?_
        refine lv_goto (tgt := 74) hx hb d_Rows_isWindowOpen_70 (by decide) ?_
        exact h_iret C0 hh hS rfl rfl ⟨_, rfl, hw⟩ d_Rows_isWindowOpen_74
      · have hw := hw.2 c55
        refine lv_iload_n hx hb d_Rows_isWindowOpen_63 rfl (lv_at hl 2 rfl) ?_
        refine lv_iload hx hb d_Rows_isWindowOpen_64 (lv_at hl 0 rfl) ?_
        refine lv_icmp_ge (tgt := 73) hx hb d_Rows_isWindowOpen_66 (by decide) (fun c56 => ?_) (fun c56 => ?_)
        · have hw := hw.1 c56
          refine lv_iconst (v := 0) hx hb d_Rows_isWindowOpen_73 (by decide) ?_
          exact h_iret C0 hh hS rfl rfl ⟨_, rfl, hw⟩ d_Rows_isWindowOpen_74
        · have hw := hw.2 c56
          refine lv_iconst (v := 1) hx hb d_Rows_isWindowOpen_69 (by decide) ?_
          refine lv_goto (tgt := 74) hx hb d_Rows_isWindowOpen_70 (by decide) ?_
          exact h_iret C0 hh hS rfl rfl ⟨_, rfl, hw⟩ d_Rows_isWindowOpen_74
    · have hw := hw.2 c54
      refine lv_iload_n hx hb d_Rows_isWindowOpen_39 rfl (lv_at hl 2 rfl) ?_
      refine lv_iload_n hx hb d_Rows_isWindowOpen_40 rfl (lv_at hl 1 rfl) ?_
      refine lv_icmp_lt (tgt := 54) hx hb d_Rows_isWindowOpen_41 (by decide) (fun c57 => ?_) (fun c57 => ?_)
      · have hw := hw.1 c57
        refine lv_iconst (v := 0) hx hb d_Rows_isWindowOpen_54 (by decide) ?_
        refine lv_goto (tgt := 74) hx hb d_Rows_isWindowOpen_55 (by decide) ?_
        exact h_iret C0 hh hS rfl rfl ⟨_, rfl, hw⟩ d_Rows_isWindowOpen_74
      · have hw := hw.2 c57
        refine lv_iload_n hx hb d_Rows_isWindowOpen_44 rfl (lv_at hl 2 rfl) ?_
        refine lv_iload hx hb d_Rows_isWindowOpen_45 (lv_at hl 0 rfl) ?_
        refine lv_icmp_ge (tgt := 54) hx hb d_Rows_isWindowOpen_47 (by decide) (fun c58 => ?_) (fun c58 => ?_)
        · have hw := hw.1 c58
          refine lv_iconst (v := 0) hx hb d_Rows_isWindowOpen_54 (by decide) ?_
          refine lv_goto (tgt := 74) hx hb d_Rows_isWindowOpen_55 (by decide) ?_
          exact h_iret C0 hh hS rfl rfl ⟨_, rfl, hw⟩ d_Rows_isWindowOpen_74
        · have hw := hw.2 c58
          refine lv_iconst (v := 1) hx hb d_Rows_isWindowOpen_50 (by decide) ?_
          refine lv_goto (tgt := 74) hx hb d_Rows_isWindowOpen_51 (by decide) ?_
          exact h_iret C0 hh hS rfl rfl ⟨_, rfl, hw⟩ d_Rows_isWindowOpen_74
  · have hw := hw.2 c53
    refine lv_iconst (v := 1) hx hb d_Rows_isWindowOpen_31 (by decide) ?_
    exact h_iret C0 hh hS rfl rfl ⟨_, rfl, hw⟩ d_Rows_isWindowOpen_32
set_option maxHeartbeats 4000000 in
set_option maxRecDepth 100000 in
theorem S_Rows_areUnitsEnough_2 {p : Program} {l : Launch} {e : Env} {s : State} {m : MethodId} {args : Array Value} {below : List Frame} {meth : Method} {c : Code} {κ : hX} {Q : Int32 → hM → Prop} (C0 : Cw κ w_cl w_tl w_tb p s m args meth c b_Rows_areUnitsEnough 3 R_Rows (some .boolean)) : ∀ (n : Nat) (h : hM) (x0 : Nat) (x1 : Nat) (x2 : Int32) (H : Heap) (locs : List Loc) (ls : Array Slot), L_Rows_areUnitsEnough_2 Q n h x0 x1 x2 → hp κ w_cl h H → va_S (h_A κ) s.heap H locs → lv_has ls 3 [(0, .ref x0), (1, .ref x1), (2, .int x2)] → W p l e rm_Rows_areUnitsEnough s m args below meth c H locs 0 0 (MQ below (hQ κ w_cl (qI Q)) args s 0 0 (h_A κ)) (F0 m 2 ls []) := by
  obtain ⟨hx, hb, hml, hown, hts, hK, hF0, hrt, hlocks⟩ := id C0
  intro n
  induction n with
  | zero =>
    intro h x0 x1 x2 H locs ls hw
    exact hw.elim
  | succ n hK2 =>
    intro h x0 x1 x2 H locs ls hw hh hS hl
    have hw : P_Rows_areUnitsEnough_2 Q (L_Rows_areUnitsEnough_2 Q n) h x0 x1 x2 := hw
    refine lv_iload_n hx hb d_Rows_areUnitsEnough_2 rfl (lv_at hl 2 rfl) ?_
    refine lv_iconst (v := 4) hx hb d_Rows_areUnitsEnough_3 (by decide) ?_
    refine lv_icmp_ge (tgt := 40) hx hb d_Rows_areUnitsEnough_4 (by decide) (fun c63 => ?_) (fun c63 => ?_)
    · have hw := hw.1 c63
      refine lv_iconst (v := 1) hx hb d_Rows_areUnitsEnough_40 (by decide) ?_
      exact h_iret C0 hh hS rfl rfl ⟨_, rfl, hw⟩ d_Rows_areUnitsEnough_41
    · have hw := hw.2 c63
      refine lv_aload_n hx hb d_Rows_areUnitsEnough_7 rfl (lv_at hl 1 rfl) ?_
      obtain ⟨fs64, r67, hr65, hk66, hw⟩ := hw
      refine h_get C0 hh hr65 hk66 rfl i_Job (by decide) k_f_Rows_112 (fun _ h9 => h9) d_Rows_areUnitsEnough_8 ?_
      refine lv_iload_n hx hb d_Rows_areUnitsEnough_11 rfl (lv_at hl 2 rfl) ?_
      obtain ⟨n68, f69, hr70, hi71, hw⟩ := hw
      refine h_iald C0 hh hr70 hi71 rfl d_Rows_areUnitsEnough_12 ?_
      refine lv_aload_n hx hb d_Rows_areUnitsEnough_13 rfl (lv_at hl 0 rfl) ?_
      obtain ⟨fs72, r75, hr73, hk74, hw⟩ := hw
      refine h_get C0 hh hr73 hk74 rfl i_Rows (by decide) k_f_Rows_38 (fun _ h9 => h9) d_Rows_areUnitsEnough_14 ?_
      obtain ⟨fs76, r79, hr77, hk78, hw⟩ := hw
      refine h_get C0 hh hr77 hk78 rfl i_Load (by decide) k_f_Rows_225 (fun _ h9 => h9) d_Rows_areUnitsEnough_17 ?_
      refine lv_iload_n hx hb d_Rows_areUnitsEnough_20 rfl (lv_at hl 2 rfl) ?_
      obtain ⟨n80, f81, hr82, hi83, hw⟩ := hw
      refine h_iald C0 hh hr82 hi83 rfl d_Rows_areUnitsEnough_21 ?_
      refine lv_iadd hx hb d_Rows_areUnitsEnough_22 ?_
      refine lv_aload_n hx hb d_Rows_areUnitsEnough_23 rfl (lv_at hl 0 rfl) ?_
      obtain ⟨fs84, r87, hr85, hk86, hw⟩ := hw
      refine h_get C0 hh hr85 hk86 rfl i_Rows (by decide) k_f_Rows_32 (fun _ h9 => h9) d_Rows_areUnitsEnough_24 ?_
      refine lv_iload_n hx hb d_Rows_areUnitsEnough_27 rfl (lv_at hl 2 rfl) ?_
      obtain ⟨n88, f89, hr90, hi91, hw⟩ := hw
      refine h_iald C0 hh hr90 hi91 rfl d_Rows_areUnitsEnough_28 ?_
      refine lv_icmp_le (tgt := 34) hx hb d_Rows_areUnitsEnough_29 (by decide) (fun c92 => ?_) (fun c92 => ?_)
      · have hw := hw.1 c92
        obtain ⟨x2_93, ex2_93⟩ : ∃ z : Int32, z = x2 + 1 := ⟨_, rfl⟩
        have hw := hw x2_93 ex2_93
        refine lv_iinc (v := x2_93) (lv' := [(2, .int x2_93), (0, .ref x0), (1, .ref x1)]) hx hb d_Rows_areUnitsEnough_34 hl (k := 2) rfl (by rw [ex2_93]; rfl) (by decide) rfl (fun ls hl => ?_)
        refine lv_goto (tgt := 2) hx hb d_Rows_areUnitsEnough_37 (by decide) ?_
        exact hK2 _ _ _ _ _ _ _ hw hh hS (lv_sub hl [1, 2, 0] rfl)
      · have hw := hw.2 c92
        refine lv_iconst (v := 0) hx hb d_Rows_areUnitsEnough_32 (by decide) ?_
        exact h_iret C0 hh hS rfl rfl ⟨_, rfl, hw⟩ d_Rows_areUnitsEnough_33
set_option maxHeartbeats 4000000 in
set_option maxRecDepth 100000 in
theorem S_Rows_areUnitsEnough {l : Launch} {κ : hX} (Q : Int32 → hM → Prop) (h : hM) (x0 : Nat) (x1 : Nat) (hw : P_Rows_areUnitsEnough Q h x0 x1) : Met l y_Rows_areUnitsEnough [Cond.code y_Rows_areUnitsEnough b_Rows_areUnitsEnough 3 (some .boolean)] rm_Rows_areUnitsEnough (hPc κ w_cl w_tl w_tb [.ref x0, .ref x1] h) (hQ κ w_cl (qI Q)) 0 0 (h_A κ) := by
  refine h_enter w_TBm (by decide) (Nat.le_of_ble_eq_true rfl) ?_
  intro p e s m args below meth c C0 hnm hh hS ls hl
  obtain ⟨hx, hb, hml, hown, hts, hK, hF0, hrt, hlocks⟩ := id C0
  have hl : lv_has ls 3 [(0, .ref x0), (1, .ref x1)] := hl
  refine lv_iconst (v := 0) hx hb d_Rows_areUnitsEnough_0 (by decide) ?_
  refine lv_istore_n (lv' := [(2, .int (0 : Int32)), (0, .ref x0), (1, .ref x1)]) hx hb d_Rows_areUnitsEnough_1 rfl hl (by decide) rfl (fun ls hl => ?_)
  obtain ⟨n0, hw⟩ := hw
  exact S_Rows_areUnitsEnough_2 C0 n0 _ _ _ _ _ _ _ hw hh hS (lv_sub hl [1, 2, 0] rfl)
set_option maxHeartbeats 4000000 in
set_option maxRecDepth 100000 in
theorem S_Rows_mayStart {l : Launch} {κ : hX} (Q : Int32 → hM → Prop) (h : hM) (x0 : Nat) (x1 : Nat) (hw : P_Rows_mayStart Q h x0 x1) : Met l y_Rows_mayStart [Cond.code y_Rows_mayStart b_Rows_mayStart 2 (some .boolean)] rm_Rows_mayStart (hPc κ w_cl w_tl w_tb [.ref x0, .ref x1] h) (hQ κ w_cl (qI Q)) 0 0 (h_A κ) := by
  refine h_enter w_TBm (by decide) (Nat.le_of_ble_eq_true rfl) ?_
  intro p e s m args below meth c C0 hnm hh hS ls hl
  obtain ⟨hx, hb, hml, hown, hts, hK, hF0, hrt, hlocks⟩ := id C0
  have hl : lv_has ls 2 [(0, .ref x0), (1, .ref x1)] := hl
  refine lv_aload_n hx hb d_Rows_mayStart_0 rfl (lv_at hl 1 rfl) ?_
  obtain ⟨fs102, i105, hr103, hk104, hw⟩ := hw
  refine h_get C0 hh hr103 hk104 rfl i_Job (by decide) k_f_Rows_119 (fun _ h9 => h9) d_Rows_mayStart_1 ?_
  refine lv_if_ne (tgt := 112) hx hb d_Rows_mayStart_4 (by decide) (fun c106 => ?_) (fun c106 => ?_)
  · have hw := hw.1 c106
    refine lv_iconst (v := 0) hx hb d_Rows_mayStart_112 (by decide) ?_
    exact h_iret C0 hh hS rfl rfl ⟨_, rfl, hw⟩ d_Rows_mayStart_113
  · have hw := hw.2 c106
    refine lv_aload_n hx hb d_Rows_mayStart_7 rfl (lv_at hl 0 rfl) ?_
    obtain ⟨fs107, r110, hr108, hk109, hw⟩ := hw
    refine h_get C0 hh hr108 hk109 rfl i_Rows (by decide) k_f_Rows_38 (fun _ h9 => h9) d_Rows_mayStart_8 ?_
    obtain ⟨fs111, r114, hr112, hk113, hw⟩ := hw
    refine h_get C0 hh hr112 hk113 rfl i_Load (by decide) k_f_Rows_201 (fun _ h9 => h9) d_Rows_mayStart_11 ?_
    refine lv_aload_n hx hb d_Rows_mayStart_14 rfl (lv_at hl 1 rfl) ?_
    obtain ⟨fs115, i118, hr116, hk117, hw⟩ := hw
    refine h_get C0 hh hr116 hk117 rfl i_Job (by decide) k_f_Rows_194 (fun _ h9 => h9) d_Rows_mayStart_15 ?_
    obtain ⟨n119, f120, hr121, hi122, hw⟩ := hw
    refine h_iald C0 hh hr121 hi122 rfl d_Rows_mayStart_18 ?_
    refine lv_aload_n hx hb d_Rows_mayStart_19 rfl (lv_at hl 0 rfl) ?_
    obtain ⟨fs123, r126, hr124, hk125, hw⟩ := hw
    refine h_get C0 hh hr124 hk125 rfl i_Rows (by decide) k_f_Rows_19 (fun _ h9 => h9) d_Rows_mayStart_20 ?_
    refine lv_aload_n hx hb d_Rows_mayStart_23 rfl (lv_at hl 1 rfl) ?_
    obtain ⟨fs127, i130, hr128, hk129, hw⟩ := hw
    refine h_get C0 hh hr128 hk129 rfl i_Job (by decide) k_f_Rows_194 (fun _ h9 => h9) d_Rows_mayStart_24 ?_
    obtain ⟨n131, f132, hr133, hi134, hw⟩ := hw
    refine h_iald C0 hh hr133 hi134 rfl d_Rows_mayStart_27 ?_
    refine lv_icmp_ge (tgt := 112) hx hb d_Rows_mayStart_28 (by decide) (fun c135 => ?_) (fun c135 => ?_)
    · have hw := hw.1 c135
      refine lv_iconst (v := 0) hx hb d_Rows_mayStart_112 (by decide) ?_
      exact h_iret C0 hh hS rfl rfl ⟨_, rfl, hw⟩ d_Rows_mayStart_113
    · have hw := hw.2 c135
      refine lv_aload_n hx hb d_Rows_mayStart_31 rfl (lv_at hl 0 rfl) ?_
      refine lv_aload_n hx hb d_Rows_mayStart_32 rfl (lv_at hl 1 rfl) ?_
      obtain ⟨fs136, i139, hr137, hk138, hw⟩ := hw
      refine h_get C0 hh hr137 hk138 rfl i_Job (by decide) k_f_Rows_194 (fun _ h9 => h9) d_Rows_mayStart_33 ?_
      obtain ⟨fs140, hr141, hw⟩ := hw
      refine h_callV (n := 1) C0 w_TBm hh hS hl.1 [.int i139] [] (S_Rows_isWindowOpen _ _ _ _ hw) hr141 rfl k_m_Rows_204 k_inst_Rows_isWindowOpen k_sel_Rows_isWindowOpen k_ini_Rows k_code_Rows_isWindowOpen (by decide +kernel) rfl rfl (Nat.le_of_ble_eq_true rfl) ⟨(Nat.le_of_ble_eq_true rfl), (Nat.le_of_ble_eq_true rfl)⟩ ⟨(Nat.le_of_ble_eq_true rfl), (Nat.le_of_ble_eq_true rfl)⟩ d_Rows_mayStart_36 (h_kI (k := 0) (n := 0) (Nat.le_of_ble_eq_true rfl) (Nat.le_of_ble_eq_true rfl) (fun i143 h142 H locs hw hh hS => ?_))
      refine lv_if_eq (tgt := 112) hx hb d_Rows_mayStart_39 (by decide) (fun c144 => ?_) (fun c144 => ?_)
      · have hw := hw.1 c144
        refine lv_iconst (v := 0) hx hb d_Rows_mayStart_112 (by decide) ?_
        exact h_iret C0 hh hS rfl rfl ⟨_, rfl, hw⟩ d_Rows_mayStart_113
      · have hw := hw.2 c144
        refine lv_aload_n hx hb d_Rows_mayStart_42 rfl (lv_at hl 0 rfl) ?_
        obtain ⟨fs145, r148, hr146, hk147, hw⟩ := hw
        refine h_get C0 hh hr146 hk147 rfl i_Rows (by decide) k_f_Rows_38 (fun _ h9 => h9) d_Rows_mayStart_43 ?_
        obtain ⟨fs149, r152, hr150, hk151, hw⟩ := hw
        refine h_get C0 hh hr150 hk151 rfl i_Load (by decide) k_f_Rows_207 (fun _ h9 => h9) d_Rows_mayStart_46 ?_
        refine lv_aload_n hx hb d_Rows_mayStart_49 rfl (lv_at hl 1 rfl) ?_
        obtain ⟨fs153, i156, hr154, hk155, hw⟩ := hw
        refine h_get C0 hh hr154 hk155 rfl i_Job (by decide) k_f_Rows_210 (fun _ h9 => h9) d_Rows_mayStart_50 ?_
        obtain ⟨fs157, hr158, hw⟩ := hw
        refine h_callV (n := 1) C0 w_TBm hh hS hl.1 [.int i156] [] (S_NS_has _ _ _ _ hw) hr158 rfl k_m_Rows_102 k_inst_NS_has k_sel_NS_has k_ini_NS k_code_NS_has (by decide +kernel) rfl rfl (Nat.le_of_ble_eq_true rfl) ⟨(Nat.le_of_ble_eq_true rfl), (Nat.le_of_ble_eq_true rfl)⟩ ⟨(Nat.le_of_ble_eq_true rfl), (Nat.le_of_ble_eq_true rfl)⟩ d_Rows_mayStart_53 (h_kI (k := 0) (n := 0) (Nat.le_of_ble_eq_true rfl) (Nat.le_of_ble_eq_true rfl) (fun i160 h159 H locs hw hh hS => ?_))
        refine lv_if_ne (tgt := 112) hx hb d_Rows_mayStart_56 (by decide) (fun c161 => ?_) (fun c161 => ?_)
        · have hw := hw.1 c161
          refine lv_iconst (v := 0) hx hb d_Rows_mayStart_112 (by decide) ?_
          exact h_iret C0 hh hS rfl rfl ⟨_, rfl, hw⟩ d_Rows_mayStart_113
        · have hw := hw.2 c161
          refine lv_aload_n hx hb d_Rows_mayStart_59 rfl (lv_at hl 1 rfl) ?_
          obtain ⟨fs162, r165, hr163, hk164, hw⟩ := hw
          refine h_get C0 hh hr163 hk164 rfl i_Job (by decide) k_f_Rows_99 (fun _ h9 => h9) d_Rows_mayStart_60 ?_
          refine lv_aload_n hx hb d_Rows_mayStart_63 rfl (lv_at hl 0 rfl) ?_
          obtain ⟨fs166, r169, hr167, hk168, hw⟩ := hw
          refine h_get C0 hh hr167 hk168 rfl i_Rows (by decide) k_f_Rows_45 (fun _ h9 => h9) d_Rows_mayStart_64 ?_
          obtain ⟨fs170, hr171, hw⟩ := hw
          refine h_callV (n := 1) C0 w_TBm hh hS hl.1 [.ref r169] [] (S_NS_isWithin _ _ _ _ hw) hr171 rfl k_m_Rows_213 k_inst_NS_isWithin k_sel_NS_isWithin k_ini_NS k_code_NS_isWithin (by decide +kernel) rfl rfl (Nat.le_of_ble_eq_true rfl) ⟨(Nat.le_of_ble_eq_true rfl), (Nat.le_of_ble_eq_true rfl)⟩ ⟨(Nat.le_of_ble_eq_true rfl), (Nat.le_of_ble_eq_true rfl)⟩ d_Rows_mayStart_67 (h_kI (k := 0) (n := 0) (Nat.le_of_ble_eq_true rfl) (Nat.le_of_ble_eq_true rfl) (fun i173 h172 H locs hw hh hS => ?_))
          refine lv_if_eq (tgt := 112) hx hb d_Rows_mayStart_70 (by decide) (fun c174 => ?_) (fun c174 => ?_)
          · have hw := hw.1 c174
            refine lv_iconst (v := 0) hx hb d_Rows_mayStart_112 (by decide) ?_
            exact h_iret C0 hh hS rfl rfl ⟨_, rfl, hw⟩ d_Rows_mayStart_113
          · have hw := hw.2 c174
            refine lv_aload_n hx hb d_Rows_mayStart_73 rfl (lv_at hl 0 rfl) ?_
            refine lv_aload_n hx hb d_Rows_mayStart_74 rfl (lv_at hl 1 rfl) ?_
            obtain ⟨fs175, hr176, hw⟩ := hw
            refine h_callV (n := 1) C0 w_TBm hh hS hl.1 [.ref x1] [] (S_Rows_areUnitsEnough _ _ _ _ hw) hr176 rfl k_m_Rows_217 k_inst_Rows_areUnitsEnough k_sel_Rows_areUnitsEnough k_ini_Rows k_code_Rows_areUnitsEnough (by decide +kernel) rfl rfl (Nat.le_of_ble_eq_true rfl) ⟨(Nat.le_of_ble_eq_true rfl), (Nat.le_of_ble_eq_true rfl)⟩ ⟨(Nat.le_of_ble_eq_true rfl), (Nat.le_of_ble_eq_true rfl)⟩ d_Rows_mayStart_75 (h_kI (k := 0) (n := 0) (Nat.le_of_ble_eq_true rfl) (Nat.le_of_ble_eq_true rfl) (fun i178 h177 H locs hw hh hS => ?_))
            refine lv_if_eq (tgt := 112) hx hb d_Rows_mayStart_78 (by decide) (fun c179 => ?_) (fun c179 => ?_)
            · have hw := hw.1 c179
              refine lv_iconst (v := 0) hx hb d_Rows_mayStart_112 (by decide) ?_
              exact h_iret C0 hh hS rfl rfl ⟨_, rfl, hw⟩ d_Rows_mayStart_113
            · have hw := hw.2 c179
              refine lv_aload_n hx hb d_Rows_mayStart_81 rfl (lv_at hl 0 rfl) ?_
              obtain ⟨fs180, r183, hr181, hk182, hw⟩ := hw
              refine h_get C0 hh hr181 hk182 rfl i_Rows (by decide) k_f_Rows_38 (fun _ h9 => h9) d_Rows_mayStart_82 ?_
              obtain ⟨fs184, i187, hr185, hk186, hw⟩ := hw
              refine h_get C0 hh hr185 hk186 rfl i_Load (by decide) k_f_Rows_220 (fun _ h9 => h9) d_Rows_mayStart_85 ?_
              refine lv_if_ne (tgt := 112) hx hb d_Rows_mayStart_88 (by decide) (fun c188 => ?_) (fun c188 => ?_)
              · have hw := hw.1 c188
                refine lv_iconst (v := 0) hx hb d_Rows_mayStart_112 (by decide) ?_
                exact h_iret C0 hh hS rfl rfl ⟨_, rfl, hw⟩ d_Rows_mayStart_113
              · have hw := hw.2 c188
                refine lv_aload_n hx hb d_Rows_mayStart_91 rfl (lv_at hl 1 rfl) ?_
                obtain ⟨fs189, i192, hr190, hk191, hw⟩ := hw
                refine h_get C0 hh hr190 hk191 rfl i_Job (by decide) k_f_Rows_115 (fun _ h9 => h9) d_Rows_mayStart_92 ?_
                refine lv_if_eq (tgt := 108) hx hb d_Rows_mayStart_95 (by decide) (fun c193 => ?_) (fun c193 => ?_)
                · have hw := hw.1 c193
                  refine lv_iconst (v := 1) hx hb d_Rows_mayStart_108 (by decide) ?_
                  refine lv_goto (tgt := 113) hx hb d_Rows_mayStart_109 (by decide) ?_
                  exact h_iret C0 hh hS rfl rfl ⟨_, rfl, hw⟩ d_Rows_mayStart_113
                · have hw := hw.2 c193
                  refine lv_aload_n hx hb d_Rows_mayStart_98 rfl (lv_at hl 0 rfl) ?_
                  obtain ⟨fs194, r197, hr195, hk196, hw⟩ := hw
                  refine h_get C0 hh hr195 hk196 rfl i_Rows (by decide) k_f_Rows_38 (fun _ h9 => h9) d_Rows_mayStart_99 ?_
                  obtain ⟨fs198, i201, hr199, hk200, hw⟩ := hw
                  refine h_get C0 hh hr199 hk200 rfl i_Load (by decide) k_f_Rows_174 (fun _ h9 => h9) d_Rows_mayStart_102 ?_
                  refine lv_if_gt (tgt := 112) hx hb d_Rows_mayStart_105 (by decide) (fun c202 => ?_) (fun c202 => ?_)
                  · have hw := hw.1 c202
                    refine lv_iconst (v := 0) hx hb d_Rows_mayStart_112 (by decide) ?_
                    exact h_iret C0 hh hS rfl rfl ⟨_, rfl, hw⟩ d_Rows_mayStart_113
                  · have hw := hw.2 c202
                    refine lv_iconst (v := 1) hx hb d_Rows_mayStart_108 (by decide) ?_
                    refine lv_goto (tgt := 113) hx hb d_Rows_mayStart_109 (by decide) ?_
                    exact h_iret C0 hh hS rfl rfl ⟨_, rfl, hw⟩ d_Rows_mayStart_113
set_option maxHeartbeats 4000000 in
set_option maxRecDepth 100000 in
theorem S_Rows_priorityNow {l : Launch} {κ : hX} (Q : Int32 → hM → Prop) (h : hM) (x0 : Nat) (x1 : Nat) (hw : P_Rows_priorityNow Q h x0 x1) : Met l y_Rows_priorityNow [Cond.code y_Rows_priorityNow b_Rows_priorityNow 5 (some .int)] rm_Rows_priorityNow (hPc κ w_cl w_tl w_tb [.ref x0, .ref x1] h) (hQ κ w_cl (qI Q)) 0 0 (h_A κ) := by
  refine h_enter w_TBm (by decide) (Nat.le_of_ble_eq_true rfl) ?_
  intro p e s m args below meth c C0 hnm hh hS ls hl
  obtain ⟨hx, hb, hml, hown, hts, hK, hF0, hrt, hlocks⟩ := id C0
  have hl : lv_has ls 5 [(0, .ref x0), (1, .ref x1)] := hl
  refine lv_aload_n hx hb d_Rows_priorityNow_0 rfl (lv_at hl 0 rfl) ?_
  obtain ⟨fs41, i44, hr42, hk43, hw⟩ := hw
  refine h_get C0 hh hr42 hk43 rfl i_Rows (by decide) k_f_Rows_56 (fun _ h9 => h9) d_Rows_priorityNow_1 ?_
  refine lv_aload_n hx hb d_Rows_priorityNow_4 rfl (lv_at hl 1 rfl) ?_
  obtain ⟨fs45, i48, hr46, hk47, hw⟩ := hw
  refine h_get C0 hh hr46 hk47 rfl i_Job (by decide) k_f_Rows_226 (fun _ h9 => h9) d_Rows_priorityNow_5 ?_
  refine lv_isub hx hb d_Rows_priorityNow_8 ?_
  refine lv_topi (fun x2_49 ex2_49 => ?_)
  have hw := hw x2_49 ex2_49
  refine lv_istore_n (lv' := [(2, .int x2_49), (0, .ref x0), (1, .ref x1)]) hx hb d_Rows_priorityNow_9 rfl hl (by decide) rfl (fun ls hl => ?_)
  refine lv_aload_n hx hb d_Rows_priorityNow_10 rfl (lv_at hl 1 rfl) ?_
  obtain ⟨fs50, j53, hr51, hk52, hw⟩ := hw
  refine h_get C0 hh hr51 hk52 rfl i_Rows (by decide) k_f_Rows_53 (fun _ h9 => h9) d_Rows_priorityNow_11 ?_
  refine lv_lconst (v := 0) hx hb d_Rows_priorityNow_14 (by decide) ?_
  refine W.lcmp hx hb d_Rows_priorityNow_15 ?_
  refine lv_if_le (tgt := 23) hx hb d_Rows_priorityNow_16 (by decide) (fun c54 => ?_) (fun c54 => ?_)
  · have hw := hw.1 ((lg_cmp_le _ _).mp c54)
    refine lv_aload_n hx hb d_Rows_priorityNow_23 rfl (lv_at hl 2 rfl) ?_
    obtain ⟨fs55, i58, hr56, hk57, hw⟩ := hw
    refine h_get C0 hh hr56 hk57 rfl i_Job (by decide) k_f_Rows_226 (fun _ h9 => h9) d_Rows_priorityNow_24 ?_
    exact h_iret C0 hh hS rfl rfl ⟨_, rfl, hw⟩ d_Rows_priorityNow_27
  · have hw := hw.2 (fun z => c54 ((lg_cmp_le _ _).mpr z))
    refine lv_iload_n hx hb d_Rows_priorityNow_19 rfl (lv_at hl 0 rfl) ?_
    refine lv_if_gt (tgt := 28) hx hb d_Rows_priorityNow_20 (by decide) (fun c59 => ?_) (fun c59 => ?_)
    · have hw := hw.1 c59
      refine lv_aload_n hx hb d_Rows_priorityNow_28 rfl (lv_at hl 1 rfl) ?_
      obtain ⟨fs60, j63, hr61, hk62, hw⟩ := hw
      refine h_get C0 hh hr61 hk62 rfl i_Rows (by decide) k_f_Rows_49 (fun _ h9 => h9) d_Rows_priorityNow_29 ?_
      refine lv_aload_n hx hb d_Rows_priorityNow_32 rfl (lv_at hl 2 rfl) ?_
      obtain ⟨fs64, j67, hr65, hk66, hw⟩ := hw
      refine h_get C0 hh hr65 hk66 rfl i_Job (by decide) k_f_Rows_167 (fun _ h9 => h9) d_Rows_priorityNow_33 ?_
      refine lv_lsub hx hb d_Rows_priorityNow_36 ?_
      refine lv_aload_n hx hb d_Rows_priorityNow_37 rfl (lv_at hl 1 rfl) ?_
      obtain ⟨fs68, j71, hr69, hk70, hw⟩ := hw
      refine h_get C0 hh hr69 hk70 rfl i_Rows (by decide) k_f_Rows_53 (fun _ h9 => h9) d_Rows_priorityNow_38 ?_
      obtain ⟨hne, hw⟩ := hw
      refine lv_ldiv hx hb d_Rows_priorityNow_41 hne ?_
      refine lv_topl (fun x3_72 ex3_72 => ?_)
      have hw := hw x3_72 ex3_72
      refine lv_lstore_n (lv' := [(3, .long x3_72), (2, .int x2_49), (0, .ref x0), (1, .ref x1)]) hx hb d_Rows_priorityNow_42 rfl hl (by decide) rfl (fun ls hl => ?_)
      refine lv_aload_n hx hb d_Rows_priorityNow_43 rfl (lv_at hl 3 rfl) ?_
      obtain ⟨fs73, i76, hr74, hk75, hw⟩ := hw
      refine h_get C0 hh hr74 hk75 rfl i_Job (by decide) k_f_Rows_226 (fun _ h9 => h9) d_Rows_priorityNow_44 ?_
      refine lv_lload_n hx hb d_Rows_priorityNow_47 rfl (lv_at hl 0 rfl) ?_
      refine lv_iload_n hx hb d_Rows_priorityNow_48 rfl (lv_at hl 1 rfl) ?_
      refine lv_i2l (v := x2_49.toInt64) hx hb d_Rows_priorityNow_49 rfl ?_
      refine va_mmin_long hx hb (hml.trans hl.1.symm) hown (hts _ k_m_Rows_229) (hts _ k_math_min_long_static) (hts _ k_ini_Math) (hts _ k_math_min_long_code) (Nat.le_of_ble_eq_true rfl) (Nat.le_of_ble_eq_true rfl) (Nat.le_of_ble_eq_true rfl) (Nat.le_of_ble_eq_true rfl) d_Rows_priorityNow_50 ?_
      refine lv_l2i (v := (if (x2_49.toInt64) < x3_72 then (x2_49.toInt64) else x3_72).toInt32) hx hb d_Rows_priorityNow_53 rfl ?_
      refine lv_iadd hx hb d_Rows_priorityNow_54 ?_
      exact h_iret C0 hh hS rfl rfl ⟨_, rfl, hw⟩ d_Rows_priorityNow_55
    · have hw := hw.2 c59
      refine lv_aload_n hx hb d_Rows_priorityNow_23 rfl (lv_at hl 2 rfl) ?_
      obtain ⟨fs77, i80, hr78, hk79, hw⟩ := hw
      refine h_get C0 hh hr78 hk79 rfl i_Job (by decide) k_f_Rows_226 (fun _ h9 => h9) d_Rows_priorityNow_24 ?_
      exact h_iret C0 hh hS rfl rfl ⟨_, rfl, hw⟩ d_Rows_priorityNow_27
set_option maxHeartbeats 4000000 in
set_option maxRecDepth 100000 in
theorem S_Rows_nextOfClass_67 {p : Program} {l : Launch} {e : Env} {s : State} {m : MethodId} {args : Array Value} {below : List Frame} {meth : Method} {c : Code} {κ : hX} {Q : Option Nat → hM → Prop} {K4 : hM → Nat → Int32 → Option Nat → Int32 → Prop} (C0 : Cw κ w_cl w_tl w_tb p s m args meth c b_Rows_nextOfClass 5 R_Rows (some (.object "InitiatorRows$Job"))) (hK4 : ∀ (h : hM) (x0 : Nat) (x1 : Int32) (x2 : Option Nat) (x3 : Int32) (H : Heap) (locs : List Loc) (ls : Array Slot), K4 h x0 x1 x2 x3 → hp κ w_cl h H → va_S (h_A κ) s.heap H locs → lv_has ls 5 [(0, .ref x0), (1, .int x1), (2, va_rf x2), (3, .int x3)] → W p l e rm_Rows_nextOfClass s m args below meth c H locs 0 0 (MQ below (hQ κ w_cl (qO Q)) args s 0 0 (h_A κ)) (F0 m 4 ls [])) : ∀ (h : hM) (x0 : Nat) (x1 : Int32) (x2 : Option Nat) (x3 : Int32) (H : Heap) (locs : List Loc) (ls : Array Slot), P_Rows_nextOfClass_67 Q K4 h x0 x1 x2 x3 → hp κ w_cl h H → va_S (h_A κ) s.heap H locs → lv_has ls 5 [(0, .ref x0), (1, .int x1), (2, va_rf x2), (3, .int x3)] → W p l e rm_Rows_nextOfClass s m args below meth c H locs 0 0 (MQ below (hQ κ w_cl (qO Q)) args s 0 0 (h_A κ)) (F0 m 67 ls []) := by
  obtain ⟨hx, hb, hml, hown, hts, hK, hF0, hrt, hlocks⟩ := id C0
  intro h x0 x1 x2 x3 H locs ls hw hh hS hl
  obtain ⟨x3_75, ex3_75⟩ : ∃ z : Int32, z = x3 + 1 := ⟨_, rfl⟩
  have hw := hw x3_75 ex3_75
  refine lv_iinc (v := x3_75) (lv' := [(3, .int x3_75), (0, .ref x0), (1, .int x1), (2, va_rf x2)]) hx hb d_Rows_nextOfClass_67 hl (k := 3) rfl (by rw [ex3_75]; rfl) (by decide) (by cases x2 <;> rfl) (fun ls hl => ?_)
  refine lv_goto (tgt := 4) hx hb d_Rows_nextOfClass_70 (by decide) ?_
  exact hK4 _ _ _ _ _ _ _ _ hw hh hS (lv_sub hl [1, 2, 3, 0] rfl)
