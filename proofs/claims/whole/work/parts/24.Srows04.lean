set_option maxHeartbeats 4000000 in
set_option maxRecDepth 100000 in
theorem S_Rows_share {l : Launch} {κ : hX} (Q : Int64 → hM → Prop) (h : hM) (x0 : Nat) (x1 : Int32) (x2 : Int64) (hw : P_Rows_share Q h x0 x1 x2) : Met l y_Rows_share [Cond.code y_Rows_share b_Rows_share 17 (some .long)] rm_Rows_share (hPc κ w_cl w_tl w_tb [.ref x0, .int x1, .long x2] h) (hQ κ w_cl (qJ Q)) 0 0 (h_A κ) := by
  refine h_enter w_TBm (by decide) (Nat.le_of_ble_eq_true rfl) ?_
  intro p e s m args below meth c C0 hnm hh hS ls hl
  obtain ⟨hx, hb, hml, hown, hts, hK, hF0, hrt, hlocks⟩ := id C0
  have hl : lv_has ls 17 [(0, .ref x0), (1, .int x1), (2, .long x2)] := hl
  refine lv_iload_n hx hb d_Rows_share_0 rfl (lv_at hl 1 rfl) ?_
  refine h_callS (n := 1) C0 w_TBm hh hS hl.1 [.int x1] [] (S_Rows_isClass _ _ _ hw) k_m_Rows_79 k_stat_Rows_isClass k_ini_Rows k_code_Rows_isClass (by decide +kernel) rfl rfl (Nat.le_of_ble_eq_true rfl) ⟨(Nat.le_of_ble_eq_true rfl), (Nat.le_of_ble_eq_true rfl)⟩ ⟨(Nat.le_of_ble_eq_true rfl), (Nat.le_of_ble_eq_true rfl)⟩ d_Rows_share_1 (h_kI (k := 0) (n := 0) (Nat.le_of_ble_eq_true rfl) (Nat.le_of_ble_eq_true rfl) (fun i166 h165 H locs hw hh hS => ?_))
  refine lv_if_eq (tgt := 13) hx hb d_Rows_share_4 (by decide) (fun c167 => ?_) (fun c167 => ?_)
  · have hw := hw.1 c167
    refine lv_ldc2 (v := -1) hx hb hown (hts _ k_k_Rows_143) d_Rows_share_13 ?_
    exact h_lret C0 hh hS rfl ⟨_, rfl, hw⟩ d_Rows_share_16
  · have hw := hw.2 c167
    refine lv_lload_n hx hb d_Rows_share_7 rfl (lv_at hl 2 rfl) ?_
    refine lv_lconst (v := 0) hx hb d_Rows_share_8 (by decide) ?_
    refine W.lcmp hx hb d_Rows_share_9 ?_
    refine lv_if_ge (tgt := 17) hx hb d_Rows_share_10 (by decide) (fun c168 => ?_) (fun c168 => ?_)
    · have hw := hw.1 ((lg_cmp_ge _ _).mp c168)
      refine lv_aload_n hx hb d_Rows_share_17 rfl (lv_at hl 0 rfl) ?_
      obtain ⟨fs169, hr170, hw⟩ := hw
      refine h_callV (n := 0) C0 w_TBm hh hS hl.1 [] [] (S_Rows_sumOfWeights _ _ _ hw) hr170 rfl k_m_Rows_145 k_inst_Rows_sumOfWeights k_sel_Rows_sumOfWeights k_ini_Rows k_code_Rows_sumOfWeights (by decide +kernel) rfl rfl (Nat.le_of_ble_eq_true rfl) ⟨(Nat.le_of_ble_eq_true rfl), (Nat.le_of_ble_eq_true rfl)⟩ ⟨(Nat.le_of_ble_eq_true rfl), (Nat.le_of_ble_eq_true rfl)⟩ d_Rows_share_18 (h_kJ (k := 0) (n := 0) (Nat.le_of_ble_eq_true rfl) (Nat.le_of_ble_eq_true rfl) (fun j172 h171 H locs hw hh hS => ?_))
      refine lv_lstore (lv' := [(4, .long j172), (0, .ref x0), (1, .int x1), (2, .long x2)]) hx hb d_Rows_share_21 hl (by decide) rfl (fun ls hl => ?_)
      refine lv_lload hx hb d_Rows_share_23 (lv_at hl 0 rfl) ?_
      refine lv_lconst (v := 0) hx hb d_Rows_share_25 (by decide) ?_
      refine W.lcmp hx hb d_Rows_share_26 ?_
      refine lv_if_gt (tgt := 40) hx hb d_Rows_share_27 (by decide) (fun c173 => ?_) (fun c173 => ?_)
      · have hw := hw.1 ((lg_cmp_gt _ _).mp c173)
        refine lv_lload_n hx hb d_Rows_share_40 rfl (lv_at hl 3 rfl) ?_
        refine lv_lload hx hb d_Rows_share_41 (lv_at hl 0 rfl) ?_
        obtain ⟨hne, hw⟩ := hw
        refine lv_lrem hx hb d_Rows_share_43 hne ?_
        refine lv_topl (fun x6_174 ex6_174 => ?_)
        have hw := hw x6_174 ex6_174
        refine lv_lstore (lv' := [(6, .long x6_174), (4, .long j172), (0, .ref x0), (1, .int x1), (2, .long x2)]) hx hb d_Rows_share_44 hl (by decide) rfl (fun ls hl => ?_)
        refine lv_lload hx hb d_Rows_share_46 (lv_at hl 0 rfl) ?_
        refine lv_aload_n hx hb d_Rows_share_48 rfl (lv_at hl 2 rfl) ?_
        obtain ⟨fs175, r178, hr176, hk177, hw⟩ := hw
        refine h_get C0 hh hr176 hk177 rfl i_Rows (by decide) k_f_Rows_29 (fun _ h9 => h9) d_Rows_share_49 ?_
        refine lv_iload_n hx hb d_Rows_share_52 rfl (lv_at hl 3 rfl) ?_
        obtain ⟨n179, f180, hr181, hi182, hw⟩ := hw
        refine h_iald C0 hh hr181 hi182 rfl d_Rows_share_53 ?_
        refine lv_i2l (v := (f180 x1.toNatClampNeg).toInt64) hx hb d_Rows_share_54 rfl ?_
        refine lv_lmul hx hb d_Rows_share_55 ?_
        refine lv_lload hx hb d_Rows_share_56 (lv_at hl 1 rfl) ?_
        obtain ⟨hne, hw⟩ := hw
        refine lv_lrem hx hb d_Rows_share_58 hne ?_
        refine lv_topl (fun x8_183 ex8_183 => ?_)
        have hw := hw x8_183 ex8_183
        refine lv_lstore (lv' := [(8, .long x8_183), (6, .long x6_174), (4, .long j172), (0, .ref x0), (1, .int x1), (2, .long x2)]) hx hb d_Rows_share_59 hl (by decide) rfl (fun ls hl => ?_)
        refine lv_lconst (v := 0) hx hb d_Rows_share_61 (by decide) ?_
        refine lv_lstore (lv' := [(10, .long (0 : Int64)), (8, .long x8_183), (6, .long x6_174), (4, .long j172), (0, .ref x0), (1, .int x1), (2, .long x2)]) hx hb d_Rows_share_62 hl (by decide) rfl (fun ls hl => ?_)
        refine lv_iconst (v := 0) hx hb d_Rows_share_64 (by decide) ?_
        refine lv_istore (lv' := [(12, .int (0 : Int32)), (10, .long (0 : Int64)), (8, .long x8_183), (6, .long x6_174), (4, .long j172), (0, .ref x0), (1, .int x1), (2, .long x2)]) hx hb d_Rows_share_65 hl (by decide) rfl (fun ls hl => ?_)
        refine lv_iconst (v := 0) hx hb d_Rows_share_67 (by decide) ?_
        refine lv_istore (lv' := [(13, .int (0 : Int32)), (12, .int (0 : Int32)), (10, .long (0 : Int64)), (8, .long x8_183), (6, .long x6_174), (4, .long j172), (0, .ref x0), (1, .int x1), (2, .long x2)]) hx hb d_Rows_share_68 hl (by decide) rfl (fun ls hl => ?_)
        obtain ⟨n0, hw⟩ := hw
        exact S_Rows_share_70 C0 n0 _ _ _ _ _ _ _ _ _ _ _ _ _ hw hh hS (lv_sub hl [6, 7, 8, 5, 4, 3, 2, 1, 0] rfl)
      · have hw := hw.2 (fun z => c173 ((lg_cmp_gt _ _).mpr z))
        exact hw.elim
    · have hw := hw.2 (fun z => c168 ((lg_cmp_ge _ _).mpr z))
      refine lv_ldc2 (v := -1) hx hb hown (hts _ k_k_Rows_143) d_Rows_share_13 ?_
      exact h_lret C0 hh hS rfl ⟨_, rfl, hw⟩ d_Rows_share_16
set_option maxHeartbeats 4000000 in
set_option maxRecDepth 100000 in
theorem S_Rows_order_75 {p : Program} {l : Launch} {e : Env} {s : State} {m : MethodId} {args : Array Value} {below : List Frame} {meth : Method} {c : Code} {κ : hX} {Q : Int32 → hM → Prop} {K18 : hM → Nat → Int32 → Int32 → Int32 → Prop} (C0 : Cw κ w_cl w_tl w_tb p s m args meth c b_Rows_order 6 R_Rows (some .int)) (hK18 : ∀ (h : hM) (x0 : Nat) (x2 : Int32) (x3 : Int32) (x4 : Int32) (H : Heap) (locs : List Loc) (ls : Array Slot), K18 h x0 x2 x3 x4 → hp κ w_cl h H → va_S (h_A κ) s.heap H locs → lv_has ls 6 [(0, .ref x0), (2, .int x2), (3, .int x3), (4, .int x4)] → W p l e rm_Rows_order s m args below meth c H locs 0 0 (MQ below (hQ κ w_cl (qI Q)) args s 0 0 (h_A κ)) (F0 m 18 ls [])) : ∀ (h : hM) (x0 : Nat) (x2 : Int32) (x3 : Int32) (x4 : Int32) (H : Heap) (locs : List Loc) (ls : Array Slot), P_Rows_order_75 Q K18 h x0 x2 x3 x4 → hp κ w_cl h H → va_S (h_A κ) s.heap H locs → lv_has ls 6 [(0, .ref x0), (2, .int x2), (3, .int x3), (4, .int x4)] → W p l e rm_Rows_order s m args below meth c H locs 0 0 (MQ below (hQ κ w_cl (qI Q)) args s 0 0 (h_A κ)) (F0 m 75 ls []) := by
  obtain ⟨hx, hb, hml, hown, hts, hK, hF0, hrt, hlocks⟩ := id C0
  intro h x0 x2 x3 x4 H locs ls hw hh hS hl
  obtain ⟨x4_81, ex4_81⟩ : ∃ z : Int32, z = x4 + 1 := ⟨_, rfl⟩
  have hw := hw x4_81 ex4_81
  refine lv_iinc (v := x4_81) (lv' := [(4, .int x4_81), (0, .ref x0), (2, .int x2), (3, .int x3)]) hx hb d_Rows_order_75 hl (k := 3) rfl (by rw [ex4_81]; rfl) (by decide) rfl (fun ls hl => ?_)
  refine lv_goto (tgt := 18) hx hb d_Rows_order_78 (by decide) ?_
  exact hK18 _ _ _ _ _ _ _ _ hw hh hS (lv_sub hl [1, 2, 3, 0] rfl)
set_option maxHeartbeats 4000000 in
set_option maxRecDepth 100000 in
theorem S_Rows_order_18 {p : Program} {l : Launch} {e : Env} {s : State} {m : MethodId} {args : Array Value} {below : List Frame} {meth : Method} {c : Code} {κ : hX} {Q : Int32 → hM → Prop} {K11 : hM → Nat → Int32 → Int32 → Prop} (C0 : Cw κ w_cl w_tl w_tb p s m args meth c b_Rows_order 6 R_Rows (some .int)) (hK11 : ∀ (h : hM) (x0 : Nat) (x2 : Int32) (x3 : Int32) (H : Heap) (locs : List Loc) (ls : Array Slot), K11 h x0 x2 x3 → hp κ w_cl h H → va_S (h_A κ) s.heap H locs → lv_has ls 6 [(0, .ref x0), (2, .int x2), (3, .int x3)] → W p l e rm_Rows_order s m args below meth c H locs 0 0 (MQ below (hQ κ w_cl (qI Q)) args s 0 0 (h_A κ)) (F0 m 11 ls [])) : ∀ (n : Nat) (h : hM) (x0 : Nat) (x2 : Int32) (x3 : Int32) (x4 : Int32) (H : Heap) (locs : List Loc) (ls : Array Slot), L_Rows_order_18 Q K11 n h x0 x2 x3 x4 → hp κ w_cl h H → va_S (h_A κ) s.heap H locs → lv_has ls 6 [(0, .ref x0), (2, .int x2), (3, .int x3), (4, .int x4)] → W p l e rm_Rows_order s m args below meth c H locs 0 0 (MQ below (hQ κ w_cl (qI Q)) args s 0 0 (h_A κ)) (F0 m 18 ls []) := by
  obtain ⟨hx, hb, hml, hown, hts, hK, hF0, hrt, hlocks⟩ := id C0
  intro n
  induction n with
  | zero =>
    intro h x0 x2 x3 x4 H locs ls hw
    exact hw.elim
  | succ n hK18 =>
    intro h x0 x2 x3 x4 H locs ls hw hh hS hl
    have hw : P_Rows_order_18 Q K11 (L_Rows_order_18 Q K11 n) h x0 x2 x3 x4 := hw
    refine lv_iload hx hb d_Rows_order_18 (lv_at hl 3 rfl) ?_
    refine lv_aload_n hx hb d_Rows_order_20 rfl (lv_at hl 0 rfl) ?_
    obtain ⟨fs82, r85, hr83, hk84, hw⟩ := hw
    refine h_get C0 hh hr83 hk84 rfl i_Rows (by decide) k_f_Rows_16 (fun _ h9 => h9) d_Rows_order_21 ?_
    obtain ⟨fs86, hr87, hw⟩ := hw
    refine h_callV (n := 0) C0 w_TBm hh hS hl.1 [] [.int x4] (S_AL_size _ _ _ hw) hr87 rfl k_m_Rows_60 k_inst_AL_size k_sel_AL_size k_ini_AL k_code_AL_size (by decide +kernel) rfl rfl (Nat.le_of_ble_eq_true rfl) ⟨(Nat.le_of_ble_eq_true rfl), (Nat.le_of_ble_eq_true rfl)⟩ ⟨(Nat.le_of_ble_eq_true rfl), (Nat.le_of_ble_eq_true rfl)⟩ d_Rows_order_24 (h_kI (k := 0) (n := 0) (Nat.le_of_ble_eq_true rfl) (Nat.le_of_ble_eq_true rfl) (fun i89 h88 H locs hw hh hS => ?_))
    refine lv_icmp_ge (tgt := 81) hx hb d_Rows_order_27 (by decide) (fun c90 => ?_) (fun c90 => ?_)
    · have hw := hw.1 c90
      obtain ⟨x3_91, ex3_91⟩ : ∃ z : Int32, z = x3 + (-1) := ⟨_, rfl⟩
      have hw := hw x3_91 ex3_91
      refine lv_iinc (v := x3_91) (lv' := [(3, .int x3_91), (0, .ref x0), (2, .int x2), (4, .int x4)]) hx hb d_Rows_order_81 hl (k := 2) rfl (by rw [ex3_91]; rfl) (by decide) rfl (fun ls hl => ?_)
      refine lv_goto (tgt := 11) hx hb d_Rows_order_84 (by decide) ?_
      exact hK11 _ _ _ _ _ _ _ hw hh hS (lv_sub hl [1, 2, 0] rfl)
    · have hw := hw.2 c90
      refine lv_aload_n hx hb d_Rows_order_30 rfl (lv_at hl 0 rfl) ?_
      obtain ⟨fs92, r95, hr93, hk94, hw⟩ := hw
      refine h_get C0 hh hr93 hk94 rfl i_Rows (by decide) k_f_Rows_16 (fun _ h9 => h9) d_Rows_order_31 ?_
      refine lv_iload hx hb d_Rows_order_34 (lv_at hl 3 rfl) ?_
      obtain ⟨fs96, hr97, hw⟩ := hw
      refine h_callV (n := 1) C0 w_TBm hh hS hl.1 [.int x4] [] (S_AL_get _ _ _ _ hw) hr97 rfl k_m_Rows_156 k_inst_AL_get k_sel_AL_get k_ini_AL k_code_AL_get (by decide +kernel) rfl rfl (Nat.le_of_ble_eq_true rfl) ⟨(Nat.le_of_ble_eq_true rfl), (Nat.le_of_ble_eq_true rfl)⟩ ⟨(Nat.le_of_ble_eq_true rfl), (Nat.le_of_ble_eq_true rfl)⟩ d_Rows_order_36 (h_kO (k := 0) (n := 0) (Nat.le_of_ble_eq_true rfl) (Nat.le_of_ble_eq_true rfl) (fun o99 h98 H locs hw hh hS => ?_))
      rcases o99 with _ | a100
      · have hw := hw.1 rfl
        have hl : lv_has ls 6 [(0, .ref x0), (2, .int x2), (3, .int x3), (4, .int x4)] := hl
        refine lv_castN hx hb d_Rows_order_39 ?_
        refine lv_astoreN (lv' := [(5, .null), (0, .ref x0), (2, .int x2), (3, .int x3), (4, .int x4)]) hx hb d_Rows_order_42 hl (by decide) rfl (fun ls hl => ?_)
        refine lv_aloadN hx hb d_Rows_order_44 (lv_at hl 0 rfl) ?_
        exact hw.elim
      · have hw := hw.2 a100 rfl
        have hl : lv_has ls 6 [(0, .ref x0), (2, .int x2), (3, .int x3), (4, .int x4)] := hl
        obtain ⟨⟨fs101, hr102⟩, hw⟩ := hw
        refine h_cast C0 hh hr102 rfl k_c_Rows_86 d_Rows_order_39 ?_
        refine lv_astore (lv' := [(5, .ref a100), (0, .ref x0), (2, .int x2), (3, .int x3), (4, .int x4)]) hx hb d_Rows_order_42 hl (by decide) rfl (fun ls hl => ?_)
        refine lv_aload hx hb d_Rows_order_44 (lv_at hl 0 rfl) ?_
        obtain ⟨fs103, i106, hr104, hk105, hw⟩ := hw
        refine h_get C0 hh hr104 hk105 rfl i_Job (by decide) k_f_Rows_119 (fun _ h9 => h9) d_Rows_order_46 ?_
        refine lv_if_ne (tgt := 75) hx hb d_Rows_order_49 (by decide) (fun c107 => ?_) (fun c107 => ?_)
        · have hw := hw.1 c107
          exact S_Rows_order_75 C0 hK18 _ _ _ _ _ _ _ _ hw hh hS (lv_sub hl [1, 2, 3, 4] rfl)
        · have hw := hw.2 c107
          refine lv_aload_n hx hb d_Rows_order_52 rfl (lv_at hl 1 rfl) ?_
          refine lv_aload hx hb d_Rows_order_53 (lv_at hl 0 rfl) ?_
          obtain ⟨fs108, hr109, hw⟩ := hw
          refine h_callV (n := 1) C0 w_TBm hh hS hl.1 [.ref a100] [] (S_Rows_priorityNow _ _ _ _ hw) hr109 rfl k_m_Rows_160 k_inst_Rows_priorityNow k_sel_Rows_priorityNow k_ini_Rows k_code_Rows_priorityNow (by decide +kernel) rfl rfl (Nat.le_of_ble_eq_true rfl) ⟨(Nat.le_of_ble_eq_true rfl), (Nat.le_of_ble_eq_true rfl)⟩ ⟨(Nat.le_of_ble_eq_true rfl), (Nat.le_of_ble_eq_true rfl)⟩ d_Rows_order_55 (h_kI (k := 0) (n := 0) (Nat.le_of_ble_eq_true rfl) (Nat.le_of_ble_eq_true rfl) (fun i111 h110 H locs hw hh hS => ?_))
          refine lv_iload_n hx hb d_Rows_order_58 rfl (lv_at hl 3 rfl) ?_
          refine lv_icmp_ne (tgt := 75) hx hb d_Rows_order_59 (by decide) (fun c112 => ?_) (fun c112 => ?_)
          · have hw := hw.1 c112
            exact S_Rows_order_75 C0 hK18 _ _ _ _ _ _ _ _ hw hh hS (lv_sub hl [1, 2, 3, 4] rfl)
          · have hw := hw.2 c112
            refine lv_iload_n hx hb d_Rows_order_62 rfl (lv_at hl 2 rfl) ?_
            refine lv_if_ne (tgt := 72) hx hb d_Rows_order_63 (by decide) (fun c113 => ?_) (fun c113 => ?_)
            · have hw := hw.1 c113
              obtain ⟨x2_114, ex2_114⟩ : ∃ z : Int32, z = x2 + (-1) := ⟨_, rfl⟩
              have hw := hw x2_114 ex2_114
              refine lv_iinc (v := x2_114) (lv' := [(2, .int x2_114), (5, .ref a100), (0, .ref x0), (3, .int x3), (4, .int x4)]) hx hb d_Rows_order_72 hl (k := 2) rfl (by rw [ex2_114]; rfl) (by decide) rfl (fun ls hl => ?_)
              exact S_Rows_order_75 C0 hK18 _ _ _ _ _ _ _ _ hw hh hS (lv_sub hl [2, 0, 3, 4] rfl)
            · have hw := hw.2 c113
              refine lv_aload hx hb d_Rows_order_66 (lv_at hl 0 rfl) ?_
              obtain ⟨fs115, i118, hr116, hk117, hw⟩ := hw
              refine h_get C0 hh hr116 hk117 rfl i_Job (by decide) k_f_Rows_136 (fun _ h9 => h9) d_Rows_order_68 ?_
              exact h_iret C0 hh hS rfl rfl ⟨_, rfl, hw⟩ d_Rows_order_71
set_option maxHeartbeats 4000000 in
set_option maxRecDepth 100000 in
theorem S_Rows_order_11 {p : Program} {l : Launch} {e : Env} {s : State} {m : MethodId} {args : Array Value} {below : List Frame} {meth : Method} {c : Code} {κ : hX} {Q : Int32 → hM → Prop} (C0 : Cw κ w_cl w_tl w_tb p s m args meth c b_Rows_order 6 R_Rows (some .int)) : ∀ (n : Nat) (h : hM) (x0 : Nat) (x2 : Int32) (x3 : Int32) (H : Heap) (locs : List Loc) (ls : Array Slot), L_Rows_order_11 Q n h x0 x2 x3 → hp κ w_cl h H → va_S (h_A κ) s.heap H locs → lv_has ls 6 [(0, .ref x0), (2, .int x2), (3, .int x3)] → W p l e rm_Rows_order s m args below meth c H locs 0 0 (MQ below (hQ κ w_cl (qI Q)) args s 0 0 (h_A κ)) (F0 m 11 ls []) := by
  obtain ⟨hx, hb, hml, hown, hts, hK, hF0, hrt, hlocks⟩ := id C0
  intro n
  induction n with
  | zero =>
    intro h x0 x2 x3 H locs ls hw
    exact hw.elim
  | succ n hK11 =>
    intro h x0 x2 x3 H locs ls hw hh hS hl
    have hw : P_Rows_order_11 Q (L_Rows_order_11 Q n) h x0 x2 x3 := hw
    refine lv_iload_n hx hb d_Rows_order_11 rfl (lv_at hl 2 rfl) ?_
    refine lv_if_lt (tgt := 87) hx hb d_Rows_order_12 (by decide) (fun c119 => ?_) (fun c119 => ?_)
    · have hw := hw.1 c119
      refine lv_iconst (v := -1) hx hb d_Rows_order_87 (by decide) ?_
      exact h_iret C0 hh hS rfl rfl ⟨_, rfl, hw⟩ d_Rows_order_88
    · have hw := hw.2 c119
      refine lv_iconst (v := 0) hx hb d_Rows_order_15 (by decide) ?_
      refine lv_istore (lv' := [(4, .int (0 : Int32)), (0, .ref x0), (2, .int x2), (3, .int x3)]) hx hb d_Rows_order_16 hl (by decide) rfl (fun ls hl => ?_)
      obtain ⟨n0, hw⟩ := hw
      exact S_Rows_order_18 C0 hK11 n0 _ _ _ _ _ _ _ _ hw hh hS (lv_sub hl [1, 2, 3, 0] rfl)
set_option maxHeartbeats 4000000 in
set_option maxRecDepth 100000 in
theorem S_Rows_order {l : Launch} {κ : hX} (Q : Int32 → hM → Prop) (h : hM) (x0 : Nat) (x1 : Int32) (hw : P_Rows_order Q h x0 x1) : Met l y_Rows_order [Cond.code y_Rows_order b_Rows_order 6 (some .int)] rm_Rows_order (hPc κ w_cl w_tl w_tb [.ref x0, .int x1] h) (hQ κ w_cl (qI Q)) 0 0 (h_A κ) := by
  refine h_enter w_TBm (by decide) (Nat.le_of_ble_eq_true rfl) ?_
  intro p e s m args below meth c C0 hnm hh hS ls hl
  obtain ⟨hx, hb, hml, hown, hts, hK, hF0, hrt, hlocks⟩ := id C0
  have hl : lv_has ls 6 [(0, .ref x0), (1, .int x1)] := hl
  refine lv_iload_n hx hb d_Rows_order_0 rfl (lv_at hl 1 rfl) ?_
  refine lv_if_ge (tgt := 6) hx hb d_Rows_order_1 (by decide) (fun c120 => ?_) (fun c120 => ?_)
  · have hw := hw.1 c120
    refine lv_iload_n hx hb d_Rows_order_6 rfl (lv_at hl 1 rfl) ?_
    refine lv_istore_n (lv' := [(2, .int x1), (0, .ref x0), (1, .int x1)]) hx hb d_Rows_order_7 rfl hl (by decide) rfl (fun ls hl => ?_)
    refine lv_bipush (v := 15) hx hb d_Rows_order_8 (by decide) ?_
    refine lv_istore_n (lv' := [(3, .int (15 : Int32)), (2, .int x1), (0, .ref x0), (1, .int x1)]) hx hb d_Rows_order_10 rfl hl (by decide) rfl (fun ls hl => ?_)
    obtain ⟨n0, hw⟩ := hw
    exact S_Rows_order_11 C0 n0 _ _ _ _ _ _ _ hw hh hS (lv_sub hl [2, 1, 0] rfl)
  · have hw := hw.2 c120
    refine lv_iconst (v := -1) hx hb d_Rows_order_4 (by decide) ?_
    exact h_iret C0 hh hS rfl rfl ⟨_, rfl, hw⟩ d_Rows_order_5
set_option maxHeartbeats 4000000 in
set_option maxRecDepth 100000 in
theorem S_Rows_waited {l : Launch} {κ : hX} (Q : Int64 → hM → Prop) (h : hM) (x0 : Nat) (x1 : Int32) (hw : P_Rows_waited Q h x0 x1) : Met l y_Rows_waited [Cond.code y_Rows_waited b_Rows_waited 3 (some .long)] rm_Rows_waited (hPc κ w_cl w_tl w_tb [.ref x0, .int x1] h) (hQ κ w_cl (qJ Q)) 0 0 (h_A κ) := by
  refine h_enter w_TBm (by decide) (Nat.le_of_ble_eq_true rfl) ?_
  intro p e s m args below meth c C0 hnm hh hS ls hl
  obtain ⟨hx, hb, hml, hown, hts, hK, hF0, hrt, hlocks⟩ := id C0
  have hl : lv_has ls 3 [(0, .ref x0), (1, .int x1)] := hl
  refine lv_aload_n hx hb d_Rows_waited_0 rfl (lv_at hl 0 rfl) ?_
  refine lv_iload_n hx hb d_Rows_waited_1 rfl (lv_at hl 1 rfl) ?_
  obtain ⟨fs28, hr29, hw⟩ := hw
  refine h_callV (n := 1) C0 w_TBm hh hS hl.1 [.int x1] [] (S_Rows_findJob _ _ _ _ hw) hr29 rfl k_m_Rows_91 k_inst_Rows_findJob k_sel_Rows_findJob k_ini_Rows k_code_Rows_findJob (by decide +kernel) rfl rfl (Nat.le_of_ble_eq_true rfl) ⟨(Nat.le_of_ble_eq_true rfl), (Nat.le_of_ble_eq_true rfl)⟩ ⟨(Nat.le_of_ble_eq_true rfl), (Nat.le_of_ble_eq_true rfl)⟩ d_Rows_waited_2 (h_kO (k := 0) (n := 0) (Nat.le_of_ble_eq_true rfl) (Nat.le_of_ble_eq_true rfl) (fun o31 h30 H locs hw hh hS => ?_))
  refine h_astore_nO (lv' := [(2, va_rf o31), (0, .ref x0), (1, .int x1)]) hx hb d_Rows_waited_5 rfl hl (by decide) rfl (fun ls hl => ?_)
  refine h_aload_nO hx hb d_Rows_waited_6 rfl (lv_at hl 0 rfl) ?_
  rcases o31 with _ | a33
  · have hw := hw.1 rfl
    have hl : lv_has ls 3 [(2, .null), (0, .ref x0), (1, .int x1)] := hl
    refine lv_ifnonnullN hx hb d_Rows_waited_7 ?_
    refine lv_ldc2 (v := -1) hx hb hown (hts _ k_k_Rows_143) d_Rows_waited_10 ?_
    exact h_lret C0 hh hS rfl ⟨_, rfl, hw⟩ d_Rows_waited_13
  · have hw := hw.2 a33 rfl
    have hl : lv_has ls 3 [(2, .ref a33), (0, .ref x0), (1, .int x1)] := hl
    refine lv_ifnonnull (tgt := 14) hx hb d_Rows_waited_7 (by decide) ?_
    refine lv_aload_n hx hb d_Rows_waited_14 rfl (lv_at hl 0 rfl) ?_
    obtain ⟨fs34, hr35, hw⟩ := hw
    refine h_callV (n := 0) C0 w_TBm hh hS hl.1 [] [] (S_Job_isWaiting _ _ _ hw) hr35 rfl k_m_Rows_95 k_inst_Job_isWaiting k_sel_Job_isWaiting k_ini_Job k_code_Job_isWaiting (by decide +kernel) rfl rfl (Nat.le_of_ble_eq_true rfl) ⟨(Nat.le_of_ble_eq_true rfl), (Nat.le_of_ble_eq_true rfl)⟩ ⟨(Nat.le_of_ble_eq_true rfl), (Nat.le_of_ble_eq_true rfl)⟩ d_Rows_waited_15 (h_kI (k := 0) (n := 0) (Nat.le_of_ble_eq_true rfl) (Nat.le_of_ble_eq_true rfl) (fun i37 h36 H locs hw hh hS => ?_))
    refine lv_if_eq (tgt := 28) hx hb d_Rows_waited_18 (by decide) (fun c38 => ?_) (fun c38 => ?_)
    · have hw := hw.1 c38
      refine lv_aload_n hx hb d_Rows_waited_28 rfl (lv_at hl 0 rfl) ?_
      obtain ⟨fs39, j42, hr40, hk41, hw⟩ := hw
      refine h_get C0 hh hr40 hk41 rfl i_Job (by decide) k_f_Rows_164 (fun _ h9 => h9) d_Rows_waited_29 ?_
      refine lv_aload_n hx hb d_Rows_waited_32 rfl (lv_at hl 0 rfl) ?_
      obtain ⟨fs43, j46, hr44, hk45, hw⟩ := hw
      refine h_get C0 hh hr44 hk45 rfl i_Job (by decide) k_f_Rows_167 (fun _ h9 => h9) d_Rows_waited_33 ?_
      refine lv_lsub hx hb d_Rows_waited_36 ?_
      exact h_lret C0 hh hS rfl ⟨_, rfl, hw⟩ d_Rows_waited_37
    · have hw := hw.2 c38
      refine lv_aload_n hx hb d_Rows_waited_21 rfl (lv_at hl 1 rfl) ?_
      obtain ⟨fs47, j50, hr48, hk49, hw⟩ := hw
      refine h_get C0 hh hr48 hk49 rfl i_Rows (by decide) k_f_Rows_49 (fun _ h9 => h9) d_Rows_waited_22 ?_
      refine lv_goto (tgt := 32) hx hb d_Rows_waited_25 (by decide) ?_
      refine lv_aload_n hx hb d_Rows_waited_32 rfl (lv_at hl 0 rfl) ?_
      obtain ⟨fs51, j54, hr52, hk53, hw⟩ := hw
      refine h_get C0 hh hr52 hk53 rfl i_Job (by decide) k_f_Rows_167 (fun _ h9 => h9) d_Rows_waited_33 ?_
      refine lv_lsub hx hb d_Rows_waited_36 ?_
      exact h_lret C0 hh hS rfl ⟨_, rfl, hw⟩ d_Rows_waited_37
set_option maxHeartbeats 4000000 in
set_option maxRecDepth 100000 in
theorem S_Rows_state {l : Launch} {κ : hX} (Q : Int32 → hM → Prop) (h : hM) (x0 : Nat) (x1 : Int32) (hw : P_Rows_state Q h x0 x1) : Met l y_Rows_state [Cond.code y_Rows_state b_Rows_state 3 (some .int)] rm_Rows_state (hPc κ w_cl w_tl w_tb [.ref x0, .int x1] h) (hQ κ w_cl (qI Q)) 0 0 (h_A κ) := by
  refine h_enter w_TBm (by decide) (Nat.le_of_ble_eq_true rfl) ?_
  intro p e s m args below meth c C0 hnm hh hS ls hl
  obtain ⟨hx, hb, hml, hown, hts, hK, hF0, hrt, hlocks⟩ := id C0
  have hl : lv_has ls 3 [(0, .ref x0), (1, .int x1)] := hl
  refine lv_aload_n hx hb d_Rows_state_0 rfl (lv_at hl 0 rfl) ?_
  refine lv_iload_n hx hb d_Rows_state_1 rfl (lv_at hl 1 rfl) ?_
  obtain ⟨fs11, hr12, hw⟩ := hw
  refine h_callV (n := 1) C0 w_TBm hh hS hl.1 [.int x1] [] (S_Rows_findJob _ _ _ _ hw) hr12 rfl k_m_Rows_91 k_inst_Rows_findJob k_sel_Rows_findJob k_ini_Rows k_code_Rows_findJob (by decide +kernel) rfl rfl (Nat.le_of_ble_eq_true rfl) ⟨(Nat.le_of_ble_eq_true rfl), (Nat.le_of_ble_eq_true rfl)⟩ ⟨(Nat.le_of_ble_eq_true rfl), (Nat.le_of_ble_eq_true rfl)⟩ d_Rows_state_2 (h_kO (k := 0) (n := 0) (Nat.le_of_ble_eq_true rfl) (Nat.le_of_ble_eq_true rfl) (fun o14 h13 H locs hw hh hS => ?_))
  refine h_astore_nO (lv' := [(2, va_rf o14), (0, .ref x0), (1, .int x1)]) hx hb d_Rows_state_5 rfl hl (by decide) rfl (fun ls hl => ?_)
  refine h_aload_nO hx hb d_Rows_state_6 rfl (lv_at hl 0 rfl) ?_
  rcases o14 with _ | a16
  · have hw := hw.1 rfl
    have hl : lv_has ls 3 [(2, .null), (0, .ref x0), (1, .int x1)] := hl
    refine lv_ifnonnullN hx hb d_Rows_state_7 ?_
    refine lv_iconst (v := -1) hx hb d_Rows_state_10 (by decide) ?_
    refine lv_goto (tgt := 18) hx hb d_Rows_state_11 (by decide) ?_
    exact h_iret C0 hh hS rfl rfl ⟨_, rfl, hw⟩ d_Rows_state_18
  · have hw := hw.2 a16 rfl
    have hl : lv_has ls 3 [(2, .ref a16), (0, .ref x0), (1, .int x1)] := hl
    refine lv_ifnonnull (tgt := 14) hx hb d_Rows_state_7 (by decide) ?_
    refine lv_aload_n hx hb d_Rows_state_14 rfl (lv_at hl 0 rfl) ?_
    obtain ⟨fs17, i20, hr18, hk19, hw⟩ := hw
    refine h_get C0 hh hr18 hk19 rfl i_Job (by decide) k_f_Rows_119 (fun _ h9 => h9) d_Rows_state_15 ?_
    exact h_iret C0 hh hS rfl rfl ⟨_, rfl, hw⟩ d_Rows_state_18
set_option maxHeartbeats 4000000 in
set_option maxRecDepth 100000 in
theorem S_Rows_jobsIn_36 {p : Program} {l : Launch} {e : Env} {s : State} {m : MethodId} {args : Array Value} {below : List Frame} {meth : Method} {c : Code} {κ : hX} {Q : Int32 → hM → Prop} {K4 : hM → Nat → Int32 → Int32 → Int32 → Prop} (C0 : Cw κ w_cl w_tl w_tb p s m args meth c b_Rows_jobsIn 4 R_Rows (some .int)) (hK4 : ∀ (h : hM) (x0 : Nat) (x1 : Int32) (x2 : Int32) (x3 : Int32) (H : Heap) (locs : List Loc) (ls : Array Slot), K4 h x0 x1 x2 x3 → hp κ w_cl h H → va_S (h_A κ) s.heap H locs → lv_has ls 4 [(0, .ref x0), (1, .int x1), (2, .int x2), (3, .int x3)] → W p l e rm_Rows_jobsIn s m args below meth c H locs 0 0 (MQ below (hQ κ w_cl (qI Q)) args s 0 0 (h_A κ)) (F0 m 4 ls [])) : ∀ (h : hM) (x0 : Nat) (x1 : Int32) (x2 : Int32) (x3 : Int32) (H : Heap) (locs : List Loc) (ls : Array Slot), P_Rows_jobsIn_36 Q K4 h x0 x1 x2 x3 → hp κ w_cl h H → va_S (h_A κ) s.heap H locs → lv_has ls 4 [(0, .ref x0), (1, .int x1), (2, .int x2), (3, .int x3)] → W p l e rm_Rows_jobsIn s m args below meth c H locs 0 0 (MQ below (hQ κ w_cl (qI Q)) args s 0 0 (h_A κ)) (F0 m 36 ls []) := by
  obtain ⟨hx, hb, hml, hown, hts, hK, hF0, hrt, hlocks⟩ := id C0
  intro h x0 x1 x2 x3 H locs ls hw hh hS hl
  obtain ⟨x3_55, ex3_55⟩ : ∃ z : Int32, z = x3 + 1 := ⟨_, rfl⟩
  have hw := hw x3_55 ex3_55
  refine lv_iinc (v := x3_55) (lv' := [(3, .int x3_55), (0, .ref x0), (1, .int x1), (2, .int x2)]) hx hb d_Rows_jobsIn_36 hl (k := 3) rfl (by rw [ex3_55]; rfl) (by decide) rfl (fun ls hl => ?_)
  refine lv_goto (tgt := 4) hx hb d_Rows_jobsIn_39 (by decide) ?_
  exact hK4 _ _ _ _ _ _ _ _ hw hh hS (lv_sub hl [1, 2, 3, 0] rfl)
set_option maxHeartbeats 4000000 in
set_option maxRecDepth 100000 in
theorem S_Rows_jobsIn_4 {p : Program} {l : Launch} {e : Env} {s : State} {m : MethodId} {args : Array Value} {below : List Frame} {meth : Method} {c : Code} {κ : hX} {Q : Int32 → hM → Prop} (C0 : Cw κ w_cl w_tl w_tb p s m args meth c b_Rows_jobsIn 4 R_Rows (some .int)) : ∀ (n : Nat) (h : hM) (x0 : Nat) (x1 : Int32) (x2 : Int32) (x3 : Int32) (H : Heap) (locs : List Loc) (ls : Array Slot), L_Rows_jobsIn_4 Q n h x0 x1 x2 x3 → hp κ w_cl h H → va_S (h_A κ) s.heap H locs → lv_has ls 4 [(0, .ref x0), (1, .int x1), (2, .int x2), (3, .int x3)] → W p l e rm_Rows_jobsIn s m args below meth c H locs 0 0 (MQ below (hQ κ w_cl (qI Q)) args s 0 0 (h_A κ)) (F0 m 4 ls []) := by
  obtain ⟨hx, hb, hml, hown, hts, hK, hF0, hrt, hlocks⟩ := id C0
  intro n
  induction n with
  | zero =>
    intro h x0 x1 x2 x3 H locs ls hw
    exact hw.elim
  | succ n hK4 =>
    intro h x0 x1 x2 x3 H locs ls hw hh hS hl
    have hw : P_Rows_jobsIn_4 Q (L_Rows_jobsIn_4 Q n) h x0 x1 x2 x3 := hw
    refine lv_iload_n hx hb d_Rows_jobsIn_4 rfl (lv_at hl 3 rfl) ?_
    refine lv_aload_n hx hb d_Rows_jobsIn_5 rfl (lv_at hl 0 rfl) ?_
    obtain ⟨fs56, r59, hr57, hk58, hw⟩ := hw
    refine h_get C0 hh hr57 hk58 rfl i_Rows (by decide) k_f_Rows_16 (fun _ h9 => h9) d_Rows_jobsIn_6 ?_
    obtain ⟨fs60, hr61, hw⟩ := hw
    refine h_callV (n := 0) C0 w_TBm hh hS hl.1 [] [.int x3] (S_AL_size _ _ _ hw) hr61 rfl k_m_Rows_60 k_inst_AL_size k_sel_AL_size k_ini_AL k_code_AL_size (by decide +kernel) rfl rfl (Nat.le_of_ble_eq_true rfl) ⟨(Nat.le_of_ble_eq_true rfl), (Nat.le_of_ble_eq_true rfl)⟩ ⟨(Nat.le_of_ble_eq_true rfl), (Nat.le_of_ble_eq_true rfl)⟩ d_Rows_jobsIn_9 (h_kI (k := 0) (n := 0) (Nat.le_of_ble_eq_true rfl) (Nat.le_of_ble_eq_true rfl) (fun i63 h62 H locs hw hh hS => ?_))
    refine lv_icmp_ge (tgt := 42) hx hb d_Rows_jobsIn_12 (by decide) (fun c64 => ?_) (fun c64 => ?_)
    · have hw := hw.1 c64
      refine lv_iload_n hx hb d_Rows_jobsIn_42 rfl (lv_at hl 2 rfl) ?_
      exact h_iret C0 hh hS rfl rfl ⟨_, rfl, hw⟩ d_Rows_jobsIn_43
    · have hw := hw.2 c64
      refine lv_aload_n hx hb d_Rows_jobsIn_15 rfl (lv_at hl 0 rfl) ?_
      obtain ⟨fs65, r68, hr66, hk67, hw⟩ := hw
      refine h_get C0 hh hr66 hk67 rfl i_Rows (by decide) k_f_Rows_16 (fun _ h9 => h9) d_Rows_jobsIn_16 ?_
      refine lv_iload_n hx hb d_Rows_jobsIn_19 rfl (lv_at hl 3 rfl) ?_
      obtain ⟨fs69, hr70, hw⟩ := hw
      refine h_callV (n := 1) C0 w_TBm hh hS hl.1 [.int x3] [] (S_AL_get _ _ _ _ hw) hr70 rfl k_m_Rows_156 k_inst_AL_get k_sel_AL_get k_ini_AL k_code_AL_get (by decide +kernel) rfl rfl (Nat.le_of_ble_eq_true rfl) ⟨(Nat.le_of_ble_eq_true rfl), (Nat.le_of_ble_eq_true rfl)⟩ ⟨(Nat.le_of_ble_eq_true rfl), (Nat.le_of_ble_eq_true rfl)⟩ d_Rows_jobsIn_20 (h_kO (k := 0) (n := 0) (Nat.le_of_ble_eq_true rfl) (Nat.le_of_ble_eq_true rfl) (fun o72 h71 H locs hw hh hS => ?_))
      rcases o72 with _ | a73
      · have hw := hw.1 rfl
        have hl : lv_has ls 4 [(0, .ref x0), (1, .int x1), (2, .int x2), (3, .int x3)] := hl
        refine lv_castN hx hb d_Rows_jobsIn_23 ?_
        exact hw.elim
      · have hw := hw.2 a73 rfl
        have hl : lv_has ls 4 [(0, .ref x0), (1, .int x1), (2, .int x2), (3, .int x3)] := hl
        obtain ⟨⟨fs74, hr75⟩, hw⟩ := hw
        refine h_cast C0 hh hr75 rfl k_c_Rows_86 d_Rows_jobsIn_23 ?_
        obtain ⟨fs76, i79, hr77, hk78, hw⟩ := hw
        refine h_get C0 hh hr77 hk78 rfl i_Job (by decide) k_f_Rows_119 (fun _ h9 => h9) d_Rows_jobsIn_26 ?_
        refine lv_iload_n hx hb d_Rows_jobsIn_29 rfl (lv_at hl 1 rfl) ?_
        refine lv_icmp_ne (tgt := 36) hx hb d_Rows_jobsIn_30 (by decide) (fun c80 => ?_) (fun c80 => ?_)
        · have hw := hw.1 c80
          exact S_Rows_jobsIn_36 C0 hK4 _ _ _ _ _ _ _ _ hw hh hS (lv_sub hl [0, 1, 2, 3] rfl)
        · have hw := hw.2 c80
          obtain ⟨x2_81, ex2_81⟩ : ∃ z : Int32, z = x2 + 1 := ⟨_, rfl⟩
          have hw := hw x2_81 ex2_81
          refine lv_iinc (v := x2_81) (lv' := [(2, .int x2_81), (0, .ref x0), (1, .int x1), (3, .int x3)]) hx hb d_Rows_jobsIn_33 hl (k := 2) rfl (by rw [ex2_81]; rfl) (by decide) rfl (fun ls hl => ?_)
          exact S_Rows_jobsIn_36 C0 hK4 _ _ _ _ _ _ _ _ hw hh hS (lv_sub hl [1, 2, 0, 3] rfl)
set_option maxHeartbeats 4000000 in
set_option maxRecDepth 100000 in
theorem S_Rows_jobsIn {l : Launch} {κ : hX} (Q : Int32 → hM → Prop) (h : hM) (x0 : Nat) (x1 : Int32) (hw : P_Rows_jobsIn Q h x0 x1) : Met l y_Rows_jobsIn [Cond.code y_Rows_jobsIn b_Rows_jobsIn 4 (some .int)] rm_Rows_jobsIn (hPc κ w_cl w_tl w_tb [.ref x0, .int x1] h) (hQ κ w_cl (qI Q)) 0 0 (h_A κ) := by
  refine h_enter w_TBm (by decide) (Nat.le_of_ble_eq_true rfl) ?_
  intro p e s m args below meth c C0 hnm hh hS ls hl
  obtain ⟨hx, hb, hml, hown, hts, hK, hF0, hrt, hlocks⟩ := id C0
  have hl : lv_has ls 4 [(0, .ref x0), (1, .int x1)] := hl
  refine lv_iconst (v := 0) hx hb d_Rows_jobsIn_0 (by decide) ?_
  refine lv_istore_n (lv' := [(2, .int (0 : Int32)), (0, .ref x0), (1, .int x1)]) hx hb d_Rows_jobsIn_1 rfl hl (by decide) rfl (fun ls hl => ?_)
  refine lv_iconst (v := 0) hx hb d_Rows_jobsIn_2 (by decide) ?_
  refine lv_istore_n (lv' := [(3, .int (0 : Int32)), (2, .int (0 : Int32)), (0, .ref x0), (1, .int x1)]) hx hb d_Rows_jobsIn_3 rfl hl (by decide) rfl (fun ls hl => ?_)
  obtain ⟨n0, hw⟩ := hw
  exact S_Rows_jobsIn_4 C0 n0 _ _ _ _ _ _ _ _ hw hh hS (lv_sub hl [2, 3, 1, 0] rfl)
set_option maxHeartbeats 4000000 in
set_option maxRecDepth 100000 in
theorem S_Rows_drainedAndIdle_44 {p : Program} {l : Launch} {e : Env} {s : State} {m : MethodId} {args : Array Value} {below : List Frame} {meth : Method} {c : Code} {κ : hX} {Q : Int32 → hM → Prop} {K4 : hM → Nat → Int32 → Int32 → Prop} (C0 : Cw κ w_cl w_tl w_tb p s m args meth c b_Rows_drainedAndIdle 4 R_Rows (some .int)) (hK4 : ∀ (h : hM) (x0 : Nat) (x1 : Int32) (x2 : Int32) (H : Heap) (locs : List Loc) (ls : Array Slot), K4 h x0 x1 x2 → hp κ w_cl h H → va_S (h_A κ) s.heap H locs → lv_has ls 4 [(0, .ref x0), (1, .int x1), (2, .int x2)] → W p l e rm_Rows_drainedAndIdle s m args below meth c H locs 0 0 (MQ below (hQ κ w_cl (qI Q)) args s 0 0 (h_A κ)) (F0 m 4 ls [])) : ∀ (h : hM) (x0 : Nat) (x1 : Int32) (x2 : Int32) (H : Heap) (locs : List Loc) (ls : Array Slot), P_Rows_drainedAndIdle_44 Q K4 h x0 x1 x2 → hp κ w_cl h H → va_S (h_A κ) s.heap H locs → lv_has ls 4 [(0, .ref x0), (1, .int x1), (2, .int x2)] → W p l e rm_Rows_drainedAndIdle s m args below meth c H locs 0 0 (MQ below (hQ κ w_cl (qI Q)) args s 0 0 (h_A κ)) (F0 m 44 ls []) := by
  obtain ⟨hx, hb, hml, hown, hts, hK, hF0, hrt, hlocks⟩ := id C0
  intro h x0 x1 x2 H locs ls hw hh hS hl
  obtain ⟨x2_65, ex2_65⟩ : ∃ z : Int32, z = x2 + 1 := ⟨_, rfl⟩
  have hw := hw x2_65 ex2_65
  refine lv_iinc (v := x2_65) (lv' := [(2, .int x2_65), (0, .ref x0), (1, .int x1)]) hx hb d_Rows_drainedAndIdle_44 hl (k := 2) rfl (by rw [ex2_65]; rfl) (by decide) rfl (fun ls hl => ?_)
  refine lv_goto (tgt := 4) hx hb d_Rows_drainedAndIdle_47 (by decide) ?_
  exact hK4 _ _ _ _ _ _ _ hw hh hS (lv_sub hl [1, 2, 0] rfl)
set_option maxHeartbeats 4000000 in
set_option maxRecDepth 100000 in
theorem S_Rows_drainedAndIdle_4 {p : Program} {l : Launch} {e : Env} {s : State} {m : MethodId} {args : Array Value} {below : List Frame} {meth : Method} {c : Code} {κ : hX} {Q : Int32 → hM → Prop} (C0 : Cw κ w_cl w_tl w_tb p s m args meth c b_Rows_drainedAndIdle 4 R_Rows (some .int)) : ∀ (n : Nat) (h : hM) (x0 : Nat) (x1 : Int32) (x2 : Int32) (H : Heap) (locs : List Loc) (ls : Array Slot), L_Rows_drainedAndIdle_4 Q n h x0 x1 x2 → hp κ w_cl h H → va_S (h_A κ) s.heap H locs → lv_has ls 4 [(0, .ref x0), (1, .int x1), (2, .int x2)] → W p l e rm_Rows_drainedAndIdle s m args below meth c H locs 0 0 (MQ below (hQ κ w_cl (qI Q)) args s 0 0 (h_A κ)) (F0 m 4 ls []) := by
  obtain ⟨hx, hb, hml, hown, hts, hK, hF0, hrt, hlocks⟩ := id C0
  intro n
  induction n with
  | zero =>
    intro h x0 x1 x2 H locs ls hw
    exact hw.elim
  | succ n hK4 =>
    intro h x0 x1 x2 H locs ls hw hh hS hl
    have hw : P_Rows_drainedAndIdle_4 Q (L_Rows_drainedAndIdle_4 Q n) h x0 x1 x2 := hw
    refine lv_iload_n hx hb d_Rows_drainedAndIdle_4 rfl (lv_at hl 2 rfl) ?_
    refine lv_aload_n hx hb d_Rows_drainedAndIdle_5 rfl (lv_at hl 0 rfl) ?_
    obtain ⟨fs66, r69, hr67, hk68, hw⟩ := hw
    refine h_get C0 hh hr67 hk68 rfl i_Rows (by decide) k_f_Rows_10 (fun _ h9 => h9) d_Rows_drainedAndIdle_6 ?_
    obtain ⟨fs70, hr71, hw⟩ := hw
    refine h_callV (n := 0) C0 w_TBm hh hS hl.1 [] [.int x2] (S_AL_size _ _ _ hw) hr71 rfl k_m_Rows_60 k_inst_AL_size k_sel_AL_size k_ini_AL k_code_AL_size (by decide +kernel) rfl rfl (Nat.le_of_ble_eq_true rfl) ⟨(Nat.le_of_ble_eq_true rfl), (Nat.le_of_ble_eq_true rfl)⟩ ⟨(Nat.le_of_ble_eq_true rfl), (Nat.le_of_ble_eq_true rfl)⟩ d_Rows_drainedAndIdle_9 (h_kI (k := 0) (n := 0) (Nat.le_of_ble_eq_true rfl) (Nat.le_of_ble_eq_true rfl) (fun i73 h72 H locs hw hh hS => ?_))
    refine lv_icmp_ge (tgt := 50) hx hb d_Rows_drainedAndIdle_12 (by decide) (fun c74 => ?_) (fun c74 => ?_)
    · have hw := hw.1 c74
      refine lv_iload_n hx hb d_Rows_drainedAndIdle_50 rfl (lv_at hl 1 rfl) ?_
      exact h_iret C0 hh hS rfl rfl ⟨_, rfl, hw⟩ d_Rows_drainedAndIdle_51
    · have hw := hw.2 c74
      refine lv_aload_n hx hb d_Rows_drainedAndIdle_15 rfl (lv_at hl 0 rfl) ?_
      obtain ⟨fs75, r78, hr76, hk77, hw⟩ := hw
      refine h_get C0 hh hr76 hk77 rfl i_Rows (by decide) k_f_Rows_10 (fun _ h9 => h9) d_Rows_drainedAndIdle_16 ?_
      refine lv_iload_n hx hb d_Rows_drainedAndIdle_19 rfl (lv_at hl 2 rfl) ?_
      obtain ⟨fs79, hr80, hw⟩ := hw
      refine h_callV (n := 1) C0 w_TBm hh hS hl.1 [.int x2] [] (S_AL_get _ _ _ _ hw) hr80 rfl k_m_Rows_156 k_inst_AL_get k_sel_AL_get k_ini_AL k_code_AL_get (by decide +kernel) rfl rfl (Nat.le_of_ble_eq_true rfl) ⟨(Nat.le_of_ble_eq_true rfl), (Nat.le_of_ble_eq_true rfl)⟩ ⟨(Nat.le_of_ble_eq_true rfl), (Nat.le_of_ble_eq_true rfl)⟩ d_Rows_drainedAndIdle_20 (h_kO (k := 0) (n := 0) (Nat.le_of_ble_eq_true rfl) (Nat.le_of_ble_eq_true rfl) (fun o82 h81 H locs hw hh hS => ?_))
      rcases o82 with _ | a83
      · have hw := hw.1 rfl
        have hl : lv_has ls 4 [(0, .ref x0), (1, .int x1), (2, .int x2)] := hl
        refine lv_castN hx hb d_Rows_drainedAndIdle_23 ?_
        refine lv_astore_nN (lv' := [(3, .null), (0, .ref x0), (1, .int x1), (2, .int x2)]) hx hb d_Rows_drainedAndIdle_26 rfl hl (by decide) rfl (fun ls hl => ?_)
        refine lv_aload_nN hx hb d_Rows_drainedAndIdle_27 rfl (lv_at hl 0 rfl) ?_
        exact hw.elim
      · have hw := hw.2 a83 rfl
        have hl : lv_has ls 4 [(0, .ref x0), (1, .int x1), (2, .int x2)] := hl
        obtain ⟨⟨fs84, hr85⟩, hw⟩ := hw
        refine h_cast C0 hh hr85 rfl k_c_Rows_64 d_Rows_drainedAndIdle_23 ?_
        refine lv_astore_n (lv' := [(3, .ref a83), (0, .ref x0), (1, .int x1), (2, .int x2)]) hx hb d_Rows_drainedAndIdle_26 rfl hl (by decide) rfl (fun ls hl => ?_)
        refine lv_aload_n hx hb d_Rows_drainedAndIdle_27 rfl (lv_at hl 0 rfl) ?_
        obtain ⟨fs86, i89, hr87, hk88, hw⟩ := hw
        refine h_get C0 hh hr87 hk88 rfl i_Ini (by decide) k_f_Rows_122 (fun _ h9 => h9) d_Rows_drainedAndIdle_28 ?_
        refine lv_if_eq (tgt := 44) hx hb d_Rows_drainedAndIdle_31 (by decide) (fun c90 => ?_) (fun c90 => ?_)
        · have hw := hw.1 c90
          exact S_Rows_drainedAndIdle_44 C0 hK4 _ _ _ _ _ _ _ hw hh hS (lv_sub hl [1, 2, 3] rfl)
        · have hw := hw.2 c90
          refine lv_aload_n hx hb d_Rows_drainedAndIdle_34 rfl (lv_at hl 0 rfl) ?_
          obtain ⟨fs91, i94, hr92, hk93, hw⟩ := hw
          refine h_get C0 hh hr92 hk93 rfl i_Ini (by decide) k_f_Rows_125 (fun _ h9 => h9) d_Rows_drainedAndIdle_35 ?_
          refine lv_if_ne (tgt := 44) hx hb d_Rows_drainedAndIdle_38 (by decide) (fun c95 => ?_) (fun c95 => ?_)
          · have hw := hw.1 c95
            exact S_Rows_drainedAndIdle_44 C0 hK4 _ _ _ _ _ _ _ hw hh hS (lv_sub hl [1, 2, 3] rfl)
          · have hw := hw.2 c95
            obtain ⟨x1_96, ex1_96⟩ : ∃ z : Int32, z = x1 + 1 := ⟨_, rfl⟩
            have hw := hw x1_96 ex1_96
            refine lv_iinc (v := x1_96) (lv' := [(1, .int x1_96), (3, .ref a83), (0, .ref x0), (2, .int x2)]) hx hb d_Rows_drainedAndIdle_41 hl (k := 2) rfl (by rw [ex1_96]; rfl) (by decide) rfl (fun ls hl => ?_)
            exact S_Rows_drainedAndIdle_44 C0 hK4 _ _ _ _ _ _ _ hw hh hS (lv_sub hl [2, 0, 3] rfl)
set_option maxHeartbeats 4000000 in
set_option maxRecDepth 100000 in
theorem S_Rows_drainedAndIdle {l : Launch} {κ : hX} (Q : Int32 → hM → Prop) (h : hM) (x0 : Nat) (hw : P_Rows_drainedAndIdle Q h x0) : Met l y_Rows_drainedAndIdle [Cond.code y_Rows_drainedAndIdle b_Rows_drainedAndIdle 4 (some .int)] rm_Rows_drainedAndIdle (hPc κ w_cl w_tl w_tb [.ref x0] h) (hQ κ w_cl (qI Q)) 0 0 (h_A κ) := by
  refine h_enter w_TBm (by decide) (Nat.le_of_ble_eq_true rfl) ?_
  intro p e s m args below meth c C0 hnm hh hS ls hl
  obtain ⟨hx, hb, hml, hown, hts, hK, hF0, hrt, hlocks⟩ := id C0
  have hl : lv_has ls 4 [(0, .ref x0)] := hl
  refine lv_iconst (v := 0) hx hb d_Rows_drainedAndIdle_0 (by decide) ?_
  refine lv_istore_n (lv' := [(1, .int (0 : Int32)), (0, .ref x0)]) hx hb d_Rows_drainedAndIdle_1 rfl hl (by decide) rfl (fun ls hl => ?_)
  refine lv_iconst (v := 0) hx hb d_Rows_drainedAndIdle_2 (by decide) ?_
  refine lv_istore_n (lv' := [(2, .int (0 : Int32)), (1, .int (0 : Int32)), (0, .ref x0)]) hx hb d_Rows_drainedAndIdle_3 rfl hl (by decide) rfl (fun ls hl => ?_)
  obtain ⟨n0, hw⟩ := hw
  exact S_Rows_drainedAndIdle_4 C0 n0 _ _ _ _ _ _ _ hw hh hS (lv_sub hl [2, 1, 0] rfl)
set_option maxHeartbeats 4000000 in
set_option maxRecDepth 100000 in
theorem S_Rows_unitsInUse {l : Launch} {κ : hX} (Q : Int32 → hM → Prop) (h : hM) (x0 : Nat) (x1 : Int32) (hw : P_Rows_unitsInUse Q h x0 x1) : Met l y_Rows_unitsInUse [Cond.code y_Rows_unitsInUse b_Rows_unitsInUse 2 (some .int)] rm_Rows_unitsInUse (hPc κ w_cl w_tl w_tb [.ref x0, .int x1] h) (hQ κ w_cl (qI Q)) 0 0 (h_A κ) := by
  refine h_enter w_TBm (by decide) (Nat.le_of_ble_eq_true rfl) ?_
  intro p e s m args below meth c C0 hnm hh hS ls hl
  obtain ⟨hx, hb, hml, hown, hts, hK, hF0, hrt, hlocks⟩ := id C0
  have hl : lv_has ls 2 [(0, .ref x0), (1, .int x1)] := hl
  refine lv_iload_n hx hb d_Rows_unitsInUse_0 rfl (lv_at hl 1 rfl) ?_
  refine lv_bipush (v := 10) hx hb d_Rows_unitsInUse_1 (by decide) ?_
  refine lv_bipush (v := 13) hx hb d_Rows_unitsInUse_3 (by decide) ?_
  refine h_callS (n := 3) C0 w_TBm hh hS hl.1 [.int x1, .int (10 : Int32), .int (13 : Int32)] [] (S_Rows_isIn _ _ _ _ _ hw) k_m_Rows_75 k_stat_Rows_isIn k_ini_Rows k_code_Rows_isIn (by decide +kernel) rfl rfl (Nat.le_of_ble_eq_true rfl) ⟨(Nat.le_of_ble_eq_true rfl), (Nat.le_of_ble_eq_true rfl)⟩ ⟨(Nat.le_of_ble_eq_true rfl), (Nat.le_of_ble_eq_true rfl)⟩ d_Rows_unitsInUse_5 (h_kI (k := 0) (n := 0) (Nat.le_of_ble_eq_true rfl) (Nat.le_of_ble_eq_true rfl) (fun i17 h16 H locs hw hh hS => ?_))
  refine lv_if_ne (tgt := 13) hx hb d_Rows_unitsInUse_8 (by decide) (fun c18 => ?_) (fun c18 => ?_)
  · have hw := hw.1 c18
    refine lv_aload_n hx hb d_Rows_unitsInUse_13 rfl (lv_at hl 0 rfl) ?_
    obtain ⟨fs19, r22, hr20, hk21, hw⟩ := hw
    refine h_get C0 hh hr20 hk21 rfl i_Rows (by decide) k_f_Rows_38 (fun _ h9 => h9) d_Rows_unitsInUse_14 ?_
    obtain ⟨fs23, r26, hr24, hk25, hw⟩ := hw
    refine h_get C0 hh hr24 hk25 rfl i_Load (by decide) k_f_Rows_225 (fun _ h9 => h9) d_Rows_unitsInUse_17 ?_
    refine lv_iload_n hx hb d_Rows_unitsInUse_20 rfl (lv_at hl 1 rfl) ?_
    refine lv_bipush (v := 10) hx hb d_Rows_unitsInUse_21 (by decide) ?_
    refine lv_isub hx hb d_Rows_unitsInUse_23 ?_
    obtain ⟨n27, f28, hr29, hi30, hw⟩ := hw
    refine h_iald C0 hh hr29 hi30 rfl d_Rows_unitsInUse_24 ?_
    exact h_iret C0 hh hS rfl rfl ⟨_, rfl, hw⟩ d_Rows_unitsInUse_25
  · have hw := hw.2 c18
    refine lv_iconst (v := -1) hx hb d_Rows_unitsInUse_11 (by decide) ?_
    exact h_iret C0 hh hS rfl rfl ⟨_, rfl, hw⟩ d_Rows_unitsInUse_12
set_option maxHeartbeats 4000000 in
set_option maxRecDepth 100000 in
theorem S_Rows_count {l : Launch} {κ : hX} (Q : Int32 → hM → Prop) (h : hM) (x0 : Nat) (x1 : Int32) (hw : P_Rows_count Q h x0 x1) : Met l y_Rows_count [Cond.code y_Rows_count b_Rows_count 2 (some .int)] rm_Rows_count (hPc κ w_cl w_tl w_tb [.ref x0, .int x1] h) (hQ κ w_cl (qI Q)) 0 0 (h_A κ) := by
  refine h_enter w_TBm (by decide) (Nat.le_of_ble_eq_true rfl) ?_
  intro p e s m args below meth c C0 hnm hh hS ls hl
  obtain ⟨hx, hb, hml, hown, hts, hK, hF0, hrt, hlocks⟩ := id C0
  have hl : lv_has ls 2 [(0, .ref x0), (1, .int x1)] := hl
  refine lv_iload_n hx hb d_Rows_count_0 rfl (lv_at hl 1 rfl) ?_
  by_cases c59 : x1 = 0
  · have hw := hw.1 c59
    refine lv_tableIn (tgt := 40) hx hb d_Rows_count_1 (by rw [c59]; decide) (by rw [c59]; decide) (by rw [c59]; rfl) (by decide) ?_
    refine lv_aload_n hx hb d_Rows_count_40 rfl (lv_at hl 0 rfl) ?_
    obtain ⟨fs51, r54, hr52, hk53, hw⟩ := hw
    refine h_get C0 hh hr52 hk53 rfl i_Rows (by decide) k_f_Rows_10 (fun _ h9 => h9) d_Rows_count_41 ?_
    obtain ⟨fs55, hr56, hw⟩ := hw
    refine h_callV (n := 0) C0 w_TBm hh hS hl.1 [] [] (S_AL_size _ _ _ hw) hr56 rfl k_m_Rows_60 k_inst_AL_size k_sel_AL_size k_ini_AL k_code_AL_size (by decide +kernel) rfl rfl (Nat.le_of_ble_eq_true rfl) ⟨(Nat.le_of_ble_eq_true rfl), (Nat.le_of_ble_eq_true rfl)⟩ ⟨(Nat.le_of_ble_eq_true rfl), (Nat.le_of_ble_eq_true rfl)⟩ d_Rows_count_44 (h_kI (k := 0) (n := 0) (Nat.le_of_ble_eq_true rfl) (Nat.le_of_ble_eq_true rfl) (fun i58 h57 H locs hw hh hS => ?_))
    exact h_iret C0 hh hS rfl rfl ⟨_, rfl, hw⟩ d_Rows_count_47
  by_cases c68 : x1 = 1
  · have hw := hw.2.1 c68
    refine lv_tableIn (tgt := 48) hx hb d_Rows_count_1 (by rw [c68]; decide) (by rw [c68]; decide) (by rw [c68]; rfl) (by decide) ?_
    refine lv_aload_n hx hb d_Rows_count_48 rfl (lv_at hl 0 rfl) ?_
    obtain ⟨fs60, r63, hr61, hk62, hw⟩ := hw
    refine h_get C0 hh hr61 hk62 rfl i_Rows (by decide) k_f_Rows_16 (fun _ h9 => h9) d_Rows_count_49 ?_
    obtain ⟨fs64, hr65, hw⟩ := hw
    refine h_callV (n := 0) C0 w_TBm hh hS hl.1 [] [] (S_AL_size _ _ _ hw) hr65 rfl k_m_Rows_60 k_inst_AL_size k_sel_AL_size k_ini_AL k_code_AL_size (by decide +kernel) rfl rfl (Nat.le_of_ble_eq_true rfl) ⟨(Nat.le_of_ble_eq_true rfl), (Nat.le_of_ble_eq_true rfl)⟩ ⟨(Nat.le_of_ble_eq_true rfl), (Nat.le_of_ble_eq_true rfl)⟩ d_Rows_count_52 (h_kI (k := 0) (n := 0) (Nat.le_of_ble_eq_true rfl) (Nat.le_of_ble_eq_true rfl) (fun i67 h66 H locs hw hh hS => ?_))
    exact h_iret C0 hh hS rfl rfl ⟨_, rfl, hw⟩ d_Rows_count_55
  by_cases c77 : x1 = 2
  · have hw := hw.2.2.1 c77
    refine lv_tableIn (tgt := 56) hx hb d_Rows_count_1 (by rw [c77]; decide) (by rw [c77]; decide) (by rw [c77]; rfl) (by decide) ?_
    refine lv_aload_n hx hb d_Rows_count_56 rfl (lv_at hl 0 rfl) ?_
    refine lv_iconst (v := 0) hx hb d_Rows_count_57 (by decide) ?_
    obtain ⟨fs69, hr70, hw⟩ := hw
    refine h_callV (n := 1) C0 w_TBm hh hS hl.1 [.int (0 : Int32)] [] (S_Rows_jobsIn _ _ _ _ hw) hr70 rfl k_m_Rows_170 k_inst_Rows_jobsIn k_sel_Rows_jobsIn k_ini_Rows k_code_Rows_jobsIn (by decide +kernel) rfl rfl (Nat.le_of_ble_eq_true rfl) ⟨(Nat.le_of_ble_eq_true rfl), (Nat.le_of_ble_eq_true rfl)⟩ ⟨(Nat.le_of_ble_eq_true rfl), (Nat.le_of_ble_eq_true rfl)⟩ d_Rows_count_58 (h_kI (k := 0) (n := 0) (Nat.le_of_ble_eq_true rfl) (Nat.le_of_ble_eq_true rfl) (fun i72 h71 H locs hw hh hS => ?_))
    refine lv_aload_n hx hb d_Rows_count_61 rfl (lv_at hl 0 rfl) ?_
    refine lv_iconst (v := 1) hx hb d_Rows_count_62 (by decide) ?_
    obtain ⟨fs73, hr74, hw⟩ := hw
    refine h_callV (n := 1) C0 w_TBm hh hS hl.1 [.int (1 : Int32)] [.int i72] (S_Rows_jobsIn _ _ _ _ hw) hr74 rfl k_m_Rows_170 k_inst_Rows_jobsIn k_sel_Rows_jobsIn k_ini_Rows k_code_Rows_jobsIn (by decide +kernel) rfl rfl (Nat.le_of_ble_eq_true rfl) ⟨(Nat.le_of_ble_eq_true rfl), (Nat.le_of_ble_eq_true rfl)⟩ ⟨(Nat.le_of_ble_eq_true rfl), (Nat.le_of_ble_eq_true rfl)⟩ d_Rows_count_63 (h_kI (k := 0) (n := 0) (Nat.le_of_ble_eq_true rfl) (Nat.le_of_ble_eq_true rfl) (fun i76 h75 H locs hw hh hS => ?_))
    refine lv_iadd hx hb d_Rows_count_66 ?_
    exact h_iret C0 hh hS rfl rfl ⟨_, rfl, hw⟩ d_Rows_count_67
  by_cases c82 : x1 = 3
  · have hw := hw.2.2.2.1 c82
    refine lv_tableIn (tgt := 68) hx hb d_Rows_count_1 (by rw [c82]; decide) (by rw [c82]; decide) (by rw [c82]; rfl) (by decide) ?_
    refine lv_aload_n hx hb d_Rows_count_68 rfl (lv_at hl 0 rfl) ?_
    refine lv_iconst (v := 1) hx hb d_Rows_count_69 (by decide) ?_
    obtain ⟨fs78, hr79, hw⟩ := hw
    refine h_callV (n := 1) C0 w_TBm hh hS hl.1 [.int (1 : Int32)] [] (S_Rows_jobsIn _ _ _ _ hw) hr79 rfl k_m_Rows_170 k_inst_Rows_jobsIn k_sel_Rows_jobsIn k_ini_Rows k_code_Rows_jobsIn (by decide +kernel) rfl rfl (Nat.le_of_ble_eq_true rfl) ⟨(Nat.le_of_ble_eq_true rfl), (Nat.le_of_ble_eq_true rfl)⟩ ⟨(Nat.le_of_ble_eq_true rfl), (Nat.le_of_ble_eq_true rfl)⟩ d_Rows_count_70 (h_kI (k := 0) (n := 0) (Nat.le_of_ble_eq_true rfl) (Nat.le_of_ble_eq_true rfl) (fun i81 h80 H locs hw hh hS => ?_))
    exact h_iret C0 hh hS rfl rfl ⟨_, rfl, hw⟩ d_Rows_count_73
  by_cases c91 : x1 = 4
  · have hw := hw.2.2.2.2.1 c91
    refine lv_tableIn (tgt := 74) hx hb d_Rows_count_1 (by rw [c91]; decide) (by rw [c91]; decide) (by rw [c91]; rfl) (by decide) ?_
    refine lv_aload_n hx hb d_Rows_count_74 rfl (lv_at hl 0 rfl) ?_
    obtain ⟨fs83, r86, hr84, hk85, hw⟩ := hw
    refine h_get C0 hh hr84 hk85 rfl i_Rows (by decide) k_f_Rows_38 (fun _ h9 => h9) d_Rows_count_75 ?_
    obtain ⟨fs87, i90, hr88, hk89, hw⟩ := hw
    refine h_get C0 hh hr88 hk89 rfl i_Load (by decide) k_f_Rows_174 (fun _ h9 => h9) d_Rows_count_78 ?_
    exact h_iret C0 hh hS rfl rfl ⟨_, rfl, hw⟩ d_Rows_count_81
  by_cases c96 : x1 = 5
  · have hw := hw.2.2.2.2.2.1 c96
    refine lv_tableIn (tgt := 82) hx hb d_Rows_count_1 (by rw [c96]; decide) (by rw [c96]; decide) (by rw [c96]; rfl) (by decide) ?_
    refine lv_aload_n hx hb d_Rows_count_82 rfl (lv_at hl 0 rfl) ?_
    obtain ⟨fs92, hr93, hw⟩ := hw
    refine h_callV (n := 0) C0 w_TBm hh hS hl.1 [] [] (S_Rows_drainedAndIdle _ _ _ hw) hr93 rfl k_m_Rows_177 k_inst_Rows_drainedAndIdle k_sel_Rows_drainedAndIdle k_ini_Rows k_code_Rows_drainedAndIdle (by decide +kernel) rfl rfl (Nat.le_of_ble_eq_true rfl) ⟨(Nat.le_of_ble_eq_true rfl), (Nat.le_of_ble_eq_true rfl)⟩ ⟨(Nat.le_of_ble_eq_true rfl), (Nat.le_of_ble_eq_true rfl)⟩ d_Rows_count_83 (h_kI (k := 0) (n := 0) (Nat.le_of_ble_eq_true rfl) (Nat.le_of_ble_eq_true rfl) (fun i95 h94 H locs hw hh hS => ?_))
    exact h_iret C0 hh hS rfl rfl ⟨_, rfl, hw⟩ d_Rows_count_86
  have hw := hw.2.2.2.2.2.2 ⟨c59, c68, c77, c82, c91, c96⟩
  refine lv_tableOut (tgt := 87) hx hb d_Rows_count_1 (by have n0 := lv_neT (a := 0) c59 (by decide); have n1 := lv_neT (a := 1) c68 (by decide); have n2 := lv_neT (a := 2) c77 (by decide); have n3 := lv_neT (a := 3) c82 (by decide); have n4 := lv_neT (a := 4) c91 (by decide); have n5 := lv_neT (a := 5) c96 (by decide); omega) (by decide) ?_
  refine lv_aload_n hx hb d_Rows_count_87 rfl (lv_at hl 0 rfl) ?_
  refine lv_iload_n hx hb d_Rows_count_88 rfl (lv_at hl 1 rfl) ?_
  obtain ⟨fs97, hr98, hw⟩ := hw
  refine h_callV (n := 1) C0 w_TBm hh hS hl.1 [.int x1] [] (S_Rows_unitsInUse _ _ _ _ hw) hr98 rfl k_m_Rows_180 k_inst_Rows_unitsInUse k_sel_Rows_unitsInUse k_ini_Rows k_code_Rows_unitsInUse (by decide +kernel) rfl rfl (Nat.le_of_ble_eq_true rfl) ⟨(Nat.le_of_ble_eq_true rfl), (Nat.le_of_ble_eq_true rfl)⟩ ⟨(Nat.le_of_ble_eq_true rfl), (Nat.le_of_ble_eq_true rfl)⟩ d_Rows_count_89 (h_kI (k := 0) (n := 0) (Nat.le_of_ble_eq_true rfl) (Nat.le_of_ble_eq_true rfl) (fun i100 h99 H locs hw hh hS => ?_))
  exact h_iret C0 hh hS rfl rfl ⟨_, rfl, hw⟩ d_Rows_count_92
