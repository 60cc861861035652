set_option maxHeartbeats 4000000 in
set_option maxRecDepth 100000 in
theorem S_Mod_order_92 {p : Program} {l : Launch} {e : Env} {s : State} {m : MethodId} {args : Array Value} {below : List Frame} {meth : Method} {c : Code} {κ : hX} {Q : Int32 → hM → Prop} {K41 : hM → Nat → Int32 → Int32 → Int32 → Int32 → Prop} (C0 : Cw κ w_cl w_tl w_tb p s m args meth c b_Mod_order 5 R_Mod (some .int)) (hK41 : ∀ (h : hM) (x0 : Nat) (x1 : Int32) (x2 : Int32) (x3 : Int32) (x4 : Int32) (H : Heap) (locs : List Loc) (ls : Array Slot), K41 h x0 x1 x2 x3 x4 → hp κ w_cl h H → va_S (h_A κ) s.heap H locs → lv_has ls 5 [(0, .ref x0), (1, .int x1), (2, .int x2), (3, .int x3), (4, .int x4)] → W p l e rm_Mod_order s m args below meth c H locs 0 0 (MQ below (hQ κ w_cl (qI Q)) args s 0 0 (h_A κ)) (F0 m 41 ls [])) : ∀ (h : hM) (x0 : Nat) (x1 : Int32) (x2 : Int32) (x4 : Int32) (t0 : Int32) (t1 : Int32) (H : Heap) (locs : List Loc) (ls : Array Slot), P_Mod_order_92 Q K41 h x0 x1 x2 x4 t0 t1 → hp κ w_cl h H → va_S (h_A κ) s.heap H locs → lv_has ls 5 [(0, .ref x0), (1, .int x1), (2, .int x2), (4, .int x4)] → W p l e rm_Mod_order s m args below meth c H locs 0 0 (MQ below (hQ κ w_cl (qI Q)) args s 0 0 (h_A κ)) (F0 m 92 ls [.int t0, .int t1]) := by
  obtain ⟨hx, hb, hml, hown, hts, hK, hF0, hrt, hlocks⟩ := id C0
  intro h x0 x1 x2 x4 t0 t1 H locs ls hw hh hS hl
  refine lv_iadd hx hb d_Mod_order_92 ?_
  refine lv_topi (fun x3_122 ex3_122 => ?_)
  have hw := hw x3_122 ex3_122
  refine lv_istore_n (lv' := [(3, .int x3_122), (0, .ref x0), (1, .int x1), (2, .int x2), (4, .int x4)]) hx hb d_Mod_order_93 rfl hl (by decide) rfl (fun ls hl => ?_)
  obtain ⟨x4_123, ex4_123⟩ : ∃ z : Int32, z = x4 + 1 := ⟨_, rfl⟩
  have hw := hw x4_123 ex4_123
  refine lv_iinc (v := x4_123) (lv' := [(4, .int x4_123), (3, .int x3_122), (0, .ref x0), (1, .int x1), (2, .int x2)]) hx hb d_Mod_order_94 hl (k := 4) rfl (by rw [ex4_123]; rfl) (by decide) rfl (fun ls hl => ?_)
  refine lv_goto (tgt := 41) hx hb d_Mod_order_97 (by decide) ?_
  exact hK41 _ _ _ _ _ _ _ _ _ hw hh hS (lv_sub hl [2, 3, 4, 1, 0] rfl)
set_option maxHeartbeats 4000000 in
set_option maxRecDepth 100000 in
theorem S_Mod_order_91 {p : Program} {l : Launch} {e : Env} {s : State} {m : MethodId} {args : Array Value} {below : List Frame} {meth : Method} {c : Code} {κ : hX} {Q : Int32 → hM → Prop} {K41 : hM → Nat → Int32 → Int32 → Int32 → Int32 → Prop} (C0 : Cw κ w_cl w_tl w_tb p s m args meth c b_Mod_order 5 R_Mod (some .int)) (hK41 : ∀ (h : hM) (x0 : Nat) (x1 : Int32) (x2 : Int32) (x3 : Int32) (x4 : Int32) (H : Heap) (locs : List Loc) (ls : Array Slot), K41 h x0 x1 x2 x3 x4 → hp κ w_cl h H → va_S (h_A κ) s.heap H locs → lv_has ls 5 [(0, .ref x0), (1, .int x1), (2, .int x2), (3, .int x3), (4, .int x4)] → W p l e rm_Mod_order s m args below meth c H locs 0 0 (MQ below (hQ κ w_cl (qI Q)) args s 0 0 (h_A κ)) (F0 m 41 ls [])) : ∀ (h : hM) (x0 : Nat) (x1 : Int32) (x2 : Int32) (x4 : Int32) (t0 : Int32) (H : Heap) (locs : List Loc) (ls : Array Slot), P_Mod_order_91 Q K41 h x0 x1 x2 x4 t0 → hp κ w_cl h H → va_S (h_A κ) s.heap H locs → lv_has ls 5 [(0, .ref x0), (1, .int x1), (2, .int x2), (4, .int x4)] → W p l e rm_Mod_order s m args below meth c H locs 0 0 (MQ below (hQ κ w_cl (qI Q)) args s 0 0 (h_A κ)) (F0 m 91 ls [.int t0]) := by
  obtain ⟨hx, hb, hml, hown, hts, hK, hF0, hrt, hlocks⟩ := id C0
  intro h x0 x1 x2 x4 t0 H locs ls hw hh hS hl
  refine lv_iconst (v := 0) hx hb d_Mod_order_91 (by decide) ?_
  exact S_Mod_order_92 C0 hK41 _ _ _ _ _ _ _ _ _ _ hw hh hS (lv_sub hl [0, 1, 2, 3] rfl)
set_option maxHeartbeats 4000000 in
set_option maxRecDepth 100000 in
theorem S_Mod_order_41 {p : Program} {l : Launch} {e : Env} {s : State} {m : MethodId} {args : Array Value} {below : List Frame} {meth : Method} {c : Code} {κ : hX} {Q : Int32 → hM → Prop} {K7 : hM → Nat → Int32 → Int32 → Prop} (C0 : Cw κ w_cl w_tl w_tb p s m args meth c b_Mod_order 5 R_Mod (some .int)) (hK7 : ∀ (h : hM) (x0 : Nat) (x1 : Int32) (x2 : Int32) (H : Heap) (locs : List Loc) (ls : Array Slot), K7 h x0 x1 x2 → hp κ w_cl h H → va_S (h_A κ) s.heap H locs → lv_has ls 5 [(0, .ref x0), (1, .int x1), (2, .int x2)] → W p l e rm_Mod_order s m args below meth c H locs 0 0 (MQ below (hQ κ w_cl (qI Q)) args s 0 0 (h_A κ)) (F0 m 7 ls [])) : ∀ (n : Nat) (h : hM) (x0 : Nat) (x1 : Int32) (x2 : Int32) (x3 : Int32) (x4 : Int32) (H : Heap) (locs : List Loc) (ls : Array Slot), L_Mod_order_41 Q K7 n h x0 x1 x2 x3 x4 → hp κ w_cl h H → va_S (h_A κ) s.heap H locs → lv_has ls 5 [(0, .ref x0), (1, .int x1), (2, .int x2), (3, .int x3), (4, .int x4)] → W p l e rm_Mod_order s m args below meth c H locs 0 0 (MQ below (hQ κ w_cl (qI Q)) args s 0 0 (h_A κ)) (F0 m 41 ls []) := by
  obtain ⟨hx, hb, hml, hown, hts, hK, hF0, hrt, hlocks⟩ := id C0
  intro n
  induction n with
  | zero =>
    intro h x0 x1 x2 x3 x4 H locs ls hw
    exact hw.elim
  | succ n hK41 =>
    intro h x0 x1 x2 x3 x4 H locs ls hw hh hS hl
    have hw : P_Mod_order_41 Q K7 (L_Mod_order_41 Q K7 n) h x0 x1 x2 x3 x4 := hw
    refine lv_iload hx hb d_Mod_order_41 (lv_at hl 4 rfl) ?_
    refine lv_aload_n hx hb d_Mod_order_43 rfl (lv_at hl 0 rfl) ?_
    obtain ⟨fs124, i127, hr125, hk126, hw⟩ := hw
    refine h_get C0 hh hr125 hk126 rfl i_Mod (by decide) k_f_Mod_76 (fun _ h9 => h9) d_Mod_order_44 ?_
    refine lv_icmp_ge (tgt := 100) hx hb d_Mod_order_47 (by decide) (fun c128 => ?_) (fun c128 => ?_)
    · have hw := hw.1 c128
      refine lv_iload_n hx hb d_Mod_order_100 rfl (lv_at hl 3 rfl) ?_
      refine lv_iload_n hx hb d_Mod_order_101 rfl (lv_at hl 1 rfl) ?_
      refine lv_icmp_ne (tgt := 109) hx hb d_Mod_order_102 (by decide) (fun c129 => ?_) (fun c129 => ?_)
      · have hw := hw.1 c129
        exact S_Mod_order_109 C0 hK7 _ _ _ _ _ _ _ hw hh hS (lv_sub hl [0, 1, 2] rfl)
      · have hw := hw.2 c129
        refine lv_iload_n hx hb d_Mod_order_105 rfl (lv_at hl 2 rfl) ?_
        refine lv_iconst (v := 1) hx hb d_Mod_order_106 (by decide) ?_
        refine lv_iadd hx hb d_Mod_order_107 ?_
        exact h_iret C0 hh hS rfl rfl ⟨_, rfl, hw⟩ d_Mod_order_108
    · have hw := hw.2 c128
      refine lv_iload_n hx hb d_Mod_order_50 rfl (lv_at hl 3 rfl) ?_
      refine lv_aload_n hx hb d_Mod_order_51 rfl (lv_at hl 0 rfl) ?_
      obtain ⟨fs130, r133, hr131, hk132, hw⟩ := hw
      refine h_get C0 hh hr131 hk132 rfl i_Mod (by decide) k_f_Mod_44 (fun _ h9 => h9) d_Mod_order_52 ?_
      refine lv_iload hx hb d_Mod_order_55 (lv_at hl 4 rfl) ?_
      obtain ⟨n134, f135, hr136, hi137, hw⟩ := hw
      refine h_iald C0 hh hr136 hi137 rfl d_Mod_order_57 ?_
      refine lv_if_ne (tgt := 91) hx hb d_Mod_order_58 (by decide) (fun c138 => ?_) (fun c138 => ?_)
      · have hw := hw.1 c138
        exact S_Mod_order_91 C0 hK41 _ _ _ _ _ _ _ _ _ hw hh hS (lv_sub hl [0, 1, 2, 4] rfl)
      · have hw := hw.2 c138
        refine lv_aload_n hx hb d_Mod_order_61 rfl (lv_at hl 0 rfl) ?_
        obtain ⟨fs139, r142, hr140, hk141, hw⟩ := hw
        refine h_get C0 hh hr140 hk141 rfl i_Mod (by decide) k_f_Mod_50 (fun _ h9 => h9) d_Mod_order_62 ?_
        refine lv_iload hx hb d_Mod_order_65 (lv_at hl 4 rfl) ?_
        obtain ⟨n143, f144, hr145, hi146, hw⟩ := hw
        refine h_zald C0 hh hr145 hi146 rfl d_Mod_order_67 ?_
        refine lv_if_ne (tgt := 91) hx hb d_Mod_order_68 (by decide) (fun c147 => ?_) (fun c147 => ?_)
        · have hw := hw.1 c147
          exact S_Mod_order_91 C0 hK41 _ _ _ _ _ _ _ _ _ hw hh hS (lv_sub hl [0, 1, 2, 4] rfl)
        · have hw := hw.2 c147
          refine lv_iload hx hb d_Mod_order_71 (lv_at hl 4 rfl) ?_
          refine lv_iload_n hx hb d_Mod_order_73 rfl (lv_at hl 2 rfl) ?_
          refine lv_icmp_eq (tgt := 91) hx hb d_Mod_order_74 (by decide) (fun c148 => ?_) (fun c148 => ?_)
          · have hw := hw.1 c148
            exact S_Mod_order_91 C0 hK41 _ _ _ _ _ _ _ _ _ hw hh hS (lv_sub hl [0, 1, 2, 4] rfl)
          · have hw := hw.2 c148
            refine lv_aload_n hx hb d_Mod_order_77 rfl (lv_at hl 0 rfl) ?_
            refine lv_iload hx hb d_Mod_order_78 (lv_at hl 4 rfl) ?_
            refine lv_iload_n hx hb d_Mod_order_80 rfl (lv_at hl 2 rfl) ?_
            obtain ⟨fs149, hr150, hw⟩ := hw
            refine h_callV (n := 2) C0 w_TBm hh hS hl.1 [.int x4, .int x2] [.int x3] (S_Mod_isAhead _ _ _ _ _ hw) hr150 rfl k_m_Mod_124 k_inst_Mod_isAhead k_sel_Mod_isAhead k_ini_Mod k_code_Mod_isAhead (by decide +kernel) rfl rfl (Nat.le_of_ble_eq_true rfl) ⟨(Nat.le_of_ble_eq_true rfl), (Nat.le_of_ble_eq_true rfl)⟩ ⟨(Nat.le_of_ble_eq_true rfl), (Nat.le_of_ble_eq_true rfl)⟩ d_Mod_order_81 (h_kI (k := 0) (n := 0) (Nat.le_of_ble_eq_true rfl) (Nat.le_of_ble_eq_true rfl) (fun i152 h151 H locs hw hh hS => ?_))
            refine lv_if_eq (tgt := 91) hx hb d_Mod_order_84 (by decide) (fun c153 => ?_) (fun c153 => ?_)
            · have hw := hw.1 c153
              exact S_Mod_order_91 C0 hK41 _ _ _ _ _ _ _ _ _ hw hh hS (lv_sub hl [0, 1, 2, 4] rfl)
            · have hw := hw.2 c153
              refine lv_iconst (v := 1) hx hb d_Mod_order_87 (by decide) ?_
              refine lv_goto (tgt := 92) hx hb d_Mod_order_88 (by decide) ?_
              exact S_Mod_order_92 C0 hK41 _ _ _ _ _ _ _ _ _ _ hw hh hS (lv_sub hl [0, 1, 2, 4] rfl)
set_option maxHeartbeats 4000000 in
set_option maxRecDepth 100000 in
theorem S_Mod_order_7 {p : Program} {l : Launch} {e : Env} {s : State} {m : MethodId} {args : Array Value} {below : List Frame} {meth : Method} {c : Code} {κ : hX} {Q : Int32 → hM → Prop} (C0 : Cw κ w_cl w_tl w_tb p s m args meth c b_Mod_order 5 R_Mod (some .int)) : ∀ (n : Nat) (h : hM) (x0 : Nat) (x1 : Int32) (x2 : Int32) (H : Heap) (locs : List Loc) (ls : Array Slot), L_Mod_order_7 Q n h x0 x1 x2 → hp κ w_cl h H → va_S (h_A κ) s.heap H locs → lv_has ls 5 [(0, .ref x0), (1, .int x1), (2, .int x2)] → W p l e rm_Mod_order s m args below meth c H locs 0 0 (MQ below (hQ κ w_cl (qI Q)) args s 0 0 (h_A κ)) (F0 m 7 ls []) := by
  obtain ⟨hx, hb, hml, hown, hts, hK, hF0, hrt, hlocks⟩ := id C0
  intro n
  induction n with
  | zero =>
    intro h x0 x1 x2 H locs ls hw
    exact hw.elim
  | succ n hK7 =>
    intro h x0 x1 x2 H locs ls hw hh hS hl
    have hw : P_Mod_order_7 Q (L_Mod_order_7 Q n) h x0 x1 x2 := hw
    refine lv_iload_n hx hb d_Mod_order_7 rfl (lv_at hl 2 rfl) ?_
    refine lv_aload_n hx hb d_Mod_order_8 rfl (lv_at hl 0 rfl) ?_
    obtain ⟨fs154, i157, hr155, hk156, hw⟩ := hw
    refine h_get C0 hh hr155 hk156 rfl i_Mod (by decide) k_f_Mod_76 (fun _ h9 => h9) d_Mod_order_9 ?_
    refine lv_icmp_ge (tgt := 115) hx hb d_Mod_order_12 (by decide) (fun c158 => ?_) (fun c158 => ?_)
    · have hw := hw.1 c158
      refine lv_iconst (v := -1) hx hb d_Mod_order_115 (by decide) ?_
      exact h_iret C0 hh hS rfl rfl ⟨_, rfl, hw⟩ d_Mod_order_116
    · have hw := hw.2 c158
      refine lv_aload_n hx hb d_Mod_order_15 rfl (lv_at hl 0 rfl) ?_
      obtain ⟨fs159, r162, hr160, hk161, hw⟩ := hw
      refine h_get C0 hh hr160 hk161 rfl i_Mod (by decide) k_f_Mod_44 (fun _ h9 => h9) d_Mod_order_16 ?_
      refine lv_iload_n hx hb d_Mod_order_19 rfl (lv_at hl 2 rfl) ?_
      obtain ⟨n163, f164, hr165, hi166, hw⟩ := hw
      refine h_iald C0 hh hr165 hi166 rfl d_Mod_order_20 ?_
      refine lv_if_ne (tgt := 109) hx hb d_Mod_order_21 (by decide) (fun c167 => ?_) (fun c167 => ?_)
      · have hw := hw.1 c167
        exact S_Mod_order_109 C0 hK7 _ _ _ _ _ _ _ hw hh hS (lv_sub hl [0, 1, 2] rfl)
      · have hw := hw.2 c167
        refine lv_aload_n hx hb d_Mod_order_24 rfl (lv_at hl 0 rfl) ?_
        obtain ⟨fs168, r171, hr169, hk170, hw⟩ := hw
        refine h_get C0 hh hr169 hk170 rfl i_Mod (by decide) k_f_Mod_50 (fun _ h9 => h9) d_Mod_order_25 ?_
        refine lv_iload_n hx hb d_Mod_order_28 rfl (lv_at hl 2 rfl) ?_
        obtain ⟨n172, f173, hr174, hi175, hw⟩ := hw
        refine h_zald C0 hh hr174 hi175 rfl d_Mod_order_29 ?_
        refine lv_if_eq (tgt := 36) hx hb d_Mod_order_30 (by decide) (fun c176 => ?_) (fun c176 => ?_)
        · have hw := hw.1 c176
          refine lv_iconst (v := 0) hx hb d_Mod_order_36 (by decide) ?_
          refine lv_istore_n (lv' := [(3, .int (0 : Int32)), (0, .ref x0), (1, .int x1), (2, .int x2)]) hx hb d_Mod_order_37 rfl hl (by decide) rfl (fun ls hl => ?_)
          refine lv_iconst (v := 0) hx hb d_Mod_order_38 (by decide) ?_
          refine lv_istore (lv' := [(4, .int (0 : Int32)), (3, .int (0 : Int32)), (0, .ref x0), (1, .int x1), (2, .int x2)]) hx hb d_Mod_order_39 hl (by decide) rfl (fun ls hl => ?_)
          obtain ⟨n0, hw⟩ := hw
          exact S_Mod_order_41 C0 hK7 n0 _ _ _ _ _ _ _ _ _ hw hh hS (lv_sub hl [2, 3, 4, 1, 0] rfl)
        · have hw := hw.2 c176
          refine lv_goto (tgt := 109) hx hb d_Mod_order_33 (by decide) ?_
          exact S_Mod_order_109 C0 hK7 _ _ _ _ _ _ _ hw hh hS (lv_sub hl [0, 1, 2] rfl)
set_option maxHeartbeats 4000000 in
set_option maxRecDepth 100000 in
theorem S_Mod_order {l : Launch} {κ : hX} (Q : Int32 → hM → Prop) (h : hM) (x0 : Nat) (x1 : Int32) (hw : P_Mod_order Q h x0 x1) : Met l y_Mod_order [Cond.code y_Mod_order b_Mod_order 5 (some .int)] rm_Mod_order (hPc κ w_cl w_tl w_tb [.ref x0, .int x1] h) (hQ κ w_cl (qI Q)) 0 0 (h_A κ) := by
  refine h_enter w_TBm (by decide) (Nat.le_of_ble_eq_true rfl) ?_
  intro p e s m args below meth c C0 hnm hh hS ls hl
  obtain ⟨hx, hb, hml, hown, hts, hK, hF0, hrt, hlocks⟩ := id C0
  have hl : lv_has ls 5 [(0, .ref x0), (1, .int x1)] := hl
  refine lv_aload_n hx hb d_Mod_order_0 rfl (lv_at hl 0 rfl) ?_
  refine lv_iconst (v := 0) hx hb d_Mod_order_1 (by decide) ?_
  obtain ⟨fs177, hr178, hk179, hw⟩ := hw
  refine h_put C0 hh hS (v := .int (0 : Int32)) hr178 hk179 rfl i_Mod t_Mod t_Mod_ok n_Mod (by decide) k_f_Mod_69 (fun _ h9 => h9) rfl rfl rfl rfl d_Mod_order_2 (fun H locs hh hS => ?_)
  obtain ⟨h180, eh180⟩ : ∃ z : hM, z = h_up h x0 (eO 6 (fs177.set 0 (.int (0 : Int32)))) := ⟨_, rfl⟩
  rw [← eh180] at hh
  have hw := hw h180 eh180
  refine lv_iconst (v := 0) hx hb d_Mod_order_5 (by decide) ?_
  refine lv_istore_n (lv' := [(2, .int (0 : Int32)), (0, .ref x0), (1, .int x1)]) hx hb d_Mod_order_6 rfl hl (by decide) rfl (fun ls hl => ?_)
  obtain ⟨n0, hw⟩ := hw
  exact S_Mod_order_7 C0 n0 _ _ _ _ _ _ _ hw hh hS (lv_sub hl [1, 2, 0] rfl)
set_option maxHeartbeats 4000000 in
set_option maxRecDepth 100000 in
theorem S_Mod_waited_43 {p : Program} {l : Launch} {e : Env} {s : State} {m : MethodId} {args : Array Value} {below : List Frame} {meth : Method} {c : Code} {κ : hX} {Q : Int64 → hM → Prop} (C0 : Cw κ w_cl w_tl w_tb p s m args meth c b_Mod_waited 2 R_Mod (some .long)) : ∀ (h : hM) (x0 : Nat) (x1 : Int32) (t0 : Int64) (H : Heap) (locs : List Loc) (ls : Array Slot), P_Mod_waited_43 Q h x0 x1 t0 → hp κ w_cl h H → va_S (h_A κ) s.heap H locs → lv_has ls 2 [(0, .ref x0), (1, .int x1)] → W p l e rm_Mod_waited s m args below meth c H locs 0 0 (MQ below (hQ κ w_cl (qJ Q)) args s 0 0 (h_A κ)) (F0 m 43 ls [.long t0]) := by
  obtain ⟨hx, hb, hml, hown, hts, hK, hF0, hrt, hlocks⟩ := id C0
  intro h x0 x1 t0 H locs ls hw hh hS hl
  refine lv_aload_n hx hb d_Mod_waited_43 rfl (lv_at hl 0 rfl) ?_
  obtain ⟨fs77, r80, hr78, hk79, hw⟩ := hw
  refine h_get C0 hh hr78 hk79 rfl i_Mod (by decide) k_f_Mod_62 (fun _ h9 => h9) d_Mod_waited_44 ?_
  refine lv_iload_n hx hb d_Mod_waited_47 rfl (lv_at hl 1 rfl) ?_
  refine lv_iconst (v := 1) hx hb d_Mod_waited_48 (by decide) ?_
  refine lv_isub hx hb d_Mod_waited_49 ?_
  obtain ⟨n81, f82, hr83, hi84, hw⟩ := hw
  refine h_lald C0 hh hr83 hi84 rfl d_Mod_waited_50 ?_
  refine lv_lsub hx hb d_Mod_waited_51 ?_
  exact h_lret C0 hh hS rfl ⟨_, rfl, hw⟩ d_Mod_waited_52
set_option maxHeartbeats 4000000 in
set_option maxRecDepth 100000 in
theorem S_Mod_waited {l : Launch} {κ : hX} (Q : Int64 → hM → Prop) (h : hM) (x0 : Nat) (x1 : Int32) (hw : P_Mod_waited Q h x0 x1) : Met l y_Mod_waited [Cond.code y_Mod_waited b_Mod_waited 2 (some .long)] rm_Mod_waited (hPc κ w_cl w_tl w_tb [.ref x0, .int x1] h) (hQ κ w_cl (qJ Q)) 0 0 (h_A κ) := by
  refine h_enter w_TBm (by decide) (Nat.le_of_ble_eq_true rfl) ?_
  intro p e s m args below meth c C0 hnm hh hS ls hl
  obtain ⟨hx, hb, hml, hown, hts, hK, hF0, hrt, hlocks⟩ := id C0
  have hl : lv_has ls 2 [(0, .ref x0), (1, .int x1)] := hl
  refine lv_aload_n hx hb d_Mod_waited_0 rfl (lv_at hl 0 rfl) ?_
  refine lv_iconst (v := 0) hx hb d_Mod_waited_1 (by decide) ?_
  obtain ⟨fs85, hr86, hk87, hw⟩ := hw
  refine h_put C0 hh hS (v := .int (0 : Int32)) hr86 hk87 rfl i_Mod t_Mod t_Mod_ok n_Mod (by decide) k_f_Mod_69 (fun _ h9 => h9) rfl rfl rfl rfl d_Mod_waited_2 (fun H locs hh hS => ?_)
  obtain ⟨h88, eh88⟩ : ∃ z : hM, z = h_up h x0 (eO 6 (fs85.set 0 (.int (0 : Int32)))) := ⟨_, rfl⟩
  rw [← eh88] at hh
  have hw := hw h88 eh88
  refine lv_aload_n hx hb d_Mod_waited_5 rfl (lv_at hl 0 rfl) ?_
  refine lv_iload_n hx hb d_Mod_waited_6 rfl (lv_at hl 1 rfl) ?_
  obtain ⟨fs89, hr90, hw⟩ := hw
  refine h_callV (n := 1) C0 w_TBm hh hS hl.1 [.int x1] [] (S_Mod_isJob _ _ _ _ hw) hr90 rfl k_m_Mod_93 k_inst_Mod_isJob k_sel_Mod_isJob k_ini_Mod k_code_Mod_isJob (by decide +kernel) rfl rfl (Nat.le_of_ble_eq_true rfl) ⟨(Nat.le_of_ble_eq_true rfl), (Nat.le_of_ble_eq_true rfl)⟩ ⟨(Nat.le_of_ble_eq_true rfl), (Nat.le_of_ble_eq_true rfl)⟩ d_Mod_waited_7 (h_kI (k := 0) (n := 0) (Nat.le_of_ble_eq_true rfl) (Nat.le_of_ble_eq_true rfl) (fun i92 h91 H locs hw hh hS => ?_))
  refine lv_if_ne (tgt := 17) hx hb d_Mod_waited_10 (by decide) (fun c93 => ?_) (fun c93 => ?_)
  · have hw := hw.1 c93
    refine lv_aload_n hx hb d_Mod_waited_17 rfl (lv_at hl 0 rfl) ?_
    obtain ⟨fs94, r97, hr95, hk96, hw⟩ := hw
    refine h_get C0 hh hr95 hk96 rfl i_Mod (by decide) k_f_Mod_44 (fun _ h9 => h9) d_Mod_waited_18 ?_
    refine lv_iload_n hx hb d_Mod_waited_21 rfl (lv_at hl 1 rfl) ?_
    refine lv_iconst (v := 1) hx hb d_Mod_waited_22 (by decide) ?_
    refine lv_isub hx hb d_Mod_waited_23 ?_
    obtain ⟨n98, f99, hr100, hi101, hw⟩ := hw
    refine h_iald C0 hh hr100 hi101 rfl d_Mod_waited_24 ?_
    refine lv_if_ne (tgt := 35) hx hb d_Mod_waited_25 (by decide) (fun c102 => ?_) (fun c102 => ?_)
    · have hw := hw.1 c102
      refine lv_aload_n hx hb d_Mod_waited_35 rfl (lv_at hl 0 rfl) ?_
      obtain ⟨fs103, r106, hr104, hk105, hw⟩ := hw
      refine h_get C0 hh hr104 hk105 rfl i_Mod (by decide) k_f_Mod_66 (fun _ h9 => h9) d_Mod_waited_36 ?_
      refine lv_iload_n hx hb d_Mod_waited_39 rfl (lv_at hl 1 rfl) ?_
      refine lv_iconst (v := 1) hx hb d_Mod_waited_40 (by decide) ?_
      refine lv_isub hx hb d_Mod_waited_41 ?_
      obtain ⟨n107, f108, hr109, hi110, hw⟩ := hw
      refine h_lald C0 hh hr109 hi110 rfl d_Mod_waited_42 ?_
      exact S_Mod_waited_43 C0 _ _ _ _ _ _ _ hw hh hS (lv_sub hl [0, 1] rfl)
    · have hw := hw.2 c102
      refine lv_aload_n hx hb d_Mod_waited_28 rfl (lv_at hl 0 rfl) ?_
      obtain ⟨fs111, j114, hr112, hk113, hw⟩ := hw
      refine h_get C0 hh hr112 hk113 rfl i_Mod (by decide) k_f_Mod_89 (fun _ h9 => h9) d_Mod_waited_29 ?_
      refine lv_goto (tgt := 43) hx hb d_Mod_waited_32 (by decide) ?_
      exact S_Mod_waited_43 C0 _ _ _ _ _ _ _ hw hh hS (lv_sub hl [0, 1] rfl)
  · have hw := hw.2 c93
    refine lv_ldc2 (v := -1) hx hb hown (hts _ k_k_Mod_127) d_Mod_waited_13 ?_
    exact h_lret C0 hh hS rfl ⟨_, rfl, hw⟩ d_Mod_waited_16
set_option maxHeartbeats 4000000 in
set_option maxRecDepth 100000 in
theorem S_Mod_state {l : Launch} {κ : hX} (Q : Int32 → hM → Prop) (h : hM) (x0 : Nat) (x1 : Int32) (hw : P_Mod_state Q h x0 x1) : Met l y_Mod_state [Cond.code y_Mod_state b_Mod_state 2 (some .int)] rm_Mod_state (hPc κ w_cl w_tl w_tb [.ref x0, .int x1] h) (hQ κ w_cl (qI Q)) 0 0 (h_A κ) := by
  refine h_enter w_TBm (by decide) (Nat.le_of_ble_eq_true rfl) ?_
  intro p e s m args below meth c C0 hnm hh hS ls hl
  obtain ⟨hx, hb, hml, hown, hts, hK, hF0, hrt, hlocks⟩ := id C0
  have hl : lv_has ls 2 [(0, .ref x0), (1, .int x1)] := hl
  refine lv_aload_n hx hb d_Mod_state_0 rfl (lv_at hl 0 rfl) ?_
  refine lv_iconst (v := 0) hx hb d_Mod_state_1 (by decide) ?_
  obtain ⟨fs44, hr45, hk46, hw⟩ := hw
  refine h_put C0 hh hS (v := .int (0 : Int32)) hr45 hk46 rfl i_Mod t_Mod t_Mod_ok n_Mod (by decide) k_f_Mod_69 (fun _ h9 => h9) rfl rfl rfl rfl d_Mod_state_2 (fun H locs hh hS => ?_)
  obtain ⟨h47, eh47⟩ : ∃ z : hM, z = h_up h x0 (eO 6 (fs44.set 0 (.int (0 : Int32)))) := ⟨_, rfl⟩
  rw [← eh47] at hh
  have hw := hw h47 eh47
  refine lv_aload_n hx hb d_Mod_state_5 rfl (lv_at hl 0 rfl) ?_
  refine lv_iload_n hx hb d_Mod_state_6 rfl (lv_at hl 1 rfl) ?_
  obtain ⟨fs48, hr49, hw⟩ := hw
  refine h_callV (n := 1) C0 w_TBm hh hS hl.1 [.int x1] [] (S_Mod_isJob _ _ _ _ hw) hr49 rfl k_m_Mod_93 k_inst_Mod_isJob k_sel_Mod_isJob k_ini_Mod k_code_Mod_isJob (by decide +kernel) rfl rfl (Nat.le_of_ble_eq_true rfl) ⟨(Nat.le_of_ble_eq_true rfl), (Nat.le_of_ble_eq_true rfl)⟩ ⟨(Nat.le_of_ble_eq_true rfl), (Nat.le_of_ble_eq_true rfl)⟩ d_Mod_state_7 (h_kI (k := 0) (n := 0) (Nat.le_of_ble_eq_true rfl) (Nat.le_of_ble_eq_true rfl) (fun i51 h50 H locs hw hh hS => ?_))
  refine lv_if_ne (tgt := 15) hx hb d_Mod_state_10 (by decide) (fun c52 => ?_) (fun c52 => ?_)
  · have hw := hw.1 c52
    refine lv_aload_n hx hb d_Mod_state_15 rfl (lv_at hl 0 rfl) ?_
    obtain ⟨fs53, r56, hr54, hk55, hw⟩ := hw
    refine h_get C0 hh hr54 hk55 rfl i_Mod (by decide) k_f_Mod_44 (fun _ h9 => h9) d_Mod_state_16 ?_
    refine lv_iload_n hx hb d_Mod_state_19 rfl (lv_at hl 1 rfl) ?_
    refine lv_iconst (v := 1) hx hb d_Mod_state_20 (by decide) ?_
    refine lv_isub hx hb d_Mod_state_21 ?_
    obtain ⟨n57, f58, hr59, hi60, hw⟩ := hw
    refine h_iald C0 hh hr59 hi60 rfl d_Mod_state_22 ?_
    refine lv_if_ne (tgt := 41) hx hb d_Mod_state_23 (by decide) (fun c61 => ?_) (fun c61 => ?_)
    · have hw := hw.1 c61
      refine lv_aload_n hx hb d_Mod_state_41 rfl (lv_at hl 0 rfl) ?_
      obtain ⟨fs62, r65, hr63, hk64, hw⟩ := hw
      refine h_get C0 hh hr63 hk64 rfl i_Mod (by decide) k_f_Mod_44 (fun _ h9 => h9) d_Mod_state_42 ?_
      refine lv_iload_n hx hb d_Mod_state_45 rfl (lv_at hl 1 rfl) ?_
      refine lv_iconst (v := 1) hx hb d_Mod_state_46 (by decide) ?_
      refine lv_isub hx hb d_Mod_state_47 ?_
      obtain ⟨n66, f67, hr68, hi69, hw⟩ := hw
      refine h_iald C0 hh hr68 hi69 rfl d_Mod_state_48 ?_
      exact h_iret C0 hh hS rfl rfl ⟨_, rfl, hw⟩ d_Mod_state_49
    · have hw := hw.2 c61
      refine lv_aload_n hx hb d_Mod_state_26 rfl (lv_at hl 0 rfl) ?_
      obtain ⟨fs70, r73, hr71, hk72, hw⟩ := hw
      refine h_get C0 hh hr71 hk72 rfl i_Mod (by decide) k_f_Mod_50 (fun _ h9 => h9) d_Mod_state_27 ?_
      refine lv_iload_n hx hb d_Mod_state_30 rfl (lv_at hl 1 rfl) ?_
      refine lv_iconst (v := 1) hx hb d_Mod_state_31 (by decide) ?_
      refine lv_isub hx hb d_Mod_state_32 ?_
      obtain ⟨n74, f75, hr76, hi77, hw⟩ := hw
      refine h_zald C0 hh hr76 hi77 rfl d_Mod_state_33 ?_
      refine lv_if_eq (tgt := 41) hx hb d_Mod_state_34 (by decide) (fun c78 => ?_) (fun c78 => ?_)
      · have hw := hw.1 c78
        refine lv_aload_n hx hb d_Mod_state_41 rfl (lv_at hl 0 rfl) ?_
        obtain ⟨fs79, r82, hr80, hk81, hw⟩ := hw
        refine h_get C0 hh hr80 hk81 rfl i_Mod (by decide) k_f_Mod_44 (fun _ h9 => h9) d_Mod_state_42 ?_
        refine lv_iload_n hx hb d_Mod_state_45 rfl (lv_at hl 1 rfl) ?_
        refine lv_iconst (v := 1) hx hb d_Mod_state_46 (by decide) ?_
        refine lv_isub hx hb d_Mod_state_47 ?_
        obtain ⟨n83, f84, hr85, hi86, hw⟩ := hw
        refine h_iald C0 hh hr85 hi86 rfl d_Mod_state_48 ?_
        exact h_iret C0 hh hS rfl rfl ⟨_, rfl, hw⟩ d_Mod_state_49
      · have hw := hw.2 c78
        refine lv_iconst (v := 1) hx hb d_Mod_state_37 (by decide) ?_
        refine lv_goto (tgt := 49) hx hb d_Mod_state_38 (by decide) ?_
        exact h_iret C0 hh hS rfl rfl ⟨_, rfl, hw⟩ d_Mod_state_49
  · have hw := hw.2 c52
    refine lv_iconst (v := -1) hx hb d_Mod_state_13 (by decide) ?_
    exact h_iret C0 hh hS rfl rfl ⟨_, rfl, hw⟩ d_Mod_state_14
set_option maxHeartbeats 4000000 in
set_option maxRecDepth 100000 in
theorem S_Mod_those_45 {p : Program} {l : Launch} {e : Env} {s : State} {m : MethodId} {args : Array Value} {below : List Frame} {meth : Method} {c : Code} {κ : hX} {Q : Int32 → hM → Prop} {K5 : hM → Nat → Int32 → Int32 → Int32 → Int32 → Prop} (C0 : Cw κ w_cl w_tl w_tb p s m args meth c b_Mod_those 5 R_Mod (some .int)) (hK5 : ∀ (h : hM) (x0 : Nat) (x1 : Int32) (x2 : Int32) (x3 : Int32) (x4 : Int32) (H : Heap) (locs : List Loc) (ls : Array Slot), K5 h x0 x1 x2 x3 x4 → hp κ w_cl h H → va_S (h_A κ) s.heap H locs → lv_has ls 5 [(0, .ref x0), (1, .int x1), (2, .int x2), (3, .int x3), (4, .int x4)] → W p l e rm_Mod_those s m args below meth c H locs 0 0 (MQ below (hQ κ w_cl (qI Q)) args s 0 0 (h_A κ)) (F0 m 5 ls [])) : ∀ (h : hM) (x0 : Nat) (x1 : Int32) (x2 : Int32) (x4 : Int32) (t0 : Int32) (t1 : Int32) (H : Heap) (locs : List Loc) (ls : Array Slot), P_Mod_those_45 Q K5 h x0 x1 x2 x4 t0 t1 → hp κ w_cl h H → va_S (h_A κ) s.heap H locs → lv_has ls 5 [(0, .ref x0), (1, .int x1), (2, .int x2), (4, .int x4)] → W p l e rm_Mod_those s m args below meth c H locs 0 0 (MQ below (hQ κ w_cl (qI Q)) args s 0 0 (h_A κ)) (F0 m 45 ls [.int t0, .int t1]) := by
  obtain ⟨hx, hb, hml, hown, hts, hK, hF0, hrt, hlocks⟩ := id C0
  intro h x0 x1 x2 x4 t0 t1 H locs ls hw hh hS hl
  refine lv_iadd hx hb d_Mod_those_45 ?_
  refine lv_topi (fun x3_53 ex3_53 => ?_)
  have hw := hw x3_53 ex3_53
  refine lv_istore_n (lv' := [(3, .int x3_53), (0, .ref x0), (1, .int x1), (2, .int x2), (4, .int x4)]) hx hb d_Mod_those_46 rfl hl (by decide) rfl (fun ls hl => ?_)
  obtain ⟨x4_54, ex4_54⟩ : ∃ z : Int32, z = x4 + 1 := ⟨_, rfl⟩
  have hw := hw x4_54 ex4_54
  refine lv_iinc (v := x4_54) (lv' := [(4, .int x4_54), (3, .int x3_53), (0, .ref x0), (1, .int x1), (2, .int x2)]) hx hb d_Mod_those_47 hl (k := 4) rfl (by rw [ex4_54]; rfl) (by decide) rfl (fun ls hl => ?_)
  refine lv_goto (tgt := 5) hx hb d_Mod_those_50 (by decide) ?_
  exact hK5 _ _ _ _ _ _ _ _ _ hw hh hS (lv_sub hl [2, 3, 4, 1, 0] rfl)
set_option maxHeartbeats 4000000 in
set_option maxRecDepth 100000 in
theorem S_Mod_those_40 {p : Program} {l : Launch} {e : Env} {s : State} {m : MethodId} {args : Array Value} {below : List Frame} {meth : Method} {c : Code} {κ : hX} {Q : Int32 → hM → Prop} {K5 : hM → Nat → Int32 → Int32 → Int32 → Int32 → Prop} (C0 : Cw κ w_cl w_tl w_tb p s m args meth c b_Mod_those 5 R_Mod (some .int)) (hK5 : ∀ (h : hM) (x0 : Nat) (x1 : Int32) (x2 : Int32) (x3 : Int32) (x4 : Int32) (H : Heap) (locs : List Loc) (ls : Array Slot), K5 h x0 x1 x2 x3 x4 → hp κ w_cl h H → va_S (h_A κ) s.heap H locs → lv_has ls 5 [(0, .ref x0), (1, .int x1), (2, .int x2), (3, .int x3), (4, .int x4)] → W p l e rm_Mod_those s m args below meth c H locs 0 0 (MQ below (hQ κ w_cl (qI Q)) args s 0 0 (h_A κ)) (F0 m 5 ls [])) : ∀ (h : hM) (x0 : Nat) (x1 : Int32) (x2 : Int32) (x4 : Int32) (t0 : Int32) (H : Heap) (locs : List Loc) (ls : Array Slot), P_Mod_those_40 Q K5 h x0 x1 x2 x4 t0 → hp κ w_cl h H → va_S (h_A κ) s.heap H locs → lv_has ls 5 [(0, .ref x0), (1, .int x1), (2, .int x2), (4, .int x4)] → W p l e rm_Mod_those s m args below meth c H locs 0 0 (MQ below (hQ κ w_cl (qI Q)) args s 0 0 (h_A κ)) (F0 m 40 ls [.int t0]) := by
  obtain ⟨hx, hb, hml, hown, hts, hK, hF0, hrt, hlocks⟩ := id C0
  intro h x0 x1 x2 x4 t0 H locs ls hw hh hS hl
  refine lv_iconst (v := 1) hx hb d_Mod_those_40 (by decide) ?_
  refine lv_goto (tgt := 45) hx hb d_Mod_those_41 (by decide) ?_
  exact S_Mod_those_45 C0 hK5 _ _ _ _ _ _ _ _ _ _ hw hh hS (lv_sub hl [0, 1, 2, 3] rfl)
set_option maxHeartbeats 4000000 in
set_option maxRecDepth 100000 in
theorem S_Mod_those_44 {p : Program} {l : Launch} {e : Env} {s : State} {m : MethodId} {args : Array Value} {below : List Frame} {meth : Method} {c : Code} {κ : hX} {Q : Int32 → hM → Prop} {K5 : hM → Nat → Int32 → Int32 → Int32 → Int32 → Prop} (C0 : Cw κ w_cl w_tl w_tb p s m args meth c b_Mod_those 5 R_Mod (some .int)) (hK5 : ∀ (h : hM) (x0 : Nat) (x1 : Int32) (x2 : Int32) (x3 : Int32) (x4 : Int32) (H : Heap) (locs : List Loc) (ls : Array Slot), K5 h x0 x1 x2 x3 x4 → hp κ w_cl h H → va_S (h_A κ) s.heap H locs → lv_has ls 5 [(0, .ref x0), (1, .int x1), (2, .int x2), (3, .int x3), (4, .int x4)] → W p l e rm_Mod_those s m args below meth c H locs 0 0 (MQ below (hQ κ w_cl (qI Q)) args s 0 0 (h_A κ)) (F0 m 5 ls [])) : ∀ (h : hM) (x0 : Nat) (x1 : Int32) (x2 : Int32) (x4 : Int32) (t0 : Int32) (H : Heap) (locs : List Loc) (ls : Array Slot), P_Mod_those_44 Q K5 h x0 x1 x2 x4 t0 → hp κ w_cl h H → va_S (h_A κ) s.heap H locs → lv_has ls 5 [(0, .ref x0), (1, .int x1), (2, .int x2), (4, .int x4)] → W p l e rm_Mod_those s m args below meth c H locs 0 0 (MQ below (hQ κ w_cl (qI Q)) args s 0 0 (h_A κ)) (F0 m 44 ls [.int t0]) := by
  obtain ⟨hx, hb, hml, hown, hts, hK, hF0, hrt, hlocks⟩ := id C0
  intro h x0 x1 x2 x4 t0 H locs ls hw hh hS hl
  refine lv_iconst (v := 0) hx hb d_Mod_those_44 (by decide) ?_
  exact S_Mod_those_45 C0 hK5 _ _ _ _ _ _ _ _ _ _ hw hh hS (lv_sub hl [0, 1, 2, 3] rfl)
set_option maxHeartbeats 4000000 in
set_option maxRecDepth 100000 in
theorem S_Mod_those_5 {p : Program} {l : Launch} {e : Env} {s : State} {m : MethodId} {args : Array Value} {below : List Frame} {meth : Method} {c : Code} {κ : hX} {Q : Int32 → hM → Prop} (C0 : Cw κ w_cl w_tl w_tb p s m args meth c b_Mod_those 5 R_Mod (some .int)) : ∀ (n : Nat) (h : hM) (x0 : Nat) (x1 : Int32) (x2 : Int32) (x3 : Int32) (x4 : Int32) (H : Heap) (locs : List Loc) (ls : Array Slot), L_Mod_those_5 Q n h x0 x1 x2 x3 x4 → hp κ w_cl h H → va_S (h_A κ) s.heap H locs → lv_has ls 5 [(0, .ref x0), (1, .int x1), (2, .int x2), (3, .int x3), (4, .int x4)] → W p l e rm_Mod_those s m args below meth c H locs 0 0 (MQ below (hQ κ w_cl (qI Q)) args s 0 0 (h_A κ)) (F0 m 5 ls []) := by
  obtain ⟨hx, hb, hml, hown, hts, hK, hF0, hrt, hlocks⟩ := id C0
  intro n
  induction n with
  | zero =>
    intro h x0 x1 x2 x3 x4 H locs ls hw
    exact hw.elim
  | succ n hK5 =>
    intro h x0 x1 x2 x3 x4 H locs ls hw hh hS hl
    have hw : P_Mod_those_5 Q (L_Mod_those_5 Q n) h x0 x1 x2 x3 x4 := hw
    refine lv_iload hx hb d_Mod_those_5 (lv_at hl 4 rfl) ?_
    refine lv_aload_n hx hb d_Mod_those_7 rfl (lv_at hl 0 rfl) ?_
    obtain ⟨fs55, i58, hr56, hk57, hw⟩ := hw
    refine h_get C0 hh hr56 hk57 rfl i_Mod (by decide) k_f_Mod_76 (fun _ h9 => h9) d_Mod_those_8 ?_
    refine lv_icmp_ge (tgt := 53) hx hb d_Mod_those_11 (by decide) (fun c59 => ?_) (fun c59 => ?_)
    · have hw := hw.1 c59
      refine lv_iload_n hx hb d_Mod_those_53 rfl (lv_at hl 3 rfl) ?_
      exact h_iret C0 hh hS rfl rfl ⟨_, rfl, hw⟩ d_Mod_those_54
    · have hw := hw.2 c59
      refine lv_iload_n hx hb d_Mod_those_14 rfl (lv_at hl 3 rfl) ?_
      refine lv_aload_n hx hb d_Mod_those_15 rfl (lv_at hl 0 rfl) ?_
      obtain ⟨fs60, r63, hr61, hk62, hw⟩ := hw
      refine h_get C0 hh hr61 hk62 rfl i_Mod (by decide) k_f_Mod_44 (fun _ h9 => h9) d_Mod_those_16 ?_
      refine lv_iload hx hb d_Mod_those_19 (lv_at hl 4 rfl) ?_
      obtain ⟨n64, f65, hr66, hi67, hw⟩ := hw
      refine h_iald C0 hh hr66 hi67 rfl d_Mod_those_21 ?_
      refine lv_iload_n hx hb d_Mod_those_22 rfl (lv_at hl 1 rfl) ?_
      refine lv_icmp_ne (tgt := 44) hx hb d_Mod_those_23 (by decide) (fun c68 => ?_) (fun c68 => ?_)
      · have hw := hw.1 c68
        exact S_Mod_those_44 C0 hK5 _ _ _ _ _ _ _ _ _ hw hh hS (lv_sub hl [0, 1, 2, 4] rfl)
      · have hw := hw.2 c68
        refine lv_iload_n hx hb d_Mod_those_26 rfl (lv_at hl 2 rfl) ?_
        refine lv_if_ne (tgt := 40) hx hb d_Mod_those_27 (by decide) (fun c69 => ?_) (fun c69 => ?_)
        · have hw := hw.1 c69
          exact S_Mod_those_40 C0 hK5 _ _ _ _ _ _ _ _ _ hw hh hS (lv_sub hl [0, 1, 2, 4] rfl)
        · have hw := hw.2 c69
          refine lv_aload_n hx hb d_Mod_those_30 rfl (lv_at hl 0 rfl) ?_
          obtain ⟨fs70, r73, hr71, hk72, hw⟩ := hw
          refine h_get C0 hh hr71 hk72 rfl i_Mod (by decide) k_f_Mod_50 (fun _ h9 => h9) d_Mod_those_31 ?_
          refine lv_iload hx hb d_Mod_those_34 (lv_at hl 4 rfl) ?_
          obtain ⟨n74, f75, hr76, hi77, hw⟩ := hw
          refine h_zald C0 hh hr76 hi77 rfl d_Mod_those_36 ?_
          refine lv_if_eq (tgt := 44) hx hb d_Mod_those_37 (by decide) (fun c78 => ?_) (fun c78 => ?_)
          · have hw := hw.1 c78
            exact S_Mod_those_44 C0 hK5 _ _ _ _ _ _ _ _ _ hw hh hS (lv_sub hl [0, 1, 2, 4] rfl)
          · have hw := hw.2 c78
            exact S_Mod_those_40 C0 hK5 _ _ _ _ _ _ _ _ _ hw hh hS (lv_sub hl [0, 1, 2, 4] rfl)
set_option maxHeartbeats 4000000 in
set_option maxRecDepth 100000 in
theorem S_Mod_those {l : Launch} {κ : hX} (Q : Int32 → hM → Prop) (h : hM) (x0 : Nat) (x1 : Int32) (x2 : Int32) (hw : P_Mod_those Q h x0 x1 x2) : Met l y_Mod_those [Cond.code y_Mod_those b_Mod_those 5 (some .int)] rm_Mod_those (hPc κ w_cl w_tl w_tb [.ref x0, .int x1, .int x2] h) (hQ κ w_cl (qI Q)) 0 0 (h_A κ) := by
  refine h_enter w_TBm (by decide) (Nat.le_of_ble_eq_true rfl) ?_
  intro p e s m args below meth c C0 hnm hh hS ls hl
  obtain ⟨hx, hb, hml, hown, hts, hK, hF0, hrt, hlocks⟩ := id C0
  have hl : lv_has ls 5 [(0, .ref x0), (1, .int x1), (2, .int x2)] := hl
  refine lv_iconst (v := 0) hx hb d_Mod_those_0 (by decide) ?_
  refine lv_istore_n (lv' := [(3, .int (0 : Int32)), (0, .ref x0), (1, .int x1), (2, .int x2)]) hx hb d_Mod_those_1 rfl hl (by decide) rfl (fun ls hl => ?_)
  refine lv_iconst (v := 0) hx hb d_Mod_those_2 (by decide) ?_
  refine lv_istore (lv' := [(4, .int (0 : Int32)), (3, .int (0 : Int32)), (0, .ref x0), (1, .int x1), (2, .int x2)]) hx hb d_Mod_those_3 hl (by decide) rfl (fun ls hl => ?_)
  obtain ⟨n0, hw⟩ := hw
  exact S_Mod_those_5 C0 n0 _ _ _ _ _ _ _ _ _ hw hh hS (lv_sub hl [2, 3, 4, 1, 0] rfl)
set_option maxHeartbeats 4000000 in
set_option maxRecDepth 100000 in
theorem S_Mod_count_144 {p : Program} {l : Launch} {e : Env} {s : State} {m : MethodId} {args : Array Value} {below : List Frame} {meth : Method} {c : Code} {κ : hX} {Q : Int32 → hM → Prop} {K111 : hM → Nat → Int32 → Int32 → Prop} (C0 : Cw κ w_cl w_tl w_tb p s m args meth c b_Mod_count 4 R_Mod (some .int)) (hK111 : ∀ (h : hM) (x0 : Nat) (x2 : Int32) (x3 : Int32) (H : Heap) (locs : List Loc) (ls : Array Slot), K111 h x0 x2 x3 → hp κ w_cl h H → va_S (h_A κ) s.heap H locs → lv_has ls 4 [(0, .ref x0), (2, .int x2), (3, .int x3)] → W p l e rm_Mod_count s m args below meth c H locs 0 0 (MQ below (hQ κ w_cl (qI Q)) args s 0 0 (h_A κ)) (F0 m 111 ls [])) : ∀ (h : hM) (x0 : Nat) (x3 : Int32) (t0 : Int32) (t1 : Int32) (H : Heap) (locs : List Loc) (ls : Array Slot), P_Mod_count_144 Q K111 h x0 x3 t0 t1 → hp κ w_cl h H → va_S (h_A κ) s.heap H locs → lv_has ls 4 [(0, .ref x0), (3, .int x3)] → W p l e rm_Mod_count s m args below meth c H locs 0 0 (MQ below (hQ κ w_cl (qI Q)) args s 0 0 (h_A κ)) (F0 m 144 ls [.int t0, .int t1]) := by
  obtain ⟨hx, hb, hml, hown, hts, hK, hF0, hrt, hlocks⟩ := id C0
  intro h x0 x3 t0 t1 H locs ls hw hh hS hl
  refine lv_iadd hx hb d_Mod_count_144 ?_
  refine lv_topi (fun x2_159 ex2_159 => ?_)
  have hw := hw x2_159 ex2_159
  refine lv_istore_n (lv' := [(2, .int x2_159), (0, .ref x0), (3, .int x3)]) hx hb d_Mod_count_145 rfl hl (by decide) rfl (fun ls hl => ?_)
  obtain ⟨x3_160, ex3_160⟩ : ∃ z : Int32, z = x3 + 1 := ⟨_, rfl⟩
  have hw := hw x3_160 ex3_160
  refine lv_iinc (v := x3_160) (lv' := [(3, .int x3_160), (2, .int x2_159), (0, .ref x0)]) hx hb d_Mod_count_146 hl (k := 2) rfl (by rw [ex3_160]; rfl) (by decide) rfl (fun ls hl => ?_)
  refine lv_goto (tgt := 111) hx hb d_Mod_count_149 (by decide) ?_
  exact hK111 _ _ _ _ _ _ _ hw hh hS (lv_sub hl [2, 1, 0] rfl)
set_option maxHeartbeats 4000000 in
set_option maxRecDepth 100000 in
theorem S_Mod_count_143 {p : Program} {l : Launch} {e : Env} {s : State} {m : MethodId} {args : Array Value} {below : List Frame} {meth : Method} {c : Code} {κ : hX} {Q : Int32 → hM → Prop} {K111 : hM → Nat → Int32 → Int32 → Prop} (C0 : Cw κ w_cl w_tl w_tb p s m args meth c b_Mod_count 4 R_Mod (some .int)) (hK111 : ∀ (h : hM) (x0 : Nat) (x2 : Int32) (x3 : Int32) (H : Heap) (locs : List Loc) (ls : Array Slot), K111 h x0 x2 x3 → hp κ w_cl h H → va_S (h_A κ) s.heap H locs → lv_has ls 4 [(0, .ref x0), (2, .int x2), (3, .int x3)] → W p l e rm_Mod_count s m args below meth c H locs 0 0 (MQ below (hQ κ w_cl (qI Q)) args s 0 0 (h_A κ)) (F0 m 111 ls [])) : ∀ (h : hM) (x0 : Nat) (x3 : Int32) (t0 : Int32) (H : Heap) (locs : List Loc) (ls : Array Slot), P_Mod_count_143 Q K111 h x0 x3 t0 → hp κ w_cl h H → va_S (h_A κ) s.heap H locs → lv_has ls 4 [(0, .ref x0), (3, .int x3)] → W p l e rm_Mod_count s m args below meth c H locs 0 0 (MQ below (hQ κ w_cl (qI Q)) args s 0 0 (h_A κ)) (F0 m 143 ls [.int t0]) := by
  obtain ⟨hx, hb, hml, hown, hts, hK, hF0, hrt, hlocks⟩ := id C0
  intro h x0 x3 t0 H locs ls hw hh hS hl
  refine lv_iconst (v := 0) hx hb d_Mod_count_143 (by decide) ?_
  exact S_Mod_count_144 C0 hK111 _ _ _ _ _ _ _ _ hw hh hS (lv_sub hl [0, 1] rfl)
set_option maxHeartbeats 4000000 in
set_option maxRecDepth 100000 in
theorem S_Mod_count_111 {p : Program} {l : Launch} {e : Env} {s : State} {m : MethodId} {args : Array Value} {below : List Frame} {meth : Method} {c : Code} {κ : hX} {Q : Int32 → hM → Prop} (C0 : Cw κ w_cl w_tl w_tb p s m args meth c b_Mod_count 4 R_Mod (some .int)) : ∀ (n : Nat) (h : hM) (x0 : Nat) (x2 : Int32) (x3 : Int32) (H : Heap) (locs : List Loc) (ls : Array Slot), L_Mod_count_111 Q n h x0 x2 x3 → hp κ w_cl h H → va_S (h_A κ) s.heap H locs → lv_has ls 4 [(0, .ref x0), (2, .int x2), (3, .int x3)] → W p l e rm_Mod_count s m args below meth c H locs 0 0 (MQ below (hQ κ w_cl (qI Q)) args s 0 0 (h_A κ)) (F0 m 111 ls []) := by
  obtain ⟨hx, hb, hml, hown, hts, hK, hF0, hrt, hlocks⟩ := id C0
  intro n
  induction n with
  | zero =>
    intro h x0 x2 x3 H locs ls hw
    exact hw.elim
  | succ n hK111 =>
    intro h x0 x2 x3 H locs ls hw hh hS hl
    have hw : P_Mod_count_111 Q (L_Mod_count_111 Q n) h x0 x2 x3 := hw
    refine lv_iload_n hx hb d_Mod_count_111 rfl (lv_at hl 2 rfl) ?_
    refine lv_aload_n hx hb d_Mod_count_112 rfl (lv_at hl 0 rfl) ?_
    obtain ⟨fs161, i164, hr162, hk163, hw⟩ := hw
    refine h_get C0 hh hr162 hk163 rfl i_Mod (by decide) k_f_Mod_73 (fun _ h9 => h9) d_Mod_count_113 ?_
    refine lv_icmp_ge (tgt := 152) hx hb d_Mod_count_116 (by decide) (fun c165 => ?_) (fun c165 => ?_)
    · have hw := hw.1 c165
      refine lv_iload_n hx hb d_Mod_count_152 rfl (lv_at hl 1 rfl) ?_
      exact h_iret C0 hh hS rfl rfl ⟨_, rfl, hw⟩ d_Mod_count_153
    · have hw := hw.2 c165
      refine lv_iload_n hx hb d_Mod_count_119 rfl (lv_at hl 1 rfl) ?_
      refine lv_aload_n hx hb d_Mod_count_120 rfl (lv_at hl 0 rfl) ?_
      obtain ⟨fs166, r169, hr167, hk168, hw⟩ := hw
      refine h_get C0 hh hr167 hk168 rfl i_Mod (by decide) k_f_Mod_16 (fun _ h9 => h9) d_Mod_count_121 ?_
      refine lv_iload_n hx hb d_Mod_count_124 rfl (lv_at hl 2 rfl) ?_
      obtain ⟨n170, f171, hr172, hi173, hw⟩ := hw
      refine h_zald C0 hh hr172 hi173 rfl d_Mod_count_125 ?_
      refine lv_if_eq (tgt := 143) hx hb d_Mod_count_126 (by decide) (fun c174 => ?_) (fun c174 => ?_)
      · have hw := hw.1 c174
        exact S_Mod_count_143 C0 hK111 _ _ _ _ _ _ _ hw hh hS (lv_sub hl [0, 2] rfl)
      · have hw := hw.2 c174
        refine lv_aload_n hx hb d_Mod_count_129 rfl (lv_at hl 0 rfl) ?_
        obtain ⟨fs175, r178, hr176, hk177, hw⟩ := hw
        refine h_get C0 hh hr176 hk177 rfl i_Mod (by decide) k_f_Mod_13 (fun _ h9 => h9) d_Mod_count_130 ?_
        refine lv_iload_n hx hb d_Mod_count_133 rfl (lv_at hl 2 rfl) ?_
        obtain ⟨n179, f180, hr181, hi182, hw⟩ := hw
        refine h_iald C0 hh hr181 hi182 rfl d_Mod_count_134 ?_
        refine lv_iconst (v := -1) hx hb d_Mod_count_135 (by decide) ?_
        refine lv_icmp_ne (tgt := 143) hx hb d_Mod_count_136 (by decide) (fun c183 => ?_) (fun c183 => ?_)
        · have hw := hw.1 c183
          exact S_Mod_count_143 C0 hK111 _ _ _ _ _ _ _ hw hh hS (lv_sub hl [0, 2] rfl)
        · have hw := hw.2 c183
          refine lv_iconst (v := 1) hx hb d_Mod_count_139 (by decide) ?_
          refine lv_goto (tgt := 144) hx hb d_Mod_count_140 (by decide) ?_
          exact S_Mod_count_144 C0 hK111 _ _ _ _ _ _ _ _ hw hh hS (lv_sub hl [0, 2] rfl)
set_option maxHeartbeats 4000000 in
set_option maxRecDepth 100000 in
theorem S_Mod_count {l : Launch} {κ : hX} (Q : Int32 → hM → Prop) (h : hM) (x0 : Nat) (x1 : Int32) (hw : P_Mod_count Q h x0 x1) : Met l y_Mod_count [Cond.code y_Mod_count b_Mod_count 4 (some .int)] rm_Mod_count (hPc κ w_cl w_tl w_tb [.ref x0, .int x1] h) (hQ κ w_cl (qI Q)) 0 0 (h_A κ) := by
  refine h_enter w_TBm (by decide) (Nat.le_of_ble_eq_true rfl) ?_
  intro p e s m args below meth c C0 hnm hh hS ls hl
  obtain ⟨hx, hb, hml, hown, hts, hK, hF0, hrt, hlocks⟩ := id C0
  have hl : lv_has ls 4 [(0, .ref x0), (1, .int x1)] := hl
  refine lv_aload_n hx hb d_Mod_count_0 rfl (lv_at hl 0 rfl) ?_
  refine lv_iconst (v := 0) hx hb d_Mod_count_1 (by decide) ?_
  obtain ⟨fs184, hr185, hk186, hw⟩ := hw
  refine h_put C0 hh hS (v := .int (0 : Int32)) hr185 hk186 rfl i_Mod t_Mod t_Mod_ok n_Mod (by decide) k_f_Mod_69 (fun _ h9 => h9) rfl rfl rfl rfl d_Mod_count_2 (fun H locs hh hS => ?_)
  obtain ⟨h187, eh187⟩ : ∃ z : hM, z = h_up h x0 (eO 6 (fs184.set 0 (.int (0 : Int32)))) := ⟨_, rfl⟩
  rw [← eh187] at hh
  have hw := hw h187 eh187
  refine lv_iload_n hx hb d_Mod_count_5 rfl (lv_at hl 1 rfl) ?_
  by_cases c192 : x1 = 0
  · have hw := hw.1 c192
    refine lv_tableIn (tgt := 76) hx hb d_Mod_count_6 (by rw [c192]; decide) (by rw [c192]; decide) (by rw [c192]; rfl) (by decide) ?_
    refine lv_aload_n hx hb d_Mod_count_76 rfl (lv_at hl 0 rfl) ?_
    obtain ⟨fs188, i191, hr189, hk190, hw⟩ := hw
    refine h_get C0 hh hr189 hk190 rfl i_Mod (by decide) k_f_Mod_73 (fun _ h9 => h9) d_Mod_count_77 ?_
    exact h_iret C0 hh hS rfl rfl ⟨_, rfl, hw⟩ d_Mod_count_80
  by_cases c197 : x1 = 1
  · have hw := hw.2.1 c197
    refine lv_tableIn (tgt := 81) hx hb d_Mod_count_6 (by rw [c197]; decide) (by rw [c197]; decide) (by rw [c197]; rfl) (by decide) ?_
    refine lv_aload_n hx hb d_Mod_count_81 rfl (lv_at hl 0 rfl) ?_
    obtain ⟨fs193, i196, hr194, hk195, hw⟩ := hw
    refine h_get C0 hh hr194 hk195 rfl i_Mod (by decide) k_f_Mod_76 (fun _ h9 => h9) d_Mod_count_82 ?_
    exact h_iret C0 hh hS rfl rfl ⟨_, rfl, hw⟩ d_Mod_count_85
  by_cases c202 : x1 = 2
  · have hw := hw.2.2.1 c202
    refine lv_tableIn (tgt := 86) hx hb d_Mod_count_6 (by rw [c202]; decide) (by rw [c202]; decide) (by rw [c202]; rfl) (by decide) ?_
    refine lv_aload_n hx hb d_Mod_count_86 rfl (lv_at hl 0 rfl) ?_
    refine lv_iconst (v := 0) hx hb d_Mod_count_87 (by decide) ?_
    refine lv_iconst (v := 1) hx hb d_Mod_count_88 (by decide) ?_
    obtain ⟨fs198, hr199, hw⟩ := hw
    refine h_callV (n := 2) C0 w_TBm hh hS hl.1 [.int (0 : Int32), .int (1 : Int32)] [] (S_Mod_those _ _ _ _ _ hw) hr199 rfl k_m_Mod_129 k_inst_Mod_those k_sel_Mod_those k_ini_Mod k_code_Mod_those (by decide +kernel) rfl rfl (Nat.le_of_ble_eq_true rfl) ⟨(Nat.le_of_ble_eq_true rfl), (Nat.le_of_ble_eq_true rfl)⟩ ⟨(Nat.le_of_ble_eq_true rfl), (Nat.le_of_ble_eq_true rfl)⟩ d_Mod_count_89 (h_kI (k := 0) (n := 0) (Nat.le_of_ble_eq_true rfl) (Nat.le_of_ble_eq_true rfl) (fun i201 h200 H locs hw hh hS => ?_))
    exact h_iret C0 hh hS rfl rfl ⟨_, rfl, hw⟩ d_Mod_count_92
  by_cases c207 : x1 = 3
  · have hw := hw.2.2.2.1 c207
    refine lv_tableIn (tgt := 93) hx hb d_Mod_count_6 (by rw [c207]; decide) (by rw [c207]; decide) (by rw [c207]; rfl) (by decide) ?_
    refine lv_aload_n hx hb d_Mod_count_93 rfl (lv_at hl 0 rfl) ?_
    refine lv_iconst (v := 0) hx hb d_Mod_count_94 (by decide) ?_
    refine lv_iconst (v := 0) hx hb d_Mod_count_95 (by decide) ?_
    obtain ⟨fs203, hr204, hw⟩ := hw
    refine h_callV (n := 2) C0 w_TBm hh hS hl.1 [.int (0 : Int32), .int (0 : Int32)] [] (S_Mod_those _ _ _ _ _ hw) hr204 rfl k_m_Mod_129 k_inst_Mod_those k_sel_Mod_those k_ini_Mod k_code_Mod_those (by decide +kernel) rfl rfl (Nat.le_of_ble_eq_true rfl) ⟨(Nat.le_of_ble_eq_true rfl), (Nat.le_of_ble_eq_true rfl)⟩ ⟨(Nat.le_of_ble_eq_true rfl), (Nat.le_of_ble_eq_true rfl)⟩ d_Mod_count_96 (h_kI (k := 0) (n := 0) (Nat.le_of_ble_eq_true rfl) (Nat.le_of_ble_eq_true rfl) (fun i206 h205 H locs hw hh hS => ?_))
    exact h_iret C0 hh hS rfl rfl ⟨_, rfl, hw⟩ d_Mod_count_99
  by_cases c212 : x1 = 4
  · have hw := hw.2.2.2.2.1 c212
    refine lv_tableIn (tgt := 100) hx hb d_Mod_count_6 (by rw [c212]; decide) (by rw [c212]; decide) (by rw [c212]; rfl) (by decide) ?_
    refine lv_aload_n hx hb d_Mod_count_100 rfl (lv_at hl 0 rfl) ?_
    refine lv_iconst (v := 2) hx hb d_Mod_count_101 (by decide) ?_
    refine lv_iconst (v := 1) hx hb d_Mod_count_102 (by decide) ?_
    obtain ⟨fs208, hr209, hw⟩ := hw
    refine h_callV (n := 2) C0 w_TBm hh hS hl.1 [.int (2 : Int32), .int (1 : Int32)] [] (S_Mod_those _ _ _ _ _ hw) hr209 rfl k_m_Mod_129 k_inst_Mod_those k_sel_Mod_those k_ini_Mod k_code_Mod_those (by decide +kernel) rfl rfl (Nat.le_of_ble_eq_true rfl) ⟨(Nat.le_of_ble_eq_true rfl), (Nat.le_of_ble_eq_true rfl)⟩ ⟨(Nat.le_of_ble_eq_true rfl), (Nat.le_of_ble_eq_true rfl)⟩ d_Mod_count_103 (h_kI (k := 0) (n := 0) (Nat.le_of_ble_eq_true rfl) (Nat.le_of_ble_eq_true rfl) (fun i211 h210 H locs hw hh hS => ?_))
    exact h_iret C0 hh hS rfl rfl ⟨_, rfl, hw⟩ d_Mod_count_106
  by_cases c213 : x1 = 5
  · have hw := hw.2.2.2.2.2.1 c213
    refine lv_tableIn (tgt := 107) hx hb d_Mod_count_6 (by rw [c213]; decide) (by rw [c213]; decide) (by rw [c213]; rfl) (by decide) ?_
    refine lv_iconst (v := 0) hx hb d_Mod_count_107 (by decide) ?_
    refine lv_istore_n (lv' := [(2, .int (0 : Int32)), (0, .ref x0), (1, .int x1)]) hx hb d_Mod_count_108 rfl hl (by decide) rfl (fun ls hl => ?_)
    refine lv_iconst (v := 0) hx hb d_Mod_count_109 (by decide) ?_
    refine lv_istore_n (lv' := [(3, .int (0 : Int32)), (2, .int (0 : Int32)), (0, .ref x0), (1, .int x1)]) hx hb d_Mod_count_110 rfl hl (by decide) rfl (fun ls hl => ?_)
    obtain ⟨n0, hw⟩ := hw
    exact S_Mod_count_111 C0 n0 _ _ _ _ _ _ _ hw hh hS (lv_sub hl [2, 1, 0] rfl)
  by_cases c214 : x1 = 6
  · have hw := hw.2.2.2.2.2.2.1 c214
    refine lv_tableIn (tgt := 163) hx hb d_Mod_count_6 (by rw [c214]; decide) (by rw [c214]; decide) (by rw [c214]; rfl) (by decide) ?_
    refine lv_iconst (v := -1) hx hb d_Mod_count_163 (by decide) ?_
    exact h_iret C0 hh hS rfl rfl ⟨_, rfl, hw⟩ d_Mod_count_164
  by_cases c215 : x1 = 7
  · have hw := hw.2.2.2.2.2.2.2.1 c215
    refine lv_tableIn (tgt := 163) hx hb d_Mod_count_6 (by rw [c215]; decide) (by rw [c215]; decide) (by rw [c215]; rfl) (by decide) ?_
    refine lv_iconst (v := -1) hx hb d_Mod_count_163 (by decide) ?_
    exact h_iret C0 hh hS rfl rfl ⟨_, rfl, hw⟩ d_Mod_count_164
  by_cases c216 : x1 = 8
  · have hw := hw.2.2.2.2.2.2.2.2.1 c216
    refine lv_tableIn (tgt := 163) hx hb d_Mod_count_6 (by rw [c216]; decide) (by rw [c216]; decide) (by rw [c216]; rfl) (by decide) ?_
    refine lv_iconst (v := -1) hx hb d_Mod_count_163 (by decide) ?_
    exact h_iret C0 hh hS rfl rfl ⟨_, rfl, hw⟩ d_Mod_count_164
  by_cases c217 : x1 = 9
  · have hw := hw.2.2.2.2.2.2.2.2.2.1 c217
    refine lv_tableIn (tgt := 163) hx hb d_Mod_count_6 (by rw [c217]; decide) (by rw [c217]; decide) (by rw [c217]; rfl) (by decide) ?_
    refine lv_iconst (v := -1) hx hb d_Mod_count_163 (by decide) ?_
    exact h_iret C0 hh hS rfl rfl ⟨_, rfl, hw⟩ d_Mod_count_164
  by_cases c222 : x1 = 10
  · have hw := hw.2.2.2.2.2.2.2.2.2.2.1 c222
    refine lv_tableIn (tgt := 154) hx hb d_Mod_count_6 (by rw [c222]; decide) (by rw [c222]; decide) (by rw [c222]; rfl) (by decide) ?_
    refine lv_aload_n hx hb d_Mod_count_154 rfl (lv_at hl 0 rfl) ?_
    refine lv_iload_n hx hb d_Mod_count_155 rfl (lv_at hl 1 rfl) ?_
    refine lv_bipush (v := 10) hx hb d_Mod_count_156 (by decide) ?_
    refine lv_isub hx hb d_Mod_count_158 ?_
    obtain ⟨fs218, hr219, hw⟩ := hw
    refine h_callV (n := 1) C0 w_TBm hh hS hl.1 [.int (x1 - (10 : Int32))] [] (S_Mod_used _ _ _ _ hw) hr219 rfl k_m_Mod_105 k_inst_Mod_used k_sel_Mod_used k_ini_Mod k_code_Mod_used (by decide +kernel) rfl rfl (Nat.le_of_ble_eq_true rfl) ⟨(Nat.le_of_ble_eq_true rfl), (Nat.le_of_ble_eq_true rfl)⟩ ⟨(Nat.le_of_ble_eq_true rfl), (Nat.le_of_ble_eq_true rfl)⟩ d_Mod_count_159 (h_kI (k := 0) (n := 0) (Nat.le_of_ble_eq_true rfl) (Nat.le_of_ble_eq_true rfl) (fun i221 h220 H locs hw hh hS => ?_))
    exact h_iret C0 hh hS rfl rfl ⟨_, rfl, hw⟩ d_Mod_count_162
  by_cases c227 : x1 = 11
  · have hw := hw.2.2.2.2.2.2.2.2.2.2.2.1 c227
    refine lv_tableIn (tgt := 154) hx hb d_Mod_count_6 (by rw [c227]; decide) (by rw [c227]; decide) (by rw [c227]; rfl) (by decide) ?_
    refine lv_aload_n hx hb d_Mod_count_154 rfl (lv_at hl 0 rfl) ?_
    refine lv_iload_n hx hb d_Mod_count_155 rfl (lv_at hl 1 rfl) ?_
    refine lv_bipush (v := 10) hx hb d_Mod_count_156 (by decide) ?_
    refine lv_isub hx hb d_Mod_count_158 ?_
    obtain ⟨fs223, hr224, hw⟩ := hw
    refine h_callV (n := 1) C0 w_TBm hh hS hl.1 [.int (x1 - (10 : Int32))] [] (S_Mod_used _ _ _ _ hw) hr224 rfl k_m_Mod_105 k_inst_Mod_used k_sel_Mod_used k_ini_Mod k_code_Mod_used (by decide +kernel) rfl rfl (Nat.le_of_ble_eq_true rfl) ⟨(Nat.le_of_ble_eq_true rfl), (Nat.le_of_ble_eq_true rfl)⟩ ⟨(Nat.le_of_ble_eq_true rfl), (Nat.le_of_ble_eq_true rfl)⟩ d_Mod_count_159 (h_kI (k := 0) (n := 0) (Nat.le_of_ble_eq_true rfl) (Nat.le_of_ble_eq_true rfl) (fun i226 h225 H locs hw hh hS => ?_))
    exact h_iret C0 hh hS rfl rfl ⟨_, rfl, hw⟩ d_Mod_count_162
  by_cases c232 : x1 = 12
  · have hw := hw.2.2.2.2.2.2.2.2.2.2.2.2.1 c232
    refine lv_tableIn (tgt := 154) hx hb d_Mod_count_6 (by rw [c232]; decide) (by rw [c232]; decide) (by rw [c232]; rfl) (by decide) ?_
    refine lv_aload_n hx hb d_Mod_count_154 rfl (lv_at hl 0 rfl) ?_
    refine lv_iload_n hx hb d_Mod_count_155 rfl (lv_at hl 1 rfl) ?_
    refine lv_bipush (v := 10) hx hb d_Mod_count_156 (by decide) ?_
    refine lv_isub hx hb d_Mod_count_158 ?_
    obtain ⟨fs228, hr229, hw⟩ := hw
    refine h_callV (n := 1) C0 w_TBm hh hS hl.1 [.int (x1 - (10 : Int32))] [] (S_Mod_used _ _ _ _ hw) hr229 rfl k_m_Mod_105 k_inst_Mod_used k_sel_Mod_used k_ini_Mod k_code_Mod_used (by decide +kernel) rfl rfl (Nat.le_of_ble_eq_true rfl) ⟨(Nat.le_of_ble_eq_true rfl), (Nat.le_of_ble_eq_true rfl)⟩ ⟨(Nat.le_of_ble_eq_true rfl), (Nat.le_of_ble_eq_true rfl)⟩ d_Mod_count_159 (h_kI (k := 0) (n := 0) (Nat.le_of_ble_eq_true rfl) (Nat.le_of_ble_eq_true rfl) (fun i231 h230 H locs hw hh hS => ?_))
    exact h_iret C0 hh hS rfl rfl ⟨_, rfl, hw⟩ d_Mod_count_162
  by_cases c237 : x1 = 13
  · have hw := hw.2.2.2.2.2.2.2.2.2.2.2.2.2.1 c237
    refine lv_tableIn (tgt := 154) hx hb d_Mod_count_6 (by rw [c237]; decide) (by rw [c237]; decide) (by rw [c237]; rfl) (by decide) ?_
    refine lv_aload_n hx hb d_Mod_count_154 rfl (lv_at hl 0 rfl) ?_
    refine lv_iload_n hx hb d_Mod_count_155 rfl (lv_at hl 1 rfl) ?_
    refine lv_bipush (v := 10) hx hb d_Mod_count_156 (by decide) ?_
    refine lv_isub hx hb d_Mod_count_158 ?_
    obtain ⟨fs233, hr234, hw⟩ := hw
    refine h_callV (n := 1) C0 w_TBm hh hS hl.1 [.int (x1 - (10 : Int32))] [] (S_Mod_used _ _ _ _ hw) hr234 rfl k_m_Mod_105 k_inst_Mod_used k_sel_Mod_used k_ini_Mod k_code_Mod_used (by decide +kernel) rfl rfl (Nat.le_of_ble_eq_true rfl) ⟨(Nat.le_of_ble_eq_true rfl), (Nat.le_of_ble_eq_true rfl)⟩ ⟨(Nat.le_of_ble_eq_true rfl), (Nat.le_of_ble_eq_true rfl)⟩ d_Mod_count_159 (h_kI (k := 0) (n := 0) (Nat.le_of_ble_eq_true rfl) (Nat.le_of_ble_eq_true rfl) (fun i236 h235 H locs hw hh hS => ?_))
    exact h_iret C0 hh hS rfl rfl ⟨_, rfl, hw⟩ d_Mod_count_162
  have hw := hw.2.2.2.2.2.2.2.2.2.2.2.2.2.2 ⟨c192, c197, c202, c207, c212, c213, c214, c215, c216, c217, c222, c227, c232, c237⟩
  refine lv_tableOut (tgt := 163) hx hb d_Mod_count_6 (by have n0 := lv_neT (a := 0) c192 (by decide); have n1 := lv_neT (a := 1) c197 (by decide); have n2 := lv_neT (a := 2) c202 (by decide); have n3 := lv_neT (a := 3) c207 (by decide); have n4 := lv_neT (a := 4) c212 (by decide); have n5 := lv_neT (a := 5) c213 (by decide); have n6 := lv_neT (a := 6) c214 (by decide); have n7 := lv_neT (a := 7) c215 (by decide); have n8 := lv_neT (a := 8) c216 (by decide); have n9 := lv_neT (a := 9) c217 (by decide); have n10 := lv_neT (a := 10) c222 (by decide); have n11 := lv_neT (a := 11) c227 (by decide); have n12 := lv_neT (a := 12) c232 (by decide); have n13 := lv_neT (a := 13) c237 (by decide); omega) (by decide) ?_
  refine lv_iconst (v := -1) hx hb d_Mod_count_163 (by decide) ?_
  exact h_iret C0 hh hS rfl rfl ⟨_, rfl, hw⟩ d_Mod_count_164
