set_option maxHeartbeats 4000000 in
set_option maxRecDepth 100000 in
theorem S_Mod_next_84 {p : Program} {l : Launch} {e : Env} {s : State} {m : MethodId} {args : Array Value} {below : List Frame} {meth : Method} {c : Code} {κ : hX} {Q : Int32 → hM → Prop} {K68 : hM → Nat → Int32 → Int32 → Int32 → Prop} (C0 : Cw κ w_cl w_tl w_tb p s m args meth c b_Mod_next 8 R_Mod (some .int)) (hK68 : ∀ (h : hM) (x0 : Nat) (x4 : Int32) (x5 : Int32) (x6 : Int32) (H : Heap) (locs : List Loc) (ls : Array Slot), K68 h x0 x4 x5 x6 → hp κ w_cl h H → va_S (h_A κ) s.heap H locs → lv_has ls 8 [(0, .ref x0), (4, .int x4), (5, .int x5), (6, .int x6)] → W p l e rm_Mod_next s m args below meth c H locs 0 0 (MQ below (hQ κ w_cl (qI Q)) args s 0 0 (h_A κ)) (F0 m 68 ls [])) : ∀ (n : Nat) (h : hM) (x0 : Nat) (x4 : Int32) (x5 : Int32) (x6 : Int32) (x7 : Int32) (H : Heap) (locs : List Loc) (ls : Array Slot), L_Mod_next_84 Q K68 n h x0 x4 x5 x6 x7 → hp κ w_cl h H → va_S (h_A κ) s.heap H locs → lv_has ls 8 [(0, .ref x0), (4, .int x4), (5, .int x5), (6, .int x6), (7, .int x7)] → W p l e rm_Mod_next s m args below meth c H locs 0 0 (MQ below (hQ κ w_cl (qI Q)) args s 0 0 (h_A κ)) (F0 m 84 ls []) := by
  obtain ⟨hx, hb, hml, hown, hts, hK, hF0, hrt, hlocks⟩ := id C0
  intro n
  induction n with
  | zero =>
    intro h x0 x4 x5 x6 x7 H locs ls hw
    exact hw.elim
  | succ n hK84 =>
    intro h x0 x4 x5 x6 x7 H locs ls hw hh hS hl
    have hw : P_Mod_next_84 Q K68 (L_Mod_next_84 Q K68 n) h x0 x4 x5 x6 x7 := hw
    refine lv_iload hx hb d_Mod_next_84 (lv_at hl 4 rfl) ?_
    refine lv_aload_n hx hb d_Mod_next_86 rfl (lv_at hl 0 rfl) ?_
    obtain ⟨fs246, i249, hr247, hk248, hw⟩ := hw
    refine h_get C0 hh hr247 hk248 rfl i_Mod (by decide) k_f_Mod_76 (fun _ h9 => h9) d_Mod_next_87 ?_
    refine lv_icmp_ge (tgt := 152) hx hb d_Mod_next_90 (by decide) (fun c250 => ?_) (fun c250 => ?_)
    · have hw := hw.1 c250
      obtain ⟨x6_251, ex6_251⟩ : ∃ z : Int32, z = x6 + 1 := ⟨_, rfl⟩
      have hw := hw x6_251 ex6_251
      refine lv_iinc (v := x6_251) (lv' := [(6, .int x6_251), (0, .ref x0), (4, .int x4), (5, .int x5), (7, .int x7)]) hx hb d_Mod_next_152 hl (k := 3) rfl (by rw [ex6_251]; rfl) (by decide) rfl (fun ls hl => ?_)
      refine lv_goto (tgt := 68) hx hb d_Mod_next_155 (by decide) ?_
      exact hK68 _ _ _ _ _ _ _ _ hw hh hS (lv_sub hl [1, 2, 3, 0] rfl)
    · have hw := hw.2 c250
      refine lv_aload_n hx hb d_Mod_next_93 rfl (lv_at hl 0 rfl) ?_
      obtain ⟨fs252, r255, hr253, hk254, hw⟩ := hw
      refine h_get C0 hh hr253 hk254 rfl i_Mod (by decide) k_f_Mod_35 (fun _ h9 => h9) d_Mod_next_94 ?_
      refine lv_iload hx hb d_Mod_next_97 (lv_at hl 4 rfl) ?_
      obtain ⟨n256, f257, hr258, hi259, hw⟩ := hw
      refine h_iald C0 hh hr258 hi259 rfl d_Mod_next_99 ?_
      refine lv_aload_n hx hb d_Mod_next_100 rfl (lv_at hl 0 rfl) ?_
      obtain ⟨fs260, r263, hr261, hk262, hw⟩ := hw
      refine h_get C0 hh hr261 hk262 rfl i_Mod (by decide) k_f_Mod_7 (fun _ h9 => h9) d_Mod_next_101 ?_
      refine lv_bipush (v := 8) hx hb d_Mod_next_104 (by decide) ?_
      refine lv_iload hx hb d_Mod_next_106 (lv_at hl 1 rfl) ?_
      refine lv_imul hx hb d_Mod_next_108 ?_
      refine lv_iload hx hb d_Mod_next_109 (lv_at hl 3 rfl) ?_
      refine lv_iadd hx hb d_Mod_next_111 ?_
      obtain ⟨n264, f265, hr266, hi267, hw⟩ := hw
      refine h_iald C0 hh hr266 hi267 rfl d_Mod_next_112 ?_
      refine lv_icmp_ne (tgt := 146) hx hb d_Mod_next_113 (by decide) (fun c268 => ?_) (fun c268 => ?_)
      · have hw := hw.1 c268
        exact S_Mod_next_146 C0 hK84 _ _ _ _ _ _ _ _ _ hw hh hS (lv_sub hl [0, 1, 2, 3, 4] rfl)
      · have hw := hw.2 c268
        refine lv_aload_n hx hb d_Mod_next_116 rfl (lv_at hl 0 rfl) ?_
        refine lv_iload hx hb d_Mod_next_117 (lv_at hl 4 rfl) ?_
        obtain ⟨fs269, hr270, hw⟩ := hw
        refine h_callV (n := 1) C0 w_TBm hh hS hl.1 [.int x7] [] (S_Mod_mayStart _ _ _ _ hw) hr270 rfl k_m_Mod_121 k_inst_Mod_mayStart k_sel_Mod_mayStart k_ini_Mod k_code_Mod_mayStart (by decide +kernel) rfl rfl (Nat.le_of_ble_eq_true rfl) ⟨(Nat.le_of_ble_eq_true rfl), (Nat.le_of_ble_eq_true rfl)⟩ ⟨(Nat.le_of_ble_eq_true rfl), (Nat.le_of_ble_eq_true rfl)⟩ d_Mod_next_119 (h_kI (k := 0) (n := 0) (Nat.le_of_ble_eq_true rfl) (Nat.le_of_ble_eq_true rfl) (fun i272 h271 H locs hw hh hS => ?_))
        refine lv_if_eq (tgt := 146) hx hb d_Mod_next_122 (by decide) (fun c273 => ?_) (fun c273 => ?_)
        · have hw := hw.1 c273
          exact S_Mod_next_146 C0 hK84 _ _ _ _ _ _ _ _ _ hw hh hS (lv_sub hl [0, 1, 2, 3, 4] rfl)
        · have hw := hw.2 c273
          refine lv_iload hx hb d_Mod_next_125 (lv_at hl 2 rfl) ?_
          refine lv_iconst (v := -1) hx hb d_Mod_next_127 (by decide) ?_
          refine lv_icmp_eq (tgt := 142) hx hb d_Mod_next_128 (by decide) (fun c274 => ?_) (fun c274 => ?_)
          · have hw := hw.1 c274
            exact S_Mod_next_142 C0 hK84 _ _ _ _ _ _ _ _ hw hh hS (lv_sub hl [0, 1, 3, 4] rfl)
          · have hw := hw.2 c274
            refine lv_aload_n hx hb d_Mod_next_131 rfl (lv_at hl 0 rfl) ?_
            refine lv_iload hx hb d_Mod_next_132 (lv_at hl 4 rfl) ?_
            refine lv_iload hx hb d_Mod_next_134 (lv_at hl 2 rfl) ?_
            obtain ⟨fs275, hr276, hw⟩ := hw
            refine h_callV (n := 2) C0 w_TBm hh hS hl.1 [.int x7, .int x5] [] (S_Mod_isAhead _ _ _ _ _ hw) hr276 rfl k_m_Mod_124 k_inst_Mod_isAhead k_sel_Mod_isAhead k_ini_Mod k_code_Mod_isAhead (by decide +kernel) rfl rfl (Nat.le_of_ble_eq_true rfl) ⟨(Nat.le_of_ble_eq_true rfl), (Nat.le_of_ble_eq_true rfl)⟩ ⟨(Nat.le_of_ble_eq_true rfl), (Nat.le_of_ble_eq_true rfl)⟩ d_Mod_next_136 (h_kI (k := 0) (n := 0) (Nat.le_of_ble_eq_true rfl) (Nat.le_of_ble_eq_true rfl) (fun i278 h277 H locs hw hh hS => ?_))
            refine lv_if_eq (tgt := 146) hx hb d_Mod_next_139 (by decide) (fun c279 => ?_) (fun c279 => ?_)
            · have hw := hw.1 c279
              exact S_Mod_next_146 C0 hK84 _ _ _ _ _ _ _ _ _ hw hh hS (lv_sub hl [0, 1, 2, 3, 4] rfl)
            · have hw := hw.2 c279
              exact S_Mod_next_142 C0 hK84 _ _ _ _ _ _ _ _ hw hh hS (lv_sub hl [0, 1, 3, 4] rfl)
set_option maxHeartbeats 4000000 in
set_option maxRecDepth 100000 in
theorem S_Mod_next_68 {p : Program} {l : Launch} {e : Env} {s : State} {m : MethodId} {args : Array Value} {below : List Frame} {meth : Method} {c : Code} {κ : hX} {Q : Int32 → hM → Prop} (C0 : Cw κ w_cl w_tl w_tb p s m args meth c b_Mod_next 8 R_Mod (some .int)) : ∀ (n : Nat) (h : hM) (x0 : Nat) (x4 : Int32) (x5 : Int32) (x6 : Int32) (H : Heap) (locs : List Loc) (ls : Array Slot), L_Mod_next_68 Q n h x0 x4 x5 x6 → hp κ w_cl h H → va_S (h_A κ) s.heap H locs → lv_has ls 8 [(0, .ref x0), (4, .int x4), (5, .int x5), (6, .int x6)] → W p l e rm_Mod_next s m args below meth c H locs 0 0 (MQ below (hQ κ w_cl (qI Q)) args s 0 0 (h_A κ)) (F0 m 68 ls []) := by
  obtain ⟨hx, hb, hml, hown, hts, hK, hF0, hrt, hlocks⟩ := id C0
  intro n
  induction n with
  | zero =>
    intro h x0 x4 x5 x6 H locs ls hw
    exact hw.elim
  | succ n hK68 =>
    intro h x0 x4 x5 x6 H locs ls hw hh hS hl
    have hw : P_Mod_next_68 Q (L_Mod_next_68 Q n) h x0 x4 x5 x6 := hw
    refine lv_iload hx hb d_Mod_next_68 (lv_at hl 3 rfl) ?_
    refine lv_bipush (v := 8) hx hb d_Mod_next_70 (by decide) ?_
    refine lv_icmp_ge (tgt := 158) hx hb d_Mod_next_72 (by decide) (fun c280 => ?_) (fun c280 => ?_)
    · have hw := hw.1 c280
      exact S_Mod_next_158 C0 _ _ _ _ _ _ _ hw hh hS (lv_sub hl [0, 1, 2] rfl)
    · have hw := hw.2 c280
      refine lv_iload hx hb d_Mod_next_75 (lv_at hl 2 rfl) ?_
      refine lv_iconst (v := -1) hx hb d_Mod_next_77 (by decide) ?_
      refine lv_icmp_ne (tgt := 158) hx hb d_Mod_next_78 (by decide) (fun c281 => ?_) (fun c281 => ?_)
      · have hw := hw.1 c281
        exact S_Mod_next_158 C0 _ _ _ _ _ _ _ hw hh hS (lv_sub hl [0, 1, 2] rfl)
      · have hw := hw.2 c281
        refine lv_iconst (v := 0) hx hb d_Mod_next_81 (by decide) ?_
        refine lv_istore (lv' := [(7, .int (0 : Int32)), (0, .ref x0), (4, .int x4), (5, .int x5), (6, .int x6)]) hx hb d_Mod_next_82 hl (by decide) rfl (fun ls hl => ?_)
        obtain ⟨n0, hw⟩ := hw
        exact S_Mod_next_84 C0 hK68 n0 _ _ _ _ _ _ _ _ _ hw hh hS (lv_sub hl [1, 2, 3, 4, 0] rfl)
set_option maxHeartbeats 4000000 in
set_option maxRecDepth 100000 in
theorem S_Mod_next {l : Launch} {κ : hX} (Q : Int32 → hM → Prop) (h : hM) (x0 : Nat) (x1 : Int32) (x2 : Int64) (hw : P_Mod_next Q h x0 x1 x2) : Met l y_Mod_next [Cond.code y_Mod_next b_Mod_next 8 (some .int)] rm_Mod_next (hPc κ w_cl w_tl w_tb [.ref x0, .int x1, .long x2] h) (hQ κ w_cl (qI Q)) 0 0 (h_A κ) := by
  refine h_enter w_TBm (by decide) (Nat.le_of_ble_eq_true rfl) ?_
  intro p e s m args below meth c C0 hnm hh hS ls hl
  obtain ⟨hx, hb, hml, hown, hts, hK, hF0, hrt, hlocks⟩ := id C0
  have hl : lv_has ls 8 [(0, .ref x0), (1, .int x1), (2, .long x2)] := hl
  refine lv_aload_n hx hb d_Mod_next_0 rfl (lv_at hl 0 rfl) ?_
  refine lv_iconst (v := 0) hx hb d_Mod_next_1 (by decide) ?_
  obtain ⟨fs282, hr283, hk284, hw⟩ := hw
  refine h_put C0 hh hS (v := .int (0 : Int32)) hr283 hk284 rfl i_Mod t_Mod t_Mod_ok n_Mod (by decide) k_f_Mod_69 (fun _ h9 => h9) rfl rfl rfl rfl d_Mod_next_2 (fun H locs hh hS => ?_)
  obtain ⟨h285, eh285⟩ : ∃ z : hM, z = h_up h x0 (eO 6 (fs282.set 0 (.int (0 : Int32)))) := ⟨_, rfl⟩
  rw [← eh285] at hh
  have hw := hw h285 eh285
  refine lv_aload_n hx hb d_Mod_next_5 rfl (lv_at hl 0 rfl) ?_
  refine lv_iload_n hx hb d_Mod_next_6 rfl (lv_at hl 1 rfl) ?_
  obtain ⟨fs286, hr287, hw⟩ := hw
  refine h_callV (n := 1) C0 w_TBm hh hS hl.1 [.int x1] [] (S_Mod_isInitiator _ _ _ _ hw) hr287 rfl k_m_Mod_79 k_inst_Mod_isInitiator k_sel_Mod_isInitiator k_ini_Mod k_code_Mod_isInitiator (by decide +kernel) rfl rfl (Nat.le_of_ble_eq_true rfl) ⟨(Nat.le_of_ble_eq_true rfl), (Nat.le_of_ble_eq_true rfl)⟩ ⟨(Nat.le_of_ble_eq_true rfl), (Nat.le_of_ble_eq_true rfl)⟩ d_Mod_next_7 (h_kI (k := 0) (n := 0) (Nat.le_of_ble_eq_true rfl) (Nat.le_of_ble_eq_true rfl) (fun i289 h288 H locs hw hh hS => ?_))
  refine lv_if_ne (tgt := 16) hx hb d_Mod_next_10 (by decide) (fun c290 => ?_) (fun c290 => ?_)
  · have hw := hw.1 c290
    refine lv_lload_n hx hb d_Mod_next_16 rfl (lv_at hl 2 rfl) ?_
    refine lv_aload_n hx hb d_Mod_next_17 rfl (lv_at hl 0 rfl) ?_
    obtain ⟨fs291, j294, hr292, hk293, hw⟩ := hw
    refine h_get C0 hh hr292 hk293 rfl i_Mod (by decide) k_f_Mod_89 (fun _ h9 => h9) d_Mod_next_18 ?_
    refine W.lcmp hx hb d_Mod_next_21 ?_
    refine lv_if_ge (tgt := 28) hx hb d_Mod_next_22 (by decide) (fun c295 => ?_) (fun c295 => ?_)
    · have hw := hw.1 ((lg_cmp_ge _ _).mp c295)
      refine lv_iload_n hx hb d_Mod_next_28 rfl (lv_at hl 1 rfl) ?_
      refine lv_iconst (v := 1) hx hb d_Mod_next_29 (by decide) ?_
      refine lv_isub hx hb d_Mod_next_30 ?_
      refine lv_topi (fun x4_296 ex4_296 => ?_)
      have hw := hw x4_296 ex4_296
      refine lv_istore (lv' := [(4, .int x4_296), (0, .ref x0), (1, .int x1), (2, .long x2)]) hx hb d_Mod_next_31 hl (by decide) rfl (fun ls hl => ?_)
      refine lv_aload_n hx hb d_Mod_next_33 rfl (lv_at hl 1 rfl) ?_
      obtain ⟨fs297, r300, hr298, hk299, hw⟩ := hw
      refine h_get C0 hh hr298 hk299 rfl i_Mod (by decide) k_f_Mod_16 (fun _ h9 => h9) d_Mod_next_34 ?_
      refine lv_iload hx hb d_Mod_next_37 (lv_at hl 0 rfl) ?_
      obtain ⟨n301, f302, hr303, hi304, hw⟩ := hw
      refine h_zald C0 hh hr303 hi304 rfl d_Mod_next_39 ?_
      refine lv_if_ne (tgt := 54) hx hb d_Mod_next_40 (by decide) (fun c305 => ?_) (fun c305 => ?_)
      · have hw := hw.1 c305
        refine lv_bipush (v := -5) hx hb d_Mod_next_54 (by decide) ?_
        exact h_iret C0 hh hS rfl rfl ⟨_, rfl, hw⟩ d_Mod_next_56
      · have hw := hw.2 c305
        refine lv_aload_n hx hb d_Mod_next_43 rfl (lv_at hl 1 rfl) ?_
        obtain ⟨fs306, r309, hr307, hk308, hw⟩ := hw
        refine h_get C0 hh hr307 hk308 rfl i_Mod (by decide) k_f_Mod_13 (fun _ h9 => h9) d_Mod_next_44 ?_
        refine lv_iload hx hb d_Mod_next_47 (lv_at hl 0 rfl) ?_
        obtain ⟨n310, f311, hr312, hi313, hw⟩ := hw
        refine h_iald C0 hh hr312 hi313 rfl d_Mod_next_49 ?_
        refine lv_iconst (v := -1) hx hb d_Mod_next_50 (by decide) ?_
        refine lv_icmp_eq (tgt := 57) hx hb d_Mod_next_51 (by decide) (fun c314 => ?_) (fun c314 => ?_)
        · have hw := hw.1 c314
          refine lv_aload_n hx hb d_Mod_next_57 rfl (lv_at hl 1 rfl) ?_
          refine lv_lload_n hx hb d_Mod_next_58 rfl (lv_at hl 3 rfl) ?_
          obtain ⟨fs315, hr316, hk317, hw⟩ := hw
          refine h_put C0 hh hS (v := .long x2) hr316 hk317 rfl i_Mod t_Mod t_Mod_ok n_Mod (by decide) k_f_Mod_89 (fun _ h9 => h9) rfl rfl rfl rfl d_Mod_next_59 (fun H locs hh hS => ?_)
          obtain ⟨h318, eh318⟩ : ∃ z : hM, z = h_up h288 x0 (eO 6 (fs315.set 1 (.long x2))) := ⟨_, rfl⟩
          rw [← eh318] at hh
          have hw := hw h318 eh318
          refine lv_iconst (v := -1) hx hb d_Mod_next_62 (by decide) ?_
          refine lv_istore (lv' := [(5, .int (-1 : Int32)), (4, .int x4_296), (0, .ref x0), (1, .int x1), (2, .long x2)]) hx hb d_Mod_next_63 hl (by decide) rfl (fun ls hl => ?_)
          refine lv_iconst (v := 0) hx hb d_Mod_next_65 (by decide) ?_
          refine lv_istore (lv' := [(6, .int (0 : Int32)), (5, .int (-1 : Int32)), (4, .int x4_296), (0, .ref x0), (1, .int x1), (2, .long x2)]) hx hb d_Mod_next_66 hl (by decide) rfl (fun ls hl => ?_)
          obtain ⟨n0, hw⟩ := hw
          exact S_Mod_next_68 C0 n0 _ _ _ _ _ _ _ _ hw hh hS (lv_sub hl [3, 2, 1, 0] rfl)
        · have hw := hw.2 c314
          refine lv_bipush (v := -5) hx hb d_Mod_next_54 (by decide) ?_
          exact h_iret C0 hh hS rfl rfl ⟨_, rfl, hw⟩ d_Mod_next_56
    · have hw := hw.2 (fun z => c295 ((lg_cmp_ge _ _).mpr z))
      refine lv_bipush (v := -4) hx hb d_Mod_next_25 (by decide) ?_
      exact h_iret C0 hh hS rfl rfl ⟨_, rfl, hw⟩ d_Mod_next_27
  · have hw := hw.2 c290
    refine lv_bipush (v := -2) hx hb d_Mod_next_13 (by decide) ?_
    exact h_iret C0 hh hS rfl rfl ⟨_, rfl, hw⟩ d_Mod_next_15
set_option maxHeartbeats 4000000 in
set_option maxRecDepth 100000 in
theorem S_Mod_end_75 {p : Program} {l : Launch} {e : Env} {s : State} {m : MethodId} {args : Array Value} {below : List Frame} {meth : Method} {c : Code} {κ : hX} {Q : Int32 → hM → Prop} {K42 : hM → Nat → Int32 → Int32 → Prop} (C0 : Cw κ w_cl w_tl w_tb p s m args meth c b_Mod_end 3 R_Mod (some .int)) (hK42 : ∀ (h : hM) (x0 : Nat) (x1 : Int32) (x2 : Int32) (H : Heap) (locs : List Loc) (ls : Array Slot), K42 h x0 x1 x2 → hp κ w_cl h H → va_S (h_A κ) s.heap H locs → lv_has ls 3 [(0, .ref x0), (1, .int x1), (2, .int x2)] → W p l e rm_Mod_end s m args below meth c H locs 0 0 (MQ below (hQ κ w_cl (qI Q)) args s 0 0 (h_A κ)) (F0 m 42 ls [])) : ∀ (h : hM) (x0 : Nat) (x1 : Int32) (x2 : Int32) (t0 : Int32) (t1 : Int32) (t2 : Nat) (H : Heap) (locs : List Loc) (ls : Array Slot), P_Mod_end_75 Q K42 h x0 x1 x2 t0 t1 t2 → hp κ w_cl h H → va_S (h_A κ) s.heap H locs → lv_has ls 3 [(0, .ref x0), (1, .int x1), (2, .int x2)] → W p l e rm_Mod_end s m args below meth c H locs 0 0 (MQ below (hQ κ w_cl (qI Q)) args s 0 0 (h_A κ)) (F0 m 75 ls [.int t0, .int t1, .ref t2]) := by
  obtain ⟨hx, hb, hml, hown, hts, hK, hF0, hrt, hlocks⟩ := id C0
  intro h x0 x1 x2 t0 t1 t2 H locs ls hw hh hS hl
  obtain ⟨n111, f112, hr113, hi114, hw⟩ := hw
  refine h_iast C0 hh hS hr113 hi114 rfl d_Mod_end_75 (fun H locs hh hS => ?_)
  obtain ⟨h115, eh115⟩ : ∃ z : hM, z = h_up h t2 (eT 0 n111 (upd f112 t1.toNatClampNeg t0)) := ⟨_, rfl⟩
  rw [← eh115] at hh
  have hw := hw h115 eh115
  obtain ⟨x2_116, ex2_116⟩ : ∃ z : Int32, z = x2 + 1 := ⟨_, rfl⟩
  have hw := hw x2_116 ex2_116
  refine lv_iinc (v := x2_116) (lv' := [(2, .int x2_116), (0, .ref x0), (1, .int x1)]) hx hb d_Mod_end_76 hl (k := 2) rfl (by rw [ex2_116]; rfl) (by decide) rfl (fun ls hl => ?_)
  refine lv_goto (tgt := 42) hx hb d_Mod_end_79 (by decide) ?_
  exact hK42 _ _ _ _ _ _ _ hw hh hS (lv_sub hl [1, 2, 0] rfl)
set_option maxHeartbeats 4000000 in
set_option maxRecDepth 100000 in
theorem S_Mod_end_42 {p : Program} {l : Launch} {e : Env} {s : State} {m : MethodId} {args : Array Value} {below : List Frame} {meth : Method} {c : Code} {κ : hX} {Q : Int32 → hM → Prop} (C0 : Cw κ w_cl w_tl w_tb p s m args meth c b_Mod_end 3 R_Mod (some .int)) : ∀ (n : Nat) (h : hM) (x0 : Nat) (x1 : Int32) (x2 : Int32) (H : Heap) (locs : List Loc) (ls : Array Slot), L_Mod_end_42 Q n h x0 x1 x2 → hp κ w_cl h H → va_S (h_A κ) s.heap H locs → lv_has ls 3 [(0, .ref x0), (1, .int x1), (2, .int x2)] → W p l e rm_Mod_end s m args below meth c H locs 0 0 (MQ below (hQ κ w_cl (qI Q)) args s 0 0 (h_A κ)) (F0 m 42 ls []) := by
  obtain ⟨hx, hb, hml, hown, hts, hK, hF0, hrt, hlocks⟩ := id C0
  intro n
  induction n with
  | zero =>
    intro h x0 x1 x2 H locs ls hw
    exact hw.elim
  | succ n hK42 =>
    intro h x0 x1 x2 H locs ls hw hh hS hl
    have hw : P_Mod_end_42 Q (L_Mod_end_42 Q n) h x0 x1 x2 := hw
    refine lv_iload_n hx hb d_Mod_end_42 rfl (lv_at hl 2 rfl) ?_
    refine lv_bipush (v := 12) hx hb d_Mod_end_43 (by decide) ?_
    refine lv_icmp_ge (tgt := 82) hx hb d_Mod_end_45 (by decide) (fun c117 => ?_) (fun c117 => ?_)
    · have hw := hw.1 c117
      refine lv_iconst (v := 1) hx hb d_Mod_end_82 (by decide) ?_
      exact h_iret C0 hh hS rfl rfl ⟨_, rfl, hw⟩ d_Mod_end_83
    · have hw := hw.2 c117
      refine lv_aload_n hx hb d_Mod_end_48 rfl (lv_at hl 0 rfl) ?_
      obtain ⟨fs118, r121, hr119, hk120, hw⟩ := hw
      refine h_get C0 hh hr119 hk120 rfl i_Mod (by decide) k_f_Mod_13 (fun _ h9 => h9) d_Mod_end_49 ?_
      refine lv_iload_n hx hb d_Mod_end_52 rfl (lv_at hl 2 rfl) ?_
      refine lv_aload_n hx hb d_Mod_end_53 rfl (lv_at hl 0 rfl) ?_
      obtain ⟨fs122, r125, hr123, hk124, hw⟩ := hw
      refine h_get C0 hh hr123 hk124 rfl i_Mod (by decide) k_f_Mod_13 (fun _ h9 => h9) d_Mod_end_54 ?_
      refine lv_iload_n hx hb d_Mod_end_57 rfl (lv_at hl 2 rfl) ?_
      obtain ⟨n126, f127, hr128, hi129, hw⟩ := hw
      refine h_iald C0 hh hr128 hi129 rfl d_Mod_end_58 ?_
      refine lv_iload_n hx hb d_Mod_end_59 rfl (lv_at hl 1 rfl) ?_
      refine lv_iconst (v := 1) hx hb d_Mod_end_60 (by decide) ?_
      refine lv_isub hx hb d_Mod_end_61 ?_
      refine lv_icmp_ne (tgt := 69) hx hb d_Mod_end_62 (by decide) (fun c130 => ?_) (fun c130 => ?_)
      · have hw := hw.1 c130
        refine lv_aload_n hx hb d_Mod_end_69 rfl (lv_at hl 0 rfl) ?_
        obtain ⟨fs131, r134, hr132, hk133, hw⟩ := hw
        refine h_get C0 hh hr132 hk133 rfl i_Mod (by decide) k_f_Mod_13 (fun _ h9 => h9) d_Mod_end_70 ?_
        refine lv_iload_n hx hb d_Mod_end_73 rfl (lv_at hl 2 rfl) ?_
        obtain ⟨n135, f136, hr137, hi138, hw⟩ := hw
        refine h_iald C0 hh hr137 hi138 rfl d_Mod_end_74 ?_
        exact S_Mod_end_75 C0 hK42 _ _ _ _ _ _ _ _ _ _ hw hh hS (lv_sub hl [0, 1, 2] rfl)
      · have hw := hw.2 c130
        refine lv_iconst (v := -1) hx hb d_Mod_end_65 (by decide) ?_
        refine lv_goto (tgt := 75) hx hb d_Mod_end_66 (by decide) ?_
        exact S_Mod_end_75 C0 hK42 _ _ _ _ _ _ _ _ _ _ hw hh hS (lv_sub hl [0, 1, 2] rfl)
set_option maxHeartbeats 4000000 in
set_option maxRecDepth 100000 in
theorem S_Mod_end {l : Launch} {κ : hX} (Q : Int32 → hM → Prop) (h : hM) (x0 : Nat) (x1 : Int32) (hw : P_Mod_end Q h x0 x1) : Met l y_Mod_end [Cond.code y_Mod_end b_Mod_end 3 (some .int)] rm_Mod_end (hPc κ w_cl w_tl w_tb [.ref x0, .int x1] h) (hQ κ w_cl (qI Q)) 0 0 (h_A κ) := by
  refine h_enter w_TBm (by decide) (Nat.le_of_ble_eq_true rfl) ?_
  intro p e s m args below meth c C0 hnm hh hS ls hl
  obtain ⟨hx, hb, hml, hown, hts, hK, hF0, hrt, hlocks⟩ := id C0
  have hl : lv_has ls 3 [(0, .ref x0), (1, .int x1)] := hl
  refine lv_aload_n hx hb d_Mod_end_0 rfl (lv_at hl 0 rfl) ?_
  refine lv_iconst (v := 0) hx hb d_Mod_end_1 (by decide) ?_
  obtain ⟨fs139, hr140, hk141, hw⟩ := hw
  refine h_put C0 hh hS (v := .int (0 : Int32)) hr140 hk141 rfl i_Mod t_Mod t_Mod_ok n_Mod (by decide) k_f_Mod_69 (fun _ h9 => h9) rfl rfl rfl rfl d_Mod_end_2 (fun H locs hh hS => ?_)
  obtain ⟨h142, eh142⟩ : ∃ z : hM, z = h_up h x0 (eO 6 (fs139.set 0 (.int (0 : Int32)))) := ⟨_, rfl⟩
  rw [← eh142] at hh
  have hw := hw h142 eh142
  refine lv_aload_n hx hb d_Mod_end_5 rfl (lv_at hl 0 rfl) ?_
  refine lv_iload_n hx hb d_Mod_end_6 rfl (lv_at hl 1 rfl) ?_
  obtain ⟨fs143, hr144, hw⟩ := hw
  refine h_callV (n := 1) C0 w_TBm hh hS hl.1 [.int x1] [] (S_Mod_isJob _ _ _ _ hw) hr144 rfl k_m_Mod_93 k_inst_Mod_isJob k_sel_Mod_isJob k_ini_Mod k_code_Mod_isJob (by decide +kernel) rfl rfl (Nat.le_of_ble_eq_true rfl) ⟨(Nat.le_of_ble_eq_true rfl), (Nat.le_of_ble_eq_true rfl)⟩ ⟨(Nat.le_of_ble_eq_true rfl), (Nat.le_of_ble_eq_true rfl)⟩ d_Mod_end_7 (h_kI (k := 0) (n := 0) (Nat.le_of_ble_eq_true rfl) (Nat.le_of_ble_eq_true rfl) (fun i146 h145 H locs hw hh hS => ?_))
  refine lv_if_ne (tgt := 16) hx hb d_Mod_end_10 (by decide) (fun c147 => ?_) (fun c147 => ?_)
  · have hw := hw.1 c147
    refine lv_aload_n hx hb d_Mod_end_16 rfl (lv_at hl 0 rfl) ?_
    obtain ⟨fs148, r151, hr149, hk150, hw⟩ := hw
    refine h_get C0 hh hr149 hk150 rfl i_Mod (by decide) k_f_Mod_44 (fun _ h9 => h9) d_Mod_end_17 ?_
    refine lv_iload_n hx hb d_Mod_end_20 rfl (lv_at hl 1 rfl) ?_
    refine lv_iconst (v := 1) hx hb d_Mod_end_21 (by decide) ?_
    refine lv_isub hx hb d_Mod_end_22 ?_
    obtain ⟨n152, f153, hr154, hi155, hw⟩ := hw
    refine h_iald C0 hh hr154 hi155 rfl d_Mod_end_23 ?_
    refine lv_iconst (v := 2) hx hb d_Mod_end_24 (by decide) ?_
    refine lv_icmp_eq (tgt := 31) hx hb d_Mod_end_25 (by decide) (fun c156 => ?_) (fun c156 => ?_)
    · have hw := hw.1 c156
      refine lv_aload_n hx hb d_Mod_end_31 rfl (lv_at hl 0 rfl) ?_
      obtain ⟨fs157, r160, hr158, hk159, hw⟩ := hw
      refine h_get C0 hh hr158 hk159 rfl i_Mod (by decide) k_f_Mod_44 (fun _ h9 => h9) d_Mod_end_32 ?_
      refine lv_iload_n hx hb d_Mod_end_35 rfl (lv_at hl 1 rfl) ?_
      refine lv_iconst (v := 1) hx hb d_Mod_end_36 (by decide) ?_
      refine lv_isub hx hb d_Mod_end_37 ?_
      refine lv_iconst (v := 3) hx hb d_Mod_end_38 (by decide) ?_
      obtain ⟨n161, f162, hr163, hi164, hw⟩ := hw
      refine h_iast C0 hh hS hr163 hi164 rfl d_Mod_end_39 (fun H locs hh hS => ?_)
      obtain ⟨h165, eh165⟩ : ∃ z : hM, z = h_up h145 r160 (eT 0 n161 (upd f162 (x1 - (1 : Int32)).toNatClampNeg (3 : Int32))) := ⟨_, rfl⟩
      rw [← eh165] at hh
      have hw := hw h165 eh165
      refine lv_iconst (v := 0) hx hb d_Mod_end_40 (by decide) ?_
      refine lv_istore_n (lv' := [(2, .int (0 : Int32)), (0, .ref x0), (1, .int x1)]) hx hb d_Mod_end_41 rfl hl (by decide) rfl (fun ls hl => ?_)
      obtain ⟨n0, hw⟩ := hw
      exact S_Mod_end_42 C0 n0 _ _ _ _ _ _ _ hw hh hS (lv_sub hl [1, 2, 0] rfl)
    · have hw := hw.2 c156
      refine lv_bipush (v := -5) hx hb d_Mod_end_28 (by decide) ?_
      exact h_iret C0 hh hS rfl rfl ⟨_, rfl, hw⟩ d_Mod_end_30
  · have hw := hw.2 c147
    refine lv_bipush (v := -2) hx hb d_Mod_end_13 (by decide) ?_
    exact h_iret C0 hh hS rfl rfl ⟨_, rfl, hw⟩ d_Mod_end_15
set_option maxHeartbeats 4000000 in
set_option maxRecDepth 100000 in
theorem S_Mod_age {l : Launch} {κ : hX} (Q : Int32 → hM → Prop) (h : hM) (x0 : Nat) (x1 : Int64) (x3 : Int32) (hw : P_Mod_age Q h x0 x1 x3) : Met l y_Mod_age [Cond.code y_Mod_age b_Mod_age 4 (some .int)] rm_Mod_age (hPc κ w_cl w_tl w_tb [.ref x0, .long x1, .int x3] h) (hQ κ w_cl (qI Q)) 0 0 (h_A κ) := by
  refine h_enter w_TBm (by decide) (Nat.le_of_ble_eq_true rfl) ?_
  intro p e s m args below meth c C0 hnm hh hS ls hl
  obtain ⟨hx, hb, hml, hown, hts, hK, hF0, hrt, hlocks⟩ := id C0
  have hl : lv_has ls 4 [(0, .ref x0), (1, .long x1), (3, .int x3)] := hl
  refine lv_aload_n hx hb d_Mod_age_0 rfl (lv_at hl 0 rfl) ?_
  refine lv_iconst (v := 0) hx hb d_Mod_age_1 (by decide) ?_
  obtain ⟨fs16, hr17, hk18, hw⟩ := hw
  refine h_put C0 hh hS (v := .int (0 : Int32)) hr17 hk18 rfl i_Mod t_Mod t_Mod_ok n_Mod (by decide) k_f_Mod_69 (fun _ h9 => h9) rfl rfl rfl rfl d_Mod_age_2 (fun H locs hh hS => ?_)
  obtain ⟨h19, eh19⟩ : ∃ z : hM, z = h_up h x0 (eO 6 (fs16.set 0 (.int (0 : Int32)))) := ⟨_, rfl⟩
  rw [← eh19] at hh
  have hw := hw h19 eh19
  refine lv_lload_n hx hb d_Mod_age_5 rfl (lv_at hl 1 rfl) ?_
  refine lv_lconst (v := 0) hx hb d_Mod_age_6 (by decide) ?_
  refine W.lcmp hx hb d_Mod_age_7 ?_
  refine lv_if_lt (tgt := 21) hx hb d_Mod_age_8 (by decide) (fun c20 => ?_) (fun c20 => ?_)
  · have hw := hw.1 ((lg_cmp_lt _ _).mp c20)
    refine lv_bipush (v := -4) hx hb d_Mod_age_21 (by decide) ?_
    exact h_iret C0 hh hS rfl rfl ⟨_, rfl, hw⟩ d_Mod_age_23
  · have hw := hw.2 (fun z => c20 ((lg_cmp_lt _ _).mpr z))
    refine lv_iload_n hx hb d_Mod_age_11 rfl (lv_at hl 2 rfl) ?_
    refine lv_if_lt (tgt := 21) hx hb d_Mod_age_12 (by decide) (fun c21 => ?_) (fun c21 => ?_)
    · have hw := hw.1 c21
      refine lv_bipush (v := -4) hx hb d_Mod_age_21 (by decide) ?_
      exact h_iret C0 hh hS rfl rfl ⟨_, rfl, hw⟩ d_Mod_age_23
    · have hw := hw.2 c21
      refine lv_iload_n hx hb d_Mod_age_15 rfl (lv_at hl 2 rfl) ?_
      refine lv_bipush (v := 15) hx hb d_Mod_age_16 (by decide) ?_
      refine lv_icmp_le (tgt := 24) hx hb d_Mod_age_18 (by decide) (fun c22 => ?_) (fun c22 => ?_)
      · have hw := hw.1 c22
        refine lv_aload_n hx hb d_Mod_age_24 rfl (lv_at hl 0 rfl) ?_
        refine lv_lload_n hx hb d_Mod_age_25 rfl (lv_at hl 1 rfl) ?_
        obtain ⟨fs23, hr24, hk25, hw⟩ := hw
        refine h_put C0 hh hS (v := .long x1) hr24 hk25 rfl i_Mod t_Mod t_Mod_ok n_Mod (by decide) k_f_Mod_109 (fun _ h9 => h9) rfl rfl rfl rfl d_Mod_age_26 (fun H locs hh hS => ?_)
        obtain ⟨h26, eh26⟩ : ∃ z : hM, z = h_up h19 x0 (eO 6 (fs23.set 23 (.long x1))) := ⟨_, rfl⟩
        rw [← eh26] at hh
        have hw := hw h26 eh26
        refine lv_aload_n hx hb d_Mod_age_29 rfl (lv_at hl 0 rfl) ?_
        refine lv_iload_n hx hb d_Mod_age_30 rfl (lv_at hl 2 rfl) ?_
        obtain ⟨fs27, hr28, hk29, hw⟩ := hw
        refine h_put C0 hh hS (v := .int x3) hr28 hk29 rfl i_Mod t_Mod t_Mod_ok n_Mod (by decide) k_f_Mod_114 (fun _ h9 => h9) rfl rfl rfl rfl d_Mod_age_31 (fun H locs hh hS => ?_)
        obtain ⟨h30, eh30⟩ : ∃ z : hM, z = h_up h26 x0 (eO 6 (fs27.set 24 (.int x3))) := ⟨_, rfl⟩
        rw [← eh30] at hh
        have hw := hw h30 eh30
        refine lv_iconst (v := 1) hx hb d_Mod_age_34 (by decide) ?_
        exact h_iret C0 hh hS rfl rfl ⟨_, rfl, hw⟩ d_Mod_age_35
      · have hw := hw.2 c22
        refine lv_bipush (v := -4) hx hb d_Mod_age_21 (by decide) ?_
        exact h_iret C0 hh hS rfl rfl ⟨_, rfl, hw⟩ d_Mod_age_23
set_option maxHeartbeats 4000000 in
set_option maxRecDepth 100000 in
theorem S_Mod_drain {l : Launch} {κ : hX} (Q : Int32 → hM → Prop) (h : hM) (x0 : Nat) (x1 : Int32) (x2 : Int32) (hw : P_Mod_drain Q h x0 x1 x2) : Met l y_Mod_drain [Cond.code y_Mod_drain b_Mod_drain 4 (some .int)] rm_Mod_drain (hPc κ w_cl w_tl w_tb [.ref x0, .int x1, .int x2] h) (hQ κ w_cl (qI Q)) 0 0 (h_A κ) := by
  refine h_enter w_TBm (by decide) (Nat.le_of_ble_eq_true rfl) ?_
  intro p e s m args below meth c C0 hnm hh hS ls hl
  obtain ⟨hx, hb, hml, hown, hts, hK, hF0, hrt, hlocks⟩ := id C0
  have hl : lv_has ls 4 [(0, .ref x0), (1, .int x1), (2, .int x2)] := hl
  refine lv_aload_n hx hb d_Mod_drain_0 rfl (lv_at hl 0 rfl) ?_
  refine lv_iconst (v := 0) hx hb d_Mod_drain_1 (by decide) ?_
  obtain ⟨fs29, hr30, hk31, hw⟩ := hw
  refine h_put C0 hh hS (v := .int (0 : Int32)) hr30 hk31 rfl i_Mod t_Mod t_Mod_ok n_Mod (by decide) k_f_Mod_69 (fun _ h9 => h9) rfl rfl rfl rfl d_Mod_drain_2 (fun H locs hh hS => ?_)
  obtain ⟨h32, eh32⟩ : ∃ z : hM, z = h_up h x0 (eO 6 (fs29.set 0 (.int (0 : Int32)))) := ⟨_, rfl⟩
  rw [← eh32] at hh
  have hw := hw h32 eh32
  refine lv_aload_n hx hb d_Mod_drain_5 rfl (lv_at hl 0 rfl) ?_
  refine lv_iload_n hx hb d_Mod_drain_6 rfl (lv_at hl 1 rfl) ?_
  obtain ⟨fs33, hr34, hw⟩ := hw
  refine h_callV (n := 1) C0 w_TBm hh hS hl.1 [.int x1] [] (S_Mod_isInitiator _ _ _ _ hw) hr34 rfl k_m_Mod_79 k_inst_Mod_isInitiator k_sel_Mod_isInitiator k_ini_Mod k_code_Mod_isInitiator (by decide +kernel) rfl rfl (Nat.le_of_ble_eq_true rfl) ⟨(Nat.le_of_ble_eq_true rfl), (Nat.le_of_ble_eq_true rfl)⟩ ⟨(Nat.le_of_ble_eq_true rfl), (Nat.le_of_ble_eq_true rfl)⟩ d_Mod_drain_7 (h_kI (k := 0) (n := 0) (Nat.le_of_ble_eq_true rfl) (Nat.le_of_ble_eq_true rfl) (fun i36 h35 H locs hw hh hS => ?_))
  refine lv_if_ne (tgt := 16) hx hb d_Mod_drain_10 (by decide) (fun c37 => ?_) (fun c37 => ?_)
  · have hw := hw.1 c37
    refine lv_aload_n hx hb d_Mod_drain_16 rfl (lv_at hl 0 rfl) ?_
    obtain ⟨fs38, r41, hr39, hk40, hw⟩ := hw
    refine h_get C0 hh hr39 hk40 rfl i_Mod (by decide) k_f_Mod_16 (fun _ h9 => h9) d_Mod_drain_17 ?_
    refine lv_iload_n hx hb d_Mod_drain_20 rfl (lv_at hl 1 rfl) ?_
    refine lv_iconst (v := 1) hx hb d_Mod_drain_21 (by decide) ?_
    refine lv_isub hx hb d_Mod_drain_22 ?_
    obtain ⟨n42, f43, hr44, hi45, hw⟩ := hw
    refine h_zald C0 hh hr44 hi45 rfl d_Mod_drain_23 ?_
    refine lv_topi (fun x3_46 ex3_46 => ?_)
    have hw := hw x3_46 ex3_46
    refine lv_istore_n (lv' := [(3, .int x3_46), (0, .ref x0), (1, .int x1), (2, .int x2)]) hx hb d_Mod_drain_24 rfl hl (by decide) rfl (fun ls hl => ?_)
    refine lv_aload_n hx hb d_Mod_drain_25 rfl (lv_at hl 1 rfl) ?_
    obtain ⟨fs47, r50, hr48, hk49, hw⟩ := hw
    refine h_get C0 hh hr48 hk49 rfl i_Mod (by decide) k_f_Mod_16 (fun _ h9 => h9) d_Mod_drain_26 ?_
    refine lv_iload_n hx hb d_Mod_drain_29 rfl (lv_at hl 2 rfl) ?_
    refine lv_iconst (v := 1) hx hb d_Mod_drain_30 (by decide) ?_
    refine lv_isub hx hb d_Mod_drain_31 ?_
    refine lv_iload_n hx hb d_Mod_drain_32 rfl (lv_at hl 3 rfl) ?_
    obtain ⟨n51, f52, hr53, hi54, hw⟩ := hw
    obtain ⟨hz9, hw⟩ := hw
    refine h_zast C0 hh hS hr53 hi54 rfl (h_vz hz9) d_Mod_drain_33 (fun H locs hh hS => ?_)
    obtain ⟨h55, eh55⟩ : ∃ z : hM, z = h_up h35 r50 (eT 3 n51 (upd f52 (x1 - (1 : Int32)).toNatClampNeg x2)) := ⟨_, rfl⟩
    rw [← eh55] at hh
    have hw := hw h55 eh55
    refine lv_iload_n hx hb d_Mod_drain_34 rfl (lv_at hl 0 rfl) ?_
    refine lv_iload_n hx hb d_Mod_drain_35 rfl (lv_at hl 3 rfl) ?_
    refine lv_icmp_ne (tgt := 43) hx hb d_Mod_drain_36 (by decide) (fun c56 => ?_) (fun c56 => ?_)
    · have hw := hw.1 c56
      refine lv_iconst (v := 1) hx hb d_Mod_drain_43 (by decide) ?_
      exact h_iret C0 hh hS rfl rfl ⟨_, rfl, hw⟩ d_Mod_drain_44
    · have hw := hw.2 c56
      refine lv_iconst (v := 0) hx hb d_Mod_drain_39 (by decide) ?_
      refine lv_goto (tgt := 44) hx hb d_Mod_drain_40 (by decide) ?_
      exact h_iret C0 hh hS rfl rfl ⟨_, rfl, hw⟩ d_Mod_drain_44
  · have hw := hw.2 c37
    refine lv_bipush (v := -2) hx hb d_Mod_drain_13 (by decide) ?_
    exact h_iret C0 hh hS rfl rfl ⟨_, rfl, hw⟩ d_Mod_drain_15
set_option maxHeartbeats 4000000 in
set_option maxRecDepth 100000 in
theorem S_Mod_weight {l : Launch} {κ : hX} (Q : Int32 → hM → Prop) (h : hM) (x0 : Nat) (x1 : Int32) (x2 : Int32) (hw : P_Mod_weight Q h x0 x1 x2) : Met l y_Mod_weight [Cond.code y_Mod_weight b_Mod_weight 3 (some .int)] rm_Mod_weight (hPc κ w_cl w_tl w_tb [.ref x0, .int x1, .int x2] h) (hQ κ w_cl (qI Q)) 0 0 (h_A κ) := by
  refine h_enter w_TBm (by decide) (Nat.le_of_ble_eq_true rfl) ?_
  intro p e s m args below meth c C0 hnm hh hS ls hl
  obtain ⟨hx, hb, hml, hown, hts, hK, hF0, hrt, hlocks⟩ := id C0
  have hl : lv_has ls 3 [(0, .ref x0), (1, .int x1), (2, .int x2)] := hl
  refine lv_aload_n hx hb d_Mod_weight_0 rfl (lv_at hl 0 rfl) ?_
  refine lv_iconst (v := 0) hx hb d_Mod_weight_1 (by decide) ?_
  obtain ⟨fs19, hr20, hk21, hw⟩ := hw
  refine h_put C0 hh hS (v := .int (0 : Int32)) hr20 hk21 rfl i_Mod t_Mod t_Mod_ok n_Mod (by decide) k_f_Mod_69 (fun _ h9 => h9) rfl rfl rfl rfl d_Mod_weight_2 (fun H locs hh hS => ?_)
  obtain ⟨h22, eh22⟩ : ∃ z : hM, z = h_up h x0 (eO 6 (fs19.set 0 (.int (0 : Int32)))) := ⟨_, rfl⟩
  rw [← eh22] at hh
  have hw := hw h22 eh22
  refine lv_iload_n hx hb d_Mod_weight_5 rfl (lv_at hl 1 rfl) ?_
  refine h_callS (n := 1) C0 w_TBm hh hS hl.1 [.int x1] [] (S_Mod_isClass _ _ _ hw) k_m_Mod_83 k_stat_Mod_isClass k_ini_Mod k_code_Mod_isClass (by decide +kernel) rfl rfl (Nat.le_of_ble_eq_true rfl) ⟨(Nat.le_of_ble_eq_true rfl), (Nat.le_of_ble_eq_true rfl)⟩ ⟨(Nat.le_of_ble_eq_true rfl), (Nat.le_of_ble_eq_true rfl)⟩ d_Mod_weight_6 (h_kI (k := 0) (n := 0) (Nat.le_of_ble_eq_true rfl) (Nat.le_of_ble_eq_true rfl) (fun i24 h23 H locs hw hh hS => ?_))
  refine lv_if_eq (tgt := 23) hx hb d_Mod_weight_9 (by decide) (fun c25 => ?_) (fun c25 => ?_)
  · have hw := hw.1 c25
    refine lv_bipush (v := -4) hx hb d_Mod_weight_23 (by decide) ?_
    exact h_iret C0 hh hS rfl rfl ⟨_, rfl, hw⟩ d_Mod_weight_25
  · have hw := hw.2 c25
    refine lv_iload_n hx hb d_Mod_weight_12 rfl (lv_at hl 2 rfl) ?_
    refine lv_if_lt (tgt := 23) hx hb d_Mod_weight_13 (by decide) (fun c26 => ?_) (fun c26 => ?_)
    · have hw := hw.1 c26
      refine lv_bipush (v := -4) hx hb d_Mod_weight_23 (by decide) ?_
      exact h_iret C0 hh hS rfl rfl ⟨_, rfl, hw⟩ d_Mod_weight_25
    · have hw := hw.2 c26
      refine lv_iload_n hx hb d_Mod_weight_16 rfl (lv_at hl 2 rfl) ?_
      refine lv_sipush (v := 1000) hx hb d_Mod_weight_17 (by decide) ?_
      refine lv_icmp_le (tgt := 26) hx hb d_Mod_weight_20 (by decide) (fun c27 => ?_) (fun c27 => ?_)
      · have hw := hw.1 c27
        refine lv_aload_n hx hb d_Mod_weight_26 rfl (lv_at hl 0 rfl) ?_
        obtain ⟨fs28, r31, hr29, hk30, hw⟩ := hw
        refine h_get C0 hh hr29 hk30 rfl i_Mod (by decide) k_f_Mod_29 (fun _ h9 => h9) d_Mod_weight_27 ?_
        refine lv_iload_n hx hb d_Mod_weight_30 rfl (lv_at hl 1 rfl) ?_
        refine lv_iload_n hx hb d_Mod_weight_31 rfl (lv_at hl 2 rfl) ?_
        obtain ⟨n32, f33, hr34, hi35, hw⟩ := hw
        refine h_iast C0 hh hS hr34 hi35 rfl d_Mod_weight_32 (fun H locs hh hS => ?_)
        obtain ⟨h36, eh36⟩ : ∃ z : hM, z = h_up h23 r31 (eT 0 n32 (upd f33 x1.toNatClampNeg x2)) := ⟨_, rfl⟩
        rw [← eh36] at hh
        have hw := hw h36 eh36
        refine lv_iconst (v := 1) hx hb d_Mod_weight_33 (by decide) ?_
        exact h_iret C0 hh hS rfl rfl ⟨_, rfl, hw⟩ d_Mod_weight_34
      · have hw := hw.2 c27
        refine lv_bipush (v := -4) hx hb d_Mod_weight_23 (by decide) ?_
        exact h_iret C0 hh hS rfl rfl ⟨_, rfl, hw⟩ d_Mod_weight_25
set_option maxHeartbeats 4000000 in
set_option maxRecDepth 100000 in
theorem S_Mod_share_187 {p : Program} {l : Launch} {e : Env} {s : State} {m : MethodId} {args : Array Value} {below : List Frame} {meth : Method} {c : Code} {κ : hX} {Q : Int64 → hM → Prop} {K104 : hM → Nat → Int32 → Int64 → Int64 → Int64 → Int64 → Int32 → Int64 → Int32 → Prop} (C0 : Cw κ w_cl w_tl w_tb p s m args meth c b_Mod_share 18 R_Mod (some .long)) (hK104 : ∀ (h : hM) (x0 : Nat) (x1 : Int32) (x4 : Int64) (x6 : Int64) (x8 : Int64) (x10 : Int64) (x12 : Int32) (x13 : Int64) (x15 : Int32) (H : Heap) (locs : List Loc) (ls : Array Slot), K104 h x0 x1 x4 x6 x8 x10 x12 x13 x15 → hp κ w_cl h H → va_S (h_A κ) s.heap H locs → lv_has ls 18 [(0, .ref x0), (1, .int x1), (4, .long x4), (6, .long x6), (8, .long x8), (10, .long x10), (12, .int x12), (13, .long x13), (15, .int x15)] → W p l e rm_Mod_share s m args below meth c H locs 0 0 (MQ below (hQ κ w_cl (qJ Q)) args s 0 0 (h_A κ)) (F0 m 104 ls [])) : ∀ (h : hM) (x0 : Nat) (x1 : Int32) (x4 : Int64) (x6 : Int64) (x8 : Int64) (x10 : Int64) (x13 : Int64) (x15 : Int32) (t0 : Int32) (t1 : Int32) (H : Heap) (locs : List Loc) (ls : Array Slot), P_Mod_share_187 Q K104 h x0 x1 x4 x6 x8 x10 x13 x15 t0 t1 → hp κ w_cl h H → va_S (h_A κ) s.heap H locs → lv_has ls 18 [(0, .ref x0), (1, .int x1), (4, .long x4), (6, .long x6), (8, .long x8), (10, .long x10), (13, .long x13), (15, .int x15)] → W p l e rm_Mod_share s m args below meth c H locs 0 0 (MQ below (hQ κ w_cl (qJ Q)) args s 0 0 (h_A κ)) (F0 m 187 ls [.int t0, .int t1]) := by
  obtain ⟨hx, hb, hml, hown, hts, hK, hF0, hrt, hlocks⟩ := id C0
  intro h x0 x1 x4 x6 x8 x10 x13 x15 t0 t1 H locs ls hw hh hS hl
  refine lv_iadd hx hb d_Mod_share_187 ?_
  refine lv_topi (fun x12_169 ex12_169 => ?_)
  have hw := hw x12_169 ex12_169
  refine lv_istore (lv' := [(12, .int x12_169), (0, .ref x0), (1, .int x1), (4, .long x4), (6, .long x6), (8, .long x8), (10, .long x10), (13, .long x13), (15, .int x15)]) hx hb d_Mod_share_188 hl (by decide) rfl (fun ls hl => ?_)
  obtain ⟨x15_170, ex15_170⟩ : ∃ z : Int32, z = x15 + 1 := ⟨_, rfl⟩
  have hw := hw x15_170 ex15_170
  refine lv_iinc (v := x15_170) (lv' := [(15, .int x15_170), (12, .int x12_169), (0, .ref x0), (1, .int x1), (4, .long x4), (6, .long x6), (8, .long x8), (10, .long x10), (13, .long x13)]) hx hb d_Mod_share_190 hl (k := 8) rfl (by rw [ex15_170]; rfl) (by decide) rfl (fun ls hl => ?_)
  refine lv_goto (tgt := 104) hx hb d_Mod_share_193 (by decide) ?_
  exact hK104 _ _ _ _ _ _ _ _ _ _ _ _ _ hw hh hS (lv_sub hl [2, 3, 4, 5, 6, 7, 1, 8, 0] rfl)
set_option maxHeartbeats 4000000 in
set_option maxRecDepth 100000 in
theorem S_Mod_share_182 {p : Program} {l : Launch} {e : Env} {s : State} {m : MethodId} {args : Array Value} {below : List Frame} {meth : Method} {c : Code} {κ : hX} {Q : Int64 → hM → Prop} {K104 : hM → Nat → Int32 → Int64 → Int64 → Int64 → Int64 → Int32 → Int64 → Int32 → Prop} (C0 : Cw κ w_cl w_tl w_tb p s m args meth c b_Mod_share 18 R_Mod (some .long)) (hK104 : ∀ (h : hM) (x0 : Nat) (x1 : Int32) (x4 : Int64) (x6 : Int64) (x8 : Int64) (x10 : Int64) (x12 : Int32) (x13 : Int64) (x15 : Int32) (H : Heap) (locs : List Loc) (ls : Array Slot), K104 h x0 x1 x4 x6 x8 x10 x12 x13 x15 → hp κ w_cl h H → va_S (h_A κ) s.heap H locs → lv_has ls 18 [(0, .ref x0), (1, .int x1), (4, .long x4), (6, .long x6), (8, .long x8), (10, .long x10), (12, .int x12), (13, .long x13), (15, .int x15)] → W p l e rm_Mod_share s m args below meth c H locs 0 0 (MQ below (hQ κ w_cl (qJ Q)) args s 0 0 (h_A κ)) (F0 m 104 ls [])) : ∀ (h : hM) (x0 : Nat) (x1 : Int32) (x4 : Int64) (x6 : Int64) (x8 : Int64) (x10 : Int64) (x13 : Int64) (x15 : Int32) (t0 : Int32) (H : Heap) (locs : List Loc) (ls : Array Slot), P_Mod_share_182 Q K104 h x0 x1 x4 x6 x8 x10 x13 x15 t0 → hp κ w_cl h H → va_S (h_A κ) s.heap H locs → lv_has ls 18 [(0, .ref x0), (1, .int x1), (4, .long x4), (6, .long x6), (8, .long x8), (10, .long x10), (13, .long x13), (15, .int x15)] → W p l e rm_Mod_share s m args below meth c H locs 0 0 (MQ below (hQ κ w_cl (qJ Q)) args s 0 0 (h_A κ)) (F0 m 182 ls [.int t0]) := by
  obtain ⟨hx, hb, hml, hown, hts, hK, hF0, hrt, hlocks⟩ := id C0
  intro h x0 x1 x4 x6 x8 x10 x13 x15 t0 H locs ls hw hh hS hl
  refine lv_iconst (v := 1) hx hb d_Mod_share_182 (by decide) ?_
  refine lv_goto (tgt := 187) hx hb d_Mod_share_183 (by decide) ?_
  exact S_Mod_share_187 C0 hK104 _ _ _ _ _ _ _ _ _ _ _ _ _ _ hw hh hS (lv_sub hl [0, 1, 2, 3, 4, 5, 6, 7] rfl)
set_option maxHeartbeats 4000000 in
set_option maxRecDepth 100000 in
theorem S_Mod_share_186 {p : Program} {l : Launch} {e : Env} {s : State} {m : MethodId} {args : Array Value} {below : List Frame} {meth : Method} {c : Code} {κ : hX} {Q : Int64 → hM → Prop} {K104 : hM → Nat → Int32 → Int64 → Int64 → Int64 → Int64 → Int32 → Int64 → Int32 → Prop} (C0 : Cw κ w_cl w_tl w_tb p s m args meth c b_Mod_share 18 R_Mod (some .long)) (hK104 : ∀ (h : hM) (x0 : Nat) (x1 : Int32) (x4 : Int64) (x6 : Int64) (x8 : Int64) (x10 : Int64) (x12 : Int32) (x13 : Int64) (x15 : Int32) (H : Heap) (locs : List Loc) (ls : Array Slot), K104 h x0 x1 x4 x6 x8 x10 x12 x13 x15 → hp κ w_cl h H → va_S (h_A κ) s.heap H locs → lv_has ls 18 [(0, .ref x0), (1, .int x1), (4, .long x4), (6, .long x6), (8, .long x8), (10, .long x10), (12, .int x12), (13, .long x13), (15, .int x15)] → W p l e rm_Mod_share s m args below meth c H locs 0 0 (MQ below (hQ κ w_cl (qJ Q)) args s 0 0 (h_A κ)) (F0 m 104 ls [])) : ∀ (h : hM) (x0 : Nat) (x1 : Int32) (x4 : Int64) (x6 : Int64) (x8 : Int64) (x10 : Int64) (x13 : Int64) (x15 : Int32) (t0 : Int32) (H : Heap) (locs : List Loc) (ls : Array Slot), P_Mod_share_186 Q K104 h x0 x1 x4 x6 x8 x10 x13 x15 t0 → hp κ w_cl h H → va_S (h_A κ) s.heap H locs → lv_has ls 18 [(0, .ref x0), (1, .int x1), (4, .long x4), (6, .long x6), (8, .long x8), (10, .long x10), (13, .long x13), (15, .int x15)] → W p l e rm_Mod_share s m args below meth c H locs 0 0 (MQ below (hQ κ w_cl (qJ Q)) args s 0 0 (h_A κ)) (F0 m 186 ls [.int t0]) := by
  obtain ⟨hx, hb, hml, hown, hts, hK, hF0, hrt, hlocks⟩ := id C0
  intro h x0 x1 x4 x6 x8 x10 x13 x15 t0 H locs ls hw hh hS hl
  refine lv_iconst (v := 0) hx hb d_Mod_share_186 (by decide) ?_
  exact S_Mod_share_187 C0 hK104 _ _ _ _ _ _ _ _ _ _ _ _ _ _ hw hh hS (lv_sub hl [0, 1, 2, 3, 4, 5, 6, 7] rfl)
set_option maxHeartbeats 4000000 in
set_option maxRecDepth 100000 in
theorem S_Mod_share_104 {p : Program} {l : Launch} {e : Env} {s : State} {m : MethodId} {args : Array Value} {below : List Frame} {meth : Method} {c : Code} {κ : hX} {Q : Int64 → hM → Prop} (C0 : Cw κ w_cl w_tl w_tb p s m args meth c b_Mod_share 18 R_Mod (some .long)) : ∀ (n : Nat) (h : hM) (x0 : Nat) (x1 : Int32) (x4 : Int64) (x6 : Int64) (x8 : Int64) (x10 : Int64) (x12 : Int32) (x13 : Int64) (x15 : Int32) (H : Heap) (locs : List Loc) (ls : Array Slot), L_Mod_share_104 Q n h x0 x1 x4 x6 x8 x10 x12 x13 x15 → hp κ w_cl h H → va_S (h_A κ) s.heap H locs → lv_has ls 18 [(0, .ref x0), (1, .int x1), (4, .long x4), (6, .long x6), (8, .long x8), (10, .long x10), (12, .int x12), (13, .long x13), (15, .int x15)] → W p l e rm_Mod_share s m args below meth c H locs 0 0 (MQ below (hQ κ w_cl (qJ Q)) args s 0 0 (h_A κ)) (F0 m 104 ls []) := by
  obtain ⟨hx, hb, hml, hown, hts, hK, hF0, hrt, hlocks⟩ := id C0
  intro n
  induction n with
  | zero =>
    intro h x0 x1 x4 x6 x8 x10 x12 x13 x15 H locs ls hw
    exact hw.elim
  | succ n hK104 =>
    intro h x0 x1 x4 x6 x8 x10 x12 x13 x15 H locs ls hw hh hS hl
    have hw : P_Mod_share_104 Q (L_Mod_share_104 Q n) h x0 x1 x4 x6 x8 x10 x12 x13 x15 := hw
    refine lv_iload hx hb d_Mod_share_104 (lv_at hl 8 rfl) ?_
    refine lv_bipush (v := 36) hx hb d_Mod_share_106 (by decide) ?_
    refine lv_icmp_ge (tgt := 196) hx hb d_Mod_share_108 (by decide) (fun c171 => ?_) (fun c171 => ?_)
    · have hw := hw.1 c171
      refine lv_lload hx hb d_Mod_share_196 (lv_at hl 3 rfl) ?_
      refine lv_aload_n hx hb d_Mod_share_198 rfl (lv_at hl 0 rfl) ?_
      obtain ⟨fs172, r175, hr173, hk174, hw⟩ := hw
      refine h_get C0 hh hr173 hk174 rfl i_Mod (by decide) k_f_Mod_29 (fun _ h9 => h9) d_Mod_share_199 ?_
      refine lv_iload_n hx hb d_Mod_share_202 rfl (lv_at hl 1 rfl) ?_
      obtain ⟨n176, f177, hr178, hi179, hw⟩ := hw
      refine h_iald C0 hh hr178 hi179 rfl d_Mod_share_203 ?_
      refine lv_i2l (v := (f177 x1.toNatClampNeg).toInt64) hx hb d_Mod_share_204 rfl ?_
      refine lv_lmul hx hb d_Mod_share_205 ?_
      refine lv_lload hx hb d_Mod_share_206 (lv_at hl 4 rfl) ?_
      refine lv_aload_n hx hb d_Mod_share_208 rfl (lv_at hl 0 rfl) ?_
      obtain ⟨fs180, r183, hr181, hk182, hw⟩ := hw
      refine h_get C0 hh hr181 hk182 rfl i_Mod (by decide) k_f_Mod_29 (fun _ h9 => h9) d_Mod_share_209 ?_
      refine lv_iload_n hx hb d_Mod_share_212 rfl (lv_at hl 1 rfl) ?_
      obtain ⟨n184, f185, hr186, hi187, hw⟩ := hw
      refine h_iald C0 hh hr186 hi187 rfl d_Mod_share_213 ?_
      refine lv_i2l (v := (f185 x1.toNatClampNeg).toInt64) hx hb d_Mod_share_214 rfl ?_
      refine lv_lmul hx hb d_Mod_share_215 ?_
      refine lv_lload hx hb d_Mod_share_216 (lv_at hl 2 rfl) ?_
      obtain ⟨hne, hw⟩ := hw
      refine lv_ldiv hx hb d_Mod_share_218 hne ?_
      refine lv_ladd hx hb d_Mod_share_219 ?_
      refine lv_iload hx hb d_Mod_share_220 (lv_at hl 6 rfl) ?_
      refine lv_i2l (v := x12.toInt64) hx hb d_Mod_share_222 rfl ?_
      refine lv_lload hx hb d_Mod_share_223 (lv_at hl 5 rfl) ?_
      refine W.lcmp hx hb d_Mod_share_225 ?_
      refine lv_if_ge (tgt := 233) hx hb d_Mod_share_226 (by decide) (fun c188 => ?_) (fun c188 => ?_)
      · have hw := hw.1 ((lg_cmp_ge _ _).mp c188)
        refine lv_lconst (v := 0) hx hb d_Mod_share_233 (by decide) ?_
        refine lv_ladd hx hb d_Mod_share_234 ?_
        exact h_lret C0 hh hS rfl ⟨_, rfl, hw⟩ d_Mod_share_235
      · have hw := hw.2 (fun z => c188 ((lg_cmp_ge _ _).mpr z))
        refine lv_lconst (v := 1) hx hb d_Mod_share_229 (by decide) ?_
        refine lv_goto (tgt := 234) hx hb d_Mod_share_230 (by decide) ?_
        refine lv_ladd hx hb d_Mod_share_234 ?_
        exact h_lret C0 hh hS rfl ⟨_, rfl, hw⟩ d_Mod_share_235
    · have hw := hw.2 c171
      refine lv_lload hx hb d_Mod_share_111 (lv_at hl 5 rfl) ?_
      refine lv_lload hx hb d_Mod_share_113 (lv_at hl 3 rfl) ?_
      refine lv_aload_n hx hb d_Mod_share_115 rfl (lv_at hl 0 rfl) ?_
      obtain ⟨fs189, r192, hr190, hk191, hw⟩ := hw
      refine h_get C0 hh hr190 hk191 rfl i_Mod (by decide) k_f_Mod_29 (fun _ h9 => h9) d_Mod_share_116 ?_
      refine lv_iload hx hb d_Mod_share_119 (lv_at hl 8 rfl) ?_
      obtain ⟨n193, f194, hr195, hi196, hw⟩ := hw
      refine h_iald C0 hh hr195 hi196 rfl d_Mod_share_121 ?_
      refine lv_i2l (v := (f194 x15.toNatClampNeg).toInt64) hx hb d_Mod_share_122 rfl ?_
      refine lv_lmul hx hb d_Mod_share_123 ?_
      refine lv_lload hx hb d_Mod_share_124 (lv_at hl 4 rfl) ?_
      refine lv_aload_n hx hb d_Mod_share_126 rfl (lv_at hl 0 rfl) ?_
      obtain ⟨fs197, r200, hr198, hk199, hw⟩ := hw
      refine h_get C0 hh hr198 hk199 rfl i_Mod (by decide) k_f_Mod_29 (fun _ h9 => h9) d_Mod_share_127 ?_
      refine lv_iload hx hb d_Mod_share_130 (lv_at hl 8 rfl) ?_
      obtain ⟨n201, f202, hr203, hi204, hw⟩ := hw
      refine h_iald C0 hh hr203 hi204 rfl d_Mod_share_132 ?_
      refine lv_i2l (v := (f202 x15.toNatClampNeg).toInt64) hx hb d_Mod_share_133 rfl ?_
      refine lv_lmul hx hb d_Mod_share_134 ?_
      refine lv_lload hx hb d_Mod_share_135 (lv_at hl 2 rfl) ?_
      obtain ⟨hne, hw⟩ := hw
      refine lv_ldiv hx hb d_Mod_share_137 hne ?_
      refine lv_ladd hx hb d_Mod_share_138 ?_
      refine lv_lsub hx hb d_Mod_share_139 ?_
      refine lv_topl (fun x10_205 ex10_205 => ?_)
      have hw := hw x10_205 ex10_205
      refine lv_lstore (lv' := [(10, .long x10_205), (0, .ref x0), (1, .int x1), (4, .long x4), (6, .long x6), (8, .long x8), (12, .int x12), (13, .long x13), (15, .int x15)]) hx hb d_Mod_share_140 hl (by decide) rfl (fun ls hl => ?_)
      refine lv_lload hx hb d_Mod_share_142 (lv_at hl 5 rfl) ?_
      refine lv_aload_n hx hb d_Mod_share_144 rfl (lv_at hl 1 rfl) ?_
      obtain ⟨fs206, r209, hr207, hk208, hw⟩ := hw
      refine h_get C0 hh hr207 hk208 rfl i_Mod (by decide) k_f_Mod_29 (fun _ h9 => h9) d_Mod_share_145 ?_
      refine lv_iload hx hb d_Mod_share_148 (lv_at hl 8 rfl) ?_
      obtain ⟨n210, f211, hr212, hi213, hw⟩ := hw
      refine h_iald C0 hh hr212 hi213 rfl d_Mod_share_150 ?_
      refine lv_i2l (v := (f211 x15.toNatClampNeg).toInt64) hx hb d_Mod_share_151 rfl ?_
      refine lv_lmul hx hb d_Mod_share_152 ?_
      refine lv_lload hx hb d_Mod_share_153 (lv_at hl 3 rfl) ?_
      obtain ⟨hne, hw⟩ := hw
      refine lv_lrem hx hb d_Mod_share_155 hne ?_
      refine lv_topl (fun x16_214 ex16_214 => ?_)
      have hw := hw x16_214 ex16_214
      refine lv_lstore (lv' := [(16, .long x16_214), (10, .long x10_205), (0, .ref x0), (1, .int x1), (4, .long x4), (6, .long x6), (8, .long x8), (12, .int x12), (13, .long x13), (15, .int x15)]) hx hb d_Mod_share_156 hl (by decide) rfl (fun ls hl => ?_)
      refine lv_iload hx hb d_Mod_share_158 (lv_at hl 7 rfl) ?_
      refine lv_lload hx hb d_Mod_share_160 (lv_at hl 0 rfl) ?_
      refine lv_lload hx hb d_Mod_share_162 (lv_at hl 8 rfl) ?_
      refine W.lcmp hx hb d_Mod_share_164 ?_
      refine lv_if_gt (tgt := 182) hx hb d_Mod_share_165 (by decide) (fun c215 => ?_) (fun c215 => ?_)
      · have hw := hw.1 ((lg_cmp_gt _ _).mp c215)
        exact S_Mod_share_182 C0 hK104 _ _ _ _ _ _ _ _ _ _ _ _ _ hw hh hS (lv_sub hl [2, 3, 4, 5, 6, 1, 8, 9] rfl)
      · have hw := hw.2 (fun z => c215 ((lg_cmp_gt _ _).mpr z))
        refine lv_lload hx hb d_Mod_share_168 (lv_at hl 0 rfl) ?_
        refine lv_lload hx hb d_Mod_share_170 (lv_at hl 8 rfl) ?_
        refine W.lcmp hx hb d_Mod_share_172 ?_
        refine lv_if_ne (tgt := 186) hx hb d_Mod_share_173 (by decide) (fun c216 => ?_) (fun c216 => ?_)
        · have hw := hw.1 (fun z => c216 ((lg_cmp_eq _ _).mpr z))
          exact S_Mod_share_186 C0 hK104 _ _ _ _ _ _ _ _ _ _ _ _ _ hw hh hS (lv_sub hl [2, 3, 4, 5, 6, 1, 8, 9] rfl)
        · have hw := hw.2 ((lg_cmp_eq _ _).mp c216)
          refine lv_iload hx hb d_Mod_share_176 (lv_at hl 9 rfl) ?_
          refine lv_iload_n hx hb d_Mod_share_178 rfl (lv_at hl 3 rfl) ?_
          refine lv_icmp_ge (tgt := 186) hx hb d_Mod_share_179 (by decide) (fun c217 => ?_) (fun c217 => ?_)
          · have hw := hw.1 c217
            exact S_Mod_share_186 C0 hK104 _ _ _ _ _ _ _ _ _ _ _ _ _ hw hh hS (lv_sub hl [2, 3, 4, 5, 6, 1, 8, 9] rfl)
          · have hw := hw.2 c217
            exact S_Mod_share_182 C0 hK104 _ _ _ _ _ _ _ _ _ _ _ _ _ hw hh hS (lv_sub hl [2, 3, 4, 5, 6, 1, 8, 9] rfl)
set_option maxHeartbeats 4000000 in
set_option maxRecDepth 100000 in
theorem S_Mod_share_28 {p : Program} {l : Launch} {e : Env} {s : State} {m : MethodId} {args : Array Value} {below : List Frame} {meth : Method} {c : Code} {κ : hX} {Q : Int64 → hM → Prop} (C0 : Cw κ w_cl w_tl w_tb p s m args meth c b_Mod_share 18 R_Mod (some .long)) : ∀ (n : Nat) (h : hM) (x0 : Nat) (x1 : Int32) (x2 : Int64) (x4 : Int64) (x6 : Int32) (H : Heap) (locs : List Loc) (ls : Array Slot), L_Mod_share_28 Q n h x0 x1 x2 x4 x6 → hp κ w_cl h H → va_S (h_A κ) s.heap H locs → lv_has ls 18 [(0, .ref x0), (1, .int x1), (2, .long x2), (4, .long x4), (6, .int x6)] → W p l e rm_Mod_share s m args below meth c H locs 0 0 (MQ below (hQ κ w_cl (qJ Q)) args s 0 0 (h_A κ)) (F0 m 28 ls []) := by
  obtain ⟨hx, hb, hml, hown, hts, hK, hF0, hrt, hlocks⟩ := id C0
  intro n
  induction n with
  | zero =>
    intro h x0 x1 x2 x4 x6 H locs ls hw
    exact hw.elim
  | succ n hK28 =>
    intro h x0 x1 x2 x4 x6 H locs ls hw hh hS hl
    have hw : P_Mod_share_28 Q (L_Mod_share_28 Q n) h x0 x1 x2 x4 x6 := hw
    refine lv_iload hx hb d_Mod_share_28 (lv_at hl 4 rfl) ?_
    refine lv_bipush (v := 36) hx hb d_Mod_share_30 (by decide) ?_
    refine lv_icmp_ge (tgt := 54) hx hb d_Mod_share_32 (by decide) (fun c218 => ?_) (fun c218 => ?_)
    · have hw := hw.1 c218
      refine lv_lload hx hb d_Mod_share_54 (lv_at hl 3 rfl) ?_
      refine lv_lconst (v := 0) hx hb d_Mod_share_56 (by decide) ?_
      refine W.lcmp hx hb d_Mod_share_57 ?_
      refine lv_if_ne (tgt := 68) hx hb d_Mod_share_58 (by decide) (fun c219 => ?_) (fun c219 => ?_)
      · have hw := hw.1 (fun z => c219 ((lg_cmp_eq _ _).mpr z))
        refine lv_lload_n hx hb d_Mod_share_68 rfl (lv_at hl 2 rfl) ?_
        refine lv_lload hx hb d_Mod_share_69 (lv_at hl 3 rfl) ?_
        obtain ⟨hne, hw⟩ := hw
        refine lv_ldiv hx hb d_Mod_share_71 hne ?_
        refine lv_topl (fun x6_220 ex6_220 => ?_)
        have hw := hw x6_220 ex6_220
        refine lv_lstore (lv' := [(6, .long x6_220), (0, .ref x0), (1, .int x1), (2, .long x2), (4, .long x4)]) hx hb d_Mod_share_72 hl (by decide) rfl (fun ls hl => ?_)
        refine lv_lload_n hx hb d_Mod_share_74 rfl (lv_at hl 3 rfl) ?_
        refine lv_lload hx hb d_Mod_share_75 (lv_at hl 4 rfl) ?_
        obtain ⟨hne, hw⟩ := hw
        refine lv_lrem hx hb d_Mod_share_77 hne ?_
        refine lv_topl (fun x8_221 ex8_221 => ?_)
        have hw := hw x8_221 ex8_221
        refine lv_lstore (lv' := [(8, .long x8_221), (6, .long x6_220), (0, .ref x0), (1, .int x1), (2, .long x2), (4, .long x4)]) hx hb d_Mod_share_78 hl (by decide) rfl (fun ls hl => ?_)
        refine lv_lload_n hx hb d_Mod_share_80 rfl (lv_at hl 4 rfl) ?_
        refine lv_lstore (lv' := [(10, .long x2), (8, .long x8_221), (6, .long x6_220), (0, .ref x0), (1, .int x1), (2, .long x2), (4, .long x4)]) hx hb d_Mod_share_81 hl (by decide) rfl (fun ls hl => ?_)
        refine lv_iconst (v := 0) hx hb d_Mod_share_83 (by decide) ?_
        refine lv_istore (lv' := [(12, .int (0 : Int32)), (10, .long x2), (8, .long x8_221), (6, .long x6_220), (0, .ref x0), (1, .int x1), (2, .long x2), (4, .long x4)]) hx hb d_Mod_share_84 hl (by decide) rfl (fun ls hl => ?_)
        refine lv_lload hx hb d_Mod_share_86 (lv_at hl 2 rfl) ?_
        refine lv_aload_n hx hb d_Mod_share_88 rfl (lv_at hl 4 rfl) ?_
        obtain ⟨fs222, r225, hr223, hk224, hw⟩ := hw
        refine h_get C0 hh hr223 hk224 rfl i_Mod (by decide) k_f_Mod_29 (fun _ h9 => h9) d_Mod_share_89 ?_
        refine lv_iload_n hx hb d_Mod_share_92 rfl (lv_at hl 5 rfl) ?_
        obtain ⟨n226, f227, hr228, hi229, hw⟩ := hw
        refine h_iald C0 hh hr228 hi229 rfl d_Mod_share_93 ?_
        refine lv_i2l (v := (f227 x1.toNatClampNeg).toInt64) hx hb d_Mod_share_94 rfl ?_
        refine lv_lmul hx hb d_Mod_share_95 ?_
        refine lv_lload hx hb d_Mod_share_96 (lv_at hl 7 rfl) ?_
        obtain ⟨hne, hw⟩ := hw
        refine lv_lrem hx hb d_Mod_share_98 hne ?_
        refine lv_topl (fun x13_230 ex13_230 => ?_)
        have hw := hw x13_230 ex13_230
        refine lv_lstore (lv' := [(13, .long x13_230), (12, .int (0 : Int32)), (10, .long x2), (8, .long x8_221), (6, .long x6_220), (0, .ref x0), (1, .int x1), (2, .long x2), (4, .long x4)]) hx hb d_Mod_share_99 hl (by decide) rfl (fun ls hl => ?_)
        refine lv_iconst (v := 0) hx hb d_Mod_share_101 (by decide) ?_
        refine lv_istore (lv' := [(15, .int (0 : Int32)), (13, .long x13_230), (12, .int (0 : Int32)), (10, .long x2), (8, .long x8_221), (6, .long x6_220), (0, .ref x0), (1, .int x1), (2, .long x2), (4, .long x4)]) hx hb d_Mod_share_102 hl (by decide) rfl (fun ls hl => ?_)
        obtain ⟨n0, hw⟩ := hw
        exact S_Mod_share_104 C0 n0 _ _ _ _ _ _ _ _ _ _ _ _ _ hw hh hS (lv_sub hl [6, 7, 9, 5, 4, 3, 2, 1, 0] rfl)
      · have hw := hw.2 ((lg_cmp_eq _ _).mp c219)
        refine lv_aload_n hx hb d_Mod_share_61 rfl (lv_at hl 0 rfl) ?_
        refine lv_iconst (v := 1) hx hb d_Mod_share_62 (by decide) ?_
        obtain ⟨fs231, hr232, hk233, hw⟩ := hw
        refine h_put C0 hh hS (v := .int (1 : Int32)) hr232 hk233 rfl i_Mod t_Mod t_Mod_ok n_Mod (by decide) k_f_Mod_69 (fun _ h9 => h9) rfl rfl rfl rfl d_Mod_share_63 (fun H locs hh hS => ?_)
        obtain ⟨h234, eh234⟩ : ∃ z : hM, z = h_up h x0 (eO 6 (fs231.set 0 (.int (1 : Int32)))) := ⟨_, rfl⟩
        rw [← eh234] at hh
        have hw := hw h234 eh234
        refine lv_lconst (v := 0) hx hb d_Mod_share_66 (by decide) ?_
        exact h_lret C0 hh hS rfl ⟨_, rfl, hw⟩ d_Mod_share_67
    · have hw := hw.2 c218
      refine lv_lload hx hb d_Mod_share_35 (lv_at hl 3 rfl) ?_
      refine lv_aload_n hx hb d_Mod_share_37 rfl (lv_at hl 0 rfl) ?_
      obtain ⟨fs235, r238, hr236, hk237, hw⟩ := hw
      refine h_get C0 hh hr236 hk237 rfl i_Mod (by decide) k_f_Mod_29 (fun _ h9 => h9) d_Mod_share_38 ?_
      refine lv_iload hx hb d_Mod_share_41 (lv_at hl 4 rfl) ?_
      obtain ⟨n239, f240, hr241, hi242, hw⟩ := hw
      refine h_iald C0 hh hr241 hi242 rfl d_Mod_share_43 ?_
      refine lv_i2l (v := (f240 x6.toNatClampNeg).toInt64) hx hb d_Mod_share_44 rfl ?_
      refine lv_ladd hx hb d_Mod_share_45 ?_
      refine lv_topl (fun x4_243 ex4_243 => ?_)
      have hw := hw x4_243 ex4_243
      refine lv_lstore (lv' := [(4, .long x4_243), (0, .ref x0), (1, .int x1), (2, .long x2), (6, .int x6)]) hx hb d_Mod_share_46 hl (by decide) rfl (fun ls hl => ?_)
      obtain ⟨x6_244, ex6_244⟩ : ∃ z : Int32, z = x6 + 1 := ⟨_, rfl⟩
      have hw := hw x6_244 ex6_244
      refine lv_iinc (v := x6_244) (lv' := [(6, .int x6_244), (4, .long x4_243), (0, .ref x0), (1, .int x1), (2, .long x2)]) hx hb d_Mod_share_48 hl (k := 4) rfl (by rw [ex6_244]; rfl) (by decide) rfl (fun ls hl => ?_)
      refine lv_goto (tgt := 28) hx hb d_Mod_share_51 (by decide) ?_
      exact hK28 _ _ _ _ _ _ _ _ _ hw hh hS (lv_sub hl [2, 3, 4, 1, 0] rfl)
set_option maxHeartbeats 4000000 in
set_option maxRecDepth 100000 in
theorem S_Mod_share {l : Launch} {κ : hX} (Q : Int64 → hM → Prop) (h : hM) (x0 : Nat) (x1 : Int32) (x2 : Int64) (hw : P_Mod_share Q h x0 x1 x2) : Met l y_Mod_share [Cond.code y_Mod_share b_Mod_share 18 (some .long)] rm_Mod_share (hPc κ w_cl w_tl w_tb [.ref x0, .int x1, .long x2] h) (hQ κ w_cl (qJ Q)) 0 0 (h_A κ) := by
  refine h_enter w_TBm (by decide) (Nat.le_of_ble_eq_true rfl) ?_
  intro p e s m args below meth c C0 hnm hh hS ls hl
  obtain ⟨hx, hb, hml, hown, hts, hK, hF0, hrt, hlocks⟩ := id C0
  have hl : lv_has ls 18 [(0, .ref x0), (1, .int x1), (2, .long x2)] := hl
  refine lv_aload_n hx hb d_Mod_share_0 rfl (lv_at hl 0 rfl) ?_
  refine lv_iconst (v := 0) hx hb d_Mod_share_1 (by decide) ?_
  obtain ⟨fs245, hr246, hk247, hw⟩ := hw
  refine h_put C0 hh hS (v := .int (0 : Int32)) hr246 hk247 rfl i_Mod t_Mod t_Mod_ok n_Mod (by decide) k_f_Mod_69 (fun _ h9 => h9) rfl rfl rfl rfl d_Mod_share_2 (fun H locs hh hS => ?_)
  obtain ⟨h248, eh248⟩ : ∃ z : hM, z = h_up h x0 (eO 6 (fs245.set 0 (.int (0 : Int32)))) := ⟨_, rfl⟩
  rw [← eh248] at hh
  have hw := hw h248 eh248
  refine lv_iload_n hx hb d_Mod_share_5 rfl (lv_at hl 1 rfl) ?_
  refine h_callS (n := 1) C0 w_TBm hh hS hl.1 [.int x1] [] (S_Mod_isClass _ _ _ hw) k_m_Mod_83 k_stat_Mod_isClass k_ini_Mod k_code_Mod_isClass (by decide +kernel) rfl rfl (Nat.le_of_ble_eq_true rfl) ⟨(Nat.le_of_ble_eq_true rfl), (Nat.le_of_ble_eq_true rfl)⟩ ⟨(Nat.le_of_ble_eq_true rfl), (Nat.le_of_ble_eq_true rfl)⟩ d_Mod_share_6 (h_kI (k := 0) (n := 0) (Nat.le_of_ble_eq_true rfl) (Nat.le_of_ble_eq_true rfl) (fun i250 h249 H locs hw hh hS => ?_))
  refine lv_if_eq (tgt := 18) hx hb d_Mod_share_9 (by decide) (fun c251 => ?_) (fun c251 => ?_)
  · have hw := hw.1 c251
    refine lv_ldc2 (v := -1) hx hb hown (hts _ k_k_Mod_127) d_Mod_share_18 ?_
    exact h_lret C0 hh hS rfl ⟨_, rfl, hw⟩ d_Mod_share_21
  · have hw := hw.2 c251
    refine lv_lload_n hx hb d_Mod_share_12 rfl (lv_at hl 2 rfl) ?_
    refine lv_lconst (v := 0) hx hb d_Mod_share_13 (by decide) ?_
    refine W.lcmp hx hb d_Mod_share_14 ?_
    refine lv_if_ge (tgt := 22) hx hb d_Mod_share_15 (by decide) (fun c252 => ?_) (fun c252 => ?_)
    · have hw := hw.1 ((lg_cmp_ge _ _).mp c252)
      refine lv_lconst (v := 0) hx hb d_Mod_share_22 (by decide) ?_
      refine lv_lstore (lv' := [(4, .long (0 : Int64)), (0, .ref x0), (1, .int x1), (2, .long x2)]) hx hb d_Mod_share_23 hl (by decide) rfl (fun ls hl => ?_)
      refine lv_iconst (v := 0) hx hb d_Mod_share_25 (by decide) ?_
      refine lv_istore (lv' := [(6, .int (0 : Int32)), (4, .long (0 : Int64)), (0, .ref x0), (1, .int x1), (2, .long x2)]) hx hb d_Mod_share_26 hl (by decide) rfl (fun ls hl => ?_)
      obtain ⟨n0, hw⟩ := hw
      exact S_Mod_share_28 C0 n0 _ _ _ _ _ _ _ _ _ hw hh hS (lv_sub hl [2, 3, 4, 1, 0] rfl)
    · have hw := hw.2 (fun z => c252 ((lg_cmp_ge _ _).mpr z))
      refine lv_ldc2 (v := -1) hx hb hown (hts _ k_k_Mod_127) d_Mod_share_18 ?_
      exact h_lret C0 hh hS rfl ⟨_, rfl, hw⟩ d_Mod_share_21
set_option maxHeartbeats 4000000 in
set_option maxRecDepth 100000 in
theorem S_Mod_order_109 {p : Program} {l : Launch} {e : Env} {s : State} {m : MethodId} {args : Array Value} {below : List Frame} {meth : Method} {c : Code} {κ : hX} {Q : Int32 → hM → Prop} {K7 : hM → Nat → Int32 → Int32 → Prop} (C0 : Cw κ w_cl w_tl w_tb p s m args meth c b_Mod_order 5 R_Mod (some .int)) (hK7 : ∀ (h : hM) (x0 : Nat) (x1 : Int32) (x2 : Int32) (H : Heap) (locs : List Loc) (ls : Array Slot), K7 h x0 x1 x2 → hp κ w_cl h H → va_S (h_A κ) s.heap H locs → lv_has ls 5 [(0, .ref x0), (1, .int x1), (2, .int x2)] → W p l e rm_Mod_order s m args below meth c H locs 0 0 (MQ below (hQ κ w_cl (qI Q)) args s 0 0 (h_A κ)) (F0 m 7 ls [])) : ∀ (h : hM) (x0 : Nat) (x1 : Int32) (x2 : Int32) (H : Heap) (locs : List Loc) (ls : Array Slot), P_Mod_order_109 Q K7 h x0 x1 x2 → hp κ w_cl h H → va_S (h_A κ) s.heap H locs → lv_has ls 5 [(0, .ref x0), (1, .int x1), (2, .int x2)] → W p l e rm_Mod_order s m args below meth c H locs 0 0 (MQ below (hQ κ w_cl (qI Q)) args s 0 0 (h_A κ)) (F0 m 109 ls []) := by
  obtain ⟨hx, hb, hml, hown, hts, hK, hF0, hrt, hlocks⟩ := id C0
  intro h x0 x1 x2 H locs ls hw hh hS hl
  obtain ⟨x2_121, ex2_121⟩ : ∃ z : Int32, z = x2 + 1 := ⟨_, rfl⟩
  have hw := hw x2_121 ex2_121
  refine lv_iinc (v := x2_121) (lv' := [(2, .int x2_121), (0, .ref x0), (1, .int x1)]) hx hb d_Mod_order_109 hl (k := 2) rfl (by rw [ex2_121]; rfl) (by decide) rfl (fun ls hl => ?_)
  refine lv_goto (tgt := 7) hx hb d_Mod_order_112 (by decide) ?_
  exact hK7 _ _ _ _ _ _ _ hw hh hS (lv_sub hl [1, 2, 0] rfl)
