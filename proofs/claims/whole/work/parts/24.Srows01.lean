set_option maxHeartbeats 4000000 in
set_option maxRecDepth 100000 in
theorem S_Rows_init_36 {p : Program} {l : Launch} {e : Env} {s : State} {m : MethodId} {args : Array Value} {below : List Frame} {meth : Method} {c : Code} {κ : hX} {Q : hM → Prop} (C0 : Cw κ w_cl w_tl w_tb p s m args meth c b_Rows_init 2 R_Rows none) (hnm : meth.name = "<init>") : ∀ (n : Nat) (h : hM) (x0 : Nat) (x1 : Int32) (H : Heap) (locs : List Loc) (ls : Array Slot), L_Rows_init_36 Q n h x0 x1 → hp κ w_cl h H → va_S (h_A κ) s.heap H locs → lv_has ls 2 [(0, .ref x0), (1, .int x1)] → W p l e rm_Rows_init s m args below meth c H locs 3 42 (MQ below (hQ κ w_cl (qV Q)) args s 12 203 (h_A κ)) (F0 m 36 ls []) := by
  obtain ⟨hx, hb, hml, hown, hts, hK, hF0, hrt, hlocks⟩ := id C0
  intro n
  induction n with
  | zero =>
    intro h x0 x1 H locs ls hw
    exact hw.elim
  | succ n hK36 =>
    intro h x0 x1 H locs ls hw hh hS hl
    have hw : P_Rows_init_36 Q (L_Rows_init_36 Q n) h x0 x1 := hw
    refine lv_iload_n hx hb d_Rows_init_36 rfl (lv_at hl 1 rfl) ?_
    refine lv_aload_n hx hb d_Rows_init_37 rfl (lv_at hl 0 rfl) ?_
    obtain ⟨fs185, r188, hr186, hk187, hw⟩ := hw
    refine h_get C0 hh hr186 hk187 rfl i_Rows (by decide) k_f_Rows_19 (fun _ h9 => h9) d_Rows_init_38 ?_
    obtain ⟨n189, f190, hr191, hw⟩ := hw
    refine h_alenT C0 hh hr191 (rfl : w_tl[0]? = _) d_Rows_init_41 ?_
    refine lv_icmp_ge (tgt := 59) hx hb d_Rows_init_42 (by decide) (fun c192 => ?_) (fun c192 => ?_)
    · have hw := hw.1 c192
      refine lv_aload_n hx hb d_Rows_init_59 rfl (lv_at hl 0 rfl) ?_
      refine lv_bipush (v := 36) hx hb d_Rows_init_60 (by decide) ?_
      refine h_newa C0 hh hS (t := 0) (y := (eT 0 36 (fun _ => 0))) (ty := .int) rfl rfl rfl (fun _ => rfl) (by decide) rfl (Nat.le_of_ble_eq_true rfl) k_arr_int (Nat.le_of_ble_eq_true rfl) (Nat.le_of_ble_eq_true rfl) d_Rows_init_62 (fun q193 H hqq193 hzq193 hh hS => ?_)
      obtain ⟨h194, eh194⟩ : ∃ z : hM, z = h_up h q193 (eT 0 36 (fun _ => 0)) := ⟨_, rfl⟩
      rw [← eh194] at hh
      have hw := hw q193 hqq193 h194 eh194
      refine W.widen (k := 4) (n := 78) (Nat.le_of_ble_eq_true rfl) (Nat.le_of_ble_eq_true rfl) ?_
      obtain ⟨fs195, hr196, hk197, hw⟩ := hw
      refine h_putF C0 hh hS (v := .ref q193) hr196 hk197 rfl i_Rows t_Rows t_Rows_ok n_Rows (by decide) k_f_Rows_23 (fun _ h9 => h9) rfl hnm rfl rfl rfl rfl d_Rows_init_64 (fun H locs hh hS => ?_)
      obtain ⟨h198, eh198⟩ : ∃ z : hM, z = h_up h194 x0 (eO 0 (fs195.set 3 (.ref q193))) := ⟨_, rfl⟩
      rw [← eh198] at hh
      have hw := hw h198 eh198
      refine lv_aload_n hx hb d_Rows_init_67 rfl (lv_at hl 0 rfl) ?_
      refine lv_bipush (v := 36) hx hb d_Rows_init_68 (by decide) ?_
      refine h_newa C0 hh hS (t := 0) (y := (eT 0 36 (fun _ => 0))) (ty := .int) rfl rfl rfl (fun _ => rfl) (by decide) rfl (Nat.le_of_ble_eq_true rfl) k_arr_int (Nat.le_of_ble_eq_true rfl) (Nat.le_of_ble_eq_true rfl) d_Rows_init_70 (fun q199 H hqq199 hzq199 hh hS => ?_)
      obtain ⟨h200, eh200⟩ : ∃ z : hM, z = h_up h198 q199 (eT 0 36 (fun _ => 0)) := ⟨_, rfl⟩
      rw [← eh200] at hh
      have hw := hw q199 hqq199 h200 eh200
      refine W.widen (k := 5) (n := 114) (Nat.le_of_ble_eq_true rfl) (Nat.le_of_ble_eq_true rfl) ?_
      obtain ⟨fs201, hr202, hk203, hw⟩ := hw
      refine h_putF C0 hh hS (v := .ref q199) hr202 hk203 rfl i_Rows t_Rows t_Rows_ok n_Rows (by decide) k_f_Rows_26 (fun _ h9 => h9) rfl hnm rfl rfl rfl rfl d_Rows_init_72 (fun H locs hh hS => ?_)
      obtain ⟨h204, eh204⟩ : ∃ z : hM, z = h_up h200 x0 (eO 0 (fs201.set 4 (.ref q199))) := ⟨_, rfl⟩
      rw [← eh204] at hh
      have hw := hw h204 eh204
      refine lv_aload_n hx hb d_Rows_init_75 rfl (lv_at hl 0 rfl) ?_
      refine lv_bipush (v := 36) hx hb d_Rows_init_76 (by decide) ?_
      refine h_newa C0 hh hS (t := 0) (y := (eT 0 36 (fun _ => 0))) (ty := .int) rfl rfl rfl (fun _ => rfl) (by decide) rfl (Nat.le_of_ble_eq_true rfl) k_arr_int (Nat.le_of_ble_eq_true rfl) (Nat.le_of_ble_eq_true rfl) d_Rows_init_78 (fun q205 H hqq205 hzq205 hh hS => ?_)
      obtain ⟨h206, eh206⟩ : ∃ z : hM, z = h_up h204 q205 (eT 0 36 (fun _ => 0)) := ⟨_, rfl⟩
      rw [← eh206] at hh
      have hw := hw q205 hqq205 h206 eh206
      refine W.widen (k := 6) (n := 150) (Nat.le_of_ble_eq_true rfl) (Nat.le_of_ble_eq_true rfl) ?_
      obtain ⟨fs207, hr208, hk209, hw⟩ := hw
      refine h_putF C0 hh hS (v := .ref q205) hr208 hk209 rfl i_Rows t_Rows t_Rows_ok n_Rows (by decide) k_f_Rows_29 (fun _ h9 => h9) rfl hnm rfl rfl rfl rfl d_Rows_init_80 (fun H locs hh hS => ?_)
      obtain ⟨h210, eh210⟩ : ∃ z : hM, z = h_up h206 x0 (eO 0 (fs207.set 5 (.ref q205))) := ⟨_, rfl⟩
      rw [← eh210] at hh
      have hw := hw h210 eh210
      refine lv_aload_n hx hb d_Rows_init_83 rfl (lv_at hl 0 rfl) ?_
      refine lv_iconst (v := 4) hx hb d_Rows_init_84 (by decide) ?_
      refine h_newa C0 hh hS (t := 0) (y := (eT 0 4 (fun _ => 0))) (ty := .int) rfl rfl rfl (fun _ => rfl) (by decide) rfl (Nat.le_of_ble_eq_true rfl) k_arr_int (Nat.le_of_ble_eq_true rfl) (Nat.le_of_ble_eq_true rfl) d_Rows_init_85 (fun q211 H hqq211 hzq211 hh hS => ?_)
      obtain ⟨h212, eh212⟩ : ∃ z : hM, z = h_up h210 q211 (eT 0 4 (fun _ => 0)) := ⟨_, rfl⟩
      rw [← eh212] at hh
      have hw := hw q211 hqq211 h212 eh212
      refine W.widen (k := 7) (n := 154) (Nat.le_of_ble_eq_true rfl) (Nat.le_of_ble_eq_true rfl) ?_
      obtain ⟨fs213, hr214, hk215, hw⟩ := hw
      refine h_putF C0 hh hS (v := .ref q211) hr214 hk215 rfl i_Rows t_Rows t_Rows_ok n_Rows (by decide) k_f_Rows_32 (fun _ h9 => h9) rfl hnm rfl rfl rfl rfl d_Rows_init_87 (fun H locs hh hS => ?_)
      obtain ⟨h216, eh216⟩ : ∃ z : hM, z = h_up h212 x0 (eO 0 (fs213.set 6 (.ref q211))) := ⟨_, rfl⟩
      rw [← eh216] at hh
      have hw := hw h216 eh216
      refine lv_aload_n hx hb d_Rows_init_90 rfl (lv_at hl 0 rfl) ?_
      refine h_new C0 hh hS (ci := 2) (fs := [.null, .null, .null, .int 0, .int 0]) rfl i_Load t_Load t_Load_ok k_c_Rows_35 k_made_Load k_ini_Load def_Load (Nat.le_of_ble_eq_true rfl) (Nat.le_of_ble_eq_true rfl) d_Rows_init_91 (fun q217 H hqq217 hzq217 hh hS => ?_)
      obtain ⟨h218, eh218⟩ : ∃ z : hM, z = h_up h216 q217 (eO 2 [.null, .null, .null, .int 0, .int 0]) := ⟨_, rfl⟩
      rw [← eh218] at hh
      have hw := hw q217 hqq217 h218 eh218
      refine W.widen (k := 8) (n := 159) (Nat.le_of_ble_eq_true rfl) (Nat.le_of_ble_eq_true rfl) ?_
      refine lv_dup hx hb d_Rows_init_94 rfl ?_
      refine h_callI (n := 0) C0 w_TBm hh hS hl.1 [] [.ref q217, .ref x0] (S_Load_init _ _ _ hw) k_m_Rows_37 k_inst_Load_init rfl k_ini_Load k_code_Load_init (by decide +kernel) rfl rfl (Nat.le_of_ble_eq_true rfl) ⟨(Nat.le_of_ble_eq_true rfl), (Nat.le_of_ble_eq_true rfl)⟩ ⟨(Nat.le_of_ble_eq_true rfl), (Nat.le_of_ble_eq_true rfl)⟩ d_Rows_init_95 (h_kV (k := 11) (n := 201) (Nat.le_of_ble_eq_true rfl) (Nat.le_of_ble_eq_true rfl) (fun h219 H locs hw hh hS => ?_))
      obtain ⟨fs221, hr222, hk223, hw⟩ := hw
      refine h_putF C0 hh hS (v := .ref q217) hr222 hk223 rfl i_Rows t_Rows t_Rows_ok n_Rows (by decide) k_f_Rows_38 (fun _ h9 => h9) rfl hnm rfl rfl rfl rfl d_Rows_init_98 (fun H locs hh hS => ?_)
      obtain ⟨h224, eh224⟩ : ∃ z : hM, z = h_up h219 x0 (eO 0 (fs221.set 7 (.ref q217))) := ⟨_, rfl⟩
      rw [← eh224] at hh
      have hw := hw h224 eh224
      refine lv_aload_n hx hb d_Rows_init_101 rfl (lv_at hl 0 rfl) ?_
      refine h_new C0 hh hS (ci := 4) (fs := [.long 0, .long 0]) rfl i_NS t_NS t_NS_ok k_c_Rows_42 k_made_NS k_ini_NS def_NS (Nat.le_of_ble_eq_true rfl) (Nat.le_of_ble_eq_true rfl) d_Rows_init_102 (fun q225 H hqq225 hzq225 hh hS => ?_)
      obtain ⟨h226, eh226⟩ : ∃ z : hM, z = h_up h224 q225 (eO 4 [.long 0, .long 0]) := ⟨_, rfl⟩
      rw [← eh226] at hh
      have hw := hw q225 hqq225 h226 eh226
      refine W.widen (k := 12) (n := 203) (Nat.le_of_ble_eq_true rfl) (Nat.le_of_ble_eq_true rfl) ?_
      refine lv_dup hx hb d_Rows_init_105 rfl ?_
      refine h_callI (n := 0) C0 w_TBm hh hS hl.1 [] [.ref q225, .ref x0] (S_NS_init _ _ _ hw) k_m_Rows_44 k_inst_NS_init rfl k_ini_NS k_code_NS_init (by decide +kernel) rfl rfl (Nat.le_of_ble_eq_true rfl) ⟨(Nat.le_of_ble_eq_true rfl), (Nat.le_of_ble_eq_true rfl)⟩ ⟨(Nat.le_of_ble_eq_true rfl), (Nat.le_of_ble_eq_true rfl)⟩ d_Rows_init_106 (h_kV (k := 12) (n := 203) (Nat.le_of_ble_eq_true rfl) (Nat.le_of_ble_eq_true rfl) (fun h227 H locs hw hh hS => ?_))
      obtain ⟨fs229, hr230, hk231, hw⟩ := hw
      refine h_putF C0 hh hS (v := .ref q225) hr230 hk231 rfl i_Rows t_Rows t_Rows_ok n_Rows (by decide) k_f_Rows_45 (fun _ h9 => h9) rfl hnm rfl rfl rfl rfl d_Rows_init_109 (fun H locs hh hS => ?_)
      obtain ⟨h232, eh232⟩ : ∃ z : hM, z = h_up h227 x0 (eO 0 (fs229.set 8 (.ref q225))) := ⟨_, rfl⟩
      rw [← eh232] at hh
      have hw := hw h232 eh232
      refine lv_aload_n hx hb d_Rows_init_112 rfl (lv_at hl 0 rfl) ?_
      refine lv_lconst (v := 0) hx hb d_Rows_init_113 (by decide) ?_
      obtain ⟨fs233, hr234, hk235, hw⟩ := hw
      refine h_put C0 hh hS (v := .long (0 : Int64)) hr234 hk235 rfl i_Rows t_Rows t_Rows_ok n_Rows (by decide) k_f_Rows_49 (fun _ h9 => h9) rfl rfl rfl rfl d_Rows_init_114 (fun H locs hh hS => ?_)
      obtain ⟨h236, eh236⟩ : ∃ z : hM, z = h_up h232 x0 (eO 0 (fs233.set 9 (.long (0 : Int64)))) := ⟨_, rfl⟩
      rw [← eh236] at hh
      have hw := hw h236 eh236
      refine lv_aload_n hx hb d_Rows_init_117 rfl (lv_at hl 0 rfl) ?_
      refine lv_lconst (v := 0) hx hb d_Rows_init_118 (by decide) ?_
      obtain ⟨fs237, hr238, hk239, hw⟩ := hw
      refine h_put C0 hh hS (v := .long (0 : Int64)) hr238 hk239 rfl i_Rows t_Rows t_Rows_ok n_Rows (by decide) k_f_Rows_53 (fun _ h9 => h9) rfl rfl rfl rfl d_Rows_init_119 (fun H locs hh hS => ?_)
      obtain ⟨h240, eh240⟩ : ∃ z : hM, z = h_up h236 x0 (eO 0 (fs237.set 10 (.long (0 : Int64)))) := ⟨_, rfl⟩
      rw [← eh240] at hh
      have hw := hw h240 eh240
      refine lv_aload_n hx hb d_Rows_init_122 rfl (lv_at hl 0 rfl) ?_
      refine lv_iconst (v := 0) hx hb d_Rows_init_123 (by decide) ?_
      obtain ⟨fs241, hr242, hk243, hw⟩ := hw
      refine h_put C0 hh hS (v := .int (0 : Int32)) hr242 hk243 rfl i_Rows t_Rows t_Rows_ok n_Rows (by decide) k_f_Rows_56 (fun _ h9 => h9) rfl rfl rfl rfl d_Rows_init_124 (fun H locs hh hS => ?_)
      obtain ⟨h244, eh244⟩ : ∃ z : hM, z = h_up h240 x0 (eO 0 (fs241.set 11 (.int (0 : Int32)))) := ⟨_, rfl⟩
      rw [← eh244] at hh
      have hw := hw h244 eh244
      exact h_vret C0 hh hS rfl ⟨rfl, hw⟩ d_Rows_init_127
    · have hw := hw.2 c192
      refine lv_aload_n hx hb d_Rows_init_45 rfl (lv_at hl 0 rfl) ?_
      obtain ⟨fs245, r248, hr246, hk247, hw⟩ := hw
      refine h_get C0 hh hr246 hk247 rfl i_Rows (by decide) k_f_Rows_19 (fun _ h9 => h9) d_Rows_init_46 ?_
      refine lv_iload_n hx hb d_Rows_init_49 rfl (lv_at hl 1 rfl) ?_
      refine lv_bipush (v := 40) hx hb d_Rows_init_50 (by decide) ?_
      obtain ⟨n249, f250, hr251, hi252, hw⟩ := hw
      refine h_iast C0 hh hS hr251 hi252 rfl d_Rows_init_52 (fun H locs hh hS => ?_)
      obtain ⟨h253, eh253⟩ : ∃ z : hM, z = h_up h r248 (eT 0 n249 (upd f250 x1.toNatClampNeg (40 : Int32))) := ⟨_, rfl⟩
      rw [← eh253] at hh
      have hw := hw h253 eh253
      obtain ⟨x1_254, ex1_254⟩ : ∃ z : Int32, z = x1 + 1 := ⟨_, rfl⟩
      have hw := hw x1_254 ex1_254
      refine lv_iinc (v := x1_254) (lv' := [(1, .int x1_254), (0, .ref x0)]) hx hb d_Rows_init_53 hl (k := 1) rfl (by rw [ex1_254]; rfl) (by decide) rfl (fun ls hl => ?_)
      refine lv_goto (tgt := 36) hx hb d_Rows_init_56 (by decide) ?_
      exact hK36 _ _ _ _ _ _ hw hh hS (lv_sub hl [1, 0] rfl)
set_option maxHeartbeats 4000000 in
set_option maxRecDepth 100000 in
theorem S_Rows_init {l : Launch} {κ : hX} (Q : hM → Prop) (h : hM) (x0 : Nat) (hw : P_Rows_init Q h x0) : Met l y_Rows_init [Cond.code y_Rows_init b_Rows_init 2 none] rm_Rows_init (hPc κ w_cl w_tl w_tb [.ref x0] h) (hQ κ w_cl (qV Q)) 12 203 (h_A κ) := by
  refine h_enter w_TBm (by decide) (Nat.le_of_ble_eq_true rfl) ?_
  intro p e s m args below meth c C0 hnm hh hS ls hl
  obtain ⟨hx, hb, hml, hown, hts, hK, hF0, hrt, hlocks⟩ := id C0
  have hl : lv_has ls 2 [(0, .ref x0)] := hl
  refine lv_aload_n hx hb d_Rows_init_0 rfl (lv_at hl 0 rfl) ?_
  refine W.objInit hx hb hown (hts _ k_m_Rows_1) (hts _ k_oi_inst) (hts _ k_oi_code) rfl (by rw [hml]; exact hl.1) rfl d_Rows_init_1 (Nat.le_of_ble_eq_true rfl) (Nat.le_of_ble_eq_true rfl) ?_
  refine W.eq (g2 := F0 m 4 ls []) rfl ?_
  refine lv_aload_n hx hb d_Rows_init_4 rfl (lv_at hl 0 rfl) ?_
  refine h_new C0 hh hS (ci := 5) (fs := [.int 0, .null, .int 0]) rfl i_AL t_AL t_AL_ok k_c_Rows_7 k_made_AL k_ini_AL def_AL (Nat.le_of_ble_eq_true rfl) (Nat.le_of_ble_eq_true rfl) d_Rows_init_5 (fun q255 H hqq255 hzq255 hh hS => ?_)
  obtain ⟨h256, eh256⟩ : ∃ z : hM, z = h_up h q255 (eO 5 [.int 0, .null, .int 0]) := ⟨_, rfl⟩
  rw [← eh256] at hh
  have hw := hw q255 hqq255 h256 eh256
  refine W.widen (k := 1) (n := 3) (Nat.le_of_ble_eq_true rfl) (Nat.le_of_ble_eq_true rfl) ?_
  refine lv_dup hx hb d_Rows_init_8 rfl ?_
  refine h_callI (n := 0) C0 w_TBm hh hS hl.1 [] [.ref q255, .ref x0] (S_AL_init_v _ _ _ hw) k_m_Rows_9 k_inst_AL_init_v rfl k_ini_AL k_code_AL_init_v (by decide +kernel) rfl rfl (Nat.le_of_ble_eq_true rfl) ⟨(Nat.le_of_ble_eq_true rfl), (Nat.le_of_ble_eq_true rfl)⟩ ⟨(Nat.le_of_ble_eq_true rfl), (Nat.le_of_ble_eq_true rfl)⟩ d_Rows_init_9 (h_kV (k := 1) (n := 3) (Nat.le_of_ble_eq_true rfl) (Nat.le_of_ble_eq_true rfl) (fun h257 H locs hw hh hS => ?_))
  obtain ⟨fs259, hr260, hk261, hw⟩ := hw
  refine h_putF C0 hh hS (v := .ref q255) hr260 hk261 rfl i_Rows t_Rows t_Rows_ok n_Rows (by decide) k_f_Rows_10 (fun _ h9 => h9) rfl hnm rfl rfl rfl rfl d_Rows_init_12 (fun H locs hh hS => ?_)
  obtain ⟨h262, eh262⟩ : ∃ z : hM, z = h_up h257 x0 (eO 0 (fs259.set 0 (.ref q255))) := ⟨_, rfl⟩
  rw [← eh262] at hh
  have hw := hw h262 eh262
  refine lv_aload_n hx hb d_Rows_init_15 rfl (lv_at hl 0 rfl) ?_
  refine h_new C0 hh hS (ci := 5) (fs := [.int 0, .null, .int 0]) rfl i_AL t_AL t_AL_ok k_c_Rows_7 k_made_AL k_ini_AL def_AL (Nat.le_of_ble_eq_true rfl) (Nat.le_of_ble_eq_true rfl) d_Rows_init_16 (fun q263 H hqq263 hzq263 hh hS => ?_)
  obtain ⟨h264, eh264⟩ : ∃ z : hM, z = h_up h262 q263 (eO 5 [.int 0, .null, .int 0]) := ⟨_, rfl⟩
  rw [← eh264] at hh
  have hw := hw q263 hqq263 h264 eh264
  refine W.widen (k := 2) (n := 6) (Nat.le_of_ble_eq_true rfl) (Nat.le_of_ble_eq_true rfl) ?_
  refine lv_dup hx hb d_Rows_init_19 rfl ?_
  refine h_callI (n := 0) C0 w_TBm hh hS hl.1 [] [.ref q263, .ref x0] (S_AL_init_v _ _ _ hw) k_m_Rows_9 k_inst_AL_init_v rfl k_ini_AL k_code_AL_init_v (by decide +kernel) rfl rfl (Nat.le_of_ble_eq_true rfl) ⟨(Nat.le_of_ble_eq_true rfl), (Nat.le_of_ble_eq_true rfl)⟩ ⟨(Nat.le_of_ble_eq_true rfl), (Nat.le_of_ble_eq_true rfl)⟩ d_Rows_init_20 (h_kV (k := 2) (n := 6) (Nat.le_of_ble_eq_true rfl) (Nat.le_of_ble_eq_true rfl) (fun h265 H locs hw hh hS => ?_))
  obtain ⟨fs267, hr268, hk269, hw⟩ := hw
  refine h_putF C0 hh hS (v := .ref q263) hr268 hk269 rfl i_Rows t_Rows t_Rows_ok n_Rows (by decide) k_f_Rows_16 (fun _ h9 => h9) rfl hnm rfl rfl rfl rfl d_Rows_init_23 (fun H locs hh hS => ?_)
  obtain ⟨h270, eh270⟩ : ∃ z : hM, z = h_up h265 x0 (eO 0 (fs267.set 1 (.ref q263))) := ⟨_, rfl⟩
  rw [← eh270] at hh
  have hw := hw h270 eh270
  refine lv_aload_n hx hb d_Rows_init_26 rfl (lv_at hl 0 rfl) ?_
  refine lv_bipush (v := 36) hx hb d_Rows_init_27 (by decide) ?_
  refine h_newa C0 hh hS (t := 0) (y := (eT 0 36 (fun _ => 0))) (ty := .int) rfl rfl rfl (fun _ => rfl) (by decide) rfl (Nat.le_of_ble_eq_true rfl) k_arr_int (Nat.le_of_ble_eq_true rfl) (Nat.le_of_ble_eq_true rfl) d_Rows_init_29 (fun q271 H hqq271 hzq271 hh hS => ?_)
  obtain ⟨h272, eh272⟩ : ∃ z : hM, z = h_up h270 q271 (eT 0 36 (fun _ => 0)) := ⟨_, rfl⟩
  rw [← eh272] at hh
  have hw := hw q271 hqq271 h272 eh272
  refine W.widen (k := 3) (n := 42) (Nat.le_of_ble_eq_true rfl) (Nat.le_of_ble_eq_true rfl) ?_
  obtain ⟨fs273, hr274, hk275, hw⟩ := hw
  refine h_putF C0 hh hS (v := .ref q271) hr274 hk275 rfl i_Rows t_Rows t_Rows_ok n_Rows (by decide) k_f_Rows_19 (fun _ h9 => h9) rfl hnm rfl rfl rfl rfl d_Rows_init_31 (fun H locs hh hS => ?_)
  obtain ⟨h276, eh276⟩ : ∃ z : hM, z = h_up h272 x0 (eO 0 (fs273.set 2 (.ref q271))) := ⟨_, rfl⟩
  rw [← eh276] at hh
  have hw := hw h276 eh276
  refine lv_iconst (v := 0) hx hb d_Rows_init_34 (by decide) ?_
  refine lv_istore_n (lv' := [(1, .int (0 : Int32)), (0, .ref x0)]) hx hb d_Rows_init_35 rfl hl (by decide) rfl (fun ls hl => ?_)
  obtain ⟨n0, hw⟩ := hw
  exact S_Rows_init_36 C0 hnm n0 _ _ _ _ _ _ hw hh hS (lv_sub hl [1, 0] rfl)
set_option maxHeartbeats 4000000 in
set_option maxRecDepth 100000 in
theorem S_Rows_initiator {l : Launch} {κ : hX} (Q : Int32 → hM → Prop) (h : hM) (x0 : Nat) (hw : P_Rows_initiator Q h x0) : Met l y_Rows_initiator [Cond.code y_Rows_initiator b_Rows_initiator 1 (some .int)] rm_Rows_initiator (hPc κ w_cl w_tl w_tb [.ref x0] h) (hQ κ w_cl (qI Q)) 3 171 (h_A κ) := by
  refine h_enter w_TBm (by decide) (Nat.le_of_ble_eq_true rfl) ?_
  intro p e s m args below meth c C0 hnm hh hS ls hl
  obtain ⟨hx, hb, hml, hown, hts, hK, hF0, hrt, hlocks⟩ := id C0
  have hl : lv_has ls 1 [(0, .ref x0)] := hl
  refine lv_aload_n hx hb d_Rows_initiator_0 rfl (lv_at hl 0 rfl) ?_
  obtain ⟨fs30, r33, hr31, hk32, hw⟩ := hw
  refine h_get C0 hh hr31 hk32 rfl i_Rows (by decide) k_f_Rows_10 (fun _ h9 => h9) d_Rows_initiator_1 ?_
  obtain ⟨fs34, hr35, hw⟩ := hw
  refine h_callV (n := 0) C0 w_TBm hh hS hl.1 [] [] (S_AL_size _ _ _ hw) hr35 rfl k_m_Rows_60 k_inst_AL_size k_sel_AL_size k_ini_AL k_code_AL_size (by decide +kernel) rfl rfl (Nat.le_of_ble_eq_true rfl) ⟨(Nat.le_of_ble_eq_true rfl), (Nat.le_of_ble_eq_true rfl)⟩ ⟨(Nat.le_of_ble_eq_true rfl), (Nat.le_of_ble_eq_true rfl)⟩ d_Rows_initiator_4 (h_kI (k := 0) (n := 0) (Nat.le_of_ble_eq_true rfl) (Nat.le_of_ble_eq_true rfl) (fun i37 h36 H locs hw hh hS => ?_))
  refine lv_bipush (v := 12) hx hb d_Rows_initiator_7 (by decide) ?_
  refine lv_icmp_lt (tgt := 14) hx hb d_Rows_initiator_9 (by decide) (fun c38 => ?_) (fun c38 => ?_)
  · have hw := hw.1 c38
    refine lv_aload_n hx hb d_Rows_initiator_14 rfl (lv_at hl 0 rfl) ?_
    obtain ⟨fs39, r42, hr40, hk41, hw⟩ := hw
    refine h_get C0 hh hr40 hk41 rfl i_Rows (by decide) k_f_Rows_10 (fun _ h9 => h9) d_Rows_initiator_15 ?_
    refine h_new C0 hh hS (ci := 3) (fs := [.null, .int 0, .int 0]) rfl i_Ini t_Ini t_Ini_ok k_c_Rows_64 k_made_Ini k_ini_Ini def_Ini (Nat.le_of_ble_eq_true rfl) (Nat.le_of_ble_eq_true rfl) d_Rows_initiator_18 (fun q43 H hqq43 hzq43 hh hS => ?_)
    obtain ⟨h44, eh44⟩ : ∃ z : hM, z = h_up h36 q43 (eO 3 [.null, .int 0, .int 0]) := ⟨_, rfl⟩
    rw [← eh44] at hh
    have hw := hw q43 hqq43 h44 eh44
    refine W.widen (k := 1) (n := 3) (Nat.le_of_ble_eq_true rfl) (Nat.le_of_ble_eq_true rfl) ?_
    refine lv_dup hx hb d_Rows_initiator_21 rfl ?_
    refine h_callI (n := 0) C0 w_TBm hh hS hl.1 [] [.ref q43, .ref r42] (S_Ini_init _ _ _ hw) k_m_Rows_66 k_inst_Ini_init rfl k_ini_Ini k_code_Ini_init (by decide +kernel) rfl rfl (Nat.le_of_ble_eq_true rfl) ⟨(Nat.le_of_ble_eq_true rfl), (Nat.le_of_ble_eq_true rfl)⟩ ⟨(Nat.le_of_ble_eq_true rfl), (Nat.le_of_ble_eq_true rfl)⟩ d_Rows_initiator_22 (h_kV (k := 2) (n := 11) (Nat.le_of_ble_eq_true rfl) (Nat.le_of_ble_eq_true rfl) (fun h45 H locs hw hh hS => ?_))
    obtain ⟨fs47, hr48, hw⟩ := hw
    refine h_callV (n := 1) C0 w_TBm hh hS hl.1 [.ref q43] [] (S_AL_add_L _ _ _ _ hw) hr48 rfl k_m_Rows_67 k_inst_AL_add_L k_sel_AL_add_L k_ini_AL k_code_AL_add_L (by decide +kernel) rfl rfl (Nat.le_of_ble_eq_true rfl) ⟨(Nat.le_of_ble_eq_true rfl), (Nat.le_of_ble_eq_true rfl)⟩ ⟨(Nat.le_of_ble_eq_true rfl), (Nat.le_of_ble_eq_true rfl)⟩ d_Rows_initiator_25 (h_kI (k := 3) (n := 171) (Nat.le_of_ble_eq_true rfl) (Nat.le_of_ble_eq_true rfl) (fun i50 h49 H locs hw hh hS => ?_))
    refine lv_pop hx hb d_Rows_initiator_28 rfl ?_
    refine lv_aload_n hx hb d_Rows_initiator_29 rfl (lv_at hl 0 rfl) ?_
    obtain ⟨fs51, r54, hr52, hk53, hw⟩ := hw
    refine h_get C0 hh hr52 hk53 rfl i_Rows (by decide) k_f_Rows_10 (fun _ h9 => h9) d_Rows_initiator_30 ?_
    obtain ⟨fs55, hr56, hw⟩ := hw
    refine h_callV (n := 0) C0 w_TBm hh hS hl.1 [] [] (S_AL_size _ _ _ hw) hr56 rfl k_m_Rows_60 k_inst_AL_size k_sel_AL_size k_ini_AL k_code_AL_size (by decide +kernel) rfl rfl (Nat.le_of_ble_eq_true rfl) ⟨(Nat.le_of_ble_eq_true rfl), (Nat.le_of_ble_eq_true rfl)⟩ ⟨(Nat.le_of_ble_eq_true rfl), (Nat.le_of_ble_eq_true rfl)⟩ d_Rows_initiator_33 (h_kI (k := 3) (n := 171) (Nat.le_of_ble_eq_true rfl) (Nat.le_of_ble_eq_true rfl) (fun i58 h57 H locs hw hh hS => ?_))
    exact h_iret C0 hh hS rfl rfl ⟨_, rfl, hw⟩ d_Rows_initiator_36
  · have hw := hw.2 c38
    refine lv_iconst (v := -1) hx hb d_Rows_initiator_12 (by decide) ?_
    refine W.widen (k := 3) (n := 171) (Nat.le_of_ble_eq_true rfl) (Nat.le_of_ble_eq_true rfl) ?_
    exact h_iret C0 hh hS rfl rfl ⟨_, rfl, hw⟩ d_Rows_initiator_13
set_option maxHeartbeats 4000000 in
set_option maxRecDepth 100000 in
theorem S_Rows_isIn {l : Launch} {κ : hX} (Q : Int32 → hM → Prop) (h : hM) (x0 : Int32) (x1 : Int32) (x2 : Int32) (hw : P_Rows_isIn Q h x0 x1 x2) : Met l y_Rows_isIn [Cond.code y_Rows_isIn b_Rows_isIn 3 (some .boolean)] rm_Rows_isIn (hPc κ w_cl w_tl w_tb [.int x0, .int x1, .int x2] h) (hQ κ w_cl (qI Q)) 0 0 (h_A κ) := by
  refine h_enter w_TBm (by decide) (Nat.le_of_ble_eq_true rfl) ?_
  intro p e s m args below meth c C0 hnm hh hS ls hl
  obtain ⟨hx, hb, hml, hown, hts, hK, hF0, hrt, hlocks⟩ := id C0
  have hl : lv_has ls 3 [(0, .int x0), (1, .int x1), (2, .int x2)] := hl
  refine lv_iload_n hx hb d_Rows_isIn_0 rfl (lv_at hl 0 rfl) ?_
  refine lv_iload_n hx hb d_Rows_isIn_1 rfl (lv_at hl 1 rfl) ?_
  refine lv_icmp_lt (tgt := 14) hx hb d_Rows_isIn_2 (by decide) (fun c3 => ?_) (fun c3 => ?_)
  · have hw := hw.1 c3
    refine lv_iconst (v := 0) hx hb d_Rows_isIn_14 (by decide) ?_
    exact h_iret C0 hh hS rfl rfl ⟨_, rfl, hw⟩ d_Rows_isIn_15
  · have hw := hw.2 c3
    refine lv_iload_n hx hb d_Rows_isIn_5 rfl (lv_at hl 0 rfl) ?_
    refine lv_iload_n hx hb d_Rows_isIn_6 rfl (lv_at hl 2 rfl) ?_
    refine lv_icmp_gt (tgt := 14) hx hb d_Rows_isIn_7 (by decide) (fun c4 => ?_) (fun c4 => ?_)
    · have hw := hw.1 c4
      refine lv_iconst (v := 0) hx hb d_Rows_isIn_14 (by decide) ?_
      exact h_iret C0 hh hS rfl rfl ⟨_, rfl, hw⟩ d_Rows_isIn_15
    · have hw := hw.2 c4
      refine lv_iconst (v := 1) hx hb d_Rows_isIn_10 (by decide) ?_
      refine lv_goto (tgt := 15) hx hb d_Rows_isIn_11 (by decide) ?_
      exact h_iret C0 hh hS rfl rfl ⟨_, rfl, hw⟩ d_Rows_isIn_15
set_option maxHeartbeats 4000000 in
set_option maxRecDepth 100000 in
theorem S_Rows_findInitiator {l : Launch} {κ : hX} (Q : Option Nat → hM → Prop) (h : hM) (x0 : Nat) (x1 : Int32) (hw : P_Rows_findInitiator Q h x0 x1) : Met l y_Rows_findInitiator [Cond.code y_Rows_findInitiator b_Rows_findInitiator 2 (some (.object "InitiatorRows$Initiator"))] rm_Rows_findInitiator (hPc κ w_cl w_tl w_tb [.ref x0, .int x1] h) (hQ κ w_cl (qO Q)) 0 0 (h_A κ) := by
  refine h_enter w_TBm (by decide) (Nat.le_of_ble_eq_true rfl) ?_
  intro p e s m args below meth c C0 hnm hh hS ls hl
  obtain ⟨hx, hb, hml, hown, hts, hK, hF0, hrt, hlocks⟩ := id C0
  have hl : lv_has ls 2 [(0, .ref x0), (1, .int x1)] := hl
  refine lv_iload_n hx hb d_Rows_findInitiator_0 rfl (lv_at hl 1 rfl) ?_
  refine lv_iconst (v := 1) hx hb d_Rows_findInitiator_1 (by decide) ?_
  refine lv_aload_n hx hb d_Rows_findInitiator_2 rfl (lv_at hl 0 rfl) ?_
  obtain ⟨fs23, r26, hr24, hk25, hw⟩ := hw
  refine h_get C0 hh hr24 hk25 rfl i_Rows (by decide) k_f_Rows_10 (fun _ h9 => h9) d_Rows_findInitiator_3 ?_
  obtain ⟨fs27, hr28, hw⟩ := hw
  refine h_callV (n := 0) C0 w_TBm hh hS hl.1 [] [.int (1 : Int32), .int x1] (S_AL_size _ _ _ hw) hr28 rfl k_m_Rows_60 k_inst_AL_size k_sel_AL_size k_ini_AL k_code_AL_size (by decide +kernel) rfl rfl (Nat.le_of_ble_eq_true rfl) ⟨(Nat.le_of_ble_eq_true rfl), (Nat.le_of_ble_eq_true rfl)⟩ ⟨(Nat.le_of_ble_eq_true rfl), (Nat.le_of_ble_eq_true rfl)⟩ d_Rows_findInitiator_6 (h_kI (k := 0) (n := 0) (Nat.le_of_ble_eq_true rfl) (Nat.le_of_ble_eq_true rfl) (fun i30 h29 H locs hw hh hS => ?_))
  refine h_callS (n := 3) C0 w_TBm hh hS hl.1 [.int x1, .int (1 : Int32), .int i30] [] (S_Rows_isIn _ _ _ _ _ hw) k_m_Rows_75 k_stat_Rows_isIn k_ini_Rows k_code_Rows_isIn (by decide +kernel) rfl rfl (Nat.le_of_ble_eq_true rfl) ⟨(Nat.le_of_ble_eq_true rfl), (Nat.le_of_ble_eq_true rfl)⟩ ⟨(Nat.le_of_ble_eq_true rfl), (Nat.le_of_ble_eq_true rfl)⟩ d_Rows_findInitiator_9 (h_kI (k := 0) (n := 0) (Nat.le_of_ble_eq_true rfl) (Nat.le_of_ble_eq_true rfl) (fun i32 h31 H locs hw hh hS => ?_))
  refine lv_if_eq (tgt := 31) hx hb d_Rows_findInitiator_12 (by decide) (fun c33 => ?_) (fun c33 => ?_)
  · have hw := hw.1 c33
    refine lv_null hx hb d_Rows_findInitiator_31 ?_
    exact h_aret (o := none) C0 hh hS rfl (Or.inl ⟨_, rfl⟩) ⟨_, rfl, hw⟩ d_Rows_findInitiator_32
  · have hw := hw.2 c33
    refine lv_aload_n hx hb d_Rows_findInitiator_15 rfl (lv_at hl 0 rfl) ?_
    obtain ⟨fs34, r37, hr35, hk36, hw⟩ := hw
    refine h_get C0 hh hr35 hk36 rfl i_Rows (by decide) k_f_Rows_10 (fun _ h9 => h9) d_Rows_findInitiator_16 ?_
    refine lv_iload_n hx hb d_Rows_findInitiator_19 rfl (lv_at hl 1 rfl) ?_
    refine lv_iconst (v := 1) hx hb d_Rows_findInitiator_20 (by decide) ?_
    refine lv_isub hx hb d_Rows_findInitiator_21 ?_
    obtain ⟨fs38, hr39, hw⟩ := hw
    refine h_callV (n := 1) C0 w_TBm hh hS hl.1 [.int (x1 - (1 : Int32))] [] (S_AL_get _ _ _ _ hw) hr39 rfl k_m_Rows_156 k_inst_AL_get k_sel_AL_get k_ini_AL k_code_AL_get (by decide +kernel) rfl rfl (Nat.le_of_ble_eq_true rfl) ⟨(Nat.le_of_ble_eq_true rfl), (Nat.le_of_ble_eq_true rfl)⟩ ⟨(Nat.le_of_ble_eq_true rfl), (Nat.le_of_ble_eq_true rfl)⟩ d_Rows_findInitiator_22 (h_kO (k := 0) (n := 0) (Nat.le_of_ble_eq_true rfl) (Nat.le_of_ble_eq_true rfl) (fun o41 h40 H locs hw hh hS => ?_))
    rcases o41 with _ | a42
    · have hw := hw.1 rfl
      have hl : lv_has ls 2 [(0, .ref x0), (1, .int x1)] := hl
      refine lv_castN hx hb d_Rows_findInitiator_25 ?_
      refine lv_goto (tgt := 32) hx hb d_Rows_findInitiator_28 (by decide) ?_
      exact h_aret (o := none) C0 hh hS rfl (Or.inl ⟨_, rfl⟩) ⟨_, rfl, hw⟩ d_Rows_findInitiator_32
    · have hw := hw.2 a42 rfl
      have hl : lv_has ls 2 [(0, .ref x0), (1, .int x1)] := hl
      obtain ⟨⟨fs43, hr44⟩, hw⟩ := hw
      refine h_cast C0 hh hr44 rfl k_c_Rows_64 d_Rows_findInitiator_25 ?_
      refine lv_goto (tgt := 32) hx hb d_Rows_findInitiator_28 (by decide) ?_
      exact h_aret (o := (some a42)) C0 hh hS rfl (Or.inl ⟨_, rfl⟩) ⟨_, rfl, hw⟩ d_Rows_findInitiator_32
set_option maxHeartbeats 4000000 in
set_option maxRecDepth 100000 in
theorem S_Rows_isClass {l : Launch} {κ : hX} (Q : Int32 → hM → Prop) (h : hM) (x0 : Int32) (hw : P_Rows_isClass Q h x0) : Met l y_Rows_isClass [Cond.code y_Rows_isClass b_Rows_isClass 1 (some .boolean)] rm_Rows_isClass (hPc κ w_cl w_tl w_tb [.int x0] h) (hQ κ w_cl (qI Q)) 0 0 (h_A κ) := by
  refine h_enter w_TBm (by decide) (Nat.le_of_ble_eq_true rfl) ?_
  intro p e s m args below meth c C0 hnm hh hS ls hl
  obtain ⟨hx, hb, hml, hown, hts, hK, hF0, hrt, hlocks⟩ := id C0
  have hl : lv_has ls 1 [(0, .int x0)] := hl
  refine lv_iload_n hx hb d_Rows_isClass_0 rfl (lv_at hl 0 rfl) ?_
  refine lv_iconst (v := 0) hx hb d_Rows_isClass_1 (by decide) ?_
  refine lv_bipush (v := 35) hx hb d_Rows_isClass_2 (by decide) ?_
  refine h_callS (n := 3) C0 w_TBm hh hS hl.1 [.int x0, .int (0 : Int32), .int (35 : Int32)] [] (S_Rows_isIn _ _ _ _ _ hw) k_m_Rows_75 k_stat_Rows_isIn k_ini_Rows k_code_Rows_isIn (by decide +kernel) rfl rfl (Nat.le_of_ble_eq_true rfl) ⟨(Nat.le_of_ble_eq_true rfl), (Nat.le_of_ble_eq_true rfl)⟩ ⟨(Nat.le_of_ble_eq_true rfl), (Nat.le_of_ble_eq_true rfl)⟩ d_Rows_isClass_4 (h_kI (k := 0) (n := 0) (Nat.le_of_ble_eq_true rfl) (Nat.le_of_ble_eq_true rfl) (fun i4 h3 H locs hw hh hS => ?_))
  exact h_iret C0 hh hS rfl (h_nz hw.1) ⟨_, rfl, hw.2⟩ d_Rows_isClass_7
set_option maxHeartbeats 4000000 in
set_option maxRecDepth 100000 in
theorem S_Rows_cls_40 {p : Program} {l : Launch} {e : Env} {s : State} {m : MethodId} {args : Array Value} {below : List Frame} {meth : Method} {c : Code} {κ : hX} {Q : Int32 → hM → Prop} (C0 : Cw κ w_cl w_tl w_tb p s m args meth c b_Rows_cls 5 R_Rows (some .int)) : ∀ (h : hM) (x2 : Int32) (x3 : Int32) (x4 : Nat) (H : Heap) (locs : List Loc) (ls : Array Slot), P_Rows_cls_40 Q h x2 x3 x4 → hp κ w_cl h H → va_S (h_A κ) s.heap H locs → lv_has ls 5 [(2, .int x2), (3, .int x3), (4, .ref x4)] → W p l e rm_Rows_cls s m args below meth c H locs 0 0 (MQ below (hQ κ w_cl (qI Q)) args s 0 0 (h_A κ)) (F0 m 40 ls []) := by
  obtain ⟨hx, hb, hml, hown, hts, hK, hF0, hrt, hlocks⟩ := id C0
  intro h x2 x3 x4 H locs ls hw hh hS hl
  refine lv_aload hx hb d_Rows_cls_40 (lv_at hl 2 rfl) ?_
  obtain ⟨fs45, r48, hr46, hk47, hw⟩ := hw
  refine h_get C0 hh hr46 hk47 rfl i_Ini (by decide) k_f_Rows_83 (fun _ h9 => h9) d_Rows_cls_42 ?_
  refine lv_iload_n hx hb d_Rows_cls_45 rfl (lv_at hl 0 rfl) ?_
  refine lv_iload_n hx hb d_Rows_cls_46 rfl (lv_at hl 1 rfl) ?_
  obtain ⟨n49, f50, hr51, hi52, hw⟩ := hw
  refine h_iast C0 hh hS hr51 hi52 rfl d_Rows_cls_47 (fun H locs hh hS => ?_)
  obtain ⟨h53, eh53⟩ : ∃ z : hM, z = h_up h r48 (eT 0 n49 (upd f50 x2.toNatClampNeg x3)) := ⟨_, rfl⟩
  rw [← eh53] at hh
  have hw := hw h53 eh53
  refine lv_iconst (v := 1) hx hb d_Rows_cls_48 (by decide) ?_
  exact h_iret C0 hh hS rfl rfl ⟨_, rfl, hw⟩ d_Rows_cls_49
set_option maxHeartbeats 4000000 in
set_option maxRecDepth 100000 in
theorem S_Rows_cls {l : Launch} {κ : hX} (Q : Int32 → hM → Prop) (h : hM) (x0 : Nat) (x1 : Int32) (x2 : Int32) (x3 : Int32) (hw : P_Rows_cls Q h x0 x1 x2 x3) : Met l y_Rows_cls [Cond.code y_Rows_cls b_Rows_cls 5 (some .int)] rm_Rows_cls (hPc κ w_cl w_tl w_tb [.ref x0, .int x1, .int x2, .int x3] h) (hQ κ w_cl (qI Q)) 0 0 (h_A κ) := by
  refine h_enter w_TBm (by decide) (Nat.le_of_ble_eq_true rfl) ?_
  intro p e s m args below meth c C0 hnm hh hS ls hl
  obtain ⟨hx, hb, hml, hown, hts, hK, hF0, hrt, hlocks⟩ := id C0
  have hl : lv_has ls 5 [(0, .ref x0), (1, .int x1), (2, .int x2), (3, .int x3)] := hl
  refine lv_aload_n hx hb d_Rows_cls_0 rfl (lv_at hl 0 rfl) ?_
  refine lv_iload_n hx hb d_Rows_cls_1 rfl (lv_at hl 1 rfl) ?_
  obtain ⟨fs54, hr55, hw⟩ := hw
  refine h_callV (n := 1) C0 w_TBm hh hS hl.1 [.int x1] [] (S_Rows_findInitiator _ _ _ _ hw) hr55 rfl k_m_Rows_71 k_inst_Rows_findInitiator k_sel_Rows_findInitiator k_ini_Rows k_code_Rows_findInitiator (by decide +kernel) rfl rfl (Nat.le_of_ble_eq_true rfl) ⟨(Nat.le_of_ble_eq_true rfl), (Nat.le_of_ble_eq_true rfl)⟩ ⟨(Nat.le_of_ble_eq_true rfl), (Nat.le_of_ble_eq_true rfl)⟩ d_Rows_cls_2 (h_kO (k := 0) (n := 0) (Nat.le_of_ble_eq_true rfl) (Nat.le_of_ble_eq_true rfl) (fun o57 h56 H locs hw hh hS => ?_))
  refine h_astoreO (lv' := [(4, va_rf o57), (0, .ref x0), (1, .int x1), (2, .int x2), (3, .int x3)]) hx hb d_Rows_cls_5 hl (by decide) rfl (fun ls hl => ?_)
  refine h_aloadO hx hb d_Rows_cls_7 (lv_at hl 0 rfl) ?_
  rcases o57 with _ | a59
  · have hw := hw.1 rfl
    have hl : lv_has ls 5 [(4, .null), (0, .ref x0), (1, .int x1), (2, .int x2), (3, .int x3)] := hl
    refine lv_ifnonnullN hx hb d_Rows_cls_9 ?_
    refine lv_bipush (v := -2) hx hb d_Rows_cls_12 (by decide) ?_
    exact h_iret C0 hh hS rfl rfl ⟨_, rfl, hw⟩ d_Rows_cls_14
  · have hw := hw.2 a59 rfl
    have hl : lv_has ls 5 [(4, .ref a59), (0, .ref x0), (1, .int x1), (2, .int x2), (3, .int x3)] := hl
    refine lv_ifnonnull (tgt := 15) hx hb d_Rows_cls_9 (by decide) ?_
    refine lv_iload_n hx hb d_Rows_cls_15 rfl (lv_at hl 3 rfl) ?_
    refine lv_iconst (v := 0) hx hb d_Rows_cls_16 (by decide) ?_
    refine lv_bipush (v := 7) hx hb d_Rows_cls_17 (by decide) ?_
    refine h_callS (n := 3) C0 w_TBm hh hS hl.1 [.int x2, .int (0 : Int32), .int (7 : Int32)] [] (S_Rows_isIn _ _ _ _ _ hw) k_m_Rows_75 k_stat_Rows_isIn k_ini_Rows k_code_Rows_isIn (by decide +kernel) rfl rfl (Nat.le_of_ble_eq_true rfl) ⟨(Nat.le_of_ble_eq_true rfl), (Nat.le_of_ble_eq_true rfl)⟩ ⟨(Nat.le_of_ble_eq_true rfl), (Nat.le_of_ble_eq_true rfl)⟩ d_Rows_cls_19 (h_kI (k := 0) (n := 0) (Nat.le_of_ble_eq_true rfl) (Nat.le_of_ble_eq_true rfl) (fun i61 h60 H locs hw hh hS => ?_))
    refine lv_if_eq (tgt := 37) hx hb d_Rows_cls_22 (by decide) (fun c62 => ?_) (fun c62 => ?_)
    · have hw := hw.1 c62
      refine lv_bipush (v := -4) hx hb d_Rows_cls_37 (by decide) ?_
      exact h_iret C0 hh hS rfl rfl ⟨_, rfl, hw⟩ d_Rows_cls_39
    · have hw := hw.2 c62
      refine lv_iload_n hx hb d_Rows_cls_25 rfl (lv_at hl 4 rfl) ?_
      refine lv_iconst (v := -1) hx hb d_Rows_cls_26 (by decide) ?_
      refine lv_icmp_eq (tgt := 40) hx hb d_Rows_cls_27 (by decide) (fun c63 => ?_) (fun c63 => ?_)
      · have hw := hw.1 c63
        exact S_Rows_cls_40 C0 _ _ _ _ _ _ _ hw hh hS (lv_sub hl [3, 4, 0] rfl)
      · have hw := hw.2 c63
        refine lv_iload_n hx hb d_Rows_cls_30 rfl (lv_at hl 4 rfl) ?_
        refine h_callS (n := 1) C0 w_TBm hh hS hl.1 [.int x3] [] (S_Rows_isClass _ _ _ hw) k_m_Rows_79 k_stat_Rows_isClass k_ini_Rows k_code_Rows_isClass (by decide +kernel) rfl rfl (Nat.le_of_ble_eq_true rfl) ⟨(Nat.le_of_ble_eq_true rfl), (Nat.le_of_ble_eq_true rfl)⟩ ⟨(Nat.le_of_ble_eq_true rfl), (Nat.le_of_ble_eq_true rfl)⟩ d_Rows_cls_31 (h_kI (k := 0) (n := 0) (Nat.le_of_ble_eq_true rfl) (Nat.le_of_ble_eq_true rfl) (fun i65 h64 H locs hw hh hS => ?_))
        refine lv_if_ne (tgt := 40) hx hb d_Rows_cls_34 (by decide) (fun c66 => ?_) (fun c66 => ?_)
        · have hw := hw.1 c66
          exact S_Rows_cls_40 C0 _ _ _ _ _ _ _ hw hh hS (lv_sub hl [3, 4, 0] rfl)
        · have hw := hw.2 c66
          refine lv_bipush (v := -4) hx hb d_Rows_cls_37 (by decide) ?_
          exact h_iret C0 hh hS rfl rfl ⟨_, rfl, hw⟩ d_Rows_cls_39
set_option maxHeartbeats 4000000 in
set_option maxRecDepth 100000 in
theorem S_Rows_limit {l : Launch} {κ : hX} (Q : Int32 → hM → Prop) (h : hM) (x0 : Nat) (x1 : Int32) (x2 : Int32) (hw : P_Rows_limit Q h x0 x1 x2) : Met l y_Rows_limit [Cond.code y_Rows_limit b_Rows_limit 3 (some .int)] rm_Rows_limit (hPc κ w_cl w_tl w_tb [.ref x0, .int x1, .int x2] h) (hQ κ w_cl (qI Q)) 0 0 (h_A κ) := by
  refine h_enter w_TBm (by decide) (Nat.le_of_ble_eq_true rfl) ?_
  intro p e s m args below meth c C0 hnm hh hS ls hl
  obtain ⟨hx, hb, hml, hown, hts, hK, hF0, hrt, hlocks⟩ := id C0
  have hl : lv_has ls 3 [(0, .ref x0), (1, .int x1), (2, .int x2)] := hl
  refine lv_iload_n hx hb d_Rows_limit_0 rfl (lv_at hl 1 rfl) ?_
  refine h_callS (n := 1) C0 w_TBm hh hS hl.1 [.int x1] [] (S_Rows_isClass _ _ _ hw) k_m_Rows_79 k_stat_Rows_isClass k_ini_Rows k_code_Rows_isClass (by decide +kernel) rfl rfl (Nat.le_of_ble_eq_true rfl) ⟨(Nat.le_of_ble_eq_true rfl), (Nat.le_of_ble_eq_true rfl)⟩ ⟨(Nat.le_of_ble_eq_true rfl), (Nat.le_of_ble_eq_true rfl)⟩ d_Rows_limit_1 (h_kI (k := 0) (n := 0) (Nat.le_of_ble_eq_true rfl) (Nat.le_of_ble_eq_true rfl) (fun i17 h16 H locs hw hh hS => ?_))
  refine lv_if_eq (tgt := 17) hx hb d_Rows_limit_4 (by decide) (fun c18 => ?_) (fun c18 => ?_)
  · have hw := hw.1 c18
    refine lv_bipush (v := -4) hx hb d_Rows_limit_17 (by decide) ?_
    exact h_iret C0 hh hS rfl rfl ⟨_, rfl, hw⟩ d_Rows_limit_19
  · have hw := hw.2 c18
    refine lv_iload_n hx hb d_Rows_limit_7 rfl (lv_at hl 2 rfl) ?_
    refine lv_iconst (v := 0) hx hb d_Rows_limit_8 (by decide) ?_
    refine lv_bipush (v := 40) hx hb d_Rows_limit_9 (by decide) ?_
    refine h_callS (n := 3) C0 w_TBm hh hS hl.1 [.int x2, .int (0 : Int32), .int (40 : Int32)] [] (S_Rows_isIn _ _ _ _ _ hw) k_m_Rows_75 k_stat_Rows_isIn k_ini_Rows k_code_Rows_isIn (by decide +kernel) rfl rfl (Nat.le_of_ble_eq_true rfl) ⟨(Nat.le_of_ble_eq_true rfl), (Nat.le_of_ble_eq_true rfl)⟩ ⟨(Nat.le_of_ble_eq_true rfl), (Nat.le_of_ble_eq_true rfl)⟩ d_Rows_limit_11 (h_kI (k := 0) (n := 0) (Nat.le_of_ble_eq_true rfl) (Nat.le_of_ble_eq_true rfl) (fun i20 h19 H locs hw hh hS => ?_))
    refine lv_if_ne (tgt := 20) hx hb d_Rows_limit_14 (by decide) (fun c21 => ?_) (fun c21 => ?_)
    · have hw := hw.1 c21
      refine lv_aload_n hx hb d_Rows_limit_20 rfl (lv_at hl 0 rfl) ?_
      obtain ⟨fs22, r25, hr23, hk24, hw⟩ := hw
      refine h_get C0 hh hr23 hk24 rfl i_Rows (by decide) k_f_Rows_19 (fun _ h9 => h9) d_Rows_limit_21 ?_
      refine lv_iload_n hx hb d_Rows_limit_24 rfl (lv_at hl 1 rfl) ?_
      refine lv_iload_n hx hb d_Rows_limit_25 rfl (lv_at hl 2 rfl) ?_
      obtain ⟨n26, f27, hr28, hi29, hw⟩ := hw
      refine h_iast C0 hh hS hr28 hi29 rfl d_Rows_limit_26 (fun H locs hh hS => ?_)
      obtain ⟨h30, eh30⟩ : ∃ z : hM, z = h_up h19 r25 (eT 0 n26 (upd f27 x1.toNatClampNeg x2)) := ⟨_, rfl⟩
      rw [← eh30] at hh
      have hw := hw h30 eh30
      refine lv_iconst (v := 1) hx hb d_Rows_limit_27 (by decide) ?_
      exact h_iret C0 hh hS rfl rfl ⟨_, rfl, hw⟩ d_Rows_limit_28
    · have hw := hw.2 c21
      refine lv_bipush (v := -4) hx hb d_Rows_limit_17 (by decide) ?_
      exact h_iret C0 hh hS rfl rfl ⟨_, rfl, hw⟩ d_Rows_limit_19
set_option maxHeartbeats 4000000 in
set_option maxRecDepth 100000 in
theorem S_Rows_window {l : Launch} {κ : hX} (Q : Int32 → hM → Prop) (h : hM) (x0 : Nat) (x1 : Int32) (x2 : Int32) (x3 : Int32) (hw : P_Rows_window Q h x0 x1 x2 x3) : Met l y_Rows_window [Cond.code y_Rows_window b_Rows_window 4 (some .int)] rm_Rows_window (hPc κ w_cl w_tl w_tb [.ref x0, .int x1, .int x2, .int x3] h) (hQ κ w_cl (qI Q)) 0 0 (h_A κ) := by
  refine h_enter w_TBm (by decide) (Nat.le_of_ble_eq_true rfl) ?_
  intro p e s m args below meth c C0 hnm hh hS ls hl
  obtain ⟨hx, hb, hml, hown, hts, hK, hF0, hrt, hlocks⟩ := id C0
  have hl : lv_has ls 4 [(0, .ref x0), (1, .int x1), (2, .int x2), (3, .int x3)] := hl
  refine lv_iload_n hx hb d_Rows_window_0 rfl (lv_at hl 1 rfl) ?_
  refine h_callS (n := 1) C0 w_TBm hh hS hl.1 [.int x1] [] (S_Rows_isClass _ _ _ hw) k_m_Rows_79 k_stat_Rows_isClass k_ini_Rows k_code_Rows_isClass (by decide +kernel) rfl rfl (Nat.le_of_ble_eq_true rfl) ⟨(Nat.le_of_ble_eq_true rfl), (Nat.le_of_ble_eq_true rfl)⟩ ⟨(Nat.le_of_ble_eq_true rfl), (Nat.le_of_ble_eq_true rfl)⟩ d_Rows_window_1 (h_kI (k := 0) (n := 0) (Nat.le_of_ble_eq_true rfl) (Nat.le_of_ble_eq_true rfl) (fun i29 h28 H locs hw hh hS => ?_))
  refine lv_if_eq (tgt := 29) hx hb d_Rows_window_4 (by decide) (fun c30 => ?_) (fun c30 => ?_)
  · have hw := hw.1 c30
    refine lv_bipush (v := -4) hx hb d_Rows_window_29 (by decide) ?_
    exact h_iret C0 hh hS rfl rfl ⟨_, rfl, hw⟩ d_Rows_window_31
  · have hw := hw.2 c30
    refine lv_iload_n hx hb d_Rows_window_7 rfl (lv_at hl 2 rfl) ?_
    refine lv_iconst (v := 0) hx hb d_Rows_window_8 (by decide) ?_
    refine lv_sipush (v := 1439) hx hb d_Rows_window_9 (by decide) ?_
    refine h_callS (n := 3) C0 w_TBm hh hS hl.1 [.int x2, .int (0 : Int32), .int (1439 : Int32)] [] (S_Rows_isIn _ _ _ _ _ hw) k_m_Rows_75 k_stat_Rows_isIn k_ini_Rows k_code_Rows_isIn (by decide +kernel) rfl rfl (Nat.le_of_ble_eq_true rfl) ⟨(Nat.le_of_ble_eq_true rfl), (Nat.le_of_ble_eq_true rfl)⟩ ⟨(Nat.le_of_ble_eq_true rfl), (Nat.le_of_ble_eq_true rfl)⟩ d_Rows_window_12 (h_kI (k := 0) (n := 0) (Nat.le_of_ble_eq_true rfl) (Nat.le_of_ble_eq_true rfl) (fun i32 h31 H locs hw hh hS => ?_))
    refine lv_if_eq (tgt := 29) hx hb d_Rows_window_15 (by decide) (fun c33 => ?_) (fun c33 => ?_)
    · have hw := hw.1 c33
      refine lv_bipush (v := -4) hx hb d_Rows_window_29 (by decide) ?_
      exact h_iret C0 hh hS rfl rfl ⟨_, rfl, hw⟩ d_Rows_window_31
    · have hw := hw.2 c33
      refine lv_iload_n hx hb d_Rows_window_18 rfl (lv_at hl 3 rfl) ?_
      refine lv_iconst (v := 0) hx hb d_Rows_window_19 (by decide) ?_
      refine lv_sipush (v := 1439) hx hb d_Rows_window_20 (by decide) ?_
      refine h_callS (n := 3) C0 w_TBm hh hS hl.1 [.int x3, .int (0 : Int32), .int (1439 : Int32)] [] (S_Rows_isIn _ _ _ _ _ hw) k_m_Rows_75 k_stat_Rows_isIn k_ini_Rows k_code_Rows_isIn (by decide +kernel) rfl rfl (Nat.le_of_ble_eq_true rfl) ⟨(Nat.le_of_ble_eq_true rfl), (Nat.le_of_ble_eq_true rfl)⟩ ⟨(Nat.le_of_ble_eq_true rfl), (Nat.le_of_ble_eq_true rfl)⟩ d_Rows_window_23 (h_kI (k := 0) (n := 0) (Nat.le_of_ble_eq_true rfl) (Nat.le_of_ble_eq_true rfl) (fun i35 h34 H locs hw hh hS => ?_))
      refine lv_if_ne (tgt := 32) hx hb d_Rows_window_26 (by decide) (fun c36 => ?_) (fun c36 => ?_)
      · have hw := hw.1 c36
        refine lv_aload_n hx hb d_Rows_window_32 rfl (lv_at hl 0 rfl) ?_
        obtain ⟨fs37, r40, hr38, hk39, hw⟩ := hw
        refine h_get C0 hh hr38 hk39 rfl i_Rows (by decide) k_f_Rows_23 (fun _ h9 => h9) d_Rows_window_33 ?_
        refine lv_iload_n hx hb d_Rows_window_36 rfl (lv_at hl 1 rfl) ?_
        refine lv_iload_n hx hb d_Rows_window_37 rfl (lv_at hl 2 rfl) ?_
        obtain ⟨n41, f42, hr43, hi44, hw⟩ := hw
        refine h_iast C0 hh hS hr43 hi44 rfl d_Rows_window_38 (fun H locs hh hS => ?_)
        obtain ⟨h45, eh45⟩ : ∃ z : hM, z = h_up h34 r40 (eT 0 n41 (upd f42 x1.toNatClampNeg x2)) := ⟨_, rfl⟩
        rw [← eh45] at hh
        have hw := hw h45 eh45
        refine lv_aload_n hx hb d_Rows_window_39 rfl (lv_at hl 0 rfl) ?_
        obtain ⟨fs46, r49, hr47, hk48, hw⟩ := hw
        refine h_get C0 hh hr47 hk48 rfl i_Rows (by decide) k_f_Rows_26 (fun _ h9 => h9) d_Rows_window_40 ?_
        refine lv_iload_n hx hb d_Rows_window_43 rfl (lv_at hl 1 rfl) ?_
        refine lv_iload_n hx hb d_Rows_window_44 rfl (lv_at hl 3 rfl) ?_
        obtain ⟨n50, f51, hr52, hi53, hw⟩ := hw
        refine h_iast C0 hh hS hr52 hi53 rfl d_Rows_window_45 (fun H locs hh hS => ?_)
        obtain ⟨h54, eh54⟩ : ∃ z : hM, z = h_up h45 r49 (eT 0 n50 (upd f51 x1.toNatClampNeg x3)) := ⟨_, rfl⟩
        rw [← eh54] at hh
        have hw := hw h54 eh54
        refine lv_iconst (v := 1) hx hb d_Rows_window_46 (by decide) ?_
        exact h_iret C0 hh hS rfl rfl ⟨_, rfl, hw⟩ d_Rows_window_47
      · have hw := hw.2 c36
        refine lv_bipush (v := -4) hx hb d_Rows_window_29 (by decide) ?_
        exact h_iret C0 hh hS rfl rfl ⟨_, rfl, hw⟩ d_Rows_window_31
set_option maxHeartbeats 4000000 in
set_option maxRecDepth 100000 in
theorem S_Rows_job {l : Launch} {κ : hX} (Q : Int32 → hM → Prop) (h : hM) (x0 : Nat) (x1 : Int32) (x2 : Int32) (x3 : Int32) (x4 : Int64) (hw : P_Rows_job Q h x0 x1 x2 x3 x4) : Met l y_Rows_job [Cond.code y_Rows_job b_Rows_job 7 (some .int)] rm_Rows_job (hPc κ w_cl w_tl w_tb [.ref x0, .int x1, .int x2, .int x3, .long x4] h) (hQ κ w_cl (qI Q)) 4 176 (h_A κ) := by
  refine h_enter w_TBm (by decide) (Nat.le_of_ble_eq_true rfl) ?_
  intro p e s m args below meth c C0 hnm hh hS ls hl
  obtain ⟨hx, hb, hml, hown, hts, hK, hF0, hrt, hlocks⟩ := id C0
  have hl : lv_has ls 7 [(0, .ref x0), (1, .int x1), (2, .int x2), (3, .int x3), (4, .long x4)] := hl
  refine lv_iload_n hx hb d_Rows_job_0 rfl (lv_at hl 1 rfl) ?_
  refine h_callS (n := 1) C0 w_TBm hh hS hl.1 [.int x1] [] (S_Rows_isClass _ _ _ hw) k_m_Rows_79 k_stat_Rows_isClass k_ini_Rows k_code_Rows_isClass (by decide +kernel) rfl rfl (Nat.le_of_ble_eq_true rfl) ⟨(Nat.le_of_ble_eq_true rfl), (Nat.le_of_ble_eq_true rfl)⟩ ⟨(Nat.le_of_ble_eq_true rfl), (Nat.le_of_ble_eq_true rfl)⟩ d_Rows_job_1 (h_kI (k := 0) (n := 0) (Nat.le_of_ble_eq_true rfl) (Nat.le_of_ble_eq_true rfl) (fun i50 h49 H locs hw hh hS => ?_))
  refine lv_if_eq (tgt := 37) hx hb d_Rows_job_4 (by decide) (fun c51 => ?_) (fun c51 => ?_)
  · have hw := hw.1 c51
    refine lv_bipush (v := -4) hx hb d_Rows_job_37 (by decide) ?_
    refine W.widen (k := 4) (n := 176) (Nat.le_of_ble_eq_true rfl) (Nat.le_of_ble_eq_true rfl) ?_
    exact h_iret C0 hh hS rfl rfl ⟨_, rfl, hw⟩ d_Rows_job_39
  · have hw := hw.2 c51
    refine lv_iload_n hx hb d_Rows_job_7 rfl (lv_at hl 2 rfl) ?_
    refine lv_iconst (v := 0) hx hb d_Rows_job_8 (by decide) ?_
    refine lv_bipush (v := 15) hx hb d_Rows_job_9 (by decide) ?_
    refine h_callS (n := 3) C0 w_TBm hh hS hl.1 [.int x2, .int (0 : Int32), .int (15 : Int32)] [] (S_Rows_isIn _ _ _ _ _ hw) k_m_Rows_75 k_stat_Rows_isIn k_ini_Rows k_code_Rows_isIn (by decide +kernel) rfl rfl (Nat.le_of_ble_eq_true rfl) ⟨(Nat.le_of_ble_eq_true rfl), (Nat.le_of_ble_eq_true rfl)⟩ ⟨(Nat.le_of_ble_eq_true rfl), (Nat.le_of_ble_eq_true rfl)⟩ d_Rows_job_11 (h_kI (k := 0) (n := 0) (Nat.le_of_ble_eq_true rfl) (Nat.le_of_ble_eq_true rfl) (fun i53 h52 H locs hw hh hS => ?_))
    refine lv_if_eq (tgt := 37) hx hb d_Rows_job_14 (by decide) (fun c54 => ?_) (fun c54 => ?_)
    · have hw := hw.1 c54
      refine lv_bipush (v := -4) hx hb d_Rows_job_37 (by decide) ?_
      refine W.widen (k := 4) (n := 176) (Nat.le_of_ble_eq_true rfl) (Nat.le_of_ble_eq_true rfl) ?_
      exact h_iret C0 hh hS rfl rfl ⟨_, rfl, hw⟩ d_Rows_job_39
    · have hw := hw.2 c54
      refine lv_iload_n hx hb d_Rows_job_17 rfl (lv_at hl 3 rfl) ?_
      refine lv_iconst (v := 0) hx hb d_Rows_job_18 (by decide) ?_
      refine lv_bipush (v := 99) hx hb d_Rows_job_19 (by decide) ?_
      refine h_callS (n := 3) C0 w_TBm hh hS hl.1 [.int x3, .int (0 : Int32), .int (99 : Int32)] [] (S_Rows_isIn _ _ _ _ _ hw) k_m_Rows_75 k_stat_Rows_isIn k_ini_Rows k_code_Rows_isIn (by decide +kernel) rfl rfl (Nat.le_of_ble_eq_true rfl) ⟨(Nat.le_of_ble_eq_true rfl), (Nat.le_of_ble_eq_true rfl)⟩ ⟨(Nat.le_of_ble_eq_true rfl), (Nat.le_of_ble_eq_true rfl)⟩ d_Rows_job_21 (h_kI (k := 0) (n := 0) (Nat.le_of_ble_eq_true rfl) (Nat.le_of_ble_eq_true rfl) (fun i56 h55 H locs hw hh hS => ?_))
      refine lv_if_eq (tgt := 37) hx hb d_Rows_job_24 (by decide) (fun c57 => ?_) (fun c57 => ?_)
      · have hw := hw.1 c57
        refine lv_bipush (v := -4) hx hb d_Rows_job_37 (by decide) ?_
        refine W.widen (k := 4) (n := 176) (Nat.le_of_ble_eq_true rfl) (Nat.le_of_ble_eq_true rfl) ?_
        exact h_iret C0 hh hS rfl rfl ⟨_, rfl, hw⟩ d_Rows_job_39
      · have hw := hw.2 c57
        refine lv_lload hx hb d_Rows_job_27 (lv_at hl 4 rfl) ?_
        refine lv_aload_n hx hb d_Rows_job_29 rfl (lv_at hl 0 rfl) ?_
        obtain ⟨fs58, j61, hr59, hk60, hw⟩ := hw
        refine h_get C0 hh hr59 hk60 rfl i_Rows (by decide) k_f_Rows_49 (fun _ h9 => h9) d_Rows_job_30 ?_
        refine W.lcmp hx hb d_Rows_job_33 ?_
        refine lv_if_ge (tgt := 40) hx hb d_Rows_job_34 (by decide) (fun c62 => ?_) (fun c62 => ?_)
        · have hw := hw.1 ((lg_cmp_ge _ _).mp c62)
          refine lv_aload_n hx hb d_Rows_job_40 rfl (lv_at hl 0 rfl) ?_
          obtain ⟨fs63, r66, hr64, hk65, hw⟩ := hw
          refine h_get C0 hh hr64 hk65 rfl i_Rows (by decide) k_f_Rows_16 (fun _ h9 => h9) d_Rows_job_41 ?_
          obtain ⟨fs67, hr68, hw⟩ := hw
          refine h_callV (n := 0) C0 w_TBm hh hS hl.1 [] [] (S_AL_size _ _ _ hw) hr68 rfl k_m_Rows_60 k_inst_AL_size k_sel_AL_size k_ini_AL k_code_AL_size (by decide +kernel) rfl rfl (Nat.le_of_ble_eq_true rfl) ⟨(Nat.le_of_ble_eq_true rfl), (Nat.le_of_ble_eq_true rfl)⟩ ⟨(Nat.le_of_ble_eq_true rfl), (Nat.le_of_ble_eq_true rfl)⟩ d_Rows_job_44 (h_kI (k := 0) (n := 0) (Nat.le_of_ble_eq_true rfl) (Nat.le_of_ble_eq_true rfl) (fun i70 h69 H locs hw hh hS => ?_))
          refine lv_bipush (v := 100) hx hb d_Rows_job_47 (by decide) ?_
          refine lv_icmp_lt (tgt := 54) hx hb d_Rows_job_49 (by decide) (fun c71 => ?_) (fun c71 => ?_)
          · have hw := hw.1 c71
            refine lv_aload_n hx hb d_Rows_job_54 rfl (lv_at hl 0 rfl) ?_
            refine lv_lload hx hb d_Rows_job_55 (lv_at hl 4 rfl) ?_
            obtain ⟨fs72, hr73, hk74, hw⟩ := hw
            refine h_put C0 hh hS (v := .long x4) hr73 hk74 rfl i_Rows t_Rows t_Rows_ok n_Rows (by decide) k_f_Rows_49 (fun _ h9 => h9) rfl rfl rfl rfl d_Rows_job_57 (fun H locs hh hS => ?_)
            obtain ⟨h75, eh75⟩ : ∃ z : hM, z = h_up h69 x0 (eO 0 (fs72.set 9 (.long x4))) := ⟨_, rfl⟩
            rw [← eh75] at hh
            have hw := hw h75 eh75
            refine lv_aload_n hx hb d_Rows_job_60 rfl (lv_at hl 0 rfl) ?_
            obtain ⟨fs76, r79, hr77, hk78, hw⟩ := hw
            refine h_get C0 hh hr77 hk78 rfl i_Rows (by decide) k_f_Rows_16 (fun _ h9 => h9) d_Rows_job_61 ?_
            obtain ⟨fs80, hr81, hw⟩ := hw
            refine h_callV (n := 0) C0 w_TBm hh hS hl.1 [] [] (S_AL_size _ _ _ hw) hr81 rfl k_m_Rows_60 k_inst_AL_size k_sel_AL_size k_ini_AL k_code_AL_size (by decide +kernel) rfl rfl (Nat.le_of_ble_eq_true rfl) ⟨(Nat.le_of_ble_eq_true rfl), (Nat.le_of_ble_eq_true rfl)⟩ ⟨(Nat.le_of_ble_eq_true rfl), (Nat.le_of_ble_eq_true rfl)⟩ d_Rows_job_64 (h_kI (k := 0) (n := 0) (Nat.le_of_ble_eq_true rfl) (Nat.le_of_ble_eq_true rfl) (fun i83 h82 H locs hw hh hS => ?_))
            refine lv_iconst (v := 1) hx hb d_Rows_job_67 (by decide) ?_
            refine lv_iadd hx hb d_Rows_job_68 ?_
            refine lv_topi (fun x6_84 ex6_84 => ?_)
            have hw := hw x6_84 ex6_84
            refine lv_istore (lv' := [(6, .int x6_84), (0, .ref x0), (1, .int x1), (2, .int x2), (3, .int x3), (4, .long x4)]) hx hb d_Rows_job_69 hl (by decide) rfl (fun ls hl => ?_)
            refine lv_aload_n hx hb d_Rows_job_71 rfl (lv_at hl 1 rfl) ?_
            obtain ⟨fs85, r88, hr86, hk87, hw⟩ := hw
            refine h_get C0 hh hr86 hk87 rfl i_Rows (by decide) k_f_Rows_16 (fun _ h9 => h9) d_Rows_job_72 ?_
            refine h_new C0 hh hS (ci := 1) (fs := [.int 0, .int 0, .int 0, .int 0, .long 0, .null, .null, .int 0, .int 0, .long 0]) rfl i_Job t_Job t_Job_ok k_c_Rows_86 k_made_Job k_ini_Job def_Job (Nat.le_of_ble_eq_true rfl) (Nat.le_of_ble_eq_true rfl) d_Rows_job_75 (fun q89 H hqq89 hzq89 hh hS => ?_)
            obtain ⟨h90, eh90⟩ : ∃ z : hM, z = h_up h82 q89 (eO 1 [.int 0, .int 0, .int 0, .int 0, .long 0, .null, .null, .int 0, .int 0, .long 0]) := ⟨_, rfl⟩
            rw [← eh90] at hh
            have hw := hw q89 hqq89 h90 eh90
            refine W.widen (k := 1) (n := 10) (Nat.le_of_ble_eq_true rfl) (Nat.le_of_ble_eq_true rfl) ?_
            refine lv_dup hx hb d_Rows_job_78 rfl ?_
            refine lv_iload hx hb d_Rows_job_79 (lv_at hl 0 rfl) ?_
            refine lv_iload_n hx hb d_Rows_job_81 rfl (lv_at hl 2 rfl) ?_
            refine lv_iload_n hx hb d_Rows_job_82 rfl (lv_at hl 3 rfl) ?_
            refine lv_iload_n hx hb d_Rows_job_83 rfl (lv_at hl 4 rfl) ?_
            refine lv_lload hx hb d_Rows_job_84 (lv_at hl 5 rfl) ?_
            refine h_callI (n := 5) C0 w_TBm hh hS hl.1 [.int x6_84, .int x1, .int x2, .int x3, .long x4] [.ref q89, .ref r88] (S_Job_init _ _ _ _ _ _ _ _ hw) k_m_Rows_88 k_inst_Job_init rfl k_ini_Job k_code_Job_init (by decide +kernel) rfl rfl (Nat.le_of_ble_eq_true rfl) ⟨(Nat.le_of_ble_eq_true rfl), (Nat.le_of_ble_eq_true rfl)⟩ ⟨(Nat.le_of_ble_eq_true rfl), (Nat.le_of_ble_eq_true rfl)⟩ d_Rows_job_86 (h_kV (k := 3) (n := 16) (Nat.le_of_ble_eq_true rfl) (Nat.le_of_ble_eq_true rfl) (fun h91 H locs hw hh hS => ?_))
            obtain ⟨fs93, hr94, hw⟩ := hw
            refine h_callV (n := 1) C0 w_TBm hh hS hl.1 [.ref q89] [] (S_AL_add_L _ _ _ _ hw) hr94 rfl k_m_Rows_67 k_inst_AL_add_L k_sel_AL_add_L k_ini_AL k_code_AL_add_L (by decide +kernel) rfl rfl (Nat.le_of_ble_eq_true rfl) ⟨(Nat.le_of_ble_eq_true rfl), (Nat.le_of_ble_eq_true rfl)⟩ ⟨(Nat.le_of_ble_eq_true rfl), (Nat.le_of_ble_eq_true rfl)⟩ d_Rows_job_89 (h_kI (k := 4) (n := 176) (Nat.le_of_ble_eq_true rfl) (Nat.le_of_ble_eq_true rfl) (fun i96 h95 H locs hw hh hS => ?_))
            refine lv_pop hx hb d_Rows_job_92 rfl ?_
            refine lv_iload hx hb d_Rows_job_93 (lv_at hl 0 rfl) ?_
            exact h_iret C0 hh hS rfl rfl ⟨_, rfl, hw⟩ d_Rows_job_95
          · have hw := hw.2 c71
            refine lv_iconst (v := -1) hx hb d_Rows_job_52 (by decide) ?_
            refine W.widen (k := 4) (n := 176) (Nat.le_of_ble_eq_true rfl) (Nat.le_of_ble_eq_true rfl) ?_
            exact h_iret C0 hh hS rfl rfl ⟨_, rfl, hw⟩ d_Rows_job_53
        · have hw := hw.2 (fun z => c62 ((lg_cmp_ge _ _).mpr z))
          refine lv_bipush (v := -4) hx hb d_Rows_job_37 (by decide) ?_
          refine W.widen (k := 4) (n := 176) (Nat.le_of_ble_eq_true rfl) (Nat.le_of_ble_eq_true rfl) ?_
          exact h_iret C0 hh hS rfl rfl ⟨_, rfl, hw⟩ d_Rows_job_39
set_option maxHeartbeats 4000000 in
set_option maxRecDepth 100000 in
theorem S_Rows_findJob {l : Launch} {κ : hX} (Q : Option Nat → hM → Prop) (h : hM) (x0 : Nat) (x1 : Int32) (hw : P_Rows_findJob Q h x0 x1) : Met l y_Rows_findJob [Cond.code y_Rows_findJob b_Rows_findJob 2 (some (.object "InitiatorRows$Job"))] rm_Rows_findJob (hPc κ w_cl w_tl w_tb [.ref x0, .int x1] h) (hQ κ w_cl (qO Q)) 0 0 (h_A κ) := by
  refine h_enter w_TBm (by decide) (Nat.le_of_ble_eq_true rfl) ?_
  intro p e s m args below meth c C0 hnm hh hS ls hl
  obtain ⟨hx, hb, hml, hown, hts, hK, hF0, hrt, hlocks⟩ := id C0
  have hl : lv_has ls 2 [(0, .ref x0), (1, .int x1)] := hl
  refine lv_iload_n hx hb d_Rows_findJob_0 rfl (lv_at hl 1 rfl) ?_
  refine lv_iconst (v := 1) hx hb d_Rows_findJob_1 (by decide) ?_
  refine lv_aload_n hx hb d_Rows_findJob_2 rfl (lv_at hl 0 rfl) ?_
  obtain ⟨fs23, r26, hr24, hk25, hw⟩ := hw
  refine h_get C0 hh hr24 hk25 rfl i_Rows (by decide) k_f_Rows_16 (fun _ h9 => h9) d_Rows_findJob_3 ?_
  obtain ⟨fs27, hr28, hw⟩ := hw
  refine h_callV (n := 0) C0 w_TBm hh hS hl.1 [] [.int (1 : Int32), .int x1] (S_AL_size _ _ _ hw) hr28 rfl k_m_Rows_60 k_inst_AL_size k_sel_AL_size k_ini_AL k_code_AL_size (by decide +kernel) rfl rfl (Nat.le_of_ble_eq_true rfl) ⟨(Nat.le_of_ble_eq_true rfl), (Nat.le_of_ble_eq_true rfl)⟩ ⟨(Nat.le_of_ble_eq_true rfl), (Nat.le_of_ble_eq_true rfl)⟩ d_Rows_findJob_6 (h_kI (k := 0) (n := 0) (Nat.le_of_ble_eq_true rfl) (Nat.le_of_ble_eq_true rfl) (fun i30 h29 H locs hw hh hS => ?_))
  refine h_callS (n := 3) C0 w_TBm hh hS hl.1 [.int x1, .int (1 : Int32), .int i30] [] (S_Rows_isIn _ _ _ _ _ hw) k_m_Rows_75 k_stat_Rows_isIn k_ini_Rows k_code_Rows_isIn (by decide +kernel) rfl rfl (Nat.le_of_ble_eq_true rfl) ⟨(Nat.le_of_ble_eq_true rfl), (Nat.le_of_ble_eq_true rfl)⟩ ⟨(Nat.le_of_ble_eq_true rfl), (Nat.le_of_ble_eq_true rfl)⟩ d_Rows_findJob_9 (h_kI (k := 0) (n := 0) (Nat.le_of_ble_eq_true rfl) (Nat.le_of_ble_eq_true rfl) (fun i32 h31 H locs hw hh hS => ?_))
  refine lv_if_eq (tgt := 31) hx hb d_Rows_findJob_12 (by decide) (fun c33 => ?_) (fun c33 => ?_)
  · have hw := hw.1 c33
    refine lv_null hx hb d_Rows_findJob_31 ?_
    exact h_aret (o := none) C0 hh hS rfl (Or.inl ⟨_, rfl⟩) ⟨_, rfl, hw⟩ d_Rows_findJob_32
  · have hw := hw.2 c33
    refine lv_aload_n hx hb d_Rows_findJob_15 rfl (lv_at hl 0 rfl) ?_
    obtain ⟨fs34, r37, hr35, hk36, hw⟩ := hw
    refine h_get C0 hh hr35 hk36 rfl i_Rows (by decide) k_f_Rows_16 (fun _ h9 => h9) d_Rows_findJob_16 ?_
    refine lv_iload_n hx hb d_Rows_findJob_19 rfl (lv_at hl 1 rfl) ?_
    refine lv_iconst (v := 1) hx hb d_Rows_findJob_20 (by decide) ?_
    refine lv_isub hx hb d_Rows_findJob_21 ?_
    obtain ⟨fs38, hr39, hw⟩ := hw
    refine h_callV (n := 1) C0 w_TBm hh hS hl.1 [.int (x1 - (1 : Int32))] [] (S_AL_get _ _ _ _ hw) hr39 rfl k_m_Rows_156 k_inst_AL_get k_sel_AL_get k_ini_AL k_code_AL_get (by decide +kernel) rfl rfl (Nat.le_of_ble_eq_true rfl) ⟨(Nat.le_of_ble_eq_true rfl), (Nat.le_of_ble_eq_true rfl)⟩ ⟨(Nat.le_of_ble_eq_true rfl), (Nat.le_of_ble_eq_true rfl)⟩ d_Rows_findJob_22 (h_kO (k := 0) (n := 0) (Nat.le_of_ble_eq_true rfl) (Nat.le_of_ble_eq_true rfl) (fun o41 h40 H locs hw hh hS => ?_))
    rcases o41 with _ | a42
    · have hw := hw.1 rfl
      have hl : lv_has ls 2 [(0, .ref x0), (1, .int x1)] := hl
      refine lv_castN hx hb d_Rows_findJob_25 ?_
      refine lv_goto (tgt := 32) hx hb d_Rows_findJob_28 (by decide) ?_
      exact h_aret (o := none) C0 hh hS rfl (Or.inl ⟨_, rfl⟩) ⟨_, rfl, hw⟩ d_Rows_findJob_32
    · have hw := hw.2 a42 rfl
      have hl : lv_has ls 2 [(0, .ref x0), (1, .int x1)] := hl
      obtain ⟨⟨fs43, hr44⟩, hw⟩ := hw
      refine h_cast C0 hh hr44 rfl k_c_Rows_86 d_Rows_findJob_25 ?_
      refine lv_goto (tgt := 32) hx hb d_Rows_findJob_28 (by decide) ?_
      exact h_aret (o := (some a42)) C0 hh hS rfl (Or.inl ⟨_, rfl⟩) ⟨_, rfl, hw⟩ d_Rows_findJob_32
set_option maxHeartbeats 4000000 in
set_option maxRecDepth 100000 in
theorem S_Rows_addNeed_71 {p : Program} {l : Launch} {e : Env} {s : State} {m : MethodId} {args : Array Value} {below : List Frame} {meth : Method} {c : Code} {κ : hX} {Q : hM → Prop} {K2 : hM → Nat → Nat → Nat → Int32 → Prop} (C0 : Cw κ w_cl w_tl w_tb p s m args meth c b_Rows_addNeed 5 R_Rows none) (hK2 : ∀ (h : hM) (x0 : Nat) (x1 : Nat) (x2 : Nat) (x3 : Int32) (H : Heap) (locs : List Loc) (ls : Array Slot), K2 h x0 x1 x2 x3 → hp κ w_cl h H → va_S (h_A κ) s.heap H locs → lv_has ls 5 [(0, .ref x0), (1, .ref x1), (2, .ref x2), (3, .int x3)] → W p l e rm_Rows_addNeed s m args below meth c H locs 0 0 (MQ below (hQ κ w_cl (qV Q)) args s 0 0 (h_A κ)) (F0 m 2 ls [])) : ∀ (h : hM) (x0 : Nat) (x1 : Nat) (x2 : Nat) (x3 : Int32) (H : Heap) (locs : List Loc) (ls : Array Slot), P_Rows_addNeed_71 Q K2 h x0 x1 x2 x3 → hp κ w_cl h H → va_S (h_A κ) s.heap H locs → lv_has ls 5 [(0, .ref x0), (1, .ref x1), (2, .ref x2), (3, .int x3)] → W p l e rm_Rows_addNeed s m args below meth c H locs 0 0 (MQ below (hQ κ w_cl (qV Q)) args s 0 0 (h_A κ)) (F0 m 71 ls []) := by
  obtain ⟨hx, hb, hml, hown, hts, hK, hF0, hrt, hlocks⟩ := id C0
  intro h x0 x1 x2 x3 H locs ls hw hh hS hl
  obtain ⟨x3_123, ex3_123⟩ : ∃ z : Int32, z = x3 + 1 := ⟨_, rfl⟩
  have hw := hw x3_123 ex3_123
  refine lv_iinc (v := x3_123) (lv' := [(3, .int x3_123), (0, .ref x0), (1, .ref x1), (2, .ref x2)]) hx hb d_Rows_addNeed_71 hl (k := 3) rfl (by rw [ex3_123]; rfl) (by decide) rfl (fun ls hl => ?_)
  refine lv_goto (tgt := 2) hx hb d_Rows_addNeed_74 (by decide) ?_
  exact hK2 _ _ _ _ _ _ _ _ hw hh hS (lv_sub hl [1, 2, 3, 0] rfl)
set_option maxHeartbeats 4000000 in
set_option maxRecDepth 100000 in
theorem S_Rows_addNeed_47 {p : Program} {l : Launch} {e : Env} {s : State} {m : MethodId} {args : Array Value} {below : List Frame} {meth : Method} {c : Code} {κ : hX} {Q : hM → Prop} {K2 : hM → Nat → Nat → Nat → Int32 → Prop} (C0 : Cw κ w_cl w_tl w_tb p s m args meth c b_Rows_addNeed 5 R_Rows none) (hK2 : ∀ (h : hM) (x0 : Nat) (x1 : Nat) (x2 : Nat) (x3 : Int32) (H : Heap) (locs : List Loc) (ls : Array Slot), K2 h x0 x1 x2 x3 → hp κ w_cl h H → va_S (h_A κ) s.heap H locs → lv_has ls 5 [(0, .ref x0), (1, .ref x1), (2, .ref x2), (3, .int x3)] → W p l e rm_Rows_addNeed s m args below meth c H locs 0 0 (MQ below (hQ κ w_cl (qV Q)) args s 0 0 (h_A κ)) (F0 m 2 ls [])) : ∀ (h : hM) (x0 : Nat) (x1 : Nat) (x2 : Nat) (x3 : Int32) (x4 : Option Nat) (H : Heap) (locs : List Loc) (ls : Array Slot), P_Rows_addNeed_47 Q K2 h x0 x1 x2 x3 x4 → hp κ w_cl h H → va_S (h_A κ) s.heap H locs → lv_has ls 5 [(0, .ref x0), (1, .ref x1), (2, .ref x2), (3, .int x3), (4, va_rf x4)] → W p l e rm_Rows_addNeed s m args below meth c H locs 0 0 (MQ below (hQ κ w_cl (qV Q)) args s 0 0 (h_A κ)) (F0 m 47 ls []) := by
  obtain ⟨hx, hb, hml, hown, hts, hK, hF0, hrt, hlocks⟩ := id C0
  intro h x0 x1 x2 x3 x4 H locs ls hw hh hS hl
  refine h_aloadO hx hb d_Rows_addNeed_47 (lv_at hl 4 rfl) ?_
  obtain ⟨a124, he9, hw⟩ := hw
  subst he9
  have hl : lv_has ls 5 [(0, .ref x0), (1, .ref x1), (2, .ref x2), (3, .int x3), (4, .ref a124)] := hl
  obtain ⟨fs125, r128, hr126, hk127, hw⟩ := hw
  refine h_get C0 hh hr126 hk127 rfl i_Job (by decide) k_f_Rows_99 (fun _ h9 => h9) d_Rows_addNeed_49 ?_
  refine lv_aload_n hx hb d_Rows_addNeed_52 rfl (lv_at hl 2 rfl) ?_
  obtain ⟨fs129, i132, hr130, hk131, hw⟩ := hw
  refine h_get C0 hh hr130 hk131 rfl i_Job (by decide) k_f_Rows_136 (fun _ h9 => h9) d_Rows_addNeed_53 ?_
  obtain ⟨fs133, hr134, hw⟩ := hw
  refine h_callV (n := 1) C0 w_TBm hh hS hl.1 [.int i132] [] (S_NS_put _ _ _ _ hw) hr134 rfl k_m_Rows_183 k_inst_NS_put k_sel_NS_put k_ini_NS k_code_NS_put (by decide +kernel) rfl rfl (Nat.le_of_ble_eq_true rfl) ⟨(Nat.le_of_ble_eq_true rfl), (Nat.le_of_ble_eq_true rfl)⟩ ⟨(Nat.le_of_ble_eq_true rfl), (Nat.le_of_ble_eq_true rfl)⟩ d_Rows_addNeed_56 (h_kV (k := 0) (n := 0) (Nat.le_of_ble_eq_true rfl) (Nat.le_of_ble_eq_true rfl) (fun h135 H locs hw hh hS => ?_))
  refine lv_aload hx hb d_Rows_addNeed_59 (lv_at hl 4 rfl) ?_
  obtain ⟨fs137, r140, hr138, hk139, hw⟩ := hw
  refine h_get C0 hh hr138 hk139 rfl i_Job (by decide) k_f_Rows_99 (fun _ h9 => h9) d_Rows_addNeed_61 ?_
  refine lv_aload_n hx hb d_Rows_addNeed_64 rfl (lv_at hl 2 rfl) ?_
  obtain ⟨fs141, r144, hr142, hk143, hw⟩ := hw
  refine h_get C0 hh hr142 hk143 rfl i_Job (by decide) k_f_Rows_99 (fun _ h9 => h9) d_Rows_addNeed_65 ?_
  obtain ⟨fs145, hr146, hw⟩ := hw
  refine h_callV (n := 1) C0 w_TBm hh hS hl.1 [.ref r144] [] (S_NS_putAll _ _ _ _ hw) hr146 rfl k_m_Rows_187 k_inst_NS_putAll k_sel_NS_putAll k_ini_NS k_code_NS_putAll (by decide +kernel) rfl rfl (Nat.le_of_ble_eq_true rfl) ⟨(Nat.le_of_ble_eq_true rfl), (Nat.le_of_ble_eq_true rfl)⟩ ⟨(Nat.le_of_ble_eq_true rfl), (Nat.le_of_ble_eq_true rfl)⟩ d_Rows_addNeed_68 (h_kV (k := 0) (n := 0) (Nat.le_of_ble_eq_true rfl) (Nat.le_of_ble_eq_true rfl) (fun h147 H locs hw hh hS => ?_))
  exact S_Rows_addNeed_71 C0 hK2 _ _ _ _ _ _ _ _ hw hh hS (lv_sub hl [0, 1, 2, 3] rfl)
