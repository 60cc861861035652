set_option maxHeartbeats 4000000 in
set_option maxRecDepth 100000 in
theorem S_Load_init {l : Launch} {κ : hX} (Q : hM → Prop) (h : hM) (x0 : Nat) (hw : P_Load_init Q h x0) : Met l y_Load_init [Cond.code y_Load_init b_Load_init 1 none] rm_Load_init (hPc κ w_cl w_tl w_tb [.ref x0] h) (hQ κ w_cl (qV Q)) 3 42 (h_A κ) := by
  refine h_enter w_TBm (by decide) (Nat.le_of_ble_eq_true rfl) ?_
  intro p e s m args below meth c C0 hnm hh hS ls hl
  obtain ⟨hx, hb, hml, hown, hts, hK, hF0, hrt, hlocks⟩ := id C0
  have hl : lv_has ls 1 [(0, .ref x0)] := hl
  refine lv_aload_n hx hb d_Load_init_0 rfl (lv_at hl 0 rfl) ?_
  refine W.objInit hx hb hown (hts _ k_m_Load_3) (hts _ k_oi_inst) (hts _ k_oi_code) rfl (by rw [hml]; exact hl.1) rfl d_Load_init_1 (Nat.le_of_ble_eq_true rfl) (Nat.le_of_ble_eq_true rfl) ?_
  refine W.eq (g2 := F0 m 4 ls []) rfl ?_
  refine lv_aload_n hx hb d_Load_init_4 rfl (lv_at hl 0 rfl) ?_
  refine lv_bipush (v := 36) hx hb d_Load_init_5 (by decide) ?_
  refine h_newa C0 hh hS (t := 0) (y := (eT 0 36 (fun _ => 0))) (ty := .int) rfl rfl rfl (fun _ => rfl) (by decide) rfl (Nat.le_of_ble_eq_true rfl) k_arr_int (Nat.le_of_ble_eq_true rfl) (Nat.le_of_ble_eq_true rfl) d_Load_init_7 (fun q29 H hqq29 hzq29 hh hS => ?_)
  obtain ⟨h30, eh30⟩ : ∃ z : hM, z = h_up h q29 (eT 0 36 (fun _ => 0)) := ⟨_, rfl⟩
  rw [← eh30] at hh
  have hw := hw q29 hqq29 h30 eh30
  refine W.widen (k := 1) (n := 36) (Nat.le_of_ble_eq_true rfl) (Nat.le_of_ble_eq_true rfl) ?_
  obtain ⟨fs31, hr32, hk33, hw⟩ := hw
  refine h_putF C0 hh hS (v := .ref q29) hr32 hk33 rfl i_Load t_Load t_Load_ok n_Load (by decide) k_f_Load_9 (fun _ h9 => h9) rfl hnm rfl rfl rfl rfl d_Load_init_9 (fun H locs hh hS => ?_)
  obtain ⟨h34, eh34⟩ : ∃ z : hM, z = h_up h30 x0 (eO 2 (fs31.set 0 (.ref q29))) := ⟨_, rfl⟩
  rw [← eh34] at hh
  have hw := hw h34 eh34
  refine lv_aload_n hx hb d_Load_init_12 rfl (lv_at hl 0 rfl) ?_
  refine lv_iconst (v := 4) hx hb d_Load_init_13 (by decide) ?_
  refine h_newa C0 hh hS (t := 0) (y := (eT 0 4 (fun _ => 0))) (ty := .int) rfl rfl rfl (fun _ => rfl) (by decide) rfl (Nat.le_of_ble_eq_true rfl) k_arr_int (Nat.le_of_ble_eq_true rfl) (Nat.le_of_ble_eq_true rfl) d_Load_init_14 (fun q35 H hqq35 hzq35 hh hS => ?_)
  obtain ⟨h36, eh36⟩ : ∃ z : hM, z = h_up h34 q35 (eT 0 4 (fun _ => 0)) := ⟨_, rfl⟩
  rw [← eh36] at hh
  have hw := hw q35 hqq35 h36 eh36
  refine W.widen (k := 2) (n := 40) (Nat.le_of_ble_eq_true rfl) (Nat.le_of_ble_eq_true rfl) ?_
  obtain ⟨fs37, hr38, hk39, hw⟩ := hw
  refine h_putF C0 hh hS (v := .ref q35) hr38 hk39 rfl i_Load t_Load t_Load_ok n_Load (by decide) k_f_Load_15 (fun _ h9 => h9) rfl hnm rfl rfl rfl rfl d_Load_init_16 (fun H locs hh hS => ?_)
  obtain ⟨h40, eh40⟩ : ∃ z : hM, z = h_up h36 x0 (eO 2 (fs37.set 1 (.ref q35))) := ⟨_, rfl⟩
  rw [← eh40] at hh
  have hw := hw h40 eh40
  refine lv_aload_n hx hb d_Load_init_19 rfl (lv_at hl 0 rfl) ?_
  refine h_new C0 hh hS (ci := 4) (fs := [.long 0, .long 0]) rfl i_NS t_NS t_NS_ok k_c_Load_18 k_made_NS k_ini_NS def_NS (Nat.le_of_ble_eq_true rfl) (Nat.le_of_ble_eq_true rfl) d_Load_init_20 (fun q41 H hqq41 hzq41 hh hS => ?_)
  obtain ⟨h42, eh42⟩ : ∃ z : hM, z = h_up h40 q41 (eO 4 [.long 0, .long 0]) := ⟨_, rfl⟩
  rw [← eh42] at hh
  have hw := hw q41 hqq41 h42 eh42
  refine W.widen (k := 3) (n := 42) (Nat.le_of_ble_eq_true rfl) (Nat.le_of_ble_eq_true rfl) ?_
  refine lv_dup hx hb d_Load_init_23 rfl ?_
  refine h_callI (n := 0) C0 w_TBm hh hS hl.1 [] [.ref q41, .ref x0] (S_NS_init _ _ _ hw) k_m_Load_20 k_inst_NS_init rfl k_ini_NS k_code_NS_init (by decide +kernel) rfl rfl (Nat.le_of_ble_eq_true rfl) ⟨(Nat.le_of_ble_eq_true rfl), (Nat.le_of_ble_eq_true rfl)⟩ ⟨(Nat.le_of_ble_eq_true rfl), (Nat.le_of_ble_eq_true rfl)⟩ d_Load_init_24 (h_kV (k := 3) (n := 42) (Nat.le_of_ble_eq_true rfl) (Nat.le_of_ble_eq_true rfl) (fun h43 H locs hw hh hS => ?_))
  obtain ⟨fs45, hr46, hk47, hw⟩ := hw
  refine h_putF C0 hh hS (v := .ref q41) hr46 hk47 rfl i_Load t_Load t_Load_ok n_Load (by decide) k_f_Load_21 (fun _ h9 => h9) rfl hnm rfl rfl rfl rfl d_Load_init_27 (fun H locs hh hS => ?_)
  obtain ⟨h48, eh48⟩ : ∃ z : hM, z = h_up h43 x0 (eO 2 (fs45.set 2 (.ref q41))) := ⟨_, rfl⟩
  rw [← eh48] at hh
  have hw := hw h48 eh48
  refine lv_aload_n hx hb d_Load_init_30 rfl (lv_at hl 0 rfl) ?_
  refine lv_iconst (v := 0) hx hb d_Load_init_31 (by decide) ?_
  obtain ⟨fs49, hr50, hk51, hw⟩ := hw
  refine h_put C0 hh hS (v := .int (0 : Int32)) hr50 hk51 rfl i_Load t_Load t_Load_ok n_Load (by decide) k_f_Load_25 (fun _ h9 => h9) rfl rfl rfl rfl d_Load_init_32 (fun H locs hh hS => ?_)
  obtain ⟨h52, eh52⟩ : ∃ z : hM, z = h_up h48 x0 (eO 2 (fs49.set 3 (.int (0 : Int32)))) := ⟨_, rfl⟩
  rw [← eh52] at hh
  have hw := hw h52 eh52
  refine lv_aload_n hx hb d_Load_init_35 rfl (lv_at hl 0 rfl) ?_
  refine lv_iconst (v := 0) hx hb d_Load_init_36 (by decide) ?_
  obtain ⟨fs53, hr54, hk55, hw⟩ := hw
  refine h_put C0 hh hS (v := .int (0 : Int32)) hr54 hk55 rfl i_Load t_Load t_Load_ok n_Load (by decide) k_f_Load_29 (fun _ h9 => h9) rfl rfl rfl rfl d_Load_init_37 (fun H locs hh hS => ?_)
  obtain ⟨h56, eh56⟩ : ∃ z : hM, z = h_up h52 x0 (eO 2 (fs53.set 4 (.int (0 : Int32)))) := ⟨_, rfl⟩
  rw [← eh56] at hh
  have hw := hw h56 eh56
  exact h_vret C0 hh hS rfl ⟨rfl, hw⟩ d_Load_init_40
set_option maxHeartbeats 4000000 in
set_option maxRecDepth 100000 in
theorem S_Ini_init_14 {p : Program} {l : Launch} {e : Env} {s : State} {m : MethodId} {args : Array Value} {below : List Frame} {meth : Method} {c : Code} {κ : hX} {Q : hM → Prop} (C0 : Cw κ w_cl w_tl w_tb p s m args meth c b_Ini_init 2 R_Ini none) (hnm : meth.name = "<init>") : ∀ (n : Nat) (h : hM) (x0 : Nat) (x1 : Int32) (H : Heap) (locs : List Loc) (ls : Array Slot), L_Ini_init_14 Q n h x0 x1 → hp κ w_cl h H → va_S (h_A κ) s.heap H locs → lv_has ls 2 [(0, .ref x0), (1, .int x1)] → W p l e rm_Ini_init s m args below meth c H locs 1 8 (MQ below (hQ κ w_cl (qV Q)) args s 1 8 (h_A κ)) (F0 m 14 ls []) := by
  obtain ⟨hx, hb, hml, hown, hts, hK, hF0, hrt, hlocks⟩ := id C0
  intro n
  induction n with
  | zero =>
    intro h x0 x1 H locs ls hw
    exact hw.elim
  | succ n hK14 =>
    intro h x0 x1 H locs ls hw hh hS hl
    have hw : P_Ini_init_14 Q (L_Ini_init_14 Q n) h x0 x1 := hw
    refine lv_iload_n hx hb d_Ini_init_14 rfl (lv_at hl 1 rfl) ?_
    refine lv_aload_n hx hb d_Ini_init_15 rfl (lv_at hl 0 rfl) ?_
    obtain ⟨fs65, r68, hr66, hk67, hw⟩ := hw
    refine h_get C0 hh hr66 hk67 rfl i_Ini (by decide) k_f_Ini_9 (fun _ h9 => h9) d_Ini_init_16 ?_
    obtain ⟨n69, f70, hr71, hw⟩ := hw
    refine h_alenT C0 hh hr71 (rfl : w_tl[0]? = _) d_Ini_init_19 ?_
    refine lv_icmp_ge (tgt := 36) hx hb d_Ini_init_20 (by decide) (fun c72 => ?_) (fun c72 => ?_)
    · have hw := hw.1 c72
      refine lv_aload_n hx hb d_Ini_init_36 rfl (lv_at hl 0 rfl) ?_
      refine lv_iconst (v := 0) hx hb d_Ini_init_37 (by decide) ?_
      obtain ⟨fs73, hr74, hk75, hw⟩ := hw
      refine h_put C0 hh hS (v := .int (0 : Int32)) hr74 hk75 rfl i_Ini t_Ini t_Ini_ok n_Ini (by decide) k_f_Ini_15 (fun _ h9 => h9) rfl rfl rfl rfl d_Ini_init_38 (fun H locs hh hS => ?_)
      obtain ⟨h76, eh76⟩ : ∃ z : hM, z = h_up h x0 (eO 3 (fs73.set 1 (.int (0 : Int32)))) := ⟨_, rfl⟩
      rw [← eh76] at hh
      have hw := hw h76 eh76
      refine lv_aload_n hx hb d_Ini_init_41 rfl (lv_at hl 0 rfl) ?_
      refine lv_iconst (v := 0) hx hb d_Ini_init_42 (by decide) ?_
      obtain ⟨fs77, hr78, hk79, hw⟩ := hw
      refine h_put C0 hh hS (v := .int (0 : Int32)) hr78 hk79 rfl i_Ini t_Ini t_Ini_ok n_Ini (by decide) k_f_Ini_19 (fun _ h9 => h9) rfl rfl rfl rfl d_Ini_init_43 (fun H locs hh hS => ?_)
      obtain ⟨h80, eh80⟩ : ∃ z : hM, z = h_up h76 x0 (eO 3 (fs77.set 2 (.int (0 : Int32)))) := ⟨_, rfl⟩
      rw [← eh80] at hh
      have hw := hw h80 eh80
      exact h_vret C0 hh hS rfl ⟨rfl, hw⟩ d_Ini_init_46
    · have hw := hw.2 c72
      refine lv_aload_n hx hb d_Ini_init_23 rfl (lv_at hl 0 rfl) ?_
      obtain ⟨fs81, r84, hr82, hk83, hw⟩ := hw
      refine h_get C0 hh hr82 hk83 rfl i_Ini (by decide) k_f_Ini_9 (fun _ h9 => h9) d_Ini_init_24 ?_
      refine lv_iload_n hx hb d_Ini_init_27 rfl (lv_at hl 1 rfl) ?_
      refine lv_iconst (v := -1) hx hb d_Ini_init_28 (by decide) ?_
      obtain ⟨n85, f86, hr87, hi88, hw⟩ := hw
      refine h_iast C0 hh hS hr87 hi88 rfl d_Ini_init_29 (fun H locs hh hS => ?_)
      obtain ⟨h89, eh89⟩ : ∃ z : hM, z = h_up h r84 (eT 0 n85 (upd f86 x1.toNatClampNeg (-1 : Int32))) := ⟨_, rfl⟩
      rw [← eh89] at hh
      have hw := hw h89 eh89
      obtain ⟨x1_90, ex1_90⟩ : ∃ z : Int32, z = x1 + 1 := ⟨_, rfl⟩
      have hw := hw x1_90 ex1_90
      refine lv_iinc (v := x1_90) (lv' := [(1, .int x1_90), (0, .ref x0)]) hx hb d_Ini_init_30 hl (k := 1) rfl (by rw [ex1_90]; rfl) (by decide) rfl (fun ls hl => ?_)
      refine lv_goto (tgt := 14) hx hb d_Ini_init_33 (by decide) ?_
      exact hK14 _ _ _ _ _ _ hw hh hS (lv_sub hl [1, 0] rfl)
set_option maxHeartbeats 4000000 in
set_option maxRecDepth 100000 in
theorem S_Ini_init {l : Launch} {κ : hX} (Q : hM → Prop) (h : hM) (x0 : Nat) (hw : P_Ini_init Q h x0) : Met l y_Ini_init [Cond.code y_Ini_init b_Ini_init 2 none] rm_Ini_init (hPc κ w_cl w_tl w_tb [.ref x0] h) (hQ κ w_cl (qV Q)) 1 8 (h_A κ) := by
  refine h_enter w_TBm (by decide) (Nat.le_of_ble_eq_true rfl) ?_
  intro p e s m args below meth c C0 hnm hh hS ls hl
  obtain ⟨hx, hb, hml, hown, hts, hK, hF0, hrt, hlocks⟩ := id C0
  have hl : lv_has ls 2 [(0, .ref x0)] := hl
  refine lv_aload_n hx hb d_Ini_init_0 rfl (lv_at hl 0 rfl) ?_
  refine W.objInit hx hb hown (hts _ k_m_Ini_3) (hts _ k_oi_inst) (hts _ k_oi_code) rfl (by rw [hml]; exact hl.1) rfl d_Ini_init_1 (Nat.le_of_ble_eq_true rfl) (Nat.le_of_ble_eq_true rfl) ?_
  refine W.eq (g2 := F0 m 4 ls []) rfl ?_
  refine lv_aload_n hx hb d_Ini_init_4 rfl (lv_at hl 0 rfl) ?_
  refine lv_bipush (v := 8) hx hb d_Ini_init_5 (by decide) ?_
  refine h_newa C0 hh hS (t := 0) (y := (eT 0 8 (fun _ => 0))) (ty := .int) rfl rfl rfl (fun _ => rfl) (by decide) rfl (Nat.le_of_ble_eq_true rfl) k_arr_int (Nat.le_of_ble_eq_true rfl) (Nat.le_of_ble_eq_true rfl) d_Ini_init_7 (fun q91 H hqq91 hzq91 hh hS => ?_)
  obtain ⟨h92, eh92⟩ : ∃ z : hM, z = h_up h q91 (eT 0 8 (fun _ => 0)) := ⟨_, rfl⟩
  rw [← eh92] at hh
  have hw := hw q91 hqq91 h92 eh92
  refine W.widen (k := 1) (n := 8) (Nat.le_of_ble_eq_true rfl) (Nat.le_of_ble_eq_true rfl) ?_
  obtain ⟨fs93, hr94, hk95, hw⟩ := hw
  refine h_putF C0 hh hS (v := .ref q91) hr94 hk95 rfl i_Ini t_Ini t_Ini_ok n_Ini (by decide) k_f_Ini_9 (fun _ h9 => h9) rfl hnm rfl rfl rfl rfl d_Ini_init_9 (fun H locs hh hS => ?_)
  obtain ⟨h96, eh96⟩ : ∃ z : hM, z = h_up h92 x0 (eO 3 (fs93.set 0 (.ref q91))) := ⟨_, rfl⟩
  rw [← eh96] at hh
  have hw := hw h96 eh96
  refine lv_iconst (v := 0) hx hb d_Ini_init_12 (by decide) ?_
  refine lv_istore_n (lv' := [(1, .int (0 : Int32)), (0, .ref x0)]) hx hb d_Ini_init_13 rfl hl (by decide) rfl (fun ls hl => ?_)
  obtain ⟨n0, hw⟩ := hw
  exact S_Ini_init_14 C0 hnm n0 _ _ _ _ _ _ hw hh hS (lv_sub hl [1, 0] rfl)
set_option maxHeartbeats 4000000 in
set_option maxRecDepth 100000 in
theorem S_Job_init {l : Launch} {κ : hX} (Q : hM → Prop) (h : hM) (x0 : Nat) (x1 : Int32) (x2 : Int32) (x3 : Int32) (x4 : Int32) (x5 : Int64) (hw : P_Job_init Q h x0 x1 x2 x3 x4 x5) : Met l y_Job_init [Cond.code y_Job_init b_Job_init 7 none] rm_Job_init (hPc κ w_cl w_tl w_tb [.ref x0, .int x1, .int x2, .int x3, .int x4, .long x5] h) (hQ κ w_cl (qV Q)) 2 6 (h_A κ) := by
  refine h_enter w_TBm (by decide) (Nat.le_of_ble_eq_true rfl) ?_
  intro p e s m args below meth c C0 hnm hh hS ls hl
  obtain ⟨hx, hb, hml, hown, hts, hK, hF0, hrt, hlocks⟩ := id C0
  have hl : lv_has ls 7 [(0, .ref x0), (1, .int x1), (2, .int x2), (3, .int x3), (4, .int x4), (5, .long x5)] := hl
  refine lv_aload_n hx hb d_Job_init_0 rfl (lv_at hl 0 rfl) ?_
  refine W.objInit hx hb hown (hts _ k_m_Job_3) (hts _ k_oi_inst) (hts _ k_oi_code) rfl (by rw [hml]; exact hl.1) rfl d_Job_init_1 (Nat.le_of_ble_eq_true rfl) (Nat.le_of_ble_eq_true rfl) ?_
  refine W.eq (g2 := F0 m 4 ls []) rfl ?_
  refine lv_aload_n hx hb d_Job_init_4 rfl (lv_at hl 0 rfl) ?_
  refine lv_iload_n hx hb d_Job_init_5 rfl (lv_at hl 1 rfl) ?_
  obtain ⟨fs47, hr48, hk49, hw⟩ := hw
  refine h_putF C0 hh hS (v := .int x1) hr48 hk49 rfl i_Job t_Job t_Job_ok n_Job (by decide) k_f_Job_9 (fun _ h9 => h9) rfl hnm rfl rfl rfl rfl d_Job_init_6 (fun H locs hh hS => ?_)
  obtain ⟨h50, eh50⟩ : ∃ z : hM, z = h_up h x0 (eO 1 (fs47.set 0 (.int x1))) := ⟨_, rfl⟩
  rw [← eh50] at hh
  have hw := hw h50 eh50
  refine lv_aload_n hx hb d_Job_init_9 rfl (lv_at hl 0 rfl) ?_
  refine lv_iload_n hx hb d_Job_init_10 rfl (lv_at hl 2 rfl) ?_
  obtain ⟨fs51, hr52, hk53, hw⟩ := hw
  refine h_putF C0 hh hS (v := .int x2) hr52 hk53 rfl i_Job t_Job t_Job_ok n_Job (by decide) k_f_Job_15 (fun _ h9 => h9) rfl hnm rfl rfl rfl rfl d_Job_init_11 (fun H locs hh hS => ?_)
  obtain ⟨h54, eh54⟩ : ∃ z : hM, z = h_up h50 x0 (eO 1 (fs51.set 1 (.int x2))) := ⟨_, rfl⟩
  rw [← eh54] at hh
  have hw := hw h54 eh54
  refine lv_aload_n hx hb d_Job_init_14 rfl (lv_at hl 0 rfl) ?_
  refine lv_iload_n hx hb d_Job_init_15 rfl (lv_at hl 3 rfl) ?_
  obtain ⟨fs55, hr56, hk57, hw⟩ := hw
  refine h_putF C0 hh hS (v := .int x3) hr56 hk57 rfl i_Job t_Job t_Job_ok n_Job (by decide) k_f_Job_18 (fun _ h9 => h9) rfl hnm rfl rfl rfl rfl d_Job_init_16 (fun H locs hh hS => ?_)
  obtain ⟨h58, eh58⟩ : ∃ z : hM, z = h_up h54 x0 (eO 1 (fs55.set 2 (.int x3))) := ⟨_, rfl⟩
  rw [← eh58] at hh
  have hw := hw h58 eh58
  refine lv_aload_n hx hb d_Job_init_19 rfl (lv_at hl 0 rfl) ?_
  refine lv_iload hx hb d_Job_init_20 (lv_at hl 4 rfl) ?_
  obtain ⟨fs59, hr60, hk61, hw⟩ := hw
  refine h_putF C0 hh hS (v := .int x4) hr60 hk61 rfl i_Job t_Job t_Job_ok n_Job (by decide) k_f_Job_21 (fun _ h9 => h9) rfl hnm rfl rfl rfl rfl d_Job_init_22 (fun H locs hh hS => ?_)
  obtain ⟨h62, eh62⟩ : ∃ z : hM, z = h_up h58 x0 (eO 1 (fs59.set 3 (.int x4))) := ⟨_, rfl⟩
  rw [← eh62] at hh
  have hw := hw h62 eh62
  refine lv_aload_n hx hb d_Job_init_25 rfl (lv_at hl 0 rfl) ?_
  refine lv_lload hx hb d_Job_init_26 (lv_at hl 5 rfl) ?_
  obtain ⟨fs63, hr64, hk65, hw⟩ := hw
  refine h_putF C0 hh hS (v := .long x5) hr64 hk65 rfl i_Job t_Job t_Job_ok n_Job (by decide) k_f_Job_24 (fun _ h9 => h9) rfl hnm rfl rfl rfl rfl d_Job_init_28 (fun H locs hh hS => ?_)
  obtain ⟨h66, eh66⟩ : ∃ z : hM, z = h_up h62 x0 (eO 1 (fs63.set 4 (.long x5))) := ⟨_, rfl⟩
  rw [← eh66] at hh
  have hw := hw h66 eh66
  refine lv_aload_n hx hb d_Job_init_31 rfl (lv_at hl 0 rfl) ?_
  refine lv_iconst (v := 4) hx hb d_Job_init_32 (by decide) ?_
  refine h_newa C0 hh hS (t := 0) (y := (eT 0 4 (fun _ => 0))) (ty := .int) rfl rfl rfl (fun _ => rfl) (by decide) rfl (Nat.le_of_ble_eq_true rfl) k_arr_int (Nat.le_of_ble_eq_true rfl) (Nat.le_of_ble_eq_true rfl) d_Job_init_33 (fun q67 H hqq67 hzq67 hh hS => ?_)
  obtain ⟨h68, eh68⟩ : ∃ z : hM, z = h_up h66 q67 (eT 0 4 (fun _ => 0)) := ⟨_, rfl⟩
  rw [← eh68] at hh
  have hw := hw q67 hqq67 h68 eh68
  refine W.widen (k := 1) (n := 4) (Nat.le_of_ble_eq_true rfl) (Nat.le_of_ble_eq_true rfl) ?_
  obtain ⟨fs69, hr70, hk71, hw⟩ := hw
  refine h_putF C0 hh hS (v := .ref q67) hr70 hk71 rfl i_Job t_Job t_Job_ok n_Job (by decide) k_f_Job_28 (fun _ h9 => h9) rfl hnm rfl rfl rfl rfl d_Job_init_35 (fun H locs hh hS => ?_)
  obtain ⟨h72, eh72⟩ : ∃ z : hM, z = h_up h68 x0 (eO 1 (fs69.set 5 (.ref q67))) := ⟨_, rfl⟩
  rw [← eh72] at hh
  have hw := hw h72 eh72
  refine lv_aload_n hx hb d_Job_init_38 rfl (lv_at hl 0 rfl) ?_
  refine h_new C0 hh hS (ci := 4) (fs := [.long 0, .long 0]) rfl i_NS t_NS t_NS_ok k_c_Job_32 k_made_NS k_ini_NS def_NS (Nat.le_of_ble_eq_true rfl) (Nat.le_of_ble_eq_true rfl) d_Job_init_39 (fun q73 H hqq73 hzq73 hh hS => ?_)
  obtain ⟨h74, eh74⟩ : ∃ z : hM, z = h_up h72 q73 (eO 4 [.long 0, .long 0]) := ⟨_, rfl⟩
  rw [← eh74] at hh
  have hw := hw q73 hqq73 h74 eh74
  refine W.widen (k := 2) (n := 6) (Nat.le_of_ble_eq_true rfl) (Nat.le_of_ble_eq_true rfl) ?_
  refine lv_dup hx hb d_Job_init_42 rfl ?_
  refine h_callI (n := 0) C0 w_TBm hh hS hl.1 [] [.ref q73, .ref x0] (S_NS_init _ _ _ hw) k_m_Job_34 k_inst_NS_init rfl k_ini_NS k_code_NS_init (by decide +kernel) rfl rfl (Nat.le_of_ble_eq_true rfl) ⟨(Nat.le_of_ble_eq_true rfl), (Nat.le_of_ble_eq_true rfl)⟩ ⟨(Nat.le_of_ble_eq_true rfl), (Nat.le_of_ble_eq_true rfl)⟩ d_Job_init_43 (h_kV (k := 2) (n := 6) (Nat.le_of_ble_eq_true rfl) (Nat.le_of_ble_eq_true rfl) (fun h75 H locs hw hh hS => ?_))
  obtain ⟨fs77, hr78, hk79, hw⟩ := hw
  refine h_putF C0 hh hS (v := .ref q73) hr78 hk79 rfl i_Job t_Job t_Job_ok n_Job (by decide) k_f_Job_35 (fun _ h9 => h9) rfl hnm rfl rfl rfl rfl d_Job_init_46 (fun H locs hh hS => ?_)
  obtain ⟨h80, eh80⟩ : ∃ z : hM, z = h_up h75 x0 (eO 1 (fs77.set 6 (.ref q73))) := ⟨_, rfl⟩
  rw [← eh80] at hh
  have hw := hw h80 eh80
  refine lv_aload_n hx hb d_Job_init_49 rfl (lv_at hl 0 rfl) ?_
  refine lv_iconst (v := 0) hx hb d_Job_init_50 (by decide) ?_
  obtain ⟨fs81, hr82, hk83, hw⟩ := hw
  refine h_put C0 hh hS (v := .int (0 : Int32)) hr82 hk83 rfl i_Job t_Job t_Job_ok n_Job (by decide) k_f_Job_39 (fun _ h9 => h9) rfl rfl rfl rfl d_Job_init_51 (fun H locs hh hS => ?_)
  obtain ⟨h84, eh84⟩ : ∃ z : hM, z = h_up h80 x0 (eO 1 (fs81.set 7 (.int (0 : Int32)))) := ⟨_, rfl⟩
  rw [← eh84] at hh
  have hw := hw h84 eh84
  refine lv_aload_n hx hb d_Job_init_54 rfl (lv_at hl 0 rfl) ?_
  refine lv_iconst (v := 0) hx hb d_Job_init_55 (by decide) ?_
  obtain ⟨fs85, hr86, hk87, hw⟩ := hw
  refine h_put C0 hh hS (v := .int (0 : Int32)) hr86 hk87 rfl i_Job t_Job t_Job_ok n_Job (by decide) k_f_Job_43 (fun _ h9 => h9) rfl rfl rfl rfl d_Job_init_56 (fun H locs hh hS => ?_)
  obtain ⟨h88, eh88⟩ : ∃ z : hM, z = h_up h84 x0 (eO 1 (fs85.set 8 (.int (0 : Int32)))) := ⟨_, rfl⟩
  rw [← eh88] at hh
  have hw := hw h88 eh88
  refine lv_aload_n hx hb d_Job_init_59 rfl (lv_at hl 0 rfl) ?_
  refine lv_lload hx hb d_Job_init_60 (lv_at hl 5 rfl) ?_
  obtain ⟨fs89, hr90, hk91, hw⟩ := hw
  refine h_put C0 hh hS (v := .long x5) hr90 hk91 rfl i_Job t_Job t_Job_ok n_Job (by decide) k_f_Job_46 (fun _ h9 => h9) rfl rfl rfl rfl d_Job_init_62 (fun H locs hh hS => ?_)
  obtain ⟨h92, eh92⟩ : ∃ z : hM, z = h_up h88 x0 (eO 1 (fs89.set 9 (.long x5))) := ⟨_, rfl⟩
  rw [← eh92] at hh
  have hw := hw h92 eh92
  exact h_vret C0 hh hS rfl ⟨rfl, hw⟩ d_Job_init_65
set_option maxHeartbeats 4000000 in
set_option maxRecDepth 100000 in
theorem S_Job_isWaiting {l : Launch} {κ : hX} (Q : Int32 → hM → Prop) (h : hM) (x0 : Nat) (hw : P_Job_isWaiting Q h x0) : Met l y_Job_isWaiting [Cond.code y_Job_isWaiting b_Job_isWaiting 1 (some .boolean)] rm_Job_isWaiting (hPc κ w_cl w_tl w_tb [.ref x0] h) (hQ κ w_cl (qI Q)) 0 0 (h_A κ) := by
  refine h_enter w_TBm (by decide) (Nat.le_of_ble_eq_true rfl) ?_
  intro p e s m args below meth c C0 hnm hh hS ls hl
  obtain ⟨hx, hb, hml, hown, hts, hK, hF0, hrt, hlocks⟩ := id C0
  have hl : lv_has ls 1 [(0, .ref x0)] := hl
  refine lv_aload_n hx hb d_Job_isWaiting_0 rfl (lv_at hl 0 rfl) ?_
  obtain ⟨fs11, i14, hr12, hk13, hw⟩ := hw
  refine h_get C0 hh hr12 hk13 rfl i_Job (by decide) k_f_Job_43 (fun _ h9 => h9) d_Job_isWaiting_1 ?_
  refine lv_if_eq (tgt := 15) hx hb d_Job_isWaiting_4 (by decide) (fun c15 => ?_) (fun c15 => ?_)
  · have hw := hw.1 c15
    refine lv_iconst (v := 1) hx hb d_Job_isWaiting_15 (by decide) ?_
    refine lv_goto (tgt := 20) hx hb d_Job_isWaiting_16 (by decide) ?_
    exact h_iret C0 hh hS rfl rfl ⟨_, rfl, hw⟩ d_Job_isWaiting_20
  · have hw := hw.2 c15
    refine lv_aload_n hx hb d_Job_isWaiting_7 rfl (lv_at hl 0 rfl) ?_
    obtain ⟨fs16, i19, hr17, hk18, hw⟩ := hw
    refine h_get C0 hh hr17 hk18 rfl i_Job (by decide) k_f_Job_43 (fun _ h9 => h9) d_Job_isWaiting_8 ?_
    refine lv_iconst (v := 1) hx hb d_Job_isWaiting_11 (by decide) ?_
    refine lv_icmp_ne (tgt := 19) hx hb d_Job_isWaiting_12 (by decide) (fun c20 => ?_) (fun c20 => ?_)
    · have hw := hw.1 c20
      refine lv_iconst (v := 0) hx hb d_Job_isWaiting_19 (by decide) ?_
      exact h_iret C0 hh hS rfl rfl ⟨_, rfl, hw⟩ d_Job_isWaiting_20
    · have hw := hw.2 c20
      refine lv_iconst (v := 1) hx hb d_Job_isWaiting_15 (by decide) ?_
      refine lv_goto (tgt := 20) hx hb d_Job_isWaiting_16 (by decide) ?_
      exact h_iret C0 hh hS rfl rfl ⟨_, rfl, hw⟩ d_Job_isWaiting_20
set_option maxHeartbeats 4000000 in
set_option maxRecDepth 100000 in
theorem S_Load_take_15 {p : Program} {l : Launch} {e : Env} {s : State} {m : MethodId} {args : Array Value} {below : List Frame} {meth : Method} {c : Code} {κ : hX} {Q : hM → Prop} (C0 : Cw κ w_cl w_tl w_tb p s m args meth c b_Load_take 3 R_Load none) : ∀ (n : Nat) (h : hM) (x0 : Nat) (x1 : Nat) (x2 : Int32) (H : Heap) (locs : List Loc) (ls : Array Slot), L_Load_take_15 Q n h x0 x1 x2 → hp κ w_cl h H → va_S (h_A κ) s.heap H locs → lv_has ls 3 [(0, .ref x0), (1, .ref x1), (2, .int x2)] → W p l e rm_Load_take s m args below meth c H locs 0 0 (MQ below (hQ κ w_cl (qV Q)) args s 0 0 (h_A κ)) (F0 m 15 ls []) := by
  obtain ⟨hx, hb, hml, hown, hts, hK, hF0, hrt, hlocks⟩ := id C0
  intro n
  induction n with
  | zero =>
    intro h x0 x1 x2 H locs ls hw
    exact hw.elim
  | succ n hK15 =>
    intro h x0 x1 x2 H locs ls hw hh hS hl
    have hw : P_Load_take_15 Q (L_Load_take_15 Q n) h x0 x1 x2 := hw
    refine lv_iload_n hx hb d_Load_take_15 rfl (lv_at hl 2 rfl) ?_
    refine lv_iconst (v := 4) hx hb d_Load_take_16 (by decide) ?_
    refine lv_icmp_ge (tgt := 41) hx hb d_Load_take_17 (by decide) (fun c137 => ?_) (fun c137 => ?_)
    · have hw := hw.1 c137
      refine lv_aload_n hx hb d_Load_take_41 rfl (lv_at hl 0 rfl) ?_
      obtain ⟨fs138, r141, hr139, hk140, hw⟩ := hw
      refine h_get C0 hh hr139 hk140 rfl i_Load (by decide) k_f_Load_21 (fun _ h9 => h9) d_Load_take_42 ?_
      refine lv_aload_n hx hb d_Load_take_45 rfl (lv_at hl 1 rfl) ?_
      obtain ⟨fs142, i145, hr143, hk144, hw⟩ := hw
      refine h_get C0 hh hr143 hk144 rfl i_Job (by decide) k_f_Load_39 (fun _ h9 => h9) d_Load_take_46 ?_
      obtain ⟨fs146, hr147, hw⟩ := hw
      refine h_callV (n := 1) C0 w_TBm hh hS hl.1 [.int i145] [] (S_NS_put _ _ _ _ hw) hr147 rfl k_m_Load_42 k_inst_NS_put k_sel_NS_put k_ini_NS k_code_NS_put (by decide +kernel) rfl rfl (Nat.le_of_ble_eq_true rfl) ⟨(Nat.le_of_ble_eq_true rfl), (Nat.le_of_ble_eq_true rfl)⟩ ⟨(Nat.le_of_ble_eq_true rfl), (Nat.le_of_ble_eq_true rfl)⟩ d_Load_take_49 (h_kV (k := 0) (n := 0) (Nat.le_of_ble_eq_true rfl) (Nat.le_of_ble_eq_true rfl) (fun h148 H locs hw hh hS => ?_))
      refine lv_aload_n hx hb d_Load_take_52 rfl (lv_at hl 0 rfl) ?_
      refine lv_dup hx hb d_Load_take_53 rfl ?_
      obtain ⟨fs150, i153, hr151, hk152, hw⟩ := hw
      refine h_get C0 hh hr151 hk152 rfl i_Load (by decide) k_f_Load_25 (fun _ h9 => h9) d_Load_take_54 ?_
      refine lv_iconst (v := 1) hx hb d_Load_take_57 (by decide) ?_
      refine lv_iadd hx hb d_Load_take_58 ?_
      obtain ⟨fs154, hr155, hk156, hw⟩ := hw
      refine h_put C0 hh hS (v := .int (i153 + (1 : Int32))) hr155 hk156 rfl i_Load t_Load t_Load_ok n_Load (by decide) k_f_Load_25 (fun _ h9 => h9) rfl rfl rfl rfl d_Load_take_59 (fun H locs hh hS => ?_)
      obtain ⟨h157, eh157⟩ : ∃ z : hM, z = h_up h148 x0 (eO 2 (fs154.set 3 (.int (i153 + (1 : Int32))))) := ⟨_, rfl⟩
      rw [← eh157] at hh
      have hw := hw h157 eh157
      refine lv_aload_n hx hb d_Load_take_62 rfl (lv_at hl 0 rfl) ?_
      refine lv_aload_n hx hb d_Load_take_63 rfl (lv_at hl 1 rfl) ?_
      obtain ⟨fs158, i161, hr159, hk160, hw⟩ := hw
      refine h_get C0 hh hr159 hk160 rfl i_Job (by decide) k_f_Load_46 (fun _ h9 => h9) d_Load_take_64 ?_
      obtain ⟨hz9, hw⟩ := hw
      obtain ⟨fs162, hr163, hk164, hw⟩ := hw
      refine h_put C0 hh hS (v := .int i161) hr163 hk164 rfl i_Load t_Load t_Load_ok n_Load (by decide) k_f_Load_29 (fun _ h9 => h9) rfl rfl (h_nz hz9) (h_fz hz9) d_Load_take_67 (fun H locs hh hS => ?_)
      obtain ⟨h165, eh165⟩ : ∃ z : hM, z = h_up h157 x0 (eO 2 (fs162.set 4 (.int i161))) := ⟨_, rfl⟩
      rw [← eh165] at hh
      have hw := hw h165 eh165
      exact h_vret C0 hh hS rfl ⟨rfl, hw⟩ d_Load_take_70
    · have hw := hw.2 c137
      refine lv_aload_n hx hb d_Load_take_20 rfl (lv_at hl 0 rfl) ?_
      obtain ⟨fs166, r169, hr167, hk168, hw⟩ := hw
      refine h_get C0 hh hr167 hk168 rfl i_Load (by decide) k_f_Load_15 (fun _ h9 => h9) d_Load_take_21 ?_
      refine lv_iload_n hx hb d_Load_take_24 rfl (lv_at hl 2 rfl) ?_
      refine lv_dup2_11 hx hb d_Load_take_25 rfl rfl ?_
      obtain ⟨n170, f171, hr172, hi173, hw⟩ := hw
      refine h_iald C0 hh hr172 hi173 rfl d_Load_take_26 ?_
      refine lv_aload_n hx hb d_Load_take_27 rfl (lv_at hl 1 rfl) ?_
      obtain ⟨fs174, r177, hr175, hk176, hw⟩ := hw
      refine h_get C0 hh hr175 hk176 rfl i_Job (by decide) k_f_Load_38 (fun _ h9 => h9) d_Load_take_28 ?_
      refine lv_iload_n hx hb d_Load_take_31 rfl (lv_at hl 2 rfl) ?_
      obtain ⟨n178, f179, hr180, hi181, hw⟩ := hw
      refine h_iald C0 hh hr180 hi181 rfl d_Load_take_32 ?_
      refine lv_iadd hx hb d_Load_take_33 ?_
      obtain ⟨n182, f183, hr184, hi185, hw⟩ := hw
      refine h_iast C0 hh hS hr184 hi185 rfl d_Load_take_34 (fun H locs hh hS => ?_)
      obtain ⟨h186, eh186⟩ : ∃ z : hM, z = h_up h r169 (eT 0 n182 (upd f183 x2.toNatClampNeg ((f171 x2.toNatClampNeg) + (f179 x2.toNatClampNeg)))) := ⟨_, rfl⟩
      rw [← eh186] at hh
      have hw := hw h186 eh186
      obtain ⟨x2_187, ex2_187⟩ : ∃ z : Int32, z = x2 + 1 := ⟨_, rfl⟩
      have hw := hw x2_187 ex2_187
      refine lv_iinc (v := x2_187) (lv' := [(2, .int x2_187), (0, .ref x0), (1, .ref x1)]) hx hb d_Load_take_35 hl (k := 2) rfl (by rw [ex2_187]; rfl) (by decide) rfl (fun ls hl => ?_)
      refine lv_goto (tgt := 15) hx hb d_Load_take_38 (by decide) ?_
      exact hK15 _ _ _ _ _ _ _ hw hh hS (lv_sub hl [1, 2, 0] rfl)
set_option maxHeartbeats 4000000 in
set_option maxRecDepth 100000 in
theorem S_Load_take {l : Launch} {κ : hX} (Q : hM → Prop) (h : hM) (x0 : Nat) (x1 : Nat) (hw : P_Load_take Q h x0 x1) : Met l y_Load_take [Cond.code y_Load_take b_Load_take 3 none] rm_Load_take (hPc κ w_cl w_tl w_tb [.ref x0, .ref x1] h) (hQ κ w_cl (qV Q)) 0 0 (h_A κ) := by
  refine h_enter w_TBm (by decide) (Nat.le_of_ble_eq_true rfl) ?_
  intro p e s m args below meth c C0 hnm hh hS ls hl
  obtain ⟨hx, hb, hml, hown, hts, hK, hF0, hrt, hlocks⟩ := id C0
  have hl : lv_has ls 3 [(0, .ref x0), (1, .ref x1)] := hl
  refine lv_aload_n hx hb d_Load_take_0 rfl (lv_at hl 0 rfl) ?_
  obtain ⟨fs188, r191, hr189, hk190, hw⟩ := hw
  refine h_get C0 hh hr189 hk190 rfl i_Load (by decide) k_f_Load_9 (fun _ h9 => h9) d_Load_take_1 ?_
  refine lv_aload_n hx hb d_Load_take_4 rfl (lv_at hl 1 rfl) ?_
  obtain ⟨fs192, i195, hr193, hk194, hw⟩ := hw
  refine h_get C0 hh hr193 hk194 rfl i_Job (by decide) k_f_Load_33 (fun _ h9 => h9) d_Load_take_5 ?_
  refine lv_dup2_11 hx hb d_Load_take_8 rfl rfl ?_
  obtain ⟨n196, f197, hr198, hi199, hw⟩ := hw
  refine h_iald C0 hh hr198 hi199 rfl d_Load_take_9 ?_
  refine lv_iconst (v := 1) hx hb d_Load_take_10 (by decide) ?_
  refine lv_iadd hx hb d_Load_take_11 ?_
  obtain ⟨n200, f201, hr202, hi203, hw⟩ := hw
  refine h_iast C0 hh hS hr202 hi203 rfl d_Load_take_12 (fun H locs hh hS => ?_)
  obtain ⟨h204, eh204⟩ : ∃ z : hM, z = h_up h r191 (eT 0 n200 (upd f201 i195.toNatClampNeg ((f197 i195.toNatClampNeg) + (1 : Int32)))) := ⟨_, rfl⟩
  rw [← eh204] at hh
  have hw := hw h204 eh204
  refine lv_iconst (v := 0) hx hb d_Load_take_13 (by decide) ?_
  refine lv_istore_n (lv' := [(2, .int (0 : Int32)), (0, .ref x0), (1, .ref x1)]) hx hb d_Load_take_14 rfl hl (by decide) rfl (fun ls hl => ?_)
  obtain ⟨n0, hw⟩ := hw
  exact S_Load_take_15 C0 n0 _ _ _ _ _ _ _ hw hh hS (lv_sub hl [1, 2, 0] rfl)
set_option maxHeartbeats 4000000 in
set_option maxRecDepth 100000 in
theorem S_Load_release_15 {p : Program} {l : Launch} {e : Env} {s : State} {m : MethodId} {args : Array Value} {below : List Frame} {meth : Method} {c : Code} {κ : hX} {Q : hM → Prop} (C0 : Cw κ w_cl w_tl w_tb p s m args meth c b_Load_release 3 R_Load none) : ∀ (n : Nat) (h : hM) (x0 : Nat) (x1 : Nat) (x2 : Int32) (H : Heap) (locs : List Loc) (ls : Array Slot), L_Load_release_15 Q n h x0 x1 x2 → hp κ w_cl h H → va_S (h_A κ) s.heap H locs → lv_has ls 3 [(0, .ref x0), (1, .ref x1), (2, .int x2)] → W p l e rm_Load_release s m args below meth c H locs 0 0 (MQ below (hQ κ w_cl (qV Q)) args s 0 0 (h_A κ)) (F0 m 15 ls []) := by
  obtain ⟨hx, hb, hml, hown, hts, hK, hF0, hrt, hlocks⟩ := id C0
  intro n
  induction n with
  | zero =>
    intro h x0 x1 x2 H locs ls hw
    exact hw.elim
  | succ n hK15 =>
    intro h x0 x1 x2 H locs ls hw hh hS hl
    have hw : P_Load_release_15 Q (L_Load_release_15 Q n) h x0 x1 x2 := hw
    refine lv_iload_n hx hb d_Load_release_15 rfl (lv_at hl 2 rfl) ?_
    refine lv_iconst (v := 4) hx hb d_Load_release_16 (by decide) ?_
    refine lv_icmp_ge (tgt := 41) hx hb d_Load_release_17 (by decide) (fun c129 => ?_) (fun c129 => ?_)
    · have hw := hw.1 c129
      refine lv_aload_n hx hb d_Load_release_41 rfl (lv_at hl 0 rfl) ?_
      obtain ⟨fs130, r133, hr131, hk132, hw⟩ := hw
      refine h_get C0 hh hr131 hk132 rfl i_Load (by decide) k_f_Load_21 (fun _ h9 => h9) d_Load_release_42 ?_
      refine lv_aload_n hx hb d_Load_release_45 rfl (lv_at hl 1 rfl) ?_
      obtain ⟨fs134, i137, hr135, hk136, hw⟩ := hw
      refine h_get C0 hh hr135 hk136 rfl i_Job (by decide) k_f_Load_39 (fun _ h9 => h9) d_Load_release_46 ?_
      obtain ⟨fs138, hr139, hw⟩ := hw
      refine h_callV (n := 1) C0 w_TBm hh hS hl.1 [.int i137] [] (S_NS_drop _ _ _ _ hw) hr139 rfl k_m_Load_49 k_inst_NS_drop k_sel_NS_drop k_ini_NS k_code_NS_drop (by decide +kernel) rfl rfl (Nat.le_of_ble_eq_true rfl) ⟨(Nat.le_of_ble_eq_true rfl), (Nat.le_of_ble_eq_true rfl)⟩ ⟨(Nat.le_of_ble_eq_true rfl), (Nat.le_of_ble_eq_true rfl)⟩ d_Load_release_49 (h_kV (k := 0) (n := 0) (Nat.le_of_ble_eq_true rfl) (Nat.le_of_ble_eq_true rfl) (fun h140 H locs hw hh hS => ?_))
      refine lv_aload_n hx hb d_Load_release_52 rfl (lv_at hl 0 rfl) ?_
      refine lv_dup hx hb d_Load_release_53 rfl ?_
      obtain ⟨fs142, i145, hr143, hk144, hw⟩ := hw
      refine h_get C0 hh hr143 hk144 rfl i_Load (by decide) k_f_Load_25 (fun _ h9 => h9) d_Load_release_54 ?_
      refine lv_iconst (v := 1) hx hb d_Load_release_57 (by decide) ?_
      refine lv_isub hx hb d_Load_release_58 ?_
      obtain ⟨fs146, hr147, hk148, hw⟩ := hw
      refine h_put C0 hh hS (v := .int (i145 - (1 : Int32))) hr147 hk148 rfl i_Load t_Load t_Load_ok n_Load (by decide) k_f_Load_25 (fun _ h9 => h9) rfl rfl rfl rfl d_Load_release_59 (fun H locs hh hS => ?_)
      obtain ⟨h149, eh149⟩ : ∃ z : hM, z = h_up h140 x0 (eO 2 (fs146.set 3 (.int (i145 - (1 : Int32))))) := ⟨_, rfl⟩
      rw [← eh149] at hh
      have hw := hw h149 eh149
      refine lv_aload_n hx hb d_Load_release_62 rfl (lv_at hl 0 rfl) ?_
      refine lv_iconst (v := 0) hx hb d_Load_release_63 (by decide) ?_
      obtain ⟨fs150, hr151, hk152, hw⟩ := hw
      refine h_put C0 hh hS (v := .int (0 : Int32)) hr151 hk152 rfl i_Load t_Load t_Load_ok n_Load (by decide) k_f_Load_29 (fun _ h9 => h9) rfl rfl rfl rfl d_Load_release_64 (fun H locs hh hS => ?_)
      obtain ⟨h153, eh153⟩ : ∃ z : hM, z = h_up h149 x0 (eO 2 (fs150.set 4 (.int (0 : Int32)))) := ⟨_, rfl⟩
      rw [← eh153] at hh
      have hw := hw h153 eh153
      exact h_vret C0 hh hS rfl ⟨rfl, hw⟩ d_Load_release_67
    · have hw := hw.2 c129
      refine lv_aload_n hx hb d_Load_release_20 rfl (lv_at hl 0 rfl) ?_
      obtain ⟨fs154, r157, hr155, hk156, hw⟩ := hw
      refine h_get C0 hh hr155 hk156 rfl i_Load (by decide) k_f_Load_15 (fun _ h9 => h9) d_Load_release_21 ?_
      refine lv_iload_n hx hb d_Load_release_24 rfl (lv_at hl 2 rfl) ?_
      refine lv_dup2_11 hx hb d_Load_release_25 rfl rfl ?_
      obtain ⟨n158, f159, hr160, hi161, hw⟩ := hw
      refine h_iald C0 hh hr160 hi161 rfl d_Load_release_26 ?_
      refine lv_aload_n hx hb d_Load_release_27 rfl (lv_at hl 1 rfl) ?_
      obtain ⟨fs162, r165, hr163, hk164, hw⟩ := hw
      refine h_get C0 hh hr163 hk164 rfl i_Job (by decide) k_f_Load_38 (fun _ h9 => h9) d_Load_release_28 ?_
      refine lv_iload_n hx hb d_Load_release_31 rfl (lv_at hl 2 rfl) ?_
      obtain ⟨n166, f167, hr168, hi169, hw⟩ := hw
      refine h_iald C0 hh hr168 hi169 rfl d_Load_release_32 ?_
      refine lv_isub hx hb d_Load_release_33 ?_
      obtain ⟨n170, f171, hr172, hi173, hw⟩ := hw
      refine h_iast C0 hh hS hr172 hi173 rfl d_Load_release_34 (fun H locs hh hS => ?_)
      obtain ⟨h174, eh174⟩ : ∃ z : hM, z = h_up h r157 (eT 0 n170 (upd f171 x2.toNatClampNeg ((f159 x2.toNatClampNeg) - (f167 x2.toNatClampNeg)))) := ⟨_, rfl⟩
      rw [← eh174] at hh
      have hw := hw h174 eh174
      obtain ⟨x2_175, ex2_175⟩ : ∃ z : Int32, z = x2 + 1 := ⟨_, rfl⟩
      have hw := hw x2_175 ex2_175
      refine lv_iinc (v := x2_175) (lv' := [(2, .int x2_175), (0, .ref x0), (1, .ref x1)]) hx hb d_Load_release_35 hl (k := 2) rfl (by rw [ex2_175]; rfl) (by decide) rfl (fun ls hl => ?_)
      refine lv_goto (tgt := 15) hx hb d_Load_release_38 (by decide) ?_
      exact hK15 _ _ _ _ _ _ _ hw hh hS (lv_sub hl [1, 2, 0] rfl)
set_option maxHeartbeats 4000000 in
set_option maxRecDepth 100000 in
theorem S_Load_release {l : Launch} {κ : hX} (Q : hM → Prop) (h : hM) (x0 : Nat) (x1 : Nat) (hw : P_Load_release Q h x0 x1) : Met l y_Load_release [Cond.code y_Load_release b_Load_release 3 none] rm_Load_release (hPc κ w_cl w_tl w_tb [.ref x0, .ref x1] h) (hQ κ w_cl (qV Q)) 0 0 (h_A κ) := by
  refine h_enter w_TBm (by decide) (Nat.le_of_ble_eq_true rfl) ?_
  intro p e s m args below meth c C0 hnm hh hS ls hl
  obtain ⟨hx, hb, hml, hown, hts, hK, hF0, hrt, hlocks⟩ := id C0
  have hl : lv_has ls 3 [(0, .ref x0), (1, .ref x1)] := hl
  refine lv_aload_n hx hb d_Load_release_0 rfl (lv_at hl 0 rfl) ?_
  obtain ⟨fs176, r179, hr177, hk178, hw⟩ := hw
  refine h_get C0 hh hr177 hk178 rfl i_Load (by decide) k_f_Load_9 (fun _ h9 => h9) d_Load_release_1 ?_
  refine lv_aload_n hx hb d_Load_release_4 rfl (lv_at hl 1 rfl) ?_
  obtain ⟨fs180, i183, hr181, hk182, hw⟩ := hw
  refine h_get C0 hh hr181 hk182 rfl i_Job (by decide) k_f_Load_33 (fun _ h9 => h9) d_Load_release_5 ?_
  refine lv_dup2_11 hx hb d_Load_release_8 rfl rfl ?_
  obtain ⟨n184, f185, hr186, hi187, hw⟩ := hw
  refine h_iald C0 hh hr186 hi187 rfl d_Load_release_9 ?_
  refine lv_iconst (v := 1) hx hb d_Load_release_10 (by decide) ?_
  refine lv_isub hx hb d_Load_release_11 ?_
  obtain ⟨n188, f189, hr190, hi191, hw⟩ := hw
  refine h_iast C0 hh hS hr190 hi191 rfl d_Load_release_12 (fun H locs hh hS => ?_)
  obtain ⟨h192, eh192⟩ : ∃ z : hM, z = h_up h r179 (eT 0 n188 (upd f189 i183.toNatClampNeg ((f185 i183.toNatClampNeg) - (1 : Int32)))) := ⟨_, rfl⟩
  rw [← eh192] at hh
  have hw := hw h192 eh192
  refine lv_iconst (v := 0) hx hb d_Load_release_13 (by decide) ?_
  refine lv_istore_n (lv' := [(2, .int (0 : Int32)), (0, .ref x0), (1, .ref x1)]) hx hb d_Load_release_14 rfl hl (by decide) rfl (fun ls hl => ?_)
  obtain ⟨n0, hw⟩ := hw
  exact S_Load_release_15 C0 n0 _ _ _ _ _ _ _ hw hh hS (lv_sub hl [1, 2, 0] rfl)
