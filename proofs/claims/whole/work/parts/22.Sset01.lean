set_option maxHeartbeats 4000000 in
set_option maxRecDepth 100000 in
theorem S_NS_init {l : Launch} {κ : hX} (Q : hM → Prop) (h : hM) (x0 : Nat) (hw : P_NS_init Q h x0) : Met l y_NS_init [Cond.code y_NS_init b_NS_init 1 none] rm_NS_init (hPc κ w_cl w_tl w_tb [.ref x0] h) (hQ κ w_cl (qV Q)) 0 0 (h_A κ) := by
  refine h_enter w_TBm (by decide) (Nat.le_of_ble_eq_true rfl) ?_
  intro p e s m args below meth c C0 hnm hh hS ls hl
  obtain ⟨hx, hb, hml, hown, hts, hK, hF0, hrt, hlocks⟩ := id C0
  have hl : lv_has ls 1 [(0, .ref x0)] := hl
  refine lv_aload_n hx hb d_NS_init_0 rfl (lv_at hl 0 rfl) ?_
  refine W.objInit hx hb hown (hts _ k_m_NS_1) (hts _ k_oi_inst) (hts _ k_oi_code) rfl (by rw [hml]; exact hl.1) rfl d_NS_init_1 (Nat.le_of_ble_eq_true rfl) (Nat.le_of_ble_eq_true rfl) ?_
  refine W.eq (g2 := F0 m 4 ls []) rfl ?_
  refine lv_aload_n hx hb d_NS_init_4 rfl (lv_at hl 0 rfl) ?_
  refine lv_lconst (v := 0) hx hb d_NS_init_5 (by decide) ?_
  obtain ⟨fs9, hr10, hk11, hw⟩ := hw
  refine h_put C0 hh hS (v := .long (0 : Int64)) hr10 hk11 rfl i_NS t_NS t_NS_ok n_NS (by decide) k_f_NS_7 (fun _ h9 => h9) rfl rfl rfl rfl d_NS_init_6 (fun H locs hh hS => ?_)
  obtain ⟨h12, eh12⟩ : ∃ z : hM, z = h_up h x0 (eO 4 (fs9.set 0 (.long (0 : Int64)))) := ⟨_, rfl⟩
  rw [← eh12] at hh
  have hw := hw h12 eh12
  refine lv_aload_n hx hb d_NS_init_9 rfl (lv_at hl 0 rfl) ?_
  refine lv_lconst (v := 0) hx hb d_NS_init_10 (by decide) ?_
  obtain ⟨fs13, hr14, hk15, hw⟩ := hw
  refine h_put C0 hh hS (v := .long (0 : Int64)) hr14 hk15 rfl i_NS t_NS t_NS_ok n_NS (by decide) k_f_NS_13 (fun _ h9 => h9) rfl rfl rfl rfl d_NS_init_11 (fun H locs hh hS => ?_)
  obtain ⟨h16, eh16⟩ : ∃ z : hM, z = h_up h12 x0 (eO 4 (fs13.set 1 (.long (0 : Int64)))) := ⟨_, rfl⟩
  rw [← eh16] at hh
  have hw := hw h16 eh16
  exact h_vret C0 hh hS rfl ⟨rfl, hw⟩ d_NS_init_14
set_option maxHeartbeats 4000000 in
set_option maxRecDepth 100000 in
theorem S_NS_has_28 {p : Program} {l : Launch} {e : Env} {s : State} {m : MethodId} {args : Array Value} {below : List Frame} {meth : Method} {c : Code} {κ : hX} {Q : Int32 → hM → Prop} (C0 : Cw κ w_cl w_tl w_tb p s m args meth c b_NS_has 4 R_NS (some .boolean)) : ∀ (h : hM) (t0 : Int64) (H : Heap) (locs : List Loc) (ls : Array Slot), P_NS_has_28 Q h t0 → hp κ w_cl h H → va_S (h_A κ) s.heap H locs → lv_has ls 4 [] → W p l e rm_NS_has s m args below meth c H locs 0 0 (MQ below (hQ κ w_cl (qI Q)) args s 0 0 (h_A κ)) (F0 m 28 ls [.long t0]) := by
  obtain ⟨hx, hb, hml, hown, hts, hK, hF0, hrt, hlocks⟩ := id C0
  intro h t0 H locs ls hw hh hS hl
  refine lv_lstore_n (lv' := [(2, .long t0)]) hx hb d_NS_has_28 rfl hl (by decide) rfl (fun ls hl => ?_)
  refine lv_lload_n hx hb d_NS_has_29 rfl (lv_at hl 0 rfl) ?_
  refine lv_lconst (v := 0) hx hb d_NS_has_30 (by decide) ?_
  refine W.lcmp hx hb d_NS_has_31 ?_
  refine lv_if_eq (tgt := 39) hx hb d_NS_has_32 (by decide) (fun c21 => ?_) (fun c21 => ?_)
  · have hw := hw.1 ((lg_cmp_eq _ _).mp c21)
    refine lv_iconst (v := 0) hx hb d_NS_has_39 (by decide) ?_
    exact h_iret C0 hh hS rfl rfl ⟨_, rfl, hw⟩ d_NS_has_40
  · have hw := hw.2 (fun z => c21 ((lg_cmp_eq _ _).mpr z))
    refine lv_iconst (v := 1) hx hb d_NS_has_35 (by decide) ?_
    refine lv_goto (tgt := 40) hx hb d_NS_has_36 (by decide) ?_
    exact h_iret C0 hh hS rfl rfl ⟨_, rfl, hw⟩ d_NS_has_40
set_option maxHeartbeats 4000000 in
set_option maxRecDepth 100000 in
theorem S_NS_has {l : Launch} {κ : hX} (Q : Int32 → hM → Prop) (h : hM) (x0 : Nat) (x1 : Int32) (hw : P_NS_has Q h x0 x1) : Met l y_NS_has [Cond.code y_NS_has b_NS_has 4 (some .boolean)] rm_NS_has (hPc κ w_cl w_tl w_tb [.ref x0, .int x1] h) (hQ κ w_cl (qI Q)) 0 0 (h_A κ) := by
  refine h_enter w_TBm (by decide) (Nat.le_of_ble_eq_true rfl) ?_
  intro p e s m args below meth c C0 hnm hh hS ls hl
  obtain ⟨hx, hb, hml, hown, hts, hK, hF0, hrt, hlocks⟩ := id C0
  have hl : lv_has ls 4 [(0, .ref x0), (1, .int x1)] := hl
  refine lv_iload_n hx hb d_NS_has_0 rfl (lv_at hl 1 rfl) ?_
  refine lv_bipush (v := 64) hx hb d_NS_has_1 (by decide) ?_
  refine lv_icmp_ge (tgt := 17) hx hb d_NS_has_3 (by decide) (fun c22 => ?_) (fun c22 => ?_)
  · have hw := hw.1 c22
    refine lv_aload_n hx hb d_NS_has_17 rfl (lv_at hl 0 rfl) ?_
    obtain ⟨fs23, j26, hr24, hk25, hw⟩ := hw
    refine h_get C0 hh hr24 hk25 rfl i_NS (by decide) k_f_NS_13 (fun _ h9 => h9) d_NS_has_18 ?_
    refine lv_lconst (v := 1) hx hb d_NS_has_21 (by decide) ?_
    refine lv_iload_n hx hb d_NS_has_22 rfl (lv_at hl 1 rfl) ?_
    refine lv_bipush (v := 64) hx hb d_NS_has_23 (by decide) ?_
    refine lv_isub hx hb d_NS_has_25 ?_
    refine lv_lshl (v := ((1 : Int64) <<< ((x1 - (64 : Int32)).toInt64 &&& 63))) hx hb d_NS_has_26 rfl ?_
    refine lv_land hx hb d_NS_has_27 ?_
    exact S_NS_has_28 C0 _ _ _ _ _ hw hh hS (lv_sub hl [] rfl)
  · have hw := hw.2 c22
    refine lv_aload_n hx hb d_NS_has_6 rfl (lv_at hl 0 rfl) ?_
    obtain ⟨fs27, j30, hr28, hk29, hw⟩ := hw
    refine h_get C0 hh hr28 hk29 rfl i_NS (by decide) k_f_NS_7 (fun _ h9 => h9) d_NS_has_7 ?_
    refine lv_lconst (v := 1) hx hb d_NS_has_10 (by decide) ?_
    refine lv_iload_n hx hb d_NS_has_11 rfl (lv_at hl 1 rfl) ?_
    refine lv_lshl (v := ((1 : Int64) <<< (x1.toInt64 &&& 63))) hx hb d_NS_has_12 rfl ?_
    refine lv_land hx hb d_NS_has_13 ?_
    refine lv_goto (tgt := 28) hx hb d_NS_has_14 (by decide) ?_
    exact S_NS_has_28 C0 _ _ _ _ _ hw hh hS (lv_sub hl [] rfl)
set_option maxHeartbeats 4000000 in
set_option maxRecDepth 100000 in
theorem S_NS_put {l : Launch} {κ : hX} (Q : hM → Prop) (h : hM) (x0 : Nat) (x1 : Int32) (hw : P_NS_put Q h x0 x1) : Met l y_NS_put [Cond.code y_NS_put b_NS_put 2 none] rm_NS_put (hPc κ w_cl w_tl w_tb [.ref x0, .int x1] h) (hQ κ w_cl (qV Q)) 0 0 (h_A κ) := by
  refine h_enter w_TBm (by decide) (Nat.le_of_ble_eq_true rfl) ?_
  intro p e s m args below meth c C0 hnm hh hS ls hl
  obtain ⟨hx, hb, hml, hown, hts, hK, hF0, hrt, hlocks⟩ := id C0
  have hl : lv_has ls 2 [(0, .ref x0), (1, .int x1)] := hl
  refine lv_iload_n hx hb d_NS_put_0 rfl (lv_at hl 1 rfl) ?_
  refine lv_bipush (v := 64) hx hb d_NS_put_1 (by decide) ?_
  refine lv_icmp_ge (tgt := 21) hx hb d_NS_put_3 (by decide) (fun c18 => ?_) (fun c18 => ?_)
  · have hw := hw.1 c18
    refine lv_aload_n hx hb d_NS_put_21 rfl (lv_at hl 0 rfl) ?_
    refine lv_dup hx hb d_NS_put_22 rfl ?_
    obtain ⟨fs19, j22, hr20, hk21, hw⟩ := hw
    refine h_get C0 hh hr20 hk21 rfl i_NS (by decide) k_f_NS_13 (fun _ h9 => h9) d_NS_put_23 ?_
    refine lv_lconst (v := 1) hx hb d_NS_put_26 (by decide) ?_
    refine lv_iload_n hx hb d_NS_put_27 rfl (lv_at hl 1 rfl) ?_
    refine lv_bipush (v := 64) hx hb d_NS_put_28 (by decide) ?_
    refine lv_isub hx hb d_NS_put_30 ?_
    refine lv_lshl (v := ((1 : Int64) <<< ((x1 - (64 : Int32)).toInt64 &&& 63))) hx hb d_NS_put_31 rfl ?_
    refine lv_lor hx hb d_NS_put_32 ?_
    obtain ⟨fs23, hr24, hk25, hw⟩ := hw
    refine h_put C0 hh hS (v := .long (j22 ||| (((1 : Int64) <<< ((x1 - (64 : Int32)).toInt64 &&& 63))))) hr24 hk25 rfl i_NS t_NS t_NS_ok n_NS (by decide) k_f_NS_13 (fun _ h9 => h9) rfl rfl rfl rfl d_NS_put_33 (fun H locs hh hS => ?_)
    obtain ⟨h26, eh26⟩ : ∃ z : hM, z = h_up h x0 (eO 4 (fs23.set 1 (.long (j22 ||| (((1 : Int64) <<< ((x1 - (64 : Int32)).toInt64 &&& 63))))))) := ⟨_, rfl⟩
    rw [← eh26] at hh
    have hw := hw h26 eh26
    exact h_vret C0 hh hS rfl ⟨rfl, hw⟩ d_NS_put_36
  · have hw := hw.2 c18
    refine lv_aload_n hx hb d_NS_put_6 rfl (lv_at hl 0 rfl) ?_
    refine lv_dup hx hb d_NS_put_7 rfl ?_
    obtain ⟨fs27, j30, hr28, hk29, hw⟩ := hw
    refine h_get C0 hh hr28 hk29 rfl i_NS (by decide) k_f_NS_7 (fun _ h9 => h9) d_NS_put_8 ?_
    refine lv_lconst (v := 1) hx hb d_NS_put_11 (by decide) ?_
    refine lv_iload_n hx hb d_NS_put_12 rfl (lv_at hl 1 rfl) ?_
    refine lv_lshl (v := ((1 : Int64) <<< (x1.toInt64 &&& 63))) hx hb d_NS_put_13 rfl ?_
    refine lv_lor hx hb d_NS_put_14 ?_
    obtain ⟨fs31, hr32, hk33, hw⟩ := hw
    refine h_put C0 hh hS (v := .long (j30 ||| (((1 : Int64) <<< (x1.toInt64 &&& 63))))) hr32 hk33 rfl i_NS t_NS t_NS_ok n_NS (by decide) k_f_NS_7 (fun _ h9 => h9) rfl rfl rfl rfl d_NS_put_15 (fun H locs hh hS => ?_)
    obtain ⟨h34, eh34⟩ : ∃ z : hM, z = h_up h x0 (eO 4 (fs31.set 0 (.long (j30 ||| (((1 : Int64) <<< (x1.toInt64 &&& 63))))))) := ⟨_, rfl⟩
    rw [← eh34] at hh
    have hw := hw h34 eh34
    refine lv_goto (tgt := 36) hx hb d_NS_put_18 (by decide) ?_
    exact h_vret C0 hh hS rfl ⟨rfl, hw⟩ d_NS_put_36
set_option maxHeartbeats 4000000 in
set_option maxRecDepth 100000 in
theorem S_NS_putAll {l : Launch} {κ : hX} (Q : hM → Prop) (h : hM) (x0 : Nat) (x1 : Nat) (hw : P_NS_putAll Q h x0 x1) : Met l y_NS_putAll [Cond.code y_NS_putAll b_NS_putAll 2 none] rm_NS_putAll (hPc κ w_cl w_tl w_tb [.ref x0, .ref x1] h) (hQ κ w_cl (qV Q)) 0 0 (h_A κ) := by
  refine h_enter w_TBm (by decide) (Nat.le_of_ble_eq_true rfl) ?_
  intro p e s m args below meth c C0 hnm hh hS ls hl
  obtain ⟨hx, hb, hml, hown, hts, hK, hF0, hrt, hlocks⟩ := id C0
  have hl : lv_has ls 2 [(0, .ref x0), (1, .ref x1)] := hl
  refine lv_aload_n hx hb d_NS_putAll_0 rfl (lv_at hl 0 rfl) ?_
  refine lv_dup hx hb d_NS_putAll_1 rfl ?_
  obtain ⟨fs25, j28, hr26, hk27, hw⟩ := hw
  refine h_get C0 hh hr26 hk27 rfl i_NS (by decide) k_f_NS_7 (fun _ h9 => h9) d_NS_putAll_2 ?_
  refine lv_aload_n hx hb d_NS_putAll_5 rfl (lv_at hl 1 rfl) ?_
  obtain ⟨fs29, j32, hr30, hk31, hw⟩ := hw
  refine h_get C0 hh hr30 hk31 rfl i_NS (by decide) k_f_NS_7 (fun _ h9 => h9) d_NS_putAll_6 ?_
  refine lv_lor hx hb d_NS_putAll_9 ?_
  obtain ⟨fs33, hr34, hk35, hw⟩ := hw
  refine h_put C0 hh hS (v := .long (j28 ||| j32)) hr34 hk35 rfl i_NS t_NS t_NS_ok n_NS (by decide) k_f_NS_7 (fun _ h9 => h9) rfl rfl rfl rfl d_NS_putAll_10 (fun H locs hh hS => ?_)
  obtain ⟨h36, eh36⟩ : ∃ z : hM, z = h_up h x0 (eO 4 (fs33.set 0 (.long (j28 ||| j32)))) := ⟨_, rfl⟩
  rw [← eh36] at hh
  have hw := hw h36 eh36
  refine lv_aload_n hx hb d_NS_putAll_13 rfl (lv_at hl 0 rfl) ?_
  refine lv_dup hx hb d_NS_putAll_14 rfl ?_
  obtain ⟨fs37, j40, hr38, hk39, hw⟩ := hw
  refine h_get C0 hh hr38 hk39 rfl i_NS (by decide) k_f_NS_13 (fun _ h9 => h9) d_NS_putAll_15 ?_
  refine lv_aload_n hx hb d_NS_putAll_18 rfl (lv_at hl 1 rfl) ?_
  obtain ⟨fs41, j44, hr42, hk43, hw⟩ := hw
  refine h_get C0 hh hr42 hk43 rfl i_NS (by decide) k_f_NS_13 (fun _ h9 => h9) d_NS_putAll_19 ?_
  refine lv_lor hx hb d_NS_putAll_22 ?_
  obtain ⟨fs45, hr46, hk47, hw⟩ := hw
  refine h_put C0 hh hS (v := .long (j40 ||| j44)) hr46 hk47 rfl i_NS t_NS t_NS_ok n_NS (by decide) k_f_NS_13 (fun _ h9 => h9) rfl rfl rfl rfl d_NS_putAll_23 (fun H locs hh hS => ?_)
  obtain ⟨h48, eh48⟩ : ∃ z : hM, z = h_up h36 x0 (eO 4 (fs45.set 1 (.long (j40 ||| j44)))) := ⟨_, rfl⟩
  rw [← eh48] at hh
  have hw := hw h48 eh48
  exact h_vret C0 hh hS rfl ⟨rfl, hw⟩ d_NS_putAll_26
set_option maxHeartbeats 4000000 in
set_option maxRecDepth 100000 in
theorem S_NS_isWithin {l : Launch} {κ : hX} (Q : Int32 → hM → Prop) (h : hM) (x0 : Nat) (x1 : Nat) (hw : P_NS_isWithin Q h x0 x1) : Met l y_NS_isWithin [Cond.code y_NS_isWithin b_NS_isWithin 2 (some .boolean)] rm_NS_isWithin (hPc κ w_cl w_tl w_tb [.ref x0, .ref x1] h) (hQ κ w_cl (qI Q)) 0 0 (h_A κ) := by
  refine h_enter w_TBm (by decide) (Nat.le_of_ble_eq_true rfl) ?_
  intro p e s m args below meth c C0 hnm hh hS ls hl
  obtain ⟨hx, hb, hml, hown, hts, hK, hF0, hrt, hlocks⟩ := id C0
  have hl : lv_has ls 2 [(0, .ref x0), (1, .ref x1)] := hl
  refine lv_aload_n hx hb d_NS_isWithin_0 rfl (lv_at hl 0 rfl) ?_
  obtain ⟨fs19, j22, hr20, hk21, hw⟩ := hw
  refine h_get C0 hh hr20 hk21 rfl i_NS (by decide) k_f_NS_7 (fun _ h9 => h9) d_NS_isWithin_1 ?_
  refine lv_aload_n hx hb d_NS_isWithin_4 rfl (lv_at hl 1 rfl) ?_
  obtain ⟨fs23, j26, hr24, hk25, hw⟩ := hw
  refine h_get C0 hh hr24 hk25 rfl i_NS (by decide) k_f_NS_7 (fun _ h9 => h9) d_NS_isWithin_5 ?_
  refine lv_ldc2 (v := -1) hx hb hown (hts _ k_k_NS_16) d_NS_isWithin_8 ?_
  refine lv_lxor hx hb d_NS_isWithin_11 ?_
  refine lv_land hx hb d_NS_isWithin_12 ?_
  refine lv_lconst (v := 0) hx hb d_NS_isWithin_13 (by decide) ?_
  refine W.lcmp hx hb d_NS_isWithin_14 ?_
  refine lv_if_ne (tgt := 40) hx hb d_NS_isWithin_15 (by decide) (fun c27 => ?_) (fun c27 => ?_)
  · have hw := hw.1 (fun z => c27 ((lg_cmp_eq _ _).mpr z))
    refine lv_iconst (v := 0) hx hb d_NS_isWithin_40 (by decide) ?_
    exact h_iret C0 hh hS rfl rfl ⟨_, rfl, hw⟩ d_NS_isWithin_41
  · have hw := hw.2 ((lg_cmp_eq _ _).mp c27)
    refine lv_aload_n hx hb d_NS_isWithin_18 rfl (lv_at hl 0 rfl) ?_
    obtain ⟨fs28, j31, hr29, hk30, hw⟩ := hw
    refine h_get C0 hh hr29 hk30 rfl i_NS (by decide) k_f_NS_13 (fun _ h9 => h9) d_NS_isWithin_19 ?_
    refine lv_aload_n hx hb d_NS_isWithin_22 rfl (lv_at hl 1 rfl) ?_
    obtain ⟨fs32, j35, hr33, hk34, hw⟩ := hw
    refine h_get C0 hh hr33 hk34 rfl i_NS (by decide) k_f_NS_13 (fun _ h9 => h9) d_NS_isWithin_23 ?_
    refine lv_ldc2 (v := -1) hx hb hown (hts _ k_k_NS_16) d_NS_isWithin_26 ?_
    refine lv_lxor hx hb d_NS_isWithin_29 ?_
    refine lv_land hx hb d_NS_isWithin_30 ?_
    refine lv_lconst (v := 0) hx hb d_NS_isWithin_31 (by decide) ?_
    refine W.lcmp hx hb d_NS_isWithin_32 ?_
    refine lv_if_ne (tgt := 40) hx hb d_NS_isWithin_33 (by decide) (fun c36 => ?_) (fun c36 => ?_)
    · have hw := hw.1 (fun z => c36 ((lg_cmp_eq _ _).mpr z))
      refine lv_iconst (v := 0) hx hb d_NS_isWithin_40 (by decide) ?_
      exact h_iret C0 hh hS rfl rfl ⟨_, rfl, hw⟩ d_NS_isWithin_41
    · have hw := hw.2 ((lg_cmp_eq _ _).mp c36)
      refine lv_iconst (v := 1) hx hb d_NS_isWithin_36 (by decide) ?_
      refine lv_goto (tgt := 41) hx hb d_NS_isWithin_37 (by decide) ?_
      exact h_iret C0 hh hS rfl rfl ⟨_, rfl, hw⟩ d_NS_isWithin_41
set_option maxHeartbeats 4000000 in
set_option maxRecDepth 100000 in
theorem S_NS_drop {l : Launch} {κ : hX} (Q : hM → Prop) (h : hM) (x0 : Nat) (x1 : Int32) (hw : P_NS_drop Q h x0 x1) : Met l y_NS_drop [Cond.code y_NS_drop b_NS_drop 2 none] rm_NS_drop (hPc κ w_cl w_tl w_tb [.ref x0, .int x1] h) (hQ κ w_cl (qV Q)) 0 0 (h_A κ) := by
  refine h_enter w_TBm (by decide) (Nat.le_of_ble_eq_true rfl) ?_
  intro p e s m args below meth c C0 hnm hh hS ls hl
  obtain ⟨hx, hb, hml, hown, hts, hK, hF0, hrt, hlocks⟩ := id C0
  have hl : lv_has ls 2 [(0, .ref x0), (1, .int x1)] := hl
  refine lv_iload_n hx hb d_NS_drop_0 rfl (lv_at hl 1 rfl) ?_
  refine lv_bipush (v := 64) hx hb d_NS_drop_1 (by decide) ?_
  refine lv_icmp_ge (tgt := 25) hx hb d_NS_drop_3 (by decide) (fun c18 => ?_) (fun c18 => ?_)
  · have hw := hw.1 c18
    refine lv_aload_n hx hb d_NS_drop_25 rfl (lv_at hl 0 rfl) ?_
    refine lv_dup hx hb d_NS_drop_26 rfl ?_
    obtain ⟨fs19, j22, hr20, hk21, hw⟩ := hw
    refine h_get C0 hh hr20 hk21 rfl i_NS (by decide) k_f_NS_13 (fun _ h9 => h9) d_NS_drop_27 ?_
    refine lv_lconst (v := 1) hx hb d_NS_drop_30 (by decide) ?_
    refine lv_iload_n hx hb d_NS_drop_31 rfl (lv_at hl 1 rfl) ?_
    refine lv_bipush (v := 64) hx hb d_NS_drop_32 (by decide) ?_
    refine lv_isub hx hb d_NS_drop_34 ?_
    refine lv_lshl (v := ((1 : Int64) <<< ((x1 - (64 : Int32)).toInt64 &&& 63))) hx hb d_NS_drop_35 rfl ?_
    refine lv_ldc2 (v := -1) hx hb hown (hts _ k_k_NS_16) d_NS_drop_36 ?_
    refine lv_lxor hx hb d_NS_drop_39 ?_
    refine lv_land hx hb d_NS_drop_40 ?_
    obtain ⟨fs23, hr24, hk25, hw⟩ := hw
    refine h_put C0 hh hS (v := .long (j22 &&& ((((1 : Int64) <<< ((x1 - (64 : Int32)).toInt64 &&& 63))) ^^^ (-1 : Int64)))) hr24 hk25 rfl i_NS t_NS t_NS_ok n_NS (by decide) k_f_NS_13 (fun _ h9 => h9) rfl rfl rfl rfl d_NS_drop_41 (fun H locs hh hS => ?_)
    obtain ⟨h26, eh26⟩ : ∃ z : hM, z = h_up h x0 (eO 4 (fs23.set 1 (.long (j22 &&& ((((1 : Int64) <<< ((x1 - (64 : Int32)).toInt64 &&& 63))) ^^^ (-1 : Int64)))))) := ⟨_, rfl⟩
    rw [← eh26] at hh
    have hw := hw h26 eh26
    exact h_vret C0 hh hS rfl ⟨rfl, hw⟩ d_NS_drop_44
  · have hw := hw.2 c18
    refine lv_aload_n hx hb d_NS_drop_6 rfl (lv_at hl 0 rfl) ?_
    refine lv_dup hx hb d_NS_drop_7 rfl ?_
    obtain ⟨fs27, j30, hr28, hk29, hw⟩ := hw
    refine h_get C0 hh hr28 hk29 rfl i_NS (by decide) k_f_NS_7 (fun _ h9 => h9) d_NS_drop_8 ?_
    refine lv_lconst (v := 1) hx hb d_NS_drop_11 (by decide) ?_
    refine lv_iload_n hx hb d_NS_drop_12 rfl (lv_at hl 1 rfl) ?_
    refine lv_lshl (v := ((1 : Int64) <<< (x1.toInt64 &&& 63))) hx hb d_NS_drop_13 rfl ?_
    refine lv_ldc2 (v := -1) hx hb hown (hts _ k_k_NS_16) d_NS_drop_14 ?_
    refine lv_lxor hx hb d_NS_drop_17 ?_
    refine lv_land hx hb d_NS_drop_18 ?_
    obtain ⟨fs31, hr32, hk33, hw⟩ := hw
    refine h_put C0 hh hS (v := .long (j30 &&& ((((1 : Int64) <<< (x1.toInt64 &&& 63))) ^^^ (-1 : Int64)))) hr32 hk33 rfl i_NS t_NS t_NS_ok n_NS (by decide) k_f_NS_7 (fun _ h9 => h9) rfl rfl rfl rfl d_NS_drop_19 (fun H locs hh hS => ?_)
    obtain ⟨h34, eh34⟩ : ∃ z : hM, z = h_up h x0 (eO 4 (fs31.set 0 (.long (j30 &&& ((((1 : Int64) <<< (x1.toInt64 &&& 63))) ^^^ (-1 : Int64)))))) := ⟨_, rfl⟩
    rw [← eh34] at hh
    have hw := hw h34 eh34
    refine lv_goto (tgt := 44) hx hb d_NS_drop_22 (by decide) ?_
    exact h_vret C0 hh hS rfl ⟨rfl, hw⟩ d_NS_drop_44
