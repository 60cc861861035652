set_option maxHeartbeats 4000000 in
set_option maxRecDepth 100000 in
theorem S_Mod_init_205 {p : Program} {l : Launch} {e : Env} {s : State} {m : MethodId} {args : Array Value} {below : List Frame} {meth : Method} {c : Code} {κ : hX} {Q : hM → Prop} (C0 : Cw κ w_cl w_tl w_tb p s m args meth c b_Mod_init 2 R_Mod none) (hnm : meth.name = "<init>") : ∀ (n : Nat) (h : hM) (x0 : Nat) (x1 : Int32) (H : Heap) (locs : List Loc) (ls : Array Slot), L_Mod_init_205 Q n h x0 x1 → hp κ w_cl h H → va_S (h_A κ) s.heap H locs → lv_has ls 2 [(0, .ref x0), (1, .int x1)] → W p l e rm_Mod_init s m args below meth c H locs 19 11568 (MQ below (hQ κ w_cl (qV Q)) args s 19 11568 (h_A κ)) (F0 m 205 ls []) := by
  obtain ⟨hx, hb, hml, hown, hts, hK, hF0, hrt, hlocks⟩ := id C0
  intro n
  induction n with
  | zero =>
    intro h x0 x1 H locs ls hw
    exact hw.elim
  | succ n hK205 =>
    intro h x0 x1 H locs ls hw hh hS hl
    have hw : P_Mod_init_205 Q (L_Mod_init_205 Q n) h x0 x1 := hw
    refine lv_iload_n hx hb d_Mod_init_205 rfl (lv_at hl 1 rfl) ?_
    refine lv_bipush (v := 12) hx hb d_Mod_init_206 (by decide) ?_
    refine lv_icmp_ge (tgt := 224) hx hb d_Mod_init_208 (by decide) (fun c309 => ?_) (fun c309 => ?_)
    · have hw := hw.1 c309
      exact h_vret C0 hh hS rfl ⟨rfl, hw⟩ d_Mod_init_224
    · have hw := hw.2 c309
      refine lv_aload_n hx hb d_Mod_init_211 rfl (lv_at hl 0 rfl) ?_
      obtain ⟨fs310, r313, hr311, hk312, hw⟩ := hw
      refine h_get C0 hh hr311 hk312 rfl i_Mod (by decide) k_f_Mod_13 (fun _ h9 => h9) d_Mod_init_212 ?_
      refine lv_iload_n hx hb d_Mod_init_215 rfl (lv_at hl 1 rfl) ?_
      refine lv_iconst (v := -1) hx hb d_Mod_init_216 (by decide) ?_
      obtain ⟨n314, f315, hr316, hi317, hw⟩ := hw
      refine h_iast C0 hh hS hr316 hi317 rfl d_Mod_init_217 (fun H locs hh hS => ?_)
      obtain ⟨h318, eh318⟩ : ∃ z : hM, z = h_up h r313 (eT 0 n314 (upd f315 x1.toNatClampNeg (-1 : Int32))) := ⟨_, rfl⟩
      rw [← eh318] at hh
      have hw := hw h318 eh318
      obtain ⟨x1_319, ex1_319⟩ : ∃ z : Int32, z = x1 + 1 := ⟨_, rfl⟩
      have hw := hw x1_319 ex1_319
      refine lv_iinc (v := x1_319) (lv' := [(1, .int x1_319), (0, .ref x0)]) hx hb d_Mod_init_218 hl (k := 1) rfl (by rw [ex1_319]; rfl) (by decide) rfl (fun ls hl => ?_)
      refine lv_goto (tgt := 205) hx hb d_Mod_init_221 (by decide) ?_
      exact hK205 _ _ _ _ _ _ hw hh hS (lv_sub hl [1, 0] rfl)
set_option maxHeartbeats 4000000 in
set_option maxRecDepth 100000 in
theorem S_Mod_init_183 {p : Program} {l : Launch} {e : Env} {s : State} {m : MethodId} {args : Array Value} {below : List Frame} {meth : Method} {c : Code} {κ : hX} {Q : hM → Prop} (C0 : Cw κ w_cl w_tl w_tb p s m args meth c b_Mod_init 2 R_Mod none) (hnm : meth.name = "<init>") : ∀ (n : Nat) (h : hM) (x0 : Nat) (x1 : Int32) (H : Heap) (locs : List Loc) (ls : Array Slot), L_Mod_init_183 Q n h x0 x1 → hp κ w_cl h H → va_S (h_A κ) s.heap H locs → lv_has ls 2 [(0, .ref x0), (1, .int x1)] → W p l e rm_Mod_init s m args below meth c H locs 19 11568 (MQ below (hQ κ w_cl (qV Q)) args s 19 11568 (h_A κ)) (F0 m 183 ls []) := by
  obtain ⟨hx, hb, hml, hown, hts, hK, hF0, hrt, hlocks⟩ := id C0
  intro n
  induction n with
  | zero =>
    intro h x0 x1 H locs ls hw
    exact hw.elim
  | succ n hK183 =>
    intro h x0 x1 H locs ls hw hh hS hl
    have hw : P_Mod_init_183 Q (L_Mod_init_183 Q n) h x0 x1 := hw
    refine lv_iload_n hx hb d_Mod_init_183 rfl (lv_at hl 1 rfl) ?_
    refine lv_bipush (v := 36) hx hb d_Mod_init_184 (by decide) ?_
    refine lv_icmp_ge (tgt := 203) hx hb d_Mod_init_186 (by decide) (fun c320 => ?_) (fun c320 => ?_)
    · have hw := hw.1 c320
      refine lv_iconst (v := 0) hx hb d_Mod_init_203 (by decide) ?_
      refine lv_istore_n (lv' := [(1, .int (0 : Int32)), (0, .ref x0)]) hx hb d_Mod_init_204 rfl hl (by decide) rfl (fun ls hl => ?_)
      obtain ⟨n0, hw⟩ := hw
      exact S_Mod_init_205 C0 hnm n0 _ _ _ _ _ _ hw hh hS (lv_sub hl [1, 0] rfl)
    · have hw := hw.2 c320
      refine lv_aload_n hx hb d_Mod_init_189 rfl (lv_at hl 0 rfl) ?_
      obtain ⟨fs321, r324, hr322, hk323, hw⟩ := hw
      refine h_get C0 hh hr322 hk323 rfl i_Mod (by decide) k_f_Mod_20 (fun _ h9 => h9) d_Mod_init_190 ?_
      refine lv_iload_n hx hb d_Mod_init_193 rfl (lv_at hl 1 rfl) ?_
      refine lv_bipush (v := 40) hx hb d_Mod_init_194 (by decide) ?_
      obtain ⟨n325, f326, hr327, hi328, hw⟩ := hw
      refine h_iast C0 hh hS hr327 hi328 rfl d_Mod_init_196 (fun H locs hh hS => ?_)
      obtain ⟨h329, eh329⟩ : ∃ z : hM, z = h_up h r324 (eT 0 n325 (upd f326 x1.toNatClampNeg (40 : Int32))) := ⟨_, rfl⟩
      rw [← eh329] at hh
      have hw := hw h329 eh329
      obtain ⟨x1_330, ex1_330⟩ : ∃ z : Int32, z = x1 + 1 := ⟨_, rfl⟩
      have hw := hw x1_330 ex1_330
      refine lv_iinc (v := x1_330) (lv' := [(1, .int x1_330), (0, .ref x0)]) hx hb d_Mod_init_197 hl (k := 1) rfl (by rw [ex1_330]; rfl) (by decide) rfl (fun ls hl => ?_)
      refine lv_goto (tgt := 183) hx hb d_Mod_init_200 (by decide) ?_
      exact hK183 _ _ _ _ _ _ hw hh hS (lv_sub hl [1, 0] rfl)
set_option maxHeartbeats 4000000 in
set_option maxRecDepth 100000 in
theorem S_Mod_init_159 {p : Program} {l : Launch} {e : Env} {s : State} {m : MethodId} {args : Array Value} {below : List Frame} {meth : Method} {c : Code} {κ : hX} {Q : hM → Prop} (C0 : Cw κ w_cl w_tl w_tb p s m args meth c b_Mod_init 2 R_Mod none) (hnm : meth.name = "<init>") : ∀ (n : Nat) (h : hM) (x0 : Nat) (x1 : Int32) (H : Heap) (locs : List Loc) (ls : Array Slot), L_Mod_init_159 Q n h x0 x1 → hp κ w_cl h H → va_S (h_A κ) s.heap H locs → lv_has ls 2 [(0, .ref x0), (1, .int x1)] → W p l e rm_Mod_init s m args below meth c H locs 19 11568 (MQ below (hQ κ w_cl (qV Q)) args s 19 11568 (h_A κ)) (F0 m 159 ls []) := by
  obtain ⟨hx, hb, hml, hown, hts, hK, hF0, hrt, hlocks⟩ := id C0
  intro n
  induction n with
  | zero =>
    intro h x0 x1 H locs ls hw
    exact hw.elim
  | succ n hK159 =>
    intro h x0 x1 H locs ls hw hh hS hl
    have hw : P_Mod_init_159 Q (L_Mod_init_159 Q n) h x0 x1 := hw
    refine lv_iload_n hx hb d_Mod_init_159 rfl (lv_at hl 1 rfl) ?_
    refine lv_aload_n hx hb d_Mod_init_160 rfl (lv_at hl 0 rfl) ?_
    obtain ⟨fs331, r334, hr332, hk333, hw⟩ := hw
    refine h_get C0 hh hr332 hk333 rfl i_Mod (by decide) k_f_Mod_7 (fun _ h9 => h9) d_Mod_init_161 ?_
    obtain ⟨n335, f336, hr337, hw⟩ := hw
    refine h_alenT C0 hh hr337 (rfl : w_tl[0]? = _) d_Mod_init_164 ?_
    refine lv_icmp_ge (tgt := 181) hx hb d_Mod_init_165 (by decide) (fun c338 => ?_) (fun c338 => ?_)
    · have hw := hw.1 c338
      refine lv_iconst (v := 0) hx hb d_Mod_init_181 (by decide) ?_
      refine lv_istore_n (lv' := [(1, .int (0 : Int32)), (0, .ref x0)]) hx hb d_Mod_init_182 rfl hl (by decide) rfl (fun ls hl => ?_)
      obtain ⟨n0, hw⟩ := hw
      exact S_Mod_init_183 C0 hnm n0 _ _ _ _ _ _ hw hh hS (lv_sub hl [1, 0] rfl)
    · have hw := hw.2 c338
      refine lv_aload_n hx hb d_Mod_init_168 rfl (lv_at hl 0 rfl) ?_
      obtain ⟨fs339, r342, hr340, hk341, hw⟩ := hw
      refine h_get C0 hh hr340 hk341 rfl i_Mod (by decide) k_f_Mod_7 (fun _ h9 => h9) d_Mod_init_169 ?_
      refine lv_iload_n hx hb d_Mod_init_172 rfl (lv_at hl 1 rfl) ?_
      refine lv_iconst (v := -1) hx hb d_Mod_init_173 (by decide) ?_
      obtain ⟨n343, f344, hr345, hi346, hw⟩ := hw
      refine h_iast C0 hh hS hr345 hi346 rfl d_Mod_init_174 (fun H locs hh hS => ?_)
      obtain ⟨h347, eh347⟩ : ∃ z : hM, z = h_up h r342 (eT 0 n343 (upd f344 x1.toNatClampNeg (-1 : Int32))) := ⟨_, rfl⟩
      rw [← eh347] at hh
      have hw := hw h347 eh347
      obtain ⟨x1_348, ex1_348⟩ : ∃ z : Int32, z = x1 + 1 := ⟨_, rfl⟩
      have hw := hw x1_348 ex1_348
      refine lv_iinc (v := x1_348) (lv' := [(1, .int x1_348), (0, .ref x0)]) hx hb d_Mod_init_175 hl (k := 1) rfl (by rw [ex1_348]; rfl) (by decide) rfl (fun ls hl => ?_)
      refine lv_goto (tgt := 159) hx hb d_Mod_init_178 (by decide) ?_
      exact hK159 _ _ _ _ _ _ hw hh hS (lv_sub hl [1, 0] rfl)
set_option maxHeartbeats 4000000 in
set_option maxRecDepth 100000 in
theorem S_Mod_init {l : Launch} {κ : hX} (Q : hM → Prop) (h : hM) (x0 : Nat) (hw : P_Mod_init Q h x0) : Met l y_Mod_init [Cond.code y_Mod_init b_Mod_init 2 none] rm_Mod_init (hPc κ w_cl w_tl w_tb [.ref x0] h) (hQ κ w_cl (qV Q)) 19 11568 (h_A κ) := by
  refine h_enter w_TBm (by decide) (Nat.le_of_ble_eq_true rfl) ?_
  intro p e s m args below meth c C0 hnm hh hS ls hl
  obtain ⟨hx, hb, hml, hown, hts, hK, hF0, hrt, hlocks⟩ := id C0
  have hl : lv_has ls 2 [(0, .ref x0)] := hl
  refine lv_aload_n hx hb d_Mod_init_0 rfl (lv_at hl 0 rfl) ?_
  refine W.objInit hx hb hown (hts _ k_m_Mod_1) (hts _ k_oi_inst) (hts _ k_oi_code) rfl (by rw [hml]; exact hl.1) rfl d_Mod_init_1 (Nat.le_of_ble_eq_true rfl) (Nat.le_of_ble_eq_true rfl) ?_
  refine W.eq (g2 := F0 m 4 ls []) rfl ?_
  refine lv_aload_n hx hb d_Mod_init_4 rfl (lv_at hl 0 rfl) ?_
  refine lv_bipush (v := 96) hx hb d_Mod_init_5 (by decide) ?_
  refine h_newa C0 hh hS (t := 0) (y := (eT 0 96 (fun _ => 0))) (ty := .int) rfl rfl rfl (fun _ => rfl) (by decide) rfl (Nat.le_of_ble_eq_true rfl) k_arr_int (Nat.le_of_ble_eq_true rfl) (Nat.le_of_ble_eq_true rfl) d_Mod_init_7 (fun q349 H hqq349 hzq349 hh hS => ?_)
  obtain ⟨h350, eh350⟩ : ∃ z : hM, z = h_up h q349 (eT 0 96 (fun _ => 0)) := ⟨_, rfl⟩
  rw [← eh350] at hh
  have hw := hw q349 hqq349 h350 eh350
  refine W.widen (k := 1) (n := 96) (Nat.le_of_ble_eq_true rfl) (Nat.le_of_ble_eq_true rfl) ?_
  obtain ⟨fs351, hr352, hk353, hw⟩ := hw
  refine h_putF C0 hh hS (v := .ref q349) hr352 hk353 rfl i_Mod t_Mod t_Mod_ok n_Mod (by decide) k_f_Mod_7 (fun _ h9 => h9) rfl hnm rfl rfl rfl rfl d_Mod_init_9 (fun H locs hh hS => ?_)
  obtain ⟨h354, eh354⟩ : ∃ z : hM, z = h_up h350 x0 (eO 6 (fs351.set 2 (.ref q349))) := ⟨_, rfl⟩
  rw [← eh354] at hh
  have hw := hw h354 eh354
  refine lv_aload_n hx hb d_Mod_init_12 rfl (lv_at hl 0 rfl) ?_
  refine lv_bipush (v := 12) hx hb d_Mod_init_13 (by decide) ?_
  refine h_newa C0 hh hS (t := 0) (y := (eT 0 12 (fun _ => 0))) (ty := .int) rfl rfl rfl (fun _ => rfl) (by decide) rfl (Nat.le_of_ble_eq_true rfl) k_arr_int (Nat.le_of_ble_eq_true rfl) (Nat.le_of_ble_eq_true rfl) d_Mod_init_15 (fun q355 H hqq355 hzq355 hh hS => ?_)
  obtain ⟨h356, eh356⟩ : ∃ z : hM, z = h_up h354 q355 (eT 0 12 (fun _ => 0)) := ⟨_, rfl⟩
  rw [← eh356] at hh
  have hw := hw q355 hqq355 h356 eh356
  refine W.widen (k := 2) (n := 108) (Nat.le_of_ble_eq_true rfl) (Nat.le_of_ble_eq_true rfl) ?_
  obtain ⟨fs357, hr358, hk359, hw⟩ := hw
  refine h_putF C0 hh hS (v := .ref q355) hr358 hk359 rfl i_Mod t_Mod t_Mod_ok n_Mod (by decide) k_f_Mod_13 (fun _ h9 => h9) rfl hnm rfl rfl rfl rfl d_Mod_init_17 (fun H locs hh hS => ?_)
  obtain ⟨h360, eh360⟩ : ∃ z : hM, z = h_up h356 x0 (eO 6 (fs357.set 3 (.ref q355))) := ⟨_, rfl⟩
  rw [← eh360] at hh
  have hw := hw h360 eh360
  refine lv_aload_n hx hb d_Mod_init_20 rfl (lv_at hl 0 rfl) ?_
  refine lv_bipush (v := 12) hx hb d_Mod_init_21 (by decide) ?_
  refine h_newa C0 hh hS (t := 3) (y := (eT 3 12 (fun _ => 0))) (ty := .boolean) rfl rfl rfl (fun _ => rfl) (by decide) rfl (Nat.le_of_ble_eq_true rfl) k_arr_boolean (Nat.le_of_ble_eq_true rfl) (Nat.le_of_ble_eq_true rfl) d_Mod_init_23 (fun q361 H hqq361 hzq361 hh hS => ?_)
  obtain ⟨h362, eh362⟩ : ∃ z : hM, z = h_up h360 q361 (eT 3 12 (fun _ => 0)) := ⟨_, rfl⟩
  rw [← eh362] at hh
  have hw := hw q361 hqq361 h362 eh362
  refine W.widen (k := 3) (n := 120) (Nat.le_of_ble_eq_true rfl) (Nat.le_of_ble_eq_true rfl) ?_
  obtain ⟨fs363, hr364, hk365, hw⟩ := hw
  refine h_putF C0 hh hS (v := .ref q361) hr364 hk365 rfl i_Mod t_Mod t_Mod_ok n_Mod (by decide) k_f_Mod_16 (fun _ h9 => h9) rfl hnm rfl rfl rfl rfl d_Mod_init_25 (fun H locs hh hS => ?_)
  obtain ⟨h366, eh366⟩ : ∃ z : hM, z = h_up h362 x0 (eO 6 (fs363.set 4 (.ref q361))) := ⟨_, rfl⟩
  rw [← eh366] at hh
  have hw := hw h366 eh366
  refine lv_aload_n hx hb d_Mod_init_28 rfl (lv_at hl 0 rfl) ?_
  refine lv_bipush (v := 36) hx hb d_Mod_init_29 (by decide) ?_
  refine h_newa C0 hh hS (t := 0) (y := (eT 0 36 (fun _ => 0))) (ty := .int) rfl rfl rfl (fun _ => rfl) (by decide) rfl (Nat.le_of_ble_eq_true rfl) k_arr_int (Nat.le_of_ble_eq_true rfl) (Nat.le_of_ble_eq_true rfl) d_Mod_init_31 (fun q367 H hqq367 hzq367 hh hS => ?_)
  obtain ⟨h368, eh368⟩ : ∃ z : hM, z = h_up h366 q367 (eT 0 36 (fun _ => 0)) := ⟨_, rfl⟩
  rw [← eh368] at hh
  have hw := hw q367 hqq367 h368 eh368
  refine W.widen (k := 4) (n := 156) (Nat.le_of_ble_eq_true rfl) (Nat.le_of_ble_eq_true rfl) ?_
  obtain ⟨fs369, hr370, hk371, hw⟩ := hw
  refine h_putF C0 hh hS (v := .ref q367) hr370 hk371 rfl i_Mod t_Mod t_Mod_ok n_Mod (by decide) k_f_Mod_20 (fun _ h9 => h9) rfl hnm rfl rfl rfl rfl d_Mod_init_33 (fun H locs hh hS => ?_)
  obtain ⟨h372, eh372⟩ : ∃ z : hM, z = h_up h368 x0 (eO 6 (fs369.set 6 (.ref q367))) := ⟨_, rfl⟩
  rw [← eh372] at hh
  have hw := hw h372 eh372
  refine lv_aload_n hx hb d_Mod_init_36 rfl (lv_at hl 0 rfl) ?_
  refine lv_bipush (v := 36) hx hb d_Mod_init_37 (by decide) ?_
  refine h_newa C0 hh hS (t := 0) (y := (eT 0 36 (fun _ => 0))) (ty := .int) rfl rfl rfl (fun _ => rfl) (by decide) rfl (Nat.le_of_ble_eq_true rfl) k_arr_int (Nat.le_of_ble_eq_true rfl) (Nat.le_of_ble_eq_true rfl) d_Mod_init_39 (fun q373 H hqq373 hzq373 hh hS => ?_)
  obtain ⟨h374, eh374⟩ : ∃ z : hM, z = h_up h372 q373 (eT 0 36 (fun _ => 0)) := ⟨_, rfl⟩
  rw [← eh374] at hh
  have hw := hw q373 hqq373 h374 eh374
  refine W.widen (k := 5) (n := 192) (Nat.le_of_ble_eq_true rfl) (Nat.le_of_ble_eq_true rfl) ?_
  obtain ⟨fs375, hr376, hk377, hw⟩ := hw
  refine h_putF C0 hh hS (v := .ref q373) hr376 hk377 rfl i_Mod t_Mod t_Mod_ok n_Mod (by decide) k_f_Mod_23 (fun _ h9 => h9) rfl hnm rfl rfl rfl rfl d_Mod_init_41 (fun H locs hh hS => ?_)
  obtain ⟨h378, eh378⟩ : ∃ z : hM, z = h_up h374 x0 (eO 6 (fs375.set 7 (.ref q373))) := ⟨_, rfl⟩
  rw [← eh378] at hh
  have hw := hw h378 eh378
  refine lv_aload_n hx hb d_Mod_init_44 rfl (lv_at hl 0 rfl) ?_
  refine lv_bipush (v := 36) hx hb d_Mod_init_45 (by decide) ?_
  refine h_newa C0 hh hS (t := 0) (y := (eT 0 36 (fun _ => 0))) (ty := .int) rfl rfl rfl (fun _ => rfl) (by decide) rfl (Nat.le_of_ble_eq_true rfl) k_arr_int (Nat.le_of_ble_eq_true rfl) (Nat.le_of_ble_eq_true rfl) d_Mod_init_47 (fun q379 H hqq379 hzq379 hh hS => ?_)
  obtain ⟨h380, eh380⟩ : ∃ z : hM, z = h_up h378 q379 (eT 0 36 (fun _ => 0)) := ⟨_, rfl⟩
  rw [← eh380] at hh
  have hw := hw q379 hqq379 h380 eh380
  refine W.widen (k := 6) (n := 228) (Nat.le_of_ble_eq_true rfl) (Nat.le_of_ble_eq_true rfl) ?_
  obtain ⟨fs381, hr382, hk383, hw⟩ := hw
  refine h_putF C0 hh hS (v := .ref q379) hr382 hk383 rfl i_Mod t_Mod t_Mod_ok n_Mod (by decide) k_f_Mod_26 (fun _ h9 => h9) rfl hnm rfl rfl rfl rfl d_Mod_init_49 (fun H locs hh hS => ?_)
  obtain ⟨h384, eh384⟩ : ∃ z : hM, z = h_up h380 x0 (eO 6 (fs381.set 8 (.ref q379))) := ⟨_, rfl⟩
  rw [← eh384] at hh
  have hw := hw h384 eh384
  refine lv_aload_n hx hb d_Mod_init_52 rfl (lv_at hl 0 rfl) ?_
  refine lv_bipush (v := 36) hx hb d_Mod_init_53 (by decide) ?_
  refine h_newa C0 hh hS (t := 0) (y := (eT 0 36 (fun _ => 0))) (ty := .int) rfl rfl rfl (fun _ => rfl) (by decide) rfl (Nat.le_of_ble_eq_true rfl) k_arr_int (Nat.le_of_ble_eq_true rfl) (Nat.le_of_ble_eq_true rfl) d_Mod_init_55 (fun q385 H hqq385 hzq385 hh hS => ?_)
  obtain ⟨h386, eh386⟩ : ∃ z : hM, z = h_up h384 q385 (eT 0 36 (fun _ => 0)) := ⟨_, rfl⟩
  rw [← eh386] at hh
  have hw := hw q385 hqq385 h386 eh386
  refine W.widen (k := 7) (n := 264) (Nat.le_of_ble_eq_true rfl) (Nat.le_of_ble_eq_true rfl) ?_
  obtain ⟨fs387, hr388, hk389, hw⟩ := hw
  refine h_putF C0 hh hS (v := .ref q385) hr388 hk389 rfl i_Mod t_Mod t_Mod_ok n_Mod (by decide) k_f_Mod_29 (fun _ h9 => h9) rfl hnm rfl rfl rfl rfl d_Mod_init_57 (fun H locs hh hS => ?_)
  obtain ⟨h390, eh390⟩ : ∃ z : hM, z = h_up h386 x0 (eO 6 (fs387.set 9 (.ref q385))) := ⟨_, rfl⟩
  rw [← eh390] at hh
  have hw := hw h390 eh390
  refine lv_aload_n hx hb d_Mod_init_60 rfl (lv_at hl 0 rfl) ?_
  refine lv_iconst (v := 4) hx hb d_Mod_init_61 (by decide) ?_
  refine h_newa C0 hh hS (t := 0) (y := (eT 0 4 (fun _ => 0))) (ty := .int) rfl rfl rfl (fun _ => rfl) (by decide) rfl (Nat.le_of_ble_eq_true rfl) k_arr_int (Nat.le_of_ble_eq_true rfl) (Nat.le_of_ble_eq_true rfl) d_Mod_init_62 (fun q391 H hqq391 hzq391 hh hS => ?_)
  obtain ⟨h392, eh392⟩ : ∃ z : hM, z = h_up h390 q391 (eT 0 4 (fun _ => 0)) := ⟨_, rfl⟩
  rw [← eh392] at hh
  have hw := hw q391 hqq391 h392 eh392
  refine W.widen (k := 8) (n := 268) (Nat.le_of_ble_eq_true rfl) (Nat.le_of_ble_eq_true rfl) ?_
  obtain ⟨fs393, hr394, hk395, hw⟩ := hw
  refine h_putF C0 hh hS (v := .ref q391) hr394 hk395 rfl i_Mod t_Mod t_Mod_ok n_Mod (by decide) k_f_Mod_32 (fun _ h9 => h9) rfl hnm rfl rfl rfl rfl d_Mod_init_64 (fun H locs hh hS => ?_)
  obtain ⟨h396, eh396⟩ : ∃ z : hM, z = h_up h392 x0 (eO 6 (fs393.set 10 (.ref q391))) := ⟨_, rfl⟩
  rw [← eh396] at hh
  have hw := hw h396 eh396
  refine lv_aload_n hx hb d_Mod_init_67 rfl (lv_at hl 0 rfl) ?_
  refine lv_bipush (v := 100) hx hb d_Mod_init_68 (by decide) ?_
  refine h_newa C0 hh hS (t := 0) (y := (eT 0 100 (fun _ => 0))) (ty := .int) rfl rfl rfl (fun _ => rfl) (by decide) rfl (Nat.le_of_ble_eq_true rfl) k_arr_int (Nat.le_of_ble_eq_true rfl) (Nat.le_of_ble_eq_true rfl) d_Mod_init_70 (fun q397 H hqq397 hzq397 hh hS => ?_)
  obtain ⟨h398, eh398⟩ : ∃ z : hM, z = h_up h396 q397 (eT 0 100 (fun _ => 0)) := ⟨_, rfl⟩
  rw [← eh398] at hh
  have hw := hw q397 hqq397 h398 eh398
  refine W.widen (k := 9) (n := 368) (Nat.le_of_ble_eq_true rfl) (Nat.le_of_ble_eq_true rfl) ?_
  obtain ⟨fs399, hr400, hk401, hw⟩ := hw
  refine h_putF C0 hh hS (v := .ref q397) hr400 hk401 rfl i_Mod t_Mod t_Mod_ok n_Mod (by decide) k_f_Mod_35 (fun _ h9 => h9) rfl hnm rfl rfl rfl rfl d_Mod_init_72 (fun H locs hh hS => ?_)
  obtain ⟨h402, eh402⟩ : ∃ z : hM, z = h_up h398 x0 (eO 6 (fs399.set 11 (.ref q397))) := ⟨_, rfl⟩
  rw [← eh402] at hh
  have hw := hw h402 eh402
  refine lv_aload_n hx hb d_Mod_init_75 rfl (lv_at hl 0 rfl) ?_
  refine lv_bipush (v := 100) hx hb d_Mod_init_76 (by decide) ?_
  refine h_newa C0 hh hS (t := 0) (y := (eT 0 100 (fun _ => 0))) (ty := .int) rfl rfl rfl (fun _ => rfl) (by decide) rfl (Nat.le_of_ble_eq_true rfl) k_arr_int (Nat.le_of_ble_eq_true rfl) (Nat.le_of_ble_eq_true rfl) d_Mod_init_78 (fun q403 H hqq403 hzq403 hh hS => ?_)
  obtain ⟨h404, eh404⟩ : ∃ z : hM, z = h_up h402 q403 (eT 0 100 (fun _ => 0)) := ⟨_, rfl⟩
  rw [← eh404] at hh
  have hw := hw q403 hqq403 h404 eh404
  refine W.widen (k := 10) (n := 468) (Nat.le_of_ble_eq_true rfl) (Nat.le_of_ble_eq_true rfl) ?_
  obtain ⟨fs405, hr406, hk407, hw⟩ := hw
  refine h_putF C0 hh hS (v := .ref q403) hr406 hk407 rfl i_Mod t_Mod t_Mod_ok n_Mod (by decide) k_f_Mod_38 (fun _ h9 => h9) rfl hnm rfl rfl rfl rfl d_Mod_init_80 (fun H locs hh hS => ?_)
  obtain ⟨h408, eh408⟩ : ∃ z : hM, z = h_up h404 x0 (eO 6 (fs405.set 12 (.ref q403))) := ⟨_, rfl⟩
  rw [← eh408] at hh
  have hw := hw h408 eh408
  refine lv_aload_n hx hb d_Mod_init_83 rfl (lv_at hl 0 rfl) ?_
  refine lv_bipush (v := 100) hx hb d_Mod_init_84 (by decide) ?_
  refine h_newa C0 hh hS (t := 0) (y := (eT 0 100 (fun _ => 0))) (ty := .int) rfl rfl rfl (fun _ => rfl) (by decide) rfl (Nat.le_of_ble_eq_true rfl) k_arr_int (Nat.le_of_ble_eq_true rfl) (Nat.le_of_ble_eq_true rfl) d_Mod_init_86 (fun q409 H hqq409 hzq409 hh hS => ?_)
  obtain ⟨h410, eh410⟩ : ∃ z : hM, z = h_up h408 q409 (eT 0 100 (fun _ => 0)) := ⟨_, rfl⟩
  rw [← eh410] at hh
  have hw := hw q409 hqq409 h410 eh410
  refine W.widen (k := 11) (n := 568) (Nat.le_of_ble_eq_true rfl) (Nat.le_of_ble_eq_true rfl) ?_
  obtain ⟨fs411, hr412, hk413, hw⟩ := hw
  refine h_putF C0 hh hS (v := .ref q409) hr412 hk413 rfl i_Mod t_Mod t_Mod_ok n_Mod (by decide) k_f_Mod_41 (fun _ h9 => h9) rfl hnm rfl rfl rfl rfl d_Mod_init_88 (fun H locs hh hS => ?_)
  obtain ⟨h414, eh414⟩ : ∃ z : hM, z = h_up h410 x0 (eO 6 (fs411.set 13 (.ref q409))) := ⟨_, rfl⟩
  rw [← eh414] at hh
  have hw := hw h414 eh414
  refine lv_aload_n hx hb d_Mod_init_91 rfl (lv_at hl 0 rfl) ?_
  refine lv_bipush (v := 100) hx hb d_Mod_init_92 (by decide) ?_
  refine h_newa C0 hh hS (t := 0) (y := (eT 0 100 (fun _ => 0))) (ty := .int) rfl rfl rfl (fun _ => rfl) (by decide) rfl (Nat.le_of_ble_eq_true rfl) k_arr_int (Nat.le_of_ble_eq_true rfl) (Nat.le_of_ble_eq_true rfl) d_Mod_init_94 (fun q415 H hqq415 hzq415 hh hS => ?_)
  obtain ⟨h416, eh416⟩ : ∃ z : hM, z = h_up h414 q415 (eT 0 100 (fun _ => 0)) := ⟨_, rfl⟩
  rw [← eh416] at hh
  have hw := hw q415 hqq415 h416 eh416
  refine W.widen (k := 12) (n := 668) (Nat.le_of_ble_eq_true rfl) (Nat.le_of_ble_eq_true rfl) ?_
  obtain ⟨fs417, hr418, hk419, hw⟩ := hw
  refine h_putF C0 hh hS (v := .ref q415) hr418 hk419 rfl i_Mod t_Mod t_Mod_ok n_Mod (by decide) k_f_Mod_44 (fun _ h9 => h9) rfl hnm rfl rfl rfl rfl d_Mod_init_96 (fun H locs hh hS => ?_)
  obtain ⟨h420, eh420⟩ : ∃ z : hM, z = h_up h416 x0 (eO 6 (fs417.set 14 (.ref q415))) := ⟨_, rfl⟩
  rw [← eh420] at hh
  have hw := hw h420 eh420
  refine lv_aload_n hx hb d_Mod_init_99 rfl (lv_at hl 0 rfl) ?_
  refine lv_sipush (v := 400) hx hb d_Mod_init_100 (by decide) ?_
  refine h_newa C0 hh hS (t := 0) (y := (eT 0 400 (fun _ => 0))) (ty := .int) rfl rfl rfl (fun _ => rfl) (by decide) rfl (Nat.le_of_ble_eq_true rfl) k_arr_int (Nat.le_of_ble_eq_true rfl) (Nat.le_of_ble_eq_true rfl) d_Mod_init_103 (fun q421 H hqq421 hzq421 hh hS => ?_)
  obtain ⟨h422, eh422⟩ : ∃ z : hM, z = h_up h420 q421 (eT 0 400 (fun _ => 0)) := ⟨_, rfl⟩
  rw [← eh422] at hh
  have hw := hw q421 hqq421 h422 eh422
  refine W.widen (k := 13) (n := 1068) (Nat.le_of_ble_eq_true rfl) (Nat.le_of_ble_eq_true rfl) ?_
  obtain ⟨fs423, hr424, hk425, hw⟩ := hw
  refine h_putF C0 hh hS (v := .ref q421) hr424 hk425 rfl i_Mod t_Mod t_Mod_ok n_Mod (by decide) k_f_Mod_47 (fun _ h9 => h9) rfl hnm rfl rfl rfl rfl d_Mod_init_105 (fun H locs hh hS => ?_)
  obtain ⟨h426, eh426⟩ : ∃ z : hM, z = h_up h422 x0 (eO 6 (fs423.set 15 (.ref q421))) := ⟨_, rfl⟩
  rw [← eh426] at hh
  have hw := hw h426 eh426
  refine lv_aload_n hx hb d_Mod_init_108 rfl (lv_at hl 0 rfl) ?_
  refine lv_bipush (v := 100) hx hb d_Mod_init_109 (by decide) ?_
  refine h_newa C0 hh hS (t := 3) (y := (eT 3 100 (fun _ => 0))) (ty := .boolean) rfl rfl rfl (fun _ => rfl) (by decide) rfl (Nat.le_of_ble_eq_true rfl) k_arr_boolean (Nat.le_of_ble_eq_true rfl) (Nat.le_of_ble_eq_true rfl) d_Mod_init_111 (fun q427 H hqq427 hzq427 hh hS => ?_)
  obtain ⟨h428, eh428⟩ : ∃ z : hM, z = h_up h426 q427 (eT 3 100 (fun _ => 0)) := ⟨_, rfl⟩
  rw [← eh428] at hh
  have hw := hw q427 hqq427 h428 eh428
  refine W.widen (k := 14) (n := 1168) (Nat.le_of_ble_eq_true rfl) (Nat.le_of_ble_eq_true rfl) ?_
  obtain ⟨fs429, hr430, hk431, hw⟩ := hw
  refine h_putF C0 hh hS (v := .ref q427) hr430 hk431 rfl i_Mod t_Mod t_Mod_ok n_Mod (by decide) k_f_Mod_50 (fun _ h9 => h9) rfl hnm rfl rfl rfl rfl d_Mod_init_113 (fun H locs hh hS => ?_)
  obtain ⟨h432, eh432⟩ : ∃ z : hM, z = h_up h428 x0 (eO 6 (fs429.set 16 (.ref q427))) := ⟨_, rfl⟩
  rw [← eh432] at hh
  have hw := hw h432 eh432
  refine lv_aload_n hx hb d_Mod_init_116 rfl (lv_at hl 0 rfl) ?_
  refine lv_bipush (v := 100) hx hb d_Mod_init_117 (by decide) ?_
  refine h_newa C0 hh hS (t := 3) (y := (eT 3 100 (fun _ => 0))) (ty := .boolean) rfl rfl rfl (fun _ => rfl) (by decide) rfl (Nat.le_of_ble_eq_true rfl) k_arr_boolean (Nat.le_of_ble_eq_true rfl) (Nat.le_of_ble_eq_true rfl) d_Mod_init_119 (fun q433 H hqq433 hzq433 hh hS => ?_)
  obtain ⟨h434, eh434⟩ : ∃ z : hM, z = h_up h432 q433 (eT 3 100 (fun _ => 0)) := ⟨_, rfl⟩
  rw [← eh434] at hh
  have hw := hw q433 hqq433 h434 eh434
  refine W.widen (k := 15) (n := 1268) (Nat.le_of_ble_eq_true rfl) (Nat.le_of_ble_eq_true rfl) ?_
  obtain ⟨fs435, hr436, hk437, hw⟩ := hw
  refine h_putF C0 hh hS (v := .ref q433) hr436 hk437 rfl i_Mod t_Mod t_Mod_ok n_Mod (by decide) k_f_Mod_53 (fun _ h9 => h9) rfl hnm rfl rfl rfl rfl d_Mod_init_121 (fun H locs hh hS => ?_)
  obtain ⟨h438, eh438⟩ : ∃ z : hM, z = h_up h434 x0 (eO 6 (fs435.set 17 (.ref q433))) := ⟨_, rfl⟩
  rw [← eh438] at hh
  have hw := hw h438 eh438
  refine lv_aload_n hx hb d_Mod_init_124 rfl (lv_at hl 0 rfl) ?_
  refine lv_sipush (v := 10000) hx hb d_Mod_init_125 (by decide) ?_
  refine h_newa C0 hh hS (t := 3) (y := (eT 3 10000 (fun _ => 0))) (ty := .boolean) rfl rfl rfl (fun _ => rfl) (by decide) rfl (Nat.le_of_ble_eq_true rfl) k_arr_boolean (Nat.le_of_ble_eq_true rfl) (Nat.le_of_ble_eq_true rfl) d_Mod_init_128 (fun q439 H hqq439 hzq439 hh hS => ?_)
  obtain ⟨h440, eh440⟩ : ∃ z : hM, z = h_up h438 q439 (eT 3 10000 (fun _ => 0)) := ⟨_, rfl⟩
  rw [← eh440] at hh
  have hw := hw q439 hqq439 h440 eh440
  refine W.widen (k := 16) (n := 11268) (Nat.le_of_ble_eq_true rfl) (Nat.le_of_ble_eq_true rfl) ?_
  obtain ⟨fs441, hr442, hk443, hw⟩ := hw
  refine h_putF C0 hh hS (v := .ref q439) hr442 hk443 rfl i_Mod t_Mod t_Mod_ok n_Mod (by decide) k_f_Mod_56 (fun _ h9 => h9) rfl hnm rfl rfl rfl rfl d_Mod_init_130 (fun H locs hh hS => ?_)
  obtain ⟨h444, eh444⟩ : ∃ z : hM, z = h_up h440 x0 (eO 6 (fs441.set 18 (.ref q439))) := ⟨_, rfl⟩
  rw [← eh444] at hh
  have hw := hw h444 eh444
  refine lv_aload_n hx hb d_Mod_init_133 rfl (lv_at hl 0 rfl) ?_
  refine lv_bipush (v := 100) hx hb d_Mod_init_134 (by decide) ?_
  refine h_newa C0 hh hS (t := 3) (y := (eT 3 100 (fun _ => 0))) (ty := .boolean) rfl rfl rfl (fun _ => rfl) (by decide) rfl (Nat.le_of_ble_eq_true rfl) k_arr_boolean (Nat.le_of_ble_eq_true rfl) (Nat.le_of_ble_eq_true rfl) d_Mod_init_136 (fun q445 H hqq445 hzq445 hh hS => ?_)
  obtain ⟨h446, eh446⟩ : ∃ z : hM, z = h_up h444 q445 (eT 3 100 (fun _ => 0)) := ⟨_, rfl⟩
  rw [← eh446] at hh
  have hw := hw q445 hqq445 h446 eh446
  refine W.widen (k := 17) (n := 11368) (Nat.le_of_ble_eq_true rfl) (Nat.le_of_ble_eq_true rfl) ?_
  obtain ⟨fs447, hr448, hk449, hw⟩ := hw
  refine h_putF C0 hh hS (v := .ref q445) hr448 hk449 rfl i_Mod t_Mod t_Mod_ok n_Mod (by decide) k_f_Mod_59 (fun _ h9 => h9) rfl hnm rfl rfl rfl rfl d_Mod_init_138 (fun H locs hh hS => ?_)
  obtain ⟨h450, eh450⟩ : ∃ z : hM, z = h_up h446 x0 (eO 6 (fs447.set 19 (.ref q445))) := ⟨_, rfl⟩
  rw [← eh450] at hh
  have hw := hw h450 eh450
  refine lv_aload_n hx hb d_Mod_init_141 rfl (lv_at hl 0 rfl) ?_
  refine lv_bipush (v := 100) hx hb d_Mod_init_142 (by decide) ?_
  refine h_newa C0 hh hS (t := 1) (y := (eJ 1 100 (fun _ => 0))) (ty := .long) rfl rfl rfl (fun _ => rfl) (by decide) rfl (Nat.le_of_ble_eq_true rfl) k_arr_long (Nat.le_of_ble_eq_true rfl) (Nat.le_of_ble_eq_true rfl) d_Mod_init_144 (fun q451 H hqq451 hzq451 hh hS => ?_)
  obtain ⟨h452, eh452⟩ : ∃ z : hM, z = h_up h450 q451 (eJ 1 100 (fun _ => 0)) := ⟨_, rfl⟩
  rw [← eh452] at hh
  have hw := hw q451 hqq451 h452 eh452
  refine W.widen (k := 18) (n := 11468) (Nat.le_of_ble_eq_true rfl) (Nat.le_of_ble_eq_true rfl) ?_
  obtain ⟨fs453, hr454, hk455, hw⟩ := hw
  refine h_putF C0 hh hS (v := .ref q451) hr454 hk455 rfl i_Mod t_Mod t_Mod_ok n_Mod (by decide) k_f_Mod_62 (fun _ h9 => h9) rfl hnm rfl rfl rfl rfl d_Mod_init_146 (fun H locs hh hS => ?_)
  obtain ⟨h456, eh456⟩ : ∃ z : hM, z = h_up h452 x0 (eO 6 (fs453.set 20 (.ref q451))) := ⟨_, rfl⟩
  rw [← eh456] at hh
  have hw := hw h456 eh456
  refine lv_aload_n hx hb d_Mod_init_149 rfl (lv_at hl 0 rfl) ?_
  refine lv_bipush (v := 100) hx hb d_Mod_init_150 (by decide) ?_
  refine h_newa C0 hh hS (t := 1) (y := (eJ 1 100 (fun _ => 0))) (ty := .long) rfl rfl rfl (fun _ => rfl) (by decide) rfl (Nat.le_of_ble_eq_true rfl) k_arr_long (Nat.le_of_ble_eq_true rfl) (Nat.le_of_ble_eq_true rfl) d_Mod_init_152 (fun q457 H hqq457 hzq457 hh hS => ?_)
  obtain ⟨h458, eh458⟩ : ∃ z : hM, z = h_up h456 q457 (eJ 1 100 (fun _ => 0)) := ⟨_, rfl⟩
  rw [← eh458] at hh
  have hw := hw q457 hqq457 h458 eh458
  refine W.widen (k := 19) (n := 11568) (Nat.le_of_ble_eq_true rfl) (Nat.le_of_ble_eq_true rfl) ?_
  obtain ⟨fs459, hr460, hk461, hw⟩ := hw
  refine h_putF C0 hh hS (v := .ref q457) hr460 hk461 rfl i_Mod t_Mod t_Mod_ok n_Mod (by decide) k_f_Mod_66 (fun _ h9 => h9) rfl hnm rfl rfl rfl rfl d_Mod_init_154 (fun H locs hh hS => ?_)
  obtain ⟨h462, eh462⟩ : ∃ z : hM, z = h_up h458 x0 (eO 6 (fs459.set 21 (.ref q457))) := ⟨_, rfl⟩
  rw [← eh462] at hh
  have hw := hw h462 eh462
  refine lv_iconst (v := 0) hx hb d_Mod_init_157 (by decide) ?_
  refine lv_istore_n (lv' := [(1, .int (0 : Int32)), (0, .ref x0)]) hx hb d_Mod_init_158 rfl hl (by decide) rfl (fun ls hl => ?_)
  obtain ⟨n0, hw⟩ := hw
  exact S_Mod_init_159 C0 hnm n0 _ _ _ _ _ _ hw hh hS (lv_sub hl [1, 0] rfl)
set_option maxHeartbeats 4000000 in
set_option maxRecDepth 100000 in
theorem S_Mod_thrown {l : Launch} {κ : hX} (Q : Int32 → hM → Prop) (h : hM) (x0 : Nat) (hw : P_Mod_thrown Q h x0) : Met l y_Mod_thrown [Cond.code y_Mod_thrown b_Mod_thrown 1 (some .int)] rm_Mod_thrown (hPc κ w_cl w_tl w_tb [.ref x0] h) (hQ κ w_cl (qI Q)) 0 0 (h_A κ) := by
  refine h_enter w_TBm (by decide) (Nat.le_of_ble_eq_true rfl) ?_
  intro p e s m args below meth c C0 hnm hh hS ls hl
  obtain ⟨hx, hb, hml, hown, hts, hK, hF0, hrt, hlocks⟩ := id C0
  have hl : lv_has ls 1 [(0, .ref x0)] := hl
  refine lv_aload_n hx hb d_Mod_thrown_0 rfl (lv_at hl 0 rfl) ?_
  obtain ⟨fs5, i8, hr6, hk7, hw⟩ := hw
  refine h_get C0 hh hr6 hk7 rfl i_Mod (by decide) k_f_Mod_69 (fun _ h9 => h9) d_Mod_thrown_1 ?_
  exact h_iret C0 hh hS rfl rfl ⟨_, rfl, hw⟩ d_Mod_thrown_4
set_option maxHeartbeats 4000000 in
set_option maxRecDepth 100000 in
theorem S_Mod_isInitiator {l : Launch} {κ : hX} (Q : Int32 → hM → Prop) (h : hM) (x0 : Nat) (x1 : Int32) (hw : P_Mod_isInitiator Q h x0 x1) : Met l y_Mod_isInitiator [Cond.code y_Mod_isInitiator b_Mod_isInitiator 2 (some .boolean)] rm_Mod_isInitiator (hPc κ w_cl w_tl w_tb [.ref x0, .int x1] h) (hQ κ w_cl (qI Q)) 0 0 (h_A κ) := by
  refine h_enter w_TBm (by decide) (Nat.le_of_ble_eq_true rfl) ?_
  intro p e s m args below meth c C0 hnm hh hS ls hl
  obtain ⟨hx, hb, hml, hown, hts, hK, hF0, hrt, hlocks⟩ := id C0
  have hl : lv_has ls 2 [(0, .ref x0), (1, .int x1)] := hl
  refine lv_iload_n hx hb d_Mod_isInitiator_0 rfl (lv_at hl 1 rfl) ?_
  refine lv_iconst (v := 1) hx hb d_Mod_isInitiator_1 (by decide) ?_
  refine lv_icmp_lt (tgt := 17) hx hb d_Mod_isInitiator_2 (by decide) (fun c7 => ?_) (fun c7 => ?_)
  · have hw := hw.1 c7
    refine lv_iconst (v := 0) hx hb d_Mod_isInitiator_17 (by decide) ?_
    exact h_iret C0 hh hS rfl rfl ⟨_, rfl, hw⟩ d_Mod_isInitiator_18
  · have hw := hw.2 c7
    refine lv_iload_n hx hb d_Mod_isInitiator_5 rfl (lv_at hl 1 rfl) ?_
    refine lv_aload_n hx hb d_Mod_isInitiator_6 rfl (lv_at hl 0 rfl) ?_
    obtain ⟨fs8, i11, hr9, hk10, hw⟩ := hw
    refine h_get C0 hh hr9 hk10 rfl i_Mod (by decide) k_f_Mod_73 (fun _ h9 => h9) d_Mod_isInitiator_7 ?_
    refine lv_icmp_gt (tgt := 17) hx hb d_Mod_isInitiator_10 (by decide) (fun c12 => ?_) (fun c12 => ?_)
    · have hw := hw.1 c12
      refine lv_iconst (v := 0) hx hb d_Mod_isInitiator_17 (by decide) ?_
      exact h_iret C0 hh hS rfl rfl ⟨_, rfl, hw⟩ d_Mod_isInitiator_18
    · have hw := hw.2 c12
      refine lv_iconst (v := 1) hx hb d_Mod_isInitiator_13 (by decide) ?_
      refine lv_goto (tgt := 18) hx hb d_Mod_isInitiator_14 (by decide) ?_
      exact h_iret C0 hh hS rfl rfl ⟨_, rfl, hw⟩ d_Mod_isInitiator_18
set_option maxHeartbeats 4000000 in
set_option maxRecDepth 100000 in
theorem S_Mod_isJob {l : Launch} {κ : hX} (Q : Int32 → hM → Prop) (h : hM) (x0 : Nat) (x1 : Int32) (hw : P_Mod_isJob Q h x0 x1) : Met l y_Mod_isJob [Cond.code y_Mod_isJob b_Mod_isJob 2 (some .boolean)] rm_Mod_isJob (hPc κ w_cl w_tl w_tb [.ref x0, .int x1] h) (hQ κ w_cl (qI Q)) 0 0 (h_A κ) := by
  refine h_enter w_TBm (by decide) (Nat.le_of_ble_eq_true rfl) ?_
  intro p e s m args below meth c C0 hnm hh hS ls hl
  obtain ⟨hx, hb, hml, hown, hts, hK, hF0, hrt, hlocks⟩ := id C0
  have hl : lv_has ls 2 [(0, .ref x0), (1, .int x1)] := hl
  refine lv_iload_n hx hb d_Mod_isJob_0 rfl (lv_at hl 1 rfl) ?_
  refine lv_iconst (v := 1) hx hb d_Mod_isJob_1 (by decide) ?_
  refine lv_icmp_lt (tgt := 17) hx hb d_Mod_isJob_2 (by decide) (fun c7 => ?_) (fun c7 => ?_)
  · have hw := hw.1 c7
    refine lv_iconst (v := 0) hx hb d_Mod_isJob_17 (by decide) ?_
    exact h_iret C0 hh hS rfl rfl ⟨_, rfl, hw⟩ d_Mod_isJob_18
  · have hw := hw.2 c7
    refine lv_iload_n hx hb d_Mod_isJob_5 rfl (lv_at hl 1 rfl) ?_
    refine lv_aload_n hx hb d_Mod_isJob_6 rfl (lv_at hl 0 rfl) ?_
    obtain ⟨fs8, i11, hr9, hk10, hw⟩ := hw
    refine h_get C0 hh hr9 hk10 rfl i_Mod (by decide) k_f_Mod_76 (fun _ h9 => h9) d_Mod_isJob_7 ?_
    refine lv_icmp_gt (tgt := 17) hx hb d_Mod_isJob_10 (by decide) (fun c12 => ?_) (fun c12 => ?_)
    · have hw := hw.1 c12
      refine lv_iconst (v := 0) hx hb d_Mod_isJob_17 (by decide) ?_
      exact h_iret C0 hh hS rfl rfl ⟨_, rfl, hw⟩ d_Mod_isJob_18
    · have hw := hw.2 c12
      refine lv_iconst (v := 1) hx hb d_Mod_isJob_13 (by decide) ?_
      refine lv_goto (tgt := 18) hx hb d_Mod_isJob_14 (by decide) ?_
      exact h_iret C0 hh hS rfl rfl ⟨_, rfl, hw⟩ d_Mod_isJob_18
set_option maxHeartbeats 4000000 in
set_option maxRecDepth 100000 in
theorem S_Mod_isClass {l : Launch} {κ : hX} (Q : Int32 → hM → Prop) (h : hM) (x0 : Int32) (hw : P_Mod_isClass Q h x0) : Met l y_Mod_isClass [Cond.code y_Mod_isClass b_Mod_isClass 1 (some .boolean)] rm_Mod_isClass (hPc κ w_cl w_tl w_tb [.int x0] h) (hQ κ w_cl (qI Q)) 0 0 (h_A κ) := by
  refine h_enter w_TBm (by decide) (Nat.le_of_ble_eq_true rfl) ?_
  intro p e s m args below meth c C0 hnm hh hS ls hl
  obtain ⟨hx, hb, hml, hown, hts, hK, hF0, hrt, hlocks⟩ := id C0
  have hl : lv_has ls 1 [(0, .int x0)] := hl
  refine lv_iload_n hx hb d_Mod_isClass_0 rfl (lv_at hl 0 rfl) ?_
  refine lv_if_lt (tgt := 14) hx hb d_Mod_isClass_1 (by decide) (fun c3 => ?_) (fun c3 => ?_)
  · have hw := hw.1 c3
    refine lv_iconst (v := 0) hx hb d_Mod_isClass_14 (by decide) ?_
    exact h_iret C0 hh hS rfl rfl ⟨_, rfl, hw⟩ d_Mod_isClass_15
  · have hw := hw.2 c3
    refine lv_iload_n hx hb d_Mod_isClass_4 rfl (lv_at hl 0 rfl) ?_
    refine lv_bipush (v := 36) hx hb d_Mod_isClass_5 (by decide) ?_
    refine lv_icmp_ge (tgt := 14) hx hb d_Mod_isClass_7 (by decide) (fun c4 => ?_) (fun c4 => ?_)
    · have hw := hw.1 c4
      refine lv_iconst (v := 0) hx hb d_Mod_isClass_14 (by decide) ?_
      exact h_iret C0 hh hS rfl rfl ⟨_, rfl, hw⟩ d_Mod_isClass_15
    · have hw := hw.2 c4
      refine lv_iconst (v := 1) hx hb d_Mod_isClass_10 (by decide) ?_
      refine lv_goto (tgt := 15) hx hb d_Mod_isClass_11 (by decide) ?_
      exact h_iret C0 hh hS rfl rfl ⟨_, rfl, hw⟩ d_Mod_isClass_15
set_option maxHeartbeats 4000000 in
set_option maxRecDepth 100000 in
theorem S_Mod_initiator {l : Launch} {κ : hX} (Q : Int32 → hM → Prop) (h : hM) (x0 : Nat) (hw : P_Mod_initiator Q h x0) : Met l y_Mod_initiator [Cond.code y_Mod_initiator b_Mod_initiator 1 (some .int)] rm_Mod_initiator (hPc κ w_cl w_tl w_tb [.ref x0] h) (hQ κ w_cl (qI Q)) 0 0 (h_A κ) := by
  refine h_enter w_TBm (by decide) (Nat.le_of_ble_eq_true rfl) ?_
  intro p e s m args below meth c C0 hnm hh hS ls hl
  obtain ⟨hx, hb, hml, hown, hts, hK, hF0, hrt, hlocks⟩ := id C0
  have hl : lv_has ls 1 [(0, .ref x0)] := hl
  refine lv_aload_n hx hb d_Mod_initiator_0 rfl (lv_at hl 0 rfl) ?_
  refine lv_iconst (v := 0) hx hb d_Mod_initiator_1 (by decide) ?_
  obtain ⟨fs22, hr23, hk24, hw⟩ := hw
  refine h_put C0 hh hS (v := .int (0 : Int32)) hr23 hk24 rfl i_Mod t_Mod t_Mod_ok n_Mod (by decide) k_f_Mod_69 (fun _ h9 => h9) rfl rfl rfl rfl d_Mod_initiator_2 (fun H locs hh hS => ?_)
  obtain ⟨h25, eh25⟩ : ∃ z : hM, z = h_up h x0 (eO 6 (fs22.set 0 (.int (0 : Int32)))) := ⟨_, rfl⟩
  rw [← eh25] at hh
  have hw := hw h25 eh25
  refine lv_aload_n hx hb d_Mod_initiator_5 rfl (lv_at hl 0 rfl) ?_
  obtain ⟨fs26, i29, hr27, hk28, hw⟩ := hw
  refine h_get C0 hh hr27 hk28 rfl i_Mod (by decide) k_f_Mod_73 (fun _ h9 => h9) d_Mod_initiator_6 ?_
  refine lv_bipush (v := 12) hx hb d_Mod_initiator_9 (by decide) ?_
  refine lv_icmp_ne (tgt := 16) hx hb d_Mod_initiator_11 (by decide) (fun c30 => ?_) (fun c30 => ?_)
  · have hw := hw.1 c30
    refine lv_aload_n hx hb d_Mod_initiator_16 rfl (lv_at hl 0 rfl) ?_
    refine lv_dup hx hb d_Mod_initiator_17 rfl ?_
    obtain ⟨fs31, i34, hr32, hk33, hw⟩ := hw
    refine h_get C0 hh hr32 hk33 rfl i_Mod (by decide) k_f_Mod_73 (fun _ h9 => h9) d_Mod_initiator_18 ?_
    refine lv_iconst (v := 1) hx hb d_Mod_initiator_21 (by decide) ?_
    refine lv_iadd hx hb d_Mod_initiator_22 ?_
    obtain ⟨fs35, hr36, hk37, hw⟩ := hw
    refine h_put C0 hh hS (v := .int (i34 + (1 : Int32))) hr36 hk37 rfl i_Mod t_Mod t_Mod_ok n_Mod (by decide) k_f_Mod_73 (fun _ h9 => h9) rfl rfl rfl rfl d_Mod_initiator_23 (fun H locs hh hS => ?_)
    obtain ⟨h38, eh38⟩ : ∃ z : hM, z = h_up h25 x0 (eO 6 (fs35.set 5 (.int (i34 + (1 : Int32))))) := ⟨_, rfl⟩
    rw [← eh38] at hh
    have hw := hw h38 eh38
    refine lv_aload_n hx hb d_Mod_initiator_26 rfl (lv_at hl 0 rfl) ?_
    obtain ⟨fs39, i42, hr40, hk41, hw⟩ := hw
    refine h_get C0 hh hr40 hk41 rfl i_Mod (by decide) k_f_Mod_73 (fun _ h9 => h9) d_Mod_initiator_27 ?_
    exact h_iret C0 hh hS rfl rfl ⟨_, rfl, hw⟩ d_Mod_initiator_30
  · have hw := hw.2 c30
    refine lv_iconst (v := -1) hx hb d_Mod_initiator_14 (by decide) ?_
    exact h_iret C0 hh hS rfl rfl ⟨_, rfl, hw⟩ d_Mod_initiator_15
set_option maxHeartbeats 4000000 in
set_option maxRecDepth 100000 in
theorem S_Mod_cls_41 {p : Program} {l : Launch} {e : Env} {s : State} {m : MethodId} {args : Array Value} {below : List Frame} {meth : Method} {c : Code} {κ : hX} {Q : Int32 → hM → Prop} (C0 : Cw κ w_cl w_tl w_tb p s m args meth c b_Mod_cls 4 R_Mod (some .int)) : ∀ (h : hM) (x0 : Nat) (x1 : Int32) (x2 : Int32) (x3 : Int32) (H : Heap) (locs : List Loc) (ls : Array Slot), P_Mod_cls_41 Q h x0 x1 x2 x3 → hp κ w_cl h H → va_S (h_A κ) s.heap H locs → lv_has ls 4 [(0, .ref x0), (1, .int x1), (2, .int x2), (3, .int x3)] → W p l e rm_Mod_cls s m args below meth c H locs 0 0 (MQ below (hQ κ w_cl (qI Q)) args s 0 0 (h_A κ)) (F0 m 41 ls []) := by
  obtain ⟨hx, hb, hml, hown, hts, hK, hF0, hrt, hlocks⟩ := id C0
  intro h x0 x1 x2 x3 H locs ls hw hh hS hl
  refine lv_aload_n hx hb d_Mod_cls_41 rfl (lv_at hl 0 rfl) ?_
  obtain ⟨fs49, r52, hr50, hk51, hw⟩ := hw
  refine h_get C0 hh hr50 hk51 rfl i_Mod (by decide) k_f_Mod_7 (fun _ h9 => h9) d_Mod_cls_42 ?_
  refine lv_bipush (v := 8) hx hb d_Mod_cls_45 (by decide) ?_
  refine lv_iload_n hx hb d_Mod_cls_47 rfl (lv_at hl 1 rfl) ?_
  refine lv_imul hx hb d_Mod_cls_48 ?_
  refine lv_bipush (v := 8) hx hb d_Mod_cls_49 (by decide) ?_
  refine lv_isub hx hb d_Mod_cls_51 ?_
  refine lv_iload_n hx hb d_Mod_cls_52 rfl (lv_at hl 2 rfl) ?_
  refine lv_iadd hx hb d_Mod_cls_53 ?_
  refine lv_iload_n hx hb d_Mod_cls_54 rfl (lv_at hl 3 rfl) ?_
  obtain ⟨n53, f54, hr55, hi56, hw⟩ := hw
  refine h_iast C0 hh hS hr55 hi56 rfl d_Mod_cls_55 (fun H locs hh hS => ?_)
  obtain ⟨h57, eh57⟩ : ∃ z : hM, z = h_up h r52 (eT 0 n53 (upd f54 ((((8 : Int32) * x1) - (8 : Int32)) + x2).toNatClampNeg x3)) := ⟨_, rfl⟩
  rw [← eh57] at hh
  have hw := hw h57 eh57
  refine lv_iconst (v := 1) hx hb d_Mod_cls_56 (by decide) ?_
  exact h_iret C0 hh hS rfl rfl ⟨_, rfl, hw⟩ d_Mod_cls_57
set_option maxHeartbeats 4000000 in
set_option maxRecDepth 100000 in
theorem S_Mod_cls {l : Launch} {κ : hX} (Q : Int32 → hM → Prop) (h : hM) (x0 : Nat) (x1 : Int32) (x2 : Int32) (x3 : Int32) (hw : P_Mod_cls Q h x0 x1 x2 x3) : Met l y_Mod_cls [Cond.code y_Mod_cls b_Mod_cls 4 (some .int)] rm_Mod_cls (hPc κ w_cl w_tl w_tb [.ref x0, .int x1, .int x2, .int x3] h) (hQ κ w_cl (qI Q)) 0 0 (h_A κ) := by
  refine h_enter w_TBm (by decide) (Nat.le_of_ble_eq_true rfl) ?_
  intro p e s m args below meth c C0 hnm hh hS ls hl
  obtain ⟨hx, hb, hml, hown, hts, hK, hF0, hrt, hlocks⟩ := id C0
  have hl : lv_has ls 4 [(0, .ref x0), (1, .int x1), (2, .int x2), (3, .int x3)] := hl
  refine lv_aload_n hx hb d_Mod_cls_0 rfl (lv_at hl 0 rfl) ?_
  refine lv_iconst (v := 0) hx hb d_Mod_cls_1 (by decide) ?_
  obtain ⟨fs58, hr59, hk60, hw⟩ := hw
  refine h_put C0 hh hS (v := .int (0 : Int32)) hr59 hk60 rfl i_Mod t_Mod t_Mod_ok n_Mod (by decide) k_f_Mod_69 (fun _ h9 => h9) rfl rfl rfl rfl d_Mod_cls_2 (fun H locs hh hS => ?_)
  obtain ⟨h61, eh61⟩ : ∃ z : hM, z = h_up h x0 (eO 6 (fs58.set 0 (.int (0 : Int32)))) := ⟨_, rfl⟩
  rw [← eh61] at hh
  have hw := hw h61 eh61
  refine lv_aload_n hx hb d_Mod_cls_5 rfl (lv_at hl 0 rfl) ?_
  refine lv_iload_n hx hb d_Mod_cls_6 rfl (lv_at hl 1 rfl) ?_
  obtain ⟨fs62, hr63, hw⟩ := hw
  refine h_callV (n := 1) C0 w_TBm hh hS hl.1 [.int x1] [] (S_Mod_isInitiator _ _ _ _ hw) hr63 rfl k_m_Mod_79 k_inst_Mod_isInitiator k_sel_Mod_isInitiator k_ini_Mod k_code_Mod_isInitiator (by decide +kernel) rfl rfl (Nat.le_of_ble_eq_true rfl) ⟨(Nat.le_of_ble_eq_true rfl), (Nat.le_of_ble_eq_true rfl)⟩ ⟨(Nat.le_of_ble_eq_true rfl), (Nat.le_of_ble_eq_true rfl)⟩ d_Mod_cls_7 (h_kI (k := 0) (n := 0) (Nat.le_of_ble_eq_true rfl) (Nat.le_of_ble_eq_true rfl) (fun i65 h64 H locs hw hh hS => ?_))
  refine lv_if_ne (tgt := 16) hx hb d_Mod_cls_10 (by decide) (fun c66 => ?_) (fun c66 => ?_)
  · have hw := hw.1 c66
    refine lv_iload_n hx hb d_Mod_cls_16 rfl (lv_at hl 2 rfl) ?_
    refine lv_if_lt (tgt := 38) hx hb d_Mod_cls_17 (by decide) (fun c67 => ?_) (fun c67 => ?_)
    · have hw := hw.1 c67
      refine lv_bipush (v := -4) hx hb d_Mod_cls_38 (by decide) ?_
      exact h_iret C0 hh hS rfl rfl ⟨_, rfl, hw⟩ d_Mod_cls_40
    · have hw := hw.2 c67
      refine lv_iload_n hx hb d_Mod_cls_20 rfl (lv_at hl 2 rfl) ?_
      refine lv_bipush (v := 7) hx hb d_Mod_cls_21 (by decide) ?_
      refine lv_icmp_gt (tgt := 38) hx hb d_Mod_cls_23 (by decide) (fun c68 => ?_) (fun c68 => ?_)
      · have hw := hw.1 c68
        refine lv_bipush (v := -4) hx hb d_Mod_cls_38 (by decide) ?_
        exact h_iret C0 hh hS rfl rfl ⟨_, rfl, hw⟩ d_Mod_cls_40
      · have hw := hw.2 c68
        refine lv_iload_n hx hb d_Mod_cls_26 rfl (lv_at hl 3 rfl) ?_
        refine lv_iconst (v := -1) hx hb d_Mod_cls_27 (by decide) ?_
        refine lv_icmp_eq (tgt := 41) hx hb d_Mod_cls_28 (by decide) (fun c69 => ?_) (fun c69 => ?_)
        · have hw := hw.1 c69
          exact S_Mod_cls_41 C0 _ _ _ _ _ _ _ _ hw hh hS (lv_sub hl [0, 1, 2, 3] rfl)
        · have hw := hw.2 c69
          refine lv_iload_n hx hb d_Mod_cls_31 rfl (lv_at hl 3 rfl) ?_
          refine h_callS (n := 1) C0 w_TBm hh hS hl.1 [.int x3] [] (S_Mod_isClass _ _ _ hw) k_m_Mod_83 k_stat_Mod_isClass k_ini_Mod k_code_Mod_isClass (by decide +kernel) rfl rfl (Nat.le_of_ble_eq_true rfl) ⟨(Nat.le_of_ble_eq_true rfl), (Nat.le_of_ble_eq_true rfl)⟩ ⟨(Nat.le_of_ble_eq_true rfl), (Nat.le_of_ble_eq_true rfl)⟩ d_Mod_cls_32 (h_kI (k := 0) (n := 0) (Nat.le_of_ble_eq_true rfl) (Nat.le_of_ble_eq_true rfl) (fun i71 h70 H locs hw hh hS => ?_))
          refine lv_if_ne (tgt := 41) hx hb d_Mod_cls_35 (by decide) (fun c72 => ?_) (fun c72 => ?_)
          · have hw := hw.1 c72
            exact S_Mod_cls_41 C0 _ _ _ _ _ _ _ _ hw hh hS (lv_sub hl [0, 1, 2, 3] rfl)
          · have hw := hw.2 c72
            refine lv_bipush (v := -4) hx hb d_Mod_cls_38 (by decide) ?_
            exact h_iret C0 hh hS rfl rfl ⟨_, rfl, hw⟩ d_Mod_cls_40
  · have hw := hw.2 c66
    refine lv_bipush (v := -2) hx hb d_Mod_cls_13 (by decide) ?_
    exact h_iret C0 hh hS rfl rfl ⟨_, rfl, hw⟩ d_Mod_cls_15
set_option maxHeartbeats 4000000 in
set_option maxRecDepth 100000 in
theorem S_Mod_limit {l : Launch} {κ : hX} (Q : Int32 → hM → Prop) (h : hM) (x0 : Nat) (x1 : Int32) (x2 : Int32) (hw : P_Mod_limit Q h x0 x1 x2) : Met l y_Mod_limit [Cond.code y_Mod_limit b_Mod_limit 3 (some .int)] rm_Mod_limit (hPc κ w_cl w_tl w_tb [.ref x0, .int x1, .int x2] h) (hQ κ w_cl (qI Q)) 0 0 (h_A κ) := by
  refine h_enter w_TBm (by decide) (Nat.le_of_ble_eq_true rfl) ?_
  intro p e s m args below meth c C0 hnm hh hS ls hl
  obtain ⟨hx, hb, hml, hown, hts, hK, hF0, hrt, hlocks⟩ := id C0
  have hl : lv_has ls 3 [(0, .ref x0), (1, .int x1), (2, .int x2)] := hl
  refine lv_aload_n hx hb d_Mod_limit_0 rfl (lv_at hl 0 rfl) ?_
  refine lv_iconst (v := 0) hx hb d_Mod_limit_1 (by decide) ?_
  obtain ⟨fs19, hr20, hk21, hw⟩ := hw
  refine h_put C0 hh hS (v := .int (0 : Int32)) hr20 hk21 rfl i_Mod t_Mod t_Mod_ok n_Mod (by decide) k_f_Mod_69 (fun _ h9 => h9) rfl rfl rfl rfl d_Mod_limit_2 (fun H locs hh hS => ?_)
  obtain ⟨h22, eh22⟩ : ∃ z : hM, z = h_up h x0 (eO 6 (fs19.set 0 (.int (0 : Int32)))) := ⟨_, rfl⟩
  rw [← eh22] at hh
  have hw := hw h22 eh22
  refine lv_iload_n hx hb d_Mod_limit_5 rfl (lv_at hl 1 rfl) ?_
  refine h_callS (n := 1) C0 w_TBm hh hS hl.1 [.int x1] [] (S_Mod_isClass _ _ _ hw) k_m_Mod_83 k_stat_Mod_isClass k_ini_Mod k_code_Mod_isClass (by decide +kernel) rfl rfl (Nat.le_of_ble_eq_true rfl) ⟨(Nat.le_of_ble_eq_true rfl), (Nat.le_of_ble_eq_true rfl)⟩ ⟨(Nat.le_of_ble_eq_true rfl), (Nat.le_of_ble_eq_true rfl)⟩ d_Mod_limit_6 (h_kI (k := 0) (n := 0) (Nat.le_of_ble_eq_true rfl) (Nat.le_of_ble_eq_true rfl) (fun i24 h23 H locs hw hh hS => ?_))
  refine lv_if_eq (tgt := 22) hx hb d_Mod_limit_9 (by decide) (fun c25 => ?_) (fun c25 => ?_)
  · have hw := hw.1 c25
    refine lv_bipush (v := -4) hx hb d_Mod_limit_22 (by decide) ?_
    exact h_iret C0 hh hS rfl rfl ⟨_, rfl, hw⟩ d_Mod_limit_24
  · have hw := hw.2 c25
    refine lv_iload_n hx hb d_Mod_limit_12 rfl (lv_at hl 2 rfl) ?_
    refine lv_if_lt (tgt := 22) hx hb d_Mod_limit_13 (by decide) (fun c26 => ?_) (fun c26 => ?_)
    · have hw := hw.1 c26
      refine lv_bipush (v := -4) hx hb d_Mod_limit_22 (by decide) ?_
      exact h_iret C0 hh hS rfl rfl ⟨_, rfl, hw⟩ d_Mod_limit_24
    · have hw := hw.2 c26
      refine lv_iload_n hx hb d_Mod_limit_16 rfl (lv_at hl 2 rfl) ?_
      refine lv_bipush (v := 40) hx hb d_Mod_limit_17 (by decide) ?_
      refine lv_icmp_le (tgt := 25) hx hb d_Mod_limit_19 (by decide) (fun c27 => ?_) (fun c27 => ?_)
      · have hw := hw.1 c27
        refine lv_aload_n hx hb d_Mod_limit_25 rfl (lv_at hl 0 rfl) ?_
        obtain ⟨fs28, r31, hr29, hk30, hw⟩ := hw
        refine h_get C0 hh hr29 hk30 rfl i_Mod (by decide) k_f_Mod_20 (fun _ h9 => h9) d_Mod_limit_26 ?_
        refine lv_iload_n hx hb d_Mod_limit_29 rfl (lv_at hl 1 rfl) ?_
        refine lv_iload_n hx hb d_Mod_limit_30 rfl (lv_at hl 2 rfl) ?_
        obtain ⟨n32, f33, hr34, hi35, hw⟩ := hw
        refine h_iast C0 hh hS hr34 hi35 rfl d_Mod_limit_31 (fun H locs hh hS => ?_)
        obtain ⟨h36, eh36⟩ : ∃ z : hM, z = h_up h23 r31 (eT 0 n32 (upd f33 x1.toNatClampNeg x2)) := ⟨_, rfl⟩
        rw [← eh36] at hh
        have hw := hw h36 eh36
        refine lv_iconst (v := 1) hx hb d_Mod_limit_32 (by decide) ?_
        exact h_iret C0 hh hS rfl rfl ⟨_, rfl, hw⟩ d_Mod_limit_33
      · have hw := hw.2 c27
        refine lv_bipush (v := -4) hx hb d_Mod_limit_22 (by decide) ?_
        exact h_iret C0 hh hS rfl rfl ⟨_, rfl, hw⟩ d_Mod_limit_24
set_option maxHeartbeats 4000000 in
set_option maxRecDepth 100000 in
theorem S_Mod_isMinute {l : Launch} {κ : hX} (Q : Int32 → hM → Prop) (h : hM) (x0 : Int32) (hw : P_Mod_isMinute Q h x0) : Met l y_Mod_isMinute [Cond.code y_Mod_isMinute b_Mod_isMinute 1 (some .boolean)] rm_Mod_isMinute (hPc κ w_cl w_tl w_tb [.int x0] h) (hQ κ w_cl (qI Q)) 0 0 (h_A κ) := by
  refine h_enter w_TBm (by decide) (Nat.le_of_ble_eq_true rfl) ?_
  intro p e s m args below meth c C0 hnm hh hS ls hl
  obtain ⟨hx, hb, hml, hown, hts, hK, hF0, hrt, hlocks⟩ := id C0
  have hl : lv_has ls 1 [(0, .int x0)] := hl
  refine lv_iload_n hx hb d_Mod_isMinute_0 rfl (lv_at hl 0 rfl) ?_
  refine lv_if_lt (tgt := 15) hx hb d_Mod_isMinute_1 (by decide) (fun c3 => ?_) (fun c3 => ?_)
  · have hw := hw.1 c3
    refine lv_iconst (v := 0) hx hb d_Mod_isMinute_15 (by decide) ?_
    exact h_iret C0 hh hS rfl rfl ⟨_, rfl, hw⟩ d_Mod_isMinute_16
  · have hw := hw.2 c3
    refine lv_iload_n hx hb d_Mod_isMinute_4 rfl (lv_at hl 0 rfl) ?_
    refine lv_sipush (v := 1440) hx hb d_Mod_isMinute_5 (by decide) ?_
    refine lv_icmp_ge (tgt := 15) hx hb d_Mod_isMinute_8 (by decide) (fun c4 => ?_) (fun c4 => ?_)
    · have hw := hw.1 c4
      refine lv_iconst (v := 0) hx hb d_Mod_isMinute_15 (by decide) ?_
      exact h_iret C0 hh hS rfl rfl ⟨_, rfl, hw⟩ d_Mod_isMinute_16
    · have hw := hw.2 c4
      refine lv_iconst (v := 1) hx hb d_Mod_isMinute_11 (by decide) ?_
      refine lv_goto (tgt := 16) hx hb d_Mod_isMinute_12 (by decide) ?_
      exact h_iret C0 hh hS rfl rfl ⟨_, rfl, hw⟩ d_Mod_isMinute_16
set_option maxHeartbeats 4000000 in
set_option maxRecDepth 100000 in
theorem S_Mod_window {l : Launch} {κ : hX} (Q : Int32 → hM → Prop) (h : hM) (x0 : Nat) (x1 : Int32) (x2 : Int32) (x3 : Int32) (hw : P_Mod_window Q h x0 x1 x2 x3) : Met l y_Mod_window [Cond.code y_Mod_window b_Mod_window 4 (some .int)] rm_Mod_window (hPc κ w_cl w_tl w_tb [.ref x0, .int x1, .int x2, .int x3] h) (hQ κ w_cl (qI Q)) 0 0 (h_A κ) := by
  refine h_enter w_TBm (by decide) (Nat.le_of_ble_eq_true rfl) ?_
  intro p e s m args below meth c C0 hnm hh hS ls hl
  obtain ⟨hx, hb, hml, hown, hts, hK, hF0, hrt, hlocks⟩ := id C0
  have hl : lv_has ls 4 [(0, .ref x0), (1, .int x1), (2, .int x2), (3, .int x3)] := hl
  refine lv_aload_n hx hb d_Mod_window_0 rfl (lv_at hl 0 rfl) ?_
  refine lv_iconst (v := 0) hx hb d_Mod_window_1 (by decide) ?_
  obtain ⟨fs32, hr33, hk34, hw⟩ := hw
  refine h_put C0 hh hS (v := .int (0 : Int32)) hr33 hk34 rfl i_Mod t_Mod t_Mod_ok n_Mod (by decide) k_f_Mod_69 (fun _ h9 => h9) rfl rfl rfl rfl d_Mod_window_2 (fun H locs hh hS => ?_)
  obtain ⟨h35, eh35⟩ : ∃ z : hM, z = h_up h x0 (eO 6 (fs32.set 0 (.int (0 : Int32)))) := ⟨_, rfl⟩
  rw [← eh35] at hh
  have hw := hw h35 eh35
  refine lv_iload_n hx hb d_Mod_window_5 rfl (lv_at hl 1 rfl) ?_
  refine h_callS (n := 1) C0 w_TBm hh hS hl.1 [.int x1] [] (S_Mod_isClass _ _ _ hw) k_m_Mod_83 k_stat_Mod_isClass k_ini_Mod k_code_Mod_isClass (by decide +kernel) rfl rfl (Nat.le_of_ble_eq_true rfl) ⟨(Nat.le_of_ble_eq_true rfl), (Nat.le_of_ble_eq_true rfl)⟩ ⟨(Nat.le_of_ble_eq_true rfl), (Nat.le_of_ble_eq_true rfl)⟩ d_Mod_window_6 (h_kI (k := 0) (n := 0) (Nat.le_of_ble_eq_true rfl) (Nat.le_of_ble_eq_true rfl) (fun i37 h36 H locs hw hh hS => ?_))
  refine lv_if_eq (tgt := 26) hx hb d_Mod_window_9 (by decide) (fun c38 => ?_) (fun c38 => ?_)
  · have hw := hw.1 c38
    refine lv_bipush (v := -4) hx hb d_Mod_window_26 (by decide) ?_
    exact h_iret C0 hh hS rfl rfl ⟨_, rfl, hw⟩ d_Mod_window_28
  · have hw := hw.2 c38
    refine lv_iload_n hx hb d_Mod_window_12 rfl (lv_at hl 2 rfl) ?_
    refine h_callS (n := 1) C0 w_TBm hh hS hl.1 [.int x2] [] (S_Mod_isMinute _ _ _ hw) k_m_Mod_86 k_stat_Mod_isMinute k_ini_Mod k_code_Mod_isMinute (by decide +kernel) rfl rfl (Nat.le_of_ble_eq_true rfl) ⟨(Nat.le_of_ble_eq_true rfl), (Nat.le_of_ble_eq_true rfl)⟩ ⟨(Nat.le_of_ble_eq_true rfl), (Nat.le_of_ble_eq_true rfl)⟩ d_Mod_window_13 (h_kI (k := 0) (n := 0) (Nat.le_of_ble_eq_true rfl) (Nat.le_of_ble_eq_true rfl) (fun i40 h39 H locs hw hh hS => ?_))
    refine lv_if_eq (tgt := 26) hx hb d_Mod_window_16 (by decide) (fun c41 => ?_) (fun c41 => ?_)
    · have hw := hw.1 c41
      refine lv_bipush (v := -4) hx hb d_Mod_window_26 (by decide) ?_
      exact h_iret C0 hh hS rfl rfl ⟨_, rfl, hw⟩ d_Mod_window_28
    · have hw := hw.2 c41
      refine lv_iload_n hx hb d_Mod_window_19 rfl (lv_at hl 3 rfl) ?_
      refine h_callS (n := 1) C0 w_TBm hh hS hl.1 [.int x3] [] (S_Mod_isMinute _ _ _ hw) k_m_Mod_86 k_stat_Mod_isMinute k_ini_Mod k_code_Mod_isMinute (by decide +kernel) rfl rfl (Nat.le_of_ble_eq_true rfl) ⟨(Nat.le_of_ble_eq_true rfl), (Nat.le_of_ble_eq_true rfl)⟩ ⟨(Nat.le_of_ble_eq_true rfl), (Nat.le_of_ble_eq_true rfl)⟩ d_Mod_window_20 (h_kI (k := 0) (n := 0) (Nat.le_of_ble_eq_true rfl) (Nat.le_of_ble_eq_true rfl) (fun i43 h42 H locs hw hh hS => ?_))
      refine lv_if_ne (tgt := 29) hx hb d_Mod_window_23 (by decide) (fun c44 => ?_) (fun c44 => ?_)
      · have hw := hw.1 c44
        refine lv_aload_n hx hb d_Mod_window_29 rfl (lv_at hl 0 rfl) ?_
        obtain ⟨fs45, r48, hr46, hk47, hw⟩ := hw
        refine h_get C0 hh hr46 hk47 rfl i_Mod (by decide) k_f_Mod_23 (fun _ h9 => h9) d_Mod_window_30 ?_
        refine lv_iload_n hx hb d_Mod_window_33 rfl (lv_at hl 1 rfl) ?_
        refine lv_iload_n hx hb d_Mod_window_34 rfl (lv_at hl 2 rfl) ?_
        obtain ⟨n49, f50, hr51, hi52, hw⟩ := hw
        refine h_iast C0 hh hS hr51 hi52 rfl d_Mod_window_35 (fun H locs hh hS => ?_)
        obtain ⟨h53, eh53⟩ : ∃ z : hM, z = h_up h42 r48 (eT 0 n49 (upd f50 x1.toNatClampNeg x2)) := ⟨_, rfl⟩
        rw [← eh53] at hh
        have hw := hw h53 eh53
        refine lv_aload_n hx hb d_Mod_window_36 rfl (lv_at hl 0 rfl) ?_
        obtain ⟨fs54, r57, hr55, hk56, hw⟩ := hw
        refine h_get C0 hh hr55 hk56 rfl i_Mod (by decide) k_f_Mod_26 (fun _ h9 => h9) d_Mod_window_37 ?_
        refine lv_iload_n hx hb d_Mod_window_40 rfl (lv_at hl 1 rfl) ?_
        refine lv_iload_n hx hb d_Mod_window_41 rfl (lv_at hl 3 rfl) ?_
        obtain ⟨n58, f59, hr60, hi61, hw⟩ := hw
        refine h_iast C0 hh hS hr60 hi61 rfl d_Mod_window_42 (fun H locs hh hS => ?_)
        obtain ⟨h62, eh62⟩ : ∃ z : hM, z = h_up h53 r57 (eT 0 n58 (upd f59 x1.toNatClampNeg x3)) := ⟨_, rfl⟩
        rw [← eh62] at hh
        have hw := hw h62 eh62
        refine lv_iconst (v := 1) hx hb d_Mod_window_43 (by decide) ?_
        exact h_iret C0 hh hS rfl rfl ⟨_, rfl, hw⟩ d_Mod_window_44
      · have hw := hw.2 c44
        refine lv_bipush (v := -4) hx hb d_Mod_window_26 (by decide) ?_
        exact h_iret C0 hh hS rfl rfl ⟨_, rfl, hw⟩ d_Mod_window_28
set_option maxHeartbeats 4000000 in
set_option maxRecDepth 100000 in
theorem S_Mod_job {l : Launch} {κ : hX} (Q : Int32 → hM → Prop) (h : hM) (x0 : Nat) (x1 : Int32) (x2 : Int32) (x3 : Int32) (x4 : Int64) (hw : P_Mod_job Q h x0 x1 x2 x3 x4) : Met l y_Mod_job [Cond.code y_Mod_job b_Mod_job 6 (some .int)] rm_Mod_job (hPc κ w_cl w_tl w_tb [.ref x0, .int x1, .int x2, .int x3, .long x4] h) (hQ κ w_cl (qI Q)) 0 0 (h_A κ) := by
  refine h_enter w_TBm (by decide) (Nat.le_of_ble_eq_true rfl) ?_
  intro p e s m args below meth c C0 hnm hh hS ls hl
  obtain ⟨hx, hb, hml, hown, hts, hK, hF0, hrt, hlocks⟩ := id C0
  have hl : lv_has ls 6 [(0, .ref x0), (1, .int x1), (2, .int x2), (3, .int x3), (4, .long x4)] := hl
  refine lv_aload_n hx hb d_Mod_job_0 rfl (lv_at hl 0 rfl) ?_
  refine lv_iconst (v := 0) hx hb d_Mod_job_1 (by decide) ?_
  obtain ⟨fs90, hr91, hk92, hw⟩ := hw
  refine h_put C0 hh hS (v := .int (0 : Int32)) hr91 hk92 rfl i_Mod t_Mod t_Mod_ok n_Mod (by decide) k_f_Mod_69 (fun _ h9 => h9) rfl rfl rfl rfl d_Mod_job_2 (fun H locs hh hS => ?_)
  obtain ⟨h93, eh93⟩ : ∃ z : hM, z = h_up h x0 (eO 6 (fs90.set 0 (.int (0 : Int32)))) := ⟨_, rfl⟩
  rw [← eh93] at hh
  have hw := hw h93 eh93
  refine lv_iload_n hx hb d_Mod_job_5 rfl (lv_at hl 1 rfl) ?_
  refine h_callS (n := 1) C0 w_TBm hh hS hl.1 [.int x1] [] (S_Mod_isClass _ _ _ hw) k_m_Mod_83 k_stat_Mod_isClass k_ini_Mod k_code_Mod_isClass (by decide +kernel) rfl rfl (Nat.le_of_ble_eq_true rfl) ⟨(Nat.le_of_ble_eq_true rfl), (Nat.le_of_ble_eq_true rfl)⟩ ⟨(Nat.le_of_ble_eq_true rfl), (Nat.le_of_ble_eq_true rfl)⟩ d_Mod_job_6 (h_kI (k := 0) (n := 0) (Nat.le_of_ble_eq_true rfl) (Nat.le_of_ble_eq_true rfl) (fun i95 h94 H locs hw hh hS => ?_))
  refine lv_if_eq (tgt := 42) hx hb d_Mod_job_9 (by decide) (fun c96 => ?_) (fun c96 => ?_)
  · have hw := hw.1 c96
    refine lv_bipush (v := -4) hx hb d_Mod_job_42 (by decide) ?_
    exact h_iret C0 hh hS rfl rfl ⟨_, rfl, hw⟩ d_Mod_job_44
  · have hw := hw.2 c96
    refine lv_iload_n hx hb d_Mod_job_12 rfl (lv_at hl 2 rfl) ?_
    refine lv_if_lt (tgt := 42) hx hb d_Mod_job_13 (by decide) (fun c97 => ?_) (fun c97 => ?_)
    · have hw := hw.1 c97
      refine lv_bipush (v := -4) hx hb d_Mod_job_42 (by decide) ?_
      exact h_iret C0 hh hS rfl rfl ⟨_, rfl, hw⟩ d_Mod_job_44
    · have hw := hw.2 c97
      refine lv_iload_n hx hb d_Mod_job_16 rfl (lv_at hl 2 rfl) ?_
      refine lv_bipush (v := 15) hx hb d_Mod_job_17 (by decide) ?_
      refine lv_icmp_gt (tgt := 42) hx hb d_Mod_job_19 (by decide) (fun c98 => ?_) (fun c98 => ?_)
      · have hw := hw.1 c98
        refine lv_bipush (v := -4) hx hb d_Mod_job_42 (by decide) ?_
        exact h_iret C0 hh hS rfl rfl ⟨_, rfl, hw⟩ d_Mod_job_44
      · have hw := hw.2 c98
        refine lv_iload_n hx hb d_Mod_job_22 rfl (lv_at hl 3 rfl) ?_
        refine lv_if_lt (tgt := 42) hx hb d_Mod_job_23 (by decide) (fun c99 => ?_) (fun c99 => ?_)
        · have hw := hw.1 c99
          refine lv_bipush (v := -4) hx hb d_Mod_job_42 (by decide) ?_
          exact h_iret C0 hh hS rfl rfl ⟨_, rfl, hw⟩ d_Mod_job_44
        · have hw := hw.2 c99
          refine lv_iload_n hx hb d_Mod_job_26 rfl (lv_at hl 3 rfl) ?_
          refine lv_bipush (v := 99) hx hb d_Mod_job_27 (by decide) ?_
          refine lv_icmp_gt (tgt := 42) hx hb d_Mod_job_29 (by decide) (fun c100 => ?_) (fun c100 => ?_)
          · have hw := hw.1 c100
            refine lv_bipush (v := -4) hx hb d_Mod_job_42 (by decide) ?_
            exact h_iret C0 hh hS rfl rfl ⟨_, rfl, hw⟩ d_Mod_job_44
          · have hw := hw.2 c100
            refine lv_lload hx hb d_Mod_job_32 (lv_at hl 4 rfl) ?_
            refine lv_aload_n hx hb d_Mod_job_34 rfl (lv_at hl 0 rfl) ?_
            obtain ⟨fs101, j104, hr102, hk103, hw⟩ := hw
            refine h_get C0 hh hr102 hk103 rfl i_Mod (by decide) k_f_Mod_89 (fun _ h9 => h9) d_Mod_job_35 ?_
            refine W.lcmp hx hb d_Mod_job_38 ?_
            refine lv_if_ge (tgt := 45) hx hb d_Mod_job_39 (by decide) (fun c105 => ?_) (fun c105 => ?_)
            · have hw := hw.1 ((lg_cmp_ge _ _).mp c105)
              refine lv_aload_n hx hb d_Mod_job_45 rfl (lv_at hl 0 rfl) ?_
              obtain ⟨fs106, i109, hr107, hk108, hw⟩ := hw
              refine h_get C0 hh hr107 hk108 rfl i_Mod (by decide) k_f_Mod_76 (fun _ h9 => h9) d_Mod_job_46 ?_
              refine lv_bipush (v := 100) hx hb d_Mod_job_49 (by decide) ?_
              refine lv_icmp_ne (tgt := 56) hx hb d_Mod_job_51 (by decide) (fun c110 => ?_) (fun c110 => ?_)
              · have hw := hw.1 c110
                refine lv_aload_n hx hb d_Mod_job_56 rfl (lv_at hl 0 rfl) ?_
                refine lv_lload hx hb d_Mod_job_57 (lv_at hl 4 rfl) ?_
                obtain ⟨fs111, hr112, hk113, hw⟩ := hw
                refine h_put C0 hh hS (v := .long x4) hr112 hk113 rfl i_Mod t_Mod t_Mod_ok n_Mod (by decide) k_f_Mod_89 (fun _ h9 => h9) rfl rfl rfl rfl d_Mod_job_59 (fun H locs hh hS => ?_)
                obtain ⟨h114, eh114⟩ : ∃ z : hM, z = h_up h94 x0 (eO 6 (fs111.set 1 (.long x4))) := ⟨_, rfl⟩
                rw [← eh114] at hh
                have hw := hw h114 eh114
                refine lv_aload_n hx hb d_Mod_job_62 rfl (lv_at hl 0 rfl) ?_
                obtain ⟨fs115, r118, hr116, hk117, hw⟩ := hw
                refine h_get C0 hh hr116 hk117 rfl i_Mod (by decide) k_f_Mod_35 (fun _ h9 => h9) d_Mod_job_63 ?_
                refine lv_aload_n hx hb d_Mod_job_66 rfl (lv_at hl 0 rfl) ?_
                obtain ⟨fs119, i122, hr120, hk121, hw⟩ := hw
                refine h_get C0 hh hr120 hk121 rfl i_Mod (by decide) k_f_Mod_76 (fun _ h9 => h9) d_Mod_job_67 ?_
                refine lv_iload_n hx hb d_Mod_job_70 rfl (lv_at hl 1 rfl) ?_
                obtain ⟨n123, f124, hr125, hi126, hw⟩ := hw
                refine h_iast C0 hh hS hr125 hi126 rfl d_Mod_job_71 (fun H locs hh hS => ?_)
                obtain ⟨h127, eh127⟩ : ∃ z : hM, z = h_up h114 r118 (eT 0 n123 (upd f124 i122.toNatClampNeg x1)) := ⟨_, rfl⟩
                rw [← eh127] at hh
                have hw := hw h127 eh127
                refine lv_aload_n hx hb d_Mod_job_72 rfl (lv_at hl 0 rfl) ?_
                obtain ⟨fs128, r131, hr129, hk130, hw⟩ := hw
                refine h_get C0 hh hr129 hk130 rfl i_Mod (by decide) k_f_Mod_38 (fun _ h9 => h9) d_Mod_job_73 ?_
                refine lv_aload_n hx hb d_Mod_job_76 rfl (lv_at hl 0 rfl) ?_
                obtain ⟨fs132, i135, hr133, hk134, hw⟩ := hw
                refine h_get C0 hh hr133 hk134 rfl i_Mod (by decide) k_f_Mod_76 (fun _ h9 => h9) d_Mod_job_77 ?_
                refine lv_iload_n hx hb d_Mod_job_80 rfl (lv_at hl 2 rfl) ?_
                obtain ⟨n136, f137, hr138, hi139, hw⟩ := hw
                refine h_iast C0 hh hS hr138 hi139 rfl d_Mod_job_81 (fun H locs hh hS => ?_)
                obtain ⟨h140, eh140⟩ : ∃ z : hM, z = h_up h127 r131 (eT 0 n136 (upd f137 i135.toNatClampNeg x2)) := ⟨_, rfl⟩
                rw [← eh140] at hh
                have hw := hw h140 eh140
                refine lv_aload_n hx hb d_Mod_job_82 rfl (lv_at hl 0 rfl) ?_
                obtain ⟨fs141, r144, hr142, hk143, hw⟩ := hw
                refine h_get C0 hh hr142 hk143 rfl i_Mod (by decide) k_f_Mod_41 (fun _ h9 => h9) d_Mod_job_83 ?_
                refine lv_aload_n hx hb d_Mod_job_86 rfl (lv_at hl 0 rfl) ?_
                obtain ⟨fs145, i148, hr146, hk147, hw⟩ := hw
                refine h_get C0 hh hr146 hk147 rfl i_Mod (by decide) k_f_Mod_76 (fun _ h9 => h9) d_Mod_job_87 ?_
                refine lv_iload_n hx hb d_Mod_job_90 rfl (lv_at hl 3 rfl) ?_
                obtain ⟨n149, f150, hr151, hi152, hw⟩ := hw
                refine h_iast C0 hh hS hr151 hi152 rfl d_Mod_job_91 (fun H locs hh hS => ?_)
                obtain ⟨h153, eh153⟩ : ∃ z : hM, z = h_up h140 r144 (eT 0 n149 (upd f150 i148.toNatClampNeg x3)) := ⟨_, rfl⟩
                rw [← eh153] at hh
                have hw := hw h153 eh153
                refine lv_aload_n hx hb d_Mod_job_92 rfl (lv_at hl 0 rfl) ?_
                obtain ⟨fs154, r157, hr155, hk156, hw⟩ := hw
                refine h_get C0 hh hr155 hk156 rfl i_Mod (by decide) k_f_Mod_62 (fun _ h9 => h9) d_Mod_job_93 ?_
                refine lv_aload_n hx hb d_Mod_job_96 rfl (lv_at hl 0 rfl) ?_
                obtain ⟨fs158, i161, hr159, hk160, hw⟩ := hw
                refine h_get C0 hh hr159 hk160 rfl i_Mod (by decide) k_f_Mod_76 (fun _ h9 => h9) d_Mod_job_97 ?_
                refine lv_lload hx hb d_Mod_job_100 (lv_at hl 4 rfl) ?_
                obtain ⟨n162, f163, hr164, hi165, hw⟩ := hw
                refine h_last C0 hh hS hr164 hi165 rfl d_Mod_job_102 (fun H locs hh hS => ?_)
                obtain ⟨h166, eh166⟩ : ∃ z : hM, z = h_up h153 r157 (eJ 1 n162 (vp_updL f163 i161.toNatClampNeg x4)) := ⟨_, rfl⟩
                rw [← eh166] at hh
                have hw := hw h166 eh166
                refine lv_aload_n hx hb d_Mod_job_103 rfl (lv_at hl 0 rfl) ?_
                refine lv_dup hx hb d_Mod_job_104 rfl ?_
                obtain ⟨fs167, i170, hr168, hk169, hw⟩ := hw
                refine h_get C0 hh hr168 hk169 rfl i_Mod (by decide) k_f_Mod_76 (fun _ h9 => h9) d_Mod_job_105 ?_
                refine lv_iconst (v := 1) hx hb d_Mod_job_108 (by decide) ?_
                refine lv_iadd hx hb d_Mod_job_109 ?_
                obtain ⟨fs171, hr172, hk173, hw⟩ := hw
                refine h_put C0 hh hS (v := .int (i170 + (1 : Int32))) hr172 hk173 rfl i_Mod t_Mod t_Mod_ok n_Mod (by decide) k_f_Mod_76 (fun _ h9 => h9) rfl rfl rfl rfl d_Mod_job_110 (fun H locs hh hS => ?_)
                obtain ⟨h174, eh174⟩ : ∃ z : hM, z = h_up h166 x0 (eO 6 (fs171.set 22 (.int (i170 + (1 : Int32))))) := ⟨_, rfl⟩
                rw [← eh174] at hh
                have hw := hw h174 eh174
                refine lv_aload_n hx hb d_Mod_job_113 rfl (lv_at hl 0 rfl) ?_
                obtain ⟨fs175, i178, hr176, hk177, hw⟩ := hw
                refine h_get C0 hh hr176 hk177 rfl i_Mod (by decide) k_f_Mod_76 (fun _ h9 => h9) d_Mod_job_114 ?_
                exact h_iret C0 hh hS rfl rfl ⟨_, rfl, hw⟩ d_Mod_job_117
              · have hw := hw.2 c110
                refine lv_iconst (v := -1) hx hb d_Mod_job_54 (by decide) ?_
                exact h_iret C0 hh hS rfl rfl ⟨_, rfl, hw⟩ d_Mod_job_55
            · have hw := hw.2 (fun z => c105 ((lg_cmp_ge _ _).mpr z))
              refine lv_bipush (v := -4) hx hb d_Mod_job_42 (by decide) ?_
              exact h_iret C0 hh hS rfl rfl ⟨_, rfl, hw⟩ d_Mod_job_44
