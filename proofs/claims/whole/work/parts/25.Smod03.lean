set_option maxHeartbeats 4000000 in
set_option maxRecDepth 100000 in
theorem S_Mod_mayStart_191 {p : Program} {l : Launch} {e : Env} {s : State} {m : MethodId} {args : Array Value} {below : List Frame} {meth : Method} {c : Code} {κ : hX} {Q : Int32 → hM → Prop} {K46 : hM → Nat → Int32 → Int32 → Int32 → Int32 → Int32 → Int32 → Prop} (C0 : Cw κ w_cl w_tl w_tb p s m args meth c b_Mod_mayStart 8 R_Mod (some .boolean)) (hK46 : ∀ (h : hM) (x0 : Nat) (x1 : Int32) (x2 : Int32) (x3 : Int32) (x4 : Int32) (x5 : Int32) (x6 : Int32) (H : Heap) (locs : List Loc) (ls : Array Slot), K46 h x0 x1 x2 x3 x4 x5 x6 → hp κ w_cl h H → va_S (h_A κ) s.heap H locs → lv_has ls 8 [(0, .ref x0), (1, .int x1), (2, .int x2), (3, .int x3), (4, .int x4), (5, .int x5), (6, .int x6)] → W p l e rm_Mod_mayStart s m args below meth c H locs 0 0 (MQ below (hQ κ w_cl (qI Q)) args s 0 0 (h_A κ)) (F0 m 46 ls [])) : ∀ (h : hM) (x0 : Nat) (x1 : Int32) (x2 : Int32) (x3 : Int32) (x4 : Int32) (x6 : Int32) (H : Heap) (locs : List Loc) (ls : Array Slot), P_Mod_mayStart_191 Q K46 h x0 x1 x2 x3 x4 x6 → hp κ w_cl h H → va_S (h_A κ) s.heap H locs → lv_has ls 8 [(0, .ref x0), (1, .int x1), (2, .int x2), (3, .int x3), (4, .int x4), (6, .int x6)] → W p l e rm_Mod_mayStart s m args below meth c H locs 0 0 (MQ below (hQ κ w_cl (qI Q)) args s 0 0 (h_A κ)) (F0 m 191 ls []) := by
  obtain ⟨hx, hb, hml, hown, hts, hK, hF0, hrt, hlocks⟩ := id C0
  intro h x0 x1 x2 x3 x4 x6 H locs ls hw hh hS hl
  refine lv_iconst (v := 1) hx hb d_Mod_mayStart_191 (by decide) ?_
  refine lv_goto (tgt := 196) hx hb d_Mod_mayStart_192 (by decide) ?_
  exact S_Mod_mayStart_196 C0 hK46 _ _ _ _ _ _ _ _ _ _ _ hw hh hS (lv_sub hl [0, 1, 2, 3, 4, 5] rfl)
set_option maxHeartbeats 4000000 in
set_option maxRecDepth 100000 in
theorem S_Mod_mayStart_195 {p : Program} {l : Launch} {e : Env} {s : State} {m : MethodId} {args : Array Value} {below : List Frame} {meth : Method} {c : Code} {κ : hX} {Q : Int32 → hM → Prop} {K46 : hM → Nat → Int32 → Int32 → Int32 → Int32 → Int32 → Int32 → Prop} (C0 : Cw κ w_cl w_tl w_tb p s m args meth c b_Mod_mayStart 8 R_Mod (some .boolean)) (hK46 : ∀ (h : hM) (x0 : Nat) (x1 : Int32) (x2 : Int32) (x3 : Int32) (x4 : Int32) (x5 : Int32) (x6 : Int32) (H : Heap) (locs : List Loc) (ls : Array Slot), K46 h x0 x1 x2 x3 x4 x5 x6 → hp κ w_cl h H → va_S (h_A κ) s.heap H locs → lv_has ls 8 [(0, .ref x0), (1, .int x1), (2, .int x2), (3, .int x3), (4, .int x4), (5, .int x5), (6, .int x6)] → W p l e rm_Mod_mayStart s m args below meth c H locs 0 0 (MQ below (hQ κ w_cl (qI Q)) args s 0 0 (h_A κ)) (F0 m 46 ls [])) : ∀ (h : hM) (x0 : Nat) (x1 : Int32) (x2 : Int32) (x3 : Int32) (x4 : Int32) (x6 : Int32) (H : Heap) (locs : List Loc) (ls : Array Slot), P_Mod_mayStart_195 Q K46 h x0 x1 x2 x3 x4 x6 → hp κ w_cl h H → va_S (h_A κ) s.heap H locs → lv_has ls 8 [(0, .ref x0), (1, .int x1), (2, .int x2), (3, .int x3), (4, .int x4), (6, .int x6)] → W p l e rm_Mod_mayStart s m args below meth c H locs 0 0 (MQ below (hQ κ w_cl (qI Q)) args s 0 0 (h_A κ)) (F0 m 195 ls []) := by
  obtain ⟨hx, hb, hml, hown, hts, hK, hF0, hrt, hlocks⟩ := id C0
  intro h x0 x1 x2 x3 x4 x6 H locs ls hw hh hS hl
  refine lv_iconst (v := 0) hx hb d_Mod_mayStart_195 (by decide) ?_
  exact S_Mod_mayStart_196 C0 hK46 _ _ _ _ _ _ _ _ _ _ _ hw hh hS (lv_sub hl [0, 1, 2, 3, 4, 5] rfl)
set_option maxHeartbeats 4000000 in
set_option maxRecDepth 100000 in
theorem S_Mod_mayStart_253 {p : Program} {l : Launch} {e : Env} {s : State} {m : MethodId} {args : Array Value} {below : List Frame} {meth : Method} {c : Code} {κ : hX} {Q : Int32 → hM → Prop} {K210 : hM → Nat → Int32 → Int32 → Int32 → Int32 → Int32 → Int32 → Int32 → Prop} (C0 : Cw κ w_cl w_tl w_tb p s m args meth c b_Mod_mayStart 8 R_Mod (some .boolean)) (hK210 : ∀ (h : hM) (x0 : Nat) (x1 : Int32) (x2 : Int32) (x3 : Int32) (x4 : Int32) (x5 : Int32) (x6 : Int32) (x7 : Int32) (H : Heap) (locs : List Loc) (ls : Array Slot), K210 h x0 x1 x2 x3 x4 x5 x6 x7 → hp κ w_cl h H → va_S (h_A κ) s.heap H locs → lv_has ls 8 [(0, .ref x0), (1, .int x1), (2, .int x2), (3, .int x3), (4, .int x4), (5, .int x5), (6, .int x6), (7, .int x7)] → W p l e rm_Mod_mayStart s m args below meth c H locs 0 0 (MQ below (hQ κ w_cl (qI Q)) args s 0 0 (h_A κ)) (F0 m 210 ls [])) : ∀ (h : hM) (x0 : Nat) (x1 : Int32) (x2 : Int32) (x3 : Int32) (x4 : Int32) (x5 : Int32) (x7 : Int32) (H : Heap) (locs : List Loc) (ls : Array Slot), P_Mod_mayStart_253 Q K210 h x0 x1 x2 x3 x4 x5 x7 → hp κ w_cl h H → va_S (h_A κ) s.heap H locs → lv_has ls 8 [(0, .ref x0), (1, .int x1), (2, .int x2), (3, .int x3), (4, .int x4), (5, .int x5), (7, .int x7)] → W p l e rm_Mod_mayStart s m args below meth c H locs 0 0 (MQ below (hQ κ w_cl (qI Q)) args s 0 0 (h_A κ)) (F0 m 253 ls []) := by
  obtain ⟨hx, hb, hml, hown, hts, hK, hF0, hrt, hlocks⟩ := id C0
  intro h x0 x1 x2 x3 x4 x5 x7 H locs ls hw hh hS hl
  refine lv_iconst (v := 0) hx hb d_Mod_mayStart_253 (by decide) ?_
  exact S_Mod_mayStart_254 C0 hK210 _ _ _ _ _ _ _ _ _ _ _ _ hw hh hS (lv_sub hl [0, 1, 2, 3, 4, 5, 6] rfl)
set_option maxHeartbeats 4000000 in
set_option maxRecDepth 100000 in
theorem S_Mod_mayStart_210 {p : Program} {l : Launch} {e : Env} {s : State} {m : MethodId} {args : Array Value} {below : List Frame} {meth : Method} {c : Code} {κ : hX} {Q : Int32 → hM → Prop} (C0 : Cw κ w_cl w_tl w_tb p s m args meth c b_Mod_mayStart 8 R_Mod (some .boolean)) : ∀ (n : Nat) (h : hM) (x0 : Nat) (x1 : Int32) (x2 : Int32) (x3 : Int32) (x4 : Int32) (x5 : Int32) (x6 : Int32) (x7 : Int32) (H : Heap) (locs : List Loc) (ls : Array Slot), L_Mod_mayStart_210 Q n h x0 x1 x2 x3 x4 x5 x6 x7 → hp κ w_cl h H → va_S (h_A κ) s.heap H locs → lv_has ls 8 [(0, .ref x0), (1, .int x1), (2, .int x2), (3, .int x3), (4, .int x4), (5, .int x5), (6, .int x6), (7, .int x7)] → W p l e rm_Mod_mayStart s m args below meth c H locs 0 0 (MQ below (hQ κ w_cl (qI Q)) args s 0 0 (h_A κ)) (F0 m 210 ls []) := by
  obtain ⟨hx, hb, hml, hown, hts, hK, hF0, hrt, hlocks⟩ := id C0
  intro n
  induction n with
  | zero =>
    intro h x0 x1 x2 x3 x4 x5 x6 x7 H locs ls hw
    exact hw.elim
  | succ n hK210 =>
    intro h x0 x1 x2 x3 x4 x5 x6 x7 H locs ls hw hh hS hl
    have hw : P_Mod_mayStart_210 Q (L_Mod_mayStart_210 Q n) h x0 x1 x2 x3 x4 x5 x6 x7 := hw
    refine lv_iload hx hb d_Mod_mayStart_210 (lv_at hl 7 rfl) ?_
    refine lv_iconst (v := 4) hx hb d_Mod_mayStart_212 (by decide) ?_
    refine lv_icmp_ge (tgt := 262) hx hb d_Mod_mayStart_213 (by decide) (fun c339 => ?_) (fun c339 => ?_)
    · have hw := hw.1 c339
      refine lv_iload_n hx hb d_Mod_mayStart_262 rfl (lv_at hl 3 rfl) ?_
      refine lv_if_eq (tgt := 309) hx hb d_Mod_mayStart_263 (by decide) (fun c340 => ?_) (fun c340 => ?_)
      · have hw := hw.1 c340
        refine lv_iconst (v := 0) hx hb d_Mod_mayStart_309 (by decide) ?_
        exact h_iret C0 hh hS rfl rfl ⟨_, rfl, hw⟩ d_Mod_mayStart_310
      · have hw := hw.2 c340
        refine lv_iload hx hb d_Mod_mayStart_266 (lv_at hl 5 rfl) ?_
        refine lv_if_ne (tgt := 309) hx hb d_Mod_mayStart_268 (by decide) (fun c341 => ?_) (fun c341 => ?_)
        · have hw := hw.1 c341
          refine lv_iconst (v := 0) hx hb d_Mod_mayStart_309 (by decide) ?_
          exact h_iret C0 hh hS rfl rfl ⟨_, rfl, hw⟩ d_Mod_mayStart_310
        · have hw := hw.2 c341
          refine lv_iload hx hb d_Mod_mayStart_271 (lv_at hl 6 rfl) ?_
          refine lv_if_eq (tgt := 309) hx hb d_Mod_mayStart_273 (by decide) (fun c342 => ?_) (fun c342 => ?_)
          · have hw := hw.1 c342
            refine lv_iconst (v := 0) hx hb d_Mod_mayStart_309 (by decide) ?_
            exact h_iret C0 hh hS rfl rfl ⟨_, rfl, hw⟩ d_Mod_mayStart_310
          · have hw := hw.2 c342
            refine lv_iload_n hx hb d_Mod_mayStart_276 rfl (lv_at hl 2 rfl) ?_
            refine lv_aload_n hx hb d_Mod_mayStart_277 rfl (lv_at hl 0 rfl) ?_
            obtain ⟨fs343, r346, hr344, hk345, hw⟩ := hw
            refine h_get C0 hh hr344 hk345 rfl i_Mod (by decide) k_f_Mod_20 (fun _ h9 => h9) d_Mod_mayStart_278 ?_
            refine lv_aload_n hx hb d_Mod_mayStart_281 rfl (lv_at hl 0 rfl) ?_
            obtain ⟨fs347, r350, hr348, hk349, hw⟩ := hw
            refine h_get C0 hh hr348 hk349 rfl i_Mod (by decide) k_f_Mod_35 (fun _ h9 => h9) d_Mod_mayStart_282 ?_
            refine lv_iload_n hx hb d_Mod_mayStart_285 rfl (lv_at hl 1 rfl) ?_
            obtain ⟨n351, f352, hr353, hi354, hw⟩ := hw
            refine h_iald C0 hh hr353 hi354 rfl d_Mod_mayStart_286 ?_
            obtain ⟨n355, f356, hr357, hi358, hw⟩ := hw
            refine h_iald C0 hh hr357 hi358 rfl d_Mod_mayStart_287 ?_
            refine lv_icmp_ge (tgt := 309) hx hb d_Mod_mayStart_288 (by decide) (fun c359 => ?_) (fun c359 => ?_)
            · have hw := hw.1 c359
              refine lv_iconst (v := 0) hx hb d_Mod_mayStart_309 (by decide) ?_
              exact h_iret C0 hh hS rfl rfl ⟨_, rfl, hw⟩ d_Mod_mayStart_310
            · have hw := hw.2 c359
              refine lv_aload_n hx hb d_Mod_mayStart_291 rfl (lv_at hl 0 rfl) ?_
              obtain ⟨fs360, r363, hr361, hk362, hw⟩ := hw
              refine h_get C0 hh hr361 hk362 rfl i_Mod (by decide) k_f_Mod_53 (fun _ h9 => h9) d_Mod_mayStart_292 ?_
              refine lv_iload_n hx hb d_Mod_mayStart_295 rfl (lv_at hl 1 rfl) ?_
              obtain ⟨n364, f365, hr366, hi367, hw⟩ := hw
              refine h_zald C0 hh hr366 hi367 rfl d_Mod_mayStart_296 ?_
              refine lv_if_eq (tgt := 305) hx hb d_Mod_mayStart_297 (by decide) (fun c368 => ?_) (fun c368 => ?_)
              · have hw := hw.1 c368
                refine lv_iconst (v := 1) hx hb d_Mod_mayStart_305 (by decide) ?_
                refine lv_goto (tgt := 310) hx hb d_Mod_mayStart_306 (by decide) ?_
                exact h_iret C0 hh hS rfl rfl ⟨_, rfl, hw⟩ d_Mod_mayStart_310
              · have hw := hw.2 c368
                refine lv_iload hx hb d_Mod_mayStart_300 (lv_at hl 4 rfl) ?_
                refine lv_if_ne (tgt := 309) hx hb d_Mod_mayStart_302 (by decide) (fun c369 => ?_) (fun c369 => ?_)
                · have hw := hw.1 c369
                  refine lv_iconst (v := 0) hx hb d_Mod_mayStart_309 (by decide) ?_
                  exact h_iret C0 hh hS rfl rfl ⟨_, rfl, hw⟩ d_Mod_mayStart_310
                · have hw := hw.2 c369
                  refine lv_iconst (v := 1) hx hb d_Mod_mayStart_305 (by decide) ?_
                  refine lv_goto (tgt := 310) hx hb d_Mod_mayStart_306 (by decide) ?_
                  exact h_iret C0 hh hS rfl rfl ⟨_, rfl, hw⟩ d_Mod_mayStart_310
    · have hw := hw.2 c339
      refine lv_iload hx hb d_Mod_mayStart_216 (lv_at hl 6 rfl) ?_
      refine lv_if_eq (tgt := 253) hx hb d_Mod_mayStart_218 (by decide) (fun c370 => ?_) (fun c370 => ?_)
      · have hw := hw.1 c370
        exact S_Mod_mayStart_253 C0 hK210 _ _ _ _ _ _ _ _ _ _ _ hw hh hS (lv_sub hl [0, 1, 2, 3, 4, 5, 7] rfl)
      · have hw := hw.2 c370
        refine lv_aload_n hx hb d_Mod_mayStart_221 rfl (lv_at hl 0 rfl) ?_
        obtain ⟨fs371, r374, hr372, hk373, hw⟩ := hw
        refine h_get C0 hh hr372 hk373 rfl i_Mod (by decide) k_f_Mod_47 (fun _ h9 => h9) d_Mod_mayStart_222 ?_
        refine lv_iconst (v := 4) hx hb d_Mod_mayStart_225 (by decide) ?_
        refine lv_iload_n hx hb d_Mod_mayStart_226 rfl (lv_at hl 1 rfl) ?_
        refine lv_imul hx hb d_Mod_mayStart_227 ?_
        refine lv_iload hx hb d_Mod_mayStart_228 (lv_at hl 7 rfl) ?_
        refine lv_iadd hx hb d_Mod_mayStart_230 ?_
        obtain ⟨n375, f376, hr377, hi378, hw⟩ := hw
        refine h_iald C0 hh hr377 hi378 rfl d_Mod_mayStart_231 ?_
        refine lv_aload_n hx hb d_Mod_mayStart_232 rfl (lv_at hl 0 rfl) ?_
        refine lv_iload hx hb d_Mod_mayStart_233 (lv_at hl 7 rfl) ?_
        obtain ⟨fs379, hr380, hw⟩ := hw
        refine h_callV (n := 1) C0 w_TBm hh hS hl.1 [.int x7] [.int (f376 (((4 : Int32) * x1) + x7).toNatClampNeg)] (S_Mod_used _ _ _ _ hw) hr380 rfl k_m_Mod_105 k_inst_Mod_used k_sel_Mod_used k_ini_Mod k_code_Mod_used (by decide +kernel) rfl rfl (Nat.le_of_ble_eq_true rfl) ⟨(Nat.le_of_ble_eq_true rfl), (Nat.le_of_ble_eq_true rfl)⟩ ⟨(Nat.le_of_ble_eq_true rfl), (Nat.le_of_ble_eq_true rfl)⟩ d_Mod_mayStart_235 (h_kI (k := 0) (n := 0) (Nat.le_of_ble_eq_true rfl) (Nat.le_of_ble_eq_true rfl) (fun i382 h381 H locs hw hh hS => ?_))
        refine lv_iadd hx hb d_Mod_mayStart_238 ?_
        refine lv_aload_n hx hb d_Mod_mayStart_239 rfl (lv_at hl 0 rfl) ?_
        obtain ⟨fs383, r386, hr384, hk385, hw⟩ := hw
        refine h_get C0 hh hr384 hk385 rfl i_Mod (by decide) k_f_Mod_32 (fun _ h9 => h9) d_Mod_mayStart_240 ?_
        refine lv_iload hx hb d_Mod_mayStart_243 (lv_at hl 7 rfl) ?_
        obtain ⟨n387, f388, hr389, hi390, hw⟩ := hw
        refine h_iald C0 hh hr389 hi390 rfl d_Mod_mayStart_245 ?_
        refine lv_icmp_gt (tgt := 253) hx hb d_Mod_mayStart_246 (by decide) (fun c391 => ?_) (fun c391 => ?_)
        · have hw := hw.1 c391
          exact S_Mod_mayStart_253 C0 hK210 _ _ _ _ _ _ _ _ _ _ _ hw hh hS (lv_sub hl [0, 1, 2, 3, 4, 5, 7] rfl)
        · have hw := hw.2 c391
          refine lv_iconst (v := 1) hx hb d_Mod_mayStart_249 (by decide) ?_
          refine lv_goto (tgt := 254) hx hb d_Mod_mayStart_250 (by decide) ?_
          exact S_Mod_mayStart_254 C0 hK210 _ _ _ _ _ _ _ _ _ _ _ _ hw hh hS (lv_sub hl [0, 1, 2, 3, 4, 5, 7] rfl)
set_option maxHeartbeats 4000000 in
set_option maxRecDepth 100000 in
theorem S_Mod_mayStart_159 {p : Program} {l : Launch} {e : Env} {s : State} {m : MethodId} {args : Array Value} {below : List Frame} {meth : Method} {c : Code} {κ : hX} {Q : Int32 → hM → Prop} {K46 : hM → Nat → Int32 → Int32 → Int32 → Int32 → Int32 → Int32 → Prop} (C0 : Cw κ w_cl w_tl w_tb p s m args meth c b_Mod_mayStart 8 R_Mod (some .boolean)) (hK46 : ∀ (h : hM) (x0 : Nat) (x1 : Int32) (x2 : Int32) (x3 : Int32) (x4 : Int32) (x5 : Int32) (x6 : Int32) (H : Heap) (locs : List Loc) (ls : Array Slot), K46 h x0 x1 x2 x3 x4 x5 x6 → hp κ w_cl h H → va_S (h_A κ) s.heap H locs → lv_has ls 8 [(0, .ref x0), (1, .int x1), (2, .int x2), (3, .int x3), (4, .int x4), (5, .int x5), (6, .int x6)] → W p l e rm_Mod_mayStart s m args below meth c H locs 0 0 (MQ below (hQ κ w_cl (qI Q)) args s 0 0 (h_A κ)) (F0 m 46 ls [])) : ∀ (h : hM) (x0 : Nat) (x1 : Int32) (x2 : Int32) (x4 : Int32) (x5 : Int32) (x6 : Int32) (t0 : Int32) (H : Heap) (locs : List Loc) (ls : Array Slot), P_Mod_mayStart_159 Q K46 h x0 x1 x2 x4 x5 x6 t0 → hp κ w_cl h H → va_S (h_A κ) s.heap H locs → lv_has ls 8 [(0, .ref x0), (1, .int x1), (2, .int x2), (4, .int x4), (5, .int x5), (6, .int x6)] → W p l e rm_Mod_mayStart s m args below meth c H locs 0 0 (MQ below (hQ κ w_cl (qI Q)) args s 0 0 (h_A κ)) (F0 m 159 ls [.int t0]) := by
  obtain ⟨hx, hb, hml, hown, hts, hK, hF0, hrt, hlocks⟩ := id C0
  intro h x0 x1 x2 x4 x5 x6 t0 H locs ls hw hh hS hl
  refine lv_istore_n (lv' := [(3, .int t0), (0, .ref x0), (1, .int x1), (2, .int x2), (4, .int x4), (5, .int x5), (6, .int x6)]) hx hb d_Mod_mayStart_159 rfl hl (by decide) rfl (fun ls hl => ?_)
  refine lv_iload hx hb d_Mod_mayStart_160 (lv_at hl 5 rfl) ?_
  refine lv_if_ne (tgt := 191) hx hb d_Mod_mayStart_162 (by decide) (fun c392 => ?_) (fun c392 => ?_)
  · have hw := hw.1 c392
    exact S_Mod_mayStart_191 C0 hK46 _ _ _ _ _ _ _ _ _ _ hw hh hS (lv_sub hl [1, 2, 3, 0, 4, 6] rfl)
  · have hw := hw.2 c392
    refine lv_aload_n hx hb d_Mod_mayStart_165 rfl (lv_at hl 1 rfl) ?_
    obtain ⟨fs393, r396, hr394, hk395, hw⟩ := hw
    refine h_get C0 hh hr394 hk395 rfl i_Mod (by decide) k_f_Mod_56 (fun _ h9 => h9) d_Mod_mayStart_166 ?_
    refine lv_bipush (v := 100) hx hb d_Mod_mayStart_169 (by decide) ?_
    refine lv_iload_n hx hb d_Mod_mayStart_171 rfl (lv_at hl 2 rfl) ?_
    refine lv_imul hx hb d_Mod_mayStart_172 ?_
    refine lv_iload hx hb d_Mod_mayStart_173 (lv_at hl 6 rfl) ?_
    refine lv_iadd hx hb d_Mod_mayStart_175 ?_
    obtain ⟨n397, f398, hr399, hi400, hw⟩ := hw
    refine h_zald C0 hh hr399 hi400 rfl d_Mod_mayStart_176 ?_
    refine lv_if_eq (tgt := 195) hx hb d_Mod_mayStart_177 (by decide) (fun c401 => ?_) (fun c401 => ?_)
    · have hw := hw.1 c401
      exact S_Mod_mayStart_195 C0 hK46 _ _ _ _ _ _ _ _ _ _ hw hh hS (lv_sub hl [1, 2, 3, 0, 4, 6] rfl)
    · have hw := hw.2 c401
      refine lv_aload_n hx hb d_Mod_mayStart_180 rfl (lv_at hl 1 rfl) ?_
      obtain ⟨fs402, r405, hr403, hk404, hw⟩ := hw
      refine h_get C0 hh hr403 hk404 rfl i_Mod (by decide) k_f_Mod_44 (fun _ h9 => h9) d_Mod_mayStart_181 ?_
      refine lv_iload hx hb d_Mod_mayStart_184 (lv_at hl 6 rfl) ?_
      obtain ⟨n406, f407, hr408, hi409, hw⟩ := hw
      refine h_iald C0 hh hr408 hi409 rfl d_Mod_mayStart_186 ?_
      refine lv_iconst (v := 3) hx hb d_Mod_mayStart_187 (by decide) ?_
      refine lv_icmp_eq (tgt := 195) hx hb d_Mod_mayStart_188 (by decide) (fun c410 => ?_) (fun c410 => ?_)
      · have hw := hw.1 c410
        exact S_Mod_mayStart_195 C0 hK46 _ _ _ _ _ _ _ _ _ _ hw hh hS (lv_sub hl [1, 2, 3, 0, 4, 6] rfl)
      · have hw := hw.2 c410
        exact S_Mod_mayStart_191 C0 hK46 _ _ _ _ _ _ _ _ _ _ hw hh hS (lv_sub hl [1, 2, 3, 0, 4, 6] rfl)
set_option maxHeartbeats 4000000 in
set_option maxRecDepth 100000 in
theorem S_Mod_mayStart_154 {p : Program} {l : Launch} {e : Env} {s : State} {m : MethodId} {args : Array Value} {below : List Frame} {meth : Method} {c : Code} {κ : hX} {Q : Int32 → hM → Prop} {K46 : hM → Nat → Int32 → Int32 → Int32 → Int32 → Int32 → Int32 → Prop} (C0 : Cw κ w_cl w_tl w_tb p s m args meth c b_Mod_mayStart 8 R_Mod (some .boolean)) (hK46 : ∀ (h : hM) (x0 : Nat) (x1 : Int32) (x2 : Int32) (x3 : Int32) (x4 : Int32) (x5 : Int32) (x6 : Int32) (H : Heap) (locs : List Loc) (ls : Array Slot), K46 h x0 x1 x2 x3 x4 x5 x6 → hp κ w_cl h H → va_S (h_A κ) s.heap H locs → lv_has ls 8 [(0, .ref x0), (1, .int x1), (2, .int x2), (3, .int x3), (4, .int x4), (5, .int x5), (6, .int x6)] → W p l e rm_Mod_mayStart s m args below meth c H locs 0 0 (MQ below (hQ κ w_cl (qI Q)) args s 0 0 (h_A κ)) (F0 m 46 ls [])) : ∀ (h : hM) (x0 : Nat) (x1 : Int32) (x2 : Int32) (x4 : Int32) (x5 : Int32) (x6 : Int32) (H : Heap) (locs : List Loc) (ls : Array Slot), P_Mod_mayStart_154 Q K46 h x0 x1 x2 x4 x5 x6 → hp κ w_cl h H → va_S (h_A κ) s.heap H locs → lv_has ls 8 [(0, .ref x0), (1, .int x1), (2, .int x2), (4, .int x4), (5, .int x5), (6, .int x6)] → W p l e rm_Mod_mayStart s m args below meth c H locs 0 0 (MQ below (hQ κ w_cl (qI Q)) args s 0 0 (h_A κ)) (F0 m 154 ls []) := by
  obtain ⟨hx, hb, hml, hown, hts, hK, hF0, hrt, hlocks⟩ := id C0
  intro h x0 x1 x2 x4 x5 x6 H locs ls hw hh hS hl
  refine lv_iconst (v := 1) hx hb d_Mod_mayStart_154 (by decide) ?_
  refine lv_goto (tgt := 159) hx hb d_Mod_mayStart_155 (by decide) ?_
  exact S_Mod_mayStart_159 C0 hK46 _ _ _ _ _ _ _ _ _ _ _ hw hh hS (lv_sub hl [0, 1, 2, 3, 4, 5] rfl)
set_option maxHeartbeats 4000000 in
set_option maxRecDepth 100000 in
theorem S_Mod_mayStart_158 {p : Program} {l : Launch} {e : Env} {s : State} {m : MethodId} {args : Array Value} {below : List Frame} {meth : Method} {c : Code} {κ : hX} {Q : Int32 → hM → Prop} {K46 : hM → Nat → Int32 → Int32 → Int32 → Int32 → Int32 → Int32 → Prop} (C0 : Cw κ w_cl w_tl w_tb p s m args meth c b_Mod_mayStart 8 R_Mod (some .boolean)) (hK46 : ∀ (h : hM) (x0 : Nat) (x1 : Int32) (x2 : Int32) (x3 : Int32) (x4 : Int32) (x5 : Int32) (x6 : Int32) (H : Heap) (locs : List Loc) (ls : Array Slot), K46 h x0 x1 x2 x3 x4 x5 x6 → hp κ w_cl h H → va_S (h_A κ) s.heap H locs → lv_has ls 8 [(0, .ref x0), (1, .int x1), (2, .int x2), (3, .int x3), (4, .int x4), (5, .int x5), (6, .int x6)] → W p l e rm_Mod_mayStart s m args below meth c H locs 0 0 (MQ below (hQ κ w_cl (qI Q)) args s 0 0 (h_A κ)) (F0 m 46 ls [])) : ∀ (h : hM) (x0 : Nat) (x1 : Int32) (x2 : Int32) (x4 : Int32) (x5 : Int32) (x6 : Int32) (H : Heap) (locs : List Loc) (ls : Array Slot), P_Mod_mayStart_158 Q K46 h x0 x1 x2 x4 x5 x6 → hp κ w_cl h H → va_S (h_A κ) s.heap H locs → lv_has ls 8 [(0, .ref x0), (1, .int x1), (2, .int x2), (4, .int x4), (5, .int x5), (6, .int x6)] → W p l e rm_Mod_mayStart s m args below meth c H locs 0 0 (MQ below (hQ κ w_cl (qI Q)) args s 0 0 (h_A κ)) (F0 m 158 ls []) := by
  obtain ⟨hx, hb, hml, hown, hts, hK, hF0, hrt, hlocks⟩ := id C0
  intro h x0 x1 x2 x4 x5 x6 H locs ls hw hh hS hl
  refine lv_iconst (v := 0) hx hb d_Mod_mayStart_158 (by decide) ?_
  exact S_Mod_mayStart_159 C0 hK46 _ _ _ _ _ _ _ _ _ _ _ hw hh hS (lv_sub hl [0, 1, 2, 3, 4, 5] rfl)
set_option maxHeartbeats 4000000 in
set_option maxRecDepth 100000 in
theorem S_Mod_mayStart_117 {p : Program} {l : Launch} {e : Env} {s : State} {m : MethodId} {args : Array Value} {below : List Frame} {meth : Method} {c : Code} {κ : hX} {Q : Int32 → hM → Prop} {K46 : hM → Nat → Int32 → Int32 → Int32 → Int32 → Int32 → Int32 → Prop} (C0 : Cw κ w_cl w_tl w_tb p s m args meth c b_Mod_mayStart 8 R_Mod (some .boolean)) (hK46 : ∀ (h : hM) (x0 : Nat) (x1 : Int32) (x2 : Int32) (x3 : Int32) (x4 : Int32) (x5 : Int32) (x6 : Int32) (H : Heap) (locs : List Loc) (ls : Array Slot), K46 h x0 x1 x2 x3 x4 x5 x6 → hp κ w_cl h H → va_S (h_A κ) s.heap H locs → lv_has ls 8 [(0, .ref x0), (1, .int x1), (2, .int x2), (3, .int x3), (4, .int x4), (5, .int x5), (6, .int x6)] → W p l e rm_Mod_mayStart s m args below meth c H locs 0 0 (MQ below (hQ κ w_cl (qI Q)) args s 0 0 (h_A κ)) (F0 m 46 ls [])) : ∀ (h : hM) (x0 : Nat) (x1 : Int32) (x3 : Int32) (x4 : Int32) (x5 : Int32) (x6 : Int32) (x7 : Int32) (t0 : Int32) (t1 : Int32) (H : Heap) (locs : List Loc) (ls : Array Slot), P_Mod_mayStart_117 Q K46 h x0 x1 x3 x4 x5 x6 x7 t0 t1 → hp κ w_cl h H → va_S (h_A κ) s.heap H locs → lv_has ls 8 [(0, .ref x0), (1, .int x1), (3, .int x3), (4, .int x4), (5, .int x5), (6, .int x6), (7, .int x7)] → W p l e rm_Mod_mayStart s m args below meth c H locs 0 0 (MQ below (hQ κ w_cl (qI Q)) args s 0 0 (h_A κ)) (F0 m 117 ls [.int t0, .int t1]) := by
  obtain ⟨hx, hb, hml, hown, hts, hK, hF0, hrt, hlocks⟩ := id C0
  intro h x0 x1 x3 x4 x5 x6 x7 t0 t1 H locs ls hw hh hS hl
  refine lv_iadd hx hb d_Mod_mayStart_117 ?_
  refine lv_topi (fun x2_411 ex2_411 => ?_)
  have hw := hw x2_411 ex2_411
  refine lv_istore_n (lv' := [(2, .int x2_411), (0, .ref x0), (1, .int x1), (3, .int x3), (4, .int x4), (5, .int x5), (6, .int x6), (7, .int x7)]) hx hb d_Mod_mayStart_118 rfl hl (by decide) rfl (fun ls hl => ?_)
  refine lv_iload_n hx hb d_Mod_mayStart_119 rfl (lv_at hl 3 rfl) ?_
  refine lv_if_eq (tgt := 158) hx hb d_Mod_mayStart_120 (by decide) (fun c412 => ?_) (fun c412 => ?_)
  · have hw := hw.1 c412
    exact S_Mod_mayStart_158 C0 hK46 _ _ _ _ _ _ _ _ _ _ hw hh hS (lv_sub hl [1, 2, 0, 4, 5, 6] rfl)
  · have hw := hw.2 c412
    refine lv_iload hx hb d_Mod_mayStart_123 (lv_at hl 7 rfl) ?_
    refine lv_if_eq (tgt := 154) hx hb d_Mod_mayStart_125 (by decide) (fun c413 => ?_) (fun c413 => ?_)
    · have hw := hw.1 c413
      exact S_Mod_mayStart_154 C0 hK46 _ _ _ _ _ _ _ _ _ _ hw hh hS (lv_sub hl [1, 2, 0, 4, 5, 6] rfl)
    · have hw := hw.2 c413
      refine lv_aload_n hx hb d_Mod_mayStart_128 rfl (lv_at hl 1 rfl) ?_
      obtain ⟨fs414, r417, hr415, hk416, hw⟩ := hw
      refine h_get C0 hh hr415 hk416 rfl i_Mod (by decide) k_f_Mod_41 (fun _ h9 => h9) d_Mod_mayStart_129 ?_
      refine lv_iload hx hb d_Mod_mayStart_132 (lv_at hl 6 rfl) ?_
      obtain ⟨n418, f419, hr420, hi421, hw⟩ := hw
      refine h_iald C0 hh hr420 hi421 rfl d_Mod_mayStart_134 ?_
      refine lv_aload_n hx hb d_Mod_mayStart_135 rfl (lv_at hl 1 rfl) ?_
      obtain ⟨fs422, r425, hr423, hk424, hw⟩ := hw
      refine h_get C0 hh hr423 hk424 rfl i_Mod (by decide) k_f_Mod_41 (fun _ h9 => h9) d_Mod_mayStart_136 ?_
      refine lv_iload_n hx hb d_Mod_mayStart_139 rfl (lv_at hl 2 rfl) ?_
      obtain ⟨n426, f427, hr428, hi429, hw⟩ := hw
      refine h_iald C0 hh hr428 hi429 rfl d_Mod_mayStart_140 ?_
      refine lv_icmp_eq (tgt := 158) hx hb d_Mod_mayStart_141 (by decide) (fun c430 => ?_) (fun c430 => ?_)
      · have hw := hw.1 c430
        exact S_Mod_mayStart_158 C0 hK46 _ _ _ _ _ _ _ _ _ _ hw hh hS (lv_sub hl [1, 2, 0, 4, 5, 6] rfl)
      · have hw := hw.2 c430
        refine lv_aload_n hx hb d_Mod_mayStart_144 rfl (lv_at hl 1 rfl) ?_
        obtain ⟨fs431, r434, hr432, hk433, hw⟩ := hw
        refine h_get C0 hh hr432 hk433 rfl i_Mod (by decide) k_f_Mod_53 (fun _ h9 => h9) d_Mod_mayStart_145 ?_
        refine lv_iload hx hb d_Mod_mayStart_148 (lv_at hl 6 rfl) ?_
        obtain ⟨n435, f436, hr437, hi438, hw⟩ := hw
        refine h_zald C0 hh hr437 hi438 rfl d_Mod_mayStart_150 ?_
        refine lv_if_ne (tgt := 158) hx hb d_Mod_mayStart_151 (by decide) (fun c439 => ?_) (fun c439 => ?_)
        · have hw := hw.1 c439
          exact S_Mod_mayStart_158 C0 hK46 _ _ _ _ _ _ _ _ _ _ hw hh hS (lv_sub hl [1, 2, 0, 4, 5, 6] rfl)
        · have hw := hw.2 c439
          exact S_Mod_mayStart_154 C0 hK46 _ _ _ _ _ _ _ _ _ _ hw hh hS (lv_sub hl [1, 2, 0, 4, 5, 6] rfl)
set_option maxHeartbeats 4000000 in
set_option maxRecDepth 100000 in
theorem S_Mod_mayStart_116 {p : Program} {l : Launch} {e : Env} {s : State} {m : MethodId} {args : Array Value} {below : List Frame} {meth : Method} {c : Code} {κ : hX} {Q : Int32 → hM → Prop} {K46 : hM → Nat → Int32 → Int32 → Int32 → Int32 → Int32 → Int32 → Prop} (C0 : Cw κ w_cl w_tl w_tb p s m args meth c b_Mod_mayStart 8 R_Mod (some .boolean)) (hK46 : ∀ (h : hM) (x0 : Nat) (x1 : Int32) (x2 : Int32) (x3 : Int32) (x4 : Int32) (x5 : Int32) (x6 : Int32) (H : Heap) (locs : List Loc) (ls : Array Slot), K46 h x0 x1 x2 x3 x4 x5 x6 → hp κ w_cl h H → va_S (h_A κ) s.heap H locs → lv_has ls 8 [(0, .ref x0), (1, .int x1), (2, .int x2), (3, .int x3), (4, .int x4), (5, .int x5), (6, .int x6)] → W p l e rm_Mod_mayStart s m args below meth c H locs 0 0 (MQ below (hQ κ w_cl (qI Q)) args s 0 0 (h_A κ)) (F0 m 46 ls [])) : ∀ (h : hM) (x0 : Nat) (x1 : Int32) (x3 : Int32) (x4 : Int32) (x5 : Int32) (x6 : Int32) (x7 : Int32) (t0 : Int32) (H : Heap) (locs : List Loc) (ls : Array Slot), P_Mod_mayStart_116 Q K46 h x0 x1 x3 x4 x5 x6 x7 t0 → hp κ w_cl h H → va_S (h_A κ) s.heap H locs → lv_has ls 8 [(0, .ref x0), (1, .int x1), (3, .int x3), (4, .int x4), (5, .int x5), (6, .int x6), (7, .int x7)] → W p l e rm_Mod_mayStart s m args below meth c H locs 0 0 (MQ below (hQ κ w_cl (qI Q)) args s 0 0 (h_A κ)) (F0 m 116 ls [.int t0]) := by
  obtain ⟨hx, hb, hml, hown, hts, hK, hF0, hrt, hlocks⟩ := id C0
  intro h x0 x1 x3 x4 x5 x6 x7 t0 H locs ls hw hh hS hl
  refine lv_iconst (v := 0) hx hb d_Mod_mayStart_116 (by decide) ?_
  exact S_Mod_mayStart_117 C0 hK46 _ _ _ _ _ _ _ _ _ _ _ _ _ hw hh hS (lv_sub hl [0, 1, 2, 3, 4, 5, 6] rfl)
set_option maxHeartbeats 4000000 in
set_option maxRecDepth 100000 in
theorem S_Mod_mayStart_88 {p : Program} {l : Launch} {e : Env} {s : State} {m : MethodId} {args : Array Value} {below : List Frame} {meth : Method} {c : Code} {κ : hX} {Q : Int32 → hM → Prop} {K46 : hM → Nat → Int32 → Int32 → Int32 → Int32 → Int32 → Int32 → Prop} (C0 : Cw κ w_cl w_tl w_tb p s m args meth c b_Mod_mayStart 8 R_Mod (some .boolean)) (hK46 : ∀ (h : hM) (x0 : Nat) (x1 : Int32) (x2 : Int32) (x3 : Int32) (x4 : Int32) (x5 : Int32) (x6 : Int32) (H : Heap) (locs : List Loc) (ls : Array Slot), K46 h x0 x1 x2 x3 x4 x5 x6 → hp κ w_cl h H → va_S (h_A κ) s.heap H locs → lv_has ls 8 [(0, .ref x0), (1, .int x1), (2, .int x2), (3, .int x3), (4, .int x4), (5, .int x5), (6, .int x6)] → W p l e rm_Mod_mayStart s m args below meth c H locs 0 0 (MQ below (hQ κ w_cl (qI Q)) args s 0 0 (h_A κ)) (F0 m 46 ls [])) : ∀ (h : hM) (x0 : Nat) (x1 : Int32) (x2 : Int32) (x3 : Int32) (x5 : Int32) (x6 : Int32) (x7 : Int32) (t0 : Int32) (H : Heap) (locs : List Loc) (ls : Array Slot), P_Mod_mayStart_88 Q K46 h x0 x1 x2 x3 x5 x6 x7 t0 → hp κ w_cl h H → va_S (h_A κ) s.heap H locs → lv_has ls 8 [(0, .ref x0), (1, .int x1), (2, .int x2), (3, .int x3), (5, .int x5), (6, .int x6), (7, .int x7)] → W p l e rm_Mod_mayStart s m args below meth c H locs 0 0 (MQ below (hQ κ w_cl (qI Q)) args s 0 0 (h_A κ)) (F0 m 88 ls [.int t0]) := by
  obtain ⟨hx, hb, hml, hown, hts, hK, hF0, hrt, hlocks⟩ := id C0
  intro h x0 x1 x2 x3 x5 x6 x7 t0 H locs ls hw hh hS hl
  refine lv_istore (lv' := [(4, .int t0), (0, .ref x0), (1, .int x1), (2, .int x2), (3, .int x3), (5, .int x5), (6, .int x6), (7, .int x7)]) hx hb d_Mod_mayStart_88 hl (by decide) rfl (fun ls hl => ?_)
  refine lv_iload_n hx hb d_Mod_mayStart_90 rfl (lv_at hl 3 rfl) ?_
  refine lv_iload hx hb d_Mod_mayStart_91 (lv_at hl 7 rfl) ?_
  refine lv_if_eq (tgt := 116) hx hb d_Mod_mayStart_93 (by decide) (fun c440 => ?_) (fun c440 => ?_)
  · have hw := hw.1 c440
    exact S_Mod_mayStart_116 C0 hK46 _ _ _ _ _ _ _ _ _ _ _ _ hw hh hS (lv_sub hl [1, 2, 4, 0, 5, 6, 7] rfl)
  · have hw := hw.2 c440
    refine lv_aload_n hx hb d_Mod_mayStart_96 rfl (lv_at hl 1 rfl) ?_
    obtain ⟨fs441, r444, hr442, hk443, hw⟩ := hw
    refine h_get C0 hh hr442 hk443 rfl i_Mod (by decide) k_f_Mod_35 (fun _ h9 => h9) d_Mod_mayStart_97 ?_
    refine lv_iload hx hb d_Mod_mayStart_100 (lv_at hl 6 rfl) ?_
    obtain ⟨n445, f446, hr447, hi448, hw⟩ := hw
    refine h_iald C0 hh hr447 hi448 rfl d_Mod_mayStart_102 ?_
    refine lv_aload_n hx hb d_Mod_mayStart_103 rfl (lv_at hl 1 rfl) ?_
    obtain ⟨fs449, r452, hr450, hk451, hw⟩ := hw
    refine h_get C0 hh hr450 hk451 rfl i_Mod (by decide) k_f_Mod_35 (fun _ h9 => h9) d_Mod_mayStart_104 ?_
    refine lv_iload_n hx hb d_Mod_mayStart_107 rfl (lv_at hl 2 rfl) ?_
    obtain ⟨n453, f454, hr455, hi456, hw⟩ := hw
    refine h_iald C0 hh hr455 hi456 rfl d_Mod_mayStart_108 ?_
    refine lv_icmp_ne (tgt := 116) hx hb d_Mod_mayStart_109 (by decide) (fun c457 => ?_) (fun c457 => ?_)
    · have hw := hw.1 c457
      exact S_Mod_mayStart_116 C0 hK46 _ _ _ _ _ _ _ _ _ _ _ _ hw hh hS (lv_sub hl [1, 2, 4, 0, 5, 6, 7] rfl)
    · have hw := hw.2 c457
      refine lv_iconst (v := 1) hx hb d_Mod_mayStart_112 (by decide) ?_
      refine lv_goto (tgt := 117) hx hb d_Mod_mayStart_113 (by decide) ?_
      exact S_Mod_mayStart_117 C0 hK46 _ _ _ _ _ _ _ _ _ _ _ _ _ hw hh hS (lv_sub hl [1, 2, 4, 0, 5, 6, 7] rfl)
set_option maxHeartbeats 4000000 in
set_option maxRecDepth 100000 in
theorem S_Mod_mayStart_83 {p : Program} {l : Launch} {e : Env} {s : State} {m : MethodId} {args : Array Value} {below : List Frame} {meth : Method} {c : Code} {κ : hX} {Q : Int32 → hM → Prop} {K46 : hM → Nat → Int32 → Int32 → Int32 → Int32 → Int32 → Int32 → Prop} (C0 : Cw κ w_cl w_tl w_tb p s m args meth c b_Mod_mayStart 8 R_Mod (some .boolean)) (hK46 : ∀ (h : hM) (x0 : Nat) (x1 : Int32) (x2 : Int32) (x3 : Int32) (x4 : Int32) (x5 : Int32) (x6 : Int32) (H : Heap) (locs : List Loc) (ls : Array Slot), K46 h x0 x1 x2 x3 x4 x5 x6 → hp κ w_cl h H → va_S (h_A κ) s.heap H locs → lv_has ls 8 [(0, .ref x0), (1, .int x1), (2, .int x2), (3, .int x3), (4, .int x4), (5, .int x5), (6, .int x6)] → W p l e rm_Mod_mayStart s m args below meth c H locs 0 0 (MQ below (hQ κ w_cl (qI Q)) args s 0 0 (h_A κ)) (F0 m 46 ls [])) : ∀ (h : hM) (x0 : Nat) (x1 : Int32) (x2 : Int32) (x3 : Int32) (x5 : Int32) (x6 : Int32) (x7 : Int32) (H : Heap) (locs : List Loc) (ls : Array Slot), P_Mod_mayStart_83 Q K46 h x0 x1 x2 x3 x5 x6 x7 → hp κ w_cl h H → va_S (h_A κ) s.heap H locs → lv_has ls 8 [(0, .ref x0), (1, .int x1), (2, .int x2), (3, .int x3), (5, .int x5), (6, .int x6), (7, .int x7)] → W p l e rm_Mod_mayStart s m args below meth c H locs 0 0 (MQ below (hQ κ w_cl (qI Q)) args s 0 0 (h_A κ)) (F0 m 83 ls []) := by
  obtain ⟨hx, hb, hml, hown, hts, hK, hF0, hrt, hlocks⟩ := id C0
  intro h x0 x1 x2 x3 x5 x6 x7 H locs ls hw hh hS hl
  refine lv_iconst (v := 1) hx hb d_Mod_mayStart_83 (by decide) ?_
  refine lv_goto (tgt := 88) hx hb d_Mod_mayStart_84 (by decide) ?_
  exact S_Mod_mayStart_88 C0 hK46 _ _ _ _ _ _ _ _ _ _ _ _ hw hh hS (lv_sub hl [0, 1, 2, 3, 4, 5, 6] rfl)
set_option maxHeartbeats 4000000 in
set_option maxRecDepth 100000 in
theorem S_Mod_mayStart_71 {p : Program} {l : Launch} {e : Env} {s : State} {m : MethodId} {args : Array Value} {below : List Frame} {meth : Method} {c : Code} {κ : hX} {Q : Int32 → hM → Prop} {K46 : hM → Nat → Int32 → Int32 → Int32 → Int32 → Int32 → Int32 → Prop} (C0 : Cw κ w_cl w_tl w_tb p s m args meth c b_Mod_mayStart 8 R_Mod (some .boolean)) (hK46 : ∀ (h : hM) (x0 : Nat) (x1 : Int32) (x2 : Int32) (x3 : Int32) (x4 : Int32) (x5 : Int32) (x6 : Int32) (H : Heap) (locs : List Loc) (ls : Array Slot), K46 h x0 x1 x2 x3 x4 x5 x6 → hp κ w_cl h H → va_S (h_A κ) s.heap H locs → lv_has ls 8 [(0, .ref x0), (1, .int x1), (2, .int x2), (3, .int x3), (4, .int x4), (5, .int x5), (6, .int x6)] → W p l e rm_Mod_mayStart s m args below meth c H locs 0 0 (MQ below (hQ κ w_cl (qI Q)) args s 0 0 (h_A κ)) (F0 m 46 ls [])) : ∀ (h : hM) (x0 : Nat) (x1 : Int32) (x2 : Int32) (x3 : Int32) (x4 : Int32) (x5 : Int32) (x6 : Int32) (t0 : Int32) (H : Heap) (locs : List Loc) (ls : Array Slot), P_Mod_mayStart_71 Q K46 h x0 x1 x2 x3 x4 x5 x6 t0 → hp κ w_cl h H → va_S (h_A κ) s.heap H locs → lv_has ls 8 [(0, .ref x0), (1, .int x1), (2, .int x2), (3, .int x3), (4, .int x4), (5, .int x5), (6, .int x6)] → W p l e rm_Mod_mayStart s m args below meth c H locs 0 0 (MQ below (hQ κ w_cl (qI Q)) args s 0 0 (h_A κ)) (F0 m 71 ls [.int t0]) := by
  obtain ⟨hx, hb, hml, hown, hts, hK, hF0, hrt, hlocks⟩ := id C0
  intro h x0 x1 x2 x3 x4 x5 x6 t0 H locs ls hw hh hS hl
  refine lv_istore (lv' := [(7, .int t0), (0, .ref x0), (1, .int x1), (2, .int x2), (3, .int x3), (4, .int x4), (5, .int x5), (6, .int x6)]) hx hb d_Mod_mayStart_71 hl (by decide) rfl (fun ls hl => ?_)
  refine lv_iload hx hb d_Mod_mayStart_73 (lv_at hl 5 rfl) ?_
  refine lv_if_ne (tgt := 83) hx hb d_Mod_mayStart_75 (by decide) (fun c458 => ?_) (fun c458 => ?_)
  · have hw := hw.1 c458
    exact S_Mod_mayStart_83 C0 hK46 _ _ _ _ _ _ _ _ _ _ _ hw hh hS (lv_sub hl [1, 2, 3, 4, 6, 7, 0] rfl)
  · have hw := hw.2 c458
    refine lv_iload hx hb d_Mod_mayStart_78 (lv_at hl 0 rfl) ?_
    refine lv_if_eq (tgt := 87) hx hb d_Mod_mayStart_80 (by decide) (fun c459 => ?_) (fun c459 => ?_)
    · have hw := hw.1 c459
      refine lv_iconst (v := 0) hx hb d_Mod_mayStart_87 (by decide) ?_
      exact S_Mod_mayStart_88 C0 hK46 _ _ _ _ _ _ _ _ _ _ _ _ hw hh hS (lv_sub hl [1, 2, 3, 4, 6, 7, 0] rfl)
    · have hw := hw.2 c459
      exact S_Mod_mayStart_83 C0 hK46 _ _ _ _ _ _ _ _ _ _ _ hw hh hS (lv_sub hl [1, 2, 3, 4, 6, 7, 0] rfl)
set_option maxHeartbeats 4000000 in
set_option maxRecDepth 100000 in
theorem S_Mod_mayStart_46 {p : Program} {l : Launch} {e : Env} {s : State} {m : MethodId} {args : Array Value} {below : List Frame} {meth : Method} {c : Code} {κ : hX} {Q : Int32 → hM → Prop} (C0 : Cw κ w_cl w_tl w_tb p s m args meth c b_Mod_mayStart 8 R_Mod (some .boolean)) : ∀ (n : Nat) (h : hM) (x0 : Nat) (x1 : Int32) (x2 : Int32) (x3 : Int32) (x4 : Int32) (x5 : Int32) (x6 : Int32) (H : Heap) (locs : List Loc) (ls : Array Slot), L_Mod_mayStart_46 Q n h x0 x1 x2 x3 x4 x5 x6 → hp κ w_cl h H → va_S (h_A κ) s.heap H locs → lv_has ls 8 [(0, .ref x0), (1, .int x1), (2, .int x2), (3, .int x3), (4, .int x4), (5, .int x5), (6, .int x6)] → W p l e rm_Mod_mayStart s m args below meth c H locs 0 0 (MQ below (hQ κ w_cl (qI Q)) args s 0 0 (h_A κ)) (F0 m 46 ls []) := by
  obtain ⟨hx, hb, hml, hown, hts, hK, hF0, hrt, hlocks⟩ := id C0
  intro n
  induction n with
  | zero =>
    intro h x0 x1 x2 x3 x4 x5 x6 H locs ls hw
    exact hw.elim
  | succ n hK46 =>
    intro h x0 x1 x2 x3 x4 x5 x6 H locs ls hw hh hS hl
    have hw : P_Mod_mayStart_46 Q (L_Mod_mayStart_46 Q n) h x0 x1 x2 x3 x4 x5 x6 := hw
    refine lv_iload hx hb d_Mod_mayStart_46 (lv_at hl 6 rfl) ?_
    refine lv_aload_n hx hb d_Mod_mayStart_48 rfl (lv_at hl 0 rfl) ?_
    obtain ⟨fs460, i463, hr461, hk462, hw⟩ := hw
    refine h_get C0 hh hr461 hk462 rfl i_Mod (by decide) k_f_Mod_76 (fun _ h9 => h9) d_Mod_mayStart_49 ?_
    refine lv_icmp_ge (tgt := 204) hx hb d_Mod_mayStart_52 (by decide) (fun c464 => ?_) (fun c464 => ?_)
    · have hw := hw.1 c464
      refine lv_iconst (v := 1) hx hb d_Mod_mayStart_204 (by decide) ?_
      refine lv_istore (lv' := [(6, .int (1 : Int32)), (0, .ref x0), (1, .int x1), (2, .int x2), (3, .int x3), (4, .int x4), (5, .int x5)]) hx hb d_Mod_mayStart_205 hl (by decide) rfl (fun ls hl => ?_)
      refine lv_iconst (v := 0) hx hb d_Mod_mayStart_207 (by decide) ?_
      refine lv_istore (lv' := [(7, .int (0 : Int32)), (6, .int (1 : Int32)), (0, .ref x0), (1, .int x1), (2, .int x2), (3, .int x3), (4, .int x4), (5, .int x5)]) hx hb d_Mod_mayStart_208 hl (by decide) rfl (fun ls hl => ?_)
      obtain ⟨n0, hw⟩ := hw
      exact S_Mod_mayStart_210 C0 n0 _ _ _ _ _ _ _ _ _ _ _ _ hw hh hS (lv_sub hl [2, 3, 4, 5, 6, 7, 1, 0] rfl)
    · have hw := hw.2 c464
      refine lv_aload_n hx hb d_Mod_mayStart_55 rfl (lv_at hl 0 rfl) ?_
      obtain ⟨fs465, r468, hr466, hk467, hw⟩ := hw
      refine h_get C0 hh hr466 hk467 rfl i_Mod (by decide) k_f_Mod_44 (fun _ h9 => h9) d_Mod_mayStart_56 ?_
      refine lv_iload hx hb d_Mod_mayStart_59 (lv_at hl 6 rfl) ?_
      obtain ⟨n469, f470, hr471, hi472, hw⟩ := hw
      refine h_iald C0 hh hr471 hi472 rfl d_Mod_mayStart_61 ?_
      refine lv_iconst (v := 2) hx hb d_Mod_mayStart_62 (by decide) ?_
      refine lv_icmp_ne (tgt := 70) hx hb d_Mod_mayStart_63 (by decide) (fun c473 => ?_) (fun c473 => ?_)
      · have hw := hw.1 c473
        refine lv_iconst (v := 0) hx hb d_Mod_mayStart_70 (by decide) ?_
        exact S_Mod_mayStart_71 C0 hK46 _ _ _ _ _ _ _ _ _ _ _ _ hw hh hS (lv_sub hl [0, 1, 2, 3, 4, 5, 6] rfl)
      · have hw := hw.2 c473
        refine lv_iconst (v := 1) hx hb d_Mod_mayStart_66 (by decide) ?_
        refine lv_goto (tgt := 71) hx hb d_Mod_mayStart_67 (by decide) ?_
        exact S_Mod_mayStart_71 C0 hK46 _ _ _ _ _ _ _ _ _ _ _ _ hw hh hS (lv_sub hl [0, 1, 2, 3, 4, 5, 6] rfl)
set_option maxHeartbeats 4000000 in
set_option maxRecDepth 100000 in
theorem S_Mod_mayStart {l : Launch} {κ : hX} (Q : Int32 → hM → Prop) (h : hM) (x0 : Nat) (x1 : Int32) (hw : P_Mod_mayStart Q h x0 x1) : Met l y_Mod_mayStart [Cond.code y_Mod_mayStart b_Mod_mayStart 8 (some .boolean)] rm_Mod_mayStart (hPc κ w_cl w_tl w_tb [.ref x0, .int x1] h) (hQ κ w_cl (qI Q)) 0 0 (h_A κ) := by
  refine h_enter w_TBm (by decide) (Nat.le_of_ble_eq_true rfl) ?_
  intro p e s m args below meth c C0 hnm hh hS ls hl
  obtain ⟨hx, hb, hml, hown, hts, hK, hF0, hrt, hlocks⟩ := id C0
  have hl : lv_has ls 8 [(0, .ref x0), (1, .int x1)] := hl
  refine lv_aload_n hx hb d_Mod_mayStart_0 rfl (lv_at hl 0 rfl) ?_
  obtain ⟨fs474, r477, hr475, hk476, hw⟩ := hw
  refine h_get C0 hh hr475 hk476 rfl i_Mod (by decide) k_f_Mod_44 (fun _ h9 => h9) d_Mod_mayStart_1 ?_
  refine lv_iload_n hx hb d_Mod_mayStart_4 rfl (lv_at hl 1 rfl) ?_
  obtain ⟨n478, f479, hr480, hi481, hw⟩ := hw
  refine h_iald C0 hh hr480 hi481 rfl d_Mod_mayStart_5 ?_
  refine lv_if_ne (tgt := 31) hx hb d_Mod_mayStart_6 (by decide) (fun c482 => ?_) (fun c482 => ?_)
  · have hw := hw.1 c482
    refine lv_iconst (v := 0) hx hb d_Mod_mayStart_31 (by decide) ?_
    exact h_iret C0 hh hS rfl rfl ⟨_, rfl, hw⟩ d_Mod_mayStart_32
  · have hw := hw.2 c482
    refine lv_aload_n hx hb d_Mod_mayStart_9 rfl (lv_at hl 0 rfl) ?_
    obtain ⟨fs483, r486, hr484, hk485, hw⟩ := hw
    refine h_get C0 hh hr484 hk485 rfl i_Mod (by decide) k_f_Mod_50 (fun _ h9 => h9) d_Mod_mayStart_10 ?_
    refine lv_iload_n hx hb d_Mod_mayStart_13 rfl (lv_at hl 1 rfl) ?_
    obtain ⟨n487, f488, hr489, hi490, hw⟩ := hw
    refine h_zald C0 hh hr489 hi490 rfl d_Mod_mayStart_14 ?_
    refine lv_if_ne (tgt := 31) hx hb d_Mod_mayStart_15 (by decide) (fun c491 => ?_) (fun c491 => ?_)
    · have hw := hw.1 c491
      refine lv_iconst (v := 0) hx hb d_Mod_mayStart_31 (by decide) ?_
      exact h_iret C0 hh hS rfl rfl ⟨_, rfl, hw⟩ d_Mod_mayStart_32
    · have hw := hw.2 c491
      refine lv_aload_n hx hb d_Mod_mayStart_18 rfl (lv_at hl 0 rfl) ?_
      refine lv_aload_n hx hb d_Mod_mayStart_19 rfl (lv_at hl 0 rfl) ?_
      obtain ⟨fs492, r495, hr493, hk494, hw⟩ := hw
      refine h_get C0 hh hr493 hk494 rfl i_Mod (by decide) k_f_Mod_35 (fun _ h9 => h9) d_Mod_mayStart_20 ?_
      refine lv_iload_n hx hb d_Mod_mayStart_23 rfl (lv_at hl 1 rfl) ?_
      obtain ⟨n496, f497, hr498, hi499, hw⟩ := hw
      refine h_iald C0 hh hr498 hi499 rfl d_Mod_mayStart_24 ?_
      obtain ⟨fs500, hr501, hw⟩ := hw
      refine h_callV (n := 1) C0 w_TBm hh hS hl.1 [.int (f497 x1.toNatClampNeg)] [] (S_Mod_isOpen _ _ _ _ hw) hr501 rfl k_m_Mod_102 k_inst_Mod_isOpen k_sel_Mod_isOpen k_ini_Mod k_code_Mod_isOpen (by decide +kernel) rfl rfl (Nat.le_of_ble_eq_true rfl) ⟨(Nat.le_of_ble_eq_true rfl), (Nat.le_of_ble_eq_true rfl)⟩ ⟨(Nat.le_of_ble_eq_true rfl), (Nat.le_of_ble_eq_true rfl)⟩ d_Mod_mayStart_25 (h_kI (k := 0) (n := 0) (Nat.le_of_ble_eq_true rfl) (Nat.le_of_ble_eq_true rfl) (fun i503 h502 H locs hw hh hS => ?_))
      refine lv_if_ne (tgt := 33) hx hb d_Mod_mayStart_28 (by decide) (fun c504 => ?_) (fun c504 => ?_)
      · have hw := hw.1 c504
        refine lv_iconst (v := 0) hx hb d_Mod_mayStart_33 (by decide) ?_
        refine lv_istore_n (lv' := [(2, .int (0 : Int32)), (0, .ref x0), (1, .int x1)]) hx hb d_Mod_mayStart_34 rfl hl (by decide) rfl (fun ls hl => ?_)
        refine lv_iconst (v := 1) hx hb d_Mod_mayStart_35 (by decide) ?_
        refine lv_istore_n (lv' := [(3, .int (1 : Int32)), (2, .int (0 : Int32)), (0, .ref x0), (1, .int x1)]) hx hb d_Mod_mayStart_36 rfl hl (by decide) rfl (fun ls hl => ?_)
        refine lv_iconst (v := 0) hx hb d_Mod_mayStart_37 (by decide) ?_
        refine lv_istore (lv' := [(4, .int (0 : Int32)), (3, .int (1 : Int32)), (2, .int (0 : Int32)), (0, .ref x0), (1, .int x1)]) hx hb d_Mod_mayStart_38 hl (by decide) rfl (fun ls hl => ?_)
        refine lv_iconst (v := 0) hx hb d_Mod_mayStart_40 (by decide) ?_
        refine lv_istore (lv' := [(5, .int (0 : Int32)), (4, .int (0 : Int32)), (3, .int (1 : Int32)), (2, .int (0 : Int32)), (0, .ref x0), (1, .int x1)]) hx hb d_Mod_mayStart_41 hl (by decide) rfl (fun ls hl => ?_)
        refine lv_iconst (v := 0) hx hb d_Mod_mayStart_43 (by decide) ?_
        refine lv_istore (lv' := [(6, .int (0 : Int32)), (5, .int (0 : Int32)), (4, .int (0 : Int32)), (3, .int (1 : Int32)), (2, .int (0 : Int32)), (0, .ref x0), (1, .int x1)]) hx hb d_Mod_mayStart_44 hl (by decide) rfl (fun ls hl => ?_)
        obtain ⟨n0, hw⟩ := hw
        exact S_Mod_mayStart_46 C0 n0 _ _ _ _ _ _ _ _ _ _ _ hw hh hS (lv_sub hl [5, 6, 4, 3, 2, 1, 0] rfl)
      · have hw := hw.2 c504
        refine lv_iconst (v := 0) hx hb d_Mod_mayStart_31 (by decide) ?_
        exact h_iret C0 hh hS rfl rfl ⟨_, rfl, hw⟩ d_Mod_mayStart_32
set_option maxHeartbeats 4000000 in
set_option maxRecDepth 100000 in
theorem S_Mod_priority_81 {p : Program} {l : Launch} {e : Env} {s : State} {m : MethodId} {args : Array Value} {below : List Frame} {meth : Method} {c : Code} {κ : hX} {Q : Int64 → hM → Prop} (C0 : Cw κ w_cl w_tl w_tb p s m args meth c b_Mod_priority 10 R_Mod (some .long)) : ∀ (h : hM) (x2 : Int64) (t0 : Int64) (H : Heap) (locs : List Loc) (ls : Array Slot), P_Mod_priority_81 Q h x2 t0 → hp κ w_cl h H → va_S (h_A κ) s.heap H locs → lv_has ls 10 [(2, .long x2)] → W p l e rm_Mod_priority s m args below meth c H locs 0 0 (MQ below (hQ κ w_cl (qJ Q)) args s 0 0 (h_A κ)) (F0 m 81 ls [.long t0]) := by
  obtain ⟨hx, hb, hml, hown, hts, hK, hF0, hrt, hlocks⟩ := id C0
  intro h x2 t0 H locs ls hw hh hS hl
  refine lv_lstore (lv' := [(8, .long t0), (2, .long x2)]) hx hb d_Mod_priority_81 hl (by decide) rfl (fun ls hl => ?_)
  refine lv_lload hx hb d_Mod_priority_83 (lv_at hl 0 rfl) ?_
  refine lv_lload_n hx hb d_Mod_priority_85 rfl (lv_at hl 1 rfl) ?_
  refine W.lcmp hx hb d_Mod_priority_86 ?_
  refine lv_if_ge (tgt := 94) hx hb d_Mod_priority_87 (by decide) (fun c85 => ?_) (fun c85 => ?_)
  · have hw := hw.1 ((lg_cmp_ge _ _).mp c85)
    refine lv_lload hx hb d_Mod_priority_94 (lv_at hl 0 rfl) ?_
    exact h_lret C0 hh hS rfl ⟨_, rfl, hw⟩ d_Mod_priority_96
  · have hw := hw.2 (fun z => c85 ((lg_cmp_ge _ _).mpr z))
    refine lv_lload_n hx hb d_Mod_priority_90 rfl (lv_at hl 1 rfl) ?_
    refine lv_goto (tgt := 96) hx hb d_Mod_priority_91 (by decide) ?_
    exact h_lret C0 hh hS rfl ⟨_, rfl, hw⟩ d_Mod_priority_96
set_option maxHeartbeats 4000000 in
set_option maxRecDepth 100000 in
theorem S_Mod_priority_54 {p : Program} {l : Launch} {e : Env} {s : State} {m : MethodId} {args : Array Value} {below : List Frame} {meth : Method} {c : Code} {κ : hX} {Q : Int64 → hM → Prop} (C0 : Cw κ w_cl w_tl w_tb p s m args meth c b_Mod_priority 10 R_Mod (some .long)) : ∀ (h : hM) (x0 : Nat) (x2 : Int64) (t0 : Int64) (H : Heap) (locs : List Loc) (ls : Array Slot), P_Mod_priority_54 Q h x0 x2 t0 → hp κ w_cl h H → va_S (h_A κ) s.heap H locs → lv_has ls 10 [(0, .ref x0), (2, .long x2)] → W p l e rm_Mod_priority s m args below meth c H locs 0 0 (MQ below (hQ κ w_cl (qJ Q)) args s 0 0 (h_A κ)) (F0 m 54 ls [.long t0]) := by
  obtain ⟨hx, hb, hml, hown, hts, hK, hF0, hrt, hlocks⟩ := id C0
  intro h x0 x2 t0 H locs ls hw hh hS hl
  refine lv_lstore (lv' := [(6, .long t0), (0, .ref x0), (2, .long x2)]) hx hb d_Mod_priority_54 hl (by decide) rfl (fun ls hl => ?_)
  refine lv_lload_n hx hb d_Mod_priority_56 rfl (lv_at hl 2 rfl) ?_
  refine lv_lload hx hb d_Mod_priority_57 (lv_at hl 0 rfl) ?_
  refine lv_ladd hx hb d_Mod_priority_59 ?_
  refine lv_aload_n hx hb d_Mod_priority_60 rfl (lv_at hl 1 rfl) ?_
  obtain ⟨fs86, i89, hr87, hk88, hw⟩ := hw
  refine h_get C0 hh hr87 hk88 rfl i_Mod (by decide) k_f_Mod_114 (fun _ h9 => h9) d_Mod_priority_61 ?_
  refine lv_i2l (v := i89.toInt64) hx hb d_Mod_priority_64 rfl ?_
  refine W.lcmp hx hb d_Mod_priority_65 ?_
  refine lv_if_le (tgt := 77) hx hb d_Mod_priority_66 (by decide) (fun c90 => ?_) (fun c90 => ?_)
  · have hw := hw.1 ((lg_cmp_le _ _).mp c90)
    refine lv_lload_n hx hb d_Mod_priority_77 rfl (lv_at hl 2 rfl) ?_
    refine lv_lload hx hb d_Mod_priority_78 (lv_at hl 0 rfl) ?_
    refine lv_ladd hx hb d_Mod_priority_80 ?_
    exact S_Mod_priority_81 C0 _ _ _ _ _ _ hw hh hS (lv_sub hl [2] rfl)
  · have hw := hw.2 (fun z => c90 ((lg_cmp_le _ _).mpr z))
    refine lv_aload_n hx hb d_Mod_priority_69 rfl (lv_at hl 1 rfl) ?_
    obtain ⟨fs91, i94, hr92, hk93, hw⟩ := hw
    refine h_get C0 hh hr92 hk93 rfl i_Mod (by decide) k_f_Mod_114 (fun _ h9 => h9) d_Mod_priority_70 ?_
    refine lv_i2l (v := i94.toInt64) hx hb d_Mod_priority_73 rfl ?_
    refine lv_goto (tgt := 81) hx hb d_Mod_priority_74 (by decide) ?_
    exact S_Mod_priority_81 C0 _ _ _ _ _ _ hw hh hS (lv_sub hl [2] rfl)
set_option maxHeartbeats 4000000 in
set_option maxRecDepth 100000 in
theorem S_Mod_priority {l : Launch} {κ : hX} (Q : Int64 → hM → Prop) (h : hM) (x0 : Nat) (x1 : Int32) (hw : P_Mod_priority Q h x0 x1) : Met l y_Mod_priority [Cond.code y_Mod_priority b_Mod_priority 10 (some .long)] rm_Mod_priority (hPc κ w_cl w_tl w_tb [.ref x0, .int x1] h) (hQ κ w_cl (qJ Q)) 0 0 (h_A κ) := by
  refine h_enter w_TBm (by decide) (Nat.le_of_ble_eq_true rfl) ?_
  intro p e s m args below meth c C0 hnm hh hS ls hl
  obtain ⟨hx, hb, hml, hown, hts, hK, hF0, hrt, hlocks⟩ := id C0
  have hl : lv_has ls 10 [(0, .ref x0), (1, .int x1)] := hl
  refine lv_aload_n hx hb d_Mod_priority_0 rfl (lv_at hl 0 rfl) ?_
  obtain ⟨fs95, r98, hr96, hk97, hw⟩ := hw
  refine h_get C0 hh hr96 hk97 rfl i_Mod (by decide) k_f_Mod_38 (fun _ h9 => h9) d_Mod_priority_1 ?_
  refine lv_iload_n hx hb d_Mod_priority_4 rfl (lv_at hl 1 rfl) ?_
  obtain ⟨n99, f100, hr101, hi102, hw⟩ := hw
  refine h_iald C0 hh hr101 hi102 rfl d_Mod_priority_5 ?_
  refine lv_i2l (v := (f100 x1.toNatClampNeg).toInt64) hx hb d_Mod_priority_6 rfl ?_
  refine lv_topl (fun x2_103 ex2_103 => ?_)
  have hw := hw x2_103 ex2_103
  refine lv_lstore_n (lv' := [(2, .long x2_103), (0, .ref x0), (1, .int x1)]) hx hb d_Mod_priority_7 rfl hl (by decide) rfl (fun ls hl => ?_)
  refine lv_aload_n hx hb d_Mod_priority_8 rfl (lv_at hl 1 rfl) ?_
  obtain ⟨fs104, j107, hr105, hk106, hw⟩ := hw
  refine h_get C0 hh hr105 hk106 rfl i_Mod (by decide) k_f_Mod_109 (fun _ h9 => h9) d_Mod_priority_9 ?_
  refine lv_lconst (v := 0) hx hb d_Mod_priority_12 (by decide) ?_
  refine W.lcmp hx hb d_Mod_priority_13 ?_
  refine lv_if_ne (tgt := 19) hx hb d_Mod_priority_14 (by decide) (fun c108 => ?_) (fun c108 => ?_)
  · have hw := hw.1 (fun z => c108 ((lg_cmp_eq _ _).mpr z))
    refine lv_aload_n hx hb d_Mod_priority_19 rfl (lv_at hl 1 rfl) ?_
    obtain ⟨fs109, j112, hr110, hk111, hw⟩ := hw
    refine h_get C0 hh hr110 hk111 rfl i_Mod (by decide) k_f_Mod_89 (fun _ h9 => h9) d_Mod_priority_20 ?_
    refine lv_aload_n hx hb d_Mod_priority_23 rfl (lv_at hl 1 rfl) ?_
    obtain ⟨fs113, r116, hr114, hk115, hw⟩ := hw
    refine h_get C0 hh hr114 hk115 rfl i_Mod (by decide) k_f_Mod_62 (fun _ h9 => h9) d_Mod_priority_24 ?_
    refine lv_iload_n hx hb d_Mod_priority_27 rfl (lv_at hl 2 rfl) ?_
    obtain ⟨n117, f118, hr119, hi120, hw⟩ := hw
    refine h_lald C0 hh hr119 hi120 rfl d_Mod_priority_28 ?_
    refine lv_lsub hx hb d_Mod_priority_29 ?_
    refine lv_aload_n hx hb d_Mod_priority_30 rfl (lv_at hl 1 rfl) ?_
    obtain ⟨fs121, j124, hr122, hk123, hw⟩ := hw
    refine h_get C0 hh hr122 hk123 rfl i_Mod (by decide) k_f_Mod_109 (fun _ h9 => h9) d_Mod_priority_31 ?_
    obtain ⟨hne, hw⟩ := hw
    refine lv_ldiv hx hb d_Mod_priority_34 hne ?_
    refine lv_topl (fun x4_125 ex4_125 => ?_)
    have hw := hw x4_125 ex4_125
    refine lv_lstore (lv' := [(4, .long x4_125), (2, .long x2_103), (0, .ref x0), (1, .int x1)]) hx hb d_Mod_priority_35 hl (by decide) rfl (fun ls hl => ?_)
    refine lv_lload hx hb d_Mod_priority_37 (lv_at hl 0 rfl) ?_
    refine lv_ldc2 (v := 15) hx hb hown (hts _ k_k_Mod_112) d_Mod_priority_39 ?_
    refine W.lcmp hx hb d_Mod_priority_42 ?_
    refine lv_if_le (tgt := 52) hx hb d_Mod_priority_43 (by decide) (fun c126 => ?_) (fun c126 => ?_)
    · have hw := hw.1 ((lg_cmp_le _ _).mp c126)
      refine lv_lload hx hb d_Mod_priority_52 (lv_at hl 0 rfl) ?_
      exact S_Mod_priority_54 C0 _ _ _ _ _ _ _ hw hh hS (lv_sub hl [2, 1] rfl)
    · have hw := hw.2 (fun z => c126 ((lg_cmp_le _ _).mpr z))
      refine lv_ldc2 (v := 15) hx hb hown (hts _ k_k_Mod_112) d_Mod_priority_46 ?_
      refine lv_goto (tgt := 54) hx hb d_Mod_priority_49 (by decide) ?_
      exact S_Mod_priority_54 C0 _ _ _ _ _ _ _ hw hh hS (lv_sub hl [2, 1] rfl)
  · have hw := hw.2 ((lg_cmp_eq _ _).mp c108)
    refine lv_lload_n hx hb d_Mod_priority_17 rfl (lv_at hl 0 rfl) ?_
    exact h_lret C0 hh hS rfl ⟨_, rfl, hw⟩ d_Mod_priority_18
set_option maxHeartbeats 4000000 in
set_option maxRecDepth 100000 in
theorem S_Mod_isAhead {l : Launch} {κ : hX} (Q : Int32 → hM → Prop) (h : hM) (x0 : Nat) (x1 : Int32) (x2 : Int32) (hw : P_Mod_isAhead Q h x0 x1 x2) : Met l y_Mod_isAhead [Cond.code y_Mod_isAhead b_Mod_isAhead 7 (some .boolean)] rm_Mod_isAhead (hPc κ w_cl w_tl w_tb [.ref x0, .int x1, .int x2] h) (hQ κ w_cl (qI Q)) 0 0 (h_A κ) := by
  refine h_enter w_TBm (by decide) (Nat.le_of_ble_eq_true rfl) ?_
  intro p e s m args below meth c C0 hnm hh hS ls hl
  obtain ⟨hx, hb, hml, hown, hts, hK, hF0, hrt, hlocks⟩ := id C0
  have hl : lv_has ls 7 [(0, .ref x0), (1, .int x1), (2, .int x2)] := hl
  refine lv_aload_n hx hb d_Mod_isAhead_0 rfl (lv_at hl 0 rfl) ?_
  refine lv_iload_n hx hb d_Mod_isAhead_1 rfl (lv_at hl 1 rfl) ?_
  obtain ⟨fs12, hr13, hw⟩ := hw
  refine h_callV (n := 1) C0 w_TBm hh hS hl.1 [.int x1] [] (S_Mod_priority _ _ _ _ hw) hr13 rfl k_m_Mod_117 k_inst_Mod_priority k_sel_Mod_priority k_ini_Mod k_code_Mod_priority (by decide +kernel) rfl rfl (Nat.le_of_ble_eq_true rfl) ⟨(Nat.le_of_ble_eq_true rfl), (Nat.le_of_ble_eq_true rfl)⟩ ⟨(Nat.le_of_ble_eq_true rfl), (Nat.le_of_ble_eq_true rfl)⟩ d_Mod_isAhead_2 (h_kJ (k := 0) (n := 0) (Nat.le_of_ble_eq_true rfl) (Nat.le_of_ble_eq_true rfl) (fun j15 h14 H locs hw hh hS => ?_))
  refine lv_lstore_n (lv' := [(3, .long j15), (0, .ref x0), (1, .int x1), (2, .int x2)]) hx hb d_Mod_isAhead_5 rfl hl (by decide) rfl (fun ls hl => ?_)
  refine lv_aload_n hx hb d_Mod_isAhead_6 rfl (lv_at hl 1 rfl) ?_
  refine lv_iload_n hx hb d_Mod_isAhead_7 rfl (lv_at hl 3 rfl) ?_
  obtain ⟨fs16, hr17, hw⟩ := hw
  refine h_callV (n := 1) C0 w_TBm hh hS hl.1 [.int x2] [] (S_Mod_priority _ _ _ _ hw) hr17 rfl k_m_Mod_117 k_inst_Mod_priority k_sel_Mod_priority k_ini_Mod k_code_Mod_priority (by decide +kernel) rfl rfl (Nat.le_of_ble_eq_true rfl) ⟨(Nat.le_of_ble_eq_true rfl), (Nat.le_of_ble_eq_true rfl)⟩ ⟨(Nat.le_of_ble_eq_true rfl), (Nat.le_of_ble_eq_true rfl)⟩ d_Mod_isAhead_8 (h_kJ (k := 0) (n := 0) (Nat.le_of_ble_eq_true rfl) (Nat.le_of_ble_eq_true rfl) (fun j19 h18 H locs hw hh hS => ?_))
  refine lv_lstore (lv' := [(5, .long j19), (3, .long j15), (0, .ref x0), (1, .int x1), (2, .int x2)]) hx hb d_Mod_isAhead_11 hl (by decide) rfl (fun ls hl => ?_)
  refine lv_lload_n hx hb d_Mod_isAhead_13 rfl (lv_at hl 1 rfl) ?_
  refine lv_lload hx hb d_Mod_isAhead_14 (lv_at hl 0 rfl) ?_
  refine W.lcmp hx hb d_Mod_isAhead_16 ?_
  refine lv_if_gt (tgt := 32) hx hb d_Mod_isAhead_17 (by decide) (fun c20 => ?_) (fun c20 => ?_)
  · have hw := hw.1 ((lg_cmp_gt _ _).mp c20)
    refine lv_iconst (v := 1) hx hb d_Mod_isAhead_32 (by decide) ?_
    refine lv_goto (tgt := 37) hx hb d_Mod_isAhead_33 (by decide) ?_
    exact h_iret C0 hh hS rfl rfl ⟨_, rfl, hw⟩ d_Mod_isAhead_37
  · have hw := hw.2 (fun z => c20 ((lg_cmp_gt _ _).mpr z))
    refine lv_lload_n hx hb d_Mod_isAhead_20 rfl (lv_at hl 1 rfl) ?_
    refine lv_lload hx hb d_Mod_isAhead_21 (lv_at hl 0 rfl) ?_
    refine W.lcmp hx hb d_Mod_isAhead_23 ?_
    refine lv_if_ne (tgt := 36) hx hb d_Mod_isAhead_24 (by decide) (fun c21 => ?_) (fun c21 => ?_)
    · have hw := hw.1 (fun z => c21 ((lg_cmp_eq _ _).mpr z))
      refine lv_iconst (v := 0) hx hb d_Mod_isAhead_36 (by decide) ?_
      exact h_iret C0 hh hS rfl rfl ⟨_, rfl, hw⟩ d_Mod_isAhead_37
    · have hw := hw.2 ((lg_cmp_eq _ _).mp c21)
      refine lv_iload_n hx hb d_Mod_isAhead_27 rfl (lv_at hl 3 rfl) ?_
      refine lv_iload_n hx hb d_Mod_isAhead_28 rfl (lv_at hl 4 rfl) ?_
      refine lv_icmp_ge (tgt := 36) hx hb d_Mod_isAhead_29 (by decide) (fun c22 => ?_) (fun c22 => ?_)
      · have hw := hw.1 c22
        refine lv_iconst (v := 0) hx hb d_Mod_isAhead_36 (by decide) ?_
        exact h_iret C0 hh hS rfl rfl ⟨_, rfl, hw⟩ d_Mod_isAhead_37
      · have hw := hw.2 c22
        refine lv_iconst (v := 1) hx hb d_Mod_isAhead_32 (by decide) ?_
        refine lv_goto (tgt := 37) hx hb d_Mod_isAhead_33 (by decide) ?_
        exact h_iret C0 hh hS rfl rfl ⟨_, rfl, hw⟩ d_Mod_isAhead_37
set_option maxHeartbeats 4000000 in
set_option maxRecDepth 100000 in
theorem S_Mod_next_146 {p : Program} {l : Launch} {e : Env} {s : State} {m : MethodId} {args : Array Value} {below : List Frame} {meth : Method} {c : Code} {κ : hX} {Q : Int32 → hM → Prop} {K84 : hM → Nat → Int32 → Int32 → Int32 → Int32 → Prop} (C0 : Cw κ w_cl w_tl w_tb p s m args meth c b_Mod_next 8 R_Mod (some .int)) (hK84 : ∀ (h : hM) (x0 : Nat) (x4 : Int32) (x5 : Int32) (x6 : Int32) (x7 : Int32) (H : Heap) (locs : List Loc) (ls : Array Slot), K84 h x0 x4 x5 x6 x7 → hp κ w_cl h H → va_S (h_A κ) s.heap H locs → lv_has ls 8 [(0, .ref x0), (4, .int x4), (5, .int x5), (6, .int x6), (7, .int x7)] → W p l e rm_Mod_next s m args below meth c H locs 0 0 (MQ below (hQ κ w_cl (qI Q)) args s 0 0 (h_A κ)) (F0 m 84 ls [])) : ∀ (h : hM) (x0 : Nat) (x4 : Int32) (x5 : Int32) (x6 : Int32) (x7 : Int32) (H : Heap) (locs : List Loc) (ls : Array Slot), P_Mod_next_146 Q K84 h x0 x4 x5 x6 x7 → hp κ w_cl h H → va_S (h_A κ) s.heap H locs → lv_has ls 8 [(0, .ref x0), (4, .int x4), (5, .int x5), (6, .int x6), (7, .int x7)] → W p l e rm_Mod_next s m args below meth c H locs 0 0 (MQ below (hQ κ w_cl (qI Q)) args s 0 0 (h_A κ)) (F0 m 146 ls []) := by
  obtain ⟨hx, hb, hml, hown, hts, hK, hF0, hrt, hlocks⟩ := id C0
  intro h x0 x4 x5 x6 x7 H locs ls hw hh hS hl
  obtain ⟨x7_213, ex7_213⟩ : ∃ z : Int32, z = x7 + 1 := ⟨_, rfl⟩
  have hw := hw x7_213 ex7_213
  refine lv_iinc (v := x7_213) (lv' := [(7, .int x7_213), (0, .ref x0), (4, .int x4), (5, .int x5), (6, .int x6)]) hx hb d_Mod_next_146 hl (k := 4) rfl (by rw [ex7_213]; rfl) (by decide) rfl (fun ls hl => ?_)
  refine lv_goto (tgt := 84) hx hb d_Mod_next_149 (by decide) ?_
  exact hK84 _ _ _ _ _ _ _ _ _ hw hh hS (lv_sub hl [1, 2, 3, 4, 0] rfl)
set_option maxHeartbeats 4000000 in
set_option maxRecDepth 100000 in
theorem S_Mod_next_158 {p : Program} {l : Launch} {e : Env} {s : State} {m : MethodId} {args : Array Value} {below : List Frame} {meth : Method} {c : Code} {κ : hX} {Q : Int32 → hM → Prop} (C0 : Cw κ w_cl w_tl w_tb p s m args meth c b_Mod_next 8 R_Mod (some .int)) : ∀ (h : hM) (x0 : Nat) (x4 : Int32) (x5 : Int32) (H : Heap) (locs : List Loc) (ls : Array Slot), P_Mod_next_158 Q h x0 x4 x5 → hp κ w_cl h H → va_S (h_A κ) s.heap H locs → lv_has ls 8 [(0, .ref x0), (4, .int x4), (5, .int x5)] → W p l e rm_Mod_next s m args below meth c H locs 0 0 (MQ below (hQ κ w_cl (qI Q)) args s 0 0 (h_A κ)) (F0 m 158 ls []) := by
  obtain ⟨hx, hb, hml, hown, hts, hK, hF0, hrt, hlocks⟩ := id C0
  intro h x0 x4 x5 H locs ls hw hh hS hl
  refine lv_iload hx hb d_Mod_next_158 (lv_at hl 2 rfl) ?_
  refine lv_iconst (v := -1) hx hb d_Mod_next_160 (by decide) ?_
  refine lv_icmp_ne (tgt := 166) hx hb d_Mod_next_161 (by decide) (fun c214 => ?_) (fun c214 => ?_)
  · have hw := hw.1 c214
    refine lv_aload_n hx hb d_Mod_next_166 rfl (lv_at hl 0 rfl) ?_
    obtain ⟨fs215, r218, hr216, hk217, hw⟩ := hw
    refine h_get C0 hh hr216 hk217 rfl i_Mod (by decide) k_f_Mod_13 (fun _ h9 => h9) d_Mod_next_167 ?_
    refine lv_iload hx hb d_Mod_next_170 (lv_at hl 1 rfl) ?_
    refine lv_iload hx hb d_Mod_next_172 (lv_at hl 2 rfl) ?_
    obtain ⟨n219, f220, hr221, hi222, hw⟩ := hw
    refine h_iast C0 hh hS hr221 hi222 rfl d_Mod_next_174 (fun H locs hh hS => ?_)
    obtain ⟨h223, eh223⟩ : ∃ z : hM, z = h_up h r218 (eT 0 n219 (upd f220 x4.toNatClampNeg x5)) := ⟨_, rfl⟩
    rw [← eh223] at hh
    have hw := hw h223 eh223
    refine lv_aload_n hx hb d_Mod_next_175 rfl (lv_at hl 0 rfl) ?_
    obtain ⟨fs224, r227, hr225, hk226, hw⟩ := hw
    refine h_get C0 hh hr225 hk226 rfl i_Mod (by decide) k_f_Mod_44 (fun _ h9 => h9) d_Mod_next_176 ?_
    refine lv_iload hx hb d_Mod_next_179 (lv_at hl 2 rfl) ?_
    refine lv_iconst (v := 2) hx hb d_Mod_next_181 (by decide) ?_
    obtain ⟨n228, f229, hr230, hi231, hw⟩ := hw
    refine h_iast C0 hh hS hr230 hi231 rfl d_Mod_next_182 (fun H locs hh hS => ?_)
    obtain ⟨h232, eh232⟩ : ∃ z : hM, z = h_up h223 r227 (eT 0 n228 (upd f229 x5.toNatClampNeg (2 : Int32))) := ⟨_, rfl⟩
    rw [← eh232] at hh
    have hw := hw h232 eh232
    refine lv_aload_n hx hb d_Mod_next_183 rfl (lv_at hl 0 rfl) ?_
    obtain ⟨fs233, r236, hr234, hk235, hw⟩ := hw
    refine h_get C0 hh hr234 hk235 rfl i_Mod (by decide) k_f_Mod_66 (fun _ h9 => h9) d_Mod_next_184 ?_
    refine lv_iload hx hb d_Mod_next_187 (lv_at hl 2 rfl) ?_
    refine lv_aload_n hx hb d_Mod_next_189 rfl (lv_at hl 0 rfl) ?_
    obtain ⟨fs237, j240, hr238, hk239, hw⟩ := hw
    refine h_get C0 hh hr238 hk239 rfl i_Mod (by decide) k_f_Mod_89 (fun _ h9 => h9) d_Mod_next_190 ?_
    obtain ⟨n241, f242, hr243, hi244, hw⟩ := hw
    refine h_last C0 hh hS hr243 hi244 rfl d_Mod_next_193 (fun H locs hh hS => ?_)
    obtain ⟨h245, eh245⟩ : ∃ z : hM, z = h_up h232 r236 (eJ 1 n241 (vp_updL f242 x5.toNatClampNeg j240)) := ⟨_, rfl⟩
    rw [← eh245] at hh
    have hw := hw h245 eh245
    refine lv_iload hx hb d_Mod_next_194 (lv_at hl 2 rfl) ?_
    refine lv_iconst (v := 1) hx hb d_Mod_next_196 (by decide) ?_
    refine lv_iadd hx hb d_Mod_next_197 ?_
    exact h_iret C0 hh hS rfl rfl ⟨_, rfl, hw⟩ d_Mod_next_198
  · have hw := hw.2 c214
    refine lv_iconst (v := 0) hx hb d_Mod_next_164 (by decide) ?_
    exact h_iret C0 hh hS rfl rfl ⟨_, rfl, hw⟩ d_Mod_next_165
set_option maxHeartbeats 4000000 in
set_option maxRecDepth 100000 in
theorem S_Mod_next_142 {p : Program} {l : Launch} {e : Env} {s : State} {m : MethodId} {args : Array Value} {below : List Frame} {meth : Method} {c : Code} {κ : hX} {Q : Int32 → hM → Prop} {K84 : hM → Nat → Int32 → Int32 → Int32 → Int32 → Prop} (C0 : Cw κ w_cl w_tl w_tb p s m args meth c b_Mod_next 8 R_Mod (some .int)) (hK84 : ∀ (h : hM) (x0 : Nat) (x4 : Int32) (x5 : Int32) (x6 : Int32) (x7 : Int32) (H : Heap) (locs : List Loc) (ls : Array Slot), K84 h x0 x4 x5 x6 x7 → hp κ w_cl h H → va_S (h_A κ) s.heap H locs → lv_has ls 8 [(0, .ref x0), (4, .int x4), (5, .int x5), (6, .int x6), (7, .int x7)] → W p l e rm_Mod_next s m args below meth c H locs 0 0 (MQ below (hQ κ w_cl (qI Q)) args s 0 0 (h_A κ)) (F0 m 84 ls [])) : ∀ (h : hM) (x0 : Nat) (x4 : Int32) (x6 : Int32) (x7 : Int32) (H : Heap) (locs : List Loc) (ls : Array Slot), P_Mod_next_142 Q K84 h x0 x4 x6 x7 → hp κ w_cl h H → va_S (h_A κ) s.heap H locs → lv_has ls 8 [(0, .ref x0), (4, .int x4), (6, .int x6), (7, .int x7)] → W p l e rm_Mod_next s m args below meth c H locs 0 0 (MQ below (hQ κ w_cl (qI Q)) args s 0 0 (h_A κ)) (F0 m 142 ls []) := by
  obtain ⟨hx, hb, hml, hown, hts, hK, hF0, hrt, hlocks⟩ := id C0
  intro h x0 x4 x6 x7 H locs ls hw hh hS hl
  refine lv_iload hx hb d_Mod_next_142 (lv_at hl 3 rfl) ?_
  refine lv_istore (lv' := [(5, .int x7), (0, .ref x0), (4, .int x4), (6, .int x6), (7, .int x7)]) hx hb d_Mod_next_144 hl (by decide) rfl (fun ls hl => ?_)
  exact S_Mod_next_146 C0 hK84 _ _ _ _ _ _ _ _ _ hw hh hS (lv_sub hl [1, 2, 0, 3, 4] rfl)
