set_option maxHeartbeats 4000000 in
set_option maxRecDepth 100000 in
theorem S_Rows_nextOfClass_64 {p : Program} {l : Launch} {e : Env} {s : State} {m : MethodId} {args : Array Value} {below : List Frame} {meth : Method} {c : Code} {κ : hX} {Q : Option Nat → hM → Prop} {K4 : hM → Nat → Int32 → Option Nat → Int32 → Prop} (C0 : Cw κ w_cl w_tl w_tb p s m args meth c b_Rows_nextOfClass 5 R_Rows (some (.object "InitiatorRows$Job"))) (hK4 : ∀ (h : hM) (x0 : Nat) (x1 : Int32) (x2 : Option Nat) (x3 : Int32) (H : Heap) (locs : List Loc) (ls : Array Slot), K4 h x0 x1 x2 x3 → hp κ w_cl h H → va_S (h_A κ) s.heap H locs → lv_has ls 5 [(0, .ref x0), (1, .int x1), (2, va_rf x2), (3, .int x3)] → W p l e rm_Rows_nextOfClass s m args below meth c H locs 0 0 (MQ below (hQ κ w_cl (qO Q)) args s 0 0 (h_A κ)) (F0 m 4 ls [])) : ∀ (h : hM) (x0 : Nat) (x1 : Int32) (x3 : Int32) (x4 : Nat) (H : Heap) (locs : List Loc) (ls : Array Slot), P_Rows_nextOfClass_64 Q K4 h x0 x1 x3 x4 → hp κ w_cl h H → va_S (h_A κ) s.heap H locs → lv_has ls 5 [(0, .ref x0), (1, .int x1), (3, .int x3), (4, .ref x4)] → W p l e rm_Rows_nextOfClass s m args below meth c H locs 0 0 (MQ below (hQ κ w_cl (qO Q)) args s 0 0 (h_A κ)) (F0 m 64 ls []) := by
  obtain ⟨hx, hb, hml, hown, hts, hK, hF0, hrt, hlocks⟩ := id C0
  intro h x0 x1 x3 x4 H locs ls hw hh hS hl
  refine lv_aload hx hb d_Rows_nextOfClass_64 (lv_at hl 3 rfl) ?_
  refine lv_astore_n (lv' := [(2, .ref x4), (0, .ref x0), (1, .int x1), (3, .int x3), (4, .ref x4)]) hx hb d_Rows_nextOfClass_66 rfl hl (by decide) rfl (fun ls hl => ?_)
  exact S_Rows_nextOfClass_67 C0 hK4 _ _ _ _ _ _ _ _ hw hh hS (lv_sub hl [1, 2, 0, 3] rfl)
set_option maxHeartbeats 4000000 in
set_option maxRecDepth 100000 in
theorem S_Rows_nextOfClass_4 {p : Program} {l : Launch} {e : Env} {s : State} {m : MethodId} {args : Array Value} {below : List Frame} {meth : Method} {c : Code} {κ : hX} {Q : Option Nat → hM → Prop} (C0 : Cw κ w_cl w_tl w_tb p s m args meth c b_Rows_nextOfClass 5 R_Rows (some (.object "InitiatorRows$Job"))) : ∀ (n : Nat) (h : hM) (x0 : Nat) (x1 : Int32) (x2 : Option Nat) (x3 : Int32) (H : Heap) (locs : List Loc) (ls : Array Slot), L_Rows_nextOfClass_4 Q n h x0 x1 x2 x3 → hp κ w_cl h H → va_S (h_A κ) s.heap H locs → lv_has ls 5 [(0, .ref x0), (1, .int x1), (2, va_rf x2), (3, .int x3)] → W p l e rm_Rows_nextOfClass s m args below meth c H locs 0 0 (MQ below (hQ κ w_cl (qO Q)) args s 0 0 (h_A κ)) (F0 m 4 ls []) := by
  obtain ⟨hx, hb, hml, hown, hts, hK, hF0, hrt, hlocks⟩ := id C0
  intro n
  induction n with
  | zero =>
    intro h x0 x1 x2 x3 H locs ls hw
    exact hw.elim
  | succ n hK4 =>
    intro h x0 x1 x2 x3 H locs ls hw hh hS hl
    have hw : P_Rows_nextOfClass_4 Q (L_Rows_nextOfClass_4 Q n) h x0 x1 x2 x3 := hw
    refine lv_iload_n hx hb d_Rows_nextOfClass_4 rfl (lv_at hl 3 rfl) ?_
    refine lv_aload_n hx hb d_Rows_nextOfClass_5 rfl (lv_at hl 0 rfl) ?_
    obtain ⟨fs76, r79, hr77, hk78, hw⟩ := hw
    refine h_get C0 hh hr77 hk78 rfl i_Rows (by decide) k_f_Rows_16 (fun _ h9 => h9) d_Rows_nextOfClass_6 ?_
    obtain ⟨fs80, hr81, hw⟩ := hw
    refine h_callV (n := 0) C0 w_TBm hh hS hl.1 [] [.int x3] (S_AL_size _ _ _ hw) hr81 rfl k_m_Rows_60 k_inst_AL_size k_sel_AL_size k_ini_AL k_code_AL_size (by decide +kernel) rfl rfl (Nat.le_of_ble_eq_true rfl) ⟨(Nat.le_of_ble_eq_true rfl), (Nat.le_of_ble_eq_true rfl)⟩ ⟨(Nat.le_of_ble_eq_true rfl), (Nat.le_of_ble_eq_true rfl)⟩ d_Rows_nextOfClass_9 (h_kI (k := 0) (n := 0) (Nat.le_of_ble_eq_true rfl) (Nat.le_of_ble_eq_true rfl) (fun i83 h82 H locs hw hh hS => ?_))
    refine lv_icmp_ge (tgt := 73) hx hb d_Rows_nextOfClass_12 (by decide) (fun c84 => ?_) (fun c84 => ?_)
    · have hw := hw.1 c84
      refine h_aload_nO hx hb d_Rows_nextOfClass_73 rfl (lv_at hl 2 rfl) ?_
      exact h_aret (o := x2) C0 hh hS rfl (Or.inl ⟨_, rfl⟩) ⟨_, rfl, hw⟩ d_Rows_nextOfClass_74
    · have hw := hw.2 c84
      refine lv_aload_n hx hb d_Rows_nextOfClass_15 rfl (lv_at hl 0 rfl) ?_
      obtain ⟨fs85, r88, hr86, hk87, hw⟩ := hw
      refine h_get C0 hh hr86 hk87 rfl i_Rows (by decide) k_f_Rows_16 (fun _ h9 => h9) d_Rows_nextOfClass_16 ?_
      refine lv_iload_n hx hb d_Rows_nextOfClass_19 rfl (lv_at hl 3 rfl) ?_
      obtain ⟨fs89, hr90, hw⟩ := hw
      refine h_callV (n := 1) C0 w_TBm hh hS hl.1 [.int x3] [] (S_AL_get _ _ _ _ hw) hr90 rfl k_m_Rows_156 k_inst_AL_get k_sel_AL_get k_ini_AL k_code_AL_get (by decide +kernel) rfl rfl (Nat.le_of_ble_eq_true rfl) ⟨(Nat.le_of_ble_eq_true rfl), (Nat.le_of_ble_eq_true rfl)⟩ ⟨(Nat.le_of_ble_eq_true rfl), (Nat.le_of_ble_eq_true rfl)⟩ d_Rows_nextOfClass_20 (h_kO (k := 0) (n := 0) (Nat.le_of_ble_eq_true rfl) (Nat.le_of_ble_eq_true rfl) (fun o92 h91 H locs hw hh hS => ?_))
      rcases o92 with _ | a93
      · have hw := hw.1 rfl
        have hl : lv_has ls 5 [(0, .ref x0), (1, .int x1), (2, va_rf x2), (3, .int x3)] := hl
        refine lv_castN hx hb d_Rows_nextOfClass_23 ?_
        refine lv_astoreN (lv' := [(4, .null), (0, .ref x0), (1, .int x1), (2, va_rf x2), (3, .int x3)]) hx hb d_Rows_nextOfClass_26 hl (by decide) rfl (fun ls hl => ?_)
        refine lv_aloadN hx hb d_Rows_nextOfClass_28 (lv_at hl 0 rfl) ?_
        exact hw.elim
      · have hw := hw.2 a93 rfl
        have hl : lv_has ls 5 [(0, .ref x0), (1, .int x1), (2, va_rf x2), (3, .int x3)] := hl
        obtain ⟨⟨fs94, hr95⟩, hw⟩ := hw
        refine h_cast C0 hh hr95 rfl k_c_Rows_86 d_Rows_nextOfClass_23 ?_
        refine lv_astore (lv' := [(4, .ref a93), (0, .ref x0), (1, .int x1), (2, va_rf x2), (3, .int x3)]) hx hb d_Rows_nextOfClass_26 hl (by decide) rfl (fun ls hl => ?_)
        refine lv_aload hx hb d_Rows_nextOfClass_28 (lv_at hl 0 rfl) ?_
        obtain ⟨fs96, i99, hr97, hk98, hw⟩ := hw
        refine h_get C0 hh hr97 hk98 rfl i_Job (by decide) k_f_Rows_194 (fun _ h9 => h9) d_Rows_nextOfClass_30 ?_
        refine lv_iload_n hx hb d_Rows_nextOfClass_33 rfl (lv_at hl 2 rfl) ?_
        refine lv_icmp_ne (tgt := 67) hx hb d_Rows_nextOfClass_34 (by decide) (fun c100 => ?_) (fun c100 => ?_)
        · have hw := hw.1 c100
          exact S_Rows_nextOfClass_67 C0 hK4 _ _ _ _ _ _ _ _ hw hh hS (lv_sub hl [1, 2, 3, 4] rfl)
        · have hw := hw.2 c100
          refine lv_aload_n hx hb d_Rows_nextOfClass_37 rfl (lv_at hl 1 rfl) ?_
          refine lv_aload hx hb d_Rows_nextOfClass_38 (lv_at hl 0 rfl) ?_
          obtain ⟨fs101, hr102, hw⟩ := hw
          refine h_callV (n := 1) C0 w_TBm hh hS hl.1 [.ref a93] [] (S_Rows_mayStart _ _ _ _ hw) hr102 rfl k_m_Rows_197 k_inst_Rows_mayStart k_sel_Rows_mayStart k_ini_Rows k_code_Rows_mayStart (by decide +kernel) rfl rfl (Nat.le_of_ble_eq_true rfl) ⟨(Nat.le_of_ble_eq_true rfl), (Nat.le_of_ble_eq_true rfl)⟩ ⟨(Nat.le_of_ble_eq_true rfl), (Nat.le_of_ble_eq_true rfl)⟩ d_Rows_nextOfClass_40 (h_kI (k := 0) (n := 0) (Nat.le_of_ble_eq_true rfl) (Nat.le_of_ble_eq_true rfl) (fun i104 h103 H locs hw hh hS => ?_))
          refine lv_if_eq (tgt := 67) hx hb d_Rows_nextOfClass_43 (by decide) (fun c105 => ?_) (fun c105 => ?_)
          · have hw := hw.1 c105
            exact S_Rows_nextOfClass_67 C0 hK4 _ _ _ _ _ _ _ _ hw hh hS (lv_sub hl [1, 2, 3, 4] rfl)
          · have hw := hw.2 c105
            refine h_aload_nO hx hb d_Rows_nextOfClass_46 rfl (lv_at hl 3 rfl) ?_
            rcases x2 with _ | a107
            · have hw := hw.1 rfl
              have hl : lv_has ls 5 [(4, .ref a93), (0, .ref x0), (1, .int x1), (2, .null), (3, .int x3)] := hl
              refine lv_ifnullN (tgt := 64) hx hb d_Rows_nextOfClass_47 (by decide) ?_
              exact S_Rows_nextOfClass_64 C0 hK4 _ _ _ _ _ _ _ _ hw hh hS (lv_sub hl [1, 2, 4, 0] rfl)
            · have hw := hw.2 a107 rfl
              have hl : lv_has ls 5 [(4, .ref a93), (0, .ref x0), (1, .int x1), (2, .ref a107), (3, .int x3)] := hl
              refine lv_ifnull hx hb d_Rows_nextOfClass_47 ?_
              refine lv_aload_n hx hb d_Rows_nextOfClass_50 rfl (lv_at hl 1 rfl) ?_
              refine lv_aload hx hb d_Rows_nextOfClass_51 (lv_at hl 0 rfl) ?_
              obtain ⟨fs108, hr109, hw⟩ := hw
              refine h_callV (n := 1) C0 w_TBm hh hS hl.1 [.ref a93] [] (S_Rows_priorityNow _ _ _ _ hw) hr109 rfl k_m_Rows_160 k_inst_Rows_priorityNow k_sel_Rows_priorityNow k_ini_Rows k_code_Rows_priorityNow (by decide +kernel) rfl rfl (Nat.le_of_ble_eq_true rfl) ⟨(Nat.le_of_ble_eq_true rfl), (Nat.le_of_ble_eq_true rfl)⟩ ⟨(Nat.le_of_ble_eq_true rfl), (Nat.le_of_ble_eq_true rfl)⟩ d_Rows_nextOfClass_53 (h_kI (k := 0) (n := 0) (Nat.le_of_ble_eq_true rfl) (Nat.le_of_ble_eq_true rfl) (fun i111 h110 H locs hw hh hS => ?_))
              refine lv_aload_n hx hb d_Rows_nextOfClass_56 rfl (lv_at hl 1 rfl) ?_
              refine lv_aload_n hx hb d_Rows_nextOfClass_57 rfl (lv_at hl 3 rfl) ?_
              obtain ⟨fs112, hr113, hw⟩ := hw
              refine h_callV (n := 1) C0 w_TBm hh hS hl.1 [.ref a107] [.int i111] (S_Rows_priorityNow _ _ _ _ hw) hr113 rfl k_m_Rows_160 k_inst_Rows_priorityNow k_sel_Rows_priorityNow k_ini_Rows k_code_Rows_priorityNow (by decide +kernel) rfl rfl (Nat.le_of_ble_eq_true rfl) ⟨(Nat.le_of_ble_eq_true rfl), (Nat.le_of_ble_eq_true rfl)⟩ ⟨(Nat.le_of_ble_eq_true rfl), (Nat.le_of_ble_eq_true rfl)⟩ d_Rows_nextOfClass_58 (h_kI (k := 0) (n := 0) (Nat.le_of_ble_eq_true rfl) (Nat.le_of_ble_eq_true rfl) (fun i115 h114 H locs hw hh hS => ?_))
              refine lv_icmp_le (tgt := 67) hx hb d_Rows_nextOfClass_61 (by decide) (fun c116 => ?_) (fun c116 => ?_)
              · have hw := hw.1 c116
                exact S_Rows_nextOfClass_67 C0 hK4 _ _ _ _ _ _ _ _ hw hh hS (lv_sub hl [1, 2, 3, 4] rfl)
              · have hw := hw.2 c116
                exact S_Rows_nextOfClass_64 C0 hK4 _ _ _ _ _ _ _ _ hw hh hS (lv_sub hl [1, 2, 4, 0] rfl)
set_option maxHeartbeats 4000000 in
set_option maxRecDepth 100000 in
theorem S_Rows_nextOfClass {l : Launch} {κ : hX} (Q : Option Nat → hM → Prop) (h : hM) (x0 : Nat) (x1 : Int32) (hw : P_Rows_nextOfClass Q h x0 x1) : Met l y_Rows_nextOfClass [Cond.code y_Rows_nextOfClass b_Rows_nextOfClass 5 (some (.object "InitiatorRows$Job"))] rm_Rows_nextOfClass (hPc κ w_cl w_tl w_tb [.ref x0, .int x1] h) (hQ κ w_cl (qO Q)) 0 0 (h_A κ) := by
  refine h_enter w_TBm (by decide) (Nat.le_of_ble_eq_true rfl) ?_
  intro p e s m args below meth c C0 hnm hh hS ls hl
  obtain ⟨hx, hb, hml, hown, hts, hK, hF0, hrt, hlocks⟩ := id C0
  have hl : lv_has ls 5 [(0, .ref x0), (1, .int x1)] := hl
  refine lv_null hx hb d_Rows_nextOfClass_0 ?_
  refine lv_astore_nN (lv' := [(2, .null), (0, .ref x0), (1, .int x1)]) hx hb d_Rows_nextOfClass_1 rfl hl (by decide) rfl (fun ls hl => ?_)
  refine lv_iconst (v := 0) hx hb d_Rows_nextOfClass_2 (by decide) ?_
  refine lv_istore_n (lv' := [(3, .int (0 : Int32)), (2, .null), (0, .ref x0), (1, .int x1)]) hx hb d_Rows_nextOfClass_3 rfl hl (by decide) rfl (fun ls hl => ?_)
  obtain ⟨n0, hw⟩ := hw
  exact S_Rows_nextOfClass_4 C0 n0 _ _ _ _ _ _ _ _ hw hh hS (lv_sub hl [2, 3, 1, 0] rfl)
set_option maxHeartbeats 4000000 in
set_option maxRecDepth 100000 in
theorem S_Rows_nextFor_32 {p : Program} {l : Launch} {e : Env} {s : State} {m : MethodId} {args : Array Value} {below : List Frame} {meth : Method} {c : Code} {κ : hX} {Q : Option Nat → hM → Prop} {K2 : hM → Nat → Nat → Int32 → Prop} (C0 : Cw κ w_cl w_tl w_tb p s m args meth c b_Rows_nextFor 5 R_Rows (some (.object "InitiatorRows$Job"))) (hK2 : ∀ (h : hM) (x0 : Nat) (x1 : Nat) (x2 : Int32) (H : Heap) (locs : List Loc) (ls : Array Slot), K2 h x0 x1 x2 → hp κ w_cl h H → va_S (h_A κ) s.heap H locs → lv_has ls 5 [(0, .ref x0), (1, .ref x1), (2, .int x2)] → W p l e rm_Rows_nextFor s m args below meth c H locs 0 0 (MQ below (hQ κ w_cl (qO Q)) args s 0 0 (h_A κ)) (F0 m 2 ls [])) : ∀ (h : hM) (x0 : Nat) (x1 : Nat) (x2 : Int32) (t0 : Option Nat) (H : Heap) (locs : List Loc) (ls : Array Slot), P_Rows_nextFor_32 Q K2 h x0 x1 x2 t0 → hp κ w_cl h H → va_S (h_A κ) s.heap H locs → lv_has ls 5 [(0, .ref x0), (1, .ref x1), (2, .int x2)] → W p l e rm_Rows_nextFor s m args below meth c H locs 0 0 (MQ below (hQ κ w_cl (qO Q)) args s 0 0 (h_A κ)) (F0 m 32 ls [va_rf t0]) := by
  obtain ⟨hx, hb, hml, hown, hts, hK, hF0, hrt, hlocks⟩ := id C0
  intro h x0 x1 x2 t0 H locs ls hw hh hS hl
  refine h_astoreO (lv' := [(4, va_rf t0), (0, .ref x0), (1, .ref x1), (2, .int x2)]) hx hb d_Rows_nextFor_32 hl (by decide) rfl (fun ls hl => ?_)
  refine h_aloadO hx hb d_Rows_nextFor_34 (lv_at hl 0 rfl) ?_
  rcases t0 with _ | a52
  · have hw := hw.1 rfl
    have hl : lv_has ls 5 [(4, .null), (0, .ref x0), (1, .ref x1), (2, .int x2)] := hl
    refine lv_ifnullN (tgt := 42) hx hb d_Rows_nextFor_36 (by decide) ?_
    obtain ⟨x2_53, ex2_53⟩ : ∃ z : Int32, z = x2 + 1 := ⟨_, rfl⟩
    have hw := hw x2_53 ex2_53
    refine lv_iinc (v := x2_53) (lv' := [(2, .int x2_53), (4, .null), (0, .ref x0), (1, .ref x1)]) hx hb d_Rows_nextFor_42 hl (k := 3) rfl (by rw [ex2_53]; rfl) (by decide) rfl (fun ls hl => ?_)
    refine lv_goto (tgt := 2) hx hb d_Rows_nextFor_45 (by decide) ?_
    exact hK2 _ _ _ _ _ _ _ hw hh hS (lv_sub hl [2, 3, 0] rfl)
  · have hw := hw.2 a52 rfl
    have hl : lv_has ls 5 [(4, .ref a52), (0, .ref x0), (1, .ref x1), (2, .int x2)] := hl
    refine lv_ifnull hx hb d_Rows_nextFor_36 ?_
    refine lv_aload hx hb d_Rows_nextFor_39 (lv_at hl 0 rfl) ?_
    exact h_aret (o := (some a52)) C0 hh hS rfl (Or.inl ⟨_, rfl⟩) ⟨_, rfl, hw⟩ d_Rows_nextFor_41
set_option maxHeartbeats 4000000 in
set_option maxRecDepth 100000 in
theorem S_Rows_nextFor_2 {p : Program} {l : Launch} {e : Env} {s : State} {m : MethodId} {args : Array Value} {below : List Frame} {meth : Method} {c : Code} {κ : hX} {Q : Option Nat → hM → Prop} (C0 : Cw κ w_cl w_tl w_tb p s m args meth c b_Rows_nextFor 5 R_Rows (some (.object "InitiatorRows$Job"))) : ∀ (n : Nat) (h : hM) (x0 : Nat) (x1 : Nat) (x2 : Int32) (H : Heap) (locs : List Loc) (ls : Array Slot), L_Rows_nextFor_2 Q n h x0 x1 x2 → hp κ w_cl h H → va_S (h_A κ) s.heap H locs → lv_has ls 5 [(0, .ref x0), (1, .ref x1), (2, .int x2)] → W p l e rm_Rows_nextFor s m args below meth c H locs 0 0 (MQ below (hQ κ w_cl (qO Q)) args s 0 0 (h_A κ)) (F0 m 2 ls []) := by
  obtain ⟨hx, hb, hml, hown, hts, hK, hF0, hrt, hlocks⟩ := id C0
  intro n
  induction n with
  | zero =>
    intro h x0 x1 x2 H locs ls hw
    exact hw.elim
  | succ n hK2 =>
    intro h x0 x1 x2 H locs ls hw hh hS hl
    have hw : P_Rows_nextFor_2 Q (L_Rows_nextFor_2 Q n) h x0 x1 x2 := hw
    refine lv_iload_n hx hb d_Rows_nextFor_2 rfl (lv_at hl 2 rfl) ?_
    refine lv_aload_n hx hb d_Rows_nextFor_3 rfl (lv_at hl 1 rfl) ?_
    obtain ⟨fs54, r57, hr55, hk56, hw⟩ := hw
    refine h_get C0 hh hr55 hk56 rfl i_Ini (by decide) k_f_Rows_83 (fun _ h9 => h9) d_Rows_nextFor_4 ?_
    obtain ⟨n58, f59, hr60, hw⟩ := hw
    refine h_alenT C0 hh hr60 (rfl : w_tl[0]? = _) d_Rows_nextFor_7 ?_
    refine lv_icmp_ge (tgt := 48) hx hb d_Rows_nextFor_8 (by decide) (fun c61 => ?_) (fun c61 => ?_)
    · have hw := hw.1 c61
      refine lv_null hx hb d_Rows_nextFor_48 ?_
      exact h_aret (o := none) C0 hh hS rfl (Or.inl ⟨_, rfl⟩) ⟨_, rfl, hw⟩ d_Rows_nextFor_49
    · have hw := hw.2 c61
      refine lv_aload_n hx hb d_Rows_nextFor_11 rfl (lv_at hl 1 rfl) ?_
      obtain ⟨fs62, r65, hr63, hk64, hw⟩ := hw
      refine h_get C0 hh hr63 hk64 rfl i_Ini (by decide) k_f_Rows_83 (fun _ h9 => h9) d_Rows_nextFor_12 ?_
      refine lv_iload_n hx hb d_Rows_nextFor_15 rfl (lv_at hl 2 rfl) ?_
      obtain ⟨n66, f67, hr68, hi69, hw⟩ := hw
      refine h_iald C0 hh hr68 hi69 rfl d_Rows_nextFor_16 ?_
      refine lv_topi (fun x3_70 ex3_70 => ?_)
      have hw := hw x3_70 ex3_70
      refine lv_istore_n (lv' := [(3, .int x3_70), (0, .ref x0), (1, .ref x1), (2, .int x2)]) hx hb d_Rows_nextFor_17 rfl hl (by decide) rfl (fun ls hl => ?_)
      refine lv_iload_n hx hb d_Rows_nextFor_18 rfl (lv_at hl 0 rfl) ?_
      refine lv_iconst (v := -1) hx hb d_Rows_nextFor_19 (by decide) ?_
      refine lv_icmp_ne (tgt := 27) hx hb d_Rows_nextFor_20 (by decide) (fun c71 => ?_) (fun c71 => ?_)
      · have hw := hw.1 c71
        refine lv_aload_n hx hb d_Rows_nextFor_27 rfl (lv_at hl 1 rfl) ?_
        refine lv_iload_n hx hb d_Rows_nextFor_28 rfl (lv_at hl 0 rfl) ?_
        obtain ⟨fs72, hr73, hw⟩ := hw
        refine h_callV (n := 1) C0 w_TBm hh hS hl.1 [.int x3_70] [] (S_Rows_nextOfClass _ _ _ _ hw) hr73 rfl k_m_Rows_191 k_inst_Rows_nextOfClass k_sel_Rows_nextOfClass k_ini_Rows k_code_Rows_nextOfClass (by decide +kernel) rfl rfl (Nat.le_of_ble_eq_true rfl) ⟨(Nat.le_of_ble_eq_true rfl), (Nat.le_of_ble_eq_true rfl)⟩ ⟨(Nat.le_of_ble_eq_true rfl), (Nat.le_of_ble_eq_true rfl)⟩ d_Rows_nextFor_29 (h_kO (k := 0) (n := 0) (Nat.le_of_ble_eq_true rfl) (Nat.le_of_ble_eq_true rfl) (fun o75 h74 H locs hw hh hS => ?_))
        exact S_Rows_nextFor_32 C0 hK2 _ _ _ _ _ _ _ _ hw hh hS (lv_sub hl [1, 2, 3] rfl)
      · have hw := hw.2 c71
        refine lv_null hx hb d_Rows_nextFor_23 ?_
        refine lv_goto (tgt := 32) hx hb d_Rows_nextFor_24 (by decide) ?_
        exact S_Rows_nextFor_32 C0 hK2 _ _ _ _ _ _ _ _ hw hh hS (lv_sub hl [1, 2, 3] rfl)
set_option maxHeartbeats 4000000 in
set_option maxRecDepth 100000 in
theorem S_Rows_nextFor {l : Launch} {κ : hX} (Q : Option Nat → hM → Prop) (h : hM) (x0 : Nat) (x1 : Nat) (hw : P_Rows_nextFor Q h x0 x1) : Met l y_Rows_nextFor [Cond.code y_Rows_nextFor b_Rows_nextFor 5 (some (.object "InitiatorRows$Job"))] rm_Rows_nextFor (hPc κ w_cl w_tl w_tb [.ref x0, .ref x1] h) (hQ κ w_cl (qO Q)) 0 0 (h_A κ) := by
  refine h_enter w_TBm (by decide) (Nat.le_of_ble_eq_true rfl) ?_
  intro p e s m args below meth c C0 hnm hh hS ls hl
  obtain ⟨hx, hb, hml, hown, hts, hK, hF0, hrt, hlocks⟩ := id C0
  have hl : lv_has ls 5 [(0, .ref x0), (1, .ref x1)] := hl
  refine lv_iconst (v := 0) hx hb d_Rows_nextFor_0 (by decide) ?_
  refine lv_istore_n (lv' := [(2, .int (0 : Int32)), (0, .ref x0), (1, .ref x1)]) hx hb d_Rows_nextFor_1 rfl hl (by decide) rfl (fun ls hl => ?_)
  obtain ⟨n0, hw⟩ := hw
  exact S_Rows_nextFor_2 C0 n0 _ _ _ _ _ _ _ hw hh hS (lv_sub hl [1, 2, 0] rfl)
set_option maxHeartbeats 4000000 in
set_option maxRecDepth 100000 in
theorem S_Rows_startJob {l : Launch} {κ : hX} (Q : hM → Prop) (h : hM) (x0 : Nat) (x1 : Nat) (x2 : Nat) (hw : P_Rows_startJob Q h x0 x1 x2) : Met l y_Rows_startJob [Cond.code y_Rows_startJob b_Rows_startJob 3 none] rm_Rows_startJob (hPc κ w_cl w_tl w_tb [.ref x0, .ref x1, .ref x2] h) (hQ κ w_cl (qV Q)) 0 0 (h_A κ) := by
  refine h_enter w_TBm (by decide) (Nat.le_of_ble_eq_true rfl) ?_
  intro p e s m args below meth c C0 hnm hh hS ls hl
  obtain ⟨hx, hb, hml, hown, hts, hK, hF0, hrt, hlocks⟩ := id C0
  have hl : lv_has ls 3 [(0, .ref x0), (1, .ref x1), (2, .ref x2)] := hl
  refine lv_aload_n hx hb d_Rows_startJob_0 rfl (lv_at hl 1 rfl) ?_
  refine lv_aload_n hx hb d_Rows_startJob_1 rfl (lv_at hl 2 rfl) ?_
  obtain ⟨fs29, i32, hr30, hk31, hw⟩ := hw
  refine h_get C0 hh hr30 hk31 rfl i_Job (by decide) k_f_Rows_136 (fun _ h9 => h9) d_Rows_startJob_2 ?_
  obtain ⟨fs33, hr34, hk35, hw⟩ := hw
  refine h_put C0 hh hS (v := .int i32) hr34 hk35 rfl i_Ini t_Ini t_Ini_ok n_Ini (by decide) k_f_Rows_125 (fun _ h9 => h9) rfl rfl rfl rfl d_Rows_startJob_5 (fun H locs hh hS => ?_)
  obtain ⟨h36, eh36⟩ : ∃ z : hM, z = h_up h x1 (eO 3 (fs33.set 2 (.int i32))) := ⟨_, rfl⟩
  rw [← eh36] at hh
  have hw := hw h36 eh36
  refine lv_aload_n hx hb d_Rows_startJob_8 rfl (lv_at hl 2 rfl) ?_
  refine lv_iconst (v := 2) hx hb d_Rows_startJob_9 (by decide) ?_
  obtain ⟨fs37, hr38, hk39, hw⟩ := hw
  refine h_put C0 hh hS (v := .int (2 : Int32)) hr38 hk39 rfl i_Job t_Job t_Job_ok n_Job (by decide) k_f_Rows_119 (fun _ h9 => h9) rfl rfl rfl rfl d_Rows_startJob_10 (fun H locs hh hS => ?_)
  obtain ⟨h40, eh40⟩ : ∃ z : hM, z = h_up h36 x2 (eO 1 (fs37.set 8 (.int (2 : Int32)))) := ⟨_, rfl⟩
  rw [← eh40] at hh
  have hw := hw h40 eh40
  refine lv_aload_n hx hb d_Rows_startJob_13 rfl (lv_at hl 2 rfl) ?_
  refine lv_aload_n hx hb d_Rows_startJob_14 rfl (lv_at hl 0 rfl) ?_
  obtain ⟨fs41, j44, hr42, hk43, hw⟩ := hw
  refine h_get C0 hh hr42 hk43 rfl i_Rows (by decide) k_f_Rows_49 (fun _ h9 => h9) d_Rows_startJob_15 ?_
  obtain ⟨fs45, hr46, hk47, hw⟩ := hw
  refine h_put C0 hh hS (v := .long j44) hr46 hk47 rfl i_Job t_Job t_Job_ok n_Job (by decide) k_f_Rows_164 (fun _ h9 => h9) rfl rfl rfl rfl d_Rows_startJob_18 (fun H locs hh hS => ?_)
  obtain ⟨h48, eh48⟩ : ∃ z : hM, z = h_up h40 x2 (eO 1 (fs45.set 9 (.long j44))) := ⟨_, rfl⟩
  rw [← eh48] at hh
  have hw := hw h48 eh48
  refine lv_aload_n hx hb d_Rows_startJob_21 rfl (lv_at hl 0 rfl) ?_
  obtain ⟨fs49, r52, hr50, hk51, hw⟩ := hw
  refine h_get C0 hh hr50 hk51 rfl i_Rows (by decide) k_f_Rows_38 (fun _ h9 => h9) d_Rows_startJob_22 ?_
  refine lv_aload_n hx hb d_Rows_startJob_25 rfl (lv_at hl 2 rfl) ?_
  obtain ⟨fs53, hr54, hw⟩ := hw
  refine h_callV (n := 1) C0 w_TBm hh hS hl.1 [.ref x2] [] (S_Load_take _ _ _ _ hw) hr54 rfl k_m_Rows_235 k_inst_Load_take k_sel_Load_take k_ini_Load k_code_Load_take (by decide +kernel) rfl rfl (Nat.le_of_ble_eq_true rfl) ⟨(Nat.le_of_ble_eq_true rfl), (Nat.le_of_ble_eq_true rfl)⟩ ⟨(Nat.le_of_ble_eq_true rfl), (Nat.le_of_ble_eq_true rfl)⟩ d_Rows_startJob_26 (h_kV (k := 0) (n := 0) (Nat.le_of_ble_eq_true rfl) (Nat.le_of_ble_eq_true rfl) (fun h55 H locs hw hh hS => ?_))
  exact h_vret C0 hh hS rfl ⟨rfl, hw⟩ d_Rows_startJob_29
set_option maxHeartbeats 4000000 in
set_option maxRecDepth 100000 in
theorem S_Rows_next {l : Launch} {κ : hX} (Q : Int32 → hM → Prop) (h : hM) (x0 : Nat) (x1 : Int32) (x2 : Int64) (hw : P_Rows_next Q h x0 x1 x2) : Met l y_Rows_next [Cond.code y_Rows_next b_Rows_next 6 (some .int)] rm_Rows_next (hPc κ w_cl w_tl w_tb [.ref x0, .int x1, .long x2] h) (hQ κ w_cl (qI Q)) 0 0 (h_A κ) := by
  refine h_enter w_TBm (by decide) (Nat.le_of_ble_eq_true rfl) ?_
  intro p e s m args below meth c C0 hnm hh hS ls hl
  obtain ⟨hx, hb, hml, hown, hts, hK, hF0, hrt, hlocks⟩ := id C0
  have hl : lv_has ls 6 [(0, .ref x0), (1, .int x1), (2, .long x2)] := hl
  refine lv_aload_n hx hb d_Rows_next_0 rfl (lv_at hl 0 rfl) ?_
  refine lv_iload_n hx hb d_Rows_next_1 rfl (lv_at hl 1 rfl) ?_
  obtain ⟨fs40, hr41, hw⟩ := hw
  refine h_callV (n := 1) C0 w_TBm hh hS hl.1 [.int x1] [] (S_Rows_findInitiator _ _ _ _ hw) hr41 rfl k_m_Rows_71 k_inst_Rows_findInitiator k_sel_Rows_findInitiator k_ini_Rows k_code_Rows_findInitiator (by decide +kernel) rfl rfl (Nat.le_of_ble_eq_true rfl) ⟨(Nat.le_of_ble_eq_true rfl), (Nat.le_of_ble_eq_true rfl)⟩ ⟨(Nat.le_of_ble_eq_true rfl), (Nat.le_of_ble_eq_true rfl)⟩ d_Rows_next_2 (h_kO (k := 0) (n := 0) (Nat.le_of_ble_eq_true rfl) (Nat.le_of_ble_eq_true rfl) (fun o43 h42 H locs hw hh hS => ?_))
  refine h_astoreO (lv' := [(4, va_rf o43), (0, .ref x0), (1, .int x1), (2, .long x2)]) hx hb d_Rows_next_5 hl (by decide) rfl (fun ls hl => ?_)
  refine h_aloadO hx hb d_Rows_next_7 (lv_at hl 0 rfl) ?_
  rcases o43 with _ | a45
  · have hw := hw.1 rfl
    have hl : lv_has ls 6 [(4, .null), (0, .ref x0), (1, .int x1), (2, .long x2)] := hl
    refine lv_ifnonnullN hx hb d_Rows_next_9 ?_
    refine lv_bipush (v := -2) hx hb d_Rows_next_12 (by decide) ?_
    exact h_iret C0 hh hS rfl rfl ⟨_, rfl, hw⟩ d_Rows_next_14
  · have hw := hw.2 a45 rfl
    have hl : lv_has ls 6 [(4, .ref a45), (0, .ref x0), (1, .int x1), (2, .long x2)] := hl
    refine lv_ifnonnull (tgt := 15) hx hb d_Rows_next_9 (by decide) ?_
    refine lv_lload_n hx hb d_Rows_next_15 rfl (lv_at hl 3 rfl) ?_
    refine lv_aload_n hx hb d_Rows_next_16 rfl (lv_at hl 1 rfl) ?_
    obtain ⟨fs46, j49, hr47, hk48, hw⟩ := hw
    refine h_get C0 hh hr47 hk48 rfl i_Rows (by decide) k_f_Rows_49 (fun _ h9 => h9) d_Rows_next_17 ?_
    refine W.lcmp hx hb d_Rows_next_20 ?_
    refine lv_if_ge (tgt := 27) hx hb d_Rows_next_21 (by decide) (fun c50 => ?_) (fun c50 => ?_)
    · have hw := hw.1 ((lg_cmp_ge _ _).mp c50)
      refine lv_aload hx hb d_Rows_next_27 (lv_at hl 0 rfl) ?_
      obtain ⟨fs51, i54, hr52, hk53, hw⟩ := hw
      refine h_get C0 hh hr52 hk53 rfl i_Ini (by decide) k_f_Rows_122 (fun _ h9 => h9) d_Rows_next_29 ?_
      refine lv_if_ne (tgt := 43) hx hb d_Rows_next_32 (by decide) (fun c55 => ?_) (fun c55 => ?_)
      · have hw := hw.1 c55
        refine lv_bipush (v := -5) hx hb d_Rows_next_43 (by decide) ?_
        exact h_iret C0 hh hS rfl rfl ⟨_, rfl, hw⟩ d_Rows_next_45
      · have hw := hw.2 c55
        refine lv_aload hx hb d_Rows_next_35 (lv_at hl 0 rfl) ?_
        obtain ⟨fs56, i59, hr57, hk58, hw⟩ := hw
        refine h_get C0 hh hr57 hk58 rfl i_Ini (by decide) k_f_Rows_125 (fun _ h9 => h9) d_Rows_next_37 ?_
        refine lv_if_eq (tgt := 46) hx hb d_Rows_next_40 (by decide) (fun c60 => ?_) (fun c60 => ?_)
        · have hw := hw.1 c60
          refine lv_aload_n hx hb d_Rows_next_46 rfl (lv_at hl 1 rfl) ?_
          refine lv_lload_n hx hb d_Rows_next_47 rfl (lv_at hl 3 rfl) ?_
          obtain ⟨fs61, hr62, hk63, hw⟩ := hw
          refine h_put C0 hh hS (v := .long x2) hr62 hk63 rfl i_Rows t_Rows t_Rows_ok n_Rows (by decide) k_f_Rows_49 (fun _ h9 => h9) rfl rfl rfl rfl d_Rows_next_48 (fun H locs hh hS => ?_)
          obtain ⟨h64, eh64⟩ : ∃ z : hM, z = h_up h42 x0 (eO 0 (fs61.set 9 (.long x2))) := ⟨_, rfl⟩
          rw [← eh64] at hh
          have hw := hw h64 eh64
          refine lv_aload_n hx hb d_Rows_next_51 rfl (lv_at hl 1 rfl) ?_
          refine lv_aload hx hb d_Rows_next_52 (lv_at hl 0 rfl) ?_
          obtain ⟨fs65, hr66, hw⟩ := hw
          refine h_callV (n := 1) C0 w_TBm hh hS hl.1 [.ref a45] [] (S_Rows_nextFor _ _ _ _ hw) hr66 rfl k_m_Rows_128 k_inst_Rows_nextFor k_sel_Rows_nextFor k_ini_Rows k_code_Rows_nextFor (by decide +kernel) rfl rfl (Nat.le_of_ble_eq_true rfl) ⟨(Nat.le_of_ble_eq_true rfl), (Nat.le_of_ble_eq_true rfl)⟩ ⟨(Nat.le_of_ble_eq_true rfl), (Nat.le_of_ble_eq_true rfl)⟩ d_Rows_next_54 (h_kO (k := 0) (n := 0) (Nat.le_of_ble_eq_true rfl) (Nat.le_of_ble_eq_true rfl) (fun o68 h67 H locs hw hh hS => ?_))
          refine h_astoreO (lv' := [(5, va_rf o68), (4, .ref a45), (0, .ref x0), (1, .int x1), (2, .long x2)]) hx hb d_Rows_next_57 hl (by decide) rfl (fun ls hl => ?_)
          refine h_aloadO hx hb d_Rows_next_59 (lv_at hl 0 rfl) ?_
          rcases o68 with _ | a70
          · have hw := hw.1 rfl
            have hl : lv_has ls 6 [(5, .null), (4, .ref a45), (0, .ref x0), (1, .int x1), (2, .long x2)] := hl
            refine lv_ifnonnullN hx hb d_Rows_next_61 ?_
            refine lv_iconst (v := 0) hx hb d_Rows_next_64 (by decide) ?_
            exact h_iret C0 hh hS rfl rfl ⟨_, rfl, hw⟩ d_Rows_next_65
          · have hw := hw.2 a70 rfl
            have hl : lv_has ls 6 [(5, .ref a70), (4, .ref a45), (0, .ref x0), (1, .int x1), (2, .long x2)] := hl
            refine lv_ifnonnull (tgt := 66) hx hb d_Rows_next_61 (by decide) ?_
            refine lv_aload_n hx hb d_Rows_next_66 rfl (lv_at hl 2 rfl) ?_
            refine lv_aload hx hb d_Rows_next_67 (lv_at hl 1 rfl) ?_
            refine lv_aload hx hb d_Rows_next_69 (lv_at hl 0 rfl) ?_
            obtain ⟨fs71, hr72, hw⟩ := hw
            refine h_callV (n := 2) C0 w_TBm hh hS hl.1 [.ref a45, .ref a70] [] (S_Rows_startJob _ _ _ _ _ hw) hr72 rfl k_m_Rows_132 k_inst_Rows_startJob k_sel_Rows_startJob k_ini_Rows k_code_Rows_startJob (by decide +kernel) rfl rfl (Nat.le_of_ble_eq_true rfl) ⟨(Nat.le_of_ble_eq_true rfl), (Nat.le_of_ble_eq_true rfl)⟩ ⟨(Nat.le_of_ble_eq_true rfl), (Nat.le_of_ble_eq_true rfl)⟩ d_Rows_next_71 (h_kV (k := 0) (n := 0) (Nat.le_of_ble_eq_true rfl) (Nat.le_of_ble_eq_true rfl) (fun h73 H locs hw hh hS => ?_))
            refine lv_aload hx hb d_Rows_next_74 (lv_at hl 0 rfl) ?_
            obtain ⟨fs75, i78, hr76, hk77, hw⟩ := hw
            refine h_get C0 hh hr76 hk77 rfl i_Job (by decide) k_f_Rows_136 (fun _ h9 => h9) d_Rows_next_76 ?_
            exact h_iret C0 hh hS rfl rfl ⟨_, rfl, hw⟩ d_Rows_next_79
        · have hw := hw.2 c60
          refine lv_bipush (v := -5) hx hb d_Rows_next_43 (by decide) ?_
          exact h_iret C0 hh hS rfl rfl ⟨_, rfl, hw⟩ d_Rows_next_45
    · have hw := hw.2 (fun z => c50 ((lg_cmp_ge _ _).mpr z))
      refine lv_bipush (v := -4) hx hb d_Rows_next_24 (by decide) ?_
      exact h_iret C0 hh hS rfl rfl ⟨_, rfl, hw⟩ d_Rows_next_26
set_option maxHeartbeats 4000000 in
set_option maxRecDepth 100000 in
theorem S_Rows_stopJob_41 {p : Program} {l : Launch} {e : Env} {s : State} {m : MethodId} {args : Array Value} {below : List Frame} {meth : Method} {c : Code} {κ : hX} {Q : hM → Prop} {K2 : hM → Nat → Nat → Int32 → Prop} (C0 : Cw κ w_cl w_tl w_tb p s m args meth c b_Rows_stopJob 4 R_Rows none) (hK2 : ∀ (h : hM) (x0 : Nat) (x1 : Nat) (x2 : Int32) (H : Heap) (locs : List Loc) (ls : Array Slot), K2 h x0 x1 x2 → hp κ w_cl h H → va_S (h_A κ) s.heap H locs → lv_has ls 4 [(0, .ref x0), (1, .ref x1), (2, .int x2)] → W p l e rm_Rows_stopJob s m args below meth c H locs 0 0 (MQ below (hQ κ w_cl (qV Q)) args s 0 0 (h_A κ)) (F0 m 2 ls [])) : ∀ (h : hM) (x0 : Nat) (x1 : Nat) (x2 : Int32) (H : Heap) (locs : List Loc) (ls : Array Slot), P_Rows_stopJob_41 Q K2 h x0 x1 x2 → hp κ w_cl h H → va_S (h_A κ) s.heap H locs → lv_has ls 4 [(0, .ref x0), (1, .ref x1), (2, .int x2)] → W p l e rm_Rows_stopJob s m args below meth c H locs 0 0 (MQ below (hQ κ w_cl (qV Q)) args s 0 0 (h_A κ)) (F0 m 41 ls []) := by
  obtain ⟨hx, hb, hml, hown, hts, hK, hF0, hrt, hlocks⟩ := id C0
  intro h x0 x1 x2 H locs ls hw hh hS hl
  obtain ⟨x2_117, ex2_117⟩ : ∃ z : Int32, z = x2 + 1 := ⟨_, rfl⟩
  have hw := hw x2_117 ex2_117
  refine lv_iinc (v := x2_117) (lv' := [(2, .int x2_117), (0, .ref x0), (1, .ref x1)]) hx hb d_Rows_stopJob_41 hl (k := 2) rfl (by rw [ex2_117]; rfl) (by decide) rfl (fun ls hl => ?_)
  refine lv_goto (tgt := 2) hx hb d_Rows_stopJob_44 (by decide) ?_
  exact hK2 _ _ _ _ _ _ _ hw hh hS (lv_sub hl [1, 2, 0] rfl)
set_option maxHeartbeats 4000000 in
set_option maxRecDepth 100000 in
theorem S_Rows_stopJob_2 {p : Program} {l : Launch} {e : Env} {s : State} {m : MethodId} {args : Array Value} {below : List Frame} {meth : Method} {c : Code} {κ : hX} {Q : hM → Prop} (C0 : Cw κ w_cl w_tl w_tb p s m args meth c b_Rows_stopJob 4 R_Rows none) : ∀ (n : Nat) (h : hM) (x0 : Nat) (x1 : Nat) (x2 : Int32) (H : Heap) (locs : List Loc) (ls : Array Slot), L_Rows_stopJob_2 Q n h x0 x1 x2 → hp κ w_cl h H → va_S (h_A κ) s.heap H locs → lv_has ls 4 [(0, .ref x0), (1, .ref x1), (2, .int x2)] → W p l e rm_Rows_stopJob s m args below meth c H locs 0 0 (MQ below (hQ κ w_cl (qV Q)) args s 0 0 (h_A κ)) (F0 m 2 ls []) := by
  obtain ⟨hx, hb, hml, hown, hts, hK, hF0, hrt, hlocks⟩ := id C0
  intro n
  induction n with
  | zero =>
    intro h x0 x1 x2 H locs ls hw
    exact hw.elim
  | succ n hK2 =>
    intro h x0 x1 x2 H locs ls hw hh hS hl
    have hw : P_Rows_stopJob_2 Q (L_Rows_stopJob_2 Q n) h x0 x1 x2 := hw
    refine lv_iload_n hx hb d_Rows_stopJob_2 rfl (lv_at hl 2 rfl) ?_
    refine lv_aload_n hx hb d_Rows_stopJob_3 rfl (lv_at hl 0 rfl) ?_
    obtain ⟨fs118, r121, hr119, hk120, hw⟩ := hw
    refine h_get C0 hh hr119 hk120 rfl i_Rows (by decide) k_f_Rows_10 (fun _ h9 => h9) d_Rows_stopJob_4 ?_
    obtain ⟨fs122, hr123, hw⟩ := hw
    refine h_callV (n := 0) C0 w_TBm hh hS hl.1 [] [.int x2] (S_AL_size _ _ _ hw) hr123 rfl k_m_Rows_60 k_inst_AL_size k_sel_AL_size k_ini_AL k_code_AL_size (by decide +kernel) rfl rfl (Nat.le_of_ble_eq_true rfl) ⟨(Nat.le_of_ble_eq_true rfl), (Nat.le_of_ble_eq_true rfl)⟩ ⟨(Nat.le_of_ble_eq_true rfl), (Nat.le_of_ble_eq_true rfl)⟩ d_Rows_stopJob_7 (h_kI (k := 0) (n := 0) (Nat.le_of_ble_eq_true rfl) (Nat.le_of_ble_eq_true rfl) (fun i125 h124 H locs hw hh hS => ?_))
    refine lv_icmp_ge (tgt := 47) hx hb d_Rows_stopJob_10 (by decide) (fun c126 => ?_) (fun c126 => ?_)
    · have hw := hw.1 c126
      refine lv_aload_n hx hb d_Rows_stopJob_47 rfl (lv_at hl 1 rfl) ?_
      refine lv_iconst (v := 3) hx hb d_Rows_stopJob_48 (by decide) ?_
      obtain ⟨fs127, hr128, hk129, hw⟩ := hw
      refine h_put C0 hh hS (v := .int (3 : Int32)) hr128 hk129 rfl i_Job t_Job t_Job_ok n_Job (by decide) k_f_Rows_119 (fun _ h9 => h9) rfl rfl rfl rfl d_Rows_stopJob_49 (fun H locs hh hS => ?_)
      obtain ⟨h130, eh130⟩ : ∃ z : hM, z = h_up h124 x1 (eO 1 (fs127.set 8 (.int (3 : Int32)))) := ⟨_, rfl⟩
      rw [← eh130] at hh
      have hw := hw h130 eh130
      refine lv_aload_n hx hb d_Rows_stopJob_52 rfl (lv_at hl 0 rfl) ?_
      obtain ⟨fs131, r134, hr132, hk133, hw⟩ := hw
      refine h_get C0 hh hr132 hk133 rfl i_Rows (by decide) k_f_Rows_45 (fun _ h9 => h9) d_Rows_stopJob_53 ?_
      refine lv_aload_n hx hb d_Rows_stopJob_56 rfl (lv_at hl 1 rfl) ?_
      obtain ⟨fs135, i138, hr136, hk137, hw⟩ := hw
      refine h_get C0 hh hr136 hk137 rfl i_Job (by decide) k_f_Rows_136 (fun _ h9 => h9) d_Rows_stopJob_57 ?_
      obtain ⟨fs139, hr140, hw⟩ := hw
      refine h_callV (n := 1) C0 w_TBm hh hS hl.1 [.int i138] [] (S_NS_put _ _ _ _ hw) hr140 rfl k_m_Rows_183 k_inst_NS_put k_sel_NS_put k_ini_NS k_code_NS_put (by decide +kernel) rfl rfl (Nat.le_of_ble_eq_true rfl) ⟨(Nat.le_of_ble_eq_true rfl), (Nat.le_of_ble_eq_true rfl)⟩ ⟨(Nat.le_of_ble_eq_true rfl), (Nat.le_of_ble_eq_true rfl)⟩ d_Rows_stopJob_60 (h_kV (k := 0) (n := 0) (Nat.le_of_ble_eq_true rfl) (Nat.le_of_ble_eq_true rfl) (fun h141 H locs hw hh hS => ?_))
      refine lv_aload_n hx hb d_Rows_stopJob_63 rfl (lv_at hl 0 rfl) ?_
      obtain ⟨fs143, r146, hr144, hk145, hw⟩ := hw
      refine h_get C0 hh hr144 hk145 rfl i_Rows (by decide) k_f_Rows_38 (fun _ h9 => h9) d_Rows_stopJob_64 ?_
      refine lv_aload_n hx hb d_Rows_stopJob_67 rfl (lv_at hl 1 rfl) ?_
      obtain ⟨fs147, hr148, hw⟩ := hw
      refine h_callV (n := 1) C0 w_TBm hh hS hl.1 [.ref x1] [] (S_Load_release _ _ _ _ hw) hr148 rfl k_m_Rows_238 k_inst_Load_release k_sel_Load_release k_ini_Load k_code_Load_release (by decide +kernel) rfl rfl (Nat.le_of_ble_eq_true rfl) ⟨(Nat.le_of_ble_eq_true rfl), (Nat.le_of_ble_eq_true rfl)⟩ ⟨(Nat.le_of_ble_eq_true rfl), (Nat.le_of_ble_eq_true rfl)⟩ d_Rows_stopJob_68 (h_kV (k := 0) (n := 0) (Nat.le_of_ble_eq_true rfl) (Nat.le_of_ble_eq_true rfl) (fun h149 H locs hw hh hS => ?_))
      exact h_vret C0 hh hS rfl ⟨rfl, hw⟩ d_Rows_stopJob_71
    · have hw := hw.2 c126
      refine lv_aload_n hx hb d_Rows_stopJob_13 rfl (lv_at hl 0 rfl) ?_
      obtain ⟨fs151, r154, hr152, hk153, hw⟩ := hw
      refine h_get C0 hh hr152 hk153 rfl i_Rows (by decide) k_f_Rows_10 (fun _ h9 => h9) d_Rows_stopJob_14 ?_
      refine lv_iload_n hx hb d_Rows_stopJob_17 rfl (lv_at hl 2 rfl) ?_
      obtain ⟨fs155, hr156, hw⟩ := hw
      refine h_callV (n := 1) C0 w_TBm hh hS hl.1 [.int x2] [] (S_AL_get _ _ _ _ hw) hr156 rfl k_m_Rows_156 k_inst_AL_get k_sel_AL_get k_ini_AL k_code_AL_get (by decide +kernel) rfl rfl (Nat.le_of_ble_eq_true rfl) ⟨(Nat.le_of_ble_eq_true rfl), (Nat.le_of_ble_eq_true rfl)⟩ ⟨(Nat.le_of_ble_eq_true rfl), (Nat.le_of_ble_eq_true rfl)⟩ d_Rows_stopJob_18 (h_kO (k := 0) (n := 0) (Nat.le_of_ble_eq_true rfl) (Nat.le_of_ble_eq_true rfl) (fun o158 h157 H locs hw hh hS => ?_))
      rcases o158 with _ | a159
      · have hw := hw.1 rfl
        have hl : lv_has ls 4 [(0, .ref x0), (1, .ref x1), (2, .int x2)] := hl
        refine lv_castN hx hb d_Rows_stopJob_21 ?_
        refine lv_astore_nN (lv' := [(3, .null), (0, .ref x0), (1, .ref x1), (2, .int x2)]) hx hb d_Rows_stopJob_24 rfl hl (by decide) rfl (fun ls hl => ?_)
        refine lv_aload_nN hx hb d_Rows_stopJob_25 rfl (lv_at hl 0 rfl) ?_
        exact hw.elim
      · have hw := hw.2 a159 rfl
        have hl : lv_has ls 4 [(0, .ref x0), (1, .ref x1), (2, .int x2)] := hl
        obtain ⟨⟨fs160, hr161⟩, hw⟩ := hw
        refine h_cast C0 hh hr161 rfl k_c_Rows_64 d_Rows_stopJob_21 ?_
        refine lv_astore_n (lv' := [(3, .ref a159), (0, .ref x0), (1, .ref x1), (2, .int x2)]) hx hb d_Rows_stopJob_24 rfl hl (by decide) rfl (fun ls hl => ?_)
        refine lv_aload_n hx hb d_Rows_stopJob_25 rfl (lv_at hl 0 rfl) ?_
        obtain ⟨fs162, i165, hr163, hk164, hw⟩ := hw
        refine h_get C0 hh hr163 hk164 rfl i_Ini (by decide) k_f_Rows_125 (fun _ h9 => h9) d_Rows_stopJob_26 ?_
        refine lv_aload_n hx hb d_Rows_stopJob_29 rfl (lv_at hl 2 rfl) ?_
        obtain ⟨fs166, i169, hr167, hk168, hw⟩ := hw
        refine h_get C0 hh hr167 hk168 rfl i_Job (by decide) k_f_Rows_136 (fun _ h9 => h9) d_Rows_stopJob_30 ?_
        refine lv_icmp_ne (tgt := 41) hx hb d_Rows_stopJob_33 (by decide) (fun c170 => ?_) (fun c170 => ?_)
        · have hw := hw.1 c170
          exact S_Rows_stopJob_41 C0 hK2 _ _ _ _ _ _ _ hw hh hS (lv_sub hl [1, 2, 3] rfl)
        · have hw := hw.2 c170
          refine lv_aload_n hx hb d_Rows_stopJob_36 rfl (lv_at hl 0 rfl) ?_
          refine lv_iconst (v := 0) hx hb d_Rows_stopJob_37 (by decide) ?_
          obtain ⟨fs171, hr172, hk173, hw⟩ := hw
          refine h_put C0 hh hS (v := .int (0 : Int32)) hr172 hk173 rfl i_Ini t_Ini t_Ini_ok n_Ini (by decide) k_f_Rows_125 (fun _ h9 => h9) rfl rfl rfl rfl d_Rows_stopJob_38 (fun H locs hh hS => ?_)
          obtain ⟨h174, eh174⟩ : ∃ z : hM, z = h_up h157 a159 (eO 3 (fs171.set 2 (.int (0 : Int32)))) := ⟨_, rfl⟩
          rw [← eh174] at hh
          have hw := hw h174 eh174
          exact S_Rows_stopJob_41 C0 hK2 _ _ _ _ _ _ _ hw hh hS (lv_sub hl [1, 2, 3] rfl)
set_option maxHeartbeats 4000000 in
set_option maxRecDepth 100000 in
theorem S_Rows_stopJob {l : Launch} {κ : hX} (Q : hM → Prop) (h : hM) (x0 : Nat) (x1 : Nat) (hw : P_Rows_stopJob Q h x0 x1) : Met l y_Rows_stopJob [Cond.code y_Rows_stopJob b_Rows_stopJob 4 none] rm_Rows_stopJob (hPc κ w_cl w_tl w_tb [.ref x0, .ref x1] h) (hQ κ w_cl (qV Q)) 0 0 (h_A κ) := by
  refine h_enter w_TBm (by decide) (Nat.le_of_ble_eq_true rfl) ?_
  intro p e s m args below meth c C0 hnm hh hS ls hl
  obtain ⟨hx, hb, hml, hown, hts, hK, hF0, hrt, hlocks⟩ := id C0
  have hl : lv_has ls 4 [(0, .ref x0), (1, .ref x1)] := hl
  refine lv_iconst (v := 0) hx hb d_Rows_stopJob_0 (by decide) ?_
  refine lv_istore_n (lv' := [(2, .int (0 : Int32)), (0, .ref x0), (1, .ref x1)]) hx hb d_Rows_stopJob_1 rfl hl (by decide) rfl (fun ls hl => ?_)
  obtain ⟨n0, hw⟩ := hw
  exact S_Rows_stopJob_2 C0 n0 _ _ _ _ _ _ _ hw hh hS (lv_sub hl [1, 2, 0] rfl)
set_option maxHeartbeats 4000000 in
set_option maxRecDepth 100000 in
theorem S_Rows_end {l : Launch} {κ : hX} (Q : Int32 → hM → Prop) (h : hM) (x0 : Nat) (x1 : Int32) (hw : P_Rows_end Q h x0 x1) : Met l y_Rows_end [Cond.code y_Rows_end b_Rows_end 3 (some .int)] rm_Rows_end (hPc κ w_cl w_tl w_tb [.ref x0, .int x1] h) (hQ κ w_cl (qI Q)) 0 0 (h_A κ) := by
  refine h_enter w_TBm (by decide) (Nat.le_of_ble_eq_true rfl) ?_
  intro p e s m args below meth c C0 hnm hh hS ls hl
  obtain ⟨hx, hb, hml, hown, hts, hK, hF0, hrt, hlocks⟩ := id C0
  have hl : lv_has ls 3 [(0, .ref x0), (1, .int x1)] := hl
  refine lv_aload_n hx hb d_Rows_end_0 rfl (lv_at hl 0 rfl) ?_
  refine lv_iload_n hx hb d_Rows_end_1 rfl (lv_at hl 1 rfl) ?_
  obtain ⟨fs16, hr17, hw⟩ := hw
  refine h_callV (n := 1) C0 w_TBm hh hS hl.1 [.int x1] [] (S_Rows_findJob _ _ _ _ hw) hr17 rfl k_m_Rows_91 k_inst_Rows_findJob k_sel_Rows_findJob k_ini_Rows k_code_Rows_findJob (by decide +kernel) rfl rfl (Nat.le_of_ble_eq_true rfl) ⟨(Nat.le_of_ble_eq_true rfl), (Nat.le_of_ble_eq_true rfl)⟩ ⟨(Nat.le_of_ble_eq_true rfl), (Nat.le_of_ble_eq_true rfl)⟩ d_Rows_end_2 (h_kO (k := 0) (n := 0) (Nat.le_of_ble_eq_true rfl) (Nat.le_of_ble_eq_true rfl) (fun o19 h18 H locs hw hh hS => ?_))
  refine h_astore_nO (lv' := [(2, va_rf o19), (0, .ref x0), (1, .int x1)]) hx hb d_Rows_end_5 rfl hl (by decide) rfl (fun ls hl => ?_)
  refine h_aload_nO hx hb d_Rows_end_6 rfl (lv_at hl 0 rfl) ?_
  rcases o19 with _ | a21
  · have hw := hw.1 rfl
    have hl : lv_has ls 3 [(2, .null), (0, .ref x0), (1, .int x1)] := hl
    refine lv_ifnonnullN hx hb d_Rows_end_7 ?_
    refine lv_bipush (v := -2) hx hb d_Rows_end_10 (by decide) ?_
    exact h_iret C0 hh hS rfl rfl ⟨_, rfl, hw⟩ d_Rows_end_12
  · have hw := hw.2 a21 rfl
    have hl : lv_has ls 3 [(2, .ref a21), (0, .ref x0), (1, .int x1)] := hl
    refine lv_ifnonnull (tgt := 13) hx hb d_Rows_end_7 (by decide) ?_
    refine lv_aload_n hx hb d_Rows_end_13 rfl (lv_at hl 0 rfl) ?_
    obtain ⟨fs22, i25, hr23, hk24, hw⟩ := hw
    refine h_get C0 hh hr23 hk24 rfl i_Job (by decide) k_f_Rows_119 (fun _ h9 => h9) d_Rows_end_14 ?_
    refine lv_iconst (v := 2) hx hb d_Rows_end_17 (by decide) ?_
    refine lv_icmp_eq (tgt := 24) hx hb d_Rows_end_18 (by decide) (fun c26 => ?_) (fun c26 => ?_)
    · have hw := hw.1 c26
      refine lv_aload_n hx hb d_Rows_end_24 rfl (lv_at hl 1 rfl) ?_
      refine lv_aload_n hx hb d_Rows_end_25 rfl (lv_at hl 0 rfl) ?_
      obtain ⟨fs27, hr28, hw⟩ := hw
      refine h_callV (n := 1) C0 w_TBm hh hS hl.1 [.ref a21] [] (S_Rows_stopJob _ _ _ _ hw) hr28 rfl k_m_Rows_139 k_inst_Rows_stopJob k_sel_Rows_stopJob k_ini_Rows k_code_Rows_stopJob (by decide +kernel) rfl rfl (Nat.le_of_ble_eq_true rfl) ⟨(Nat.le_of_ble_eq_true rfl), (Nat.le_of_ble_eq_true rfl)⟩ ⟨(Nat.le_of_ble_eq_true rfl), (Nat.le_of_ble_eq_true rfl)⟩ d_Rows_end_26 (h_kV (k := 0) (n := 0) (Nat.le_of_ble_eq_true rfl) (Nat.le_of_ble_eq_true rfl) (fun h29 H locs hw hh hS => ?_))
      refine lv_iconst (v := 1) hx hb d_Rows_end_29 (by decide) ?_
      exact h_iret C0 hh hS rfl rfl ⟨_, rfl, hw⟩ d_Rows_end_30
    · have hw := hw.2 c26
      refine lv_bipush (v := -5) hx hb d_Rows_end_21 (by decide) ?_
      exact h_iret C0 hh hS rfl rfl ⟨_, rfl, hw⟩ d_Rows_end_23
set_option maxHeartbeats 4000000 in
set_option maxRecDepth 100000 in
theorem S_Rows_age {l : Launch} {κ : hX} (Q : Int32 → hM → Prop) (h : hM) (x0 : Nat) (x1 : Int64) (x3 : Int32) (hw : P_Rows_age Q h x0 x1 x3) : Met l y_Rows_age [Cond.code y_Rows_age b_Rows_age 4 (some .int)] rm_Rows_age (hPc κ w_cl w_tl w_tb [.ref x0, .long x1, .int x3] h) (hQ κ w_cl (qI Q)) 0 0 (h_A κ) := by
  refine h_enter w_TBm (by decide) (Nat.le_of_ble_eq_true rfl) ?_
  intro p e s m args below meth c C0 hnm hh hS ls hl
  obtain ⟨hx, hb, hml, hown, hts, hK, hF0, hrt, hlocks⟩ := id C0
  have hl : lv_has ls 4 [(0, .ref x0), (1, .long x1), (3, .int x3)] := hl
  refine lv_lload_n hx hb d_Rows_age_0 rfl (lv_at hl 1 rfl) ?_
  refine lv_lconst (v := 0) hx hb d_Rows_age_1 (by decide) ?_
  refine W.lcmp hx hb d_Rows_age_2 ?_
  refine lv_if_lt (tgt := 16) hx hb d_Rows_age_3 (by decide) (fun c13 => ?_) (fun c13 => ?_)
  · have hw := hw.1 ((lg_cmp_lt _ _).mp c13)
    refine lv_bipush (v := -4) hx hb d_Rows_age_16 (by decide) ?_
    exact h_iret C0 hh hS rfl rfl ⟨_, rfl, hw⟩ d_Rows_age_18
  · have hw := hw.2 (fun z => c13 ((lg_cmp_lt _ _).mpr z))
    refine lv_iload_n hx hb d_Rows_age_6 rfl (lv_at hl 2 rfl) ?_
    refine lv_iconst (v := 0) hx hb d_Rows_age_7 (by decide) ?_
    refine lv_bipush (v := 15) hx hb d_Rows_age_8 (by decide) ?_
    refine h_callS (n := 3) C0 w_TBm hh hS hl.1 [.int x3, .int (0 : Int32), .int (15 : Int32)] [] (S_Rows_isIn _ _ _ _ _ hw) k_m_Rows_75 k_stat_Rows_isIn k_ini_Rows k_code_Rows_isIn (by decide +kernel) rfl rfl (Nat.le_of_ble_eq_true rfl) ⟨(Nat.le_of_ble_eq_true rfl), (Nat.le_of_ble_eq_true rfl)⟩ ⟨(Nat.le_of_ble_eq_true rfl), (Nat.le_of_ble_eq_true rfl)⟩ d_Rows_age_10 (h_kI (k := 0) (n := 0) (Nat.le_of_ble_eq_true rfl) (Nat.le_of_ble_eq_true rfl) (fun i15 h14 H locs hw hh hS => ?_))
    refine lv_if_ne (tgt := 19) hx hb d_Rows_age_13 (by decide) (fun c16 => ?_) (fun c16 => ?_)
    · have hw := hw.1 c16
      refine lv_aload_n hx hb d_Rows_age_19 rfl (lv_at hl 0 rfl) ?_
      refine lv_lload_n hx hb d_Rows_age_20 rfl (lv_at hl 1 rfl) ?_
      obtain ⟨fs17, hr18, hk19, hw⟩ := hw
      refine h_put C0 hh hS (v := .long x1) hr18 hk19 rfl i_Rows t_Rows t_Rows_ok n_Rows (by decide) k_f_Rows_53 (fun _ h9 => h9) rfl rfl rfl rfl d_Rows_age_21 (fun H locs hh hS => ?_)
      obtain ⟨h20, eh20⟩ : ∃ z : hM, z = h_up h14 x0 (eO 0 (fs17.set 10 (.long x1))) := ⟨_, rfl⟩
      rw [← eh20] at hh
      have hw := hw h20 eh20
      refine lv_aload_n hx hb d_Rows_age_24 rfl (lv_at hl 0 rfl) ?_
      refine lv_iload_n hx hb d_Rows_age_25 rfl (lv_at hl 2 rfl) ?_
      obtain ⟨fs21, hr22, hk23, hw⟩ := hw
      refine h_put C0 hh hS (v := .int x3) hr22 hk23 rfl i_Rows t_Rows t_Rows_ok n_Rows (by decide) k_f_Rows_56 (fun _ h9 => h9) rfl rfl rfl rfl d_Rows_age_26 (fun H locs hh hS => ?_)
      obtain ⟨h24, eh24⟩ : ∃ z : hM, z = h_up h20 x0 (eO 0 (fs21.set 11 (.int x3))) := ⟨_, rfl⟩
      rw [← eh24] at hh
      have hw := hw h24 eh24
      refine lv_iconst (v := 1) hx hb d_Rows_age_29 (by decide) ?_
      exact h_iret C0 hh hS rfl rfl ⟨_, rfl, hw⟩ d_Rows_age_30
    · have hw := hw.2 c16
      refine lv_bipush (v := -4) hx hb d_Rows_age_16 (by decide) ?_
      exact h_iret C0 hh hS rfl rfl ⟨_, rfl, hw⟩ d_Rows_age_18
set_option maxHeartbeats 4000000 in
set_option maxRecDepth 100000 in
theorem S_Rows_drain {l : Launch} {κ : hX} (Q : Int32 → hM → Prop) (h : hM) (x0 : Nat) (x1 : Int32) (x2 : Int32) (hw : P_Rows_drain Q h x0 x1 x2) : Met l y_Rows_drain [Cond.code y_Rows_drain b_Rows_drain 4 (some .int)] rm_Rows_drain (hPc κ w_cl w_tl w_tb [.ref x0, .int x1, .int x2] h) (hQ κ w_cl (qI Q)) 0 0 (h_A κ) := by
  refine h_enter w_TBm (by decide) (Nat.le_of_ble_eq_true rfl) ?_
  intro p e s m args below meth c C0 hnm hh hS ls hl
  obtain ⟨hx, hb, hml, hown, hts, hK, hF0, hrt, hlocks⟩ := id C0
  have hl : lv_has ls 4 [(0, .ref x0), (1, .int x1), (2, .int x2)] := hl
  refine lv_aload_n hx hb d_Rows_drain_0 rfl (lv_at hl 0 rfl) ?_
  refine lv_iload_n hx hb d_Rows_drain_1 rfl (lv_at hl 1 rfl) ?_
  obtain ⟨fs16, hr17, hw⟩ := hw
  refine h_callV (n := 1) C0 w_TBm hh hS hl.1 [.int x1] [] (S_Rows_findInitiator _ _ _ _ hw) hr17 rfl k_m_Rows_71 k_inst_Rows_findInitiator k_sel_Rows_findInitiator k_ini_Rows k_code_Rows_findInitiator (by decide +kernel) rfl rfl (Nat.le_of_ble_eq_true rfl) ⟨(Nat.le_of_ble_eq_true rfl), (Nat.le_of_ble_eq_true rfl)⟩ ⟨(Nat.le_of_ble_eq_true rfl), (Nat.le_of_ble_eq_true rfl)⟩ d_Rows_drain_2 (h_kO (k := 0) (n := 0) (Nat.le_of_ble_eq_true rfl) (Nat.le_of_ble_eq_true rfl) (fun o19 h18 H locs hw hh hS => ?_))
  refine h_astore_nO (lv' := [(3, va_rf o19), (0, .ref x0), (1, .int x1), (2, .int x2)]) hx hb d_Rows_drain_5 rfl hl (by decide) rfl (fun ls hl => ?_)
  refine h_aload_nO hx hb d_Rows_drain_6 rfl (lv_at hl 0 rfl) ?_
  rcases o19 with _ | a21
  · have hw := hw.1 rfl
    have hl : lv_has ls 4 [(3, .null), (0, .ref x0), (1, .int x1), (2, .int x2)] := hl
    refine lv_ifnonnullN hx hb d_Rows_drain_7 ?_
    refine lv_bipush (v := -2) hx hb d_Rows_drain_10 (by decide) ?_
    exact h_iret C0 hh hS rfl rfl ⟨_, rfl, hw⟩ d_Rows_drain_12
  · have hw := hw.2 a21 rfl
    have hl : lv_has ls 4 [(3, .ref a21), (0, .ref x0), (1, .int x1), (2, .int x2)] := hl
    refine lv_ifnonnull (tgt := 13) hx hb d_Rows_drain_7 (by decide) ?_
    refine lv_aload_n hx hb d_Rows_drain_13 rfl (lv_at hl 0 rfl) ?_
    obtain ⟨fs22, i25, hr23, hk24, hw⟩ := hw
    refine h_get C0 hh hr23 hk24 rfl i_Ini (by decide) k_f_Rows_122 (fun _ h9 => h9) d_Rows_drain_14 ?_
    refine lv_iload_n hx hb d_Rows_drain_17 rfl (lv_at hl 3 rfl) ?_
    refine lv_icmp_ne (tgt := 23) hx hb d_Rows_drain_18 (by decide) (fun c26 => ?_) (fun c26 => ?_)
    · have hw := hw.1 c26
      refine lv_aload_n hx hb d_Rows_drain_23 rfl (lv_at hl 0 rfl) ?_
      refine lv_iload_n hx hb d_Rows_drain_24 rfl (lv_at hl 3 rfl) ?_
      obtain ⟨hz9, hw⟩ := hw
      obtain ⟨fs27, hr28, hk29, hw⟩ := hw
      refine h_put C0 hh hS (v := .int x2) hr28 hk29 rfl i_Ini t_Ini t_Ini_ok n_Ini (by decide) k_f_Rows_122 (fun _ h9 => h9) rfl rfl (h_nz hz9) (h_fz hz9) d_Rows_drain_25 (fun H locs hh hS => ?_)
      obtain ⟨h30, eh30⟩ : ∃ z : hM, z = h_up h18 a21 (eO 3 (fs27.set 1 (.int x2))) := ⟨_, rfl⟩
      rw [← eh30] at hh
      have hw := hw h30 eh30
      refine lv_iconst (v := 1) hx hb d_Rows_drain_28 (by decide) ?_
      exact h_iret C0 hh hS rfl rfl ⟨_, rfl, hw⟩ d_Rows_drain_29
    · have hw := hw.2 c26
      refine lv_iconst (v := 0) hx hb d_Rows_drain_21 (by decide) ?_
      exact h_iret C0 hh hS rfl rfl ⟨_, rfl, hw⟩ d_Rows_drain_22
set_option maxHeartbeats 4000000 in
set_option maxRecDepth 100000 in
theorem S_Rows_weight {l : Launch} {κ : hX} (Q : Int32 → hM → Prop) (h : hM) (x0 : Nat) (x1 : Int32) (x2 : Int32) (hw : P_Rows_weight Q h x0 x1 x2) : Met l y_Rows_weight [Cond.code y_Rows_weight b_Rows_weight 3 (some .int)] rm_Rows_weight (hPc κ w_cl w_tl w_tb [.ref x0, .int x1, .int x2] h) (hQ κ w_cl (qI Q)) 0 0 (h_A κ) := by
  refine h_enter w_TBm (by decide) (Nat.le_of_ble_eq_true rfl) ?_
  intro p e s m args below meth c C0 hnm hh hS ls hl
  obtain ⟨hx, hb, hml, hown, hts, hK, hF0, hrt, hlocks⟩ := id C0
  have hl : lv_has ls 3 [(0, .ref x0), (1, .int x1), (2, .int x2)] := hl
  refine lv_iload_n hx hb d_Rows_weight_0 rfl (lv_at hl 1 rfl) ?_
  refine h_callS (n := 1) C0 w_TBm hh hS hl.1 [.int x1] [] (S_Rows_isClass _ _ _ hw) k_m_Rows_79 k_stat_Rows_isClass k_ini_Rows k_code_Rows_isClass (by decide +kernel) rfl rfl (Nat.le_of_ble_eq_true rfl) ⟨(Nat.le_of_ble_eq_true rfl), (Nat.le_of_ble_eq_true rfl)⟩ ⟨(Nat.le_of_ble_eq_true rfl), (Nat.le_of_ble_eq_true rfl)⟩ d_Rows_weight_1 (h_kI (k := 0) (n := 0) (Nat.le_of_ble_eq_true rfl) (Nat.le_of_ble_eq_true rfl) (fun i17 h16 H locs hw hh hS => ?_))
  refine lv_if_eq (tgt := 18) hx hb d_Rows_weight_4 (by decide) (fun c18 => ?_) (fun c18 => ?_)
  · have hw := hw.1 c18
    refine lv_bipush (v := -4) hx hb d_Rows_weight_18 (by decide) ?_
    exact h_iret C0 hh hS rfl rfl ⟨_, rfl, hw⟩ d_Rows_weight_20
  · have hw := hw.2 c18
    refine lv_iload_n hx hb d_Rows_weight_7 rfl (lv_at hl 2 rfl) ?_
    refine lv_iconst (v := 0) hx hb d_Rows_weight_8 (by decide) ?_
    refine lv_sipush (v := 1000) hx hb d_Rows_weight_9 (by decide) ?_
    refine h_callS (n := 3) C0 w_TBm hh hS hl.1 [.int x2, .int (0 : Int32), .int (1000 : Int32)] [] (S_Rows_isIn _ _ _ _ _ hw) k_m_Rows_75 k_stat_Rows_isIn k_ini_Rows k_code_Rows_isIn (by decide +kernel) rfl rfl (Nat.le_of_ble_eq_true rfl) ⟨(Nat.le_of_ble_eq_true rfl), (Nat.le_of_ble_eq_true rfl)⟩ ⟨(Nat.le_of_ble_eq_true rfl), (Nat.le_of_ble_eq_true rfl)⟩ d_Rows_weight_12 (h_kI (k := 0) (n := 0) (Nat.le_of_ble_eq_true rfl) (Nat.le_of_ble_eq_true rfl) (fun i20 h19 H locs hw hh hS => ?_))
    refine lv_if_ne (tgt := 21) hx hb d_Rows_weight_15 (by decide) (fun c21 => ?_) (fun c21 => ?_)
    · have hw := hw.1 c21
      refine lv_aload_n hx hb d_Rows_weight_21 rfl (lv_at hl 0 rfl) ?_
      obtain ⟨fs22, r25, hr23, hk24, hw⟩ := hw
      refine h_get C0 hh hr23 hk24 rfl i_Rows (by decide) k_f_Rows_29 (fun _ h9 => h9) d_Rows_weight_22 ?_
      refine lv_iload_n hx hb d_Rows_weight_25 rfl (lv_at hl 1 rfl) ?_
      refine lv_iload_n hx hb d_Rows_weight_26 rfl (lv_at hl 2 rfl) ?_
      obtain ⟨n26, f27, hr28, hi29, hw⟩ := hw
      refine h_iast C0 hh hS hr28 hi29 rfl d_Rows_weight_27 (fun H locs hh hS => ?_)
      obtain ⟨h30, eh30⟩ : ∃ z : hM, z = h_up h19 r25 (eT 0 n26 (upd f27 x1.toNatClampNeg x2)) := ⟨_, rfl⟩
      rw [← eh30] at hh
      have hw := hw h30 eh30
      refine lv_iconst (v := 1) hx hb d_Rows_weight_28 (by decide) ?_
      exact h_iret C0 hh hS rfl rfl ⟨_, rfl, hw⟩ d_Rows_weight_29
    · have hw := hw.2 c21
      refine lv_bipush (v := -4) hx hb d_Rows_weight_18 (by decide) ?_
      exact h_iret C0 hh hS rfl rfl ⟨_, rfl, hw⟩ d_Rows_weight_20
set_option maxHeartbeats 4000000 in
set_option maxRecDepth 100000 in
theorem S_Rows_sumOfWeights_4 {p : Program} {l : Launch} {e : Env} {s : State} {m : MethodId} {args : Array Value} {below : List Frame} {meth : Method} {c : Code} {κ : hX} {Q : Int64 → hM → Prop} (C0 : Cw κ w_cl w_tl w_tb p s m args meth c b_Rows_sumOfWeights 4 R_Rows (some .long)) : ∀ (n : Nat) (h : hM) (x0 : Nat) (x1 : Int64) (x3 : Int32) (H : Heap) (locs : List Loc) (ls : Array Slot), L_Rows_sumOfWeights_4 Q n h x0 x1 x3 → hp κ w_cl h H → va_S (h_A κ) s.heap H locs → lv_has ls 4 [(0, .ref x0), (1, .long x1), (3, .int x3)] → W p l e rm_Rows_sumOfWeights s m args below meth c H locs 0 0 (MQ below (hQ κ w_cl (qJ Q)) args s 0 0 (h_A κ)) (F0 m 4 ls []) := by
  obtain ⟨hx, hb, hml, hown, hts, hK, hF0, hrt, hlocks⟩ := id C0
  intro n
  induction n with
  | zero =>
    intro h x0 x1 x3 H locs ls hw
    exact hw.elim
  | succ n hK4 =>
    intro h x0 x1 x3 H locs ls hw hh hS hl
    have hw : P_Rows_sumOfWeights_4 Q (L_Rows_sumOfWeights_4 Q n) h x0 x1 x3 := hw
    refine lv_iload_n hx hb d_Rows_sumOfWeights_4 rfl (lv_at hl 2 rfl) ?_
    refine lv_aload_n hx hb d_Rows_sumOfWeights_5 rfl (lv_at hl 0 rfl) ?_
    obtain ⟨fs37, r40, hr38, hk39, hw⟩ := hw
    refine h_get C0 hh hr38 hk39 rfl i_Rows (by decide) k_f_Rows_29 (fun _ h9 => h9) d_Rows_sumOfWeights_6 ?_
    obtain ⟨n41, f42, hr43, hw⟩ := hw
    refine h_alenT C0 hh hr43 (rfl : w_tl[0]? = _) d_Rows_sumOfWeights_9 ?_
    refine lv_icmp_ge (tgt := 29) hx hb d_Rows_sumOfWeights_10 (by decide) (fun c44 => ?_) (fun c44 => ?_)
    · have hw := hw.1 c44
      refine lv_lload_n hx hb d_Rows_sumOfWeights_29 rfl (lv_at hl 1 rfl) ?_
      exact h_lret C0 hh hS rfl ⟨_, rfl, hw⟩ d_Rows_sumOfWeights_30
    · have hw := hw.2 c44
      refine lv_lload_n hx hb d_Rows_sumOfWeights_13 rfl (lv_at hl 1 rfl) ?_
      refine lv_aload_n hx hb d_Rows_sumOfWeights_14 rfl (lv_at hl 0 rfl) ?_
      obtain ⟨fs45, r48, hr46, hk47, hw⟩ := hw
      refine h_get C0 hh hr46 hk47 rfl i_Rows (by decide) k_f_Rows_29 (fun _ h9 => h9) d_Rows_sumOfWeights_15 ?_
      refine lv_iload_n hx hb d_Rows_sumOfWeights_18 rfl (lv_at hl 2 rfl) ?_
      obtain ⟨n49, f50, hr51, hi52, hw⟩ := hw
      refine h_iald C0 hh hr51 hi52 rfl d_Rows_sumOfWeights_19 ?_
      refine lv_i2l (v := (f50 x3.toNatClampNeg).toInt64) hx hb d_Rows_sumOfWeights_20 rfl ?_
      refine lv_ladd hx hb d_Rows_sumOfWeights_21 ?_
      refine lv_topl (fun x1_53 ex1_53 => ?_)
      have hw := hw x1_53 ex1_53
      refine lv_lstore_n (lv' := [(1, .long x1_53), (0, .ref x0), (3, .int x3)]) hx hb d_Rows_sumOfWeights_22 rfl hl (by decide) rfl (fun ls hl => ?_)
      obtain ⟨x3_54, ex3_54⟩ : ∃ z : Int32, z = x3 + 1 := ⟨_, rfl⟩
      have hw := hw x3_54 ex3_54
      refine lv_iinc (v := x3_54) (lv' := [(3, .int x3_54), (1, .long x1_53), (0, .ref x0)]) hx hb d_Rows_sumOfWeights_23 hl (k := 2) rfl (by rw [ex3_54]; rfl) (by decide) rfl (fun ls hl => ?_)
      refine lv_goto (tgt := 4) hx hb d_Rows_sumOfWeights_26 (by decide) ?_
      exact hK4 _ _ _ _ _ _ _ hw hh hS (lv_sub hl [2, 1, 0] rfl)
set_option maxHeartbeats 4000000 in
set_option maxRecDepth 100000 in
theorem S_Rows_sumOfWeights {l : Launch} {κ : hX} (Q : Int64 → hM → Prop) (h : hM) (x0 : Nat) (hw : P_Rows_sumOfWeights Q h x0) : Met l y_Rows_sumOfWeights [Cond.code y_Rows_sumOfWeights b_Rows_sumOfWeights 4 (some .long)] rm_Rows_sumOfWeights (hPc κ w_cl w_tl w_tb [.ref x0] h) (hQ κ w_cl (qJ Q)) 0 0 (h_A κ) := by
  refine h_enter w_TBm (by decide) (Nat.le_of_ble_eq_true rfl) ?_
  intro p e s m args below meth c C0 hnm hh hS ls hl
  obtain ⟨hx, hb, hml, hown, hts, hK, hF0, hrt, hlocks⟩ := id C0
  have hl : lv_has ls 4 [(0, .ref x0)] := hl
  refine lv_lconst (v := 0) hx hb d_Rows_sumOfWeights_0 (by decide) ?_
  refine lv_lstore_n (lv' := [(1, .long (0 : Int64)), (0, .ref x0)]) hx hb d_Rows_sumOfWeights_1 rfl hl (by decide) rfl (fun ls hl => ?_)
  refine lv_iconst (v := 0) hx hb d_Rows_sumOfWeights_2 (by decide) ?_
  refine lv_istore_n (lv' := [(3, .int (0 : Int32)), (1, .long (0 : Int64)), (0, .ref x0)]) hx hb d_Rows_sumOfWeights_3 rfl hl (by decide) rfl (fun ls hl => ?_)
  obtain ⟨n0, hw⟩ := hw
  exact S_Rows_sumOfWeights_4 C0 n0 _ _ _ _ _ _ _ hw hh hS (lv_sub hl [2, 1, 0] rfl)
set_option maxHeartbeats 4000000 in
set_option maxRecDepth 100000 in
theorem S_Rows_share_128 {p : Program} {l : Launch} {e : Env} {s : State} {m : MethodId} {args : Array Value} {below : List Frame} {meth : Method} {c : Code} {κ : hX} {Q : Int64 → hM → Prop} {K70 : hM → Nat → Int32 → Int64 → Int64 → Int64 → Int64 → Int64 → Int32 → Int32 → Prop} (C0 : Cw κ w_cl w_tl w_tb p s m args meth c b_Rows_share 17 R_Rows (some .long)) (hK70 : ∀ (h : hM) (x0 : Nat) (x1 : Int32) (x2 : Int64) (x4 : Int64) (x6 : Int64) (x8 : Int64) (x10 : Int64) (x12 : Int32) (x13 : Int32) (H : Heap) (locs : List Loc) (ls : Array Slot), K70 h x0 x1 x2 x4 x6 x8 x10 x12 x13 → hp κ w_cl h H → va_S (h_A κ) s.heap H locs → lv_has ls 17 [(0, .ref x0), (1, .int x1), (2, .long x2), (4, .long x4), (6, .long x6), (8, .long x8), (10, .long x10), (12, .int x12), (13, .int x13)] → W p l e rm_Rows_share s m args below meth c H locs 0 0 (MQ below (hQ κ w_cl (qJ Q)) args s 0 0 (h_A κ)) (F0 m 70 ls [])) : ∀ (h : hM) (x0 : Nat) (x1 : Int32) (x2 : Int64) (x4 : Int64) (x6 : Int64) (x8 : Int64) (x10 : Int64) (x12 : Int32) (x13 : Int32) (H : Heap) (locs : List Loc) (ls : Array Slot), P_Rows_share_128 Q K70 h x0 x1 x2 x4 x6 x8 x10 x12 x13 → hp κ w_cl h H → va_S (h_A κ) s.heap H locs → lv_has ls 17 [(0, .ref x0), (1, .int x1), (2, .long x2), (4, .long x4), (6, .long x6), (8, .long x8), (10, .long x10), (12, .int x12), (13, .int x13)] → W p l e rm_Rows_share s m args below meth c H locs 0 0 (MQ below (hQ κ w_cl (qJ Q)) args s 0 0 (h_A κ)) (F0 m 128 ls []) := by
  obtain ⟨hx, hb, hml, hown, hts, hK, hF0, hrt, hlocks⟩ := id C0
  intro h x0 x1 x2 x4 x6 x8 x10 x12 x13 H locs ls hw hh hS hl
  obtain ⟨x13_123, ex13_123⟩ : ∃ z : Int32, z = x13 + 1 := ⟨_, rfl⟩
  have hw := hw x13_123 ex13_123
  refine lv_iinc (v := x13_123) (lv' := [(13, .int x13_123), (0, .ref x0), (1, .int x1), (2, .long x2), (4, .long x4), (6, .long x6), (8, .long x8), (10, .long x10), (12, .int x12)]) hx hb d_Rows_share_128 hl (k := 8) rfl (by rw [ex13_123]; rfl) (by decide) rfl (fun ls hl => ?_)
  refine lv_goto (tgt := 70) hx hb d_Rows_share_131 (by decide) ?_
  exact hK70 _ _ _ _ _ _ _ _ _ _ _ _ _ hw hh hS (lv_sub hl [1, 2, 3, 4, 5, 6, 7, 8, 0] rfl)
set_option maxHeartbeats 4000000 in
set_option maxRecDepth 100000 in
theorem S_Rows_share_125 {p : Program} {l : Launch} {e : Env} {s : State} {m : MethodId} {args : Array Value} {below : List Frame} {meth : Method} {c : Code} {κ : hX} {Q : Int64 → hM → Prop} {K70 : hM → Nat → Int32 → Int64 → Int64 → Int64 → Int64 → Int64 → Int32 → Int32 → Prop} (C0 : Cw κ w_cl w_tl w_tb p s m args meth c b_Rows_share 17 R_Rows (some .long)) (hK70 : ∀ (h : hM) (x0 : Nat) (x1 : Int32) (x2 : Int64) (x4 : Int64) (x6 : Int64) (x8 : Int64) (x10 : Int64) (x12 : Int32) (x13 : Int32) (H : Heap) (locs : List Loc) (ls : Array Slot), K70 h x0 x1 x2 x4 x6 x8 x10 x12 x13 → hp κ w_cl h H → va_S (h_A κ) s.heap H locs → lv_has ls 17 [(0, .ref x0), (1, .int x1), (2, .long x2), (4, .long x4), (6, .long x6), (8, .long x8), (10, .long x10), (12, .int x12), (13, .int x13)] → W p l e rm_Rows_share s m args below meth c H locs 0 0 (MQ below (hQ κ w_cl (qJ Q)) args s 0 0 (h_A κ)) (F0 m 70 ls [])) : ∀ (h : hM) (x0 : Nat) (x1 : Int32) (x2 : Int64) (x4 : Int64) (x6 : Int64) (x8 : Int64) (x10 : Int64) (x12 : Int32) (x13 : Int32) (H : Heap) (locs : List Loc) (ls : Array Slot), P_Rows_share_125 Q K70 h x0 x1 x2 x4 x6 x8 x10 x12 x13 → hp κ w_cl h H → va_S (h_A κ) s.heap H locs → lv_has ls 17 [(0, .ref x0), (1, .int x1), (2, .long x2), (4, .long x4), (6, .long x6), (8, .long x8), (10, .long x10), (12, .int x12), (13, .int x13)] → W p l e rm_Rows_share s m args below meth c H locs 0 0 (MQ below (hQ κ w_cl (qJ Q)) args s 0 0 (h_A κ)) (F0 m 125 ls []) := by
  obtain ⟨hx, hb, hml, hown, hts, hK, hF0, hrt, hlocks⟩ := id C0
  intro h x0 x1 x2 x4 x6 x8 x10 x12 x13 H locs ls hw hh hS hl
  obtain ⟨x12_124, ex12_124⟩ : ∃ z : Int32, z = x12 + 1 := ⟨_, rfl⟩
  have hw := hw x12_124 ex12_124
  refine lv_iinc (v := x12_124) (lv' := [(12, .int x12_124), (0, .ref x0), (1, .int x1), (2, .long x2), (4, .long x4), (6, .long x6), (8, .long x8), (10, .long x10), (13, .int x13)]) hx hb d_Rows_share_125 hl (k := 7) rfl (by rw [ex12_124]; rfl) (by decide) rfl (fun ls hl => ?_)
  exact S_Rows_share_128 C0 hK70 _ _ _ _ _ _ _ _ _ _ _ _ _ hw hh hS (lv_sub hl [1, 2, 3, 4, 5, 6, 7, 0, 8] rfl)
set_option maxHeartbeats 4000000 in
set_option maxRecDepth 100000 in
theorem S_Rows_share_70 {p : Program} {l : Launch} {e : Env} {s : State} {m : MethodId} {args : Array Value} {below : List Frame} {meth : Method} {c : Code} {κ : hX} {Q : Int64 → hM → Prop} (C0 : Cw κ w_cl w_tl w_tb p s m args meth c b_Rows_share 17 R_Rows (some .long)) : ∀ (n : Nat) (h : hM) (x0 : Nat) (x1 : Int32) (x2 : Int64) (x4 : Int64) (x6 : Int64) (x8 : Int64) (x10 : Int64) (x12 : Int32) (x13 : Int32) (H : Heap) (locs : List Loc) (ls : Array Slot), L_Rows_share_70 Q n h x0 x1 x2 x4 x6 x8 x10 x12 x13 → hp κ w_cl h H → va_S (h_A κ) s.heap H locs → lv_has ls 17 [(0, .ref x0), (1, .int x1), (2, .long x2), (4, .long x4), (6, .long x6), (8, .long x8), (10, .long x10), (12, .int x12), (13, .int x13)] → W p l e rm_Rows_share s m args below meth c H locs 0 0 (MQ below (hQ κ w_cl (qJ Q)) args s 0 0 (h_A κ)) (F0 m 70 ls []) := by
  obtain ⟨hx, hb, hml, hown, hts, hK, hF0, hrt, hlocks⟩ := id C0
  intro n
  induction n with
  | zero =>
    intro h x0 x1 x2 x4 x6 x8 x10 x12 x13 H locs ls hw
    exact hw.elim
  | succ n hK70 =>
    intro h x0 x1 x2 x4 x6 x8 x10 x12 x13 H locs ls hw hh hS hl
    have hw : P_Rows_share_70 Q (L_Rows_share_70 Q n) h x0 x1 x2 x4 x6 x8 x10 x12 x13 := hw
    refine lv_iload hx hb d_Rows_share_70 (lv_at hl 8 rfl) ?_
    refine lv_aload_n hx hb d_Rows_share_72 rfl (lv_at hl 0 rfl) ?_
    obtain ⟨fs125, r128, hr126, hk127, hw⟩ := hw
    refine h_get C0 hh hr126 hk127 rfl i_Rows (by decide) k_f_Rows_29 (fun _ h9 => h9) d_Rows_share_73 ?_
    obtain ⟨n129, f130, hr131, hw⟩ := hw
    refine h_alenT C0 hh hr131 (rfl : w_tl[0]? = _) d_Rows_share_76 ?_
    refine lv_icmp_ge (tgt := 134) hx hb d_Rows_share_77 (by decide) (fun c132 => ?_) (fun c132 => ?_)
    · have hw := hw.1 c132
      refine lv_lload hx hb d_Rows_share_134 (lv_at hl 6 rfl) ?_
      refine lv_lload hx hb d_Rows_share_136 (lv_at hl 3 rfl) ?_
      obtain ⟨hne, hw⟩ := hw
      refine lv_ldiv hx hb d_Rows_share_138 hne ?_
      refine lv_topl (fun x13_133 ex13_133 => ?_)
      have hw := hw x13_133 ex13_133
      refine lv_lstore (lv' := [(13, .long x13_133), (0, .ref x0), (1, .int x1), (2, .long x2), (4, .long x4), (6, .long x6), (8, .long x8), (10, .long x10), (12, .int x12)]) hx hb d_Rows_share_139 hl (by decide) rfl (fun ls hl => ?_)
      refine lv_lload_n hx hb d_Rows_share_141 rfl (lv_at hl 3 rfl) ?_
      refine lv_lload hx hb d_Rows_share_142 (lv_at hl 4 rfl) ?_
      obtain ⟨hne, hw⟩ := hw
      refine lv_ldiv hx hb d_Rows_share_144 hne ?_
      refine lv_aload_n hx hb d_Rows_share_145 rfl (lv_at hl 1 rfl) ?_
      obtain ⟨fs134, r137, hr135, hk136, hw⟩ := hw
      refine h_get C0 hh hr135 hk136 rfl i_Rows (by decide) k_f_Rows_29 (fun _ h9 => h9) d_Rows_share_146 ?_
      refine lv_iload_n hx hb d_Rows_share_149 rfl (lv_at hl 2 rfl) ?_
      obtain ⟨n138, f139, hr140, hi141, hw⟩ := hw
      refine h_iald C0 hh hr140 hi141 rfl d_Rows_share_150 ?_
      refine lv_i2l (v := (f139 x1.toNatClampNeg).toInt64) hx hb d_Rows_share_151 rfl ?_
      refine lv_lmul hx hb d_Rows_share_152 ?_
      refine lv_lload hx hb d_Rows_share_153 (lv_at hl 5 rfl) ?_
      refine lv_aload_n hx hb d_Rows_share_155 rfl (lv_at hl 1 rfl) ?_
      obtain ⟨fs142, r145, hr143, hk144, hw⟩ := hw
      refine h_get C0 hh hr143 hk144 rfl i_Rows (by decide) k_f_Rows_29 (fun _ h9 => h9) d_Rows_share_156 ?_
      refine lv_iload_n hx hb d_Rows_share_159 rfl (lv_at hl 2 rfl) ?_
      obtain ⟨n146, f147, hr148, hi149, hw⟩ := hw
      refine h_iald C0 hh hr148 hi149 rfl d_Rows_share_160 ?_
      refine lv_i2l (v := (f147 x1.toNatClampNeg).toInt64) hx hb d_Rows_share_161 rfl ?_
      refine lv_lmul hx hb d_Rows_share_162 ?_
      refine lv_lload hx hb d_Rows_share_163 (lv_at hl 4 rfl) ?_
      obtain ⟨hne, hw⟩ := hw
      refine lv_ldiv hx hb d_Rows_share_165 hne ?_
      refine lv_ladd hx hb d_Rows_share_166 ?_
      refine lv_topl (fun x15_150 ex15_150 => ?_)
      have hw := hw x15_150 ex15_150
      refine lv_lstore (lv' := [(15, .long x15_150), (13, .long x13_133), (0, .ref x0), (1, .int x1), (2, .long x2), (4, .long x4), (6, .long x6), (8, .long x8), (10, .long x10), (12, .int x12)]) hx hb d_Rows_share_167 hl (by decide) rfl (fun ls hl => ?_)
      refine lv_iload hx hb d_Rows_share_169 (lv_at hl 9 rfl) ?_
      refine lv_i2l (v := x12.toInt64) hx hb d_Rows_share_171 rfl ?_
      refine lv_lload hx hb d_Rows_share_172 (lv_at hl 1 rfl) ?_
      refine W.lcmp hx hb d_Rows_share_174 ?_
      refine lv_if_ge (tgt := 185) hx hb d_Rows_share_175 (by decide) (fun c151 => ?_) (fun c151 => ?_)
      · have hw := hw.1 ((lg_cmp_ge _ _).mp c151)
        refine lv_lload hx hb d_Rows_share_185 (lv_at hl 0 rfl) ?_
        exact h_lret C0 hh hS rfl ⟨_, rfl, hw⟩ d_Rows_share_187
      · have hw := hw.2 (fun z => c151 ((lg_cmp_ge _ _).mpr z))
        refine lv_lload hx hb d_Rows_share_178 (lv_at hl 0 rfl) ?_
        refine lv_lconst (v := 1) hx hb d_Rows_share_180 (by decide) ?_
        refine lv_ladd hx hb d_Rows_share_181 ?_
        refine lv_goto (tgt := 187) hx hb d_Rows_share_182 (by decide) ?_
        exact h_lret C0 hh hS rfl ⟨_, rfl, hw⟩ d_Rows_share_187
    · have hw := hw.2 c132
      refine lv_lload hx hb d_Rows_share_80 (lv_at hl 4 rfl) ?_
      refine lv_aload_n hx hb d_Rows_share_82 rfl (lv_at hl 0 rfl) ?_
      obtain ⟨fs152, r155, hr153, hk154, hw⟩ := hw
      refine h_get C0 hh hr153 hk154 rfl i_Rows (by decide) k_f_Rows_29 (fun _ h9 => h9) d_Rows_share_83 ?_
      refine lv_iload hx hb d_Rows_share_86 (lv_at hl 8 rfl) ?_
      obtain ⟨n156, f157, hr158, hi159, hw⟩ := hw
      refine h_iald C0 hh hr158 hi159 rfl d_Rows_share_88 ?_
      refine lv_i2l (v := (f157 x13.toNatClampNeg).toInt64) hx hb d_Rows_share_89 rfl ?_
      refine lv_lmul hx hb d_Rows_share_90 ?_
      refine lv_lload hx hb d_Rows_share_91 (lv_at hl 3 rfl) ?_
      obtain ⟨hne, hw⟩ := hw
      refine lv_lrem hx hb d_Rows_share_93 hne ?_
      refine lv_topl (fun x14_160 ex14_160 => ?_)
      have hw := hw x14_160 ex14_160
      refine lv_lstore (lv' := [(14, .long x14_160), (0, .ref x0), (1, .int x1), (2, .long x2), (4, .long x4), (6, .long x6), (8, .long x8), (10, .long x10), (12, .int x12), (13, .int x13)]) hx hb d_Rows_share_94 hl (by decide) rfl (fun ls hl => ?_)
      refine lv_lload hx hb d_Rows_share_96 (lv_at hl 7 rfl) ?_
      refine lv_lload hx hb d_Rows_share_98 (lv_at hl 0 rfl) ?_
      refine lv_ladd hx hb d_Rows_share_100 ?_
      refine lv_topl (fun x10_161 ex10_161 => ?_)
      have hw := hw x10_161 ex10_161
      refine lv_lstore (lv' := [(10, .long x10_161), (14, .long x14_160), (0, .ref x0), (1, .int x1), (2, .long x2), (4, .long x4), (6, .long x6), (8, .long x8), (12, .int x12), (13, .int x13)]) hx hb d_Rows_share_101 hl (by decide) rfl (fun ls hl => ?_)
      refine lv_lload hx hb d_Rows_share_103 (lv_at hl 1 rfl) ?_
      refine lv_lload hx hb d_Rows_share_105 (lv_at hl 7 rfl) ?_
      refine W.lcmp hx hb d_Rows_share_107 ?_
      refine lv_if_gt (tgt := 125) hx hb d_Rows_share_108 (by decide) (fun c162 => ?_) (fun c162 => ?_)
      · have hw := hw.1 ((lg_cmp_gt _ _).mp c162)
        exact S_Rows_share_125 C0 hK70 _ _ _ _ _ _ _ _ _ _ _ _ _ hw hh hS (lv_sub hl [2, 3, 4, 5, 6, 7, 0, 8, 9] rfl)
      · have hw := hw.2 (fun z => c162 ((lg_cmp_gt _ _).mpr z))
        refine lv_lload hx hb d_Rows_share_111 (lv_at hl 1 rfl) ?_
        refine lv_lload hx hb d_Rows_share_113 (lv_at hl 7 rfl) ?_
        refine W.lcmp hx hb d_Rows_share_115 ?_
        refine lv_if_ne (tgt := 128) hx hb d_Rows_share_116 (by decide) (fun c163 => ?_) (fun c163 => ?_)
        · have hw := hw.1 (fun z => c163 ((lg_cmp_eq _ _).mpr z))
          exact S_Rows_share_128 C0 hK70 _ _ _ _ _ _ _ _ _ _ _ _ _ hw hh hS (lv_sub hl [2, 3, 4, 5, 6, 7, 0, 8, 9] rfl)
        · have hw := hw.2 ((lg_cmp_eq _ _).mp c163)
          refine lv_iload hx hb d_Rows_share_119 (lv_at hl 9 rfl) ?_
          refine lv_iload_n hx hb d_Rows_share_121 rfl (lv_at hl 3 rfl) ?_
          refine lv_icmp_ge (tgt := 128) hx hb d_Rows_share_122 (by decide) (fun c164 => ?_) (fun c164 => ?_)
          · have hw := hw.1 c164
            exact S_Rows_share_128 C0 hK70 _ _ _ _ _ _ _ _ _ _ _ _ _ hw hh hS (lv_sub hl [2, 3, 4, 5, 6, 7, 0, 8, 9] rfl)
          · have hw := hw.2 c164
            exact S_Rows_share_125 C0 hK70 _ _ _ _ _ _ _ _ _ _ _ _ _ hw hh hS (lv_sub hl [2, 3, 4, 5, 6, 7, 0, 8, 9] rfl)
