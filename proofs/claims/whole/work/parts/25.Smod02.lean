set_option maxHeartbeats 4000000 in
set_option maxRecDepth 100000 in
theorem S_Mod_reaches_107 {p : Program} {l : Launch} {e : Env} {s : State} {m : MethodId} {args : Array Value} {below : List Frame} {meth : Method} {c : Code} {κ : hX} {Q : Int32 → hM → Prop} {K51 : hM → Nat → Int32 → Int32 → Int32 → Int32 → Prop} (C0 : Cw κ w_cl w_tl w_tb p s m args meth c b_Mod_reaches 6 R_Mod (some .boolean)) (hK51 : ∀ (h : hM) (x0 : Nat) (x2 : Int32) (x3 : Int32) (x4 : Int32) (x5 : Int32) (H : Heap) (locs : List Loc) (ls : Array Slot), K51 h x0 x2 x3 x4 x5 → hp κ w_cl h H → va_S (h_A κ) s.heap H locs → lv_has ls 6 [(0, .ref x0), (2, .int x2), (3, .int x3), (4, .int x4), (5, .int x5)] → W p l e rm_Mod_reaches s m args below meth c H locs 0 0 (MQ below (hQ κ w_cl (qI Q)) args s 0 0 (h_A κ)) (F0 m 51 ls [])) : ∀ (h : hM) (x0 : Nat) (x2 : Int32) (x3 : Int32) (x4 : Int32) (x5 : Int32) (H : Heap) (locs : List Loc) (ls : Array Slot), P_Mod_reaches_107 Q K51 h x0 x2 x3 x4 x5 → hp κ w_cl h H → va_S (h_A κ) s.heap H locs → lv_has ls 6 [(0, .ref x0), (2, .int x2), (3, .int x3), (4, .int x4), (5, .int x5)] → W p l e rm_Mod_reaches s m args below meth c H locs 0 0 (MQ below (hQ κ w_cl (qI Q)) args s 0 0 (h_A κ)) (F0 m 107 ls []) := by
  obtain ⟨hx, hb, hml, hown, hts, hK, hF0, hrt, hlocks⟩ := id C0
  intro h x0 x2 x3 x4 x5 H locs ls hw hh hS hl
  obtain ⟨x5_123, ex5_123⟩ : ∃ z : Int32, z = x5 + 1 := ⟨_, rfl⟩
  have hw := hw x5_123 ex5_123
  refine lv_iinc (v := x5_123) (lv' := [(5, .int x5_123), (0, .ref x0), (2, .int x2), (3, .int x3), (4, .int x4)]) hx hb d_Mod_reaches_107 hl (k := 4) rfl (by rw [ex5_123]; rfl) (by decide) rfl (fun ls hl => ?_)
  refine lv_goto (tgt := 51) hx hb d_Mod_reaches_110 (by decide) ?_
  exact hK51 _ _ _ _ _ _ _ _ _ hw hh hS (lv_sub hl [1, 2, 3, 4, 0] rfl)
set_option maxHeartbeats 4000000 in
set_option maxRecDepth 100000 in
theorem S_Mod_reaches_113 {p : Program} {l : Launch} {e : Env} {s : State} {m : MethodId} {args : Array Value} {below : List Frame} {meth : Method} {c : Code} {κ : hX} {Q : Int32 → hM → Prop} {K41 : hM → Nat → Int32 → Int32 → Int32 → Prop} (C0 : Cw κ w_cl w_tl w_tb p s m args meth c b_Mod_reaches 6 R_Mod (some .boolean)) (hK41 : ∀ (h : hM) (x0 : Nat) (x2 : Int32) (x3 : Int32) (x4 : Int32) (H : Heap) (locs : List Loc) (ls : Array Slot), K41 h x0 x2 x3 x4 → hp κ w_cl h H → va_S (h_A κ) s.heap H locs → lv_has ls 6 [(0, .ref x0), (2, .int x2), (3, .int x3), (4, .int x4)] → W p l e rm_Mod_reaches s m args below meth c H locs 0 0 (MQ below (hQ κ w_cl (qI Q)) args s 0 0 (h_A κ)) (F0 m 41 ls [])) : ∀ (h : hM) (x0 : Nat) (x2 : Int32) (x3 : Int32) (x4 : Int32) (H : Heap) (locs : List Loc) (ls : Array Slot), P_Mod_reaches_113 Q K41 h x0 x2 x3 x4 → hp κ w_cl h H → va_S (h_A κ) s.heap H locs → lv_has ls 6 [(0, .ref x0), (2, .int x2), (3, .int x3), (4, .int x4)] → W p l e rm_Mod_reaches s m args below meth c H locs 0 0 (MQ below (hQ κ w_cl (qI Q)) args s 0 0 (h_A κ)) (F0 m 113 ls []) := by
  obtain ⟨hx, hb, hml, hown, hts, hK, hF0, hrt, hlocks⟩ := id C0
  intro h x0 x2 x3 x4 H locs ls hw hh hS hl
  obtain ⟨x4_124, ex4_124⟩ : ∃ z : Int32, z = x4 + 1 := ⟨_, rfl⟩
  have hw := hw x4_124 ex4_124
  refine lv_iinc (v := x4_124) (lv' := [(4, .int x4_124), (0, .ref x0), (2, .int x2), (3, .int x3)]) hx hb d_Mod_reaches_113 hl (k := 3) rfl (by rw [ex4_124]; rfl) (by decide) rfl (fun ls hl => ?_)
  refine lv_goto (tgt := 41) hx hb d_Mod_reaches_116 (by decide) ?_
  exact hK41 _ _ _ _ _ _ _ _ hw hh hS (lv_sub hl [1, 2, 3, 0] rfl)
set_option maxHeartbeats 4000000 in
set_option maxRecDepth 100000 in
theorem S_Mod_reaches_23 {p : Program} {l : Launch} {e : Env} {s : State} {m : MethodId} {args : Array Value} {below : List Frame} {meth : Method} {c : Code} {κ : hX} {Q : Int32 → hM → Prop} {K2 : hM → Nat → Int32 → Int32 → Int32 → Prop} (C0 : Cw κ w_cl w_tl w_tb p s m args meth c b_Mod_reaches 6 R_Mod (some .boolean)) (hK2 : ∀ (h : hM) (x0 : Nat) (x1 : Int32) (x2 : Int32) (x3 : Int32) (H : Heap) (locs : List Loc) (ls : Array Slot), K2 h x0 x1 x2 x3 → hp κ w_cl h H → va_S (h_A κ) s.heap H locs → lv_has ls 6 [(0, .ref x0), (1, .int x1), (2, .int x2), (3, .int x3)] → W p l e rm_Mod_reaches s m args below meth c H locs 0 0 (MQ below (hQ κ w_cl (qI Q)) args s 0 0 (h_A κ)) (F0 m 2 ls [])) : ∀ (h : hM) (x0 : Nat) (x1 : Int32) (x2 : Int32) (x3 : Int32) (t0 : Int32) (t1 : Int32) (t2 : Nat) (H : Heap) (locs : List Loc) (ls : Array Slot), P_Mod_reaches_23 Q K2 h x0 x1 x2 x3 t0 t1 t2 → hp κ w_cl h H → va_S (h_A κ) s.heap H locs → lv_has ls 6 [(0, .ref x0), (1, .int x1), (2, .int x2), (3, .int x3)] → W p l e rm_Mod_reaches s m args below meth c H locs 0 0 (MQ below (hQ κ w_cl (qI Q)) args s 0 0 (h_A κ)) (F0 m 23 ls [.int t0, .int t1, .ref t2]) := by
  obtain ⟨hx, hb, hml, hown, hts, hK, hF0, hrt, hlocks⟩ := id C0
  intro h x0 x1 x2 x3 t0 t1 t2 H locs ls hw hh hS hl
  obtain ⟨n125, f126, hr127, hi128, hw⟩ := hw
  obtain ⟨hz9, hw⟩ := hw
  refine h_zast C0 hh hS hr127 hi128 rfl (h_vz hz9) d_Mod_reaches_23 (fun H locs hh hS => ?_)
  obtain ⟨h129, eh129⟩ : ∃ z : hM, z = h_up h t2 (eT 3 n125 (upd f126 t1.toNatClampNeg t0)) := ⟨_, rfl⟩
  rw [← eh129] at hh
  have hw := hw h129 eh129
  obtain ⟨x3_130, ex3_130⟩ : ∃ z : Int32, z = x3 + 1 := ⟨_, rfl⟩
  have hw := hw x3_130 ex3_130
  refine lv_iinc (v := x3_130) (lv' := [(3, .int x3_130), (0, .ref x0), (1, .int x1), (2, .int x2)]) hx hb d_Mod_reaches_24 hl (k := 3) rfl (by rw [ex3_130]; rfl) (by decide) rfl (fun ls hl => ?_)
  refine lv_goto (tgt := 2) hx hb d_Mod_reaches_27 (by decide) ?_
  exact hK2 _ _ _ _ _ _ _ _ hw hh hS (lv_sub hl [1, 2, 3, 0] rfl)
set_option maxHeartbeats 4000000 in
set_option maxRecDepth 100000 in
theorem S_Mod_reaches_51 {p : Program} {l : Launch} {e : Env} {s : State} {m : MethodId} {args : Array Value} {below : List Frame} {meth : Method} {c : Code} {κ : hX} {Q : Int32 → hM → Prop} {K41 : hM → Nat → Int32 → Int32 → Int32 → Prop} (C0 : Cw κ w_cl w_tl w_tb p s m args meth c b_Mod_reaches 6 R_Mod (some .boolean)) (hK41 : ∀ (h : hM) (x0 : Nat) (x2 : Int32) (x3 : Int32) (x4 : Int32) (H : Heap) (locs : List Loc) (ls : Array Slot), K41 h x0 x2 x3 x4 → hp κ w_cl h H → va_S (h_A κ) s.heap H locs → lv_has ls 6 [(0, .ref x0), (2, .int x2), (3, .int x3), (4, .int x4)] → W p l e rm_Mod_reaches s m args below meth c H locs 0 0 (MQ below (hQ κ w_cl (qI Q)) args s 0 0 (h_A κ)) (F0 m 41 ls [])) : ∀ (n : Nat) (h : hM) (x0 : Nat) (x2 : Int32) (x3 : Int32) (x4 : Int32) (x5 : Int32) (H : Heap) (locs : List Loc) (ls : Array Slot), L_Mod_reaches_51 Q K41 n h x0 x2 x3 x4 x5 → hp κ w_cl h H → va_S (h_A κ) s.heap H locs → lv_has ls 6 [(0, .ref x0), (2, .int x2), (3, .int x3), (4, .int x4), (5, .int x5)] → W p l e rm_Mod_reaches s m args below meth c H locs 0 0 (MQ below (hQ κ w_cl (qI Q)) args s 0 0 (h_A κ)) (F0 m 51 ls []) := by
  obtain ⟨hx, hb, hml, hown, hts, hK, hF0, hrt, hlocks⟩ := id C0
  intro n
  induction n with
  | zero =>
    intro h x0 x2 x3 x4 x5 H locs ls hw
    exact hw.elim
  | succ n hK51 =>
    intro h x0 x2 x3 x4 x5 H locs ls hw hh hS hl
    have hw : P_Mod_reaches_51 Q K41 (L_Mod_reaches_51 Q K41 n) h x0 x2 x3 x4 x5 := hw
    refine lv_iload hx hb d_Mod_reaches_51 (lv_at hl 4 rfl) ?_
    refine lv_bipush (v := 100) hx hb d_Mod_reaches_53 (by decide) ?_
    refine lv_icmp_ge (tgt := 113) hx hb d_Mod_reaches_55 (by decide) (fun c131 => ?_) (fun c131 => ?_)
    · have hw := hw.1 c131
      exact S_Mod_reaches_113 C0 hK41 _ _ _ _ _ _ _ _ hw hh hS (lv_sub hl [0, 1, 2, 3] rfl)
    · have hw := hw.2 c131
      refine lv_aload_n hx hb d_Mod_reaches_58 rfl (lv_at hl 0 rfl) ?_
      obtain ⟨fs132, r135, hr133, hk134, hw⟩ := hw
      refine h_get C0 hh hr133 hk134 rfl i_Mod (by decide) k_f_Mod_59 (fun _ h9 => h9) d_Mod_reaches_59 ?_
      refine lv_iload hx hb d_Mod_reaches_62 (lv_at hl 3 rfl) ?_
      obtain ⟨n136, f137, hr138, hi139, hw⟩ := hw
      refine h_zald C0 hh hr138 hi139 rfl d_Mod_reaches_64 ?_
      refine lv_if_eq (tgt := 113) hx hb d_Mod_reaches_65 (by decide) (fun c140 => ?_) (fun c140 => ?_)
      · have hw := hw.1 c140
        exact S_Mod_reaches_113 C0 hK41 _ _ _ _ _ _ _ _ hw hh hS (lv_sub hl [0, 1, 2, 3] rfl)
      · have hw := hw.2 c140
        refine lv_aload_n hx hb d_Mod_reaches_68 rfl (lv_at hl 0 rfl) ?_
        obtain ⟨fs141, r144, hr142, hk143, hw⟩ := hw
        refine h_get C0 hh hr142 hk143 rfl i_Mod (by decide) k_f_Mod_56 (fun _ h9 => h9) d_Mod_reaches_69 ?_
        refine lv_bipush (v := 100) hx hb d_Mod_reaches_72 (by decide) ?_
        refine lv_iload hx hb d_Mod_reaches_74 (lv_at hl 3 rfl) ?_
        refine lv_imul hx hb d_Mod_reaches_76 ?_
        refine lv_iload hx hb d_Mod_reaches_77 (lv_at hl 4 rfl) ?_
        refine lv_iadd hx hb d_Mod_reaches_79 ?_
        obtain ⟨n145, f146, hr147, hi148, hw⟩ := hw
        refine h_zald C0 hh hr147 hi148 rfl d_Mod_reaches_80 ?_
        refine lv_if_eq (tgt := 107) hx hb d_Mod_reaches_81 (by decide) (fun c149 => ?_) (fun c149 => ?_)
        · have hw := hw.1 c149
          exact S_Mod_reaches_107 C0 hK51 _ _ _ _ _ _ _ _ _ hw hh hS (lv_sub hl [0, 1, 2, 3, 4] rfl)
        · have hw := hw.2 c149
          refine lv_aload_n hx hb d_Mod_reaches_84 rfl (lv_at hl 0 rfl) ?_
          obtain ⟨fs150, r153, hr151, hk152, hw⟩ := hw
          refine h_get C0 hh hr151 hk152 rfl i_Mod (by decide) k_f_Mod_59 (fun _ h9 => h9) d_Mod_reaches_85 ?_
          refine lv_iload hx hb d_Mod_reaches_88 (lv_at hl 4 rfl) ?_
          obtain ⟨n154, f155, hr156, hi157, hw⟩ := hw
          refine h_zald C0 hh hr156 hi157 rfl d_Mod_reaches_90 ?_
          refine lv_if_eq (tgt := 97) hx hb d_Mod_reaches_91 (by decide) (fun c158 => ?_) (fun c158 => ?_)
          · have hw := hw.1 c158
            refine lv_aload_n hx hb d_Mod_reaches_97 rfl (lv_at hl 0 rfl) ?_
            obtain ⟨fs159, r162, hr160, hk161, hw⟩ := hw
            refine h_get C0 hh hr160 hk161 rfl i_Mod (by decide) k_f_Mod_59 (fun _ h9 => h9) d_Mod_reaches_98 ?_
            refine lv_iload hx hb d_Mod_reaches_101 (lv_at hl 4 rfl) ?_
            refine lv_iconst (v := 1) hx hb d_Mod_reaches_103 (by decide) ?_
            obtain ⟨n163, f164, hr165, hi166, hw⟩ := hw
            refine h_zast C0 hh hS hr165 hi166 rfl rfl d_Mod_reaches_104 (fun H locs hh hS => ?_)
            obtain ⟨h167, eh167⟩ : ∃ z : hM, z = h_up h r162 (eT 3 n163 (upd f164 x5.toNatClampNeg (1 : Int32))) := ⟨_, rfl⟩
            rw [← eh167] at hh
            have hw := hw h167 eh167
            refine lv_iconst (v := 1) hx hb d_Mod_reaches_105 (by decide) ?_
            refine lv_istore_n (lv' := [(3, .int (1 : Int32)), (0, .ref x0), (2, .int x2), (4, .int x4), (5, .int x5)]) hx hb d_Mod_reaches_106 rfl hl (by decide) rfl (fun ls hl => ?_)
            exact S_Mod_reaches_107 C0 hK51 _ _ _ _ _ _ _ _ _ hw hh hS (lv_sub hl [1, 2, 0, 3, 4] rfl)
          · have hw := hw.2 c158
            refine lv_goto (tgt := 107) hx hb d_Mod_reaches_94 (by decide) ?_
            exact S_Mod_reaches_107 C0 hK51 _ _ _ _ _ _ _ _ _ hw hh hS (lv_sub hl [0, 1, 2, 3, 4] rfl)
set_option maxHeartbeats 4000000 in
set_option maxRecDepth 100000 in
theorem S_Mod_reaches_41 {p : Program} {l : Launch} {e : Env} {s : State} {m : MethodId} {args : Array Value} {below : List Frame} {meth : Method} {c : Code} {κ : hX} {Q : Int32 → hM → Prop} {K32 : hM → Nat → Int32 → Int32 → Prop} (C0 : Cw κ w_cl w_tl w_tb p s m args meth c b_Mod_reaches 6 R_Mod (some .boolean)) (hK32 : ∀ (h : hM) (x0 : Nat) (x2 : Int32) (x3 : Int32) (H : Heap) (locs : List Loc) (ls : Array Slot), K32 h x0 x2 x3 → hp κ w_cl h H → va_S (h_A κ) s.heap H locs → lv_has ls 6 [(0, .ref x0), (2, .int x2), (3, .int x3)] → W p l e rm_Mod_reaches s m args below meth c H locs 0 0 (MQ below (hQ κ w_cl (qI Q)) args s 0 0 (h_A κ)) (F0 m 32 ls [])) : ∀ (n : Nat) (h : hM) (x0 : Nat) (x2 : Int32) (x3 : Int32) (x4 : Int32) (H : Heap) (locs : List Loc) (ls : Array Slot), L_Mod_reaches_41 Q K32 n h x0 x2 x3 x4 → hp κ w_cl h H → va_S (h_A κ) s.heap H locs → lv_has ls 6 [(0, .ref x0), (2, .int x2), (3, .int x3), (4, .int x4)] → W p l e rm_Mod_reaches s m args below meth c H locs 0 0 (MQ below (hQ κ w_cl (qI Q)) args s 0 0 (h_A κ)) (F0 m 41 ls []) := by
  obtain ⟨hx, hb, hml, hown, hts, hK, hF0, hrt, hlocks⟩ := id C0
  intro n
  induction n with
  | zero =>
    intro h x0 x2 x3 x4 H locs ls hw
    exact hw.elim
  | succ n hK41 =>
    intro h x0 x2 x3 x4 H locs ls hw hh hS hl
    have hw : P_Mod_reaches_41 Q K32 (L_Mod_reaches_41 Q K32 n) h x0 x2 x3 x4 := hw
    refine lv_iload hx hb d_Mod_reaches_41 (lv_at hl 3 rfl) ?_
    refine lv_bipush (v := 100) hx hb d_Mod_reaches_43 (by decide) ?_
    refine lv_icmp_ge (tgt := 119) hx hb d_Mod_reaches_45 (by decide) (fun c168 => ?_) (fun c168 => ?_)
    · have hw := hw.1 c168
      refine lv_goto (tgt := 32) hx hb d_Mod_reaches_119 (by decide) ?_
      exact hK32 _ _ _ _ _ _ _ hw hh hS (lv_sub hl [0, 1, 2] rfl)
    · have hw := hw.2 c168
      refine lv_iconst (v := 0) hx hb d_Mod_reaches_48 (by decide) ?_
      refine lv_istore (lv' := [(5, .int (0 : Int32)), (0, .ref x0), (2, .int x2), (3, .int x3), (4, .int x4)]) hx hb d_Mod_reaches_49 hl (by decide) rfl (fun ls hl => ?_)
      obtain ⟨n0, hw⟩ := hw
      exact S_Mod_reaches_51 C0 hK41 n0 _ _ _ _ _ _ _ _ _ hw hh hS (lv_sub hl [1, 2, 3, 4, 0] rfl)
set_option maxHeartbeats 4000000 in
set_option maxRecDepth 100000 in
theorem S_Mod_reaches_32 {p : Program} {l : Launch} {e : Env} {s : State} {m : MethodId} {args : Array Value} {below : List Frame} {meth : Method} {c : Code} {κ : hX} {Q : Int32 → hM → Prop} (C0 : Cw κ w_cl w_tl w_tb p s m args meth c b_Mod_reaches 6 R_Mod (some .boolean)) : ∀ (n : Nat) (h : hM) (x0 : Nat) (x2 : Int32) (x3 : Int32) (H : Heap) (locs : List Loc) (ls : Array Slot), L_Mod_reaches_32 Q n h x0 x2 x3 → hp κ w_cl h H → va_S (h_A κ) s.heap H locs → lv_has ls 6 [(0, .ref x0), (2, .int x2), (3, .int x3)] → W p l e rm_Mod_reaches s m args below meth c H locs 0 0 (MQ below (hQ κ w_cl (qI Q)) args s 0 0 (h_A κ)) (F0 m 32 ls []) := by
  obtain ⟨hx, hb, hml, hown, hts, hK, hF0, hrt, hlocks⟩ := id C0
  intro n
  induction n with
  | zero =>
    intro h x0 x2 x3 H locs ls hw
    exact hw.elim
  | succ n hK32 =>
    intro h x0 x2 x3 H locs ls hw hh hS hl
    have hw : P_Mod_reaches_32 Q (L_Mod_reaches_32 Q n) h x0 x2 x3 := hw
    refine lv_iload_n hx hb d_Mod_reaches_32 rfl (lv_at hl 2 rfl) ?_
    refine lv_if_eq (tgt := 122) hx hb d_Mod_reaches_33 (by decide) (fun c169 => ?_) (fun c169 => ?_)
    · have hw := hw.1 c169
      refine lv_aload_n hx hb d_Mod_reaches_122 rfl (lv_at hl 0 rfl) ?_
      obtain ⟨fs170, r173, hr171, hk172, hw⟩ := hw
      refine h_get C0 hh hr171 hk172 rfl i_Mod (by decide) k_f_Mod_59 (fun _ h9 => h9) d_Mod_reaches_123 ?_
      refine lv_iload_n hx hb d_Mod_reaches_126 rfl (lv_at hl 1 rfl) ?_
      obtain ⟨n174, f175, hr176, hi177, hw⟩ := hw
      refine h_zald C0 hh hr176 hi177 rfl d_Mod_reaches_127 ?_
      exact h_iret C0 hh hS rfl (h_nz hw.1) ⟨_, rfl, hw.2⟩ d_Mod_reaches_128
    · have hw := hw.2 c169
      refine lv_iconst (v := 0) hx hb d_Mod_reaches_36 (by decide) ?_
      refine lv_istore_n (lv' := [(3, .int (0 : Int32)), (0, .ref x0), (2, .int x2)]) hx hb d_Mod_reaches_37 rfl hl (by decide) rfl (fun ls hl => ?_)
      refine lv_iconst (v := 0) hx hb d_Mod_reaches_38 (by decide) ?_
      refine lv_istore (lv' := [(4, .int (0 : Int32)), (3, .int (0 : Int32)), (0, .ref x0), (2, .int x2)]) hx hb d_Mod_reaches_39 hl (by decide) rfl (fun ls hl => ?_)
      obtain ⟨n0, hw⟩ := hw
      exact S_Mod_reaches_41 C0 hK32 n0 _ _ _ _ _ _ _ _ hw hh hS (lv_sub hl [2, 3, 1, 0] rfl)
set_option maxHeartbeats 4000000 in
set_option maxRecDepth 100000 in
theorem S_Mod_reaches_2 {p : Program} {l : Launch} {e : Env} {s : State} {m : MethodId} {args : Array Value} {below : List Frame} {meth : Method} {c : Code} {κ : hX} {Q : Int32 → hM → Prop} (C0 : Cw κ w_cl w_tl w_tb p s m args meth c b_Mod_reaches 6 R_Mod (some .boolean)) : ∀ (n : Nat) (h : hM) (x0 : Nat) (x1 : Int32) (x2 : Int32) (x3 : Int32) (H : Heap) (locs : List Loc) (ls : Array Slot), L_Mod_reaches_2 Q n h x0 x1 x2 x3 → hp κ w_cl h H → va_S (h_A κ) s.heap H locs → lv_has ls 6 [(0, .ref x0), (1, .int x1), (2, .int x2), (3, .int x3)] → W p l e rm_Mod_reaches s m args below meth c H locs 0 0 (MQ below (hQ κ w_cl (qI Q)) args s 0 0 (h_A κ)) (F0 m 2 ls []) := by
  obtain ⟨hx, hb, hml, hown, hts, hK, hF0, hrt, hlocks⟩ := id C0
  intro n
  induction n with
  | zero =>
    intro h x0 x1 x2 x3 H locs ls hw
    exact hw.elim
  | succ n hK2 =>
    intro h x0 x1 x2 x3 H locs ls hw hh hS hl
    have hw : P_Mod_reaches_2 Q (L_Mod_reaches_2 Q n) h x0 x1 x2 x3 := hw
    refine lv_iload_n hx hb d_Mod_reaches_2 rfl (lv_at hl 3 rfl) ?_
    refine lv_bipush (v := 100) hx hb d_Mod_reaches_3 (by decide) ?_
    refine lv_icmp_ge (tgt := 30) hx hb d_Mod_reaches_5 (by decide) (fun c178 => ?_) (fun c178 => ?_)
    · have hw := hw.1 c178
      refine lv_iconst (v := 1) hx hb d_Mod_reaches_30 (by decide) ?_
      refine lv_istore_n (lv' := [(3, .int (1 : Int32)), (0, .ref x0), (1, .int x1), (2, .int x2)]) hx hb d_Mod_reaches_31 rfl hl (by decide) rfl (fun ls hl => ?_)
      obtain ⟨n0, hw⟩ := hw
      exact S_Mod_reaches_32 C0 n0 _ _ _ _ _ _ _ hw hh hS (lv_sub hl [1, 3, 0] rfl)
    · have hw := hw.2 c178
      refine lv_aload_n hx hb d_Mod_reaches_8 rfl (lv_at hl 0 rfl) ?_
      obtain ⟨fs179, r182, hr180, hk181, hw⟩ := hw
      refine h_get C0 hh hr180 hk181 rfl i_Mod (by decide) k_f_Mod_59 (fun _ h9 => h9) d_Mod_reaches_9 ?_
      refine lv_iload_n hx hb d_Mod_reaches_12 rfl (lv_at hl 3 rfl) ?_
      refine lv_iload_n hx hb d_Mod_reaches_13 rfl (lv_at hl 3 rfl) ?_
      refine lv_iload_n hx hb d_Mod_reaches_14 rfl (lv_at hl 1 rfl) ?_
      refine lv_icmp_ne (tgt := 22) hx hb d_Mod_reaches_15 (by decide) (fun c183 => ?_) (fun c183 => ?_)
      · have hw := hw.1 c183
        refine lv_iconst (v := 0) hx hb d_Mod_reaches_22 (by decide) ?_
        exact S_Mod_reaches_23 C0 hK2 _ _ _ _ _ _ _ _ _ _ _ hw hh hS (lv_sub hl [0, 1, 2, 3] rfl)
      · have hw := hw.2 c183
        refine lv_iconst (v := 1) hx hb d_Mod_reaches_18 (by decide) ?_
        refine lv_goto (tgt := 23) hx hb d_Mod_reaches_19 (by decide) ?_
        exact S_Mod_reaches_23 C0 hK2 _ _ _ _ _ _ _ _ _ _ _ hw hh hS (lv_sub hl [0, 1, 2, 3] rfl)
set_option maxHeartbeats 4000000 in
set_option maxRecDepth 100000 in
theorem S_Mod_reaches {l : Launch} {κ : hX} (Q : Int32 → hM → Prop) (h : hM) (x0 : Nat) (x1 : Int32) (x2 : Int32) (hw : P_Mod_reaches Q h x0 x1 x2) : Met l y_Mod_reaches [Cond.code y_Mod_reaches b_Mod_reaches 6 (some .boolean)] rm_Mod_reaches (hPc κ w_cl w_tl w_tb [.ref x0, .int x1, .int x2] h) (hQ κ w_cl (qI Q)) 0 0 (h_A κ) := by
  refine h_enter w_TBm (by decide) (Nat.le_of_ble_eq_true rfl) ?_
  intro p e s m args below meth c C0 hnm hh hS ls hl
  obtain ⟨hx, hb, hml, hown, hts, hK, hF0, hrt, hlocks⟩ := id C0
  have hl : lv_has ls 6 [(0, .ref x0), (1, .int x1), (2, .int x2)] := hl
  refine lv_iconst (v := 0) hx hb d_Mod_reaches_0 (by decide) ?_
  refine lv_istore_n (lv' := [(3, .int (0 : Int32)), (0, .ref x0), (1, .int x1), (2, .int x2)]) hx hb d_Mod_reaches_1 rfl hl (by decide) rfl (fun ls hl => ?_)
  obtain ⟨n0, hw⟩ := hw
  exact S_Mod_reaches_2 C0 n0 _ _ _ _ _ _ _ _ hw hh hS (lv_sub hl [1, 2, 3, 0] rfl)
set_option maxHeartbeats 4000000 in
set_option maxRecDepth 100000 in
theorem S_Mod_needs {l : Launch} {κ : hX} (Q : Int32 → hM → Prop) (h : hM) (x0 : Nat) (x1 : Int32) (x2 : Int32) (hw : P_Mod_needs Q h x0 x1 x2) : Met l y_Mod_needs [Cond.code y_Mod_needs b_Mod_needs 3 (some .int)] rm_Mod_needs (hPc κ w_cl w_tl w_tb [.ref x0, .int x1, .int x2] h) (hQ κ w_cl (qI Q)) 0 0 (h_A κ) := by
  refine h_enter w_TBm (by decide) (Nat.le_of_ble_eq_true rfl) ?_
  intro p e s m args below meth c C0 hnm hh hS ls hl
  obtain ⟨hx, hb, hml, hown, hts, hK, hF0, hrt, hlocks⟩ := id C0
  have hl : lv_has ls 3 [(0, .ref x0), (1, .int x1), (2, .int x2)] := hl
  refine lv_aload_n hx hb d_Mod_needs_0 rfl (lv_at hl 0 rfl) ?_
  refine lv_iconst (v := 0) hx hb d_Mod_needs_1 (by decide) ?_
  obtain ⟨fs38, hr39, hk40, hw⟩ := hw
  refine h_put C0 hh hS (v := .int (0 : Int32)) hr39 hk40 rfl i_Mod t_Mod t_Mod_ok n_Mod (by decide) k_f_Mod_69 (fun _ h9 => h9) rfl rfl rfl rfl d_Mod_needs_2 (fun H locs hh hS => ?_)
  obtain ⟨h41, eh41⟩ : ∃ z : hM, z = h_up h x0 (eO 6 (fs38.set 0 (.int (0 : Int32)))) := ⟨_, rfl⟩
  rw [← eh41] at hh
  have hw := hw h41 eh41
  refine lv_aload_n hx hb d_Mod_needs_5 rfl (lv_at hl 0 rfl) ?_
  refine lv_iload_n hx hb d_Mod_needs_6 rfl (lv_at hl 1 rfl) ?_
  obtain ⟨fs42, hr43, hw⟩ := hw
  refine h_callV (n := 1) C0 w_TBm hh hS hl.1 [.int x1] [] (S_Mod_isJob _ _ _ _ hw) hr43 rfl k_m_Mod_93 k_inst_Mod_isJob k_sel_Mod_isJob k_ini_Mod k_code_Mod_isJob (by decide +kernel) rfl rfl (Nat.le_of_ble_eq_true rfl) ⟨(Nat.le_of_ble_eq_true rfl), (Nat.le_of_ble_eq_true rfl)⟩ ⟨(Nat.le_of_ble_eq_true rfl), (Nat.le_of_ble_eq_true rfl)⟩ d_Mod_needs_7 (h_kI (k := 0) (n := 0) (Nat.le_of_ble_eq_true rfl) (Nat.le_of_ble_eq_true rfl) (fun i45 h44 H locs hw hh hS => ?_))
  refine lv_if_eq (tgt := 21) hx hb d_Mod_needs_10 (by decide) (fun c46 => ?_) (fun c46 => ?_)
  · have hw := hw.1 c46
    refine lv_bipush (v := -2) hx hb d_Mod_needs_21 (by decide) ?_
    exact h_iret C0 hh hS rfl rfl ⟨_, rfl, hw⟩ d_Mod_needs_23
  · have hw := hw.2 c46
    refine lv_aload_n hx hb d_Mod_needs_13 rfl (lv_at hl 0 rfl) ?_
    refine lv_iload_n hx hb d_Mod_needs_14 rfl (lv_at hl 2 rfl) ?_
    obtain ⟨fs47, hr48, hw⟩ := hw
    refine h_callV (n := 1) C0 w_TBm hh hS hl.1 [.int x2] [] (S_Mod_isJob _ _ _ _ hw) hr48 rfl k_m_Mod_93 k_inst_Mod_isJob k_sel_Mod_isJob k_ini_Mod k_code_Mod_isJob (by decide +kernel) rfl rfl (Nat.le_of_ble_eq_true rfl) ⟨(Nat.le_of_ble_eq_true rfl), (Nat.le_of_ble_eq_true rfl)⟩ ⟨(Nat.le_of_ble_eq_true rfl), (Nat.le_of_ble_eq_true rfl)⟩ d_Mod_needs_15 (h_kI (k := 0) (n := 0) (Nat.le_of_ble_eq_true rfl) (Nat.le_of_ble_eq_true rfl) (fun i50 h49 H locs hw hh hS => ?_))
    refine lv_if_ne (tgt := 24) hx hb d_Mod_needs_18 (by decide) (fun c51 => ?_) (fun c51 => ?_)
    · have hw := hw.1 c51
      refine lv_aload_n hx hb d_Mod_needs_24 rfl (lv_at hl 0 rfl) ?_
      obtain ⟨fs52, r55, hr53, hk54, hw⟩ := hw
      refine h_get C0 hh hr53 hk54 rfl i_Mod (by decide) k_f_Mod_44 (fun _ h9 => h9) d_Mod_needs_25 ?_
      refine lv_iload_n hx hb d_Mod_needs_28 rfl (lv_at hl 1 rfl) ?_
      refine lv_iconst (v := 1) hx hb d_Mod_needs_29 (by decide) ?_
      refine lv_isub hx hb d_Mod_needs_30 ?_
      obtain ⟨n56, f57, hr58, hi59, hw⟩ := hw
      refine h_iald C0 hh hr58 hi59 rfl d_Mod_needs_31 ?_
      refine lv_if_eq (tgt := 38) hx hb d_Mod_needs_32 (by decide) (fun c60 => ?_) (fun c60 => ?_)
      · have hw := hw.1 c60
        refine lv_aload_n hx hb d_Mod_needs_38 rfl (lv_at hl 0 rfl) ?_
        refine lv_iload_n hx hb d_Mod_needs_39 rfl (lv_at hl 2 rfl) ?_
        refine lv_iconst (v := 1) hx hb d_Mod_needs_40 (by decide) ?_
        refine lv_isub hx hb d_Mod_needs_41 ?_
        refine lv_iload_n hx hb d_Mod_needs_42 rfl (lv_at hl 1 rfl) ?_
        refine lv_iconst (v := 1) hx hb d_Mod_needs_43 (by decide) ?_
        refine lv_isub hx hb d_Mod_needs_44 ?_
        obtain ⟨fs61, hr62, hw⟩ := hw
        refine h_callV (n := 2) C0 w_TBm hh hS hl.1 [.int (x2 - (1 : Int32)), .int (x1 - (1 : Int32))] [] (S_Mod_reaches _ _ _ _ _ hw) hr62 rfl k_m_Mod_96 k_inst_Mod_reaches k_sel_Mod_reaches k_ini_Mod k_code_Mod_reaches (by decide +kernel) rfl rfl (Nat.le_of_ble_eq_true rfl) ⟨(Nat.le_of_ble_eq_true rfl), (Nat.le_of_ble_eq_true rfl)⟩ ⟨(Nat.le_of_ble_eq_true rfl), (Nat.le_of_ble_eq_true rfl)⟩ d_Mod_needs_45 (h_kI (k := 0) (n := 0) (Nat.le_of_ble_eq_true rfl) (Nat.le_of_ble_eq_true rfl) (fun i64 h63 H locs hw hh hS => ?_))
        refine lv_if_eq (tgt := 53) hx hb d_Mod_needs_48 (by decide) (fun c65 => ?_) (fun c65 => ?_)
        · have hw := hw.1 c65
          refine lv_aload_n hx hb d_Mod_needs_53 rfl (lv_at hl 0 rfl) ?_
          obtain ⟨fs66, r69, hr67, hk68, hw⟩ := hw
          refine h_get C0 hh hr67 hk68 rfl i_Mod (by decide) k_f_Mod_56 (fun _ h9 => h9) d_Mod_needs_54 ?_
          refine lv_bipush (v := 100) hx hb d_Mod_needs_57 (by decide) ?_
          refine lv_iload_n hx hb d_Mod_needs_59 rfl (lv_at hl 1 rfl) ?_
          refine lv_iconst (v := 1) hx hb d_Mod_needs_60 (by decide) ?_
          refine lv_isub hx hb d_Mod_needs_61 ?_
          refine lv_imul hx hb d_Mod_needs_62 ?_
          refine lv_iload_n hx hb d_Mod_needs_63 rfl (lv_at hl 2 rfl) ?_
          refine lv_iadd hx hb d_Mod_needs_64 ?_
          refine lv_iconst (v := 1) hx hb d_Mod_needs_65 (by decide) ?_
          refine lv_isub hx hb d_Mod_needs_66 ?_
          refine lv_iconst (v := 1) hx hb d_Mod_needs_67 (by decide) ?_
          obtain ⟨n70, f71, hr72, hi73, hw⟩ := hw
          refine h_zast C0 hh hS hr72 hi73 rfl rfl d_Mod_needs_68 (fun H locs hh hS => ?_)
          obtain ⟨h74, eh74⟩ : ∃ z : hM, z = h_up h63 r69 (eT 3 n70 (upd f71 ((((100 : Int32) * (x1 - (1 : Int32))) + x2) - (1 : Int32)).toNatClampNeg (1 : Int32))) := ⟨_, rfl⟩
          rw [← eh74] at hh
          have hw := hw h74 eh74
          refine lv_iconst (v := 1) hx hb d_Mod_needs_69 (by decide) ?_
          exact h_iret C0 hh hS rfl rfl ⟨_, rfl, hw⟩ d_Mod_needs_70
        · have hw := hw.2 c65
          refine lv_iconst (v := 0) hx hb d_Mod_needs_51 (by decide) ?_
          exact h_iret C0 hh hS rfl rfl ⟨_, rfl, hw⟩ d_Mod_needs_52
      · have hw := hw.2 c60
        refine lv_bipush (v := -5) hx hb d_Mod_needs_35 (by decide) ?_
        exact h_iret C0 hh hS rfl rfl ⟨_, rfl, hw⟩ d_Mod_needs_37
    · have hw := hw.2 c51
      refine lv_bipush (v := -2) hx hb d_Mod_needs_21 (by decide) ?_
      exact h_iret C0 hh hS rfl rfl ⟨_, rfl, hw⟩ d_Mod_needs_23
set_option maxHeartbeats 4000000 in
set_option maxRecDepth 100000 in
theorem S_Mod_units {l : Launch} {κ : hX} (Q : Int32 → hM → Prop) (h : hM) (x0 : Nat) (x1 : Int32) (x2 : Int32) (hw : P_Mod_units Q h x0 x1 x2) : Met l y_Mod_units [Cond.code y_Mod_units b_Mod_units 3 (some .int)] rm_Mod_units (hPc κ w_cl w_tl w_tb [.ref x0, .int x1, .int x2] h) (hQ κ w_cl (qI Q)) 0 0 (h_A κ) := by
  refine h_enter w_TBm (by decide) (Nat.le_of_ble_eq_true rfl) ?_
  intro p e s m args below meth c C0 hnm hh hS ls hl
  obtain ⟨hx, hb, hml, hown, hts, hK, hF0, hrt, hlocks⟩ := id C0
  have hl : lv_has ls 3 [(0, .ref x0), (1, .int x1), (2, .int x2)] := hl
  refine lv_aload_n hx hb d_Mod_units_0 rfl (lv_at hl 0 rfl) ?_
  refine lv_iconst (v := 0) hx hb d_Mod_units_1 (by decide) ?_
  obtain ⟨fs18, hr19, hk20, hw⟩ := hw
  refine h_put C0 hh hS (v := .int (0 : Int32)) hr19 hk20 rfl i_Mod t_Mod t_Mod_ok n_Mod (by decide) k_f_Mod_69 (fun _ h9 => h9) rfl rfl rfl rfl d_Mod_units_2 (fun H locs hh hS => ?_)
  obtain ⟨h21, eh21⟩ : ∃ z : hM, z = h_up h x0 (eO 6 (fs18.set 0 (.int (0 : Int32)))) := ⟨_, rfl⟩
  rw [← eh21] at hh
  have hw := hw h21 eh21
  refine lv_iload_n hx hb d_Mod_units_5 rfl (lv_at hl 1 rfl) ?_
  refine lv_if_lt (tgt := 25) hx hb d_Mod_units_6 (by decide) (fun c22 => ?_) (fun c22 => ?_)
  · have hw := hw.1 c22
    refine lv_bipush (v := -4) hx hb d_Mod_units_25 (by decide) ?_
    exact h_iret C0 hh hS rfl rfl ⟨_, rfl, hw⟩ d_Mod_units_27
  · have hw := hw.2 c22
    refine lv_iload_n hx hb d_Mod_units_9 rfl (lv_at hl 1 rfl) ?_
    refine lv_iconst (v := 3) hx hb d_Mod_units_10 (by decide) ?_
    refine lv_icmp_gt (tgt := 25) hx hb d_Mod_units_11 (by decide) (fun c23 => ?_) (fun c23 => ?_)
    · have hw := hw.1 c23
      refine lv_bipush (v := -4) hx hb d_Mod_units_25 (by decide) ?_
      exact h_iret C0 hh hS rfl rfl ⟨_, rfl, hw⟩ d_Mod_units_27
    · have hw := hw.2 c23
      refine lv_iload_n hx hb d_Mod_units_14 rfl (lv_at hl 2 rfl) ?_
      refine lv_if_lt (tgt := 25) hx hb d_Mod_units_15 (by decide) (fun c24 => ?_) (fun c24 => ?_)
      · have hw := hw.1 c24
        refine lv_bipush (v := -4) hx hb d_Mod_units_25 (by decide) ?_
        exact h_iret C0 hh hS rfl rfl ⟨_, rfl, hw⟩ d_Mod_units_27
      · have hw := hw.2 c24
        refine lv_iload_n hx hb d_Mod_units_18 rfl (lv_at hl 2 rfl) ?_
        refine lv_sipush (v := 1000) hx hb d_Mod_units_19 (by decide) ?_
        refine lv_icmp_le (tgt := 28) hx hb d_Mod_units_22 (by decide) (fun c25 => ?_) (fun c25 => ?_)
        · have hw := hw.1 c25
          refine lv_aload_n hx hb d_Mod_units_28 rfl (lv_at hl 0 rfl) ?_
          obtain ⟨fs26, r29, hr27, hk28, hw⟩ := hw
          refine h_get C0 hh hr27 hk28 rfl i_Mod (by decide) k_f_Mod_32 (fun _ h9 => h9) d_Mod_units_29 ?_
          refine lv_iload_n hx hb d_Mod_units_32 rfl (lv_at hl 1 rfl) ?_
          refine lv_iload_n hx hb d_Mod_units_33 rfl (lv_at hl 2 rfl) ?_
          obtain ⟨n30, f31, hr32, hi33, hw⟩ := hw
          refine h_iast C0 hh hS hr32 hi33 rfl d_Mod_units_34 (fun H locs hh hS => ?_)
          obtain ⟨h34, eh34⟩ : ∃ z : hM, z = h_up h21 r29 (eT 0 n30 (upd f31 x1.toNatClampNeg x2)) := ⟨_, rfl⟩
          rw [← eh34] at hh
          have hw := hw h34 eh34
          refine lv_iconst (v := 1) hx hb d_Mod_units_35 (by decide) ?_
          exact h_iret C0 hh hS rfl rfl ⟨_, rfl, hw⟩ d_Mod_units_36
        · have hw := hw.2 c25
          refine lv_bipush (v := -4) hx hb d_Mod_units_25 (by decide) ?_
          exact h_iret C0 hh hS rfl rfl ⟨_, rfl, hw⟩ d_Mod_units_27
set_option maxHeartbeats 4000000 in
set_option maxRecDepth 100000 in
theorem S_Mod_uses {l : Launch} {κ : hX} (Q : Int32 → hM → Prop) (h : hM) (x0 : Nat) (x1 : Int32) (x2 : Int32) (x3 : Int32) (hw : P_Mod_uses Q h x0 x1 x2 x3) : Met l y_Mod_uses [Cond.code y_Mod_uses b_Mod_uses 4 (some .int)] rm_Mod_uses (hPc κ w_cl w_tl w_tb [.ref x0, .int x1, .int x2, .int x3] h) (hQ κ w_cl (qI Q)) 0 0 (h_A κ) := by
  refine h_enter w_TBm (by decide) (Nat.le_of_ble_eq_true rfl) ?_
  intro p e s m args below meth c C0 hnm hh hS ls hl
  obtain ⟨hx, hb, hml, hown, hts, hK, hF0, hrt, hlocks⟩ := id C0
  have hl : lv_has ls 4 [(0, .ref x0), (1, .int x1), (2, .int x2), (3, .int x3)] := hl
  refine lv_aload_n hx hb d_Mod_uses_0 rfl (lv_at hl 0 rfl) ?_
  refine lv_iconst (v := 0) hx hb d_Mod_uses_1 (by decide) ?_
  obtain ⟨fs32, hr33, hk34, hw⟩ := hw
  refine h_put C0 hh hS (v := .int (0 : Int32)) hr33 hk34 rfl i_Mod t_Mod t_Mod_ok n_Mod (by decide) k_f_Mod_69 (fun _ h9 => h9) rfl rfl rfl rfl d_Mod_uses_2 (fun H locs hh hS => ?_)
  obtain ⟨h35, eh35⟩ : ∃ z : hM, z = h_up h x0 (eO 6 (fs32.set 0 (.int (0 : Int32)))) := ⟨_, rfl⟩
  rw [← eh35] at hh
  have hw := hw h35 eh35
  refine lv_aload_n hx hb d_Mod_uses_5 rfl (lv_at hl 0 rfl) ?_
  refine lv_iload_n hx hb d_Mod_uses_6 rfl (lv_at hl 1 rfl) ?_
  obtain ⟨fs36, hr37, hw⟩ := hw
  refine h_callV (n := 1) C0 w_TBm hh hS hl.1 [.int x1] [] (S_Mod_isJob _ _ _ _ hw) hr37 rfl k_m_Mod_93 k_inst_Mod_isJob k_sel_Mod_isJob k_ini_Mod k_code_Mod_isJob (by decide +kernel) rfl rfl (Nat.le_of_ble_eq_true rfl) ⟨(Nat.le_of_ble_eq_true rfl), (Nat.le_of_ble_eq_true rfl)⟩ ⟨(Nat.le_of_ble_eq_true rfl), (Nat.le_of_ble_eq_true rfl)⟩ d_Mod_uses_7 (h_kI (k := 0) (n := 0) (Nat.le_of_ble_eq_true rfl) (Nat.le_of_ble_eq_true rfl) (fun i39 h38 H locs hw hh hS => ?_))
  refine lv_if_ne (tgt := 16) hx hb d_Mod_uses_10 (by decide) (fun c40 => ?_) (fun c40 => ?_)
  · have hw := hw.1 c40
    refine lv_iload_n hx hb d_Mod_uses_16 rfl (lv_at hl 2 rfl) ?_
    refine lv_if_lt (tgt := 36) hx hb d_Mod_uses_17 (by decide) (fun c41 => ?_) (fun c41 => ?_)
    · have hw := hw.1 c41
      refine lv_bipush (v := -4) hx hb d_Mod_uses_36 (by decide) ?_
      exact h_iret C0 hh hS rfl rfl ⟨_, rfl, hw⟩ d_Mod_uses_38
    · have hw := hw.2 c41
      refine lv_iload_n hx hb d_Mod_uses_20 rfl (lv_at hl 2 rfl) ?_
      refine lv_iconst (v := 3) hx hb d_Mod_uses_21 (by decide) ?_
      refine lv_icmp_gt (tgt := 36) hx hb d_Mod_uses_22 (by decide) (fun c42 => ?_) (fun c42 => ?_)
      · have hw := hw.1 c42
        refine lv_bipush (v := -4) hx hb d_Mod_uses_36 (by decide) ?_
        exact h_iret C0 hh hS rfl rfl ⟨_, rfl, hw⟩ d_Mod_uses_38
      · have hw := hw.2 c42
        refine lv_iload_n hx hb d_Mod_uses_25 rfl (lv_at hl 3 rfl) ?_
        refine lv_if_lt (tgt := 36) hx hb d_Mod_uses_26 (by decide) (fun c43 => ?_) (fun c43 => ?_)
        · have hw := hw.1 c43
          refine lv_bipush (v := -4) hx hb d_Mod_uses_36 (by decide) ?_
          exact h_iret C0 hh hS rfl rfl ⟨_, rfl, hw⟩ d_Mod_uses_38
        · have hw := hw.2 c43
          refine lv_iload_n hx hb d_Mod_uses_29 rfl (lv_at hl 3 rfl) ?_
          refine lv_sipush (v := 1000) hx hb d_Mod_uses_30 (by decide) ?_
          refine lv_icmp_le (tgt := 39) hx hb d_Mod_uses_33 (by decide) (fun c44 => ?_) (fun c44 => ?_)
          · have hw := hw.1 c44
            refine lv_aload_n hx hb d_Mod_uses_39 rfl (lv_at hl 0 rfl) ?_
            obtain ⟨fs45, r48, hr46, hk47, hw⟩ := hw
            refine h_get C0 hh hr46 hk47 rfl i_Mod (by decide) k_f_Mod_44 (fun _ h9 => h9) d_Mod_uses_40 ?_
            refine lv_iload_n hx hb d_Mod_uses_43 rfl (lv_at hl 1 rfl) ?_
            refine lv_iconst (v := 1) hx hb d_Mod_uses_44 (by decide) ?_
            refine lv_isub hx hb d_Mod_uses_45 ?_
            obtain ⟨n49, f50, hr51, hi52, hw⟩ := hw
            refine h_iald C0 hh hr51 hi52 rfl d_Mod_uses_46 ?_
            refine lv_if_eq (tgt := 53) hx hb d_Mod_uses_47 (by decide) (fun c53 => ?_) (fun c53 => ?_)
            · have hw := hw.1 c53
              refine lv_aload_n hx hb d_Mod_uses_53 rfl (lv_at hl 0 rfl) ?_
              obtain ⟨fs54, r57, hr55, hk56, hw⟩ := hw
              refine h_get C0 hh hr55 hk56 rfl i_Mod (by decide) k_f_Mod_47 (fun _ h9 => h9) d_Mod_uses_54 ?_
              refine lv_iconst (v := 4) hx hb d_Mod_uses_57 (by decide) ?_
              refine lv_iload_n hx hb d_Mod_uses_58 rfl (lv_at hl 1 rfl) ?_
              refine lv_imul hx hb d_Mod_uses_59 ?_
              refine lv_iconst (v := 4) hx hb d_Mod_uses_60 (by decide) ?_
              refine lv_isub hx hb d_Mod_uses_61 ?_
              refine lv_iload_n hx hb d_Mod_uses_62 rfl (lv_at hl 2 rfl) ?_
              refine lv_iadd hx hb d_Mod_uses_63 ?_
              refine lv_iload_n hx hb d_Mod_uses_64 rfl (lv_at hl 3 rfl) ?_
              obtain ⟨n58, f59, hr60, hi61, hw⟩ := hw
              refine h_iast C0 hh hS hr60 hi61 rfl d_Mod_uses_65 (fun H locs hh hS => ?_)
              obtain ⟨h62, eh62⟩ : ∃ z : hM, z = h_up h38 r57 (eT 0 n58 (upd f59 ((((4 : Int32) * x1) - (4 : Int32)) + x2).toNatClampNeg x3)) := ⟨_, rfl⟩
              rw [← eh62] at hh
              have hw := hw h62 eh62
              refine lv_iconst (v := 1) hx hb d_Mod_uses_66 (by decide) ?_
              exact h_iret C0 hh hS rfl rfl ⟨_, rfl, hw⟩ d_Mod_uses_67
            · have hw := hw.2 c53
              refine lv_bipush (v := -5) hx hb d_Mod_uses_50 (by decide) ?_
              exact h_iret C0 hh hS rfl rfl ⟨_, rfl, hw⟩ d_Mod_uses_52
          · have hw := hw.2 c44
            refine lv_bipush (v := -4) hx hb d_Mod_uses_36 (by decide) ?_
            exact h_iret C0 hh hS rfl rfl ⟨_, rfl, hw⟩ d_Mod_uses_38
  · have hw := hw.2 c40
    refine lv_bipush (v := -2) hx hb d_Mod_uses_13 (by decide) ?_
    exact h_iret C0 hh hS rfl rfl ⟨_, rfl, hw⟩ d_Mod_uses_15
set_option maxHeartbeats 4000000 in
set_option maxRecDepth 100000 in
theorem S_Mod_alone {l : Launch} {κ : hX} (Q : Int32 → hM → Prop) (h : hM) (x0 : Nat) (x1 : Int32) (hw : P_Mod_alone Q h x0 x1) : Met l y_Mod_alone [Cond.code y_Mod_alone b_Mod_alone 2 (some .int)] rm_Mod_alone (hPc κ w_cl w_tl w_tb [.ref x0, .int x1] h) (hQ κ w_cl (qI Q)) 0 0 (h_A κ) := by
  refine h_enter w_TBm (by decide) (Nat.le_of_ble_eq_true rfl) ?_
  intro p e s m args below meth c C0 hnm hh hS ls hl
  obtain ⟨hx, hb, hml, hown, hts, hK, hF0, hrt, hlocks⟩ := id C0
  have hl : lv_has ls 2 [(0, .ref x0), (1, .int x1)] := hl
  refine lv_aload_n hx hb d_Mod_alone_0 rfl (lv_at hl 0 rfl) ?_
  refine lv_iconst (v := 0) hx hb d_Mod_alone_1 (by decide) ?_
  obtain ⟨fs28, hr29, hk30, hw⟩ := hw
  refine h_put C0 hh hS (v := .int (0 : Int32)) hr29 hk30 rfl i_Mod t_Mod t_Mod_ok n_Mod (by decide) k_f_Mod_69 (fun _ h9 => h9) rfl rfl rfl rfl d_Mod_alone_2 (fun H locs hh hS => ?_)
  obtain ⟨h31, eh31⟩ : ∃ z : hM, z = h_up h x0 (eO 6 (fs28.set 0 (.int (0 : Int32)))) := ⟨_, rfl⟩
  rw [← eh31] at hh
  have hw := hw h31 eh31
  refine lv_aload_n hx hb d_Mod_alone_5 rfl (lv_at hl 0 rfl) ?_
  refine lv_iload_n hx hb d_Mod_alone_6 rfl (lv_at hl 1 rfl) ?_
  obtain ⟨fs32, hr33, hw⟩ := hw
  refine h_callV (n := 1) C0 w_TBm hh hS hl.1 [.int x1] [] (S_Mod_isJob _ _ _ _ hw) hr33 rfl k_m_Mod_93 k_inst_Mod_isJob k_sel_Mod_isJob k_ini_Mod k_code_Mod_isJob (by decide +kernel) rfl rfl (Nat.le_of_ble_eq_true rfl) ⟨(Nat.le_of_ble_eq_true rfl), (Nat.le_of_ble_eq_true rfl)⟩ ⟨(Nat.le_of_ble_eq_true rfl), (Nat.le_of_ble_eq_true rfl)⟩ d_Mod_alone_7 (h_kI (k := 0) (n := 0) (Nat.le_of_ble_eq_true rfl) (Nat.le_of_ble_eq_true rfl) (fun i35 h34 H locs hw hh hS => ?_))
  refine lv_if_ne (tgt := 16) hx hb d_Mod_alone_10 (by decide) (fun c36 => ?_) (fun c36 => ?_)
  · have hw := hw.1 c36
    refine lv_aload_n hx hb d_Mod_alone_16 rfl (lv_at hl 0 rfl) ?_
    obtain ⟨fs37, r40, hr38, hk39, hw⟩ := hw
    refine h_get C0 hh hr38 hk39 rfl i_Mod (by decide) k_f_Mod_44 (fun _ h9 => h9) d_Mod_alone_17 ?_
    refine lv_iload_n hx hb d_Mod_alone_20 rfl (lv_at hl 1 rfl) ?_
    refine lv_iconst (v := 1) hx hb d_Mod_alone_21 (by decide) ?_
    refine lv_isub hx hb d_Mod_alone_22 ?_
    obtain ⟨n41, f42, hr43, hi44, hw⟩ := hw
    refine h_iald C0 hh hr43 hi44 rfl d_Mod_alone_23 ?_
    refine lv_if_eq (tgt := 30) hx hb d_Mod_alone_24 (by decide) (fun c45 => ?_) (fun c45 => ?_)
    · have hw := hw.1 c45
      refine lv_aload_n hx hb d_Mod_alone_30 rfl (lv_at hl 0 rfl) ?_
      obtain ⟨fs46, r49, hr47, hk48, hw⟩ := hw
      refine h_get C0 hh hr47 hk48 rfl i_Mod (by decide) k_f_Mod_53 (fun _ h9 => h9) d_Mod_alone_31 ?_
      refine lv_iload_n hx hb d_Mod_alone_34 rfl (lv_at hl 1 rfl) ?_
      refine lv_iconst (v := 1) hx hb d_Mod_alone_35 (by decide) ?_
      refine lv_isub hx hb d_Mod_alone_36 ?_
      refine lv_iconst (v := 1) hx hb d_Mod_alone_37 (by decide) ?_
      obtain ⟨n50, f51, hr52, hi53, hw⟩ := hw
      refine h_zast C0 hh hS hr52 hi53 rfl rfl d_Mod_alone_38 (fun H locs hh hS => ?_)
      obtain ⟨h54, eh54⟩ : ∃ z : hM, z = h_up h34 r49 (eT 3 n50 (upd f51 (x1 - (1 : Int32)).toNatClampNeg (1 : Int32))) := ⟨_, rfl⟩
      rw [← eh54] at hh
      have hw := hw h54 eh54
      refine lv_iconst (v := 1) hx hb d_Mod_alone_39 (by decide) ?_
      exact h_iret C0 hh hS rfl rfl ⟨_, rfl, hw⟩ d_Mod_alone_40
    · have hw := hw.2 c45
      refine lv_bipush (v := -5) hx hb d_Mod_alone_27 (by decide) ?_
      exact h_iret C0 hh hS rfl rfl ⟨_, rfl, hw⟩ d_Mod_alone_29
  · have hw := hw.2 c36
    refine lv_bipush (v := -2) hx hb d_Mod_alone_13 (by decide) ?_
    exact h_iret C0 hh hS rfl rfl ⟨_, rfl, hw⟩ d_Mod_alone_15
set_option maxHeartbeats 4000000 in
set_option maxRecDepth 100000 in
theorem S_Mod_hold {l : Launch} {κ : hX} (Q : Int32 → hM → Prop) (h : hM) (x0 : Nat) (x1 : Int32) (x2 : Int32) (hw : P_Mod_hold Q h x0 x1 x2) : Met l y_Mod_hold [Cond.code y_Mod_hold b_Mod_hold 4 (some .int)] rm_Mod_hold (hPc κ w_cl w_tl w_tb [.ref x0, .int x1, .int x2] h) (hQ κ w_cl (qI Q)) 0 0 (h_A κ) := by
  refine h_enter w_TBm (by decide) (Nat.le_of_ble_eq_true rfl) ?_
  intro p e s m args below meth c C0 hnm hh hS ls hl
  obtain ⟨hx, hb, hml, hown, hts, hK, hF0, hrt, hlocks⟩ := id C0
  have hl : lv_has ls 4 [(0, .ref x0), (1, .int x1), (2, .int x2)] := hl
  refine lv_aload_n hx hb d_Mod_hold_0 rfl (lv_at hl 0 rfl) ?_
  refine lv_iconst (v := 0) hx hb d_Mod_hold_1 (by decide) ?_
  obtain ⟨fs38, hr39, hk40, hw⟩ := hw
  refine h_put C0 hh hS (v := .int (0 : Int32)) hr39 hk40 rfl i_Mod t_Mod t_Mod_ok n_Mod (by decide) k_f_Mod_69 (fun _ h9 => h9) rfl rfl rfl rfl d_Mod_hold_2 (fun H locs hh hS => ?_)
  obtain ⟨h41, eh41⟩ : ∃ z : hM, z = h_up h x0 (eO 6 (fs38.set 0 (.int (0 : Int32)))) := ⟨_, rfl⟩
  rw [← eh41] at hh
  have hw := hw h41 eh41
  refine lv_aload_n hx hb d_Mod_hold_5 rfl (lv_at hl 0 rfl) ?_
  refine lv_iload_n hx hb d_Mod_hold_6 rfl (lv_at hl 1 rfl) ?_
  obtain ⟨fs42, hr43, hw⟩ := hw
  refine h_callV (n := 1) C0 w_TBm hh hS hl.1 [.int x1] [] (S_Mod_isJob _ _ _ _ hw) hr43 rfl k_m_Mod_93 k_inst_Mod_isJob k_sel_Mod_isJob k_ini_Mod k_code_Mod_isJob (by decide +kernel) rfl rfl (Nat.le_of_ble_eq_true rfl) ⟨(Nat.le_of_ble_eq_true rfl), (Nat.le_of_ble_eq_true rfl)⟩ ⟨(Nat.le_of_ble_eq_true rfl), (Nat.le_of_ble_eq_true rfl)⟩ d_Mod_hold_7 (h_kI (k := 0) (n := 0) (Nat.le_of_ble_eq_true rfl) (Nat.le_of_ble_eq_true rfl) (fun i45 h44 H locs hw hh hS => ?_))
  refine lv_if_ne (tgt := 16) hx hb d_Mod_hold_10 (by decide) (fun c46 => ?_) (fun c46 => ?_)
  · have hw := hw.1 c46
    refine lv_aload_n hx hb d_Mod_hold_16 rfl (lv_at hl 0 rfl) ?_
    obtain ⟨fs47, r50, hr48, hk49, hw⟩ := hw
    refine h_get C0 hh hr48 hk49 rfl i_Mod (by decide) k_f_Mod_44 (fun _ h9 => h9) d_Mod_hold_17 ?_
    refine lv_iload_n hx hb d_Mod_hold_20 rfl (lv_at hl 1 rfl) ?_
    refine lv_iconst (v := 1) hx hb d_Mod_hold_21 (by decide) ?_
    refine lv_isub hx hb d_Mod_hold_22 ?_
    obtain ⟨n51, f52, hr53, hi54, hw⟩ := hw
    refine h_iald C0 hh hr53 hi54 rfl d_Mod_hold_23 ?_
    refine lv_if_eq (tgt := 30) hx hb d_Mod_hold_24 (by decide) (fun c55 => ?_) (fun c55 => ?_)
    · have hw := hw.1 c55
      refine lv_aload_n hx hb d_Mod_hold_30 rfl (lv_at hl 0 rfl) ?_
      obtain ⟨fs56, r59, hr57, hk58, hw⟩ := hw
      refine h_get C0 hh hr57 hk58 rfl i_Mod (by decide) k_f_Mod_50 (fun _ h9 => h9) d_Mod_hold_31 ?_
      refine lv_iload_n hx hb d_Mod_hold_34 rfl (lv_at hl 1 rfl) ?_
      refine lv_iconst (v := 1) hx hb d_Mod_hold_35 (by decide) ?_
      refine lv_isub hx hb d_Mod_hold_36 ?_
      obtain ⟨n60, f61, hr62, hi63, hw⟩ := hw
      refine h_zald C0 hh hr62 hi63 rfl d_Mod_hold_37 ?_
      refine lv_topi (fun x3_64 ex3_64 => ?_)
      have hw := hw x3_64 ex3_64
      refine lv_istore_n (lv' := [(3, .int x3_64), (0, .ref x0), (1, .int x1), (2, .int x2)]) hx hb d_Mod_hold_38 rfl hl (by decide) rfl (fun ls hl => ?_)
      refine lv_aload_n hx hb d_Mod_hold_39 rfl (lv_at hl 1 rfl) ?_
      obtain ⟨fs65, r68, hr66, hk67, hw⟩ := hw
      refine h_get C0 hh hr66 hk67 rfl i_Mod (by decide) k_f_Mod_50 (fun _ h9 => h9) d_Mod_hold_40 ?_
      refine lv_iload_n hx hb d_Mod_hold_43 rfl (lv_at hl 2 rfl) ?_
      refine lv_iconst (v := 1) hx hb d_Mod_hold_44 (by decide) ?_
      refine lv_isub hx hb d_Mod_hold_45 ?_
      refine lv_iload_n hx hb d_Mod_hold_46 rfl (lv_at hl 3 rfl) ?_
      obtain ⟨n69, f70, hr71, hi72, hw⟩ := hw
      obtain ⟨hz9, hw⟩ := hw
      refine h_zast C0 hh hS hr71 hi72 rfl (h_vz hz9) d_Mod_hold_47 (fun H locs hh hS => ?_)
      obtain ⟨h73, eh73⟩ : ∃ z : hM, z = h_up h44 r68 (eT 3 n69 (upd f70 (x1 - (1 : Int32)).toNatClampNeg x2)) := ⟨_, rfl⟩
      rw [← eh73] at hh
      have hw := hw h73 eh73
      refine lv_iload_n hx hb d_Mod_hold_48 rfl (lv_at hl 0 rfl) ?_
      refine lv_iload_n hx hb d_Mod_hold_49 rfl (lv_at hl 3 rfl) ?_
      refine lv_icmp_ne (tgt := 57) hx hb d_Mod_hold_50 (by decide) (fun c74 => ?_) (fun c74 => ?_)
      · have hw := hw.1 c74
        refine lv_iconst (v := 1) hx hb d_Mod_hold_57 (by decide) ?_
        exact h_iret C0 hh hS rfl rfl ⟨_, rfl, hw⟩ d_Mod_hold_58
      · have hw := hw.2 c74
        refine lv_iconst (v := 0) hx hb d_Mod_hold_53 (by decide) ?_
        refine lv_goto (tgt := 58) hx hb d_Mod_hold_54 (by decide) ?_
        exact h_iret C0 hh hS rfl rfl ⟨_, rfl, hw⟩ d_Mod_hold_58
    · have hw := hw.2 c55
      refine lv_bipush (v := -5) hx hb d_Mod_hold_27 (by decide) ?_
      exact h_iret C0 hh hS rfl rfl ⟨_, rfl, hw⟩ d_Mod_hold_29
  · have hw := hw.2 c46
    refine lv_bipush (v := -2) hx hb d_Mod_hold_13 (by decide) ?_
    exact h_iret C0 hh hS rfl rfl ⟨_, rfl, hw⟩ d_Mod_hold_15
set_option maxHeartbeats 4000000 in
set_option maxRecDepth 100000 in
theorem S_Mod_isOpen {l : Launch} {κ : hX} (Q : Int32 → hM → Prop) (h : hM) (x0 : Nat) (x1 : Int32) (hw : P_Mod_isOpen Q h x0 x1) : Met l y_Mod_isOpen [Cond.code y_Mod_isOpen b_Mod_isOpen 3 (some .boolean)] rm_Mod_isOpen (hPc κ w_cl w_tl w_tb [.ref x0, .int x1] h) (hQ κ w_cl (qI Q)) 0 0 (h_A κ) := by
  refine h_enter w_TBm (by decide) (Nat.le_of_ble_eq_true rfl) ?_
  intro p e s m args below meth c C0 hnm hh hS ls hl
  obtain ⟨hx, hb, hml, hown, hts, hK, hF0, hrt, hlocks⟩ := id C0
  have hl : lv_has ls 3 [(0, .ref x0), (1, .int x1)] := hl
  refine lv_aload_n hx hb d_Mod_isOpen_0 rfl (lv_at hl 0 rfl) ?_
  obtain ⟨fs76, j79, hr77, hk78, hw⟩ := hw
  refine h_get C0 hh hr77 hk78 rfl i_Mod (by decide) k_f_Mod_89 (fun _ h9 => h9) d_Mod_isOpen_1 ?_
  refine lv_ldc2 (v := 1440) hx hb hown (hts _ k_k_Mod_100) d_Mod_isOpen_4 ?_
  refine lv_lrem hx hb d_Mod_isOpen_7 (by decide) ?_
  refine lv_l2i (v := (j79 - j79 / (1440 : Int64) * (1440 : Int64)).toInt32) hx hb d_Mod_isOpen_8 rfl ?_
  refine lv_topi (fun x2_80 ex2_80 => ?_)
  have hw := hw x2_80 ex2_80
  refine lv_istore_n (lv' := [(2, .int x2_80), (0, .ref x0), (1, .int x1)]) hx hb d_Mod_isOpen_9 rfl hl (by decide) rfl (fun ls hl => ?_)
  refine lv_aload_n hx hb d_Mod_isOpen_10 rfl (lv_at hl 1 rfl) ?_
  obtain ⟨fs81, r84, hr82, hk83, hw⟩ := hw
  refine h_get C0 hh hr82 hk83 rfl i_Mod (by decide) k_f_Mod_23 (fun _ h9 => h9) d_Mod_isOpen_11 ?_
  refine lv_iload_n hx hb d_Mod_isOpen_14 rfl (lv_at hl 2 rfl) ?_
  obtain ⟨n85, f86, hr87, hi88, hw⟩ := hw
  refine h_iald C0 hh hr87 hi88 rfl d_Mod_isOpen_15 ?_
  refine lv_aload_n hx hb d_Mod_isOpen_16 rfl (lv_at hl 1 rfl) ?_
  obtain ⟨fs89, r92, hr90, hk91, hw⟩ := hw
  refine h_get C0 hh hr90 hk91 rfl i_Mod (by decide) k_f_Mod_26 (fun _ h9 => h9) d_Mod_isOpen_17 ?_
  refine lv_iload_n hx hb d_Mod_isOpen_20 rfl (lv_at hl 2 rfl) ?_
  obtain ⟨n93, f94, hr95, hi96, hw⟩ := hw
  refine h_iald C0 hh hr95 hi96 rfl d_Mod_isOpen_21 ?_
  refine lv_icmp_ne (tgt := 27) hx hb d_Mod_isOpen_22 (by decide) (fun c97 => ?_) (fun c97 => ?_)
  · have hw := hw.1 c97
    refine lv_aload_n hx hb d_Mod_isOpen_27 rfl (lv_at hl 1 rfl) ?_
    obtain ⟨fs98, r101, hr99, hk100, hw⟩ := hw
    refine h_get C0 hh hr99 hk100 rfl i_Mod (by decide) k_f_Mod_23 (fun _ h9 => h9) d_Mod_isOpen_28 ?_
    refine lv_iload_n hx hb d_Mod_isOpen_31 rfl (lv_at hl 2 rfl) ?_
    obtain ⟨n102, f103, hr104, hi105, hw⟩ := hw
    refine h_iald C0 hh hr104 hi105 rfl d_Mod_isOpen_32 ?_
    refine lv_aload_n hx hb d_Mod_isOpen_33 rfl (lv_at hl 1 rfl) ?_
    obtain ⟨fs106, r109, hr107, hk108, hw⟩ := hw
    refine h_get C0 hh hr107 hk108 rfl i_Mod (by decide) k_f_Mod_26 (fun _ h9 => h9) d_Mod_isOpen_34 ?_
    refine lv_iload_n hx hb d_Mod_isOpen_37 rfl (lv_at hl 2 rfl) ?_
    obtain ⟨n110, f111, hr112, hi113, hw⟩ := hw
    refine h_iald C0 hh hr112 hi113 rfl d_Mod_isOpen_38 ?_
    refine lv_icmp_ge (tgt := 70) hx hb d_Mod_isOpen_39 (by decide) (fun c114 => ?_) (fun c114 => ?_)
    · have hw := hw.1 c114
      refine lv_iload_n hx hb d_Mod_isOpen_70 rfl (lv_at hl 0 rfl) ?_
      refine lv_aload_n hx hb d_Mod_isOpen_71 rfl (lv_at hl 1 rfl) ?_
      obtain ⟨fs115, r118, hr116, hk117, hw⟩ := hw
      refine h_get C0 hh hr116 hk117 rfl i_Mod (by decide) k_f_Mod_23 (fun _ h9 => h9) d_Mod_isOpen_72 ?_
      refine lv_iload_n hx hb d_Mod_isOpen_75 rfl (lv_at hl 2 rfl) ?_
      obtain ⟨n119, f120, hr121, hi122, hw⟩ := hw
      refine h_iald C0 hh hr121 hi122 rfl d_Mod_isOpen_76 ?_
      refine lv_icmp_ge (tgt := 90) hx hb d_Mod_isOpen_77 (by decide) (fun c123 => ?_) (fun c123 => ?_)
      · have hw := hw.1 c123
        refine lv_iconst (v := 1) hx hb d_Mod_isOpen_90 (by decide) ?_
        refine lv_goto (tgt := 95) hx hb d_Mod_isOpen_91 (by decide) ?_
        exact h_iret C0 hh hS rfl rfl ⟨_, rfl, hw⟩ d_Mod_isOpen_95
      · have hw := hw.2 c123
        refine lv_iload_n hx hb d_Mod_isOpen_80 rfl (lv_at hl 0 rfl) ?_
        refine lv_aload_n hx hb d_Mod_isOpen_81 rfl (lv_at hl 1 rfl) ?_
        obtain ⟨fs124, r127, hr125, hk126, hw⟩ := hw
        refine h_get C0 hh hr125 hk126 rfl i_Mod (by decide) k_f_Mod_26 (fun _ h9 => h9) d_Mod_isOpen_82 ?_
        refine lv_iload_n hx hb d_Mod_isOpen_85 rfl (lv_at hl 2 rfl) ?_
        obtain ⟨n128, f129, hr130, hi131, hw⟩ := hw
        refine h_iald C0 hh hr130 hi131 rfl d_Mod_isOpen_86 ?_
        refine lv_icmp_ge (tgt := 94) hx hb d_Mod_isOpen_87 (by decide) (fun c132 => ?_) (fun c132 => ?_)
        · have hw := hw.1 c132
          refine lv_iconst (v := 0) hx hb d_Mod_isOpen_94 (by decide) ?_
          exact h_iret C0 hh hS rfl rfl ⟨_, rfl, hw⟩ d_Mod_isOpen_95
        · have hw := hw.2 c132
          refine lv_iconst (v := 1) hx hb d_Mod_isOpen_90 (by decide) ?_
          refine lv_goto (tgt := 95) hx hb d_Mod_isOpen_91 (by decide) ?_
          exact h_iret C0 hh hS rfl rfl ⟨_, rfl, hw⟩ d_Mod_isOpen_95
    · have hw := hw.2 c114
      refine lv_iload_n hx hb d_Mod_isOpen_42 rfl (lv_at hl 0 rfl) ?_
      refine lv_aload_n hx hb d_Mod_isOpen_43 rfl (lv_at hl 1 rfl) ?_
      obtain ⟨fs133, r136, hr134, hk135, hw⟩ := hw
      refine h_get C0 hh hr134 hk135 rfl i_Mod (by decide) k_f_Mod_23 (fun _ h9 => h9) d_Mod_isOpen_44 ?_
      refine lv_iload_n hx hb d_Mod_isOpen_47 rfl (lv_at hl 2 rfl) ?_
      obtain ⟨n137, f138, hr139, hi140, hw⟩ := hw
      refine h_iald C0 hh hr139 hi140 rfl d_Mod_isOpen_48 ?_
      refine lv_icmp_lt (tgt := 66) hx hb d_Mod_isOpen_49 (by decide) (fun c141 => ?_) (fun c141 => ?_)
      · have hw := hw.1 c141
        refine lv_iconst (v := 0) hx hb d_Mod_isOpen_66 (by decide) ?_
        refine lv_goto (tgt := 95) hx hb d_Mod_isOpen_67 (by decide) ?_
        exact h_iret C0 hh hS rfl rfl ⟨_, rfl, hw⟩ d_Mod_isOpen_95
      · have hw := hw.2 c141
        refine lv_iload_n hx hb d_Mod_isOpen_52 rfl (lv_at hl 0 rfl) ?_
        refine lv_aload_n hx hb d_Mod_isOpen_53 rfl (lv_at hl 1 rfl) ?_
        obtain ⟨fs142, r145, hr143, hk144, hw⟩ := hw
        refine h_get C0 hh hr143 hk144 rfl i_Mod (by decide) k_f_Mod_26 (fun _ h9 => h9) d_Mod_isOpen_54 ?_
        refine lv_iload_n hx hb d_Mod_isOpen_57 rfl (lv_at hl 2 rfl) ?_
        obtain ⟨n146, f147, hr148, hi149, hw⟩ := hw
        refine h_iald C0 hh hr148 hi149 rfl d_Mod_isOpen_58 ?_
        refine lv_icmp_ge (tgt := 66) hx hb d_Mod_isOpen_59 (by decide) (fun c150 => ?_) (fun c150 => ?_)
        · have hw := hw.1 c150
          refine lv_iconst (v := 0) hx hb d_Mod_isOpen_66 (by decide) ?_
          refine lv_goto (tgt := 95) hx hb d_Mod_isOpen_67 (by decide) ?_
          exact h_iret C0 hh hS rfl rfl ⟨_, rfl, hw⟩ d_Mod_isOpen_95
        · have hw := hw.2 c150
          refine lv_iconst (v := 1) hx hb d_Mod_isOpen_62 (by decide) ?_
          refine lv_goto (tgt := 95) hx hb d_Mod_isOpen_63 (by decide) ?_
          exact h_iret C0 hh hS rfl rfl ⟨_, rfl, hw⟩ d_Mod_isOpen_95
  · have hw := hw.2 c97
    refine lv_iconst (v := 1) hx hb d_Mod_isOpen_25 (by decide) ?_
    exact h_iret C0 hh hS rfl rfl ⟨_, rfl, hw⟩ d_Mod_isOpen_26
set_option maxHeartbeats 4000000 in
set_option maxRecDepth 100000 in
theorem S_Mod_used_37 {p : Program} {l : Launch} {e : Env} {s : State} {m : MethodId} {args : Array Value} {below : List Frame} {meth : Method} {c : Code} {κ : hX} {Q : Int32 → hM → Prop} {K4 : hM → Nat → Int32 → Int32 → Int32 → Prop} (C0 : Cw κ w_cl w_tl w_tb p s m args meth c b_Mod_used 4 R_Mod (some .int)) (hK4 : ∀ (h : hM) (x0 : Nat) (x1 : Int32) (x2 : Int32) (x3 : Int32) (H : Heap) (locs : List Loc) (ls : Array Slot), K4 h x0 x1 x2 x3 → hp κ w_cl h H → va_S (h_A κ) s.heap H locs → lv_has ls 4 [(0, .ref x0), (1, .int x1), (2, .int x2), (3, .int x3)] → W p l e rm_Mod_used s m args below meth c H locs 0 0 (MQ below (hQ κ w_cl (qI Q)) args s 0 0 (h_A κ)) (F0 m 4 ls [])) : ∀ (h : hM) (x0 : Nat) (x1 : Int32) (x3 : Int32) (t0 : Int32) (t1 : Int32) (H : Heap) (locs : List Loc) (ls : Array Slot), P_Mod_used_37 Q K4 h x0 x1 x3 t0 t1 → hp κ w_cl h H → va_S (h_A κ) s.heap H locs → lv_has ls 4 [(0, .ref x0), (1, .int x1), (3, .int x3)] → W p l e rm_Mod_used s m args below meth c H locs 0 0 (MQ below (hQ κ w_cl (qI Q)) args s 0 0 (h_A κ)) (F0 m 37 ls [.int t0, .int t1]) := by
  obtain ⟨hx, hb, hml, hown, hts, hK, hF0, hrt, hlocks⟩ := id C0
  intro h x0 x1 x3 t0 t1 H locs ls hw hh hS hl
  refine lv_iadd hx hb d_Mod_used_37 ?_
  refine lv_topi (fun x2_49 ex2_49 => ?_)
  have hw := hw x2_49 ex2_49
  refine lv_istore_n (lv' := [(2, .int x2_49), (0, .ref x0), (1, .int x1), (3, .int x3)]) hx hb d_Mod_used_38 rfl hl (by decide) rfl (fun ls hl => ?_)
  obtain ⟨x3_50, ex3_50⟩ : ∃ z : Int32, z = x3 + 1 := ⟨_, rfl⟩
  have hw := hw x3_50 ex3_50
  refine lv_iinc (v := x3_50) (lv' := [(3, .int x3_50), (2, .int x2_49), (0, .ref x0), (1, .int x1)]) hx hb d_Mod_used_39 hl (k := 3) rfl (by rw [ex3_50]; rfl) (by decide) rfl (fun ls hl => ?_)
  refine lv_goto (tgt := 4) hx hb d_Mod_used_42 (by decide) ?_
  exact hK4 _ _ _ _ _ _ _ _ hw hh hS (lv_sub hl [2, 3, 1, 0] rfl)
set_option maxHeartbeats 4000000 in
set_option maxRecDepth 100000 in
theorem S_Mod_used_4 {p : Program} {l : Launch} {e : Env} {s : State} {m : MethodId} {args : Array Value} {below : List Frame} {meth : Method} {c : Code} {κ : hX} {Q : Int32 → hM → Prop} (C0 : Cw κ w_cl w_tl w_tb p s m args meth c b_Mod_used 4 R_Mod (some .int)) : ∀ (n : Nat) (h : hM) (x0 : Nat) (x1 : Int32) (x2 : Int32) (x3 : Int32) (H : Heap) (locs : List Loc) (ls : Array Slot), L_Mod_used_4 Q n h x0 x1 x2 x3 → hp κ w_cl h H → va_S (h_A κ) s.heap H locs → lv_has ls 4 [(0, .ref x0), (1, .int x1), (2, .int x2), (3, .int x3)] → W p l e rm_Mod_used s m args below meth c H locs 0 0 (MQ below (hQ κ w_cl (qI Q)) args s 0 0 (h_A κ)) (F0 m 4 ls []) := by
  obtain ⟨hx, hb, hml, hown, hts, hK, hF0, hrt, hlocks⟩ := id C0
  intro n
  induction n with
  | zero =>
    intro h x0 x1 x2 x3 H locs ls hw
    exact hw.elim
  | succ n hK4 =>
    intro h x0 x1 x2 x3 H locs ls hw hh hS hl
    have hw : P_Mod_used_4 Q (L_Mod_used_4 Q n) h x0 x1 x2 x3 := hw
    refine lv_iload_n hx hb d_Mod_used_4 rfl (lv_at hl 3 rfl) ?_
    refine lv_aload_n hx hb d_Mod_used_5 rfl (lv_at hl 0 rfl) ?_
    obtain ⟨fs51, i54, hr52, hk53, hw⟩ := hw
    refine h_get C0 hh hr52 hk53 rfl i_Mod (by decide) k_f_Mod_76 (fun _ h9 => h9) d_Mod_used_6 ?_
    refine lv_icmp_ge (tgt := 45) hx hb d_Mod_used_9 (by decide) (fun c55 => ?_) (fun c55 => ?_)
    · have hw := hw.1 c55
      refine lv_iload_n hx hb d_Mod_used_45 rfl (lv_at hl 2 rfl) ?_
      exact h_iret C0 hh hS rfl rfl ⟨_, rfl, hw⟩ d_Mod_used_46
    · have hw := hw.2 c55
      refine lv_iload_n hx hb d_Mod_used_12 rfl (lv_at hl 2 rfl) ?_
      refine lv_aload_n hx hb d_Mod_used_13 rfl (lv_at hl 0 rfl) ?_
      obtain ⟨fs56, r59, hr57, hk58, hw⟩ := hw
      refine h_get C0 hh hr57 hk58 rfl i_Mod (by decide) k_f_Mod_44 (fun _ h9 => h9) d_Mod_used_14 ?_
      refine lv_iload_n hx hb d_Mod_used_17 rfl (lv_at hl 3 rfl) ?_
      obtain ⟨n60, f61, hr62, hi63, hw⟩ := hw
      refine h_iald C0 hh hr62 hi63 rfl d_Mod_used_18 ?_
      refine lv_iconst (v := 2) hx hb d_Mod_used_19 (by decide) ?_
      refine lv_icmp_ne (tgt := 36) hx hb d_Mod_used_20 (by decide) (fun c64 => ?_) (fun c64 => ?_)
      · have hw := hw.1 c64
        refine lv_iconst (v := 0) hx hb d_Mod_used_36 (by decide) ?_
        exact S_Mod_used_37 C0 hK4 _ _ _ _ _ _ _ _ _ hw hh hS (lv_sub hl [0, 1, 3] rfl)
      · have hw := hw.2 c64
        refine lv_aload_n hx hb d_Mod_used_23 rfl (lv_at hl 0 rfl) ?_
        obtain ⟨fs65, r68, hr66, hk67, hw⟩ := hw
        refine h_get C0 hh hr66 hk67 rfl i_Mod (by decide) k_f_Mod_47 (fun _ h9 => h9) d_Mod_used_24 ?_
        refine lv_iconst (v := 4) hx hb d_Mod_used_27 (by decide) ?_
        refine lv_iload_n hx hb d_Mod_used_28 rfl (lv_at hl 3 rfl) ?_
        refine lv_imul hx hb d_Mod_used_29 ?_
        refine lv_iload_n hx hb d_Mod_used_30 rfl (lv_at hl 1 rfl) ?_
        refine lv_iadd hx hb d_Mod_used_31 ?_
        obtain ⟨n69, f70, hr71, hi72, hw⟩ := hw
        refine h_iald C0 hh hr71 hi72 rfl d_Mod_used_32 ?_
        refine lv_goto (tgt := 37) hx hb d_Mod_used_33 (by decide) ?_
        exact S_Mod_used_37 C0 hK4 _ _ _ _ _ _ _ _ _ hw hh hS (lv_sub hl [0, 1, 3] rfl)
set_option maxHeartbeats 4000000 in
set_option maxRecDepth 100000 in
theorem S_Mod_used {l : Launch} {κ : hX} (Q : Int32 → hM → Prop) (h : hM) (x0 : Nat) (x1 : Int32) (hw : P_Mod_used Q h x0 x1) : Met l y_Mod_used [Cond.code y_Mod_used b_Mod_used 4 (some .int)] rm_Mod_used (hPc κ w_cl w_tl w_tb [.ref x0, .int x1] h) (hQ κ w_cl (qI Q)) 0 0 (h_A κ) := by
  refine h_enter w_TBm (by decide) (Nat.le_of_ble_eq_true rfl) ?_
  intro p e s m args below meth c C0 hnm hh hS ls hl
  obtain ⟨hx, hb, hml, hown, hts, hK, hF0, hrt, hlocks⟩ := id C0
  have hl : lv_has ls 4 [(0, .ref x0), (1, .int x1)] := hl
  refine lv_iconst (v := 0) hx hb d_Mod_used_0 (by decide) ?_
  refine lv_istore_n (lv' := [(2, .int (0 : Int32)), (0, .ref x0), (1, .int x1)]) hx hb d_Mod_used_1 rfl hl (by decide) rfl (fun ls hl => ?_)
  refine lv_iconst (v := 0) hx hb d_Mod_used_2 (by decide) ?_
  refine lv_istore_n (lv' := [(3, .int (0 : Int32)), (2, .int (0 : Int32)), (0, .ref x0), (1, .int x1)]) hx hb d_Mod_used_3 rfl hl (by decide) rfl (fun ls hl => ?_)
  obtain ⟨n0, hw⟩ := hw
  exact S_Mod_used_4 C0 n0 _ _ _ _ _ _ _ _ hw hh hS (lv_sub hl [2, 3, 1, 0] rfl)
set_option maxHeartbeats 4000000 in
set_option maxRecDepth 100000 in
theorem S_Mod_mayStart_196 {p : Program} {l : Launch} {e : Env} {s : State} {m : MethodId} {args : Array Value} {below : List Frame} {meth : Method} {c : Code} {κ : hX} {Q : Int32 → hM → Prop} {K46 : hM → Nat → Int32 → Int32 → Int32 → Int32 → Int32 → Int32 → Prop} (C0 : Cw κ w_cl w_tl w_tb p s m args meth c b_Mod_mayStart 8 R_Mod (some .boolean)) (hK46 : ∀ (h : hM) (x0 : Nat) (x1 : Int32) (x2 : Int32) (x3 : Int32) (x4 : Int32) (x5 : Int32) (x6 : Int32) (H : Heap) (locs : List Loc) (ls : Array Slot), K46 h x0 x1 x2 x3 x4 x5 x6 → hp κ w_cl h H → va_S (h_A κ) s.heap H locs → lv_has ls 8 [(0, .ref x0), (1, .int x1), (2, .int x2), (3, .int x3), (4, .int x4), (5, .int x5), (6, .int x6)] → W p l e rm_Mod_mayStart s m args below meth c H locs 0 0 (MQ below (hQ κ w_cl (qI Q)) args s 0 0 (h_A κ)) (F0 m 46 ls [])) : ∀ (h : hM) (x0 : Nat) (x1 : Int32) (x2 : Int32) (x3 : Int32) (x4 : Int32) (x6 : Int32) (t0 : Int32) (H : Heap) (locs : List Loc) (ls : Array Slot), P_Mod_mayStart_196 Q K46 h x0 x1 x2 x3 x4 x6 t0 → hp κ w_cl h H → va_S (h_A κ) s.heap H locs → lv_has ls 8 [(0, .ref x0), (1, .int x1), (2, .int x2), (3, .int x3), (4, .int x4), (6, .int x6)] → W p l e rm_Mod_mayStart s m args below meth c H locs 0 0 (MQ below (hQ κ w_cl (qI Q)) args s 0 0 (h_A κ)) (F0 m 196 ls [.int t0]) := by
  obtain ⟨hx, hb, hml, hown, hts, hK, hF0, hrt, hlocks⟩ := id C0
  intro h x0 x1 x2 x3 x4 x6 t0 H locs ls hw hh hS hl
  refine lv_istore (lv' := [(5, .int t0), (0, .ref x0), (1, .int x1), (2, .int x2), (3, .int x3), (4, .int x4), (6, .int x6)]) hx hb d_Mod_mayStart_196 hl (by decide) rfl (fun ls hl => ?_)
  obtain ⟨x6_337, ex6_337⟩ : ∃ z : Int32, z = x6 + 1 := ⟨_, rfl⟩
  have hw := hw x6_337 ex6_337
  refine lv_iinc (v := x6_337) (lv' := [(6, .int x6_337), (5, .int t0), (0, .ref x0), (1, .int x1), (2, .int x2), (3, .int x3), (4, .int x4)]) hx hb d_Mod_mayStart_198 hl (k := 6) rfl (by rw [ex6_337]; rfl) (by decide) rfl (fun ls hl => ?_)
  refine lv_goto (tgt := 46) hx hb d_Mod_mayStart_201 (by decide) ?_
  exact hK46 _ _ _ _ _ _ _ _ _ _ _ hw hh hS (lv_sub hl [2, 3, 4, 5, 6, 1, 0] rfl)
set_option maxHeartbeats 4000000 in
set_option maxRecDepth 100000 in
theorem S_Mod_mayStart_254 {p : Program} {l : Launch} {e : Env} {s : State} {m : MethodId} {args : Array Value} {below : List Frame} {meth : Method} {c : Code} {κ : hX} {Q : Int32 → hM → Prop} {K210 : hM → Nat → Int32 → Int32 → Int32 → Int32 → Int32 → Int32 → Int32 → Prop} (C0 : Cw κ w_cl w_tl w_tb p s m args meth c b_Mod_mayStart 8 R_Mod (some .boolean)) (hK210 : ∀ (h : hM) (x0 : Nat) (x1 : Int32) (x2 : Int32) (x3 : Int32) (x4 : Int32) (x5 : Int32) (x6 : Int32) (x7 : Int32) (H : Heap) (locs : List Loc) (ls : Array Slot), K210 h x0 x1 x2 x3 x4 x5 x6 x7 → hp κ w_cl h H → va_S (h_A κ) s.heap H locs → lv_has ls 8 [(0, .ref x0), (1, .int x1), (2, .int x2), (3, .int x3), (4, .int x4), (5, .int x5), (6, .int x6), (7, .int x7)] → W p l e rm_Mod_mayStart s m args below meth c H locs 0 0 (MQ below (hQ κ w_cl (qI Q)) args s 0 0 (h_A κ)) (F0 m 210 ls [])) : ∀ (h : hM) (x0 : Nat) (x1 : Int32) (x2 : Int32) (x3 : Int32) (x4 : Int32) (x5 : Int32) (x7 : Int32) (t0 : Int32) (H : Heap) (locs : List Loc) (ls : Array Slot), P_Mod_mayStart_254 Q K210 h x0 x1 x2 x3 x4 x5 x7 t0 → hp κ w_cl h H → va_S (h_A κ) s.heap H locs → lv_has ls 8 [(0, .ref x0), (1, .int x1), (2, .int x2), (3, .int x3), (4, .int x4), (5, .int x5), (7, .int x7)] → W p l e rm_Mod_mayStart s m args below meth c H locs 0 0 (MQ below (hQ κ w_cl (qI Q)) args s 0 0 (h_A κ)) (F0 m 254 ls [.int t0]) := by
  obtain ⟨hx, hb, hml, hown, hts, hK, hF0, hrt, hlocks⟩ := id C0
  intro h x0 x1 x2 x3 x4 x5 x7 t0 H locs ls hw hh hS hl
  refine lv_istore (lv' := [(6, .int t0), (0, .ref x0), (1, .int x1), (2, .int x2), (3, .int x3), (4, .int x4), (5, .int x5), (7, .int x7)]) hx hb d_Mod_mayStart_254 hl (by decide) rfl (fun ls hl => ?_)
  obtain ⟨x7_338, ex7_338⟩ : ∃ z : Int32, z = x7 + 1 := ⟨_, rfl⟩
  have hw := hw x7_338 ex7_338
  refine lv_iinc (v := x7_338) (lv' := [(7, .int x7_338), (6, .int t0), (0, .ref x0), (1, .int x1), (2, .int x2), (3, .int x3), (4, .int x4), (5, .int x5)]) hx hb d_Mod_mayStart_256 hl (k := 7) rfl (by rw [ex7_338]; rfl) (by decide) rfl (fun ls hl => ?_)
  refine lv_goto (tgt := 210) hx hb d_Mod_mayStart_259 (by decide) ?_
  exact hK210 _ _ _ _ _ _ _ _ _ _ _ _ hw hh hS (lv_sub hl [2, 3, 4, 5, 6, 7, 1, 0] rfl)
