def lw_A1 (e0 x0 : Nat) (h : hM) : Prop := ∃ q1 q2 q3 q4 q5 q6 q7 q8 q10 q11 q12 q9 : Nat, Ls h [(x0, eO 0 [.ref q1, .ref q2, .ref q3, .ref q4, .ref q5, .ref q6, .ref q7, .ref q8, .ref q9, .long 0, .long 0, .int 0]), (q1, eO 5 [.int 0, .ref e0, .int 0]), (q2, eO 5 [.int 0, .ref e0, .int 0]), (q3, eT 0 36 (fun p => if p < 36 then 40 else 0)), (q4, eT 0 36 (fun _ => 0)), (q5, eT 0 36 (fun _ => 0)), (q6, eT 0 36 (fun _ => 0)), (q7, eT 0 4 (fun _ => 0)), (q8, eO 2 [.ref q10, .ref q11, .ref q12, .int 0, .int 0]), (q10, eT 0 36 (fun _ => 0)), (q11, eT 0 4 (fun _ => 0)), (q12, eO 4 [.long 0, .long 0]), (q9, eO 4 [.long 0, .long 0])]
def lw_A2 (e0 x0 m0 : Nat) (h : hM) : Prop := ∃ q1 q2 q3 q4 q5 q6 q7 q8 q10 q11 q12 q9 m2 m3 m4 m6 m7 m8 m9 m10 m11 m12 m13 m14 m15 m16 m17 m18 m19 m20 m21 : Nat, Ls h [(x0, eO 0 [.ref q1, .ref q2, .ref q3, .ref q4, .ref q5, .ref q6, .ref q7, .ref q8, .ref q9, .long 0, .long 0, .int 0]), (q1, eO 5 [.int 0, .ref e0, .int 0]), (q2, eO 5 [.int 0, .ref e0, .int 0]), (q3, eT 0 36 (fun p => if p < 36 then 40 else 0)), (q4, eT 0 36 (fun _ => 0)), (q5, eT 0 36 (fun _ => 0)), (q6, eT 0 36 (fun _ => 0)), (q7, eT 0 4 (fun _ => 0)), (q8, eO 2 [.ref q10, .ref q11, .ref q12, .int 0, .int 0]), (q10, eT 0 36 (fun _ => 0)), (q11, eT 0 4 (fun _ => 0)), (q12, eO 4 [.long 0, .long 0]), (q9, eO 4 [.long 0, .long 0]), (m0, eO 6 [.int 0, .long 0, .ref m2, .ref m3, .ref m4, .int 0, .ref m6, .ref m7, .ref m8, .ref m9, .ref m10, .ref m11, .ref m12, .ref m13, .ref m14, .ref m15, .ref m16, .ref m17, .ref m18, .ref m19, .ref m20, .ref m21, .int 0, .long 0, .int 0]), (m2, eT 0 96 (fun p => if p < 96 then -1 else 0)), (m3, eT 0 12 (fun p => if p < 12 then -1 else 0)), (m4, eT 3 12 (fun _ => 0)), (m6, eT 0 36 (fun p => if p < 36 then 40 else 0)), (m7, eT 0 36 (fun _ => 0)), (m8, eT 0 36 (fun _ => 0)), (m9, eT 0 36 (fun _ => 0)), (m10, eT 0 4 (fun _ => 0)), (m11, eT 0 100 (fun _ => 0)), (m12, eT 0 100 (fun _ => 0)), (m13, eT 0 100 (fun _ => 0)), (m14, eT 0 100 (fun _ => 0)), (m15, eT 0 400 (fun _ => 0)), (m16, eT 3 100 (fun _ => 0)), (m17, eT 3 100 (fun _ => 0)), (m18, eT 3 10000 (fun _ => 0)), (m19, eT 3 100 (fun _ => 0)), (m20, eJ 1 100 (fun _ => 0)), (m21, eJ 1 100 (fun _ => 0))]
theorem hp.z {κ : hX} {cl : List vw_C} {h : hM} {H : Heap} (hh : hp κ cl h H) : h.1 = κ.2.2.2.1 ∧ h.2.1 = κ.2.2.2.2 := by
  obtain ⟨ws, -, -, -, h1, h2⟩ := hh
  exact ⟨h1, h2⟩
section LWB
variable {p : Program} {l : Launch} {e : Env} {s : State} {m : MethodId} {below : List Frame} {meth : Method} {c : Code} {κ : hX} {b L : Nat} {xs : Nat → Int32}
set_option maxHeartbeats 4000000 in
theorem S_law_begin (Z : lwC κ p s m meth c b L xs) (hz : h_z κ = s.heap.size) (hfl : l.flags = Jvm.pinnedFlags ++ [Jvm.noTraceFlag]) (hL : L ≤ 3072) {h : hM} (hn : ∀ q, rd h q = none) (hh : hp κ w_cl h s.heap) {ls : Array Slot} (hl : lv_has ls 8 [(0, .ref b)]) : W p l e room_1 s m #[Value.ref b] below meth c s.heap [] 0 0 (lw_Z below #[Value.ref b] s) (F0 m 0 ls []) := by
  obtain ⟨C0, hX, hbl, hbz, hzt⟩ := id Z
  obtain ⟨hx, hb, hml, hown, hts, hKc, hF0, hZ0, hrt, hlocks⟩ := id C0
  have hS : va_S (h_A κ) s.heap s.heap [] := va_S.rf
  refine h_new C0 hh hS (ci := 0) (fs := [.null, .null, .null, .null, .null, .null, .null, .null, .null, .long 0, .long 0, .int 0]) rfl i_Rows t_Rows t_Rows_ok k_c_Law_8 k_made_Rows k_ini_Rows def_Rows (Nat.le_of_ble_eq_true rfl) (Nat.le_of_ble_eq_true rfl) d_Law_0 (fun x0 H hq0 _ hh hS => ?_)
  have L0 : Ls (h_up h x0 (eO 0 [.null, .null, .null, .null, .null, .null, .null, .null, .null, .long 0, .long 0, .int 0])) ([] ++ [(x0, eO 0 [.null, .null, .null, .null, .null, .null, .null, .null, .null, .long 0, .long 0, .int 0])]) := Ls.new ⟨fun k p hk => absurd hk (by simp), fun i j p q hi => absurd hi (by simp)⟩ hq0 _
  have hw : P_Rows_init (lw_A1 κ.2.2.2.1 x0) (h_up h x0 (eO 0 [.null, .null, .null, .null, .null, .null, .null, .null, .null, .long 0, .long 0, .int 0])) x0 := C_Rows_init L0 hh.z.1 (fun g q1 q2 q3 q4 q5 q6 q7 q8 q10 q11 q12 q9 H z => ⟨q1, q2, q3, q4, q5, q6, q7, q8, q10, q11, q12, q9, H⟩)
  clear L0
  refine W.widen (k := 1) (n := 12) (Nat.le_of_ble_eq_true rfl) (Nat.le_of_ble_eq_true rfl) ?_
  refine lv_dup hx hb d_Law_3 rfl ?_
  refine h_callI (n := 0) C0 w_TBm hh hS hl.1 [] [.ref x0] (S_Rows_init _ _ _ hw) k_m_Law_15 k_inst_Rows_init rfl k_ini_Rows k_code_Rows_init (by decide +kernel) rfl rfl (Nat.le_of_ble_eq_true rfl) ⟨(Nat.le_of_ble_eq_true rfl), (Nat.le_of_ble_eq_true rfl)⟩ ⟨(Nat.le_of_ble_eq_true rfl), (Nat.le_of_ble_eq_true rfl)⟩ d_Law_4 (h_kV (k := 13) (n := 215) (Nat.le_of_ble_eq_true rfl) (Nat.le_of_ble_eq_true rfl) (fun h2 H locs hw hh hS => ?_))
  refine lv_astore_n (lv' := [(1, .ref x0), (0, .ref b)]) hx hb d_Law_7 rfl hl (by decide) rfl (fun ls hl => ?_)
  obtain ⟨q1, q2, q3, q4, q5, q6, q7, q8, q10, q11, q12, q9, L1⟩ := hw
  refine h_new C0 hh hS (ci := 6) (fs := [.int 0, .long 0, .null, .null, .null, .int 0, .null, .null, .null, .null, .null, .null, .null, .null, .null, .null, .null, .null, .null, .null, .null, .null, .int 0, .long 0, .int 0]) rfl i_Mod t_Mod t_Mod_ok k_c_Law_16 k_made_Mod k_ini_Mod def_Mod (Nat.le_of_ble_eq_true rfl) (Nat.le_of_ble_eq_true rfl) d_Law_8 (fun m0 H hqm _ hh hS => ?_)
  have hw : P_Mod_init (lw_A2 κ.2.2.2.1 x0 m0) (h_up h2 m0 (eO 6 [.int 0, .long 0, .null, .null, .null, .int 0, .null, .null, .null, .null, .null, .null, .null, .null, .null, .null, .null, .null, .null, .null, .null, .null, .int 0, .long 0, .int 0])) m0 := C_Mod_init (L1.new hqm _) hh.z.1 (fun g m2 m3 m4 m6 m7 m8 m9 m10 m11 m12 m13 m14 m15 m16 m17 m18 m19 m20 m21 H z => ⟨q1, q2, q3, q4, q5, q6, q7, q8, q10, q11, q12, q9, m2, m3, m4, m6, m7, m8, m9, m10, m11, m12, m13, m14, m15, m16, m17, m18, m19, m20, m21, H⟩)
  clear L1
  refine W.widen (k := 14) (n := 240) (Nat.le_of_ble_eq_true rfl) (Nat.le_of_ble_eq_true rfl) ?_
  refine lv_dup hx hb d_Law_11 rfl ?_
  refine h_callI (n := 0) C0 w_TBm hh hS hl.1 [] [.ref m0] (S_Mod_init _ _ _ hw) k_m_Law_18 k_inst_Mod_init rfl k_ini_Mod k_code_Mod_init (by decide +kernel) rfl rfl (Nat.le_of_ble_eq_true rfl) ⟨(Nat.le_of_ble_eq_true rfl), (Nat.le_of_ble_eq_true rfl)⟩ ⟨(Nat.le_of_ble_eq_true rfl), (Nat.le_of_ble_eq_true rfl)⟩ d_Law_12 (h_kV (k := 33) (n := 11808) (Nat.le_of_ble_eq_true rfl) (Nat.le_of_ble_eq_true rfl) (fun h3 H locs hw hh hS => ?_))
  refine lv_astore_n (lv' := [(2, .ref m0), (1, .ref x0), (0, .ref b)]) hx hb d_Law_15 rfl hl (by decide) rfl (fun ls hl => ?_)
  refine lv_iconst (v := 1) hx hb d_Law_16 (by decide) ?_
  refine h_newa C0 hh hS (t := 1) (y := (eJ 1 1 (fun _ => 0))) (ty := .long) rfl rfl rfl (fun _ => rfl) (by decide) rfl (Nat.le_of_ble_eq_true rfl) k_arr_long (Nat.le_of_ble_eq_true rfl) (Nat.le_of_ble_eq_true rfl) d_Law_17 (fun o H hqo _ hh hS => ?_)
  refine W.widen (k := 34) (n := 11809) (Nat.le_of_ble_eq_true rfl) (Nat.le_of_ble_eq_true rfl) ?_
  refine lv_astore_n (lv' := [(3, .ref o), (2, .ref m0), (1, .ref x0), (0, .ref b)]) hx hb d_Law_19 rfl hl (by decide) rfl (fun ls hl => ?_)
  refine lv_iconst (v := 0) hx hb d_Law_20 (by decide) ?_
  refine lv_istore (lv' := [(4, .int 0), (3, .ref o), (2, .ref m0), (1, .ref x0), (0, .ref b)]) hx hb d_Law_21 hl (by decide) rfl (fun ls hl => ?_)
  have hJ : lwJ x0 m0 o (h_up h3 o (eJ 1 1 (fun _ => 0))) := by
    obtain ⟨q1, q2, q3, q4, q5, q6, q7, q8, q10, q11, q12, q9, m2, m3, m4, m6, m7, m8, m9, m10, m11, m12, m13, m14, m15, m16, m17, m18, m19, m20, m21, L2⟩ := hw
    exact ⟨_, _, _, _, INV_first (L2.new hqo _) hh.z.1 hh.z.2, rfl, rfl⟩
  exact S_law_loop Z hz hfl hL 513 0 (by decide) (by decide) x0 m0 o _ _ _ _ hJ hh hS (lv_sub hl [4, 3, 2, 1, 0] rfl)
end LWB
