/-- what the law's walk rests on -/
def lwC (κ : hX) (p : Program) (s : State) (m : MethodId) (meth : Method) (c : Code) (b L : Nat) (xs : Nat → Int32) : Prop := Cw κ w_cl w_tl w_tb p s m #[Value.ref b] meth c code 8 R_Law (some .boolean) ∧ va_X b L xs s s.heap ∧ b < s.heap.size ∧ b < h_z κ ∧ hZt κ s
def lwI (x4 : Int32) (L : Nat) (xs : Nat → Int32) (v1 v2 v3 v4 v5 : Int32) : Prop := (vp_in (x4 + (1 : Int32)) L ∧ xs (x4 + (1 : Int32)).toNatClampNeg = v1) ∧ (vp_in (x4 + (2 : Int32)) L ∧ xs (x4 + (2 : Int32)).toNatClampNeg = v2) ∧ (vp_in (x4 + (3 : Int32)) L ∧ xs (x4 + (3 : Int32)).toNatClampNeg = v3) ∧ (vp_in (x4 + (4 : Int32)) L ∧ xs (x4 + (4 : Int32)).toNatClampNeg = v4) ∧ (vp_in (x4 + (5 : Int32)) L ∧ xs (x4 + (5 : Int32)).toNatClampNeg = v5)
/-- the way on, behind a case -/
def lwK (κ : hX) (p : Program) (l : Launch) (e : Env) (s : State) (m : MethodId) (below : List Frame) (meth : Method) (c : Code) (b x1 x2 x3 : Nat) (x4 : Int32) (cells slots : Nat) (Q : State → Prop) (K : hM → Prop) : Prop := ∀ (h : hM) (H : Heap) (locs : List Loc) (ls : Array Slot), K h → hp κ w_cl h H → va_S (h_A κ) s.heap H locs → lv_has ls 8 [(0, .ref b), (1, .ref x1), (2, .ref x2), (3, .ref x3), (4, .int x4)] → W p l e room_1 s m #[Value.ref b] below meth c H locs (cells + 4) (slots + 176) Q (F0 m 1031 ls [])
section LWC
variable {p : Program} {l : Launch} {e : Env} {s : State} {m : MethodId} {below : List Frame} {meth : Method} {c : Code} {κ : hX} {b L : Nat} {xs : Nat → Int32} {Q : State → Prop} {K : hM → Prop} {cells slots x1 x2 x3 : Nat} {x4 v1 v2 v3 v4 v5 : Int32} {fs1 : List Value}
set_option maxHeartbeats 4000000 in
set_option maxRecDepth 100000 in
theorem S_law_0 (Z : lwC κ p s m meth c b L xs) (I : lwI x4 L xs v1 v2 v3 v4 v5) (hfl : l.flags = Jvm.pinnedFlags ++ [Jvm.noTraceFlag]) (hc4 : cells + 4 ≤ 601024) (hs4 : slots + 176 ≤ 7293034) (hK : lwK κ p l e s m below meth c b x1 x2 x3 x4 cells slots Q K) (h : hM) (H : Heap) (locs : List Loc) (ls : Array Slot) (hr1 : rd h x1 = some (eO 0 fs1)) (hw : P_Rows_initiator (fun r h1 => P_Mod_initiator (fun r' h2 => r = r' ∧ K h2) h1 x2) h x1) (hh : hp κ w_cl h H) (hS : va_S (h_A κ) s.heap H locs) (hl : lv_has ls 8 [(0, .ref b), (1, .ref x1), (2, .ref x2), (3, .ref x3), (4, .int x4)]) : W p l e room_1 s m #[Value.ref b] below meth c H locs cells slots Q (F0 m 136 ls []) := by
  obtain ⟨C0, hX, hbl, hbz, hzt⟩ := Z
  obtain ⟨hx, hb, hml, hown, hts, hKc, hF0, hrt, hlocks⟩ := id C0
  have hbA : ¬ h_A κ b := Nat.not_le.mpr hbz
  obtain ⟨⟨i1, j1⟩, ⟨i2, j2⟩, ⟨i3, j3⟩, ⟨i4, j4⟩, ⟨i5, j5⟩⟩ := I
  refine lv_aload_n hx hb d_Law_136 rfl (lv_at hl 1 rfl) ?_
  refine h_callV (n := 0) C0 w_TBm hh hS hl.1 [] [] (S_Rows_initiator _ _ _ hw) hr1 rfl k_m_Law_19 k_inst_Rows_initiator k_sel_Rows_initiator k_ini_Rows k_code_Rows_initiator (by decide +kernel) rfl rfl (Nat.le_of_ble_eq_true rfl) ⟨(Nat.le_of_ble_eq_true rfl), (Nat.le_of_ble_eq_true rfl)⟩ ⟨by show cells + 3 ≤ 601024; omega, by show slots + 171 ≤ 7293034; omega⟩ d_Law_137 (h_kI (k := cells + 3) (n := slots + 171) (by show cells + 3 ≤ cells + 3; omega) (by show slots + 171 ≤ slots + 171; omega) (fun r h137 H locs hw hh hS => ?_))
  refine lv_aload_n hx hb d_Law_140 rfl (lv_at hl 2 rfl) ?_
  obtain ⟨fs2, hr2, -⟩ := id hw
  refine h_callV (n := 0) C0 w_TBm hh hS hl.1 [] [.int r] (S_Mod_initiator _ _ _ hw) hr2 rfl k_m_Law_23 k_inst_Mod_initiator k_sel_Mod_initiator k_ini_Mod k_code_Mod_initiator (by decide +kernel) rfl rfl (Nat.le_of_ble_eq_true rfl) ⟨(Nat.le_of_ble_eq_true rfl), (Nat.le_of_ble_eq_true rfl)⟩ ⟨by show cells + 3 + 0 ≤ 601024; omega, by show slots + 171 + 0 ≤ 7293034; omega⟩ d_Law_141 (h_kI (k := cells + 4) (n := slots + 176) (by show cells + 3 + 0 ≤ cells + 4; omega) (by show slots + 171 + 0 ≤ slots + 176; omega) (fun r2 h141 H locs hw hh hS => ?_))
  obtain ⟨hrr, hw⟩ := hw
  refine lv_icmp_eq (tgt := 1031) hx hb d_Law_144 (by decide) (fun _ => ?_) (fun cc => absurd hrr cc)
  exact hK _ _ _ _ hw hh hS (lv_sub hl [0, 1, 2, 3, 4] rfl)
set_option maxHeartbeats 4000000 in
set_option maxRecDepth 100000 in
theorem S_law_1 (Z : lwC κ p s m meth c b L xs) (I : lwI x4 L xs v1 v2 v3 v4 v5) (hfl : l.flags = Jvm.pinnedFlags ++ [Jvm.noTraceFlag]) (hc4 : cells + 4 ≤ 601024) (hs4 : slots + 176 ≤ 7293034) (hK : lwK κ p l e s m below meth c b x1 x2 x3 x4 cells slots Q K) (h : hM) (H : Heap) (locs : List Loc) (ls : Array Slot) (hr1 : rd h x1 = some (eO 0 fs1)) (hw : P_Rows_cls (fun r h1 => P_Mod_cls (fun r' h2 => r = r' ∧ K h2) h1 x2 v1 v2 v3) h x1 v1 v2 v3) (hh : hp κ w_cl h H) (hS : va_S (h_A κ) s.heap H locs) (hl : lv_has ls 8 [(0, .ref b), (1, .ref x1), (2, .ref x2), (3, .ref x3), (4, .int x4)]) : W p l e room_1 s m #[Value.ref b] below meth c H locs cells slots Q (F0 m 149 ls []) := by
  obtain ⟨C0, hX, hbl, hbz, hzt⟩ := Z
  obtain ⟨hx, hb, hml, hown, hts, hKc, hF0, hrt, hlocks⟩ := id C0
  have hbA : ¬ h_A κ b := Nat.not_le.mpr hbz
  obtain ⟨⟨i1, j1⟩, ⟨i2, j2⟩, ⟨i3, j3⟩, ⟨i4, j4⟩, ⟨i5, j5⟩⟩ := I
  refine lv_aload_n hx hb d_Law_149 rfl (lv_at hl 1 rfl) ?_
  refine lv_aload_n hx hb d_Law_150 rfl (lv_at hl 0 rfl) ?_
  refine lv_iload hx hb d_Law_151 (lv_at hl 4 rfl) ?_
  refine lv_iconst (v := 1) hx hb d_Law_153 (by decide) ?_
  refine lv_iadd hx hb d_Law_154 ?_
  refine va_sld hx hb hX hbl hbA hS i1 d_Law_155 ?_
  rw [j1]
  refine lv_aload_n hx hb d_Law_156 rfl (lv_at hl 0 rfl) ?_
  refine lv_iload hx hb d_Law_157 (lv_at hl 4 rfl) ?_
  refine lv_iconst (v := 2) hx hb d_Law_159 (by decide) ?_
  refine lv_iadd hx hb d_Law_160 ?_
  refine va_sld hx hb hX hbl hbA hS i2 d_Law_161 ?_
  rw [j2]
  refine lv_aload_n hx hb d_Law_162 rfl (lv_at hl 0 rfl) ?_
  refine lv_iload hx hb d_Law_163 (lv_at hl 4 rfl) ?_
  refine lv_iconst (v := 3) hx hb d_Law_165 (by decide) ?_
  refine lv_iadd hx hb d_Law_166 ?_
  refine va_sld hx hb hX hbl hbA hS i3 d_Law_167 ?_
  rw [j3]
  refine h_callV (n := 3) C0 w_TBm hh hS hl.1 [.int v1, .int v2, .int v3] [] (S_Rows_cls _ _ _ _ _ _ hw) hr1 rfl k_m_Law_24 k_inst_Rows_cls k_sel_Rows_cls k_ini_Rows k_code_Rows_cls (by decide +kernel) rfl rfl (Nat.le_of_ble_eq_true rfl) ⟨(Nat.le_of_ble_eq_true rfl), (Nat.le_of_ble_eq_true rfl)⟩ ⟨by show cells + 0 ≤ 601024; omega, by show slots + 0 ≤ 7293034; omega⟩ d_Law_168 (h_kI (k := cells + 0) (n := slots + 0) (by show cells + 0 ≤ cells + 0; omega) (by show slots + 0 ≤ slots + 0; omega) (fun r h168 H locs hw hh hS => ?_))
  refine lv_aload_n hx hb d_Law_171 rfl (lv_at hl 2 rfl) ?_
  refine lv_aload_n hx hb d_Law_172 rfl (lv_at hl 0 rfl) ?_
  refine lv_iload hx hb d_Law_173 (lv_at hl 4 rfl) ?_
  refine lv_iconst (v := 1) hx hb d_Law_175 (by decide) ?_
  refine lv_iadd hx hb d_Law_176 ?_
  refine va_sld hx hb hX hbl hbA hS i1 d_Law_177 ?_
  rw [j1]
  refine lv_aload_n hx hb d_Law_178 rfl (lv_at hl 0 rfl) ?_
  refine lv_iload hx hb d_Law_179 (lv_at hl 4 rfl) ?_
  refine lv_iconst (v := 2) hx hb d_Law_181 (by decide) ?_
  refine lv_iadd hx hb d_Law_182 ?_
  refine va_sld hx hb hX hbl hbA hS i2 d_Law_183 ?_
  rw [j2]
  refine lv_aload_n hx hb d_Law_184 rfl (lv_at hl 0 rfl) ?_
  refine lv_iload hx hb d_Law_185 (lv_at hl 4 rfl) ?_
  refine lv_iconst (v := 3) hx hb d_Law_187 (by decide) ?_
  refine lv_iadd hx hb d_Law_188 ?_
  refine va_sld hx hb hX hbl hbA hS i3 d_Law_189 ?_
  rw [j3]
  obtain ⟨fs2, hr2, -⟩ := id hw
  refine h_callV (n := 3) C0 w_TBm hh hS hl.1 [.int v1, .int v2, .int v3] [.int r] (S_Mod_cls _ _ _ _ _ _ hw) hr2 rfl k_m_Law_28 k_inst_Mod_cls k_sel_Mod_cls k_ini_Mod k_code_Mod_cls (by decide +kernel) rfl rfl (Nat.le_of_ble_eq_true rfl) ⟨(Nat.le_of_ble_eq_true rfl), (Nat.le_of_ble_eq_true rfl)⟩ ⟨by show cells + 0 + 0 ≤ 601024; omega, by show slots + 0 + 0 ≤ 7293034; omega⟩ d_Law_190 (h_kI (k := cells + 4) (n := slots + 176) (by show cells + 0 + 0 ≤ cells + 4; omega) (by show slots + 0 + 0 ≤ slots + 176; omega) (fun r2 h190 H locs hw hh hS => ?_))
  obtain ⟨hrr, hw⟩ := hw
  refine lv_icmp_eq (tgt := 1031) hx hb d_Law_193 (by decide) (fun _ => ?_) (fun cc => absurd hrr cc)
  exact hK _ _ _ _ hw hh hS (lv_sub hl [0, 1, 2, 3, 4] rfl)
set_option maxHeartbeats 4000000 in
set_option maxRecDepth 100000 in
theorem S_law_2 (Z : lwC κ p s m meth c b L xs) (I : lwI x4 L xs v1 v2 v3 v4 v5) (hfl : l.flags = Jvm.pinnedFlags ++ [Jvm.noTraceFlag]) (hc4 : cells + 4 ≤ 601024) (hs4 : slots + 176 ≤ 7293034) (hK : lwK κ p l e s m below meth c b x1 x2 x3 x4 cells slots Q K) (h : hM) (H : Heap) (locs : List Loc) (ls : Array Slot) (hr1 : rd h x1 = some (eO 0 fs1)) (hw : P_Rows_limit (fun r h1 => P_Mod_limit (fun r' h2 => r = r' ∧ K h2) h1 x2 v1 v2) h x1 v1 v2) (hh : hp κ w_cl h H) (hS : va_S (h_A κ) s.heap H locs) (hl : lv_has ls 8 [(0, .ref b), (1, .ref x1), (2, .ref x2), (3, .ref x3), (4, .int x4)]) : W p l e room_1 s m #[Value.ref b] below meth c H locs cells slots Q (F0 m 198 ls []) := by
  obtain ⟨C0, hX, hbl, hbz, hzt⟩ := Z
  obtain ⟨hx, hb, hml, hown, hts, hKc, hF0, hrt, hlocks⟩ := id C0
  have hbA : ¬ h_A κ b := Nat.not_le.mpr hbz
  obtain ⟨⟨i1, j1⟩, ⟨i2, j2⟩, ⟨i3, j3⟩, ⟨i4, j4⟩, ⟨i5, j5⟩⟩ := I
  refine lv_aload_n hx hb d_Law_198 rfl (lv_at hl 1 rfl) ?_
  refine lv_aload_n hx hb d_Law_199 rfl (lv_at hl 0 rfl) ?_
  refine lv_iload hx hb d_Law_200 (lv_at hl 4 rfl) ?_
  refine lv_iconst (v := 1) hx hb d_Law_202 (by decide) ?_
  refine lv_iadd hx hb d_Law_203 ?_
  refine va_sld hx hb hX hbl hbA hS i1 d_Law_204 ?_
  rw [j1]
  refine lv_aload_n hx hb d_Law_205 rfl (lv_at hl 0 rfl) ?_
  refine lv_iload hx hb d_Law_206 (lv_at hl 4 rfl) ?_
  refine lv_iconst (v := 2) hx hb d_Law_208 (by decide) ?_
  refine lv_iadd hx hb d_Law_209 ?_
  refine va_sld hx hb hX hbl hbA hS i2 d_Law_210 ?_
  rw [j2]
  refine h_callV (n := 2) C0 w_TBm hh hS hl.1 [.int v1, .int v2] [] (S_Rows_limit _ _ _ _ _ hw) hr1 rfl k_m_Law_29 k_inst_Rows_limit k_sel_Rows_limit k_ini_Rows k_code_Rows_limit (by decide +kernel) rfl rfl (Nat.le_of_ble_eq_true rfl) ⟨(Nat.le_of_ble_eq_true rfl), (Nat.le_of_ble_eq_true rfl)⟩ ⟨by show cells + 0 ≤ 601024; omega, by show slots + 0 ≤ 7293034; omega⟩ d_Law_211 (h_kI (k := cells + 0) (n := slots + 0) (by show cells + 0 ≤ cells + 0; omega) (by show slots + 0 ≤ slots + 0; omega) (fun r h211 H locs hw hh hS => ?_))
  refine lv_aload_n hx hb d_Law_214 rfl (lv_at hl 2 rfl) ?_
  refine lv_aload_n hx hb d_Law_215 rfl (lv_at hl 0 rfl) ?_
  refine lv_iload hx hb d_Law_216 (lv_at hl 4 rfl) ?_
  refine lv_iconst (v := 1) hx hb d_Law_218 (by decide) ?_
  refine lv_iadd hx hb d_Law_219 ?_
  refine va_sld hx hb hX hbl hbA hS i1 d_Law_220 ?_
  rw [j1]
  refine lv_aload_n hx hb d_Law_221 rfl (lv_at hl 0 rfl) ?_
  refine lv_iload hx hb d_Law_222 (lv_at hl 4 rfl) ?_
  refine lv_iconst (v := 2) hx hb d_Law_224 (by decide) ?_
  refine lv_iadd hx hb d_Law_225 ?_
  refine va_sld hx hb hX hbl hbA hS i2 d_Law_226 ?_
  rw [j2]
  obtain ⟨fs2, hr2, -⟩ := id hw
  refine h_callV (n := 2) C0 w_TBm hh hS hl.1 [.int v1, .int v2] [.int r] (S_Mod_limit _ _ _ _ _ hw) hr2 rfl k_m_Law_33 k_inst_Mod_limit k_sel_Mod_limit k_ini_Mod k_code_Mod_limit (by decide +kernel) rfl rfl (Nat.le_of_ble_eq_true rfl) ⟨(Nat.le_of_ble_eq_true rfl), (Nat.le_of_ble_eq_true rfl)⟩ ⟨by show cells + 0 + 0 ≤ 601024; omega, by show slots + 0 + 0 ≤ 7293034; omega⟩ d_Law_227 (h_kI (k := cells + 4) (n := slots + 176) (by show cells + 0 + 0 ≤ cells + 4; omega) (by show slots + 0 + 0 ≤ slots + 176; omega) (fun r2 h227 H locs hw hh hS => ?_))
  obtain ⟨hrr, hw⟩ := hw
  refine lv_icmp_eq (tgt := 1031) hx hb d_Law_230 (by decide) (fun _ => ?_) (fun cc => absurd hrr cc)
  exact hK _ _ _ _ hw hh hS (lv_sub hl [0, 1, 2, 3, 4] rfl)
set_option maxHeartbeats 4000000 in
set_option maxRecDepth 100000 in
theorem S_law_3 (Z : lwC κ p s m meth c b L xs) (I : lwI x4 L xs v1 v2 v3 v4 v5) (hfl : l.flags = Jvm.pinnedFlags ++ [Jvm.noTraceFlag]) (hc4 : cells + 4 ≤ 601024) (hs4 : slots + 176 ≤ 7293034) (hK : lwK κ p l e s m below meth c b x1 x2 x3 x4 cells slots Q K) (h : hM) (H : Heap) (locs : List Loc) (ls : Array Slot) (hr1 : rd h x1 = some (eO 0 fs1)) (hw : P_Rows_window (fun r h1 => P_Mod_window (fun r' h2 => r = r' ∧ K h2) h1 x2 v1 v2 v3) h x1 v1 v2 v3) (hh : hp κ w_cl h H) (hS : va_S (h_A κ) s.heap H locs) (hl : lv_has ls 8 [(0, .ref b), (1, .ref x1), (2, .ref x2), (3, .ref x3), (4, .int x4)]) : W p l e room_1 s m #[Value.ref b] below meth c H locs cells slots Q (F0 m 235 ls []) := by
  obtain ⟨C0, hX, hbl, hbz, hzt⟩ := Z
  obtain ⟨hx, hb, hml, hown, hts, hKc, hF0, hrt, hlocks⟩ := id C0
  have hbA : ¬ h_A κ b := Nat.not_le.mpr hbz
  obtain ⟨⟨i1, j1⟩, ⟨i2, j2⟩, ⟨i3, j3⟩, ⟨i4, j4⟩, ⟨i5, j5⟩⟩ := I
  refine lv_aload_n hx hb d_Law_235 rfl (lv_at hl 1 rfl) ?_
  refine lv_aload_n hx hb d_Law_236 rfl (lv_at hl 0 rfl) ?_
  refine lv_iload hx hb d_Law_237 (lv_at hl 4 rfl) ?_
  refine lv_iconst (v := 1) hx hb d_Law_239 (by decide) ?_
  refine lv_iadd hx hb d_Law_240 ?_
  refine va_sld hx hb hX hbl hbA hS i1 d_Law_241 ?_
  rw [j1]
  refine lv_aload_n hx hb d_Law_242 rfl (lv_at hl 0 rfl) ?_
  refine lv_iload hx hb d_Law_243 (lv_at hl 4 rfl) ?_
  refine lv_iconst (v := 2) hx hb d_Law_245 (by decide) ?_
  refine lv_iadd hx hb d_Law_246 ?_
  refine va_sld hx hb hX hbl hbA hS i2 d_Law_247 ?_
  rw [j2]
  refine lv_aload_n hx hb d_Law_248 rfl (lv_at hl 0 rfl) ?_
  refine lv_iload hx hb d_Law_249 (lv_at hl 4 rfl) ?_
  refine lv_iconst (v := 3) hx hb d_Law_251 (by decide) ?_
  refine lv_iadd hx hb d_Law_252 ?_
  refine va_sld hx hb hX hbl hbA hS i3 d_Law_253 ?_
  rw [j3]
  refine h_callV (n := 3) C0 w_TBm hh hS hl.1 [.int v1, .int v2, .int v3] [] (S_Rows_window _ _ _ _ _ _ hw) hr1 rfl k_m_Law_34 k_inst_Rows_window k_sel_Rows_window k_ini_Rows k_code_Rows_window (by decide +kernel) rfl rfl (Nat.le_of_ble_eq_true rfl) ⟨(Nat.le_of_ble_eq_true rfl), (Nat.le_of_ble_eq_true rfl)⟩ ⟨by show cells + 0 ≤ 601024; omega, by show slots + 0 ≤ 7293034; omega⟩ d_Law_254 (h_kI (k := cells + 0) (n := slots + 0) (by show cells + 0 ≤ cells + 0; omega) (by show slots + 0 ≤ slots + 0; omega) (fun r h254 H locs hw hh hS => ?_))
  refine lv_aload_n hx hb d_Law_257 rfl (lv_at hl 2 rfl) ?_
  refine lv_aload_n hx hb d_Law_258 rfl (lv_at hl 0 rfl) ?_
  refine lv_iload hx hb d_Law_259 (lv_at hl 4 rfl) ?_
  refine lv_iconst (v := 1) hx hb d_Law_261 (by decide) ?_
  refine lv_iadd hx hb d_Law_262 ?_
  refine va_sld hx hb hX hbl hbA hS i1 d_Law_263 ?_
  rw [j1]
  refine lv_aload_n hx hb d_Law_264 rfl (lv_at hl 0 rfl) ?_
  refine lv_iload hx hb d_Law_265 (lv_at hl 4 rfl) ?_
  refine lv_iconst (v := 2) hx hb d_Law_267 (by decide) ?_
  refine lv_iadd hx hb d_Law_268 ?_
  refine va_sld hx hb hX hbl hbA hS i2 d_Law_269 ?_
  rw [j2]
  refine lv_aload_n hx hb d_Law_270 rfl (lv_at hl 0 rfl) ?_
  refine lv_iload hx hb d_Law_271 (lv_at hl 4 rfl) ?_
  refine lv_iconst (v := 3) hx hb d_Law_273 (by decide) ?_
  refine lv_iadd hx hb d_Law_274 ?_
  refine va_sld hx hb hX hbl hbA hS i3 d_Law_275 ?_
  rw [j3]
  obtain ⟨fs2, hr2, -⟩ := id hw
  refine h_callV (n := 3) C0 w_TBm hh hS hl.1 [.int v1, .int v2, .int v3] [.int r] (S_Mod_window _ _ _ _ _ _ hw) hr2 rfl k_m_Law_37 k_inst_Mod_window k_sel_Mod_window k_ini_Mod k_code_Mod_window (by decide +kernel) rfl rfl (Nat.le_of_ble_eq_true rfl) ⟨(Nat.le_of_ble_eq_true rfl), (Nat.le_of_ble_eq_true rfl)⟩ ⟨by show cells + 0 + 0 ≤ 601024; omega, by show slots + 0 + 0 ≤ 7293034; omega⟩ d_Law_276 (h_kI (k := cells + 4) (n := slots + 176) (by show cells + 0 + 0 ≤ cells + 4; omega) (by show slots + 0 + 0 ≤ slots + 176; omega) (fun r2 h276 H locs hw hh hS => ?_))
  obtain ⟨hrr, hw⟩ := hw
  refine lv_icmp_eq (tgt := 1031) hx hb d_Law_279 (by decide) (fun _ => ?_) (fun cc => absurd hrr cc)
  exact hK _ _ _ _ hw hh hS (lv_sub hl [0, 1, 2, 3, 4] rfl)
set_option maxHeartbeats 4000000 in
set_option maxRecDepth 100000 in
theorem S_law_4 (Z : lwC κ p s m meth c b L xs) (I : lwI x4 L xs v1 v2 v3 v4 v5) (hfl : l.flags = Jvm.pinnedFlags ++ [Jvm.noTraceFlag]) (hc4 : cells + 4 ≤ 601024) (hs4 : slots + 176 ≤ 7293034) (hK : lwK κ p l e s m below meth c b x1 x2 x3 x4 cells slots Q K) (h : hM) (H : Heap) (locs : List Loc) (ls : Array Slot) (hr1 : rd h x1 = some (eO 0 fs1)) (hw : P_Rows_job (fun r h1 => P_Mod_job (fun r' h2 => r = r' ∧ K h2) h1 x2 v1 v2 v3 ((v4.toInt64 <<< ((32 : Int32).toInt64 &&& 63)) ||| (v5.toInt64 &&& (4294967295 : Int64)))) h x1 v1 v2 v3 ((v4.toInt64 <<< ((32 : Int32).toInt64 &&& 63)) ||| (v5.toInt64 &&& (4294967295 : Int64)))) (hh : hp κ w_cl h H) (hS : va_S (h_A κ) s.heap H locs) (hl : lv_has ls 8 [(0, .ref b), (1, .ref x1), (2, .ref x2), (3, .ref x3), (4, .int x4)]) : W p l e room_1 s m #[Value.ref b] below meth c H locs cells slots Q (F0 m 284 ls []) := by
  obtain ⟨C0, hX, hbl, hbz, hzt⟩ := Z
  obtain ⟨hx, hb, hml, hown, hts, hKc, hF0, hrt, hlocks⟩ := id C0
  have hbA : ¬ h_A κ b := Nat.not_le.mpr hbz
  obtain ⟨⟨i1, j1⟩, ⟨i2, j2⟩, ⟨i3, j3⟩, ⟨i4, j4⟩, ⟨i5, j5⟩⟩ := I
  refine lv_aload_n hx hb d_Law_284 rfl (lv_at hl 1 rfl) ?_
  refine lv_aload_n hx hb d_Law_285 rfl (lv_at hl 0 rfl) ?_
  refine lv_iload hx hb d_Law_286 (lv_at hl 4 rfl) ?_
  refine lv_iconst (v := 1) hx hb d_Law_288 (by decide) ?_
  refine lv_iadd hx hb d_Law_289 ?_
  refine va_sld hx hb hX hbl hbA hS i1 d_Law_290 ?_
  rw [j1]
  refine lv_aload_n hx hb d_Law_291 rfl (lv_at hl 0 rfl) ?_
  refine lv_iload hx hb d_Law_292 (lv_at hl 4 rfl) ?_
  refine lv_iconst (v := 2) hx hb d_Law_294 (by decide) ?_
  refine lv_iadd hx hb d_Law_295 ?_
  refine va_sld hx hb hX hbl hbA hS i2 d_Law_296 ?_
  rw [j2]
  refine lv_aload_n hx hb d_Law_297 rfl (lv_at hl 0 rfl) ?_
  refine lv_iload hx hb d_Law_298 (lv_at hl 4 rfl) ?_
  refine lv_iconst (v := 3) hx hb d_Law_300 (by decide) ?_
  refine lv_iadd hx hb d_Law_301 ?_
  refine va_sld hx hb hX hbl hbA hS i3 d_Law_302 ?_
  rw [j3]
  refine lv_aload_n hx hb d_Law_303 rfl (lv_at hl 0 rfl) ?_
  refine lv_iload hx hb d_Law_304 (lv_at hl 4 rfl) ?_
  refine lv_iconst (v := 4) hx hb d_Law_306 (by decide) ?_
  refine lv_iadd hx hb d_Law_307 ?_
  refine va_sld hx hb hX hbl hbA hS i4 d_Law_308 ?_
  rw [j4]
  refine lv_i2l (v := v4.toInt64) hx hb d_Law_309 rfl ?_
  refine lv_bipush (v := 32) hx hb d_Law_310 (by decide) ?_
  refine lv_lshl (v := (v4.toInt64 <<< ((32 : Int32).toInt64 &&& 63))) hx hb d_Law_312 rfl ?_
  refine lv_aload_n hx hb d_Law_313 rfl (lv_at hl 0 rfl) ?_
  refine lv_iload hx hb d_Law_314 (lv_at hl 4 rfl) ?_
  refine lv_iconst (v := 5) hx hb d_Law_316 (by decide) ?_
  refine lv_iadd hx hb d_Law_317 ?_
  refine va_sld hx hb hX hbl hbA hS i5 d_Law_318 ?_
  rw [j5]
  refine lv_i2l (v := v5.toInt64) hx hb d_Law_319 rfl ?_
  refine lv_ldc2 (v := 4294967295) hx hb hown (hts _ k_k_Law_38) d_Law_320 ?_
  refine lv_land hx hb d_Law_323 ?_
  refine lv_lor hx hb d_Law_324 ?_
  refine h_callV (n := 4) C0 w_TBm hh hS hl.1 [.int v1, .int v2, .int v3, .long ((v4.toInt64 <<< ((32 : Int32).toInt64 &&& 63)) ||| (v5.toInt64 &&& (4294967295 : Int64)))] [] (S_Rows_job _ _ _ _ _ _ _ hw) hr1 rfl k_m_Law_40 k_inst_Rows_job k_sel_Rows_job k_ini_Rows k_code_Rows_job (by decide +kernel) rfl rfl (Nat.le_of_ble_eq_true rfl) ⟨(Nat.le_of_ble_eq_true rfl), (Nat.le_of_ble_eq_true rfl)⟩ ⟨by show cells + 4 ≤ 601024; omega, by show slots + 176 ≤ 7293034; omega⟩ d_Law_325 (h_kI (k := cells + 4) (n := slots + 176) (by show cells + 4 ≤ cells + 4; omega) (by show slots + 176 ≤ slots + 176; omega) (fun r h325 H locs hw hh hS => ?_))
  refine lv_aload_n hx hb d_Law_328 rfl (lv_at hl 2 rfl) ?_
  refine lv_aload_n hx hb d_Law_329 rfl (lv_at hl 0 rfl) ?_
  refine lv_iload hx hb d_Law_330 (lv_at hl 4 rfl) ?_
  refine lv_iconst (v := 1) hx hb d_Law_332 (by decide) ?_
  refine lv_iadd hx hb d_Law_333 ?_
  refine va_sld hx hb hX hbl hbA hS i1 d_Law_334 ?_
  rw [j1]
  refine lv_aload_n hx hb d_Law_335 rfl (lv_at hl 0 rfl) ?_
  refine lv_iload hx hb d_Law_336 (lv_at hl 4 rfl) ?_
  refine lv_iconst (v := 2) hx hb d_Law_338 (by decide) ?_
  refine lv_iadd hx hb d_Law_339 ?_
  refine va_sld hx hb hX hbl hbA hS i2 d_Law_340 ?_
  rw [j2]
  refine lv_aload_n hx hb d_Law_341 rfl (lv_at hl 0 rfl) ?_
  refine lv_iload hx hb d_Law_342 (lv_at hl 4 rfl) ?_
  refine lv_iconst (v := 3) hx hb d_Law_344 (by decide) ?_
  refine lv_iadd hx hb d_Law_345 ?_
  refine va_sld hx hb hX hbl hbA hS i3 d_Law_346 ?_
  rw [j3]
  refine lv_aload_n hx hb d_Law_347 rfl (lv_at hl 0 rfl) ?_
  refine lv_iload hx hb d_Law_348 (lv_at hl 4 rfl) ?_
  refine lv_iconst (v := 4) hx hb d_Law_350 (by decide) ?_
  refine lv_iadd hx hb d_Law_351 ?_
  refine va_sld hx hb hX hbl hbA hS i4 d_Law_352 ?_
  rw [j4]
  refine lv_i2l (v := v4.toInt64) hx hb d_Law_353 rfl ?_
  refine lv_bipush (v := 32) hx hb d_Law_354 (by decide) ?_
  refine lv_lshl (v := (v4.toInt64 <<< ((32 : Int32).toInt64 &&& 63))) hx hb d_Law_356 rfl ?_
  refine lv_aload_n hx hb d_Law_357 rfl (lv_at hl 0 rfl) ?_
  refine lv_iload hx hb d_Law_358 (lv_at hl 4 rfl) ?_
  refine lv_iconst (v := 5) hx hb d_Law_360 (by decide) ?_
  refine lv_iadd hx hb d_Law_361 ?_
  refine va_sld hx hb hX hbl hbA hS i5 d_Law_362 ?_
  rw [j5]
  refine lv_i2l (v := v5.toInt64) hx hb d_Law_363 rfl ?_
  refine lv_ldc2 (v := 4294967295) hx hb hown (hts _ k_k_Law_38) d_Law_364 ?_
  refine lv_land hx hb d_Law_367 ?_
  refine lv_lor hx hb d_Law_368 ?_
  obtain ⟨fs2, hr2, -⟩ := id hw
  refine h_callV (n := 4) C0 w_TBm hh hS hl.1 [.int v1, .int v2, .int v3, .long ((v4.toInt64 <<< ((32 : Int32).toInt64 &&& 63)) ||| (v5.toInt64 &&& (4294967295 : Int64)))] [.int r] (S_Mod_job _ _ _ _ _ _ _ hw) hr2 rfl k_m_Law_44 k_inst_Mod_job k_sel_Mod_job k_ini_Mod k_code_Mod_job (by decide +kernel) rfl rfl (Nat.le_of_ble_eq_true rfl) ⟨(Nat.le_of_ble_eq_true rfl), (Nat.le_of_ble_eq_true rfl)⟩ ⟨by show cells + 4 + 0 ≤ 601024; omega, by show slots + 176 + 0 ≤ 7293034; omega⟩ d_Law_369 (h_kI (k := cells + 4) (n := slots + 176) (by show cells + 4 + 0 ≤ cells + 4; omega) (by show slots + 176 + 0 ≤ slots + 176; omega) (fun r2 h369 H locs hw hh hS => ?_))
  obtain ⟨hrr, hw⟩ := hw
  refine lv_icmp_eq (tgt := 1031) hx hb d_Law_372 (by decide) (fun _ => ?_) (fun cc => absurd hrr cc)
  exact hK _ _ _ _ hw hh hS (lv_sub hl [0, 1, 2, 3, 4] rfl)
set_option maxHeartbeats 4000000 in
set_option maxRecDepth 100000 in
theorem S_law_5 (Z : lwC κ p s m meth c b L xs) (I : lwI x4 L xs v1 v2 v3 v4 v5) (hfl : l.flags = Jvm.pinnedFlags ++ [Jvm.noTraceFlag]) (hc4 : cells + 4 ≤ 601024) (hs4 : slots + 176 ≤ 7293034) (hK : lwK κ p l e s m below meth c b x1 x2 x3 x4 cells slots Q K) (h : hM) (H : Heap) (locs : List Loc) (ls : Array Slot) (hr1 : rd h x1 = some (eO 0 fs1)) (hw : P_Rows_needs (fun r h1 => P_Mod_needs (fun r' h2 => r = r' ∧ K h2) h1 x2 v1 v2) h x1 v1 v2) (hh : hp κ w_cl h H) (hS : va_S (h_A κ) s.heap H locs) (hl : lv_has ls 8 [(0, .ref b), (1, .ref x1), (2, .ref x2), (3, .ref x3), (4, .int x4)]) : W p l e room_1 s m #[Value.ref b] below meth c H locs cells slots Q (F0 m 377 ls []) := by
  obtain ⟨C0, hX, hbl, hbz, hzt⟩ := Z
  obtain ⟨hx, hb, hml, hown, hts, hKc, hF0, hrt, hlocks⟩ := id C0
  have hbA : ¬ h_A κ b := Nat.not_le.mpr hbz
  obtain ⟨⟨i1, j1⟩, ⟨i2, j2⟩, ⟨i3, j3⟩, ⟨i4, j4⟩, ⟨i5, j5⟩⟩ := I
  refine lv_aload_n hx hb d_Law_377 rfl (lv_at hl 1 rfl) ?_
  refine lv_aload_n hx hb d_Law_378 rfl (lv_at hl 0 rfl) ?_
  refine lv_iload hx hb d_Law_379 (lv_at hl 4 rfl) ?_
  refine lv_iconst (v := 1) hx hb d_Law_381 (by decide) ?_
  refine lv_iadd hx hb d_Law_382 ?_
  refine va_sld hx hb hX hbl hbA hS i1 d_Law_383 ?_
  rw [j1]
  refine lv_aload_n hx hb d_Law_384 rfl (lv_at hl 0 rfl) ?_
  refine lv_iload hx hb d_Law_385 (lv_at hl 4 rfl) ?_
  refine lv_iconst (v := 2) hx hb d_Law_387 (by decide) ?_
  refine lv_iadd hx hb d_Law_388 ?_
  refine va_sld hx hb hX hbl hbA hS i2 d_Law_389 ?_
  rw [j2]
  refine h_callV (n := 2) C0 w_TBm hh hS hl.1 [.int v1, .int v2] [] (S_Rows_needs _ _ _ _ _ hw) hr1 rfl k_m_Law_45 k_inst_Rows_needs k_sel_Rows_needs k_ini_Rows k_code_Rows_needs (by decide +kernel) rfl rfl (Nat.le_of_ble_eq_true rfl) ⟨(Nat.le_of_ble_eq_true rfl), (Nat.le_of_ble_eq_true rfl)⟩ ⟨by show cells + 0 ≤ 601024; omega, by show slots + 0 ≤ 7293034; omega⟩ d_Law_390 (h_kI (k := cells + 0) (n := slots + 0) (by show cells + 0 ≤ cells + 0; omega) (by show slots + 0 ≤ slots + 0; omega) (fun r h390 H locs hw hh hS => ?_))
  refine lv_aload_n hx hb d_Law_393 rfl (lv_at hl 2 rfl) ?_
  refine lv_aload_n hx hb d_Law_394 rfl (lv_at hl 0 rfl) ?_
  refine lv_iload hx hb d_Law_395 (lv_at hl 4 rfl) ?_
  refine lv_iconst (v := 1) hx hb d_Law_397 (by decide) ?_
  refine lv_iadd hx hb d_Law_398 ?_
  refine va_sld hx hb hX hbl hbA hS i1 d_Law_399 ?_
  rw [j1]
  refine lv_aload_n hx hb d_Law_400 rfl (lv_at hl 0 rfl) ?_
  refine lv_iload hx hb d_Law_401 (lv_at hl 4 rfl) ?_
  refine lv_iconst (v := 2) hx hb d_Law_403 (by decide) ?_
  refine lv_iadd hx hb d_Law_404 ?_
  refine va_sld hx hb hX hbl hbA hS i2 d_Law_405 ?_
  rw [j2]
  obtain ⟨fs2, hr2, -⟩ := id hw
  refine h_callV (n := 2) C0 w_TBm hh hS hl.1 [.int v1, .int v2] [.int r] (S_Mod_needs _ _ _ _ _ hw) hr2 rfl k_m_Law_48 k_inst_Mod_needs k_sel_Mod_needs k_ini_Mod k_code_Mod_needs (by decide +kernel) rfl rfl (Nat.le_of_ble_eq_true rfl) ⟨(Nat.le_of_ble_eq_true rfl), (Nat.le_of_ble_eq_true rfl)⟩ ⟨by show cells + 0 + 0 ≤ 601024; omega, by show slots + 0 + 0 ≤ 7293034; omega⟩ d_Law_406 (h_kI (k := cells + 4) (n := slots + 176) (by show cells + 0 + 0 ≤ cells + 4; omega) (by show slots + 0 + 0 ≤ slots + 176; omega) (fun r2 h406 H locs hw hh hS => ?_))
  obtain ⟨hrr, hw⟩ := hw
  refine lv_icmp_eq (tgt := 1031) hx hb d_Law_409 (by decide) (fun _ => ?_) (fun cc => absurd hrr cc)
  exact hK _ _ _ _ hw hh hS (lv_sub hl [0, 1, 2, 3, 4] rfl)
set_option maxHeartbeats 4000000 in
set_option maxRecDepth 100000 in
theorem S_law_6 (Z : lwC κ p s m meth c b L xs) (I : lwI x4 L xs v1 v2 v3 v4 v5) (hfl : l.flags = Jvm.pinnedFlags ++ [Jvm.noTraceFlag]) (hc4 : cells + 4 ≤ 601024) (hs4 : slots + 176 ≤ 7293034) (hK : lwK κ p l e s m below meth c b x1 x2 x3 x4 cells slots Q K) (h : hM) (H : Heap) (locs : List Loc) (ls : Array Slot) (hr1 : rd h x1 = some (eO 0 fs1)) (hw : P_Rows_units (fun r h1 => P_Mod_units (fun r' h2 => r = r' ∧ K h2) h1 x2 v1 v2) h x1 v1 v2) (hh : hp κ w_cl h H) (hS : va_S (h_A κ) s.heap H locs) (hl : lv_has ls 8 [(0, .ref b), (1, .ref x1), (2, .ref x2), (3, .ref x3), (4, .int x4)]) : W p l e room_1 s m #[Value.ref b] below meth c H locs cells slots Q (F0 m 414 ls []) := by
  obtain ⟨C0, hX, hbl, hbz, hzt⟩ := Z
  obtain ⟨hx, hb, hml, hown, hts, hKc, hF0, hrt, hlocks⟩ := id C0
  have hbA : ¬ h_A κ b := Nat.not_le.mpr hbz
  obtain ⟨⟨i1, j1⟩, ⟨i2, j2⟩, ⟨i3, j3⟩, ⟨i4, j4⟩, ⟨i5, j5⟩⟩ := I
  refine lv_aload_n hx hb d_Law_414 rfl (lv_at hl 1 rfl) ?_
  refine lv_aload_n hx hb d_Law_415 rfl (lv_at hl 0 rfl) ?_
  refine lv_iload hx hb d_Law_416 (lv_at hl 4 rfl) ?_
  refine lv_iconst (v := 1) hx hb d_Law_418 (by decide) ?_
  refine lv_iadd hx hb d_Law_419 ?_
  refine va_sld hx hb hX hbl hbA hS i1 d_Law_420 ?_
  rw [j1]
  refine lv_aload_n hx hb d_Law_421 rfl (lv_at hl 0 rfl) ?_
  refine lv_iload hx hb d_Law_422 (lv_at hl 4 rfl) ?_
  refine lv_iconst (v := 2) hx hb d_Law_424 (by decide) ?_
  refine lv_iadd hx hb d_Law_425 ?_
  refine va_sld hx hb hX hbl hbA hS i2 d_Law_426 ?_
  rw [j2]
  refine h_callV (n := 2) C0 w_TBm hh hS hl.1 [.int v1, .int v2] [] (S_Rows_units _ _ _ _ _ hw) hr1 rfl k_m_Law_49 k_inst_Rows_units k_sel_Rows_units k_ini_Rows k_code_Rows_units (by decide +kernel) rfl rfl (Nat.le_of_ble_eq_true rfl) ⟨(Nat.le_of_ble_eq_true rfl), (Nat.le_of_ble_eq_true rfl)⟩ ⟨by show cells + 0 ≤ 601024; omega, by show slots + 0 ≤ 7293034; omega⟩ d_Law_427 (h_kI (k := cells + 0) (n := slots + 0) (by show cells + 0 ≤ cells + 0; omega) (by show slots + 0 ≤ slots + 0; omega) (fun r h427 H locs hw hh hS => ?_))
  refine lv_aload_n hx hb d_Law_430 rfl (lv_at hl 2 rfl) ?_
  refine lv_aload_n hx hb d_Law_431 rfl (lv_at hl 0 rfl) ?_
  refine lv_iload hx hb d_Law_432 (lv_at hl 4 rfl) ?_
  refine lv_iconst (v := 1) hx hb d_Law_434 (by decide) ?_
  refine lv_iadd hx hb d_Law_435 ?_
  refine va_sld hx hb hX hbl hbA hS i1 d_Law_436 ?_
  rw [j1]
  refine lv_aload_n hx hb d_Law_437 rfl (lv_at hl 0 rfl) ?_
  refine lv_iload hx hb d_Law_438 (lv_at hl 4 rfl) ?_
  refine lv_iconst (v := 2) hx hb d_Law_440 (by decide) ?_
  refine lv_iadd hx hb d_Law_441 ?_
  refine va_sld hx hb hX hbl hbA hS i2 d_Law_442 ?_
  rw [j2]
  obtain ⟨fs2, hr2, -⟩ := id hw
  refine h_callV (n := 2) C0 w_TBm hh hS hl.1 [.int v1, .int v2] [.int r] (S_Mod_units _ _ _ _ _ hw) hr2 rfl k_m_Law_52 k_inst_Mod_units k_sel_Mod_units k_ini_Mod k_code_Mod_units (by decide +kernel) rfl rfl (Nat.le_of_ble_eq_true rfl) ⟨(Nat.le_of_ble_eq_true rfl), (Nat.le_of_ble_eq_true rfl)⟩ ⟨by show cells + 0 + 0 ≤ 601024; omega, by show slots + 0 + 0 ≤ 7293034; omega⟩ d_Law_443 (h_kI (k := cells + 4) (n := slots + 176) (by show cells + 0 + 0 ≤ cells + 4; omega) (by show slots + 0 + 0 ≤ slots + 176; omega) (fun r2 h443 H locs hw hh hS => ?_))
  obtain ⟨hrr, hw⟩ := hw
  refine lv_icmp_eq (tgt := 1031) hx hb d_Law_446 (by decide) (fun _ => ?_) (fun cc => absurd hrr cc)
  exact hK _ _ _ _ hw hh hS (lv_sub hl [0, 1, 2, 3, 4] rfl)
set_option maxHeartbeats 4000000 in
set_option maxRecDepth 100000 in
theorem S_law_7 (Z : lwC κ p s m meth c b L xs) (I : lwI x4 L xs v1 v2 v3 v4 v5) (hfl : l.flags = Jvm.pinnedFlags ++ [Jvm.noTraceFlag]) (hc4 : cells + 4 ≤ 601024) (hs4 : slots + 176 ≤ 7293034) (hK : lwK κ p l e s m below meth c b x1 x2 x3 x4 cells slots Q K) (h : hM) (H : Heap) (locs : List Loc) (ls : Array Slot) (hr1 : rd h x1 = some (eO 0 fs1)) (hw : P_Rows_uses (fun r h1 => P_Mod_uses (fun r' h2 => r = r' ∧ K h2) h1 x2 v1 v2 v3) h x1 v1 v2 v3) (hh : hp κ w_cl h H) (hS : va_S (h_A κ) s.heap H locs) (hl : lv_has ls 8 [(0, .ref b), (1, .ref x1), (2, .ref x2), (3, .ref x3), (4, .int x4)]) : W p l e room_1 s m #[Value.ref b] below meth c H locs cells slots Q (F0 m 451 ls []) := by
  obtain ⟨C0, hX, hbl, hbz, hzt⟩ := Z
  obtain ⟨hx, hb, hml, hown, hts, hKc, hF0, hrt, hlocks⟩ := id C0
  have hbA : ¬ h_A κ b := Nat.not_le.mpr hbz
  obtain ⟨⟨i1, j1⟩, ⟨i2, j2⟩, ⟨i3, j3⟩, ⟨i4, j4⟩, ⟨i5, j5⟩⟩ := I
  refine lv_aload_n hx hb d_Law_451 rfl (lv_at hl 1 rfl) ?_
  refine lv_aload_n hx hb d_Law_452 rfl (lv_at hl 0 rfl) ?_
  refine lv_iload hx hb d_Law_453 (lv_at hl 4 rfl) ?_
  refine lv_iconst (v := 1) hx hb d_Law_455 (by decide) ?_
  refine lv_iadd hx hb d_Law_456 ?_
  refine va_sld hx hb hX hbl hbA hS i1 d_Law_457 ?_
  rw [j1]
  refine lv_aload_n hx hb d_Law_458 rfl (lv_at hl 0 rfl) ?_
  refine lv_iload hx hb d_Law_459 (lv_at hl 4 rfl) ?_
  refine lv_iconst (v := 2) hx hb d_Law_461 (by decide) ?_
  refine lv_iadd hx hb d_Law_462 ?_
  refine va_sld hx hb hX hbl hbA hS i2 d_Law_463 ?_
  rw [j2]
  refine lv_aload_n hx hb d_Law_464 rfl (lv_at hl 0 rfl) ?_
  refine lv_iload hx hb d_Law_465 (lv_at hl 4 rfl) ?_
  refine lv_iconst (v := 3) hx hb d_Law_467 (by decide) ?_
  refine lv_iadd hx hb d_Law_468 ?_
  refine va_sld hx hb hX hbl hbA hS i3 d_Law_469 ?_
  rw [j3]
  refine h_callV (n := 3) C0 w_TBm hh hS hl.1 [.int v1, .int v2, .int v3] [] (S_Rows_uses _ _ _ _ _ _ hw) hr1 rfl k_m_Law_53 k_inst_Rows_uses k_sel_Rows_uses k_ini_Rows k_code_Rows_uses (by decide +kernel) rfl rfl (Nat.le_of_ble_eq_true rfl) ⟨(Nat.le_of_ble_eq_true rfl), (Nat.le_of_ble_eq_true rfl)⟩ ⟨by show cells + 0 ≤ 601024; omega, by show slots + 0 ≤ 7293034; omega⟩ d_Law_470 (h_kI (k := cells + 0) (n := slots + 0) (by show cells + 0 ≤ cells + 0; omega) (by show slots + 0 ≤ slots + 0; omega) (fun r h470 H locs hw hh hS => ?_))
  refine lv_aload_n hx hb d_Law_473 rfl (lv_at hl 2 rfl) ?_
  refine lv_aload_n hx hb d_Law_474 rfl (lv_at hl 0 rfl) ?_
  refine lv_iload hx hb d_Law_475 (lv_at hl 4 rfl) ?_
  refine lv_iconst (v := 1) hx hb d_Law_477 (by decide) ?_
  refine lv_iadd hx hb d_Law_478 ?_
  refine va_sld hx hb hX hbl hbA hS i1 d_Law_479 ?_
  rw [j1]
  refine lv_aload_n hx hb d_Law_480 rfl (lv_at hl 0 rfl) ?_
  refine lv_iload hx hb d_Law_481 (lv_at hl 4 rfl) ?_
  refine lv_iconst (v := 2) hx hb d_Law_483 (by decide) ?_
  refine lv_iadd hx hb d_Law_484 ?_
  refine va_sld hx hb hX hbl hbA hS i2 d_Law_485 ?_
  rw [j2]
  refine lv_aload_n hx hb d_Law_486 rfl (lv_at hl 0 rfl) ?_
  refine lv_iload hx hb d_Law_487 (lv_at hl 4 rfl) ?_
  refine lv_iconst (v := 3) hx hb d_Law_489 (by decide) ?_
  refine lv_iadd hx hb d_Law_490 ?_
  refine va_sld hx hb hX hbl hbA hS i3 d_Law_491 ?_
  rw [j3]
  obtain ⟨fs2, hr2, -⟩ := id hw
  refine h_callV (n := 3) C0 w_TBm hh hS hl.1 [.int v1, .int v2, .int v3] [.int r] (S_Mod_uses _ _ _ _ _ _ hw) hr2 rfl k_m_Law_56 k_inst_Mod_uses k_sel_Mod_uses k_ini_Mod k_code_Mod_uses (by decide +kernel) rfl rfl (Nat.le_of_ble_eq_true rfl) ⟨(Nat.le_of_ble_eq_true rfl), (Nat.le_of_ble_eq_true rfl)⟩ ⟨by show cells + 0 + 0 ≤ 601024; omega, by show slots + 0 + 0 ≤ 7293034; omega⟩ d_Law_492 (h_kI (k := cells + 4) (n := slots + 176) (by show cells + 0 + 0 ≤ cells + 4; omega) (by show slots + 0 + 0 ≤ slots + 176; omega) (fun r2 h492 H locs hw hh hS => ?_))
  obtain ⟨hrr, hw⟩ := hw
  refine lv_icmp_eq (tgt := 1031) hx hb d_Law_495 (by decide) (fun _ => ?_) (fun cc => absurd hrr cc)
  exact hK _ _ _ _ hw hh hS (lv_sub hl [0, 1, 2, 3, 4] rfl)
set_option maxHeartbeats 4000000 in
set_option maxRecDepth 100000 in
theorem S_law_8 (Z : lwC κ p s m meth c b L xs) (I : lwI x4 L xs v1 v2 v3 v4 v5) (hfl : l.flags = Jvm.pinnedFlags ++ [Jvm.noTraceFlag]) (hc4 : cells + 4 ≤ 601024) (hs4 : slots + 176 ≤ 7293034) (hK : lwK κ p l e s m below meth c b x1 x2 x3 x4 cells slots Q K) (h : hM) (H : Heap) (locs : List Loc) (ls : Array Slot) (hr1 : rd h x1 = some (eO 0 fs1)) (hw : P_Rows_alone (fun r h1 => P_Mod_alone (fun r' h2 => r = r' ∧ K h2) h1 x2 v1) h x1 v1) (hh : hp κ w_cl h H) (hS : va_S (h_A κ) s.heap H locs) (hl : lv_has ls 8 [(0, .ref b), (1, .ref x1), (2, .ref x2), (3, .ref x3), (4, .int x4)]) : W p l e room_1 s m #[Value.ref b] below meth c H locs cells slots Q (F0 m 500 ls []) := by
  obtain ⟨C0, hX, hbl, hbz, hzt⟩ := Z
  obtain ⟨hx, hb, hml, hown, hts, hKc, hF0, hrt, hlocks⟩ := id C0
  have hbA : ¬ h_A κ b := Nat.not_le.mpr hbz
  obtain ⟨⟨i1, j1⟩, ⟨i2, j2⟩, ⟨i3, j3⟩, ⟨i4, j4⟩, ⟨i5, j5⟩⟩ := I
  refine lv_aload_n hx hb d_Law_500 rfl (lv_at hl 1 rfl) ?_
  refine lv_aload_n hx hb d_Law_501 rfl (lv_at hl 0 rfl) ?_
  refine lv_iload hx hb d_Law_502 (lv_at hl 4 rfl) ?_
  refine lv_iconst (v := 1) hx hb d_Law_504 (by decide) ?_
  refine lv_iadd hx hb d_Law_505 ?_
  refine va_sld hx hb hX hbl hbA hS i1 d_Law_506 ?_
  rw [j1]
  refine h_callV (n := 1) C0 w_TBm hh hS hl.1 [.int v1] [] (S_Rows_alone _ _ _ _ hw) hr1 rfl k_m_Law_57 k_inst_Rows_alone k_sel_Rows_alone k_ini_Rows k_code_Rows_alone (by decide +kernel) rfl rfl (Nat.le_of_ble_eq_true rfl) ⟨(Nat.le_of_ble_eq_true rfl), (Nat.le_of_ble_eq_true rfl)⟩ ⟨by show cells + 0 ≤ 601024; omega, by show slots + 0 ≤ 7293034; omega⟩ d_Law_507 (h_kI (k := cells + 0) (n := slots + 0) (by show cells + 0 ≤ cells + 0; omega) (by show slots + 0 ≤ slots + 0; omega) (fun r h507 H locs hw hh hS => ?_))
  refine lv_aload_n hx hb d_Law_510 rfl (lv_at hl 2 rfl) ?_
  refine lv_aload_n hx hb d_Law_511 rfl (lv_at hl 0 rfl) ?_
  refine lv_iload hx hb d_Law_512 (lv_at hl 4 rfl) ?_
  refine lv_iconst (v := 1) hx hb d_Law_514 (by decide) ?_
  refine lv_iadd hx hb d_Law_515 ?_
  refine va_sld hx hb hX hbl hbA hS i1 d_Law_516 ?_
  rw [j1]
  obtain ⟨fs2, hr2, -⟩ := id hw
  refine h_callV (n := 1) C0 w_TBm hh hS hl.1 [.int v1] [.int r] (S_Mod_alone _ _ _ _ hw) hr2 rfl k_m_Law_61 k_inst_Mod_alone k_sel_Mod_alone k_ini_Mod k_code_Mod_alone (by decide +kernel) rfl rfl (Nat.le_of_ble_eq_true rfl) ⟨(Nat.le_of_ble_eq_true rfl), (Nat.le_of_ble_eq_true rfl)⟩ ⟨by show cells + 0 + 0 ≤ 601024; omega, by show slots + 0 + 0 ≤ 7293034; omega⟩ d_Law_517 (h_kI (k := cells + 4) (n := slots + 176) (by show cells + 0 + 0 ≤ cells + 4; omega) (by show slots + 0 + 0 ≤ slots + 176; omega) (fun r2 h517 H locs hw hh hS => ?_))
  obtain ⟨hrr, hw⟩ := hw
  refine lv_icmp_eq (tgt := 1031) hx hb d_Law_520 (by decide) (fun _ => ?_) (fun cc => absurd hrr cc)
  exact hK _ _ _ _ hw hh hS (lv_sub hl [0, 1, 2, 3, 4] rfl)
set_option maxHeartbeats 4000000 in
set_option maxRecDepth 100000 in
theorem S_law_9 (Z : lwC κ p s m meth c b L xs) (I : lwI x4 L xs v1 v2 v3 v4 v5) (hfl : l.flags = Jvm.pinnedFlags ++ [Jvm.noTraceFlag]) (hc4 : cells + 4 ≤ 601024) (hs4 : slots + 176 ≤ 7293034) (hK : lwK κ p l e s m below meth c b x1 x2 x3 x4 cells slots Q K) (h : hM) (H : Heap) (locs : List Loc) (ls : Array Slot) (hr1 : rd h x1 = some (eO 0 fs1)) (hw : (v2 = 0 → P_Rows_hold (fun r h1 => P_Mod_hold (fun r' h2 => r = r' ∧ K h2) h1 x2 v1 (0 : Int32)) h x1 v1 (0 : Int32)) ∧ (¬ v2 = 0 → P_Rows_hold (fun r h1 => P_Mod_hold (fun r' h2 => r = r' ∧ K h2) h1 x2 v1 (1 : Int32)) h x1 v1 (1 : Int32))) (hh : hp κ w_cl h H) (hS : va_S (h_A κ) s.heap H locs) (hl : lv_has ls 8 [(0, .ref b), (1, .ref x1), (2, .ref x2), (3, .ref x3), (4, .int x4)]) : W p l e room_1 s m #[Value.ref b] below meth c H locs cells slots Q (F0 m 525 ls []) := by
  obtain ⟨C0, hX, hbl, hbz, hzt⟩ := Z
  obtain ⟨hx, hb, hml, hown, hts, hKc, hF0, hrt, hlocks⟩ := id C0
  have hbA : ¬ h_A κ b := Nat.not_le.mpr hbz
  obtain ⟨⟨i1, j1⟩, ⟨i2, j2⟩, ⟨i3, j3⟩, ⟨i4, j4⟩, ⟨i5, j5⟩⟩ := I
  refine lv_aload_n hx hb d_Law_525 rfl (lv_at hl 1 rfl) ?_
  refine lv_aload_n hx hb d_Law_526 rfl (lv_at hl 0 rfl) ?_
  refine lv_iload hx hb d_Law_527 (lv_at hl 4 rfl) ?_
  refine lv_iconst (v := 1) hx hb d_Law_529 (by decide) ?_
  refine lv_iadd hx hb d_Law_530 ?_
  refine va_sld hx hb hX hbl hbA hS i1 d_Law_531 ?_
  rw [j1]
  refine lv_aload_n hx hb d_Law_532 rfl (lv_at hl 0 rfl) ?_
  refine lv_iload hx hb d_Law_533 (lv_at hl 4 rfl) ?_
  refine lv_iconst (v := 2) hx hb d_Law_535 (by decide) ?_
  refine lv_iadd hx hb d_Law_536 ?_
  refine va_sld hx hb hX hbl hbA hS i2 d_Law_537 ?_
  rw [j2]
  by_cases hv : v2 = 0
  · have hw := hw.1 hv
    refine lv_if_eq (tgt := 545) hx hb d_Law_538 (by decide) (fun _ => ?_) (fun cc => absurd hv cc)
    refine lv_iconst (v := 0) hx hb d_Law_545 (by decide) ?_
    refine h_callV (n := 2) C0 w_TBm hh hS hl.1 [.int v1, .int (0 : Int32)] [] (S_Rows_hold _ _ _ _ _ hw) hr1 rfl k_m_Law_62 k_inst_Rows_hold k_sel_Rows_hold k_ini_Rows k_code_Rows_hold (by decide +kernel) rfl rfl (Nat.le_of_ble_eq_true rfl) ⟨(Nat.le_of_ble_eq_true rfl), (Nat.le_of_ble_eq_true rfl)⟩ ⟨by show cells + 0 ≤ 601024; omega, by show slots + 0 ≤ 7293034; omega⟩ d_Law_546 (h_kI (k := cells + 0) (n := slots + 0) (by show cells + 0 ≤ cells + 0; omega) (by show slots + 0 ≤ slots + 0; omega) (fun r h546 H locs hw hh hS => ?_))
    refine lv_aload_n hx hb d_Law_549 rfl (lv_at hl 2 rfl) ?_
    refine lv_aload_n hx hb d_Law_550 rfl (lv_at hl 0 rfl) ?_
    refine lv_iload hx hb d_Law_551 (lv_at hl 4 rfl) ?_
    refine lv_iconst (v := 1) hx hb d_Law_553 (by decide) ?_
    refine lv_iadd hx hb d_Law_554 ?_
    refine va_sld hx hb hX hbl hbA hS i1 d_Law_555 ?_
    rw [j1]
    refine lv_aload_n hx hb d_Law_556 rfl (lv_at hl 0 rfl) ?_
    refine lv_iload hx hb d_Law_557 (lv_at hl 4 rfl) ?_
    refine lv_iconst (v := 2) hx hb d_Law_559 (by decide) ?_
    refine lv_iadd hx hb d_Law_560 ?_
    refine va_sld hx hb hX hbl hbA hS i2 d_Law_561 ?_
    rw [j2]
    refine lv_if_eq (tgt := 569) hx hb d_Law_562 (by decide) (fun _ => ?_) (fun cc => absurd hv cc)
    refine lv_iconst (v := 0) hx hb d_Law_569 (by decide) ?_
    obtain ⟨fs2, hr2, -⟩ := id hw
    refine h_callV (n := 2) C0 w_TBm hh hS hl.1 [.int v1, .int (0 : Int32)] [.int r] (S_Mod_hold _ _ _ _ _ hw) hr2 rfl k_m_Law_66 k_inst_Mod_hold k_sel_Mod_hold k_ini_Mod k_code_Mod_hold (by decide +kernel) rfl rfl (Nat.le_of_ble_eq_true rfl) ⟨(Nat.le_of_ble_eq_true rfl), (Nat.le_of_ble_eq_true rfl)⟩ ⟨by show cells + 0 + 0 ≤ 601024; omega, by show slots + 0 + 0 ≤ 7293034; omega⟩ d_Law_570 (h_kI (k := cells + 4) (n := slots + 176) (by show cells + 0 + 0 ≤ cells + 4; omega) (by show slots + 0 + 0 ≤ slots + 176; omega) (fun r2 h570 H locs hw hh hS => ?_))
    obtain ⟨hrr, hw⟩ := hw
    refine lv_icmp_eq (tgt := 1031) hx hb d_Law_573 (by decide) (fun _ => ?_) (fun cc => absurd hrr cc)
    exact hK _ _ _ _ hw hh hS (lv_sub hl [0, 1, 2, 3, 4] rfl)
  · have hw := hw.2 hv
    refine lv_if_eq (tgt := 545) hx hb d_Law_538 (by decide) (fun cc => absurd cc hv) (fun _ => ?_)
    refine lv_iconst (v := 1) hx hb d_Law_541 (by decide) ?_
    refine lv_goto (tgt := 546) hx hb d_Law_542 (by decide) ?_
    refine h_callV (n := 2) C0 w_TBm hh hS hl.1 [.int v1, .int (1 : Int32)] [] (S_Rows_hold _ _ _ _ _ hw) hr1 rfl k_m_Law_62 k_inst_Rows_hold k_sel_Rows_hold k_ini_Rows k_code_Rows_hold (by decide +kernel) rfl rfl (Nat.le_of_ble_eq_true rfl) ⟨(Nat.le_of_ble_eq_true rfl), (Nat.le_of_ble_eq_true rfl)⟩ ⟨by show cells + 0 ≤ 601024; omega, by show slots + 0 ≤ 7293034; omega⟩ d_Law_546 (h_kI (k := cells + 0) (n := slots + 0) (by show cells + 0 ≤ cells + 0; omega) (by show slots + 0 ≤ slots + 0; omega) (fun r h546 H locs hw hh hS => ?_))
    refine lv_aload_n hx hb d_Law_549 rfl (lv_at hl 2 rfl) ?_
    refine lv_aload_n hx hb d_Law_550 rfl (lv_at hl 0 rfl) ?_
    refine lv_iload hx hb d_Law_551 (lv_at hl 4 rfl) ?_
    refine lv_iconst (v := 1) hx hb d_Law_553 (by decide) ?_
    refine lv_iadd hx hb d_Law_554 ?_
    refine va_sld hx hb hX hbl hbA hS i1 d_Law_555 ?_
    rw [j1]
    refine lv_aload_n hx hb d_Law_556 rfl (lv_at hl 0 rfl) ?_
    refine lv_iload hx hb d_Law_557 (lv_at hl 4 rfl) ?_
    refine lv_iconst (v := 2) hx hb d_Law_559 (by decide) ?_
    refine lv_iadd hx hb d_Law_560 ?_
    refine va_sld hx hb hX hbl hbA hS i2 d_Law_561 ?_
    rw [j2]
    refine lv_if_eq (tgt := 569) hx hb d_Law_562 (by decide) (fun cc => absurd cc hv) (fun _ => ?_)
    refine lv_iconst (v := 1) hx hb d_Law_565 (by decide) ?_
    refine lv_goto (tgt := 570) hx hb d_Law_566 (by decide) ?_
    obtain ⟨fs2, hr2, -⟩ := id hw
    refine h_callV (n := 2) C0 w_TBm hh hS hl.1 [.int v1, .int (1 : Int32)] [.int r] (S_Mod_hold _ _ _ _ _ hw) hr2 rfl k_m_Law_66 k_inst_Mod_hold k_sel_Mod_hold k_ini_Mod k_code_Mod_hold (by decide +kernel) rfl rfl (Nat.le_of_ble_eq_true rfl) ⟨(Nat.le_of_ble_eq_true rfl), (Nat.le_of_ble_eq_true rfl)⟩ ⟨by show cells + 0 + 0 ≤ 601024; omega, by show slots + 0 + 0 ≤ 7293034; omega⟩ d_Law_570 (h_kI (k := cells + 4) (n := slots + 176) (by show cells + 0 + 0 ≤ cells + 4; omega) (by show slots + 0 + 0 ≤ slots + 176; omega) (fun r2 h570 H locs hw hh hS => ?_))
    obtain ⟨hrr, hw⟩ := hw
    refine lv_icmp_eq (tgt := 1031) hx hb d_Law_573 (by decide) (fun _ => ?_) (fun cc => absurd hrr cc)
    exact hK _ _ _ _ hw hh hS (lv_sub hl [0, 1, 2, 3, 4] rfl)
set_option maxHeartbeats 4000000 in
set_option maxRecDepth 100000 in
theorem S_law_10 (Z : lwC κ p s m meth c b L xs) (I : lwI x4 L xs v1 v2 v3 v4 v5) (hfl : l.flags = Jvm.pinnedFlags ++ [Jvm.noTraceFlag]) (hc4 : cells + 4 ≤ 601024) (hs4 : slots + 176 ≤ 7293034) (hK : lwK κ p l e s m below meth c b x1 x2 x3 x4 cells slots Q K) (h : hM) (H : Heap) (locs : List Loc) (ls : Array Slot) (hr1 : rd h x1 = some (eO 0 fs1)) (hw : P_Rows_next (fun r h1 => P_Mod_next (fun r' h2 => r = r' ∧ K h2) h1 x2 v1 ((v2.toInt64 <<< ((32 : Int32).toInt64 &&& 63)) ||| (v3.toInt64 &&& (4294967295 : Int64)))) h x1 v1 ((v2.toInt64 <<< ((32 : Int32).toInt64 &&& 63)) ||| (v3.toInt64 &&& (4294967295 : Int64)))) (hh : hp κ w_cl h H) (hS : va_S (h_A κ) s.heap H locs) (hl : lv_has ls 8 [(0, .ref b), (1, .ref x1), (2, .ref x2), (3, .ref x3), (4, .int x4)]) : W p l e room_1 s m #[Value.ref b] below meth c H locs cells slots Q (F0 m 578 ls []) := by
  obtain ⟨C0, hX, hbl, hbz, hzt⟩ := Z
  obtain ⟨hx, hb, hml, hown, hts, hKc, hF0, hrt, hlocks⟩ := id C0
  have hbA : ¬ h_A κ b := Nat.not_le.mpr hbz
  obtain ⟨⟨i1, j1⟩, ⟨i2, j2⟩, ⟨i3, j3⟩, ⟨i4, j4⟩, ⟨i5, j5⟩⟩ := I
  refine lv_aload_n hx hb d_Law_578 rfl (lv_at hl 1 rfl) ?_
  refine lv_aload_n hx hb d_Law_579 rfl (lv_at hl 0 rfl) ?_
  refine lv_iload hx hb d_Law_580 (lv_at hl 4 rfl) ?_
  refine lv_iconst (v := 1) hx hb d_Law_582 (by decide) ?_
  refine lv_iadd hx hb d_Law_583 ?_
  refine va_sld hx hb hX hbl hbA hS i1 d_Law_584 ?_
  rw [j1]
  refine lv_aload_n hx hb d_Law_585 rfl (lv_at hl 0 rfl) ?_
  refine lv_iload hx hb d_Law_586 (lv_at hl 4 rfl) ?_
  refine lv_iconst (v := 2) hx hb d_Law_588 (by decide) ?_
  refine lv_iadd hx hb d_Law_589 ?_
  refine va_sld hx hb hX hbl hbA hS i2 d_Law_590 ?_
  rw [j2]
  refine lv_i2l (v := v2.toInt64) hx hb d_Law_591 rfl ?_
  refine lv_bipush (v := 32) hx hb d_Law_592 (by decide) ?_
  refine lv_lshl (v := (v2.toInt64 <<< ((32 : Int32).toInt64 &&& 63))) hx hb d_Law_594 rfl ?_
  refine lv_aload_n hx hb d_Law_595 rfl (lv_at hl 0 rfl) ?_
  refine lv_iload hx hb d_Law_596 (lv_at hl 4 rfl) ?_
  refine lv_iconst (v := 3) hx hb d_Law_598 (by decide) ?_
  refine lv_iadd hx hb d_Law_599 ?_
  refine va_sld hx hb hX hbl hbA hS i3 d_Law_600 ?_
  rw [j3]
  refine lv_i2l (v := v3.toInt64) hx hb d_Law_601 rfl ?_
  refine lv_ldc2 (v := 4294967295) hx hb hown (hts _ k_k_Law_38) d_Law_602 ?_
  refine lv_land hx hb d_Law_605 ?_
  refine lv_lor hx hb d_Law_606 ?_
  refine h_callV (n := 2) C0 w_TBm hh hS hl.1 [.int v1, .long ((v2.toInt64 <<< ((32 : Int32).toInt64 &&& 63)) ||| (v3.toInt64 &&& (4294967295 : Int64)))] [] (S_Rows_next _ _ _ _ _ hw) hr1 rfl k_m_Law_67 k_inst_Rows_next k_sel_Rows_next k_ini_Rows k_code_Rows_next (by decide +kernel) rfl rfl (Nat.le_of_ble_eq_true rfl) ⟨(Nat.le_of_ble_eq_true rfl), (Nat.le_of_ble_eq_true rfl)⟩ ⟨by show cells + 0 ≤ 601024; omega, by show slots + 0 ≤ 7293034; omega⟩ d_Law_607 (h_kI (k := cells + 0) (n := slots + 0) (by show cells + 0 ≤ cells + 0; omega) (by show slots + 0 ≤ slots + 0; omega) (fun r h607 H locs hw hh hS => ?_))
  refine lv_aload_n hx hb d_Law_610 rfl (lv_at hl 2 rfl) ?_
  refine lv_aload_n hx hb d_Law_611 rfl (lv_at hl 0 rfl) ?_
  refine lv_iload hx hb d_Law_612 (lv_at hl 4 rfl) ?_
  refine lv_iconst (v := 1) hx hb d_Law_614 (by decide) ?_
  refine lv_iadd hx hb d_Law_615 ?_
  refine va_sld hx hb hX hbl hbA hS i1 d_Law_616 ?_
  rw [j1]
  refine lv_aload_n hx hb d_Law_617 rfl (lv_at hl 0 rfl) ?_
  refine lv_iload hx hb d_Law_618 (lv_at hl 4 rfl) ?_
  refine lv_iconst (v := 2) hx hb d_Law_620 (by decide) ?_
  refine lv_iadd hx hb d_Law_621 ?_
  refine va_sld hx hb hX hbl hbA hS i2 d_Law_622 ?_
  rw [j2]
  refine lv_i2l (v := v2.toInt64) hx hb d_Law_623 rfl ?_
  refine lv_bipush (v := 32) hx hb d_Law_624 (by decide) ?_
  refine lv_lshl (v := (v2.toInt64 <<< ((32 : Int32).toInt64 &&& 63))) hx hb d_Law_626 rfl ?_
  refine lv_aload_n hx hb d_Law_627 rfl (lv_at hl 0 rfl) ?_
  refine lv_iload hx hb d_Law_628 (lv_at hl 4 rfl) ?_
  refine lv_iconst (v := 3) hx hb d_Law_630 (by decide) ?_
  refine lv_iadd hx hb d_Law_631 ?_
  refine va_sld hx hb hX hbl hbA hS i3 d_Law_632 ?_
  rw [j3]
  refine lv_i2l (v := v3.toInt64) hx hb d_Law_633 rfl ?_
  refine lv_ldc2 (v := 4294967295) hx hb hown (hts _ k_k_Law_38) d_Law_634 ?_
  refine lv_land hx hb d_Law_637 ?_
  refine lv_lor hx hb d_Law_638 ?_
  obtain ⟨fs2, hr2, -⟩ := id hw
  refine h_callV (n := 2) C0 w_TBm hh hS hl.1 [.int v1, .long ((v2.toInt64 <<< ((32 : Int32).toInt64 &&& 63)) ||| (v3.toInt64 &&& (4294967295 : Int64)))] [.int r] (S_Mod_next _ _ _ _ _ hw) hr2 rfl k_m_Law_71 k_inst_Mod_next k_sel_Mod_next k_ini_Mod k_code_Mod_next (by decide +kernel) rfl rfl (Nat.le_of_ble_eq_true rfl) ⟨(Nat.le_of_ble_eq_true rfl), (Nat.le_of_ble_eq_true rfl)⟩ ⟨by show cells + 0 + 0 ≤ 601024; omega, by show slots + 0 + 0 ≤ 7293034; omega⟩ d_Law_639 (h_kI (k := cells + 4) (n := slots + 176) (by show cells + 0 + 0 ≤ cells + 4; omega) (by show slots + 0 + 0 ≤ slots + 176; omega) (fun r2 h639 H locs hw hh hS => ?_))
  obtain ⟨hrr, hw⟩ := hw
  refine lv_icmp_eq (tgt := 1031) hx hb d_Law_642 (by decide) (fun _ => ?_) (fun cc => absurd hrr cc)
  exact hK _ _ _ _ hw hh hS (lv_sub hl [0, 1, 2, 3, 4] rfl)
set_option maxHeartbeats 4000000 in
set_option maxRecDepth 100000 in
theorem S_law_11 (Z : lwC κ p s m meth c b L xs) (I : lwI x4 L xs v1 v2 v3 v4 v5) (hfl : l.flags = Jvm.pinnedFlags ++ [Jvm.noTraceFlag]) (hc4 : cells + 4 ≤ 601024) (hs4 : slots + 176 ≤ 7293034) (hK : lwK κ p l e s m below meth c b x1 x2 x3 x4 cells slots Q K) (h : hM) (H : Heap) (locs : List Loc) (ls : Array Slot) (hr1 : rd h x1 = some (eO 0 fs1)) (hw : P_Rows_end (fun r h1 => P_Mod_end (fun r' h2 => r = r' ∧ K h2) h1 x2 v1) h x1 v1) (hh : hp κ w_cl h H) (hS : va_S (h_A κ) s.heap H locs) (hl : lv_has ls 8 [(0, .ref b), (1, .ref x1), (2, .ref x2), (3, .ref x3), (4, .int x4)]) : W p l e room_1 s m #[Value.ref b] below meth c H locs cells slots Q (F0 m 647 ls []) := by
  obtain ⟨C0, hX, hbl, hbz, hzt⟩ := Z
  obtain ⟨hx, hb, hml, hown, hts, hKc, hF0, hrt, hlocks⟩ := id C0
  have hbA : ¬ h_A κ b := Nat.not_le.mpr hbz
  obtain ⟨⟨i1, j1⟩, ⟨i2, j2⟩, ⟨i3, j3⟩, ⟨i4, j4⟩, ⟨i5, j5⟩⟩ := I
  refine lv_aload_n hx hb d_Law_647 rfl (lv_at hl 1 rfl) ?_
  refine lv_aload_n hx hb d_Law_648 rfl (lv_at hl 0 rfl) ?_
  refine lv_iload hx hb d_Law_649 (lv_at hl 4 rfl) ?_
  refine lv_iconst (v := 1) hx hb d_Law_651 (by decide) ?_
  refine lv_iadd hx hb d_Law_652 ?_
  refine va_sld hx hb hX hbl hbA hS i1 d_Law_653 ?_
  rw [j1]
  refine h_callV (n := 1) C0 w_TBm hh hS hl.1 [.int v1] [] (S_Rows_end _ _ _ _ hw) hr1 rfl k_m_Law_72 k_inst_Rows_end k_sel_Rows_end k_ini_Rows k_code_Rows_end (by decide +kernel) rfl rfl (Nat.le_of_ble_eq_true rfl) ⟨(Nat.le_of_ble_eq_true rfl), (Nat.le_of_ble_eq_true rfl)⟩ ⟨by show cells + 0 ≤ 601024; omega, by show slots + 0 ≤ 7293034; omega⟩ d_Law_654 (h_kI (k := cells + 0) (n := slots + 0) (by show cells + 0 ≤ cells + 0; omega) (by show slots + 0 ≤ slots + 0; omega) (fun r h654 H locs hw hh hS => ?_))
  refine lv_aload_n hx hb d_Law_657 rfl (lv_at hl 2 rfl) ?_
  refine lv_aload_n hx hb d_Law_658 rfl (lv_at hl 0 rfl) ?_
  refine lv_iload hx hb d_Law_659 (lv_at hl 4 rfl) ?_
  refine lv_iconst (v := 1) hx hb d_Law_661 (by decide) ?_
  refine lv_iadd hx hb d_Law_662 ?_
  refine va_sld hx hb hX hbl hbA hS i1 d_Law_663 ?_
  rw [j1]
  obtain ⟨fs2, hr2, -⟩ := id hw
  refine h_callV (n := 1) C0 w_TBm hh hS hl.1 [.int v1] [.int r] (S_Mod_end _ _ _ _ hw) hr2 rfl k_m_Law_75 k_inst_Mod_end k_sel_Mod_end k_ini_Mod k_code_Mod_end (by decide +kernel) rfl rfl (Nat.le_of_ble_eq_true rfl) ⟨(Nat.le_of_ble_eq_true rfl), (Nat.le_of_ble_eq_true rfl)⟩ ⟨by show cells + 0 + 0 ≤ 601024; omega, by show slots + 0 + 0 ≤ 7293034; omega⟩ d_Law_664 (h_kI (k := cells + 4) (n := slots + 176) (by show cells + 0 + 0 ≤ cells + 4; omega) (by show slots + 0 + 0 ≤ slots + 176; omega) (fun r2 h664 H locs hw hh hS => ?_))
  obtain ⟨hrr, hw⟩ := hw
  refine lv_icmp_eq (tgt := 1031) hx hb d_Law_667 (by decide) (fun _ => ?_) (fun cc => absurd hrr cc)
  exact hK _ _ _ _ hw hh hS (lv_sub hl [0, 1, 2, 3, 4] rfl)
set_option maxHeartbeats 4000000 in
set_option maxRecDepth 100000 in
theorem S_law_12 (Z : lwC κ p s m meth c b L xs) (I : lwI x4 L xs v1 v2 v3 v4 v5) (hfl : l.flags = Jvm.pinnedFlags ++ [Jvm.noTraceFlag]) (hc4 : cells + 4 ≤ 601024) (hs4 : slots + 176 ≤ 7293034) (hK : lwK κ p l e s m below meth c b x1 x2 x3 x4 cells slots Q K) (h : hM) (H : Heap) (locs : List Loc) (ls : Array Slot) (hr1 : rd h x1 = some (eO 0 fs1)) (hw : P_Rows_age (fun r h1 => P_Mod_age (fun r' h2 => r = r' ∧ K h2) h1 x2 ((v1.toInt64 <<< ((32 : Int32).toInt64 &&& 63)) ||| (v2.toInt64 &&& (4294967295 : Int64))) v3) h x1 ((v1.toInt64 <<< ((32 : Int32).toInt64 &&& 63)) ||| (v2.toInt64 &&& (4294967295 : Int64))) v3) (hh : hp κ w_cl h H) (hS : va_S (h_A κ) s.heap H locs) (hl : lv_has ls 8 [(0, .ref b), (1, .ref x1), (2, .ref x2), (3, .ref x3), (4, .int x4)]) : W p l e room_1 s m #[Value.ref b] below meth c H locs cells slots Q (F0 m 672 ls []) := by
  obtain ⟨C0, hX, hbl, hbz, hzt⟩ := Z
  obtain ⟨hx, hb, hml, hown, hts, hKc, hF0, hrt, hlocks⟩ := id C0
  have hbA : ¬ h_A κ b := Nat.not_le.mpr hbz
  obtain ⟨⟨i1, j1⟩, ⟨i2, j2⟩, ⟨i3, j3⟩, ⟨i4, j4⟩, ⟨i5, j5⟩⟩ := I
  refine lv_aload_n hx hb d_Law_672 rfl (lv_at hl 1 rfl) ?_
  refine lv_aload_n hx hb d_Law_673 rfl (lv_at hl 0 rfl) ?_
  refine lv_iload hx hb d_Law_674 (lv_at hl 4 rfl) ?_
  refine lv_iconst (v := 1) hx hb d_Law_676 (by decide) ?_
  refine lv_iadd hx hb d_Law_677 ?_
  refine va_sld hx hb hX hbl hbA hS i1 d_Law_678 ?_
  rw [j1]
  refine lv_i2l (v := v1.toInt64) hx hb d_Law_679 rfl ?_
  refine lv_bipush (v := 32) hx hb d_Law_680 (by decide) ?_
  refine lv_lshl (v := (v1.toInt64 <<< ((32 : Int32).toInt64 &&& 63))) hx hb d_Law_682 rfl ?_
  refine lv_aload_n hx hb d_Law_683 rfl (lv_at hl 0 rfl) ?_
  refine lv_iload hx hb d_Law_684 (lv_at hl 4 rfl) ?_
  refine lv_iconst (v := 2) hx hb d_Law_686 (by decide) ?_
  refine lv_iadd hx hb d_Law_687 ?_
  refine va_sld hx hb hX hbl hbA hS i2 d_Law_688 ?_
  rw [j2]
  refine lv_i2l (v := v2.toInt64) hx hb d_Law_689 rfl ?_
  refine lv_ldc2 (v := 4294967295) hx hb hown (hts _ k_k_Law_38) d_Law_690 ?_
  refine lv_land hx hb d_Law_693 ?_
  refine lv_lor hx hb d_Law_694 ?_
  refine lv_aload_n hx hb d_Law_695 rfl (lv_at hl 0 rfl) ?_
  refine lv_iload hx hb d_Law_696 (lv_at hl 4 rfl) ?_
  refine lv_iconst (v := 3) hx hb d_Law_698 (by decide) ?_
  refine lv_iadd hx hb d_Law_699 ?_
  refine va_sld hx hb hX hbl hbA hS i3 d_Law_700 ?_
  rw [j3]
  refine h_callV (n := 2) C0 w_TBm hh hS hl.1 [.long ((v1.toInt64 <<< ((32 : Int32).toInt64 &&& 63)) ||| (v2.toInt64 &&& (4294967295 : Int64))), .int v3] [] (S_Rows_age _ _ _ _ _ hw) hr1 rfl k_m_Law_76 k_inst_Rows_age k_sel_Rows_age k_ini_Rows k_code_Rows_age (by decide +kernel) rfl rfl (Nat.le_of_ble_eq_true rfl) ⟨(Nat.le_of_ble_eq_true rfl), (Nat.le_of_ble_eq_true rfl)⟩ ⟨by show cells + 0 ≤ 601024; omega, by show slots + 0 ≤ 7293034; omega⟩ d_Law_701 (h_kI (k := cells + 0) (n := slots + 0) (by show cells + 0 ≤ cells + 0; omega) (by show slots + 0 ≤ slots + 0; omega) (fun r h701 H locs hw hh hS => ?_))
  refine lv_aload_n hx hb d_Law_704 rfl (lv_at hl 2 rfl) ?_
  refine lv_aload_n hx hb d_Law_705 rfl (lv_at hl 0 rfl) ?_
  refine lv_iload hx hb d_Law_706 (lv_at hl 4 rfl) ?_
  refine lv_iconst (v := 1) hx hb d_Law_708 (by decide) ?_
  refine lv_iadd hx hb d_Law_709 ?_
  refine va_sld hx hb hX hbl hbA hS i1 d_Law_710 ?_
  rw [j1]
  refine lv_i2l (v := v1.toInt64) hx hb d_Law_711 rfl ?_
  refine lv_bipush (v := 32) hx hb d_Law_712 (by decide) ?_
  refine lv_lshl (v := (v1.toInt64 <<< ((32 : Int32).toInt64 &&& 63))) hx hb d_Law_714 rfl ?_
  refine lv_aload_n hx hb d_Law_715 rfl (lv_at hl 0 rfl) ?_
  refine lv_iload hx hb d_Law_716 (lv_at hl 4 rfl) ?_
  refine lv_iconst (v := 2) hx hb d_Law_718 (by decide) ?_
  refine lv_iadd hx hb d_Law_719 ?_
  refine va_sld hx hb hX hbl hbA hS i2 d_Law_720 ?_
  rw [j2]
  refine lv_i2l (v := v2.toInt64) hx hb d_Law_721 rfl ?_
  refine lv_ldc2 (v := 4294967295) hx hb hown (hts _ k_k_Law_38) d_Law_722 ?_
  refine lv_land hx hb d_Law_725 ?_
  refine lv_lor hx hb d_Law_726 ?_
  refine lv_aload_n hx hb d_Law_727 rfl (lv_at hl 0 rfl) ?_
  refine lv_iload hx hb d_Law_728 (lv_at hl 4 rfl) ?_
  refine lv_iconst (v := 3) hx hb d_Law_730 (by decide) ?_
  refine lv_iadd hx hb d_Law_731 ?_
  refine va_sld hx hb hX hbl hbA hS i3 d_Law_732 ?_
  rw [j3]
  obtain ⟨fs2, hr2, -⟩ := id hw
  refine h_callV (n := 2) C0 w_TBm hh hS hl.1 [.long ((v1.toInt64 <<< ((32 : Int32).toInt64 &&& 63)) ||| (v2.toInt64 &&& (4294967295 : Int64))), .int v3] [.int r] (S_Mod_age _ _ _ _ _ hw) hr2 rfl k_m_Law_80 k_inst_Mod_age k_sel_Mod_age k_ini_Mod k_code_Mod_age (by decide +kernel) rfl rfl (Nat.le_of_ble_eq_true rfl) ⟨(Nat.le_of_ble_eq_true rfl), (Nat.le_of_ble_eq_true rfl)⟩ ⟨by show cells + 0 + 0 ≤ 601024; omega, by show slots + 0 + 0 ≤ 7293034; omega⟩ d_Law_733 (h_kI (k := cells + 4) (n := slots + 176) (by show cells + 0 + 0 ≤ cells + 4; omega) (by show slots + 0 + 0 ≤ slots + 176; omega) (fun r2 h733 H locs hw hh hS => ?_))
  obtain ⟨hrr, hw⟩ := hw
  refine lv_icmp_eq (tgt := 1031) hx hb d_Law_736 (by decide) (fun _ => ?_) (fun cc => absurd hrr cc)
  exact hK _ _ _ _ hw hh hS (lv_sub hl [0, 1, 2, 3, 4] rfl)
set_option maxHeartbeats 4000000 in
set_option maxRecDepth 100000 in
theorem S_law_13 (Z : lwC κ p s m meth c b L xs) (I : lwI x4 L xs v1 v2 v3 v4 v5) (hfl : l.flags = Jvm.pinnedFlags ++ [Jvm.noTraceFlag]) (hc4 : cells + 4 ≤ 601024) (hs4 : slots + 176 ≤ 7293034) (hK : lwK κ p l e s m below meth c b x1 x2 x3 x4 cells slots Q K) (h : hM) (H : Heap) (locs : List Loc) (ls : Array Slot) (hr1 : rd h x1 = some (eO 0 fs1)) (hw : (v2 = 0 → P_Rows_drain (fun r h1 => P_Mod_drain (fun r' h2 => r = r' ∧ K h2) h1 x2 v1 (0 : Int32)) h x1 v1 (0 : Int32)) ∧ (¬ v2 = 0 → P_Rows_drain (fun r h1 => P_Mod_drain (fun r' h2 => r = r' ∧ K h2) h1 x2 v1 (1 : Int32)) h x1 v1 (1 : Int32))) (hh : hp κ w_cl h H) (hS : va_S (h_A κ) s.heap H locs) (hl : lv_has ls 8 [(0, .ref b), (1, .ref x1), (2, .ref x2), (3, .ref x3), (4, .int x4)]) : W p l e room_1 s m #[Value.ref b] below meth c H locs cells slots Q (F0 m 741 ls []) := by
  obtain ⟨C0, hX, hbl, hbz, hzt⟩ := Z
  obtain ⟨hx, hb, hml, hown, hts, hKc, hF0, hrt, hlocks⟩ := id C0
  have hbA : ¬ h_A κ b := Nat.not_le.mpr hbz
  obtain ⟨⟨i1, j1⟩, ⟨i2, j2⟩, ⟨i3, j3⟩, ⟨i4, j4⟩, ⟨i5, j5⟩⟩ := I
  refine lv_aload_n hx hb d_Law_741 rfl (lv_at hl 1 rfl) ?_
  refine lv_aload_n hx hb d_Law_742 rfl (lv_at hl 0 rfl) ?_
  refine lv_iload hx hb d_Law_743 (lv_at hl 4 rfl) ?_
  refine lv_iconst (v := 1) hx hb d_Law_745 (by decide) ?_
  refine lv_iadd hx hb d_Law_746 ?_
  refine va_sld hx hb hX hbl hbA hS i1 d_Law_747 ?_
  rw [j1]
  refine lv_aload_n hx hb d_Law_748 rfl (lv_at hl 0 rfl) ?_
  refine lv_iload hx hb d_Law_749 (lv_at hl 4 rfl) ?_
  refine lv_iconst (v := 2) hx hb d_Law_751 (by decide) ?_
  refine lv_iadd hx hb d_Law_752 ?_
  refine va_sld hx hb hX hbl hbA hS i2 d_Law_753 ?_
  rw [j2]
  by_cases hv : v2 = 0
  · have hw := hw.1 hv
    refine lv_if_eq (tgt := 761) hx hb d_Law_754 (by decide) (fun _ => ?_) (fun cc => absurd hv cc)
    refine lv_iconst (v := 0) hx hb d_Law_761 (by decide) ?_
    refine h_callV (n := 2) C0 w_TBm hh hS hl.1 [.int v1, .int (0 : Int32)] [] (S_Rows_drain _ _ _ _ _ hw) hr1 rfl k_m_Law_81 k_inst_Rows_drain k_sel_Rows_drain k_ini_Rows k_code_Rows_drain (by decide +kernel) rfl rfl (Nat.le_of_ble_eq_true rfl) ⟨(Nat.le_of_ble_eq_true rfl), (Nat.le_of_ble_eq_true rfl)⟩ ⟨by show cells + 0 ≤ 601024; omega, by show slots + 0 ≤ 7293034; omega⟩ d_Law_762 (h_kI (k := cells + 0) (n := slots + 0) (by show cells + 0 ≤ cells + 0; omega) (by show slots + 0 ≤ slots + 0; omega) (fun r h762 H locs hw hh hS => ?_))
    refine lv_aload_n hx hb d_Law_765 rfl (lv_at hl 2 rfl) ?_
    refine lv_aload_n hx hb d_Law_766 rfl (lv_at hl 0 rfl) ?_
    refine lv_iload hx hb d_Law_767 (lv_at hl 4 rfl) ?_
    refine lv_iconst (v := 1) hx hb d_Law_769 (by decide) ?_
    refine lv_iadd hx hb d_Law_770 ?_
    refine va_sld hx hb hX hbl hbA hS i1 d_Law_771 ?_
    rw [j1]
    refine lv_aload_n hx hb d_Law_772 rfl (lv_at hl 0 rfl) ?_
    refine lv_iload hx hb d_Law_773 (lv_at hl 4 rfl) ?_
    refine lv_iconst (v := 2) hx hb d_Law_775 (by decide) ?_
    refine lv_iadd hx hb d_Law_776 ?_
    refine va_sld hx hb hX hbl hbA hS i2 d_Law_777 ?_
    rw [j2]
    refine lv_if_eq (tgt := 785) hx hb d_Law_778 (by decide) (fun _ => ?_) (fun cc => absurd hv cc)
    refine lv_iconst (v := 0) hx hb d_Law_785 (by decide) ?_
    obtain ⟨fs2, hr2, -⟩ := id hw
    refine h_callV (n := 2) C0 w_TBm hh hS hl.1 [.int v1, .int (0 : Int32)] [.int r] (S_Mod_drain _ _ _ _ _ hw) hr2 rfl k_m_Law_84 k_inst_Mod_drain k_sel_Mod_drain k_ini_Mod k_code_Mod_drain (by decide +kernel) rfl rfl (Nat.le_of_ble_eq_true rfl) ⟨(Nat.le_of_ble_eq_true rfl), (Nat.le_of_ble_eq_true rfl)⟩ ⟨by show cells + 0 + 0 ≤ 601024; omega, by show slots + 0 + 0 ≤ 7293034; omega⟩ d_Law_786 (h_kI (k := cells + 4) (n := slots + 176) (by show cells + 0 + 0 ≤ cells + 4; omega) (by show slots + 0 + 0 ≤ slots + 176; omega) (fun r2 h786 H locs hw hh hS => ?_))
    obtain ⟨hrr, hw⟩ := hw
    refine lv_icmp_eq (tgt := 1031) hx hb d_Law_789 (by decide) (fun _ => ?_) (fun cc => absurd hrr cc)
    exact hK _ _ _ _ hw hh hS (lv_sub hl [0, 1, 2, 3, 4] rfl)
  · have hw := hw.2 hv
    refine lv_if_eq (tgt := 761) hx hb d_Law_754 (by decide) (fun cc => absurd cc hv) (fun _ => ?_)
    refine lv_iconst (v := 1) hx hb d_Law_757 (by decide) ?_
    refine lv_goto (tgt := 762) hx hb d_Law_758 (by decide) ?_
    refine h_callV (n := 2) C0 w_TBm hh hS hl.1 [.int v1, .int (1 : Int32)] [] (S_Rows_drain _ _ _ _ _ hw) hr1 rfl k_m_Law_81 k_inst_Rows_drain k_sel_Rows_drain k_ini_Rows k_code_Rows_drain (by decide +kernel) rfl rfl (Nat.le_of_ble_eq_true rfl) ⟨(Nat.le_of_ble_eq_true rfl), (Nat.le_of_ble_eq_true rfl)⟩ ⟨by show cells + 0 ≤ 601024; omega, by show slots + 0 ≤ 7293034; omega⟩ d_Law_762 (h_kI (k := cells + 0) (n := slots + 0) (by show cells + 0 ≤ cells + 0; omega) (by show slots + 0 ≤ slots + 0; omega) (fun r h762 H locs hw hh hS => ?_))
    refine lv_aload_n hx hb d_Law_765 rfl (lv_at hl 2 rfl) ?_
    refine lv_aload_n hx hb d_Law_766 rfl (lv_at hl 0 rfl) ?_
    refine lv_iload hx hb d_Law_767 (lv_at hl 4 rfl) ?_
    refine lv_iconst (v := 1) hx hb d_Law_769 (by decide) ?_
    refine lv_iadd hx hb d_Law_770 ?_
    refine va_sld hx hb hX hbl hbA hS i1 d_Law_771 ?_
    rw [j1]
    refine lv_aload_n hx hb d_Law_772 rfl (lv_at hl 0 rfl) ?_
    refine lv_iload hx hb d_Law_773 (lv_at hl 4 rfl) ?_
    refine lv_iconst (v := 2) hx hb d_Law_775 (by decide) ?_
    refine lv_iadd hx hb d_Law_776 ?_
    refine va_sld hx hb hX hbl hbA hS i2 d_Law_777 ?_
    rw [j2]
    refine lv_if_eq (tgt := 785) hx hb d_Law_778 (by decide) (fun cc => absurd cc hv) (fun _ => ?_)
    refine lv_iconst (v := 1) hx hb d_Law_781 (by decide) ?_
    refine lv_goto (tgt := 786) hx hb d_Law_782 (by decide) ?_
    obtain ⟨fs2, hr2, -⟩ := id hw
    refine h_callV (n := 2) C0 w_TBm hh hS hl.1 [.int v1, .int (1 : Int32)] [.int r] (S_Mod_drain _ _ _ _ _ hw) hr2 rfl k_m_Law_84 k_inst_Mod_drain k_sel_Mod_drain k_ini_Mod k_code_Mod_drain (by decide +kernel) rfl rfl (Nat.le_of_ble_eq_true rfl) ⟨(Nat.le_of_ble_eq_true rfl), (Nat.le_of_ble_eq_true rfl)⟩ ⟨by show cells + 0 + 0 ≤ 601024; omega, by show slots + 0 + 0 ≤ 7293034; omega⟩ d_Law_786 (h_kI (k := cells + 4) (n := slots + 176) (by show cells + 0 + 0 ≤ cells + 4; omega) (by show slots + 0 + 0 ≤ slots + 176; omega) (fun r2 h786 H locs hw hh hS => ?_))
    obtain ⟨hrr, hw⟩ := hw
    refine lv_icmp_eq (tgt := 1031) hx hb d_Law_789 (by decide) (fun _ => ?_) (fun cc => absurd hrr cc)
    exact hK _ _ _ _ hw hh hS (lv_sub hl [0, 1, 2, 3, 4] rfl)
set_option maxHeartbeats 4000000 in
set_option maxRecDepth 100000 in
theorem S_law_14 (Z : lwC κ p s m meth c b L xs) (I : lwI x4 L xs v1 v2 v3 v4 v5) (hfl : l.flags = Jvm.pinnedFlags ++ [Jvm.noTraceFlag]) (hc4 : cells + 4 ≤ 601024) (hs4 : slots + 176 ≤ 7293034) (hK : lwK κ p l e s m below meth c b x1 x2 x3 x4 cells slots Q K) (h : hM) (H : Heap) (locs : List Loc) (ls : Array Slot) (hr1 : rd h x1 = some (eO 0 fs1)) (hw : P_Rows_weight (fun r h1 => P_Mod_weight (fun r' h2 => r = r' ∧ K h2) h1 x2 v1 v2) h x1 v1 v2) (hh : hp κ w_cl h H) (hS : va_S (h_A κ) s.heap H locs) (hl : lv_has ls 8 [(0, .ref b), (1, .ref x1), (2, .ref x2), (3, .ref x3), (4, .int x4)]) : W p l e room_1 s m #[Value.ref b] below meth c H locs cells slots Q (F0 m 794 ls []) := by
  obtain ⟨C0, hX, hbl, hbz, hzt⟩ := Z
  obtain ⟨hx, hb, hml, hown, hts, hKc, hF0, hrt, hlocks⟩ := id C0
  have hbA : ¬ h_A κ b := Nat.not_le.mpr hbz
  obtain ⟨⟨i1, j1⟩, ⟨i2, j2⟩, ⟨i3, j3⟩, ⟨i4, j4⟩, ⟨i5, j5⟩⟩ := I
  refine lv_aload_n hx hb d_Law_794 rfl (lv_at hl 1 rfl) ?_
  refine lv_aload_n hx hb d_Law_795 rfl (lv_at hl 0 rfl) ?_
  refine lv_iload hx hb d_Law_796 (lv_at hl 4 rfl) ?_
  refine lv_iconst (v := 1) hx hb d_Law_798 (by decide) ?_
  refine lv_iadd hx hb d_Law_799 ?_
  refine va_sld hx hb hX hbl hbA hS i1 d_Law_800 ?_
  rw [j1]
  refine lv_aload_n hx hb d_Law_801 rfl (lv_at hl 0 rfl) ?_
  refine lv_iload hx hb d_Law_802 (lv_at hl 4 rfl) ?_
  refine lv_iconst (v := 2) hx hb d_Law_804 (by decide) ?_
  refine lv_iadd hx hb d_Law_805 ?_
  refine va_sld hx hb hX hbl hbA hS i2 d_Law_806 ?_
  rw [j2]
  refine h_callV (n := 2) C0 w_TBm hh hS hl.1 [.int v1, .int v2] [] (S_Rows_weight _ _ _ _ _ hw) hr1 rfl k_m_Law_85 k_inst_Rows_weight k_sel_Rows_weight k_ini_Rows k_code_Rows_weight (by decide +kernel) rfl rfl (Nat.le_of_ble_eq_true rfl) ⟨(Nat.le_of_ble_eq_true rfl), (Nat.le_of_ble_eq_true rfl)⟩ ⟨by show cells + 0 ≤ 601024; omega, by show slots + 0 ≤ 7293034; omega⟩ d_Law_807 (h_kI (k := cells + 0) (n := slots + 0) (by show cells + 0 ≤ cells + 0; omega) (by show slots + 0 ≤ slots + 0; omega) (fun r h807 H locs hw hh hS => ?_))
  refine lv_aload_n hx hb d_Law_810 rfl (lv_at hl 2 rfl) ?_
  refine lv_aload_n hx hb d_Law_811 rfl (lv_at hl 0 rfl) ?_
  refine lv_iload hx hb d_Law_812 (lv_at hl 4 rfl) ?_
  refine lv_iconst (v := 1) hx hb d_Law_814 (by decide) ?_
  refine lv_iadd hx hb d_Law_815 ?_
  refine va_sld hx hb hX hbl hbA hS i1 d_Law_816 ?_
  rw [j1]
  refine lv_aload_n hx hb d_Law_817 rfl (lv_at hl 0 rfl) ?_
  refine lv_iload hx hb d_Law_818 (lv_at hl 4 rfl) ?_
  refine lv_iconst (v := 2) hx hb d_Law_820 (by decide) ?_
  refine lv_iadd hx hb d_Law_821 ?_
  refine va_sld hx hb hX hbl hbA hS i2 d_Law_822 ?_
  rw [j2]
  obtain ⟨fs2, hr2, -⟩ := id hw
  refine h_callV (n := 2) C0 w_TBm hh hS hl.1 [.int v1, .int v2] [.int r] (S_Mod_weight _ _ _ _ _ hw) hr2 rfl k_m_Law_88 k_inst_Mod_weight k_sel_Mod_weight k_ini_Mod k_code_Mod_weight (by decide +kernel) rfl rfl (Nat.le_of_ble_eq_true rfl) ⟨(Nat.le_of_ble_eq_true rfl), (Nat.le_of_ble_eq_true rfl)⟩ ⟨by show cells + 0 + 0 ≤ 601024; omega, by show slots + 0 + 0 ≤ 7293034; omega⟩ d_Law_823 (h_kI (k := cells + 4) (n := slots + 176) (by show cells + 0 + 0 ≤ cells + 4; omega) (by show slots + 0 + 0 ≤ slots + 176; omega) (fun r2 h823 H locs hw hh hS => ?_))
  obtain ⟨hrr, hw⟩ := hw
  refine lv_icmp_eq (tgt := 1031) hx hb d_Law_826 (by decide) (fun _ => ?_) (fun cc => absurd hrr cc)
  exact hK _ _ _ _ hw hh hS (lv_sub hl [0, 1, 2, 3, 4] rfl)
set_option maxHeartbeats 4000000 in
set_option maxRecDepth 100000 in
theorem S_law_15 (Z : lwC κ p s m meth c b L xs) (I : lwI x4 L xs v1 v2 v3 v4 v5) (hfl : l.flags = Jvm.pinnedFlags ++ [Jvm.noTraceFlag]) (hc4 : cells + 4 ≤ 601024) (hs4 : slots + 176 ≤ 7293034) (hK : lwK κ p l e s m below meth c b x1 x2 x3 x4 cells slots Q K) (h : hM) (H : Heap) (locs : List Loc) (ls : Array Slot) (hr1 : rd h x1 = some (eO 0 fs1)) (hw : P_Law_share (fun kk h1 => P_Mod_share (fun bb h2 => P_Mod_thrown (fun tt h3 => tt = kk ∧ (kk = 0 → ∃ (n9 : Nat) (f9 : Nat → Int64), rd h3 x3 = some (eJ 1 n9 f9) ∧ vp_in 0 n9 ∧ f9 (0 : Int32).toNatClampNeg = bb) ∧ K h3) h2 x2) h1 x2 v1 ((v2.toInt64 <<< ((32 : Int32).toInt64 &&& 63)) ||| (v3.toInt64 &&& (4294967295 : Int64)))) h x1 v1 ((v2.toInt64 <<< ((32 : Int32).toInt64 &&& 63)) ||| (v3.toInt64 &&& (4294967295 : Int64))) x3) (hh : hp κ w_cl h H) (hS : va_S (h_A κ) s.heap H locs) (hl : lv_has ls 8 [(0, .ref b), (1, .ref x1), (2, .ref x2), (3, .ref x3), (4, .int x4)]) : W p l e room_1 s m #[Value.ref b] below meth c H locs cells slots Q (F0 m 831 ls []) := by
  obtain ⟨C0, hX, hbl, hbz, hzt⟩ := Z
  obtain ⟨hx, hb, hml, hown, hts, hKc, hF0, hrt, hlocks⟩ := id C0
  have hbA : ¬ h_A κ b := Nat.not_le.mpr hbz
  obtain ⟨⟨i1, j1⟩, ⟨i2, j2⟩, ⟨i3, j3⟩, ⟨i4, j4⟩, ⟨i5, j5⟩⟩ := I
  refine lv_aload_n hx hb d_Law_831 rfl (lv_at hl 1 rfl) ?_
  refine lv_aload_n hx hb d_Law_832 rfl (lv_at hl 0 rfl) ?_
  refine lv_iload hx hb d_Law_833 (lv_at hl 4 rfl) ?_
  refine lv_iconst (v := 1) hx hb d_Law_835 (by decide) ?_
  refine lv_iadd hx hb d_Law_836 ?_
  refine va_sld hx hb hX hbl hbA hS i1 d_Law_837 ?_
  rw [j1]
  refine lv_aload_n hx hb d_Law_838 rfl (lv_at hl 0 rfl) ?_
  refine lv_iload hx hb d_Law_839 (lv_at hl 4 rfl) ?_
  refine lv_iconst (v := 2) hx hb d_Law_841 (by decide) ?_
  refine lv_iadd hx hb d_Law_842 ?_
  refine va_sld hx hb hX hbl hbA hS i2 d_Law_843 ?_
  rw [j2]
  refine lv_i2l (v := v2.toInt64) hx hb d_Law_844 rfl ?_
  refine lv_bipush (v := 32) hx hb d_Law_845 (by decide) ?_
  refine lv_lshl (v := (v2.toInt64 <<< ((32 : Int32).toInt64 &&& 63))) hx hb d_Law_847 rfl ?_
  refine lv_aload_n hx hb d_Law_848 rfl (lv_at hl 0 rfl) ?_
  refine lv_iload hx hb d_Law_849 (lv_at hl 4 rfl) ?_
  refine lv_iconst (v := 3) hx hb d_Law_851 (by decide) ?_
  refine lv_iadd hx hb d_Law_852 ?_
  refine va_sld hx hb hX hbl hbA hS i3 d_Law_853 ?_
  rw [j3]
  refine lv_i2l (v := v3.toInt64) hx hb d_Law_854 rfl ?_
  refine lv_ldc2 (v := 4294967295) hx hb hown (hts _ k_k_Law_38) d_Law_855 ?_
  refine lv_land hx hb d_Law_858 ?_
  refine lv_lor hx hb d_Law_859 ?_
  refine lv_aload_n hx hb d_Law_860 rfl (lv_at hl 3 rfl) ?_
  refine h_callSW C0 hzt hh hS hl.1 [.ref x1, .int v1, .long ((v2.toInt64 <<< ((32 : Int32).toInt64 &&& 63)) ||| (v3.toInt64 &&& (4294967295 : Int64))), .ref x3] [] (S_Law_share hfl _ _ _ _ _ _ hw) k_m_Law_89 rfl rfl (Nat.le_of_ble_eq_true rfl) ⟨(Nat.le_of_ble_eq_true rfl), (Nat.le_of_ble_eq_true rfl)⟩ ⟨by show cells + 1 ≤ 601024; omega, by show slots + 6 ≤ 7293034; omega⟩ d_Law_861 (h_kI (k := cells + 1) (n := slots + 6) (Nat.le_refl _) (Nat.le_refl _) (fun kk h1 H locs hw hh hS => ?_))
  refine lv_istore (lv' := [(5, .int kk), (0, .ref b), (1, .ref x1), (2, .ref x2), (3, .ref x3), (4, .int x4)]) hx hb d_Law_864 hl (by decide) rfl (fun ls hl => ?_)
  refine lv_aload_n hx hb d_Law_866 rfl (lv_at hl 3 rfl) ?_
  refine lv_aload_n hx hb d_Law_867 rfl (lv_at hl 1 rfl) ?_
  refine lv_iload hx hb d_Law_868 (lv_at hl 5 rfl) ?_
  refine lv_iconst (v := 1) hx hb d_Law_870 (by decide) ?_
  refine lv_iadd hx hb d_Law_871 ?_
  refine va_sld hx hb hX hbl hbA hS i1 d_Law_872 ?_
  rw [j1]
  refine lv_aload_n hx hb d_Law_873 rfl (lv_at hl 1 rfl) ?_
  refine lv_iload hx hb d_Law_874 (lv_at hl 5 rfl) ?_
  refine lv_iconst (v := 2) hx hb d_Law_876 (by decide) ?_
  refine lv_iadd hx hb d_Law_877 ?_
  refine va_sld hx hb hX hbl hbA hS i2 d_Law_878 ?_
  rw [j2]
  refine lv_i2l (v := v2.toInt64) hx hb d_Law_879 rfl ?_
  refine lv_bipush (v := 32) hx hb d_Law_880 (by decide) ?_
  refine lv_lshl (v := (v2.toInt64 <<< ((32 : Int32).toInt64 &&& 63))) hx hb d_Law_882 rfl ?_
  refine lv_aload_n hx hb d_Law_883 rfl (lv_at hl 1 rfl) ?_
  refine lv_iload hx hb d_Law_884 (lv_at hl 5 rfl) ?_
  refine lv_iconst (v := 3) hx hb d_Law_886 (by decide) ?_
  refine lv_iadd hx hb d_Law_887 ?_
  refine va_sld hx hb hX hbl hbA hS i3 d_Law_888 ?_
  rw [j3]
  refine lv_i2l (v := v3.toInt64) hx hb d_Law_889 rfl ?_
  refine lv_ldc2 (v := 4294967295) hx hb hown (hts _ k_k_Law_38) d_Law_890 ?_
  refine lv_land hx hb d_Law_893 ?_
  refine lv_lor hx hb d_Law_894 ?_
  obtain ⟨fs2, hr2, -⟩ := id hw
  refine h_callV (n := 2) C0 w_TBm hh hS hl.1 [.int v1, .long ((v2.toInt64 <<< ((32 : Int32).toInt64 &&& 63)) ||| (v3.toInt64 &&& (4294967295 : Int64)))] [] (S_Mod_share _ _ _ _ _ hw) hr2 rfl k_m_Law_94 k_inst_Mod_share k_sel_Mod_share k_ini_Mod k_code_Mod_share (by decide +kernel) rfl rfl (Nat.le_of_ble_eq_true rfl) ⟨(Nat.le_of_ble_eq_true rfl), (Nat.le_of_ble_eq_true rfl)⟩ ⟨by show cells + 1 + 0 ≤ 601024; omega, by show slots + 6 + 0 ≤ 7293034; omega⟩ d_Law_895 (h_kJ (k := cells + 1) (n := slots + 6) (by show cells + 1 + 0 ≤ cells + 1; omega) (by show slots + 6 + 0 ≤ slots + 6; omega) (fun bb h895 H locs hw hh hS => ?_))
  refine lv_lstore (lv' := [(6, .long bb), (5, .int kk), (0, .ref b), (1, .ref x1), (2, .ref x2), (3, .ref x3), (4, .int x4)]) hx hb d_Law_898 hl (by decide) rfl (fun ls hl => ?_)
  refine lv_aload_n hx hb d_Law_900 rfl (lv_at hl 4 rfl) ?_
  obtain ⟨fs2, _, hr2, -⟩ := id hw
  refine h_callV (n := 0) C0 w_TBm hh hS hl.1 [] [] (S_Mod_thrown _ _ _ hw) hr2 rfl k_m_Law_95 k_inst_Mod_thrown k_sel_Mod_thrown k_ini_Mod k_code_Mod_thrown (by decide +kernel) rfl rfl (Nat.le_of_ble_eq_true rfl) ⟨(Nat.le_of_ble_eq_true rfl), (Nat.le_of_ble_eq_true rfl)⟩ ⟨by show cells + 1 + 0 ≤ 601024; omega, by show slots + 6 + 0 ≤ 7293034; omega⟩ d_Law_901 (h_kI (k := cells + 4) (n := slots + 176) (by show cells + 1 + 0 ≤ cells + 4; omega) (by show slots + 6 + 0 ≤ slots + 176; omega) (fun tt h901 H locs hw hh hS => ?_))
  refine lv_iload hx hb d_Law_904 (lv_at hl 1 rfl) ?_
  obtain ⟨hrr, hn0, hw⟩ := hw
  refine lv_icmp_eq (tgt := 911) hx hb d_Law_906 (by decide) (fun _ => ?_) (fun cc => absurd hrr cc)
  refine lv_iload hx hb d_Law_911 (lv_at hl 1 rfl) ?_
  refine lv_if_ne (tgt := 927) hx hb d_Law_913 (by decide) (fun cc => ?_) (fun cc => ?_)
  · skip
    refine lv_goto (tgt := 1031) hx hb d_Law_927 (by decide) ?_
    exact hK _ _ _ _ hw hh hS (lv_sub hl [2, 3, 4, 5, 6] rfl)
  · obtain ⟨n9, f9, g1, g2, g3⟩ := hn0 cc
    refine lv_aload_n hx hb d_Law_916 rfl (lv_at hl 5 rfl) ?_
    refine lv_iconst (v := 0) hx hb d_Law_917 (by decide) ?_
    refine h_lald C0 hh g1 g2 rfl d_Law_918 ?_
    rw [g3]
    refine lv_lload hx hb d_Law_919 (lv_at hl 0 rfl) ?_
    refine W.lcmp hx hb d_Law_921 ?_
    refine lv_if_eq (tgt := 927) hx hb d_Law_922 (by decide) (fun _ => ?_) (fun cc => absurd ((lg_cmp_eq _ _).mpr rfl) cc)
    refine lv_goto (tgt := 1031) hx hb d_Law_927 (by decide) ?_
    exact hK _ _ _ _ hw hh hS (lv_sub hl [2, 3, 4, 5, 6] rfl)
set_option maxHeartbeats 4000000 in
set_option maxRecDepth 100000 in
theorem S_law_16 (Z : lwC κ p s m meth c b L xs) (I : lwI x4 L xs v1 v2 v3 v4 v5) (hfl : l.flags = Jvm.pinnedFlags ++ [Jvm.noTraceFlag]) (hc4 : cells + 4 ≤ 601024) (hs4 : slots + 176 ≤ 7293034) (hK : lwK κ p l e s m below meth c b x1 x2 x3 x4 cells slots Q K) (h : hM) (H : Heap) (locs : List Loc) (ls : Array Slot) (hr1 : rd h x1 = some (eO 0 fs1)) (hw : P_Rows_order (fun r h1 => P_Mod_order (fun r' h2 => r = r' ∧ K h2) h1 x2 v1) h x1 v1) (hh : hp κ w_cl h H) (hS : va_S (h_A κ) s.heap H locs) (hl : lv_has ls 8 [(0, .ref b), (1, .ref x1), (2, .ref x2), (3, .ref x3), (4, .int x4)]) : W p l e room_1 s m #[Value.ref b] below meth c H locs cells slots Q (F0 m 930 ls []) := by
  obtain ⟨C0, hX, hbl, hbz, hzt⟩ := Z
  obtain ⟨hx, hb, hml, hown, hts, hKc, hF0, hrt, hlocks⟩ := id C0
  have hbA : ¬ h_A κ b := Nat.not_le.mpr hbz
  obtain ⟨⟨i1, j1⟩, ⟨i2, j2⟩, ⟨i3, j3⟩, ⟨i4, j4⟩, ⟨i5, j5⟩⟩ := I
  refine lv_aload_n hx hb d_Law_930 rfl (lv_at hl 1 rfl) ?_
  refine lv_aload_n hx hb d_Law_931 rfl (lv_at hl 0 rfl) ?_
  refine lv_iload hx hb d_Law_932 (lv_at hl 4 rfl) ?_
  refine lv_iconst (v := 1) hx hb d_Law_934 (by decide) ?_
  refine lv_iadd hx hb d_Law_935 ?_
  refine va_sld hx hb hX hbl hbA hS i1 d_Law_936 ?_
  rw [j1]
  refine h_callV (n := 1) C0 w_TBm hh hS hl.1 [.int v1] [] (S_Rows_order _ _ _ _ hw) hr1 rfl k_m_Law_98 k_inst_Rows_order k_sel_Rows_order k_ini_Rows k_code_Rows_order (by decide +kernel) rfl rfl (Nat.le_of_ble_eq_true rfl) ⟨(Nat.le_of_ble_eq_true rfl), (Nat.le_of_ble_eq_true rfl)⟩ ⟨by show cells + 0 ≤ 601024; omega, by show slots + 0 ≤ 7293034; omega⟩ d_Law_937 (h_kI (k := cells + 0) (n := slots + 0) (by show cells + 0 ≤ cells + 0; omega) (by show slots + 0 ≤ slots + 0; omega) (fun r h937 H locs hw hh hS => ?_))
  refine lv_aload_n hx hb d_Law_940 rfl (lv_at hl 2 rfl) ?_
  refine lv_aload_n hx hb d_Law_941 rfl (lv_at hl 0 rfl) ?_
  refine lv_iload hx hb d_Law_942 (lv_at hl 4 rfl) ?_
  refine lv_iconst (v := 1) hx hb d_Law_944 (by decide) ?_
  refine lv_iadd hx hb d_Law_945 ?_
  refine va_sld hx hb hX hbl hbA hS i1 d_Law_946 ?_
  rw [j1]
  obtain ⟨fs2, hr2, -⟩ := id hw
  refine h_callV (n := 1) C0 w_TBm hh hS hl.1 [.int v1] [.int r] (S_Mod_order _ _ _ _ hw) hr2 rfl k_m_Law_101 k_inst_Mod_order k_sel_Mod_order k_ini_Mod k_code_Mod_order (by decide +kernel) rfl rfl (Nat.le_of_ble_eq_true rfl) ⟨(Nat.le_of_ble_eq_true rfl), (Nat.le_of_ble_eq_true rfl)⟩ ⟨by show cells + 0 + 0 ≤ 601024; omega, by show slots + 0 + 0 ≤ 7293034; omega⟩ d_Law_947 (h_kI (k := cells + 4) (n := slots + 176) (by show cells + 0 + 0 ≤ cells + 4; omega) (by show slots + 0 + 0 ≤ slots + 176; omega) (fun r2 h947 H locs hw hh hS => ?_))
  obtain ⟨hrr, hw⟩ := hw
  refine lv_icmp_eq (tgt := 1031) hx hb d_Law_950 (by decide) (fun _ => ?_) (fun cc => absurd hrr cc)
  exact hK _ _ _ _ hw hh hS (lv_sub hl [0, 1, 2, 3, 4] rfl)
set_option maxHeartbeats 4000000 in
set_option maxRecDepth 100000 in
theorem S_law_17 (Z : lwC κ p s m meth c b L xs) (I : lwI x4 L xs v1 v2 v3 v4 v5) (hfl : l.flags = Jvm.pinnedFlags ++ [Jvm.noTraceFlag]) (hc4 : cells + 4 ≤ 601024) (hs4 : slots + 176 ≤ 7293034) (hK : lwK κ p l e s m below meth c b x1 x2 x3 x4 cells slots Q K) (h : hM) (H : Heap) (locs : List Loc) (ls : Array Slot) (hr1 : rd h x1 = some (eO 0 fs1)) (hw : P_Rows_waited (fun r h1 => P_Mod_waited (fun r' h2 => r = r' ∧ K h2) h1 x2 v1) h x1 v1) (hh : hp κ w_cl h H) (hS : va_S (h_A κ) s.heap H locs) (hl : lv_has ls 8 [(0, .ref b), (1, .ref x1), (2, .ref x2), (3, .ref x3), (4, .int x4)]) : W p l e room_1 s m #[Value.ref b] below meth c H locs cells slots Q (F0 m 955 ls []) := by
  obtain ⟨C0, hX, hbl, hbz, hzt⟩ := Z
  obtain ⟨hx, hb, hml, hown, hts, hKc, hF0, hrt, hlocks⟩ := id C0
  have hbA : ¬ h_A κ b := Nat.not_le.mpr hbz
  obtain ⟨⟨i1, j1⟩, ⟨i2, j2⟩, ⟨i3, j3⟩, ⟨i4, j4⟩, ⟨i5, j5⟩⟩ := I
  refine lv_aload_n hx hb d_Law_955 rfl (lv_at hl 1 rfl) ?_
  refine lv_aload_n hx hb d_Law_956 rfl (lv_at hl 0 rfl) ?_
  refine lv_iload hx hb d_Law_957 (lv_at hl 4 rfl) ?_
  refine lv_iconst (v := 1) hx hb d_Law_959 (by decide) ?_
  refine lv_iadd hx hb d_Law_960 ?_
  refine va_sld hx hb hX hbl hbA hS i1 d_Law_961 ?_
  rw [j1]
  refine h_callV (n := 1) C0 w_TBm hh hS hl.1 [.int v1] [] (S_Rows_waited _ _ _ _ hw) hr1 rfl k_m_Law_102 k_inst_Rows_waited k_sel_Rows_waited k_ini_Rows k_code_Rows_waited (by decide +kernel) rfl rfl (Nat.le_of_ble_eq_true rfl) ⟨(Nat.le_of_ble_eq_true rfl), (Nat.le_of_ble_eq_true rfl)⟩ ⟨by show cells + 0 ≤ 601024; omega, by show slots + 0 ≤ 7293034; omega⟩ d_Law_962 (h_kJ (k := cells + 0) (n := slots + 0) (by show cells + 0 ≤ cells + 0; omega) (by show slots + 0 ≤ slots + 0; omega) (fun r h962 H locs hw hh hS => ?_))
  refine lv_aload_n hx hb d_Law_965 rfl (lv_at hl 2 rfl) ?_
  refine lv_aload_n hx hb d_Law_966 rfl (lv_at hl 0 rfl) ?_
  refine lv_iload hx hb d_Law_967 (lv_at hl 4 rfl) ?_
  refine lv_iconst (v := 1) hx hb d_Law_969 (by decide) ?_
  refine lv_iadd hx hb d_Law_970 ?_
  refine va_sld hx hb hX hbl hbA hS i1 d_Law_971 ?_
  rw [j1]
  obtain ⟨fs2, hr2, -⟩ := id hw
  refine h_callV (n := 1) C0 w_TBm hh hS hl.1 [.int v1] [.long r] (S_Mod_waited _ _ _ _ hw) hr2 rfl k_m_Law_106 k_inst_Mod_waited k_sel_Mod_waited k_ini_Mod k_code_Mod_waited (by decide +kernel) rfl rfl (Nat.le_of_ble_eq_true rfl) ⟨(Nat.le_of_ble_eq_true rfl), (Nat.le_of_ble_eq_true rfl)⟩ ⟨by show cells + 0 + 0 ≤ 601024; omega, by show slots + 0 + 0 ≤ 7293034; omega⟩ d_Law_972 (h_kJ (k := cells + 4) (n := slots + 176) (by show cells + 0 + 0 ≤ cells + 4; omega) (by show slots + 0 + 0 ≤ slots + 176; omega) (fun r2 h972 H locs hw hh hS => ?_))
  refine W.lcmp hx hb d_Law_975 ?_
  obtain ⟨hrr, hw⟩ := hw
  refine lv_if_eq (tgt := 1031) hx hb d_Law_976 (by decide) (fun _ => ?_) (fun cc => absurd ((lg_cmp_eq _ _).mpr hrr) cc)
  exact hK _ _ _ _ hw hh hS (lv_sub hl [0, 1, 2, 3, 4] rfl)
set_option maxHeartbeats 4000000 in
set_option maxRecDepth 100000 in
theorem S_law_18 (Z : lwC κ p s m meth c b L xs) (I : lwI x4 L xs v1 v2 v3 v4 v5) (hfl : l.flags = Jvm.pinnedFlags ++ [Jvm.noTraceFlag]) (hc4 : cells + 4 ≤ 601024) (hs4 : slots + 176 ≤ 7293034) (hK : lwK κ p l e s m below meth c b x1 x2 x3 x4 cells slots Q K) (h : hM) (H : Heap) (locs : List Loc) (ls : Array Slot) (hr1 : rd h x1 = some (eO 0 fs1)) (hw : P_Rows_state (fun r h1 => P_Mod_state (fun r' h2 => r = r' ∧ K h2) h1 x2 v1) h x1 v1) (hh : hp κ w_cl h H) (hS : va_S (h_A κ) s.heap H locs) (hl : lv_has ls 8 [(0, .ref b), (1, .ref x1), (2, .ref x2), (3, .ref x3), (4, .int x4)]) : W p l e room_1 s m #[Value.ref b] below meth c H locs cells slots Q (F0 m 981 ls []) := by
  obtain ⟨C0, hX, hbl, hbz, hzt⟩ := Z
  obtain ⟨hx, hb, hml, hown, hts, hKc, hF0, hrt, hlocks⟩ := id C0
  have hbA : ¬ h_A κ b := Nat.not_le.mpr hbz
  obtain ⟨⟨i1, j1⟩, ⟨i2, j2⟩, ⟨i3, j3⟩, ⟨i4, j4⟩, ⟨i5, j5⟩⟩ := I
  refine lv_aload_n hx hb d_Law_981 rfl (lv_at hl 1 rfl) ?_
  refine lv_aload_n hx hb d_Law_982 rfl (lv_at hl 0 rfl) ?_
  refine lv_iload hx hb d_Law_983 (lv_at hl 4 rfl) ?_
  refine lv_iconst (v := 1) hx hb d_Law_985 (by decide) ?_
  refine lv_iadd hx hb d_Law_986 ?_
  refine va_sld hx hb hX hbl hbA hS i1 d_Law_987 ?_
  rw [j1]
  refine h_callV (n := 1) C0 w_TBm hh hS hl.1 [.int v1] [] (S_Rows_state _ _ _ _ hw) hr1 rfl k_m_Law_107 k_inst_Rows_state k_sel_Rows_state k_ini_Rows k_code_Rows_state (by decide +kernel) rfl rfl (Nat.le_of_ble_eq_true rfl) ⟨(Nat.le_of_ble_eq_true rfl), (Nat.le_of_ble_eq_true rfl)⟩ ⟨by show cells + 0 ≤ 601024; omega, by show slots + 0 ≤ 7293034; omega⟩ d_Law_988 (h_kI (k := cells + 0) (n := slots + 0) (by show cells + 0 ≤ cells + 0; omega) (by show slots + 0 ≤ slots + 0; omega) (fun r h988 H locs hw hh hS => ?_))
  refine lv_aload_n hx hb d_Law_991 rfl (lv_at hl 2 rfl) ?_
  refine lv_aload_n hx hb d_Law_992 rfl (lv_at hl 0 rfl) ?_
  refine lv_iload hx hb d_Law_993 (lv_at hl 4 rfl) ?_
  refine lv_iconst (v := 1) hx hb d_Law_995 (by decide) ?_
  refine lv_iadd hx hb d_Law_996 ?_
  refine va_sld hx hb hX hbl hbA hS i1 d_Law_997 ?_
  rw [j1]
  obtain ⟨fs2, hr2, -⟩ := id hw
  refine h_callV (n := 1) C0 w_TBm hh hS hl.1 [.int v1] [.int r] (S_Mod_state _ _ _ _ hw) hr2 rfl k_m_Law_110 k_inst_Mod_state k_sel_Mod_state k_ini_Mod k_code_Mod_state (by decide +kernel) rfl rfl (Nat.le_of_ble_eq_true rfl) ⟨(Nat.le_of_ble_eq_true rfl), (Nat.le_of_ble_eq_true rfl)⟩ ⟨by show cells + 0 + 0 ≤ 601024; omega, by show slots + 0 + 0 ≤ 7293034; omega⟩ d_Law_998 (h_kI (k := cells + 4) (n := slots + 176) (by show cells + 0 + 0 ≤ cells + 4; omega) (by show slots + 0 + 0 ≤ slots + 176; omega) (fun r2 h998 H locs hw hh hS => ?_))
  obtain ⟨hrr, hw⟩ := hw
  refine lv_icmp_eq (tgt := 1031) hx hb d_Law_1001 (by decide) (fun _ => ?_) (fun cc => absurd hrr cc)
  exact hK _ _ _ _ hw hh hS (lv_sub hl [0, 1, 2, 3, 4] rfl)
set_option maxHeartbeats 4000000 in
set_option maxRecDepth 100000 in
theorem S_law_19 (Z : lwC κ p s m meth c b L xs) (I : lwI x4 L xs v1 v2 v3 v4 v5) (hfl : l.flags = Jvm.pinnedFlags ++ [Jvm.noTraceFlag]) (hc4 : cells + 4 ≤ 601024) (hs4 : slots + 176 ≤ 7293034) (hK : lwK κ p l e s m below meth c b x1 x2 x3 x4 cells slots Q K) (h : hM) (H : Heap) (locs : List Loc) (ls : Array Slot) (hr1 : rd h x1 = some (eO 0 fs1)) (hw : P_Rows_count (fun r h1 => P_Mod_count (fun r' h2 => r = r' ∧ K h2) h1 x2 v1) h x1 v1) (hh : hp κ w_cl h H) (hS : va_S (h_A κ) s.heap H locs) (hl : lv_has ls 8 [(0, .ref b), (1, .ref x1), (2, .ref x2), (3, .ref x3), (4, .int x4)]) : W p l e room_1 s m #[Value.ref b] below meth c H locs cells slots Q (F0 m 1006 ls []) := by
  obtain ⟨C0, hX, hbl, hbz, hzt⟩ := Z
  obtain ⟨hx, hb, hml, hown, hts, hKc, hF0, hrt, hlocks⟩ := id C0
  have hbA : ¬ h_A κ b := Nat.not_le.mpr hbz
  obtain ⟨⟨i1, j1⟩, ⟨i2, j2⟩, ⟨i3, j3⟩, ⟨i4, j4⟩, ⟨i5, j5⟩⟩ := I
  refine lv_aload_n hx hb d_Law_1006 rfl (lv_at hl 1 rfl) ?_
  refine lv_aload_n hx hb d_Law_1007 rfl (lv_at hl 0 rfl) ?_
  refine lv_iload hx hb d_Law_1008 (lv_at hl 4 rfl) ?_
  refine lv_iconst (v := 1) hx hb d_Law_1010 (by decide) ?_
  refine lv_iadd hx hb d_Law_1011 ?_
  refine va_sld hx hb hX hbl hbA hS i1 d_Law_1012 ?_
  rw [j1]
  refine h_callV (n := 1) C0 w_TBm hh hS hl.1 [.int v1] [] (S_Rows_count _ _ _ _ hw) hr1 rfl k_m_Law_111 k_inst_Rows_count k_sel_Rows_count k_ini_Rows k_code_Rows_count (by decide +kernel) rfl rfl (Nat.le_of_ble_eq_true rfl) ⟨(Nat.le_of_ble_eq_true rfl), (Nat.le_of_ble_eq_true rfl)⟩ ⟨by show cells + 0 ≤ 601024; omega, by show slots + 0 ≤ 7293034; omega⟩ d_Law_1013 (h_kI (k := cells + 0) (n := slots + 0) (by show cells + 0 ≤ cells + 0; omega) (by show slots + 0 ≤ slots + 0; omega) (fun r h1013 H locs hw hh hS => ?_))
  refine lv_aload_n hx hb d_Law_1016 rfl (lv_at hl 2 rfl) ?_
  refine lv_aload_n hx hb d_Law_1017 rfl (lv_at hl 0 rfl) ?_
  refine lv_iload hx hb d_Law_1018 (lv_at hl 4 rfl) ?_
  refine lv_iconst (v := 1) hx hb d_Law_1020 (by decide) ?_
  refine lv_iadd hx hb d_Law_1021 ?_
  refine va_sld hx hb hX hbl hbA hS i1 d_Law_1022 ?_
  rw [j1]
  obtain ⟨fs2, hr2, -⟩ := id hw
  refine h_callV (n := 1) C0 w_TBm hh hS hl.1 [.int v1] [.int r] (S_Mod_count _ _ _ _ hw) hr2 rfl k_m_Law_114 k_inst_Mod_count k_sel_Mod_count k_ini_Mod k_code_Mod_count (by decide +kernel) rfl rfl (Nat.le_of_ble_eq_true rfl) ⟨(Nat.le_of_ble_eq_true rfl), (Nat.le_of_ble_eq_true rfl)⟩ ⟨by show cells + 0 + 0 ≤ 601024; omega, by show slots + 0 + 0 ≤ 7293034; omega⟩ d_Law_1023 (h_kI (k := cells + 4) (n := slots + 176) (by show cells + 0 + 0 ≤ cells + 4; omega) (by show slots + 0 + 0 ≤ slots + 176; omega) (fun r2 h1023 H locs hw hh hS => ?_))
  obtain ⟨hrr, hw⟩ := hw
  refine lv_icmp_eq (tgt := 1031) hx hb d_Law_1026 (by decide) (fun _ => ?_) (fun cc => absurd hrr cc)
  exact hK _ _ _ _ hw hh hS (lv_sub hl [0, 1, 2, 3, 4] rfl)
end LWC
