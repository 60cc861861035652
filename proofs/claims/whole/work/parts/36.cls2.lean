section C2
variable {h : hM} {α : Nat → Nat → Nat} {R S : mS} {D : dS} {th : Int32} {x1 x2 x3 : Int32} {Q : Int32 → hM → Prop} {j : Nat}
theorem C_limit_no (hn : ¬ ((0 ≤ x1.toInt ∧ x1.toInt < 36) ∧ 0 ≤ x2.toInt ∧ x2.toInt ≤ 40)) (hQ : Q (-4) h) : P_Rows_limit Q h (α 0 0) x1 x2 := by
  by_cases hc : 0 ≤ x1.toInt ∧ x1.toInt < 36
  · exact C_isClass_yes hc.1 hc.2 ⟨fun z => absurd z (by decide), fun _ => C_isIn_no (by rw [l32_0, l32_40]; omega) ⟨fun z => absurd rfl z, fun _ => hQ⟩⟩
  · exact C_isClass_no hc ⟨fun _ => hQ, fun z => absurd rfl z⟩
theorem C_limit_ok {c : Nat} (hc : c < 36) (h0 : 0 ≤ x2.toInt) (h40 : x2.toInt ≤ 40) (hW : Wd h α (cA α R D S th)) (hQ : ∀ h', Wd h' α (cA α (s_up R 3 c x2) D S th) → Q 1 h') : P_Rows_limit Q h (α 0 0) (nI c) x2 := by
  have ec : (nI c).toInt = c := nI_toInt (by omega)
  refine C_isClass_yes (by omega) (by omega) ⟨fun z => absurd z (by decide), fun _ => C_isIn_yes (by rw [l32_0]; omega) (by rw [l32_40]; omega) ⟨fun _ => ?_, fun z => absurd z (by decide)⟩⟩
  refine ⟨_, _, hW.1 0 0 _ rfl, rfl, _, _, hW.1 5 0 _ rfl, vp_in_nI hc (by decide), fun h2 e2 => ?_⟩
  rw [nI_clamp (by omega)] at e2
  subst e2
  exact hQ _ (c_lim c x2 hW)
theorem C_weight_no (hn : ¬ ((0 ≤ x1.toInt ∧ x1.toInt < 36) ∧ 0 ≤ x2.toInt ∧ x2.toInt ≤ 1000)) (hQ : Q (-4) h) : P_Rows_weight Q h (α 0 0) x1 x2 := by
  by_cases hc : 0 ≤ x1.toInt ∧ x1.toInt < 36
  · exact C_isClass_yes hc.1 hc.2 ⟨fun z => absurd z (by decide), fun _ => C_isIn_no (by rw [l32_0, l32_1000]; omega) ⟨fun z => absurd rfl z, fun _ => hQ⟩⟩
  · exact C_isClass_no hc ⟨fun _ => hQ, fun z => absurd rfl z⟩
theorem C_weight_ok {c : Nat} (hc : c < 36) (h0 : 0 ≤ x2.toInt) (h40 : x2.toInt ≤ 1000) (hW : Wd h α (cA α R D S th)) (hQ : ∀ h', Wd h' α (cA α (s_up R 6 c x2) D S th) → Q 1 h') : P_Rows_weight Q h (α 0 0) (nI c) x2 := by
  have ec : (nI c).toInt = c := nI_toInt (by omega)
  refine C_isClass_yes (by omega) (by omega) ⟨fun z => absurd z (by decide), fun _ => C_isIn_yes (by rw [l32_0]; omega) (by rw [l32_1000]; omega) ⟨fun _ => ?_, fun z => absurd z (by decide)⟩⟩
  refine ⟨_, _, hW.1 0 0 _ rfl, rfl, _, _, hW.1 8 0 _ rfl, vp_in_nI hc (by decide), fun h2 e2 => ?_⟩
  rw [nI_clamp (by omega)] at e2
  subst e2
  exact hQ _ (c_wei c x2 hW)
theorem C_units_no (hn : ¬ ((0 ≤ x1.toInt ∧ x1.toInt < 4) ∧ 0 ≤ x2.toInt ∧ x2.toInt ≤ 1000)) (hQ : Q (-4) h) : P_Rows_units Q h (α 0 0) x1 x2 := by
  by_cases hc : 0 ≤ x1.toInt ∧ x1.toInt < 4
  · exact C_isKind_yes hc.1 hc.2 ⟨fun z => absurd z (by decide), fun _ => C_isIn_no (by rw [l32_0, l32_1000]; omega) ⟨fun z => absurd rfl z, fun _ => hQ⟩⟩
  · exact C_isKind_no hc ⟨fun _ => hQ, fun z => absurd rfl z⟩
theorem C_units_ok {c : Nat} (hc : c < 4) (h0 : 0 ≤ x2.toInt) (h40 : x2.toInt ≤ 1000) (hW : Wd h α (cA α R D S th)) (hQ : ∀ h', Wd h' α (cA α (s_up R 7 c x2) D S th) → Q 1 h') : P_Rows_units Q h (α 0 0) (nI c) x2 := by
  have ec : (nI c).toInt = c := nI_toInt (by omega)
  refine C_isKind_yes (by omega) (by omega) ⟨fun z => absurd z (by decide), fun _ => C_isIn_yes (by rw [l32_0]; omega) (by rw [l32_1000]; omega) ⟨fun _ => ?_, fun z => absurd z (by decide)⟩⟩
  refine ⟨_, _, hW.1 0 0 _ rfl, rfl, _, _, hW.1 9 0 _ rfl, vp_in_nI hc (by decide), fun h2 e2 => ?_⟩
  rw [nI_clamp (by omega)] at e2
  subst e2
  exact hQ _ (c_uni c x2 hW)
theorem C_window_no (hn : ¬ ((0 ≤ x1.toInt ∧ x1.toInt < 36) ∧ (0 ≤ x2.toInt ∧ x2.toInt < 1440) ∧ 0 ≤ x3.toInt ∧ x3.toInt < 1440)) (hQ : Q (-4) h) : P_Rows_window Q h (α 0 0) x1 x2 x3 := by
  by_cases hc : 0 ≤ x1.toInt ∧ x1.toInt < 36
  · refine C_isClass_yes hc.1 hc.2 ⟨fun z => absurd z (by decide), fun _ => ?_⟩
    by_cases h2 : 0 ≤ x2.toInt ∧ x2.toInt < 1440
    · exact C_isIn_yes (by rw [l32_0]; omega) (by rw [l32_1439]; omega) ⟨fun z => absurd z (by decide), fun _ => C_isIn_no (by rw [l32_0, l32_1439]; omega) ⟨fun z => absurd rfl z, fun _ => hQ⟩⟩
    · exact C_isIn_no (by rw [l32_0, l32_1439]; omega) ⟨fun _ => hQ, fun z => absurd rfl z⟩
  · exact C_isClass_no hc ⟨fun _ => hQ, fun z => absurd rfl z⟩
theorem C_window_ok {c : Nat} (hc : c < 36) (a2 : 0 ≤ x2.toInt) (b2 : x2.toInt < 1440) (a3 : 0 ≤ x3.toInt) (b3 : x3.toInt < 1440) (hW : Wd h α (cA α R D S th)) (hQ : ∀ h', Wd h' α (cA α (s_up (s_up R 4 c x2) 5 c x3) D S th) → Q 1 h') : P_Rows_window Q h (α 0 0) (nI c) x2 x3 := by
  have ec : (nI c).toInt = c := nI_toInt (by omega)
  refine C_isClass_yes (by omega) (by omega) ⟨fun z => absurd z (by decide), fun _ => C_isIn_yes (by rw [l32_0]; omega) (by rw [l32_1439]; omega) ⟨fun z => absurd z (by decide), fun _ => C_isIn_yes (by rw [l32_0]; omega) (by rw [l32_1439]; omega) ⟨fun _ => ?_, fun z => absurd z (by decide)⟩⟩⟩
  refine ⟨_, _, hW.1 0 0 _ rfl, rfl, _, _, hW.1 6 0 _ rfl, vp_in_nI hc (by decide), fun h2 e2 => ?_⟩
  rw [nI_clamp (by omega)] at e2
  have hW2 : Wd h2 α (cA α (s_up R 4 c x2) D S th) := by subst e2; exact c_fro c x2 hW
  refine ⟨_, _, hW2.1 0 0 _ rfl, rfl, _, _, hW2.1 7 0 _ rfl, vp_in_nI hc (by decide), fun h3 e3 => ?_⟩
  rw [nI_clamp (by omega)] at e3
  subst e3
  exact hQ _ (c_tos c x3 hW2)
theorem C_age_no {x1 : Int64} (hn : ¬ (0 ≤ x1.toInt ∧ 0 ≤ x3.toInt ∧ x3.toInt ≤ 15)) (hQ : Q (-4) h) : P_Rows_age Q h (α 0 0) x1 x3 := by
  refine ⟨fun _ => hQ, fun z => C_isIn_no (by rw [l32_0, l32_15]; (simp only [Int32.lt_iff_toInt_lt, Int32.le_iff_toInt_le, ← Int32.toInt_inj, Int64.lt_iff_toInt_lt, Int64.le_iff_toInt_le, ← Int64.toInt_inj, not_true_eq_false, not_false_eq_true, l32_0, l32_1, l32_2, l32_3, l32_4, l32_5, l32_6, l32_7, l32_8, l32_10, l32_11, l32_12, l32_13, l32_15, l32_36, l32_40, l32_64, l32_99, l32_100, l32_1000, l32_1439, l32_1440, l32_m1, l32_m2, l32_m4, l32_m5, l64_0, l64_1, l64_15, l64_1440, l64_m1] at * <;> omega)) ⟨fun z => absurd rfl z, fun _ => hQ⟩⟩
theorem C_age_ok {x1 : Int64} (a1 : 0 ≤ x1.toInt) (a3 : 0 ≤ x3.toInt) (b3 : x3.toInt ≤ 15) (hW : Wd h α (cA α R D S th)) (hQ : ∀ h', Wd h' α (cA α (s_up (s_upL R 3 0 x1) 17 0 x3) D S th) → Q 1 h') : P_Rows_age Q h (α 0 0) x1 x3 := by
  refine ⟨fun _ => ?_, fun _ => C_isIn_yes (by rw [l32_0]; omega) (by rw [l32_15]; omega) ⟨fun _ => ?_, fun z => absurd z (by decide)⟩⟩
  · exfalso; (simp only [Int32.lt_iff_toInt_lt, Int32.le_iff_toInt_le, ← Int32.toInt_inj, Int64.lt_iff_toInt_lt, Int64.le_iff_toInt_le, ← Int64.toInt_inj, not_true_eq_false, not_false_eq_true, l32_0, l32_1, l32_2, l32_3, l32_4, l32_5, l32_6, l32_7, l32_8, l32_10, l32_11, l32_12, l32_13, l32_15, l32_36, l32_40, l32_64, l32_99, l32_100, l32_1000, l32_1439, l32_1440, l32_m1, l32_m2, l32_m4, l32_m5, l64_0, l64_1, l64_15, l64_1440, l64_m1] at * <;> omega)
  refine ⟨_, hW.1 0 0 _ rfl, Nat.le_of_ble_eq_true rfl, fun h2 e2 => ?_⟩
  have hW2 : Wd h2 α (cA α (s_upL R 3 0 x1) D S th) := by subst e2; exact c_per x1 hW
  refine ⟨_, hW2.1 0 0 _ rfl, Nat.le_of_ble_eq_true rfl, fun h3 e3 => ?_⟩
  subst e3
  exact hQ _ (c_most x3 hW2)
-- a job waits
theorem C_waits_yes (hj : j < R.2.2.2) (hs : R.1 11 j = 0) (hW : Wd h α (cA α R D S th)) (hQ : Q 1 h) : P_Job_isWaiting Q h (α 17 j) := by
  have e : stg R j = 0 ∨ stg R j = 1 := by
    unfold stg
    rw [if_pos hs]
    by_cases c : R.1 13 j = 0
    · rw [if_pos c]; exact Or.inl rfl
    · rw [if_neg c]; exact Or.inr rfl
  refine ⟨_, _, hW.1 17 j _ (cA_17 hj), rfl, fun _ => hQ, fun z => ⟨_, _, hW.1 17 j _ (cA_17 hj), rfl, fun y => ?_, fun _ => hQ⟩⟩
  rcases e with e | e
  · exact absurd e z
  · exact absurd e y
theorem C_waits_no (hj : j < R.2.2.2) (hs : R.1 11 j = 2 ∨ R.1 11 j = 3) (hW : Wd h α (cA α R D S th)) (hQ : Q 0 h) : P_Job_isWaiting Q h (α 17 j) := by
  have e : stg R j = R.1 11 j := by
    unfold stg
    rw [if_neg (by rcases hs with e | e <;> rw [e] <;> decide)]
  refine ⟨_, _, hW.1 17 j _ (cA_17 hj), rfl, fun z => ?_, fun z => ⟨_, _, hW.1 17 j _ (cA_17 hj), rfl, fun y => hQ, fun y => ?_⟩⟩
  · rw [e] at z; rcases hs with q | q <;> rw [q] at z <;> exact absurd z (by decide)
  · rw [e] at y; rcases hs with q | q <;> rw [q] at y <;> exact absurd y (by decide)
-- no such job, no such initiator
theorem C_uses_2 (hj : R.2.2.2 ≤ 100) (hn : ¬ (1 ≤ x1.toInt ∧ x1.toInt ≤ R.2.2.2)) (hW : Wd h α (cA α R D S th)) (hQ : Q (-2) h) : P_Rows_uses Q h (α 0 0) x1 x2 x3 :=
  ⟨_, hW.1 0 0 _ rfl, C_findJob_no hW hj hn ⟨fun _ => hQ, fun _ z => (nomatch z)⟩⟩
theorem C_alone_2 (hj : R.2.2.2 ≤ 100) (hn : ¬ (1 ≤ x1.toInt ∧ x1.toInt ≤ R.2.2.2)) (hW : Wd h α (cA α R D S th)) (hQ : Q (-2) h) : P_Rows_alone Q h (α 0 0) x1 :=
  ⟨_, hW.1 0 0 _ rfl, C_findJob_no hW hj hn ⟨fun _ => hQ, fun _ z => (nomatch z)⟩⟩
theorem C_hold_2 (hj : R.2.2.2 ≤ 100) (hn : ¬ (1 ≤ x1.toInt ∧ x1.toInt ≤ R.2.2.2)) (hW : Wd h α (cA α R D S th)) (hQ : Q (-2) h) : P_Rows_hold Q h (α 0 0) x1 x2 :=
  ⟨_, hW.1 0 0 _ rfl, C_findJob_no hW hj hn ⟨fun _ => hQ, fun _ z => (nomatch z)⟩⟩
theorem C_state_2 (hj : R.2.2.2 ≤ 100) (hn : ¬ (1 ≤ x1.toInt ∧ x1.toInt ≤ R.2.2.2)) (hW : Wd h α (cA α R D S th)) (hQ : Q (-1) h) : P_Rows_state Q h (α 0 0) x1 :=
  ⟨_, hW.1 0 0 _ rfl, C_findJob_no hW hj hn ⟨fun _ => hQ, fun _ z => (nomatch z)⟩⟩
theorem C_waited_2 {Q : Int64 → hM → Prop} (hj : R.2.2.2 ≤ 100) (hn : ¬ (1 ≤ x1.toInt ∧ x1.toInt ≤ R.2.2.2)) (hW : Wd h α (cA α R D S th)) (hQ : Q (-1) h) : P_Rows_waited Q h (α 0 0) x1 :=
  ⟨_, hW.1 0 0 _ rfl, C_findJob_no hW hj hn ⟨fun _ => hQ, fun _ z => (nomatch z)⟩⟩
theorem C_cls_2 (hj : R.2.2.1 ≤ 12) (hn : ¬ (1 ≤ x1.toInt ∧ x1.toInt ≤ R.2.2.1)) (hW : Wd h α (cA α R D S th)) (hQ : Q (-2) h) : P_Rows_cls Q h (α 0 0) x1 x2 x3 :=
  ⟨_, hW.1 0 0 _ rfl, C_findIni_no hW hj hn ⟨fun _ => hQ, fun _ z => (nomatch z)⟩⟩
theorem C_drain_2 (hj : R.2.2.1 ≤ 12) (hn : ¬ (1 ≤ x1.toInt ∧ x1.toInt ≤ R.2.2.1)) (hW : Wd h α (cA α R D S th)) (hQ : Q (-2) h) : P_Rows_drain Q h (α 0 0) x1 x2 :=
  ⟨_, hW.1 0 0 _ rfl, C_findIni_no hW hj hn ⟨fun _ => hQ, fun _ z => (nomatch z)⟩⟩
-- uses
theorem C_uses_4 (hb : R.2.2.2 ≤ 100) (hL : LOk α D 1 17 R.2.2.2) (hj : j < R.2.2.2) (hn : ¬ ((0 ≤ x2.toInt ∧ x2.toInt < 4) ∧ 0 ≤ x3.toInt ∧ x3.toInt ≤ 1000)) (hW : Wd h α (cA α R D S th)) (hQ : Q (-4) h) : P_Rows_uses Q h (α 0 0) (nI (j + 1)) x2 x3 := by
  refine ⟨_, hW.1 0 0 _ rfl, C_findJob_yes hW hb hL hj ⟨fun z => (nomatch z), fun a e => ?_⟩⟩
  by_cases hc : 0 ≤ x2.toInt ∧ x2.toInt < 4
  · exact C_isKind_yes hc.1 hc.2 ⟨fun z => absurd z (by decide), fun _ => C_isIn_no (by rw [l32_0, l32_1000]; omega) ⟨fun z => absurd rfl z, fun _ => hQ⟩⟩
  · exact C_isKind_no hc ⟨fun _ => hQ, fun z => absurd rfl z⟩
theorem C_uses_5 (hb : R.2.2.2 ≤ 100) (hL : LOk α D 1 17 R.2.2.2) (hj : j < R.2.2.2) (a2 : 0 ≤ x2.toInt) (b2 : x2.toInt < 4) (a3 : 0 ≤ x3.toInt) (b3 : x3.toInt ≤ 1000) (hs : R.1 11 j = 2 ∨ R.1 11 j = 3) (hW : Wd h α (cA α R D S th)) (hQ : Q (-5) h) : P_Rows_uses Q h (α 0 0) (nI (j + 1)) x2 x3 := by
  refine ⟨_, hW.1 0 0 _ rfl, C_findJob_yes hW hb hL hj ⟨fun z => (nomatch z), fun a e => ?_⟩⟩
  cases e
  exact C_isKind_yes a2 b2 ⟨fun z => absurd z (by decide), fun _ => C_isIn_yes (by rw [l32_0]; omega) (by rw [l32_1000]; omega) ⟨fun _ => ⟨_, hW.1 17 j _ (cA_17 hj), C_waits_no hj hs hW ⟨fun z => absurd rfl z, fun _ => hQ⟩⟩, fun z => absurd z (by decide)⟩⟩
theorem C_uses_ok {q : Nat} (hb : R.2.2.2 ≤ 100) (hL : LOk α D 1 17 R.2.2.2) (hj : j < R.2.2.2) (hq : q < 4) (a3 : 0 ≤ x3.toInt) (b3 : x3.toInt ≤ 1000) (hs : R.1 11 j = 0) (hW : Wd h α (cA α R D S th)) (hQ : ∀ h', Wd h' α (cA α (s_up R 12 (4 * j + q) x3) D S th) → Q 1 h') : P_Rows_uses Q h (α 0 0) (nI (j + 1)) (nI q) x3 := by
  have ec : (nI q).toInt = q := nI_toInt (by omega)
  refine ⟨_, hW.1 0 0 _ rfl, C_findJob_yes hW hb hL hj ⟨fun z => (nomatch z), fun a e => ?_⟩⟩
  cases e
  refine C_isKind_yes (by omega) (by omega) ⟨fun z => absurd z (by decide), fun _ => C_isIn_yes (by rw [l32_0]; omega) (by rw [l32_1000]; omega) ⟨fun _ => ⟨_, hW.1 17 j _ (cA_17 hj), C_waits_yes hj hs hW ⟨fun _ => ?_, fun z => absurd z (by decide)⟩⟩, fun z => absurd z (by decide)⟩⟩
  refine ⟨_, _, hW.1 17 j _ (cA_17 hj), rfl, _, _, hW.1 18 j _ (cA_18 hj), vp_in_nI hq (by decide), fun h2 e2 => ?_⟩
  rw [nI_clamp (by omega)] at e2
  subst e2
  exact hQ _ (c_uses hj hq x3 hW)
-- alone
theorem C_alone_5 (hb : R.2.2.2 ≤ 100) (hL : LOk α D 1 17 R.2.2.2) (hj : j < R.2.2.2) (hs : R.1 11 j = 2 ∨ R.1 11 j = 3) (hW : Wd h α (cA α R D S th)) (hQ : Q (-5) h) : P_Rows_alone Q h (α 0 0) (nI (j + 1)) := by
  refine ⟨_, hW.1 0 0 _ rfl, C_findJob_yes hW hb hL hj ⟨fun z => (nomatch z), fun a e => ?_⟩⟩
  cases e
  exact ⟨_, hW.1 17 j _ (cA_17 hj), C_waits_no hj hs hW ⟨fun z => absurd rfl z, fun _ => hQ⟩⟩
theorem C_alone_ok (hb : R.2.2.2 ≤ 100) (hL : LOk α D 1 17 R.2.2.2) (hj : j < R.2.2.2) (hs : R.1 11 j = 0) (hW : Wd h α (cA α R D S th)) (hQ : ∀ h', Wd h' α (cA α (s_up R 14 j 1) D S th) → Q 1 h') : P_Rows_alone Q h (α 0 0) (nI (j + 1)) := by
  refine ⟨_, hW.1 0 0 _ rfl, C_findJob_yes hW hb hL hj ⟨fun z => (nomatch z), fun a e => ?_⟩⟩
  cases e
  refine ⟨_, hW.1 17 j _ (cA_17 hj), C_waits_yes hj hs hW ⟨fun _ => ?_, fun z => absurd z (by decide)⟩⟩
  refine ⟨_, hW.1 17 j _ (cA_17 hj), Nat.le_of_ble_eq_true rfl, fun h2 e2 => ?_⟩
  subst e2
  exact hQ _ (c_lone hj 1 hW)
-- hold
theorem C_hold_5 (hb : R.2.2.2 ≤ 100) (hL : LOk α D 1 17 R.2.2.2) (hj : j < R.2.2.2) (hs : R.1 11 j = 2 ∨ R.1 11 j = 3) (hW : Wd h α (cA α R D S th)) (hQ : Q (-5) h) : P_Rows_hold Q h (α 0 0) (nI (j + 1)) x2 := by
  refine ⟨_, hW.1 0 0 _ rfl, C_findJob_yes hW hb hL hj ⟨fun z => (nomatch z), fun a e => ?_⟩⟩
  cases e
  exact ⟨_, hW.1 17 j _ (cA_17 hj), C_waits_no hj hs hW ⟨fun z => absurd rfl z, fun _ => hQ⟩⟩
theorem C_hold_ok (hb : R.2.2.2 ≤ 100) (hL : LOk α D 1 17 R.2.2.2) (hj : j < R.2.2.2) (hs : R.1 11 j = 0) (hh : R.1 13 j = 0 ∨ R.1 13 j = 1) (hx : x2 = 0 ∨ x2 = 1) (hW : Wd h α (cA α R D S th)) (hQ : ∀ h', Wd h' α (cA α (s_up R 13 j x2) D S th) → Q (if R.1 13 j = x2 then 0 else 1) h') : P_Rows_hold Q h (α 0 0) (nI (j + 1)) x2 := by
  have es : stg R j = R.1 13 j := by
    unfold stg
    rw [if_pos hs]
    rcases hh with e | e <;> rw [e] <;> rfl
  have key : P_Rows_hold_32 Q h (α 17 j) x2 := by
    refine ⟨_, _, hW.1 17 j _ (cA_17 hj), rfl, fun z => ⟨_, hW.1 17 j _ (cA_17 hj), Nat.le_of_ble_eq_true rfl, fun h2 e2 => ?_⟩, fun z => ?_⟩
    · subst e2
      have := hQ _ (c_held hj hs hx hW)
      rwa [if_neg (by rw [← es]; exact z)] at this
    · have e : s_up R 13 j x2 = R := by
        unfold s_up
        have e1 : (fun k' => if k' = 13 then upd (R.1 13) j x2 else R.1 k') = R.1 := by
          funext k i
          by_cases hk : k = 13
          · rw [if_pos hk, hk]
            by_cases hi : i = j
            · rw [hi, pk_us, ← es]; exact z.symm
            · rw [pk_un hi]
          · rw [if_neg hk]
        rw [e1]
      have := hQ h (by rw [e]; exact hW)
      rwa [if_pos (by rw [← es]; exact z)] at this
  refine ⟨_, hW.1 0 0 _ rfl, C_findJob_yes hW hb hL hj ⟨fun z => (nomatch z), fun a e => ?_⟩⟩
  cases e
  refine ⟨_, hW.1 17 j _ (cA_17 hj), C_waits_yes hj hs hW ⟨fun _ => ⟨fun z => ?_, fun z => ?_⟩, fun z => absurd z (by decide)⟩⟩
  · rw [z] at key; exact key
  · rcases hx with e | e
    · exact absurd e z
    · rw [e] at key; exact key
-- drain
theorem C_drain_ok (hb : R.2.2.1 ≤ 12) (hL : LOk α D 0 15 R.2.2.1) (hj : j < R.2.2.1) (hx : x2 = 0 ∨ x2 = 1) (hW : Wd h α (cA α R D S th)) (hQ : ∀ h', Wd h' α (cA α (s_up R 2 j x2) D S th) → Q (if R.1 2 j = x2 then 0 else 1) h') : P_Rows_drain Q h (α 0 0) (nI (j + 1)) x2 := by
  refine ⟨_, hW.1 0 0 _ rfl, C_findIni_yes hW hb hL hj ⟨fun z => (nomatch z), fun a e => ?_⟩⟩
  cases e
  refine ⟨_, _, hW.1 15 j _ (cA_15 hj), rfl, fun z => ⟨hx, _, hW.1 15 j _ (cA_15 hj), Nat.le_of_ble_eq_true rfl, fun h2 e2 => ?_⟩, fun z => ?_⟩
  · subst e2
    have := hQ _ (c_drain hj x2 hW)
    rwa [if_neg z] at this
  · have e : s_up R 2 j x2 = R := by
      unfold s_up
      have e1 : (fun k' => if k' = 2 then upd (R.1 2) j x2 else R.1 k') = R.1 := by
        funext k i
        by_cases hk : k = 2
        · rw [if_pos hk, hk]
          by_cases hi : i = j
          · rw [hi, pk_us]; exact z.symm
          · rw [pk_un hi]
        · rw [if_neg hk]
      rw [e1]
    have := hQ h (by rw [e]; exact hW)
    rwa [if_pos z] at this
-- cls
theorem C_cls_4 (hb : R.2.2.1 ≤ 12) (hL : LOk α D 0 15 R.2.2.1) (hj : j < R.2.2.1) (hn : ¬ ((0 ≤ x2.toInt ∧ x2.toInt < 8) ∧ -1 ≤ x3.toInt ∧ x3.toInt < 36)) (hW : Wd h α (cA α R D S th)) (hQ : Q (-4) h) : P_Rows_cls Q h (α 0 0) (nI (j + 1)) x2 x3 := by
  refine ⟨_, hW.1 0 0 _ rfl, C_findIni_yes hW hb hL hj ⟨fun z => (nomatch z), fun a e => ?_⟩⟩
  by_cases hc : 0 ≤ x2.toInt ∧ x2.toInt < 8
  · refine C_isIn_yes (by rw [l32_0]; omega) (by rw [l32_7]; omega) ⟨fun z => absurd z (by decide), fun _ => ⟨fun z => ?_, fun z => C_isClass_no ?_ ⟨fun z => absurd rfl z, fun _ => hQ⟩⟩⟩
    · exfalso; (simp only [Int32.lt_iff_toInt_lt, Int32.le_iff_toInt_le, ← Int32.toInt_inj, Int64.lt_iff_toInt_lt, Int64.le_iff_toInt_le, ← Int64.toInt_inj, not_true_eq_false, not_false_eq_true, l32_0, l32_1, l32_2, l32_3, l32_4, l32_5, l32_6, l32_7, l32_8, l32_10, l32_11, l32_12, l32_13, l32_15, l32_36, l32_40, l32_64, l32_99, l32_100, l32_1000, l32_1439, l32_1440, l32_m1, l32_m2, l32_m4, l32_m5, l64_0, l64_1, l64_15, l64_1440, l64_m1] at * <;> omega)
    · have : ¬ x3.toInt = -1 := fun q => z (Int32.toInt_inj.mp (by rw [l32_m1]; exact q))
      omega
  · exact C_isIn_no (by rw [l32_0, l32_7]; omega) ⟨fun _ => hQ, fun z => absurd rfl z⟩
theorem C_cls_ok {q : Nat} (hb : R.2.2.1 ≤ 12) (hL : LOk α D 0 15 R.2.2.1) (hj : j < R.2.2.1) (hq : q < 8) (a3 : -1 ≤ x3.toInt) (b3 : x3.toInt < 36) (hW : Wd h α (cA α R D S th)) (hQ : ∀ h', Wd h' α (cA α (s_up R 0 (8 * j + q) x3) D S th) → Q 1 h') : P_Rows_cls Q h (α 0 0) (nI (j + 1)) (nI q) x3 := by
  have ec : (nI q).toInt = q := nI_toInt (by omega)
  have key : P_Rows_cls_40 Q h (nI q) x3 (α 15 j) := by
    refine ⟨_, _, hW.1 15 j _ (cA_15 hj), rfl, _, _, hW.1 16 j _ (cA_16 hj), vp_in_nI hq (by decide), fun h2 e2 => ?_⟩
    rw [nI_clamp (by omega)] at e2
    subst e2
    exact hQ _ (c_list hj hq x3 hW)
  refine ⟨_, hW.1 0 0 _ rfl, C_findIni_yes hW hb hL hj ⟨fun z => (nomatch z), fun a e => ?_⟩⟩
  cases e
  refine C_isIn_yes (by rw [l32_0]; omega) (by rw [l32_7]; omega) ⟨fun z => absurd z (by decide), fun _ => ⟨fun z => key, fun z => C_isClass_yes ?_ b3 ⟨fun _ => key, fun z => absurd z (by decide)⟩⟩⟩
  have : ¬ x3.toInt = -1 := fun q => z (Int32.toInt_inj.mp (by rw [l32_m1]; exact q))
  omega
-- state, waited
theorem C_state_ok (hb : R.2.2.2 ≤ 100) (hL : LOk α D 1 17 R.2.2.2) (hj : j < R.2.2.2) (hW : Wd h α (cA α R D S th)) (hQ : Q (stg R j) h) : P_Rows_state Q h (α 0 0) (nI (j + 1)) := by
  refine ⟨_, hW.1 0 0 _ rfl, C_findJob_yes hW hb hL hj ⟨fun z => (nomatch z), fun a e => ?_⟩⟩
  cases e
  exact ⟨_, _, hW.1 17 j _ (cA_17 hj), rfl, hQ⟩
theorem C_waited_ok {Q : Int64 → hM → Prop} (hb : R.2.2.2 ≤ 100) (hL : LOk α D 1 17 R.2.2.2) (hj : j < R.2.2.2) (hs : R.1 11 j = 0 ∨ R.1 11 j = 2 ∨ R.1 11 j = 3) (hW : Wd h α (cA α R D S th)) (hQ : Q ((if R.1 11 j = 0 then R.2.1 2 0 else R.2.1 1 j) - R.2.1 0 j) h) : P_Rows_waited Q h (α 0 0) (nI (j + 1)) := by
  refine ⟨_, hW.1 0 0 _ rfl, C_findJob_yes hW hb hL hj ⟨fun z => (nomatch z), fun a e => ?_⟩⟩
  cases e
  refine ⟨_, hW.1 17 j _ (cA_17 hj), ?_⟩
  rcases hs with hs | hs
  · rw [if_pos hs] at hQ
    exact C_waits_yes hj hs hW ⟨fun z => absurd z (by decide), fun _ => ⟨_, _, hW.1 0 0 _ rfl, rfl, _, _, hW.1 17 j _ (cA_17 hj), rfl, hQ⟩⟩
  · have h0 : ¬ R.1 11 j = 0 := by rcases hs with e | e <;> rw [e] <;> decide
    rw [if_neg h0] at hQ
    refine C_waits_no hj hs hW ⟨fun _ => ⟨_, _, hW.1 17 j _ (cA_17 hj), rfl, _, _, hW.1 17 j _ (cA_17 hj), rfl, ?_⟩, fun z => absurd rfl z⟩
    rw [if_neg h0]
    exact hQ
end C2
