section M2
variable {h : hM} {α : Nat → Nat → Nat} {R S : mS} {D : dS} {th : Int32} {x1 x2 x3 : Int32} {Q : Int32 → hM → Prop}
theorem M_isClass_yes (h1 : 0 ≤ x1.toInt) (h2 : x1.toInt < 36) (hQ : Q 1 h) : P_Mod_isClass Q h x1 := by
  unfold P_Mod_isClass
  repeat' (first | exact hQ | apply And.intro | intro _)
  all_goals (exfalso; (simp only [Int32.lt_iff_toInt_lt, Int32.le_iff_toInt_le, ← Int32.toInt_inj, Int64.lt_iff_toInt_lt, Int64.le_iff_toInt_le, ← Int64.toInt_inj, not_true_eq_false, not_false_eq_true, l32_0, l32_1, l32_2, l32_3, l32_4, l32_5, l32_6, l32_7, l32_8, l32_10, l32_11, l32_12, l32_13, l32_15, l32_36, l32_40, l32_64, l32_99, l32_100, l32_1000, l32_1439, l32_1440, l32_m1, l32_m2, l32_m4, l32_m5, l64_0, l64_1, l64_15, l64_1440, l64_m1] at * <;> omega))
theorem M_isClass_no (hn : ¬ (0 ≤ x1.toInt ∧ x1.toInt < 36)) (hQ : Q 0 h) : P_Mod_isClass Q h x1 := by
  unfold P_Mod_isClass
  repeat' (first | exact hQ | apply And.intro | intro _)
  all_goals (exfalso; (simp only [Int32.lt_iff_toInt_lt, Int32.le_iff_toInt_le, ← Int32.toInt_inj, Int64.lt_iff_toInt_lt, Int64.le_iff_toInt_le, ← Int64.toInt_inj, not_true_eq_false, not_false_eq_true, l32_0, l32_1, l32_2, l32_3, l32_4, l32_5, l32_6, l32_7, l32_8, l32_10, l32_11, l32_12, l32_13, l32_15, l32_36, l32_40, l32_64, l32_99, l32_100, l32_1000, l32_1439, l32_1440, l32_m1, l32_m2, l32_m4, l32_m5, l64_0, l64_1, l64_15, l64_1440, l64_m1] at * <;> omega))
theorem M_isMinute_yes (h1 : 0 ≤ x1.toInt) (h2 : x1.toInt < 1440) (hQ : Q 1 h) : P_Mod_isMinute Q h x1 := by
  unfold P_Mod_isMinute
  repeat' (first | exact hQ | apply And.intro | intro _)
  all_goals (exfalso; (simp only [Int32.lt_iff_toInt_lt, Int32.le_iff_toInt_le, ← Int32.toInt_inj, Int64.lt_iff_toInt_lt, Int64.le_iff_toInt_le, ← Int64.toInt_inj, not_true_eq_false, not_false_eq_true, l32_0, l32_1, l32_2, l32_3, l32_4, l32_5, l32_6, l32_7, l32_8, l32_10, l32_11, l32_12, l32_13, l32_15, l32_36, l32_40, l32_64, l32_99, l32_100, l32_1000, l32_1439, l32_1440, l32_m1, l32_m2, l32_m4, l32_m5, l64_0, l64_1, l64_15, l64_1440, l64_m1] at * <;> omega))
theorem M_isMinute_no (hn : ¬ (0 ≤ x1.toInt ∧ x1.toInt < 1440)) (hQ : Q 0 h) : P_Mod_isMinute Q h x1 := by
  unfold P_Mod_isMinute
  repeat' (first | exact hQ | apply And.intro | intro _)
  all_goals (exfalso; (simp only [Int32.lt_iff_toInt_lt, Int32.le_iff_toInt_le, ← Int32.toInt_inj, Int64.lt_iff_toInt_lt, Int64.le_iff_toInt_le, ← Int64.toInt_inj, not_true_eq_false, not_false_eq_true, l32_0, l32_1, l32_2, l32_3, l32_4, l32_5, l32_6, l32_7, l32_8, l32_10, l32_11, l32_12, l32_13, l32_15, l32_36, l32_40, l32_64, l32_99, l32_100, l32_1000, l32_1439, l32_1440, l32_m1, l32_m2, l32_m4, l32_m5, l64_0, l64_1, l64_15, l64_1440, l64_m1] at * <;> omega))
theorem M_isJob_yes {j : Nat} (hW : Wd h α (cA α R D S th)) (hj : j < S.2.2.2) (hb : S.2.2.2 ≤ 100) (hQ : Q 1 h) : P_Mod_isJob Q h (α 20 0) (nI (j + 1)) := by
  have e1 : (nI (j + 1)).toInt = (j + 1 : Nat) := nI_toInt (by omega)
  have e2 : (nI S.2.2.2).toInt = S.2.2.2 := nI_toInt (by omega)
  refine ⟨fun _ => ?_, fun _ => ⟨_, _, hW.1 20 0 _ rfl, rfl, fun _ => ?_, fun _ => hQ⟩⟩
  · exfalso; (simp only [Int32.lt_iff_toInt_lt, Int32.le_iff_toInt_le, ← Int32.toInt_inj, Int64.lt_iff_toInt_lt, Int64.le_iff_toInt_le, ← Int64.toInt_inj, not_true_eq_false, not_false_eq_true, l32_0, l32_1, l32_2, l32_3, l32_4, l32_5, l32_6, l32_7, l32_8, l32_10, l32_11, l32_12, l32_13, l32_15, l32_36, l32_40, l32_64, l32_99, l32_100, l32_1000, l32_1439, l32_1440, l32_m1, l32_m2, l32_m4, l32_m5, l64_0, l64_1, l64_15, l64_1440, l64_m1] at * <;> omega)
  · exfalso; (simp only [Int32.lt_iff_toInt_lt, Int32.le_iff_toInt_le, ← Int32.toInt_inj, Int64.lt_iff_toInt_lt, Int64.le_iff_toInt_le, ← Int64.toInt_inj, not_true_eq_false, not_false_eq_true, l32_0, l32_1, l32_2, l32_3, l32_4, l32_5, l32_6, l32_7, l32_8, l32_10, l32_11, l32_12, l32_13, l32_15, l32_36, l32_40, l32_64, l32_99, l32_100, l32_1000, l32_1439, l32_1440, l32_m1, l32_m2, l32_m4, l32_m5, l64_0, l64_1, l64_15, l64_1440, l64_m1] at * <;> omega)
theorem M_isJob_no (hW : Wd h α (cA α R D S th)) (hn : ¬ (1 ≤ x1.toInt ∧ x1.toInt ≤ S.2.2.2)) (hb : S.2.2.2 ≤ 100) (hQ : Q 0 h) : P_Mod_isJob Q h (α 20 0) x1 := by
  have e2 : (nI S.2.2.2).toInt = S.2.2.2 := nI_toInt (by omega)
  refine ⟨fun _ => hQ, fun _ => ⟨_, _, hW.1 20 0 _ rfl, rfl, fun _ => hQ, fun _ => ?_⟩⟩
  exfalso; (simp only [Int32.lt_iff_toInt_lt, Int32.le_iff_toInt_le, ← Int32.toInt_inj, Int64.lt_iff_toInt_lt, Int64.le_iff_toInt_le, ← Int64.toInt_inj, not_true_eq_false, not_false_eq_true, l32_0, l32_1, l32_2, l32_3, l32_4, l32_5, l32_6, l32_7, l32_8, l32_10, l32_11, l32_12, l32_13, l32_15, l32_36, l32_40, l32_64, l32_99, l32_100, l32_1000, l32_1439, l32_1440, l32_m1, l32_m2, l32_m4, l32_m5, l64_0, l64_1, l64_15, l64_1440, l64_m1] at * <;> omega)
theorem M_isIni_yes {j : Nat} (hW : Wd h α (cA α R D S th)) (hj : j < S.2.2.1) (hb : S.2.2.1 ≤ 12) (hQ : Q 1 h) : P_Mod_isInitiator Q h (α 20 0) (nI (j + 1)) := by
  have e1 : (nI (j + 1)).toInt = (j + 1 : Nat) := nI_toInt (by omega)
  have e2 : (nI S.2.2.1).toInt = S.2.2.1 := nI_toInt (by omega)
  refine ⟨fun _ => ?_, fun _ => ⟨_, _, hW.1 20 0 _ rfl, rfl, fun _ => ?_, fun _ => hQ⟩⟩
  · exfalso; (simp only [Int32.lt_iff_toInt_lt, Int32.le_iff_toInt_le, ← Int32.toInt_inj, Int64.lt_iff_toInt_lt, Int64.le_iff_toInt_le, ← Int64.toInt_inj, not_true_eq_false, not_false_eq_true, l32_0, l32_1, l32_2, l32_3, l32_4, l32_5, l32_6, l32_7, l32_8, l32_10, l32_11, l32_12, l32_13, l32_15, l32_36, l32_40, l32_64, l32_99, l32_100, l32_1000, l32_1439, l32_1440, l32_m1, l32_m2, l32_m4, l32_m5, l64_0, l64_1, l64_15, l64_1440, l64_m1] at * <;> omega)
  · exfalso; (simp only [Int32.lt_iff_toInt_lt, Int32.le_iff_toInt_le, ← Int32.toInt_inj, Int64.lt_iff_toInt_lt, Int64.le_iff_toInt_le, ← Int64.toInt_inj, not_true_eq_false, not_false_eq_true, l32_0, l32_1, l32_2, l32_3, l32_4, l32_5, l32_6, l32_7, l32_8, l32_10, l32_11, l32_12, l32_13, l32_15, l32_36, l32_40, l32_64, l32_99, l32_100, l32_1000, l32_1439, l32_1440, l32_m1, l32_m2, l32_m4, l32_m5, l64_0, l64_1, l64_15, l64_1440, l64_m1] at * <;> omega)
theorem M_isIni_no (hW : Wd h α (cA α R D S th)) (hn : ¬ (1 ≤ x1.toInt ∧ x1.toInt ≤ S.2.2.1)) (hb : S.2.2.1 ≤ 12) (hQ : Q 0 h) : P_Mod_isInitiator Q h (α 20 0) x1 := by
  have e2 : (nI S.2.2.1).toInt = S.2.2.1 := nI_toInt (by omega)
  refine ⟨fun _ => hQ, fun _ => ⟨_, _, hW.1 20 0 _ rfl, rfl, fun _ => hQ, fun _ => ?_⟩⟩
  exfalso; (simp only [Int32.lt_iff_toInt_lt, Int32.le_iff_toInt_le, ← Int32.toInt_inj, Int64.lt_iff_toInt_lt, Int64.le_iff_toInt_le, ← Int64.toInt_inj, not_true_eq_false, not_false_eq_true, l32_0, l32_1, l32_2, l32_3, l32_4, l32_5, l32_6, l32_7, l32_8, l32_10, l32_11, l32_12, l32_13, l32_15, l32_36, l32_40, l32_64, l32_99, l32_100, l32_1000, l32_1439, l32_1440, l32_m1, l32_m2, l32_m4, l32_m5, l64_0, l64_1, l64_15, l64_1440, l64_m1] at * <;> omega)
theorem i_cell (m j q : Nat) : nI m * nI (j + 1) - nI m + nI q = nI (m * j + q) := by
  rw [pk_mul, pk_sub (by rw [Nat.mul_succ]; omega), nI_add]
  congr 2
  rw [Nat.mul_succ]; omega
theorem i_cell8 (j q : Nat) : (8 : Int32) * nI (j + 1) - 8 + nI q = nI (8 * j + q) := i_cell 8 j q
theorem i_cell4 (j q : Nat) : (4 : Int32) * nI (j + 1) - 4 + nI q = nI (4 * j + q) := i_cell 4 j q
-- window
theorem M_window_no (hn : ¬ ((0 ≤ x1.toInt ∧ x1.toInt < 36) ∧ (0 ≤ x2.toInt ∧ x2.toInt < 1440) ∧ 0 ≤ x3.toInt ∧ x3.toInt < 1440)) (hW : Wd h α (cA α R D S th)) (hQ : ∀ h', Wd h' α (cA α R D S 0) → Q (-4) h') : P_Mod_window Q h (α 20 0) x1 x2 x3 := by
  refine M_begin hW (fun h1 hW1 => ?_)
  unfold P_Mod_isClass P_Mod_isMinute
  repeat' (first | exact hQ _ hW1 | apply And.intro | intro _)
  all_goals (exfalso; (simp only [Int32.lt_iff_toInt_lt, Int32.le_iff_toInt_le, ← Int32.toInt_inj, Int64.lt_iff_toInt_lt, Int64.le_iff_toInt_le, ← Int64.toInt_inj, not_true_eq_false, not_false_eq_true, l32_0, l32_1, l32_2, l32_3, l32_4, l32_5, l32_6, l32_7, l32_8, l32_10, l32_11, l32_12, l32_13, l32_15, l32_36, l32_40, l32_64, l32_99, l32_100, l32_1000, l32_1439, l32_1440, l32_m1, l32_m2, l32_m4, l32_m5, l64_0, l64_1, l64_15, l64_1440, l64_m1] at * <;> omega))
theorem M_window_ok {c : Nat} (hc : c < 36) (a2 : 0 ≤ x2.toInt) (b2 : x2.toInt < 1440) (a3 : 0 ≤ x3.toInt) (b3 : x3.toInt < 1440) (hW : Wd h α (cA α R D S th)) (hQ : ∀ h', Wd h' α (cA α R D (s_up (s_up S 4 c x2) 5 c x3) 0) → Q 1 h') : P_Mod_window Q h (α 20 0) (nI c) x2 x3 := by
  have ec : (nI c).toInt = c := nI_toInt (by omega)
  refine M_begin hW (fun h1 hW1 => M_isClass_yes (by omega) (by omega) ⟨fun z => absurd z (by decide), fun _ => M_isMinute_yes a2 b2 ⟨fun z => absurd z (by decide), fun _ => M_isMinute_yes a3 b3 ⟨fun _ => ?_, fun z => absurd z (by decide)⟩⟩⟩)
  refine ⟨_, _, hW1.1 20 0 _ rfl, rfl, _, _, hW1.1 27 0 _ rfl, vp_in_nI hc (by decide), fun h2 e2 => ?_⟩
  rw [nI_clamp (by omega)] at e2
  have hW2 : Wd h2 α (cA α R D (s_up S 4 c x2) 0) := by subst e2; exact hW1.mset 4 (by decide) rfl rfl rfl _ _
  refine ⟨_, _, hW2.1 20 0 _ rfl, rfl, _, _, hW2.1 28 0 _ rfl, vp_in_nI hc (by decide), fun h3 e3 => ?_⟩
  rw [nI_clamp (by omega)] at e3
  subst e3
  exact hQ _ (hW2.mset 5 (by decide) rfl rfl rfl _ _)
-- units
theorem M_units_no (hn : ¬ ((0 ≤ x1.toInt ∧ x1.toInt < 4) ∧ 0 ≤ x2.toInt ∧ x2.toInt ≤ 1000)) (hW : Wd h α (cA α R D S th)) (hQ : ∀ h', Wd h' α (cA α R D S 0) → Q (-4) h') : P_Mod_units Q h (α 20 0) x1 x2 := by
  refine M_begin hW (fun h1 hW1 => ?_)
  repeat' (first | exact hQ _ hW1 | apply And.intro | intro _)
  all_goals (exfalso; (simp only [Int32.lt_iff_toInt_lt, Int32.le_iff_toInt_le, ← Int32.toInt_inj, Int64.lt_iff_toInt_lt, Int64.le_iff_toInt_le, ← Int64.toInt_inj, not_true_eq_false, not_false_eq_true, l32_0, l32_1, l32_2, l32_3, l32_4, l32_5, l32_6, l32_7, l32_8, l32_10, l32_11, l32_12, l32_13, l32_15, l32_36, l32_40, l32_64, l32_99, l32_100, l32_1000, l32_1439, l32_1440, l32_m1, l32_m2, l32_m4, l32_m5, l64_0, l64_1, l64_15, l64_1440, l64_m1] at * <;> omega))
theorem M_units_ok {c : Nat} (hc : c < 4) (a2 : 0 ≤ x2.toInt) (b2 : x2.toInt ≤ 1000) (hW : Wd h α (cA α R D S th)) (hQ : ∀ h', Wd h' α (cA α R D (s_up S 7 c x2) 0) → Q 1 h') : P_Mod_units Q h (α 20 0) (nI c) x2 := by
  have ec : (nI c).toInt = c := nI_toInt (by omega)
  refine M_begin hW (fun h1 hW1 => ⟨fun _ => ?_, fun _ => ⟨fun _ => ?_, fun _ => ⟨fun _ => ?_, fun _ => ⟨fun _ => ?_, fun _ => ?_⟩⟩⟩⟩) <;> try (exfalso; (simp only [Int32.lt_iff_toInt_lt, Int32.le_iff_toInt_le, ← Int32.toInt_inj, Int64.lt_iff_toInt_lt, Int64.le_iff_toInt_le, ← Int64.toInt_inj, not_true_eq_false, not_false_eq_true, l32_0, l32_1, l32_2, l32_3, l32_4, l32_5, l32_6, l32_7, l32_8, l32_10, l32_11, l32_12, l32_13, l32_15, l32_36, l32_40, l32_64, l32_99, l32_100, l32_1000, l32_1439, l32_1440, l32_m1, l32_m2, l32_m4, l32_m5, l64_0, l64_1, l64_15, l64_1440, l64_m1] at * <;> omega))
  refine ⟨_, _, hW1.1 20 0 _ rfl, rfl, _, _, hW1.1 30 0 _ rfl, vp_in_nI hc (by decide), fun h2 e2 => ?_⟩
  rw [nI_clamp (by omega)] at e2
  subst e2
  exact hQ _ (hW1.mset 7 (by decide) rfl rfl rfl _ _)
-- weight
theorem M_weight_no (hn : ¬ ((0 ≤ x1.toInt ∧ x1.toInt < 36) ∧ 0 ≤ x2.toInt ∧ x2.toInt ≤ 1000)) (hW : Wd h α (cA α R D S th)) (hQ : ∀ h', Wd h' α (cA α R D S 0) → Q (-4) h') : P_Mod_weight Q h (α 20 0) x1 x2 := by
  refine M_begin hW (fun h1 hW1 => ?_)
  unfold P_Mod_isClass
  repeat' (first | exact hQ _ hW1 | apply And.intro | intro _)
  all_goals (exfalso; (simp only [Int32.lt_iff_toInt_lt, Int32.le_iff_toInt_le, ← Int32.toInt_inj, Int64.lt_iff_toInt_lt, Int64.le_iff_toInt_le, ← Int64.toInt_inj, not_true_eq_false, not_false_eq_true, l32_0, l32_1, l32_2, l32_3, l32_4, l32_5, l32_6, l32_7, l32_8, l32_10, l32_11, l32_12, l32_13, l32_15, l32_36, l32_40, l32_64, l32_99, l32_100, l32_1000, l32_1439, l32_1440, l32_m1, l32_m2, l32_m4, l32_m5, l64_0, l64_1, l64_15, l64_1440, l64_m1] at * <;> omega))
theorem M_weight_ok {c : Nat} (hc : c < 36) (a2 : 0 ≤ x2.toInt) (b2 : x2.toInt ≤ 1000) (hW : Wd h α (cA α R D S th)) (hQ : ∀ h', Wd h' α (cA α R D (s_up S 6 c x2) 0) → Q 1 h') : P_Mod_weight Q h (α 20 0) (nI c) x2 := by
  have ec : (nI c).toInt = c := nI_toInt (by omega)
  refine M_begin hW (fun h1 hW1 => M_isClass_yes (by omega) (by omega) ⟨fun z => absurd z (by decide), fun _ => ⟨fun _ => ?_, fun _ => ⟨fun _ => ?_, fun _ => ?_⟩⟩⟩) <;> try (exfalso; (simp only [Int32.lt_iff_toInt_lt, Int32.le_iff_toInt_le, ← Int32.toInt_inj, Int64.lt_iff_toInt_lt, Int64.le_iff_toInt_le, ← Int64.toInt_inj, not_true_eq_false, not_false_eq_true, l32_0, l32_1, l32_2, l32_3, l32_4, l32_5, l32_6, l32_7, l32_8, l32_10, l32_11, l32_12, l32_13, l32_15, l32_36, l32_40, l32_64, l32_99, l32_100, l32_1000, l32_1439, l32_1440, l32_m1, l32_m2, l32_m4, l32_m5, l64_0, l64_1, l64_15, l64_1440, l64_m1] at * <;> omega))
  refine ⟨_, _, hW1.1 20 0 _ rfl, rfl, _, _, hW1.1 29 0 _ rfl, vp_in_nI hc (by decide), fun h2 e2 => ?_⟩
  rw [nI_clamp (by omega)] at e2
  subst e2
  exact hQ _ (hW1.mset 6 (by decide) rfl rfl rfl _ _)
-- age
theorem M_age_no {x1 : Int64} (hn : ¬ (0 ≤ x1.toInt ∧ 0 ≤ x3.toInt ∧ x3.toInt ≤ 15)) (hW : Wd h α (cA α R D S th)) (hQ : ∀ h', Wd h' α (cA α R D S 0) → Q (-4) h') : P_Mod_age Q h (α 20 0) x1 x3 := by
  refine M_begin hW (fun h1 hW1 => ?_)
  repeat' (first | exact hQ _ hW1 | apply And.intro | intro _)
  all_goals (exfalso; (simp only [Int32.lt_iff_toInt_lt, Int32.le_iff_toInt_le, ← Int32.toInt_inj, Int64.lt_iff_toInt_lt, Int64.le_iff_toInt_le, ← Int64.toInt_inj, not_true_eq_false, not_false_eq_true, l32_0, l32_1, l32_2, l32_3, l32_4, l32_5, l32_6, l32_7, l32_8, l32_10, l32_11, l32_12, l32_13, l32_15, l32_36, l32_40, l32_64, l32_99, l32_100, l32_1000, l32_1439, l32_1440, l32_m1, l32_m2, l32_m4, l32_m5, l64_0, l64_1, l64_15, l64_1440, l64_m1] at * <;> omega))
theorem M_age_ok {x1 : Int64} (a1 : 0 ≤ x1.toInt) (a3 : 0 ≤ x3.toInt) (b3 : x3.toInt ≤ 15) (hW : Wd h α (cA α R D S th)) (hQ : ∀ h', Wd h' α (cA α R D (s_up (s_upL S 3 0 x1) 17 0 x3) 0) → Q 1 h') : P_Mod_age Q h (α 20 0) x1 x3 := by
  refine M_begin hW (fun h1 hW1 => ⟨fun _ => ?_, fun _ => ⟨fun _ => ?_, fun _ => ⟨fun _ => ?_, fun _ => ?_⟩⟩⟩) <;> try (exfalso; (simp only [Int32.lt_iff_toInt_lt, Int32.le_iff_toInt_le, ← Int32.toInt_inj, Int64.lt_iff_toInt_lt, Int64.le_iff_toInt_le, ← Int64.toInt_inj, not_true_eq_false, not_false_eq_true, l32_0, l32_1, l32_2, l32_3, l32_4, l32_5, l32_6, l32_7, l32_8, l32_10, l32_11, l32_12, l32_13, l32_15, l32_36, l32_40, l32_64, l32_99, l32_100, l32_1000, l32_1439, l32_1440, l32_m1, l32_m2, l32_m4, l32_m5, l64_0, l64_1, l64_15, l64_1440, l64_m1] at * <;> omega))
  refine ⟨_, hW1.1 20 0 _ rfl, Nat.le_of_ble_eq_true rfl, fun h2 e2 => ?_⟩
  have hW2 : Wd h2 α (cA α R D (s_upL S 3 0 x1) 0) := by
    subst e2
    exact hW1.mhead (S' := s_upL S 3 0 x1) (th' := 0) (fun k => mAr_l2 k) rfl
  refine ⟨_, hW2.1 20 0 _ rfl, Nat.le_of_ble_eq_true rfl, fun h3 e3 => ?_⟩
  subst e3
  refine hQ _ (hW2.mhead (S' := s_up (s_upL S 3 0 x1) 17 0 x3) (th' := 0) (fun k => ?_) rfl)
  exact mAr_s2 k
end M2
