section M4
variable {h : hM} {α : Nat → Nat → Nat} {R S : mS} {D : dS} {th : Int32} {x1 x2 x3 : Int32} {x4 : Int64} {Q : Int32 → hM → Prop}
theorem M_initiator_no (hn : S.2.2.1 = 12) (hW : Wd h α (cA α R D S th)) (hQ : ∀ h', Wd h' α (cA α R D S 0) → Q (-1) h') : P_Mod_initiator Q h (α 20 0) := by
  refine M_begin hW (fun h1 hW1 => ⟨_, _, hW1.1 20 0 _ rfl, rfl, fun z => ?_, fun _ => hQ _ hW1⟩)
  rw [hn] at z
  exact absurd rfl z
theorem M_initiator_ok (hn : S.2.2.1 < 12) (hW : Wd h α (cA α R D S th)) (hQ : ∀ h', Wd h' α (cA α R D (S.1, S.2.1, S.2.2.1 + 1, S.2.2.2) 0) → Q (nI (S.2.2.1 + 1)) h') : P_Mod_initiator Q h (α 20 0) := by
  refine M_begin hW (fun h1 hW1 => ⟨_, _, hW1.1 20 0 _ rfl, rfl, fun _ => ⟨_, _, hW1.1 20 0 _ rfl, rfl, _, hW1.1 20 0 _ rfl, Nat.le_of_ble_eq_true rfl, fun h2 e2 => ?_⟩, fun z => ?_⟩)
  · have hW2 : Wd h2 α (cA α R D (S.1, S.2.1, S.2.2.1 + 1, S.2.2.2) 0) := by
      rw [e2]
      refine hW1.mhead (fun k => rfl) ?_
      rw [nI_1]
      rfl
    exact ⟨_, _, hW2.1 20 0 _ rfl, rfl, hQ _ hW2⟩
  · exact absurd ((nI_eq (a := S.2.2.1) (b := 12) (by omega) (by decide)).mp z) (by omega)
theorem M_job_no4 (hn : ¬ ((0 ≤ x1.toInt ∧ x1.toInt < 36) ∧ (0 ≤ x2.toInt ∧ x2.toInt ≤ 15) ∧ (0 ≤ x3.toInt ∧ x3.toInt ≤ 99) ∧ (S.2.1 2 0).toInt ≤ x4.toInt)) (hW : Wd h α (cA α R D S th)) (hQ : ∀ h', Wd h' α (cA α R D S 0) → Q (-4) h') : P_Mod_job Q h (α 20 0) x1 x2 x3 x4 := by
  refine M_begin hW (fun h1 hW1 => ?_)
  by_cases hc : 0 ≤ x1.toInt ∧ x1.toInt < 36
  · refine M_isClass_yes hc.1 hc.2 ⟨fun z => absurd z (by decide), fun _ => ⟨fun _ => hQ _ hW1, fun b1 => ⟨fun _ => hQ _ hW1, fun b2 => ⟨fun _ => hQ _ hW1, fun b3 => ⟨fun _ => hQ _ hW1, fun b4 => ⟨_, _, hW1.1 20 0 _ rfl, rfl, fun z => ?_, fun _ => hQ _ hW1⟩⟩⟩⟩⟩⟩
    exfalso
    (simp only [Int32.lt_iff_toInt_lt, Int32.le_iff_toInt_le, ← Int32.toInt_inj, Int64.lt_iff_toInt_lt, Int64.le_iff_toInt_le, ← Int64.toInt_inj, not_true_eq_false, not_false_eq_true, l32_0, l32_1, l32_2, l32_3, l32_4, l32_5, l32_6, l32_7, l32_8, l32_10, l32_11, l32_12, l32_13, l32_15, l32_36, l32_40, l32_64, l32_99, l32_100, l32_1000, l32_1439, l32_1440, l32_m1, l32_m2, l32_m4, l32_m5, l64_0, l64_1, l64_15, l64_1440, l64_m1] at * <;> omega)
  · exact M_isClass_no hc ⟨fun _ => hQ _ hW1, fun z => absurd rfl z⟩
theorem M_job_full (a1 : 0 ≤ x1.toInt ∧ x1.toInt < 36) (a2 : 0 ≤ x2.toInt ∧ x2.toInt ≤ 15) (a3 : 0 ≤ x3.toInt ∧ x3.toInt ≤ 99) (a4 : (S.2.1 2 0).toInt ≤ x4.toInt) (hn : S.2.2.2 = 100) (hW : Wd h α (cA α R D S th)) (hQ : ∀ h', Wd h' α (cA α R D S 0) → Q (-1) h') : P_Mod_job Q h (α 20 0) x1 x2 x3 x4 := by
  refine M_begin hW (fun h1 hW1 => M_isClass_yes a1.1 a1.2 ⟨fun z => absurd z (by decide), fun _ => ⟨fun _ => ?_, fun b1 => ⟨fun _ => ?_, fun b2 => ⟨fun _ => ?_, fun b3 => ⟨fun _ => ?_, fun b4 => ⟨_, _, hW1.1 20 0 _ rfl, rfl, fun _ => ⟨_, _, hW1.1 20 0 _ rfl, rfl, fun z => ?_, fun _ => hQ _ hW1⟩, fun z => ?_⟩⟩⟩⟩⟩⟩)
  · exfalso; (simp only [Int32.lt_iff_toInt_lt, Int32.le_iff_toInt_le, ← Int32.toInt_inj, Int64.lt_iff_toInt_lt, Int64.le_iff_toInt_le, ← Int64.toInt_inj, not_true_eq_false, not_false_eq_true, l32_0, l32_1, l32_2, l32_3, l32_4, l32_5, l32_6, l32_7, l32_8, l32_10, l32_11, l32_12, l32_13, l32_15, l32_36, l32_40, l32_64, l32_99, l32_100, l32_1000, l32_1439, l32_1440, l32_m1, l32_m2, l32_m4, l32_m5, l64_0, l64_1, l64_15, l64_1440, l64_m1] at * <;> omega)
  · exfalso; (simp only [Int32.lt_iff_toInt_lt, Int32.le_iff_toInt_le, ← Int32.toInt_inj, Int64.lt_iff_toInt_lt, Int64.le_iff_toInt_le, ← Int64.toInt_inj, not_true_eq_false, not_false_eq_true, l32_0, l32_1, l32_2, l32_3, l32_4, l32_5, l32_6, l32_7, l32_8, l32_10, l32_11, l32_12, l32_13, l32_15, l32_36, l32_40, l32_64, l32_99, l32_100, l32_1000, l32_1439, l32_1440, l32_m1, l32_m2, l32_m4, l32_m5, l64_0, l64_1, l64_15, l64_1440, l64_m1] at * <;> omega)
  · exfalso; (simp only [Int32.lt_iff_toInt_lt, Int32.le_iff_toInt_le, ← Int32.toInt_inj, Int64.lt_iff_toInt_lt, Int64.le_iff_toInt_le, ← Int64.toInt_inj, not_true_eq_false, not_false_eq_true, l32_0, l32_1, l32_2, l32_3, l32_4, l32_5, l32_6, l32_7, l32_8, l32_10, l32_11, l32_12, l32_13, l32_15, l32_36, l32_40, l32_64, l32_99, l32_100, l32_1000, l32_1439, l32_1440, l32_m1, l32_m2, l32_m4, l32_m5, l64_0, l64_1, l64_15, l64_1440, l64_m1] at * <;> omega)
  · exfalso; (simp only [Int32.lt_iff_toInt_lt, Int32.le_iff_toInt_le, ← Int32.toInt_inj, Int64.lt_iff_toInt_lt, Int64.le_iff_toInt_le, ← Int64.toInt_inj, not_true_eq_false, not_false_eq_true, l32_0, l32_1, l32_2, l32_3, l32_4, l32_5, l32_6, l32_7, l32_8, l32_10, l32_11, l32_12, l32_13, l32_15, l32_36, l32_40, l32_64, l32_99, l32_100, l32_1000, l32_1439, l32_1440, l32_m1, l32_m2, l32_m4, l32_m5, l64_0, l64_1, l64_15, l64_1440, l64_m1] at * <;> omega)
  · rw [hn] at z; exact absurd rfl z
  · exact absurd (Int64.le_iff_toInt_le.mpr a4) z
theorem M_job_ok (a1 : 0 ≤ x1.toInt ∧ x1.toInt < 36) (a2 : 0 ≤ x2.toInt ∧ x2.toInt ≤ 15) (a3 : 0 ≤ x3.toInt ∧ x3.toInt ≤ 99) (a4 : (S.2.1 2 0).toInt ≤ x4.toInt) (hn : S.2.2.2 < 100) (hW : Wd h α (cA α R D S th)) (hQ : ∀ h', Wd h' α (cA α R D (jobS S x1 x2 x3 x4) 0) → Q (nI (S.2.2.2 + 1)) h') : P_Mod_job Q h (α 20 0) x1 x2 x3 x4 := by
  refine M_begin hW (fun h1 hW1 => M_isClass_yes a1.1 a1.2 ⟨fun z => absurd z (by decide), fun _ => ⟨fun _ => ?_, fun b1 => ⟨fun _ => ?_, fun b2 => ⟨fun _ => ?_, fun b3 => ⟨fun _ => ?_, fun b4 => ⟨_, _, hW1.1 20 0 _ rfl, rfl, fun _ => ⟨_, _, hW1.1 20 0 _ rfl, rfl, fun _ => ?_, fun z => ?_⟩, fun z => ?_⟩⟩⟩⟩⟩⟩)
  · exfalso; (simp only [Int32.lt_iff_toInt_lt, Int32.le_iff_toInt_le, ← Int32.toInt_inj, Int64.lt_iff_toInt_lt, Int64.le_iff_toInt_le, ← Int64.toInt_inj, not_true_eq_false, not_false_eq_true, l32_0, l32_1, l32_2, l32_3, l32_4, l32_5, l32_6, l32_7, l32_8, l32_10, l32_11, l32_12, l32_13, l32_15, l32_36, l32_40, l32_64, l32_99, l32_100, l32_1000, l32_1439, l32_1440, l32_m1, l32_m2, l32_m4, l32_m5, l64_0, l64_1, l64_15, l64_1440, l64_m1] at * <;> omega)
  · exfalso; (simp only [Int32.lt_iff_toInt_lt, Int32.le_iff_toInt_le, ← Int32.toInt_inj, Int64.lt_iff_toInt_lt, Int64.le_iff_toInt_le, ← Int64.toInt_inj, not_true_eq_false, not_false_eq_true, l32_0, l32_1, l32_2, l32_3, l32_4, l32_5, l32_6, l32_7, l32_8, l32_10, l32_11, l32_12, l32_13, l32_15, l32_36, l32_40, l32_64, l32_99, l32_100, l32_1000, l32_1439, l32_1440, l32_m1, l32_m2, l32_m4, l32_m5, l64_0, l64_1, l64_15, l64_1440, l64_m1] at * <;> omega)
  · exfalso; (simp only [Int32.lt_iff_toInt_lt, Int32.le_iff_toInt_le, ← Int32.toInt_inj, Int64.lt_iff_toInt_lt, Int64.le_iff_toInt_le, ← Int64.toInt_inj, not_true_eq_false, not_false_eq_true, l32_0, l32_1, l32_2, l32_3, l32_4, l32_5, l32_6, l32_7, l32_8, l32_10, l32_11, l32_12, l32_13, l32_15, l32_36, l32_40, l32_64, l32_99, l32_100, l32_1000, l32_1439, l32_1440, l32_m1, l32_m2, l32_m4, l32_m5, l64_0, l64_1, l64_15, l64_1440, l64_m1] at * <;> omega)
  · exfalso; (simp only [Int32.lt_iff_toInt_lt, Int32.le_iff_toInt_le, ← Int32.toInt_inj, Int64.lt_iff_toInt_lt, Int64.le_iff_toInt_le, ← Int64.toInt_inj, not_true_eq_false, not_false_eq_true, l32_0, l32_1, l32_2, l32_3, l32_4, l32_5, l32_6, l32_7, l32_8, l32_10, l32_11, l32_12, l32_13, l32_15, l32_36, l32_40, l32_64, l32_99, l32_100, l32_1000, l32_1439, l32_1440, l32_m1, l32_m2, l32_m4, l32_m5, l64_0, l64_1, l64_15, l64_1440, l64_m1] at * <;> omega)
  · refine ⟨_, hW1.1 20 0 _ rfl, Nat.le_of_ble_eq_true rfl, fun h2 e2 => ?_⟩
    have hW2 : Wd h2 α (cA α R D (s_upL S 2 0 x4) 0) := by rw [e2]; exact hW1.mhead (fun k => mAr_l2 k) rfl
    refine ⟨_, _, hW2.1 20 0 _ rfl, rfl, _, _, hW2.1 20 0 _ rfl, rfl, _, _, hW2.1 31 0 _ rfl, vp_in_nI (by show _ < 100; exact hn) (by decide), fun h3 e3 => ?_⟩
    rw [nI_clamp (by show S.2.2.2 < 2 ^ 31; omega)] at e3
    have hW3 : Wd h3 α (cA α R D (s_up (s_upL S 2 0 x4) 8 S.2.2.2 x1) 0) := by rw [e3]; exact hW2.mset 8 (by decide) rfl rfl rfl _ _
    refine ⟨_, _, hW3.1 20 0 _ rfl, rfl, _, _, hW3.1 20 0 _ rfl, rfl, _, _, hW3.1 32 0 _ rfl, vp_in_nI (by show _ < 100; exact hn) (by decide), fun h4 e4 => ?_⟩
    rw [nI_clamp (by show S.2.2.2 < 2 ^ 31; omega)] at e4
    have hW4 : Wd h4 α (cA α R D (s_up (s_up (s_upL S 2 0 x4) 8 S.2.2.2 x1) 9 S.2.2.2 x2) 0) := by rw [e4]; exact hW3.mset 9 (by decide) rfl rfl rfl _ _
    refine ⟨_, _, hW4.1 20 0 _ rfl, rfl, _, _, hW4.1 20 0 _ rfl, rfl, _, _, hW4.1 33 0 _ rfl, vp_in_nI (by show _ < 100; exact hn) (by decide), fun h5 e5 => ?_⟩
    rw [nI_clamp (by show S.2.2.2 < 2 ^ 31; omega)] at e5
    have hW5 : Wd h5 α (cA α R D (s_up (s_up (s_up (s_upL S 2 0 x4) 8 S.2.2.2 x1) 9 S.2.2.2 x2) 10 S.2.2.2 x3) 0) := by rw [e5]; exact hW4.mset 10 (by decide) rfl rfl rfl _ _
    refine ⟨_, _, hW5.1 20 0 _ rfl, rfl, _, _, hW5.1 20 0 _ rfl, rfl, _, _, hW5.1 40 0 _ rfl, vp_in_nI (by exact hn) (by decide), fun h6 e6 => ?_⟩
    rw [nI_clamp (by show S.2.2.2 < 2 ^ 31; omega)] at e6
    have hW6 : Wd h6 α (cA α R D (s_upL (s_up (s_up (s_up (s_upL S 2 0 x4) 8 S.2.2.2 x1) 9 S.2.2.2 x2) 10 S.2.2.2 x3) 0 S.2.2.2 x4) 0) := by rw [e6]; exact hW5.mlset 0 (by decide) _ _
    refine ⟨_, _, hW6.1 20 0 _ rfl, rfl, _, hW6.1 20 0 _ rfl, Nat.le_of_ble_eq_true rfl, fun h7 e7 => ?_⟩
    have hW7 : Wd h7 α (cA α R D (jobS S x1 x2 x3 x4) 0) := by
      rw [e7]
      refine hW6.mhead (fun k => rfl) ?_
      rw [nI_1]
      rfl
    exact ⟨_, _, hW7.1 20 0 _ rfl, rfl, hQ _ hW7⟩
  · exact absurd ((nI_eq (a := S.2.2.2) (b := 100) (by omega) (by decide)).mp z) (by omega)
  · exact absurd (Int64.le_iff_toInt_le.mpr a4) z
end M4
