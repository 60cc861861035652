section M3
variable {h : hM} {α : Nat → Nat → Nat} {R S : mS} {D : dS} {th : Int32} {x1 x2 x3 : Int32} {Q : Int32 → hM → Prop} {j : Nat}
-- no such job, no such initiator
theorem M_uses_2 (hn : ¬ (1 ≤ x1.toInt ∧ x1.toInt ≤ S.2.2.2)) (hb : S.2.2.2 ≤ 100) (hW : Wd h α (cA α R D S th)) (hQ : ∀ h', Wd h' α (cA α R D S 0) → Q (-2) h') : P_Mod_uses Q h (α 20 0) x1 x2 x3 :=
  M_begin hW (fun h1 hW1 => ⟨_, hW1.1 20 0 _ rfl, M_isJob_no hW1 hn hb ⟨fun z => absurd rfl z, fun _ => hQ _ hW1⟩⟩)
theorem M_alone_2 (hn : ¬ (1 ≤ x1.toInt ∧ x1.toInt ≤ S.2.2.2)) (hb : S.2.2.2 ≤ 100) (hW : Wd h α (cA α R D S th)) (hQ : ∀ h', Wd h' α (cA α R D S 0) → Q (-2) h') : P_Mod_alone Q h (α 20 0) x1 :=
  M_begin hW (fun h1 hW1 => ⟨_, hW1.1 20 0 _ rfl, M_isJob_no hW1 hn hb ⟨fun z => absurd rfl z, fun _ => hQ _ hW1⟩⟩)
theorem M_hold_2 (hn : ¬ (1 ≤ x1.toInt ∧ x1.toInt ≤ S.2.2.2)) (hb : S.2.2.2 ≤ 100) (hW : Wd h α (cA α R D S th)) (hQ : ∀ h', Wd h' α (cA α R D S 0) → Q (-2) h') : P_Mod_hold Q h (α 20 0) x1 x2 :=
  M_begin hW (fun h1 hW1 => ⟨_, hW1.1 20 0 _ rfl, M_isJob_no hW1 hn hb ⟨fun z => absurd rfl z, fun _ => hQ _ hW1⟩⟩)
theorem M_state_2 (hn : ¬ (1 ≤ x1.toInt ∧ x1.toInt ≤ S.2.2.2)) (hb : S.2.2.2 ≤ 100) (hW : Wd h α (cA α R D S th)) (hQ : ∀ h', Wd h' α (cA α R D S 0) → Q (-1) h') : P_Mod_state Q h (α 20 0) x1 :=
  M_begin hW (fun h1 hW1 => ⟨_, hW1.1 20 0 _ rfl, M_isJob_no hW1 hn hb ⟨fun z => absurd rfl z, fun _ => hQ _ hW1⟩⟩)
theorem M_waited_2 {Q : Int64 → hM → Prop} (hn : ¬ (1 ≤ x1.toInt ∧ x1.toInt ≤ S.2.2.2)) (hb : S.2.2.2 ≤ 100) (hW : Wd h α (cA α R D S th)) (hQ : ∀ h', Wd h' α (cA α R D S 0) → Q (-1) h') : P_Mod_waited Q h (α 20 0) x1 :=
  M_begin hW (fun h1 hW1 => ⟨_, hW1.1 20 0 _ rfl, M_isJob_no hW1 hn hb ⟨fun z => absurd rfl z, fun _ => hQ _ hW1⟩⟩)
theorem M_cls_2 (hn : ¬ (1 ≤ x1.toInt ∧ x1.toInt ≤ S.2.2.1)) (hb : S.2.2.1 ≤ 12) (hW : Wd h α (cA α R D S th)) (hQ : ∀ h', Wd h' α (cA α R D S 0) → Q (-2) h') : P_Mod_cls Q h (α 20 0) x1 x2 x3 :=
  M_begin hW (fun h1 hW1 => ⟨_, hW1.1 20 0 _ rfl, M_isIni_no hW1 hn hb ⟨fun z => absurd rfl z, fun _ => hQ _ hW1⟩⟩)
theorem M_drain_2 (hn : ¬ (1 ≤ x1.toInt ∧ x1.toInt ≤ S.2.2.1)) (hb : S.2.2.1 ≤ 12) (hW : Wd h α (cA α R D S th)) (hQ : ∀ h', Wd h' α (cA α R D S 0) → Q (-2) h') : P_Mod_drain Q h (α 20 0) x1 x2 :=
  M_begin hW (fun h1 hW1 => ⟨_, hW1.1 20 0 _ rfl, M_isIni_no hW1 hn hb ⟨fun z => absurd rfl z, fun _ => hQ _ hW1⟩⟩)
-- uses
theorem M_uses_4 (hj : j < S.2.2.2) (hb : S.2.2.2 ≤ 100) (hn : ¬ ((0 ≤ x2.toInt ∧ x2.toInt < 4) ∧ 0 ≤ x3.toInt ∧ x3.toInt ≤ 1000)) (hW : Wd h α (cA α R D S th)) (hQ : ∀ h', Wd h' α (cA α R D S 0) → Q (-4) h') : P_Mod_uses Q h (α 20 0) (nI (j + 1)) x2 x3 := by
  refine M_begin hW (fun h1 hW1 => ⟨_, hW1.1 20 0 _ rfl, M_isJob_yes hW1 hj hb ⟨fun _ => ?_, fun z => absurd z (by decide)⟩⟩)
  repeat' (first | exact hQ _ hW1 | apply And.intro | intro _)
  all_goals (exfalso; (simp only [Int32.lt_iff_toInt_lt, Int32.le_iff_toInt_le, ← Int32.toInt_inj, Int64.lt_iff_toInt_lt, Int64.le_iff_toInt_le, ← Int64.toInt_inj, not_true_eq_false, not_false_eq_true, l32_0, l32_1, l32_2, l32_3, l32_4, l32_5, l32_6, l32_7, l32_8, l32_10, l32_11, l32_12, l32_13, l32_15, l32_36, l32_40, l32_64, l32_99, l32_100, l32_1000, l32_1439, l32_1440, l32_m1, l32_m2, l32_m4, l32_m5, l64_0, l64_1, l64_15, l64_1440, l64_m1] at * <;> omega))
theorem M_uses_5 (hj : j < S.2.2.2) (hb : S.2.2.2 ≤ 100) (a2 : 0 ≤ x2.toInt) (b2 : x2.toInt < 4) (a3 : 0 ≤ x3.toInt) (b3 : x3.toInt ≤ 1000) (hs : ¬ S.1 11 j = 0) (hW : Wd h α (cA α R D S th)) (hQ : ∀ h', Wd h' α (cA α R D S 0) → Q (-5) h') : P_Mod_uses Q h (α 20 0) (nI (j + 1)) x2 x3 := by
  refine M_begin hW (fun h1 hW1 => ⟨_, hW1.1 20 0 _ rfl, M_isJob_yes hW1 hj hb ⟨fun _ => ⟨fun _ => ?_, fun _ => ⟨fun _ => ?_, fun _ => ⟨fun _ => ?_, fun _ => ⟨fun _ => ?_, fun _ => ?_⟩⟩⟩⟩, fun z => absurd z (by decide)⟩⟩) <;> try (exfalso; (simp only [Int32.lt_iff_toInt_lt, Int32.le_iff_toInt_le, ← Int32.toInt_inj, Int64.lt_iff_toInt_lt, Int64.le_iff_toInt_le, ← Int64.toInt_inj, not_true_eq_false, not_false_eq_true, l32_0, l32_1, l32_2, l32_3, l32_4, l32_5, l32_6, l32_7, l32_8, l32_10, l32_11, l32_12, l32_13, l32_15, l32_36, l32_40, l32_64, l32_99, l32_100, l32_1000, l32_1439, l32_1440, l32_m1, l32_m2, l32_m4, l32_m5, l64_0, l64_1, l64_15, l64_1440, l64_m1] at * <;> omega))
  rw [nI_pred]
  refine ⟨_, _, hW1.1 20 0 _ rfl, rfl, _, _, hW1.1 34 0 _ rfl, vp_in_nI (by show j < 100; omega) (by decide), ?_⟩
  rw [nI_clamp (by omega)]
  exact ⟨fun z => absurd z hs, fun _ => hQ _ hW1⟩
theorem M_uses_ok {q : Nat} (hj : j < S.2.2.2) (hb : S.2.2.2 ≤ 100) (hq : q < 4) (a3 : 0 ≤ x3.toInt) (b3 : x3.toInt ≤ 1000) (hs : S.1 11 j = 0) (hW : Wd h α (cA α R D S th)) (hQ : ∀ h', Wd h' α (cA α R D (s_up S 12 (4 * j + q) x3) 0) → Q 1 h') : P_Mod_uses Q h (α 20 0) (nI (j + 1)) (nI q) x3 := by
  have ec : (nI q).toInt = q := nI_toInt (by omega)
  refine M_begin hW (fun h1 hW1 => ⟨_, hW1.1 20 0 _ rfl, M_isJob_yes hW1 hj hb ⟨fun _ => ⟨fun _ => ?_, fun _ => ⟨fun _ => ?_, fun _ => ⟨fun _ => ?_, fun _ => ⟨fun _ => ?_, fun _ => ?_⟩⟩⟩⟩, fun z => absurd z (by decide)⟩⟩) <;> try (exfalso; (simp only [Int32.lt_iff_toInt_lt, Int32.le_iff_toInt_le, ← Int32.toInt_inj, Int64.lt_iff_toInt_lt, Int64.le_iff_toInt_le, ← Int64.toInt_inj, not_true_eq_false, not_false_eq_true, l32_0, l32_1, l32_2, l32_3, l32_4, l32_5, l32_6, l32_7, l32_8, l32_10, l32_11, l32_12, l32_13, l32_15, l32_36, l32_40, l32_64, l32_99, l32_100, l32_1000, l32_1439, l32_1440, l32_m1, l32_m2, l32_m4, l32_m5, l64_0, l64_1, l64_15, l64_1440, l64_m1] at * <;> omega))
  rw [nI_pred, i_cell4]
  refine ⟨_, _, hW1.1 20 0 _ rfl, rfl, _, _, hW1.1 34 0 _ rfl, vp_in_nI (by show j < 100; omega) (by decide), ?_⟩
  rw [nI_clamp (by omega)]
  refine ⟨fun _ => ?_, fun z => absurd hs z⟩
  refine ⟨_, _, hW1.1 20 0 _ rfl, rfl, _, _, hW1.1 35 0 _ rfl, vp_in_nI (by show _ < 400; omega) (by decide), fun h2 e2 => ?_⟩
  rw [nI_clamp (by omega)] at e2
  subst e2
  exact hQ _ (hW1.mset 12 (by decide) rfl rfl rfl _ _)
-- alone
theorem M_alone_5 (hj : j < S.2.2.2) (hb : S.2.2.2 ≤ 100) (hs : ¬ S.1 11 j = 0) (hW : Wd h α (cA α R D S th)) (hQ : ∀ h', Wd h' α (cA α R D S 0) → Q (-5) h') : P_Mod_alone Q h (α 20 0) (nI (j + 1)) := by
  refine M_begin hW (fun h1 hW1 => ⟨_, hW1.1 20 0 _ rfl, M_isJob_yes hW1 hj hb ⟨fun _ => ?_, fun z => absurd z (by decide)⟩⟩)
  rw [nI_pred]
  refine ⟨_, _, hW1.1 20 0 _ rfl, rfl, _, _, hW1.1 34 0 _ rfl, vp_in_nI (by show j < 100; omega) (by decide), ?_⟩
  rw [nI_clamp (by omega)]
  exact ⟨fun z => absurd z hs, fun _ => hQ _ hW1⟩
theorem M_alone_ok (hj : j < S.2.2.2) (hb : S.2.2.2 ≤ 100) (hs : S.1 11 j = 0) (hW : Wd h α (cA α R D S th)) (hQ : ∀ h', Wd h' α (cA α R D (s_up S 14 j 1) 0) → Q 1 h') : P_Mod_alone Q h (α 20 0) (nI (j + 1)) := by
  refine M_begin hW (fun h1 hW1 => ⟨_, hW1.1 20 0 _ rfl, M_isJob_yes hW1 hj hb ⟨fun _ => ?_, fun z => absurd z (by decide)⟩⟩)
  rw [nI_pred]
  refine ⟨_, _, hW1.1 20 0 _ rfl, rfl, _, _, hW1.1 34 0 _ rfl, vp_in_nI (by show j < 100; omega) (by decide), ?_⟩
  rw [nI_clamp (by omega)]
  refine ⟨fun _ => ?_, fun z => absurd hs z⟩
  refine ⟨_, _, hW1.1 20 0 _ rfl, rfl, _, _, hW1.1 37 0 _ rfl, vp_in_nI (by show j < 100; omega) (by decide), fun h2 e2 => ?_⟩
  subst e2
  exact hQ _ (hW1.mset 14 (by decide) rfl rfl rfl _ _)
-- hold
theorem M_hold_5 (hj : j < S.2.2.2) (hb : S.2.2.2 ≤ 100) (hs : ¬ S.1 11 j = 0) (hW : Wd h α (cA α R D S th)) (hQ : ∀ h', Wd h' α (cA α R D S 0) → Q (-5) h') : P_Mod_hold Q h (α 20 0) (nI (j + 1)) x2 := by
  refine M_begin hW (fun h1 hW1 => ⟨_, hW1.1 20 0 _ rfl, M_isJob_yes hW1 hj hb ⟨fun _ => ?_, fun z => absurd z (by decide)⟩⟩)
  rw [nI_pred]
  refine ⟨_, _, hW1.1 20 0 _ rfl, rfl, _, _, hW1.1 34 0 _ rfl, vp_in_nI (by show j < 100; omega) (by decide), ?_⟩
  rw [nI_clamp (by omega)]
  exact ⟨fun z => absurd z hs, fun _ => hQ _ hW1⟩
theorem M_hold_ok (hj : j < S.2.2.2) (hb : S.2.2.2 ≤ 100) (hs : S.1 11 j = 0) (hx : x2 = 0 ∨ x2 = 1) (hW : Wd h α (cA α R D S th)) (hQ : ∀ h', Wd h' α (cA α R D (s_up S 13 j x2) 0) → Q (if S.1 13 j = x2 then 0 else 1) h') : P_Mod_hold Q h (α 20 0) (nI (j + 1)) x2 := by
  refine M_begin hW (fun h1 hW1 => ⟨_, hW1.1 20 0 _ rfl, M_isJob_yes hW1 hj hb ⟨fun _ => ?_, fun z => absurd z (by decide)⟩⟩)
  rw [nI_pred]
  refine ⟨_, _, hW1.1 20 0 _ rfl, rfl, _, _, hW1.1 34 0 _ rfl, vp_in_nI (by show j < 100; omega) (by decide), ?_⟩
  rw [nI_clamp (by omega)]
  refine ⟨fun _ => ?_, fun z => absurd hs z⟩
  refine ⟨_, _, hW1.1 20 0 _ rfl, rfl, _, _, hW1.1 36 0 _ rfl, vp_in_nI (by show j < 100; omega) (by decide), fun v e => ?_⟩
  refine ⟨_, _, hW1.1 20 0 _ rfl, rfl, _, _, hW1.1 36 0 _ rfl, vp_in_nI (by show j < 100; omega) (by decide), hx, fun h2 e2 => ?_⟩
  have hW2 : Wd h2 α (cA α R D (s_up S 13 j x2) 0) := by
    subst e2
    exact hW1.mset 13 (by decide) rfl rfl rfl _ _
  have e' : v = S.1 13 j := e
  have := hQ _ hW2
  refine ⟨fun z => ?_, fun z => ?_⟩
  · rwa [if_neg (by rw [← e']; exact z)] at this
  · rwa [if_pos (by rw [← e']; exact z)] at this
-- drain
theorem M_drain_ok (hj : j < S.2.2.1) (hb : S.2.2.1 ≤ 12) (hx : x2 = 0 ∨ x2 = 1) (hW : Wd h α (cA α R D S th)) (hQ : ∀ h', Wd h' α (cA α R D (s_up S 2 j x2) 0) → Q (if S.1 2 j = x2 then 0 else 1) h') : P_Mod_drain Q h (α 20 0) (nI (j + 1)) x2 := by
  refine M_begin hW (fun h1 hW1 => ⟨_, hW1.1 20 0 _ rfl, M_isIni_yes hW1 hj hb ⟨fun _ => ?_, fun z => absurd z (by decide)⟩⟩)
  rw [nI_pred]
  refine ⟨_, _, hW1.1 20 0 _ rfl, rfl, _, _, hW1.1 24 0 _ rfl, vp_in_nI (by show j < 12; omega) (by decide), fun v e => ?_⟩
  refine ⟨_, _, hW1.1 20 0 _ rfl, rfl, _, _, hW1.1 24 0 _ rfl, vp_in_nI (by show j < 12; omega) (by decide), hx, fun h2 e2 => ?_⟩
  rw [nI_clamp (by omega)] at e e2
  have hW2 : Wd h2 α (cA α R D (s_up S 2 j x2) 0) := by
    subst e2
    exact hW1.mset 2 (by decide) rfl rfl rfl _ _
  have e' : v = S.1 2 j := e
  have := hQ _ hW2
  refine ⟨fun z => ?_, fun z => ?_⟩
  · rwa [if_neg (by rw [← e']; exact z)] at this
  · rwa [if_pos (by rw [← e']; exact z)] at this
-- cls
theorem M_cls_4 (hj : j < S.2.2.1) (hb : S.2.2.1 ≤ 12) (hn : ¬ ((0 ≤ x2.toInt ∧ x2.toInt < 8) ∧ -1 ≤ x3.toInt ∧ x3.toInt < 36)) (hW : Wd h α (cA α R D S th)) (hQ : ∀ h', Wd h' α (cA α R D S 0) → Q (-4) h') : P_Mod_cls Q h (α 20 0) (nI (j + 1)) x2 x3 := by
  refine M_begin hW (fun h1 hW1 => ⟨_, hW1.1 20 0 _ rfl, M_isIni_yes hW1 hj hb ⟨fun _ => ?_, fun z => absurd z (by decide)⟩⟩)
  unfold P_Mod_isClass
  repeat' (first | exact hQ _ hW1 | apply And.intro | intro _)
  all_goals (exfalso; (simp only [Int32.lt_iff_toInt_lt, Int32.le_iff_toInt_le, ← Int32.toInt_inj, Int64.lt_iff_toInt_lt, Int64.le_iff_toInt_le, ← Int64.toInt_inj, not_true_eq_false, not_false_eq_true, l32_0, l32_1, l32_2, l32_3, l32_4, l32_5, l32_6, l32_7, l32_8, l32_10, l32_11, l32_12, l32_13, l32_15, l32_36, l32_40, l32_64, l32_99, l32_100, l32_1000, l32_1439, l32_1440, l32_m1, l32_m2, l32_m4, l32_m5, l64_0, l64_1, l64_15, l64_1440, l64_m1] at * <;> omega))
theorem M_cls_ok {q : Nat} (hj : j < S.2.2.1) (hb : S.2.2.1 ≤ 12) (hq : q < 8) (a3 : -1 ≤ x3.toInt) (b3 : x3.toInt < 36) (hW : Wd h α (cA α R D S th)) (hQ : ∀ h', Wd h' α (cA α R D (s_up S 0 (8 * j + q) x3) 0) → Q 1 h') : P_Mod_cls Q h (α 20 0) (nI (j + 1)) (nI q) x3 := by
  have ec : (nI q).toInt = q := nI_toInt (by omega)
  refine M_begin hW (fun h1 hW1 => ?_)
  have key : P_Mod_cls_41 Q h1 (α 20 0) (nI (j + 1)) (nI q) x3 := by
    unfold P_Mod_cls_41
    rw [i_cell8]
    refine ⟨_, _, hW1.1 20 0 _ rfl, rfl, _, _, hW1.1 22 0 _ rfl, vp_in_nI (by show _ < 96; omega) (by decide), fun h2 e2 => ?_⟩
    rw [nI_clamp (by omega)] at e2
    subst e2
    exact hQ _ (hW1.mset 0 (by decide) rfl rfl rfl _ _)
  refine ⟨_, hW1.1 20 0 _ rfl, M_isIni_yes hW1 hj hb ⟨fun _ => ?_, fun z => absurd z (by decide)⟩⟩
  unfold P_Mod_isClass
  repeat' (first | exact key | apply And.intro | intro _)
  all_goals (exfalso; (simp only [Int32.lt_iff_toInt_lt, Int32.le_iff_toInt_le, ← Int32.toInt_inj, Int64.lt_iff_toInt_lt, Int64.le_iff_toInt_le, ← Int64.toInt_inj, not_true_eq_false, not_false_eq_true, l32_0, l32_1, l32_2, l32_3, l32_4, l32_5, l32_6, l32_7, l32_8, l32_10, l32_11, l32_12, l32_13, l32_15, l32_36, l32_40, l32_64, l32_99, l32_100, l32_1000, l32_1439, l32_1440, l32_m1, l32_m2, l32_m4, l32_m5, l64_0, l64_1, l64_15, l64_1440, l64_m1] at * <;> omega))
-- state, waited
theorem M_state_ok (hj : j < S.2.2.2) (hb : S.2.2.2 ≤ 100) (hh : S.1 13 j = 0 ∨ S.1 13 j = 1) (hW : Wd h α (cA α R D S th)) (hQ : ∀ h', Wd h' α (cA α R D S 0) → Q (stg S j) h') : P_Mod_state Q h (α 20 0) (nI (j + 1)) := by
  refine M_begin hW (fun h1 hW1 => ⟨_, hW1.1 20 0 _ rfl, M_isJob_yes hW1 hj hb ⟨fun _ => ?_, fun z => absurd z (by decide)⟩⟩)
  have hq := hQ _ hW1
  unfold stg at hq
  rw [nI_pred]
  refine ⟨_, _, hW1.1 20 0 _ rfl, rfl, _, _, hW1.1 34 0 _ rfl, vp_in_nI (by show j < 100; omega) (by decide), ?_⟩
  rw [nI_clamp (by omega)]
  refine ⟨fun z => ⟨_, _, hW1.1 20 0 _ rfl, rfl, _, _, hW1.1 34 0 _ rfl, vp_in_nI (by show j < 100; omega) (by decide), ?_⟩, fun z => ⟨_, _, hW1.1 20 0 _ rfl, rfl, _, _, hW1.1 36 0 _ rfl, vp_in_nI (by show j < 100; omega) (by decide), ⟨fun y => ⟨_, _, hW1.1 20 0 _ rfl, rfl, _, _, hW1.1 34 0 _ rfl, vp_in_nI (by show j < 100; omega) (by decide), ?_⟩, fun y => ?_⟩⟩⟩
  · have z' : ¬ S.1 11 j = 0 := z
    rwa [if_neg z'] at hq
  · have z' : S.1 11 j = 0 := z
    have y' : S.1 13 j = 0 := y
    rw [if_pos z', if_pos y'] at hq
    show Q (S.1 11 j) h1
    rwa [z']
  · have z' : S.1 11 j = 0 := z
    have y' : ¬ S.1 13 j = 0 := y
    rwa [if_pos z', if_neg y'] at hq
theorem M_waited_ok {Q : Int64 → hM → Prop} (hj : j < S.2.2.2) (hb : S.2.2.2 ≤ 100) (hW : Wd h α (cA α R D S th)) (hQ : ∀ h', Wd h' α (cA α R D S 0) → Q ((if S.1 11 j = 0 then S.2.1 2 0 else S.2.1 1 j) - S.2.1 0 j) h') : P_Mod_waited Q h (α 20 0) (nI (j + 1)) := by
  refine M_begin hW (fun h1 hW1 => ⟨_, hW1.1 20 0 _ rfl, M_isJob_yes hW1 hj hb ⟨fun _ => ?_, fun z => absurd z (by decide)⟩⟩)
  have hq := hQ _ hW1
  unfold P_Mod_waited_43
  rw [nI_pred]
  refine ⟨_, _, hW1.1 20 0 _ rfl, rfl, _, _, hW1.1 34 0 _ rfl, vp_in_nI (by show j < 100; omega) (by decide), ?_⟩
  rw [nI_clamp (by omega)]
  refine ⟨fun z => ⟨_, _, hW1.1 20 0 _ rfl, rfl, _, _, hW1.1 41 0 _ rfl, vp_in_nI (by show j < 100; omega) (by decide), ⟨_, _, hW1.1 20 0 _ rfl, rfl, _, _, hW1.1 40 0 _ rfl, vp_in_nI (by show j < 100; omega) (by decide), ?_⟩⟩, fun z => ⟨_, _, hW1.1 20 0 _ rfl, rfl, ⟨_, _, hW1.1 20 0 _ rfl, rfl, _, _, hW1.1 40 0 _ rfl, vp_in_nI (by show j < 100; omega) (by decide), ?_⟩⟩⟩
  · have z' : ¬ S.1 11 j = 0 := z
    rwa [if_neg z'] at hq
  · have z' : S.1 11 j = 0 := z
    rwa [if_pos z'] at hq
end M3
