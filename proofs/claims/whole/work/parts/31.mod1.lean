section M1
variable {h : hM} {α : Nat → Nat → Nat} {R S : mS} {D : dS} {th : Int32} {x1 x2 x3 : Int32}
/-- every call of the reference begins so -/
theorem M_begin {P : hM → Prop} (hW : Wd h α (cA α R D S th)) (hP : ∀ h1, Wd h1 α (cA α R D S 0) → P h1) : ∃ fs : List Value, rd h (α 20 0) = some (eO 6 fs) ∧ 0 < fs.length ∧ ∀ h1 : hM, h1 = h_up h (α 20 0) (eO 6 (fs.set 0 (.int (0 : Int32)))) → P h1 := by
  refine ⟨_, hW.1 20 0 _ rfl, Nat.zero_lt_succ _, fun h1 e => hP h1 ?_⟩
  subst e
  exact hW.mhead (fun _ => rfl) rfl
theorem M_limit_no {Q : Int32 → hM → Prop} (hn : ¬ ((0 ≤ x1.toInt ∧ x1.toInt < 36) ∧ 0 ≤ x2.toInt ∧ x2.toInt ≤ 40)) (hW : Wd h α (cA α R D S th)) (hQ : ∀ h', Wd h' α (cA α R D S 0) → Q (-4) h') : P_Mod_limit Q h (α 20 0) x1 x2 := by
  refine M_begin hW (fun h1 hW1 => ?_)
  unfold P_Mod_isClass
  repeat' (first | exact hQ _ hW1 | apply And.intro | intro _)
  all_goals (exfalso; (simp only [Int32.lt_iff_toInt_lt, Int32.le_iff_toInt_le, ← Int32.toInt_inj, Int64.lt_iff_toInt_lt, Int64.le_iff_toInt_le, ← Int64.toInt_inj, not_true_eq_false, not_false_eq_true, l32_0, l32_1, l32_2, l32_3, l32_4, l32_5, l32_6, l32_7, l32_8, l32_10, l32_11, l32_12, l32_13, l32_15, l32_36, l32_40, l32_64, l32_99, l32_100, l32_1000, l32_1439, l32_1440, l32_m1, l32_m2, l32_m4, l32_m5, l64_0, l64_1, l64_15, l64_1440, l64_m1] at * <;> omega))
theorem M_limit_ok {Q : Int32 → hM → Prop} {c : Nat} (hc : c < 36) (h0 : 0 ≤ x2.toInt) (h40 : x2.toInt ≤ 40) (hW : Wd h α (cA α R D S th)) (hQ : ∀ h', Wd h' α (cA α R D (s_up S 3 c x2) 0) → Q 1 h') : P_Mod_limit Q h (α 20 0) (nI c) x2 := by
  have ec : (nI c).toInt = c := nI_toInt (by omega)
  refine M_begin hW (fun h1 hW1 => ?_)
  unfold P_Mod_isClass
  refine ⟨fun _ => ?_, fun _ => ⟨fun _ => ?_, fun _ => ⟨fun _ => ?_, fun _ => ⟨fun _ => ?_, fun _ => ⟨fun _ => ?_, fun _ => ?_⟩⟩⟩⟩⟩ <;> try (exfalso; (simp only [Int32.lt_iff_toInt_lt, Int32.le_iff_toInt_le, ← Int32.toInt_inj, Int64.lt_iff_toInt_lt, Int64.le_iff_toInt_le, ← Int64.toInt_inj, not_true_eq_false, not_false_eq_true, l32_0, l32_1, l32_2, l32_3, l32_4, l32_5, l32_6, l32_7, l32_8, l32_10, l32_11, l32_12, l32_13, l32_15, l32_36, l32_40, l32_64, l32_99, l32_100, l32_1000, l32_1439, l32_1440, l32_m1, l32_m2, l32_m4, l32_m5, l64_0, l64_1, l64_15, l64_1440, l64_m1] at * <;> omega))
  refine ⟨_, _, hW1.1 20 0 _ rfl, rfl, _, _, hW1.1 26 0 _ rfl, vp_in_nI hc (by decide), fun h2 e2 => ?_⟩
  subst e2
  rw [nI_clamp (by omega)]
  exact hQ _ (hW1.mset 3 (by decide) rfl rfl rfl _ _)
end M1
