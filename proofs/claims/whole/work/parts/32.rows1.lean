section R1
variable {h : hM} {α : Nat → Nat → Nat} {R S : mS} {D : dS} {th : Int32} {x0 x1 x2 x3 : Int32}
/-- the lists: what their arrays hold -/
def LOk (α : Nat → Nat → Nat) (D : dS) (w kd n : Nat) : Prop := n ≤ D.2.2.2.2.2.1 w ∧ D.2.2.2.2.2.1 w ≤ 160 ∧ (∀ i, i < n → D.2.2.2.2.2.2 w i = some (α kd i)) ∧ (∀ i, n ≤ i → D.2.2.2.2.2.2 w i = none) ∧ (D.2.2.2.2.2.1 w = 0 → α (2 * w + 2) 0 = α 50 0)
theorem C_isIn_yes {Q : Int32 → hM → Prop} (h1 : x1.toInt ≤ x0.toInt) (h2 : x0.toInt ≤ x2.toInt) (hQ : Q 1 h) : P_Rows_isIn Q h x0 x1 x2 := by
  unfold P_Rows_isIn
  repeat' (first | exact hQ | apply And.intro | intro _)
  all_goals (exfalso; (simp only [Int32.lt_iff_toInt_lt, Int32.le_iff_toInt_le, ← Int32.toInt_inj, Int64.lt_iff_toInt_lt, Int64.le_iff_toInt_le, ← Int64.toInt_inj, not_true_eq_false, not_false_eq_true, l32_0, l32_1, l32_2, l32_3, l32_4, l32_5, l32_6, l32_7, l32_8, l32_10, l32_11, l32_12, l32_13, l32_15, l32_36, l32_40, l32_64, l32_99, l32_100, l32_1000, l32_1439, l32_1440, l32_m1, l32_m2, l32_m4, l32_m5, l64_0, l64_1, l64_15, l64_1440, l64_m1] at * <;> omega))
theorem C_isIn_no {Q : Int32 → hM → Prop} (hn : ¬ (x1.toInt ≤ x0.toInt ∧ x0.toInt ≤ x2.toInt)) (hQ : Q 0 h) : P_Rows_isIn Q h x0 x1 x2 := by
  unfold P_Rows_isIn
  repeat' (first | exact hQ | apply And.intro | intro _)
  all_goals (exfalso; (simp only [Int32.lt_iff_toInt_lt, Int32.le_iff_toInt_le, ← Int32.toInt_inj, Int64.lt_iff_toInt_lt, Int64.le_iff_toInt_le, ← Int64.toInt_inj, not_true_eq_false, not_false_eq_true, l32_0, l32_1, l32_2, l32_3, l32_4, l32_5, l32_6, l32_7, l32_8, l32_10, l32_11, l32_12, l32_13, l32_15, l32_36, l32_40, l32_64, l32_99, l32_100, l32_1000, l32_1439, l32_1440, l32_m1, l32_m2, l32_m4, l32_m5, l64_0, l64_1, l64_15, l64_1440, l64_m1] at * <;> omega))
theorem C_isClass_yes {Q : Int32 → hM → Prop} (h1 : 0 ≤ x1.toInt) (h2 : x1.toInt < 36) (hQ : Q 1 h) : P_Rows_isClass Q h x1 :=
  C_isIn_yes (by rw [l32_0]; omega) (by rw [show (35 : Int32).toInt = 35 by decide]; omega) ⟨Or.inr rfl, hQ⟩
theorem C_isClass_no {Q : Int32 → hM → Prop} (hn : ¬ (0 ≤ x1.toInt ∧ x1.toInt < 36)) (hQ : Q 0 h) : P_Rows_isClass Q h x1 :=
  C_isIn_no (by rw [l32_0, show (35 : Int32).toInt = 35 by decide]; omega) ⟨Or.inl rfl, hQ⟩
theorem C_isKind_yes {Q : Int32 → hM → Prop} (h1 : 0 ≤ x1.toInt) (h2 : x1.toInt < 4) (hQ : Q 1 h) : P_Rows_isKind Q h x1 :=
  C_isIn_yes (by rw [l32_0]; omega) (by rw [l32_3]; omega) ⟨Or.inr rfl, hQ⟩
theorem C_isKind_no {Q : Int32 → hM → Prop} (hn : ¬ (0 ≤ x1.toInt ∧ x1.toInt < 4)) (hQ : Q 0 h) : P_Rows_isKind Q h x1 :=
  C_isIn_no (by rw [l32_0, l32_3]; omega) ⟨Or.inl rfl, hQ⟩
theorem C_findJob_no {Q : Option Nat → hM → Prop} (hW : Wd h α (cA α R D S th)) (hj : R.2.2.2 ≤ 100) (hn : ¬ (1 ≤ x1.toInt ∧ x1.toInt ≤ R.2.2.2)) (hQ : Q none h) : P_Rows_findJob Q h (α 0 0) x1 := by
  refine ⟨_, _, hW.1 0 0 _ rfl, rfl, _, hW.1 3 0 _ rfl, _, _, hW.1 3 0 _ rfl, rfl, ?_⟩
  exact C_isIn_no (by rw [l32_1, nI_toInt (by omega)]; exact hn) ⟨fun _ => hQ, fun z => absurd rfl z⟩
theorem C_get {Q : Option Nat → hM → Prop} {a : Nat} {mo : Int32} {w n cap : Nat} {el : Nat → Option Nat} {i : Nat} (ha : rd h a = some (eO 5 [.int mo, .ref w, .int (nI n)])) (he : rd h w = some (eA 2 cap el)) (hi : i < n) (hc : n ≤ cap) (hcap : cap ≤ 160) (hQ : Q (el i) h) : P_AL_get Q h a (nI i) := by
  have e1 : (nI i).toInt = i := nI_toInt (by omega)
  have e2 : (nI n).toInt = n := nI_toInt (by omega)
  refine ⟨_, _, ha, rfl, ⟨fun z => ?_, fun _ => ⟨fun _ => ⟨_, ha, _, _, ha, rfl, _, _, he, vp_in_nI (by omega) (by omega), fun o e => ?_⟩, fun z => ?_⟩⟩⟩
  · (simp only [Int32.lt_iff_toInt_lt, Int32.le_iff_toInt_le, ← Int32.toInt_inj, Int64.lt_iff_toInt_lt, Int64.le_iff_toInt_le, ← Int64.toInt_inj, not_true_eq_false, not_false_eq_true, l32_0, l32_1, l32_2, l32_3, l32_4, l32_5, l32_6, l32_7, l32_8, l32_10, l32_11, l32_12, l32_13, l32_15, l32_36, l32_40, l32_64, l32_99, l32_100, l32_1000, l32_1439, l32_1440, l32_m1, l32_m2, l32_m4, l32_m5, l64_0, l64_1, l64_15, l64_1440, l64_m1] at * <;> omega)
  · rw [e, nI_clamp (by omega)]; exact hQ
  · (simp only [Int32.lt_iff_toInt_lt, Int32.le_iff_toInt_le, ← Int32.toInt_inj, Int64.lt_iff_toInt_lt, Int64.le_iff_toInt_le, ← Int64.toInt_inj, not_true_eq_false, not_false_eq_true, l32_0, l32_1, l32_2, l32_3, l32_4, l32_5, l32_6, l32_7, l32_8, l32_10, l32_11, l32_12, l32_13, l32_15, l32_36, l32_40, l32_64, l32_99, l32_100, l32_1000, l32_1439, l32_1440, l32_m1, l32_m2, l32_m4, l32_m5, l64_0, l64_1, l64_15, l64_1440, l64_m1] at * <;> omega)
theorem C_findJob_yes {Q : Option Nat → hM → Prop} {j : Nat} (hW : Wd h α (cA α R D S th)) (hj : R.2.2.2 ≤ 100) (hL : LOk α D 1 17 R.2.2.2) (hjn : j < R.2.2.2) (hQ : Q (some (α 17 j)) h) : P_Rows_findJob Q h (α 0 0) (nI (j + 1)) := by
  refine ⟨_, _, hW.1 0 0 _ rfl, rfl, _, hW.1 3 0 _ rfl, _, _, hW.1 3 0 _ rfl, rfl, ?_⟩
  refine C_isIn_yes (by rw [l32_1, nI_toInt (by omega)]; omega) (by rw [nI_toInt (by omega), nI_toInt (by omega)]; omega) ⟨fun z => absurd z (by decide), fun _ => ?_⟩
  refine ⟨_, _, hW.1 0 0 _ rfl, rfl, _, hW.1 3 0 _ rfl, ?_⟩
  rw [show nI (j + 1) - 1 = nI j from nI_pred j]
  have h4 := cA_4 (α := α) (R := R) (S := S) (th := th) (D := D) (by have := hL.1; omega)
  refine C_get (hW.1 3 0 _ rfl) (hW.1 4 0 _ h4) hjn hL.1 hL.2.1 ?_
  rw [hL.2.2.1 j hjn]
  exact ⟨fun z => (nomatch z), fun a e => by cases e; exact ⟨⟨_, hW.1 17 j _ (cA_17 hjn)⟩, hQ⟩⟩
theorem C_findIni_no {Q : Option Nat → hM → Prop} (hW : Wd h α (cA α R D S th)) (hj : R.2.2.1 ≤ 12) (hn : ¬ (1 ≤ x1.toInt ∧ x1.toInt ≤ R.2.2.1)) (hQ : Q none h) : P_Rows_findInitiator Q h (α 0 0) x1 := by
  refine ⟨_, _, hW.1 0 0 _ rfl, rfl, _, hW.1 1 0 _ rfl, _, _, hW.1 1 0 _ rfl, rfl, ?_⟩
  exact C_isIn_no (by rw [l32_1, nI_toInt (by omega)]; exact hn) ⟨fun _ => hQ, fun z => absurd rfl z⟩
theorem C_findIni_yes {Q : Option Nat → hM → Prop} {j : Nat} (hW : Wd h α (cA α R D S th)) (hj : R.2.2.1 ≤ 12) (hL : LOk α D 0 15 R.2.2.1) (hjn : j < R.2.2.1) (hQ : Q (some (α 15 j)) h) : P_Rows_findInitiator Q h (α 0 0) (nI (j + 1)) := by
  refine ⟨_, _, hW.1 0 0 _ rfl, rfl, _, hW.1 1 0 _ rfl, _, _, hW.1 1 0 _ rfl, rfl, ?_⟩
  refine C_isIn_yes (by rw [l32_1, nI_toInt (by omega)]; omega) (by rw [nI_toInt (by omega), nI_toInt (by omega)]; omega) ⟨fun z => absurd z (by decide), fun _ => ?_⟩
  refine ⟨_, _, hW.1 0 0 _ rfl, rfl, _, hW.1 1 0 _ rfl, ?_⟩
  rw [show nI (j + 1) - 1 = nI j from nI_pred j]
  have h4 := cA_2 (α := α) (R := R) (S := S) (th := th) (D := D) (by have := hL.1; omega)
  refine C_get (hW.1 1 0 _ rfl) (hW.1 2 0 _ h4) hjn hL.1 hL.2.1 ?_
  rw [hL.2.2.1 j hjn]
  exact ⟨fun z => (nomatch z), fun a e => by cases e; exact ⟨⟨_, hW.1 15 j _ (cA_15 hjn)⟩, hQ⟩⟩
end R1
