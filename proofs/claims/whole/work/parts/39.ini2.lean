/-- the addresses that contents speak of -/
def Ag (α α' : Nat → Nat → Nat) (R : mS) (w : Nat) : Prop := ∀ k i, k ≠ w → k ≠ 15 → k ≠ 17 → (k = 16 → i < R.2.2.1) → (k = 18 → i < R.2.2.2) → (k = 19 → i < R.2.2.2) → α' k i = α k i
section AG
variable {α α' : Nat → Nat → Nat} {R S : mS} {D : dS} {th : Int32} {w : Nat}
theorem Ag.fix (hA : Ag α α' R w) (k : Nat) (hw : k ≠ w) (h15 : k ≠ 15 := by decide) (h16 : k ≠ 16 := by decide) (h17 : k ≠ 17 := by decide) (h18 : k ≠ 18 := by decide) (h19 : k ≠ 19 := by decide) {i : Nat} : α' k i = α k i := hA k i hw h15 h17 (fun e => absurd e h16) (fun e => absurd e h18) (fun e => absurd e h19)
theorem cR_ag (hA : Ag α α' R w) (hw : w = 2 ∨ w = 4) (k i : Nat) (hk : k + 1 ≠ w) : cR α' R D k i = cR α R D k i := by
  unfold cR
  split
  · -- 0
    rw [hA.fix 1 (by omega), hA.fix 3 (by omega), hA.fix 5 (by omega), hA.fix 6 (by omega), hA.fix 7 (by omega), hA.fix 8 (by omega), hA.fix 9 (by omega), hA.fix 10 (by omega), hA.fix 11 (by omega)]
  · -- 1
    rw [hA.fix 2 (by omega)]
  · -- 2
    rfl
  · -- 3
    rw [hA.fix 4 (by omega)]
  · -- 4
    rfl
  · -- 5
    rfl
  · -- 6
    rfl
  · -- 7
    rfl
  · -- 8
    rfl
  · -- 9
    rfl
  · -- 10
    rw [hA.fix 12 (by omega), hA.fix 13 (by omega), hA.fix 14 (by omega)]
  · -- 11
    rfl
  · -- 12
    rfl
  · -- 13
    rfl
  · -- 14
    rfl
  · -- 15
    by_cases hi : i < R.2.2.1
    · rw [hA 16 i (by omega) (by decide) (by decide) (fun _ => hi) (fun e => absurd e (by decide)) (fun e => absurd e (by decide))]
    · rw [if_neg hi, if_neg hi]
  · -- 16
    rfl
  · -- 17
    by_cases hi : i < R.2.2.2
    · rw [hA 18 i (by omega) (by decide) (by decide) (fun e => absurd e (by decide)) (fun _ => hi) (fun e => absurd e (by decide)), hA 19 i (by omega) (by decide) (by decide) (fun e => absurd e (by decide)) (fun e => absurd e (by decide)) (fun _ => hi)]
    · rw [if_neg hi, if_neg hi]
  · -- 18
    rfl
  · -- 19
    rfl
  · rfl
theorem cM_ag (hA : Ag α α' R w) (hw : w < 20) (k i : Nat) : cM α' S th k i = cM α S th k i := by
  have e : mFs α' S th = mFs α S th := by
    unfold mFs
    rw [hA.fix 22 (by omega), hA.fix 23 (by omega), hA.fix 24 (by omega), hA.fix 26 (by omega), hA.fix 27 (by omega), hA.fix 28 (by omega), hA.fix 29 (by omega), hA.fix 30 (by omega), hA.fix 31 (by omega), hA.fix 32 (by omega), hA.fix 33 (by omega), hA.fix 34 (by omega), hA.fix 35 (by omega), hA.fix 36 (by omega), hA.fix 37 (by omega), hA.fix 38 (by omega), hA.fix 39 (by omega), hA.fix 40 (by omega), hA.fix 41 (by omega)]
  unfold cM
  rw [e]
theorem cA_ag (hA : Ag α α' R w) (hw : w = 2 ∨ w = 4) (k i : Nat) (hk : k + 1 ≠ w) : cA α' R D S th k i = cA α R D S th k i := by
  unfold cA
  by_cases h20 : k < 20
  · rw [if_pos h20, if_pos h20, cR_ag hA hw k i hk]
  · rw [if_neg h20, if_neg h20, cM_ag hA (by omega)]
end AG
/-- a list is longer -/
def d_list (D : dS) (w : Nat) (m : Int32) (cap : Nat) (el : Nat → Option Nat) : dS := (D.1, D.2.1, D.2.2.1, D.2.2.2.1, (fun k => if k = w + 2 then m else D.2.2.2.2.1 k), (fun k => if k = w then cap else D.2.2.2.2.2.1 k), (fun k => if k = w then el else D.2.2.2.2.2.2 k))
section CI
variable {h : hM} {α : Nat → Nat → Nat} {R S : mS} {D : dS} {th : Int32} {Q : Int32 → hM → Prop}
theorem C_initiator_no (hW : Wd h α (cA α R D S th)) (hn : R.2.2.1 = 12) (hQ : Q (-1) h) : P_Rows_initiator Q h (α 0 0) := by
  refine ⟨_, _, hW.1 0 0 _ rfl, rfl, _, hW.1 1 0 _ rfl, _, _, hW.1 1 0 _ rfl, rfl, fun z => ?_, fun _ => hQ⟩
  rw [hn] at z
  exact absurd z (by decide)
theorem C_initiator_ok (hW : Wd h α (cA α R D S th)) (hn : R.2.2.1 < 12) (hL : LOk α D 0 15 R.2.2.1) (hL10 : D.2.2.2.2.2.1 0 = 0 ∨ 10 ≤ D.2.2.2.2.2.1 0) (h1 : R.1 1 R.2.2.1 = -1) (h2 : R.1 2 R.2.2.1 = 0) (h0 : ∀ p, p < 8 → R.1 0 (8 * R.2.2.1 + p) = -1)
    (hQ : ∀ (h' : hM) (α' : Nat → Nat → Nat) (m : Int32) (cap : Nat) (el : Nat → Option Nat), Wd h' α' (cA α' (R.1, R.2.1, R.2.2.1 + 1, R.2.2.2) (d_list D 0 m cap el) S th) → Ag α α' R 2 → (∀ i, α' 17 i = α 17 i) → LOk α' (d_list D 0 m cap el) 0 15 (R.2.2.1 + 1) → 10 ≤ cap → Q (nI (R.2.2.1 + 1)) h') : P_Rows_initiator Q h (α 0 0) := by
  have en : (nI R.2.2.1).toInt = R.2.2.1 := nI_toInt (by omega)
  refine ⟨_, _, hW.1 0 0 _ rfl, rfl, _, hW.1 1 0 _ rfl, _, _, hW.1 1 0 _ rfl, rfl, fun _ => ?_, fun z => ?_⟩
  · refine ⟨_, _, hW.1 0 0 _ rfl, rfl, fun q hq g1 e1 => ?_⟩
    have hW1 : Wd g1 (a_up α 15 R.2.2.1 q) (c_up (cA α R D S th) 15 R.2.2.1 (eO 3 [.null, .int 0, .int 0])) := by rw [e1]; exact hW.new 15 _ (by decide) hq _
    refine C_Ini_init hW1 c_ups a_ups (fun g2 qa hW2 => ?_)
    rw [c_up2] at hW2
    have a10 : a_up (a_up α 15 R.2.2.1 q) 16 R.2.2.1 qa 1 0 = α 1 0 := rfl
    have a00 : a_up (a_up α 15 R.2.2.1 q) 16 R.2.2.1 qa 0 0 = α 0 0 := rfl
    have a15 : a_up (a_up α 15 R.2.2.1 q) 16 R.2.2.1 qa 15 R.2.2.1 = q := by rw [a_upn (by decide), a_ups]
    have c1 : (c_up (c_up (cA α R D S th) 15 R.2.2.1 (eO 3 [.ref qa, .int 0, .int 0])) 16 R.2.2.1 (eT 0 8 (fun p => if p < 8 then -1 else 0))) 1 0 = some (eO 5 [.int (D.2.2.2.2.1 2), .ref (a_up (a_up α 15 R.2.2.1 q) 16 R.2.2.1 qa 2 0), .int (nI R.2.2.1)]) := rfl
    have rq := hW2.1 15 R.2.2.1 _ ((c_upn (by decide)).trans c_ups)
    rw [a15] at rq
    have r10 := hW2.1 1 0 _ c1
    rw [a10] at r10
    refine ⟨_, r10, ?_⟩
    rw [← a10]
    refine C_add (k1 := 1) (k2 := 2) (cap := D.2.2.2.2.2.1 0) (el := D.2.2.2.2.2.2 0) (ci := 3) (by decide) (by decide) hW2 c1 ?_ hL.1 (by omega) hL.2.1 (Or.inr rfl) ?_ rq ?_
    · rcases hL10 with e | e
      · exact Or.inl ⟨e, hL.2.2.2.2 e⟩
      · exact Or.inr ⟨e, (c_upn (by decide)).trans ((c_upn (by decide)).trans (cA_2 (by omega)))⟩
    · intro i hi y hy
      rw [hL.2.2.1 i hi] at hy
      cases hy
      have hne : i ≠ R.2.2.1 := by omega
      have e15 : c_up (c_up (cA α R D S th) 15 R.2.2.1 (eO 3 [.ref qa, .int 0, .int 0])) 16 R.2.2.1 (eT 0 8 (fun p => if p < 8 then -1 else 0)) 15 i = some (eO 3 [.ref (α 16 i), .int (R.1 2 i), .int (R.1 1 i + 1)]) := by
        rw [c_upn (by decide)]
        unfold c_up
        rw [if_neg (fun e => hne e.2)]
        exact cA_15 hi
      have r := hW2.1 15 i _ e15
      have ea : a_up (a_up α 15 R.2.2.1 q) 16 R.2.2.1 qa 15 i = α 15 i := by
        rw [a_upn (by decide)]
        exact if_neg (fun e => hne e.2)
      rw [ea] at r
      exact ⟨_, r⟩
    · intro h' α' cap' el' hW' hα hc1 hc10 hc160 hel1 hel2 hel3
      have hag : Ag α α' R 2 := by
        intro k i hk2 hk15 hk17 hk16 _ _
        rw [hα k i hk2]
        by_cases e16 : k = 16
        · have := hk16 e16
          unfold a_up
          rw [if_neg (fun e => by omega), if_neg (fun e => hk15 e.1)]
        · rw [a_upn e16, a_upn hk15]
      have b00 : α' 0 0 = α 0 0 := hag.fix 0 (by decide)
      have b10 : α' 1 0 = α 1 0 := hag.fix 1 (by decide)
      have key : ∀ k i, cA α' (R.1, R.2.1, R.2.2.1 + 1, R.2.2.2) (d_list D 0 (D.2.2.2.2.1 2 + 1) cap' el') S th k i = (c_up (c_up (c_up (c_up (cA α R D S th) 15 R.2.2.1 (eO 3 [.ref qa, .int 0, .int 0])) 16 R.2.2.1 (eT 0 8 (fun p => if p < 8 then -1 else 0))) 2 0 (eA 2 cap' el')) 1 0 (eO 5 [.int (D.2.2.2.2.1 2 + 1), .ref (α' 2 0), .int (nI (R.2.2.1 + 1))])) k i := by
        intro k i
        by_cases k1 : k = 1
        · subst k1
          by_cases hi : i = 0
          · subst hi
            exact (c_ups).symm
          · have : ∀ x, c_up (c_up (c_up (c_up (cA α R D S th) 15 R.2.2.1 (eO 3 [.ref qa, .int 0, .int 0])) 16 R.2.2.1 (eT 0 8 (fun p => if p < 8 then -1 else 0))) 2 0 (eA 2 cap' el')) 1 0 x 1 i = none := fun x => by
              unfold c_up
              rw [if_neg (fun e => hi e.2), if_neg (fun e => by omega), if_neg (fun e => by omega), if_neg (fun e => by omega)]
              exact if_neg hi
            rw [this]
            exact if_neg hi
        rw [c_upn k1]
        by_cases k2 : k = 2
        · subst k2
          by_cases hi : i = 0
          · subst hi
            rw [c_ups]
            exact cA_2 (D := d_list D 0 (D.2.2.2.2.1 2 + 1) cap' el') (by show cap' ≠ 0; omega)
          · unfold c_up
            rw [if_neg (fun e => hi e.2), if_neg (fun e => by omega), if_neg (fun e => by omega)]
            show (if i = 0 ∧ cap' ≠ 0 then _ else none) = (if i = 0 ∧ D.2.2.2.2.2.1 0 ≠ 0 then _ else none)
            rw [if_neg (fun e => hi e.1), if_neg (fun e => hi e.1)]
        rw [c_upn k2]
        by_cases k16 : k = 16
        · subst k16
          by_cases hi : i = R.2.2.1
          · subst hi
            rw [c_ups]
            show (if R.2.2.1 < R.2.2.1 + 1 then some (eT 0 8 (fun p => if p < 8 then R.1 0 (8 * R.2.2.1 + p) else 0)) else none) = _
            rw [if_pos (Nat.lt_succ_self _)]
            congr 2
            funext p
            by_cases hp : p < 8
            · rw [if_pos hp, if_pos hp, h0 p hp]
            · rw [if_neg hp, if_neg hp]
          · unfold c_up
            rw [if_neg (fun e => hi e.2), if_neg (fun e => by omega)]
            show (if i < R.2.2.1 + 1 then some (eT 0 8 (fun p => if p < 8 then R.1 0 (8 * i + p) else 0)) else none) = (if i < R.2.2.1 then some (eT 0 8 (fun p => if p < 8 then R.1 0 (8 * i + p) else 0)) else none)
            by_cases hl : i < R.2.2.1
            · rw [if_pos hl, if_pos (by omega)]
            · rw [if_neg hl, if_neg (by omega)]
        rw [c_upn k16]
        by_cases k15 : k = 15
        · subst k15
          by_cases hi : i = R.2.2.1
          · subst hi
            rw [c_ups]
            show (if R.2.2.1 < R.2.2.1 + 1 then some (eO 3 [.ref (α' 16 R.2.2.1), .int (R.1 2 R.2.2.1), .int (R.1 1 R.2.2.1 + 1)]) else none) = _
            rw [if_pos (Nat.lt_succ_self _), h1, h2, hα 16 _ (by decide), a_ups]
            rfl
          · unfold c_up
            rw [if_neg (fun e => hi e.2)]
            show (if i < R.2.2.1 + 1 then some (eO 3 [.ref (α' 16 i), .int (R.1 2 i), .int (R.1 1 i + 1)]) else none) = (if i < R.2.2.1 then some (eO 3 [.ref (α 16 i), .int (R.1 2 i), .int (R.1 1 i + 1)]) else none)
            by_cases hl : i < R.2.2.1
            · rw [if_pos hl, if_pos (by omega), hag 16 i (by decide) (by decide) (by decide) (fun _ => hl) (fun e => absurd e (by decide)) (fun e => absurd e (by decide))]
            · rw [if_neg hl, if_neg (by omega)]
        rw [c_upn k15, ← cA_ag hag (Or.inl rfl) k i (by omega)]
        unfold cA
        by_cases h20 : k < 20
        · rw [if_pos h20, if_pos h20]
          unfold cR
          split <;> first | rfl | (exact absurd rfl k1) | (exact absurd rfl k2) | (exact absurd rfl k15) | (exact absurd rfl k16)
        · rw [if_neg h20, if_neg h20]
      have hWf := hW'.congr key
      have r00 := hWf.1 0 0 _ rfl
      have r10' := hWf.1 1 0 _ rfl
      rw [b00] at r00
      rw [b10] at r10' r00
      refine ⟨_, _, r00, rfl, _, r10', _, _, r10', rfl, ?_⟩
      refine hQ h' α' (D.2.2.2.2.1 2 + 1) cap' el' hWf hag (fun i => ?_) ⟨hc1, hc160, fun i hi => ?_, fun i hi => ?_, fun e => ?_⟩ hc10
      · rw [hα 17 i (by decide), a_upn (by decide), a_upn (by decide)]
      · show el' i = some (α' 15 i)
        rw [hα 15 i (by decide), a_upn (by decide)]
        by_cases e : i = R.2.2.1
        · rw [e, a_ups]; exact hel2
        · rw [hel1 i (by omega), hL.2.2.1 i (by omega)]
          exact congrArg some (if_neg (fun z => e z.2)).symm
      · exact hel3 i (by omega) hL.2.2.2.1
      · have e' : cap' = 0 := e
        omega
  · exfalso
    (simp only [Int32.lt_iff_toInt_lt, Int32.le_iff_toInt_le, ← Int32.toInt_inj, Int64.lt_iff_toInt_lt, Int64.le_iff_toInt_le, ← Int64.toInt_inj, not_true_eq_false, not_false_eq_true, l32_0, l32_1, l32_2, l32_3, l32_4, l32_5, l32_6, l32_7, l32_8, l32_10, l32_11, l32_12, l32_13, l32_15, l32_36, l32_40, l32_64, l32_99, l32_100, l32_1000, l32_1439, l32_1440, l32_m1, l32_m2, l32_m4, l32_m5, l64_0, l64_1, l64_15, l64_1440, l64_m1] at * <;> omega)
end CI
