section JB
variable {h : hM} {α : Nat → Nat → Nat} {c : Nat → Nat → Option hE}
theorem C_NS_init {Q : hM → Prop} {q : Nat} (hr : rd h q = some (eO 4 [.long 0, .long 0])) (hQ : Q (h_up (h_up h q (eO 4 [.long 0, .long 0])) q (eO 4 [.long 0, .long 0]))) : P_NS_init Q h q := by
  refine ⟨_, hr, Nat.le_of_ble_eq_true rfl, fun g1 e1 => ?_⟩
  subst e1
  refine ⟨_, h_up_self _ _ _, Nat.le_of_ble_eq_true rfl, fun g2 e2 => ?_⟩
  subst e2
  exact hQ
theorem h_up2 {h : hM} {q : Nat} {x y : hE} : h_up (h_up h q x) q y = h_up h q y := by
  unfold h_up
  congr 2
  funext a
  by_cases ha : a = q
  · rw [if_pos ha, if_pos ha]
  · rw [if_neg ha, if_neg ha]
    exact if_neg ha
theorem C_Job_init {Q : hM → Prop} {j0 q : Nat} {x1 x2 x3 x4 : Int32} {x5 : Int64} (hW : Wd h α c) (h17 : c 17 j0 = some (eO 1 [.int 0, .int 0, .int 0, .int 0, .long 0, .null, .null, .int 0, .int 0, .long 0])) (hq : α 17 j0 = q) (hQ : ∀ (h' : hM) (qa qb : Nat), Wd h' (a_up (a_up α 18 j0 qa) 19 j0 qb) (c_up (c_up (c_up c 17 j0 (eO 1 [.int x1, .int x2, .int x3, .int x4, .long x5, .ref qa, .ref qb, .int 0, .int 0, .long x5])) 18 j0 (eT 0 4 (fun _ => 0))) 19 j0 (eO 4 [.long 0, .long 0])) → Q h') : P_Job_init Q h q x1 x2 x3 x4 x5 := by
  subst hq
  refine ⟨_, hW.1 17 j0 _ h17, Nat.le_of_ble_eq_true rfl, fun g1 e1 => ?_⟩
  have W1 : Wd g1 α (c_up c 17 j0 (eO 1 [.int x1, .int 0, .int 0, .int 0, .long 0, .null, .null, .int 0, .int 0, .long 0])) := by rw [e1]; exact hW.set 17 j0 h17 _
  refine ⟨_, W1.1 17 j0 _ c_ups, Nat.le_of_ble_eq_true rfl, fun g2 e2 => ?_⟩
  have W2 : Wd g2 α (c_up c 17 j0 (eO 1 [.int x1, .int x2, .int 0, .int 0, .long 0, .null, .null, .int 0, .int 0, .long 0])) := by
    have := W1.set 17 j0 c_ups (eO 1 [.int x1, .int x2, .int 0, .int 0, .long 0, .null, .null, .int 0, .int 0, .long 0])
    rw [c_up2] at this
    rw [e2]
    exact this
  refine ⟨_, W2.1 17 j0 _ c_ups, Nat.le_of_ble_eq_true rfl, fun g3 e3 => ?_⟩
  have W3 : Wd g3 α (c_up c 17 j0 (eO 1 [.int x1, .int x2, .int x3, .int 0, .long 0, .null, .null, .int 0, .int 0, .long 0])) := by
    have := W2.set 17 j0 c_ups (eO 1 [.int x1, .int x2, .int x3, .int 0, .long 0, .null, .null, .int 0, .int 0, .long 0])
    rw [c_up2] at this
    rw [e3]
    exact this
  refine ⟨_, W3.1 17 j0 _ c_ups, Nat.le_of_ble_eq_true rfl, fun g4 e4 => ?_⟩
  have W4 : Wd g4 α (c_up c 17 j0 (eO 1 [.int x1, .int x2, .int x3, .int x4, .long 0, .null, .null, .int 0, .int 0, .long 0])) := by
    have := W3.set 17 j0 c_ups (eO 1 [.int x1, .int x2, .int x3, .int x4, .long 0, .null, .null, .int 0, .int 0, .long 0])
    rw [c_up2] at this
    rw [e4]
    exact this
  refine ⟨_, W4.1 17 j0 _ c_ups, Nat.le_of_ble_eq_true rfl, fun g5 e5 => ?_⟩
  have W5 : Wd g5 α (c_up c 17 j0 (eO 1 [.int x1, .int x2, .int x3, .int x4, .long x5, .null, .null, .int 0, .int 0, .long 0])) := by
    have := W4.set 17 j0 c_ups (eO 1 [.int x1, .int x2, .int x3, .int x4, .long x5, .null, .null, .int 0, .int 0, .long 0])
    rw [c_up2] at this
    rw [e5]
    exact this
  intro qa hqa g6 e6
  have W6 : Wd g6 (a_up α 18 j0 qa) (c_up (c_up c 17 j0 (eO 1 [.int x1, .int x2, .int x3, .int x4, .long x5, .null, .null, .int 0, .int 0, .long 0])) 18 j0 (eT 0 4 (fun _ => 0))) := by rw [e6]; exact W5.new 18 j0 (by decide) hqa _
  have k17 : ∀ x y, c_up (c_up c 17 j0 x) 18 j0 y 17 j0 = some x := fun x y => (c_upn (by decide)).trans c_ups
  have r6 := W6.1 17 j0 _ (k17 _ _)
  rw [a_upn (by decide)] at r6
  refine ⟨_, r6, Nat.le_of_ble_eq_true rfl, fun g7 e7 => ?_⟩
  have W7 : Wd g7 (a_up α 18 j0 qa) (c_up (c_up c 17 j0 (eO 1 [.int x1, .int x2, .int x3, .int x4, .long x5, .ref qa, .null, .int 0, .int 0, .long 0])) 18 j0 (eT 0 4 (fun _ => 0))) := by
    have := W6.set 17 j0 (k17 _ _) (eO 1 [.int x1, .int x2, .int x3, .int x4, .long x5, .ref qa, .null, .int 0, .int 0, .long 0])
    rw [c_upc (by decide), c_up2, a_upn (by decide)] at this
    rw [e7]
    exact this
  intro qb hqb g8 e8
  have W8 : Wd g8 (a_up (a_up α 18 j0 qa) 19 j0 qb) (c_up (c_up (c_up c 17 j0 (eO 1 [.int x1, .int x2, .int x3, .int x4, .long x5, .ref qa, .null, .int 0, .int 0, .long 0])) 18 j0 (eT 0 4 (fun _ => 0))) 19 j0 (eO 4 [.long 0, .long 0])) := by rw [e8]; exact W7.new 19 j0 (by decide) hqb _
  have rb := W8.1 19 j0 _ c_ups
  rw [a_ups] at rb
  refine C_NS_init rb ?_
  rw [h_up2]
  have W9 : Wd (h_up g8 qb (eO 4 [.long 0, .long 0])) (a_up (a_up α 18 j0 qa) 19 j0 qb) (c_up (c_up (c_up c 17 j0 (eO 1 [.int x1, .int x2, .int x3, .int x4, .long x5, .ref qa, .null, .int 0, .int 0, .long 0])) 18 j0 (eT 0 4 (fun _ => 0))) 19 j0 (eO 4 [.long 0, .long 0])) := by
    have := W8.set 19 j0 c_ups (eO 4 [.long 0, .long 0])
    rw [c_up2, a_ups] at this
    exact this
  generalize h_up g8 qb (eO 4 [.long 0, .long 0]) = g9 at W9 ⊢
  have k19 : ∀ x y z, c_up (c_up (c_up c 17 j0 x) 18 j0 y) 19 j0 z 17 j0 = some x := fun x y z => (c_upn (by decide)).trans (k17 x y)
  have a17 : a_up (a_up α 18 j0 qa) 19 j0 qb 17 j0 = α 17 j0 := by rw [a_upn (by decide), a_upn (by decide)]
  have r9 := W9.1 17 j0 _ (k19 _ _ _)
  rw [a17] at r9
  refine ⟨_, r9, Nat.le_of_ble_eq_true rfl, fun g10 e10 => ?_⟩
  have W10 : Wd g10 (a_up (a_up α 18 j0 qa) 19 j0 qb) (c_up (c_up (c_up c 17 j0 (eO 1 [.int x1, .int x2, .int x3, .int x4, .long x5, .ref qa, .ref qb, .int 0, .int 0, .long 0])) 18 j0 (eT 0 4 (fun _ => 0))) 19 j0 (eO 4 [.long 0, .long 0])) := by
    have := W9.set 17 j0 (k19 _ _ _) (eO 1 [.int x1, .int x2, .int x3, .int x4, .long x5, .ref qa, .ref qb, .int 0, .int 0, .long 0])
    rw [c_upc (k := 19) (by decide), c_upc (k := 18) (by decide), c_up2, a17] at this
    rw [e10]
    exact this
  have r10 := W10.1 17 j0 _ (k19 _ _ _)
  rw [a17] at r10
  refine ⟨_, r10, Nat.le_of_ble_eq_true rfl, fun g11 e11 => ?_⟩
  have W11 : Wd g11 (a_up (a_up α 18 j0 qa) 19 j0 qb) (c_up (c_up (c_up c 17 j0 (eO 1 [.int x1, .int x2, .int x3, .int x4, .long x5, .ref qa, .ref qb, .int 0, .int 0, .long 0])) 18 j0 (eT 0 4 (fun _ => 0))) 19 j0 (eO 4 [.long 0, .long 0])) := by
    have := W10.set 17 j0 (k19 _ _ _) (eO 1 [.int x1, .int x2, .int x3, .int x4, .long x5, .ref qa, .ref qb, .int 0, .int 0, .long 0])
    rw [c_upc (k := 19) (by decide), c_upc (k := 18) (by decide), c_up2, a17] at this
    rw [e11]
    exact this
  have r11 := W11.1 17 j0 _ (k19 _ _ _)
  rw [a17] at r11
  refine ⟨_, r11, Nat.le_of_ble_eq_true rfl, fun g12 e12 => ?_⟩
  have W12 : Wd g12 (a_up (a_up α 18 j0 qa) 19 j0 qb) (c_up (c_up (c_up c 17 j0 (eO 1 [.int x1, .int x2, .int x3, .int x4, .long x5, .ref qa, .ref qb, .int 0, .int 0, .long 0])) 18 j0 (eT 0 4 (fun _ => 0))) 19 j0 (eO 4 [.long 0, .long 0])) := by
    have := W11.set 17 j0 (k19 _ _ _) (eO 1 [.int x1, .int x2, .int x3, .int x4, .long x5, .ref qa, .ref qb, .int 0, .int 0, .long 0])
    rw [c_upc (k := 19) (by decide), c_upc (k := 18) (by decide), c_up2, a17] at this
    rw [e12]
    exact this
  have r12 := W12.1 17 j0 _ (k19 _ _ _)
  rw [a17] at r12
  refine ⟨_, r12, Nat.le_of_ble_eq_true rfl, fun g13 e13 => ?_⟩
  have W13 : Wd g13 (a_up (a_up α 18 j0 qa) 19 j0 qb) (c_up (c_up (c_up c 17 j0 (eO 1 [.int x1, .int x2, .int x3, .int x4, .long x5, .ref qa, .ref qb, .int 0, .int 0, .long x5])) 18 j0 (eT 0 4 (fun _ => 0))) 19 j0 (eO 4 [.long 0, .long 0])) := by
    have := W12.set 17 j0 (k19 _ _ _) (eO 1 [.int x1, .int x2, .int x3, .int x4, .long x5, .ref qa, .ref qb, .int 0, .int 0, .long x5])
    rw [c_upc (k := 19) (by decide), c_upc (k := 18) (by decide), c_up2, a17] at this
    rw [e13]
    exact this
  exact hQ g13 qa qb W13
end JB
section CJ
variable {h : hM} {α : Nat → Nat → Nat} {R S : mS} {D : dS} {th : Int32} {Q : Int32 → hM → Prop} {x1 x2 x3 : Int32} {x4 : Int64}
theorem C_job_no4 (hW : Wd h α (cA α R D S th)) (hn : ¬ ((0 ≤ x1.toInt ∧ x1.toInt < 36) ∧ (0 ≤ x2.toInt ∧ x2.toInt ≤ 15) ∧ (0 ≤ x3.toInt ∧ x3.toInt ≤ 99) ∧ (R.2.1 2 0).toInt ≤ x4.toInt)) (hQ : Q (-4) h) : P_Rows_job Q h (α 0 0) x1 x2 x3 x4 := by
  by_cases hc : 0 ≤ x1.toInt ∧ x1.toInt < 36
  · refine C_isClass_yes hc.1 hc.2 ⟨fun z => absurd z (by decide), fun _ => ?_⟩
    by_cases h2 : 0 ≤ x2.toInt ∧ x2.toInt ≤ 15
    · refine C_isIn_yes (by rw [l32_0]; omega) (by rw [l32_15]; omega) ⟨fun z => absurd z (by decide), fun _ => ?_⟩
      by_cases h3 : 0 ≤ x3.toInt ∧ x3.toInt ≤ 99
      · refine C_isIn_yes (by rw [l32_0]; omega) (by rw [l32_99]; omega) ⟨fun z => absurd z (by decide), fun _ => ⟨_, _, hW.1 0 0 _ rfl, rfl, fun z => ?_, fun _ => hQ⟩⟩
        exfalso
        have := Int64.le_iff_toInt_le.mp z
        omega
      · exact C_isIn_no (by rw [l32_0, l32_99]; omega) ⟨fun _ => hQ, fun z => absurd rfl z⟩
    · exact C_isIn_no (by rw [l32_0, l32_15]; omega) ⟨fun _ => hQ, fun z => absurd rfl z⟩
  · exact C_isClass_no hc ⟨fun _ => hQ, fun z => absurd rfl z⟩
theorem C_job_to (hW : Wd h α (cA α R D S th)) (a1 : 0 ≤ x1.toInt ∧ x1.toInt < 36) (a2 : 0 ≤ x2.toInt ∧ x2.toInt ≤ 15) (a3 : 0 ≤ x3.toInt ∧ x3.toInt ≤ 99) (a4 : (R.2.1 2 0).toInt ≤ x4.toInt)
    (hQ : ∃ (fs63 : List Value) (r66 : Nat), rd h (α 0 0) = some (eO 0 fs63) ∧ fs63[1]? = some (.ref r66) ∧ (∃ fs67 : List Value, rd h r66 = some (eO 5 fs67) ∧ P_AL_size (fun i70 h69 => ((i70 < (100 : Int32) → (∃ fs72 : List Value, rd h69 (α 0 0) = some (eO 0 fs72) ∧ 9 < fs72.length ∧ ∀ h75 : hM, h75 = h_up h69 (α 0 0) (eO 0 (fs72.set 9 (.long x4))) → (∃ (fs76 : List Value) (r79 : Nat), rd h75 (α 0 0) = some (eO 0 fs76) ∧ fs76[1]? = some (.ref r79) ∧ (∃ fs80 : List Value, rd h75 r79 = some (eO 5 fs80) ∧ P_AL_size (fun i83 h82 => (∀ x6_84 : Int32, x6_84 = (i83 + (1 : Int32)) → (∃ (fs85 : List Value) (r88 : Nat), rd h82 (α 0 0) = some (eO 0 fs85) ∧ fs85[1]? = some (.ref r88) ∧ (∀ q89 : Nat, rd h82 q89 = none → ∀ h90 : hM, h90 = h_up h82 q89 (eO 1 [.int 0, .int 0, .int 0, .int 0, .long 0, .null, .null, .int 0, .int 0, .long 0]) → (P_Job_init (fun h91 => (∃ fs93 : List Value, rd h91 r88 = some (eO 5 fs93) ∧ P_AL_add_L (fun i96 h95 => Q x6_84 h95) h91 r88 q89)) h90 q89 x6_84 x1 x2 x3 x4))))) h75 r79)))) ∧ (¬ i70 < (100 : Int32) → Q (-1 : Int32) h69))) h r66)) : P_Rows_job Q h (α 0 0) x1 x2 x3 x4 := by
  refine C_isClass_yes a1.1 a1.2 ⟨fun z => absurd z (by decide), fun _ => C_isIn_yes (by rw [l32_0]; omega) (by rw [l32_15]; omega) ⟨fun z => absurd z (by decide), fun _ => C_isIn_yes (by rw [l32_0]; omega) (by rw [l32_99]; omega) ⟨fun z => absurd z (by decide), fun _ => ⟨_, _, hW.1 0 0 _ rfl, rfl, fun z => hQ, fun z => ?_⟩⟩⟩⟩
  exact absurd (Int64.le_iff_toInt_le.mpr a4) z
theorem C_job_full (hW : Wd h α (cA α R D S th)) (a1 : 0 ≤ x1.toInt ∧ x1.toInt < 36) (a2 : 0 ≤ x2.toInt ∧ x2.toInt ≤ 15) (a3 : 0 ≤ x3.toInt ∧ x3.toInt ≤ 99) (a4 : (R.2.1 2 0).toInt ≤ x4.toInt) (hn : R.2.2.2 = 100) (hQ : Q (-1) h) : P_Rows_job Q h (α 0 0) x1 x2 x3 x4 := by
  refine C_job_to hW a1 a2 a3 a4 ⟨_, _, hW.1 0 0 _ rfl, rfl, _, hW.1 3 0 _ rfl, _, _, hW.1 3 0 _ rfl, rfl, fun z => ?_, fun _ => hQ⟩
  rw [hn] at z
  exact absurd z (by decide)
/-- the state behind a job's arrival -/
def jobS (R : mS) (x1 x2 x3 : Int32) (x4 : Int64) : mS := ((s_upL (s_upL (s_up (s_up (s_up R 8 R.2.2.2 x1) 9 R.2.2.2 x2) 10 R.2.2.2 x3) 2 0 x4) 0 R.2.2.2 x4).1, (s_upL (s_upL (s_up (s_up (s_up R 8 R.2.2.2 x1) 9 R.2.2.2 x2) 10 R.2.2.2 x3) 2 0 x4) 0 R.2.2.2 x4).2.1, R.2.2.1, R.2.2.2 + 1)
def d_job (D : dS) (n : Nat) (m : Int32) (cap : Nat) (el : Nat → Option Nat) : dS := ((fun k => if k = n then 0 else D.1 k), (fun k => if k = n then 0 else D.2.1 k), (d_list D 1 m cap el).2.2)
end CJ
