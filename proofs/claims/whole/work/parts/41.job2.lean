section CJ2
variable {h : hM} {α : Nat → Nat → Nat} {R S : mS} {D : dS} {th : Int32} {Q : Int32 → hM → Prop} {x1 x2 x3 : Int32} {x4 : Int64}
theorem C_job_key {α' : Nat → Nat → Nat} {qa qb cap' : Nat} {el' : Nat → Option Nat} {m : Int32} (hag : Ag α α' R 4) (e18 : α' 18 R.2.2.2 = qa) (e19 : α' 19 R.2.2.2 = qb) (hc10 : 10 ≤ cap') (h11 : R.1 11 R.2.2.2 = 0) (h13 : R.1 13 R.2.2.2 = 0) (h14 : R.1 14 R.2.2.2 = 0) (h12 : ∀ p, p < 4 → R.1 12 (4 * R.2.2.2 + p) = 0) :
    ∀ k i, cA α' (jobS R x1 x2 x3 x4) (d_job D R.2.2.2 m cap' el') S th k i = (c_up (c_up (c_up (c_up (c_up (cA α (s_upL R 2 0 x4) D S th) 17 R.2.2.2 (eO 1 [.int (nI (R.2.2.2 + 1)), .int x1, .int x2, .int x3, .long x4, .ref qa, .ref qb, .int 0, .int 0, .long x4])) 18 R.2.2.2 (eT 0 4 (fun _ => 0))) 19 R.2.2.2 (eO 4 [.long 0, .long 0])) 4 0 (eA 2 cap' el')) 3 0 (eO 5 [.int m, .ref (α' 4 0), .int (nI (R.2.2.2 + 1))])) k i := by
  intro k i
  by_cases k3 : k = 3
  · subst k3
    by_cases hi : i = 0
    · subst hi
      exact (c_ups).symm
    · unfold c_up
      rw [if_neg (fun e => hi e.2), if_neg (fun e => by omega), if_neg (fun e => by omega), if_neg (fun e => by omega), if_neg (fun e => by omega)]
      show (if i = 0 then _ else none) = (if i = 0 then _ else none)
      rw [if_neg hi, if_neg hi]
  rw [c_upn k3]
  by_cases k4 : k = 4
  · subst k4
    by_cases hi : i = 0
    · subst hi
      rw [c_ups]
      exact cA_4 (D := d_job D R.2.2.2 m cap' el') (by show cap' ≠ 0; omega)
    · unfold c_up
      rw [if_neg (fun e => hi e.2), if_neg (fun e => by omega), if_neg (fun e => by omega), if_neg (fun e => by omega)]
      show (if i = 0 ∧ cap' ≠ 0 then _ else none) = (if i = 0 ∧ D.2.2.2.2.2.1 1 ≠ 0 then _ else none)
      rw [if_neg (fun e => hi e.1), if_neg (fun e => hi e.1)]
  rw [c_upn k4]
  by_cases k19 : k = 19
  · subst k19
    by_cases hi : i = R.2.2.2
    · subst hi
      rw [c_ups]
      show (if R.2.2.2 < R.2.2.2 + 1 then some (eO 4 [.long (if R.2.2.2 = R.2.2.2 then 0 else D.1 R.2.2.2), .long (if R.2.2.2 = R.2.2.2 then 0 else D.2.1 R.2.2.2)]) else none) = _
      rw [if_pos (Nat.lt_succ_self _), if_pos rfl, if_pos rfl]
    · unfold c_up
      rw [if_neg (fun e => hi e.2), if_neg (fun e => by omega), if_neg (fun e => by omega)]
      show (if i < R.2.2.2 + 1 then some (eO 4 [.long (if i = R.2.2.2 then 0 else D.1 i), .long (if i = R.2.2.2 then 0 else D.2.1 i)]) else none) = (if i < R.2.2.2 then some (eO 4 [.long (D.1 i), .long (D.2.1 i)]) else none)
      rw [if_neg hi, if_neg hi]
      by_cases hl : i < R.2.2.2
      · rw [if_pos hl, if_pos (by omega)]
      · rw [if_neg hl, if_neg (by omega)]
  rw [c_upn k19]
  by_cases k18 : k = 18
  · subst k18
    by_cases hi : i = R.2.2.2
    · subst hi
      rw [c_ups]
      show (if R.2.2.2 < R.2.2.2 + 1 then some (eT 0 4 (fun p => if p < 4 then R.1 12 (4 * R.2.2.2 + p) else 0)) else none) = _
      rw [if_pos (Nat.lt_succ_self _)]
      congr 2
      funext p
      by_cases hp : p < 4
      · rw [if_pos hp, h12 p hp]
      · rw [if_neg hp]
    · unfold c_up
      rw [if_neg (fun e => hi e.2), if_neg (fun e => by omega)]
      show (if i < R.2.2.2 + 1 then some (eT 0 4 (fun p => if p < 4 then R.1 12 (4 * i + p) else 0)) else none) = (if i < R.2.2.2 then some (eT 0 4 (fun p => if p < 4 then R.1 12 (4 * i + p) else 0)) else none)
      by_cases hl : i < R.2.2.2
      · rw [if_pos hl, if_pos (by omega)]
      · rw [if_neg hl, if_neg (by omega)]
  rw [c_upn k18]
  by_cases k17 : k = 17
  · subst k17
    by_cases hi : i = R.2.2.2
    · subst hi
      rw [c_ups]
      have es : stg (jobS R x1 x2 x3 x4) R.2.2.2 = 0 := by
        show (if R.1 11 R.2.2.2 = 0 then (if R.1 13 R.2.2.2 = 0 then 0 else 1) else R.1 11 R.2.2.2) = 0
        rw [if_pos h11, if_pos h13]
      show (if R.2.2.2 < R.2.2.2 + 1 then some (eO 1 [.int (nI (R.2.2.2 + 1)), .int (upd (R.1 8) R.2.2.2 x1 R.2.2.2), .int (upd (R.1 9) R.2.2.2 x2 R.2.2.2), .int (upd (R.1 10) R.2.2.2 x3 R.2.2.2), .long (vp_updL (R.2.1 0) R.2.2.2 x4 R.2.2.2), .ref (α' 18 R.2.2.2), .ref (α' 19 R.2.2.2), .int (R.1 14 R.2.2.2), .int (stg (jobS R x1 x2 x3 x4) R.2.2.2), .long (if R.1 11 R.2.2.2 = 0 then vp_updL (R.2.1 0) R.2.2.2 x4 R.2.2.2 else R.2.1 1 R.2.2.2)]) else none) = _
      rw [if_pos (Nat.lt_succ_self _), if_pos h11, pk_us, pk_us, pk_us, pk_uLs, h14, es, e18, e19]
    · unfold c_up
      rw [if_neg (fun e => hi e.2)]
      have es : stg (jobS R x1 x2 x3 x4) i = stg R i := rfl
      show (if i < R.2.2.2 + 1 then some (eO 1 [.int (nI (i + 1)), .int (upd (R.1 8) R.2.2.2 x1 i), .int (upd (R.1 9) R.2.2.2 x2 i), .int (upd (R.1 10) R.2.2.2 x3 i), .long (vp_updL (R.2.1 0) R.2.2.2 x4 i), .ref (α' 18 i), .ref (α' 19 i), .int (R.1 14 i), .int (stg (jobS R x1 x2 x3 x4) i), .long (if R.1 11 i = 0 then vp_updL (R.2.1 0) R.2.2.2 x4 i else R.2.1 1 i)]) else none) = (if i < R.2.2.2 then some (eO 1 [.int (nI (i + 1)), .int (R.1 8 i), .int (R.1 9 i), .int (R.1 10 i), .long (R.2.1 0 i), .ref (α 18 i), .ref (α 19 i), .int (R.1 14 i), .int (stg R i), .long (if R.1 11 i = 0 then R.2.1 0 i else R.2.1 1 i)]) else none)
      rw [pk_un hi, pk_un hi, pk_un hi, pk_uLn hi, es]
      by_cases hl : i < R.2.2.2
      · rw [if_pos hl, if_pos (by omega), hag 18 i (by decide) (by decide) (by decide) (fun e => absurd e (by decide)) (fun _ => hl) (fun e => absurd e (by decide)), hag 19 i (by decide) (by decide) (by decide) (fun e => absurd e (by decide)) (fun e => absurd e (by decide)) (fun _ => hl)]
      · rw [if_neg hl, if_neg (by omega)]
  rw [c_upn k17, ← cA_ag (R := s_upL R 2 0 x4) hag (Or.inr rfl) k i (by omega)]
  unfold cA
  by_cases h20 : k < 20
  · rw [if_pos h20, if_pos h20]
    unfold cR
    split <;> first | rfl | (exact absurd rfl k3) | (exact absurd rfl k4) | (exact absurd rfl k17) | (exact absurd rfl k18) | (exact absurd rfl k19)
  · rw [if_neg h20, if_neg h20]
theorem C_job_ok (hW : Wd h α (cA α R D S th)) (a1 : 0 ≤ x1.toInt ∧ x1.toInt < 36) (a2 : 0 ≤ x2.toInt ∧ x2.toInt ≤ 15) (a3 : 0 ≤ x3.toInt ∧ x3.toInt ≤ 99) (a4 : (R.2.1 2 0).toInt ≤ x4.toInt) (hn : R.2.2.2 < 100) (hL : LOk α D 1 17 R.2.2.2) (hL10 : D.2.2.2.2.2.1 1 = 0 ∨ 10 ≤ D.2.2.2.2.2.1 1) (h11 : R.1 11 R.2.2.2 = 0) (h13 : R.1 13 R.2.2.2 = 0) (h14 : R.1 14 R.2.2.2 = 0) (h12 : ∀ p, p < 4 → R.1 12 (4 * R.2.2.2 + p) = 0)
    (hQ : ∀ (h' : hM) (α' : Nat → Nat → Nat) (m : Int32) (cap : Nat) (el : Nat → Option Nat), Wd h' α' (cA α' (jobS R x1 x2 x3 x4) (d_job D R.2.2.2 m cap el) S th) → Ag α α' R 4 → (∀ i, α' 15 i = α 15 i) → LOk α' (d_job D R.2.2.2 m cap el) 1 17 (R.2.2.2 + 1) → 10 ≤ cap → Q (nI (R.2.2.2 + 1)) h') : P_Rows_job Q h (α 0 0) x1 x2 x3 x4 := by
  refine C_job_to hW a1 a2 a3 a4 ⟨_, _, hW.1 0 0 _ rfl, rfl, _, hW.1 3 0 _ rfl, _, _, hW.1 3 0 _ rfl, rfl, fun _ => ?_, fun z => absurd (show nI R.2.2.2 < nI 100 from nI_lt hn (by decide)) z⟩
  refine ⟨_, hW.1 0 0 _ rfl, Nat.le_of_ble_eq_true rfl, fun g0 e0 => ?_⟩
  have hW0 : Wd g0 α (cA α (s_upL R 2 0 x4) D S th) := by rw [e0]; exact c_now x4 hW
  refine ⟨_, _, hW0.1 0 0 _ rfl, rfl, _, hW0.1 3 0 _ rfl, _, _, hW0.1 3 0 _ rfl, rfl, fun x6 e6 => ?_⟩
  have e6' : x6 = nI (R.2.2.2 + 1) := by rw [e6]; exact nI_1 _
  subst e6'
  refine ⟨_, _, hW0.1 0 0 _ rfl, rfl, fun q hq g1 e1 => ?_⟩
  have hW1 : Wd g1 (a_up α 17 R.2.2.2 q) (c_up (cA α (s_upL R 2 0 x4) D S th) 17 R.2.2.2 (eO 1 [.int 0, .int 0, .int 0, .int 0, .long 0, .null, .null, .int 0, .int 0, .long 0])) := by rw [e1]; exact hW0.new 17 _ (by decide) hq _
  refine C_Job_init hW1 c_ups a_ups (fun g2 qa qb hW2 => ?_)
  rw [c_up2] at hW2
  generalize hβ : a_up (a_up (a_up α 17 R.2.2.2 q) 18 R.2.2.2 qa) 19 R.2.2.2 qb = β at hW2
  have b30 : β 3 0 = α 3 0 := by rw [← hβ]; rfl
  have b40 : β 4 0 = α 4 0 := by rw [← hβ]; rfl
  have b50 : β 50 0 = α 50 0 := by rw [← hβ]; rfl
  have b17 : β 17 R.2.2.2 = q := by rw [← hβ, a_upn (by decide), a_upn (by decide), a_ups]
  have b17i : ∀ i, i ≠ R.2.2.2 → β 17 i = α 17 i := fun i hi => by
    rw [← hβ, a_upn (by decide), a_upn (by decide)]
    exact if_neg (fun e => hi e.2)
  have c1 : (c_up (c_up (c_up (cA α (s_upL R 2 0 x4) D S th) 17 R.2.2.2 (eO 1 [.int (nI (R.2.2.2 + 1)), .int x1, .int x2, .int x3, .long x4, .ref qa, .ref qb, .int 0, .int 0, .long x4])) 18 R.2.2.2 (eT 0 4 (fun _ => 0))) 19 R.2.2.2 (eO 4 [.long 0, .long 0])) 3 0 = some (eO 5 [.int (D.2.2.2.2.1 3), .ref (β 4 0), .int (nI R.2.2.2)]) := by rw [b40]; rfl
  have rq := hW2.1 17 R.2.2.2 _ ((c_upn (by decide)).trans ((c_upn (by decide)).trans c_ups))
  rw [b17] at rq
  have r30 := hW2.1 3 0 _ c1
  rw [b30] at r30
  refine ⟨_, r30, ?_⟩
  show P_AL_add_L _ g2 (α 3 0) q
  rw [← b30]
  refine C_add (k1 := 3) (k2 := 4) (cap := D.2.2.2.2.2.1 1) (el := D.2.2.2.2.2.2 1) (ci := 1) (by decide) (by decide) hW2 c1 ?_ hL.1 hn hL.2.1 (Or.inl rfl) ?_ rq ?_
  · rcases hL10 with e | e
    · exact Or.inl ⟨e, by rw [b40, b50]; exact hL.2.2.2.2 e⟩
    · exact Or.inr ⟨e, (c_upn (by decide)).trans ((c_upn (by decide)).trans ((c_upn (by decide)).trans (cA_4 (by omega))))⟩
  · intro i hi y hy
    rw [hL.2.2.1 i hi] at hy
    cases hy
    have hne : i ≠ R.2.2.2 := by omega
    have e17 := cA_17 (α := α) (R := s_upL R 2 0 x4) (S := S) (D := D) (th := th) (i := i) hi
    have e17' : (c_up (c_up (c_up (cA α (s_upL R 2 0 x4) D S th) 17 R.2.2.2 (eO 1 [.int (nI (R.2.2.2 + 1)), .int x1, .int x2, .int x3, .long x4, .ref qa, .ref qb, .int 0, .int 0, .long x4])) 18 R.2.2.2 (eT 0 4 (fun _ => 0))) 19 R.2.2.2 (eO 4 [.long 0, .long 0])) 17 i = cA α (s_upL R 2 0 x4) D S th 17 i := by
      rw [c_upn (by decide), c_upn (by decide)]
      exact if_neg (fun e => hne e.2)
    have r := hW2.1 17 i _ (e17'.trans e17)
    rw [b17i i hne] at r
    exact ⟨_, r⟩
  · intro h' α' cap' el' hW' hα hc1 hc10 hc160 hel1 hel2 hel3
    have hag : Ag α α' R 4 := by
      intro k i hk4 hk15 hk17 hk16 hk18 hk19
      rw [hα k i hk4, ← hβ]
      unfold a_up
      rw [if_neg (fun e => by have := hk19 e.1; omega), if_neg (fun e => by have := hk18 e.1; omega), if_neg (fun e => hk17 e.1)]
    have e18 : α' 18 R.2.2.2 = qa := by rw [hα 18 _ (by decide), ← hβ, a_upn (by decide), a_ups]
    have e19 : α' 19 R.2.2.2 = qb := by rw [hα 19 _ (by decide), ← hβ, a_ups]
    have hWf := hW'.congr (C_job_key (S := S) (th := th) (D := D) (m := D.2.2.2.2.1 3 + 1) hag e18 e19 hc10 h11 h13 h14 h12)
    refine hQ h' α' (D.2.2.2.2.1 3 + 1) cap' el' hWf hag (fun i => ?_) ⟨hc1, hc160, fun i hi => ?_, fun i hi => ?_, fun e => ?_⟩ hc10
    · rw [hα 15 i (by decide), ← hβ, a_upn (by decide), a_upn (by decide), a_upn (by decide)]
    · show el' i = some (α' 17 i)
      rw [hα 17 i (by decide)]
      by_cases e : i = R.2.2.2
      · rw [e, b17]; exact hel2
      · rw [hel1 i (by omega), hL.2.2.1 i (by omega), b17i i e]
    · exact hel3 i (by omega) hL.2.2.2.1
    · have e' : cap' = 0 := e
      omega
end CJ2
