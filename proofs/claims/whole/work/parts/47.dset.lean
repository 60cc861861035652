/-! writes of the class's own state -/
def dWd (D : dS) (k : Nat) (v w : Int64) : dS := (D.1, D.2.1, (fun i => if i = k then v else if i = k + 1 then w else D.2.2.1 i), D.2.2.2)
def dLd (D : dS) (k i : Nat) (v : Int32) : dS := (D.1, D.2.1, D.2.2.1, (fun k' => if k' = k then upd (D.2.2.2.1 k) i v else D.2.2.2.1 k'), D.2.2.2.2)
def dSc (D : dS) (k : Nat) (v : Int32) : dS := (D.1, D.2.1, D.2.2.1, D.2.2.2.1, (fun i => if i = k then v else D.2.2.2.2.1 i), D.2.2.2.2.2)
def dDp (D : dS) (j : Nat) (v w : Int64) : dS := ((fun i => if i = j then v else D.1 i), (fun i => if i = j then w else D.2.1 i), D.2.2)
section DS
variable {h : hM} {α : Nat → Nat → Nat} {R S : mS} {D : dS} {th : Int32}
theorem d_ended (v w : Int64) (hW : Wd h α (cA α R D S th)) : Wd (h_up h (α 11 0) (eO 4 [.long v, .long w])) α (cA α R (dWd D 0 v w) S th) :=
  hW.cset 11 0 (by decide) _ rfl rfl (fun k i hk => by unfold cR; split <;> first | rfl | (simp_all; done))
theorem d_names (v w : Int64) (hW : Wd h α (cA α R D S th)) : Wd (h_up h (α 14 0) (eO 4 [.long v, .long w])) α (cA α R (dWd D 2 v w) S th) :=
  hW.cset 14 0 (by decide) _ rfl rfl (fun k i hk => by unfold cR; split <;> first | rfl | (simp_all; done))
theorem d_ofc (c : Nat) (v : Int32) (hW : Wd h α (cA α R D S th)) : Wd (h_up h (α 12 0) (eT 0 36 (upd (D.2.2.2.1 0) c v))) α (cA α R (dLd D 0 c v) S th) :=
  hW.cset 12 0 (by decide) _ rfl rfl (fun k i hk => by unfold cR; split <;> first | rfl | (simp_all; done))
theorem d_unit (c : Nat) (v : Int32) (hW : Wd h α (cA α R D S th)) : Wd (h_up h (α 13 0) (eT 0 4 (upd (D.2.2.2.1 1) c v))) α (cA α R (dLd D 1 c v) S th) :=
  hW.cset 13 0 (by decide) _ rfl rfl (fun k i hk => by unfold cR; split <;> first | rfl | (simp_all; done))
theorem d_runs (v : Int32) (hW : Wd h α (cA α R D S th)) : Wd (h_up h (α 10 0) (eO 2 [.ref (α 12 0), .ref (α 13 0), .ref (α 14 0), .int v, .int (D.2.2.2.2.1 1)])) α (cA α R (dSc D 0 v) S th) :=
  hW.cset 10 0 (by decide) _ rfl rfl (fun k i hk => by unfold cR; split <;> first | rfl | (simp_all; done))
theorem d_alone (v : Int32) (hW : Wd h α (cA α R D S th)) : Wd (h_up h (α 10 0) (eO 2 [.ref (α 12 0), .ref (α 13 0), .ref (α 14 0), .int (D.2.2.2.2.1 0), .int v])) α (cA α R (dSc D 1 v) S th) :=
  hW.cset 10 0 (by decide) _ rfl rfl (fun k i hk => by unfold cR; split <;> first | rfl | (simp_all; done))
theorem d_deep {j : Nat} (hj : j < R.2.2.2) (v w : Int64) (hW : Wd h α (cA α R D S th)) : Wd (h_up h (α 19 j) (eO 4 [.long v, .long w])) α (cA α R (dDp D j v w) S th) := by
  refine hW.cset 19 j (by decide) _ (if_pos hj) ?_ (fun k i hk => ?_)
  · show (if j < R.2.2.2 then some (eO 4 [.long (if j = j then v else D.1 j), .long (if j = j then w else D.2.1 j)]) else none) = _
    rw [if_pos hj, if_pos rfl, if_pos rfl]
  · unfold cR
    split <;> first | rfl | skip
    have hne : i ≠ j := fun e => hk ⟨rfl, e⟩
    show (if i < R.2.2.2 then some (eO 4 [.long (if i = j then v else D.1 i), .long (if i = j then w else D.2.1 i)]) else none) = _
    rw [if_neg hne, if_neg hne]
/-- an initiator's running job -/
theorem c_runs {j : Nat} (hj : j < R.2.2.1) (v : Int32) (hW : Wd h α (cA α R D S th)) : Wd (h_up h (α 15 j) (eO 3 [.ref (α 16 j), .int (R.1 2 j), .int (v + 1)])) α (cA α (s_up R 1 j v) D S th) := by
  refine hW.cset 15 j (by decide) _ (if_pos hj) ?_ (fun k i hk => ?_)
  · show (if j < R.2.2.1 then some (eO 3 [_, _, .int (upd (R.1 1) j v j + 1)]) else none) = _
    rw [if_pos hj, pk_us]
    rfl
  · unfold cR
    split <;> first | rfl | skip
    have hne : i ≠ j := fun e => hk ⟨rfl, e⟩
    show (if i < R.2.2.1 then some (eO 3 [_, _, .int (upd (R.1 1) j v i + 1)]) else none) = _
    rw [upd_ne hne]
    rfl
/-- a job's state and its time -/
theorem c_stage {j : Nat} (hj : j < R.2.2.2) {R' : mS} {fs : List Value} (hfs : fs = [.int (nI (j + 1)), .int (R.1 8 j), .int (R.1 9 j), .int (R.1 10 j), .long (R.2.1 0 j), .ref (α 18 j), .ref (α 19 j), .int (R.1 14 j), .int (stg R' j), .long (if R'.1 11 j = 0 then R'.2.1 0 j else R'.2.1 1 j)]) (h22 : R'.2.2 = R.2.2) (h20 : ∀ k, k ≠ 1 → R'.2.1 k = R.2.1 k) (h21 : ∀ i, i ≠ j → R'.2.1 1 i = R.2.1 1 i) (h1 : ∀ k, k ≠ 11 → R'.1 k = R.1 k) (h11 : ∀ i, i ≠ j → R'.1 11 i = R.1 11 i) (hW : Wd h α (cA α R D S th)) : Wd (h_up h (α 17 j) (eO 1 fs)) α (cA α R' D S th) := by
  have e22 : R'.2.2.2 = R.2.2.2 := by rw [h22]
  have e21 : R'.2.2.1 = R.2.2.1 := by rw [h22]
  refine hW.cset 17 j (by decide) _ (if_pos hj) ?_ (fun k i hk => ?_)
  · show (if j < R'.2.2.2 then some (eO 1 [_, .int (R'.1 8 j), .int (R'.1 9 j), .int (R'.1 10 j), .long (R'.2.1 0 j), _, _, .int (R'.1 14 j), _, _]) else none) = _
    rw [e22, if_pos hj, h1 8 (by decide), h1 9 (by decide), h1 10 (by decide), h1 14 (by decide), hfs, h20 0 (by decide)]
  · unfold cR
    rw [e22, e21, h20 2 (by decide), h20 3 (by decide), h1 17 (by decide), h1 3 (by decide), h1 4 (by decide), h1 5 (by decide), h1 6 (by decide), h1 7 (by decide), h1 2 (by decide), h1 1 (by decide), h1 0 (by decide), h1 8 (by decide), h1 9 (by decide), h1 10 (by decide), h1 12 (by decide), h1 14 (by decide), h20 0 (by decide)]
    split <;> first | rfl | skip
    have hne : i ≠ j := fun e => hk ⟨rfl, e⟩
    have e : stg R' i = stg R i := by
      unfold stg
      rw [h11 i hne, h1 13 (by decide)]
    rw [e, h11 i hne, h21 i hne]
end DS
