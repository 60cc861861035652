section CS
variable {h : hM} {α : Nat → Nat → Nat} {R S : mS} {D : dS} {th : Int32}
theorem Wd.cset {R' : mS} {D' : dS} (hW : Wd h α (cA α R D S th)) (k0 i0 : Nat) (h0 : k0 < 20) {y : hE} (x : hE) (hy : cR α R D k0 i0 = some y) (hx : cR α R' D' k0 i0 = some x) (ho : ∀ k i, ¬ (k = k0 ∧ i = i0) → cR α R' D' k i = cR α R D k i) : Wd (h_up h (α k0 i0) x) α (cA α R' D' S th) := by
  have hy' : cA α R D S th k0 i0 = some y := (if_pos h0).trans hy
  refine (hW.set k0 i0 hy' x).congr (cA_cl k0 i0 h0 (fun k i => ?_))
  unfold c_up
  by_cases hk : k = k0 ∧ i = i0
  · rw [if_pos hk, hk.1, hk.2]
    exact hx
  · rw [if_neg hk]
    exact ho k i hk
theorem c_lim (c : Nat) (v : Int32) (hW : Wd h α (cA α R D S th)) : Wd (h_up h (α 5 0) (eT 0 36 (upd (R.1 3) c v))) α (cA α (s_up R 3 c v) D S th) :=
  hW.cset 5 0 (by decide) _ rfl rfl (fun k i hk => by unfold cR; split <;> first | rfl | (simp_all; done))
theorem c_fro (c : Nat) (v : Int32) (hW : Wd h α (cA α R D S th)) : Wd (h_up h (α 6 0) (eT 0 36 (upd (R.1 4) c v))) α (cA α (s_up R 4 c v) D S th) :=
  hW.cset 6 0 (by decide) _ rfl rfl (fun k i hk => by unfold cR; split <;> first | rfl | (simp_all; done))
theorem c_tos (c : Nat) (v : Int32) (hW : Wd h α (cA α R D S th)) : Wd (h_up h (α 7 0) (eT 0 36 (upd (R.1 5) c v))) α (cA α (s_up R 5 c v) D S th) :=
  hW.cset 7 0 (by decide) _ rfl rfl (fun k i hk => by unfold cR; split <;> first | rfl | (simp_all; done))
theorem c_wei (c : Nat) (v : Int32) (hW : Wd h α (cA α R D S th)) : Wd (h_up h (α 8 0) (eT 0 36 (upd (R.1 6) c v))) α (cA α (s_up R 6 c v) D S th) :=
  hW.cset 8 0 (by decide) _ rfl rfl (fun k i hk => by unfold cR; split <;> first | rfl | (simp_all; done))
theorem c_uni (c : Nat) (v : Int32) (hW : Wd h α (cA α R D S th)) : Wd (h_up h (α 9 0) (eT 0 4 (upd (R.1 7) c v))) α (cA α (s_up R 7 c v) D S th) :=
  hW.cset 9 0 (by decide) _ rfl rfl (fun k i hk => by unfold cR; split <;> first | rfl | (simp_all; done))
/-- the class's own fields: time, ageing -/
theorem c_now (t : Int64) (hW : Wd h α (cA α R D S th)) : Wd (h_up h (α 0 0) (eO 0 [.ref (α 1 0), .ref (α 3 0), .ref (α 5 0), .ref (α 6 0), .ref (α 7 0), .ref (α 8 0), .ref (α 9 0), .ref (α 10 0), .ref (α 11 0), .long t, .long (R.2.1 3 0), .int (R.1 17 0)])) α (cA α (s_upL R 2 0 t) D S th) :=
  hW.cset 0 0 (by decide) _ rfl rfl (fun k i hk => by unfold cR; split <;> first | rfl | (simp_all; done))
theorem c_per (t : Int64) (hW : Wd h α (cA α R D S th)) : Wd (h_up h (α 0 0) (eO 0 [.ref (α 1 0), .ref (α 3 0), .ref (α 5 0), .ref (α 6 0), .ref (α 7 0), .ref (α 8 0), .ref (α 9 0), .ref (α 10 0), .ref (α 11 0), .long (R.2.1 2 0), .long t, .int (R.1 17 0)])) α (cA α (s_upL R 3 0 t) D S th) :=
  hW.cset 0 0 (by decide) _ rfl rfl (fun k i hk => by unfold cR; split <;> first | rfl | (simp_all; done))
theorem c_most (v : Int32) (hW : Wd h α (cA α R D S th)) : Wd (h_up h (α 0 0) (eO 0 [.ref (α 1 0), .ref (α 3 0), .ref (α 5 0), .ref (α 6 0), .ref (α 7 0), .ref (α 8 0), .ref (α 9 0), .ref (α 10 0), .ref (α 11 0), .long (R.2.1 2 0), .long (R.2.1 3 0), .int v])) α (cA α (s_up R 17 0 v) D S th) :=
  hW.cset 0 0 (by decide) _ rfl rfl (fun k i hk => by unfold cR; split <;> first | rfl | (simp_all; done))
theorem upd_ne {f : Nat → Int32} {k j : Nat} {v : Int32} (hj : j ≠ k) : upd f k v j = f j := pk_un hj
/-- a job is to run alone -/
theorem c_lone {j : Nat} (hj : j < R.2.2.2) (v : Int32) (hW : Wd h α (cA α R D S th)) : Wd (h_up h (α 17 j) (eO 1 [.int (nI (j + 1)), .int (R.1 8 j), .int (R.1 9 j), .int (R.1 10 j), .long (R.2.1 0 j), .ref (α 18 j), .ref (α 19 j), .int v, .int (stg R j), .long (if R.1 11 j = 0 then R.2.1 0 j else R.2.1 1 j)])) α (cA α (s_up R 14 j v) D S th) := by
  refine hW.cset 17 j (by decide) _ (if_pos hj) ?_ (fun k i hk => ?_)
  · show (if j < R.2.2.2 then _ else none) = _
    rw [if_pos hj]
    show some (eO 1 [_, _, _, _, _, _, _, .int (upd (R.1 14) j v j), _, _]) = _
    rw [pk_us]
    rfl
  · unfold cR
    split <;> first | rfl | skip
    have hne : i ≠ j := fun e => hk ⟨rfl, e⟩
    show (if i < R.2.2.2 then some (eO 1 [_, _, _, _, _, _, _, .int (upd (R.1 14) j v i), _, _]) else none) = _
    rw [upd_ne hne]
    rfl
/-- a waiting job is held, or not -/
theorem c_held {j : Nat} (hj : j < R.2.2.2) (h0 : R.1 11 j = 0) {v : Int32} (hv : v = 0 ∨ v = 1) (hW : Wd h α (cA α R D S th)) : Wd (h_up h (α 17 j) (eO 1 [.int (nI (j + 1)), .int (R.1 8 j), .int (R.1 9 j), .int (R.1 10 j), .long (R.2.1 0 j), .ref (α 18 j), .ref (α 19 j), .int (R.1 14 j), .int v, .long (if R.1 11 j = 0 then R.2.1 0 j else R.2.1 1 j)])) α (cA α (s_up R 13 j v) D S th) := by
  refine hW.cset 17 j (by decide) _ (if_pos hj) ?_ (fun k i hk => ?_)
  · show (if j < R.2.2.2 then _ else none) = _
    rw [if_pos hj]
    have e : stg (s_up R 13 j v) j = v := by
      show (if R.1 11 j = 0 then (if upd (R.1 13) j v j = 0 then 0 else 1) else R.1 11 j) = v
      rw [if_pos h0, pk_us]
      rcases hv with rfl | rfl <;> rfl
    rw [e]
    rfl
  · unfold cR
    split <;> first | rfl | skip
    have hne : i ≠ j := fun e => hk ⟨rfl, e⟩
    have e : stg (s_up R 13 j v) i = stg R i := by
      show (if R.1 11 i = 0 then (if upd (R.1 13) j v i = 0 then 0 else 1) else R.1 11 i) = _
      rw [upd_ne hne]
      rfl
    rw [e]
    rfl
/-- what a job uses -/
theorem c_uses {j q : Nat} (hj : j < R.2.2.2) (hq : q < 4) (v : Int32) (hW : Wd h α (cA α R D S th)) : Wd (h_up h (α 18 j) (eT 0 4 (upd (fun p => if p < 4 then R.1 12 (4 * j + p) else 0) q v))) α (cA α (s_up R 12 (4 * j + q) v) D S th) := by
  refine hW.cset 18 j (by decide) _ (if_pos hj) ?_ (fun k i hk => ?_)
  · show (if j < R.2.2.2 then some (eT 0 4 (fun p => if p < 4 then upd (R.1 12) (4 * j + q) v (4 * j + p) else 0)) else none) = _
    rw [if_pos hj]
    congr 2
    funext p
    by_cases hp : p = q
    · rw [hp, pk_us, pk_us, if_pos hq]
    · rw [pk_un hp, pk_un (by omega)]
  · unfold cR
    split <;> first | rfl | skip
    have hne : i ≠ j := fun e => hk ⟨rfl, e⟩
    show (if i < R.2.2.2 then some (eT 0 4 (fun p => if p < 4 then upd (R.1 12) (4 * j + q) v (4 * i + p) else 0)) else none) = _
    congr 3
    funext p
    by_cases hp : p < 4
    · rw [if_pos hp, if_pos hp, pk_un (by omega)]
    · rw [if_neg hp, if_neg hp]
/-- a place of an initiator's list -/
theorem c_list {j q : Nat} (hj : j < R.2.2.1) (hq : q < 8) (v : Int32) (hW : Wd h α (cA α R D S th)) : Wd (h_up h (α 16 j) (eT 0 8 (upd (fun p => if p < 8 then R.1 0 (8 * j + p) else 0) q v))) α (cA α (s_up R 0 (8 * j + q) v) D S th) := by
  refine hW.cset 16 j (by decide) _ (if_pos hj) ?_ (fun k i hk => ?_)
  · show (if j < R.2.2.1 then some (eT 0 8 (fun p => if p < 8 then upd (R.1 0) (8 * j + q) v (8 * j + p) else 0)) else none) = _
    rw [if_pos hj]
    congr 2
    funext p
    by_cases hp : p = q
    · rw [hp, pk_us, pk_us, if_pos hq]
    · rw [pk_un hp, pk_un (by omega)]
  · unfold cR
    split <;> first | rfl | skip
    have hne : i ≠ j := fun e => hk ⟨rfl, e⟩
    show (if i < R.2.2.1 then some (eT 0 8 (fun p => if p < 8 then upd (R.1 0) (8 * j + q) v (8 * i + p) else 0)) else none) = _
    congr 3
    funext p
    by_cases hp : p < 8
    · rw [if_pos hp, if_pos hp, pk_un (by omega)]
    · rw [if_neg hp, if_neg hp]
/-- an initiator is drained, or not -/
theorem c_drain {j : Nat} (hj : j < R.2.2.1) (v : Int32) (hW : Wd h α (cA α R D S th)) : Wd (h_up h (α 15 j) (eO 3 [.ref (α 16 j), .int v, .int (R.1 1 j + 1)])) α (cA α (s_up R 2 j v) D S th) := by
  refine hW.cset 15 j (by decide) _ (if_pos hj) ?_ (fun k i hk => ?_)
  · show (if j < R.2.2.1 then some (eO 3 [_, .int (upd (R.1 2) j v j), _]) else none) = _
    rw [if_pos hj, pk_us]
    rfl
  · unfold cR
    split <;> first | rfl | skip
    have hne : i ≠ j := fun e => hk ⟨rfl, e⟩
    show (if i < R.2.2.1 then some (eO 3 [_, .int (upd (R.1 2) j v i), _]) else none) = _
    rw [upd_ne hne]
    rfl
end CS
