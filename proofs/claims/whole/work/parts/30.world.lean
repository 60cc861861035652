/-! THE WORLD OF BOTH: cells by kind and index; class: kinds 0 .. 19, reference: 20 .. 44 (20 + the field's number) -/
def Wd (h : hM) (α : Nat → Nat → Nat) (c : Nat → Nat → Option hE) : Prop := (∀ (k i : Nat) (x : hE), c k i = some x → rd h (α k i) = some x) ∧ (∀ (k i k' i' : Nat) (x x' : hE), c k i = some x → c k' i' = some x' → α k i = α k' i' → k = k' ∧ i = i') ∧ h.1 = α 50 0 ∧ h.2.1 = α 51 0
def c_up (c : Nat → Nat → Option hE) (k i : Nat) (x : hE) : Nat → Nat → Option hE := fun k' i' => if k' = k ∧ i' = i then some x else c k' i'
def a_up (α : Nat → Nat → Nat) (k i q : Nat) : Nat → Nat → Nat := fun k' i' => if k' = k ∧ i' = i then q else α k' i'
theorem Wd.congr {h : hM} {α : Nat → Nat → Nat} {c c' : Nat → Nat → Option hE} (hW : Wd h α c) (e : ∀ k i, c' k i = c k i) : Wd h α c' := by
  have : c' = c := by funext k i; exact e k i
  rw [this]; exact hW
theorem Wd.set {h : hM} {α : Nat → Nat → Nat} {c : Nat → Nat → Option hE} (hW : Wd h α c) (k i : Nat) {x : hE} (hx : c k i = some x) (y : hE) : Wd (h_up h (α k i) y) α (c_up c k i y) := by
  refine ⟨fun k' i' z hz => ?_, fun k1 i1 k2 i2 z1 z2 h1 h2 e => ?_, hW.2.2⟩
  · unfold c_up at hz
    by_cases hk : k' = k ∧ i' = i
    · rw [if_pos hk] at hz
      obtain ⟨rfl, rfl⟩ := hk
      rw [h_up_self]
      exact hz
    · rw [if_neg hk] at hz
      rw [h_up_ne]
      · exact hW.1 k' i' z hz
      · exact fun e => hk (hW.2.1 k' i' k i z x hz hx e)
  · have g : ∀ {k' i' : Nat} {z : hE}, c_up c k i y k' i' = some z → ∃ z', c k' i' = some z' := by
      intro k' i' z hz
      unfold c_up at hz
      by_cases hk : k' = k ∧ i' = i
      · exact ⟨x, by rw [hk.1, hk.2]; exact hx⟩
      · rw [if_neg hk] at hz
        exact ⟨z, hz⟩
    obtain ⟨y1, g1⟩ := g h1
    obtain ⟨y2, g2⟩ := g h2
    exact hW.2.1 k1 i1 k2 i2 y1 y2 g1 g2 e
theorem Wd.new {h : hM} {α : Nat → Nat → Nat} {c : Nat → Nat → Option hE} (hW : Wd h α c) (k i : Nat) (hk50 : k < 50) {q : Nat} (hq : rd h q = none) (y : hE) : Wd (h_up h q y) (a_up α k i q) (c_up c k i y) := by
  have far : ∀ {k' i' : Nat} {z : hE}, c k' i' = some z → α k' i' ≠ q := fun hz e => by
    have := hW.1 _ _ _ hz
    rw [e, hq] at this
    cases this
  have e50 : a_up α k i q 50 0 = α 50 0 ∧ a_up α k i q 51 0 = α 51 0 := by
    unfold a_up
    rw [if_neg (by omega), if_neg (by omega)]
    exact ⟨rfl, rfl⟩
  refine ⟨fun k' i' z hz => ?_, fun k1 i1 k2 i2 z1 z2 h1 h2 e => ?_, by rw [e50.1]; exact hW.2.2.1, by rw [e50.2]; exact hW.2.2.2⟩
  · unfold c_up at hz
    unfold a_up
    by_cases hk : k' = k ∧ i' = i
    · rw [if_pos hk] at hz ⊢
      rw [h_up_self]
      exact hz
    · rw [if_neg hk] at hz ⊢
      rw [h_up_ne _ _ (far hz)]
      exact hW.1 k' i' z hz
  · unfold c_up at h1 h2
    unfold a_up at e
    by_cases a1 : k1 = k ∧ i1 = i <;> by_cases a2 : k2 = k ∧ i2 = i
    · exact ⟨a1.1.trans a2.1.symm, a1.2.trans a2.2.symm⟩
    · rw [if_pos a1, if_neg a2] at e
      rw [if_neg a2] at h2
      exact absurd e.symm (far h2)
    · rw [if_neg a1, if_pos a2] at e
      rw [if_neg a1] at h1
      exact absurd e (far h1)
    · rw [if_neg a1, if_neg a2] at e
      rw [if_neg a1] at h1
      rw [if_neg a2] at h2
      exact hW.2.1 k1 i1 k2 i2 z1 z2 h1 h2 e
/-- the reference's state: int arrays, long arrays, initiators, jobs. Ints: 0 lists 1 runs 2 drained 3 limits 4 froms 5 tos 6 weights 7 units 8 sorts 9 priorities 10 names 11 states 12 uses 13 held 14 lone 15 needed 16 reached, 17 most (at 0). Longs: 0 came 1 ran 2 now (at 0) 3 per (at 0) 4 the law's own array of one long -/
abbrev mS : Type := (Nat → Nat → Int32) × (Nat → Nat → Int64) × Nat × Nat
def s_up (S : mS) (k i : Nat) (v : Int32) : mS := (fun k' => if k' = k then upd (S.1 k) i v else S.1 k', S.2)
def s_upL (S : mS) (k i : Nat) (v : Int64) : mS := (S.1, fun k' => if k' = k then vp_updL (S.2.1 k) i v else S.2.1 k', S.2.2)
def mTy (k : Nat) : Nat := if k = 4 ∨ (16 ≤ k ∧ k ≤ 19) then 3 else 0
def mLn (k : Nat) : Nat := if k = 2 then 96 else if k < 5 then 12 else if k < 10 then 36 else if k = 10 then 4 else if k = 15 then 400 else if k = 18 then 10000 else 100
def mAr (S : mS) (k : Nat) : Option hE := if 2 ≤ k ∧ k ≤ 4 then some (eT (mTy k) (mLn k) (S.1 (k - 2))) else if 6 ≤ k ∧ k ≤ 19 then some (eT (mTy k) (mLn k) (S.1 (k - 3))) else if k = 20 ∨ k = 21 ∨ k = 24 then some (eJ 1 (if k = 24 then 1 else 100) (S.2.1 (k - 20))) else none
def mFs (α : Nat → Nat → Nat) (S : mS) (th : Int32) : List Value := [.int th, .long (S.2.1 2 0), .ref (α 22 0), .ref (α 23 0), .ref (α 24 0), .int (nI S.2.2.1), .ref (α 26 0), .ref (α 27 0), .ref (α 28 0), .ref (α 29 0), .ref (α 30 0), .ref (α 31 0), .ref (α 32 0), .ref (α 33 0), .ref (α 34 0), .ref (α 35 0), .ref (α 36 0), .ref (α 37 0), .ref (α 38 0), .ref (α 39 0), .ref (α 40 0), .ref (α 41 0), .int (nI S.2.2.2), .long (S.2.1 3 0), .int (S.1 17 0)]
def cM (α : Nat → Nat → Nat) (S : mS) (th : Int32) (k i : Nat) : Option hE := if i = 0 then (if k = 0 then some (eO 6 (mFs α S th)) else mAr S k) else none
/-- the class's own: deep needs (low, high), words: 0 ended low, 1 ended high, 2 names low, 3 names high; loads: 0 of class, 1 of kind; scalars: 0 running, 1 alone runs, 2 and 3 the lists' modCount; capacities; elements -/
abbrev dS : Type := (Nat → Int64) × (Nat → Int64) × (Nat → Int64) × (Nat → Nat → Int32) × (Nat → Int32) × (Nat → Nat) × (Nat → Nat → Option Nat)
def stg (S : mS) (j : Nat) : Int32 := if S.1 11 j = 0 then (if S.1 13 j = 0 then 0 else 1) else S.1 11 j
def cR (α : Nat → Nat → Nat) (S : mS) (D : dS) (k i : Nat) : Option hE := match k with
  | 0 => if i = 0 then some (eO 0 [.ref (α 1 0), .ref (α 3 0), .ref (α 5 0), .ref (α 6 0), .ref (α 7 0), .ref (α 8 0), .ref (α 9 0), .ref (α 10 0), .ref (α 11 0), .long (S.2.1 2 0), .long (S.2.1 3 0), .int (S.1 17 0)]) else none
  | 1 => if i = 0 then some (eO 5 [.int (D.2.2.2.2.1 2), .ref (α 2 0), .int (nI S.2.2.1)]) else none
  | 2 => if i = 0 ∧ D.2.2.2.2.2.1 0 ≠ 0 then some (eA 2 (D.2.2.2.2.2.1 0) (D.2.2.2.2.2.2 0)) else none
  | 3 => if i = 0 then some (eO 5 [.int (D.2.2.2.2.1 3), .ref (α 4 0), .int (nI S.2.2.2)]) else none
  | 4 => if i = 0 ∧ D.2.2.2.2.2.1 1 ≠ 0 then some (eA 2 (D.2.2.2.2.2.1 1) (D.2.2.2.2.2.2 1)) else none
  | 5 => if i = 0 then some (eT 0 36 (S.1 3)) else none
  | 6 => if i = 0 then some (eT 0 36 (S.1 4)) else none
  | 7 => if i = 0 then some (eT 0 36 (S.1 5)) else none
  | 8 => if i = 0 then some (eT 0 36 (S.1 6)) else none
  | 9 => if i = 0 then some (eT 0 4 (S.1 7)) else none
  | 10 => if i = 0 then some (eO 2 [.ref (α 12 0), .ref (α 13 0), .ref (α 14 0), .int (D.2.2.2.2.1 0), .int (D.2.2.2.2.1 1)]) else none
  | 11 => if i = 0 then some (eO 4 [.long (D.2.2.1 0), .long (D.2.2.1 1)]) else none
  | 12 => if i = 0 then some (eT 0 36 (D.2.2.2.1 0)) else none
  | 13 => if i = 0 then some (eT 0 4 (D.2.2.2.1 1)) else none
  | 14 => if i = 0 then some (eO 4 [.long (D.2.2.1 2), .long (D.2.2.1 3)]) else none
  | 15 => if i < S.2.2.1 then some (eO 3 [.ref (α 16 i), .int (S.1 2 i), .int (S.1 1 i + 1)]) else none
  | 16 => if i < S.2.2.1 then some (eT 0 8 (fun p => if p < 8 then S.1 0 (8 * i + p) else 0)) else none
  | 17 => if i < S.2.2.2 then some (eO 1 [.int (nI (i + 1)), .int (S.1 8 i), .int (S.1 9 i), .int (S.1 10 i), .long (S.2.1 0 i), .ref (α 18 i), .ref (α 19 i), .int (S.1 14 i), .int (stg S i), .long (if S.1 11 i = 0 then S.2.1 0 i else S.2.1 1 i)]) else none
  | 18 => if i < S.2.2.2 then some (eT 0 4 (fun p => if p < 4 then S.1 12 (4 * i + p) else 0)) else none
  | 19 => if i < S.2.2.2 then some (eO 4 [.long (D.1 i), .long (D.2.1 i)]) else none
  | _ => none
/-- both: the class at R, D; the reference at S -/
def cA (α : Nat → Nat → Nat) (R : mS) (D : dS) (S : mS) (th : Int32) (k i : Nat) : Option hE := if k < 20 then cR α R D k i else cM α S th (k - 20) i

section CA
variable {α : Nat → Nat → Nat} {R S : mS} {D : dS} {th : Int32}
theorem cA_2 (hc : D.2.2.2.2.2.1 0 ≠ 0) : cA α R D S th 2 0 = some (eA 2 (D.2.2.2.2.2.1 0) (D.2.2.2.2.2.2 0)) := by
  show (if (0 : Nat) = 0 ∧ D.2.2.2.2.2.1 0 ≠ 0 then _ else none) = _
  exact if_pos ⟨rfl, hc⟩
theorem cA_4 (hc : D.2.2.2.2.2.1 1 ≠ 0) : cA α R D S th 4 0 = some (eA 2 (D.2.2.2.2.2.1 1) (D.2.2.2.2.2.2 1)) := by
  show (if (0 : Nat) = 0 ∧ D.2.2.2.2.2.1 1 ≠ 0 then _ else none) = _
  exact if_pos ⟨rfl, hc⟩
theorem cA_15 {i : Nat} (hi : i < R.2.2.1) : cA α R D S th 15 i = some (eO 3 [.ref (α 16 i), .int (R.1 2 i), .int (R.1 1 i + 1)]) := by
  show (if i < R.2.2.1 then _ else none) = _
  exact if_pos hi
theorem cA_16 {i : Nat} (hi : i < R.2.2.1) : cA α R D S th 16 i = some (eT 0 8 (fun p => if p < 8 then R.1 0 (8 * i + p) else 0)) := by
  show (if i < R.2.2.1 then _ else none) = _
  exact if_pos hi
theorem cA_17 {i : Nat} (hi : i < R.2.2.2) : cA α R D S th 17 i = some (eO 1 [.int (nI (i + 1)), .int (R.1 8 i), .int (R.1 9 i), .int (R.1 10 i), .long (R.2.1 0 i), .ref (α 18 i), .ref (α 19 i), .int (R.1 14 i), .int (stg R i), .long (if R.1 11 i = 0 then R.2.1 0 i else R.2.1 1 i)]) := by
  show (if i < R.2.2.2 then _ else none) = _
  exact if_pos hi
theorem cA_18 {i : Nat} (hi : i < R.2.2.2) : cA α R D S th 18 i = some (eT 0 4 (fun p => if p < 4 then R.1 12 (4 * i + p) else 0)) := by
  show (if i < R.2.2.2 then _ else none) = _
  exact if_pos hi
theorem cA_19 {i : Nat} (hi : i < R.2.2.2) : cA α R D S th 19 i = some (eO 4 [.long (D.1 i), .long (D.2.1 i)]) := by
  show (if i < R.2.2.2 then _ else none) = _
  exact if_pos hi
/-- the reference's head changes -/
theorem cA_hd {S' : mS} {th' : Int32} (hA : ∀ k, mAr S' k = mAr S k) (k i : Nat) : cA α R D S' th' k i = c_up (cA α R D S th) 20 0 (eO 6 (mFs α S' th')) k i := by
  unfold c_up
  by_cases hk : k = 20 ∧ i = 0
  · rw [if_pos hk, hk.1, hk.2]
    rfl
  · rw [if_neg hk]
    unfold cA
    by_cases h20 : k < 20
    · rw [if_pos h20, if_pos h20]
    · rw [if_neg h20, if_neg h20]
      unfold cM
      by_cases hi : i = 0
      · have h0 : ¬ k - 20 = 0 := fun e => hk ⟨by omega, hi⟩
        rw [if_pos hi, if_pos hi, if_neg h0, if_neg h0, hA]
      · rw [if_neg hi, if_neg hi]
/-- one of the reference's arrays changes -/
theorem cA_ar {S' : mS} (f : Nat) {x : hE} (hf : f ≠ 0) (hx : mAr S' f = some x) (hA : ∀ k, k ≠ f → mAr S' k = mAr S k) (hF : mFs α S' th = mFs α S th) (k i : Nat) : cA α R D S' th k i = c_up (cA α R D S th) (20 + f) 0 x k i := by
  unfold c_up
  by_cases hk : k = 20 + f ∧ i = 0
  · rw [if_pos hk, hk.1, hk.2]
    unfold cA cM
    rw [if_neg (by omega), if_pos rfl, if_neg (by omega), Nat.add_sub_cancel_left]
    exact hx
  · rw [if_neg hk]
    unfold cA
    by_cases h20 : k < 20
    · rw [if_pos h20, if_pos h20]
    · rw [if_neg h20, if_neg h20]
      unfold cM
      by_cases hi : i = 0
      · rw [if_pos hi, if_pos hi, hF]
        by_cases h0 : k - 20 = 0
        · rw [if_pos h0, if_pos h0]
        · rw [if_neg h0, if_neg h0]
          exact hA _ (fun e => hk ⟨by omega, hi⟩)
      · rw [if_neg hi, if_neg hi]
/-- one of the class's cells changes -/
theorem cA_cl {R' : mS} {D' : dS} (k0 i0 : Nat) {x : hE} (h0 : k0 < 20) (hx : ∀ k i, cR α R' D' k i = c_up (cR α R D) k0 i0 x k i) (k i : Nat) : cA α R' D' S th k i = c_up (cA α R D S th) k0 i0 x k i := by
  unfold cA
  by_cases h20 : k < 20
  · rw [if_pos h20, hx]
    unfold c_up
    by_cases hk : k = k0 ∧ i = i0
    · rw [if_pos hk, if_pos hk]
    · rw [if_neg hk, if_neg hk]
      exact (if_pos h20).symm
  · rw [if_neg h20]
    unfold c_up
    rw [if_neg (by omega)]
    exact (if_neg h20).symm
theorem mAr_s {j i : Nat} {v : Int32} (k : Nat) (hk : k ≠ (if j < 3 then j + 2 else j + 3)) : mAr (s_up S j i v) k = mAr S k := by
  unfold mAr s_up
  by_cases h1 : 2 ≤ k ∧ k ≤ 4
  · rw [if_pos h1, if_pos h1]
    have : k - 2 ≠ j := by intro e; apply hk; rw [if_pos (by omega)]; omega
    simp only [this, if_false]
  · rw [if_neg h1, if_neg h1]
    by_cases h2 : 6 ≤ k ∧ k ≤ 19
    · rw [if_pos h2, if_pos h2]
      have : k - 3 ≠ j := by intro e; apply hk; rw [if_neg (by omega)]; omega
      simp only [this, if_false]
    · rw [if_neg h2, if_neg h2]
theorem mAr_s2 {j i : Nat} {v : Int32} (k : Nat) (hj : 17 ≤ j := by decide) : mAr (s_up S j i v) k = mAr S k := by
  unfold mAr s_up
  by_cases h1 : 2 ≤ k ∧ k ≤ 4
  · rw [if_pos h1, if_pos h1]
    simp only [show k - 2 ≠ j by omega, if_false]
  · rw [if_neg h1, if_neg h1]
    by_cases h2 : 6 ≤ k ∧ k ≤ 19
    · rw [if_pos h2, if_pos h2]
      simp only [show k - 3 ≠ j by omega, if_false]
    · rw [if_neg h2, if_neg h2]
theorem mAr_l2 {j i : Nat} {v : Int64} (k : Nat) (hj : j = 2 ∨ j = 3 := by decide) : mAr (s_upL S j i v) k = mAr S k := by
  unfold mAr s_upL
  by_cases h1 : 2 ≤ k ∧ k ≤ 4
  · rw [if_pos h1, if_pos h1]
  · rw [if_neg h1, if_neg h1]
    by_cases h2 : 6 ≤ k ∧ k ≤ 19
    · rw [if_pos h2, if_pos h2]
    · rw [if_neg h2, if_neg h2]
      by_cases h3 : k = 20 ∨ k = 21 ∨ k = 24
      · rw [if_pos h3, if_pos h3]
        simp only [show k - 20 ≠ j by omega, if_false]
      · rw [if_neg h3, if_neg h3]
theorem mAr_l {j i : Nat} {v : Int64} (k : Nat) (hk : k ≠ 20 + j) : mAr (s_upL S j i v) k = mAr S k := by
  unfold mAr s_upL
  by_cases h1 : 2 ≤ k ∧ k ≤ 4
  · rw [if_pos h1, if_pos h1]
  · rw [if_neg h1, if_neg h1]
    by_cases h2 : 6 ≤ k ∧ k ≤ 19
    · rw [if_pos h2, if_pos h2]
    · rw [if_neg h2, if_neg h2]
      by_cases h3 : k = 20 ∨ k = 21 ∨ k = 24
      · rw [if_pos h3, if_pos h3]
        have : k - 20 ≠ j := by intro e; apply hk; omega
        simp only [this, if_false]
      · rw [if_neg h3, if_neg h3]
/-- an int array of the reference is written: j its number in the state -/
theorem Wd.mset {h : hM} (hW : Wd h α (cA α R D S th)) (j : Nat) {f t n : Nat} (hj : j < 17) (hf : (if j < 3 then j + 2 else j + 3) = f) (ht : mTy f = t) (hn : mLn f = n) (i : Nat) (v : Int32) : Wd (h_up h (α (20 + f) 0) (eT t n (upd (S.1 j) i v))) α (cA α R D (s_up S j i v) th) := by
  subst hf ht hn
  have hx : mAr (s_up S j i v) (if j < 3 then j + 2 else j + 3) = some (eT (mTy (if j < 3 then j + 2 else j + 3)) (mLn (if j < 3 then j + 2 else j + 3)) (upd (S.1 j) i v)) := by
    unfold mAr s_up
    by_cases h3 : j < 3
    · rw [if_pos h3, if_pos (by omega)]
      simp
    · rw [if_neg h3, if_neg (by omega), if_pos (by omega)]
      simp
  have hx0 : ∃ y, cA α R D S th (20 + (if j < 3 then j + 2 else j + 3)) 0 = some y := by
    unfold cA cM mAr
    by_cases h3 : j < 3
    · rw [if_pos h3, if_neg (by omega), if_pos rfl, if_neg (by omega), Nat.add_sub_cancel_left, if_pos (by omega)]
      exact ⟨_, rfl⟩
    · rw [if_neg h3, if_neg (by omega), if_pos rfl, if_neg (by omega), Nat.add_sub_cancel_left, if_neg (by omega), if_pos (by omega)]
      exact ⟨_, rfl⟩
  obtain ⟨y, hy⟩ := hx0
  refine (hW.set _ 0 hy _).congr (cA_ar _ ?_ hx (fun k hk => mAr_s k hk) ?_)
  · split <;> omega
  · unfold mFs s_up
    simp only [show (17 : Nat) ≠ j by omega, if_false]
/-- a long array of the reference is written -/
theorem Wd.mlset {h : hM} (hW : Wd h α (cA α R D S th)) (j : Nat) (hj : j < 2) (i : Nat) (v : Int64) : Wd (h_up h (α (40 + j) 0) (eJ 1 100 (vp_updL (S.2.1 j) i v))) α (cA α R D (s_upL S j i v) th) := by
  have hx : mAr (s_upL S j i v) (20 + j) = some (eJ 1 100 (vp_updL (S.2.1 j) i v)) := by
    unfold mAr s_upL
    rw [if_neg (by omega), if_neg (by omega), if_pos (by omega), Nat.add_sub_cancel_left, if_neg (by omega)]
    simp
  have hy : cA α R D S th (40 + j) 0 = some (eJ 1 100 (S.2.1 j)) := by
    unfold cA cM mAr
    rw [if_neg (by omega), if_pos rfl, if_neg (by omega), show 40 + j - 20 = 20 + j by omega, if_neg (by omega), if_neg (by omega), if_pos (by omega), Nat.add_sub_cancel_left, if_neg (by omega)]
  have hW1 := (hW.set _ 0 hy (eJ 1 100 (vp_updL (S.2.1 j) i v)))
  rw [show 40 + j = 20 + (20 + j) by omega] at hW1 ⊢
  refine hW1.congr (cA_ar _ (by omega) hx (fun k hk => mAr_l k hk) ?_)
  unfold mFs s_upL
  simp only [show (2 : Nat) ≠ j by omega, show (3 : Nat) ≠ j by omega, if_false]
/-- the reference's own fields -/
theorem Wd.mhead {h : hM} (hW : Wd h α (cA α R D S th)) {S' : mS} {th' : Int32} {fs : List Value} (hA : ∀ k, mAr S' k = mAr S k) (hF : fs = mFs α S' th') : Wd (h_up h (α 20 0) (eO 6 fs)) α (cA α R D S' th') := by
  subst hF
  exact (hW.set 20 0 rfl _).congr (cA_hd hA)
end CA
