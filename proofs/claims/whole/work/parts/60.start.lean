/-- where the cells lie at first -/
def aF (x0 q1 q2 q3 q4 q5 q6 q7 q8 q10 q11 q12 q9 m0 m2 m3 m4 m6 m7 m8 m9 m10 m11 m12 m13 m14 m15 m16 m17 m18 m19 m20 m21 o e0 mi : Nat) : Nat → Nat → Nat := fun k _ => match k with
  | 0 => x0
  | 1 => q1
  | 2 => e0
  | 3 => q2
  | 4 => e0
  | 5 => q3
  | 6 => q4
  | 7 => q5
  | 8 => q6
  | 9 => q7
  | 10 => q8
  | 11 => q9
  | 12 => q10
  | 13 => q11
  | 14 => q12
  | 20 => m0
  | 22 => m2
  | 23 => m3
  | 24 => m4
  | 26 => m6
  | 27 => m7
  | 28 => m8
  | 29 => m9
  | 30 => m10
  | 31 => m11
  | 32 => m12
  | 33 => m13
  | 34 => m14
  | 35 => m15
  | 36 => m16
  | 37 => m17
  | 38 => m18
  | 39 => m19
  | 40 => m20
  | 41 => m21
  | 44 => o
  | 50 => e0
  | 51 => mi
  | _ => 0
def sF : mS := ((fun k i => if k = 0 then (if i < 96 then -1 else 0) else if k = 1 then (if i < 12 then -1 else 0) else if k = 3 then (if i < 36 then 40 else 0) else 0), (fun _ _ => 0), 0, 0)
def dF : dS := ((fun _ => 0), (fun _ => 0), (fun _ => 0), (fun _ _ => 0), (fun _ => 0), (fun _ => 0), (fun _ _ => none))
theorem Wd.ofLs {h : hM} {L : List (Nat × hE)} (H : Ls h L) {α : Nat → Nat → Nat} {c : Nat → Nat → Option hE} (K : List Nat) (hk : ∀ (k i : Nat) (x : hE), c k i = some x → i = 0 ∧ ∃ n : Nat, K[n]? = some k ∧ L[n]? = some (α k 0, x)) (h50 : h.1 = α 50 0) (h51 : h.2.1 = α 51 0) : Wd h α c := by
  refine ⟨fun k i x hx => ?_, fun k i k' i' x x' hx hx' e => ?_, h50, h51⟩
  · obtain ⟨rfl, n, _, h2⟩ := hk k i x hx
    exact H.1 n _ h2
  · obtain ⟨rfl, n, h1, h2⟩ := hk k i x hx
    obtain ⟨rfl, n', h1', h2'⟩ := hk k' i' x' hx'
    have := H.2 n n' _ _ h2 h2' e
    subst this
    exact ⟨Option.some.inj (h1.symm.trans h1'), rfl⟩
theorem tab_x {c : Option hE} {y x : hE} (hx : c = some x) (hy : c = some y) : y = x := Option.some.inj (hy.symm.trans hx)
section FS
variable {h : hM} {α : Nat → Nat → Nat}
theorem cA_F0 {k i : Nat} (hi : i ≠ 0) : cA α sF dF sF 0 k i = none := by
  unfold cA
  by_cases h20 : k < 20
  · rw [if_pos h20]
    unfold cR
    split <;> first | rfl | exact if_neg hi | exact if_neg (fun z => hi z.1) | exact if_neg (Nat.not_lt_zero i)
  · rw [if_neg h20]
    unfold cM
    rw [if_neg hi]
theorem cA_F45 {k : Nat} (hk : 45 ≤ k) : cA α sF dF sF 0 k 0 = none := by
  unfold cA cM mAr
  rw [if_neg (by omega), if_pos rfl, if_neg (by omega), if_neg (by omega), if_neg (by omega), if_neg (by omega)]
theorem I_first (h2 : α 2 0 = α 50 0) (h4 : α 4 0 = α 50 0) : I_all α sF dF := by
  have no : ∀ j : Nat, ¬ j < sF.2.2.2 := fun j => Nat.not_lt_zero j
  have no1 : ∀ j : Nat, ¬ j < sF.2.2.1 := fun j => Nat.not_lt_zero j
  refine ⟨⟨by decide, by decide, by decide, by decide, by decide, by decide⟩, fun j hj => absurd hj (no j), fun j _ _ => ⟨rfl, rfl, rfl, fun _ _ => rfl⟩, ⟨fun _ _ => Or.inl rfl, fun j k _ _ e => ?_⟩, fun i hi => absurd hi (no1 i), fun i _ hi => ⟨?_, rfl, fun p hp => ?_⟩, fun c _ => by show 0 ≤ (0 : Int32).toInt ∧ (0 : Int32).toInt ≤ 1000; decide, ⟨⟨Nat.le_refl _, Nat.zero_le _, fun i hi => absurd hi (Nat.not_lt_zero i), fun _ _ => rfl, fun _ => h2⟩, ⟨Nat.le_refl _, Nat.zero_le _, fun i hi => absurd hi (Nat.not_lt_zero i), fun _ _ => rfl, fun _ => h4⟩, Or.inl rfl, Or.inl rfl⟩, ⟨fun _ _ => rfl, fun _ _ => rfl, rfl, Or.inr ⟨rfl, fun j hj => absurd hj (no j)⟩, fun n _ => ?_⟩, ⟨fun n _ => ?_, fun j hj => absurd hj (no j)⟩, ⟨fun j _ hj => absurd hj (no j), fun j _ hj => absurd hj (no j), fun j _ hj => absurd hj (no j)⟩⟩
  · have : (0 : Int32) = 1 := e
    exact absurd this (by decide)
  · show (if i < 12 then (-1 : Int32) else 0) = -1
    rw [if_pos hi]
  · show (if 8 * i + p < 96 then (-1 : Int32) else 0) = -1
    rw [if_pos (by omega)]
  · show nsb 0 0 n = true ↔ _
    rw [nsb_0]
    exact ⟨fun e => (nomatch e), fun ⟨j, hj, _⟩ => absurd hj (no j)⟩
  · show nsb 0 0 n = true ↔ _
    rw [nsb_0]
    exact ⟨fun e => (nomatch e), fun ⟨j, hj, _⟩ => absurd hj (no j)⟩
set_option maxRecDepth 20000 in
theorem INV_first {x0 q1 q2 q3 q4 q5 q6 q7 q8 q10 q11 q12 q9 m0 m2 m3 m4 m6 m7 m8 m9 m10 m11 m12 m13 m14 m15 m16 m17 m18 m19 m20 m21 o e0 mi : Nat} (H : Ls h [(x0, eO 0 [.ref q1, .ref q2, .ref q3, .ref q4, .ref q5, .ref q6, .ref q7, .ref q8, .ref q9, .long 0, .long 0, .int 0]), (q1, eO 5 [.int 0, .ref e0, .int 0]), (q2, eO 5 [.int 0, .ref e0, .int 0]), (q3, eT 0 36 (fun p => if p < 36 then 40 else 0)), (q4, eT 0 36 (fun _ => 0)), (q5, eT 0 36 (fun _ => 0)), (q6, eT 0 36 (fun _ => 0)), (q7, eT 0 4 (fun _ => 0)), (q8, eO 2 [.ref q10, .ref q11, .ref q12, .int 0, .int 0]), (q10, eT 0 36 (fun _ => 0)), (q11, eT 0 4 (fun _ => 0)), (q12, eO 4 [.long 0, .long 0]), (q9, eO 4 [.long 0, .long 0]), (m0, eO 6 [.int 0, .long 0, .ref m2, .ref m3, .ref m4, .int 0, .ref m6, .ref m7, .ref m8, .ref m9, .ref m10, .ref m11, .ref m12, .ref m13, .ref m14, .ref m15, .ref m16, .ref m17, .ref m18, .ref m19, .ref m20, .ref m21, .int 0, .long 0, .int 0]), (m2, eT 0 96 (fun p => if p < 96 then -1 else 0)), (m3, eT 0 12 (fun p => if p < 12 then -1 else 0)), (m4, eT 3 12 (fun _ => 0)), (m6, eT 0 36 (fun p => if p < 36 then 40 else 0)), (m7, eT 0 36 (fun _ => 0)), (m8, eT 0 36 (fun _ => 0)), (m9, eT 0 36 (fun _ => 0)), (m10, eT 0 4 (fun _ => 0)), (m11, eT 0 100 (fun _ => 0)), (m12, eT 0 100 (fun _ => 0)), (m13, eT 0 100 (fun _ => 0)), (m14, eT 0 100 (fun _ => 0)), (m15, eT 0 400 (fun _ => 0)), (m16, eT 3 100 (fun _ => 0)), (m17, eT 3 100 (fun _ => 0)), (m18, eT 3 10000 (fun _ => 0)), (m19, eT 3 100 (fun _ => 0)), (m20, eJ 1 100 (fun _ => 0)), (m21, eJ 1 100 (fun _ => 0)), (o, eJ 1 1 (fun _ => 0))]) (z : h.1 = e0) (zm : h.2.1 = mi) : INV h (aF x0 q1 q2 q3 q4 q5 q6 q7 q8 q10 q11 q12 q9 m0 m2 m3 m4 m6 m7 m8 m9 m10 m11 m12 m13 m14 m15 m16 m17 m18 m19 m20 m21 o e0 mi) sF dF 0 := by
  refine ⟨Wd.ofLs H [0, 1, 3, 5, 6, 7, 8, 9, 10, 12, 13, 14, 11, 20, 22, 23, 24, 26, 27, 28, 29, 30, 31, 32, 33, 34, 35, 36, 37, 38, 39, 40, 41, 44] (fun k i x hx => ?_) z zm, I_first rfl rfl⟩
  by_cases hi : i = 0
  · subst hi
    refine ⟨rfl, ?_⟩
    by_cases h45 : 45 ≤ k
    · rw [cA_F45 h45] at hx; cases hx
    · have hk : k = 0 ∨ k = 1 ∨ k = 2 ∨ k = 3 ∨ k = 4 ∨ k = 5 ∨ k = 6 ∨ k = 7 ∨ k = 8 ∨ k = 9 ∨ k = 10 ∨ k = 11 ∨ k = 12 ∨ k = 13 ∨ k = 14 ∨ k = 15 ∨ k = 16 ∨ k = 17 ∨ k = 18 ∨ k = 19 ∨ k = 20 ∨ k = 21 ∨ k = 22 ∨ k = 23 ∨ k = 24 ∨ k = 25 ∨ k = 26 ∨ k = 27 ∨ k = 28 ∨ k = 29 ∨ k = 30 ∨ k = 31 ∨ k = 32 ∨ k = 33 ∨ k = 34 ∨ k = 35 ∨ k = 36 ∨ k = 37 ∨ k = 38 ∨ k = 39 ∨ k = 40 ∨ k = 41 ∨ k = 42 ∨ k = 43 ∨ k = 44 := by omega
      rcases hk with hk | hk | hk | hk | hk | hk | hk | hk | hk | hk | hk | hk | hk | hk | hk | hk | hk | hk | hk | hk | hk | hk | hk | hk | hk | hk | hk | hk | hk | hk | hk | hk | hk | hk | hk | hk | hk | hk | hk | hk | hk | hk | hk | hk | hk <;> subst hk
      · have e := tab_x hx rfl
        subst e
        exact ⟨0, rfl, rfl⟩
      · have e := tab_x hx rfl
        subst e
        exact ⟨1, rfl, rfl⟩
      · exact nomatch (show (none : Option hE) = some x from hx)
      · have e := tab_x hx rfl
        subst e
        exact ⟨2, rfl, rfl⟩
      · exact nomatch (show (none : Option hE) = some x from hx)
      · have e := tab_x hx rfl
        subst e
        exact ⟨3, rfl, rfl⟩
      · have e := tab_x hx rfl
        subst e
        exact ⟨4, rfl, rfl⟩
      · have e := tab_x hx rfl
        subst e
        exact ⟨5, rfl, rfl⟩
      · have e := tab_x hx rfl
        subst e
        exact ⟨6, rfl, rfl⟩
      · have e := tab_x hx rfl
        subst e
        exact ⟨7, rfl, rfl⟩
      · have e := tab_x hx rfl
        subst e
        exact ⟨8, rfl, rfl⟩
      · have e := tab_x hx rfl
        subst e
        exact ⟨12, rfl, rfl⟩
      · have e := tab_x hx rfl
        subst e
        exact ⟨9, rfl, rfl⟩
      · have e := tab_x hx rfl
        subst e
        exact ⟨10, rfl, rfl⟩
      · have e := tab_x hx rfl
        subst e
        exact ⟨11, rfl, rfl⟩
      · exact nomatch (show (none : Option hE) = some x from hx)
      · exact nomatch (show (none : Option hE) = some x from hx)
      · exact nomatch (show (none : Option hE) = some x from hx)
      · exact nomatch (show (none : Option hE) = some x from hx)
      · exact nomatch (show (none : Option hE) = some x from hx)
      · have e := tab_x hx rfl
        subst e
        exact ⟨13, rfl, rfl⟩
      · exact nomatch (show (none : Option hE) = some x from hx)
      · have e := tab_x hx rfl
        subst e
        exact ⟨14, rfl, rfl⟩
      · have e := tab_x hx rfl
        subst e
        exact ⟨15, rfl, rfl⟩
      · have e := tab_x hx rfl
        subst e
        exact ⟨16, rfl, rfl⟩
      · exact nomatch (show (none : Option hE) = some x from hx)
      · have e := tab_x hx rfl
        subst e
        exact ⟨17, rfl, rfl⟩
      · have e := tab_x hx rfl
        subst e
        exact ⟨18, rfl, rfl⟩
      · have e := tab_x hx rfl
        subst e
        exact ⟨19, rfl, rfl⟩
      · have e := tab_x hx rfl
        subst e
        exact ⟨20, rfl, rfl⟩
      · have e := tab_x hx rfl
        subst e
        exact ⟨21, rfl, rfl⟩
      · have e := tab_x hx rfl
        subst e
        exact ⟨22, rfl, rfl⟩
      · have e := tab_x hx rfl
        subst e
        exact ⟨23, rfl, rfl⟩
      · have e := tab_x hx rfl
        subst e
        exact ⟨24, rfl, rfl⟩
      · have e := tab_x hx rfl
        subst e
        exact ⟨25, rfl, rfl⟩
      · have e := tab_x hx rfl
        subst e
        exact ⟨26, rfl, rfl⟩
      · have e := tab_x hx rfl
        subst e
        exact ⟨27, rfl, rfl⟩
      · have e := tab_x hx rfl
        subst e
        exact ⟨28, rfl, rfl⟩
      · have e := tab_x hx rfl
        subst e
        exact ⟨29, rfl, rfl⟩
      · have e := tab_x hx rfl
        subst e
        exact ⟨30, rfl, rfl⟩
      · have e := tab_x hx rfl
        subst e
        exact ⟨31, rfl, rfl⟩
      · have e := tab_x hx rfl
        subst e
        exact ⟨32, rfl, rfl⟩
      · exact nomatch (show (none : Option hE) = some x from hx)
      · exact nomatch (show (none : Option hE) = some x from hx)
      · have e := tab_x hx rfl
        subst e
        exact ⟨33, rfl, rfl⟩
  · rw [cA_F0 hi] at hx; cases hx
end FS
