theorem sm_pos {f : Nat → Nat} : ∀ {n : Nat}, 0 < sm f n ↔ ∃ j, j < n ∧ 0 < f j := by
  intro n
  induction n with
  | zero => exact ⟨fun h => absurd h (Nat.lt_irrefl 0), fun ⟨j, a, _⟩ => absurd a (Nat.not_lt_zero j)⟩
  | succ n ih =>
    show 0 < sm f n + f n ↔ _
    constructor
    · intro h
      by_cases q : 0 < f n
      · exact ⟨n, Nat.lt_succ_self n, q⟩
      · obtain ⟨j, a, b⟩ := ih.mp (by omega)
        exact ⟨j, by omega, b⟩
    · rintro ⟨j, a, b⟩
      by_cases e : j = n
      · rw [e] at b; omega
      · have := ih.mpr ⟨j, by omega, b⟩; omega
section MY2
variable {h : hM} {α : Nat → Nat → Nat} {R S : mS} {D : dS} {th : Int32} {j c : Nat} {Q : Int32 → hM → Prop}
theorem C_room (hW : Wd h α (cA α R D S th)) (hl : I_loa R D) (hj : j < R.2.2.2) (hy : rom R j 4 → Q 1 h) (hno : ¬ rom R j 4 → Q 0 h) : P_Rows_areUnitsEnough Q h (α 0 0) (α 17 j) := by
  have loop : ∀ (n p : Nat), p ≤ 4 → 4 < p + n → rom R j p → L_Rows_areUnitsEnough_2 Q n h (α 0 0) (α 17 j) (nI p) := by
    intro n
    induction n with
    | zero => intro p h1 h2; omega
    | succ n ih =>
      intro p hp hpn hr
      refine ⟨fun z => ?_, fun z => ?_⟩
      · have e4 : p = 4 := by have := (n4 (by omega)).mp z; omega
        subst e4
        exact hy hr
      · have hp4 : p < 4 := by
          rcases Nat.lt_or_ge p 4 with q | q
          · exact q
          · exact absurd ((n4 (by omega)).mpr q) z
        have i4 := vp_in_nI hp4 (N := 4) (by decide)
        refine ⟨_, _, hW.1 17 j _ (cA_17 hj), rfl, _, _, hW.1 18 j _ (cA_18 hj), i4, _, _, hW.1 0 0 _ rfl, rfl, _, _, hW.1 10 0 _ rfl, rfl, _, _, hW.1 13 0 _ rfl, i4, _, _, hW.1 0 0 _ rfl, rfl, _, _, hW.1 9 0 _ rfl, i4, ?_⟩
        rw [nI_clamp (by omega), if_pos hp4, hl.2.1 p hp4]
        refine ⟨fun w y ey => ?_, fun w => hno (fun m => w (m p hp4))⟩
        rw [nI_1] at ey
        rw [ey]
        refine ih (p + 1) hp4 (by omega) (fun q hq => ?_)
        by_cases e : q = p
        · rw [e]; exact w
        · exact hr q (by omega)
  exact ⟨5, loop 5 0 (by decide) (by decide) (fun q hq => absurd hq (Nat.not_lt_zero q))⟩
theorem rch_ended (hE : I_exc R) (hN : I_ned R) (hb : R.2.2.2 ≤ 100) : ∀ m k i, k < R.2.2.2 → i < R.2.2.2 → ¬ R.1 11 k = 0 → rch (R.1 15) R.2.2.2 m k i → R.1 11 i = 3 := by
  intro m
  induction m with
  | zero => intro k i hk hi h0 hr; exact hE.2.2 k i hk hi h0 hr
  | succ m ih =>
    rintro k i hk hi h0 ⟨q, hq, h1, h2⟩
    have := hE.2.2 k q hk hq h0 h1
    exact ih q i hq hi (by rw [this]; decide) h2
theorem C_may (hW : Wd h α (cA α R D S th)) (hA : I_all α R D) (hj : j < R.2.2.2) (hy : may R j → Q 1 h) (hno : ¬ may R j → Q 0 h) : P_Rows_mayStart Q h (α 0 0) (α 17 j) := by
  obtain ⟨i1, i2, i3, i4, i5, i6, i7, i8, i9, i10, i11⟩ := hA
  have hb := i1.2.1
  obtain ⟨a1, a2, a3, a4, a5, a6, a7, a8⟩ := i2 j hj
  obtain ⟨c, hc, ec⟩ := i_nat (n := 36) a1.1 a1.2
  obtain ⟨nm, hnm, en⟩ := i_nat (x := R.1 10 j) (n := 100) a3.1 (by omega)
  have cc : (nI c).toNatClampNeg = c := nI_clamp (by omega)
  have ecc : (R.1 8 j).toNatClampNeg = c := by rw [ec, cc]
  have ic := vp_in_nI hc (N := 36) (by decide)
  obtain ⟨l1, l2, l3, l4, l5⟩ := i9
  have r0 := hW.1 0 0 _ rfl
  have r17 := hW.1 17 j _ (cA_17 hj)
  have r10 := hW.1 10 0 _ rfl
  have hst : stg R j = 0 ↔ (R.1 11 j = 0 ∧ R.1 13 j = 0) := by
    unfold stg
    by_cases q : R.1 11 j = 0
    · rw [if_pos q]
      by_cases w : R.1 13 j = 0
      · rw [if_pos w]; exact ⟨fun _ => ⟨q, w⟩, fun _ => rfl⟩
      · rw [if_neg w]; exact ⟨fun e => absurd e (by decide), fun e => absurd e.2 w⟩
    · rw [if_neg q]; exact ⟨fun e => absurd e q, fun e => absurd e.1 q⟩
  have hsame : D.2.2.2.1 0 c = nI (same R j R.2.2.2) := by
    rw [l1 c hc]
    unfold same
    rw [ec]
  have hwith : (∀ i, i < 128 → nsb (D.1 j) (D.2.1 j) i = true → nsb (D.2.2.1 0) (D.2.2.1 1) i = true) ↔ ¬ ned R j R.2.2.2 := by
    constructor
    · rintro q ⟨k, hk, n15, n3⟩
      have e1 : R.1 15 (100 * j + k) = 1 := (i4.1 _ (by omega)).resolve_left n15
      have := q (k + 1) (by omega) ((i10.2 j hj (k + 1) (by omega)).mpr ⟨k, 0, hk, rfl, e1⟩)
      obtain ⟨k', _, e, e3⟩ := (i10.1 (k + 1) (by omega)).mp this
      have : k' = k := by omega
      rw [this] at e3
      exact n3 e3
    · intro q i hi hb
      obtain ⟨k, m, hk, e, hr⟩ := (i10.2 j hj i hi).mp hb
      refine (i10.1 i hi).mpr ⟨k, hk, e, ?_⟩
      have dir : ∀ k, k < R.2.2.2 → R.1 15 (100 * j + k) = 1 → R.1 11 k = 3 := fun k hk e1 => Classical.not_not.mp (fun w => q ⟨k, hk, by rw [e1]; decide, w⟩)
      cases m with
      | zero => exact dir k hk hr
      | succ m =>
        obtain ⟨y, hy, h1, h2⟩ := hr
        exact rch_ended i11 i4 (by omega) m y k hy hk (by rw [dir y hy h1]; decide) h2
  have halone : D.2.2.2.2.1 1 = 0 ↔ ∀ k, k < R.2.2.2 → R.1 11 k = 2 → R.1 14 k = 0 := by
    rcases l4 with ⟨e, k, hk, h2, h1⟩ | ⟨e, q⟩
    · rw [e]
      exact ⟨fun z => absurd z (by decide), fun z => by rw [z k hk h2] at h1; exact absurd h1 (by decide)⟩
    · exact ⟨fun _ => q, fun _ => e⟩
  have hany : 0 < D.2.2.2.2.1 0 ↔ any2 R R.2.2.2 := by
    have hle : sm (fun j => if R.1 11 j = 2 then 1 else 0) R.2.2.2 ≤ 1 * R.2.2.2 := sm_le (fun k _ => by split <;> omega)
    rw [l3, show (0 : Int32) = nI 0 from rfl, nI_ltI (by decide) (by omega), sm_pos]
    constructor
    · rintro ⟨k, a, b⟩
      refine ⟨k, a, Classical.not_not.mp (fun q => ?_)⟩
      rw [if_neg q] at b; omega
    · rintro ⟨k, a, b⟩
      exact ⟨k, a, by rw [if_pos b]; decide⟩
  have hname : nsb (D.2.2.1 2) (D.2.2.1 3) nm = true ↔ ∃ k, k < R.2.2.2 ∧ R.1 11 k = 2 ∧ R.1 10 k = R.1 10 j := by
    rw [l5 nm hnm, en]
  have hfre : fre R j R.2.2.2 ↔ (¬ nsb (D.2.2.1 2) (D.2.2.1 3) nm = true ∧ D.2.2.2.2.1 1 = 0) := by
    rw [hname, halone]
    constructor
    · intro q
      exact ⟨fun ⟨k, a, b, e⟩ => (q k a b).1 e, fun k a b => (q k a b).2⟩
    · intro q k a b
      exact ⟨fun e => q.1 ⟨k, a, b, e⟩, q.2 k a b⟩
  refine ⟨_, _, r17, rfl, fun z => hno (fun m => z (hst.mpr ⟨m.1, m.2.1⟩)), fun z => ?_⟩
  have hz := hst.mp z
  refine ⟨_, _, r0, rfl, _, _, r10, rfl, _, _, r17, rfl, _, _, hW.1 12 0 _ rfl, by rw [ec]; exact ic, _, _, r0, rfl, _, _, r17, rfl, _, _, hW.1 5 0 _ rfl, by rw [ec]; exact ic, ?_⟩
  rw [ec, cc, hsame]
  refine ⟨fun y => hno (fun m => m.2.2.2.2.2.2.1 (by rw [ecc]; exact y)), fun g7 => ⟨_, _, r17, rfl, _, r0, ?_⟩⟩
  rw [ec]
  have g7' : ¬ R.1 3 (R.1 8 j).toNatClampNeg ≤ nI (same R j R.2.2.2) := by rw [ecc]; exact g7
  refine C_open hW hc (fun g3 => ⟨fun y => absurd y (by decide), fun _ => ?_⟩) (fun g3 => ⟨fun _ => hno (fun m => g3 (by have := m.2.2.1; rw [ecc] at this; exact this)), fun y => absurd rfl y⟩)
  have g3' : opn R (R.1 8 j).toNatClampNeg := by rw [ecc]; exact g3
  refine ⟨_, _, r0, rfl, _, _, r10, rfl, _, _, r17, rfl, _, hW.1 14 0 _ rfl, ?_⟩
  rw [en]
  refine C_has (hW.1 14 0 _ rfl) (by omega) ⟨fun y => hno (fun m => ?_), fun y => ?_⟩
  · by_cases w : nsb (D.2.2.1 2) (D.2.2.1 3) nm = true
    · exact (hfre.mp m.2.2.2.1).1 w
    · exact y (if_neg w)
  have w : ¬ nsb (D.2.2.1 2) (D.2.2.1 3) nm = true := fun w => by
    have y' : (if nsb (D.2.2.1 2) (D.2.2.1 3) nm = true then (1 : Int32) else 0) = 0 := y
    rw [if_pos w] at y'; exact absurd y' (by decide)
  refine ⟨_, _, r17, rfl, _, _, r0, rfl, _, hW.1 19 j _ (cA_19 hj), ?_⟩
  have last : ¬ ned R j R.2.2.2 → rom R j 4 → ∃ (fs180 : List Value) (r183 : Nat), rd h (α 0 0) = some (eO 0 fs180) ∧ fs180[7]? = some (.ref r183) ∧ (∃ (fs184 : List Value) (i187 : Int32), rd h r183 = some (eO 2 fs184) ∧ fs184[4]? = some (.int i187) ∧ ((¬ i187 = 0 → Q (0 : Int32) h) ∧ (i187 = 0 → (∃ (fs189 : List Value) (i192 : Int32), rd h (α 17 j) = some (eO 1 fs189) ∧ fs189[7]? = some (.int i192) ∧ ((i192 = 0 → Q (1 : Int32) h) ∧ (¬ i192 = 0 → (∃ (fs194 : List Value) (r197 : Nat), rd h (α 0 0) = some (eO 0 fs194) ∧ fs194[7]? = some (.ref r197) ∧ (∃ (fs198 : List Value) (i201 : Int32), rd h r197 = some (eO 2 fs198) ∧ fs198[3]? = some (.int i201) ∧ ((0 < i201 → Q (0 : Int32) h) ∧ (¬ 0 < i201 → Q (1 : Int32) h)))))))))) := by
    intro g5 g6
    refine ⟨_, _, r0, rfl, _, _, r10, rfl, fun y => hno (fun m => y (hfre.mp m.2.2.2.1).2), fun y => ⟨_, _, r17, rfl, fun x => ?_, fun x => ⟨_, _, r0, rfl, _, _, r10, rfl, fun v => ?_, fun v => ?_⟩⟩⟩
    · exact hy ⟨hz.1, hz.2, g3', hfre.mpr ⟨w, y⟩, g5, g6, g7', fun q => q.1 x⟩
    · exact hno (fun m => m.2.2.2.2.2.2.2 ⟨x, hany.mp v⟩)
    · exact hy ⟨hz.1, hz.2, g3', hfre.mpr ⟨w, y⟩, g5, g6, g7', fun q => v (hany.mpr q.2)⟩
  by_cases g5 : ned R j R.2.2.2
  · refine C_within (hW.1 19 j _ (cA_19 hj)) (hW.1 11 0 _ rfl) (Or.inr ⟨rfl, fun q => hwith.mp q g5⟩) ⟨fun _ => hno (fun m => m.2.2.2.2.1 g5), fun y => absurd rfl y⟩
  · refine C_within (hW.1 19 j _ (cA_19 hj)) (hW.1 11 0 _ rfl) (Or.inl ⟨rfl, hwith.mpr g5⟩) ⟨fun y => absurd y (by decide), fun _ => ⟨_, r0, ?_⟩⟩
    exact C_room hW ⟨l1, l2, l3, l4, l5⟩ hj (fun g6 => ⟨fun y => absurd y (by decide), fun _ => last g5 g6⟩) (fun g6 => ⟨fun _ => hno (fun m => g6 m.2.2.2.2.2.1), fun y => absurd rfl y⟩)
end MY2
