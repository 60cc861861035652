/-- the jobs below i that need j, or are j, need o too, and all that o needs -/
def dN (D : dS) (j o i : Nat) : dS := ((fun k => if k < i ∧ (k = j ∨ nsb (D.1 k) (D.2.1 k) (j + 1) = true) then putL (D.1 k) (o + 1) ||| D.1 o else D.1 k), (fun k => if k < i ∧ (k = j ∨ nsb (D.1 k) (D.2.1 k) (j + 1) = true) then putH (D.2.1 k) (o + 1) ||| D.2.1 o else D.2.1 k), D.2.2)
theorem dN_zero (D : dS) (j o : Nat) : dN D j o 0 = D := by
  obtain ⟨d1, d2, d3⟩ := D
  show ((fun k => _), (fun k => _), d3) = (d1, d2, d3)
  congr 2
  all_goals (funext k; rw [if_neg (by omega)])
theorem dN_no {D : dS} {j o i : Nat} (h : ¬ (i = j ∨ nsb (D.1 i) (D.2.1 i) (j + 1) = true)) : dN D j o i = dN D j o (i + 1) := by
  obtain ⟨d1, d2, d3⟩ := D
  have e : ∀ k, (k < i ∧ (k = j ∨ nsb (d1 k) (d2 k) (j + 1) = true)) ↔ (k < i + 1 ∧ (k = j ∨ nsb (d1 k) (d2 k) (j + 1) = true)) := fun k => by
    constructor
    · exact fun q => ⟨by omega, q.2⟩
    · intro q
      refine ⟨?_, q.2⟩
      by_cases w : k = i
      · rw [w] at q; exact absurd q.2 h
      · omega
  show ((fun k => _), (fun k => _), d3) = ((fun k => _), (fun k => _), d3)
  congr 2
  · funext k
    show (if k < i ∧ (k = j ∨ nsb (d1 k) (d2 k) (j + 1) = true) then _ else _) = (if k < i + 1 ∧ (k = j ∨ nsb (d1 k) (d2 k) (j + 1) = true) then _ else _)
    by_cases q : k < i ∧ (k = j ∨ nsb (d1 k) (d2 k) (j + 1) = true)
    · rw [if_pos q, if_pos ((e k).mp q)]
    · rw [if_neg q, if_neg (fun w => q ((e k).mpr w))]
  · funext k
    show (if k < i ∧ (k = j ∨ nsb (d1 k) (d2 k) (j + 1) = true) then _ else _) = (if k < i + 1 ∧ (k = j ∨ nsb (d1 k) (d2 k) (j + 1) = true) then _ else _)
    by_cases q : k < i ∧ (k = j ∨ nsb (d1 k) (d2 k) (j + 1) = true)
    · rw [if_pos q, if_pos ((e k).mp q)]
    · rw [if_neg q, if_neg (fun w => q ((e k).mpr w))]
theorem dN_yes {D : dS} {j o i : Nat} (h : i = j ∨ nsb (D.1 i) (D.2.1 i) (j + 1) = true) : dDp (dN D j o i) i (putL (D.1 i) (o + 1) ||| D.1 o) (putH (D.2.1 i) (o + 1) ||| D.2.1 o) = dN D j o (i + 1) := by
  obtain ⟨d1, d2, d3⟩ := D
  show ((fun k => _), (fun k => _), d3) = ((fun k => _), (fun k => _), d3)
  congr 2
  · funext k
    show (if k = i then putL (d1 i) (o + 1) ||| d1 o else if k < i ∧ (k = j ∨ nsb (d1 k) (d2 k) (j + 1) = true) then _ else d1 k) = (if k < i + 1 ∧ (k = j ∨ nsb (d1 k) (d2 k) (j + 1) = true) then putL (d1 k) (o + 1) ||| d1 o else d1 k)
    by_cases w : k = i
    · rw [if_pos w, w, if_pos ⟨Nat.lt_succ_self i, h⟩]
    · rw [if_neg w]
      by_cases q : k < i ∧ (k = j ∨ nsb (d1 k) (d2 k) (j + 1) = true)
      · rw [if_pos q, if_pos ⟨by omega, q.2⟩]
      · rw [if_neg q, if_neg (fun y => q ⟨by omega, y.2⟩)]
  · funext k
    show (if k = i then putH (d2 i) (o + 1) ||| d2 o else if k < i ∧ (k = j ∨ nsb (d1 k) (d2 k) (j + 1) = true) then _ else d2 k) = (if k < i + 1 ∧ (k = j ∨ nsb (d1 k) (d2 k) (j + 1) = true) then putH (d2 k) (o + 1) ||| d2 o else d2 k)
    by_cases w : k = i
    · rw [if_pos w, w, if_pos ⟨Nat.lt_succ_self i, h⟩]
    · rw [if_neg w]
      by_cases q : k < i ∧ (k = j ∨ nsb (d1 k) (d2 k) (j + 1) = true)
      · rw [if_pos q, if_pos ⟨by omega, q.2⟩]
      · rw [if_neg q, if_neg (fun y => q ⟨by omega, y.2⟩)]
theorem dDp_twice (D : dS) (i : Nat) (a b c d : Int64) : dDp (dDp D i a b) i c d = dDp D i c d := by
  obtain ⟨d1, d2, d3⟩ := D
  show ((fun k => _), (fun k => _), d3) = ((fun k => _), (fun k => _), d3)
  congr 2
  · funext k
    show (if k = i then c else if k = i then a else d1 k) = (if k = i then c else d1 k)
    by_cases w : k = i
    · rw [if_pos w, if_pos w]
    · rw [if_neg w, if_neg w, if_neg w]
  · funext k
    show (if k = i then d else if k = i then b else d2 k) = (if k = i then d else d2 k)
    by_cases w : k = i
    · rw [if_pos w, if_pos w]
    · rw [if_neg w, if_neg w, if_neg w]
theorem dN_ge {D : dS} {j o i k : Nat} (h : i ≤ k) : (dN D j o i).1 k = D.1 k ∧ (dN D j o i).2.1 k = D.2.1 k := by
  constructor
  · show (if k < i ∧ _ then _ else D.1 k) = D.1 k
    rw [if_neg (fun q => by omega)]
  · show (if k < i ∧ _ then _ else D.2.1 k) = D.2.1 k
    rw [if_neg (fun q => by omega)]
theorem dN_o {D : dS} {j o i : Nat} (hjo : o ≠ j) (h : ¬ nsb (D.1 o) (D.2.1 o) (j + 1) = true) : (dN D j o i).1 o = D.1 o ∧ (dN D j o i).2.1 o = D.2.1 o := by
  have hn : ¬ (o < i ∧ (o = j ∨ nsb (D.1 o) (D.2.1 o) (j + 1) = true)) := fun q => q.2.elim hjo h
  exact ⟨if_neg hn, if_neg hn⟩
section NE
variable {h : hM} {α : Nat → Nat → Nat} {R S : mS} {D : dS} {th : Int32} {x1 x2 : Int32} {K : hM → Prop}
theorem C_addNeed {Q : hM → Prop} {j o : Nat} (hW : Wd h α (cA α R D S th)) (hb : R.2.2.2 ≤ 100) (hL : LOk α D 1 17 R.2.2.2) (hj : j < R.2.2.2) (ho : o < R.2.2.2) (hjo : o ≠ j) (hn : ¬ nsb (D.1 o) (D.2.1 o) (j + 1) = true) (hQ : ∀ h', Wd h' α (cA α R (dN D j o R.2.2.2) S th) → Q h') : P_Rows_addNeed Q h (α 0 0) (α 17 j) (α 17 o) := by
  have loop : ∀ (n i : Nat) (h : hM), i ≤ R.2.2.2 → R.2.2.2 < i + n → Wd h α (cA α R (dN D j o i) S th) → L_Rows_addNeed_2 Q n h (α 0 0) (α 17 j) (α 17 o) (nI i) := by
    intro n
    induction n with
    | zero => intro i h h1 h2; omega
    | succ n ih =>
      intro i h hi hin hW
      refine ⟨_, _, hW.1 0 0 _ rfl, rfl, _, hW.1 3 0 _ rfl, _, _, hW.1 3 0 _ rfl, rfl, fun z => ?_, fun z => ?_⟩
      · have : R.2.2.2 ≤ i := (nI_leI (by omega) (by omega)).mp z
        have e : i = R.2.2.2 := by omega
        rw [e] at hW
        exact hQ h hW
      · have hlt : i < R.2.2.2 := by
          rcases Nat.lt_or_ge i R.2.2.2 with q | q
          · exact q
          · exact absurd (nI_le q (by omega)) z
        have r17 := hW.1 17 i _ (cA_17 hlt)
        have r17j := hW.1 17 j _ (cA_17 hj)
        have r19 := hW.1 19 i _ (cA_19 hlt)
        rw [(dN_ge (Nat.le_refl i)).1, (dN_ge (Nat.le_refl i)).2] at r19
        have inj : α 17 i = α 17 j ↔ i = j := ⟨fun e => (hW.2.1 17 i 17 j _ _ (cA_17 hlt) (cA_17 hj) e).2, fun e => by rw [e]⟩
        have go : ∀ h', Wd h' α (cA α R (dN D j o (i + 1)) S th) → P_Rows_addNeed_71 Q (L_Rows_addNeed_2 Q n) h' (α 0 0) (α 17 j) (α 17 o) (nI i) := by
          intro h' hW' y ey
          rw [nI_1] at ey
          rw [ey]
          exact ih (i + 1) h' hlt (by omega) hW'
        have yes : (i = j ∨ nsb (D.1 i) (D.2.1 i) (j + 1) = true) → P_Rows_addNeed_47 Q (L_Rows_addNeed_2 Q n) h (α 0 0) (α 17 j) (α 17 o) (nI i) (some (α 17 i)) := by
          intro c
          have hio : i ≠ o := fun e => by
            rw [e] at c
            exact c.elim hjo hn
          refine ⟨_, rfl, _, _, r17, rfl, _, _, hW.1 17 o _ (cA_17 ho), rfl, _, r19, ?_⟩
          refine C_put r19 (by omega) ?_
          have hW1 := d_deep hlt (putL (D.1 i) (o + 1)) (putH (D.2.1 i) (o + 1)) hW
          have e1 : (dDp (dN D j o i) i (putL (D.1 i) (o + 1)) (putH (D.2.1 i) (o + 1))).1 o = D.1 o := by
            show (if o = i then _ else (dN D j o i).1 o) = _
            rw [if_neg (Ne.symm hio), (dN_o hjo hn).1]
          have e2 : (dDp (dN D j o i) i (putL (D.1 i) (o + 1)) (putH (D.2.1 i) (o + 1))).2.1 o = D.2.1 o := by
            show (if o = i then _ else (dN D j o i).2.1 o) = _
            rw [if_neg (Ne.symm hio), (dN_o hjo hn).2]
          have s1 : (dDp (dN D j o i) i (putL (D.1 i) (o + 1)) (putH (D.2.1 i) (o + 1))).1 i = putL (D.1 i) (o + 1) := if_pos rfl
          have s2 : (dDp (dN D j o i) i (putL (D.1 i) (o + 1)) (putH (D.2.1 i) (o + 1))).2.1 i = putH (D.2.1 i) (o + 1) := if_pos rfl
          have q1 := hW1.1 19 i _ (cA_19 hlt)
          have q2 := hW1.1 19 o _ (cA_19 ho)
          rw [s1, s2] at q1
          rw [e1, e2] at q2
          refine ⟨_, _, hW1.1 17 i _ (cA_17 hlt), rfl, _, _, hW1.1 17 o _ (cA_17 ho), rfl, _, q1, ?_⟩
          refine C_putAll q1 q2 (fun e => hio (hW1.2.1 19 i 19 o _ _ (cA_19 hlt) (cA_19 ho) e).2) ?_
          refine go _ ?_
          have hW2 := d_deep hlt (putL (D.1 i) (o + 1) ||| D.1 o) (putH (D.2.1 i) (o + 1)) hW1
          have hW3 := d_deep hlt (putL (D.1 i) (o + 1) ||| D.1 o) (putH (D.2.1 i) (o + 1) ||| D.2.1 o) hW2
          rw [dDp_twice, dDp_twice, dN_yes c] at hW3
          exact hW3
        refine ⟨_, _, hW.1 0 0 _ rfl, rfl, _, hW.1 3 0 _ rfl, C_getJob hW hL hlt ⟨fun z => (nomatch z), fun a e => ?_⟩⟩
        cases e
        refine ⟨⟨_, r17⟩, fun q => yes (Or.inl (inj.mp q)), fun q => ⟨_, _, r17, rfl, _, _, r17j, rfl, _, r19, ?_⟩⟩
        have hij : ¬ i = j := fun e => q (inj.mpr e)
        refine C_has r19 (by omega) ⟨fun y => go h ?_, fun y => yes (Or.inr ?_)⟩
        · have w : ¬ nsb (D.1 i) (D.2.1 i) (j + 1) = true := fun w => by
            rw [if_pos w] at y; exact absurd y (by decide)
          rw [← dN_no (fun c => c.elim hij w)]
          exact hW
        · by_cases w : nsb (D.1 i) (D.2.1 i) (j + 1) = true
          · exact w
          · rw [if_neg w] at y; exact absurd rfl y
  exact ⟨R.2.2.2 + 1, loop _ 0 h (Nat.zero_le _) (by omega) (by rw [dN_zero]; exact hW)⟩
theorem rch_new {e : Nat → Int32} {N j o : Nat} (hN : N ≤ 100) (hj : j < N) (ho : o < N) : ∀ m k i, k < N → i < N → rch (upd e (100 * j + o) 1) N m k i → (∃ m, rch e N m k i) ∨ ((k = j ∨ ∃ m, rch e N m k j) ∧ (i = o ∨ ∃ m, rch e N m o i)) := by
  have edge : ∀ k i, k < N → i < N → upd e (100 * j + o) 1 (100 * k + i) = 1 → (k = j ∧ i = o) ∨ e (100 * k + i) = 1 := fun k i hk hi h => by
    by_cases q : 100 * k + i = 100 * j + o
    · exact Or.inl ⟨by omega, by omega⟩
    · rw [pk_un q] at h; exact Or.inr h
  intro m
  induction m with
  | zero =>
    intro k i hk hi h
    rcases edge k i hk hi h with q | q
    · exact Or.inr ⟨Or.inl q.1, Or.inl q.2⟩
    · exact Or.inl ⟨0, q⟩
  | succ m ih =>
    rintro k i hk hi ⟨q, hq, h1, h2⟩
    have r := ih q i hq hi h2
    rcases edge k q hk hq h1 with w | w
    · obtain ⟨w1, w2⟩ := w
      rw [w2] at r
      rcases r with ⟨m', r⟩ | r
      · exact Or.inr ⟨Or.inl w1, Or.inr ⟨m', r⟩⟩
      · exact Or.inr ⟨Or.inl w1, r.2⟩
    · rcases r with ⟨m', r⟩ | ⟨r1, r2⟩
      · exact Or.inl ⟨m' + 1, q, hq, w, r⟩
      · refine Or.inr ⟨Or.inr ?_, r2⟩
        rcases r1 with r1 | ⟨m', r1⟩
        · exact ⟨0, by rw [r1] at w; exact w⟩
        · exact ⟨m' + 1, q, hq, w, r1⟩
theorem rch_mono {e : Nat → Int32} {N c : Nat} : ∀ m k i, rch e N m k i → rch (upd e c 1) N m k i := by
  intro m
  induction m with
  | zero => intro k i h; exact upd_all (P := fun v => v = 1) rfl h
  | succ m ih =>
    rintro k i ⟨q, hq, h1, h2⟩
    exact ⟨q, hq, upd_all (P := fun v => v = 1) rfl h1, ih q i h2⟩
theorem rch_iff {e : Nat → Int32} {N j o : Nat} (hN : N ≤ 100) (hj : j < N) (ho : o < N) {k i : Nat} (hk : k < N) (hi : i < N) : (∃ m, rch (upd e (100 * j + o) 1) N m k i) ↔ ((∃ m, rch e N m k i) ∨ ((k = j ∨ ∃ m, rch e N m k j) ∧ (i = o ∨ ∃ m, rch e N m o i))) := by
  constructor
  · rintro ⟨m, h⟩; exact rch_new hN hj ho m k i hk hi h
  · have base : rch (upd e (100 * j + o) 1) N 0 j o := pk_us
    rintro (⟨m, h⟩ | ⟨h1, h2⟩)
    · exact ⟨m, rch_mono m k i h⟩
    · have kj : ∃ m, rch (upd e (100 * j + o) 1) N m k o := by
        rcases h1 with h1 | ⟨m, h1⟩
        · rw [h1]; exact ⟨0, base⟩
        · exact ⟨_, rch_trans m 0 k j o hj (rch_mono m k j h1) base⟩
      obtain ⟨m, kj⟩ := kj
      rcases h2 with h2 | ⟨m', h2⟩
      · rw [h2]; exact ⟨m, kj⟩
      · exact ⟨_, rch_trans m m' k o i ho kj (rch_mono m' o i h2)⟩
theorem I_need {j o : Nat} {f : Nat → Int32} (hA : I_all α S D) (hj : j < S.2.2.2) (ho : o < S.2.2.2) (h0 : S.1 11 j = 0) : I_all α (s_up (rS S f) 15 (100 * j + o) 1) (dN D j o S.2.2.2) := by
  obtain ⟨i1, i2, i3, i4, i5, i6, i7, i8, i9, i10, i11⟩ := hA
  have hb := i1.2.1
  refine ⟨i1, i2, i3, ⟨fun e he => ?_, fun a b ha hb' he => ?_⟩, i5, i6, i7, i8, i9, ⟨i10.1, fun k hk n hn => ?_⟩, ⟨i11.1, i11.2.1, fun a b ha hb' g1 g2 => ?_⟩⟩
  · show upd (S.1 15) (100 * j + o) 1 e = 0 ∨ upd (S.1 15) (100 * j + o) 1 e = 1
    exact upd_all (P := fun v => v = 0 ∨ v = 1) (Or.inr rfl) (i4.1 e he)
  · have he' : upd (S.1 15) (100 * j + o) 1 (100 * a + b) = 1 := he
    by_cases q : 100 * a + b = 100 * j + o
    · have e1 : a = j := by omega
      have e2 : b = o := by omega
      rw [e1, e2]; exact ⟨hj, ho⟩
    · rw [pk_un q] at he'
      exact i4.2 a b ha hb' he'
  · show nsb (if k < S.2.2.2 ∧ (k = j ∨ nsb (D.1 k) (D.2.1 k) (j + 1) = true) then putL (D.1 k) (o + 1) ||| D.1 o else D.1 k) (if k < S.2.2.2 ∧ (k = j ∨ nsb (D.1 k) (D.2.1 k) (j + 1) = true) then putH (D.2.1 k) (o + 1) ||| D.2.1 o else D.2.1 k) n = true ↔ ∃ i m, i < S.2.2.2 ∧ n = i + 1 ∧ rch (upd (S.1 15) (100 * j + o) 1) S.2.2.2 m k i
    have b2 := i10.2
    have hk' : k < S.2.2.2 := hk
    have pull : ∀ (P : Nat → Nat → Prop), (∃ i m, i < S.2.2.2 ∧ n = i + 1 ∧ P m i) ↔ ∃ i, i < S.2.2.2 ∧ n = i + 1 ∧ ∃ m, P m i := fun P => ⟨fun ⟨i, m, a, b, c⟩ => ⟨i, a, b, m, c⟩, fun ⟨i, a, b, m, c⟩ => ⟨i, m, a, b, c⟩⟩
    have hkj : nsb (D.1 k) (D.2.1 k) (j + 1) = true ↔ ∃ m, rch (S.1 15) S.2.2.2 m k j := by
      rw [b2 k hk' (j + 1) (by omega)]
      constructor
      · rintro ⟨i, m, a, b, c⟩
        have : i = j := by omega
        rw [this] at c; exact ⟨m, c⟩
      · rintro ⟨m, c⟩; exact ⟨j, m, hj, rfl, c⟩
    rw [pull (fun m i => rch (upd (S.1 15) (100 * j + o) 1) S.2.2.2 m k i)]
    by_cases c : k < S.2.2.2 ∧ (k = j ∨ nsb (D.1 k) (D.2.1 k) (j + 1) = true)
    · rw [if_pos c, if_pos c, nsb_or, nsb_put (by omega) hn, b2 k hk' n hn, b2 o ho n hn, pull (fun m i => rch (S.1 15) S.2.2.2 m k i), pull (fun m i => rch (S.1 15) S.2.2.2 m o i)]
      have hc : k = j ∨ ∃ m, rch (S.1 15) S.2.2.2 m k j := c.2.imp id hkj.mp
      constructor
      · rintro ((⟨i, a, b, m⟩ | e) | ⟨i, a, b, m⟩)
        · exact ⟨i, a, b, (rch_iff hb hj ho hk' a).mpr (Or.inl m)⟩
        · exact ⟨o, ho, e, (rch_iff hb hj ho hk' ho).mpr (Or.inr ⟨hc, Or.inl rfl⟩)⟩
        · exact ⟨i, a, b, (rch_iff hb hj ho hk' a).mpr (Or.inr ⟨hc, Or.inr m⟩)⟩
      · rintro ⟨i, a, b, m⟩
        rcases (rch_iff hb hj ho hk' a).mp m with q | ⟨_, q | q⟩
        · exact Or.inl (Or.inl ⟨i, a, b, q⟩)
        · exact Or.inl (Or.inr (by rw [b, q]))
        · exact Or.inr ⟨i, a, b, q⟩
    · rw [if_neg c, if_neg c, b2 k hk' n hn, pull (fun m i => rch (S.1 15) S.2.2.2 m k i)]
      constructor
      · rintro ⟨i, a, b, m⟩
        exact ⟨i, a, b, (rch_iff hb hj ho hk' a).mpr (Or.inl m)⟩
      · rintro ⟨i, a, b, m⟩
        rcases (rch_iff hb hj ho hk' a).mp m with q | ⟨q, _⟩
        · exact ⟨i, a, b, q⟩
        · exact absurd ⟨hk', q.imp id hkj.mpr⟩ c
  · show S.1 11 b = 3
    have g1' : ¬ S.1 11 a = 0 := g1
    have g2' : upd (S.1 15) (100 * j + o) 1 (100 * a + b) = 1 := g2
    have ha' : a < S.2.2.2 := ha
    have hb2 : b < S.2.2.2 := hb'
    by_cases q : 100 * a + b = 100 * j + o
    · have : a = j := by omega
      rw [this] at g1'
      exact absurd h0 g1'
    · rw [pk_un q] at g2'
      exact i11.2.2 a b ha' hb2 g1' g2'
theorem M_needs {Q : Int32 → hM → Prop} {j o : Nat} (hj : j < S.2.2.2) (ho : o < S.2.2.2) (hb : S.2.2.2 ≤ 100) (hN : I_ned S) (hW : Wd h α (cA α R D S th)) (hQ5 : ¬ S.1 11 j = 0 → ∀ h', Wd h' α (cA α R D S 0) → Q (-5) h') (hQ0 : S.1 11 j = 0 → rc S o j → ∀ f h', Wd h' α (cA α R D (rS S f) 0) → Q 0 h') (hQ1 : S.1 11 j = 0 → ¬ rc S o j → ∀ f h', Wd h' α (cA α R D (s_up (rS S f) 15 (100 * j + o) 1) 0) → Q 1 h') : P_Mod_needs Q h (α 20 0) (nI (j + 1)) (nI (o + 1)) := by
  refine M_begin hW (fun h1 hW1 => ⟨_, hW1.1 20 0 _ rfl, M_isJob_yes hW1 hj hb ⟨fun z => absurd z (by decide), fun _ => ⟨_, hW1.1 20 0 _ rfl, M_isJob_yes hW1 ho hb ⟨fun _ => ?_, fun z => absurd z (by decide)⟩⟩⟩⟩)
  have ej : nI (j + 1) - 1 = nI j := nI_pred j
  have eo : nI (o + 1) - 1 = nI o := nI_pred o
  have ejo : (100 : Int32) * nI j + nI (o + 1) - 1 = nI (100 * j + o) := by
    rw [show (100 : Int32) = nI 100 from rfl, pk_mul, nI_add, ← Nat.add_assoc, nI_pred]
  have ij : vp_in (nI j) 100 := vp_in_nI (by omega) (by decide)
  refine ⟨_, _, hW1.1 20 0 _ rfl, rfl, _, _, hW1.1 34 0 _ rfl, by rw [ej]; exact ij, ?_⟩
  rw [ej, nI_clamp (by omega), eo, ejo]
  refine ⟨fun z => ⟨_, hW1.1 20 0 _ rfl, ?_⟩, fun z => hQ5 z _ hW1⟩
  refine M_reaches hW1 hN hb ho hj (fun q f h2 hW2 => ⟨fun w => absurd w (by decide), fun _ => hQ0 z q f h2 hW2⟩) (fun q f h2 hW2 => ⟨fun _ => ⟨_, _, hW2.1 20 0 _ rfl, rfl, _, _, hW2.1 38 0 _ rfl, vp_in_nI (by show _ < 10000; omega) (by decide), fun h3 e3 => hQ1 z q f h3 ?_⟩, fun w => absurd rfl w⟩)
  rw [e3, nI_clamp (by omega)]
  exact hW2.mset 15 (by decide) rfl rfl rfl _ _
theorem rS_cR {f : Nat → Int32} : ∀ k i, cA α (rS S f) D (rS S f) th k i = cA α S D (rS S f) th k i := fun k i => rfl
theorem sim_needs (hI : INV h α S D th) (hK : Go α K) : P_Rows_needs (fun r h1 => P_Mod_needs (fun r' h2 => r = r' ∧ K h2) h1 (α 20 0) x1 x2) h (α 0 0) x1 x2 := by
  obtain ⟨hW, hA⟩ := hI
  have hb := hA.1.2.1
  have hL := hA.2.2.2.2.2.2.2.1.2.1
  have hN := hA.2.2.2.1
  have hGo : ∀ h2, Wd h2 α (cA α S D S 0) → K h2 := fun h2 hW2 => hK h2 α S D 0 ⟨hW2, hA⟩ rfl rfl
  have hno : ¬ ((1 ≤ x1.toInt ∧ x1.toInt ≤ S.2.2.2) ∧ (1 ≤ x2.toInt ∧ x2.toInt ≤ S.2.2.2)) → P_Mod_needs (fun r' h2 => (-2 : Int32) = r' ∧ K h2) h (α 20 0) x1 x2 := by
    intro hn
    refine M_begin hW (fun h1 hW1 => ⟨_, hW1.1 20 0 _ rfl, ?_⟩)
    by_cases h1' : 1 ≤ x1.toInt ∧ x1.toInt ≤ S.2.2.2
    · obtain ⟨j, hj, rfl⟩ := i_num h1'.1 h1'.2
      refine M_isJob_yes hW1 hj hb ⟨fun z => absurd z (by decide), fun _ => ⟨_, hW1.1 20 0 _ rfl, M_isJob_no hW1 (fun q => hn ⟨h1', q⟩) hb ⟨fun z => absurd rfl z, fun _ => ⟨rfl, hGo _ hW1⟩⟩⟩⟩
    · exact M_isJob_no hW1 h1' hb ⟨fun _ => ⟨rfl, hGo _ hW1⟩, fun z => absurd rfl z⟩
  by_cases h1' : 1 ≤ x1.toInt ∧ x1.toInt ≤ S.2.2.2
  · obtain ⟨j, hj, rfl⟩ := i_num h1'.1 h1'.2
    refine ⟨_, hW.1 0 0 _ rfl, C_findJob_yes hW hb hL hj ⟨_, hW.1 0 0 _ rfl, ?_⟩⟩
    by_cases h2' : 1 ≤ x2.toInt ∧ x2.toInt ≤ S.2.2.2
    · obtain ⟨o, ho, rfl⟩ := i_num h2'.1 h2'.2
      refine C_findJob_yes hW hb hL ho ⟨fun z => (nomatch z), fun a e => ?_⟩
      cases e
      refine ⟨fun z => (nomatch z), fun a e => ?_⟩
      cases e
      refine ⟨_, hW.1 17 j _ (cA_17 hj), ?_⟩
      rcases (hA.2.1 j hj).2.2.2.1 with hs | hs
      · refine C_waits_yes hj hs hW ⟨fun _ => ⟨fun z => ?_, fun z => ?_⟩, fun z => absurd z (by decide)⟩
        · rw [nI_eq (by omega) (by omega)] at z
          have ejo : j = o := by omega
          exact M_needs hj ho hb hN hW (fun q => absurd hs q) (fun _ _ f h2 hW2 => ⟨rfl, hK h2 α (rS S f) D 0 ⟨hW2.congr rS_cR, hA⟩ rfl rfl⟩) (fun _ q => absurd (Or.inl ejo) q)
        · rw [nI_eq (by omega) (by omega)] at z
          have hjo : o ≠ j := by omega
          have hdeep : nsb (D.1 o) (D.2.1 o) (j + 1) = true ↔ ∃ m, rch (S.1 15) S.2.2.2 m o j := by
            rw [hA.2.2.2.2.2.2.2.2.2.1.2 o ho (j + 1) (by omega)]
            constructor
            · rintro ⟨i, m, a, b, c⟩
              have : i = j := by omega
              rw [this] at c; exact ⟨m, c⟩
            · rintro ⟨m, c⟩; exact ⟨j, m, hj, rfl, c⟩
          refine ⟨_, _, hW.1 17 o _ (cA_17 ho), rfl, _, hW.1 19 o _ (cA_19 ho), C_has (hW.1 19 o _ (cA_19 ho)) (by omega) ⟨fun y => ⟨_, hW.1 0 0 _ rfl, ?_⟩, fun y => ?_⟩⟩
          · have w : ¬ nsb (D.1 o) (D.2.1 o) (j + 1) = true := fun w => by
              rw [if_pos w] at y; exact absurd y (by decide)
            refine C_addNeed hW hb hL hj ho hjo w (fun h1 hW1 => ?_)
            refine M_needs hj ho hb hN hW1 (fun q => absurd hs q) (fun _ q => ?_) (fun _ _ f h2 hW2 => ⟨rfl, hK h2 α _ _ 0 ⟨hW2.congr (fun k i => rfl), I_need hA hj ho hs⟩ rfl rfl⟩)
            exact absurd q (fun q => q.elim (fun e => hjo e.symm) (fun m => w (hdeep.mpr m)))
          · have w : nsb (D.1 o) (D.2.1 o) (j + 1) = true := by
              by_cases w : nsb (D.1 o) (D.2.1 o) (j + 1) = true
              · exact w
              · rw [if_neg w] at y; exact absurd rfl y
            exact M_needs hj ho hb hN hW (fun q => absurd hs q) (fun _ _ f h2 hW2 => ⟨rfl, hK h2 α (rS S f) D 0 ⟨hW2.congr rS_cR, hA⟩ rfl rfl⟩) (fun _ q => absurd (Or.inr (hdeep.mp w)) q)
      · have h0 : ¬ S.1 11 j = 0 := by rcases hs with e | e <;> rw [e] <;> decide
        refine C_waits_no hj hs hW ⟨fun z => absurd rfl z, fun _ => ?_⟩
        exact M_needs hj ho hb hN hW (fun _ h2 hW2 => ⟨rfl, hGo h2 hW2⟩) (fun q => absurd q h0) (fun q => absurd q h0)
    · refine C_findJob_no hW hb h2' ⟨fun z => (nomatch z), fun a e => ⟨fun _ => hno (fun q => h2' q.2), fun _ z => (nomatch z)⟩⟩
  · refine ⟨_, hW.1 0 0 _ rfl, C_findJob_no hW hb h1' ⟨_, hW.1 0 0 _ rfl, ?_⟩⟩
    by_cases h2' : 1 ≤ x2.toInt ∧ x2.toInt ≤ S.2.2.2
    · obtain ⟨o, ho, rfl⟩ := i_num h2'.1 h2'.2
      exact C_findJob_yes hW hb hL ho ⟨fun _ => hno (fun q => h1' q.1), fun _ z => (nomatch z)⟩
    · exact C_findJob_no hW hb h2' ⟨fun _ => hno (fun q => h1' q.1), fun _ z => (nomatch z)⟩
end NE
