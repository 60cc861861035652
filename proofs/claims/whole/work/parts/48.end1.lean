theorem Wd.eqh {h h' : hM} {α : Nat → Nat → Nat} {c : Nat → Nat → Option hE} (hW : Wd h α c) (e : h' = h) : Wd h' α c := by rw [e]; exact hW
def uD (D : dS) (g : Nat → Int32) (p : Nat) : dS := (D.1, D.2.1, D.2.2.1, (fun k => if k = 1 then (fun q => if q < p then g q else D.2.2.2.1 1 q) else D.2.2.2.1 k), D.2.2.2.2)
theorem uD_zero (D : dS) (g : Nat → Int32) : uD D g 0 = D := by
  obtain ⟨d1, d2, d3, d4, d5⟩ := D
  show (d1, d2, d3, _, d5) = (d1, d2, d3, d4, d5)
  congr 4
  funext k
  by_cases e : k = 1
  · rw [if_pos e, e]; rfl
  · rw [if_neg e]
theorem uD_succ (D : dS) (g : Nat → Int32) (p : Nat) : dLd (uD D g p) 1 p (g p) = uD D g (p + 1) := by
  obtain ⟨d1, d2, d3, d4, d5⟩ := D
  show (d1, d2, d3, _, d5) = (d1, d2, d3, _, d5)
  congr 4
  funext k
  by_cases e : k = 1
  · rw [if_pos e, if_pos e]
    funext q
    show upd (fun q => if q < p then g q else d4 1 q) p (g p) q = _
    by_cases eq : q = p
    · rw [eq, pk_us, if_pos (Nat.lt_succ_self p)]
    · rw [pk_un eq]
      by_cases l : q < p
      · rw [if_pos l, if_pos (by omega)]
      · rw [if_neg l, if_neg (by omega)]
  · rw [if_neg e, if_neg e]
    show (if k = 1 then _ else d4 k) = d4 k
    rw [if_neg e]
theorem n4 {p : Nat} (hp : p < 100) : (4 : Int32) ≤ nI p ↔ 4 ≤ p := by
  rw [show (4 : Int32) = nI 4 from rfl, nI_leI (by decide) (by omega)]
def relD (R : mS) (D : dS) (j c nm : Nat) : dS := dSc (dSc (dWd (uD (dLd D 0 c (D.2.2.2.1 0 c - 1)) (fun p => D.2.2.2.1 1 p - R.1 12 (4 * j + p)) 4) 2 (drpL (D.2.2.1 2) nm) (drpH (D.2.2.1 3) nm)) 0 (D.2.2.2.2.1 0 - 1)) 1 0
def takD (R : mS) (D : dS) (j c nm : Nat) : dS := dSc (dSc (dWd (uD (dLd D 0 c (D.2.2.2.1 0 c + 1)) (fun p => D.2.2.2.1 1 p + R.1 12 (4 * j + p)) 4) 2 (putL (D.2.2.1 2) nm) (putH (D.2.2.1 3) nm)) 0 (D.2.2.2.2.1 0 + 1)) 1 (R.1 14 j)
section EN
variable {h : hM} {α : Nat → Nat → Nat} {R S : mS} {D : dS} {th : Int32} {x1 x2 x3 : Int32}
theorem C_release {Q : hM → Prop} {j c nm : Nat} (hW : Wd h α (cA α R D S th)) (hj : j < R.2.2.2) (hc : c < 36) (ec : R.1 8 j = nI c) (hn : nm < 128) (en : R.1 10 j = nI nm) (hQ : ∀ h', Wd h' α (cA α R (relD R D j c nm) S th) → Q h') : P_Load_release Q h (α 10 0) (α 17 j) := by
  refine ⟨_, _, hW.1 10 0 _ rfl, rfl, _, _, hW.1 17 j _ (cA_17 hj), rfl, _, _, hW.1 12 0 _ rfl, ?_, _, _, hW.1 12 0 _ rfl, ?_, fun h1 e1 => ?_⟩
  · rw [ec]; exact vp_in_nI hc (by decide)
  · rw [ec]; exact vp_in_nI hc (by decide)
  rw [ec, nI_clamp (by omega)] at e1
  have hW1 : Wd h1 α (cA α R (dLd D 0 c (D.2.2.2.1 0 c - 1)) S th) := by rw [e1]; exact d_ofc c _ hW
  have loop : ∀ (n p : Nat) (h : hM), p ≤ 4 → 4 < p + n → Wd h α (cA α R (uD (dLd D 0 c (D.2.2.2.1 0 c - 1)) (fun p => D.2.2.2.1 1 p - R.1 12 (4 * j + p)) p) S th) → L_Load_release_15 Q n h (α 10 0) (α 17 j) (nI p) := by
    intro n
    induction n with
    | zero => intro p h h1 h2; omega
    | succ n ih =>
      intro p h hp hpn hW
      refine ⟨fun z => ?_, fun z => ?_⟩
      · have e4 : p = 4 := by have := (n4 (by omega)).mp z; omega
        subst e4
        refine ⟨_, _, hW.1 10 0 _ rfl, rfl, _, _, hW.1 17 j _ (cA_17 hj), rfl, _, hW.1 14 0 _ rfl, ?_⟩
        rw [en]
        refine C_drop (hW.1 14 0 _ rfl) hn ?_
        have hW2 := d_names (drpL (D.2.2.1 2) nm) (drpH (D.2.2.1 3) nm) hW
        refine ⟨_, _, hW2.1 10 0 _ rfl, rfl, _, hW2.1 10 0 _ rfl, Nat.le_of_ble_eq_true rfl, fun h3 e3 => ?_⟩
        have hW3 := d_runs (D.2.2.2.2.1 0 - 1) hW2
        have hW3' := hW3.eqh (h' := h3) e3
        refine ⟨_, hW3'.1 10 0 _ rfl, Nat.le_of_ble_eq_true rfl, fun h4 e4 => ?_⟩
        refine hQ h4 ?_
        rw [e4]
        exact d_alone 0 hW3'
      · have hp4 : p < 4 := by
          rcases Nat.lt_or_ge p 4 with q | q
          · exact q
          · exact absurd ((n4 (by omega)).mpr q) z
        refine ⟨_, _, hW.1 10 0 _ rfl, rfl, _, _, hW.1 13 0 _ rfl, vp_in_nI hp4 (by decide), _, _, hW.1 17 j _ (cA_17 hj), rfl, _, _, hW.1 18 j _ (cA_18 hj), vp_in_nI hp4 (by decide), _, _, hW.1 13 0 _ rfl, vp_in_nI hp4 (by decide), fun h2 e2 y ey => ?_⟩
        rw [nI_1] at ey
        rw [ey]
        refine ih (p + 1) h2 hp4 (by omega) ?_
        rw [nI_clamp (by omega), if_pos hp4] at e2
        rw [← uD_succ, e2]
        have := d_unit p ((uD (dLd D 0 c (D.2.2.2.1 0 c - 1)) (fun p => D.2.2.2.1 1 p - R.1 12 (4 * j + p)) p).2.2.2.1 1 p - R.1 12 (4 * j + p)) hW
        have ev : (uD (dLd D 0 c (D.2.2.2.1 0 c - 1)) (fun p => D.2.2.2.1 1 p - R.1 12 (4 * j + p)) p).2.2.2.1 1 p = D.2.2.2.1 1 p := by
          show (if p < p then _ else D.2.2.2.1 1 p) = _
          rw [if_neg (Nat.lt_irrefl p)]
        rw [ev] at this ⊢
        exact this
  exact ⟨5, loop 5 0 h1 (by decide) (by decide) (by rw [uD_zero]; exact hW1)⟩
theorem C_take {Q : hM → Prop} {j c nm : Nat} (hW : Wd h α (cA α R D S th)) (hj : j < R.2.2.2) (hc : c < 36) (ec : R.1 8 j = nI c) (hn : nm < 128) (en : R.1 10 j = nI nm) (hl : R.1 14 j = 0 ∨ R.1 14 j = 1) (hQ : ∀ h', Wd h' α (cA α R (takD R D j c nm) S th) → Q h') : P_Load_take Q h (α 10 0) (α 17 j) := by
  refine ⟨_, _, hW.1 10 0 _ rfl, rfl, _, _, hW.1 17 j _ (cA_17 hj), rfl, _, _, hW.1 12 0 _ rfl, ?_, _, _, hW.1 12 0 _ rfl, ?_, fun h1 e1 => ?_⟩
  · rw [ec]; exact vp_in_nI hc (by decide)
  · rw [ec]; exact vp_in_nI hc (by decide)
  rw [ec, nI_clamp (by omega)] at e1
  have hW1 : Wd h1 α (cA α R (dLd D 0 c (D.2.2.2.1 0 c + 1)) S th) := by rw [e1]; exact d_ofc c _ hW
  have loop : ∀ (n p : Nat) (h : hM), p ≤ 4 → 4 < p + n → Wd h α (cA α R (uD (dLd D 0 c (D.2.2.2.1 0 c + 1)) (fun p => D.2.2.2.1 1 p + R.1 12 (4 * j + p)) p) S th) → L_Load_take_15 Q n h (α 10 0) (α 17 j) (nI p) := by
    intro n
    induction n with
    | zero => intro p h h1 h2; omega
    | succ n ih =>
      intro p h hp hpn hW
      refine ⟨fun z => ?_, fun z => ?_⟩
      · have e4 : p = 4 := by have := (n4 (by omega)).mp z; omega
        subst e4
        refine ⟨_, _, hW.1 10 0 _ rfl, rfl, _, _, hW.1 17 j _ (cA_17 hj), rfl, _, hW.1 14 0 _ rfl, ?_⟩
        rw [en]
        refine C_put (hW.1 14 0 _ rfl) hn ?_
        have hW2 := d_names (putL (D.2.2.1 2) nm) (putH (D.2.2.1 3) nm) hW
        refine ⟨_, _, hW2.1 10 0 _ rfl, rfl, _, hW2.1 10 0 _ rfl, Nat.le_of_ble_eq_true rfl, fun h3 e3 => ?_⟩
        have hW3 := d_runs (D.2.2.2.2.1 0 + 1) hW2
        have hW3' := hW3.eqh (h' := h3) e3
        refine ⟨_, _, hW3'.1 17 j _ (cA_17 hj), rfl, hl, _, hW3'.1 10 0 _ rfl, Nat.le_of_ble_eq_true rfl, fun h4 e4 => ?_⟩
        refine hQ h4 ?_
        rw [e4]
        exact d_alone (R.1 14 j) hW3'
      · have hp4 : p < 4 := by
          rcases Nat.lt_or_ge p 4 with q | q
          · exact q
          · exact absurd ((n4 (by omega)).mpr q) z
        refine ⟨_, _, hW.1 10 0 _ rfl, rfl, _, _, hW.1 13 0 _ rfl, vp_in_nI hp4 (by decide), _, _, hW.1 17 j _ (cA_17 hj), rfl, _, _, hW.1 18 j _ (cA_18 hj), vp_in_nI hp4 (by decide), _, _, hW.1 13 0 _ rfl, vp_in_nI hp4 (by decide), fun h2 e2 y ey => ?_⟩
        rw [nI_1] at ey
        rw [ey]
        refine ih (p + 1) h2 hp4 (by omega) ?_
        rw [nI_clamp (by omega), if_pos hp4] at e2
        rw [← uD_succ, e2]
        have := d_unit p ((uD (dLd D 0 c (D.2.2.2.1 0 c + 1)) (fun p => D.2.2.2.1 1 p + R.1 12 (4 * j + p)) p).2.2.2.1 1 p + R.1 12 (4 * j + p)) hW
        have ev : (uD (dLd D 0 c (D.2.2.2.1 0 c + 1)) (fun p => D.2.2.2.1 1 p + R.1 12 (4 * j + p)) p).2.2.2.1 1 p = D.2.2.2.1 1 p := by
          show (if p < p then _ else D.2.2.2.1 1 p) = _
          rw [if_neg (Nat.lt_irrefl p)]
        rw [ev] at this ⊢
        exact this
  exact ⟨5, loop 5 0 h1 (by decide) (by decide) (by rw [uD_zero]; exact hW1)⟩
/-- no initiator below n runs v any more -/
def runsTo (S : mS) (n : Nat) (v : Int32) : mS := (fun k => if k = 1 then (fun i => if i < n ∧ S.1 1 i = v then -1 else S.1 1 i) else S.1 k, S.2)
theorem runsTo_zero (S : mS) (v : Int32) : runsTo S 0 v = S := by
  obtain ⟨s1, s2⟩ := S
  show (_, s2) = (s1, s2)
  congr 1
  funext k
  by_cases e : k = 1
  · rw [if_pos e, e]
    funext i
    rw [if_neg (by omega)]
  · rw [if_neg e]
theorem runsTo_at (S : mS) (n : Nat) (v : Int32) : (runsTo S n v).1 1 n = S.1 1 n := by
  show (if n < n ∧ S.1 1 n = v then _ else _) = _
  rw [if_neg (fun z => Nat.lt_irrefl n z.1)]
theorem runsTo_yes {S : mS} {n : Nat} {v w : Int32} (hw : w = if S.1 1 n = v then -1 else S.1 1 n) : s_up (runsTo S n v) 1 n w = runsTo S (n + 1) v := by
  obtain ⟨s1, s2⟩ := S
  show (_, s2) = (_, s2)
  congr 1
  funext k
  by_cases e : k = 1
  · rw [if_pos e, if_pos e]
    funext i
    show upd (fun i => if i < n ∧ s1 1 i = v then -1 else s1 1 i) n w i = _
    by_cases ei : i = n
    · rw [ei, pk_us, hw]
      show (if s1 1 n = v then _ else s1 1 n) = _
      by_cases q : s1 1 n = v
      · rw [if_pos q, if_pos ⟨Nat.lt_succ_self n, q⟩]
      · rw [if_neg q, if_neg (fun z => q z.2)]
    · rw [pk_un ei]
      by_cases q : i < n ∧ s1 1 i = v
      · rw [if_pos q, if_pos ⟨by omega, q.2⟩]
      · rw [if_neg q, if_neg (fun z => q ⟨by omega, z.2⟩)]
  · rw [if_neg e, if_neg e]
    show (if k = 1 then _ else s1 k) = s1 k
    rw [if_neg e]
theorem runsTo_no {S : mS} {n : Nat} {v : Int32} (hw : ¬ S.1 1 n = v) : runsTo S n v = runsTo S (n + 1) v := by
  obtain ⟨s1, s2⟩ := S
  show (_, s2) = (_, s2)
  congr 1
  funext k
  by_cases e : k = 1
  · rw [if_pos e, if_pos e]
    funext i
    show (if i < n ∧ s1 1 i = v then _ else _) = (if i < n + 1 ∧ s1 1 i = v then _ else _)
    by_cases ei : i = n
    · rw [ei, if_neg (fun z => hw z.2), if_neg (fun z => hw z.2)]
    · by_cases q : i < n ∧ s1 1 i = v
      · rw [if_pos q, if_pos ⟨by omega, q.2⟩]
      · rw [if_neg q, if_neg (fun z => q ⟨by omega, z.2⟩)]
  · rw [if_neg e, if_neg e]
theorem runsTo_12 {S : mS} {v : Int32} {n m : Nat} (hnm : n ≤ m) (h : ∀ i, n ≤ i → i < m → ¬ S.1 1 i = v) : runsTo S n v = runsTo S m v := by
  induction m with
  | zero => rw [Nat.le_zero.mp hnm]
  | succ m ih =>
    by_cases e : n = m + 1
    · rw [e]
    · rw [ih (by omega) (fun i h1 h2 => h i h1 (by omega)), runsTo_no (h m (by omega) (by omega))]
theorem runsTo_st (S : mS) (n j : Nat) (v w : Int32) : s_up (runsTo S n v) 11 j w = runsTo (s_up S 11 j w) n v := by
  obtain ⟨s1, s2⟩ := S
  show (_, s2) = (_, s2)
  congr 1
  funext k
  show (if k = 11 then upd (s1 11) j w else if k = 1 then _ else s1 k) = (if k = 1 then _ else if k = 11 then upd (s1 11) j w else s1 k)
  by_cases e : k = 1
  · rw [if_pos e, if_pos e, if_neg (by omega)]
    rfl
  · rw [if_neg e, if_neg e]
theorem p1 {a b : Int32} : a + 1 = b + 1 ↔ a = b := by
  constructor
  · intro e
    have : a + 1 - 1 = b + 1 - 1 := by rw [e]
    rwa [Int32.add_sub_cancel, Int32.add_sub_cancel] at this
  · intro e; rw [e]
theorem C_stop {Q : hM → Prop} {j c nm : Nat} (hW : Wd h α (cA α R D S th)) (hb : R.2.2.2 ≤ 100) (hb1 : R.2.2.1 ≤ 12) (hL : LOk α D 0 15 R.2.2.1) (hj : j < R.2.2.2) (h2 : R.1 11 j = 2) (hc : c < 36) (ec : R.1 8 j = nI c) (hn : nm < 128) (en : R.1 10 j = nI nm) (hQ : ∀ h', Wd h' α (cA α (s_up (runsTo R R.2.2.1 (nI j)) 11 j 3) (relD R (dWd D 0 (putL (D.2.2.1 0) (j + 1)) (putH (D.2.2.1 1) (j + 1))) j c nm) S th) → Q h') : P_Rows_stopJob Q h (α 0 0) (α 17 j) := by
  have loop : ∀ (n i : Nat) (h : hM), i ≤ R.2.2.1 → R.2.2.1 < i + n → Wd h α (cA α (runsTo R i (nI j)) D S th) → L_Rows_stopJob_2 Q n h (α 0 0) (α 17 j) (nI i) := by
    intro n
    induction n with
    | zero => intro i h h1 h2; omega
    | succ n ih =>
      intro i h hi hin hW
      have r17 := hW.1 17 j _ (cA_17 (R := runsTo R i (nI j)) hj)
      refine ⟨_, _, hW.1 0 0 _ rfl, rfl, _, hW.1 1 0 _ rfl, _, _, hW.1 1 0 _ rfl, rfl, fun z => ?_, fun z => ?_⟩
      · have : R.2.2.1 ≤ i := (nI_leI (by omega) (by omega)).mp z
        have e : i = R.2.2.1 := by omega
        rw [e] at hW r17
        refine ⟨_, r17, Nat.le_of_ble_eq_true rfl, fun h1 e1 => ?_⟩
        have hW1 : Wd h1 α (cA α (s_up (runsTo R R.2.2.1 (nI j)) 11 j 3) D S th) := by
          rw [e1]
          refine c_stage (R := runsTo R R.2.2.1 (nI j)) hj ?_ rfl (fun _ _ => rfl) (fun _ _ => rfl) (fun k hk => if_neg hk) (fun i hi => pk_un hi) hW
          show ([_, _, _, _, _, _, _, _, _, .long (if R.1 11 j = 0 then _ else _)] : List Value) = [_, _, _, _, _, _, _, _, .int (stg (s_up (runsTo R R.2.2.1 (nI j)) 11 j 3) j), .long (if upd (R.1 11) j 3 j = 0 then _ else _)]
          have es : stg (s_up (runsTo R R.2.2.1 (nI j)) 11 j 3) j = 3 := by
            show (if upd (R.1 11) j 3 j = 0 then _ else upd (R.1 11) j 3 j) = _
            rw [pk_us]
            exact if_neg (by decide)
          rw [es, pk_us, if_neg (by rw [h2]; decide), if_neg (by decide)]
          rfl
        refine ⟨_, _, hW1.1 0 0 _ rfl, rfl, _, _, hW1.1 17 j _ (cA_17 hj), rfl, _, hW1.1 11 0 _ rfl, ?_⟩
        refine C_put (hW1.1 11 0 _ rfl) (by omega) ?_
        have hW2 := d_ended (putL (D.2.2.1 0) (j + 1)) (putH (D.2.2.1 1) (j + 1)) hW1
        refine ⟨_, _, hW2.1 0 0 _ rfl, rfl, _, hW2.1 10 0 _ rfl, ?_⟩
        exact C_release hW2 hj hc ec hn en (fun h3 hW3 => hQ h3 hW3)
      · have hlt : i < R.2.2.1 := by
          rcases Nat.lt_or_ge i R.2.2.1 with q | q
          · exact q
          · exact absurd (nI_le q (by omega)) z
        refine ⟨_, _, hW.1 0 0 _ rfl, rfl, _, hW.1 1 0 _ rfl, C_getIni hW hL hlt ⟨fun z => (nomatch z), fun a e => ?_⟩⟩
        cases e
        have r := hW.1 15 i _ (cA_15 (R := runsTo R i (nI j)) hlt)
        refine ⟨⟨_, r⟩, _, _, r, rfl, _, _, r17, rfl, fun z y ey => ?_, fun z => ?_⟩
        · rw [nI_1] at ey
          rw [ey]
          refine ih (i + 1) h hlt (by omega) ?_
          rw [← runsTo_no]
          · exact hW
          · intro q
            apply z
            rw [runsTo_at, q, nI_1]
        · refine ⟨_, r, Nat.le_of_ble_eq_true rfl, fun h1 e1 y ey => ?_⟩
          rw [nI_1] at ey
          rw [ey]
          refine ih (i + 1) h1 hlt (by omega) ?_
          rw [runsTo_at, nI_succ j, p1] at z
          rw [← runsTo_yes (w := -1) (by rw [if_pos z]), e1]
          exact c_runs (R := runsTo R i (nI j)) hlt (-1) hW
  exact ⟨R.2.2.1 + 1, loop _ 0 h (Nat.zero_le _) (by omega) (by rw [runsTo_zero]; exact hW)⟩
theorem M_end_2 {Q : Int32 → hM → Prop} (hn : ¬ (1 ≤ x1.toInt ∧ x1.toInt ≤ S.2.2.2)) (hb : S.2.2.2 ≤ 100) (hW : Wd h α (cA α R D S th)) (hQ : ∀ h', Wd h' α (cA α R D S 0) → Q (-2) h') : P_Mod_end Q h (α 20 0) x1 :=
  M_begin hW (fun h1 hW1 => ⟨_, hW1.1 20 0 _ rfl, M_isJob_no hW1 hn hb ⟨fun z => absurd rfl z, fun _ => hQ _ hW1⟩⟩)
theorem n12 {p : Nat} (hp : p < 100) : (12 : Int32) ≤ nI p ↔ 12 ≤ p := by
  rw [show (12 : Int32) = nI 12 from rfl, nI_leI (by decide) (by omega)]
theorem M_end {Q : Int32 → hM → Prop} {j : Nat} (hj : j < S.2.2.2) (hb : S.2.2.2 ≤ 100) (hW : Wd h α (cA α R D S th)) (hQ5 : ¬ S.1 11 j = 2 → ∀ h', Wd h' α (cA α R D S 0) → Q (-5) h') (hQ : S.1 11 j = 2 → ∀ h', Wd h' α (cA α R D (runsTo (s_up S 11 j 3) 12 (nI j)) 0) → Q 1 h') : P_Mod_end Q h (α 20 0) (nI (j + 1)) := by
  refine M_begin hW (fun h1 hW1 => ⟨_, hW1.1 20 0 _ rfl, M_isJob_yes hW1 hj hb ⟨fun _ => ?_, fun z => absurd z (by decide)⟩⟩)
  have ej : nI (j + 1) - 1 = nI j := nI_pred j
  refine ⟨_, _, hW1.1 20 0 _ rfl, rfl, _, _, hW1.1 34 0 _ rfl, by rw [ej]; exact vp_in_nI (by show j < 100; omega) (by decide), fun z => ?_, fun z => hQ5 ?_ _ hW1⟩
  · rw [ej, nI_clamp (by omega)] at z
    refine ⟨_, _, hW1.1 20 0 _ rfl, rfl, _, _, hW1.1 34 0 _ rfl, by rw [ej]; exact vp_in_nI (by show j < 100; omega) (by decide), fun h2 e2 => ?_⟩
    rw [ej, nI_clamp (by omega)] at e2
    have hW2 : Wd h2 α (cA α R D (s_up S 11 j 3) 0) := by rw [e2]; exact hW1.mset 11 (by decide) rfl rfl rfl _ _
    have loop : ∀ (n i : Nat) (h : hM), i ≤ 12 → 12 < i + n → Wd h α (cA α R D (runsTo (s_up S 11 j 3) i (nI j)) 0) → L_Mod_end_42 Q n h (α 20 0) (nI (j + 1)) (nI i) := by
      intro n
      induction n with
      | zero => intro i h h1 h2; omega
      | succ n ih =>
        intro i h hi hin hW
        refine ⟨fun w => ?_, fun w => ?_⟩
        · have := (n12 (by omega)).mp w
          have e : i = 12 := by omega
          rw [e] at hW
          exact hQ z h hW
        · have hlt : i < 12 := by
            rcases Nat.lt_or_ge i 12 with q | q
            · exact q
            · exact absurd ((n12 (by omega)).mpr q) w
          have go : ∀ v : Int32, v = (if S.1 1 i = nI j then -1 else S.1 1 i) → P_Mod_end_75 Q (L_Mod_end_42 Q n) h (α 20 0) (nI (j + 1)) (nI i) v (nI i) (α 23 0) := by
            intro v hv
            refine ⟨_, _, hW.1 23 0 _ rfl, vp_in_nI hlt (by decide), fun h3 e3 y ey => ?_⟩
            rw [nI_1] at ey
            rw [ey]
            refine ih (i + 1) h3 hlt (by omega) ?_
            rw [← runsTo_yes (S := s_up S 11 j 3) (w := v) hv, e3, nI_clamp (by omega)]
            exact hW.mset 1 (by decide) rfl rfl rfl i v
          refine ⟨_, _, hW.1 20 0 _ rfl, rfl, _, _, hW.1 20 0 _ rfl, rfl, _, _, hW.1 23 0 _ rfl, vp_in_nI hlt (by decide), fun y => ?_, fun y => ?_⟩
          · rw [nI_clamp (by omega), ej, runsTo_at] at y
            refine ⟨_, _, hW.1 20 0 _ rfl, rfl, _, _, hW.1 23 0 _ rfl, vp_in_nI hlt (by decide), ?_⟩
            rw [nI_clamp (by omega), runsTo_at]
            exact go _ (if_neg y).symm
          · rw [nI_clamp (by omega), ej, runsTo_at] at y
            exact go _ (if_pos y).symm
    exact ⟨13, loop 13 0 h2 (by decide) (by decide) (by rw [runsTo_zero]; exact hW2)⟩
  · rw [ej, nI_clamp (by omega)] at z
    exact z
end EN
