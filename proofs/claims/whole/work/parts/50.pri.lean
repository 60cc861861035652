/-- a job's priority now -/
def pri (S : mS) (j : Nat) : Nat := if (S.2.1 3 0).toInt.toNat = 0 ∨ (S.1 17 0).toInt.toNat ≤ (S.1 9 j).toInt.toNat then (S.1 9 j).toInt.toNat else (S.1 9 j).toInt.toNat + min (((S.2.1 2 0).toInt.toNat - (S.2.1 0 j).toInt.toNat) / (S.2.1 3 0).toInt.toNat) ((S.1 17 0).toInt.toNat - (S.1 9 j).toInt.toNat)
theorem l_nat {x : Int64} (h0 : 0 ≤ x.toInt) : x.toInt.toNat < 2 ^ 63 ∧ x = lN x.toInt.toNat := by
  have hb : x.toInt < 2 ^ 63 := Int64.toInt_lt x
  refine ⟨by omega, ?_⟩
  apply Int64.toInt_inj.mp
  rw [pk_lT (by omega)]
  omega
theorem i_natE {x : Int32} (h0 : 0 ≤ x.toInt) : x.toInt.toNat < 2 ^ 31 ∧ x = nI x.toInt.toNat := by
  have hb : x.toInt < 2 ^ 31 := Int32.toInt_lt x
  refine ⟨by omega, ?_⟩
  apply Int32.toInt_inj.mp
  rw [nI_toInt (by omega)]
  omega
section PR
variable {h : hM} {α : Nat → Nat → Nat} {R S : mS} {D : dS} {th : Int32} {j : Nat}
theorem pri_le (hn : I_num S) (hj : I_job1 S j) : pri S j ≤ 15 := by
  obtain ⟨_, _, _, _, m0, m1⟩ := hn
  obtain ⟨_, ⟨o0, o1⟩, _⟩ := hj
  unfold pri
  split
  · omega
  · rename_i q
    have := Nat.min_le_right (((S.2.1 2 0).toInt.toNat - (S.2.1 0 j).toInt.toNat) / (S.2.1 3 0).toInt.toNat) ((S.1 17 0).toInt.toNat - (S.1 9 j).toInt.toNat)
    omega
theorem C_pri {Q : Int32 → hM → Prop} (hW : Wd h α (cA α R D S th)) (hn : I_num R) (hjn : j < R.2.2.2) (hj : I_job1 R j) (hQ : Q (nI (pri R j)) h) : P_Rows_priorityNow Q h (α 0 0) (α 17 j) := by
  obtain ⟨_, _, n0, p0, m0, m1⟩ := hn
  obtain ⟨_, ⟨o0, o1⟩, _, _, _, _, ⟨c0, c1⟩, _⟩ := hj
  obtain ⟨mb, em⟩ := i_natE m0
  obtain ⟨ob, eo⟩ := i_natE o0
  obtain ⟨nb, en⟩ := l_nat n0
  obtain ⟨pb, ep⟩ := l_nat p0
  obtain ⟨cb, ec⟩ := l_nat c0
  have r0 := hW.1 0 0 _ rfl
  have r17 := hW.1 17 j _ (cA_17 hjn)
  unfold pri at hQ
  generalize gm : (R.1 17 0).toInt.toNat = m at *
  generalize go : (R.1 9 j).toInt.toNat = o at *
  generalize gn : (R.2.1 2 0).toInt.toNat = n at *
  generalize gp : (R.2.1 3 0).toInt.toNat = p at *
  generalize gc : (R.2.1 0 j).toInt.toNat = c at *
  have hcn : c ≤ n := by omega
  have hm : m ≤ 15 := by omega
  have ho : o ≤ 15 := by omega
  refine ⟨_, _, r0, rfl, _, _, r17, rfl, fun x2 e2 => ⟨_, _, r0, rfl, fun z => ?_, fun z => ⟨fun y => ?_, fun y => ?_⟩⟩⟩
  · rw [ep, show (0 : Int64) = lN 0 from rfl, pk_lLE pb (by decide)] at z
    refine ⟨_, _, r17, rfl, ?_⟩
    rw [if_pos (Or.inl (by omega))] at hQ
    rw [eo]; exact hQ
  · rw [ep, show (0 : Int64) = lN 0 from rfl, pk_lLE pb (by decide)] at z
    have ex : x2.toInt = (m : Int) - o := by rw [e2, em, eo]; exact pk_sub_toInt (by omega) (by omega)
    have hmo : o < m := by
      rw [Int32.lt_iff_toInt_lt, ex, show (0 : Int32).toInt = 0 by decide] at y
      omega
    have ex2 : x2 = nI (m - o) := by rw [e2, em, eo, pk_sub (by omega)]
    rw [if_neg (by omega)] at hQ
    refine ⟨_, _, r0, rfl, _, _, r17, rfl, _, _, r0, rfl, ?_, fun x3 e3 => ⟨_, _, r17, rfl, ?_⟩⟩
    · rw [ep, show (0 : Int64) = lN 0 from rfl, pk_lEQ pb (by decide)]; omega
    · have e3' : x3 = lN ((n - c) / p) := by
        rw [e3, en, ec, ep, lN_sub hcn, pk_lDiv (by omega) (by omega) pb]
      have hd : (n - c) / p < 2 ^ 63 := Nat.lt_of_le_of_lt (Nat.div_le_self _ _) (by omega)
      rw [ex2, nI_l (by omega), e3', eo]
      have e : (if lN (m - o) < lN ((n - c) / p) then lN (m - o) else lN ((n - c) / p)) = lN (min ((n - c) / p) (m - o)) := by
        by_cases q : m - o < (n - c) / p
        · rw [if_pos ((pk_lLT (by omega) hd).mpr q), Nat.min_eq_right (by omega)]
        · rw [if_neg (fun w => q ((pk_lLT (by omega) hd).mp w)), Nat.min_eq_left (by omega)]
      rw [e, lN_i, nI_add]
      exact hQ
  · refine ⟨_, _, r17, rfl, ?_⟩
    have ex : x2.toInt = (m : Int) - o := by rw [e2, em, eo]; exact pk_sub_toInt (by omega) (by omega)
    rw [Int32.lt_iff_toInt_lt, ex, show (0 : Int32).toInt = 0 by decide] at y
    rw [if_pos (Or.inr (by omega))] at hQ
    rw [eo]; exact hQ
theorem M_pri {Q : Int64 → hM → Prop} (hW : Wd h α (cA α R D S th)) (hn : I_num S) (hjn : j < S.2.2.2) (hj : I_job1 S j) (hQ : Q (lN (pri S j)) h) : P_Mod_priority Q h (α 20 0) (nI j) := by
  obtain ⟨_, hb, n0, p0, m0, m1⟩ := hn
  obtain ⟨_, ⟨o0, o1⟩, _, _, _, _, ⟨c0, c1⟩, _⟩ := hj
  obtain ⟨mb, em⟩ := i_natE m0
  obtain ⟨ob, eo⟩ := i_natE o0
  obtain ⟨nb, en⟩ := l_nat n0
  obtain ⟨pb, ep⟩ := l_nat p0
  obtain ⟨cb, ec⟩ := l_nat c0
  have r0 := hW.1 20 0 _ rfl
  have r32 := hW.1 32 0 _ rfl
  have r40 := hW.1 40 0 _ rfl
  have hj100 : j < 100 := by omega
  unfold pri at hQ
  generalize gm : (S.1 17 0).toInt.toNat = m at *
  generalize go : (S.1 9 j).toInt.toNat = o at *
  generalize gn : (S.2.1 2 0).toInt.toNat = n at *
  generalize gp : (S.2.1 3 0).toInt.toNat = p at *
  generalize gc : (S.2.1 0 j).toInt.toNat = c at *
  have hcn : c ≤ n := by omega
  have hm : m ≤ 15 := by omega
  have ho : o ≤ 15 := by omega
  refine ⟨_, _, r0, rfl, _, _, r32, vp_in_nI hj100 (by decide), fun x2 e2 => ⟨_, _, r0, rfl, fun z => ?_, fun z => ?_⟩⟩
  · rw [ep, show (0 : Int64) = lN 0 from rfl, pk_lEQ pb (by decide)] at z
    have e2' : x2 = lN o := by
      rw [e2, nI_clamp (by omega)]
      show (S.1 9 j).toInt64 = _
      rw [eo, nI_l (by omega)]
    rw [e2']
    refine ⟨_, _, r0, rfl, _, _, r0, rfl, _, _, r40, vp_in_nI hj100 (by decide), _, _, r0, rfl, ?_, fun x4 e4 => ?_⟩
    · rw [ep, show (0 : Int64) = lN 0 from rfl, pk_lEQ pb (by decide)]; omega
    have e4' : x4 = lN ((n - c) / p) := by
      rw [e4, nI_clamp (by omega)]
      show (S.2.1 2 0 - S.2.1 0 j) / S.2.1 3 0 = _
      rw [en, ec, ep, lN_sub hcn, pk_lDiv (by omega) (by omega) pb]
    have hd : (n - c) / p < 2 ^ 63 := Nat.lt_of_le_of_lt (Nat.div_le_self _ _) (by omega)
    rw [e4']
    generalize (n - c) / p = d at *
    -- the end
    have last : ∀ t : Nat, t < 100 → (max t o = if p = 0 ∨ m ≤ o then o else o + min d (m - o)) → P_Mod_priority_81 Q h (lN o) (lN t) := by
      intro t ht e
      refine ⟨fun w => ?_, fun w => ?_⟩
      · rw [lN_le (by omega) (by omega)] at w
        rw [← e, Nat.max_eq_left w] at hQ
        exact hQ
      · rw [lN_le (by omega) (by omega)] at w
        rw [← e, Nat.max_eq_right (by omega)] at hQ
        exact hQ
    have mid : ∀ u : Nat, u ≤ 15 → (u = d ∨ (u = 15 ∧ 15 < d)) → P_Mod_priority_54 Q h (α 20 0) (lN o) (lN u) := by
      intro u hu hud
      refine ⟨_, _, r0, rfl, fun w => ?_, fun w => ⟨_, _, r0, rfl, ?_⟩⟩
      · rw [em, nI_l (by omega), lN_add, lN_le (by omega) (by omega)] at w
        rw [lN_add]
        refine last _ (by omega) ?_
        by_cases q : m ≤ o
        · rw [if_pos (Or.inr q)]; omega
        · rw [if_neg (by omega)]; omega
      · rw [em, nI_l (by omega), lN_add, lN_le (by omega) (by omega)] at w
        rw [em, nI_l (by omega)]
        refine last _ (by omega) ?_
        by_cases q : m ≤ o
        · rw [if_pos (Or.inr q)]; omega
        · rw [if_neg (by omega)]; omega
    refine ⟨fun w => mid d ?_ (Or.inl rfl), fun w => mid 15 (by omega) (Or.inr ⟨rfl, ?_⟩)⟩
    · rw [show (15 : Int64) = lN 15 from rfl, pk_lLE hd (by decide)] at w; exact w
    · rw [show (15 : Int64) = lN 15 from rfl, pk_lLE hd (by decide)] at w; omega
  · rw [ep, show (0 : Int64) = lN 0 from rfl, pk_lEQ pb (by decide)] at z
    rw [if_pos (Or.inl z)] at hQ
    have e2' : x2 = lN o := by
      rw [e2, nI_clamp (by omega)]
      show (S.1 9 j).toInt64 = _
      rw [eo, nI_l (by omega)]
    rw [e2']; exact hQ
theorem M_ahead {Q : Int32 → hM → Prop} {k : Nat} (hW : Wd h α (cA α R D S th)) (hn : I_num S) (hI : I_job S) (hj : j < S.2.2.2) (hk : k < S.2.2.2) (hQ : Q (if pri S k < pri S j ∨ (pri S k = pri S j ∧ j < k) then 1 else 0) h) : P_Mod_isAhead Q h (α 20 0) (nI j) (nI k) := by
  have pj := pri_le hn (hI j hj)
  have pk := pri_le hn (hI k hk)
  have hb := hn.2.1
  refine ⟨_, hW.1 20 0 _ rfl, M_pri hW hn hj (hI j hj) ⟨_, hW.1 20 0 _ rfl, M_pri hW hn hk (hI k hk) ⟨fun z => ?_, fun z => ⟨fun y => ?_, fun y => ⟨fun x => ?_, fun x => ?_⟩⟩⟩⟩⟩
  · rw [lN_lt (by omega) (by omega)] at z
    rw [if_pos (Or.inl z)] at hQ; exact hQ
  · rw [lN_lt (by omega) (by omega)] at z
    rw [lN_eq (by omega) (by omega)] at y
    rw [if_neg (by omega)] at hQ; exact hQ
  · rw [lN_lt (by omega) (by omega)] at z
    rw [lN_eq (by omega) (by omega)] at y
    rw [nI_leI (by omega) (by omega)] at x
    rw [if_neg (by omega)] at hQ; exact hQ
  · rw [lN_lt (by omega) (by omega)] at z
    rw [lN_eq (by omega) (by omega)] at y
    rw [nI_leI (by omega) (by omega)] at x
    rw [if_pos (by omega)] at hQ; exact hQ
end PR
