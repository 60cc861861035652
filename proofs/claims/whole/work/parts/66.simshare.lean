section SW
variable {h : hM} {α : Nat → Nat → Nat} {S : mS} {D : dS} {th : Int32} {x1 : Int32} {x2 : Int64} {K : hM → Prop}
theorem sh_out (v : Int64) (hW : Wd h α (cA α S D S th)) : Wd (h_up h (α 44 0) (eJ 1 1 (vp_updL (S.2.1 4) 0 v))) α (cA α (s_upL S 4 0 v) D (s_upL S 4 0 v) th) := by
  have hx : mAr (s_upL S 4 0 v) 24 = some (eJ 1 1 (vp_updL (S.2.1 4) 0 v)) := rfl
  have hW1 := hW.set 44 0 (x := eJ 1 1 (S.2.1 4)) rfl (eJ 1 1 (vp_updL (S.2.1 4) 0 v))
  have hW2 : Wd (h_up h (α 44 0) (eJ 1 1 (vp_updL (S.2.1 4) 0 v))) α (cA α S D (s_upL S 4 0 v) th) := hW1.congr (cA_ar 24 (by decide) hx (fun k hk => mAr_l k hk) rfl)
  exact hW2.congr (fun k i => rfl)
theorem in_0 : vp_in (0 : Int32) 1 := by
  have := vp_in_nI (n := 0) (N := 1) (by decide) (by decide)
  exact this
theorem sim_share (hI : INV h α S D th) (hK : Go α K) : P_Law_share (fun kk h1 => P_Mod_share (fun bb h2 => P_Mod_thrown (fun tt h3 => tt = kk ∧ (kk = 0 → ∃ (n9 : Nat) (f9 : Nat → Int64), rd h3 (α 44 0) = some (eJ 1 n9 f9) ∧ vp_in 0 n9 ∧ f9 (0 : Int32).toNatClampNeg = bb) ∧ K h3) h2 (α 20 0)) h1 (α 20 0) x1 x2) h (α 0 0) x1 x2 (α 44 0) := by
  obtain ⟨hW, hA⟩ := hI
  have hw : I_wei S := hA.2.2.2.2.2.2.1
  refine ⟨⟨_, hW.1 0 0 _ rfl⟩, ?_⟩
  by_cases hn : (0 ≤ x1.toInt ∧ x1.toInt < 36) ∧ 0 ≤ x2.toInt
  · obtain ⟨c, hc, rfl⟩ := i_nat (n := 36) hn.1.1 hn.1.2
    obtain ⟨hL, eL⟩ := l_nat hn.2
    rw [eL]
    generalize x2.toInt.toNat = A at hL ⊢
    by_cases hs : 0 < sm (wgt S) 36
    · refine Or.inl (C_share hW hw hc hL hs ⟨_, _, hW.1 44 0 _ rfl, in_0, fun h2 e2 => ?_⟩)
      have hW2 := sh_out (lN (shR (wgt S) c A)) hW
      rw [show h_up h (α 44 0) (eJ 1 1 (vp_updL (S.2.1 4) 0 (lN (shR (wgt S) c A)))) = h2 from e2.symm] at hW2
      exact M_share hW2 hw hc hL (fun _ h3 hW3 => M_thrown hW3 ⟨rfl, fun _ => ⟨_, _, hW3.1 44 0 _ rfl, in_0, rfl⟩, hK _ _ _ _ _ ⟨hW3, hA⟩ rfl rfl⟩) (fun z => absurd z (Nat.ne_of_gt hs))
    · have hz : sm (wgt S) 36 = 0 := by omega
      refine Or.inr (C_isClass_yes hn.1.1 hn.1.2 ⟨by decide, ?_, _, hW.1 0 0 _ rfl, C_sum hW hw ⟨?_, ?_⟩⟩)
      · rw [show (0 : Int64) = lN 0 from rfl, pk_lLE (by decide) hL]; omega
      · rw [hz]; decide
      · exact M_share hW hw hc hL (fun z => absurd z hs) (fun _ h3 hW3 => M_thrown hW3 ⟨rfl, fun z => absurd z (by decide), hK _ _ _ _ _ ⟨hW3, hA⟩ rfl rfl⟩)
  · refine Or.inl (C_share_no hW hn ⟨_, _, hW.1 44 0 _ rfl, in_0, fun h2 e2 => ?_⟩)
    have hW2 := sh_out (-1) hW
    rw [show h_up h (α 44 0) (eJ 1 1 (vp_updL (S.2.1 4) 0 (-1))) = h2 from e2.symm] at hW2
    exact M_share_no hW2 hn (fun h3 hW3 => M_thrown hW3 ⟨rfl, fun _ => ⟨_, _, hW3.1 44 0 _ rfl, in_0, rfl⟩, hK _ _ _ _ _ ⟨hW3, hA⟩ rfl rfl⟩)
end SW
