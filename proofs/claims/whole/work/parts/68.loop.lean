/-- between two calls of the law -/
def lwJ (x1 x2 x3 : Nat) (h : hM) : Prop := ∃ (α : Nat → Nat → Nat) (S : mS) (D : dS) (th : Int32), INV h α S D th ∧ α 0 0 = x1 ∧ (α 20 0, α 44 0) = (x2, x3)
theorem lw_len {L : Nat} (hL : L ≤ 3072) : (Int32.ofNat L - 6).toInt = (L : Int) - 6 := by
  have h1 : (Int32.ofNat L).toInt = (L : Int) := nI_toInt (n := L) (by omega)
  rw [Int32.toInt_sub, h1, show (6 : Int32).toInt = 6 by decide]
  exact Int.bmod_eq_of_le (by omega) (by omega)
theorem lw_31 (w : Int32) : 0 ≤ (w &&& 31).toInt ∧ (w &&& 31).toInt < 32 := by
  have h : (w &&& 31).toBitVec.toNat ≤ 31 := by
    show (w.toBitVec &&& (31 : BitVec 32)).toNat ≤ 31
    rw [BitVec.toNat_and]
    exact Nat.and_le_right
  have e : (w &&& 31).toInt = ((w &&& 31).toBitVec.toNat : Int) := BitVec.toInt_eq_toNat_of_lt (x := (w &&& 31).toBitVec) (by omega)
  rw [e]
  omega
section LWL
variable {p : Program} {l : Launch} {e : Env} {s : State} {m : MethodId} {below : List Frame} {meth : Method} {c : Code} {κ : hX} {b L : Nat} {xs : Nat → Int32}
set_option maxHeartbeats 4000000 in
theorem S_law_loop (Z : lwC κ p s m meth c b L xs) (hz : h_z κ = s.heap.size) (hfl : l.flags = Jvm.pinnedFlags ++ [Jvm.noTraceFlag]) (hL : L ≤ 3072) : ∀ (n k : Nat), 512 < k + n → k ≤ 512 → ∀ (x1 x2 x3 : Nat) (h : hM) (H : Heap) (locs : List Loc) (ls : Array Slot), lwJ x1 x2 x3 h → hp κ w_cl h H → va_S (h_A κ) s.heap H locs → lv_has ls 8 [(0, .ref b), (1, .ref x1), (2, .ref x2), (3, .ref x3), (4, .int (nI (6 * k)))] → W p l e room_1 s m #[Value.ref b] below meth c H locs (34 + 4 * k) (11809 + 176 * k) (lw_Z below #[Value.ref b] s) (F0 m 23 ls []) := by
  intro n
  induction n with
  | zero => intro k h1 h2; omega
  | succ n ih =>
    intro k hn hk x1 x2 x3 h H locs ls hJ hh hS hl
    obtain ⟨C0, hX, hbl, hbz, hzt⟩ := id Z
    obtain ⟨hx, hb, hml, hown, hts, hKc, hF0, hZ0, hrt, hlocks⟩ := id C0
    have hbA : ¬ h_A κ b := Nat.not_le.mpr hbz
    refine lv_iload hx hb d_Law_23 (lv_at hl 4 rfl) ?_
    refine lv_aload_n hx hb d_Law_25 rfl (lv_at hl 0 rfl) ?_
    refine va_slen hx hb hX hbl hbA hS d_Law_26 ?_
    refine lv_bipush (v := 6) hx hb d_Law_27 (by decide) ?_
    refine lv_isub hx hb d_Law_29 ?_
    refine lv_icmp_gt (tgt := 1037) hx hb d_Law_30 (by decide) (fun cc => ?_) (fun cc => ?_)
    · refine lv_iconst (v := 1) hx hb d_Law_1037 (by decide) ?_
      refine va_forget (fun q hq => ?_) ?_
      · have : h_z κ ≤ q.base := hS.2.2 q hq
        omega
      · refine W.widen (k := 601024) (n := 7293034) (by omega) (by omega) ?_
        exact lw_ret hx hb hrt hlocks d_Law_1038
    · have h6 : 6 * k + 6 ≤ L := by
        rw [Int32.lt_iff_toInt_lt, lw_len hL, nI_toInt (by omega)] at cc
        omega
      refine lv_aload_n hx hb d_Law_33 rfl (lv_at hl 0 rfl) ?_
      refine lv_iload hx hb d_Law_34 (lv_at hl 4 rfl) ?_
      refine va_sld hx hb hX hbl hbA hS (vp_in_nI (by omega) (by omega)) d_Law_36 ?_
      refine lv_bipush (v := 31) hx hb d_Law_37 (by decide) ?_
      refine lv_iand hx hb d_Law_39 ?_
      obtain ⟨hw0, hw1⟩ := lw_31 (xs (nI (6 * k)).toNatClampNeg)
      obtain ⟨o, ho, eo⟩ := i_nat (n := 32) hw0 hw1
      rw [eo]
      obtain ⟨α, S, D, th, hI, e1, e2⟩ := hJ
      obtain ⟨e2, e3⟩ := Prod.mk.inj e2
      subst e1 e2 e3
      have hG : Go α (lwJ (α 0 0) (α 20 0) (α 44 0)) := fun h' α' S' D' th' hI' e1 e2 => ⟨α', S', D', th', hI', e1, e2⟩
      have hr1 := hI.1.1 0 0 _ rfl
      have hK : lwK κ p l e s m below meth c b (α 0 0) (α 20 0) (α 44 0) (nI (6 * k)) (34 + 4 * k) (11809 + 176 * k) (lw_Z below #[Value.ref b] s) (lwJ (α 0 0) (α 20 0) (α 44 0)) := by
        intro h H locs ls hJ hh hS hl
        refine lv_iinc (v := nI (6 * (k + 1))) (k := 4) hx hb d_Law_1031 hl rfl (nI_add (6 * k) 6) (by decide) rfl (fun ls hl => ?_)
        refine lv_goto (tgt := 23) hx hb d_Law_1034 (by decide) ?_
        have g := ih (k + 1) (by omega) (by omega) _ _ _ h H locs ls hJ hh hS (lv_sub hl [1, 2, 3, 4, 0] rfl)
        rw [show 34 + 4 * (k + 1) = 34 + 4 * k + 4 by omega, show 11809 + 176 * (k + 1) = 11809 + 176 * k + 176 by omega] at g
        exact g
      have hi : ∀ j : Nat, j < 6 → vp_in (nI (6 * k) + nI j) L := fun j hj => by
        rw [nI_add]
        exact vp_in_nI (by omega) (by omega)
      have I : lwI (nI (6 * k)) L xs _ _ _ _ _ := ⟨⟨hi 1 (by decide), rfl⟩, ⟨hi 2 (by decide), rfl⟩, ⟨hi 3 (by decide), rfl⟩, ⟨hi 4 (by decide), rfl⟩, ⟨hi 5 (by decide), rfl⟩⟩
      by_cases ho20 : o < 20
      · have hcs : o = 0 ∨ o = 1 ∨ o = 2 ∨ o = 3 ∨ o = 4 ∨ o = 5 ∨ o = 6 ∨ o = 7 ∨ o = 8 ∨ o = 9 ∨ o = 10 ∨ o = 11 ∨ o = 12 ∨ o = 13 ∨ o = 14 ∨ o = 15 ∨ o = 16 ∨ o = 17 ∨ o = 18 ∨ o = 19 := by omega
        clear ho eo hw0 hw1 ih ho20 hi
        rcases hcs with rfl | rfl | rfl | rfl | rfl | rfl | rfl | rfl | rfl | rfl | rfl | rfl | rfl | rfl | rfl | rfl | rfl | rfl | rfl | rfl
        · refine lv_tableIn (tgt := 136) (off := 96) hx hb d_Law_40 (by decide) (by decide) rfl (by decide) ?_
          exact S_law_0 Z I hfl (by omega) (by omega) hK h H locs ls hr1 (sim_initiator hI hG) hh hS hl
        · refine lv_tableIn (tgt := 149) (off := 109) hx hb d_Law_40 (by decide) (by decide) rfl (by decide) ?_
          exact S_law_1 Z I hfl (by omega) (by omega) hK h H locs ls hr1 (sim_cls hI hG) hh hS hl
        · refine lv_tableIn (tgt := 198) (off := 158) hx hb d_Law_40 (by decide) (by decide) rfl (by decide) ?_
          exact S_law_2 Z I hfl (by omega) (by omega) hK h H locs ls hr1 (sim_limit hI hG) hh hS hl
        · refine lv_tableIn (tgt := 235) (off := 195) hx hb d_Law_40 (by decide) (by decide) rfl (by decide) ?_
          exact S_law_3 Z I hfl (by omega) (by omega) hK h H locs ls hr1 (sim_window hI hG) hh hS hl
        · refine lv_tableIn (tgt := 284) (off := 244) hx hb d_Law_40 (by decide) (by decide) rfl (by decide) ?_
          exact S_law_4 Z I hfl (by omega) (by omega) hK h H locs ls hr1 (sim_job hI hG) hh hS hl
        · refine lv_tableIn (tgt := 377) (off := 337) hx hb d_Law_40 (by decide) (by decide) rfl (by decide) ?_
          exact S_law_5 Z I hfl (by omega) (by omega) hK h H locs ls hr1 (sim_needs hI hG) hh hS hl
        · refine lv_tableIn (tgt := 414) (off := 374) hx hb d_Law_40 (by decide) (by decide) rfl (by decide) ?_
          exact S_law_6 Z I hfl (by omega) (by omega) hK h H locs ls hr1 (sim_units hI hG) hh hS hl
        · refine lv_tableIn (tgt := 451) (off := 411) hx hb d_Law_40 (by decide) (by decide) rfl (by decide) ?_
          exact S_law_7 Z I hfl (by omega) (by omega) hK h H locs ls hr1 (sim_uses hI hG) hh hS hl
        · refine lv_tableIn (tgt := 500) (off := 460) hx hb d_Law_40 (by decide) (by decide) rfl (by decide) ?_
          exact S_law_8 Z I hfl (by omega) (by omega) hK h H locs ls hr1 (sim_alone hI hG) hh hS hl
        · refine lv_tableIn (tgt := 525) (off := 485) hx hb d_Law_40 (by decide) (by decide) rfl (by decide) ?_
          exact S_law_9 Z I hfl (by omega) (by omega) hK h H locs ls hr1 ⟨fun _ => sim_hold (Or.inl rfl) hI hG, fun _ => sim_hold (Or.inr rfl) hI hG⟩ hh hS hl
        · refine lv_tableIn (tgt := 578) (off := 538) hx hb d_Law_40 (by decide) (by decide) rfl (by decide) ?_
          exact S_law_10 Z I hfl (by omega) (by omega) hK h H locs ls hr1 (sim_next hI hG) hh hS hl
        · refine lv_tableIn (tgt := 647) (off := 607) hx hb d_Law_40 (by decide) (by decide) rfl (by decide) ?_
          exact S_law_11 Z I hfl (by omega) (by omega) hK h H locs ls hr1 (sim_end hI hG) hh hS hl
        · refine lv_tableIn (tgt := 672) (off := 632) hx hb d_Law_40 (by decide) (by decide) rfl (by decide) ?_
          exact S_law_12 Z I hfl (by omega) (by omega) hK h H locs ls hr1 (sim_age hI hG) hh hS hl
        · refine lv_tableIn (tgt := 741) (off := 701) hx hb d_Law_40 (by decide) (by decide) rfl (by decide) ?_
          exact S_law_13 Z I hfl (by omega) (by omega) hK h H locs ls hr1 ⟨fun _ => sim_drain (Or.inl rfl) hI hG, fun _ => sim_drain (Or.inr rfl) hI hG⟩ hh hS hl
        · refine lv_tableIn (tgt := 794) (off := 754) hx hb d_Law_40 (by decide) (by decide) rfl (by decide) ?_
          exact S_law_14 Z I hfl (by omega) (by omega) hK h H locs ls hr1 (sim_weight hI hG) hh hS hl
        · refine lv_tableIn (tgt := 831) (off := 791) hx hb d_Law_40 (by decide) (by decide) rfl (by decide) ?_
          exact S_law_15 Z I hfl (by omega) (by omega) hK h H locs ls hr1 (sim_share hI hG) hh hS hl
        · refine lv_tableIn (tgt := 930) (off := 890) hx hb d_Law_40 (by decide) (by decide) rfl (by decide) ?_
          exact S_law_16 Z I hfl (by omega) (by omega) hK h H locs ls hr1 (sim_order hI hG) hh hS hl
        · refine lv_tableIn (tgt := 955) (off := 915) hx hb d_Law_40 (by decide) (by decide) rfl (by decide) ?_
          exact S_law_17 Z I hfl (by omega) (by omega) hK h H locs ls hr1 (sim_waited hI hG) hh hS hl
        · refine lv_tableIn (tgt := 981) (off := 941) hx hb d_Law_40 (by decide) (by decide) rfl (by decide) ?_
          exact S_law_18 Z I hfl (by omega) (by omega) hK h H locs ls hr1 (sim_state hI hG) hh hS hl
        · refine lv_tableIn (tgt := 1006) (off := 966) hx hb d_Law_40 (by decide) (by decide) rfl (by decide) ?_
          exact S_law_19 Z I hfl (by omega) (by omega) hK h H locs ls hr1 (sim_count hI hG) hh hS hl
      · refine lv_tableOut (tgt := 1031) hx hb d_Law_40 (Or.inr ?_) (by decide) ?_
        · rw [nI_toInt (by omega)]; omega
        · exact W.widen (Nat.le_add_right _ 4) (Nat.le_add_right _ 176) (hK h H locs ls ⟨α, S, D, th, hI, rfl, rfl⟩ hh hS hl)
end LWL
