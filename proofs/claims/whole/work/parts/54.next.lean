def staS (S : mS) (i b : Nat) : mS := s_upL (s_up (s_up S 1 i (nI b)) 11 b 2) 1 b (S.2.1 2 0)
section NX
variable {h : hM} {α : Nat → Nat → Nat} {R S : mS} {D : dS} {th : Int32} {x1 : Int32} {x2 : Int64} {K : hM → Prop}
theorem C_start {Q : hM → Prop} {i b c nm : Nat} (hW : Wd h α (cA α R D S th)) (hi : i < R.2.2.1) (hb : b < R.2.2.2) (h0 : R.1 11 b = 0) (hc : c < 36) (ec : R.1 8 b = nI c) (hn : nm < 128) (en : R.1 10 b = nI nm) (hl : R.1 14 b = 0 ∨ R.1 14 b = 1) (hQ : ∀ h', Wd h' α (cA α (staS R i b) (takD R D b c nm) S th) → Q h') : P_Rows_startJob Q h (α 0 0) (α 15 i) (α 17 b) := by
  refine ⟨_, _, hW.1 17 b _ (cA_17 hb), rfl, _, hW.1 15 i _ (cA_15 hi), Nat.le_of_ble_eq_true rfl, fun h1 e1 => ?_⟩
  have hW1 : Wd h1 α (cA α (s_up R 1 i (nI b)) D S th) := by
    rw [e1]
    have := c_runs hi (nI b) hW
    rw [nI_1] at this
    exact this
  refine ⟨_, hW1.1 17 b _ (cA_17 hb), Nat.le_of_ble_eq_true rfl, fun h2 e2 => ?_⟩
  have hW2 : Wd h2 α (cA α (s_upL (s_up (s_up R 1 i (nI b)) 11 b 2) 1 b (R.2.1 0 b)) D S th) := by
    rw [e2]
    refine c_stage (R := s_up R 1 i (nI b)) hb ?_ rfl (fun k hk => if_neg hk) (fun i hi => pk_uLn hi) (fun k hk => if_neg hk) (fun i hi => pk_un hi) hW1
    show ([_, _, _, _, _, _, _, _, _, .long (if R.1 11 b = 0 then R.2.1 0 b else _)] : List Value) = [_, _, _, _, _, _, _, _, .int (if upd (R.1 11) b 2 b = 0 then _ else upd (R.1 11) b 2 b), .long (if upd (R.1 11) b 2 b = 0 then _ else vp_updL (R.2.1 1) b (R.2.1 0 b) b)]
    rw [pk_us, pk_uLs, if_pos h0, if_neg (by decide), if_neg (by decide)]
  refine ⟨_, _, hW2.1 0 0 _ rfl, rfl, _, hW2.1 17 b _ (cA_17 hb), Nat.le_of_ble_eq_true rfl, fun h3 e3 => ?_⟩
  have hW3 : Wd h3 α (cA α (staS R i b) D S th) := by
    rw [e3]
    refine c_stage (R := s_upL (s_up (s_up R 1 i (nI b)) 11 b 2) 1 b (R.2.1 0 b)) (R' := staS R i b) hb ?_ rfl (fun k hk => ?_) (fun i hi => ?_) (fun k hk => rfl) (fun i hi => rfl) hW2
    · show ([_, _, _, _, _, _, _, _, .int (stg (s_upL (s_up (s_up R 1 i (nI b)) 11 b 2) 1 b (R.2.1 0 b)) b), .long (R.2.1 2 0)] : List Value) = [_, _, _, _, _, _, _, _, .int (stg (staS R i b) b), .long (if upd (R.1 11) b 2 b = 0 then _ else vp_updL (R.2.1 1) b (R.2.1 2 0) b)]
      rw [pk_us, pk_uLs, if_neg (by decide)]
      rfl
    · show (if k = 1 then _ else R.2.1 k) = (if k = 1 then _ else R.2.1 k)
      rw [if_neg hk, if_neg hk]
    · show vp_updL (R.2.1 1) b _ i = vp_updL (R.2.1 1) b _ i
      rw [pk_uLn hi, pk_uLn hi]
  refine ⟨_, _, hW3.1 0 0 _ rfl, rfl, _, hW3.1 10 0 _ rfl, ?_⟩
  exact C_take hW3 hb hc ec hn en hl (fun h4 hW4 => hQ h4 hW4)
theorem I_now {t : Int64} (ht : (S.2.1 2 0).toInt ≤ t.toInt) (hA : I_all α S D) : I_all α (s_upL S 2 0 t) D := by
  obtain ⟨i1, i2, i3⟩ := hA
  have e : (s_upL S 2 0 t).2.1 2 0 = t := (show vp_updL (S.2.1 2) 0 t 0 = t from pk_uLs)
  refine ⟨⟨i1.1, i1.2.1, ?_, i1.2.2.2⟩, fun j hj => ?_, i3⟩
  · rw [e]; have := i1.2.2.1; omega
  · obtain ⟨a1, a2, a3, a4, a5, a6, a7, a8⟩ := i2 j hj
    refine ⟨a1, a2, a3, a4, a5, a6, ⟨a7.1, ?_⟩, a8⟩
    rw [e]
    exact Int.le_trans a7.2 ht
theorem I_sta {i b c nm : Nat} (hA : I_all α S D) (hi : i < S.2.2.1) (hb : b < S.2.2.2) (hm : may S b) (hc : c < 36) (ec : S.1 8 b = nI c) (hnm : nm < 100) (en : S.1 10 b = nI nm) : I_all α (staS S i b) (takD S D b c nm) := by
  obtain ⟨i1, i2, i3, i4, i5, i6, i7, i8, i9, i10, i11⟩ := hA
  obtain ⟨m1, m2, m3, m4, m5, m6, m7, m8⟩ := hm
  obtain ⟨a1, a2, a3, a4, a5, a6, a7, a8⟩ := i2 b hb
  have hu : ∀ k, k ≠ b → upd (S.1 11) b 2 k = S.1 11 k := fun k hk => pk_un hk
  have h2' : upd (S.1 11) b 2 b = 2 := pk_us
  have run : ∀ k, upd (S.1 11) b 2 k = 2 → k = b ∨ (k ≠ b ∧ S.1 11 k = 2) := fun k hk => by
    by_cases e : k = b
    · exact Or.inl e
    · rw [hu k e] at hk; exact Or.inr ⟨e, hk⟩
  have nb : ∀ k, S.1 11 k = 2 → k ≠ b := fun k hk e => by rw [e, m1] at hk; exact absurd hk (by decide)
  refine ⟨i1, fun k hk => ?_, fun k hk hk2 => ?_, i4, i5, fun k hk hk2 => ?_, i7, i8, ?_, ?_, ?_⟩
  · obtain ⟨b1, b2, b3, b4, b5, b6, b7, b8⟩ := i2 k hk
    refine ⟨b1, b2, b3, ?_, ?_, b6, b7, b8⟩
    · show upd (S.1 11) b 2 k = 0 ∨ upd (S.1 11) b 2 k = 2 ∨ upd (S.1 11) b 2 k = 3
      exact upd_all (P := fun v => v = 0 ∨ v = 2 ∨ v = 3) (Or.inr (Or.inl rfl)) b4
    · show S.1 13 k = 0 ∨ (S.1 13 k = 1 ∧ upd (S.1 11) b 2 k = 0)
      by_cases e : k = b
      · rw [e]; exact Or.inl m2
      · rw [hu k e]; exact b5
  · obtain ⟨b1, b2⟩ := i3 k hk hk2
    have : b < k := Nat.lt_of_lt_of_le hb hk
    exact ⟨(hu k (by omega)).trans b1, b2⟩
  · obtain ⟨b1, b2⟩ := i6 k hk hk2
    have : i < k := Nat.lt_of_lt_of_le hi hk
    refine ⟨?_, b2⟩
    show upd (S.1 1) i (nI b) k = -1
    rw [pk_un (by omega)]
    exact b1
  · obtain ⟨b1, b2, b3, b4, b5⟩ := i9
    refine ⟨fun d hd => ?_, fun p hp => ?_, ?_, ?_, fun n hn => ?_⟩
    · show upd (D.2.2.2.1 0) c (D.2.2.2.1 0 c + 1) d = nI (sm (fun k => if upd (S.1 11) b 2 k = 2 ∧ S.1 8 k = nI d then 1 else 0) S.2.2.2)
      by_cases e : d = c
      · rw [e, pk_us, b1 c hc, nI_1]
        rw [sm_one (f := fun k => if upd (S.1 11) b 2 k = 2 ∧ S.1 8 k = nI c then 1 else 0) (g := fun k => if S.1 11 k = 2 ∧ S.1 8 k = nI c then 1 else 0) (d := 1) hb (fun k _ hne => by rw [hu k hne]) (by rw [if_pos ⟨h2', ec⟩, if_neg (by rw [m1]; exact fun y => absurd y.1 (by decide))])]
      · rw [pk_un e, b1 d hd]
        congr 1
        refine sm_congr (fun k hk => ?_)
        by_cases q : k = b
        · have hd' : ¬ S.1 8 b = nI d := by rw [ec, nI_eq (by omega) (by omega)]; omega
          rw [q, if_neg (fun y => hd' y.2), if_neg (fun y => hd' y.2)]
        · rw [hu k q]
    · show (if p < 4 then D.2.2.2.1 1 p + S.1 12 (4 * b + p) else _) = nI (sm (fun k => if upd (S.1 11) b 2 k = 2 then (S.1 12 (4 * k + p)).toNatClampNeg else 0) S.2.2.2)
      rw [if_pos hp, b2 p hp]
      rw [sm_one (f := fun k => if upd (S.1 11) b 2 k = 2 then (S.1 12 (4 * k + p)).toNatClampNeg else 0) (g := fun k => if S.1 11 k = 2 then (S.1 12 (4 * k + p)).toNatClampNeg else 0) (d := (S.1 12 (4 * b + p)).toNatClampNeg) hb (fun k _ hne => by rw [hu k hne]) (by rw [if_pos h2', if_neg (by rw [m1]; decide), Nat.zero_add])]
      rw [← nI_add, i_clampN (a8 p hp).1]
    · show D.2.2.2.2.1 0 + 1 = nI (sm (fun k => if upd (S.1 11) b 2 k = 2 then 1 else 0) S.2.2.2)
      rw [b3, nI_1, sm_one (f := fun k => if upd (S.1 11) b 2 k = 2 then 1 else 0) (g := fun k => if S.1 11 k = 2 then 1 else 0) (d := 1) hb (fun k _ hne => by rw [hu k hne]) (by rw [if_pos h2', if_neg (by rw [m1]; decide)])]
    · show (S.1 14 b = 1 ∧ ∃ k, k < S.2.2.2 ∧ upd (S.1 11) b 2 k = 2 ∧ S.1 14 k = 1) ∨ (S.1 14 b = 0 ∧ ∀ k, k < S.2.2.2 → upd (S.1 11) b 2 k = 2 → S.1 14 k = 0)
      rcases a6 with q | q
      · refine Or.inr ⟨q, fun k hk hk2 => ?_⟩
        rcases run k hk2 with e | ⟨_, e⟩
        · rw [e]; exact q
        · exact (m4 k hk e).2
      · exact Or.inl ⟨q, b, hb, h2', q⟩
    · show nsb (putL (D.2.2.1 2) nm) (putH (D.2.2.1 3) nm) n = true ↔ ∃ k, k < S.2.2.2 ∧ upd (S.1 11) b 2 k = 2 ∧ S.1 10 k = nI n
      rw [nsb_put (by omega) (by omega), b5 n hn]
      constructor
      · rintro (⟨k, c1, c2, c3⟩ | e)
        · exact ⟨k, c1, by rw [hu k (nb k c2)]; exact c2, c3⟩
        · exact ⟨b, hb, h2', by rw [en, e]⟩
      · rintro ⟨k, c1, c2, c3⟩
        rcases run k c2 with e | ⟨_, e⟩
        · rw [e, en, nI_eq (by omega) (by omega)] at c3
          exact Or.inr c3.symm
        · exact Or.inl ⟨k, c1, e, c3⟩
  · obtain ⟨b1, b2⟩ := i10
    refine ⟨fun n hn => ?_, b2⟩
    show nsb (D.2.2.1 0) (D.2.2.1 1) n = true ↔ ∃ k, k < S.2.2.2 ∧ n = k + 1 ∧ upd (S.1 11) b 2 k = 3
    rw [b1 n hn]
    constructor
    · rintro ⟨k, c1, c2, c3⟩
      have : k ≠ b := fun e => by rw [e, m1] at c3; exact absurd c3 (by decide)
      exact ⟨k, c1, c2, by rw [hu k this]; exact c3⟩
    · rintro ⟨k, c1, c2, c3⟩
      have : k ≠ b := fun e => by rw [e, h2'] at c3; exact absurd c3 (by decide)
      rw [hu k this] at c3
      exact ⟨k, c1, c2, c3⟩
  · obtain ⟨b1, b2, b3⟩ := i11
    refine ⟨fun j k hj hk g1 g2 g3 => ?_, fun j k hj hk g1 g2 g3 => ?_, fun j k hj hk g1 g2 => ?_⟩
    · have g3' : S.1 10 j = S.1 10 k := g3
      rcases run j g1 with ej | ⟨nj, ej⟩ <;> rcases run k g2 with ek | ⟨nk, ek⟩
      · rw [ej, ek]
      · rw [ej] at g3'; exact absurd g3'.symm (m4 k hk ek).1
      · rw [ek] at g3'; exact absurd g3' (m4 j hj ej).1
      · exact b1 j k hj hk ej ek g3'
    · have g2' : S.1 14 j = 1 := g2
      rcases run j g1 with ej | ⟨nj, ej⟩
      · rcases run k g3 with ek | ⟨nk, ek⟩
        · rw [ej, ek]
        · rw [ej] at g2'
          exact absurd ⟨by rw [g2']; decide, k, hk, ek⟩ m8
      · rw [(m4 j hj ej).2] at g2'
        exact absurd g2' (by decide)
    · show upd (S.1 11) b 2 k = 3
      have g1' : ¬ upd (S.1 11) b 2 j = 0 := g1
      have g2' : S.1 15 (100 * j + k) = 1 := g2
      have hk3 : S.1 11 k = 3 := by
        by_cases e : j = b
        · rw [e] at g2'
          exact Classical.not_not.mp (fun w => m5 ⟨k, hk, by rw [g2']; decide, w⟩)
        · rw [hu j e] at g1'
          exact b3 j k hj hk g1' g2'
      have : k ≠ b := fun e => by rw [e, m1] at hk3; exact absurd hk3 (by decide)
      rw [hu k this]; exact hk3
/-- the reference's next, up to the search -/
theorem M_next {Q : Int32 → hM → Prop} {i : Nat} (hi : i < S.2.2.1) (hb1 : S.2.2.1 ≤ 12) (hW : Wd h α (cA α R D S th)) (hQ4 : ¬ S.2.1 2 0 ≤ x2 → ∀ h', Wd h' α (cA α R D S 0) → Q (-4) h') (hQ5 : S.2.1 2 0 ≤ x2 → ¬ (S.1 2 i = 0 ∧ S.1 1 i = -1) → ∀ h', Wd h' α (cA α R D S 0) → Q (-5) h') (hQ : S.2.1 2 0 ≤ x2 → S.1 2 i = 0 → S.1 1 i = -1 → ∀ h', Wd h' α (cA α R D (s_upL S 2 0 x2) 0) → ∃ n0 : Nat, L_Mod_next_68 Q n0 h' (α 20 0) (nI i) (-1 : Int32) (0 : Int32)) : P_Mod_next Q h (α 20 0) (nI (i + 1)) x2 := by
  refine M_begin hW (fun h1 hW1 => ⟨_, hW1.1 20 0 _ rfl, M_isIni_yes hW1 hi hb1 ⟨fun _ => ?_, fun z => absurd z (by decide)⟩⟩)
  refine ⟨_, _, hW1.1 20 0 _ rfl, rfl, fun z x4 e4 => ?_, fun z => hQ4 z _ hW1⟩
  rw [nI_pred] at e4
  rw [e4]
  have ii := vp_in_nI (n := i) (N := 12) (by omega) (by decide)
  refine ⟨_, _, hW1.1 20 0 _ rfl, rfl, _, _, hW1.1 24 0 _ rfl, ii, ?_⟩
  rw [nI_clamp (by omega)]
  refine ⟨fun y => hQ5 z (fun q => y q.1) _ hW1, fun y => ⟨_, _, hW1.1 20 0 _ rfl, rfl, _, _, hW1.1 23 0 _ rfl, ii, fun w => ⟨_, hW1.1 20 0 _ rfl, Nat.le_of_ble_eq_true rfl, fun h2 e2 => ?_⟩, fun w => hQ5 z (fun q => w q.2) _ hW1⟩⟩
  refine hQ z y w h2 ?_
  rw [e2]
  exact hW1.mhead (S' := s_upL S 2 0 x2) (fun k => mAr_l2 k) rfl
theorem sim_next (hI : INV h α S D th) (hK : Go α K) : P_Rows_next (fun r h1 => P_Mod_next (fun r' h2 => r = r' ∧ K h2) h1 (α 20 0) x1 x2) h (α 0 0) x1 x2 := by
  obtain ⟨hW, hA⟩ := hI
  have hb := hA.1.2.1
  have hb1 := hA.1.1
  have hL1 := hA.2.2.2.2.2.2.2.1.1
  by_cases hn : 1 ≤ x1.toInt ∧ x1.toInt ≤ S.2.2.1
  · obtain ⟨i, hi, rfl⟩ := i_num hn.1 hn.2
    have same0 : ∀ (v : Int32) (h2 : hM), Wd h2 α (cA α S D S 0) → v = v ∧ K h2 := fun v h2 hW2 => ⟨rfl, hK h2 α _ D 0 ⟨hW2, hA⟩ rfl rfl⟩
    refine ⟨_, hW.1 0 0 _ rfl, C_findIni_yes hW hb1 hL1 hi ⟨fun z => (nomatch z), fun a e => ?_⟩⟩
    cases e
    have r15 := hW.1 15 i _ (cA_15 hi)
    refine ⟨_, _, hW.1 0 0 _ rfl, rfl, fun z => ⟨_, _, r15, rfl, fun y => ?_, fun y => ⟨_, _, r15, rfl, fun w => ⟨_, hW.1 0 0 _ rfl, Nat.le_of_ble_eq_true rfl, fun h1 e1 => ?_⟩, fun w => ?_⟩⟩, fun z => ?_⟩
    · exact M_next hi hb1 hW (fun q => absurd z q) (fun _ _ h2 hW2 => same0 _ h2 hW2) (fun _ q => absurd q y)
    · have hW1 : Wd h1 α (cA α (s_upL S 2 0 x2) D S th) := by rw [e1]; exact c_now x2 hW
      have ht : (S.2.1 2 0).toInt ≤ x2.toInt := Int64.le_iff_toInt_le.mp z
      have hA1 := I_now (D := D) ht hA
      have hm1 : S.1 1 i = -1 := by
        have : S.1 1 i + 1 = -1 + 1 := w
        exact p1.mp this
      refine ⟨_, hW1.1 0 0 _ rfl, C_nextFor hW1 hA1 hi ?_⟩
      -- the reference
      have hM : ∀ (v : Int32) (h' : hM) (R' : mS) (D' : dS), Wd h' α (cA α R' D' S th) → (∀ h2, Wd h2 α (cA α R' D' (s_upL S 2 0 x2) 0) → P_Mod_next_158 (fun r' h2 => v = r' ∧ K h2) h2 (α 20 0) (nI i) (oI (pck (s_upL S 2 0 x2) i 8))) → P_Mod_next (fun r' h2 => v = r' ∧ K h2) h' (α 20 0) (nI (i + 1)) x2 := by
        intro v h' R' D' hW' hg
        refine M_next hi hb1 hW' (fun q => absurd z q) (fun _ q => absurd ⟨y, hm1⟩ q) (fun _ _ _ h2 hW2 => ?_)
        exact M_pick hW2 hA1.1 hA1.2.1 (by omega) (hg h2 hW2)
      cases ep : pck (s_upL S 2 0 x2) i 8 with
      | none =>
        refine ⟨fun _ => hM _ _ _ _ hW1 (fun h2 hW2 => ?_), fun a e => (nomatch e)⟩
        rw [ep]
        exact ⟨fun q => absurd rfl q, fun _ => ⟨rfl, hK h2 α _ D 0 ⟨hW2, hA1⟩ rfl rfl⟩⟩
      | some b =>
        refine ⟨fun e => (nomatch e), fun a e => ?_⟩
        cases e
        obtain ⟨hbn, hmay⟩ := pck_in ep
        have hbn' : b < S.2.2.2 := hbn
        obtain ⟨a1, a2, a3, a4, a5, a6, a7, a8⟩ := hA1.2.1 b hbn
        obtain ⟨c, hc, ec⟩ := i_nat (n := 36) a1.1 a1.2
        obtain ⟨nm, hnm, en⟩ := i_nat (x := (s_upL S 2 0 x2).1 10 b) (n := 100) a3.1 (by omega)
        refine ⟨_, hW1.1 0 0 _ rfl, C_start hW1 hi hbn hmay.1 hc ec (by omega) en a6 (fun h3 hW3 => ?_)⟩
        refine ⟨_, _, hW3.1 17 b _ (cA_17 hbn'), rfl, hM _ _ _ _ hW3 (fun h2 hW2 => ?_)⟩
        rw [ep]
        have ib := vp_in_nI (n := b) (N := 100) (by omega) (by decide)
        have cb : (nI b).toNatClampNeg = b := nI_clamp (by omega)
        refine ⟨fun _ => ⟨_, _, hW2.1 20 0 _ rfl, rfl, _, _, hW2.1 23 0 _ rfl, vp_in_nI (by show i < 12; omega) (by decide), fun h4 e4 => ?_⟩, fun q => absurd q (nI_nm1 (by omega))⟩
        rw [nI_clamp (by omega)] at e4
        have hW4 : Wd h4 α (cA α _ _ (s_up (s_upL S 2 0 x2) 1 i (nI b)) 0) := (hW2.mset 1 (by decide) rfl rfl rfl i (nI b)).eqh e4
        refine ⟨_, _, hW4.1 20 0 _ rfl, rfl, _, _, hW4.1 34 0 _ rfl, ib, fun h5 e5 => ?_⟩
        have e5' : h5 = h_up h4 (α (20 + 14) 0) (eT 0 100 (upd (S.1 11) b 2)) := by
          rw [e5]
          show h_up h4 _ (eT _ _ (upd _ (nI b).toNatClampNeg _)) = _
          rw [cb]; rfl
        have hW5 := (hW4.mset 11 (by decide) rfl rfl rfl b 2).eqh e5'
        refine ⟨_, _, hW5.1 20 0 _ rfl, rfl, _, _, hW5.1 20 0 _ rfl, rfl, _, _, hW5.1 41 0 _ rfl, ib, fun h6 e6 => ?_⟩
        have hW6 := (hW5.mlset 1 (by decide) b ((s_upL S 2 0 x2).2.1 2 0)).eqh (h' := h6) (by
          rw [e6]
          show h_up h5 _ (eJ _ _ (vp_updL _ (nI b).toNatClampNeg _)) = _
          rw [cb]; rfl)
        refine ⟨(nI_1 b).symm, hK h6 α _ _ 0 ⟨hW6, ?_⟩ rfl rfl⟩
        exact I_sta hA1 hi hbn hmay hc ec hnm en
    · refine M_next hi hb1 hW (fun q => absurd z q) (fun _ _ h2 hW2 => same0 _ h2 hW2) (fun _ _ q => absurd ?_ w)
      show S.1 1 i + 1 = 0
      rw [q]; rfl
    · exact M_next hi hb1 hW (fun _ h2 hW2 => same0 _ h2 hW2) (fun q => absurd q z) (fun q => absurd q z)
  · refine ⟨_, hW.1 0 0 _ rfl, C_findIni_no hW hb1 hn ⟨fun _ => ?_, fun _ z => (nomatch z)⟩⟩
    exact M_begin hW (fun h1 hW1 => ⟨_, hW1.1 20 0 _ rfl, M_isIni_no hW1 hn hb1 ⟨fun z => absurd rfl z, fun _ => ⟨rfl, hK h1 α _ D 0 ⟨hW1, hA⟩ rfl rfl⟩⟩⟩)
end NX
