theorem sm_one {f g : Nat → Nat} {j d : Nat} : ∀ {n : Nat}, j < n → (∀ i, i < n → i ≠ j → f i = g i) → f j = g j + d → sm f n = sm g n + d := by
  intro n
  induction n with
  | zero => intro h; omega
  | succ n ih =>
    intro hj hne he
    show sm f n + f n = sm g n + g n + d
    by_cases e : j = n
    · rw [← e, he, sm_congr (f := f) (g := g) (fun i hi => hne i (by omega) (by omega))]
      omega
    · rw [ih (by omega) (fun i hi => hne i (by omega)) he, hne n (by omega) (fun z => e z.symm)]
      omega
section EN2
variable {h : hM} {α : Nat → Nat → Nat} {S : mS} {D : dS} {th : Int32} {x1 x2 x3 : Int32} {K : hM → Prop}
theorem C_end_2 {Q : Int32 → hM → Prop} {R : mS} (hj : R.2.2.2 ≤ 100) (hn : ¬ (1 ≤ x1.toInt ∧ x1.toInt ≤ R.2.2.2)) (hW : Wd h α (cA α R D S th)) (hQ : Q (-2) h) : P_Rows_end Q h (α 0 0) x1 :=
  ⟨_, hW.1 0 0 _ rfl, C_findJob_no hW hj hn ⟨fun _ => hQ, fun _ z => (nomatch z)⟩⟩
theorem sim_end (hI : INV h α S D th) (hK : Go α K) : P_Rows_end (fun r h1 => P_Mod_end (fun r' h2 => r = r' ∧ K h2) h1 (α 20 0) x1) h (α 0 0) x1 := by
  obtain ⟨hW, hA⟩ := hI
  have hb := hA.1.2.1
  have hb1 := hA.1.1
  have hL := hA.2.2.2.2.2.2.2.1.2.1
  have hL1 := hA.2.2.2.2.2.2.2.1.1
  by_cases hn : 1 ≤ x1.toInt ∧ x1.toInt ≤ S.2.2.2
  · obtain ⟨j, hj, rfl⟩ := i_num hn.1 hn.2
    have hst : stg S j = 2 ↔ S.1 11 j = 2 := by
      unfold stg
      by_cases q : S.1 11 j = 0
      · rw [if_pos q]
        constructor
        · intro e
          by_cases c : S.1 13 j = 0
          · rw [if_pos c] at e; exact absurd e (by decide)
          · rw [if_neg c] at e; exact absurd e (by decide)
        · intro e; rw [q] at e; exact absurd e (by decide)
      · rw [if_neg q]
    refine ⟨_, hW.1 0 0 _ rfl, C_findJob_yes hW hb hL hj ⟨fun z => (nomatch z), fun a e => ?_⟩⟩
    cases e
    refine ⟨_, _, hW.1 17 j _ (cA_17 hj), rfl, fun z => ?_, fun z => ?_⟩
    · have h2 := hst.mp z
      obtain ⟨a1, a2, a3, a4, a5, a6, a7, a8⟩ := hA.2.1 j hj
      obtain ⟨c, hc, ec⟩ := i_nat (n := 36) a1.1 a1.2
      obtain ⟨nm, hnm, en⟩ := i_nat (x := S.1 10 j) (n := 100) a3.1 (by omega)
      have h13 : S.1 13 j = 0 := by
        rcases a5 with e | ⟨_, e⟩
        · exact e
        · rw [e] at h2; exact absurd h2 (by decide)
      refine ⟨_, hW.1 0 0 _ rfl, C_stop hW hb hb1 hL1 hj h2 hc ec (by omega) en (fun h1 hW1 => ?_)⟩
      refine M_end hj hb hW1 (fun z => absurd h2 z) (fun _ h3 hW3 => ⟨rfl, ?_⟩)
      obtain ⟨i1, i2, i3, i4, i5, i6, i7, i8, i9, i10, i11⟩ := hA
      have eR : s_up (runsTo S S.2.2.1 (nI j)) 11 j 3 = runsTo (s_up S 11 j 3) 12 (nI j) := by
        rw [runsTo_st]
        refine runsTo_12 hb1 (fun i hi1 hi2 => ?_)
        show ¬ S.1 1 i = nI j
        rw [(i6 i hi1 hi2).1]
        intro e
        have : (nI j).toInt = j := nI_toInt (by omega)
        rw [← e] at this
        have : (-1 : Int32).toInt = -1 := by decide
        omega
      rw [eR] at hW3
      refine hK h3 α _ _ 0 ⟨hW3, ?_⟩ rfl rfl
      have hu : ∀ i, i ≠ j → upd (S.1 11) j 3 i = S.1 11 i := fun i hi => pk_un hi
      have h3' : upd (S.1 11) j 3 j = 3 := pk_us
      have run : ∀ i, upd (S.1 11) j 3 i = 2 → S.1 11 i = 2 ∧ i ≠ j := fun i hi => by
        by_cases e : i = j
        · rw [e, h3'] at hi; exact absurd hi (by decide)
        · rw [hu i e] at hi; exact ⟨hi, e⟩
      refine ⟨i1, fun i hi => ?_, fun i hi hi2 => ?_, i4, i5, fun i hi hi2 => ?_, i7, i8, ?_, ?_, ?_⟩
      · obtain ⟨b1, b2, b3, b4, b5, b6, b7, b8⟩ := i2 i hi
        refine ⟨b1, b2, b3, ?_, ?_, b6, b7, b8⟩
        · show upd (S.1 11) j 3 i = 0 ∨ upd (S.1 11) j 3 i = 2 ∨ upd (S.1 11) j 3 i = 3
          exact upd_all (P := fun v => v = 0 ∨ v = 2 ∨ v = 3) (Or.inr (Or.inr rfl)) b4
        · show S.1 13 i = 0 ∨ (S.1 13 i = 1 ∧ upd (S.1 11) j 3 i = 0)
          by_cases e : i = j
          · rw [e]; exact Or.inl h13
          · rw [hu i e]; exact b5
      · obtain ⟨b1, b2⟩ := i3 i hi hi2
        have : j < i := Nat.lt_of_lt_of_le hj hi
        exact ⟨(hu i (by omega)).trans b1, b2⟩
      · obtain ⟨b1, b2⟩ := i6 i hi hi2
        refine ⟨?_, b2⟩
        show (if i < 12 ∧ S.1 1 i = nI j then -1 else S.1 1 i) = -1
        by_cases q : i < 12 ∧ S.1 1 i = nI j
        · rw [if_pos q]
        · rw [if_neg q]; exact b1
      · obtain ⟨b1, b2, b3, b4, b5⟩ := i9
        refine ⟨fun d hd => ?_, fun p hp => ?_, ?_, Or.inr ⟨rfl, fun i hi hi2 => ?_⟩, fun n hn => ?_⟩
        · show upd (D.2.2.2.1 0) c (D.2.2.2.1 0 c - 1) d = nI (sm (fun i => if upd (S.1 11) j 3 i = 2 ∧ S.1 8 i = nI d then 1 else 0) S.2.2.2)
          by_cases e : d = c
          · rw [e, pk_us, b1 c hc]
            rw [sm_one (f := fun i => if S.1 11 i = 2 ∧ S.1 8 i = nI c then 1 else 0) (g := fun i => if upd (S.1 11) j 3 i = 2 ∧ S.1 8 i = nI c then 1 else 0) (d := 1) hj (fun i hi hne => by rw [hu i hne]) (by rw [if_pos ⟨h2, ec⟩, if_neg (by rw [h3']; exact fun y => absurd y.1 (by decide))]), nI_pred]
          · rw [pk_un e, b1 d hd]
            congr 1
            refine sm_congr (fun i hi => ?_)
            by_cases q : i = j
            · have hd' : ¬ S.1 8 j = nI d := by rw [ec, nI_eq (by omega) (by omega)]; omega
              rw [q, if_neg (fun y => hd' y.2), if_neg (fun y => hd' y.2)]
            · rw [hu i q]
        · show (if p < 4 then D.2.2.2.1 1 p - S.1 12 (4 * j + p) else _) = nI (sm (fun i => if upd (S.1 11) j 3 i = 2 then (S.1 12 (4 * i + p)).toNatClampNeg else 0) S.2.2.2)
          rw [if_pos hp, b2 p hp]
          rw [sm_one (f := fun i => if S.1 11 i = 2 then (S.1 12 (4 * i + p)).toNatClampNeg else 0) (g := fun i => if upd (S.1 11) j 3 i = 2 then (S.1 12 (4 * i + p)).toNatClampNeg else 0) (d := (S.1 12 (4 * j + p)).toNatClampNeg) hj (fun i hi hne => by rw [hu i hne]) (by rw [if_pos h2, if_neg (by rw [h3']; decide), Nat.zero_add])]
          rw [← nI_add, i_clampN (a8 p hp).1, Int32.add_sub_cancel]
        · show D.2.2.2.2.1 0 - 1 = nI (sm (fun i => if upd (S.1 11) j 3 i = 2 then 1 else 0) S.2.2.2)
          rw [b3, sm_one (f := fun i => if S.1 11 i = 2 then 1 else 0) (g := fun i => if upd (S.1 11) j 3 i = 2 then 1 else 0) (d := 1) hj (fun i hi hne => by rw [hu i hne]) (by rw [if_pos h2, if_neg (by rw [h3']; decide)]), nI_pred]
        · obtain ⟨r1, r2⟩ := run i hi2
          rcases (i2 i hi).2.2.2.2.2.1 with q | q
          · exact q
          · exact absurd (i11.2.1 i j hi hj r1 q h2) r2
        · show nsb (drpL (D.2.2.1 2) nm) (drpH (D.2.2.1 3) nm) n = true ↔ ∃ i, i < S.2.2.2 ∧ upd (S.1 11) j 3 i = 2 ∧ S.1 10 i = nI n
          rw [nsb_drp (by omega) (by omega), b5 n hn]
          constructor
          · rintro ⟨⟨i, c1, c2, c3⟩, hne⟩
            have : i ≠ j := fun e => hne (by rw [e, en, nI_eq (by omega) (by omega)] at c3; exact c3.symm)
            exact ⟨i, c1, by rw [hu i this]; exact c2, c3⟩
          · rintro ⟨i, c1, c2, c3⟩
            obtain ⟨r1, r2⟩ := run i c2
            refine ⟨⟨i, c1, r1, c3⟩, fun e => r2 ?_⟩
            exact i11.1 i j c1 hj r1 h2 (by rw [c3, en, e])
      · obtain ⟨b1, b2⟩ := i10
        refine ⟨fun n hn => ?_, b2⟩
        show nsb (putL (D.2.2.1 0) (j + 1)) (putH (D.2.2.1 1) (j + 1)) n = true ↔ ∃ i, i < S.2.2.2 ∧ n = i + 1 ∧ upd (S.1 11) j 3 i = 3
        rw [nsb_put (by omega) hn, b1 n hn]
        constructor
        · rintro (⟨i, c1, c2, c3⟩ | e)
          · exact ⟨i, c1, c2, upd_all (P := fun v => v = 3) rfl c3⟩
          · exact ⟨j, hj, e, h3'⟩
        · rintro ⟨i, c1, c2, c3⟩
          by_cases e : i = j
          · exact Or.inr (by rw [c2, e])
          · rw [hu i e] at c3
            exact Or.inl ⟨i, c1, c2, c3⟩
      · obtain ⟨b1, b2, b3⟩ := i11
        refine ⟨fun i k hi hk g1 g2 g3 => b1 i k hi hk (run i g1).1 (run k g2).1 g3, fun i k hi hk g1 g2 g3 => b2 i k hi hk (run i g1).1 g2 (run k g3).1, fun i k hi hk g1 g2 => ?_⟩
        show upd (S.1 11) j 3 k = 3
        refine upd_all (P := fun v => v = 3) rfl (b3 i k hi hk ?_ g2)
        by_cases e : i = j
        · rw [e, h2]; decide
        · have g1' : ¬ upd (S.1 11) j 3 i = 0 := g1
          rw [hu i e] at g1'
          exact g1'
    · exact M_end hj hb hW (fun _ h2 hW2 => ⟨rfl, hK h2 α _ D 0 ⟨hW2, hA⟩ rfl rfl⟩) (fun q => absurd (hst.mpr q) z)
  · exact C_end_2 hb hn hW (M_end_2 hn hb hW (fun h2 hW2 => ⟨rfl, hK h2 α _ D 0 ⟨hW2, hA⟩ rfl rfl⟩))
end EN2
