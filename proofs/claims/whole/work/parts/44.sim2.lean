theorem sm_congr {f g : Nat → Nat} : ∀ {n : Nat}, (∀ j, j < n → f j = g j) → sm f n = sm g n := by
  intro n
  induction n with
  | zero => intro _; rfl
  | succ n ih =>
    intro h
    show sm f n + f n = sm g n + g n
    rw [ih (fun j hj => h j (by omega)), h n (by omega)]
theorem rch_grow {e : Nat → Int32} {N N' : Nat} (hN : N ≤ N') (hE : ∀ j k, j < 100 → k < 100 → e (100 * j + k) = 1 → j < N ∧ k < N) (hN' : N' ≤ 100) : ∀ m j k, j < 100 → k < 100 → (rch e N' m j k ↔ rch e N m j k) := by
  intro m
  induction m with
  | zero => intro j k _ _; exact Iff.rfl
  | succ m ih =>
    intro j k hj hk
    constructor
    · rintro ⟨q, hq, h1, h2⟩
      have := hE j q hj (by omega) h1
      exact ⟨q, this.2, h1, (ih q k (by omega) hk).mp h2⟩
    · rintro ⟨q, hq, h1, h2⟩
      exact ⟨q, by omega, h1, (ih q k (by omega) hk).mpr h2⟩
theorem rch_first {e : Nat → Int32} {N : Nat} (hE : ∀ j k, j < 100 → k < 100 → e (100 * j + k) = 1 → j < N ∧ k < N) (hN : N ≤ 100) : ∀ m j k, j < 100 → k < 100 → rch e N m j k → j < N := by
  intro m
  cases m with
  | zero => intro j k hj hk h; exact (hE j k hj hk h).1
  | succ m => rintro j k hj hk ⟨q, hq, h1, -⟩; exact (hE j q hj (by omega) h1).1
theorem rch_last {e : Nat → Int32} {N : Nat} (hE : ∀ j k, j < 100 → k < 100 → e (100 * j + k) = 1 → j < N ∧ k < N) (hN : N ≤ 100) : ∀ m j k, j < 100 → k < 100 → rch e N m j k → k < N := by
  intro m
  induction m with
  | zero => intro j k hj hk h; exact (hE j k hj hk h).2
  | succ m ih => rintro j k hj hk ⟨q, hq, h1, h2⟩; exact ih q k (by omega) hk h2
theorem nsb_0 (n : Nat) : nsb 0 0 n = false := by
  unfold nsb
  by_cases h : n < 64
  · rw [if_pos h]; simp
  · rw [if_neg h]; simp
section SI2
variable {h : hM} {α : Nat → Nat → Nat} {S : mS} {D : dS} {th : Int32} {x1 x2 x3 : Int32} {K : hM → Prop}
theorem e20 {a : Int32} (h : a = 0) : ¬ a = 2 := by rw [h]; decide
theorem sim_uses (hI : INV h α S D th) (hK : Go α K) : P_Rows_uses (fun r h1 => P_Mod_uses (fun r' h2 => r = r' ∧ K h2) h1 (α 20 0) x1 x2 x3) h (α 0 0) x1 x2 x3 := by
  obtain ⟨hW, hA⟩ := hI
  have hb := hA.1.2.1
  have hL := hA.2.2.2.2.2.2.2.1.2.1
  by_cases hn : 1 ≤ x1.toInt ∧ x1.toInt ≤ S.2.2.2
  · obtain ⟨j, hj, rfl⟩ := i_num hn.1 hn.2
    by_cases hm : (0 ≤ x2.toInt ∧ x2.toInt < 4) ∧ 0 ≤ x3.toInt ∧ x3.toInt ≤ 1000
    · rcases (hA.2.1 j hj).2.2.2.1 with hs | hs
      · obtain ⟨q, hq, rfl⟩ := i_nat (n := 4) hm.1.1 hm.1.2
        obtain ⟨i1, i2, i3, i4, i5, i6, i7, i8, i9, i10, i11⟩ := hA
        have i2' : I_job (s_up S 12 (4 * j + q) x3) := fun i hi => by
          obtain ⟨a1, a2, a3, a4, a5, a6, a7, a8⟩ := i2 i hi
          exact ⟨a1, a2, a3, a4, a5, a6, a7, fun p hp => upd_all (P := fun v => 0 ≤ v.toInt ∧ v.toInt ≤ 1000) hm.2 (a8 p hp)⟩
        have i3' : I_new (s_up S 12 (4 * j + q) x3) := fun i hi hi2 => by
          obtain ⟨a1, a2, a3, a4⟩ := i3 i hi hi2
          refine ⟨a1, a2, a3, fun p hp => ?_⟩
          have : j < i := Nat.lt_of_lt_of_le hj hi
          show upd (S.1 12) (4 * j + q) x3 (4 * i + p) = 0
          rw [pk_un (by omega)]
          exact a4 p hp
        have i9' : I_loa (s_up S 12 (4 * j + q) x3) D := by
          obtain ⟨b1, b2, b3⟩ := i9
          refine ⟨b1, fun p hp => ?_, b3⟩
          rw [b2 p hp]
          congr 1
          refine sm_congr (fun i hi => ?_)
          show _ = (if S.1 11 i = 2 then (upd (S.1 12) (4 * j + q) x3 (4 * i + p)).toNatClampNeg else 0)
          by_cases hij : i = j
          · rw [hij, if_neg (e20 hs), if_neg (e20 hs)]
          · rw [pk_un (by omega)]
        exact C_uses_ok hb hL hj hq hm.2.1 hm.2.2 hs hW (fun h1 hW1 => M_uses_ok hj hb hq hm.2.1 hm.2.2 hs hW1 (fun h2 hW2 => ⟨rfl, hK h2 α _ D 0 ⟨hW2, i1, i2', i3', i4, i5, i6, i7, i8, i9', i10, i11⟩ rfl rfl⟩))
      · have h0 : ¬ S.1 11 j = 0 := by rcases hs with e | e <;> rw [e] <;> decide
        exact C_uses_5 hb hL hj hm.1.1 hm.1.2 hm.2.1 hm.2.2 hs hW (M_uses_5 hj hb hm.1.1 hm.1.2 hm.2.1 hm.2.2 h0 hW (fun h2 hW2 => ⟨rfl, hK h2 α _ D 0 ⟨hW2, hA⟩ rfl rfl⟩))
    · exact C_uses_4 hb hL hj hm hW (M_uses_4 hj hb hm hW (fun h2 hW2 => ⟨rfl, hK h2 α _ D 0 ⟨hW2, hA⟩ rfl rfl⟩))
  · exact C_uses_2 hb hn hW (M_uses_2 hn hb hW (fun h2 hW2 => ⟨rfl, hK h2 α _ D 0 ⟨hW2, hA⟩ rfl rfl⟩))
theorem sim_alone (hI : INV h α S D th) (hK : Go α K) : P_Rows_alone (fun r h1 => P_Mod_alone (fun r' h2 => r = r' ∧ K h2) h1 (α 20 0) x1) h (α 0 0) x1 := by
  obtain ⟨hW, hA⟩ := hI
  have hb := hA.1.2.1
  have hL := hA.2.2.2.2.2.2.2.1.2.1
  by_cases hn : 1 ≤ x1.toInt ∧ x1.toInt ≤ S.2.2.2
  · obtain ⟨j, hj, rfl⟩ := i_num hn.1 hn.2
    rcases (hA.2.1 j hj).2.2.2.1 with hs | hs
    · obtain ⟨i1, i2, i3, i4, i5, i6, i7, i8, i9, i10, i11⟩ := hA
      have hne : ∀ i, S.1 11 i = 2 → upd (S.1 14) j 1 i = S.1 14 i := fun i hi => pk_un (fun e => e20 hs (by rw [← e]; exact hi))
      have i2' : I_job (s_up S 14 j 1) := fun i hi => by
        obtain ⟨a1, a2, a3, a4, a5, a6, a7⟩ := i2 i hi
        exact ⟨a1, a2, a3, a4, a5, upd_all (P := fun v => v = 0 ∨ v = 1) (Or.inr rfl) a6, a7⟩
      have i3' : I_new (s_up S 14 j 1) := fun i hi hi2 => by
        obtain ⟨a1, a2, a3, a4⟩ := i3 i hi hi2
        have : j < i := Nat.lt_of_lt_of_le hj hi
        exact ⟨a1, a2, (pk_un (by omega)).trans a3, a4⟩
      have i9' : I_loa (s_up S 14 j 1) D := by
        obtain ⟨b1, b2, b3, b4, b5⟩ := i9
        refine ⟨b1, b2, b3, ?_, b5⟩
        rcases b4 with ⟨c1, i, c2, c3, c4⟩ | ⟨c1, c2⟩
        · exact Or.inl ⟨c1, i, c2, c3, (hne i c3).trans c4⟩
        · exact Or.inr ⟨c1, fun i hi hi2 => (hne i hi2).trans (c2 i hi hi2)⟩
      have i11' : I_exc (s_up S 14 j 1) := ⟨i11.1, fun i k hi hk h1 h2 h3 => i11.2.1 i k hi hk h1 ((hne i h1).symm.trans h2) h3, i11.2.2⟩
      exact C_alone_ok hb hL hj hs hW (fun h1 hW1 => M_alone_ok hj hb hs hW1 (fun h2 hW2 => ⟨rfl, hK h2 α _ D 0 ⟨hW2, i1, i2', i3', i4, i5, i6, i7, i8, i9', i10, i11'⟩ rfl rfl⟩))
    · have h0 : ¬ S.1 11 j = 0 := by rcases hs with e | e <;> rw [e] <;> decide
      exact C_alone_5 hb hL hj hs hW (M_alone_5 hj hb h0 hW (fun h2 hW2 => ⟨rfl, hK h2 α _ D 0 ⟨hW2, hA⟩ rfl rfl⟩))
  · exact C_alone_2 hb hn hW (M_alone_2 hn hb hW (fun h2 hW2 => ⟨rfl, hK h2 α _ D 0 ⟨hW2, hA⟩ rfl rfl⟩))
theorem sim_hold (hx : x2 = 0 ∨ x2 = 1) (hI : INV h α S D th) (hK : Go α K) : P_Rows_hold (fun r h1 => P_Mod_hold (fun r' h2 => r = r' ∧ K h2) h1 (α 20 0) x1 x2) h (α 0 0) x1 x2 := by
  obtain ⟨hW, hA⟩ := hI
  have hb := hA.1.2.1
  have hL := hA.2.2.2.2.2.2.2.1.2.1
  by_cases hn : 1 ≤ x1.toInt ∧ x1.toInt ≤ S.2.2.2
  · obtain ⟨j, hj, rfl⟩ := i_num hn.1 hn.2
    have hh := (hA.2.1 j hj).2.2.2.2.1
    rcases (hA.2.1 j hj).2.2.2.1 with hs | hs
    · obtain ⟨i1, i2, i3, i4⟩ := hA
      have i2' : I_job (s_up S 13 j x2) := fun i hi => by
        obtain ⟨a1, a2, a3, a4, a5, a6⟩ := i2 i hi
        refine ⟨a1, a2, a3, a4, ?_, a6⟩
        show upd (S.1 13) j x2 i = 0 ∨ (upd (S.1 13) j x2 i = 1 ∧ S.1 11 i = 0)
        by_cases e : i = j
        · rw [e, pk_us]
          exact hx.imp id (fun z => ⟨z, hs⟩)
        · rw [pk_un e]; exact a5
      have i3' : I_new (s_up S 13 j x2) := fun i hi hi2 => by
        obtain ⟨a1, a2, a3⟩ := i3 i hi hi2
        have : j < i := Nat.lt_of_lt_of_le hj hi
        exact ⟨a1, (pk_un (by omega)).trans a2, a3⟩
      exact C_hold_ok hb hL hj hs (hh.imp id And.left) hx hW (fun h1 hW1 => M_hold_ok hj hb hs hx hW1 (fun h2 hW2 => ⟨rfl, hK h2 α _ D 0 ⟨hW2, i1, i2', i3', i4⟩ rfl rfl⟩))
    · have h0 : ¬ S.1 11 j = 0 := by rcases hs with e | e <;> rw [e] <;> decide
      exact C_hold_5 hb hL hj hs hW (M_hold_5 hj hb h0 hW (fun h2 hW2 => ⟨rfl, hK h2 α _ D 0 ⟨hW2, hA⟩ rfl rfl⟩))
  · exact C_hold_2 hb hn hW (M_hold_2 hn hb hW (fun h2 hW2 => ⟨rfl, hK h2 α _ D 0 ⟨hW2, hA⟩ rfl rfl⟩))
theorem LOk.ag {α' : Nat → Nat → Nat} {D' : dS} {w kd n : Nat} (h : LOk α D w kd n) (hc : D'.2.2.2.2.2.1 w = D.2.2.2.2.2.1 w) (he : D'.2.2.2.2.2.2 w = D.2.2.2.2.2.2 w) (hk : ∀ i, α' kd i = α kd i) (h0 : α' (2 * w + 2) 0 = α (2 * w + 2) 0) (h50 : α' 50 0 = α 50 0) : LOk α' D' w kd n := by
  obtain ⟨a1, a2, a3, a4, a5⟩ := h
  refine ⟨by rw [hc]; exact a1, by rw [hc]; exact a2, fun i hi => by rw [he, hk]; exact a3 i hi, fun i hi => by rw [he]; exact a4 i hi, fun e => ?_⟩
  rw [h0, h50]
  rw [hc] at e
  exact a5 e
theorem sim_initiator (hI : INV h α S D th) (hK : Go α K) : P_Rows_initiator (fun r h1 => P_Mod_initiator (fun r' h2 => r = r' ∧ K h2) h1 (α 20 0)) h (α 0 0) := by
  obtain ⟨hW, hA⟩ := hI
  by_cases hn : S.2.2.1 = 12
  · exact C_initiator_no hW hn (M_initiator_no hn hW (fun h2 hW2 => ⟨rfl, hK h2 α _ D 0 ⟨hW2, hA⟩ rfl rfl⟩))
  · have hlt : S.2.2.1 < 12 := by have := hA.1.1; omega
    obtain ⟨i1, i2, i3, i4, i5, i6, i7, i8, i9, i10, i11⟩ := hA
    obtain ⟨n1, n2, n3⟩ := i6 S.2.2.1 (Nat.le_refl _) hlt
    refine C_initiator_ok hW hlt i8.1 i8.2.2.1 n1 n2 n3 (fun h1 α' m cap el hW1 hag h17 hL hc => ?_)
    rw [← hag.fix 20 (by decide) (i := 0)]
    refine M_initiator_ok hlt hW1 (fun h2 hW2 => ⟨rfl, hK h2 α' _ (d_list D 0 m cap el) 0 ⟨hW2, ?_⟩ (hag.fix 0 (by decide)) (by rw [hag.fix 20 (by decide), hag.fix 44 (by decide)])⟩)
    refine ⟨⟨hlt, i1.2⟩, i2, i3, i4, fun i hi => ?_, fun i hi hi2 => i6 i (Nat.le_of_succ_le hi) hi2, i7, ⟨hL, ?_, Or.inr hc, i8.2.2.2⟩, i9, i10, i11⟩
    · by_cases e : i = S.2.2.1
      · subst e
        exact ⟨Or.inl n2, fun p hp => by show -1 ≤ (S.1 0 (8 * S.2.2.1 + p)).toInt ∧ (S.1 0 (8 * S.2.2.1 + p)).toInt < 36; rw [n3 p hp]; decide⟩
      · exact i5 i (by have : i < S.2.2.1 + 1 := hi; omega)
    · exact i8.2.1.ag rfl rfl h17 (hag.fix 4 (by decide)) (hag.fix 50 (by decide))
theorem sim_job {x4 : Int64} (hI : INV h α S D th) (hK : Go α K) : P_Rows_job (fun r h1 => P_Mod_job (fun r' h2 => r = r' ∧ K h2) h1 (α 20 0) x1 x2 x3 x4) h (α 0 0) x1 x2 x3 x4 := by
  obtain ⟨hW, hA⟩ := hI
  by_cases hm : (0 ≤ x1.toInt ∧ x1.toInt < 36) ∧ (0 ≤ x2.toInt ∧ x2.toInt ≤ 15) ∧ (0 ≤ x3.toInt ∧ x3.toInt ≤ 99) ∧ (S.2.1 2 0).toInt ≤ x4.toInt
  · obtain ⟨a1, a2, a3, a4⟩ := hm
    by_cases hn : S.2.2.2 = 100
    · exact C_job_full hW a1 a2 a3 a4 hn (M_job_full a1 a2 a3 a4 hn hW (fun h2 hW2 => ⟨rfl, hK h2 α _ D 0 ⟨hW2, hA⟩ rfl rfl⟩))
    · have hlt : S.2.2.2 < 100 := by have := hA.1.2.1; omega
      obtain ⟨i1, i2, i3, i4, i5, i6, i7, i8, i9, i10, i11⟩ := hA
      obtain ⟨n11, n13, n14, n12⟩ := i3 S.2.2.2 (Nat.le_refl _) hlt
      refine C_job_ok hW a1 a2 a3 a4 hlt i8.2.1 i8.2.2.2 n11 n13 n14 n12 (fun h1 α' m cap el hW1 hag h15 hL hc => ?_)
      rw [← hag.fix 20 (by decide) (i := 0)]
      refine M_job_ok a1 a2 a3 a4 hlt hW1 (fun h2 hW2 => ⟨rfl, hK h2 α' _ (d_job D S.2.2.2 m cap el) 0 ⟨hW2, ?_⟩ (hag.fix 0 (by decide)) (by rw [hag.fix 20 (by decide), hag.fix 44 (by decide)])⟩)
      have hold : ∀ (f : Nat → Int32) (v : Int32) (j : Nat), j < S.2.2.2 → upd f S.2.2.2 v j = f j := fun f v j hj => pk_un (by omega)
      have hst : ∀ j, (jobS S x1 x2 x3 x4).1 11 j = S.1 11 j := fun j => rfl
      refine ⟨⟨i1.1, hlt, ?_, i1.2.2.2⟩, fun j hj => ?_, fun j hj hj2 => i3 j (Nat.le_of_succ_le hj) hj2, ⟨i4.1, fun j k hj hk e => ?_⟩, i5, i6, i7, ⟨?_, hL, i8.2.2.1, Or.inr hc⟩, ?_, ?_, ?_⟩
      · show 0 ≤ (vp_updL (S.2.1 2) 0 x4 0).toInt
        rw [pk_uLs]
        have := i1.2.2.1
        omega
      · have hj' : j < S.2.2.2 + 1 := hj
        have enow : (jobS S x1 x2 x3 x4).2.1 2 0 = x4 := (show vp_updL (S.2.1 2) 0 x4 0 = x4 from pk_uLs)
        by_cases e : j = S.2.2.2
        · subst e
          refine ⟨?_, ?_, ?_, Or.inl n11, Or.inl n13, Or.inl n14, ?_, fun p hp => ?_⟩
          · show 0 ≤ (upd (S.1 8) S.2.2.2 x1 S.2.2.2).toInt ∧ (upd (S.1 8) S.2.2.2 x1 S.2.2.2).toInt < 36
            rw [pk_us]; exact a1
          · show 0 ≤ (upd (S.1 9) S.2.2.2 x2 S.2.2.2).toInt ∧ (upd (S.1 9) S.2.2.2 x2 S.2.2.2).toInt ≤ 15
            rw [pk_us]; exact a2
          · show 0 ≤ (upd (S.1 10) S.2.2.2 x3 S.2.2.2).toInt ∧ (upd (S.1 10) S.2.2.2 x3 S.2.2.2).toInt ≤ 99
            rw [pk_us]; exact a3
          · rw [enow]
            show 0 ≤ (vp_updL (S.2.1 0) S.2.2.2 x4 S.2.2.2).toInt ∧ (vp_updL (S.2.1 0) S.2.2.2 x4 S.2.2.2).toInt ≤ x4.toInt
            rw [pk_uLs]
            have := i1.2.2.1
            exact ⟨by omega, Int.le_refl _⟩
          · show 0 ≤ (S.1 12 (4 * S.2.2.2 + p)).toInt ∧ (S.1 12 (4 * S.2.2.2 + p)).toInt ≤ 1000
            rw [n12 p hp]; decide
        · have hjn : j < S.2.2.2 := by omega
          obtain ⟨b1, b2, b3, b4, b5, b6, b7, b8⟩ := i2 j hjn
          refine ⟨?_, ?_, ?_, b4, b5, b6, ?_, b8⟩
          · show 0 ≤ (upd (S.1 8) S.2.2.2 x1 j).toInt ∧ (upd (S.1 8) S.2.2.2 x1 j).toInt < 36
            rw [hold _ _ j hjn]; exact b1
          · show 0 ≤ (upd (S.1 9) S.2.2.2 x2 j).toInt ∧ (upd (S.1 9) S.2.2.2 x2 j).toInt ≤ 15
            rw [hold _ _ j hjn]; exact b2
          · show 0 ≤ (upd (S.1 10) S.2.2.2 x3 j).toInt ∧ (upd (S.1 10) S.2.2.2 x3 j).toInt ≤ 99
            rw [hold _ _ j hjn]; exact b3
          · rw [enow]
            show 0 ≤ (vp_updL (S.2.1 0) S.2.2.2 x4 j).toInt ∧ (vp_updL (S.2.1 0) S.2.2.2 x4 j).toInt ≤ x4.toInt
            rw [pk_uLn (by omega)]
            exact ⟨b7.1, by omega⟩
      · have := i4.2 j k hj hk e
        exact ⟨Nat.lt_succ_of_lt this.1, Nat.lt_succ_of_lt this.2⟩
      · exact i8.1.ag rfl rfl h15 (hag.fix 2 (by decide)) (hag.fix 50 (by decide))
      · obtain ⟨b1, b2, b3, b4, b5⟩ := i9
        refine ⟨fun c hc => ?_, fun p hp => ?_, ?_, ?_, fun n hn => ?_⟩
        · show D.2.2.2.1 0 c = nI (sm (fun j => if S.1 11 j = 2 ∧ upd (S.1 8) S.2.2.2 x1 j = nI c then 1 else 0) S.2.2.2 + (if S.1 11 S.2.2.2 = 2 ∧ upd (S.1 8) S.2.2.2 x1 S.2.2.2 = nI c then 1 else 0))
          rw [if_neg (fun z => e20 n11 z.1), Nat.add_zero, b1 c hc]
          congr 1
          refine sm_congr (fun j hj => ?_)
          rw [hold _ _ j hj]
        · show D.2.2.2.1 1 p = nI (sm (fun j => if S.1 11 j = 2 then (S.1 12 (4 * j + p)).toNatClampNeg else 0) S.2.2.2 + (if S.1 11 S.2.2.2 = 2 then (S.1 12 (4 * S.2.2.2 + p)).toNatClampNeg else 0))
          rw [if_neg (e20 n11), Nat.add_zero]
          exact b2 p hp
        · show D.2.2.2.2.1 0 = nI (sm (fun j => if S.1 11 j = 2 then 1 else 0) S.2.2.2 + (if S.1 11 S.2.2.2 = 2 then 1 else 0))
          rw [if_neg (e20 n11), Nat.add_zero]
          exact b3
        · rcases b4 with ⟨c1, j, c2, c3, c4⟩ | ⟨c1, c2⟩
          · exact Or.inl ⟨c1, j, Nat.lt_succ_of_lt c2, c3, c4⟩
          · refine Or.inr ⟨c1, fun j hj hj2 => c2 j ?_ hj2⟩
            have hj' : j < S.2.2.2 + 1 := hj
            rcases Nat.lt_or_ge j S.2.2.2 with q | q
            · exact q
            · have : j = S.2.2.2 := by omega
              rw [this] at hj2
              exact absurd hj2 (e20 n11)
        · show nsb (D.2.2.1 2) (D.2.2.1 3) n = true ↔ ∃ j, j < S.2.2.2 + 1 ∧ S.1 11 j = 2 ∧ upd (S.1 10) S.2.2.2 x3 j = nI n
          rw [b5 n hn]
          constructor
          · rintro ⟨j, c1, c2, c3⟩
            exact ⟨j, Nat.lt_succ_of_lt c1, c2, by rw [hold _ _ j c1]; exact c3⟩
          · rintro ⟨j, c1, c2, c3⟩
            have hj : j < S.2.2.2 := by
              rcases Nat.lt_or_ge j S.2.2.2 with q | q
              · exact q
              · have : j = S.2.2.2 := by omega
                rw [this] at c2
                exact absurd c2 (e20 n11)
            exact ⟨j, hj, c2, by rw [hold _ _ j hj] at c3; exact c3⟩
      · obtain ⟨b1, b2⟩ := i10
        refine ⟨fun n hn => ?_, fun j hj n hn => ?_⟩
        · show nsb (D.2.2.1 0) (D.2.2.1 1) n = true ↔ ∃ j, j < S.2.2.2 + 1 ∧ n = j + 1 ∧ S.1 11 j = 3
          rw [b1 n hn]
          constructor
          · rintro ⟨j, c1, c2, c3⟩
            exact ⟨j, Nat.lt_succ_of_lt c1, c2, c3⟩
          · rintro ⟨j, c1, c2, c3⟩
            have hj : j < S.2.2.2 := by
              rcases Nat.lt_or_ge j S.2.2.2 with q | q
              · exact q
              · have : j = S.2.2.2 := by omega
                rw [this, n11] at c3
                exact absurd c3 (by decide)
            exact ⟨j, hj, c2, c3⟩
        · have hj' : j < S.2.2.2 + 1 := hj
          show nsb (if j = S.2.2.2 then 0 else D.1 j) (if j = S.2.2.2 then 0 else D.2.1 j) n = true ↔ ∃ k m, k < S.2.2.2 + 1 ∧ n = k + 1 ∧ rch (S.1 15) (S.2.2.2 + 1) m j k
          by_cases e : j = S.2.2.2
          · rw [if_pos e, if_pos e, nsb_0]
            constructor
            · intro z; cases z
            · rintro ⟨k, m, c1, c2, c3⟩
              have := rch_first (N := S.2.2.2) i4.2 (by omega) m j k (by omega) (by omega) ((rch_grow (Nat.le_succ _) i4.2 hlt m j k (by omega) (by omega)).mp c3)
              omega
          · have hjn : j < S.2.2.2 := by omega
            rw [if_neg e, if_neg e, b2 j hjn n hn]
            constructor
            · rintro ⟨k, m, c1, c2, c3⟩
              exact ⟨k, m, Nat.lt_succ_of_lt c1, c2, (rch_grow (Nat.le_succ _) i4.2 hlt m j k (by omega) (by omega)).mpr c3⟩
            · rintro ⟨k, m, c1, c2, c3⟩
              have c3' := (rch_grow (Nat.le_succ _) i4.2 hlt m j k (by omega) (by omega)).mp c3
              exact ⟨k, m, rch_last (N := S.2.2.2) i4.2 (by omega) m j k (by omega) (by omega) c3', c2, c3'⟩
      · obtain ⟨b1, b2, b3⟩ := i11
        have low : ∀ j, j < S.2.2.2 + 1 → S.1 11 j = 2 → j < S.2.2.2 := fun j hj hj2 => by
          rcases Nat.lt_or_ge j S.2.2.2 with q | q
          · exact q
          · have : j = S.2.2.2 := by omega
            rw [this] at hj2
            exact absurd hj2 (e20 n11)
        refine ⟨fun j k hj hk h1 h2 h3 => ?_, fun j k hj hk h1 h2 h3 => b2 j k (low j hj h1) (low k hk h3) h1 h2 h3, fun j k hj hk h1 h2 => ?_⟩
        · have hj' := low j hj h1
          have hk' := low k hk h2
          have h3' : upd (S.1 10) S.2.2.2 x3 j = upd (S.1 10) S.2.2.2 x3 k := h3
          rw [hold _ _ j hj', hold _ _ k hk'] at h3'
          exact b1 j k hj' hk' h1 h2 h3'
        · have hj' : j < S.2.2.2 + 1 := hj
          have hk' : k < S.2.2.2 + 1 := hk
          have := i4.2 j k (by omega) (by omega) h2
          exact b3 j k this.1 this.2 h1 h2
  · exact C_job_no4 hW hm (M_job_no4 hm hW (fun h2 hW2 => ⟨rfl, hK h2 α _ D 0 ⟨hW2, hA⟩ rfl rfl⟩))
end SI2
