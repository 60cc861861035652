/-! what holds between calls -/
def sm (f : Nat → Nat) : Nat → Nat
  | 0 => 0
  | n + 1 => sm f n + f n
/-- a set of numbers 0 .. 127 in two words -/
def nsb (lo hi : Int64) (n : Nat) : Bool := if n < 64 then lo.toBitVec.getLsbD n else hi.toBitVec.getLsbD (n - 64)
/-- needs by a way of n + 1 steps -/
def rch (e : Nat → Int32) (N : Nat) : Nat → Nat → Nat → Prop
  | 0, j, k => e (100 * j + k) = 1
  | n + 1, j, k => ∃ m, m < N ∧ e (100 * j + m) = 1 ∧ rch e N n m k
def I_num (S : mS) : Prop := S.2.2.1 ≤ 12 ∧ S.2.2.2 ≤ 100 ∧ 0 ≤ (S.2.1 2 0).toInt ∧ 0 ≤ (S.2.1 3 0).toInt ∧ 0 ≤ (S.1 17 0).toInt ∧ (S.1 17 0).toInt ≤ 15
def I_job1 (S : mS) (j : Nat) : Prop := (0 ≤ (S.1 8 j).toInt ∧ (S.1 8 j).toInt < 36) ∧ (0 ≤ (S.1 9 j).toInt ∧ (S.1 9 j).toInt ≤ 15) ∧ (0 ≤ (S.1 10 j).toInt ∧ (S.1 10 j).toInt ≤ 99) ∧ (S.1 11 j = 0 ∨ S.1 11 j = 2 ∨ S.1 11 j = 3) ∧ (S.1 13 j = 0 ∨ (S.1 13 j = 1 ∧ S.1 11 j = 0)) ∧ (S.1 14 j = 0 ∨ S.1 14 j = 1) ∧ (0 ≤ (S.2.1 0 j).toInt ∧ (S.2.1 0 j).toInt ≤ (S.2.1 2 0).toInt) ∧ ∀ p, p < 4 → 0 ≤ (S.1 12 (4 * j + p)).toInt ∧ (S.1 12 (4 * j + p)).toInt ≤ 1000
def I_job (S : mS) : Prop := ∀ j, j < S.2.2.2 → I_job1 S j
def I_new (S : mS) : Prop := ∀ j, S.2.2.2 ≤ j → j < 100 → S.1 11 j = 0 ∧ S.1 13 j = 0 ∧ S.1 14 j = 0 ∧ ∀ p, p < 4 → S.1 12 (4 * j + p) = 0
def I_ned (S : mS) : Prop := (∀ e, e < 10000 → S.1 15 e = 0 ∨ S.1 15 e = 1) ∧ ∀ j k, j < 100 → k < 100 → S.1 15 (100 * j + k) = 1 → j < S.2.2.2 ∧ k < S.2.2.2
def I_ini (S : mS) : Prop := ∀ i, i < S.2.2.1 → (S.1 2 i = 0 ∨ S.1 2 i = 1) ∧ ∀ p, p < 8 → -1 ≤ (S.1 0 (8 * i + p)).toInt ∧ (S.1 0 (8 * i + p)).toInt < 36
def I_nin (S : mS) : Prop := ∀ i, S.2.2.1 ≤ i → i < 12 → S.1 1 i = -1 ∧ S.1 2 i = 0 ∧ ∀ p, p < 8 → S.1 0 (8 * i + p) = -1
def I_wei (S : mS) : Prop := ∀ c, c < 36 → 0 ≤ (S.1 6 c).toInt ∧ (S.1 6 c).toInt ≤ 1000
def I_lis (α : Nat → Nat → Nat) (S : mS) (D : dS) : Prop := LOk α D 0 15 S.2.2.1 ∧ LOk α D 1 17 S.2.2.2 ∧ (D.2.2.2.2.2.1 0 = 0 ∨ 10 ≤ D.2.2.2.2.2.1 0) ∧ (D.2.2.2.2.2.1 1 = 0 ∨ 10 ≤ D.2.2.2.2.2.1 1)
/-- the sums over the running jobs -/
def I_loa (S : mS) (D : dS) : Prop := (∀ c, c < 36 → D.2.2.2.1 0 c = nI (sm (fun j => if S.1 11 j = 2 ∧ S.1 8 j = nI c then 1 else 0) S.2.2.2)) ∧ (∀ p, p < 4 → D.2.2.2.1 1 p = nI (sm (fun j => if S.1 11 j = 2 then (S.1 12 (4 * j + p)).toNatClampNeg else 0) S.2.2.2)) ∧ D.2.2.2.2.1 0 = nI (sm (fun j => if S.1 11 j = 2 then 1 else 0) S.2.2.2) ∧ ((D.2.2.2.2.1 1 = 1 ∧ ∃ j, j < S.2.2.2 ∧ S.1 11 j = 2 ∧ S.1 14 j = 1) ∨ (D.2.2.2.2.1 1 = 0 ∧ ∀ j, j < S.2.2.2 → S.1 11 j = 2 → S.1 14 j = 0)) ∧ (∀ n, n < 100 → (nsb (D.2.2.1 2) (D.2.2.1 3) n = true ↔ ∃ j, j < S.2.2.2 ∧ S.1 11 j = 2 ∧ S.1 10 j = nI n))
def I_bit (S : mS) (D : dS) : Prop := (∀ n, n < 128 → (nsb (D.2.2.1 0) (D.2.2.1 1) n = true ↔ ∃ j, j < S.2.2.2 ∧ n = j + 1 ∧ S.1 11 j = 3)) ∧ (∀ j, j < S.2.2.2 → ∀ n, n < 128 → (nsb (D.1 j) (D.2.1 j) n = true ↔ ∃ k m, k < S.2.2.2 ∧ n = k + 1 ∧ rch (S.1 15) S.2.2.2 m j k))
def I_exc (S : mS) : Prop := (∀ j k, j < S.2.2.2 → k < S.2.2.2 → S.1 11 j = 2 → S.1 11 k = 2 → S.1 10 j = S.1 10 k → j = k) ∧ (∀ j k, j < S.2.2.2 → k < S.2.2.2 → S.1 11 j = 2 → S.1 14 j = 1 → S.1 11 k = 2 → j = k) ∧ (∀ j k, j < S.2.2.2 → k < S.2.2.2 → ¬ S.1 11 j = 0 → S.1 15 (100 * j + k) = 1 → S.1 11 k = 3)
def I_all (α : Nat → Nat → Nat) (S : mS) (D : dS) : Prop := I_num S ∧ I_job S ∧ I_new S ∧ I_ned S ∧ I_ini S ∧ I_nin S ∧ I_wei S ∧ I_lis α S D ∧ I_loa S D ∧ I_bit S D ∧ I_exc S
def INV (h : hM) (α : Nat → Nat → Nat) (S : mS) (D : dS) (th : Int32) : Prop := Wd h α (cA α S D S th) ∧ I_all α S D
/-- what must hold so that the law goes on -/
def Go (α : Nat → Nat → Nat) (K : hM → Prop) : Prop := ∀ (h' : hM) (α' : Nat → Nat → Nat) (S' : mS) (D' : dS) (th' : Int32), INV h' α' S' D' th' → α' 0 0 = α 0 0 → (α' 20 0, α' 44 0) = (α 20 0, α 44 0) → K h'
section SI
variable {h : hM} {α : Nat → Nat → Nat} {S : mS} {D : dS} {th : Int32} {x1 x2 x3 : Int32} {K : hM → Prop}
theorem i_nat {x : Int32} {n : Nat} (h0 : 0 ≤ x.toInt) (h1 : x.toInt < n) : ∃ c, c < n ∧ x = nI c := by
  refine ⟨x.toInt.toNat, by omega, ?_⟩
  apply Int32.toInt_inj.mp
  have hb : x.toInt < 2 ^ 31 := by have := Int32.toInt_lt x; exact this
  rw [nI_toInt (by omega)]
  omega
theorem i_num {x : Int32} {n : Nat} (h0 : 1 ≤ x.toInt) (h1 : x.toInt ≤ n) : ∃ j, j < n ∧ x = nI (j + 1) := by
  obtain ⟨c, hc, e⟩ := i_nat (x := x) (n := n + 1) (by omega) (by omega)
  have : c ≠ 0 := by
    intro e0
    rw [e, e0, nI_toInt (by decide)] at h0
    omega
  exact ⟨c - 1, by omega, by rw [e]; congr 1; omega⟩
theorem sim_limit (hI : INV h α S D th) (hK : Go α K) : P_Rows_limit (fun r h1 => P_Mod_limit (fun r' h2 => r = r' ∧ K h2) h1 (α 20 0) x1 x2) h (α 0 0) x1 x2 := by
  obtain ⟨hW, hA⟩ := hI
  by_cases hn : (0 ≤ x1.toInt ∧ x1.toInt < 36) ∧ 0 ≤ x2.toInt ∧ x2.toInt ≤ 40
  · obtain ⟨c, hc, rfl⟩ := i_nat (n := 36) hn.1.1 hn.1.2
    exact C_limit_ok hc hn.2.1 hn.2.2 hW (fun h1 hW1 => M_limit_ok hc hn.2.1 hn.2.2 hW1 (fun h2 hW2 => ⟨rfl, hK h2 α _ D 0 ⟨hW2, hA⟩ rfl rfl⟩))
  · exact C_limit_no hn (M_limit_no hn hW (fun h2 hW2 => ⟨rfl, hK h2 α _ D 0 ⟨hW2, hA⟩ rfl rfl⟩))
theorem sim_window (hI : INV h α S D th) (hK : Go α K) : P_Rows_window (fun r h1 => P_Mod_window (fun r' h2 => r = r' ∧ K h2) h1 (α 20 0) x1 x2 x3) h (α 0 0) x1 x2 x3 := by
  obtain ⟨hW, hA⟩ := hI
  by_cases hn : (0 ≤ x1.toInt ∧ x1.toInt < 36) ∧ (0 ≤ x2.toInt ∧ x2.toInt < 1440) ∧ 0 ≤ x3.toInt ∧ x3.toInt < 1440
  · obtain ⟨c, hc, rfl⟩ := i_nat (n := 36) hn.1.1 hn.1.2
    obtain ⟨-, ⟨a2, b2⟩, a3, b3⟩ := hn
    exact C_window_ok hc a2 b2 a3 b3 hW (fun h1 hW1 => M_window_ok hc a2 b2 a3 b3 hW1 (fun h2 hW2 => ⟨rfl, hK h2 α _ D 0 ⟨hW2, hA⟩ rfl rfl⟩))
  · exact C_window_no hn (M_window_no hn hW (fun h2 hW2 => ⟨rfl, hK h2 α _ D 0 ⟨hW2, hA⟩ rfl rfl⟩))
theorem sim_units (hI : INV h α S D th) (hK : Go α K) : P_Rows_units (fun r h1 => P_Mod_units (fun r' h2 => r = r' ∧ K h2) h1 (α 20 0) x1 x2) h (α 0 0) x1 x2 := by
  obtain ⟨hW, hA⟩ := hI
  by_cases hn : (0 ≤ x1.toInt ∧ x1.toInt < 4) ∧ 0 ≤ x2.toInt ∧ x2.toInt ≤ 1000
  · obtain ⟨c, hc, rfl⟩ := i_nat (n := 4) hn.1.1 hn.1.2
    exact C_units_ok hc hn.2.1 hn.2.2 hW (fun h1 hW1 => M_units_ok hc hn.2.1 hn.2.2 hW1 (fun h2 hW2 => ⟨rfl, hK h2 α _ D 0 ⟨hW2, hA⟩ rfl rfl⟩))
  · exact C_units_no hn (M_units_no hn hW (fun h2 hW2 => ⟨rfl, hK h2 α _ D 0 ⟨hW2, hA⟩ rfl rfl⟩))
theorem upd_all {P : Int32 → Prop} {f : Nat → Int32} {c i : Nat} {v : Int32} (hv : P v) (hf : P (f i)) : P (upd f c v i) := by
  unfold upd
  by_cases e : i = c
  · rw [if_pos e]; exact hv
  · rw [if_neg e]; exact hf
theorem sim_weight (hI : INV h α S D th) (hK : Go α K) : P_Rows_weight (fun r h1 => P_Mod_weight (fun r' h2 => r = r' ∧ K h2) h1 (α 20 0) x1 x2) h (α 0 0) x1 x2 := by
  obtain ⟨hW, hA⟩ := hI
  by_cases hn : (0 ≤ x1.toInt ∧ x1.toInt < 36) ∧ 0 ≤ x2.toInt ∧ x2.toInt ≤ 1000
  · obtain ⟨c, hc, rfl⟩ := i_nat (n := 36) hn.1.1 hn.1.2
    obtain ⟨i1, i2, i3, i4, i5, i6, i7, i8⟩ := hA
    have i7' : I_wei (s_up S 6 c x2) := fun i hi => upd_all (P := fun v => 0 ≤ v.toInt ∧ v.toInt ≤ 1000) hn.2 (i7 i hi)
    exact C_weight_ok hc hn.2.1 hn.2.2 hW (fun h1 hW1 => M_weight_ok hc hn.2.1 hn.2.2 hW1 (fun h2 hW2 => ⟨rfl, hK h2 α _ D 0 ⟨hW2, i1, i2, i3, i4, i5, i6, i7', i8⟩ rfl rfl⟩))
  · exact C_weight_no hn (M_weight_no hn hW (fun h2 hW2 => ⟨rfl, hK h2 α _ D 0 ⟨hW2, hA⟩ rfl rfl⟩))
theorem sim_age {x1 : Int64} (hI : INV h α S D th) (hK : Go α K) : P_Rows_age (fun r h1 => P_Mod_age (fun r' h2 => r = r' ∧ K h2) h1 (α 20 0) x1 x3) h (α 0 0) x1 x3 := by
  obtain ⟨hW, hA⟩ := hI
  by_cases hn : 0 ≤ x1.toInt ∧ 0 ≤ x3.toInt ∧ x3.toInt ≤ 15
  · obtain ⟨⟨a1, a2, a3, a4, a5, a6⟩, i2⟩ := hA
    have i1' : I_num (s_up (s_upL S 3 0 x1) 17 0 x3) := ⟨a1, a2, a3, hn.1, hn.2.1, hn.2.2⟩
    exact C_age_ok hn.1 hn.2.1 hn.2.2 hW (fun h1 hW1 => M_age_ok hn.1 hn.2.1 hn.2.2 hW1 (fun h2 hW2 => ⟨rfl, hK h2 α _ D 0 ⟨hW2, i1', i2⟩ rfl rfl⟩))
  · exact C_age_no hn (M_age_no hn hW (fun h2 hW2 => ⟨rfl, hK h2 α _ D 0 ⟨hW2, hA⟩ rfl rfl⟩))
theorem sim_state (hI : INV h α S D th) (hK : Go α K) : P_Rows_state (fun r h1 => P_Mod_state (fun r' h2 => r = r' ∧ K h2) h1 (α 20 0) x1) h (α 0 0) x1 := by
  obtain ⟨hW, hA⟩ := hI
  have hb := hA.1.2.1
  by_cases hn : 1 ≤ x1.toInt ∧ x1.toInt ≤ S.2.2.2
  · obtain ⟨j, hj, rfl⟩ := i_num hn.1 hn.2
    have hj1 := hA.2.1 j hj
    exact C_state_ok hb hA.2.2.2.2.2.2.2.1.2.1 hj hW (M_state_ok hj hb (hj1.2.2.2.2.1.imp id And.left) hW (fun h2 hW2 => ⟨rfl, hK h2 α _ D 0 ⟨hW2, hA⟩ rfl rfl⟩))
  · exact C_state_2 hb hn hW (M_state_2 hn hb hW (fun h2 hW2 => ⟨rfl, hK h2 α _ D 0 ⟨hW2, hA⟩ rfl rfl⟩))
theorem sim_waited (hI : INV h α S D th) (hK : Go α K) : P_Rows_waited (fun r h1 => P_Mod_waited (fun r' h2 => r = r' ∧ K h2) h1 (α 20 0) x1) h (α 0 0) x1 := by
  obtain ⟨hW, hA⟩ := hI
  have hb := hA.1.2.1
  by_cases hn : 1 ≤ x1.toInt ∧ x1.toInt ≤ S.2.2.2
  · obtain ⟨j, hj, rfl⟩ := i_num hn.1 hn.2
    have hj1 := hA.2.1 j hj
    exact C_waited_ok hb hA.2.2.2.2.2.2.2.1.2.1 hj hj1.2.2.2.1 hW (M_waited_ok hj hb hW (fun h2 hW2 => ⟨rfl, hK h2 α _ D 0 ⟨hW2, hA⟩ rfl rfl⟩))
  · exact C_waited_2 hb hn hW (M_waited_2 hn hb hW (fun h2 hW2 => ⟨rfl, hK h2 α _ D 0 ⟨hW2, hA⟩ rfl rfl⟩))
theorem sim_cls (hI : INV h α S D th) (hK : Go α K) : P_Rows_cls (fun r h1 => P_Mod_cls (fun r' h2 => r = r' ∧ K h2) h1 (α 20 0) x1 x2 x3) h (α 0 0) x1 x2 x3 := by
  obtain ⟨hW, hA⟩ := hI
  have hb := hA.1.1
  by_cases hn : 1 ≤ x1.toInt ∧ x1.toInt ≤ S.2.2.1
  · obtain ⟨j, hj, rfl⟩ := i_num hn.1 hn.2
    by_cases hm : (0 ≤ x2.toInt ∧ x2.toInt < 8) ∧ -1 ≤ x3.toInt ∧ x3.toInt < 36
    · obtain ⟨q, hq, rfl⟩ := i_nat (n := 8) hm.1.1 hm.1.2
      obtain ⟨i1, i2, i3, i4, i5, i6, i7⟩ := hA
      have i5' : I_ini (s_up S 0 (8 * j + q) x3) := fun i hi => ⟨(i5 i hi).1, fun p hp => upd_all (P := fun v => -1 ≤ v.toInt ∧ v.toInt < 36) hm.2 ((i5 i hi).2 p hp)⟩
      have i6' : I_nin (s_up S 0 (8 * j + q) x3) := fun i hi hi2 => ⟨(i6 i hi hi2).1, (i6 i hi hi2).2.1, fun p hp => by
        show upd (S.1 0) (8 * j + q) x3 (8 * i + p) = -1
        have : j < i := Nat.lt_of_lt_of_le hj hi
        rw [pk_un (by omega)]
        exact (i6 i hi hi2).2.2 p hp⟩
      exact C_cls_ok hb i7.2.1.1 hj hq hm.2.1 hm.2.2 hW (fun h1 hW1 => M_cls_ok hj hb hq hm.2.1 hm.2.2 hW1 (fun h2 hW2 => ⟨rfl, hK h2 α _ D 0 ⟨hW2, i1, i2, i3, i4, i5', i6', i7⟩ rfl rfl⟩))
    · exact C_cls_4 hb hA.2.2.2.2.2.2.2.1.1 hj hm hW (M_cls_4 hj hb hm hW (fun h2 hW2 => ⟨rfl, hK h2 α _ D 0 ⟨hW2, hA⟩ rfl rfl⟩))
  · exact C_cls_2 hb hn hW (M_cls_2 hn hb hW (fun h2 hW2 => ⟨rfl, hK h2 α _ D 0 ⟨hW2, hA⟩ rfl rfl⟩))
theorem sim_drain (hx : x2 = 0 ∨ x2 = 1) (hI : INV h α S D th) (hK : Go α K) : P_Rows_drain (fun r h1 => P_Mod_drain (fun r' h2 => r = r' ∧ K h2) h1 (α 20 0) x1 x2) h (α 0 0) x1 x2 := by
  obtain ⟨hW, hA⟩ := hI
  have hb := hA.1.1
  by_cases hn : 1 ≤ x1.toInt ∧ x1.toInt ≤ S.2.2.1
  · obtain ⟨j, hj, rfl⟩ := i_num hn.1 hn.2
    obtain ⟨i1, i2, i3, i4, i5, i6, i7⟩ := hA
    have i5' : I_ini (s_up S 2 j x2) := fun i hi => ⟨upd_all (P := fun v => v = 0 ∨ v = 1) hx (i5 i hi).1, (i5 i hi).2⟩
    have i6' : I_nin (s_up S 2 j x2) := fun i hi hi2 => ⟨(i6 i hi hi2).1, by
        show upd (S.1 2) j x2 i = 0
        have : j < i := Nat.lt_of_lt_of_le hj hi
        rw [pk_un (by omega)]
        exact (i6 i hi hi2).2.1, (i6 i hi hi2).2.2⟩
    exact C_drain_ok hb i7.2.1.1 hj hx hW (fun h1 hW1 => M_drain_ok hj hb hx hW1 (fun h2 hW2 => ⟨rfl, hK h2 α _ D 0 ⟨hW2, i1, i2, i3, i4, i5', i6', i7⟩ rfl rfl⟩))
  · exact C_drain_2 hb hn hW (M_drain_2 hn hb hW (fun h2 hW2 => ⟨rfl, hK h2 α _ D 0 ⟨hW2, hA⟩ rfl rfl⟩))
end SI
