section LA
variable {h : hM} {α : Nat → Nat → Nat} {c : Nat → Nat → Option hE}
theorem c_upn {c : Nat → Nat → Option hE} {k i k' i' : Nat} {x : hE} (hn : k' ≠ k) : c_up c k i x k' i' = c k' i' := if_neg (fun e => hn e.1)
theorem c_ups {c : Nat → Nat → Option hE} {k i : Nat} {x : hE} : c_up c k i x k i = some x := if_pos ⟨rfl, rfl⟩
theorem c_up2 {c : Nat → Nat → Option hE} {k i : Nat} {x y : hE} : c_up (c_up c k i x) k i y = c_up c k i y := by
  funext k' i'
  unfold c_up
  by_cases hk : k' = k ∧ i' = i
  · rw [if_pos hk, if_pos hk]
  · rw [if_neg hk, if_neg hk, if_neg hk]
theorem c_upc {c : Nat → Nat → Option hE} {k i k2 i2 : Nat} {x y : hE} (hn : k ≠ k2) : c_up (c_up c k i x) k2 i2 y = c_up (c_up c k2 i2 y) k i x := by
  funext k' i'
  unfold c_up
  by_cases h1 : k' = k ∧ i' = i
  · rw [if_pos h1, if_neg (fun e => hn (h1.1.symm.trans e.1)), if_pos h1]
  · rw [if_neg h1]
    by_cases h2 : k' = k2 ∧ i' = i2
    · rw [if_pos h2, if_neg h1]
    · rw [if_neg h2, if_neg h1]
theorem a_upn {k i k' i' q : Nat} (hn : k' ≠ k) : a_up α k i q k' i' = α k' i' := if_neg (fun e => hn e.1)
theorem a_ups {k i q : Nat} : a_up α k i q k i = q := if_pos ⟨rfl, rfl⟩
theorem C_add11 {k1 k2 mo : Nat} {Q : hM → Prop} {m x : Int32} {n cap ci q : Nat} {el : Nat → Option Nat} {fq : List Value} (hk : k1 ≠ k2) (hW : Wd h α c) (h1 : c k1 0 = some (eO 5 [.int m, .ref (α k2 0), .int x])) (h2 : c k2 0 = some (eA 2 cap el)) (hn : n < cap) (hcap : cap ≤ 160) (hq : rd h q = some (eO ci fq)) (hci : w_el ci)
    (hQ : ∀ h', Wd h' α (c_up (c_up c k2 0 (eA 2 cap (va_up el n (some q)))) k1 0 (eO 5 [.int m, .ref (α k2 0), .int (nI (n + 1))])) → Q h') : P_AL_add_LAI_11 Q h (α k1 0) q (some (α k2 0)) (nI n) := by
  refine ⟨_, rfl, _, _, hW.1 k2 0 _ h2, vp_in_nI hn (by omega), ⟨ci, fq, hq, hci⟩, fun g2 e2 => ?_⟩
  rw [nI_clamp (by omega)] at e2
  have hW2 : Wd g2 α (c_up c k2 0 (eA 2 cap (va_up el n (some q)))) := by subst e2; exact hW.set k2 0 h2 _
  have h1' := (c_upn (c := c) (i := 0) (i' := 0) (x := eA 2 cap (va_up el n (some q))) hk).trans h1
  refine ⟨_, hW2.1 k1 0 _ h1', Nat.le_of_ble_eq_true rfl, fun g3 e3 => ?_⟩
  subst e3
  rw [nI_1]
  exact hQ _ (hW2.set k1 0 h1' _)
theorem rd_far {a y ci : Nat} {fs gs : List Value} {x : hE} (hy : rd h y = some (eO ci fs)) (ha : rd h a = some (eO 5 gs)) (hci : ci ≠ 5) : rd (h_up h a x) y = some (eO ci fs) := by
  rw [h_up_ne, hy]
  intro e
  rw [e, ha] at hy
  have := Option.some.inj hy
  unfold eO at this
  have h2 := congrArg Prod.fst (Sum.inr.inj (Sum.inr.inj (Sum.inr.inj this)))
  exact hci h2.symm
theorem rd_new {y q : Nat} {z x : hE} (hy : rd h y = some z) (hq : rd h q = none) : rd (h_up h q x) y = some z := by
  rw [h_up_ne, hy]
  intro e
  rw [e, hq] at hy
  cases hy
theorem w_el5 {ci : Nat} (h : w_el ci) : ci ≠ 5 := by rcases h with rfl | rfl <;> decide
/-- ArrayList.add -/
theorem C_add {k1 k2 : Nat} {Q : Int32 → hM → Prop} {m : Int32} {n cap ci q : Nat} {el : Nat → Option Nat} {fq : List Value} (hk : k1 ≠ k2) (hk2 : k2 < 50) (hW : Wd h α c) (h1 : c k1 0 = some (eO 5 [.int m, .ref (α k2 0), .int (nI n)])) (hA : (cap = 0 ∧ α k2 0 = α 50 0) ∨ (10 ≤ cap ∧ c k2 0 = some (eA 2 cap el))) (hn : n ≤ cap) (hn2 : n < 100) (hcap : cap ≤ 160) (hci : w_el ci) (hel : ∀ i, i < n → ∀ y, el i = some y → ∃ fs, rd h y = some (eO ci fs)) (hq : rd h q = some (eO ci fq))
    (hQ : ∀ (h' : hM) (α' : Nat → Nat → Nat) (cap' : Nat) (el' : Nat → Option Nat), Wd h' α' (c_up (c_up c k2 0 (eA 2 cap' el')) k1 0 (eO 5 [.int (m + 1), .ref (α' k2 0), .int (nI (n + 1))])) → (∀ k i, k ≠ k2 → α' k i = α k i) → n + 1 ≤ cap' → 10 ≤ cap' → cap' ≤ 160 → (∀ i, i < n → el' i = el i) → el' n = some q → (∀ i, n < i → (∀ i, n ≤ i → el i = none) → el' i = none) → Q 1 h') : P_AL_add_L Q h (α k1 0) q := by
  have r1 := hW.1 k1 0 _ h1
  refine ⟨_, _, r1, rfl, _, r1, Nat.le_of_ble_eq_true rfl, fun g1 e1 => ?_⟩
  have hW1 : Wd g1 α (c_up c k1 0 (eO 5 [.int (m + 1), .ref (α k2 0), .int (nI n)])) := by subst e1; exact hW.set k1 0 h1 _
  have hq1 : rd g1 q = some (eO ci fq) := by subst e1; exact rd_far hq r1 (w_el5 hci)
  have hel1 : ∀ i, i < n → ∀ y, el i = some y → ∃ fs, rd g1 y = some (eO ci fs) := fun i hi y hy => by
    obtain ⟨fs, hfs⟩ := hel i hi y hy
    subst e1
    exact ⟨fs, rd_far hfs r1 (w_el5 hci)⟩
  have s1 := hW1.1 k1 0 _ c_ups
  refine ⟨_, _, s1, rfl, _, _, s1, rfl, _, s1, ?_⟩
  by_cases hlt : n < cap
  · -- there is room
    rcases hA with ⟨e0, -⟩ | ⟨h10, h2⟩
    · omega
    have h2' := (c_upn (c := c) (k := k1) (i := 0) (i' := 0) (x := eO 5 [.int (m + 1), .ref (α k2 0), .int (nI n)]) (Ne.symm hk)).trans h2
    refine ⟨cap, Or.inr ⟨_, hW1.1 k2 0 _ h2'⟩, fun _ => ?_, fun z => absurd ((nI_eq (by omega) (by omega)).mp z) (by omega)⟩
    refine C_add11 (mo := 0) hk hW1 c_ups h2' hlt hcap hq1 hci (fun h' hW' => ?_)
    refine hQ h' α cap (va_up el n (some q)) ?_ (fun _ _ _ => rfl) hlt h10 hcap (fun i hi => va_up_ne _ _ (by omega)) (va_up_self _ _ _) (fun i hi hno => (va_up_ne _ _ (by omega)).trans (hno i (by omega)))
    rw [c_upc hk, c_up2] at hW'
    exact hW'
  · have hnc : n = cap := by omega
    subst hnc
    rcases hA with ⟨e0, ea⟩ | ⟨h10, h2⟩
    · -- the first of all
      subst e0
      have hg : g1.1 = α k2 0 := by rw [ea]; exact hW1.2.2.1
      refine ⟨0, Or.inl ⟨hg.symm, rfl⟩, fun z => absurd rfl z, fun _ => ⟨_, s1, _, _, s1, rfl, _, s1, _, _, s1, rfl, 0, Or.inl ⟨hg.symm, rfl⟩, fun x ex => ⟨fun z => ?_, fun _ => ⟨_, _, s1, rfl, fun _ => ?_, fun z => absurd hg.symm z⟩⟩⟩⟩
      · exfalso
        rw [ex] at z
        exact absurd z (by decide)
      · refine ⟨by decide, 10, by decide, by decide, fun qa hqa g2 e2 => ?_⟩
        have hW2 : Wd g2 (a_up α k2 0 qa) (c_up (c_up c k1 0 (eO 5 [.int (m + 1), .ref (α k2 0), .int (nI 0)])) k2 0 (eA 2 10 (fun _ => none))) := by subst e2; exact hW1.new k2 0 hk2 hqa _
        have hq2 : rd g2 q = some (eO ci fq) := by subst e2; exact rd_new hq1 hqa
        have h1'' := (c_upn (c := c_up c k1 0 (eO 5 [.int (m + 1), .ref (α k2 0), .int (nI 0)])) (k := k2) (i := 0) (i' := 0) (x := eA 2 10 (fun _ => none)) hk).trans c_ups
        have s2 := hW2.1 k1 0 _ h1''
        rw [a_upn hk] at s2
        refine ⟨_, s2, Nat.le_of_ble_eq_true rfl, fun g3 e3 => ?_⟩
        have hW3 : Wd g3 (a_up α k2 0 qa) (c_up (c_up (c_up c k1 0 (eO 5 [.int (m + 1), .ref (α k2 0), .int (nI 0)])) k2 0 (eA 2 10 (fun _ => none))) k1 0 (eO 5 [.int (m + 1), .ref (a_up α k2 0 qa k2 0), .int (nI 0)])) := by
          subst e3
          have := hW2.set k1 0 h1'' (eO 5 [.int (m + 1), .ref (a_up α k2 0 qa k2 0), .int (nI 0)])
          rw [a_upn hk, a_ups] at this
          rw [a_ups]
          exact this
        have hq3 : rd g3 q = some (eO ci fq) := by subst e3; exact rd_far hq2 s2 (w_el5 hci)
        have e1' : α k1 0 = a_up α k2 0 qa k1 0 := (a_upn hk).symm
        have e2' : some qa = some (a_up α k2 0 qa k2 0) := by rw [a_ups]
        rw [e1', e2']
        have hk2' := (c_upn (c := c_up (c_up c k1 0 (eO 5 [.int (m + 1), .ref (α k2 0), .int (nI 0)])) k2 0 (eA 2 10 (fun _ => none))) (k := k1) (i := 0) (i' := 0) (x := eO 5 [.int (m + 1), .ref (a_up α k2 0 qa k2 0), .int (nI 0)]) (Ne.symm hk)).trans c_ups
        refine C_add11 (mo := 0) hk hW3 c_ups hk2' (by decide) (by decide) hq3 hci (fun h' hW' => ?_)
        refine hQ h' (a_up α k2 0 qa) 10 (va_up (fun _ => none) 0 (some q)) ?_ (fun k i hne => a_upn hne) (by decide) (by decide) (by decide) (fun i hi => absurd hi (by omega)) (va_up_self _ _ _) (fun i hi _ => va_up_ne _ _ (by omega))
        rw [c_upc hk, c_up2, c_up2, c_upc (Ne.symm hk), c_up2] at hW'
        rw [c_upc (Ne.symm hk)]
        exact hW'
    · -- the array is full
      have hn5 : 5 ≤ n / 2 := by omega
      have h2' := (c_upn (c := c) (k := k1) (i := 0) (i' := 0) (x := eO 5 [.int (m + 1), .ref (α k2 0), .int (nI n)]) (Ne.symm hk)).trans h2
      have ra := hW1.1 k2 0 _ h2'
      have hlen : ∀ x2 : Int32, x2 = nI n → x2 + (if (nI n + 1) - x2 < (x2 >>> ((1 : Int32) &&& 31)) then (x2 >>> ((1 : Int32) &&& 31)) else (nI n + 1) - x2) = nI (n + n / 2) := by
        intro x2 ex
        subst ex
        have es : nI n >>> ((1 : Int32) &&& 31) = nI (n / 2) := by
          have k := pk_shrN (n := n) (by omega) ((1 : Int32) &&& 31) 1 (by decide)
          rw [Nat.pow_one] at k
          exact k
        have ed : nI n + 1 - nI n = nI 1 := by
          rw [nI_1, pk_sub (by omega), Nat.add_sub_cancel_left]
        rw [es, ed, if_pos (nI_lt (by omega) (by omega)), nI_add]
      refine ⟨n, Or.inr ⟨_, ra⟩, fun z => absurd rfl z, fun _ => ⟨_, s1, _, _, s1, rfl, _, s1, _, _, s1, rfl, n, Or.inr ⟨_, ra⟩, fun x2 ex => ⟨fun _ => ?_, fun z => ?_⟩⟩⟩
      · intro x3 ex3
        rw [hlen x2 ex] at ex3
        subst ex3
        refine ⟨fun z => absurd z (nI_nle (by omega) (by omega)), fun _ => ⟨fun z => absurd z (by rw [show (2147483639 : Int32) = nI 2147483639 from rfl]; exact nI_nlt (by omega) (by decide)), fun _ => ?_⟩⟩
        refine ⟨_, _, s1, rfl, _, _, ra, fun z => absurd rfl z, fun _ => ⟨nI_pos (by omega), n + n / 2, nI_clamp (by omega), by omega, fun qa hqa g2 e2 => ?_⟩⟩
        have hmin : (if nI (n + n / 2) < nI n then nI (n + n / 2) else nI n) = nI n := if_neg (nI_nlt (by omega) (by omega))
        have e00 : (0 : Int32).toNatClampNeg = 0 := by decide
        have ecl : (nI n).toNatClampNeg = n := nI_clamp (by omega)
        have ra2 : rd g2 (α k2 0) = some (eA 2 n el) := by subst e2; exact rd_new ra hqa
        have hW2 : Wd g2 (a_up α k2 0 qa) (c_up (c_up c k1 0 (eO 5 [.int (m + 1), .ref (α k2 0), .int (nI n)])) k2 0 (eA 2 (n + n / 2) (fun _ => none))) := by subst e2; exact hW1.new k2 0 hk2 hqa _
        have hq2 : rd g2 q = some (eO ci fq) := by subst e2; exact rd_new hq1 hqa
        have hel2 : ∀ i, i < n → ∀ y, el i = some y → ∃ fs, rd g2 y = some (eO ci fs) := fun i hi y hy => by
          obtain ⟨fs, hfs⟩ := hel1 i hi y hy
          subst e2
          exact ⟨fs, rd_new hfs hqa⟩
        have rqa : rd g2 qa = some (eA 2 (n + n / 2) (fun _ => none)) := by subst e2; exact h_up_self _ _ _
        unfold P_Arrs_copyOf_AIL_24
        refine ⟨n, Or.inr ⟨_, ra2⟩, n, el, n + n / 2, fun _ => none, ra2, rqa, by decide, by decide, ?_, ?_, ?_, ⟨ci, hci, ?_⟩, fun g3 e3 => ?_⟩
        · rw [hmin]; exact nI_pos (by omega)
        · rw [hmin, e00, ecl]; omega
        · rw [hmin, e00, ecl]; omega
        · rw [hmin, e00, ecl]
          intro i hi y hy
          rw [Nat.zero_add] at hy
          exact hel2 i hi y hy
        · rw [hmin, e00, ecl] at e3
          have hW3 : Wd g3 (a_up α k2 0 qa) (c_up (c_up (c_up c k1 0 (eO 5 [.int (m + 1), .ref (α k2 0), .int (nI n)])) k2 0 (eA 2 (n + n / 2) (fun _ => none))) k2 0 (eA 2 (n + n / 2) (va_cpy el (fun _ => none) 0 0 n))) := by
            subst e3
            have := hW2.set k2 0 c_ups (eA 2 (n + n / 2) (va_cpy el (fun _ => none) 0 0 n))
            rw [a_ups] at this
            exact this
          rw [c_up2] at hW3
          have hq3 : rd g3 q = some (eO ci fq) := by
            subst e3
            rw [h_up_ne, hq2]
            intro e
            rw [e, rqa] at hq2
            cases hq2
          have h1'' := (c_upn (c := c_up c k1 0 (eO 5 [.int (m + 1), .ref (α k2 0), .int (nI n)])) (k := k2) (i := 0) (i' := 0) (x := eA 2 (n + n / 2) (va_cpy el (fun _ => none) 0 0 n)) hk).trans c_ups
          have s3 := hW3.1 k1 0 _ h1''
          rw [a_upn hk] at s3
          refine ⟨_, s3, Nat.le_of_ble_eq_true rfl, fun g4 e4 => ?_⟩
          have hW4 : Wd g4 (a_up α k2 0 qa) (c_up (c_up (c_up c k1 0 (eO 5 [.int (m + 1), .ref (α k2 0), .int (nI n)])) k2 0 (eA 2 (n + n / 2) (va_cpy el (fun _ => none) 0 0 n))) k1 0 (eO 5 [.int (m + 1), .ref (a_up α k2 0 qa k2 0), .int (nI n)])) := by
            subst e4
            have := hW3.set k1 0 h1'' (eO 5 [.int (m + 1), .ref (a_up α k2 0 qa k2 0), .int (nI n)])
            rw [a_upn hk, a_ups] at this
            rw [a_ups]
            exact this
          have hq4 : rd g4 q = some (eO ci fq) := by subst e4; exact rd_far hq3 s3 (w_el5 hci)
          have e1' : α k1 0 = a_up α k2 0 qa k1 0 := (a_upn hk).symm
          have e2' : some qa = some (a_up α k2 0 qa k2 0) := by rw [a_ups]
          rw [e1', e2']
          have hk2' := (c_upn (c := c_up (c_up c k1 0 (eO 5 [.int (m + 1), .ref (α k2 0), .int (nI n)])) k2 0 (eA 2 (n + n / 2) (va_cpy el (fun _ => none) 0 0 n))) (k := k1) (i := 0) (i' := 0) (x := eO 5 [.int (m + 1), .ref (a_up α k2 0 qa k2 0), .int (nI n)]) (Ne.symm hk)).trans c_ups
          refine C_add11 (mo := 0) hk hW4 c_ups hk2' (by omega) (by omega) hq4 hci (fun h' hW' => ?_)
          refine hQ h' (a_up α k2 0 qa) (n + n / 2) (va_up (va_cpy el (fun _ => none) 0 0 n) n (some q)) ?_ (fun k i hne => a_upn hne) (by omega) (by omega) (by omega) (fun i hi => ?_) (va_up_self _ _ _) (fun i hi _ => ?_)
          · rw [c_upc hk, c_up2, c_up2, c_upc (Ne.symm hk), c_up2] at hW'
            rw [c_upc (Ne.symm hk)]
            exact hW'
          · rw [va_up_ne _ _ (by omega), pk_cpy_in (by omega) (by omega), Nat.zero_add, Nat.sub_zero]
          · rw [va_up_ne _ _ (by omega), pk_cpy_out (by omega)]
      · exfalso
        rw [ex] at z
        exact z (nI_lt (a := 0) (by omega) (by omega))
end LA
