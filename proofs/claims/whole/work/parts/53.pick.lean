/-- the best of the jobs below i that wait in class c and may start -/
noncomputable def bst (S : mS) (c : Int32) : Nat → Option Nat
  | 0 => none
  | i + 1 => @ite _ (S.1 8 i = c ∧ may S i) (Classical.propDecidable _) (match bst S c i with
    | none => some i
    | some b => if pri S b < pri S i then some i else some b) (bst S c i)
/-- the job that the places below p give -/
noncomputable def pck (S : mS) (i : Nat) : Nat → Option Nat
  | 0 => none
  | p + 1 => match pck S i p with
    | some b => some b
    | none => bst S (S.1 0 (8 * i + p)) S.2.2.2
theorem bst_no {S : mS} {c : Int32} {i : Nat} (h : ¬ (S.1 8 i = c ∧ may S i)) : bst S c (i + 1) = bst S c i := by
  show @ite _ (S.1 8 i = c ∧ may S i) (Classical.propDecidable _) _ (bst S c i) = _
  rw [if_neg h]
theorem bst_none {S : mS} {c : Int32} {i : Nat} (h : S.1 8 i = c ∧ may S i) (hb : bst S c i = none) : bst S c (i + 1) = some i := by
  show @ite _ (S.1 8 i = c ∧ may S i) (Classical.propDecidable _) _ (bst S c i) = _
  rw [if_pos h, hb]
theorem bst_up {S : mS} {c : Int32} {i b : Nat} (h : S.1 8 i = c ∧ may S i) (hb : bst S c i = some b) (hp : pri S b < pri S i) : bst S c (i + 1) = some i := by
  show @ite _ (S.1 8 i = c ∧ may S i) (Classical.propDecidable _) _ (bst S c i) = _
  rw [if_pos h, hb]
  exact if_pos hp
theorem bst_keep {S : mS} {c : Int32} {i b : Nat} (h : S.1 8 i = c ∧ may S i) (hb : bst S c i = some b) (hp : ¬ pri S b < pri S i) : bst S c (i + 1) = some b := by
  show @ite _ (S.1 8 i = c ∧ may S i) (Classical.propDecidable _) _ (bst S c i) = _
  rw [if_pos h, hb]
  exact if_neg hp
theorem bst_in {S : mS} {c : Int32} : ∀ {i b : Nat}, bst S c i = some b → b < i ∧ S.1 8 b = c ∧ may S b := by
  intro i
  induction i with
  | zero => intro b h; exact (nomatch h)
  | succ i ih =>
    intro b h
    by_cases q : S.1 8 i = c ∧ may S i
    · cases e : bst S c i with
      | none =>
        rw [bst_none q e] at h
        cases h
        exact ⟨Nat.lt_succ_self i, q⟩
      | some b' =>
        by_cases p : pri S b' < pri S i
        · rw [bst_up q e p] at h
          cases h
          exact ⟨Nat.lt_succ_self i, q⟩
        · rw [bst_keep q e p] at h
          cases h
          obtain ⟨h1, h2⟩ := ih e
          exact ⟨by omega, h2⟩
    · rw [bst_no q] at h
      obtain ⟨h1, h2⟩ := ih h
      exact ⟨by omega, h2⟩
theorem pck_some {S : mS} {i p b : Nat} (h : pck S i p = some b) : pck S i (p + 1) = some b := by
  show (match pck S i p with | some b => some b | none => _) = _
  rw [h]
theorem pck_none {S : mS} {i p : Nat} (h : pck S i p = none) : pck S i (p + 1) = bst S (S.1 0 (8 * i + p)) S.2.2.2 := by
  show (match pck S i p with | some b => some b | none => _) = _
  rw [h]
theorem pck_le {S : mS} {i p b : Nat} (h : pck S i p = some b) : ∀ {q : Nat}, p ≤ q → pck S i q = some b := by
  intro q
  induction q with
  | zero => intro hq; rw [Nat.le_zero.mp hq] at h; exact h
  | succ q ih =>
    intro hq
    by_cases e : p = q + 1
    · rw [← e]; exact h
    · exact pck_some (ih (by omega))
theorem pck_in {S : mS} {i : Nat} : ∀ {p b : Nat}, pck S i p = some b → b < S.2.2.2 ∧ may S b := by
  intro p
  induction p with
  | zero => intro b h; exact (nomatch h)
  | succ p ih =>
    intro b h
    cases e : pck S i p with
    | some b' =>
      rw [pck_some e] at h
      cases h
      exact ih e
    | none =>
      rw [pck_none e] at h
      obtain ⟨h1, _, h2⟩ := bst_in h
      exact ⟨h1, h2⟩
def oI : Option Nat → Int32
  | none => -1
  | some b => nI b
theorem nI_nm1 {b : Nat} (hb : b < 2 ^ 31) : ¬ nI b = -1 := fun e => by
  have : (nI b).toInt = b := nI_toInt hb
  rw [e] at this
  have : (-1 : Int32).toInt = -1 := by decide
  omega
section PK
variable {h : hM} {α : Nat → Nat → Nat} {R S : mS} {D : dS} {th : Int32} {c : Int32}
theorem C_nextOfClass {Q : Option Nat → hM → Prop} (hW : Wd h α (cA α R D S th)) (hA : I_all α R D) (hQ : Q ((bst R c R.2.2.2).map (α 17)) h) : P_Rows_nextOfClass Q h (α 0 0) c := by
  have hb := hA.1.2.1
  have hL := hA.2.2.2.2.2.2.2.1.2.1
  have r0 := hW.1 0 0 _ rfl
  have loop : ∀ (n i : Nat), i ≤ R.2.2.2 → R.2.2.2 < i + n → L_Rows_nextOfClass_4 Q n h (α 0 0) c ((bst R c i).map (α 17)) (nI i) := by
    intro n
    induction n with
    | zero => intro i h1 h2; omega
    | succ n ih =>
      intro i hi hn
      refine ⟨_, _, r0, rfl, _, hW.1 3 0 _ rfl, _, _, hW.1 3 0 _ rfl, rfl, fun z => ?_, fun z => ?_⟩
      · have : R.2.2.2 ≤ i := (nI_leI (by omega) (by omega)).mp z
        have e : i = R.2.2.2 := by omega
        rw [e]
        exact hQ
      · have hlt : i < R.2.2.2 := by
          rcases Nat.lt_or_ge i R.2.2.2 with q | q
          · exact q
          · exact absurd (nI_le q (by omega)) z
        have go : ∀ o, bst R c (i + 1) = o → P_Rows_nextOfClass_67 Q (L_Rows_nextOfClass_4 Q n) h (α 0 0) c (o.map (α 17)) (nI i) := by
          intro o ho y ey
          rw [nI_1] at ey
          rw [ey, ← ho]
          exact ih (i + 1) hlt (by omega)
        refine ⟨_, _, r0, rfl, _, hW.1 3 0 _ rfl, C_getJob hW hL hlt ⟨fun z => (nomatch z), fun a e => ?_⟩⟩
        cases e
        have r := hW.1 17 i _ (cA_17 hlt)
        refine ⟨⟨_, r⟩, _, _, r, rfl, fun y => go _ (bst_no (fun q => y q.1)), fun y => ⟨_, r0, ?_⟩⟩
        refine C_may hW hA hlt (fun m => ⟨fun w => absurd w (by decide), fun _ => ?_⟩) (fun m => ⟨fun _ => go _ (bst_no (fun q => m q.2)), fun w => absurd rfl w⟩)
        cases eb : bst R c i with
        | none => exact ⟨fun _ => go _ (bst_none ⟨y, m⟩ eb), fun a e => (nomatch e)⟩
        | some b =>
          refine ⟨fun e => (nomatch e), fun a e => ?_⟩
          cases e
          have hbi := (bst_in eb).1
          have hbn : b < R.2.2.2 := by omega
          have pi := pri_le hA.1 (hA.2.1 i hlt)
          have pb := pri_le hA.1 (hA.2.1 b hbn)
          refine ⟨_, r0, C_pri hW hA.1 hlt (hA.2.1 i hlt) ⟨_, r0, C_pri hW hA.1 hbn (hA.2.1 b hbn) ⟨fun w => ?_, fun w => ?_⟩⟩⟩
          · rw [nI_leI (by omega) (by omega)] at w
            exact go _ (bst_keep ⟨y, m⟩ eb (by omega))
          · rw [nI_leI (by omega) (by omega)] at w
            exact go _ (bst_up ⟨y, m⟩ eb (by omega))
  exact ⟨R.2.2.2 + 1, loop _ 0 (Nat.zero_le _) (by omega)⟩
theorem bst_m1 (hI : I_job R) : bst R (-1) R.2.2.2 = none := by
  cases e : bst R (-1) R.2.2.2 with
  | none => rfl
  | some b =>
    obtain ⟨h1, h2, _⟩ := bst_in e
    have := (hI b h1).1.1
    rw [h2] at this
    exact absurd this (by decide)
theorem C_nextFor {Q : Option Nat → hM → Prop} {i : Nat} (hW : Wd h α (cA α R D S th)) (hA : I_all α R D) (hi : i < R.2.2.1) (hQ : Q ((pck R i 8).map (α 17)) h) : P_Rows_nextFor Q h (α 0 0) (α 15 i) := by
  have r15 := hW.1 15 i _ (cA_15 hi)
  have r16 := hW.1 16 i _ (cA_16 hi)
  have loop : ∀ (n p : Nat), p ≤ 8 → 8 < p + n → pck R i p = none → L_Rows_nextFor_2 Q n h (α 0 0) (α 15 i) (nI p) := by
    intro n
    induction n with
    | zero => intro p h1 h2; omega
    | succ n ih =>
      intro p hp hpn hpk
      refine ⟨_, _, r15, rfl, _, _, r16, fun z => ?_, fun z => ?_⟩
      · have : 8 ≤ p := (nI_leI (by omega) (by omega)).mp z
        have e : p = 8 := by omega
        rw [e] at hpk
        rw [hpk] at hQ
        exact hQ
      · have hlt : p < 8 := by
          rcases Nat.lt_or_ge p 8 with q | q
          · exact q
          · exact absurd (nI_le q (by omega)) z
        have fin : ∀ o, bst R (R.1 0 (8 * i + p)) R.2.2.2 = o → P_Rows_nextFor_32 Q (L_Rows_nextFor_2 Q n) h (α 0 0) (α 15 i) (nI p) (o.map (α 17)) := by
          intro o ho
          have e := pck_none hpk
          rw [ho] at e
          cases o with
          | none =>
            refine ⟨fun _ y ey => ?_, fun a e => (nomatch e)⟩
            rw [nI_1] at ey
            rw [ey]
            exact ih (p + 1) hlt (by omega) e
          | some b =>
            refine ⟨fun e => (nomatch e), fun a e' => ?_⟩
            rw [pck_le e (q := 8) (by omega)] at hQ
            cases e'
            exact hQ
        refine ⟨_, _, r15, rfl, _, _, r16, vp_in_nI hlt (by decide), fun x3 e3 => ?_⟩
        rw [nI_clamp (by omega), if_pos hlt] at e3
        rw [e3]
        refine ⟨fun _ => ⟨_, hW.1 0 0 _ rfl, C_nextOfClass hW hA (fin _ rfl)⟩, fun w => ?_⟩
        have := fin none (by rw [w]; exact bst_m1 hA.2.1)
        exact this
  exact ⟨9, loop 9 0 (by decide) (by decide) rfl⟩
theorem n8 {p : Nat} (hp : p < 100) : (8 : Int32) ≤ nI p ↔ 8 ≤ p := by
  rw [show (8 : Int32) = nI 8 from rfl, nI_leI (by decide) (by omega)]
theorem M_pick {Q : Int32 → hM → Prop} {i : Nat} (hW : Wd h α (cA α R D S th)) (hn : I_num S) (hI : I_job S) (hi : i < 12) (hQ : P_Mod_next_158 Q h (α 20 0) (nI i) (oI (pck S i 8))) : ∃ n0 : Nat, L_Mod_next_68 Q n0 h (α 20 0) (nI i) (-1 : Int32) (0 : Int32) := by
  have hb := hn.2.1
  have r0 := hW.1 20 0 _ rfl
  have loop : ∀ (n p : Nat), p ≤ 8 → 8 < p + n → L_Mod_next_68 Q n h (α 20 0) (nI i) (oI (pck S i p)) (nI p) := by
    intro n
    induction n with
    | zero => intro p h1 h2; omega
    | succ n ih =>
      intro p hp hpn
      refine ⟨fun z => ?_, fun z => ?_⟩
      · have := (n8 (by omega)).mp z
        have e : p = 8 := by omega
        rw [e]
        exact hQ
      · have hlt : p < 8 := by
          rcases Nat.lt_or_ge p 8 with q | q
          · exact q
          · exact absurd ((n8 (by omega)).mpr q) z
        cases e : pck S i p with
        | some b =>
          have hbn := (pck_in e).1
          rw [pck_le e (q := 8) (by omega)] at hQ
          exact ⟨fun _ => hQ, fun w => absurd w (nI_nm1 (by omega))⟩
        | none =>
          refine ⟨fun w => absurd rfl w, fun _ => ?_⟩
          have ep := pck_none e
          have loop2 : ∀ (n' k : Nat), k ≤ S.2.2.2 → S.2.2.2 < k + n' → L_Mod_next_84 Q (L_Mod_next_68 Q n) n' h (α 20 0) (nI i) (oI (bst S (S.1 0 (8 * i + p)) k)) (nI p) (nI k) := by
            intro n'
            induction n' with
            | zero => intro k h1 h2; omega
            | succ n' ih' =>
              intro k hk hkn
              refine ⟨_, _, r0, rfl, fun z => ?_, fun z => ?_⟩
              · have : S.2.2.2 ≤ k := (nI_leI (by omega) (by omega)).mp z
                have ek : k = S.2.2.2 := by omega
                intro y ey
                rw [nI_1] at ey
                rw [ey, ek, ← ep]
                exact ih (p + 1) hlt (by omega)
              · have hkl : k < S.2.2.2 := by
                  rcases Nat.lt_or_ge k S.2.2.2 with q | q
                  · exact q
                  · exact absurd (nI_le q (by omega)) z
                have go : ∀ o, bst S (S.1 0 (8 * i + p)) (k + 1) = o → P_Mod_next_146 Q (L_Mod_next_84 Q (L_Mod_next_68 Q n) n') h (α 20 0) (nI i) (oI o) (nI p) (nI k) := by
                  intro o ho y ey
                  rw [nI_1] at ey
                  rw [ey, ← ho]
                  exact ih' (k + 1) hkl (by omega)
                have e8 : (8 : Int32) * nI i + nI p = nI (8 * i + p) := by
                  rw [show (8 : Int32) = nI 8 from rfl, pk_mul, nI_add]
                refine ⟨_, _, r0, rfl, _, _, hW.1 31 0 _ rfl, vp_in_nI (by show k < 100; omega) (by decide), _, _, r0, rfl, _, _, hW.1 22 0 _ rfl, by rw [e8]; exact vp_in_nI (by show _ < 96; omega) (by decide), ?_⟩
                rw [e8, nI_clamp (by omega), nI_clamp (by omega)]
                refine ⟨fun y => go _ (bst_no (fun q => y q.1)), fun y => ⟨_, r0, ?_⟩⟩
                refine M_may hW hb hI hkl (fun m => ⟨fun w => absurd w (by decide), fun _ => ?_⟩) (fun m => ⟨fun _ => go _ (bst_no (fun q => m q.2)), fun w => absurd rfl w⟩)
                cases eb : bst S (S.1 0 (8 * i + p)) k with
                | none => exact ⟨fun _ => go (some k) (bst_none ⟨y, m⟩ eb), fun w => absurd rfl w⟩
                | some b =>
                  have hbk := (bst_in eb).1
                  refine ⟨fun w => absurd w (nI_nm1 (by omega)), fun _ => ⟨_, r0, M_ahead hW hn hI hkl (by omega) ?_⟩⟩
                  by_cases q : pri S b < pri S k
                  · rw [if_pos (Or.inl q)]
                    exact ⟨fun w => absurd w (by decide), fun _ => go (some k) (bst_up ⟨y, m⟩ eb q)⟩
                  · rw [if_neg (by omega)]
                    exact ⟨fun _ => go _ (bst_keep ⟨y, m⟩ eb q), fun w => absurd rfl w⟩
          exact ⟨S.2.2.2 + 1, loop2 _ 0 (Nat.zero_le _) (by omega)⟩
  exact ⟨9, loop 9 0 (by decide) (by decide)⟩
end PK
