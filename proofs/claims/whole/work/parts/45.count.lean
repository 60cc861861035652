theorem sm_add {f g k : Nat → Nat} : ∀ {n : Nat}, (∀ j, j < n → f j + g j = k j) → sm f n + sm g n = sm k n := by
  intro n
  induction n with
  | zero => intro _; rfl
  | succ n ih =>
    intro h
    show sm f n + f n + (sm g n + g n) = sm k n + k n
    rw [← ih (fun j hj => h j (by omega)), ← h n (by omega)]
    omega
theorem sm_le {f : Nat → Nat} {b : Nat} : ∀ {n : Nat}, (∀ j, j < n → f j ≤ b) → sm f n ≤ b * n := by
  intro n
  induction n with
  | zero => intro _; exact Nat.le_refl _
  | succ n ih =>
    intro h
    show sm f n + f n ≤ b * (n + 1)
    have := ih (fun j hj => h j (by omega))
    have := h n (by omega)
    rw [Nat.mul_succ]
    omega
section CT
variable {h : hM} {α : Nat → Nat → Nat} {R S : mS} {D : dS} {th : Int32} {x1 x2 x3 : Int32}
theorem C_getJob {Q : Option Nat → hM → Prop} {i : Nat} (hW : Wd h α (cA α R D S th)) (hL : LOk α D 1 17 R.2.2.2) (hi : i < R.2.2.2) (hQ : Q (some (α 17 i)) h) : P_AL_get Q h (α 3 0) (nI i) := by
  refine C_get (hW.1 3 0 _ rfl) (hW.1 4 0 _ (cA_4 (by have := hL.1; omega))) hi hL.1 hL.2.1 ?_
  rw [hL.2.2.1 i hi]
  exact hQ
theorem C_getIni {Q : Option Nat → hM → Prop} {i : Nat} (hW : Wd h α (cA α R D S th)) (hL : LOk α D 0 15 R.2.2.1) (hi : i < R.2.2.1) (hQ : Q (some (α 15 i)) h) : P_AL_get Q h (α 1 0) (nI i) := by
  refine C_get (hW.1 1 0 _ rfl) (hW.1 2 0 _ (cA_2 (by have := hL.1; omega))) hi hL.1 hL.2.1 ?_
  rw [hL.2.2.1 i hi]
  exact hQ
theorem C_jobsIn {Q : Int32 → hM → Prop} (hW : Wd h α (cA α R D S th)) (hb : R.2.2.2 ≤ 100) (hL : LOk α D 1 17 R.2.2.2) (hQ : Q (nI (sm (fun j => if stg R j = x1 then 1 else 0) R.2.2.2)) h) : P_Rows_jobsIn Q h (α 0 0) x1 := by
  have loop : ∀ (n i : Nat), i ≤ R.2.2.2 → R.2.2.2 < i + n → L_Rows_jobsIn_4 Q n h (α 0 0) x1 (nI (sm (fun j => if stg R j = x1 then 1 else 0) i)) (nI i) := by
    intro n
    induction n with
    | zero => intro i h1 h2; omega
    | succ n ih =>
      intro i hi hn
      refine ⟨_, _, hW.1 0 0 _ rfl, rfl, _, hW.1 3 0 _ rfl, _, _, hW.1 3 0 _ rfl, rfl, fun z => ?_, fun z => ?_⟩
      · have : R.2.2.2 ≤ i := (nI_leI (by omega) (by omega)).mp z
        have e : i = R.2.2.2 := by omega
        rw [e]
        exact hQ
      · have hlt : i < R.2.2.2 := by
          rcases Nat.lt_or_ge i R.2.2.2 with q | q
          · exact q
          · exact absurd (nI_le q (by omega)) z
        refine ⟨_, _, hW.1 0 0 _ rfl, rfl, _, hW.1 3 0 _ rfl, C_getJob hW hL hlt ⟨fun z => (nomatch z), fun a e => ?_⟩⟩
        cases e
        have r := hW.1 17 i _ (cA_17 hlt)
        refine ⟨⟨_, r⟩, _, _, r, rfl, fun z => fun y ey => ?_, fun z => fun v ev y ey => ?_⟩
        · rw [nI_1] at ey
          rw [ey]
          have := ih (i + 1) hlt (by omega)
          have e : sm (fun j => if stg R j = x1 then 1 else 0) (i + 1) = sm (fun j => if stg R j = x1 then 1 else 0) i := by
            show _ + (if stg R i = x1 then 1 else 0) = _
            rw [if_neg z]; rfl
          rw [e] at this
          exact this
        · rw [nI_1] at ey ev
          rw [ey, ev]
          have := ih (i + 1) hlt (by omega)
          have e : sm (fun j => if stg R j = x1 then 1 else 0) (i + 1) = sm (fun j => if stg R j = x1 then 1 else 0) i + 1 := by
            show _ + (if stg R i = x1 then 1 else 0) = _
            rw [if_pos z]
          rw [e] at this
          exact this
  exact ⟨R.2.2.2 + 1, loop _ 0 (Nat.zero_le _) (by omega)⟩
theorem C_drained {Q : Int32 → hM → Prop} (hW : Wd h α (cA α R D S th)) (hb : R.2.2.1 ≤ 12) (hL : LOk α D 0 15 R.2.2.1) (hQ : Q (nI (sm (fun j => if ¬ R.1 2 j = 0 ∧ R.1 1 j = -1 then 1 else 0) R.2.2.1)) h) : P_Rows_drainedAndIdle Q h (α 0 0) := by
  have m1 : ∀ x : Int32, x + 1 = 0 ↔ x = -1 := fun x => by
    constructor
    · intro e
      have : x = x + 1 - 1 := by rw [Int32.add_sub_cancel]
      rw [this, e]; rfl
    · intro e; rw [e]; rfl
  have loop : ∀ (n i : Nat), i ≤ R.2.2.1 → R.2.2.1 < i + n → L_Rows_drainedAndIdle_4 Q n h (α 0 0) (nI (sm (fun j => if ¬ R.1 2 j = 0 ∧ R.1 1 j = -1 then 1 else 0) i)) (nI i) := by
    intro n
    induction n with
    | zero => intro i h1 h2; omega
    | succ n ih =>
      intro i hi hn
      refine ⟨_, _, hW.1 0 0 _ rfl, rfl, _, hW.1 1 0 _ rfl, _, _, hW.1 1 0 _ rfl, rfl, fun z => ?_, fun z => ?_⟩
      · have : R.2.2.1 ≤ i := (nI_leI (by omega) (by omega)).mp z
        have e : i = R.2.2.1 := by omega
        rw [e]
        exact hQ
      · have hlt : i < R.2.2.1 := by
          rcases Nat.lt_or_ge i R.2.2.1 with q | q
          · exact q
          · exact absurd (nI_le q (by omega)) z
        have no : ¬ (¬ R.1 2 i = 0 ∧ R.1 1 i = -1) → ∀ y : Int32, y = nI i + 1 → L_Rows_drainedAndIdle_4 Q n h (α 0 0) (nI (sm (fun j => if ¬ R.1 2 j = 0 ∧ R.1 1 j = -1 then 1 else 0) i)) y := fun hno y ey => by
          rw [nI_1] at ey
          rw [ey]
          have := ih (i + 1) hlt (by omega)
          have e : sm (fun j => if ¬ R.1 2 j = 0 ∧ R.1 1 j = -1 then 1 else 0) (i + 1) = sm (fun j => if ¬ R.1 2 j = 0 ∧ R.1 1 j = -1 then 1 else 0) i := by
            show _ + (if ¬ R.1 2 i = 0 ∧ R.1 1 i = -1 then 1 else 0) = _
            rw [if_neg hno]; rfl
          rw [e] at this
          exact this
        refine ⟨_, _, hW.1 0 0 _ rfl, rfl, _, hW.1 1 0 _ rfl, C_getIni hW hL hlt ⟨fun z => (nomatch z), fun a e => ?_⟩⟩
        cases e
        have r := hW.1 15 i _ (cA_15 hlt)
        refine ⟨⟨_, r⟩, _, _, r, rfl, fun z => no (fun y => y.1 z), fun z => ⟨_, _, r, rfl, fun w => no (fun y => w ((m1 _).mpr y.2)), fun w => fun v ev y ey => ?_⟩⟩
        rw [nI_1] at ey ev
        rw [ey, ev]
        have := ih (i + 1) hlt (by omega)
        have e : sm (fun j => if ¬ R.1 2 j = 0 ∧ R.1 1 j = -1 then 1 else 0) (i + 1) = sm (fun j => if ¬ R.1 2 j = 0 ∧ R.1 1 j = -1 then 1 else 0) i + 1 := by
          show _ + (if ¬ R.1 2 i = 0 ∧ R.1 1 i = -1 then 1 else 0) = _
          rw [if_pos ⟨z, (m1 _).mp w⟩]
        rw [e] at this
        exact this
  exact ⟨R.2.2.1 + 1, loop _ 0 (Nat.zero_le _) (by omega)⟩
theorem M_those {Q : Int32 → hM → Prop} (hW : Wd h α (cA α R D S th)) (hb : S.2.2.2 ≤ 100) (hQ : Q (nI (sm (fun j => if S.1 11 j = x1 ∧ (¬ x2 = 0 ∨ ¬ S.1 13 j = 0) then 1 else 0) S.2.2.2)) h) : P_Mod_those Q h (α 20 0) x1 x2 := by
  have loop : ∀ (n i : Nat), i ≤ S.2.2.2 → S.2.2.2 < i + n → L_Mod_those_5 Q n h (α 20 0) x1 x2 (nI (sm (fun j => if S.1 11 j = x1 ∧ (¬ x2 = 0 ∨ ¬ S.1 13 j = 0) then 1 else 0) i)) (nI i) := by
    intro n
    induction n with
    | zero => intro i h1 h2; omega
    | succ n ih =>
      intro i hi hn
      refine ⟨_, _, hW.1 20 0 _ rfl, rfl, fun z => ?_, fun z => ?_⟩
      · have : S.2.2.2 ≤ i := (nI_leI (by omega) (by omega)).mp z
        have e : i = S.2.2.2 := by omega
        rw [e]
        exact hQ
      · have hlt : i < S.2.2.2 := by
          rcases Nat.lt_or_ge i S.2.2.2 with q | q
          · exact q
          · exact absurd (nI_le q (by omega)) z
        have go : ∀ v : Nat, v = (if S.1 11 i = x1 ∧ (¬ x2 = 0 ∨ ¬ S.1 13 i = 0) then 1 else 0) → P_Mod_those_45 Q (L_Mod_those_5 Q n) h (α 20 0) x1 x2 (nI i) (nI v) (nI (sm (fun j => if S.1 11 j = x1 ∧ (¬ x2 = 0 ∨ ¬ S.1 13 j = 0) then 1 else 0) i)) := fun v hv x ex y ey => by
          rw [nI_add] at ex
          rw [nI_1] at ey
          rw [ex, ey, hv]
          exact ih (i + 1) hlt (by omega)
        refine ⟨_, _, hW.1 20 0 _ rfl, rfl, _, _, hW.1 34 0 _ rfl, vp_in_nI (by show i < 100; omega) (by decide), ?_⟩
        rw [nI_clamp (by omega)]
        refine ⟨fun z => go 0 (by rw [if_neg (fun y => z y.1)]), fun z => ⟨fun w => go 1 (by rw [if_pos ⟨z, Or.inl w⟩]), fun w => ⟨_, _, hW.1 20 0 _ rfl, rfl, _, _, hW.1 36 0 _ rfl, vp_in_nI (by show i < 100; omega) (by decide), ?_⟩⟩⟩
        refine ⟨fun u => go 0 ?_, fun u => go 1 ?_⟩
        · rw [if_neg]
          rintro ⟨-, y | y⟩
          · exact y w
          · exact y u
        · rw [if_pos ⟨z, Or.inr u⟩]
  exact ⟨S.2.2.2 + 1, loop _ 0 (Nat.zero_le _) (by omega)⟩
theorem i_clampN {x : Int32} (h0 : 0 ≤ x.toInt) : nI x.toNatClampNeg = x := by
  apply Int32.toInt_inj.mp
  have hb : x.toInt < 2 ^ 31 := Int32.toInt_lt x
  have e : x.toNatClampNeg = x.toInt.toNat := rfl
  rw [e, nI_toInt (by omega)]
  omega
theorem M_used {Q : Int32 → hM → Prop} {p : Nat} (hW : Wd h α (cA α R D S th)) (hb : S.2.2.2 ≤ 100) (hp : p < 4) (hu : ∀ j, j < S.2.2.2 → 0 ≤ (S.1 12 (4 * j + p)).toInt) (hQ : Q (nI (sm (fun j => if S.1 11 j = 2 then (S.1 12 (4 * j + p)).toNatClampNeg else 0) S.2.2.2)) h) : P_Mod_used Q h (α 20 0) (nI p) := by
  have loop : ∀ (n i : Nat), i ≤ S.2.2.2 → S.2.2.2 < i + n → L_Mod_used_4 Q n h (α 20 0) (nI p) (nI (sm (fun j => if S.1 11 j = 2 then (S.1 12 (4 * j + p)).toNatClampNeg else 0) i)) (nI i) := by
    intro n
    induction n with
    | zero => intro i h1 h2; omega
    | succ n ih =>
      intro i hi hn
      refine ⟨_, _, hW.1 20 0 _ rfl, rfl, fun z => ?_, fun z => ?_⟩
      · have : S.2.2.2 ≤ i := (nI_leI (by omega) (by omega)).mp z
        have e : i = S.2.2.2 := by omega
        rw [e]
        exact hQ
      · have hlt : i < S.2.2.2 := by
          rcases Nat.lt_or_ge i S.2.2.2 with q | q
          · exact q
          · exact absurd (nI_le q (by omega)) z
        have go : ∀ v : Nat, v = (if S.1 11 i = 2 then (S.1 12 (4 * i + p)).toNatClampNeg else 0) → P_Mod_used_37 Q (L_Mod_used_4 Q n) h (α 20 0) (nI p) (nI i) (nI v) (nI (sm (fun j => if S.1 11 j = 2 then (S.1 12 (4 * j + p)).toNatClampNeg else 0) i)) := fun v hv x ex y ey => by
          rw [nI_add] at ex
          rw [nI_1] at ey
          rw [ex, ey, hv]
          exact ih (i + 1) hlt (by omega)
        have e4 : (4 : Int32) * nI i + nI p = nI (4 * i + p) := by
          rw [show (4 : Int32) = nI 4 from rfl, pk_mul, nI_add]
        refine ⟨_, _, hW.1 20 0 _ rfl, rfl, _, _, hW.1 34 0 _ rfl, vp_in_nI (by show i < 100; omega) (by decide), ?_⟩
        rw [nI_clamp (by omega), e4]
        refine ⟨fun z => go 0 (by rw [if_neg z]), fun z => ⟨_, _, hW.1 20 0 _ rfl, rfl, _, _, hW.1 35 0 _ rfl, vp_in_nI (by show _ < 400; omega) (by decide), ?_⟩⟩
        rw [nI_clamp (by omega)]
        have := go (S.1 12 (4 * i + p)).toNatClampNeg (by rw [if_pos z])
        rw [i_clampN (hu i hlt)] at this
        exact this
  exact ⟨S.2.2.2 + 1, loop _ 0 (Nat.zero_le _) (by omega)⟩
theorem M_cnt5 {Q : Int32 → hM → Prop} (hW : Wd h α (cA α R D S th)) (hb : S.2.2.1 ≤ 12) (hQ : Q (nI (sm (fun j => if ¬ S.1 2 j = 0 ∧ S.1 1 j = -1 then 1 else 0) S.2.2.1)) h) : ∃ n0 : Nat, L_Mod_count_111 Q n0 h (α 20 0) (0 : Int32) (0 : Int32) := by
  have loop : ∀ (n i : Nat), i ≤ S.2.2.1 → S.2.2.1 < i + n → L_Mod_count_111 Q n h (α 20 0) (nI (sm (fun j => if ¬ S.1 2 j = 0 ∧ S.1 1 j = -1 then 1 else 0) i)) (nI i) := by
    intro n
    induction n with
    | zero => intro i h1 h2; omega
    | succ n ih =>
      intro i hi hn
      refine ⟨_, _, hW.1 20 0 _ rfl, rfl, fun z => ?_, fun z => ?_⟩
      · have : S.2.2.1 ≤ i := (nI_leI (by omega) (by omega)).mp z
        have e : i = S.2.2.1 := by omega
        rw [e]
        exact hQ
      · have hlt : i < S.2.2.1 := by
          rcases Nat.lt_or_ge i S.2.2.1 with q | q
          · exact q
          · exact absurd (nI_le q (by omega)) z
        have go : ∀ v : Nat, v = (if ¬ S.1 2 i = 0 ∧ S.1 1 i = -1 then 1 else 0) → P_Mod_count_144 Q (L_Mod_count_111 Q n) h (α 20 0) (nI i) (nI v) (nI (sm (fun j => if ¬ S.1 2 j = 0 ∧ S.1 1 j = -1 then 1 else 0) i)) := fun v hv x ex y ey => by
          rw [nI_add] at ex
          rw [nI_1] at ey
          rw [ex, ey, hv]
          exact ih (i + 1) hlt (by omega)
        refine ⟨_, _, hW.1 20 0 _ rfl, rfl, _, _, hW.1 24 0 _ rfl, vp_in_nI (by show i < 12; omega) (by decide), ?_⟩
        rw [nI_clamp (by omega)]
        refine ⟨fun z => go 0 (by rw [if_neg (fun y => y.1 z)]), fun z => ⟨_, _, hW.1 20 0 _ rfl, rfl, _, _, hW.1 23 0 _ rfl, vp_in_nI (by show i < 12; omega) (by decide), ?_⟩⟩
        exact ⟨fun w => go 0 (by rw [if_neg (fun y => w y.2)]), fun w => go 1 (by rw [if_pos ⟨z, w⟩])⟩
  exact ⟨S.2.2.1 + 1, loop _ 0 (Nat.zero_le _) (by omega)⟩
/-- the answer of count -/
def cntR (S : mS) (x : Int32) : Int32 := if x = 0 then nI S.2.2.1 else if x = 1 then nI S.2.2.2 else if x = 2 then nI (sm (fun j => if S.1 11 j = 0 then 1 else 0) S.2.2.2) else if x = 3 then nI (sm (fun j => if S.1 11 j = 0 ∧ ¬ S.1 13 j = 0 then 1 else 0) S.2.2.2) else if x = 4 then nI (sm (fun j => if S.1 11 j = 2 then 1 else 0) S.2.2.2) else if x = 5 then nI (sm (fun j => if ¬ S.1 2 j = 0 ∧ S.1 1 j = -1 then 1 else 0) S.2.2.1) else if 10 ≤ x.toInt ∧ x.toInt ≤ 13 then nI (sm (fun j => if S.1 11 j = 2 then (S.1 12 (4 * j + (x.toInt.toNat - 10))).toNatClampNeg else 0) S.2.2.2) else -1
theorem sim_count {K : hM → Prop} (hI : INV h α S D th) (hK : Go α K) : P_Rows_count (fun r h1 => P_Mod_count (fun r' h2 => r = r' ∧ K h2) h1 (α 20 0) x1) h (α 0 0) x1 := by
  obtain ⟨hW, hA⟩ := hI
  have hb := hA.1.2.1
  have hb1 := hA.1.1
  have hL := hA.2.2.2.2.2.2.2.1.2.1
  have hL1 := hA.2.2.2.2.2.2.2.1.1
  have hlo := hA.2.2.2.2.2.2.2.2.1
  have hjob := hA.2.1
  have hGo : ∀ h2, Wd h2 α (cA α S D S 0) → K h2 := fun h2 hW2 => hK h2 α S D 0 ⟨hW2, hA⟩ rfl rfl
  -- the reference
  have hM : ∀ v : Int32, v = cntR S x1 → P_Mod_count (fun r' h2 => v = r' ∧ K h2) h (α 20 0) x1 := by
    intro v hv
    refine M_begin hW (fun h1 hW1 => ?_)
    have ku : ∀ p, p < 4 → x1 = nI (10 + p) → ∃ fs : List Value, rd h1 (α 20 0) = some (eO 6 fs) ∧ P_Mod_used (fun i h2 => v = i ∧ K h2) h1 (α 20 0) (x1 - (10 : Int32)) := by
      intro p hp e
      refine ⟨_, hW1.1 20 0 _ rfl, ?_⟩
      have e10 : x1 - (10 : Int32) = nI p := by
        rw [e, show (10 : Int32) = nI 10 from rfl, pk_sub (by omega), Nat.add_sub_cancel_left]
      rw [e10]
      refine M_used hW1 hb hp (fun j hj => ((hjob j hj).2.2.2.2.2.2.2 p hp).1) ⟨?_, hGo _ hW1⟩
      have et : x1.toInt = (10 + p : Nat) := by rw [e, nI_toInt (by omega)]
      have ne : ∀ k : Int32, k.toInt < 10 → ¬ x1 = k := fun k hk q => by rw [← q, et] at hk; omega
      rw [hv]
      unfold cntR
      rw [if_neg (ne 0 (by decide)), if_neg (ne 1 (by decide)), if_neg (ne 2 (by decide)), if_neg (ne 3 (by decide)), if_neg (ne 4 (by decide)), if_neg (ne 5 (by decide)), if_pos ⟨by omega, by omega⟩, et, Int.toNat_natCast, Nat.add_sub_cancel_left]
    have none_ : ∀ k : Int32, (6 ≤ k.toInt ∧ k.toInt ≤ 9) → x1 = k → v = -1 := by
      intro k hk e
      rw [hv, e]
      unfold cntR
      have ne : ∀ q : Int32, q.toInt < 6 → ¬ k = q := fun q hq z => by rw [← z] at hq; omega
      rw [if_neg (ne 0 (by decide)), if_neg (ne 1 (by decide)), if_neg (ne 2 (by decide)), if_neg (ne 3 (by decide)), if_neg (ne 4 (by decide)), if_neg (ne 5 (by decide)), if_neg (by omega)]
    refine ⟨fun e => ?_, fun e => ?_, fun e => ?_, fun e => ?_, fun e => ?_, fun e => ?_, fun e => ⟨none_ 6 (by decide) e, hGo _ hW1⟩, fun e => ⟨none_ 7 (by decide) e, hGo _ hW1⟩, fun e => ⟨none_ 8 (by decide) e, hGo _ hW1⟩, fun e => ⟨none_ 9 (by decide) e, hGo _ hW1⟩, fun e => ku 0 (by decide) e, fun e => ku 1 (by decide) e, fun e => ku 2 (by decide) e, fun e => ku 3 (by decide) e, fun e => ⟨?_, hGo _ hW1⟩⟩
    · rw [e] at hv
      exact ⟨_, _, hW1.1 20 0 _ rfl, rfl, hv, hGo _ hW1⟩
    · rw [e] at hv
      exact ⟨_, _, hW1.1 20 0 _ rfl, rfl, hv, hGo _ hW1⟩
    · rw [e] at hv
      refine ⟨_, hW1.1 20 0 _ rfl, M_those hW1 hb ⟨?_, hGo _ hW1⟩⟩
      rw [hv]
      show nI _ = nI _
      congr 1
      refine sm_congr (fun j hj => ?_)
      by_cases q : S.1 11 j = 0
      · rw [if_pos q, if_pos ⟨q, Or.inl (by decide)⟩]
      · rw [if_neg q, if_neg (fun y => q y.1)]
    · rw [e] at hv
      refine ⟨_, hW1.1 20 0 _ rfl, M_those hW1 hb ⟨?_, hGo _ hW1⟩⟩
      rw [hv]
      show nI _ = nI _
      congr 1
      refine sm_congr (fun j hj => ?_)
      by_cases q : S.1 11 j = 0 ∧ ¬ S.1 13 j = 0
      · rw [if_pos q, if_pos ⟨q.1, Or.inr q.2⟩]
      · rw [if_neg q, if_neg]
        rintro ⟨a, b | b⟩
        · exact b rfl
        · exact q ⟨a, b⟩
    · rw [e] at hv
      refine ⟨_, hW1.1 20 0 _ rfl, M_those hW1 hb ⟨?_, hGo _ hW1⟩⟩
      rw [hv]
      show nI _ = nI _
      congr 1
      refine sm_congr (fun j hj => ?_)
      by_cases q : S.1 11 j = 2
      · rw [if_pos q, if_pos ⟨q, Or.inl (by decide)⟩]
      · rw [if_neg q, if_neg (fun y => q y.1)]
    · rw [e] at hv
      exact M_cnt5 hW1 hb1 ⟨hv, hGo _ hW1⟩
    · obtain ⟨q0, q1, q2, q3, q4, q5, q6, q7, q8, q9, q10, q11, q12, q13⟩ := e
      rw [hv]
      unfold cntR
      have n10 := lv_neT (a := 10) q10 (by decide)
      have n11 := lv_neT (a := 11) q11 (by decide)
      have n12 := lv_neT (a := 12) q12 (by decide)
      have n13 := lv_neT (a := 13) q13 (by decide)
      rw [if_neg q0, if_neg q1, if_neg q2, if_neg q3, if_neg q4, if_neg q5, if_neg (by omega)]
  -- the class
  refine ⟨fun e => ?_, fun e => ?_, fun e => ?_, fun e => ?_, fun e => ?_, fun e => ?_, fun e => ?_⟩
  · exact ⟨_, _, hW.1 0 0 _ rfl, rfl, _, hW.1 1 0 _ rfl, _, _, hW.1 1 0 _ rfl, rfl, hM _ (by rw [e]; rfl)⟩
  · exact ⟨_, _, hW.1 0 0 _ rfl, rfl, _, hW.1 3 0 _ rfl, _, _, hW.1 3 0 _ rfl, rfl, hM _ (by rw [e]; rfl)⟩
  · refine ⟨_, hW.1 0 0 _ rfl, C_jobsIn hW hb hL ⟨_, hW.1 0 0 _ rfl, C_jobsIn hW hb hL (hM _ ?_)⟩⟩
    rw [e, nI_add]
    show nI _ = nI _
    congr 1
    refine sm_add (fun j hj => ?_)
    unfold stg
    rcases (hjob j hj).2.2.2.1 with q | q | q
    · rw [if_pos q, if_pos q]
      by_cases c : S.1 13 j = 0
      · rw [if_pos c]; rfl
      · rw [if_neg c]; rfl
    · rw [q]; rfl
    · rw [q]; rfl
  · refine ⟨_, hW.1 0 0 _ rfl, C_jobsIn hW hb hL (hM _ ?_)⟩
    rw [e]
    show nI _ = nI _
    congr 1
    refine sm_congr (fun j hj => ?_)
    unfold stg
    by_cases q : S.1 11 j = 0
    · by_cases c : S.1 13 j = 0
      · rw [if_neg (c := S.1 11 j = 0 ∧ ¬ S.1 13 j = 0) (fun y => y.2 c), if_pos q, if_pos c]; rfl
      · rw [if_pos (c := S.1 11 j = 0 ∧ ¬ S.1 13 j = 0) ⟨q, c⟩, if_pos q, if_neg c]; rfl
    · rw [if_neg (c := S.1 11 j = 0 ∧ ¬ S.1 13 j = 0) (fun y => q y.1), if_neg q]
      rcases (hjob j hj).2.2.2.1 with z | z | z
      · exact absurd z q
      · rw [z]; rfl
      · rw [z]; rfl
  · refine ⟨_, _, hW.1 0 0 _ rfl, rfl, _, _, hW.1 10 0 _ rfl, rfl, hM _ ?_⟩
    rw [e]
    exact hlo.2.2.1
  · refine ⟨_, hW.1 0 0 _ rfl, C_drained hW hb1 hL1 (hM _ ?_)⟩
    rw [e]
    rfl
  · obtain ⟨q0, q1, q2, q3, q4, q5⟩ := e
    refine ⟨_, hW.1 0 0 _ rfl, ?_⟩
    by_cases hx : 10 ≤ x1.toInt ∧ x1.toInt ≤ 13
    · refine C_isIn_yes (by rw [l32_10]; omega) (by rw [l32_13]; omega) ⟨fun _ => ?_, fun z => absurd z (by decide)⟩
      obtain ⟨c, hc, e⟩ := i_nat (x := x1) (n := 14) (by omega) (by omega)
      have ec : x1.toInt = c := by rw [e, nI_toInt (by omega)]
      obtain ⟨p, rfl⟩ : ∃ p, c = 10 + p := ⟨c - 10, by omega⟩
      have e10 : x1 - (10 : Int32) = nI p := by
        rw [e, show (10 : Int32) = nI 10 from rfl, pk_sub (by omega), Nat.add_sub_cancel_left]
      refine ⟨_, _, hW.1 0 0 _ rfl, rfl, _, _, hW.1 10 0 _ rfl, rfl, _, _, hW.1 13 0 _ rfl, ?_, hM _ ?_⟩
      · rw [e10]; exact vp_in_nI (by omega) (by decide)
      · rw [e10, nI_clamp (by omega), hlo.2.1 p (by omega)]
        unfold cntR
        rw [if_neg q0, if_neg q1, if_neg q2, if_neg q3, if_neg q4, if_neg q5, if_pos hx, ec, Int.toNat_natCast, Nat.add_sub_cancel_left]
    · refine C_isIn_no (by rw [l32_10, l32_13]; omega) ⟨fun z => absurd rfl z, fun _ => hM _ ?_⟩
      unfold cntR
      rw [if_neg q0, if_neg q1, if_neg q2, if_neg q3, if_neg q4, if_neg q5, if_neg hx]
end CT
