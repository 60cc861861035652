theorem sm_lt {f g : Nat → Nat} {j : Nat} : ∀ {n : Nat}, j < n → (∀ i, i < n → f i ≤ g i) → f j < g j → sm f n < sm g n := by
  have mono : ∀ {n : Nat}, (∀ i, i < n → f i ≤ g i) → sm f n ≤ sm g n := by
    intro n
    induction n with
    | zero => intro _; exact Nat.le_refl _
    | succ n ih =>
      intro h
      show sm f n + f n ≤ sm g n + g n
      have := ih (fun i hi => h i (by omega))
      have := h n (by omega)
      omega
  intro n
  induction n with
  | zero => intro h; omega
  | succ n ih =>
    intro hj hle hlt
    show sm f n + f n < sm g n + g n
    have h1 := hle n (by omega)
    by_cases e : j = n
    · have := mono (n := n) (fun i hi => hle i (by omega))
      rw [e] at hlt
      omega
    · have := ih (by omega) (fun i hi => hle i (by omega)) hlt
      omega
abbrev wtg (S : mS) (k : Nat) : Prop := S.1 11 k = 0 ∧ S.1 13 k = 0
/-- how many of the waiting jobs stand ahead of the place (p, k) -/
def bfr (S : mS) (p k n : Nat) : Nat := sm (fun t => if wtg S t ∧ (p < pri S t ∨ (pri S t = p ∧ t < k)) then 1 else 0) n
def rnk (S : mS) (j : Nat) : Nat := bfr S (pri S j) j S.2.2.2
theorem bfr_le (S : mS) (p k n : Nat) : bfr S p k n ≤ n := by
  have := sm_le (f := fun t => if wtg S t ∧ (p < pri S t ∨ (pri S t = p ∧ t < k)) then 1 else 0) (b := 1) (n := n) (fun i _ => by split <;> omega)
  rw [Nat.one_mul] at this
  exact this
theorem bfr_yes {S : mS} {p k n : Nat} (hk : k < n) (hw : wtg S k) (hp : pri S k = p) : bfr S p (k + 1) n = bfr S p k n + 1 := by
  refine sm_one hk (fun i _ hne => ?_) ?_
  · have e : (p < pri S i ∨ (pri S i = p ∧ i < k + 1)) ↔ (p < pri S i ∨ (pri S i = p ∧ i < k)) := by omega
    by_cases q : wtg S i ∧ (p < pri S i ∨ (pri S i = p ∧ i < k + 1))
    · rw [if_pos q, if_pos ⟨q.1, e.mp q.2⟩]
    · rw [if_neg q, if_neg (fun y => q ⟨y.1, e.mpr y.2⟩)]
  · rw [if_pos ⟨hw, Or.inr ⟨hp, Nat.lt_succ_self k⟩⟩, if_neg (fun y => by omega)]
theorem bfr_no {S : mS} {p k n : Nat} (hno : ¬ (wtg S k ∧ pri S k = p)) : bfr S p (k + 1) n = bfr S p k n := by
  refine sm_congr (fun i _ => ?_)
  by_cases q : wtg S i ∧ (p < pri S i ∨ (pri S i = p ∧ i < k + 1))
  · rw [if_pos q, if_pos]
    refine ⟨q.1, ?_⟩
    rcases q.2 with y | ⟨y1, y2⟩
    · exact Or.inl y
    · refine Or.inr ⟨y1, ?_⟩
      by_cases e : i = k
      · rw [e] at q y1; exact absurd ⟨q.1, y1⟩ hno
      · omega
  · rw [if_neg q, if_neg (fun y => q ⟨y.1, y.2.imp id (fun w => ⟨w.1, by omega⟩)⟩)]
theorem bfr_row {S : mS} {p n : Nat} : bfr S p 0 n = bfr S (p + 1) n n := by
  refine sm_congr (fun i hi => ?_)
  by_cases q : wtg S i ∧ (p < pri S i ∨ (pri S i = p ∧ i < 0))
  · rw [if_pos q, if_pos ⟨q.1, by omega⟩]
  · rw [if_neg q, if_neg (fun y => q ⟨y.1, by omega⟩)]
theorem rnk_lt {S : mS} {j k : Nat} (hj : j < S.2.2.2) (hwj : wtg S j) (h : pri S k < pri S j ∨ (pri S j = pri S k ∧ j < k)) : rnk S j < rnk S k := by
  refine sm_lt hj (fun i _ => ?_) ?_
  · by_cases q : wtg S i ∧ (pri S j < pri S i ∨ (pri S i = pri S j ∧ i < j))
    · rw [if_pos q, if_pos ⟨q.1, by omega⟩]; exact Nat.le_refl _
    · rw [if_neg q]; exact Nat.zero_le _
  · rw [if_neg (fun y => by omega), if_pos ⟨hwj, by omega⟩]; exact Nat.zero_lt_one
theorem rnk_inj {S : mS} {j k : Nat} (hj : j < S.2.2.2) (hk : k < S.2.2.2) (hwj : wtg S j) (hwk : wtg S k) (h : rnk S j = rnk S k) : j = k := by
  by_cases e : j = k
  · exact e
  · by_cases q : pri S k < pri S j ∨ (pri S j = pri S k ∧ j < k)
    · have := rnk_lt hj hwj q; omega
    · have := rnk_lt (j := k) (k := j) hk hwk (by omega); omega
/-- the answer of order -/
def ordR (S : mS) (x v : Int32) : Prop := (∃ k, k < S.2.2.2 ∧ wtg S k ∧ nI (rnk S k) = x ∧ v = nI (k + 1)) ∨ (v = -1 ∧ ∀ k, k < S.2.2.2 → wtg S k → ¬ nI (rnk S k) = x)
section OR
variable {h : hM} {α : Nat → Nat → Nat} {R S : mS} {D : dS} {th : Int32} {x1 : Int32} {Q : Int32 → hM → Prop}
theorem C_order (hW : Wd h α (cA α R D S th)) (hA : I_all α R D) (hQ : ∀ v, ordR R x1 v → Q v h) : P_Rows_order Q h (α 0 0) x1 := by
  have hb := hA.1.2.1
  have hL := hA.2.2.2.2.2.2.2.1.2.1
  have hpri : ∀ t, t < R.2.2.2 → pri R t ≤ 15 := fun t ht => pri_le hA.1 (hA.2.1 t ht)
  have hrk : ∀ t, rnk R t < 2 ^ 31 := fun t => by have := bfr_le R (pri R t) t R.2.2.2; unfold rnk; omega
  have r0 := hW.1 0 0 _ rfl
  have hst : ∀ j, j < R.2.2.2 → (stg R j = 0 ↔ wtg R j) := fun j _ => by
    unfold stg wtg
    by_cases q : R.1 11 j = 0
    · rw [if_pos q]
      by_cases w : R.1 13 j = 0
      · rw [if_pos w]; exact ⟨fun _ => ⟨q, w⟩, fun _ => rfl⟩
      · rw [if_neg w]; exact ⟨fun e => absurd e (by decide), fun e => absurd e.2 w⟩
    · rw [if_neg q]; exact ⟨fun e => absurd e q, fun e => absurd e.1 q⟩
  refine ⟨fun z => ?_, fun z => ?_⟩
  · obtain ⟨hX, ex⟩ := i_natE (x := x1) (by rw [Int32.le_iff_toInt_le, show (0 : Int32).toInt = 0 by decide] at z; exact z)
    generalize x1.toInt.toNat = X at hX ex
    have outer : ∀ (n q : Nat), q ≤ 16 → q < n → (∀ t, t < R.2.2.2 → wtg R t → q ≤ pri R t → ¬ rnk R t = X) → (∀ p, q = p + 1 → bfr R p 0 R.2.2.2 ≤ X) → (q = 0 → True) → ∀ B, (∀ p, q = p + 1 → B = bfr R p 0 R.2.2.2) → B ≤ X → L_Rows_order_11 Q n h (α 0 0) (nI (X - B)) (nI q + (-1)) := by
      intro n
      induction n with
      | zero => intro q h1 h2; omega
      | succ n ih =>
        intro q hq hqn hseen hle _ B hB hBX
        cases q with
        | zero =>
          refine ⟨fun _ => hQ _ (Or.inr ⟨rfl, fun t ht hw e => ?_⟩), fun w => absurd (by decide) w⟩
          rw [ex, nI_eq (hrk t) hX] at e
          exact hseen t ht hw (Nat.zero_le _) e
        | succ p =>
          rw [pk_m1]
          have eB := hB p rfl
          refine ⟨fun w => absurd w (nI_pos (by omega)), fun _ => ?_⟩
          have inner : ∀ (n' k : Nat), k ≤ R.2.2.2 → R.2.2.2 < k + n' → (∀ t, t < k → wtg R t → pri R t = p → ¬ rnk R t = X) → bfr R p k R.2.2.2 ≤ X → L_Rows_order_18 Q (L_Rows_order_11 Q n) n' h (α 0 0) (nI (X - bfr R p k R.2.2.2)) (nI p) (nI k) := by
            intro n'
            induction n' with
            | zero => intro k h1 h2; omega
            | succ n' ih' =>
              intro k hk hkn hs hbx
              refine ⟨_, _, r0, rfl, _, hW.1 3 0 _ rfl, _, _, hW.1 3 0 _ rfl, rfl, fun w => ?_, fun w => ?_⟩
              · have : R.2.2.2 ≤ k := (nI_leI (by omega) (by omega)).mp w
                have e : k = R.2.2.2 := by omega
                intro y ey
                rw [ey]
                rw [e] at hs hbx ⊢
                refine ih p (by omega) (by omega) (fun t ht hw hpt => ?_) (fun p' e' => ?_) (fun _ => trivial) _ (fun p' e' => ?_) hbx
                · by_cases e' : pri R t = p
                  · exact hs t ht hw e'
                  · exact hseen t ht hw (by omega)
                · rw [bfr_row, ← e']; exact hbx
                · rw [bfr_row, ← e']
              · have hlt : k < R.2.2.2 := by
                  rcases Nat.lt_or_ge k R.2.2.2 with q | q
                  · exact q
                  · exact absurd (nI_le q (by omega)) w
                have no : ¬ (wtg R k ∧ pri R k = p) → P_Rows_order_75 Q (L_Rows_order_18 Q (L_Rows_order_11 Q n) n') h (α 0 0) (nI (X - bfr R p k R.2.2.2)) (nI p) (nI k) := by
                  intro hno y ey
                  rw [nI_1] at ey
                  rw [ey, ← bfr_no hno]
                  refine ih' (k + 1) hlt (by omega) (fun t ht hw hpt => ?_) (by rw [bfr_no hno]; exact hbx)
                  by_cases e : t = k
                  · rw [e] at hw hpt; exact absurd ⟨hw, hpt⟩ hno
                  · exact hs t (by omega) hw hpt
                refine ⟨_, _, r0, rfl, _, hW.1 3 0 _ rfl, C_getJob hW hL hlt ⟨fun z => (nomatch z), fun a e => ?_⟩⟩
                cases e
                have r := hW.1 17 k _ (cA_17 hlt)
                refine ⟨⟨_, r⟩, _, _, r, rfl, fun v => no (fun y => v ((hst k hlt).mpr y.1)), fun v => ⟨_, r0, C_pri hW hA.1 hlt (hA.2.1 k hlt) ⟨fun u => no (fun y => u (by rw [y.2])), fun u => ?_⟩⟩⟩
                have hw := (hst k hlt).mp v
                have hp15 := hpri k hlt
                rw [nI_eq (by omega) (by omega)] at u
                have er : rnk R k = bfr R p k R.2.2.2 := by unfold rnk; rw [u]
                refine ⟨fun s x2 e2 y ey => ?_, fun s => ⟨_, _, r, rfl, hQ _ (Or.inl ⟨k, hlt, hw, ?_, rfl⟩)⟩⟩
                · have hne : X - bfr R p k R.2.2.2 ≠ 0 := fun e => s (by rw [e]; rfl)
                  rw [nI_1] at ey
                  rw [ey, e2]
                  have e3 : nI (X - bfr R p k R.2.2.2) + (-1) = nI (X - bfr R p (k + 1) R.2.2.2) := by
                    rw [bfr_yes hlt hw u, sb_m1 (by omega), Nat.sub_sub]
                  rw [e3]
                  refine ih' (k + 1) hlt (by omega) (fun t ht hwt hpt => ?_) (by rw [bfr_yes hlt hw u]; omega)
                  by_cases e : t = k
                  · rw [e, er]; omega
                  · exact hs t (by omega) hwt hpt
                · rw [ex, er]
                  rw [show (0 : Int32) = nI 0 from rfl, nI_eq (by omega) (by decide)] at s
                  rw [show bfr R p k R.2.2.2 = X by omega]
          have := inner (R.2.2.2 + 1) 0 (Nat.zero_le _) (by omega) (fun t ht => absurd ht (Nat.not_lt_zero t)) (by rw [← eB]; exact hBX)
          rw [← eB] at this
          exact ⟨_, this⟩
    have h15 : bfr R 15 0 R.2.2.2 = 0 := by
      have : ∀ n, n ≤ R.2.2.2 → bfr R 15 0 n = 0 := by
        intro n
        induction n with
        | zero => intro _; rfl
        | succ n ih =>
          intro hn
          show bfr R 15 0 n + (if wtg R n ∧ (15 < pri R n ∨ (pri R n = 15 ∧ n < 0)) then 1 else 0) = 0
          have := hpri n (by omega)
          rw [ih (by omega), if_neg (fun y => by omega)]
      exact this _ (Nat.le_refl _)
    have e15 : ∀ p, 16 = p + 1 → bfr R p 0 R.2.2.2 = 0 := fun p e => by
      have : p = 15 := by omega
      rw [this]
      exact h15
    have := outer 17 16 (by decide) (by decide) (fun t ht _ hpt => by have := hpri t ht; omega) (fun p e => by rw [e15 p e]; exact Nat.zero_le _) (fun _ => trivial) 0 (fun p e => (e15 p e).symm) (Nat.zero_le _)
    rw [Nat.sub_zero, ← ex] at this
    exact ⟨17, this⟩
  · refine hQ _ (Or.inr ⟨rfl, fun k _ _ e => z ?_⟩)
    rw [← e]
    exact nI_pos' (hrk k)
theorem M_order {K : hM → Prop} {v : Int32} (hW : Wd h α (cA α R D S th)) (hn : I_num S) (hI : I_job S) (hv : ordR S x1 v) (hK : ∀ h', Wd h' α (cA α R D S 0) → K h') : P_Mod_order (fun r' h2 => v = r' ∧ K h2) h (α 20 0) x1 := by
  have hb := hn.2.1
  refine M_begin hW (fun h1 hW1 => ?_)
  have r0 := hW1.1 20 0 _ rfl
  have r11 := hW1.1 34 0 _ rfl
  have r13 := hW1.1 36 0 _ rfl
  have hrk : ∀ t, rnk S t < 2 ^ 31 := fun t => by have := bfr_le S (pri S t) t S.2.2.2; unfold rnk; omega
  have outer : ∀ (n j : Nat), j ≤ S.2.2.2 → S.2.2.2 < j + n → (∀ t, t < j → wtg S t → ¬ nI (rnk S t) = x1) → L_Mod_order_7 (fun r' h2 => v = r' ∧ K h2) n h1 (α 20 0) x1 (nI j) := by
    intro n
    induction n with
    | zero => intro j h1 h2; omega
    | succ n ih =>
      intro j hj hjn hs
      refine ⟨_, _, r0, rfl, fun z => ⟨?_, hK _ hW1⟩, fun z => ?_⟩
      · have : S.2.2.2 ≤ j := (nI_leI (by omega) (by omega)).mp z
        rcases hv with ⟨k, a, b, c, _⟩ | ⟨e, _⟩
        · exact absurd c (hs k (by omega) b)
        · exact e
      · have hlt : j < S.2.2.2 := by
          rcases Nat.lt_or_ge j S.2.2.2 with q | q
          · exact q
          · exact absurd (nI_le q (by omega)) z
        have go : (wtg S j → ¬ nI (rnk S j) = x1) → P_Mod_order_109 (fun r' h2 => v = r' ∧ K h2) (L_Mod_order_7 (fun r' h2 => v = r' ∧ K h2) n) h1 (α 20 0) x1 (nI j) := by
          intro hno y ey
          rw [nI_1] at ey
          rw [ey]
          refine ih (j + 1) hlt (by omega) (fun t ht hw => ?_)
          by_cases e : t = j
          · rw [e] at hw ⊢; exact hno hw
          · exact hs t (by omega) hw
        have ij := vp_in_nI (n := j) (N := 100) (by omega) (by decide)
        refine ⟨_, _, r0, rfl, _, _, r11, ij, ?_⟩
        rw [nI_clamp (by omega)]
        refine ⟨fun w => go (fun q => absurd q.1 w), fun w1 => ⟨_, _, r0, rfl, _, _, r13, ij, ?_⟩⟩
        refine ⟨fun w2 => ?_, fun w => go (fun q => absurd q.2 w)⟩
        have hwj : wtg S j := ⟨w1, w2⟩
        have inner : ∀ (n' k : Nat), k ≤ S.2.2.2 → S.2.2.2 < k + n' → L_Mod_order_41 (fun r' h2 => v = r' ∧ K h2) (L_Mod_order_7 (fun r' h2 => v = r' ∧ K h2) n) n' h1 (α 20 0) x1 (nI j) (nI (bfr S (pri S j) j k)) (nI k) := by
          intro n'
          induction n' with
          | zero => intro k h1 h2; omega
          | succ n' ih' =>
            intro k hk hkn
            refine ⟨_, _, r0, rfl, fun z => ?_, fun z => ?_⟩
            · have : S.2.2.2 ≤ k := (nI_leI (by omega) (by omega)).mp z
              have e : k = S.2.2.2 := by omega
              rw [e]
              refine ⟨fun q => go (fun _ => q), fun q => ⟨?_, hK _ hW1⟩⟩
              rcases hv with ⟨t, a, b, c, d⟩ | ⟨_, e⟩
              · rw [d, nI_1]
                have : rnk S j = rnk S t := by
                  rw [← nI_eq (hrk j) (hrk t), c]; exact q
                rw [rnk_inj hlt a hwj b this]
              · exact absurd q (e j hlt hwj)
            · have hkl : k < S.2.2.2 := by
                rcases Nat.lt_or_ge k S.2.2.2 with q | q
                · exact q
                · exact absurd (nI_le q (by omega)) z
              have ik := vp_in_nI (n := k) (N := 100) (by omega) (by decide)
              have go' : ∀ c : Nat, c = (if wtg S k ∧ (pri S j < pri S k ∨ (pri S k = pri S j ∧ k < j)) then 1 else 0) → P_Mod_order_92 (fun r' h2 => v = r' ∧ K h2) (L_Mod_order_41 (fun r' h2 => v = r' ∧ K h2) (L_Mod_order_7 (fun r' h2 => v = r' ∧ K h2) n) n') h1 (α 20 0) x1 (nI j) (nI k) (nI c) (nI (bfr S (pri S j) j k)) := by
                intro c hc x e y ey
                rw [nI_1] at ey
                rw [nI_add, hc] at e
                rw [ey, e]
                exact ih' (k + 1) hkl (by omega)
              refine ⟨_, _, r0, rfl, _, _, r11, ik, ?_⟩
              rw [nI_clamp (by omega)]
              refine ⟨fun w => go' 0 (by rw [if_neg (fun y => w y.1.1)]), fun w1 => ⟨_, _, r0, rfl, _, _, r13, ik, ?_⟩⟩
              refine ⟨fun w => go' 0 (by rw [if_neg (fun y => w y.1.2)]), fun w2 => ⟨fun w => ?_, fun w => ⟨_, r0, M_ahead hW1 hn hI hkl hlt ?_⟩⟩⟩
              · rw [nI_eq (by omega) (by omega)] at w
                refine go' 0 ?_
                rw [if_neg (fun y => by rw [w] at y; omega)]
              · by_cases q : pri S j < pri S k ∨ (pri S k = pri S j ∧ k < j)
                · rw [if_pos (by omega)]
                  exact ⟨fun u => absurd u (by decide), fun _ => go' 1 (by rw [if_pos ⟨⟨w1, w2⟩, q⟩])⟩
                · rw [if_neg (by omega)]
                  exact ⟨fun _ => go' 0 (by rw [if_neg (fun y => q y.2)]), fun u => absurd rfl u⟩
        exact ⟨S.2.2.2 + 1, inner _ 0 (Nat.zero_le _) (by omega)⟩
  exact ⟨S.2.2.2 + 1, outer _ 0 (Nat.zero_le _) (by omega) (fun t ht => absurd ht (Nat.not_lt_zero t))⟩
theorem sim_order {K : hM → Prop} (hI : INV h α S D th) (hK : Go α K) : P_Rows_order (fun r h1 => P_Mod_order (fun r' h2 => r = r' ∧ K h2) h1 (α 20 0) x1) h (α 0 0) x1 := by
  obtain ⟨hW, hA⟩ := hI
  exact C_order hW hA (fun v hv => M_order hW hA.1 hA.2.1 hv (fun h2 hW2 => hK h2 α S D 0 ⟨hW2, hA⟩ rfl rfl))
end OR
