theorem sm_mono {f : Nat → Nat} {i n : Nat} (h : i ≤ n) : sm f i ≤ sm f n := by
  induction n with
  | zero => rw [Nat.le_zero.mp h]; exact Nat.le_refl _
  | succ n ih =>
    by_cases e : i = n + 1
    · rw [e]; exact Nat.le_refl _
    · exact Nat.le_trans (ih (by omega)) (Nat.le_add_right _ _)
theorem sm_mul (a : Nat) (f : Nat → Nat) (n : Nat) : sm (fun k => a * f k) n = a * sm f n := by
  induction n with
  | zero => rfl
  | succ n ih =>
    show sm (fun k => a * f k) n + a * f n = a * (sm f n + f n)
    rw [ih, Nat.mul_add]
theorem sm_dm (W r : Nat) (w : Nat → Nat) (n : Nat) : W * sm (fun k => r * w k / W) n + sm (fun k => r * w k % W) n = r * sm w n := by
  induction n with
  | zero => rfl
  | succ n ih =>
    show W * (sm (fun k => r * w k / W) n + r * w n / W) + (sm (fun k => r * w k % W) n + r * w n % W) = r * (sm w n + w n)
    have h2 := Nat.div_add_mod (r * w n) W
    rw [Nat.mul_add, Nat.mul_add, ← ih]
    omega
/-- how many classes' remainders stand ahead -/
def shA (w : Nat → Nat) (W r c n : Nat) : Nat := sm (fun k => if r * w c % W < r * w k % W ∨ (r * w k % W = r * w c % W ∧ k < c) then 1 else 0) n
def shM (w : Nat → Nat) (W r n : Nat) : Nat := sm (fun k => r * w k % W) n
def shF (w : Nat → Nat) (W q r n : Nat) : Nat := sm (fun k => q * w k + r * w k / W) n
def shR (w : Nat → Nat) (c A : Nat) : Nat := A / sm w 36 * w c + A % sm w 36 * w c / sm w 36 + (if shM w (sm w 36) (A % sm w 36) 36 / sm w 36 ≤ shA w (sm w 36) (A % sm w 36) c 36 then 0 else 1)
theorem sh_left {w : Nat → Nat} {A : Nat} (hW : 0 < sm w 36) : shF w (sm w 36) (A / sm w 36) (A % sm w 36) 36 ≤ A ∧ A - shF w (sm w 36) (A / sm w 36) (A % sm w 36) 36 = shM w (sm w 36) (A % sm w 36) 36 / sm w 36 := by
  have h1 : shF w (sm w 36) (A / sm w 36) (A % sm w 36) 36 = A / sm w 36 * sm w 36 + sm (fun k => A % sm w 36 * w k / sm w 36) 36 := by
    unfold shF
    rw [← sm_mul, sm_add (fun k _ => rfl)]
  have h2 := sm_dm (sm w 36) (A % sm w 36) w 36
  have h3 := Nat.div_add_mod A (sm w 36)
  have h3' : A / sm w 36 * sm w 36 + A % sm w 36 = A := by rw [Nat.mul_comm]; exact h3
  have hD : sm (fun k => A % sm w 36 * w k / sm w 36) 36 ≤ A % sm w 36 := by
    refine Nat.le_of_mul_le_mul_left (c := sm w 36) ?_ hW
    rw [Nat.mul_comm (sm w 36) (A % sm w 36)]
    omega
  have hM : shM w (sm w 36) (A % sm w 36) 36 = sm w 36 * (A % sm w 36 - sm (fun k => A % sm w 36 * w k / sm w 36) 36) := by
    unfold shM
    rw [Nat.mul_sub, Nat.mul_comm (sm w 36) (A % sm w 36), ← h2]
    omega
  refine ⟨by omega, ?_⟩
  rw [hM, Nat.mul_div_cancel_left _ hW, h1]
  omega
def wgt (S : mS) (k : Nat) : Nat := (S.1 6 k).toNatClampNeg
theorem wgt_le {S : mS} (h : I_wei S) {k : Nat} (hk : k < 36) : wgt S k ≤ 1000 ∧ S.1 6 k = nI (wgt S k) := by
  obtain ⟨h0, h1⟩ := h k hk
  refine ⟨?_, (i_clampN h0).symm⟩
  show (S.1 6 k).toInt.toNat ≤ 1000
  omega
theorem wsum_le {S : mS} (h : I_wei S) {n : Nat} (hn : n ≤ 36) : sm (wgt S) n ≤ 36000 := by
  have := sm_le (f := wgt S) (b := 1000) (n := n) (fun j hj => (wgt_le h (by omega)).1)
  omega
theorem n36 {p : Nat} (hp : p < 1000) : (36 : Int32) ≤ nI p ↔ 36 ≤ p := by
  rw [show (36 : Int32) = nI 36 from rfl, nI_leI (by decide) (by omega)]
section SH
variable {h : hM} {α : Nat → Nat → Nat} {R S : mS} {D : dS} {th : Int32} {Q : Int64 → hM → Prop} {c A : Nat}
theorem C_sum (hW : Wd h α (cA α R D S th)) (hw : I_wei R) (hQ : Q (lN (sm (wgt R) 36)) h) : P_Rows_sumOfWeights Q h (α 0 0) := by
  have loop : ∀ (n i : Nat), i ≤ 36 → 36 < i + n → L_Rows_sumOfWeights_4 Q n h (α 0 0) (lN (sm (wgt R) i)) (nI i) := by
    intro n
    induction n with
    | zero => intro i h1 h2; omega
    | succ n ih =>
      intro i hi hn
      refine ⟨_, _, hW.1 0 0 _ rfl, rfl, _, _, hW.1 8 0 _ rfl, fun z => ?_, fun z => ?_⟩
      · have : 36 ≤ i := (nI_leI (by omega) (by omega)).mp z
        have e : i = 36 := by omega
        rw [e]; exact hQ
      · have hlt : i < 36 := by
          rcases Nat.lt_or_ge i 36 with q | q
          · exact q
          · exact absurd (nI_le q (by omega)) z
        obtain ⟨b, e⟩ := wgt_le hw hlt
        refine ⟨_, _, hW.1 0 0 _ rfl, rfl, _, _, hW.1 8 0 _ rfl, vp_in_nI hlt (by decide), fun x ex y ey => ?_⟩
        rw [nI_1] at ey
        rw [nI_clamp (by omega), e, nI_l (by omega), lN_add] at ex
        rw [ex, ey]
        exact ih (i + 1) hlt (by omega)
  exact ⟨37, loop 37 0 (by decide) (by decide)⟩
/-- numbers of a share -/
theorem sh_num (hw : I_wei R) (hWp : 0 < sm (wgt R) 36) {k : Nat} (hk : k < 36) : A % sm (wgt R) 36 * wgt R k < 2 ^ 62 := by
  have h1 := (wgt_le hw hk).1
  have h2 := wsum_le hw (Nat.le_refl 36)
  have h3 := Nat.mod_lt A hWp
  have : A % sm (wgt R) 36 * wgt R k ≤ 36000 * 1000 := Nat.mul_le_mul (by omega) h1
  omega
theorem sh_ahead {W r c k : Nat} {w : Nat → Nat} (hW : 0 < W) (hW2 : W ≤ 36000) : (lN (r * w c % W) < lN (r * w k % W) ↔ r * w c % W < r * w k % W) ∧ (lN (r * w k % W) = lN (r * w c % W) ↔ r * w k % W = r * w c % W) := by
  have h1 := Nat.mod_lt (r * w c) hW
  have h2 := Nat.mod_lt (r * w k) hW
  exact ⟨lN_lt (by omega) (by omega), lN_eq (by omega) (by omega)⟩
theorem C_share (hW : Wd h α (cA α R D S th)) (hw : I_wei R) (hc : c < 36) (hA : A < 2 ^ 63) (hWp : 0 < sm (wgt R) 36) (hQ : Q (lN (shR (wgt R) c A)) h) : P_Rows_share Q h (α 0 0) (nI c) (lN A) := by
  have hW2 := wsum_le hw (Nat.le_refl 36)
  obtain ⟨bc, ec⟩ := wgt_le hw hc
  have ic := vp_in_nI hc (N := 36) (by decide)
  have cc : (nI c).toNatClampNeg = c := nI_clamp (by omega)
  have h0 : ¬ lN (sm (wgt R) 36) = 0 := by rw [show (0 : Int64) = lN 0 from rfl, lN_eq (by omega) (by decide)]; omega
  refine C_isClass_yes (by rw [nI_toInt (by omega)]; omega) (by rw [nI_toInt (by omega)]; omega) ⟨fun z => absurd z (by decide), fun _ => ⟨fun _ => ⟨_, hW.1 0 0 _ rfl, C_sum hW hw ⟨fun _ => ?_, fun z => ?_⟩⟩, fun z => ?_⟩⟩
  · refine ⟨h0, fun x6 e6 => ?_⟩
    rw [pk_lRem hA hWp (by omega)] at e6
    refine ⟨_, _, hW.1 0 0 _ rfl, rfl, _, _, hW.1 8 0 _ rfl, ic, h0, fun x8 e8 => ?_⟩
    rw [cc, ec, nI_l (by omega), e6, lN_mul, pk_lRem (by have := sh_num (A := A) hw hWp hc; omega) hWp (by omega)] at e8
    rw [e6, e8]
    unfold shR at hQ
    have hrW := Nat.mod_lt A hWp
    have hnum := fun k hk => sh_num (A := A) (k := k) hw hWp hk
    generalize hqe : A / sm (wgt R) 36 = q at hQ
    generalize hre : A % sm (wgt R) 36 = r at hQ hrW hnum ⊢
    generalize hWe : sm (wgt R) 36 = W at hQ hrW hnum hWp hW2 h0 hqe ⊢
    have loop : ∀ (n i : Nat), i ≤ 36 → 36 < i + n → L_Rows_share_70 Q n h (α 0 0) (nI c) (lN A) (lN W) (lN r) (lN (r * wgt R c % W)) (lN (shM (wgt R) W r i)) (nI (shA (wgt R) W r c i)) (nI i) := by
      intro n
      induction n with
      | zero => intro i h1 h2; omega
      | succ n ih =>
        intro i hi hn
        refine ⟨_, _, hW.1 0 0 _ rfl, rfl, _, _, hW.1 8 0 _ rfl, fun z => ?_, fun z => ?_⟩
        · have : 36 ≤ i := (nI_leI (by omega) (by omega)).mp z
          have e : i = 36 := by omega
          rw [e]
          refine ⟨h0, fun x13 e13 => ⟨h0, _, _, hW.1 0 0 _ rfl, rfl, _, _, hW.1 8 0 _ rfl, ic, _, _, hW.1 0 0 _ rfl, rfl, _, _, hW.1 8 0 _ rfl, ic, h0, fun x15 e15 => ?_⟩⟩
          have hM : shM (wgt R) W r 36 ≤ 36000 * 36 := sm_le (fun k _ => by have := Nat.mod_lt (r * wgt R k) hWp; omega)
          have hG : shA (wgt R) W r c 36 ≤ 1 * 36 := sm_le (fun k _ => by split <;> omega)
          have hMd : shM (wgt R) W r 36 / W ≤ 36000 * 36 := Nat.le_trans (Nat.div_le_self _ _) hM
          rw [pk_lDiv (by omega) hWp (by omega)] at e13
          rw [cc, ec, nI_l (by omega), pk_lDiv hA hWp (by omega), hqe, lN_mul, lN_mul, pk_lDiv (by have := hnum c hc; omega) hWp (by omega), lN_add] at e15
          rw [e13, e15, nI_l (by omega)]
          refine ⟨fun y => ?_, fun y => ?_⟩
          · rw [lN_le (by omega) (by omega)] at y
            rw [if_pos y] at hQ; exact hQ
          · rw [lN_le (by omega) (by omega)] at y
            rw [if_neg y] at hQ
            rw [lN_1]; exact hQ
        · have hlt : i < 36 := by
            rcases Nat.lt_or_ge i 36 with q | q
            · exact q
            · exact absurd (nI_le q (by omega)) z
          obtain ⟨bi, ei⟩ := wgt_le hw hlt
          refine ⟨_, _, hW.1 0 0 _ rfl, rfl, _, _, hW.1 8 0 _ rfl, vp_in_nI hlt (by decide), h0, fun x14 e14 x10 e10 => ?_⟩
          rw [nI_clamp (by omega), ei, nI_l (by omega), lN_mul, pk_lRem (by have := hnum i hlt; omega) hWp (by omega)] at e14
          rw [e14, lN_add] at e10
          rw [e14, e10]
          obtain ⟨a1, a2⟩ := sh_ahead (r := r) (c := c) (k := i) (w := wgt R) hWp hW2
          have go : ∀ v : Nat, v = (if r * wgt R c % W < r * wgt R i % W ∨ (r * wgt R i % W = r * wgt R c % W ∧ i < c) then 1 else 0) → P_Rows_share_128 Q (L_Rows_share_70 Q n) h (α 0 0) (nI c) (lN A) (lN W) (lN r) (lN (r * wgt R c % W)) (lN (shM (wgt R) W r i + r * wgt R i % W)) (nI (shA (wgt R) W r c i + v)) (nI i) := by
            intro v hv y ey
            rw [nI_1] at ey
            rw [ey, hv]
            exact ih (i + 1) hlt (by omega)
          have yes : (r * wgt R c % W < r * wgt R i % W ∨ (r * wgt R i % W = r * wgt R c % W ∧ i < c)) → P_Rows_share_125 Q (L_Rows_share_70 Q n) h (α 0 0) (nI c) (lN A) (lN W) (lN r) (lN (r * wgt R c % W)) (lN (shM (wgt R) W r i + r * wgt R i % W)) (nI (shA (wgt R) W r c i)) (nI i) := by
            intro p x ex
            rw [nI_1] at ex
            rw [ex]
            exact go 1 (by rw [if_pos p])
          refine ⟨fun y => yes (Or.inl (a1.mp y)), fun y => ⟨fun x => go 0 ?_, fun x => ⟨fun u => go 0 ?_, fun u => yes (Or.inr ⟨a2.mp x, ?_⟩)⟩⟩⟩
          · rw [if_neg (fun p => p.elim (fun p => y (a1.mpr p)) (fun p => x (a2.mpr p.1)))]
          · rw [nI_leI (by omega) (by omega)] at u
            rw [if_neg (fun p => p.elim (fun p => y (a1.mpr p)) (fun p => by omega))]
          · rw [nI_leI (by omega) (by omega)] at u; omega
    exact ⟨37, loop 37 0 (by decide) (by decide)⟩
  · rw [show (0 : Int64) = lN 0 from rfl, lN_lt (by decide) (by omega)] at z
    omega
  · rw [show (0 : Int64) = lN 0 from rfl, pk_lLE (by decide) hA] at z
    omega
theorem C_share_no {x1 : Int32} {x2 : Int64} (hW : Wd h α (cA α R D S th)) (hn : ¬ ((0 ≤ x1.toInt ∧ x1.toInt < 36) ∧ 0 ≤ x2.toInt)) (hQ : Q (-1) h) : P_Rows_share Q h (α 0 0) x1 x2 := by
  by_cases hc : 0 ≤ x1.toInt ∧ x1.toInt < 36
  · refine C_isClass_yes hc.1 hc.2 ⟨fun _ => hQ, fun _ => ⟨fun z => ?_, fun _ => hQ⟩⟩
    rw [Int64.le_iff_toInt_le, show (0 : Int64).toInt = 0 by decide] at z
    exact absurd ⟨hc, z⟩ hn
  · exact C_isClass_no hc ⟨fun _ => hQ, fun z => absurd rfl z⟩
theorem M_share_no {x1 : Int32} {x2 : Int64} (hW : Wd h α (cA α R D S th)) (hn : ¬ ((0 ≤ x1.toInt ∧ x1.toInt < 36) ∧ 0 ≤ x2.toInt)) (hQ : ∀ h', Wd h' α (cA α R D S 0) → Q (-1) h') : P_Mod_share Q h (α 20 0) x1 x2 := by
  refine M_begin hW (fun h1 hW1 => ?_)
  by_cases hc : 0 ≤ x1.toInt ∧ x1.toInt < 36
  · refine M_isClass_yes hc.1 hc.2 ⟨fun _ => hQ _ hW1, fun _ => ⟨fun z => ?_, fun _ => hQ _ hW1⟩⟩
    rw [Int64.le_iff_toInt_le, show (0 : Int64).toInt = 0 by decide] at z
    exact absurd ⟨hc, z⟩ hn
  · exact M_isClass_no hc ⟨fun _ => hQ _ hW1, fun z => absurd rfl z⟩
theorem M_share (hW : Wd h α (cA α R D S th)) (hw : I_wei S) (hc : c < 36) (hA : A < 2 ^ 63) (hQ : 0 < sm (wgt S) 36 → ∀ h', Wd h' α (cA α R D S 0) → Q (lN (shR (wgt S) c A)) h') (hQ0 : sm (wgt S) 36 = 0 → ∀ h', Wd h' α (cA α R D S 1) → Q 0 h') : P_Mod_share Q h (α 20 0) (nI c) (lN A) := by
  have hW2 := wsum_le hw (Nat.le_refl 36)
  obtain ⟨bc, ec⟩ := wgt_le hw hc
  have ic := vp_in_nI hc (N := 36) (by decide)
  have cc : (nI c).toNatClampNeg = c := nI_clamp (by omega)
  refine M_begin hW (fun h1 hW1 => M_isClass_yes (by rw [nI_toInt (by omega)]; omega) (by rw [nI_toInt (by omega)]; omega) ⟨fun z => absurd z (by decide), fun _ => ⟨fun _ => ?_, fun z => ?_⟩⟩)
  · have r0 := hW1.1 20 0 _ rfl
    have r6 := hW1.1 29 0 _ rfl
    have loop1 : ∀ (n i : Nat), i ≤ 36 → 36 < i + n → L_Mod_share_28 Q n h1 (α 20 0) (nI c) (lN A) (lN (sm (wgt S) i)) (nI i) := by
      intro n
      induction n with
      | zero => intro i h1 h2; omega
      | succ n ih =>
        intro i hi hn
        refine ⟨fun z => ?_, fun z => ?_⟩
        · have := (n36 (by omega)).mp z
          have e : i = 36 := by omega
          rw [e]
          refine ⟨fun y => ?_, fun y => ?_⟩
          · have hWp : 0 < sm (wgt S) 36 := by
              rcases Nat.eq_zero_or_pos (sm (wgt S) 36) with q | q
              · rw [q] at y; exact absurd rfl y
              · exact q
            have hQ := hQ hWp h1 hW1
            obtain ⟨hF, hL⟩ := sh_left (A := A) hWp
            refine ⟨y, fun x6 e6 => ⟨y, fun x8 e8 => ⟨_, _, r0, rfl, _, _, r6, ic, y, fun x13 e13 => ?_⟩⟩⟩
            have ec' : S.1 (29 - 20 - 3) c = nI (wgt S c) := ec
            rw [pk_lDiv hA hWp (by omega)] at e6
            rw [pk_lRem hA hWp (by omega)] at e8
            rw [cc, ec', nI_l (by omega), e8, lN_mul, pk_lRem (by have := sh_num (A := A) hw hWp hc; omega) hWp (by omega)] at e13
            rw [e6, e8, e13]
            unfold shR at hQ
            rw [← hL] at hQ
            have hrW := Nat.mod_lt A hWp
            have hnum := fun k hk => sh_num (A := A) (k := k) hw hWp hk
            generalize hqe : A / sm (wgt S) 36 = q at hQ hF ⊢
            generalize hre : A % sm (wgt S) 36 = r at hQ hrW hnum hF ⊢
            generalize hWe : sm (wgt S) 36 = W at hQ hrW hnum hWp hW2 y hF hqe ⊢
            have loop2 : ∀ (n i : Nat), i ≤ 36 → 36 < i + n → L_Mod_share_104 Q n h1 (α 20 0) (nI c) (lN W) (lN q) (lN r) (lN (A - shF (wgt S) W q r i)) (nI (shA (wgt S) W r c i)) (lN (r * wgt S c % W)) (nI i) := by
              intro n
              induction n with
              | zero => intro i h1 h2; omega
              | succ n ih =>
                intro i hi hn
                refine ⟨fun z => ?_, fun z => ?_⟩
                · have := (n36 (by omega)).mp z
                  have e : i = 36 := by omega
                  rw [e]
                  have hG : shA (wgt S) W r c 36 ≤ 1 * 36 := sm_le (fun k _ => by split <;> omega)
                  refine ⟨_, _, r0, rfl, _, _, r6, ic, _, _, r0, rfl, _, _, r6, ic, y, ?_⟩
                  rw [cc, ec', nI_l (by omega), nI_l (by omega), lN_mul, lN_mul, pk_lDiv (by have := hnum c hc; omega) hWp (by omega), lN_add]
                  refine ⟨fun u => ?_, fun u => ?_⟩
                  · rw [pk_lLE (by omega) (by omega)] at u
                    rw [if_pos u] at hQ
                    rw [show (0 : Int64) = lN 0 from rfl, lN_add]; exact hQ
                  · rw [pk_lLE (by omega) (by omega)] at u
                    rw [if_neg u] at hQ
                    rw [lN_1]; exact hQ
                · have hlt : i < 36 := by
                    rcases Nat.lt_or_ge i 36 with q | q
                    · exact q
                    · exact absurd ((n36 (by omega)).mpr q) z
                  obtain ⟨bi, ei⟩ := wgt_le hw hlt
                  have ei' : S.1 (29 - 20 - 3) i = nI (wgt S i) := ei
                  have ii := vp_in_nI hlt (N := 36) (by decide)
                  have ci : (nI i).toNatClampNeg = i := nI_clamp (by omega)
                  refine ⟨_, _, r0, rfl, _, _, r6, ii, _, _, r0, rfl, _, _, r6, ii, y, fun x10 e10 => ⟨_, _, r0, rfl, _, _, r6, ii, y, fun x16 e16 => ?_⟩⟩
                  rw [ci, ei', nI_l (by omega)] at e10 e16
                  rw [lN_mul, lN_mul, pk_lDiv (by have := hnum i hlt; omega) hWp (by omega), lN_add] at e10
                  rw [lN_mul, pk_lRem (by have := hnum i hlt; omega) hWp (by omega)] at e16
                  have hFi : shF (wgt S) W q r (i + 1) ≤ A := Nat.le_trans (sm_mono (by omega)) hF
                  have hFs : shF (wgt S) W q r (i + 1) = shF (wgt S) W q r i + (q * wgt S i + r * wgt S i / W) := rfl
                  rw [lN_sub (by omega), Nat.sub_sub, ← hFs] at e10
                  rw [e10, e16]
                  obtain ⟨a1, a2⟩ := sh_ahead (r := r) (c := c) (k := i) (w := wgt S) hWp hW2
                  have go : ∀ v : Nat, v = (if r * wgt S c % W < r * wgt S i % W ∨ (r * wgt S i % W = r * wgt S c % W ∧ i < c) then 1 else 0) → P_Mod_share_187 Q (L_Mod_share_104 Q n) h1 (α 20 0) (nI c) (lN W) (lN q) (lN r) (lN (A - shF (wgt S) W q r (i + 1))) (lN (r * wgt S c % W)) (nI i) (nI v) (nI (shA (wgt S) W r c i)) := by
                    intro v hv x ex y ey
                    rw [nI_1] at ey
                    rw [nI_add, hv] at ex
                    rw [ex, ey]
                    exact ih (i + 1) hlt (by omega)
                  refine ⟨fun u => go 1 (by rw [if_pos (Or.inl (a1.mp u))]), fun u => ⟨fun x => go 0 ?_, fun x => ⟨fun v => go 0 ?_, fun v => go 1 ?_⟩⟩⟩
                  · rw [if_neg (fun p => p.elim (fun p => u (a1.mpr p)) (fun p => x (a2.mpr p.1)))]
                  · rw [nI_leI (by omega) (by omega)] at v
                    rw [if_neg (fun p => p.elim (fun p => u (a1.mpr p)) (fun p => by omega))]
                  · rw [nI_leI (by omega) (by omega)] at v
                    rw [if_pos (Or.inr ⟨a2.mp x, by omega⟩)]
            exact ⟨37, loop2 37 0 (by decide) (by decide)⟩
          · have h00 : sm (wgt S) 36 = 0 := by
              rw [show (0 : Int64) = lN 0 from rfl, lN_eq (by omega) (by decide)] at y; exact y
            refine ⟨_, r0, Nat.le_of_ble_eq_true rfl, fun h2 e2 => hQ0 h00 h2 ?_⟩
            rw [e2]
            exact hW1.mhead (th' := 1) (fun _ => rfl) rfl
        · have hlt : i < 36 := by
            rcases Nat.lt_or_ge i 36 with q | q
            · exact q
            · exact absurd ((n36 (by omega)).mpr q) z
          obtain ⟨b, e⟩ := wgt_le hw hlt
          have e' : S.1 (29 - 20 - 3) i = nI (wgt S i) := e
          refine ⟨_, _, r0, rfl, _, _, r6, vp_in_nI hlt (by decide), fun x ex y ey => ?_⟩
          rw [nI_1] at ey
          rw [nI_clamp (by omega), e', nI_l (by omega), lN_add] at ex
          rw [ex, ey]
          exact ih (i + 1) hlt (by omega)
    exact ⟨37, loop1 37 0 (by decide) (by decide)⟩
  · rw [show (0 : Int64) = lN 0 from rfl, pk_lLE (by decide) hA] at z
    omega
theorem M_thrown {Q : Int32 → hM → Prop} (hW : Wd h α (cA α R D S th)) (hQ : Q th h) : P_Mod_thrown Q h (α 20 0) := ⟨_, _, hW.1 20 0 _ rfl, rfl, hQ⟩
end SH
