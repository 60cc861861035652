def rS (S : mS) (f : Nat → Int32) : mS := (fun k => if k = 16 then f else S.1 k, S.2)
theorem rS_up (S : mS) (f : Nat → Int32) (i : Nat) (v : Int32) : s_up (rS S f) 16 i v = rS S (upd f i v) := by
  obtain ⟨s1, s2⟩ := S
  show (_, s2) = (_, s2)
  congr 1
  funext k
  show (if k = 16 then upd f i v else if k = 16 then f else s1 k) = (if k = 16 then upd f i v else s1 k)
  by_cases e : k = 16
  · rw [if_pos e, if_pos e]
  · rw [if_neg e, if_neg e, if_neg e]
theorem rS_self (S : mS) : rS S (S.1 16) = S := by
  obtain ⟨s1, s2⟩ := S
  show (_, s2) = (_, s2)
  congr 1
  funext k
  by_cases e : k = 16
  · rw [if_pos e, e]
  · rw [if_neg e]
theorem rch_snoc {e : Nat → Int32} {N : Nat} : ∀ m j k i, k < N → rch e N m j k → e (100 * k + i) = 1 → rch e N (m + 1) j i := by
  intro m
  induction m with
  | zero => intro j k i hk h1 h2; exact ⟨k, hk, h1, h2⟩
  | succ m ih =>
    rintro j k i hk ⟨q, hq, h1, h2⟩ h3
    exact ⟨q, hq, h1, ih q k i hk h2 h3⟩
theorem rch_trans {e : Nat → Int32} {N : Nat} : ∀ m m' j k i, k < N → rch e N m j k → rch e N m' k i → rch e N (m + m' + 1) j i := by
  intro m
  induction m with
  | zero => intro m' j k i hk h1 h2; rw [Nat.zero_add]; exact ⟨k, hk, h1, h2⟩
  | succ m ih =>
    rintro m' j k i hk ⟨q, hq, h1, h2⟩ h3
    have := ih m' q k i hk h2 h3
    rw [show m + 1 + m' + 1 = (m + m' + 1) + 1 by omega]
    exact ⟨q, hq, h1, this⟩
theorem rch_closed {e : Nat → Int32} {N : Nat} {P : Nat → Prop} (hP : ∀ k i, k < N → i < N → P k → e (100 * k + i) = 1 → P i) : ∀ m j k, j < N → k < N → P j → rch e N m j k → P k := by
  intro m
  induction m with
  | zero => intro j k hj hk hp h1; exact hP j k hj hk hp h1
  | succ m ih =>
    rintro j k hj hk hp ⟨q, hq, h1, h2⟩
    exact ih q k hq hk (hP j q hj hq hp h1) h2
/-- a is b, or needs it at some depth -/
def rc (S : mS) (a b : Nat) : Prop := b = a ∨ ∃ m, rch (S.1 15) S.2.2.2 m a b
def cnt0 (f : Nat → Int32) : Nat := sm (fun i => if f i = 0 then 1 else 0) 100
theorem cnt0_up {f : Nat → Int32} {i : Nat} (hi : i < 100) (h0 : f i = 0) : cnt0 f = cnt0 (upd f i 1) + 1 := by
  refine sm_one hi (fun k _ hne => by rw [pk_un hne]) ?_
  rw [if_pos h0, if_neg (by rw [pk_us]; decide)]
theorem n100 {p : Nat} (hp : p < 1000) : (100 : Int32) ≤ nI p ↔ 100 ≤ p := by
  rw [show (100 : Int32) = nI 100 from rfl, nI_leI (by decide) (by omega)]
section RE
variable {h : hM} {α : Nat → Nat → Nat} {R S : mS} {D : dS} {th : Int32} {a b : Nat} {Q : Int32 → hM → Prop}
theorem M_reaches (hW : Wd h α (cA α R D S th)) (hN : I_ned S) (hb : S.2.2.2 ≤ 100) (ha : a < S.2.2.2) (hbj : b < S.2.2.2) (hy : rc S a b → ∀ f h', Wd h' α (cA α R D (rS S f) th) → Q 1 h') (hno : ¬ rc S a b → ∀ f h', Wd h' α (cA α R D (rS S f) th) → Q 0 h') : P_Mod_reaches Q h (α 20 0) (nI a) (nI b) := by
  -- what holds in the passes
  let ok : (Nat → Int32) → Prop := fun f => (∀ i, i < 100 → f i = 0 ∨ f i = 1) ∧ (∀ i, i < 100 → ¬ f i = 0 → i < S.2.2.2 ∧ rc S a i) ∧ f a = 1
  let clo : (Nat → Int32) → Nat → Nat → Prop := fun f k i => (∀ k', k' < k → ¬ f k' = 0 → ∀ i', i' < 100 → ¬ S.1 15 (100 * k' + i') = 0 → ¬ f i' = 0) ∧ (¬ f k = 0 → ∀ i', i' < i → ¬ S.1 15 (100 * k + i') = 0 → ¬ f i' = 0)
  have outer : ∀ (n : Nat) (f : Nat → Int32) (x3 : Int32) (h : hM), Wd h α (cA α R D (rS S f) th) → ok f → (x3 = 0 → clo f 100 0 ∧ 1 ≤ n) → (¬ x3 = 0 → cnt0 f + 2 ≤ n) → L_Mod_reaches_32 Q n h (α 20 0) (nI b) x3 := by
    intro n
    induction n with
    | zero =>
      intro f x3 h hW hok h1 h2
      by_cases e : x3 = 0
      · have := (h1 e).2; omega
      · have := h2 e; omega
    | succ n ih =>
      intro f x3 h hW hok h1 h2
      refine ⟨fun z => ?_, fun z => ?_⟩
      · obtain ⟨⟨c1, _⟩, _⟩ := h1 z
        refine ⟨_, _, hW.1 20 0 _ rfl, rfl, _, _, hW.1 39 0 _ rfl, vp_in_nI (by show b < 100; omega) (by decide), ?_⟩
        rw [nI_clamp (by omega)]
        show (f b = 0 ∨ f b = 1) ∧ Q (f b) h
        refine ⟨hok.1 b (by omega), ?_⟩
        rcases hok.1 b (by omega) with e | e
        · rw [e]
          refine hno (fun q => ?_) f h hW
          rcases q with q | ⟨m, q⟩
          · rw [q, hok.2.2] at e; exact absurd e (by decide)
          · have : ¬ f b = 0 := rch_closed (P := fun k => ¬ f k = 0) (fun k i hk hi hp he => c1 k (by omega) hp i (by omega) (by rw [he]; decide)) m a b ha hbj (by rw [hok.2.2]; decide) q
            exact this e
        · rw [e]
          exact hy (hok.2.1 b (by omega) (by rw [e]; decide)).2 f h hW
      · have hf := h2 z
        -- one pass
        have pass : ∀ (n1 k : Nat) (f' : Nat → Int32) (x : Int32) (h : hM), k ≤ 100 → 100 < k + n1 → Wd h α (cA α R D (rS S f') th) → ok f' → (x = 0 → clo f' k 0) → (¬ x = 0 → cnt0 f' + 1 ≤ cnt0 f) → cnt0 f' ≤ cnt0 f → L_Mod_reaches_41 Q (L_Mod_reaches_32 Q n) n1 h (α 20 0) (nI b) x (nI k) := by
          intro n1
          induction n1 with
          | zero => intro k f' x h h1 h2; omega
          | succ n1 ih1 =>
            intro k f' x h hk hkn hW hok hc hx hle
            refine ⟨fun w => ?_, fun w => ?_⟩
            · have := (n100 (by omega)).mp w
              have e : k = 100 := by omega
              rw [e] at hc
              exact ih f' x h hW hok (fun q => ⟨hc q, by omega⟩) (fun q => by have := hx q; omega)
            · have hk100 : k < 100 := by
                rcases Nat.lt_or_ge k 100 with q | q
                · exact q
                · exact absurd ((n100 (by omega)).mpr q) w
              have next : ∀ (f' : Nat → Int32) (x : Int32) (h : hM), Wd h α (cA α R D (rS S f') th) → ok f' → (x = 0 → clo f' (k + 1) 0) → (¬ x = 0 → cnt0 f' + 1 ≤ cnt0 f) → cnt0 f' ≤ cnt0 f → P_Mod_reaches_113 Q (L_Mod_reaches_41 Q (L_Mod_reaches_32 Q n) n1) h (α 20 0) (nI b) x (nI k) := by
                intro f' x h hW hok hc hx hle y ey
                rw [nI_1] at ey
                rw [ey]
                exact ih1 (k + 1) f' x h hk100 (by omega) hW hok hc hx hle
              have inner : ∀ (n2 i : Nat) (f' : Nat → Int32) (x : Int32) (h : hM), i ≤ 100 → 100 < i + n2 → Wd h α (cA α R D (rS S f') th) → ok f' → (x = 0 → clo f' k i) → (¬ x = 0 → cnt0 f' + 1 ≤ cnt0 f) → cnt0 f' ≤ cnt0 f → L_Mod_reaches_51 Q (L_Mod_reaches_41 Q (L_Mod_reaches_32 Q n) n1) n2 h (α 20 0) (nI b) x (nI k) (nI i) := by
                intro n2
                induction n2 with
                | zero => intro i f' x h h1 h2; omega
                | succ n2 ih2 =>
                  intro i f' x h hi hin hW hok hc hx hle
                  have fin : (¬ f' k = 0 → i = 100) → P_Mod_reaches_113 Q (L_Mod_reaches_41 Q (L_Mod_reaches_32 Q n) n1) h (α 20 0) (nI b) x (nI k) := by
                    intro hfi
                    refine next f' x h hW hok (fun q => ⟨fun k' hk' hf' i' hi' he => ?_, fun _ i' hi' => absurd hi' (Nat.not_lt_zero i')⟩) hx hle
                    obtain ⟨c1, c2⟩ := hc q
                    by_cases e : k' = k
                    · rw [e] at hf' he
                      exact c2 hf' i' (by rw [hfi hf']; exact hi') he
                    · exact c1 k' (by omega) hf' i' hi' he
                  refine ⟨fun v => ?_, fun v => ?_⟩
                  · have := (n100 (by omega)).mp v
                    exact fin (fun _ => by omega)
                  · have hi100 : i < 100 := by
                      rcases Nat.lt_or_ge i 100 with q | q
                      · exact q
                      · exact absurd ((n100 (by omega)).mpr q) v
                    have e100 : (100 : Int32) * nI k + nI i = nI (100 * k + i) := by
                      rw [show (100 : Int32) = nI 100 from rfl, pk_mul, nI_add]
                    have ii := vp_in_nI (n := i) (N := 100) hi100 (by decide)
                    have ci : (nI i).toNatClampNeg = i := nI_clamp (by omega)
                    refine ⟨_, _, hW.1 20 0 _ rfl, rfl, _, _, hW.1 39 0 _ rfl, vp_in_nI hk100 (by decide), ?_⟩
                    rw [nI_clamp (by omega)]
                    refine ⟨fun u => fin (fun q => absurd u q), fun u => ?_⟩
                    have u' : ¬ f' k = 0 := u
                    have step : ∀ (f'' : Nat → Int32) (x : Int32) (h : hM), Wd h α (cA α R D (rS S f'') th) → ok f'' → (x = 0 → clo f'' k (i + 1)) → (¬ x = 0 → cnt0 f'' + 1 ≤ cnt0 f) → cnt0 f'' ≤ cnt0 f → P_Mod_reaches_107 Q (L_Mod_reaches_51 Q (L_Mod_reaches_41 Q (L_Mod_reaches_32 Q n) n1) n2) h (α 20 0) (nI b) x (nI k) (nI i) := by
                      intro f'' x h hW hok hc hx hle y ey
                      rw [nI_1] at ey
                      rw [ey]
                      exact ih2 (i + 1) f'' x h hi100 (by omega) hW hok hc hx hle
                    have ext : (¬ S.1 15 (100 * k + i) = 0 → ¬ f' i = 0) → (x = 0 → clo f' k (i + 1)) := fun g q => by
                      obtain ⟨c1, c2⟩ := hc q
                      refine ⟨c1, fun hf i' hi' he => ?_⟩
                      by_cases e : i' = i
                      · rw [e] at he ⊢; exact g he
                      · exact c2 hf i' (by omega) he
                    refine ⟨_, _, hW.1 20 0 _ rfl, rfl, _, _, hW.1 38 0 _ rfl, by rw [e100]; exact vp_in_nI (by show _ < 10000; omega) (by decide), ?_⟩
                    rw [e100, nI_clamp (by omega)]
                    refine ⟨fun t => step f' x h hW hok (ext (fun g => absurd t g)) hx hle, fun t => ?_⟩
                    have t' : ¬ S.1 15 (100 * k + i) = 0 := t
                    have t1 : S.1 15 (100 * k + i) = 1 := (hN.1 _ (by omega)).resolve_left t'
                    refine ⟨_, _, hW.1 20 0 _ rfl, rfl, _, _, hW.1 39 0 _ rfl, ii, fun s => ?_, fun s => ?_⟩
                    · rw [ci] at s
                      have s' : f' i = 0 := s
                      refine ⟨_, _, hW.1 20 0 _ rfl, rfl, _, _, hW.1 39 0 _ rfl, ii, fun h3 e3 => ?_⟩
                      have hW3 : Wd h3 α (cA α R D (rS S (upd f' i 1)) th) := by
                        rw [← rS_up, e3, ci]
                        exact hW.mset 16 (by decide) rfl rfl rfl i 1
                      have hcn := cnt0_up hi100 s'
                      refine step (upd f' i 1) 1 h3 hW3 ⟨fun q hq => ?_, fun q hq hne => ?_, ?_⟩ (fun q => absurd q (by decide)) (fun _ => by omega) (by omega)
                      · exact upd_all (P := fun v => v = 0 ∨ v = 1) (Or.inr rfl) (hok.1 q hq)
                      · by_cases e : q = i
                        · rw [e]
                          obtain ⟨kn, kr⟩ := hok.2.1 k hk100 u'
                          have := hN.2 k i hk100 hi100 t1
                          refine ⟨this.2, Or.inr ?_⟩
                          rcases kr with q | ⟨m, q⟩
                          · exact ⟨0, by rw [q] at t1; exact t1⟩
                          · exact ⟨m + 1, rch_snoc m a k i kn q t1⟩
                        · rw [pk_un e] at hne
                          exact hok.2.1 q hq hne
                      · exact upd_all (P := fun v => v = 1) rfl hok.2.2
                    · rw [ci] at s
                      exact step f' x h hW hok (ext (fun _ => s)) hx hle
              exact ⟨101, inner 101 0 f' x h (by decide) (by decide) hW hok (fun q => ⟨(hc q).1, fun _ i' hi' => absurd hi' (Nat.not_lt_zero i')⟩) hx hle⟩
        exact ⟨101, pass 101 0 f 0 h (by decide) (by decide) hW hok (fun _ => ⟨fun k' hk' => absurd hk' (Nat.not_lt_zero k'), fun _ i' hi' => absurd hi' (Nat.not_lt_zero i')⟩) (fun q => absurd rfl q) (Nat.le_refl _)⟩
  -- the first loop
  have first : ∀ (n k : Nat) (f : Nat → Int32) (h : hM), k ≤ 100 → 100 < k + n → Wd h α (cA α R D (rS S f) th) → (∀ i, i < k → f i = if i = a then 1 else 0) → L_Mod_reaches_2 Q n h (α 20 0) (nI a) (nI b) (nI k) := by
    intro n
    induction n with
    | zero => intro k f h h1 h2; omega
    | succ n ih =>
      intro k f h hk hkn hW hf
      refine ⟨fun w => ?_, fun w => ?_⟩
      · have := (n100 (by omega)).mp w
        have e : k = 100 := by omega
        rw [e] at hf
        refine ⟨cnt0 f + 2, outer _ f 1 h hW ⟨fun i hi => ?_, fun i hi hne => ?_, ?_⟩ (fun q => absurd q (by decide)) (fun _ => Nat.le_refl _)⟩
        · rw [hf i hi]
          by_cases q : i = a
          · rw [if_pos q]; exact Or.inr rfl
          · rw [if_neg q]; exact Or.inl rfl
        · rw [hf i hi] at hne
          by_cases q : i = a
          · exact ⟨by omega, Or.inl q⟩
          · rw [if_neg q] at hne; exact absurd rfl hne
        · rw [hf a (by omega), if_pos rfl]
      · have hk100 : k < 100 := by
          rcases Nat.lt_or_ge k 100 with q | q
          · exact q
          · exact absurd ((n100 (by omega)).mpr q) w
        have go : ∀ v : Int32, v = (if k = a then 1 else 0) → P_Mod_reaches_23 Q (L_Mod_reaches_2 Q n) h (α 20 0) (nI a) (nI b) (nI k) v (nI k) (α 39 0) := by
          intro v hv
          refine ⟨_, _, hW.1 39 0 _ rfl, vp_in_nI hk100 (by decide), ?_, fun h3 e3 y ey => ?_⟩
          · rw [hv]
            by_cases q : k = a
            · rw [if_pos q]; exact Or.inr rfl
            · rw [if_neg q]; exact Or.inl rfl
          · rw [nI_1] at ey
            rw [ey]
            refine ih (k + 1) (upd f k v) h3 hk100 (by omega) ?_ (fun i hi => ?_)
            · rw [← rS_up, e3, nI_clamp (by omega)]
              exact hW.mset 16 (by decide) rfl rfl rfl k v
            · by_cases e : i = k
              · rw [e, pk_us]; exact hv
              · rw [pk_un e]; exact hf i (by omega)
        refine ⟨_, _, hW.1 20 0 _ rfl, rfl, fun q => go 0 ?_, fun q => go 1 ?_⟩
        · rw [nI_eq (by omega) (by omega)] at q
          rw [if_neg q]
        · rw [nI_eq (by omega) (by omega)] at q
          rw [if_pos q]
  exact ⟨101, first 101 0 (S.1 16) h (by decide) (by decide) (by rw [rS_self]; exact hW) (fun i hi => absurd hi (Nat.not_lt_zero i))⟩
end RE
