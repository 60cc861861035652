def mnt (S : mS) : Int32 := (S.2.1 2 0 - S.2.1 2 0 / (1440 : Int64) * (1440 : Int64)).toInt32
def opn (S : mS) (c : Nat) : Prop := S.1 4 c = S.1 5 c ∨ (¬ S.1 5 c ≤ S.1 4 c ∧ ¬ mnt S < S.1 4 c ∧ ¬ S.1 5 c ≤ mnt S) ∨ (S.1 5 c ≤ S.1 4 c ∧ (S.1 4 c ≤ mnt S ∨ ¬ S.1 5 c ≤ mnt S))
def fre (S : mS) (j i : Nat) : Prop := ∀ k, k < i → S.1 11 k = 2 → ¬ S.1 10 k = S.1 10 j ∧ S.1 14 k = 0
def any2 (S : mS) (i : Nat) : Prop := ∃ k, k < i ∧ S.1 11 k = 2
def ned (S : mS) (j i : Nat) : Prop := ∃ k, k < i ∧ ¬ S.1 15 (100 * j + k) = 0 ∧ ¬ S.1 11 k = 3
def same (S : mS) (j i : Nat) : Nat := sm (fun k => if S.1 11 k = 2 ∧ S.1 8 k = S.1 8 j then 1 else 0) i
def uso (S : mS) (p : Nat) : Int32 := nI (sm (fun j => if S.1 11 j = 2 then (S.1 12 (4 * j + p)).toNatClampNeg else 0) S.2.2.2)
def rom (S : mS) (j i : Nat) : Prop := ∀ p, p < i → S.1 12 (4 * j + p) + uso S p ≤ S.1 7 p
def may (S : mS) (j : Nat) : Prop := S.1 11 j = 0 ∧ S.1 13 j = 0 ∧ opn S (S.1 8 j).toNatClampNeg ∧ fre S j S.2.2.2 ∧ ¬ ned S j S.2.2.2 ∧ rom S j 4 ∧ ¬ S.1 3 (S.1 8 j).toNatClampNeg ≤ nI (same S j S.2.2.2) ∧ ¬ (¬ S.1 14 j = 0 ∧ any2 S S.2.2.2)
section MY
variable {h : hM} {α : Nat → Nat → Nat} {R S : mS} {D : dS} {th : Int32} {j c : Nat} {Q : Int32 → hM → Prop}
theorem C_open (hW : Wd h α (cA α R D S th)) (hc : c < 36) (hy : opn R c → Q 1 h) (hno : ¬ opn R c → Q 0 h) : P_Rows_isWindowOpen Q h (α 0 0) (nI c) := by
  have r0 := hW.1 0 0 _ rfl
  have i := vp_in_nI hc (N := 36) (by decide)
  refine ⟨_, _, r0, rfl, fun x2 e2 => ⟨_, _, r0, rfl, _, _, hW.1 6 0 _ rfl, i, fun x3 e3 => ⟨_, _, r0, rfl, _, _, hW.1 7 0 _ rfl, i, fun x4 e4 => ?_⟩⟩⟩
  rw [nI_clamp (by omega)] at e3 e4
  have e2' : x2 = mnt R := e2
  unfold opn at hy hno
  rw [← e2', ← e3, ← e4] at hy hno
  refine ⟨fun z => ⟨fun y => ⟨fun x => hy (Or.inr (Or.inr ⟨y, Or.inl x⟩)), fun x => ⟨fun w => hno ?_, fun w => hy (Or.inr (Or.inr ⟨y, Or.inr w⟩))⟩⟩, fun y => ⟨fun x => hno ?_, fun x => ⟨fun w => hno ?_, fun w => hy (Or.inr (Or.inl ⟨y, x, w⟩))⟩⟩⟩, fun z => hy (Or.inl z)⟩
  · rintro (q | ⟨q, _⟩ | ⟨_, q | q⟩)
    · exact z q
    · exact q y
    · exact x q
    · exact q w
  · rintro (q | ⟨_, q, _⟩ | ⟨q, _⟩)
    · exact z q
    · exact q x
    · exact y q
  · rintro (q | ⟨_, _, q⟩ | ⟨q, _⟩)
    · exact z q
    · exact q w
    · exact y q
theorem M_open (hW : Wd h α (cA α R D S th)) (hc : c < 36) (hy : opn S c → Q 1 h) (hno : ¬ opn S c → Q 0 h) : P_Mod_isOpen Q h (α 20 0) (nI c) := by
  have r0 := hW.1 20 0 _ rfl
  have r6 := hW.1 27 0 _ rfl
  have r7 := hW.1 28 0 _ rfl
  have i := vp_in_nI hc (N := 36) (by decide)
  unfold P_Mod_isOpen
  rw [nI_clamp (by omega)]
  refine ⟨_, _, r0, rfl, fun x2 e2 => ?_⟩
  have e2' : x2 = mnt S := e2
  unfold opn at hy hno
  rw [← e2'] at hy hno
  refine ⟨_, _, r0, rfl, _, _, r6, i, _, _, r0, rfl, _, _, r7, i, fun z => ⟨_, _, r0, rfl, _, _, r6, i, _, _, r0, rfl, _, _, r7, i, fun y => ⟨_, _, r0, rfl, _, _, r6, i, fun x => hy (Or.inr (Or.inr ⟨y, Or.inl x⟩)), fun x => ⟨_, _, r0, rfl, _, _, r7, i, fun w => hno ?_, fun w => hy (Or.inr (Or.inr ⟨y, Or.inr w⟩))⟩⟩, fun y => ⟨_, _, r0, rfl, _, _, r6, i, fun x => hno ?_, fun x => ⟨_, _, r0, rfl, _, _, r7, i, fun w => hno ?_, fun w => hy (Or.inr (Or.inl ⟨y, x, w⟩))⟩⟩⟩, fun z => hy (Or.inl z)⟩
  · rintro (q | ⟨q, _⟩ | ⟨_, q | q⟩)
    · exact z q
    · exact q y
    · exact x q
    · exact q w
  · rintro (q | ⟨_, q, _⟩ | ⟨q, _⟩)
    · exact z q
    · exact q x
    · exact y q
  · rintro (q | ⟨_, _, q⟩ | ⟨q, _⟩)
    · exact z q
    · exact q w
    · exact y q
theorem M_may (hW : Wd h α (cA α R D S th)) (hb : S.2.2.2 ≤ 100) (hI : I_job S) (hj : j < S.2.2.2) (hy : may S j → Q 1 h) (hno : ¬ may S j → Q 0 h) : P_Mod_mayStart Q h (α 20 0) (nI j) := by
  have r0 := hW.1 20 0 _ rfl
  have r8 := hW.1 31 0 _ rfl
  have r10 := hW.1 33 0 _ rfl
  have r11 := hW.1 34 0 _ rfl
  have r12 := hW.1 35 0 _ rfl
  have r13 := hW.1 36 0 _ rfl
  have r14 := hW.1 37 0 _ rfl
  have r15 := hW.1 38 0 _ rfl
  have r3 := hW.1 26 0 _ rfl
  have r7 := hW.1 30 0 _ rfl
  have i100 := vp_in_nI (n := j) (N := 100) (by omega) (by decide)
  have cj : (nI j).toNatClampNeg = j := nI_clamp (by omega)
  obtain ⟨c, hc, ec⟩ := i_nat (n := 36) (hI j hj).1.1 (hI j hj).1.2
  have cc : (nI c).toNatClampNeg = c := nI_clamp (by omega)
  have ecc : (S.1 8 j).toNatClampNeg = c := by rw [ec, cc]
  -- the second loop
  have loop2 : ∀ (x3 x4 x5 : Int32), S.1 11 j = 0 → S.1 13 j = 0 → opn S c → (x3 = 0 ↔ ¬ fre S j S.2.2.2) → (x4 = 0 ↔ ¬ any2 S S.2.2.2) → (x5 = 0 ↔ ¬ ned S j S.2.2.2) → ∀ (n p : Nat) (x6 : Int32), p ≤ 4 → 4 < p + n → (x6 = 0 ↔ ¬ rom S j p) → L_Mod_mayStart_210 Q n h (α 20 0) (nI j) (nI (same S j S.2.2.2)) x3 x4 x5 x6 (nI p) := by
    intro x3 x4 x5 g1 g2 g3 h3 h4 h5 n
    induction n with
    | zero => intro p x6 h1 h2; omega
    | succ n ih =>
      intro p x6 hp hpn h6
      refine ⟨fun z => ?_, fun z => ?_⟩
      · have e4 : p = 4 := by have := (n4 (by omega)).mp z; omega
        subst e4
        refine ⟨fun y => hno (fun m => h3.mp y m.2.2.2.1), fun y3 => ⟨fun y => hno (fun m => y (h5.mpr m.2.2.2.2.1)), fun y5 => ⟨fun y => hno (fun m => h6.mp y m.2.2.2.2.2.1), fun y6 => ?_⟩⟩⟩
        have f3 : fre S j S.2.2.2 := Classical.not_not.mp (fun q => y3 (h3.mpr q))
        have f6 : rom S j 4 := Classical.not_not.mp (fun q => y6 (h6.mpr q))
        have f5 := h5.mp y5
        refine ⟨_, _, r0, rfl, _, _, r0, rfl, _, _, r8, i100, _, _, r3, by rw [cj, show S.1 (31 - 20 - 3) j = nI c from ec]; exact vp_in_nI hc (by decide), ?_⟩
        rw [cj, show S.1 (31 - 20 - 3) j = nI c from ec, cc]
        refine ⟨fun y => hno (fun m => m.2.2.2.2.2.2.1 (by rw [ecc]; exact y)), fun y7 => ⟨_, _, r0, rfl, _, _, r14, i100, ?_⟩⟩
        have y7' : ¬ S.1 3 (S.1 8 j).toNatClampNeg ≤ nI (same S j S.2.2.2) := by rw [ecc]; exact y7
        have g3' : opn S (S.1 8 j).toNatClampNeg := by rw [ecc]; exact g3
        refine ⟨fun y => hy ⟨g1, g2, g3', f3, f5, f6, y7', fun q => q.1 y⟩, fun y => ⟨fun x => hno (fun m => m.2.2.2.2.2.2.2 ⟨y, Classical.not_not.mp (fun q => x (h4.mpr q))⟩), fun x => hy ⟨g1, g2, g3', f3, f5, f6, y7', fun q => h4.mp x q.2⟩⟩⟩
      · have hp4 : p < 4 := by
          rcases Nat.lt_or_ge p 4 with q | q
          · exact q
          · exact absurd ((n4 (by omega)).mpr q) z
        have go : ∀ t : Int32, (t = 0 ↔ ¬ rom S j (p + 1)) → P_Mod_mayStart_254 Q (L_Mod_mayStart_210 Q n) h (α 20 0) (nI j) (nI (same S j S.2.2.2)) x3 x4 x5 (nI p) t := by
          intro t ht y ey
          rw [nI_1] at ey
          rw [ey]
          exact ih (p + 1) t hp4 (by omega) ht
        refine ⟨fun y => go 0 ⟨fun _ m => h6.mp y (fun q hq => m q (by omega)), fun _ => rfl⟩, fun y => ?_⟩
        have f6 : rom S j p := Classical.not_not.mp (fun q => y (h6.mpr q))
        have e4 : (4 : Int32) * nI j + nI p = nI (4 * j + p) := by
          rw [show (4 : Int32) = nI 4 from rfl, pk_mul, nI_add]
        refine ⟨_, _, r0, rfl, _, _, r12, by rw [e4]; exact vp_in_nI (by show _ < 400; omega) (by decide), _, r0, ?_⟩
        refine M_used hW hb hp4 (fun k hk => ((hI k hk).2.2.2.2.2.2.2 p hp4).1) ⟨_, _, r0, rfl, _, _, r7, vp_in_nI hp4 (by decide), ?_⟩
        rw [e4, nI_clamp (by omega), nI_clamp (by omega)]
        refine ⟨fun w => go 0 ⟨fun _ m => ?_, fun _ => rfl⟩, fun w => go 1 ⟨fun w => absurd w (by decide), fun q => absurd (fun r hr => ?_) q⟩⟩
        · exact absurd (m p (Nat.lt_succ_self p)) (Int32.not_le.mpr w)
        · by_cases e : r = p
          · rw [e]; exact Int32.not_lt.mp w
          · exact f6 r (by omega)
  -- the first loop
  have loop1 : S.1 11 j = 0 → S.1 13 j = 0 → opn S c → ∀ (n i : Nat) (x3 x4 x5 : Int32), i ≤ S.2.2.2 → S.2.2.2 < i + n → (x3 = 0 ↔ ¬ fre S j i) → (x4 = 0 ↔ ¬ any2 S i) → (x5 = 0 ↔ ¬ ned S j i) → L_Mod_mayStart_46 Q n h (α 20 0) (nI j) (nI (same S j i)) x3 x4 x5 (nI i) := by
    intro g1 g2 g3 n
    induction n with
    | zero => intro i x3 x4 x5 h1 h2; omega
    | succ n ih =>
      intro i x3 x4 x5 hi hin h3 h4 h5
      refine ⟨_, _, r0, rfl, fun z => ?_, fun z => ?_⟩
      · have : S.2.2.2 ≤ i := (nI_leI (by omega) (by omega)).mp z
        have e : i = S.2.2.2 := by omega
        rw [e] at h3 h4 h5 ⊢
        exact ⟨5, loop2 x3 x4 x5 g1 g2 g3 h3 h4 h5 5 0 1 (by decide) (by decide) ⟨fun w => absurd w (by decide), fun q => absurd (fun r hr => absurd hr (Nat.not_lt_zero r)) q⟩⟩
      · have hlt : i < S.2.2.2 := by
          rcases Nat.lt_or_ge i S.2.2.2 with q | q
          · exact q
          · exact absurd (nI_le q (by omega)) z
        have ii := vp_in_nI (n := i) (N := 100) (by omega) (by decide)
        have ci : (nI i).toNatClampNeg = i := nI_clamp (by omega)
        have e100 : (100 : Int32) * nI j + nI i = nI (100 * j + i) := by
          rw [show (100 : Int32) = nI 100 from rfl, pk_mul, nI_add]
        have g196 : ∀ t3 t4 t5 : Int32, (t3 = 0 ↔ ¬ fre S j (i + 1)) → (t4 = 0 ↔ ¬ any2 S (i + 1)) → (t5 = 0 ↔ ¬ ned S j (i + 1)) → P_Mod_mayStart_196 Q (L_Mod_mayStart_46 Q n) h (α 20 0) (nI j) (nI (same S j (i + 1))) t3 t4 (nI i) t5 := by
          intro t3 t4 t5 k3 k4 k5 y ey
          rw [nI_1] at ey
          rw [ey]
          exact ih (i + 1) t3 t4 t5 hlt (by omega) k3 k4 k5
        have g159 : ∀ t3 t4 : Int32, (t3 = 0 ↔ ¬ fre S j (i + 1)) → (t4 = 0 ↔ ¬ any2 S (i + 1)) → P_Mod_mayStart_159 Q (L_Mod_mayStart_46 Q n) h (α 20 0) (nI j) (nI (same S j (i + 1))) t4 x5 (nI i) t3 := by
          intro t3 t4 k3 k4
          have up : ned S j i → ned S j (i + 1) := fun ⟨k, a, b⟩ => ⟨k, by omega, b⟩
          have dn : ned S j (i + 1) → ned S j i ∨ (¬ S.1 15 (100 * j + i) = 0 ∧ ¬ S.1 11 i = 3) := fun ⟨k, a, b⟩ => by
            by_cases e : k = i
            · rw [e] at b; exact Or.inr b
            · exact Or.inl ⟨k, by omega, b⟩
          refine ⟨fun y => g196 t3 t4 1 k3 k4 ⟨fun w => absurd w (by decide), fun q => ?_⟩, fun y => ⟨_, _, r0, rfl, _, _, r15, by rw [e100]; exact vp_in_nI (by show _ < 10000; omega) (by decide), ?_⟩⟩
          · exact absurd (up (Classical.not_not.mp (fun w => y (h5.mpr w)))) q
          · have no5 := h5.mp y
            rw [e100, nI_clamp (by omega)]
            refine ⟨fun w => g196 t3 t4 0 k3 k4 ⟨fun _ m => ?_, fun _ => rfl⟩, fun w => ⟨_, _, r0, rfl, _, _, r11, ii, ?_⟩⟩
            · rcases dn m with q | q
              · exact no5 q
              · exact q.1 w
            · rw [ci]
              refine ⟨fun v => g196 t3 t4 0 k3 k4 ⟨fun _ m => ?_, fun _ => rfl⟩, fun v => g196 t3 t4 1 k3 k4 ⟨fun u => absurd u (by decide), fun q => absurd ⟨i, Nat.lt_succ_self i, w, v⟩ q⟩⟩
              rcases dn m with q | q
              · exact no5 q
              · exact q.2 v
        have g117 : ∀ (t4 x7 : Int32) (v : Nat), (t4 = 0 ↔ ¬ any2 S (i + 1)) → (x7 = 0 ↔ ¬ S.1 11 i = 2) → same S j i + v = same S j (i + 1) → P_Mod_mayStart_117 Q (L_Mod_mayStart_46 Q n) h (α 20 0) (nI j) x3 t4 x5 (nI i) x7 (nI v) (nI (same S j i)) := by
          intro t4 x7 v k4 k7 hv x2 e2
          rw [nI_add, hv] at e2
          rw [e2]
          have dn : fre S j (i + 1) → fre S j i := fun m k hk => m k (by omega)
          have up : fre S j i → (S.1 11 i = 2 → ¬ S.1 10 i = S.1 10 j ∧ S.1 14 i = 0) → fre S j (i + 1) := fun m q k hk => by
            by_cases e : k = i
            · rw [e]; exact q
            · exact m k (by omega)
          refine ⟨fun y => g159 0 t4 ⟨fun _ m => h3.mp y (dn m), fun _ => rfl⟩ k4, fun y => ?_⟩
          have f3 : fre S j i := Classical.not_not.mp (fun q => y (h3.mpr q))
          refine ⟨fun w => g159 1 t4 ⟨fun u => absurd u (by decide), fun q => absurd (up f3 (fun r => absurd r (k7.mp w))) q⟩ k4, fun w => ?_⟩
          have run : S.1 11 i = 2 := Classical.not_not.mp (fun q => w (k7.mpr q))
          refine ⟨_, _, r0, rfl, _, _, r10, ii, _, _, r0, rfl, _, _, r10, i100, ?_⟩
          rw [ci, cj]
          refine ⟨fun v => g159 0 t4 ⟨fun _ m => (m i (Nat.lt_succ_self i) run).1 v, fun _ => rfl⟩ k4, fun v => ⟨_, _, r0, rfl, _, _, r14, ii, ?_⟩⟩
          exact ⟨fun u => g159 0 t4 ⟨fun _ m => u (m i (Nat.lt_succ_self i) run).2, fun _ => rfl⟩ k4, fun u => g159 1 t4 ⟨fun q => absurd q (by decide), fun q => absurd (up f3 (fun _ => ⟨v, u⟩)) q⟩ k4⟩
        have g88 : ∀ (t4 x7 : Int32), (t4 = 0 ↔ ¬ any2 S (i + 1)) → (x7 = 0 ↔ ¬ S.1 11 i = 2) → P_Mod_mayStart_88 Q (L_Mod_mayStart_46 Q n) h (α 20 0) (nI j) (nI (same S j i)) x3 x5 (nI i) x7 t4 := by
          intro t4 x7 k4 k7
          have e0 : ¬ (S.1 11 i = 2 ∧ S.1 8 i = S.1 8 j) → same S j i + 0 = same S j (i + 1) := fun q => by
            show _ = same S j i + (if S.1 11 i = 2 ∧ S.1 8 i = S.1 8 j then 1 else 0)
            rw [if_neg q]
          have e1 : (S.1 11 i = 2 ∧ S.1 8 i = S.1 8 j) → same S j i + 1 = same S j (i + 1) := fun q => by
            show _ = same S j i + (if S.1 11 i = 2 ∧ S.1 8 i = S.1 8 j then 1 else 0)
            rw [if_pos q]
          refine ⟨fun w => g117 t4 x7 0 k4 k7 (e0 (fun q => k7.mp w q.1)), fun w => ?_⟩
          have run : S.1 11 i = 2 := Classical.not_not.mp (fun q => w (k7.mpr q))
          refine ⟨_, _, r0, rfl, _, _, r8, ii, _, _, r0, rfl, _, _, r8, i100, ?_⟩
          rw [ci, cj]
          exact ⟨fun v => g117 t4 x7 0 k4 k7 (e0 (fun q => v q.2)), fun v => g117 t4 x7 1 k4 k7 (e1 ⟨run, v⟩)⟩
        have g71 : ∀ (x7 : Int32), (x7 = 0 ↔ ¬ S.1 11 i = 2) → P_Mod_mayStart_71 Q (L_Mod_mayStart_46 Q n) h (α 20 0) (nI j) (nI (same S j i)) x3 x4 x5 (nI i) x7 := by
          intro x7 k7
          have dn : any2 S (i + 1) → any2 S i ∨ S.1 11 i = 2 := fun ⟨k, a, b⟩ => by
            by_cases e : k = i
            · rw [e] at b; exact Or.inr b
            · exact Or.inl ⟨k, by omega, b⟩
          have yes : any2 S (i + 1) → ((1 : Int32) = 0 ↔ ¬ any2 S (i + 1)) := fun q => ⟨fun u => absurd u (by decide), fun u => absurd q u⟩
          refine ⟨fun w => g88 1 x7 (yes ?_) k7, fun w => ⟨fun v => g88 0 x7 ⟨fun _ m => ?_, fun _ => rfl⟩ k7, fun v => g88 1 x7 (yes ⟨i, Nat.lt_succ_self i, Classical.not_not.mp (fun q => v (k7.mpr q))⟩) k7⟩⟩
          · obtain ⟨k, a, b⟩ : any2 S i := Classical.not_not.mp (fun q => w (h4.mpr q))
            exact ⟨k, by omega, b⟩
          · rcases dn m with q | q
            · exact h4.mp w q
            · exact k7.mp v q
        refine ⟨_, _, r0, rfl, _, _, r11, ii, ?_⟩
        rw [ci]
        exact ⟨fun w => g71 0 ⟨fun _ => w, fun _ => rfl⟩, fun w => g71 1 ⟨fun u => absurd u (by decide), fun q => absurd w q⟩⟩
  refine ⟨_, _, r0, rfl, _, _, r11, i100, ?_⟩
  rw [cj]
  refine ⟨fun z => hno (fun m => z m.1), fun g1 => ⟨_, _, r0, rfl, _, _, r13, i100, ?_⟩⟩
  refine ⟨fun z => hno (fun m => z m.2.1), fun g2 => ⟨_, _, r0, rfl, _, _, r8, i100, _, r0, ?_⟩⟩
  rw [show S.1 (31 - 20 - 3) j = nI c from ec]
  refine M_open hW hc (fun g3 => ⟨fun _ => ⟨S.2.2.2 + 1, loop1 g1 g2 g3 _ 0 1 0 0 (Nat.zero_le _) (by omega) ?_ ?_ ?_⟩, fun z => absurd z (by decide)⟩) (fun g3 => ⟨fun z => absurd rfl z, fun _ => hno (fun m => g3 (by have := m.2.2.1; rw [ecc] at this; exact this))⟩)
  · exact ⟨fun w => absurd w (by decide), fun q => absurd (fun r hr => absurd hr (Nat.not_lt_zero r)) q⟩
  · exact ⟨fun _ ⟨k, a, _⟩ => absurd a (Nat.not_lt_zero k), fun _ => rfl⟩
  · exact ⟨fun _ ⟨k, a, _⟩ => absurd a (Nat.not_lt_zero k), fun _ => rfl⟩
end MY
