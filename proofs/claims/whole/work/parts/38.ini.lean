section IN
variable {h : hM} {α : Nat → Nat → Nat} {c : Nat → Nat → Option hE}
/-- Initiator(): its list's places are NONE -/
theorem C_Ini_loop {Q : hM → Prop} {i0 : Nat} (hQ : ∀ h' : hM, Wd h' α (c_up c 16 i0 (eT 0 8 (fun p => if p < 8 then -1 else 0))) → Q h') (h15 : c 15 i0 = some (eO 3 [.ref (α 16 i0), .int 0, .int 0])) : ∀ (n i : Nat) (h : hM), i ≤ 8 → 8 < i + n → Wd h α (c_up c 16 i0 (eT 0 8 (fun p => if p < i then -1 else 0))) → L_Ini_init_14 Q n h (α 15 i0) (nI i) := by
  intro n
  induction n with
  | zero => intro i h h1 h2; omega
  | succ n ih =>
    intro i h hi hn hW
    have g15 := (c_upn (c := c) (k := 16) (k' := 15) (i := i0) (i' := i0) (x := eT 0 8 (fun p => if p < i then -1 else 0)) (by decide)).trans h15
    have r15 := hW.1 15 i0 _ g15
    have r16 := hW.1 16 i0 _ c_ups
    refine ⟨_, _, r15, rfl, _, _, r16, fun z => ?_, fun z => ?_⟩
    · have hi8 : i = 8 := by
        have := (nI_leI (by decide) (by omega)).mp z
        omega
      subst hi8
      refine ⟨_, r15, Nat.le_of_ble_eq_true rfl, fun g1 e1 => ?_⟩
      have e1' : g1 = h_up h (α 15 i0) (eO 3 [.ref (α 16 i0), .int 0, .int 0]) := e1
      have hW1 : Wd g1 α (c_up c 16 i0 (eT 0 8 (fun p => if p < 8 then -1 else 0))) := by
        rw [e1']
        refine (hW.set 15 i0 g15 _).congr (fun k i => ?_)
        unfold c_up
        by_cases hk : k = 15 ∧ i = i0
        · rw [if_pos hk, hk.1, hk.2]
          exact g15
        · rw [if_neg hk]
      refine ⟨_, hW1.1 15 i0 _ g15, Nat.le_of_ble_eq_true rfl, fun g2 e2 => hQ g2 ?_⟩
      have e2' : g2 = h_up g1 (α 15 i0) (eO 3 [.ref (α 16 i0), .int 0, .int 0]) := e2
      rw [e2']
      refine (hW1.set 15 i0 g15 _).congr (fun k i => ?_)
      unfold c_up
      by_cases hk : k = 15 ∧ i = i0
      · rw [if_pos hk, hk.1, hk.2]
        exact g15
      · rw [if_neg hk]
    · have hi8 : i < 8 := by
        rcases Nat.lt_or_ge i 8 with q | q
        · exact q
        · exact absurd (nI_le q (by omega)) z
      refine ⟨_, _, r15, rfl, _, _, r16, vp_in_nI hi8 (by decide), fun g1 e1 x ex => ?_⟩
      rw [nI_clamp (by omega)] at e1
      rw [nI_1] at ex
      subst ex
      refine ih (i + 1) g1 (by omega) (by omega) ?_
      have := hW.set 16 i0 c_ups (eT 0 8 (upd (fun p => if p < i then -1 else 0) i (-1)))
      rw [c_up2] at this
      rw [e1]
      have ef : upd (fun p => if p < i then (-1 : Int32) else 0) i (-1) = (fun p => if p < i + 1 then -1 else 0) := by
        funext p
        by_cases hp : p = i
        · rw [hp, pk_us, if_pos (by omega)]
        · rw [pk_un hp]
          by_cases hq : p < i
          · rw [if_pos hq, if_pos (by omega)]
          · rw [if_neg hq, if_neg (by omega)]
      rw [ef] at this ⊢
      exact this
theorem C_Ini_init {Q : hM → Prop} {i0 q : Nat} (hW : Wd h α c) (h15 : c 15 i0 = some (eO 3 [.null, .int 0, .int 0])) (hq : α 15 i0 = q) (hQ : ∀ (h' : hM) (qa : Nat), Wd h' (a_up α 16 i0 qa) (c_up (c_up c 15 i0 (eO 3 [.ref qa, .int 0, .int 0])) 16 i0 (eT 0 8 (fun p => if p < 8 then -1 else 0))) → Q h') : P_Ini_init Q h q := by
  subst hq
  intro qa hqa g1 e1
  have hW1 : Wd g1 (a_up α 16 i0 qa) (c_up c 16 i0 (eT 0 8 (fun _ => 0))) := by rw [e1]; exact hW.new 16 i0 (by decide) hqa _
  have g15 := (c_upn (c := c) (k := 16) (k' := 15) (i := i0) (i' := i0) (x := eT 0 8 (fun _ => 0)) (by decide)).trans h15
  have r15 := hW1.1 15 i0 _ g15
  rw [a_upn (by decide)] at r15
  refine ⟨_, r15, Nat.le_of_ble_eq_true rfl, fun g2 e2 => ?_⟩
  have hW2 : Wd g2 (a_up α 16 i0 qa) (c_up (c_up c 15 i0 (eO 3 [.ref qa, .int 0, .int 0])) 16 i0 (eT 0 8 (fun p => if p < 0 then -1 else 0))) := by
    have := hW1.set 15 i0 g15 (eO 3 [.ref qa, .int 0, .int 0])
    rw [c_upc (by decide), a_upn (by decide)] at this
    rw [e2]
    exact this
  refine ⟨9, ?_⟩
  have := C_Ini_loop (α := a_up α 16 i0 qa) (c := c_up c 15 i0 (eO 3 [.ref qa, .int 0, .int 0])) (i0 := i0) (Q := Q) (fun h' hW' => hQ h' qa hW') (by rw [a_ups]; exact c_ups) 9 0 g2 (by decide) (by decide) hW2
  rw [a_upn (by decide)] at this
  exact this
end IN
