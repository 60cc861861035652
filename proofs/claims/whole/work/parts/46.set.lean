/-! sets of numbers: bits -/
def bN (n : Nat) : Int64 := (1 : Int64) <<< ((nI n).toInt64 &&& 63)
theorem bN_eq : ∀ n : Fin 64, (bN n.val).toBitVec = BitVec.twoPow 64 n.val := by decide
theorem bN_bit {n : Nat} (hn : n < 64) {i : Nat} (hi : i < 64) : (bN n).toBitVec.getLsbD i = decide (i = n) := by
  rw [bN_eq ⟨n, hn⟩, BitVec.getLsbD_twoPow]
  by_cases e : i = n
  · subst e; simp [hi]
  · simp [hi, e]; omega
def putL (lo : Int64) (n : Nat) : Int64 := if n < 64 then lo ||| bN n else lo
def putH (hi : Int64) (n : Nat) : Int64 := if n < 64 then hi else hi ||| bN (n - 64)
def drpL (lo : Int64) (n : Nat) : Int64 := if n < 64 then lo &&& (bN n ^^^ (-1)) else lo
def drpH (hi : Int64) (n : Nat) : Int64 := if n < 64 then hi else hi &&& (bN (n - 64) ^^^ (-1))
theorem m1_bit {i : Nat} (hi : i < 64) : (-1 : Int64).toBitVec.getLsbD i = true := by
  rw [show (-1 : Int64).toBitVec = BitVec.allOnes 64 by decide, BitVec.getLsbD_allOnes]
  simp [hi]
theorem nsb_put {lo hi : Int64} {n i : Nat} (hn : n < 128) (hi' : i < 128) : nsb (putL lo n) (putH hi n) i = true ↔ (nsb lo hi i = true ∨ i = n) := by
  unfold nsb putL putH
  by_cases a : i < 64 <;> by_cases b : n < 64
  · rw [if_pos a, if_pos a, if_pos b, Int64.toBitVec_or, BitVec.getLsbD_or, bN_bit b a]
    simp
  · rw [if_pos a, if_pos a, if_neg b]
    exact ⟨Or.inl, fun z => z.elim id (fun e => by omega)⟩
  · rw [if_neg a, if_neg a, if_pos b]
    exact ⟨Or.inl, fun z => z.elim id (fun e => by omega)⟩
  · rw [if_neg a, if_neg a, if_neg b, Int64.toBitVec_or, BitVec.getLsbD_or, bN_bit (by omega) (by omega)]
    simp only [Bool.or_eq_true, decide_eq_true_eq]
    exact ⟨fun z => z.imp id (fun e => by omega), fun z => z.imp id (fun e => by omega)⟩
theorem nsb_drp {lo hi : Int64} {n i : Nat} (hn : n < 128) (hi' : i < 128) : nsb (drpL lo n) (drpH hi n) i = true ↔ (nsb lo hi i = true ∧ i ≠ n) := by
  unfold nsb drpL drpH
  by_cases a : i < 64 <;> by_cases b : n < 64
  · rw [if_pos a, if_pos a, if_pos b, Int64.toBitVec_and, BitVec.getLsbD_and, Int64.toBitVec_xor, BitVec.getLsbD_xor, bN_bit b a, m1_bit a]
    simp
  · rw [if_pos a, if_pos a, if_neg b]
    exact ⟨fun z => ⟨z, by omega⟩, And.left⟩
  · rw [if_neg a, if_neg a, if_pos b]
    exact ⟨fun z => ⟨z, by omega⟩, And.left⟩
  · rw [if_neg a, if_neg a, if_neg b, Int64.toBitVec_and, BitVec.getLsbD_and, Int64.toBitVec_xor, BitVec.getLsbD_xor, bN_bit (by omega) (by omega), m1_bit (by omega)]
    simp only [Bool.and_eq_true, Bool.bne_true, Bool.not_eq_true', decide_eq_false_iff_not]
    exact ⟨fun z => ⟨z.1, by omega⟩, fun z => ⟨z.1, by omega⟩⟩
theorem nsb_or {lo hi lo' hi' : Int64} {i : Nat} : nsb (lo ||| lo') (hi ||| hi') i = true ↔ (nsb lo hi i = true ∨ nsb lo' hi' i = true) := by
  unfold nsb
  by_cases a : i < 64
  · rw [if_pos a, if_pos a, if_pos a, Int64.toBitVec_or, BitVec.getLsbD_or, Bool.or_eq_true]
  · rw [if_neg a, if_neg a, if_neg a, Int64.toBitVec_or, BitVec.getLsbD_or, Bool.or_eq_true]
theorem w_bit {w : Int64} {n : Nat} (hn : n < 64) : w &&& bN n = 0 ↔ w.toBitVec.getLsbD n = false := by
  constructor
  · intro e
    have : (w &&& bN n).toBitVec.getLsbD n = false := by rw [e]; simp
    rw [Int64.toBitVec_and, BitVec.getLsbD_and, bN_bit hn hn] at this
    simpa using this
  · intro e
    apply Int64.toBitVec_inj.mp
    rw [Int64.toBitVec_and]
    apply BitVec.eq_of_getLsbD_eq
    intro i hi
    rw [BitVec.getLsbD_and, bN_bit hn hi]
    by_cases q : i = n
    · rw [q, e]; simp
    · simp [q]
theorem w_in {a b : Int64} : a &&& (b ^^^ (-1)) = 0 ↔ ∀ i, i < 64 → a.toBitVec.getLsbD i = true → b.toBitVec.getLsbD i = true := by
  constructor
  · intro e i hi ha
    have : (a &&& (b ^^^ (-1))).toBitVec.getLsbD i = false := by rw [e]; simp
    rw [Int64.toBitVec_and, BitVec.getLsbD_and, Int64.toBitVec_xor, BitVec.getLsbD_xor, m1_bit hi, ha] at this
    simpa using this
  · intro e
    apply Int64.toBitVec_inj.mp
    apply BitVec.eq_of_getLsbD_eq
    intro i hi
    rw [Int64.toBitVec_and, BitVec.getLsbD_and, Int64.toBitVec_xor, BitVec.getLsbD_xor, m1_bit hi]
    have := e i hi
    revert this
    cases a.toBitVec.getLsbD i <;> cases b.toBitVec.getLsbD i <;> simp
section NS
variable {h : hM} {a a2 : Nat} {lo hi lo2 hi2 : Int64} {n : Nat}
theorem n64 {n : Nat} (hn : n < 128) : (64 : Int32) ≤ nI n ↔ ¬ n < 64 := by
  rw [show (64 : Int32) = nI 64 from rfl, nI_leI (by decide) (by omega)]
  omega
theorem n64s {n : Nat} (h : ¬ n < 64) : nI n - (64 : Int32) = nI (n - 64) := by
  rw [show (64 : Int32) = nI 64 from rfl, pk_sub (by omega)]
theorem C_has {Q : Int32 → hM → Prop} (hr : rd h a = some (eO 4 [.long lo, .long hi])) (hn : n < 128) (hQ : Q (if nsb lo hi n = true then 1 else 0) h) : P_NS_has Q h a (nI n) := by
  unfold nsb at hQ
  refine ⟨fun z => ?_, fun z => ?_⟩
  · have z' := (n64 hn).mp z
    refine ⟨_, _, hr, rfl, ?_⟩
    rw [n64s z']
    rw [if_neg z'] at hQ
    refine ⟨fun e => ?_, fun e => ?_⟩
    · rw [if_neg (by rw [(w_bit (w := hi) (n := n - 64) (by omega)).mp e]; decide)] at hQ; exact hQ
    · have : ¬ hi.toBitVec.getLsbD (n - 64) = false := fun q => e ((w_bit (by omega)).mpr q)
      rw [if_pos (by simpa using this)] at hQ; exact hQ
  · have z' : n < 64 := by
      rcases Nat.lt_or_ge n 64 with q | q
      · exact q
      · exact absurd ((n64 hn).mpr (by omega)) z
    refine ⟨_, _, hr, rfl, ?_⟩
    rw [if_pos z'] at hQ
    refine ⟨fun e => ?_, fun e => ?_⟩
    · rw [if_neg (by rw [(w_bit (w := lo) z').mp e]; decide)] at hQ; exact hQ
    · have : ¬ lo.toBitVec.getLsbD n = false := fun q => e ((w_bit z').mpr q)
      rw [if_pos (by simpa using this)] at hQ; exact hQ
theorem C_put {Q : hM → Prop} (hr : rd h a = some (eO 4 [.long lo, .long hi])) (hn : n < 128) (hQ : Q (h_up h a (eO 4 [.long (putL lo n), .long (putH hi n)]))) : P_NS_put Q h a (nI n) := by
  unfold putL putH at hQ
  refine ⟨fun z => ?_, fun z => ?_⟩
  · have z' := (n64 hn).mp z
    rw [if_neg z', if_neg z'] at hQ
    refine ⟨_, _, hr, rfl, _, hr, Nat.le_of_ble_eq_true rfl, fun h1 e => ?_⟩
    rw [n64s z'] at e
    rw [e]; exact hQ
  · have z' : n < 64 := by
      rcases Nat.lt_or_ge n 64 with q | q
      · exact q
      · exact absurd ((n64 hn).mpr (by omega)) z
    rw [if_pos z', if_pos z'] at hQ
    refine ⟨_, _, hr, rfl, _, hr, Nat.le_of_ble_eq_true rfl, fun h1 e => ?_⟩
    rw [e]; exact hQ
theorem C_drop {Q : hM → Prop} (hr : rd h a = some (eO 4 [.long lo, .long hi])) (hn : n < 128) (hQ : Q (h_up h a (eO 4 [.long (drpL lo n), .long (drpH hi n)]))) : P_NS_drop Q h a (nI n) := by
  unfold drpL drpH at hQ
  refine ⟨fun z => ?_, fun z => ?_⟩
  · have z' := (n64 hn).mp z
    rw [if_neg z', if_neg z'] at hQ
    refine ⟨_, _, hr, rfl, _, hr, Nat.le_of_ble_eq_true rfl, fun h1 e => ?_⟩
    rw [n64s z'] at e
    rw [e]; exact hQ
  · have z' : n < 64 := by
      rcases Nat.lt_or_ge n 64 with q | q
      · exact q
      · exact absurd ((n64 hn).mpr (by omega)) z
    rw [if_pos z', if_pos z'] at hQ
    refine ⟨_, _, hr, rfl, _, hr, Nat.le_of_ble_eq_true rfl, fun h1 e => ?_⟩
    rw [e]; exact hQ
/-- is within: of two different sets -/
theorem C_within {Q : Int32 → hM → Prop} (hr : rd h a = some (eO 4 [.long lo, .long hi])) (hr2 : rd h a2 = some (eO 4 [.long lo2, .long hi2])) {v : Int32} (hv : (v = 1 ∧ ∀ i, i < 128 → nsb lo hi i = true → nsb lo2 hi2 i = true) ∨ (v = 0 ∧ ¬ ∀ i, i < 128 → nsb lo hi i = true → nsb lo2 hi2 i = true)) (hQ : Q v h) : P_NS_isWithin Q h a a2 := by
  have key : (∀ i, i < 128 → nsb lo hi i = true → nsb lo2 hi2 i = true) ↔ lo &&& (lo2 ^^^ (-1)) = 0 ∧ hi &&& (hi2 ^^^ (-1)) = 0 := by
    rw [w_in, w_in]
    unfold nsb
    constructor
    · intro e
      refine ⟨fun i hi => ?_, fun i hi => ?_⟩
      · have := e i (by omega)
        rw [if_pos hi, if_pos hi] at this
        exact this
      · have := e (i + 64) (by omega)
        rw [if_neg (by omega), if_neg (by omega), Nat.add_sub_cancel] at this
        exact this
    · intro e i hi
      by_cases q : i < 64
      · rw [if_pos q, if_pos q]; exact e.1 i q
      · rw [if_neg q, if_neg q]; exact e.2 (i - 64) (by omega)
  have no : ¬ (lo &&& (lo2 ^^^ (-1)) = 0 ∧ hi &&& (hi2 ^^^ (-1)) = 0) → Q 0 h := fun z => by
    rcases hv with ⟨_, q⟩ | ⟨e, _⟩
    · exact absurd (key.mp q) z
    · rw [e] at hQ; exact hQ
  refine ⟨_, _, hr, rfl, _, _, hr2, rfl, fun z => no (fun y => z y.1), fun z => ⟨_, _, hr, rfl, _, _, hr2, rfl, fun y => no (fun x => y x.2), fun y => ?_⟩⟩
  rcases hv with ⟨e, _⟩ | ⟨_, q⟩
  · rw [e] at hQ; exact hQ
  · exact absurd (key.mpr ⟨z, y⟩) q
/-- put all: a2 is another set, or a itself -/
theorem C_putAll {Q : hM → Prop} (hr : rd h a = some (eO 4 [.long lo, .long hi])) (hr2 : rd h a2 = some (eO 4 [.long lo2, .long hi2])) (hne : a ≠ a2) (hQ : Q (h_up (h_up h a (eO 4 [.long (lo ||| lo2), .long hi])) a (eO 4 [.long (lo ||| lo2), .long (hi ||| hi2)]))) : P_NS_putAll Q h a a2 := by
  refine ⟨_, _, hr, rfl, _, _, hr2, rfl, _, hr, Nat.le_of_ble_eq_true rfl, fun h1 e1 => ?_⟩
  have r1 : rd h1 a = some (eO 4 [.long (lo ||| lo2), .long hi]) := by rw [e1]; exact h_up_self ..
  have r2 : rd h1 a2 = some (eO 4 [.long lo2, .long hi2]) := by rw [e1, h_up_ne _ _ (Ne.symm hne)]; exact hr2
  refine ⟨_, _, r1, rfl, _, _, r2, rfl, _, r1, Nat.le_of_ble_eq_true rfl, fun h2 e2 => ?_⟩
  rw [e2, e1]
  exact hQ
theorem C_putAll_self {Q : hM → Prop} (hr : rd h a = some (eO 4 [.long lo, .long hi])) (hQ : Q (h_up (h_up h a (eO 4 [.long (lo ||| lo), .long hi])) a (eO 4 [.long (lo ||| lo), .long (hi ||| hi)]))) : P_NS_putAll Q h a a := by
  refine ⟨_, _, hr, rfl, _, _, hr, rfl, _, hr, Nat.le_of_ble_eq_true rfl, fun h1 e1 => ?_⟩
  have r1 : rd h1 a = some (eO 4 [.long (lo ||| lo), .long hi]) := by rw [e1]; exact h_up_self ..
  refine ⟨_, _, r1, rfl, _, _, r1, rfl, _, r1, Nat.le_of_ble_eq_true rfl, fun h2 e2 => ?_⟩
  rw [e2, e1]
  exact hQ
end NS
