def P_AbC_init (Q : hM → Prop) (h : hM) (x0 : Nat) : Prop :=
  Q h
def P_AbL_init (Q : hM → Prop) (h : hM) (x0 : Nat) : Prop :=
  (P_AbC_init (fun h7 => (∃ fs9 : List Value, rd h7 x0 = some (eO 5 fs9) ∧ 0 < fs9.length ∧ ∀ h12 : hM, h12 = h_up h7 x0 (eO 5 (fs9.set 0 (.int (0 : Int32)))) → Q h12)) h x0)
def P_AL_init_v (Q : hM → Prop) (h : hM) (x0 : Nat) : Prop :=
  (P_AbL_init (fun h7 => (∃ fs9 : List Value, rd h7 x0 = some (eO 5 fs9) ∧ 1 < fs9.length ∧ ∀ h12 : hM, h12 = h_up h7 x0 (eO 5 (fs9.set 1 (.ref h7.1))) → Q h12)) h x0)
def P_AL_size (Q : Int32 → hM → Prop) (h : hM) (x0 : Nat) : Prop :=
  (∃ (fs5 : List Value) (i8 : Int32), rd h x0 = some (eO 5 fs5) ∧ fs5[2]? = some (.int i8) ∧ Q i8 h)
def P_ASup_newLength_21 (Q : Int32 → hM → Prop) (h : hM) (x0 : Int32) (x1 : Int32) : Prop :=
  False
def P_ASup_newLength (Q : Int32 → hM → Prop) (h : hM) (x0 : Int32) (x1 : Int32) (x2 : Int32) : Prop :=
  (∀ x3_7 : Int32, x3_7 = (x0 + (if x1 < x2 then x2 else x1)) → ((x3_7 ≤ (0 : Int32) → P_ASup_newLength_21 Q h x0 x1) ∧ (¬ x3_7 ≤ (0 : Int32) → (((2147483639 : Int32) < x3_7 → P_ASup_newLength_21 Q h x0 x1) ∧ (¬ (2147483639 : Int32) < x3_7 → Q x3_7 h)))))
def P_Arrs_copyOf_AIL_24 (Q : Option Nat → hM → Prop) (h : hM) (x0 : Nat) (x1 : Int32) (t0 : Nat) : Prop :=
  (∃ n27 : Nat, ((x0 = h.1 ∧ n27 = 0) ∨ ∃ f28 : Nat → Option Nat, rd h x0 = some (eA 2 n27 f28)) ∧ (∃ (n30 : Nat) (f31 : Nat → Option Nat) (n32 : Nat) (f33 : Nat → Option Nat), rd h x0 = some (eA 2 n30 f31) ∧ rd h t0 = some (eA 2 n32 f33) ∧ ¬ (0 : Int32) < 0 ∧ ¬ (0 : Int32) < 0 ∧ ¬ (if x1 < (nI n27) then x1 else (nI n27)) < 0 ∧ (0 : Int32).toNatClampNeg + (if x1 < (nI n27) then x1 else (nI n27)).toNatClampNeg ≤ n30 ∧ (0 : Int32).toNatClampNeg + (if x1 < (nI n27) then x1 else (nI n27)).toNatClampNeg ≤ n32 ∧ (∃ ci34 : Nat, w_el ci34 ∧ ∀ i : Nat, i < (if x1 < (nI n27) then x1 else (nI n27)).toNatClampNeg → ∀ y : Nat, f31 ((0 : Int32).toNatClampNeg + i) = some y → ∃ fs : List Value, rd h y = some (eO ci34 fs)) ∧ ∀ h35 : hM, h35 = h_up h t0 (eA 2 n32 (va_cpy f31 f33 (0 : Int32).toNatClampNeg (0 : Int32).toNatClampNeg (if x1 < (nI n27) then x1 else (nI n27)).toNatClampNeg)) → Q (some t0) h35))
def P_Arrs_copyOf_AIL (Q : Option Nat → hM → Prop) (h : hM) (x0 : Nat) (x1 : Int32) (x2 : Nat) : Prop :=
  ((¬ x2 = h.2.1 → False) ∧ (x2 = h.2.1 → (¬ x1 < 0 ∧ ∃ n39 : Nat, x1.toNatClampNeg = n39 ∧ n39 ≤ 160 ∧ ∀ q37 : Nat, rd h q37 = none → ∀ h38 : hM, h38 = h_up h q37 (eA 2 n39 (fun _ => none)) → P_Arrs_copyOf_AIL_24 Q h38 x0 x1 q37)))
def P_Arrs_copyOf_AI (Q : Option Nat → hM → Prop) (h : hM) (x0 : Nat) (x1 : Int32) : Prop :=
  (∃ (n5 : Nat) (f6 : Nat → Option Nat), rd h x0 = some (eA 2 n5 f6) ∧ (P_Arrs_copyOf_AIL (fun o8 h7 => Q o8 h7) h x0 x1 h.2.1))
def P_AL_grow_I_20 (Q : Option Nat → hM → Prop) (h : hM) (x0 : Nat) (x1 : Int32) (x2 : Int32) : Prop :=
  (P_ASup_newLength (fun i68 h67 => (∃ (fs69 : List Value) (r72 : Nat), rd h67 x0 = some (eO 5 fs69) ∧ fs69[1]? = some (.ref r72) ∧ (P_Arrs_copyOf_AI (fun o74 h73 => (∃ fs75 : List Value, rd h73 x0 = some (eO 5 fs75) ∧ 1 < fs75.length ∧ ∀ h78 : hM, h78 = h_up h73 x0 (eO 5 (fs75.set 1 (va_rf o74))) → Q o74 h78)) h67 r72 i68))) h x2 (x1 - x2) (x2 >>> ((1 : Int32) &&& 31)))
def P_AL_grow_I (Q : Option Nat → hM → Prop) (h : hM) (x0 : Nat) (x1 : Int32) : Prop :=
  (∃ (fs79 : List Value) (r82 : Nat), rd h x0 = some (eO 5 fs79) ∧ fs79[1]? = some (.ref r82) ∧ (∃ n83 : Nat, ((r82 = h.1 ∧ n83 = 0) ∨ ∃ f84 : Nat → Option Nat, rd h r82 = some (eA 2 n83 f84)) ∧ (∀ x2_86 : Int32, x2_86 = (nI n83) → ((0 < x2_86 → P_AL_grow_I_20 Q h x0 x1 x2_86) ∧ (¬ 0 < x2_86 → (∃ (fs88 : List Value) (r91 : Nat), rd h x0 = some (eO 5 fs88) ∧ fs88[1]? = some (.ref r91) ∧ ((r91 = h.1 → (¬ (if (10 : Int32) < x1 then x1 else (10 : Int32)) < 0 ∧ ∃ n95 : Nat, (if (10 : Int32) < x1 then x1 else (10 : Int32)).toNatClampNeg = n95 ∧ n95 ≤ 160 ∧ ∀ q93 : Nat, rd h q93 = none → ∀ h94 : hM, h94 = h_up h q93 (eA 2 n95 (fun _ => none)) → (∃ fs96 : List Value, rd h94 x0 = some (eO 5 fs96) ∧ 1 < fs96.length ∧ ∀ h99 : hM, h99 = h_up h94 x0 (eO 5 (fs96.set 1 (.ref q93))) → Q (some q93) h99))) ∧ (¬ r91 = h.1 → P_AL_grow_I_20 Q h x0 x1 x2_86))))))))
def P_AL_grow_v (Q : Option Nat → hM → Prop) (h : hM) (x0 : Nat) : Prop :=
  (∃ (fs9 : List Value) (i12 : Int32), rd h x0 = some (eO 5 fs9) ∧ fs9[2]? = some (.int i12) ∧ (∃ fs13 : List Value, rd h x0 = some (eO 5 fs13) ∧ P_AL_grow_I (fun o16 h15 => Q o16 h15) h x0 (i12 + (1 : Int32))))
def P_AL_add_LAI_11 (Q : hM → Prop) (h : hM) (x0 : Nat) (x1 : Nat) (x2 : Option Nat) (x3 : Int32) : Prop :=
  (∃ a41 : Nat, x2 = some a41 ∧ ∃ (n42 : Nat) (f43 : Nat → Option Nat), rd h a41 = some (eA 2 n42 f43) ∧ vp_in x3 n42 ∧ (∃ (ci47 : Nat) (fs48 : List Value), rd h x1 = some (eO ci47 fs48) ∧ w_el ci47) ∧ ∀ h46 : hM, h46 = h_up h a41 (eA 2 n42 (va_up f43 x3.toNatClampNeg (some x1))) → (∃ fs49 : List Value, rd h46 x0 = some (eO 5 fs49) ∧ 2 < fs49.length ∧ ∀ h52 : hM, h52 = h_up h46 x0 (eO 5 (fs49.set 2 (.int (x3 + (1 : Int32))))) → Q h52))
def P_AL_add_LAI (Q : hM → Prop) (h : hM) (x0 : Nat) (x1 : Nat) (x2 : Nat) (x3 : Int32) : Prop :=
  (∃ n53 : Nat, ((x2 = h.1 ∧ n53 = 0) ∨ ∃ f54 : Nat → Option Nat, rd h x2 = some (eA 2 n53 f54)) ∧ ((¬ x3 = (nI n53) → P_AL_add_LAI_11 Q h x0 x1 (some x2) x3) ∧ (x3 = (nI n53) → (∃ fs57 : List Value, rd h x0 = some (eO 5 fs57) ∧ P_AL_grow_v (fun o60 h59 => P_AL_add_LAI_11 Q h59 x0 x1 o60 x3) h x0))))
def P_AL_add_L (Q : Int32 → hM → Prop) (h : hM) (x0 : Nat) (x1 : Nat) : Prop :=
  (∃ (fs21 : List Value) (i24 : Int32), rd h x0 = some (eO 5 fs21) ∧ fs21[0]? = some (.int i24) ∧ (∃ fs25 : List Value, rd h x0 = some (eO 5 fs25) ∧ 0 < fs25.length ∧ ∀ h28 : hM, h28 = h_up h x0 (eO 5 (fs25.set 0 (.int (i24 + (1 : Int32))))) → (∃ (fs29 : List Value) (r32 : Nat), rd h28 x0 = some (eO 5 fs29) ∧ fs29[1]? = some (.ref r32) ∧ (∃ (fs33 : List Value) (i36 : Int32), rd h28 x0 = some (eO 5 fs33) ∧ fs33[2]? = some (.int i36) ∧ (∃ fs37 : List Value, rd h28 x0 = some (eO 5 fs37) ∧ P_AL_add_LAI (fun h39 => Q (1 : Int32) h39) h28 x0 x1 r32 i36)))))
def P_Prec_checkIndex_IIL (Q : Int32 → hM → Prop) (h : hM) (x0 : Int32) (x1 : Int32) : Prop :=
  ((x0 < 0 → False) ∧ (¬ x0 < 0 → ((x0 < x1 → Q x0 h) ∧ (¬ x0 < x1 → False))))
def P_Objs_checkIndex_II (Q : Int32 → hM → Prop) (h : hM) (x0 : Int32) (x1 : Int32) : Prop :=
  (P_Prec_checkIndex_IIL (fun i4 h3 => Q i4 h3) h x0 x1)
def P_AL_elementData (Q : Option Nat → hM → Prop) (h : hM) (x0 : Nat) (x1 : Int32) : Prop :=
  (∃ (fs10 : List Value) (r13 : Nat), rd h x0 = some (eO 5 fs10) ∧ fs10[1]? = some (.ref r13) ∧ (∃ (n14 : Nat) (f15 : Nat → Option Nat), rd h r13 = some (eA 2 n14 f15) ∧ vp_in x1 n14 ∧ ∀ o18 : Option Nat, o18 = (f15 x1.toNatClampNeg) → Q o18 h))
def P_AL_get (Q : Option Nat → hM → Prop) (h : hM) (x0 : Nat) (x1 : Int32) : Prop :=
  (∃ (fs11 : List Value) (i14 : Int32), rd h x0 = some (eO 5 fs11) ∧ fs11[2]? = some (.int i14) ∧ (P_Objs_checkIndex_II (fun i16 h15 => (∃ fs17 : List Value, rd h15 x0 = some (eO 5 fs17) ∧ P_AL_elementData (fun o20 h19 => Q o20 h19) h15 x0 x1)) h x1 i14))
