/-! bits, as natural numbers -/
theorem nb_and (a b : Nat) : nI a &&& nI b = nI (a &&& b) := by
  apply Int32.toBitVec_inj.mp
  simp [nI]
theorem nb_xor (a b : Nat) : nI a ^^^ nI b = nI (a ^^^ b) := by
  apply Int32.toBitVec_inj.mp
  simp [nI]
theorem nb_or (a b : Nat) : nI a ||| nI b = nI (a ||| b) := by
  apply Int32.toBitVec_inj.mp
  simp [nI]
theorem nb_m1 : (-1 : Int32) = nI 4294967295 := by decide
theorem nb_1s : ∀ w, w < 32 → (1 : Int32) <<< (nI w &&& 31) = nI (2 ^ w) := by decide +kernel
/-- the k-th bit -/
def bt8 (s k : Nat) : Nat := s / 2 ^ k % 2
def pop (s : Nat) : Nat := bt8 s 0 + bt8 s 1 + bt8 s 2 + bt8 s 3 + bt8 s 4 + bt8 s 5 + bt8 s 6 + bt8 s 7
theorem hasF_nI : ∀ s, s < 256 → ∀ k, k < 8 → hasF (nI s) (nI k) = nI (bt8 s k) := by decide +kernel
theorem bt8_01 (s k : Nat) : bt8 s k = 0 ∨ bt8 s k = 1 := by unfold bt8; omega
def bcF (x : Int32) : Int32 :=
  let a := x - ((x.toUInt32 >>> ((1 : Int32).toUInt32 &&& Int32.toUInt32 31)).toInt32 &&& 1431655765)
  let b := (a &&& 858993459) + ((a.toUInt32 >>> ((2 : Int32).toUInt32 &&& Int32.toUInt32 31)).toInt32 &&& 858993459)
  let c := (b + (b.toUInt32 >>> ((4 : Int32).toUInt32 &&& Int32.toUInt32 31)).toInt32) &&& 252645135
  let e := c + (c.toUInt32 >>> ((8 : Int32).toUInt32 &&& Int32.toUInt32 31)).toInt32
  let f := e + (e.toUInt32 >>> ((16 : Int32).toUInt32 &&& Int32.toUInt32 31)).toInt32
  f &&& 63
theorem bcF_nI : ∀ s, s < 256 → bcF (nI s) = nI (pop s) := by decide +kernel
theorem sp_bc0 {X : mm_X} {μ : mm_M} {q : Int32 → mm_M → Prop} {x : Int32} (h : q (bcF x) μ) : mm_Ci X 0 0 0 k_Int_bitCount [.int x] μ q := by
  show mm_T X 0 0 0 k_Int_bitCount 0 [some (.int x)] [] μ _
  refine mm_iload d_Int_bitCount_0 rfl ?_
  refine mm_iload d_Int_bitCount_1 rfl ?_
  refine mm_ci d_Int_bitCount_2 ?_
  refine mm_iushr d_Int_bitCount_3 ?_
  refine mm_ci d_Int_bitCount_4 ?_
  refine mm_iand d_Int_bitCount_7 ?_
  refine mm_isub d_Int_bitCount_8 ?_
  refine mm_ist0 d_Int_bitCount_9 ?_
  refine mm_iload d_Int_bitCount_10 rfl ?_
  refine mm_ci d_Int_bitCount_11 ?_
  refine mm_iand d_Int_bitCount_14 ?_
  refine mm_iload d_Int_bitCount_15 rfl ?_
  refine mm_ci d_Int_bitCount_16 ?_
  refine mm_iushr d_Int_bitCount_17 ?_
  refine mm_ci d_Int_bitCount_18 ?_
  refine mm_iand d_Int_bitCount_21 ?_
  refine mm_iadd d_Int_bitCount_22 ?_
  refine mm_ist0 d_Int_bitCount_23 ?_
  refine mm_iload d_Int_bitCount_24 rfl ?_
  refine mm_iload d_Int_bitCount_25 rfl ?_
  refine mm_ci d_Int_bitCount_26 ?_
  refine mm_iushr d_Int_bitCount_27 ?_
  refine mm_iadd d_Int_bitCount_28 ?_
  refine mm_ci d_Int_bitCount_29 ?_
  refine mm_iand d_Int_bitCount_32 ?_
  refine mm_ist0 d_Int_bitCount_33 ?_
  refine mm_iload d_Int_bitCount_34 rfl ?_
  refine mm_iload d_Int_bitCount_35 rfl ?_
  refine mm_ci d_Int_bitCount_36 ?_
  refine mm_iushr d_Int_bitCount_38 ?_
  refine mm_iadd d_Int_bitCount_39 ?_
  refine mm_ist0 d_Int_bitCount_40 ?_
  refine mm_iload d_Int_bitCount_41 rfl ?_
  refine mm_iload d_Int_bitCount_42 rfl ?_
  refine mm_ci d_Int_bitCount_43 ?_
  refine mm_iushr d_Int_bitCount_45 ?_
  refine mm_iadd d_Int_bitCount_46 ?_
  refine mm_ist0 d_Int_bitCount_47 ?_
  refine mm_iload d_Int_bitCount_48 rfl ?_
  refine mm_ci d_Int_bitCount_49 ?_
  refine mm_iand d_Int_bitCount_51 ?_
  exact mm_ri d_Int_bitCount_52 h
theorem sp_Int_bitCount {X : mm_X} {μ : mm_M} {q : Int32 → mm_M → Prop} {s : Nat} (hs : s < 256) (h : q (nI (pop s)) μ) : mm_Ci X 0 0 0 k_Int_bitCount [.int (nI s)] μ q := sp_bc0 (by rw [bcF_nI s hs]; exact h)
theorem sp_M_has0 {X : mm_X} {μ : mm_M} {q : Int32 → mm_M → Prop} {b k : Int32} (h : q (if (b >>> (k &&& 31)) &&& 1 = 1 then 1 else 0) μ) : mm_Ci X 0 0 0 k_M_has [.int b, .int k] μ q := by
  show mm_T X 0 0 0 k_M_has 0 [some (.int b), some (.int k)] [] μ _
  refine mm_iload d_M_has_0 rfl ?_
  refine mm_iload d_M_has_1 rfl ?_
  refine mm_ishr d_M_has_2 ?_
  refine mm_ci d_M_has_3 ?_
  refine mm_iand d_M_has_4 ?_
  refine mm_ci d_M_has_5 ?_
  refine mm_icmp_ne d_M_has_6 (fun c_6 => ?_) (fun c_6 => ?_)
  · refine mm_ci d_M_has_13 ?_
    exact mm_rz d_M_has_14 (by first | (rw [if_neg c_6] at h; exact h) | (rw [if_pos (Decidable.not_not.mp c_6)] at h; exact h))
  · refine mm_ci d_M_has_9 ?_
    refine mm_goto d_M_has_10 ?_
    exact mm_rz d_M_has_14 (by first | (rw [if_neg c_6] at h; exact h) | (rw [if_pos (Decidable.not_not.mp c_6)] at h; exact h))
theorem M_has_nI : ∀ s, s < 256 → ∀ k, k < 8 → (if (nI s >>> (nI k &&& 31)) &&& 1 = 1 then (1 : Int32) else 0) = nI (bt8 s k) := by decide +kernel
theorem sp_M_has {X : mm_X} {μ : mm_M} {q : Int32 → mm_M → Prop} {s k : Nat} (hs : s < 256) (hk : k < 8) (h : q (nI (bt8 s k)) μ) : mm_Ci X 0 0 0 k_M_has [.int (nI s), .int (nI k)] μ q := sp_M_has0 (by rw [M_has_nI s hs k hk]; exact h)
theorem sp_has {X : mm_X} {μ : mm_M} {q : Int32 → mm_M → Prop} {s k : Nat} (hs : s < 256) (hk : k < 8) (h : q (nI (bt8 s k)) μ) : mm_Ci X 0 0 0 k_G_has [.int (nI s), .int (nI k)] μ q := sp_G_has (by rw [hasF_nI s hs k hk]; exact h)
theorem mm_up {P : Nat → Prop} (n : Nat) (hn : P n) (hs : ∀ k, k < n → P (k + 1) → P k) : P 0 := by
  have : ∀ j, j ≤ n → P (n - j) := by
    intro j
    induction j with
    | zero => intro _; exact hn
    | succ j ih =>
      intro hj
      have h1 := ih (by omega)
      rw [show n - j = (n - (j + 1)) + 1 by omega] at h1
      exact hs _ (by omega) h1
  have := this n (Nat.le_refl n)
  rwa [Nat.sub_self] at this
/-- a sum of bits below k -/
def popK (s : Nat) : Nat → Nat
  | 0 => 0
  | k + 1 => popK s k + bt8 s k
theorem popK_8 (s : Nat) : popK s 8 = pop s := by simp [popK, pop]
theorem popK_le (s k : Nat) : popK s k ≤ k := by
  induction k with
  | zero => exact Nat.le_refl 0
  | succ k ih => have := bt8_01 s k; simp only [popK]; omega
theorem sp_M_ones {X : mm_X} {μ : mm_M} {q : Int32 → mm_M → Prop} {s : Nat} (hs : s < 256) (h : q (nI (pop s)) μ) : mm_Ci X 1 0 0 k_M_ones [.int (nI s)] μ q := by
  show mm_T X 1 0 0 k_M_ones 0 [some (.int (nI s)), none, none] [] μ _
  refine mm_ci d_M_ones_0 ?_
  refine mm_ist1 d_M_ones_1 ?_
  refine mm_ci d_M_ones_2 ?_
  refine mm_ist2 d_M_ones_3 ?_
  refine mm_up (P := fun k => mm_T X 1 0 0 k_M_ones 4 [some (.int (nI s)), some (.int (nI (popK s k))), some (.int (nI k))] [] μ _) 8 ?_ (fun k hk ih => ?_)
  · refine mm_iload d_M_ones_4 rfl ?_
    refine mm_ci d_M_ones_5 ?_
    refine mm_icmp_ge d_M_ones_7 (fun _ => ?_) (fun c => absurd (by decide) c)
    refine mm_iload d_M_ones_32 rfl ?_
    rw [popK_8]
    exact mm_ri d_M_ones_33 h
  · refine mm_iload d_M_ones_4 rfl ?_
    refine mm_ci d_M_ones_5 ?_
    refine mm_icmp_ge d_M_ones_7 (fun c => absurd c (nI_ge hk (by decide))) (fun _ => ?_)
    refine mm_iload d_M_ones_10 rfl ?_
    refine mm_iload d_M_ones_11 rfl ?_
    refine mm_iload d_M_ones_12 rfl ?_
    refine mm_s2i d_M_ones_13 (sp_M_has hs hk ?_)
    have fin : ∀ b : Nat, bt8 s k = b → mm_T X 1 0 0 k_M_ones 24 [some (.int (nI s)), some (.int (nI (popK s k))), some (.int (nI k))] [.int (nI b), .int (nI (popK s k))] μ (fun v μ' => ∃ r, v = some (.int r) ∧ q r μ') := by
      intro b hb
      refine mm_iadd d_M_ones_24 ?_
      refine mm_ist1 d_M_ones_25 ?_
      refine mm_inc2 d_M_ones_26 ?_
      refine mm_goto d_M_ones_29 ?_
      rw [nI_add, ← hb, nI_1]
      exact ih
    refine mm_if_eq d_M_ones_16 (fun c => ?_) (fun c => ?_)
    · refine mm_ci d_M_ones_23 ?_
      exact fin 0 (by rcases bt8_01 s k with e | e; exact e; rw [e] at c; exact absurd c (by decide))
    · refine mm_ci d_M_ones_19 ?_
      refine mm_goto d_M_ones_20 ?_
      exact fin 1 (by rcases bt8_01 s k with e | e; rw [e] at c; exact absurd rfl c; exact e)
