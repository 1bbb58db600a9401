/-! texts: bytes, tokens; the class takes a token -/
def ub (x : Int32) : Nat := (x &&& 255).toBitVec.toNat
theorem ub_m (x : Int32) : x &&& 255 = nI (ub x) := by
  apply Int32.toBitVec_inj.mp
  unfold nI ub
  rw [Int32.toBitVec_ofNat']
  simp
theorem ub_lt (x : Int32) : ub x < 256 := by
  unfold ub
  have : (x &&& 255).toBitVec.toNat = x.toBitVec.toNat % 256 := by
    rw [Int32.toBitVec_and, BitVec.toNat_and]
    exact Nat.and_two_pow_sub_one_eq_mod _ 8
  rw [this]
  omega
theorem ub_c {x : Int32} (h : fits .byte (.int x) = true) : (ub x < 128 ∧ x = nI (ub x)) ∨ (128 ≤ ub x ∧ x < 0) := by
  have q1 : (-128 : Int32).toInt = -128 := by decide
  have q2 : (127 : Int32).toInt = 127 := by decide
  simp only [fits, Bool.and_eq_true, decide_eq_true_eq, Int32.le_iff_toInt_le, q1, q2] at h
  have e : ub x = x.toBitVec.toNat % 256 := by
    unfold ub
    rw [Int32.toBitVec_and, BitVec.toNat_and]
    exact Nat.and_two_pow_sub_one_eq_mod _ 8
  have e2 : x.toInt = x.toBitVec.toInt := rfl
  rw [BitVec.toInt_eq_toNat_cond] at e2
  have e3 := x.toBitVec.isLt
  rw [e]
  by_cases hn : 2 * x.toBitVec.toNat < 2 ^ 32
  · rw [if_pos hn] at e2
    refine Or.inl ⟨by omega, ?_⟩
    apply Int32.toBitVec_inj.mp
    unfold nI
    rw [Int32.toBitVec_ofNat', Nat.mod_eq_of_lt (by omega)]
    simp
  · rw [if_neg hn] at e2
    refine Or.inr ⟨by omega, ?_⟩
    rw [Int32.lt_iff_toInt_lt]
    show x.toInt < 0
    omega
def scn (c : Nat → Bool) (u : Nat → Nat) (L : Nat) : Nat → Nat → Nat
  | 0, p => p
  | n + 1, p => if p < L ∧ c (u p) = true then scn c u L n (p + 1) else p
def scan (c : Nat → Bool) (u : Nat → Nat) (L p : Nat) : Nat := scn c u L (L - p) p
theorem scan_step {c : Nat → Bool} {u : Nat → Nat} {L p : Nat} (h : p < L) (hc : c (u p) = true) : scan c u L p = scan c u L (p + 1) := by
  unfold scan
  rw [show L - p = (L - (p + 1)) + 1 by omega]
  exact if_pos ⟨h, hc⟩
theorem scan_stop {c : Nat → Bool} {u : Nat → Nat} {L p : Nat} (h : ¬ (p < L ∧ c (u p) = true)) : scan c u L p = p := by
  unfold scan
  cases L - p with
  | zero => rfl
  | succ n => exact if_neg h
theorem scn_ge {c : Nat → Bool} {u : Nat → Nat} {L : Nat} : ∀ n p, p ≤ scn c u L n p
  | 0, p => Nat.le_refl p
  | n + 1, p => by
    unfold scn
    have := scn_ge (c := c) (u := u) (L := L) n (p + 1)
    split <;> omega
theorem scn_le {c : Nat → Bool} {u : Nat → Nat} {L : Nat} : ∀ n p, p ≤ L → scn c u L n p ≤ L
  | 0, p, h => h
  | n + 1, p, h => by
    unfold scn
    by_cases z : p < L ∧ c (u p) = true
    · rw [if_pos z]; exact scn_le n (p + 1) (by omega)
    · rw [if_neg z]; exact h
theorem scan_ge {c : Nat → Bool} {u : Nat → Nat} {L p : Nat} : p ≤ scan c u L p := scn_ge _ _
theorem scan_le {c : Nat → Bool} {u : Nat → Nat} {L p : Nat} (h : p ≤ L) : scan c u L p ≤ L := scn_le _ _ h
theorem scan_gt {c : Nat → Bool} {u : Nat → Nat} {L p : Nat} (h : p < L) (hc : c (u p) = true) : p < scan c u L p := by
  rw [scan_step h hc]
  exact scan_ge
theorem scn_end {c : Nat → Bool} {u : Nat → Nat} {L : Nat} : ∀ n p, L - p ≤ n → ¬ (scn c u L n p < L ∧ c (u (scn c u L n p)))
  | 0, p, h => by
    unfold scn
    omega
  | n + 1, p, h => by
    unfold scn
    by_cases z : p < L ∧ c (u p) = true
    · rw [if_pos z]; exact scn_end n (p + 1) (by omega)
    · rw [if_neg z]; exact z
theorem scan_end {c : Nat → Bool} {u : Nat → Nat} {L p : Nat} : ¬ (scan c u L p < L ∧ c (u (scan c u L p))) := scn_end _ _ (Nat.le_refl _)
def isW (b : Nat) : Bool := decide (b = 10 ∨ b = 32)
def isL (b : Nat) : Bool := decide (97 ≤ b ∧ b ≤ 122)
def isD (b : Nat) : Bool := decide (48 ≤ b ∧ b ≤ 57)
theorem isW_i {b : Nat} : isW b = true ↔ (b = 10 ∨ b = 32) := decide_eq_true_iff
theorem isL_i {b : Nat} : isL b = true ↔ (97 ≤ b ∧ b ≤ 122) := decide_eq_true_iff
theorem isD_i {b : Nat} : isD b = true ↔ (48 ≤ b ∧ b ≤ 57) := decide_eq_true_iff
/-- the token that is read from p on: its place, the next one's beginning, its kind -/
def tP (u : Nat → Nat) (L p : Nat) : Nat := scan isW u L p
def tN (u : Nat → Nat) (L p : Nat) : Nat := if L ≤ tP u L p then tP u L p else if isL (u (tP u L p)) then scan isL u L (tP u L p) else if isD (u (tP u L p)) then scan isD u L (tP u L p) else tP u L p + 1
def tK (u : Nat → Nat) (L p : Nat) : Nat := if L ≤ tP u L p then 1 else if isL (u (tP u L p)) then 2 else if isD (u (tP u L p)) then (if scan isD u L (tP u L p) - tP u L p ≤ 2 then 3 else 0) else if u (tP u L p) = 59 then 4 else 0
def vF (u : Nat → Nat) (q : Nat) : Nat → Nat
  | 0 => 0
  | n + 1 => vF u q n * 10 + (u (q + n) - 48)
def tV (u : Nat → Nat) (L p : Nat) : Nat := vF u (tP u L p) (tN u L p - tP u L p)
theorem tP_ge {u : Nat → Nat} {L p : Nat} : p ≤ tP u L p := scan_ge
theorem tP_le {u : Nat → Nat} {L p : Nat} (h : p ≤ L) : tP u L p ≤ L := scan_le h
theorem tN_ge {u : Nat → Nat} {L p : Nat} : tP u L p ≤ tN u L p := by
  unfold tN
  by_cases h1 : L ≤ tP u L p
  · rw [if_pos h1]; omega
  · rw [if_neg h1]
    by_cases h2 : isL (u (tP u L p))
    · rw [if_pos h2]; exact scan_ge
    · rw [if_neg h2]
      by_cases h3 : isD (u (tP u L p))
      · rw [if_pos h3]; exact scan_ge
      · rw [if_neg h3]; omega
theorem tN_le {u : Nat → Nat} {L p : Nat} (h : p ≤ L) : tN u L p ≤ L := by
  have h0 := tP_le (u := u) h
  unfold tN
  by_cases h1 : L ≤ tP u L p
  · rw [if_pos h1]; exact h0
  · rw [if_neg h1]
    by_cases h2 : isL (u (tP u L p))
    · rw [if_pos h2]; exact scan_le h0
    · rw [if_neg h2]
      by_cases h3 : isD (u (tP u L p))
      · rw [if_pos h3]; exact scan_le h0
      · rw [if_neg h3]; omega
theorem tN_gt {u : Nat → Nat} {L p : Nat} (hk : tK u L p ≠ 1) : tP u L p < tN u L p ∧ tP u L p < L := by
  unfold tK at hk
  unfold tN
  by_cases h1 : L ≤ tP u L p
  · rw [if_pos h1] at hk; exact absurd rfl hk
  · rw [if_neg h1]
    by_cases h2 : isL (u (tP u L p))
    · rw [if_pos h2]; exact ⟨scan_gt (by omega) h2, by omega⟩
    · rw [if_neg h2]
      by_cases h3 : isD (u (tP u L p))
      · rw [if_pos h3]; exact ⟨scan_gt (by omega) h3, by omega⟩
      · rw [if_neg h3]; omega
/-- the reader's tape -/
def Rd (u : Nat → Nat) (L : Nat) (ν : mm_M) : Prop := SK ν ∧ mm_P ν 36 7 = some 2 ∧ mm_I ν 36 8 = nI L ∧ L ≤ 600 ∧ ∀ j, fits .byte (.int (mm_I ν 2 j)) = true ∧ ub (mm_I ν 2 j) = u j
def sc36 (a : Nat) : Bool := a == 36
def Kt (μ ν : mm_M) : Prop := Fr sc36 μ ν ∧ mm_P ν = mm_P μ ∧ ∀ j, j < 11 ∨ 14 < j → mm_I ν 36 j = mm_I μ 36 j
theorem Kt.rf {μ : mm_M} : Kt μ μ := ⟨Fr.rf, rfl, fun _ _ => rfl⟩
theorem Kt.trans {μ ν ξ : mm_M} (h : Kt μ ν) (g : Kt ν ξ) : Kt μ ξ := ⟨h.1.trans g.1, g.2.1.trans h.2.1, fun j hj => (g.2.2 j hj).trans (h.2.2 j hj)⟩
theorem Kt.sI {μ ν : mm_M} {j : Nat} {x : Int32} (h : Kt μ ν) (h1 : 11 ≤ j) (h2 : j ≤ 14) : Kt μ (mm_sI ν 36 j x) := ⟨h.1.sI rfl, h.2.1, fun i hi => by rw [mm_I_sI, if_neg (by omega)]; exact h.2.2 i hi⟩
theorem Rd.kt {u : Nat → Nat} {L : Nat} {μ ν : mm_M} (h : Rd u L μ) (k : Kt μ ν) : Rd u L ν := by
  obtain ⟨h1, h2, h3, h4, h5⟩ := h
  exact ⟨k.1.2.2.2 h1, by rw [k.2.1]; exact h2, by rw [k.2.2 8 (by omega)]; exact h3, h4, by rw [(k.1.2.2.1 2 rfl).1]; exact h5⟩
theorem Rd.b {u : Nat → Nat} {L : Nat} {ν : mm_M} (h : Rd u L ν) (j : Nat) : (u j < 128 ∧ mm_I ν 2 j = nI (u j)) ∨ (128 ≤ u j ∧ mm_I ν 2 j < 0) := by
  obtain ⟨h1, h2⟩ := h.2.2.2.2 j
  have := ub_c h1
  rw [h2] at this
  exact this
theorem neg_lt {x : Int32} {n : Nat} (h : x < 0) (hn : n < 2 ^ 31) : x < nI n := by
  have h1 := Int32.lt_iff_toInt_lt.mp h
  rw [Int32.lt_iff_toInt_lt, nI_toInt hn]
  have : (0 : Int32).toInt = 0 := rfl
  omega
theorem sp_Re_isLetter {X : mm_X} {μ : mm_M} {q : Int32 → mm_M → Prop} {u : Nat → Nat} {L p : Nat} (hR : Rd u L μ) (hp : p < 600) (h : q (nI (if isL (u p) then 1 else 0)) μ) : mm_Ci X 0 0 0 k_Re_isLetter [.ref 36, .int (nI p)] μ q := by
  show mm_T X 0 0 0 k_Re_isLetter 0 [some (.ref 36), some (.int (nI p))] [] μ _
  have hM := hR.1
  have hT := hR.2.1
  rcases hR.b p with ⟨b1, b2⟩ | ⟨b1, b2⟩
  · refine mm_aload d_Re_isLetter_0 rfl ?_
    refine mm_getP d_Re_isLetter_1 rfl (sk_o_36 hM) hT ?_
    refine mm_iload d_Re_isLetter_4 rfl ?_
    refine mm_baldN d_Re_isLetter_5 (sk_a_2 hM) (by omega) (by decide) b2 ?_
    refine mm_ciN 97 d_Re_isLetter_6 rfl ?_
    refine mm_icmp_ltN d_Re_isLetter_8 (by first | omega | exact ite01_lt | exact bt8_lt31 _ _ | exact godB_lt31 _ _ _ | exact pop_lt31 _ | assumption | exact b31 (hW.gp (by omega)) | exact b31 (hW.ne (by omega)) | exact b31 (hW.op (by omega)) | exact and31 (hW.gp (by omega)) | exact and31 (hW.ne (by omega)) | exact and31 (hW.op (by omega)) | exact and31 (by assumption) | exact and31r (hW.ne (by omega)) | exact and31r (hW.gp (by omega)) | exact and31r (by decide)) (by first | omega | exact ite01_lt | exact bt8_lt31 _ _ | exact godB_lt31 _ _ _ | exact pop_lt31 _ | assumption | exact b31 (hW.gp (by omega)) | exact b31 (hW.ne (by omega)) | exact b31 (hW.op (by omega)) | exact and31 (hW.gp (by omega)) | exact and31 (hW.ne (by omega)) | exact and31 (hW.op (by omega)) | exact and31 (by assumption) | exact and31r (hW.ne (by omega)) | exact and31r (hW.gp (by omega)) | exact and31r (by decide)) (fun c_8 => ?_) (fun c_8 => ?_)
    · refine mm_ciN 0 d_Re_isLetter_26 rfl ?_
      exact mm_rz d_Re_isLetter_27 (by first | (rw [if_neg (show ¬ isL (u p) = true from fun z => by have := isL_i.mp z; omega)] at h; exact h) | (rw [if_pos (isL_i.mpr ⟨by omega, by omega⟩)] at h; exact h))
    · refine mm_aload d_Re_isLetter_11 rfl ?_
      refine mm_getP d_Re_isLetter_12 rfl (sk_o_36 hM) hT ?_
      refine mm_iload d_Re_isLetter_15 rfl ?_
      refine mm_baldN d_Re_isLetter_16 (sk_a_2 hM) (by omega) (by decide) b2 ?_
      refine mm_ciN 122 d_Re_isLetter_17 rfl ?_
      refine mm_icmp_gtN d_Re_isLetter_19 (by first | omega | exact ite01_lt | exact bt8_lt31 _ _ | exact godB_lt31 _ _ _ | exact pop_lt31 _ | assumption | exact b31 (hW.gp (by omega)) | exact b31 (hW.ne (by omega)) | exact b31 (hW.op (by omega)) | exact and31 (hW.gp (by omega)) | exact and31 (hW.ne (by omega)) | exact and31 (hW.op (by omega)) | exact and31 (by assumption) | exact and31r (hW.ne (by omega)) | exact and31r (hW.gp (by omega)) | exact and31r (by decide)) (by first | omega | exact ite01_lt | exact bt8_lt31 _ _ | exact godB_lt31 _ _ _ | exact pop_lt31 _ | assumption | exact b31 (hW.gp (by omega)) | exact b31 (hW.ne (by omega)) | exact b31 (hW.op (by omega)) | exact and31 (hW.gp (by omega)) | exact and31 (hW.ne (by omega)) | exact and31 (hW.op (by omega)) | exact and31 (by assumption) | exact and31r (hW.ne (by omega)) | exact and31r (hW.gp (by omega)) | exact and31r (by decide)) (fun c_19 => ?_) (fun c_19 => ?_)
      · refine mm_ciN 0 d_Re_isLetter_26 rfl ?_
        exact mm_rz d_Re_isLetter_27 (by first | (rw [if_neg (show ¬ isL (u p) = true from fun z => by have := isL_i.mp z; omega)] at h; exact h) | (rw [if_pos (isL_i.mpr ⟨by omega, by omega⟩)] at h; exact h))
      · refine mm_ciN 1 d_Re_isLetter_22 rfl ?_
        refine mm_goto d_Re_isLetter_23 ?_
        exact mm_rz d_Re_isLetter_27 (by first | (rw [if_neg (show ¬ isL (u p) = true from fun z => by have := isL_i.mp z; omega)] at h; exact h) | (rw [if_pos (isL_i.mpr ⟨by omega, by omega⟩)] at h; exact h))
  · rw [if_neg (show ¬ isL (u p) = true from fun z => by have := isL_i.mp z; omega)] at h
    refine mm_aload d_Re_isLetter_0 rfl ?_
    refine mm_getP d_Re_isLetter_1 rfl (sk_o_36 hM) hT ?_
    refine mm_iload d_Re_isLetter_4 rfl ?_
    refine mm_baldX d_Re_isLetter_5 (sk_a_2 hM) (by omega) (by decide) ?_
    refine mm_ciN 97 d_Re_isLetter_6 rfl ?_
    refine mm_icmp_lt d_Re_isLetter_8 (fun c_8 => ?_) (fun c_8 => False.elim (c_8 (neg_lt b2 (by decide))))
    refine mm_ciN 0 d_Re_isLetter_26 rfl ?_
    exact mm_rz d_Re_isLetter_27 h
theorem sp_Re_isDigit {X : mm_X} {μ : mm_M} {q : Int32 → mm_M → Prop} {u : Nat → Nat} {L p : Nat} (hR : Rd u L μ) (hp : p < 600) (h : q (nI (if isD (u p) then 1 else 0)) μ) : mm_Ci X 0 0 0 k_Re_isDigit [.ref 36, .int (nI p)] μ q := by
  show mm_T X 0 0 0 k_Re_isDigit 0 [some (.ref 36), some (.int (nI p))] [] μ _
  have hM := hR.1
  have hT := hR.2.1
  rcases hR.b p with ⟨b1, b2⟩ | ⟨b1, b2⟩
  · refine mm_aload d_Re_isDigit_0 rfl ?_
    refine mm_getP d_Re_isDigit_1 rfl (sk_o_36 hM) hT ?_
    refine mm_iload d_Re_isDigit_4 rfl ?_
    refine mm_baldN d_Re_isDigit_5 (sk_a_2 hM) (by omega) (by decide) b2 ?_
    refine mm_ciN 48 d_Re_isDigit_6 rfl ?_
    refine mm_icmp_ltN d_Re_isDigit_8 (by first | omega | exact ite01_lt | exact bt8_lt31 _ _ | exact godB_lt31 _ _ _ | exact pop_lt31 _ | assumption | exact b31 (hW.gp (by omega)) | exact b31 (hW.ne (by omega)) | exact b31 (hW.op (by omega)) | exact and31 (hW.gp (by omega)) | exact and31 (hW.ne (by omega)) | exact and31 (hW.op (by omega)) | exact and31 (by assumption) | exact and31r (hW.ne (by omega)) | exact and31r (hW.gp (by omega)) | exact and31r (by decide)) (by first | omega | exact ite01_lt | exact bt8_lt31 _ _ | exact godB_lt31 _ _ _ | exact pop_lt31 _ | assumption | exact b31 (hW.gp (by omega)) | exact b31 (hW.ne (by omega)) | exact b31 (hW.op (by omega)) | exact and31 (hW.gp (by omega)) | exact and31 (hW.ne (by omega)) | exact and31 (hW.op (by omega)) | exact and31 (by assumption) | exact and31r (hW.ne (by omega)) | exact and31r (hW.gp (by omega)) | exact and31r (by decide)) (fun c_8 => ?_) (fun c_8 => ?_)
    · refine mm_ciN 0 d_Re_isDigit_26 rfl ?_
      exact mm_rz d_Re_isDigit_27 (by first | (rw [if_neg (show ¬ isD (u p) = true from fun z => by have := isD_i.mp z; omega)] at h; exact h) | (rw [if_pos (isD_i.mpr ⟨by omega, by omega⟩)] at h; exact h))
    · refine mm_aload d_Re_isDigit_11 rfl ?_
      refine mm_getP d_Re_isDigit_12 rfl (sk_o_36 hM) hT ?_
      refine mm_iload d_Re_isDigit_15 rfl ?_
      refine mm_baldN d_Re_isDigit_16 (sk_a_2 hM) (by omega) (by decide) b2 ?_
      refine mm_ciN 57 d_Re_isDigit_17 rfl ?_
      refine mm_icmp_gtN d_Re_isDigit_19 (by first | omega | exact ite01_lt | exact bt8_lt31 _ _ | exact godB_lt31 _ _ _ | exact pop_lt31 _ | assumption | exact b31 (hW.gp (by omega)) | exact b31 (hW.ne (by omega)) | exact b31 (hW.op (by omega)) | exact and31 (hW.gp (by omega)) | exact and31 (hW.ne (by omega)) | exact and31 (hW.op (by omega)) | exact and31 (by assumption) | exact and31r (hW.ne (by omega)) | exact and31r (hW.gp (by omega)) | exact and31r (by decide)) (by first | omega | exact ite01_lt | exact bt8_lt31 _ _ | exact godB_lt31 _ _ _ | exact pop_lt31 _ | assumption | exact b31 (hW.gp (by omega)) | exact b31 (hW.ne (by omega)) | exact b31 (hW.op (by omega)) | exact and31 (hW.gp (by omega)) | exact and31 (hW.ne (by omega)) | exact and31 (hW.op (by omega)) | exact and31 (by assumption) | exact and31r (hW.ne (by omega)) | exact and31r (hW.gp (by omega)) | exact and31r (by decide)) (fun c_19 => ?_) (fun c_19 => ?_)
      · refine mm_ciN 0 d_Re_isDigit_26 rfl ?_
        exact mm_rz d_Re_isDigit_27 (by first | (rw [if_neg (show ¬ isD (u p) = true from fun z => by have := isD_i.mp z; omega)] at h; exact h) | (rw [if_pos (isD_i.mpr ⟨by omega, by omega⟩)] at h; exact h))
      · refine mm_ciN 1 d_Re_isDigit_22 rfl ?_
        refine mm_goto d_Re_isDigit_23 ?_
        exact mm_rz d_Re_isDigit_27 (by first | (rw [if_neg (show ¬ isD (u p) = true from fun z => by have := isD_i.mp z; omega)] at h; exact h) | (rw [if_pos (isD_i.mpr ⟨by omega, by omega⟩)] at h; exact h))
  · rw [if_neg (show ¬ isD (u p) = true from fun z => by have := isD_i.mp z; omega)] at h
    refine mm_aload d_Re_isDigit_0 rfl ?_
    refine mm_getP d_Re_isDigit_1 rfl (sk_o_36 hM) hT ?_
    refine mm_iload d_Re_isDigit_4 rfl ?_
    refine mm_baldX d_Re_isDigit_5 (sk_a_2 hM) (by omega) (by decide) ?_
    refine mm_ciN 48 d_Re_isDigit_6 rfl ?_
    refine mm_icmp_lt d_Re_isDigit_8 (fun c_8 => ?_) (fun c_8 => False.elim (c_8 (neg_lt b2 (by decide))))
    refine mm_ciN 0 d_Re_isDigit_26 rfl ?_
    exact mm_rz d_Re_isDigit_27 h
theorem ite01_ne {p : Prop} [Decidable p] (h : (if p then 1 else 0 : Nat) ≠ 0) : p := by
  by_cases z : p
  · exact z
  · rw [if_neg z] at h; exact absurd rfl h
theorem ite01_eq {p : Prop} [Decidable p] (h : (if p then 1 else 0 : Nat) = 0) : ¬ p := by
  intro z
  rw [if_pos z] at h
  cases h
theorem sp_Re_takeWord {X : mm_X} {μ : mm_M} {q : mm_M → Prop} {u : Nat → Nat} {L p : Nat} (hR : Rd u L μ) (hn : mm_I μ 36 11 = nI p) (hp : p ≤ L) (h : ∀ ν, Kt μ ν → mm_I ν 36 11 = nI (scan isL u L p) → mm_I ν 36 12 = nI 2 → mm_I ν 36 13 = mm_I μ 36 13 → q ν) : mm_Cv X 1 0 0 k_Re_takeWord [.ref 36] μ q := by
  show mm_T X 1 0 0 k_Re_takeWord 0 [some (.ref 36)] [] μ _
  have fin : ∀ (ν : mm_M) (p' : Nat), Kt μ ν → mm_I ν 36 11 = nI (scan isL u L p) → mm_I ν 36 13 = mm_I μ 36 13 → mm_T X 1 0 0 k_Re_takeWord 35 [some (.ref 36)] [] ν (fun v μ' => v = none ∧ q μ') := by
    intro ν p' k e1 e2
    have hM := (hR.kt k).1
    refine mm_aload d_Re_takeWord_35 rfl ?_
    refine mm_ciN 2 d_Re_takeWord_36 rfl ?_
    refine mm_putI d_Re_takeWord_37 rfl (sk_o_36 hM) (Or.inl rfl) ?_
    exact mm_rv d_Re_takeWord_40 (h _ (k.sI (by decide) (by decide)) (by rw [mm_I_sI, if_neg (by decide)]; exact e1) (by rw [mm_I_sI, if_pos ⟨rfl, rfl⟩]) (by rw [mm_I_sI, if_neg (by decide)]; exact e2))
  have loop : ∀ (m p' : Nat) (ν : mm_M), L - p' = m → p' ≤ L → scan isL u L p' = scan isL u L p → Kt μ ν → mm_I ν 36 11 = nI p' → mm_I ν 36 13 = mm_I μ 36 13 → mm_T X 1 0 0 k_Re_takeWord 0 [some (.ref 36)] [] ν (fun v μ' => v = none ∧ q μ') := by
    intro m
    induction m with
    | zero =>
      intro p' ν hm hp' hs k e1 e2
      have hR' := hR.kt k
      have hM := hR'.1
      have hLe := hR'.2.2.1
      have hL6 := hR.2.2.2.1
      rw [scan_stop (by omega)] at hs
      refine mm_aload d_Re_takeWord_0 rfl ?_
      refine mm_getIN d_Re_takeWord_1 rfl (sk_o_36 hM) e1 ?_
      refine mm_aload d_Re_takeWord_4 rfl ?_
      refine mm_getIN d_Re_takeWord_5 rfl (sk_o_36 hM) hLe ?_
      refine mm_icmp_geN d_Re_takeWord_8 (by first | omega | exact ite01_lt | exact bt8_lt31 _ _ | exact godB_lt31 _ _ _ | exact pop_lt31 _ | assumption | exact b31 (hW.gp (by omega)) | exact b31 (hW.ne (by omega)) | exact b31 (hW.op (by omega)) | exact and31 (hW.gp (by omega)) | exact and31 (hW.ne (by omega)) | exact and31 (hW.op (by omega)) | exact and31 (by assumption) | exact and31r (hW.ne (by omega)) | exact and31r (hW.gp (by omega)) | exact and31r (by decide)) (by first | omega | exact ite01_lt | exact bt8_lt31 _ _ | exact godB_lt31 _ _ _ | exact pop_lt31 _ | assumption | exact b31 (hW.gp (by omega)) | exact b31 (hW.ne (by omega)) | exact b31 (hW.op (by omega)) | exact and31 (hW.gp (by omega)) | exact and31 (hW.ne (by omega)) | exact and31 (hW.op (by omega)) | exact and31 (by assumption) | exact and31r (hW.ne (by omega)) | exact and31r (hW.gp (by omega)) | exact and31r (by decide)) (fun c_8 => ?_) (fun c_8 => False.elim (by omega))
      exact fin ν p' k (by rw [e1, hs]) e2
    | succ m ih =>
      intro p' ν hm hp' hs k e1 e2
      have hR' := hR.kt k
      have hM := hR'.1
      have hLe := hR'.2.2.1
      have hL6 := hR.2.2.2.1
      refine mm_aload d_Re_takeWord_0 rfl ?_
      refine mm_getIN d_Re_takeWord_1 rfl (sk_o_36 hM) e1 ?_
      refine mm_aload d_Re_takeWord_4 rfl ?_
      refine mm_getIN d_Re_takeWord_5 rfl (sk_o_36 hM) hLe ?_
      refine mm_icmp_geN d_Re_takeWord_8 (by first | omega | exact ite01_lt | exact bt8_lt31 _ _ | exact godB_lt31 _ _ _ | exact pop_lt31 _ | assumption | exact b31 (hW.gp (by omega)) | exact b31 (hW.ne (by omega)) | exact b31 (hW.op (by omega)) | exact and31 (hW.gp (by omega)) | exact and31 (hW.ne (by omega)) | exact and31 (hW.op (by omega)) | exact and31 (by assumption) | exact and31r (hW.ne (by omega)) | exact and31r (hW.gp (by omega)) | exact and31r (by decide)) (by first | omega | exact ite01_lt | exact bt8_lt31 _ _ | exact godB_lt31 _ _ _ | exact pop_lt31 _ | assumption | exact b31 (hW.gp (by omega)) | exact b31 (hW.ne (by omega)) | exact b31 (hW.op (by omega)) | exact and31 (hW.gp (by omega)) | exact and31 (hW.ne (by omega)) | exact and31 (hW.op (by omega)) | exact and31 (by assumption) | exact and31r (hW.ne (by omega)) | exact and31r (hW.gp (by omega)) | exact and31r (by decide)) (fun c_8 => False.elim (by omega)) (fun c_8 => ?_)
      refine mm_aload d_Re_takeWord_11 rfl ?_
      refine mm_aload d_Re_takeWord_12 rfl ?_
      refine mm_getIN d_Re_takeWord_13 rfl (sk_o_36 hM) e1 ?_
      refine mm_v1i d_Re_takeWord_16 (sk_o_36 hM) (sp_Re_isLetter hR' (by omega) ?_)
      refine mm_if_eqN d_Re_takeWord_19 (by first | omega | exact ite01_lt | exact bt8_lt31 _ _ | exact godB_lt31 _ _ _ | exact pop_lt31 _ | assumption | exact b31 (hW.gp (by omega)) | exact b31 (hW.ne (by omega)) | exact b31 (hW.op (by omega)) | exact and31 (hW.gp (by omega)) | exact and31 (hW.ne (by omega)) | exact and31 (hW.op (by omega)) | exact and31 (by assumption) | exact and31r (hW.ne (by omega)) | exact and31r (hW.gp (by omega)) | exact and31r (by decide)) (fun c_19 => ?_) (fun c_19 => ?_)
      · exact fin ν p' k (by rw [e1, ← hs, scan_stop (fun z => ite01_eq c_19 z.2)]) e2
      · refine mm_aload d_Re_takeWord_22 rfl ?_
        refine mm_dup d_Re_takeWord_23 rfl ?_
        refine mm_getIN d_Re_takeWord_24 rfl (sk_o_36 hM) e1 ?_
        refine mm_ciN 1 d_Re_takeWord_27 rfl ?_
        refine mm_iaddN d_Re_takeWord_28 ?_
        refine mm_putI d_Re_takeWord_29 rfl (sk_o_36 hM) (Or.inl rfl) ?_
        refine mm_goto d_Re_takeWord_32 ?_
        exact ih (p' + 1) _ (by omega) (by omega) (by rw [← hs, scan_step (by omega) (ite01_ne c_19)]) (k.sI (by decide) (by decide)) (by rw [mm_I_sI, if_pos ⟨rfl, rfl⟩]) (by rw [mm_I_sI, if_neg (by decide)]; exact e2)
  exact loop (L - p) p μ rfl hp rfl Kt.rf hn rfl
theorem sp_Re_takeNumber {X : mm_X} {μ : mm_M} {q : mm_M → Prop} {u : Nat → Nat} {L p : Nat} (hR : Rd u L μ) (hn : mm_I μ 36 11 = nI p) (hn3 : mm_I μ 36 13 = nI p) (hp : p ≤ L) (h : ∀ ν, Kt μ ν → mm_I ν 36 11 = nI (scan isD u L p) → mm_I ν 36 12 = nI (if scan isD u L p - p ≤ 2 then 3 else 0) → mm_I ν 36 13 = nI p → (scan isD u L p - p ≤ 2 → mm_I ν 36 14 = nI (vF u p (scan isD u L p - p))) → q ν) : mm_Cv X 1 0 0 k_Re_takeNumber [.ref 36] μ q := by
  show mm_T X 1 0 0 k_Re_takeNumber 0 [some (.ref 36)] [] μ _
  have hL6 := hR.2.2.2.1
  have hsl := scan_le (c := isD) (u := u) hp
  have hsg := scan_ge (c := isD) (u := u) (L := L) (p := p)
  have fin : ∀ (ν : mm_M), Kt μ ν → mm_I ν 36 11 = nI (scan isD u L p) → mm_I ν 36 13 = nI p → (scan isD u L p - p ≤ 2 → mm_I ν 36 14 = nI (vF u p (scan isD u L p - p))) → mm_T X 1 0 0 k_Re_takeNumber 64 [some (.ref 36)] [] ν (fun v μ' => v = none ∧ q μ') := by
    intro ν k e1 e2 e3
    have hM := (hR.kt k).1
    refine mm_aload d_Re_takeNumber_64 rfl ?_
    refine mm_aload d_Re_takeNumber_65 rfl ?_
    refine mm_getIN d_Re_takeNumber_66 rfl (sk_o_36 hM) e1 ?_
    refine mm_aload d_Re_takeNumber_69 rfl ?_
    refine mm_getIN d_Re_takeNumber_70 rfl (sk_o_36 hM) e2 ?_
    refine mm_isubN d_Re_takeNumber_73 (by omega) ?_
    refine mm_ciN 2 d_Re_takeNumber_74 rfl ?_
    refine mm_icmp_gtN d_Re_takeNumber_75 (by first | omega | exact ite01_lt | exact bt8_lt31 _ _ | exact godB_lt31 _ _ _ | exact pop_lt31 _ | assumption | exact b31 (hW.gp (by omega)) | exact b31 (hW.ne (by omega)) | exact b31 (hW.op (by omega)) | exact and31 (hW.gp (by omega)) | exact and31 (hW.ne (by omega)) | exact and31 (hW.op (by omega)) | exact and31 (by assumption) | exact and31r (hW.ne (by omega)) | exact and31r (hW.gp (by omega)) | exact and31r (by decide)) (by first | omega | exact ite01_lt | exact bt8_lt31 _ _ | exact godB_lt31 _ _ _ | exact pop_lt31 _ | assumption | exact b31 (hW.gp (by omega)) | exact b31 (hW.ne (by omega)) | exact b31 (hW.op (by omega)) | exact and31 (hW.gp (by omega)) | exact and31 (hW.ne (by omega)) | exact and31 (hW.op (by omega)) | exact and31 (by assumption) | exact and31r (hW.ne (by omega)) | exact and31r (hW.gp (by omega)) | exact and31r (by decide)) (fun c_75 => ?_) (fun c_75 => ?_)
    · refine mm_ciN 0 d_Re_takeNumber_82 rfl ?_
      refine mm_putI d_Re_takeNumber_83 rfl (sk_o_36 hM) (Or.inl rfl) ?_
      exact mm_rv d_Re_takeNumber_86 (h _ (k.sI (by decide) (by decide)) (by rw [mm_I_sI, if_neg (by decide)]; exact e1) (by rw [mm_I_sI, if_pos ⟨rfl, rfl⟩]; first | rw [if_pos c_75] | rw [if_neg (by omega)]) (by rw [mm_I_sI, if_neg (by decide)]; exact e2) (fun z => by rw [mm_I_sI, if_neg (by decide)]; exact e3 z))
    · refine mm_ciN 3 d_Re_takeNumber_78 rfl ?_
      refine mm_goto d_Re_takeNumber_79 ?_
      refine mm_putI d_Re_takeNumber_83 rfl (sk_o_36 hM) (Or.inl rfl) ?_
      exact mm_rv d_Re_takeNumber_86 (h _ (k.sI (by decide) (by decide)) (by rw [mm_I_sI, if_neg (by decide)]; exact e1) (by rw [mm_I_sI, if_pos ⟨rfl, rfl⟩]; first | rw [if_pos c_75] | rw [if_neg (by omega)]) (by rw [mm_I_sI, if_neg (by decide)]; exact e2) (fun z => by rw [mm_I_sI, if_neg (by decide)]; exact e3 z))
  have loop : ∀ (m i : Nat) (ν : mm_M), L - (p + i) = m → p + i ≤ L → scan isD u L (p + i) = scan isD u L p → Kt μ ν → mm_I ν 36 11 = nI (p + i) → mm_I ν 36 13 = nI p → (i ≤ 2 → mm_I ν 36 14 = nI (vF u p i)) → mm_T X 1 0 0 k_Re_takeNumber 5 [some (.ref 36)] [] ν (fun v μ' => v = none ∧ q μ') := by
    intro m
    induction m with
    | zero =>
      intro i ν hm hp' hs k e1 e2 e3
      have hR' := hR.kt k
      have hM := hR'.1
      have hLe := hR'.2.2.1
      rw [scan_stop (by omega)] at hs
      refine mm_aload d_Re_takeNumber_5 rfl ?_
      refine mm_getIN d_Re_takeNumber_6 rfl (sk_o_36 hM) e1 ?_
      refine mm_aload d_Re_takeNumber_9 rfl ?_
      refine mm_getIN d_Re_takeNumber_10 rfl (sk_o_36 hM) hLe ?_
      refine mm_icmp_geN d_Re_takeNumber_13 (by first | omega | exact ite01_lt | exact bt8_lt31 _ _ | exact godB_lt31 _ _ _ | exact pop_lt31 _ | assumption | exact b31 (hW.gp (by omega)) | exact b31 (hW.ne (by omega)) | exact b31 (hW.op (by omega)) | exact and31 (hW.gp (by omega)) | exact and31 (hW.ne (by omega)) | exact and31 (hW.op (by omega)) | exact and31 (by assumption) | exact and31r (hW.ne (by omega)) | exact and31r (hW.gp (by omega)) | exact and31r (by decide)) (by first | omega | exact ite01_lt | exact bt8_lt31 _ _ | exact godB_lt31 _ _ _ | exact pop_lt31 _ | assumption | exact b31 (hW.gp (by omega)) | exact b31 (hW.ne (by omega)) | exact b31 (hW.op (by omega)) | exact and31 (hW.gp (by omega)) | exact and31 (hW.ne (by omega)) | exact and31 (hW.op (by omega)) | exact and31 (by assumption) | exact and31r (hW.ne (by omega)) | exact and31r (hW.gp (by omega)) | exact and31r (by decide)) (fun c_13 => ?_) (fun c_13 => False.elim (by omega))
      exact fin ν k (by rw [e1, hs]) e2 (fun z => by rw [show scan isD u L p - p = i by omega] at z ⊢; exact e3 z)
    | succ m ih =>
      intro i ν hm hp' hs k e1 e2 e3
      have hR' := hR.kt k
      have hM := hR'.1
      have hT := hR'.2.1
      have hLe := hR'.2.2.1
      refine mm_aload d_Re_takeNumber_5 rfl ?_
      refine mm_getIN d_Re_takeNumber_6 rfl (sk_o_36 hM) e1 ?_
      refine mm_aload d_Re_takeNumber_9 rfl ?_
      refine mm_getIN d_Re_takeNumber_10 rfl (sk_o_36 hM) hLe ?_
      refine mm_icmp_geN d_Re_takeNumber_13 (by first | omega | exact ite01_lt | exact bt8_lt31 _ _ | exact godB_lt31 _ _ _ | exact pop_lt31 _ | assumption | exact b31 (hW.gp (by omega)) | exact b31 (hW.ne (by omega)) | exact b31 (hW.op (by omega)) | exact and31 (hW.gp (by omega)) | exact and31 (hW.ne (by omega)) | exact and31 (hW.op (by omega)) | exact and31 (by assumption) | exact and31r (hW.ne (by omega)) | exact and31r (hW.gp (by omega)) | exact and31r (by decide)) (by first | omega | exact ite01_lt | exact bt8_lt31 _ _ | exact godB_lt31 _ _ _ | exact pop_lt31 _ | assumption | exact b31 (hW.gp (by omega)) | exact b31 (hW.ne (by omega)) | exact b31 (hW.op (by omega)) | exact and31 (hW.gp (by omega)) | exact and31 (hW.ne (by omega)) | exact and31 (hW.op (by omega)) | exact and31 (by assumption) | exact and31r (hW.ne (by omega)) | exact and31r (hW.gp (by omega)) | exact and31r (by decide)) (fun c_13 => False.elim (by omega)) (fun c_13 => ?_)
      refine mm_aload d_Re_takeNumber_16 rfl ?_
      refine mm_aload d_Re_takeNumber_17 rfl ?_
      refine mm_getIN d_Re_takeNumber_18 rfl (sk_o_36 hM) e1 ?_
      refine mm_v1i d_Re_takeNumber_21 (sk_o_36 hM) (sp_Re_isDigit hR' (by omega) ?_)
      refine mm_if_eqN d_Re_takeNumber_24 (by first | omega | exact ite01_lt | exact bt8_lt31 _ _ | exact godB_lt31 _ _ _ | exact pop_lt31 _ | assumption | exact b31 (hW.gp (by omega)) | exact b31 (hW.ne (by omega)) | exact b31 (hW.op (by omega)) | exact and31 (hW.gp (by omega)) | exact and31 (hW.ne (by omega)) | exact and31 (hW.op (by omega)) | exact and31 (by assumption) | exact and31r (hW.ne (by omega)) | exact and31r (hW.gp (by omega)) | exact and31r (by decide)) (fun c_24 => ?_) (fun c_24 => ?_)
      · exact fin ν k (by rw [e1, ← hs, scan_stop (fun z => ite01_eq c_24 z.2)]) e2 (fun z => by rw [scan_stop (fun z => ite01_eq c_24 z.2)] at hs; rw [show scan isD u L p - p = i by omega] at z ⊢; exact e3 z)
      · refine mm_aload d_Re_takeNumber_27 rfl ?_
        refine mm_aload d_Re_takeNumber_28 rfl ?_
        refine mm_getI d_Re_takeNumber_29 rfl (sk_o_36 hM) ?_
        refine mm_ciN 10 d_Re_takeNumber_32 rfl ?_
        refine mm_imul d_Re_takeNumber_34 ?_
        refine mm_aload d_Re_takeNumber_35 rfl ?_
        refine mm_getP d_Re_takeNumber_36 rfl (sk_o_36 hM) hT ?_
        refine mm_aload d_Re_takeNumber_39 rfl ?_
        refine mm_getIN d_Re_takeNumber_40 rfl (sk_o_36 hM) e1 ?_
        refine mm_baldX d_Re_takeNumber_43 (sk_a_2 hM) (by omega) (by decide) ?_
        refine mm_iadd d_Re_takeNumber_44 ?_
        refine mm_ciN 48 d_Re_takeNumber_45 rfl ?_
        refine mm_isub d_Re_takeNumber_47 ?_
        refine mm_putI d_Re_takeNumber_48 rfl (sk_o_36 hM) (Or.inl rfl) ?_
        refine mm_aload d_Re_takeNumber_51 rfl ?_
        refine mm_dup d_Re_takeNumber_52 rfl ?_
        refine mm_getIN d_Re_takeNumber_53 rfl (sk_o_36 hM) (by rw [mm_I_sI, if_neg (by decide)]; exact e1) ?_
        refine mm_ciN 1 d_Re_takeNumber_56 rfl ?_
        refine mm_iaddN d_Re_takeNumber_57 ?_
        refine mm_putI d_Re_takeNumber_58 rfl (sk_o_36 hM) (Or.inl rfl) ?_
        refine mm_goto d_Re_takeNumber_61 ?_
        have hd := ite01_ne c_24
        have hd1 := (isD_i.mp hd).1
        have hd2 := (isD_i.mp hd).2
        refine ih (i + 1) _ (by omega) (by omega) (by rw [← hs, scan_step (by omega) hd]; rfl) ((k.sI (by decide) (by decide)).sI (by decide) (by decide)) (by rw [mm_I_sI, if_pos ⟨rfl, rfl⟩]; rfl) (by rw [mm_I_sI, if_neg (by decide), mm_I_sI, if_neg (by decide)]; exact e2) (fun z => ?_)
        rw [mm_I_sI, if_neg (by decide), mm_I_sI, if_pos ⟨rfl, rfl⟩, e3 (by omega)]
        rcases hR'.b (p + i) with ⟨b1, b2⟩ | ⟨b1, b2⟩
        · rw [b2, pk_mul, nI_add, pk_sub (by omega)]; show _ = nI (vF u p i * 10 + (u (p + i) - 48)); congr 1; omega
        · omega
  refine mm_aload d_Re_takeNumber_0 rfl ?_
  refine mm_ciN 0 d_Re_takeNumber_1 rfl ?_
  refine mm_putI d_Re_takeNumber_2 rfl (sk_o_36 hR.1) (Or.inl rfl) ?_
  exact loop (L - p) 0 _ rfl hp rfl (Kt.rf.sI (by decide) (by decide)) (by rw [mm_I_sI, if_neg (by decide)]; exact hn) (by rw [mm_I_sI, if_neg (by decide)]; exact hn3) (fun _ => by rw [mm_I_sI, if_pos ⟨rfl, rfl⟩]; rfl)
/-- the token from p on has been taken -/
def Tk1 (u : Nat → Nat) (L p : Nat) (ν : mm_M) : Prop := mm_I ν 36 11 = nI (tN u L p) ∧ mm_I ν 36 12 = nI (tK u L p) ∧ mm_I ν 36 13 = nI (tP u L p) ∧ (tK u L p = 3 → mm_I ν 36 14 = nI (tV u L p))
theorem sp_Re_takeToken {X : mm_X} {μ : mm_M} {q : mm_M → Prop} {u : Nat → Nat} {L p : Nat} (hR : Rd u L μ) (hn : mm_I μ 36 11 = nI p) (hp : p ≤ L) (h : ∀ ν, Kt μ ν → Tk1 u L p ν → q ν) : mm_Cv X 2 0 0 k_Re_takeToken [.ref 36] μ q := by
  show mm_T X 2 0 0 k_Re_takeToken 0 [some (.ref 36)] [] μ _
  have hL6 := hR.2.2.2.1
  have hs1 := tP_le (u := u) hp
  have fin : ∀ (ν : mm_M), Kt μ ν → mm_I ν 36 11 = nI (tP u L p) → mm_T X 2 0 0 k_Re_takeToken 52 [some (.ref 36)] [] ν (fun v μ' => v = none ∧ q μ') := by
    intro ν k e1
    have hR' := hR.kt k
    have hM := hR'.1
    have hT := hR'.2.1
    have hLe := hR'.2.2.1
    have k1 : ∀ x, Kt μ (mm_sI ν 36 13 x) := fun x => k.sI (by decide) (by decide)
    have hR1 : Rd u L (mm_sI ν 36 13 (nI (tP u L p))) := hR.kt (k1 _)
    have hb := hR'.b (tP u L p)
    unfold Tk1 at h
    by_cases c1 : L ≤ tP u L p
    · have eN : tN u L p = tP u L p := by unfold tN; rw [if_pos c1]
      have eK : tK u L p = 1 := by unfold tK; rw [if_pos c1]
      refine mm_aload d_Re_takeToken_52 rfl ?_
      refine mm_aload d_Re_takeToken_53 rfl ?_
      refine mm_getIN d_Re_takeToken_54 rfl (sk_o_36 hM) e1 ?_
      refine mm_putI d_Re_takeToken_57 rfl (sk_o_36 hM) (Or.inl rfl) ?_
      refine mm_aload d_Re_takeToken_60 rfl ?_
      refine mm_getIN d_Re_takeToken_61 rfl (sk_o_36 hM) (by rw [mm_I_sI, if_neg (by decide)]; exact e1) ?_
      refine mm_aload d_Re_takeToken_64 rfl ?_
      refine mm_getIN d_Re_takeToken_65 rfl (sk_o_36 hM) hR1.2.2.1 ?_
      refine mm_icmp_ltN d_Re_takeToken_68 (by first | omega | exact ite01_lt | exact bt8_lt31 _ _ | exact godB_lt31 _ _ _ | exact pop_lt31 _ | assumption | exact b31 (hW.gp (by omega)) | exact b31 (hW.ne (by omega)) | exact b31 (hW.op (by omega)) | exact and31 (hW.gp (by omega)) | exact and31 (hW.ne (by omega)) | exact and31 (hW.op (by omega)) | exact and31 (by assumption) | exact and31r (hW.ne (by omega)) | exact and31r (hW.gp (by omega)) | exact and31r (by decide)) (by first | omega | exact ite01_lt | exact bt8_lt31 _ _ | exact godB_lt31 _ _ _ | exact pop_lt31 _ | assumption | exact b31 (hW.gp (by omega)) | exact b31 (hW.ne (by omega)) | exact b31 (hW.op (by omega)) | exact and31 (hW.gp (by omega)) | exact and31 (hW.ne (by omega)) | exact and31 (hW.op (by omega)) | exact and31 (by assumption) | exact and31r (hW.ne (by omega)) | exact and31r (hW.gp (by omega)) | exact and31r (by decide)) (fun c_68 => False.elim (by omega)) (fun c_68 => ?_)
      refine mm_aload d_Re_takeToken_71 rfl ?_
      refine mm_ciN 1 d_Re_takeToken_72 rfl ?_
      refine mm_putI d_Re_takeToken_73 rfl (sk_o_36 hM) (Or.inl rfl) ?_
      refine mm_goto d_Re_takeToken_76 ?_
      exact mm_rv d_Re_takeToken_148 (h _ ((k1 _).sI (by decide) (by decide)) ⟨by rw [mm_I_sI, if_neg (by decide), mm_I_sI, if_neg (by decide), eN]; exact e1, by rw [mm_I_sI, if_pos ⟨rfl, rfl⟩, eK], by rw [mm_I_sI, if_neg (by decide), mm_I_sI, if_pos ⟨rfl, rfl⟩], fun z => by rw [eK] at z; cases z⟩)
    · by_cases c2 : isL (u (tP u L p))
      · have eN : tN u L p = scan isL u L (tP u L p) := by unfold tN; rw [if_neg c1, if_pos c2]
        have eK : tK u L p = 2 := by unfold tK; rw [if_neg c1, if_pos c2]
        refine mm_aload d_Re_takeToken_52 rfl ?_
        refine mm_aload d_Re_takeToken_53 rfl ?_
        refine mm_getIN d_Re_takeToken_54 rfl (sk_o_36 hM) e1 ?_
        refine mm_putI d_Re_takeToken_57 rfl (sk_o_36 hM) (Or.inl rfl) ?_
        refine mm_aload d_Re_takeToken_60 rfl ?_
        refine mm_getIN d_Re_takeToken_61 rfl (sk_o_36 hM) (by rw [mm_I_sI, if_neg (by decide)]; exact e1) ?_
        refine mm_aload d_Re_takeToken_64 rfl ?_
        refine mm_getIN d_Re_takeToken_65 rfl (sk_o_36 hM) hR1.2.2.1 ?_
        refine mm_icmp_ltN d_Re_takeToken_68 (by first | omega | exact ite01_lt | exact bt8_lt31 _ _ | exact godB_lt31 _ _ _ | exact pop_lt31 _ | assumption | exact b31 (hW.gp (by omega)) | exact b31 (hW.ne (by omega)) | exact b31 (hW.op (by omega)) | exact and31 (hW.gp (by omega)) | exact and31 (hW.ne (by omega)) | exact and31 (hW.op (by omega)) | exact and31 (by assumption) | exact and31r (hW.ne (by omega)) | exact and31r (hW.gp (by omega)) | exact and31r (by decide)) (by first | omega | exact ite01_lt | exact bt8_lt31 _ _ | exact godB_lt31 _ _ _ | exact pop_lt31 _ | assumption | exact b31 (hW.gp (by omega)) | exact b31 (hW.ne (by omega)) | exact b31 (hW.op (by omega)) | exact and31 (hW.gp (by omega)) | exact and31 (hW.ne (by omega)) | exact and31 (hW.op (by omega)) | exact and31 (by assumption) | exact and31r (hW.ne (by omega)) | exact and31r (hW.gp (by omega)) | exact and31r (by decide)) (fun c_68 => ?_) (fun c_68 => False.elim (by omega))
        refine mm_aload d_Re_takeToken_79 rfl ?_
        refine mm_aload d_Re_takeToken_80 rfl ?_
        refine mm_getIN d_Re_takeToken_81 rfl (sk_o_36 hM) (by rw [mm_I_sI, if_neg (by decide)]; exact e1) ?_
        refine mm_v1i d_Re_takeToken_84 (sk_o_36 hM) (sp_Re_isLetter hR1 (by omega) ?_)
        rw [if_pos c2]
        refine mm_if_eqN d_Re_takeToken_87 (by first | omega | exact ite01_lt | exact bt8_lt31 _ _ | exact godB_lt31 _ _ _ | exact pop_lt31 _ | assumption | exact b31 (hW.gp (by omega)) | exact b31 (hW.ne (by omega)) | exact b31 (hW.op (by omega)) | exact and31 (hW.gp (by omega)) | exact and31 (hW.ne (by omega)) | exact and31 (hW.op (by omega)) | exact and31 (by assumption) | exact and31r (hW.ne (by omega)) | exact and31r (hW.gp (by omega)) | exact and31r (by decide)) (fun c_87 => False.elim (by omega)) (fun c_87 => ?_)
        refine mm_aload d_Re_takeToken_90 rfl ?_
        refine mm_v0v d_Re_takeToken_91 (sk_o_36 hM) (sp_Re_takeWord hR1 (by rw [mm_I_sI, if_neg (by decide)]; exact e1) hs1 (fun ν2 k2 a1 a2 a3 => ?_))
        refine mm_goto d_Re_takeToken_94 ?_
        exact mm_rv d_Re_takeToken_148 (h _ ((k1 _).trans k2) ⟨by rw [eN]; exact a1, by rw [eK]; exact a2, by rw [a3, mm_I_sI, if_pos ⟨rfl, rfl⟩], fun z => by rw [eK] at z; cases z⟩)
      · by_cases c3 : isD (u (tP u L p))
        · have eN : tN u L p = scan isD u L (tP u L p) := by unfold tN; rw [if_neg c1, if_neg c2, if_pos c3]
          have eK : tK u L p = if scan isD u L (tP u L p) - tP u L p ≤ 2 then 3 else 0 := by unfold tK; rw [if_neg c1, if_neg c2, if_pos c3]
          refine mm_aload d_Re_takeToken_52 rfl ?_
          refine mm_aload d_Re_takeToken_53 rfl ?_
          refine mm_getIN d_Re_takeToken_54 rfl (sk_o_36 hM) e1 ?_
          refine mm_putI d_Re_takeToken_57 rfl (sk_o_36 hM) (Or.inl rfl) ?_
          refine mm_aload d_Re_takeToken_60 rfl ?_
          refine mm_getIN d_Re_takeToken_61 rfl (sk_o_36 hM) (by rw [mm_I_sI, if_neg (by decide)]; exact e1) ?_
          refine mm_aload d_Re_takeToken_64 rfl ?_
          refine mm_getIN d_Re_takeToken_65 rfl (sk_o_36 hM) hR1.2.2.1 ?_
          refine mm_icmp_ltN d_Re_takeToken_68 (by first | omega | exact ite01_lt | exact bt8_lt31 _ _ | exact godB_lt31 _ _ _ | exact pop_lt31 _ | assumption | exact b31 (hW.gp (by omega)) | exact b31 (hW.ne (by omega)) | exact b31 (hW.op (by omega)) | exact and31 (hW.gp (by omega)) | exact and31 (hW.ne (by omega)) | exact and31 (hW.op (by omega)) | exact and31 (by assumption) | exact and31r (hW.ne (by omega)) | exact and31r (hW.gp (by omega)) | exact and31r (by decide)) (by first | omega | exact ite01_lt | exact bt8_lt31 _ _ | exact godB_lt31 _ _ _ | exact pop_lt31 _ | assumption | exact b31 (hW.gp (by omega)) | exact b31 (hW.ne (by omega)) | exact b31 (hW.op (by omega)) | exact and31 (hW.gp (by omega)) | exact and31 (hW.ne (by omega)) | exact and31 (hW.op (by omega)) | exact and31 (by assumption) | exact and31r (hW.ne (by omega)) | exact and31r (hW.gp (by omega)) | exact and31r (by decide)) (fun c_68 => ?_) (fun c_68 => False.elim (by omega))
          refine mm_aload d_Re_takeToken_79 rfl ?_
          refine mm_aload d_Re_takeToken_80 rfl ?_
          refine mm_getIN d_Re_takeToken_81 rfl (sk_o_36 hM) (by rw [mm_I_sI, if_neg (by decide)]; exact e1) ?_
          refine mm_v1i d_Re_takeToken_84 (sk_o_36 hM) (sp_Re_isLetter hR1 (by omega) ?_)
          rw [if_neg c2]
          refine mm_if_eqN d_Re_takeToken_87 (by first | omega | exact ite01_lt | exact bt8_lt31 _ _ | exact godB_lt31 _ _ _ | exact pop_lt31 _ | assumption | exact b31 (hW.gp (by omega)) | exact b31 (hW.ne (by omega)) | exact b31 (hW.op (by omega)) | exact and31 (hW.gp (by omega)) | exact and31 (hW.ne (by omega)) | exact and31 (hW.op (by omega)) | exact and31 (by assumption) | exact and31r (hW.ne (by omega)) | exact and31r (hW.gp (by omega)) | exact and31r (by decide)) (fun c_87 => ?_) (fun c_87 => False.elim (by omega))
          refine mm_aload d_Re_takeToken_97 rfl ?_
          refine mm_aload d_Re_takeToken_98 rfl ?_
          refine mm_getIN d_Re_takeToken_99 rfl (sk_o_36 hM) (by rw [mm_I_sI, if_neg (by decide)]; exact e1) ?_
          refine mm_v1i d_Re_takeToken_102 (sk_o_36 hM) (sp_Re_isDigit hR1 (by omega) ?_)
          rw [if_pos c3]
          refine mm_if_eqN d_Re_takeToken_105 (by first | omega | exact ite01_lt | exact bt8_lt31 _ _ | exact godB_lt31 _ _ _ | exact pop_lt31 _ | assumption | exact b31 (hW.gp (by omega)) | exact b31 (hW.ne (by omega)) | exact b31 (hW.op (by omega)) | exact and31 (hW.gp (by omega)) | exact and31 (hW.ne (by omega)) | exact and31 (hW.op (by omega)) | exact and31 (by assumption) | exact and31r (hW.ne (by omega)) | exact and31r (hW.gp (by omega)) | exact and31r (by decide)) (fun c_105 => False.elim (by omega)) (fun c_105 => ?_)
          refine mm_aload d_Re_takeToken_108 rfl ?_
          refine mm_v0v d_Re_takeToken_109 (sk_o_36 hM) (sp_Re_takeNumber hR1 (by rw [mm_I_sI, if_neg (by decide)]; exact e1) (by rw [mm_I_sI, if_pos ⟨rfl, rfl⟩]) hs1 (fun ν2 k2 a1 a2 a3 a4 => ?_))
          refine mm_goto d_Re_takeToken_112 ?_
          exact mm_rv d_Re_takeToken_148 (h _ ((k1 _).trans k2) ⟨by rw [eN]; exact a1, by rw [eK]; exact a2, a3, fun z => by unfold tV; rw [eN]; refine a4 ?_; rw [eK] at z; refine Decidable.byContradiction fun w => ?_; rw [if_neg w] at z; cases z⟩)
        · have eN : tN u L p = tP u L p + 1 := by unfold tN; rw [if_neg c1, if_neg c2, if_neg c3]
          have eK : tK u L p = if u (tP u L p) = 59 then 4 else 0 := by unfold tK; rw [if_neg c1, if_neg c2, if_neg c3]
          have t03 : tK u L p ≠ 3 := by rw [eK]; split <;> decide
          rcases hb with ⟨b1, b2⟩ | ⟨b1, b2⟩
          · refine mm_aload d_Re_takeToken_52 rfl ?_
            refine mm_aload d_Re_takeToken_53 rfl ?_
            refine mm_getIN d_Re_takeToken_54 rfl (sk_o_36 hM) e1 ?_
            refine mm_putI d_Re_takeToken_57 rfl (sk_o_36 hM) (Or.inl rfl) ?_
            refine mm_aload d_Re_takeToken_60 rfl ?_
            refine mm_getIN d_Re_takeToken_61 rfl (sk_o_36 hM) (by rw [mm_I_sI, if_neg (by decide)]; exact e1) ?_
            refine mm_aload d_Re_takeToken_64 rfl ?_
            refine mm_getIN d_Re_takeToken_65 rfl (sk_o_36 hM) hR1.2.2.1 ?_
            refine mm_icmp_ltN d_Re_takeToken_68 (by first | omega | exact ite01_lt | exact bt8_lt31 _ _ | exact godB_lt31 _ _ _ | exact pop_lt31 _ | assumption | exact b31 (hW.gp (by omega)) | exact b31 (hW.ne (by omega)) | exact b31 (hW.op (by omega)) | exact and31 (hW.gp (by omega)) | exact and31 (hW.ne (by omega)) | exact and31 (hW.op (by omega)) | exact and31 (by assumption) | exact and31r (hW.ne (by omega)) | exact and31r (hW.gp (by omega)) | exact and31r (by decide)) (by first | omega | exact ite01_lt | exact bt8_lt31 _ _ | exact godB_lt31 _ _ _ | exact pop_lt31 _ | assumption | exact b31 (hW.gp (by omega)) | exact b31 (hW.ne (by omega)) | exact b31 (hW.op (by omega)) | exact and31 (hW.gp (by omega)) | exact and31 (hW.ne (by omega)) | exact and31 (hW.op (by omega)) | exact and31 (by assumption) | exact and31r (hW.ne (by omega)) | exact and31r (hW.gp (by omega)) | exact and31r (by decide)) (fun c_68 => ?_) (fun c_68 => False.elim (by omega))
            refine mm_aload d_Re_takeToken_79 rfl ?_
            refine mm_aload d_Re_takeToken_80 rfl ?_
            refine mm_getIN d_Re_takeToken_81 rfl (sk_o_36 hM) (by rw [mm_I_sI, if_neg (by decide)]; exact e1) ?_
            refine mm_v1i d_Re_takeToken_84 (sk_o_36 hM) (sp_Re_isLetter hR1 (by omega) ?_)
            rw [if_neg c2]
            refine mm_if_eqN d_Re_takeToken_87 (by first | omega | exact ite01_lt | exact bt8_lt31 _ _ | exact godB_lt31 _ _ _ | exact pop_lt31 _ | assumption | exact b31 (hW.gp (by omega)) | exact b31 (hW.ne (by omega)) | exact b31 (hW.op (by omega)) | exact and31 (hW.gp (by omega)) | exact and31 (hW.ne (by omega)) | exact and31 (hW.op (by omega)) | exact and31 (by assumption) | exact and31r (hW.ne (by omega)) | exact and31r (hW.gp (by omega)) | exact and31r (by decide)) (fun c_87 => ?_) (fun c_87 => False.elim (by omega))
            refine mm_aload d_Re_takeToken_97 rfl ?_
            refine mm_aload d_Re_takeToken_98 rfl ?_
            refine mm_getIN d_Re_takeToken_99 rfl (sk_o_36 hM) (by rw [mm_I_sI, if_neg (by decide)]; exact e1) ?_
            refine mm_v1i d_Re_takeToken_102 (sk_o_36 hM) (sp_Re_isDigit hR1 (by omega) ?_)
            rw [if_neg c3]
            refine mm_if_eqN d_Re_takeToken_105 (by first | omega | exact ite01_lt | exact bt8_lt31 _ _ | exact godB_lt31 _ _ _ | exact pop_lt31 _ | assumption | exact b31 (hW.gp (by omega)) | exact b31 (hW.ne (by omega)) | exact b31 (hW.op (by omega)) | exact and31 (hW.gp (by omega)) | exact and31 (hW.ne (by omega)) | exact and31 (hW.op (by omega)) | exact and31 (by assumption) | exact and31r (hW.ne (by omega)) | exact and31r (hW.gp (by omega)) | exact and31r (by decide)) (fun c_105 => ?_) (fun c_105 => False.elim (by omega))
            refine mm_aload d_Re_takeToken_115 rfl ?_
            refine mm_aload d_Re_takeToken_116 rfl ?_
            refine mm_getP d_Re_takeToken_117 rfl (sk_o_36 hM) hT ?_
            refine mm_aload d_Re_takeToken_120 rfl ?_
            refine mm_getIN d_Re_takeToken_121 rfl (sk_o_36 hM) (by rw [mm_I_sI, if_neg (by decide)]; exact e1) ?_
            refine mm_baldN d_Re_takeToken_124 (sk_a_2 hM) (by omega) (by decide) (by rw [mm_sI_off (by decide)]; exact b2) ?_
            refine mm_ciN 59 d_Re_takeToken_125 rfl ?_
            refine mm_icmp_neN d_Re_takeToken_127 (by first | omega | exact ite01_lt | exact bt8_lt31 _ _ | exact godB_lt31 _ _ _ | exact pop_lt31 _ | assumption | exact b31 (hW.gp (by omega)) | exact b31 (hW.ne (by omega)) | exact b31 (hW.op (by omega)) | exact and31 (hW.gp (by omega)) | exact and31 (hW.ne (by omega)) | exact and31 (hW.op (by omega)) | exact and31 (by assumption) | exact and31r (hW.ne (by omega)) | exact and31r (hW.gp (by omega)) | exact and31r (by decide)) (by first | omega | exact ite01_lt | exact bt8_lt31 _ _ | exact godB_lt31 _ _ _ | exact pop_lt31 _ | assumption | exact b31 (hW.gp (by omega)) | exact b31 (hW.ne (by omega)) | exact b31 (hW.op (by omega)) | exact and31 (hW.gp (by omega)) | exact and31 (hW.ne (by omega)) | exact and31 (hW.op (by omega)) | exact and31 (by assumption) | exact and31r (hW.ne (by omega)) | exact and31r (hW.gp (by omega)) | exact and31r (by decide)) (fun c_127 => ?_) (fun c_127 => ?_)
            · refine mm_ciN 0 d_Re_takeToken_134 rfl ?_
              refine mm_putI d_Re_takeToken_135 rfl (sk_o_36 hM) (Or.inl rfl) ?_
              refine mm_aload d_Re_takeToken_138 rfl ?_
              refine mm_dup d_Re_takeToken_139 rfl ?_
              refine mm_getIN d_Re_takeToken_140 rfl (sk_o_36 hM) (by rw [mm_I_sI, if_neg (by decide), mm_I_sI, if_neg (by decide)]; exact e1) ?_
              refine mm_ciN 1 d_Re_takeToken_143 rfl ?_
              refine mm_iaddN d_Re_takeToken_144 ?_
              refine mm_putI d_Re_takeToken_145 rfl (sk_o_36 hM) (Or.inl rfl) ?_
              exact mm_rv d_Re_takeToken_148 (h _ (((k1 _).sI (by decide) (by decide)).sI (by decide) (by decide)) ⟨by rw [mm_I_sI, if_pos ⟨rfl, rfl⟩, eN], by rw [mm_I_sI, if_neg (by decide), mm_I_sI, if_pos ⟨rfl, rfl⟩, eK]; first | rw [if_pos c_127] | rw [if_neg c_127], by rw [mm_I_sI, if_neg (by decide), mm_I_sI, if_neg (by decide), mm_I_sI, if_pos ⟨rfl, rfl⟩], fun z => absurd z t03⟩)
            · refine mm_ciN 4 d_Re_takeToken_130 rfl ?_
              refine mm_goto d_Re_takeToken_131 ?_
              refine mm_putI d_Re_takeToken_135 rfl (sk_o_36 hM) (Or.inl rfl) ?_
              refine mm_aload d_Re_takeToken_138 rfl ?_
              refine mm_dup d_Re_takeToken_139 rfl ?_
              refine mm_getIN d_Re_takeToken_140 rfl (sk_o_36 hM) (by rw [mm_I_sI, if_neg (by decide), mm_I_sI, if_neg (by decide)]; exact e1) ?_
              refine mm_ciN 1 d_Re_takeToken_143 rfl ?_
              refine mm_iaddN d_Re_takeToken_144 ?_
              refine mm_putI d_Re_takeToken_145 rfl (sk_o_36 hM) (Or.inl rfl) ?_
              exact mm_rv d_Re_takeToken_148 (h _ (((k1 _).sI (by decide) (by decide)).sI (by decide) (by decide)) ⟨by rw [mm_I_sI, if_pos ⟨rfl, rfl⟩, eN], by rw [mm_I_sI, if_neg (by decide), mm_I_sI, if_pos ⟨rfl, rfl⟩, eK]; first | rw [if_pos c_127] | rw [if_neg c_127], by rw [mm_I_sI, if_neg (by decide), mm_I_sI, if_neg (by decide), mm_I_sI, if_pos ⟨rfl, rfl⟩], fun z => absurd z t03⟩)
          · rw [if_neg (by omega)] at eK
            refine mm_aload d_Re_takeToken_52 rfl ?_
            refine mm_aload d_Re_takeToken_53 rfl ?_
            refine mm_getIN d_Re_takeToken_54 rfl (sk_o_36 hM) e1 ?_
            refine mm_putI d_Re_takeToken_57 rfl (sk_o_36 hM) (Or.inl rfl) ?_
            refine mm_aload d_Re_takeToken_60 rfl ?_
            refine mm_getIN d_Re_takeToken_61 rfl (sk_o_36 hM) (by rw [mm_I_sI, if_neg (by decide)]; exact e1) ?_
            refine mm_aload d_Re_takeToken_64 rfl ?_
            refine mm_getIN d_Re_takeToken_65 rfl (sk_o_36 hM) hR1.2.2.1 ?_
            refine mm_icmp_ltN d_Re_takeToken_68 (by first | omega | exact ite01_lt | exact bt8_lt31 _ _ | exact godB_lt31 _ _ _ | exact pop_lt31 _ | assumption | exact b31 (hW.gp (by omega)) | exact b31 (hW.ne (by omega)) | exact b31 (hW.op (by omega)) | exact and31 (hW.gp (by omega)) | exact and31 (hW.ne (by omega)) | exact and31 (hW.op (by omega)) | exact and31 (by assumption) | exact and31r (hW.ne (by omega)) | exact and31r (hW.gp (by omega)) | exact and31r (by decide)) (by first | omega | exact ite01_lt | exact bt8_lt31 _ _ | exact godB_lt31 _ _ _ | exact pop_lt31 _ | assumption | exact b31 (hW.gp (by omega)) | exact b31 (hW.ne (by omega)) | exact b31 (hW.op (by omega)) | exact and31 (hW.gp (by omega)) | exact and31 (hW.ne (by omega)) | exact and31 (hW.op (by omega)) | exact and31 (by assumption) | exact and31r (hW.ne (by omega)) | exact and31r (hW.gp (by omega)) | exact and31r (by decide)) (fun c_68 => ?_) (fun c_68 => False.elim (by omega))
            refine mm_aload d_Re_takeToken_79 rfl ?_
            refine mm_aload d_Re_takeToken_80 rfl ?_
            refine mm_getIN d_Re_takeToken_81 rfl (sk_o_36 hM) (by rw [mm_I_sI, if_neg (by decide)]; exact e1) ?_
            refine mm_v1i d_Re_takeToken_84 (sk_o_36 hM) (sp_Re_isLetter hR1 (by omega) ?_)
            rw [if_neg c2]
            refine mm_if_eqN d_Re_takeToken_87 (by first | omega | exact ite01_lt | exact bt8_lt31 _ _ | exact godB_lt31 _ _ _ | exact pop_lt31 _ | assumption | exact b31 (hW.gp (by omega)) | exact b31 (hW.ne (by omega)) | exact b31 (hW.op (by omega)) | exact and31 (hW.gp (by omega)) | exact and31 (hW.ne (by omega)) | exact and31 (hW.op (by omega)) | exact and31 (by assumption) | exact and31r (hW.ne (by omega)) | exact and31r (hW.gp (by omega)) | exact and31r (by decide)) (fun c_87 => ?_) (fun c_87 => False.elim (by omega))
            refine mm_aload d_Re_takeToken_97 rfl ?_
            refine mm_aload d_Re_takeToken_98 rfl ?_
            refine mm_getIN d_Re_takeToken_99 rfl (sk_o_36 hM) (by rw [mm_I_sI, if_neg (by decide)]; exact e1) ?_
            refine mm_v1i d_Re_takeToken_102 (sk_o_36 hM) (sp_Re_isDigit hR1 (by omega) ?_)
            rw [if_neg c3]
            refine mm_if_eqN d_Re_takeToken_105 (by first | omega | exact ite01_lt | exact bt8_lt31 _ _ | exact godB_lt31 _ _ _ | exact pop_lt31 _ | assumption | exact b31 (hW.gp (by omega)) | exact b31 (hW.ne (by omega)) | exact b31 (hW.op (by omega)) | exact and31 (hW.gp (by omega)) | exact and31 (hW.ne (by omega)) | exact and31 (hW.op (by omega)) | exact and31 (by assumption) | exact and31r (hW.ne (by omega)) | exact and31r (hW.gp (by omega)) | exact and31r (by decide)) (fun c_105 => ?_) (fun c_105 => False.elim (by omega))
            refine mm_aload d_Re_takeToken_115 rfl ?_
            refine mm_aload d_Re_takeToken_116 rfl ?_
            refine mm_getP d_Re_takeToken_117 rfl (sk_o_36 hM) hT ?_
            refine mm_aload d_Re_takeToken_120 rfl ?_
            refine mm_getIN d_Re_takeToken_121 rfl (sk_o_36 hM) (by rw [mm_I_sI, if_neg (by decide)]; exact e1) ?_
            refine mm_baldX d_Re_takeToken_124 (sk_a_2 hM) (by omega) (by decide) ?_
            refine mm_ciN 59 d_Re_takeToken_125 rfl ?_
            refine mm_icmp_ne d_Re_takeToken_127 (fun c_127 => ?_) (fun c_127 => False.elim (c_127 (fun z => by rw [mm_sI_off (by decide)] at z; rw [z] at b2; exact absurd b2 (by decide))))
            refine mm_ciN 0 d_Re_takeToken_134 rfl ?_
            refine mm_putI d_Re_takeToken_135 rfl (sk_o_36 hM) (Or.inl rfl) ?_
            refine mm_aload d_Re_takeToken_138 rfl ?_
            refine mm_dup d_Re_takeToken_139 rfl ?_
            refine mm_getIN d_Re_takeToken_140 rfl (sk_o_36 hM) (by rw [mm_I_sI, if_neg (by decide), mm_I_sI, if_neg (by decide)]; exact e1) ?_
            refine mm_ciN 1 d_Re_takeToken_143 rfl ?_
            refine mm_iaddN d_Re_takeToken_144 ?_
            refine mm_putI d_Re_takeToken_145 rfl (sk_o_36 hM) (Or.inl rfl) ?_
            exact mm_rv d_Re_takeToken_148 (h _ (((k1 _).sI (by decide) (by decide)).sI (by decide) (by decide)) ⟨by rw [mm_I_sI, if_pos ⟨rfl, rfl⟩, eN], by rw [mm_I_sI, if_neg (by decide), mm_I_sI, if_pos ⟨rfl, rfl⟩, eK], by rw [mm_I_sI, if_neg (by decide), mm_I_sI, if_neg (by decide), mm_I_sI, if_pos ⟨rfl, rfl⟩], fun z => absurd z t03⟩)
  have loop : ∀ (m p' : Nat) (ν : mm_M), L - p' = m → p' ≤ L → tP u L p' = tP u L p → Kt μ ν → mm_I ν 36 11 = nI p' → mm_T X 2 0 0 k_Re_takeToken 0 [some (.ref 36)] [] ν (fun v μ' => v = none ∧ q μ') := by
    intro m
    induction m with
    | zero =>
      intro p' ν hm hp' hs k e1
      have hR' := hR.kt k
      have hM := hR'.1
      have hLe := hR'.2.2.1
      unfold tP at hs
      rw [scan_stop (by omega)] at hs
      refine mm_aload d_Re_takeToken_0 rfl ?_
      refine mm_getIN d_Re_takeToken_1 rfl (sk_o_36 hM) e1 ?_
      refine mm_aload d_Re_takeToken_4 rfl ?_
      refine mm_getIN d_Re_takeToken_5 rfl (sk_o_36 hM) hLe ?_
      refine mm_icmp_geN d_Re_takeToken_8 (by first | omega | exact ite01_lt | exact bt8_lt31 _ _ | exact godB_lt31 _ _ _ | exact pop_lt31 _ | assumption | exact b31 (hW.gp (by omega)) | exact b31 (hW.ne (by omega)) | exact b31 (hW.op (by omega)) | exact and31 (hW.gp (by omega)) | exact and31 (hW.ne (by omega)) | exact and31 (hW.op (by omega)) | exact and31 (by assumption) | exact and31r (hW.ne (by omega)) | exact and31r (hW.gp (by omega)) | exact and31r (by decide)) (by first | omega | exact ite01_lt | exact bt8_lt31 _ _ | exact godB_lt31 _ _ _ | exact pop_lt31 _ | assumption | exact b31 (hW.gp (by omega)) | exact b31 (hW.ne (by omega)) | exact b31 (hW.op (by omega)) | exact and31 (hW.gp (by omega)) | exact and31 (hW.ne (by omega)) | exact and31 (hW.op (by omega)) | exact and31 (by assumption) | exact and31r (hW.ne (by omega)) | exact and31r (hW.gp (by omega)) | exact and31r (by decide)) (fun c_8 => ?_) (fun c_8 => False.elim (by omega))
      exact fin ν k (by rw [e1, hs]; rfl)
    | succ m ih =>
      intro p' ν hm hp' hs k e1
      have hR' := hR.kt k
      have hM := hR'.1
      have hT := hR'.2.1
      have hLe := hR'.2.2.1
      unfold tP at hs
      rcases hR'.b p' with ⟨b1, b2⟩ | ⟨b1, b2⟩
      · refine mm_aload d_Re_takeToken_0 rfl ?_
        refine mm_getIN d_Re_takeToken_1 rfl (sk_o_36 hM) e1 ?_
        refine mm_aload d_Re_takeToken_4 rfl ?_
        refine mm_getIN d_Re_takeToken_5 rfl (sk_o_36 hM) hLe ?_
        refine mm_icmp_geN d_Re_takeToken_8 (by first | omega | exact ite01_lt | exact bt8_lt31 _ _ | exact godB_lt31 _ _ _ | exact pop_lt31 _ | assumption | exact b31 (hW.gp (by omega)) | exact b31 (hW.ne (by omega)) | exact b31 (hW.op (by omega)) | exact and31 (hW.gp (by omega)) | exact and31 (hW.ne (by omega)) | exact and31 (hW.op (by omega)) | exact and31 (by assumption) | exact and31r (hW.ne (by omega)) | exact and31r (hW.gp (by omega)) | exact and31r (by decide)) (by first | omega | exact ite01_lt | exact bt8_lt31 _ _ | exact godB_lt31 _ _ _ | exact pop_lt31 _ | assumption | exact b31 (hW.gp (by omega)) | exact b31 (hW.ne (by omega)) | exact b31 (hW.op (by omega)) | exact and31 (hW.gp (by omega)) | exact and31 (hW.ne (by omega)) | exact and31 (hW.op (by omega)) | exact and31 (by assumption) | exact and31r (hW.ne (by omega)) | exact and31r (hW.gp (by omega)) | exact and31r (by decide)) (fun c_8 => False.elim (by omega)) (fun c_8 => ?_)
        refine mm_aload d_Re_takeToken_11 rfl ?_
        refine mm_getP d_Re_takeToken_12 rfl (sk_o_36 hM) hT ?_
        refine mm_aload d_Re_takeToken_15 rfl ?_
        refine mm_getIN d_Re_takeToken_16 rfl (sk_o_36 hM) e1 ?_
        refine mm_baldN d_Re_takeToken_19 (sk_a_2 hM) (by omega) (by decide) b2 ?_
        refine mm_ciN 10 d_Re_takeToken_20 rfl ?_
        refine mm_icmp_eqN d_Re_takeToken_22 (by first | omega | exact ite01_lt | exact bt8_lt31 _ _ | exact godB_lt31 _ _ _ | exact pop_lt31 _ | assumption | exact b31 (hW.gp (by omega)) | exact b31 (hW.ne (by omega)) | exact b31 (hW.op (by omega)) | exact and31 (hW.gp (by omega)) | exact and31 (hW.ne (by omega)) | exact and31 (hW.op (by omega)) | exact and31 (by assumption) | exact and31r (hW.ne (by omega)) | exact and31r (hW.gp (by omega)) | exact and31r (by decide)) (by first | omega | exact ite01_lt | exact bt8_lt31 _ _ | exact godB_lt31 _ _ _ | exact pop_lt31 _ | assumption | exact b31 (hW.gp (by omega)) | exact b31 (hW.ne (by omega)) | exact b31 (hW.op (by omega)) | exact and31 (hW.gp (by omega)) | exact and31 (hW.ne (by omega)) | exact and31 (hW.op (by omega)) | exact and31 (by assumption) | exact and31r (hW.ne (by omega)) | exact and31r (hW.gp (by omega)) | exact and31r (by decide)) (fun c_22 => ?_) (fun c_22 => ?_)
        · refine mm_aload d_Re_takeToken_39 rfl ?_
          refine mm_dup d_Re_takeToken_40 rfl ?_
          refine mm_getIN d_Re_takeToken_41 rfl (sk_o_36 hM) e1 ?_
          refine mm_ciN 1 d_Re_takeToken_44 rfl ?_
          refine mm_iaddN d_Re_takeToken_45 ?_
          refine mm_putI d_Re_takeToken_46 rfl (sk_o_36 hM) (Or.inl rfl) ?_
          refine mm_goto d_Re_takeToken_49 ?_
          exact ih (p' + 1) _ (by omega) (by omega) (by unfold tP; rw [← hs]; exact (scan_step (by omega) (isW_i.mpr (by omega))).symm) (k.sI (by decide) (by decide)) (by rw [mm_I_sI, if_pos ⟨rfl, rfl⟩])
        · refine mm_aload d_Re_takeToken_25 rfl ?_
          refine mm_getP d_Re_takeToken_26 rfl (sk_o_36 hM) hT ?_
          refine mm_aload d_Re_takeToken_29 rfl ?_
          refine mm_getIN d_Re_takeToken_30 rfl (sk_o_36 hM) e1 ?_
          refine mm_baldN d_Re_takeToken_33 (sk_a_2 hM) (by omega) (by decide) b2 ?_
          refine mm_ciN 32 d_Re_takeToken_34 rfl ?_
          refine mm_icmp_neN d_Re_takeToken_36 (by first | omega | exact ite01_lt | exact bt8_lt31 _ _ | exact godB_lt31 _ _ _ | exact pop_lt31 _ | assumption | exact b31 (hW.gp (by omega)) | exact b31 (hW.ne (by omega)) | exact b31 (hW.op (by omega)) | exact and31 (hW.gp (by omega)) | exact and31 (hW.ne (by omega)) | exact and31 (hW.op (by omega)) | exact and31 (by assumption) | exact and31r (hW.ne (by omega)) | exact and31r (hW.gp (by omega)) | exact and31r (by decide)) (by first | omega | exact ite01_lt | exact bt8_lt31 _ _ | exact godB_lt31 _ _ _ | exact pop_lt31 _ | assumption | exact b31 (hW.gp (by omega)) | exact b31 (hW.ne (by omega)) | exact b31 (hW.op (by omega)) | exact and31 (hW.gp (by omega)) | exact and31 (hW.ne (by omega)) | exact and31 (hW.op (by omega)) | exact and31 (by assumption) | exact and31r (hW.ne (by omega)) | exact and31r (hW.gp (by omega)) | exact and31r (by decide)) (fun c_36 => ?_) (fun c_36 => ?_)
          · exact fin ν k (by rw [e1]; unfold tP; rw [← hs, scan_stop (fun z => by have := isW_i.mp z.2; omega)])
          · refine mm_aload d_Re_takeToken_39 rfl ?_
            refine mm_dup d_Re_takeToken_40 rfl ?_
            refine mm_getIN d_Re_takeToken_41 rfl (sk_o_36 hM) e1 ?_
            refine mm_ciN 1 d_Re_takeToken_44 rfl ?_
            refine mm_iaddN d_Re_takeToken_45 ?_
            refine mm_putI d_Re_takeToken_46 rfl (sk_o_36 hM) (Or.inl rfl) ?_
            refine mm_goto d_Re_takeToken_49 ?_
            exact ih (p' + 1) _ (by omega) (by omega) (by unfold tP; rw [← hs]; exact (scan_step (by omega) (isW_i.mpr (by omega))).symm) (k.sI (by decide) (by decide)) (by rw [mm_I_sI, if_pos ⟨rfl, rfl⟩])
      · refine mm_aload d_Re_takeToken_0 rfl ?_
        refine mm_getIN d_Re_takeToken_1 rfl (sk_o_36 hM) e1 ?_
        refine mm_aload d_Re_takeToken_4 rfl ?_
        refine mm_getIN d_Re_takeToken_5 rfl (sk_o_36 hM) hLe ?_
        refine mm_icmp_geN d_Re_takeToken_8 (by first | omega | exact ite01_lt | exact bt8_lt31 _ _ | exact godB_lt31 _ _ _ | exact pop_lt31 _ | assumption | exact b31 (hW.gp (by omega)) | exact b31 (hW.ne (by omega)) | exact b31 (hW.op (by omega)) | exact and31 (hW.gp (by omega)) | exact and31 (hW.ne (by omega)) | exact and31 (hW.op (by omega)) | exact and31 (by assumption) | exact and31r (hW.ne (by omega)) | exact and31r (hW.gp (by omega)) | exact and31r (by decide)) (by first | omega | exact ite01_lt | exact bt8_lt31 _ _ | exact godB_lt31 _ _ _ | exact pop_lt31 _ | assumption | exact b31 (hW.gp (by omega)) | exact b31 (hW.ne (by omega)) | exact b31 (hW.op (by omega)) | exact and31 (hW.gp (by omega)) | exact and31 (hW.ne (by omega)) | exact and31 (hW.op (by omega)) | exact and31 (by assumption) | exact and31r (hW.ne (by omega)) | exact and31r (hW.gp (by omega)) | exact and31r (by decide)) (fun c_8 => False.elim (by omega)) (fun c_8 => ?_)
        refine mm_aload d_Re_takeToken_11 rfl ?_
        refine mm_getP d_Re_takeToken_12 rfl (sk_o_36 hM) hT ?_
        refine mm_aload d_Re_takeToken_15 rfl ?_
        refine mm_getIN d_Re_takeToken_16 rfl (sk_o_36 hM) e1 ?_
        refine mm_baldX d_Re_takeToken_19 (sk_a_2 hM) (by omega) (by decide) ?_
        refine mm_ciN 10 d_Re_takeToken_20 rfl ?_
        refine mm_icmp_eq d_Re_takeToken_22 (fun c_22 => False.elim (by rw [c_22] at b2; exact absurd b2 (by decide))) (fun c_22 => ?_)
        refine mm_aload d_Re_takeToken_25 rfl ?_
        refine mm_getP d_Re_takeToken_26 rfl (sk_o_36 hM) hT ?_
        refine mm_aload d_Re_takeToken_29 rfl ?_
        refine mm_getIN d_Re_takeToken_30 rfl (sk_o_36 hM) e1 ?_
        refine mm_baldX d_Re_takeToken_33 (sk_a_2 hM) (by omega) (by decide) ?_
        refine mm_ciN 32 d_Re_takeToken_34 rfl ?_
        refine mm_icmp_ne d_Re_takeToken_36 (fun c_36 => ?_) (fun c_36 => False.elim (c_36 (fun z => by rw [z] at b2; exact absurd b2 (by decide))))
        exact fin ν k (by rw [e1]; unfold tP; rw [← hs, scan_stop (fun z => by have := isW_i.mp z.2; omega)])
  exact loop (L - p) p μ rfl hp rfl Kt.rf hn
