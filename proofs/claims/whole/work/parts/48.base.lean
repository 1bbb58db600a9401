/-! small methods over natural numbers; chances, least terms -/
theorem bt8_lt31 (s k : Nat) : bt8 s k < 2 ^ 31 := by have := bt8_01 s k; omega
theorem godB_lt31 (D : mm_D) (c w : Nat) : godB D c w < 2 ^ 31 := by have := godB_01 D c w; omega
theorem pop_lt31 (s : Nat) : pop s < 2 ^ 31 := by have := pop_le s; omega
theorem and31 {a b : Nat} (h : a < 256) : a &&& b < 2 ^ 31 := b31 (and_lt256 h)
theorem ite01 {p : Prop} [Decidable p] : (if p then (1 : Int32) else 0) = nI (if p then 1 else 0) := by split <;> rfl
theorem sp_Co_hasChildN {X : mm_X} {μ : mm_M} {q : Int32 → mm_M → Prop} {a c : Nat} {D : mm_D} (hCD : CoD μ a D) (hc : c < 2 ^ 31) (hW : WfD D) (h : q (nI (if c < dn D then 1 else 0)) μ) : mm_Ci X 0 0 0 k_Co_hasChild [.ref a, .int (nI c)] μ q := sp_Co_hasChild hCD.1 (by rw [hCD.n, inF_nI hc (by have := hW.1; omega), ite01]; exact h)
theorem sp_Co_hasWorkN {X : mm_X} {μ : mm_M} {q : Int32 → mm_M → Prop} {a c : Nat} {D : mm_D} (hCD : CoD μ a D) (hc : c < 2 ^ 31) (hW : WfD D) (h : q (nI (if c < dw D then 1 else 0)) μ) : mm_Ci X 0 0 0 k_Co_hasWork [.ref a, .int (nI c)] μ q := sp_Co_hasWork hCD.1 (by rw [hCD.w, inF_nI hc (by have := hW.2.1; omega), ite01]; exact h)
theorem one_le_two_pow (n : Nat) : 1 ≤ 2 ^ n := Nat.two_pow_pos n
theorem sp_Co_allChildrenN {X : mm_X} {μ : mm_M} {q : Int32 → mm_M → Prop} {a : Nat} {D : mm_D} (hCD : CoD μ a D) (hW : WfD D) (h : q (nI (2 ^ dn D - 1)) μ) : mm_Ci X 0 0 0 k_Co_allChildren [.ref a] μ q := sp_Co_allChildren hCD.1 (by rw [hCD.n, nI_sh1 (by have := hW.1; omega), show (1 : Int32) = nI 1 from rfl, pk_sub (one_le_two_pow _)]; exact h)
theorem sp_Co_allWorksN {X : mm_X} {μ : mm_M} {q : Int32 → mm_M → Prop} {a : Nat} {D : mm_D} (hCD : CoD μ a D) (hW : WfD D) (h : q (nI (2 ^ dw D - 1)) μ) : mm_Ci X 0 0 0 k_Co_allWorks [.ref a] μ q := sp_Co_allWorks hCD.1 (by rw [hCD.w, nI_sh1 (by have := hW.2.1; omega), show (1 : Int32) = nI 1 from rfl, pk_sub (one_le_two_pow _)]; exact h)
theorem isF_nI {c k : Nat} (hc : c < 2 ^ 31) (hk : k < 2 ^ 31) : isF c (nI k) = nI (if k < c then 1 else 0) := by
  by_cases h : k < c
  · rw [isF_at hc h, if_pos h]; rfl
  · unfold isF atF
    rw [if_neg (nI_pos hk), if_pos (nI_le (by omega) hk), if_neg h]
    rfl
theorem sp_M_isChildN {X : mm_X} {μ : mm_M} {q : Int32 → mm_M → Prop} {k c : Nat} {D : mm_D} (hH : Hd μ k D) (hc : c < 2 ^ 31) (h : q (nI (if c < dn D then 1 else 0)) μ) : mm_Ci X 1 0 0 k_M_isChild [.ref 71, .int (nI c)] μ q := sp_M_isChild hH (by rw [isF_nI (by have := hH.wf.1; omega) hc]; exact h)
theorem sp_M_isWorkN {X : mm_X} {μ : mm_M} {q : Int32 → mm_M → Prop} {k c : Nat} {D : mm_D} (hH : Hd μ k D) (hc : c < 2 ^ 31) (h : q (nI (if c < dw D then 1 else 0)) μ) : mm_Ci X 1 0 0 k_M_isWork [.ref 71, .int (nI c)] μ q := sp_M_isWork hH (by rw [isF_nI (by have := hH.wf.2.1; omega) hc]; exact h)
theorem sp_M_greaterN {X : mm_X} {μ : mm_M} {q : Int32 → mm_M → Prop} {a b : Nat} (ha : a < 2 ^ 31) (hb : b < 2 ^ 31) (h : q (nI (max a b)) μ) : mm_Ci X 0 0 0 k_M_greater [.int (nI a), .int (nI b)] μ q := sp_M_greater (by
  by_cases c : a ≤ b
  · rw [if_pos (nI_le c hb)]; rwa [Nat.max_eq_right c] at h
  · rw [if_neg (nI_ge (by omega) ha)]; rwa [Nat.max_eq_left (by omega)] at h)
theorem sp_M_lesserN {X : mm_X} {μ : mm_M} {q : Int32 → mm_M → Prop} {a b : Nat} (ha : a < 2 ^ 31) (hb : b < 2 ^ 31) (h : q (nI (min a b)) μ) : mm_Ci X 0 0 0 k_M_lesser [.int (nI a), .int (nI b)] μ q := sp_M_lesser (by
  by_cases c : b ≤ a
  · rw [if_pos (nI_le c ha)]; rwa [Nat.min_eq_right c] at h
  · rw [if_neg (nI_ge (by omega) hb)]; rwa [Nat.min_eq_left (by omega)] at h)
theorem sp_To_coastAtI {X : mm_X} {μ : mm_M} {q : Option Nat → mm_M → Prop} {c i : Nat} (hM : SK μ) (h0 : mm_I μ 34 0 = nI c) (h02 : c ≤ 2) (hi : i < c) (h : q (some (4 + 7 * i)) μ) : mm_Cr X 0 0 0 k_To_coastAt [.ref 1, .int (nI i)] μ q := sp_To_coastAt (sk_t hM) h0 h02 (by rw [atF_at (by omega) hi]; exact h)
theorem atF_none_nI {c k : Nat} (h : atF c (nI k) = none) (hc : c < 2 ^ 31) : ¬ k < c := fun z => by rw [atF_at hc z] at h; cases h
theorem inF_none {c : Nat} {x : Int32} (h : atF c x = none) : inF x 0 (nI c) = 0 := by
  unfold atF at h
  unfold inF
  by_cases a : x < 0
  · rw [if_pos a]
  · rw [if_neg a] at h ⊢
    by_cases b : nI c ≤ x
    · rw [if_pos b]
    · rw [if_neg b] at h; cases h
theorem isF_none {c : Nat} {x : Int32} (h : atF c x = none) : isF c x = 0 := by unfold isF; rw [h]
theorem sp_To_coastWithWorkI {X : mm_X} {μ : mm_M} {q : Option Nat → mm_M → Prop} {c i j : Nat} {D : mm_D} (hM : SK μ) (h0 : mm_I μ 34 0 = nI c) (h02 : c ≤ 2) (hi : i < c) (hCD : CoD μ (4 + 7 * i) D) (hW : WfD D) (hj : j < dw D) (h : q (some (4 + 7 * i)) μ) : mm_Cr X 1 0 0 k_To_coastWithWork [.ref 1, .int (nI i), .int (nI j)] μ q := by
  show mm_T X 1 0 0 k_To_coastWithWork 0 [some (.ref 1), some (.int (nI i)), some (.int (nI j)), none] [] μ _
  have hw6 := hW.2.1
  refine mm_aload d_To_coastWithWork_0 rfl ?_
  refine mm_iload d_To_coastWithWork_1 rfl ?_
  refine mm_v1r d_To_coastWithWork_2 (sk_o_1 hM) (sp_To_coastAtI hM h0 h02 hi ?_)
  refine mm_ast3 d_To_coastWithWork_5 ?_
  refine mm_aload d_To_coastWithWork_6 rfl ?_
  refine mm_ifnull d_To_coastWithWork_7 ?_
  refine mm_aload d_To_coastWithWork_10 rfl ?_
  refine mm_iload d_To_coastWithWork_11 rfl ?_
  refine mm_v1i d_To_coastWithWork_12 hCD.1.1 (sp_Co_hasWorkN hCD (by omega) hW ?_)
  rw [if_pos hj]
  refine mm_if_eqN d_To_coastWithWork_15 (by first | omega | exact bt8_lt31 _ _ | exact godB_lt31 _ _ _ | exact pop_lt31 _ | assumption | exact b31 (hW.gp (by omega)) | exact b31 (hW.ne (by omega)) | exact b31 (hW.op (by omega)) | exact and31 (hW.gp (by omega)) | exact and31 (hW.ne (by omega)) | exact and31 (hW.op (by omega)) | exact and31 (by assumption)) (fun c_15 => False.elim (by omega)) (fun c_15 => ?_)
  refine mm_aload d_To_coastWithWork_18 rfl ?_
  refine mm_goto d_To_coastWithWork_19 ?_
  exact mm_rr d_To_coastWithWork_23 (r := some (4 + 7 * i)) h
theorem sp_To_coastWithWorkN {X : mm_X} {μ : mm_M} {q : Option Nat → mm_M → Prop} {c i : Nat} {y : Int32} {D : mm_D} (hM : SK μ) (h0 : mm_I μ 34 0 = nI c) (h02 : c ≤ 2) (hi : i < c) (hCD : CoD μ (4 + 7 * i) D) (hj : atF (dw D) y = none) (h : q none μ) : mm_Cr X 1 0 0 k_To_coastWithWork [.ref 1, .int (nI i), .int y] μ q := by
  show mm_T X 1 0 0 k_To_coastWithWork 0 [some (.ref 1), some (.int (nI i)), some (.int y), none] [] μ _
  refine mm_aload d_To_coastWithWork_0 rfl ?_
  refine mm_iload d_To_coastWithWork_1 rfl ?_
  refine mm_v1r d_To_coastWithWork_2 (sk_o_1 hM) (sp_To_coastAtI hM h0 h02 hi ?_)
  refine mm_ast3 d_To_coastWithWork_5 ?_
  refine mm_aload d_To_coastWithWork_6 rfl ?_
  refine mm_ifnull d_To_coastWithWork_7 ?_
  refine mm_aload d_To_coastWithWork_10 rfl ?_
  refine mm_iload d_To_coastWithWork_11 rfl ?_
  refine mm_v1i d_To_coastWithWork_12 hCD.1.1 (sp_Co_hasWork hCD.1 ?_)
  rw [hCD.w, inF_none hj]
  refine mm_if_eq d_To_coastWithWork_15 (fun c_15 => ?_) (fun c_15 => False.elim (c_15 rfl))
  refine mm_null d_To_coastWithWork_22 ?_
  exact mm_rr d_To_coastWithWork_23 (r := none) h
theorem sp_To_coastWithChildI {X : mm_X} {μ : mm_M} {q : Option Nat → mm_M → Prop} {c i j : Nat} {D : mm_D} (hM : SK μ) (h0 : mm_I μ 34 0 = nI c) (h02 : c ≤ 2) (hi : i < c) (hCD : CoD μ (4 + 7 * i) D) (hW : WfD D) (hj : j < dn D) (h : q (some (4 + 7 * i)) μ) : mm_Cr X 1 0 0 k_To_coastWithChild [.ref 1, .int (nI i), .int (nI j)] μ q := by
  show mm_T X 1 0 0 k_To_coastWithChild 0 [some (.ref 1), some (.int (nI i)), some (.int (nI j)), none] [] μ _
  have hw6 := hW.1
  refine mm_aload d_To_coastWithChild_0 rfl ?_
  refine mm_iload d_To_coastWithChild_1 rfl ?_
  refine mm_v1r d_To_coastWithChild_2 (sk_o_1 hM) (sp_To_coastAtI hM h0 h02 hi ?_)
  refine mm_ast3 d_To_coastWithChild_5 ?_
  refine mm_aload d_To_coastWithChild_6 rfl ?_
  refine mm_ifnull d_To_coastWithChild_7 ?_
  refine mm_aload d_To_coastWithChild_10 rfl ?_
  refine mm_iload d_To_coastWithChild_11 rfl ?_
  refine mm_v1i d_To_coastWithChild_12 hCD.1.1 (sp_Co_hasChildN hCD (by omega) hW ?_)
  rw [if_pos hj]
  refine mm_if_eqN d_To_coastWithChild_15 (by first | omega | exact bt8_lt31 _ _ | exact godB_lt31 _ _ _ | exact pop_lt31 _ | assumption | exact b31 (hW.gp (by omega)) | exact b31 (hW.ne (by omega)) | exact b31 (hW.op (by omega)) | exact and31 (hW.gp (by omega)) | exact and31 (hW.ne (by omega)) | exact and31 (hW.op (by omega)) | exact and31 (by assumption)) (fun c_15 => False.elim (by omega)) (fun c_15 => ?_)
  refine mm_aload d_To_coastWithChild_18 rfl ?_
  refine mm_goto d_To_coastWithChild_19 ?_
  exact mm_rr d_To_coastWithChild_23 (r := some (4 + 7 * i)) h
theorem sp_To_coastWithChildN {X : mm_X} {μ : mm_M} {q : Option Nat → mm_M → Prop} {c i : Nat} {y : Int32} {D : mm_D} (hM : SK μ) (h0 : mm_I μ 34 0 = nI c) (h02 : c ≤ 2) (hi : i < c) (hCD : CoD μ (4 + 7 * i) D) (hj : atF (dn D) y = none) (h : q none μ) : mm_Cr X 1 0 0 k_To_coastWithChild [.ref 1, .int (nI i), .int y] μ q := by
  show mm_T X 1 0 0 k_To_coastWithChild 0 [some (.ref 1), some (.int (nI i)), some (.int y), none] [] μ _
  refine mm_aload d_To_coastWithChild_0 rfl ?_
  refine mm_iload d_To_coastWithChild_1 rfl ?_
  refine mm_v1r d_To_coastWithChild_2 (sk_o_1 hM) (sp_To_coastAtI hM h0 h02 hi ?_)
  refine mm_ast3 d_To_coastWithChild_5 ?_
  refine mm_aload d_To_coastWithChild_6 rfl ?_
  refine mm_ifnull d_To_coastWithChild_7 ?_
  refine mm_aload d_To_coastWithChild_10 rfl ?_
  refine mm_iload d_To_coastWithChild_11 rfl ?_
  refine mm_v1i d_To_coastWithChild_12 hCD.1.1 (sp_Co_hasChild hCD.1 ?_)
  rw [hCD.n, inF_none hj]
  refine mm_if_eq d_To_coastWithChild_15 (fun c_15 => ?_) (fun c_15 => False.elim (c_15 rfl))
  refine mm_null d_To_coastWithChild_22 ?_
  exact mm_rr d_To_coastWithChild_23 (r := none) h
theorem mm_J_sJ {μ : mm_M} {a j b i : Nat} {x : Int64} : mm_J (mm_sJ μ a j x) b i = if b = a ∧ i = j then x else mm_J μ b i := by
  by_cases h : b = a
  · subst h
    rw [mm_sJ_at]
    by_cases h2 : i = j
    · simp [vp_updL, h2]
    · simp [vp_updL, h2]
  · rw [mm_sJ_off h, if_neg (fun z => h z.1)]
/-- chances of the weathers of s, of the first k -/
def chUp (D : mm_D) (s : Nat) : Nat → Nat
  | 0 => 1
  | k + 1 => if bt8 s k = 0 then chUp D s k else chUp D s k * dch D k
def chDn (s : Nat) : Nat → Nat
  | 0 => 1
  | k + 1 => if bt8 s k = 0 then chDn s k else chDn s k * 10
theorem chDn_pos (s : Nat) : ∀ k, 1 ≤ chDn s k ∧ chDn s k ≤ 10 ^ k
  | 0 => ⟨Nat.le_refl 1, Nat.le_refl 1⟩
  | k + 1 => by
    have := chDn_pos s k
    unfold chDn
    rw [Nat.pow_succ]
    split <;> omega
theorem chUp_le {D : mm_D} (hW : WfD D) (s : Nat) : ∀ k, k ≤ 8 → chUp D s k ≤ 10 ^ k
  | 0, _ => Nat.le_refl 1
  | k + 1, h => by
    have := chUp_le hW s k (by omega)
    have h2 := hW.ch (j := k) (by omega)
    unfold chUp
    rw [Nat.pow_succ]
    split
    · omega
    · exact Nat.mul_le_mul this h2
theorem sp_Co_chances {X : mm_X} {μ : mm_M} {q : Int64 → mm_M → Prop} {a s : Nat} {D : mm_D} (hCD : CoD μ a D) (hW : WfD D) (hs : s < 256) (h : q (lN (chUp D s 8)) μ) : mm_Cj X 1 0 0 k_Co_chances [.ref a, .int (nI s)] μ q := by
  show mm_T X 1 0 0 k_Co_chances 0 [some (.ref a), some (.int (nI s)), none, none, none] [] μ _
  refine mm_lciN 1 d_Co_chances_0 rfl ?_
  refine mm_lst2 d_Co_chances_1 ?_
  refine mm_ciN 0 d_Co_chances_2 rfl ?_
  refine mm_ist4 d_Co_chances_3 ?_
  refine mm_up (P := fun i => mm_T X _ 0 0 k_Co_chances 5 [some (.ref a), some (.int (nI s)), some (.long (lN (chUp D s i))), none, some (.int (nI i))] [] μ _) (8) ?_ (fun i hi ih => ?_)
  · refine mm_iload d_Co_chances_5 rfl ?_
    refine mm_ciN 8 d_Co_chances_7 rfl ?_
    refine mm_icmp_geN d_Co_chances_9 (by first | omega | exact bt8_lt31 _ _ | exact godB_lt31 _ _ _ | exact pop_lt31 _ | assumption | exact b31 (hW.gp (by omega)) | exact b31 (hW.ne (by omega)) | exact b31 (hW.op (by omega)) | exact and31 (hW.gp (by omega)) | exact and31 (hW.ne (by omega)) | exact and31 (hW.op (by omega)) | exact and31 (by assumption)) (by first | omega | exact bt8_lt31 _ _ | exact godB_lt31 _ _ _ | exact pop_lt31 _ | assumption | exact b31 (hW.gp (by omega)) | exact b31 (hW.ne (by omega)) | exact b31 (hW.op (by omega)) | exact and31 (hW.gp (by omega)) | exact and31 (hW.ne (by omega)) | exact and31 (hW.op (by omega)) | exact and31 (by assumption)) (fun c_9 => ?_) (fun c_9 => False.elim (by omega))
    refine mm_lload d_Co_chances_38 rfl ?_
    exact mm_rj d_Co_chances_39 h
  · refine mm_iload d_Co_chances_5 rfl ?_
    refine mm_ciN 8 d_Co_chances_7 rfl ?_
    refine mm_icmp_geN d_Co_chances_9 (by first | omega | exact bt8_lt31 _ _ | exact godB_lt31 _ _ _ | exact pop_lt31 _ | assumption | exact b31 (hW.gp (by omega)) | exact b31 (hW.ne (by omega)) | exact b31 (hW.op (by omega)) | exact and31 (hW.gp (by omega)) | exact and31 (hW.ne (by omega)) | exact and31 (hW.op (by omega)) | exact and31 (by assumption)) (by first | omega | exact bt8_lt31 _ _ | exact godB_lt31 _ _ _ | exact pop_lt31 _ | assumption | exact b31 (hW.gp (by omega)) | exact b31 (hW.ne (by omega)) | exact b31 (hW.op (by omega)) | exact and31 (hW.gp (by omega)) | exact and31 (hW.ne (by omega)) | exact and31 (hW.op (by omega)) | exact and31 (by assumption)) (fun c_9 => False.elim (by omega)) (fun c_9 => ?_)
    refine mm_iload d_Co_chances_12 rfl ?_
    refine mm_iload d_Co_chances_13 rfl ?_
    refine mm_s2i d_Co_chances_15 (sp_has (by first | omega | assumption | exact hW.gp (by omega) | exact hW.ne (by omega) | exact hW.op (by omega) | exact and_lt256 (hW.gp (by omega)) | exact and_lt256 (hW.ne (by omega)) | exact and_lt256 (hW.op (by omega))) (by omega) ?_)
    refine mm_if_eqN d_Co_chances_18 (by first | omega | exact bt8_lt31 _ _ | exact godB_lt31 _ _ _ | exact pop_lt31 _ | assumption | exact b31 (hW.gp (by omega)) | exact b31 (hW.ne (by omega)) | exact b31 (hW.op (by omega)) | exact and31 (hW.gp (by omega)) | exact and31 (hW.ne (by omega)) | exact and31 (hW.op (by omega)) | exact and31 (by assumption)) (fun c_18 => ?_) (fun c_18 => ?_)
    · refine mm_inc4N d_Co_chances_32 ?_
      refine mm_goto d_Co_chances_35 ?_
      first
        | exact ih
        | (have z := ih; simp only [chUp, if_pos c_18] at z; exact z)
        | (have z := ih; simp only [chUp, if_pos c_18, Nat.or_zero, Nat.add_zero] at z; exact z)
        | (have z := ih; simp only [chUp, if_pos c_18, Nat.mul_one] at z; exact z)
        | (have z := ih; simp only [chUp, if_neg c_18] at z; exact z)
        | (have z := ih; simp only [chUp, if_neg c_18, Nat.or_zero, Nat.add_zero] at z; exact z)
        | (have z := ih; simp only [chUp, if_neg c_18, Nat.mul_one] at z; exact z)
    · refine mm_lload d_Co_chances_21 rfl ?_
      refine mm_aload d_Co_chances_22 rfl ?_
      refine mm_getP d_Co_chances_23 rfl hCD.1.1 (CoS_p0 hCD.1) ?_
      refine mm_iload d_Co_chances_26 rfl ?_
      refine mm_ialdN d_Co_chances_28 (CoS_a0 hCD.1) (by omega) (by decide) (hCD.f0 (by omega)) ?_
      have hb := hW.ch hi
      refine mm_i2lN d_Co_chances_29 (by first | omega | exact bt8_lt31 _ _ | exact godB_lt31 _ _ _ | exact pop_lt31 _ | assumption | exact b31 (hW.gp (by omega)) | exact b31 (hW.ne (by omega)) | exact b31 (hW.op (by omega)) | exact and31 (hW.gp (by omega)) | exact and31 (hW.ne (by omega)) | exact and31 (hW.op (by omega)) | exact and31 (by assumption)) ?_
      refine mm_lmulN d_Co_chances_30 ?_
      refine mm_lst2 d_Co_chances_31 ?_
      refine mm_inc4N d_Co_chances_32 ?_
      refine mm_goto d_Co_chances_35 ?_
      first
        | exact ih
        | (have z := ih; simp only [chUp, if_pos c_18] at z; exact z)
        | (have z := ih; simp only [chUp, if_pos c_18, Nat.or_zero, Nat.add_zero] at z; exact z)
        | (have z := ih; simp only [chUp, if_pos c_18, Nat.mul_one] at z; exact z)
        | (have z := ih; simp only [chUp, if_neg c_18] at z; exact z)
        | (have z := ih; simp only [chUp, if_neg c_18, Nat.or_zero, Nat.add_zero] at z; exact z)
        | (have z := ih; simp only [chUp, if_neg c_18, Nat.mul_one] at z; exact z)
theorem sp_Co_chancesUnder {X : mm_X} {μ : mm_M} {q : Int64 → mm_M → Prop} {a s : Nat} (hs : s < 256) (h : q (lN (chDn s 8)) μ) : mm_Cj X 1 0 0 k_Co_chancesUnder [.ref a, .int (nI s)] μ q := by
  show mm_T X 1 0 0 k_Co_chancesUnder 0 [some (.ref a), some (.int (nI s)), none, none, none] [] μ _
  refine mm_lciN 1 d_Co_chancesUnder_0 rfl ?_
  refine mm_lst2 d_Co_chancesUnder_1 ?_
  refine mm_ciN 0 d_Co_chancesUnder_2 rfl ?_
  refine mm_ist4 d_Co_chancesUnder_3 ?_
  refine mm_up (P := fun i => mm_T X _ 0 0 k_Co_chancesUnder 5 [some (.ref a), some (.int (nI s)), some (.long (lN (chDn s i))), none, some (.int (nI i))] [] μ _) (8) ?_ (fun i hi ih => ?_)
  · refine mm_iload d_Co_chancesUnder_5 rfl ?_
    refine mm_ciN 8 d_Co_chancesUnder_7 rfl ?_
    refine mm_icmp_geN d_Co_chancesUnder_9 (by first | omega | exact bt8_lt31 _ _ | exact godB_lt31 _ _ _ | exact pop_lt31 _ | assumption | exact b31 (hW.gp (by omega)) | exact b31 (hW.ne (by omega)) | exact b31 (hW.op (by omega)) | exact and31 (hW.gp (by omega)) | exact and31 (hW.ne (by omega)) | exact and31 (hW.op (by omega)) | exact and31 (by assumption)) (by first | omega | exact bt8_lt31 _ _ | exact godB_lt31 _ _ _ | exact pop_lt31 _ | assumption | exact b31 (hW.gp (by omega)) | exact b31 (hW.ne (by omega)) | exact b31 (hW.op (by omega)) | exact and31 (hW.gp (by omega)) | exact and31 (hW.ne (by omega)) | exact and31 (hW.op (by omega)) | exact and31 (by assumption)) (fun c_9 => ?_) (fun c_9 => False.elim (by omega))
    refine mm_lload d_Co_chancesUnder_33 rfl ?_
    exact mm_rj d_Co_chancesUnder_34 h
  · refine mm_iload d_Co_chancesUnder_5 rfl ?_
    refine mm_ciN 8 d_Co_chancesUnder_7 rfl ?_
    refine mm_icmp_geN d_Co_chancesUnder_9 (by first | omega | exact bt8_lt31 _ _ | exact godB_lt31 _ _ _ | exact pop_lt31 _ | assumption | exact b31 (hW.gp (by omega)) | exact b31 (hW.ne (by omega)) | exact b31 (hW.op (by omega)) | exact and31 (hW.gp (by omega)) | exact and31 (hW.ne (by omega)) | exact and31 (hW.op (by omega)) | exact and31 (by assumption)) (by first | omega | exact bt8_lt31 _ _ | exact godB_lt31 _ _ _ | exact pop_lt31 _ | assumption | exact b31 (hW.gp (by omega)) | exact b31 (hW.ne (by omega)) | exact b31 (hW.op (by omega)) | exact and31 (hW.gp (by omega)) | exact and31 (hW.ne (by omega)) | exact and31 (hW.op (by omega)) | exact and31 (by assumption)) (fun c_9 => False.elim (by omega)) (fun c_9 => ?_)
    refine mm_iload d_Co_chancesUnder_12 rfl ?_
    refine mm_iload d_Co_chancesUnder_13 rfl ?_
    refine mm_s2i d_Co_chancesUnder_15 (sp_has (by first | omega | assumption | exact hW.gp (by omega) | exact hW.ne (by omega) | exact hW.op (by omega) | exact and_lt256 (hW.gp (by omega)) | exact and_lt256 (hW.ne (by omega)) | exact and_lt256 (hW.op (by omega))) (by omega) ?_)
    refine mm_if_eqN d_Co_chancesUnder_18 (by first | omega | exact bt8_lt31 _ _ | exact godB_lt31 _ _ _ | exact pop_lt31 _ | assumption | exact b31 (hW.gp (by omega)) | exact b31 (hW.ne (by omega)) | exact b31 (hW.op (by omega)) | exact and31 (hW.gp (by omega)) | exact and31 (hW.ne (by omega)) | exact and31 (hW.op (by omega)) | exact and31 (by assumption)) (fun c_18 => ?_) (fun c_18 => ?_)
    · refine mm_inc4N d_Co_chancesUnder_27 ?_
      refine mm_goto d_Co_chancesUnder_30 ?_
      first
        | exact ih
        | (have z := ih; simp only [chDn, if_pos c_18] at z; exact z)
        | (have z := ih; simp only [chDn, if_pos c_18, Nat.or_zero, Nat.add_zero] at z; exact z)
        | (have z := ih; simp only [chDn, if_pos c_18, Nat.mul_one] at z; exact z)
        | (have z := ih; simp only [chDn, if_neg c_18] at z; exact z)
        | (have z := ih; simp only [chDn, if_neg c_18, Nat.or_zero, Nat.add_zero] at z; exact z)
        | (have z := ih; simp only [chDn, if_neg c_18, Nat.mul_one] at z; exact z)
    · refine mm_lload d_Co_chancesUnder_21 rfl ?_
      refine mm_lciN 10 d_Co_chancesUnder_22 rfl ?_
      refine mm_lmulN d_Co_chancesUnder_25 ?_
      refine mm_lst2 d_Co_chancesUnder_26 ?_
      refine mm_inc4N d_Co_chancesUnder_27 ?_
      refine mm_goto d_Co_chancesUnder_30 ?_
      first
        | exact ih
        | (have z := ih; simp only [chDn, if_pos c_18] at z; exact z)
        | (have z := ih; simp only [chDn, if_pos c_18, Nat.or_zero, Nat.add_zero] at z; exact z)
        | (have z := ih; simp only [chDn, if_pos c_18, Nat.mul_one] at z; exact z)
        | (have z := ih; simp only [chDn, if_neg c_18] at z; exact z)
        | (have z := ih; simp only [chDn, if_neg c_18, Nat.or_zero, Nat.add_zero] at z; exact z)
        | (have z := ih; simp only [chDn, if_neg c_18, Nat.mul_one] at z; exact z)
theorem sp_M_chancesOf {X : mm_X} {μ : mm_M} {q : mm_M → Prop} {k s : Nat} {D : mm_D} (hH : Hd μ k D) (hs : s < 256) (h : ∀ μ', Fr scM μ μ' → Hd μ' k D → mm_J μ' 71 36 = lN (chUp D s 8) → mm_J μ' 71 37 = lN (chDn s 8) → q μ') : mm_Cv X 1 0 0 k_M_chancesOf [.ref 71, .int (nI s)] μ q := by
  show mm_T X 1 0 0 k_M_chancesOf 0 [some (.ref 71), some (.int (nI s)), none] [] μ _
  have hM := hH.1
  refine mm_aload d_M_chancesOf_0 rfl ?_
  refine mm_lciN 1 d_M_chancesOf_1 rfl ?_
  refine mm_putJ d_M_chancesOf_2 rfl (sk_o_71 hM) (Or.inl rfl) ?_
  refine mm_aload d_M_chancesOf_5 rfl ?_
  refine mm_lciN 1 d_M_chancesOf_6 rfl ?_
  refine mm_putJ d_M_chancesOf_7 rfl (sk_o_71 hM) (Or.inl rfl) ?_
  refine mm_ciN 0 d_M_chancesOf_10 rfl ?_
  refine mm_ist2 d_M_chancesOf_11 ?_
  refine mm_up (P := fun i => ∀ ν, (Fr scM μ ν ∧ Hd ν k D ∧ mm_J ν 71 36 = lN (chUp D s i) ∧ mm_J ν 71 37 = lN (chDn s i)) → mm_T X _ 0 0 k_M_chancesOf 12 [some (.ref 71), some (.int (nI s)), some (.int (nI i))] [] ν _) (8) ?_ ?_ _ ⟨(Fr.rf.sJ rfl).sJ rfl, hH, by rw [mm_J_sJ, if_neg (by decide), mm_J_sJ, if_pos ⟨rfl, rfl⟩]; rfl, by rw [mm_J_sJ, if_pos ⟨rfl, rfl⟩]; rfl⟩
  · intro ν hI
    obtain ⟨hf, hH, e1, e2⟩ := hI
    have hM := hH.1
    have hW := hH.wf
    refine mm_iload d_M_chancesOf_12 rfl ?_
    refine mm_ciN 8 d_M_chancesOf_13 rfl ?_
    refine mm_icmp_geN d_M_chancesOf_15 (by first | omega | exact bt8_lt31 _ _ | exact godB_lt31 _ _ _ | exact pop_lt31 _ | assumption | exact b31 (hW.gp (by omega)) | exact b31 (hW.ne (by omega)) | exact b31 (hW.op (by omega)) | exact and31 (hW.gp (by omega)) | exact and31 (hW.ne (by omega)) | exact and31 (hW.op (by omega)) | exact and31 (by assumption)) (by first | omega | exact bt8_lt31 _ _ | exact godB_lt31 _ _ _ | exact pop_lt31 _ | assumption | exact b31 (hW.gp (by omega)) | exact b31 (hW.ne (by omega)) | exact b31 (hW.op (by omega)) | exact and31 (hW.gp (by omega)) | exact and31 (hW.ne (by omega)) | exact and31 (hW.op (by omega)) | exact and31 (by assumption)) (fun c_15 => ?_) (fun c_15 => False.elim (by omega))
    exact mm_rv d_M_chancesOf_61 (h ν hf hH e1 e2)
  · intro i hi ih ν hI
    obtain ⟨hf, hH, e1, e2⟩ := hI
    have hM := hH.1
    have hW := hH.wf
    refine mm_iload d_M_chancesOf_12 rfl ?_
    refine mm_ciN 8 d_M_chancesOf_13 rfl ?_
    refine mm_icmp_geN d_M_chancesOf_15 (by first | omega | exact bt8_lt31 _ _ | exact godB_lt31 _ _ _ | exact pop_lt31 _ | assumption | exact b31 (hW.gp (by omega)) | exact b31 (hW.ne (by omega)) | exact b31 (hW.op (by omega)) | exact and31 (hW.gp (by omega)) | exact and31 (hW.ne (by omega)) | exact and31 (hW.op (by omega)) | exact and31 (by assumption)) (by first | omega | exact bt8_lt31 _ _ | exact godB_lt31 _ _ _ | exact pop_lt31 _ | assumption | exact b31 (hW.gp (by omega)) | exact b31 (hW.ne (by omega)) | exact b31 (hW.op (by omega)) | exact and31 (hW.gp (by omega)) | exact and31 (hW.ne (by omega)) | exact and31 (hW.op (by omega)) | exact and31 (by assumption)) (fun c_15 => False.elim (by omega)) (fun c_15 => ?_)
    refine mm_iload d_M_chancesOf_18 rfl ?_
    refine mm_iload d_M_chancesOf_19 rfl ?_
    refine mm_s2i d_M_chancesOf_20 (sp_M_has (by first | omega | assumption | exact hW.gp (by omega) | exact hW.ne (by omega) | exact hW.op (by omega) | exact and_lt256 (hW.gp (by omega)) | exact and_lt256 (hW.ne (by omega)) | exact and_lt256 (hW.op (by omega))) (by omega) ?_)
    refine mm_if_eqN d_M_chancesOf_23 (by first | omega | exact bt8_lt31 _ _ | exact godB_lt31 _ _ _ | exact pop_lt31 _ | assumption | exact b31 (hW.gp (by omega)) | exact b31 (hW.ne (by omega)) | exact b31 (hW.op (by omega)) | exact and31 (hW.gp (by omega)) | exact and31 (hW.ne (by omega)) | exact and31 (hW.op (by omega)) | exact and31 (by assumption)) (fun c_23 => ?_) (fun c_23 => ?_)
    · refine mm_inc2N d_M_chancesOf_55 ?_
      refine mm_goto d_M_chancesOf_58 ?_
      first
        | exact ih ν ⟨hf, hH, by simp only [chUp, if_pos c_23]; exact e1, by simp only [chDn, if_pos c_23]; exact e2⟩
        | exact ih _ ⟨(hf.sJ rfl).sJ rfl, hH, by simp only [chUp, if_neg c_23]; rw [mm_J_sJ, if_neg (by decide), mm_J_sJ, if_pos ⟨rfl, rfl⟩], by simp only [chDn, if_neg c_23]; rw [mm_J_sJ, if_pos ⟨rfl, rfl⟩]⟩
    · refine mm_aload d_M_chancesOf_26 rfl ?_
      refine mm_dup d_M_chancesOf_27 rfl ?_
      refine mm_getJN d_M_chancesOf_28 rfl (sk_o_71 hM) e1 ?_
      refine mm_aload d_M_chancesOf_31 rfl ?_
      refine mm_ciN 2 d_M_chancesOf_32 rfl ?_
      refine mm_iload d_M_chancesOf_33 rfl ?_
      refine mm_iaddN d_M_chancesOf_34 ?_
      refine mm_v1i d_M_chancesOf_35 (sk_o_71 hM) (sp_M_ofN hH (by omega) (hH.f0 (by omega)) ?_)
      have hb := hW.ch hi
      refine mm_i2lN d_M_chancesOf_38 (by first | omega | exact bt8_lt31 _ _ | exact godB_lt31 _ _ _ | exact pop_lt31 _ | assumption | exact b31 (hW.gp (by omega)) | exact b31 (hW.ne (by omega)) | exact b31 (hW.op (by omega)) | exact and31 (hW.gp (by omega)) | exact and31 (hW.ne (by omega)) | exact and31 (hW.op (by omega)) | exact and31 (by assumption)) ?_
      refine mm_lmulN d_M_chancesOf_39 ?_
      refine mm_putJ d_M_chancesOf_40 rfl (sk_o_71 hM) (Or.inl rfl) ?_
      refine mm_aload d_M_chancesOf_43 rfl ?_
      refine mm_dup d_M_chancesOf_44 rfl ?_
      refine mm_getJN d_M_chancesOf_45 rfl (sk_o_71 hM) (show _ = lN (chDn s i) from e2) ?_
      refine mm_lciN 10 d_M_chancesOf_48 rfl ?_
      refine mm_lmulN d_M_chancesOf_51 ?_
      refine mm_putJ d_M_chancesOf_52 rfl (sk_o_71 hM) (Or.inl rfl) ?_
      refine mm_inc2N d_M_chancesOf_55 ?_
      refine mm_goto d_M_chancesOf_58 ?_
      first
        | exact ih ν ⟨hf, hH, by simp only [chUp, if_pos c_23]; exact e1, by simp only [chDn, if_pos c_23]; exact e2⟩
        | exact ih _ ⟨(hf.sJ rfl).sJ rfl, hH, by simp only [chUp, if_neg c_23]; rw [mm_J_sJ, if_neg (by decide), mm_J_sJ, if_pos ⟨rfl, rfl⟩], by simp only [chDn, if_neg c_23]; rw [mm_J_sJ, if_pos ⟨rfl, rfl⟩]⟩
/-- one side of a fraction in least terms -/
def ltN (u : Int32) (a b : Nat) : Nat := (if u = 0 then a else b) / Nat.gcd a b
theorem eu_half {x y : Nat} {m : Nat} (h : y < x) (h0 : y ≠ 0) (hm : x * y < 2 ^ m) : ∃ m', m = m' + 1 ∧ y * (x % y) < 2 ^ m' := by
  cases m with
  | zero =>
    have : 1 ≤ x * y := Nat.mul_pos (by omega) (by omega)
    simp at hm
    omega
  | succ m =>
    refine ⟨m, rfl, ?_⟩
    have h1 := Nat.div_add_mod x y
    have h2 : 1 ≤ x / y := Nat.div_pos (Nat.le_of_lt h) (by omega)
    have h3 : y * 1 ≤ y * (x / y) := Nat.mul_le_mul_left y h2
    have h4 : x % y < y := Nat.mod_lt _ (by omega)
    have h5 : 2 * (x % y) ≤ x := by omega
    have h6 : y * (2 * (x % y)) ≤ y * x := Nat.mul_le_mul_left y h5
    rw [Nat.pow_succ] at hm
    rw [Nat.mul_comm y x] at h6
    have h7 : y * (2 * (x % y)) = 2 * (y * (x % y)) := by rw [Nat.mul_left_comm]
    omega
theorem sp_M_common {X : mm_X} {μ : mm_M} {q : Int64 → mm_M → Prop} {a b : Nat} (ha : a < 2 ^ 63) (hb : b < 2 ^ 63) (h : q (lN (Nat.gcd a b)) μ) : mm_Cj X 0 0 0 k_M_common [.long (lN a), .long (lN b)] μ q := by
  show mm_T X 0 0 0 k_M_common 0 [some (.long (lN a)), none, some (.long (lN b)), none, none, none, none, none, none, none] [] μ _
  refine mm_lload d_M_common_0 rfl ?_
  refine mm_lst4 d_M_common_1 ?_
  refine mm_lload d_M_common_3 rfl ?_
  refine mm_lst6 d_M_common_4 ?_
  have loop : ∀ (m x y : Nat) (l8 : Option Value), x < 2 ^ 63 → y < x → x * y < 2 ^ m → Nat.gcd x y = Nat.gcd a b → mm_nl [some (.long (lN a)), none, some (.long (lN b)), none, some (.long (lN x)), none, some (.long (lN y)), none, l8, none] 8 = true → mm_T X 0 0 0 k_M_common 6 [some (.long (lN a)), none, some (.long (lN b)), none, some (.long (lN x)), none, some (.long (lN y)), none, l8, none] [] μ (fun v μ' => ∃ r, v = some (.long r) ∧ q r μ') := by
    intro m
    induction m with
    | zero =>
      intro x y l8 hx hyx hxy hg hnl
      have hy0 : y = 0 := Decidable.byContradiction fun e => by
        obtain ⟨m', e1, -⟩ := eu_half hyx e hxy
        cases e1
      subst hy0
      rw [Nat.gcd_zero_right] at hg
      refine mm_lload d_M_common_6 rfl ?_
      refine mm_lciN 0 d_M_common_8 rfl ?_
      refine mm_lcmp d_M_common_9 ?_
      refine mm_lif_eqN d_M_common_10 (by omega) (by omega) (fun c_10 => ?_) (fun c_10 => False.elim (by omega))
      refine mm_lload d_M_common_31 rfl ?_
      exact mm_rj d_M_common_33 (by rw [hg]; exact h)
    | succ m ih =>
      intro x y l8 hx hyx hxy hg hnl
      by_cases hy0 : y = 0
      · subst hy0
        rw [Nat.gcd_zero_right] at hg
        refine mm_lload d_M_common_6 rfl ?_
        refine mm_lciN 0 d_M_common_8 rfl ?_
        refine mm_lcmp d_M_common_9 ?_
        refine mm_lif_eqN d_M_common_10 (by omega) (by omega) (fun c_10 => ?_) (fun c_10 => False.elim (by omega))
        refine mm_lload d_M_common_31 rfl ?_
        exact mm_rj d_M_common_33 (by rw [hg]; exact h)
      · obtain ⟨m', e1, e2⟩ := eu_half hyx hy0 hxy
        obtain rfl : m = m' := by omega
        have e3 : x % y < y := Nat.mod_lt _ (by omega)
        refine mm_lload d_M_common_6 rfl ?_
        refine mm_lciN 0 d_M_common_8 rfl ?_
        refine mm_lcmp d_M_common_9 ?_
        refine mm_lif_eqN d_M_common_10 (by omega) (by omega) (fun c_10 => False.elim (by omega)) (fun c_10 => ?_)
        refine mm_lload d_M_common_13 rfl ?_
        refine mm_lload d_M_common_15 rfl ?_
        refine mm_lremN d_M_common_17 (by omega) (by omega) (by omega) ?_
        refine mm_lst8 d_M_common_18 ?_
        refine mm_lload d_M_common_20 rfl ?_
        refine mm_lst4 d_M_common_22 ?_
        refine mm_lload d_M_common_24 rfl ?_
        refine mm_lst6 d_M_common_26 ?_
        refine mm_goto d_M_common_28 ?_
        exact ih y (x % y) _ (by omega) e3 e2 (by rw [Nat.gcd_comm y, ← Nat.gcd_rec, Nat.gcd_comm]; exact hg) rfl
  by_cases hba : b < a
  · refine loop 126 a b none ha hba ?_ rfl rfl
    exact Nat.lt_of_lt_of_le (Nat.mul_lt_mul'' ha hb) (by decide)
  · by_cases hb0 : b = 0
    · have ha0 : a = 0 := by omega
      subst hb0
      rw [Nat.gcd_zero_right] at h
      refine mm_lload d_M_common_6 rfl ?_
      refine mm_lciN 0 d_M_common_8 rfl ?_
      refine mm_lcmp d_M_common_9 ?_
      refine mm_lif_eqN d_M_common_10 (by omega) (by omega) (fun c_10 => ?_) (fun c_10 => False.elim (by omega))
      refine mm_lload d_M_common_31 rfl ?_
      exact mm_rj d_M_common_33 h
    · have e3 : a % b < b := Nat.mod_lt _ (by omega)
      refine mm_lload d_M_common_6 rfl ?_
      refine mm_lciN 0 d_M_common_8 rfl ?_
      refine mm_lcmp d_M_common_9 ?_
      refine mm_lif_eqN d_M_common_10 (by omega) (by omega) (fun c_10 => False.elim (by omega)) (fun c_10 => ?_)
      refine mm_lload d_M_common_13 rfl ?_
      refine mm_lload d_M_common_15 rfl ?_
      refine mm_lremN d_M_common_17 (by omega) (by omega) (by omega) ?_
      refine mm_lst8 d_M_common_18 ?_
      refine mm_lload d_M_common_20 rfl ?_
      refine mm_lst4 d_M_common_22 ?_
      refine mm_lload d_M_common_24 rfl ?_
      refine mm_lst6 d_M_common_26 ?_
      refine mm_goto d_M_common_28 ?_
      exact loop 126 b (a % b) _ hb e3 (Nat.lt_of_lt_of_le (Nat.mul_lt_mul'' hb (Nat.lt_trans e3 hb)) (by decide)) (by rw [Nat.gcd_comm b, ← Nat.gcd_rec, Nat.gcd_comm]) rfl
theorem sp_M_part {X : mm_X} {μ : mm_M} {q : Int64 → mm_M → Prop} {a b : Nat} {u : Int32} (ha : a < 2 ^ 63) (hb : b < 2 ^ 63) (h0 : 0 < b) (h : q (lN (ltN u a b)) μ) : mm_Cj X 1 0 0 k_M_part [.long (lN a), .long (lN b), .int u] μ q := by
  show mm_T X 1 0 0 k_M_part 0 [some (.long (lN a)), none, some (.long (lN b)), none, some (.int u)] [] μ _
  have hg : 0 < Nat.gcd b a := Nat.gcd_pos_of_pos_left _ h0
  have hg2 : Nat.gcd b a ≤ b := Nat.gcd_le_left _ h0
  unfold ltN at h
  rw [Nat.gcd_comm] at h
  refine mm_iload d_M_part_0 rfl ?_
  refine mm_if_eq d_M_part_2 (fun c_2 => ?_) (fun c_2 => ?_)
  · refine mm_lload d_M_part_9 rfl ?_
    refine mm_lload d_M_part_10 rfl ?_
    refine mm_lload d_M_part_11 rfl ?_
    refine mm_s2j d_M_part_12 (sp_M_common (by omega) (by omega) ?_)
    refine mm_ldivN d_M_part_15 (by omega) (by omega) (by omega) ?_
    exact mm_rj d_M_part_16 (by first | (rw [if_pos c_2] at h; exact h) | (rw [if_neg c_2] at h; exact h))
  · refine mm_lload d_M_part_5 rfl ?_
    refine mm_goto d_M_part_6 ?_
    refine mm_lload d_M_part_10 rfl ?_
    refine mm_lload d_M_part_11 rfl ?_
    refine mm_s2j d_M_part_12 (sp_M_common (by omega) (by omega) ?_)
    refine mm_ldivN d_M_part_15 (by omega) (by omega) (by omega) ?_
    exact mm_rj d_M_part_16 (by first | (rw [if_pos c_2] at h; exact h) | (rw [if_neg c_2] at h; exact h))
theorem sp_G_leastTerms {X : mm_X} {μ : mm_M} {q : Int64 → mm_M → Prop} {a b : Nat} {u : Int32} (ha : a < 2 ^ 63) (hb : b < 2 ^ 63) (h0 : 0 < b) (h : q (lN (ltN u a b)) μ) : mm_Cj X 0 0 0 k_G_leastTerms [.long (lN a), .long (lN b), .int u] μ q := by
  show mm_T X 0 0 0 k_G_leastTerms 0 [some (.long (lN a)), none, some (.long (lN b)), none, some (.int u), none, none, none, none, none, none, none] [] μ _
  refine mm_lload d_G_leastTerms_0 rfl ?_
  refine mm_lst5 d_G_leastTerms_1 ?_
  refine mm_lload d_G_leastTerms_3 rfl ?_
  refine mm_lst7 d_G_leastTerms_4 ?_
  refine mm_ciN 0 d_G_leastTerms_6 rfl ?_
  refine mm_ist9 d_G_leastTerms_7 ?_
  have fin : ∀ (s : Nat) (l10 : Option Value), s < 200 → mm_T X 0 0 0 k_G_leastTerms 9 [some (.long (lN a)), none, some (.long (lN b)), none, some (.int u), some (.long (lN (Nat.gcd a b))), none, some (.long (lN 0)), none, some (.int (nI s)), l10, none] [] μ (fun v μ' => ∃ r, v = some (.long r) ∧ q r μ') := by
    intro s l10 hs
    have hg : 0 < Nat.gcd a b := Nat.gcd_pos_of_pos_right _ h0
    have hg2 : Nat.gcd a b ≤ b := Nat.gcd_le_right _ h0
    unfold ltN at h
    refine mm_iload d_G_leastTerms_9 rfl ?_
    refine mm_ciN 200 d_G_leastTerms_11 rfl ?_
    refine mm_icmp_geN d_G_leastTerms_14 (by first | omega | exact bt8_lt31 _ _ | exact godB_lt31 _ _ _ | exact pop_lt31 _ | assumption | exact b31 (hW.gp (by omega)) | exact b31 (hW.ne (by omega)) | exact b31 (hW.op (by omega)) | exact and31 (hW.gp (by omega)) | exact and31 (hW.ne (by omega)) | exact and31 (hW.op (by omega)) | exact and31 (by assumption)) (by first | omega | exact bt8_lt31 _ _ | exact godB_lt31 _ _ _ | exact pop_lt31 _ | assumption | exact b31 (hW.gp (by omega)) | exact b31 (hW.ne (by omega)) | exact b31 (hW.op (by omega)) | exact and31 (hW.gp (by omega)) | exact and31 (hW.ne (by omega)) | exact and31 (hW.op (by omega)) | exact and31 (by assumption)) (fun c_14 => False.elim (by omega)) (fun c_14 => ?_)
    refine mm_lload d_G_leastTerms_17 rfl ?_
    refine mm_lciN 0 d_G_leastTerms_19 rfl ?_
    refine mm_lcmp d_G_leastTerms_20 ?_
    refine mm_lif_eqN d_G_leastTerms_21 (by omega) (by omega) (fun c_21 => ?_) (fun c_21 => False.elim (by omega))
    refine mm_lload d_G_leastTerms_45 rfl ?_
    refine mm_lciN 0 d_G_leastTerms_47 rfl ?_
    refine mm_lcmp d_G_leastTerms_48 ?_
    refine mm_lif_neN d_G_leastTerms_49 (by omega) (by omega) (fun c_49 => ?_) (fun c_49 => False.elim (by omega))
    refine mm_iload d_G_leastTerms_54 rfl ?_
    refine mm_if_eq d_G_leastTerms_56 (fun c_56 => ?_) (fun c_56 => ?_)
    · refine mm_lload d_G_leastTerms_66 rfl ?_
      refine mm_lload d_G_leastTerms_67 rfl ?_
      refine mm_ldivN d_G_leastTerms_69 (by omega) (by omega) (by omega) ?_
      exact mm_rj d_G_leastTerms_70 (by first | (rw [if_pos c_56] at h; exact h) | (rw [if_neg c_56] at h; exact h))
    · refine mm_lload d_G_leastTerms_59 rfl ?_
      refine mm_lload d_G_leastTerms_60 rfl ?_
      refine mm_ldivN d_G_leastTerms_62 (by omega) (by omega) (by omega) ?_
      refine mm_goto d_G_leastTerms_63 ?_
      exact mm_rj d_G_leastTerms_70 (by first | (rw [if_pos c_56] at h; exact h) | (rw [if_neg c_56] at h; exact h))
  have loop : ∀ (m x y s : Nat) (l10 : Option Value), x < 2 ^ 63 → y < x → x * y < 2 ^ m → Nat.gcd x y = Nat.gcd a b → s + m < 200 → mm_nl [some (.long (lN a)), none, some (.long (lN b)), none, some (.int u), some (.long (lN x)), none, some (.long (lN y)), none, some (.int (nI s)), l10, none] 10 = true → mm_T X 0 0 0 k_G_leastTerms 9 [some (.long (lN a)), none, some (.long (lN b)), none, some (.int u), some (.long (lN x)), none, some (.long (lN y)), none, some (.int (nI s)), l10, none] [] μ (fun v μ' => ∃ r, v = some (.long r) ∧ q r μ') := by
    intro m
    induction m with
    | zero =>
      intro x y s l10 hx hyx hxy hg hs hnl
      have hy0 : y = 0 := Decidable.byContradiction fun e => by
        obtain ⟨m', e1, -⟩ := eu_half hyx e hxy
        cases e1
      subst hy0
      rw [Nat.gcd_zero_right] at hg
      rw [hg]
      exact fin s l10 (by omega)
    | succ m ih =>
      intro x y s l10 hx hyx hxy hg hs hnl
      by_cases hy0 : y = 0
      · subst hy0
        rw [Nat.gcd_zero_right] at hg
        rw [hg]
        exact fin s l10 (by omega)
      · obtain ⟨m', e1, e2⟩ := eu_half hyx hy0 hxy
        obtain rfl : m = m' := by omega
        have e3 : x % y < y := Nat.mod_lt _ (by omega)
        refine mm_iload d_G_leastTerms_9 rfl ?_
        refine mm_ciN 200 d_G_leastTerms_11 rfl ?_
        refine mm_icmp_geN d_G_leastTerms_14 (by first | omega | exact bt8_lt31 _ _ | exact godB_lt31 _ _ _ | exact pop_lt31 _ | assumption | exact b31 (hW.gp (by omega)) | exact b31 (hW.ne (by omega)) | exact b31 (hW.op (by omega)) | exact and31 (hW.gp (by omega)) | exact and31 (hW.ne (by omega)) | exact and31 (hW.op (by omega)) | exact and31 (by assumption)) (by first | omega | exact bt8_lt31 _ _ | exact godB_lt31 _ _ _ | exact pop_lt31 _ | assumption | exact b31 (hW.gp (by omega)) | exact b31 (hW.ne (by omega)) | exact b31 (hW.op (by omega)) | exact and31 (hW.gp (by omega)) | exact and31 (hW.ne (by omega)) | exact and31 (hW.op (by omega)) | exact and31 (by assumption)) (fun c_14 => False.elim (by omega)) (fun c_14 => ?_)
        refine mm_lload d_G_leastTerms_17 rfl ?_
        refine mm_lciN 0 d_G_leastTerms_19 rfl ?_
        refine mm_lcmp d_G_leastTerms_20 ?_
        refine mm_lif_eqN d_G_leastTerms_21 (by omega) (by omega) (fun c_21 => False.elim (by omega)) (fun c_21 => ?_)
        refine mm_lload d_G_leastTerms_24 rfl ?_
        refine mm_lload d_G_leastTerms_26 rfl ?_
        refine mm_lremN d_G_leastTerms_28 (by omega) (by omega) (by omega) ?_
        refine mm_lst10 d_G_leastTerms_29 ?_
        refine mm_lload d_G_leastTerms_31 rfl ?_
        refine mm_lst5 d_G_leastTerms_33 ?_
        refine mm_lload d_G_leastTerms_35 rfl ?_
        refine mm_lst7 d_G_leastTerms_37 ?_
        refine mm_inc9N d_G_leastTerms_39 ?_
        refine mm_goto d_G_leastTerms_42 ?_
        exact ih y (x % y) (s + 1) _ (by omega) e3 e2 (by rw [Nat.gcd_comm y, ← Nat.gcd_rec, Nat.gcd_comm]; exact hg) (by omega) rfl
  have e3 : a % b < b := Nat.mod_lt _ h0
  refine mm_iload d_G_leastTerms_9 rfl ?_
  refine mm_ciN 200 d_G_leastTerms_11 rfl ?_
  refine mm_icmp_geN d_G_leastTerms_14 (by first | omega | exact bt8_lt31 _ _ | exact godB_lt31 _ _ _ | exact pop_lt31 _ | assumption | exact b31 (hW.gp (by omega)) | exact b31 (hW.ne (by omega)) | exact b31 (hW.op (by omega)) | exact and31 (hW.gp (by omega)) | exact and31 (hW.ne (by omega)) | exact and31 (hW.op (by omega)) | exact and31 (by assumption)) (by first | omega | exact bt8_lt31 _ _ | exact godB_lt31 _ _ _ | exact pop_lt31 _ | assumption | exact b31 (hW.gp (by omega)) | exact b31 (hW.ne (by omega)) | exact b31 (hW.op (by omega)) | exact and31 (hW.gp (by omega)) | exact and31 (hW.ne (by omega)) | exact and31 (hW.op (by omega)) | exact and31 (by assumption)) (fun c_14 => False.elim (by omega)) (fun c_14 => ?_)
  refine mm_lload d_G_leastTerms_17 rfl ?_
  refine mm_lciN 0 d_G_leastTerms_19 rfl ?_
  refine mm_lcmp d_G_leastTerms_20 ?_
  refine mm_lif_eqN d_G_leastTerms_21 (by omega) (by omega) (fun c_21 => False.elim (by omega)) (fun c_21 => ?_)
  refine mm_lload d_G_leastTerms_24 rfl ?_
  refine mm_lload d_G_leastTerms_26 rfl ?_
  refine mm_lremN d_G_leastTerms_28 (by omega) (by omega) (by omega) ?_
  refine mm_lst10 d_G_leastTerms_29 ?_
  refine mm_lload d_G_leastTerms_31 rfl ?_
  refine mm_lst5 d_G_leastTerms_33 ?_
  refine mm_lload d_G_leastTerms_35 rfl ?_
  refine mm_lst7 d_G_leastTerms_37 ?_
  refine mm_inc9N d_G_leastTerms_39 ?_
  refine mm_goto d_G_leastTerms_42 ?_
  exact loop 126 b (a % b) 1 _ hb e3 (Nat.lt_of_lt_of_le (Nat.mul_lt_mul'' hb (Nat.lt_trans e3 hb)) (by decide)) (by rw [Nat.gcd_comm b, ← Nat.gcd_rec, Nat.gcd_comm]) (by omega) rfl
