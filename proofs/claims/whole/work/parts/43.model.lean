/-! the model: its small methods, with a coast at hand -/
theorem inG_is' {c : Nat} {x : Int32} (hc : c < 2 ^ 30) : inG x 0 (nI c - 1) = isF c x := by
  unfold inG isF atF
  have e : (nI c - 1).toInt = (c : Int) - 1 := pk_sub_toInt (a := c) (b := 1) hc (by decide)
  have e2 : (nI c).toInt = (c : Int) := nI_toInt (by omega)
  by_cases h : x < 0
  · rw [if_pos h, if_pos h]
  · rw [if_neg h, if_neg h]
    by_cases h2 : nI c ≤ x
    · rw [if_pos (show nI c - 1 < x from Int32.lt_iff_toInt_lt.mpr (by rw [e]; have := Int32.le_iff_toInt_le.mp h2; omega)), if_pos h2]
    · rw [if_neg (show ¬ nI c - 1 < x from fun z => h2 (Int32.le_iff_toInt_le.mpr (by rw [e2]; have := Int32.lt_iff_toInt_lt.mp z; omega))), if_neg h2]
def Hd (μ : mm_M) (k : Nat) (D : mm_D) : Prop := SK μ ∧ k < 2 ∧ mm_I μ 71 22 = nI k ∧ mm_I μ 71 23 = nI (dn D) ∧ mm_I μ 71 24 = nI (dw D) ∧ CoM μ (44 * k) D ∧ WfD D
theorem sp_M_of {X : mm_X} {μ : mm_M} {q : Int32 → mm_M → Prop} {k e : Nat} (hM : SK μ) (hk2 : k < 2) (hk : mm_I μ 71 22 = nI k) (he : e < 44) (h : q (mm_I μ 77 (44 * k + e)) μ) : mm_Ci X 0 0 0 k_M_of [.ref 71, .int (nI e)] μ q := by
  show mm_T X 0 0 0 k_M_of 0 [some (.ref 71), some (.int (nI e))] [] μ _
  have e1 : (44 : Int32) * nI k + nI e = nI (44 * k + e) := by rw [← nI_add, ← pk_mul]; rfl
  refine mm_aload d_M_of_0 rfl ?_
  refine mm_getP d_M_of_1 rfl (sk_o_71 hM) (sk_p_71_6 hM) ?_
  refine mm_ci d_M_of_4 ?_
  refine mm_aload d_M_of_6 rfl ?_
  refine mm_getI d_M_of_7 rfl (sk_o_71 hM) ?_
  rw [hk]
  refine mm_imul d_M_of_10 ?_
  refine mm_iload d_M_of_11 rfl ?_
  refine mm_iadd d_M_of_12 ?_
  rw [e1]
  refine mm_iald d_M_of_13 (sk_a_77 hM) (vp_in_nI (by omega) (by decide)) ?_
  rw [nI_clamp (by omega)]
  exact mm_ri d_M_of_14 h
theorem sp_M_gods {X : mm_X} {μ : mm_M} {q : Int32 → mm_M → Prop} {k c : Nat} {D : mm_D} (hH : Hd μ k D) (hc : c < 6) (h : q (nI (dgp D c)) μ) : mm_Ci X 1 0 0 k_M_gods [.ref 71, .int (nI c)] μ q := by
  show mm_T X 1 0 0 k_M_gods 0 [some (.ref 71), some (.int (nI c))] [] μ _
  obtain ⟨hM, hk2, hk, -, -, hD, -⟩ := hH
  refine mm_aload d_M_gods_0 rfl ?_
  refine mm_ci d_M_gods_1 ?_
  refine mm_iload d_M_gods_3 rfl ?_
  refine mm_iadd d_M_gods_4 ?_
  rw [show (26 : Int32) + nI c = nI (26 + c) from nI_add 26 c]
  refine mm_v1i d_M_gods_5 (sk_o_71 hM) (sp_M_of hM hk2 hk (by omega) ?_)
  rw [(hD.2.2.2 c hc).1]
  exact mm_ri d_M_gods_8 h
def comesN (D : mm_D) (s w : Nat) : Nat := (s &&& (dop D w ^^^ 4294967295)) ||| 2 ^ w
theorem sp_M_comes {X : mm_X} {μ : mm_M} {q : Int32 → mm_M → Prop} {k s w : Nat} {D : mm_D} (hH : Hd μ k D) (hw : w < 8) (h : q (nI (comesN D s w)) μ) : mm_Ci X 1 0 0 k_M_comes [.ref 71, .int (nI s), .int (nI w)] μ q := by
  show mm_T X 1 0 0 k_M_comes 0 [some (.ref 71), some (.int (nI s)), some (.int (nI w))] [] μ _
  obtain ⟨hM, hk2, hk, -, -, hD, -⟩ := hH
  refine mm_iload d_M_comes_0 rfl ?_
  refine mm_aload d_M_comes_1 rfl ?_
  refine mm_ci d_M_comes_2 ?_
  refine mm_iload d_M_comes_4 rfl ?_
  refine mm_iadd d_M_comes_5 ?_
  rw [show (18 : Int32) + nI w = nI (18 + w) from nI_add 18 w]
  refine mm_v1i d_M_comes_6 (sk_o_71 hM) (sp_M_of hM hk2 hk (by omega) ?_)
  rw [(hD.2.2.1 w hw).2.2]
  refine mm_ci d_M_comes_9 ?_
  refine mm_ixor d_M_comes_10 ?_
  refine mm_iand d_M_comes_11 ?_
  refine mm_ci d_M_comes_12 ?_
  refine mm_iload d_M_comes_13 rfl ?_
  refine mm_ishl d_M_comes_14 ?_
  refine mm_ior d_M_comes_15 ?_
  exact mm_ri d_M_comes_16 (by rw [nb_m1, nb_xor, nb_and, nb_1s w (by omega), nb_or]; exact h)
theorem sp_M_isChild {X : mm_X} {μ : mm_M} {q : Int32 → mm_M → Prop} {k : Nat} {x : Int32} {D : mm_D} (hH : Hd μ k D) (h : q (isF (dn D) x) μ) : mm_Ci X 1 0 0 k_M_isChild [.ref 71, .int x] μ q := by
  show mm_T X 1 0 0 k_M_isChild 0 [some (.ref 71), some (.int x)] [] μ _
  obtain ⟨hM, hk2, hk, hn, -, hD, hW⟩ := hH
  refine mm_iload d_M_isChild_0 rfl ?_
  refine mm_ci d_M_isChild_1 ?_
  refine mm_aload d_M_isChild_2 rfl ?_
  refine mm_getI d_M_isChild_3 rfl (sk_o_71 hM) ?_
  rw [hn]
  refine mm_ci d_M_isChild_6 ?_
  refine mm_isub d_M_isChild_7 ?_
  refine mm_s3i d_M_isChild_8 (sp_M_in ?_)
  rw [inG_is' (by have := hW.1; omega)]
  exact mm_rz d_M_isChild_11 h (nar_b (isF_bool _ x))
theorem sp_M_isWork {X : mm_X} {μ : mm_M} {q : Int32 → mm_M → Prop} {k : Nat} {x : Int32} {D : mm_D} (hH : Hd μ k D) (h : q (isF (dw D) x) μ) : mm_Ci X 1 0 0 k_M_isWork [.ref 71, .int x] μ q := by
  show mm_T X 1 0 0 k_M_isWork 0 [some (.ref 71), some (.int x)] [] μ _
  obtain ⟨hM, hk2, hk, -, hn, hD, hW⟩ := hH
  refine mm_iload d_M_isWork_0 rfl ?_
  refine mm_ci d_M_isWork_1 ?_
  refine mm_aload d_M_isWork_2 rfl ?_
  refine mm_getI d_M_isWork_3 rfl (sk_o_71 hM) ?_
  rw [hn]
  refine mm_ci d_M_isWork_6 ?_
  refine mm_isub d_M_isWork_7 ?_
  refine mm_s3i d_M_isWork_8 (sp_M_in ?_)
  rw [inG_is' (by have := hW.2.1; omega)]
  exact mm_rz d_M_isWork_11 h (nar_b (isF_bool _ x))
theorem sp_M_greater {X : mm_X} {μ : mm_M} {q : Int32 → mm_M → Prop} {x y : Int32} (h : q (if x ≤ y then y else x) μ) : mm_Ci X 0 0 0 k_M_greater [.int x, .int y] μ q := by
  show mm_T X 0 0 0 k_M_greater 0 [some (.int x), some (.int y)] [] μ _
  refine mm_iload d_M_greater_0 rfl ?_
  refine mm_iload d_M_greater_1 rfl ?_
  refine mm_icmp_le d_M_greater_2 (fun c_2 => ?_) (fun c_2 => ?_)
  · refine mm_iload d_M_greater_9 rfl ?_
    exact mm_ri d_M_greater_10 (by first | (rw [if_pos c_2] at h; exact h) | (rw [if_neg c_2] at h; exact h))
  · refine mm_iload d_M_greater_5 rfl ?_
    refine mm_goto d_M_greater_6 ?_
    exact mm_ri d_M_greater_10 (by first | (rw [if_pos c_2] at h; exact h) | (rw [if_neg c_2] at h; exact h))
theorem sp_M_lesser {X : mm_X} {μ : mm_M} {q : Int32 → mm_M → Prop} {x y : Int32} (h : q (if y ≤ x then y else x) μ) : mm_Ci X 0 0 0 k_M_lesser [.int x, .int y] μ q := by
  show mm_T X 0 0 0 k_M_lesser 0 [some (.int x), some (.int y)] [] μ _
  refine mm_iload d_M_lesser_0 rfl ?_
  refine mm_iload d_M_lesser_1 rfl ?_
  refine mm_icmp_ge d_M_lesser_2 (fun c_2 => ?_) (fun c_2 => ?_)
  · refine mm_iload d_M_lesser_9 rfl ?_
    exact mm_ri d_M_lesser_10 (by first | (rw [if_pos c_2] at h; exact h) | (rw [if_neg c_2] at h; exact h))
  · refine mm_iload d_M_lesser_5 rfl ?_
    refine mm_goto d_M_lesser_6 ?_
    exact mm_ri d_M_lesser_10 (by first | (rw [if_pos c_2] at h; exact h) | (rw [if_neg c_2] at h; exact h))
/-- the works that need no more than s, of the first k -/
def readyK (D : mm_D) (s : Nat) : Nat → Nat
  | 0 => 0
  | k + 1 => readyK D s k ||| (if dne D k &&& (s ^^^ 4294967295) = 0 then 2 ^ k else 0)
def readyN (D : mm_D) (s : Nat) : Nat := readyK D s (dw D)
theorem nI_inj0 {a : Nat} (h : a < 2 ^ 31) : nI a = 0 ↔ a = 0 := by
  constructor
  · intro e
    rcases Nat.eq_zero_or_pos a with z | z
    · exact z
    · exact absurd e (nI_ne0 z h)
  · intro e; rw [e]; rfl
theorem and_lt256 {a b : Nat} (h : a < 256) : a &&& b < 256 := Nat.lt_of_le_of_lt Nat.and_le_left h
theorem or_lt256 {a b : Nat} (h : a < 256) (h' : b < 256) : a ||| b < 256 := Nat.or_lt_two_pow (n := 8) h h'
theorem readyK_lt (D : mm_D) (s : Nat) : ∀ k, k ≤ 8 → readyK D s k < 2 ^ k := by
  intro k
  induction k with
  | zero => intro _; exact Nat.one_pos
  | succ k ih =>
    intro hk
    have h1 := ih (by omega)
    refine Nat.or_lt_two_pow (Nat.lt_trans h1 (Nat.pow_lt_pow_succ (by decide))) ?_
    split
    · exact Nat.pow_lt_pow_succ (by decide)
    · exact Nat.two_pow_pos _
theorem sp_M_readyBy {X : mm_X} {μ : mm_M} {q : Int32 → mm_M → Prop} {k s : Nat} {D : mm_D} (hH : Hd μ k D) (h : q (nI (readyN D s)) μ) : mm_Ci X 1 0 0 k_M_readyBy [.ref 71, .int (nI s)] μ q := by
  show mm_T X 1 0 0 k_M_readyBy 0 [some (.ref 71), some (.int (nI s)), none, none] [] μ _
  obtain ⟨hM, hk2, hk, -, hn, hD, hW⟩ := hH
  refine mm_ci d_M_readyBy_0 ?_
  refine mm_ist2 d_M_readyBy_1 ?_
  refine mm_ci d_M_readyBy_2 ?_
  refine mm_ist3 d_M_readyBy_3 ?_
  have hw6 := hW.2.1
  refine mm_up (P := fun i => mm_T X 1 0 0 k_M_readyBy 4 [some (.ref 71), some (.int (nI s)), some (.int (nI (readyK D s i))), some (.int (nI i))] [] μ (fun v μ' => ∃ r, v = some (.int r) ∧ q r μ')) (dw D) ?_ (fun i hi ih => ?_)
  · refine mm_iload d_M_readyBy_4 rfl ?_
    refine mm_aload d_M_readyBy_5 rfl ?_
    refine mm_getI d_M_readyBy_6 rfl (sk_o_71 hM) ?_
    rw [hn]
    refine mm_icmp_ge d_M_readyBy_9 (fun _ => ?_) (fun c => absurd (Int32.le_refl _) c)
    refine mm_iload d_M_readyBy_43 rfl ?_
    exact mm_ri d_M_readyBy_44 h
  · refine mm_iload d_M_readyBy_4 rfl ?_
    refine mm_aload d_M_readyBy_5 rfl ?_
    refine mm_getI d_M_readyBy_6 rfl (sk_o_71 hM) ?_
    rw [hn]
    refine mm_icmp_ge d_M_readyBy_9 (fun c => absurd c (nI_ge hi (by omega))) (fun _ => ?_)
    have hne : (hD.2.2.2 i (by omega)).2.2 = (hD.2.2.2 i (by omega)).2.2 := rfl
    have hlt : dne D i &&& (s ^^^ 4294967295) < 2 ^ 31 := Nat.lt_of_lt_of_le (and_lt256 (hW.2.2.2.1 i (by omega)).2.2) (by decide)
    refine mm_iload d_M_readyBy_12 rfl ?_
    refine mm_aload d_M_readyBy_13 rfl ?_
    refine mm_ci d_M_readyBy_14 ?_
    refine mm_iload d_M_readyBy_16 rfl ?_
    refine mm_iadd d_M_readyBy_17 ?_
    rw [show (38 : Int32) + nI i = nI (38 + i) from nI_add 38 i]
    refine mm_v1i d_M_readyBy_18 (sk_o_71 hM) (sp_M_of hM hk2 hk (by omega) ?_)
    rw [(hD.2.2.2 i (by omega)).2.2]
    refine mm_iload d_M_readyBy_21 rfl ?_
    refine mm_ci d_M_readyBy_22 ?_
    refine mm_ixor d_M_readyBy_23 ?_
    refine mm_iand d_M_readyBy_24 ?_
    rw [nb_m1, nb_xor, nb_and]
    refine mm_if_ne d_M_readyBy_25 (fun c_25 => ?_) (fun c_25 => ?_)
    · refine mm_ci d_M_readyBy_34 ?_
      refine mm_ior d_M_readyBy_35 ?_
      refine mm_ist2 d_M_readyBy_36 ?_
      refine mm_inc3 d_M_readyBy_37 ?_
      refine mm_goto d_M_readyBy_40 ?_
      rw [nI_1]
      first
        | (have e : ¬ dne D i &&& (s ^^^ 4294967295) = 0 := fun z => c_25 ((nI_inj0 hlt).mpr z)
           have z := ih
           simp only [readyK, if_neg e] at z
           rw [show (0 : Int32) = nI 0 from rfl, nb_or]
           exact z)
        | (have e := (nI_inj0 hlt).mp (Decidable.not_not.mp c_25)
           have z := ih
           simp only [readyK, if_pos e] at z
           rw [nb_1s i (by omega), nb_or]
           exact z)
    · refine mm_ci d_M_readyBy_28 ?_
      refine mm_iload d_M_readyBy_29 rfl ?_
      refine mm_ishl d_M_readyBy_30 ?_
      refine mm_goto d_M_readyBy_31 ?_
      refine mm_ior d_M_readyBy_35 ?_
      refine mm_ist2 d_M_readyBy_36 ?_
      refine mm_inc3 d_M_readyBy_37 ?_
      refine mm_goto d_M_readyBy_40 ?_
      rw [nI_1]
      first
        | (have e : ¬ dne D i &&& (s ^^^ 4294967295) = 0 := fun z => c_25 ((nI_inj0 hlt).mpr z)
           have z := ih
           simp only [readyK, if_neg e] at z
           rw [show (0 : Int32) = nI 0 from rfl, nb_or]
           exact z)
        | (have e := (nI_inj0 hlt).mp (Decidable.not_not.mp c_25)
           have z := ih
           simp only [readyK, if_pos e] at z
           rw [nb_1s i (by omega), nb_or]
           exact z)
/-- what works of s are worth, of the first k -/
def worthK (D : mm_D) (s : Nat) : Nat → Nat
  | 0 => 0
  | k + 1 => worthK D s k + (if bt8 s k = 0 then 0 else dwo D k)
def worthN (D : mm_D) (s : Nat) : Nat := worthK D s (dw D)
theorem nI_bt0 {s k : Nat} : nI (bt8 s k) = 0 ↔ bt8 s k = 0 := nI_inj0 (by have := bt8_01 s k; omega)
theorem sp_M_worthOf {X : mm_X} {μ : mm_M} {q : Int32 → mm_M → Prop} {k s : Nat} {D : mm_D} (hH : Hd μ k D) (hs : s < 256) (h : q (nI (worthN D s)) μ) : mm_Ci X 1 0 0 k_M_worthOf [.ref 71, .int (nI s)] μ q := by
  show mm_T X 1 0 0 k_M_worthOf 0 [some (.ref 71), some (.int (nI s)), none, none] [] μ _
  obtain ⟨hM, hk2, hk, -, hn, hD, hW⟩ := hH
  refine mm_ci d_M_worthOf_0 ?_
  refine mm_ist2 d_M_worthOf_1 ?_
  refine mm_ci d_M_worthOf_2 ?_
  refine mm_ist3 d_M_worthOf_3 ?_
  have hw6 := hW.2.1
  refine mm_up (P := fun i => mm_T X 1 0 0 k_M_worthOf 4 [some (.ref 71), some (.int (nI s)), some (.int (nI (worthK D s i))), some (.int (nI i))] [] μ (fun v μ' => ∃ r, v = some (.int r) ∧ q r μ')) (dw D) ?_ (fun i hi ih => ?_)
  · refine mm_iload d_M_worthOf_4 rfl ?_
    refine mm_aload d_M_worthOf_5 rfl ?_
    refine mm_getI d_M_worthOf_6 rfl (sk_o_71 hM) ?_
    rw [hn]
    refine mm_icmp_ge d_M_worthOf_9 (fun _ => ?_) (fun c => absurd (Int32.le_refl _) c)
    refine mm_iload d_M_worthOf_41 rfl ?_
    exact mm_ri d_M_worthOf_42 h
  · refine mm_iload d_M_worthOf_4 rfl ?_
    refine mm_aload d_M_worthOf_5 rfl ?_
    refine mm_getI d_M_worthOf_6 rfl (sk_o_71 hM) ?_
    rw [hn]
    refine mm_icmp_ge d_M_worthOf_9 (fun c => absurd c (nI_ge hi (by omega))) (fun _ => ?_)
    refine mm_iload d_M_worthOf_12 rfl ?_
    refine mm_iload d_M_worthOf_13 rfl ?_
    refine mm_iload d_M_worthOf_14 rfl ?_
    refine mm_s2i d_M_worthOf_15 (sp_M_has hs (by omega) ?_)
    refine mm_if_eq d_M_worthOf_18 (fun c_18 => ?_) (fun c_18 => ?_)
    · refine mm_ci d_M_worthOf_32 ?_
      refine mm_iadd d_M_worthOf_33 ?_
      refine mm_ist2 d_M_worthOf_34 ?_
      refine mm_inc3 d_M_worthOf_35 ?_
      refine mm_goto d_M_worthOf_38 ?_
      rw [nI_1]
      first
        | (have z := ih
           simp only [worthK, if_pos (nI_bt0.mp c_18)] at z
           rw [show (0 : Int32) = nI 0 from rfl, nI_add]
           exact z)
        | (have z := ih
           simp only [worthK, if_neg (fun e => c_18 (nI_bt0.mpr e))] at z
           rw [nI_add]
           exact z)
    · refine mm_aload d_M_worthOf_21 rfl ?_
      refine mm_ci d_M_worthOf_22 ?_
      refine mm_iload d_M_worthOf_24 rfl ?_
      refine mm_iadd d_M_worthOf_25 ?_
      rw [show (32 : Int32) + nI i = nI (32 + i) from nI_add 32 i]
      refine mm_v1i d_M_worthOf_26 (sk_o_71 hM) (sp_M_of hM hk2 hk (by omega) ?_)
      rw [(hD.2.2.2 i (by omega)).2.1]
      refine mm_goto d_M_worthOf_29 ?_
      refine mm_iadd d_M_worthOf_33 ?_
      refine mm_ist2 d_M_worthOf_34 ?_
      refine mm_inc3 d_M_worthOf_35 ?_
      refine mm_goto d_M_worthOf_38 ?_
      rw [nI_1]
      first
        | (have z := ih
           simp only [worthK, if_pos (nI_bt0.mp c_18)] at z
           rw [show (0 : Int32) = nI 0 from rfl, nI_add]
           exact z)
        | (have z := ih
           simp only [worthK, if_neg (fun e => c_18 (nI_bt0.mpr e))] at z
           rw [nI_add]
           exact z)
theorem sp_M_kth {X : mm_X} {μ : mm_M} {q : Int32 → mm_M → Prop} {s j : Nat} {w : Nat} (hM : SK μ) (hs : s < 256) (hw : w < 8) (hb : bt8 s w = 1) (hj : popK s w = j) (h : q (nI w) μ) : mm_Ci X 1 0 0 k_M_kth [.ref 71, .int (nI s), .int (nI j)] μ q := by
  show mm_T X 1 0 0 k_M_kth 0 [some (.ref 71), some (.int (nI s)), some (.int (nI j)), none, none] [] μ _
  refine mm_ci d_M_kth_0 ?_
  refine mm_ist3 d_M_kth_1 ?_
  refine mm_ci d_M_kth_2 ?_
  refine mm_ist4 d_M_kth_3 ?_
  have mono : ∀ a b, a ≤ b → popK s a ≤ popK s b := by
    intro a b hab
    induction b with
    | zero => rw [show a = 0 by omega]; exact Nat.le_refl _
    | succ b ih =>
      rcases Nat.lt_or_ge a (b + 1) with z | z
      · exact Nat.le_trans (ih (by omega)) (Nat.le_add_right _ _)
      · rw [show a = b + 1 by omega]; exact Nat.le_refl _
  have main : mm_T X 1 0 0 k_M_kth 5 [some (.ref 71), some (.int (nI s)), some (.int (nI j)), some (.int (nI (popK s w))), some (.int (nI w))] [] μ (fun v μ' => ∃ r, v = some (.int r) ∧ q r μ') := by
    refine mm_iload d_M_kth_5 rfl ?_
    refine mm_ci d_M_kth_7 ?_
    refine mm_icmp_ge d_M_kth_9 (fun c_9 => absurd c_9 (nI_ge hw (by decide))) (fun c_9 => ?_)
    refine mm_iload d_M_kth_12 rfl ?_
    refine mm_iload d_M_kth_13 rfl ?_
    refine mm_s2i d_M_kth_15 (sp_M_has hs hw ?_)
    rw [hb]
    refine mm_if_eq d_M_kth_18 (fun c_18 => absurd c_18 (by decide)) (fun c_18 => ?_)
    refine mm_iload d_M_kth_21 rfl ?_
    refine mm_iload d_M_kth_22 rfl ?_
    refine mm_icmp_ne d_M_kth_23 (fun c_23 => absurd c_23 (fun z => z (by rw [hj]))) (fun c_23 => ?_)
    refine mm_iload d_M_kth_26 rfl ?_
    exact mm_ri d_M_kth_28 h
  refine mm_up (P := fun i => mm_T X 1 0 0 k_M_kth 5 [some (.ref 71), some (.int (nI s)), some (.int (nI j)), some (.int (nI (popK s i))), some (.int (nI i))] [] μ (fun v μ' => ∃ r, v = some (.int r) ∧ q r μ')) w main (fun i hi ih => ?_)
  have hlt : bt8 s i = 1 → popK s i < j := fun e => by
    have := mono (i + 1) w hi
    simp only [popK, e] at this
    omega
  have hpi : popK s i ≤ 8 := Nat.le_trans (popK_le s i) (by omega)
  refine mm_iload d_M_kth_5 rfl ?_
  refine mm_ci d_M_kth_7 ?_
  refine mm_icmp_ge d_M_kth_9 (fun c_9 => absurd c_9 (nI_ge (a := i) (b := 8) (by omega) (by decide))) (fun c_9 => ?_)
  refine mm_iload d_M_kth_12 rfl ?_
  refine mm_iload d_M_kth_13 rfl ?_
  refine mm_s2i d_M_kth_15 (sp_M_has hs (by omega) ?_)
  refine mm_if_eq d_M_kth_18 (fun c_18 => ?_) (fun c_18 => ?_)
  · refine mm_inc4 d_M_kth_32 ?_
    refine mm_goto d_M_kth_35 ?_
    rw [nI_1]
    first
      | (have z := ih
         simp only [popK, nI_bt0.mp c_18, Nat.add_zero] at z
         exact z)
      | (have e1 : bt8 s i = 1 := (bt8_01 s i).resolve_left (fun e => c_18 (nI_bt0.mpr e))
         have z := ih
         simp only [popK, e1] at z
         rw [nI_1]
         exact z)
  · refine mm_iload d_M_kth_21 rfl ?_
    refine mm_iload d_M_kth_22 rfl ?_
    refine mm_icmp_ne d_M_kth_23 (fun c_23 => ?_) (fun c_23 => absurd (fun z => by have e1 : bt8 s i = 1 := (bt8_01 s i).resolve_left (fun e => c_18 (nI_bt0.mpr e)); have e2 := hlt e1; have e3 := (nI_eq (by omega) (by have := popK_le s w; omega)).mp z; omega) c_23)
    refine mm_inc3 d_M_kth_29 ?_
    refine mm_inc4 d_M_kth_32 ?_
    refine mm_goto d_M_kth_35 ?_
    rw [nI_1]
    first
      | (have z := ih
         simp only [popK, nI_bt0.mp c_18, Nat.add_zero] at z
         exact z)
      | (have e1 : bt8 s i = 1 := (bt8_01 s i).resolve_left (fun e => c_18 (nI_bt0.mpr e))
         have z := ih
         simp only [popK, e1] at z
         rw [nI_1]
         exact z)
