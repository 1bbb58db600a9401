/-! pairs: text, the class -/
def slF (c : Nat) (y : Int32) : Int32 := if y = -1 then (if c < 2 then nI c else -2) else match atF c y with | none => -2 | some _ => y
theorem slF_i {c i : Nat} (hc : c ≤ 2) (hi : i < c) : slF c (nI i) = nI i := by
  unfold slF
  rw [if_neg (fun z => nI_pos (n := i) (by omega) (by rw [z]; decide)), atF_at (by omega) hi]
theorem inF_bad {y : Int32} (h : y < nI 0 ∨ nI 2 < y) : inF y 0 3 = 0 := by
  unfold inF
  rcases h with z | z
  · exact if_pos z
  · by_cases a : y < 0
    · exact if_pos a
    · rw [if_neg a, if_pos (i32_succ_le z)]
theorem sp_G_isSortT {X : mm_X} {μ : mm_M} {q : Int32 → mm_M → Prop} {s : Nat} (hs : s < 3) (h : q (nI 1) μ) : mm_Ci X 0 0 0 k_G_isSort [.int (nI s)] μ q := sp_G_isSort (by rw [show (3 : Int32) = nI 3 from rfl, inF_nI (by omega) (by decide), if_pos hs]; exact h)
theorem sp_To_slotForB {X : mm_X} {μ : mm_M} {q : Int32 → mm_M → Prop} {y1 y : Int32} (hz : y1 < nI 0 ∨ nI 2 < y1) (h : q (-2) μ) : mm_Ci X 1 0 0 k_To_slotFor [.ref 1, .int y1, .int y] μ q := by
  show mm_T X 1 0 0 k_To_slotFor 0 [some (.ref 1), some (.int y1), some (.int y)] [] μ _
  refine mm_iload d_To_slotFor_0 rfl ?_
  refine mm_s1i d_To_slotFor_1 (sp_G_isSort ?_)
  rw [inF_bad hz]
  refine mm_if_ne d_To_slotFor_4 (fun c_4 => False.elim (c_4 rfl)) (fun c_4 => ?_)
  refine mm_ci d_To_slotFor_7 ?_
  exact mm_ri d_To_slotFor_9 h
theorem sp_To_slotForX {X : mm_X} {μ : mm_M} {q : Int32 → mm_M → Prop} {s c : Nat} {y : Int32} (hM : SK μ) (hs : s < 3) (hc : mm_I μ 34 s = nI c) (hc2 : c ≤ 2) (h : q (slF c y) μ) : mm_Ci X 1 0 0 k_To_slotFor [.ref 1, .int (nI s), .int y] μ q := by
  show mm_T X 1 0 0 k_To_slotFor 0 [some (.ref 1), some (.int (nI s)), some (.int y)] [] μ _
  unfold slF at h
  by_cases hy : y = -1
  · subst hy
    rw [if_pos rfl] at h
    by_cases hc3 : c < 2
    · rw [if_pos hc3] at h
      refine mm_iload d_To_slotFor_0 rfl ?_
      refine mm_s1i d_To_slotFor_1 (sp_G_isSortT hs ?_)
      refine mm_if_neN d_To_slotFor_4 (by first | omega | exact ite01_lt | exact bt8_lt31 _ _ | exact godB_lt31 _ _ _ | exact pop_lt31 _ | assumption | exact b31 (hW.gp (by omega)) | exact b31 (hW.ne (by omega)) | exact b31 (hW.op (by omega)) | exact and31 (hW.gp (by omega)) | exact and31 (hW.ne (by omega)) | exact and31 (hW.op (by omega)) | exact and31 (by assumption) | exact and31r (hW.ne (by omega)) | exact and31r (hW.gp (by omega)) | exact and31r (by decide)) (fun c_4 => ?_) (fun c_4 => False.elim (by omega))
      refine mm_iload d_To_slotFor_10 rfl ?_
      refine mm_ci d_To_slotFor_11 ?_
      refine mm_icmp_neS d_To_slotFor_12 ?_
      refine mm_aload d_To_slotFor_15 rfl ?_
      refine mm_getP d_To_slotFor_16 rfl (sk_o_1 hM) (sk_p_1_4 hM) ?_
      refine mm_iload d_To_slotFor_19 rfl ?_
      refine mm_ialdN d_To_slotFor_20 (sk_a_34 hM) (by omega) (by decide) hc ?_
      refine mm_ciN 2 d_To_slotFor_21 rfl ?_
      refine mm_icmp_geN d_To_slotFor_22 (by first | omega | exact ite01_lt | exact bt8_lt31 _ _ | exact godB_lt31 _ _ _ | exact pop_lt31 _ | assumption | exact b31 (hW.gp (by omega)) | exact b31 (hW.ne (by omega)) | exact b31 (hW.op (by omega)) | exact and31 (hW.gp (by omega)) | exact and31 (hW.ne (by omega)) | exact and31 (hW.op (by omega)) | exact and31 (by assumption) | exact and31r (hW.ne (by omega)) | exact and31r (hW.gp (by omega)) | exact and31r (by decide)) (by first | omega | exact ite01_lt | exact bt8_lt31 _ _ | exact godB_lt31 _ _ _ | exact pop_lt31 _ | assumption | exact b31 (hW.gp (by omega)) | exact b31 (hW.ne (by omega)) | exact b31 (hW.op (by omega)) | exact and31 (hW.gp (by omega)) | exact and31 (hW.ne (by omega)) | exact and31 (hW.op (by omega)) | exact and31 (by assumption) | exact and31r (hW.ne (by omega)) | exact and31r (hW.gp (by omega)) | exact and31r (by decide)) (fun c_22 => False.elim (by omega)) (fun c_22 => ?_)
      refine mm_aload d_To_slotFor_25 rfl ?_
      refine mm_getP d_To_slotFor_26 rfl (sk_o_1 hM) (sk_p_1_4 hM) ?_
      refine mm_iload d_To_slotFor_29 rfl ?_
      refine mm_ialdN d_To_slotFor_30 (sk_a_34 hM) (by omega) (by decide) hc ?_
      refine mm_goto d_To_slotFor_31 ?_
      exact mm_ri d_To_slotFor_36 h
    · rw [if_neg hc3] at h
      refine mm_iload d_To_slotFor_0 rfl ?_
      refine mm_s1i d_To_slotFor_1 (sp_G_isSortT hs ?_)
      refine mm_if_neN d_To_slotFor_4 (by first | omega | exact ite01_lt | exact bt8_lt31 _ _ | exact godB_lt31 _ _ _ | exact pop_lt31 _ | assumption | exact b31 (hW.gp (by omega)) | exact b31 (hW.ne (by omega)) | exact b31 (hW.op (by omega)) | exact and31 (hW.gp (by omega)) | exact and31 (hW.ne (by omega)) | exact and31 (hW.op (by omega)) | exact and31 (by assumption) | exact and31r (hW.ne (by omega)) | exact and31r (hW.gp (by omega)) | exact and31r (by decide)) (fun c_4 => ?_) (fun c_4 => False.elim (by omega))
      refine mm_iload d_To_slotFor_10 rfl ?_
      refine mm_ci d_To_slotFor_11 ?_
      refine mm_icmp_neS d_To_slotFor_12 ?_
      refine mm_aload d_To_slotFor_15 rfl ?_
      refine mm_getP d_To_slotFor_16 rfl (sk_o_1 hM) (sk_p_1_4 hM) ?_
      refine mm_iload d_To_slotFor_19 rfl ?_
      refine mm_ialdN d_To_slotFor_20 (sk_a_34 hM) (by omega) (by decide) hc ?_
      refine mm_ciN 2 d_To_slotFor_21 rfl ?_
      refine mm_icmp_geN d_To_slotFor_22 (by first | omega | exact ite01_lt | exact bt8_lt31 _ _ | exact godB_lt31 _ _ _ | exact pop_lt31 _ | assumption | exact b31 (hW.gp (by omega)) | exact b31 (hW.ne (by omega)) | exact b31 (hW.op (by omega)) | exact and31 (hW.gp (by omega)) | exact and31 (hW.ne (by omega)) | exact and31 (hW.op (by omega)) | exact and31 (by assumption) | exact and31r (hW.ne (by omega)) | exact and31r (hW.gp (by omega)) | exact and31r (by decide)) (by first | omega | exact ite01_lt | exact bt8_lt31 _ _ | exact godB_lt31 _ _ _ | exact pop_lt31 _ | assumption | exact b31 (hW.gp (by omega)) | exact b31 (hW.ne (by omega)) | exact b31 (hW.op (by omega)) | exact and31 (hW.gp (by omega)) | exact and31 (hW.ne (by omega)) | exact and31 (hW.op (by omega)) | exact and31 (by assumption) | exact and31r (hW.ne (by omega)) | exact and31r (hW.gp (by omega)) | exact and31r (by decide)) (fun c_22 => ?_) (fun c_22 => False.elim (by omega))
      refine mm_ci d_To_slotFor_34 ?_
      exact mm_ri d_To_slotFor_36 h
  · rw [if_neg hy] at h
    rcases atF_or (c := c) (by omega) y with hz | ⟨i, hi, rfl⟩
    · rw [hz] at h
      have hz' : y < 0 ∨ nI c ≤ y := by
        unfold atF at hz
        by_cases a : y < 0
        · exact Or.inl a
        · rw [if_neg a] at hz
          by_cases b : nI c ≤ y
          · exact Or.inr b
          · rw [if_neg b] at hz; cases hz
      refine mm_iload d_To_slotFor_0 rfl ?_
      refine mm_s1i d_To_slotFor_1 (sp_G_isSortT hs ?_)
      refine mm_if_neN d_To_slotFor_4 (by first | omega | exact ite01_lt | exact bt8_lt31 _ _ | exact godB_lt31 _ _ _ | exact pop_lt31 _ | assumption | exact b31 (hW.gp (by omega)) | exact b31 (hW.ne (by omega)) | exact b31 (hW.op (by omega)) | exact and31 (hW.gp (by omega)) | exact and31 (hW.ne (by omega)) | exact and31 (hW.op (by omega)) | exact and31 (by assumption) | exact and31r (hW.ne (by omega)) | exact and31r (hW.gp (by omega)) | exact and31r (by decide)) (fun c_4 => ?_) (fun c_4 => False.elim (by omega))
      refine mm_iload d_To_slotFor_10 rfl ?_
      refine mm_ci d_To_slotFor_11 ?_
      refine mm_icmp_ne d_To_slotFor_12 (fun c_12 => ?_) (fun c_12 => False.elim (c_12 hy))
      refine mm_iload d_To_slotFor_37 rfl ?_
      refine mm_if_lt d_To_slotFor_38 (fun c_38 => ?_) (fun c_38 => ?_)
      · refine mm_ci d_To_slotFor_55 ?_
        exact mm_ri d_To_slotFor_57 h
      · refine mm_iload d_To_slotFor_41 rfl ?_
        refine mm_aload d_To_slotFor_42 rfl ?_
        refine mm_getP d_To_slotFor_43 rfl (sk_o_1 hM) (sk_p_1_4 hM) ?_
        refine mm_iload d_To_slotFor_46 rfl ?_
        refine mm_ialdN d_To_slotFor_47 (sk_a_34 hM) (by omega) (by decide) hc ?_
        refine mm_icmp_ge d_To_slotFor_48 (fun c_48 => ?_) (fun c_48 => False.elim (hz'.elim c_38 c_48))
        refine mm_ci d_To_slotFor_55 ?_
        exact mm_ri d_To_slotFor_57 h
    · rw [atF_at (by omega) hi] at h
      refine mm_iload d_To_slotFor_0 rfl ?_
      refine mm_s1i d_To_slotFor_1 (sp_G_isSortT hs ?_)
      refine mm_if_neN d_To_slotFor_4 (by first | omega | exact ite01_lt | exact bt8_lt31 _ _ | exact godB_lt31 _ _ _ | exact pop_lt31 _ | assumption | exact b31 (hW.gp (by omega)) | exact b31 (hW.ne (by omega)) | exact b31 (hW.op (by omega)) | exact and31 (hW.gp (by omega)) | exact and31 (hW.ne (by omega)) | exact and31 (hW.op (by omega)) | exact and31 (by assumption) | exact and31r (hW.ne (by omega)) | exact and31r (hW.gp (by omega)) | exact and31r (by decide)) (fun c_4 => ?_) (fun c_4 => False.elim (by omega))
      refine mm_iload d_To_slotFor_10 rfl ?_
      refine mm_ci d_To_slotFor_11 ?_
      refine mm_icmp_neM1 d_To_slotFor_12 (by first | omega | exact ite01_lt | exact bt8_lt31 _ _ | exact godB_lt31 _ _ _ | exact pop_lt31 _ | assumption | exact b31 (hW.gp (by omega)) | exact b31 (hW.ne (by omega)) | exact b31 (hW.op (by omega)) | exact and31 (hW.gp (by omega)) | exact and31 (hW.ne (by omega)) | exact and31 (hW.op (by omega)) | exact and31 (by assumption) | exact and31r (hW.ne (by omega)) | exact and31r (hW.gp (by omega)) | exact and31r (by decide)) ?_
      refine mm_iload d_To_slotFor_37 rfl ?_
      refine mm_if_ltN d_To_slotFor_38 (by first | omega | exact ite01_lt | exact bt8_lt31 _ _ | exact godB_lt31 _ _ _ | exact pop_lt31 _ | assumption | exact b31 (hW.gp (by omega)) | exact b31 (hW.ne (by omega)) | exact b31 (hW.op (by omega)) | exact and31 (hW.gp (by omega)) | exact and31 (hW.ne (by omega)) | exact and31 (hW.op (by omega)) | exact and31 (by assumption) | exact and31r (hW.ne (by omega)) | exact and31r (hW.gp (by omega)) | exact and31r (by decide)) ?_
      refine mm_iload d_To_slotFor_41 rfl ?_
      refine mm_aload d_To_slotFor_42 rfl ?_
      refine mm_getP d_To_slotFor_43 rfl (sk_o_1 hM) (sk_p_1_4 hM) ?_
      refine mm_iload d_To_slotFor_46 rfl ?_
      refine mm_ialdN d_To_slotFor_47 (sk_a_34 hM) (by omega) (by decide) hc ?_
      refine mm_icmp_geN d_To_slotFor_48 (by first | omega | exact ite01_lt | exact bt8_lt31 _ _ | exact godB_lt31 _ _ _ | exact pop_lt31 _ | assumption | exact b31 (hW.gp (by omega)) | exact b31 (hW.ne (by omega)) | exact b31 (hW.op (by omega)) | exact and31 (hW.gp (by omega)) | exact and31 (hW.ne (by omega)) | exact and31 (hW.op (by omega)) | exact and31 (by assumption) | exact and31r (hW.ne (by omega)) | exact and31r (hW.gp (by omega)) | exact and31r (by decide)) (by first | omega | exact ite01_lt | exact bt8_lt31 _ _ | exact godB_lt31 _ _ _ | exact pop_lt31 _ | assumption | exact b31 (hW.gp (by omega)) | exact b31 (hW.ne (by omega)) | exact b31 (hW.op (by omega)) | exact and31 (hW.gp (by omega)) | exact and31 (hW.ne (by omega)) | exact and31 (hW.op (by omega)) | exact and31 (by assumption) | exact and31r (hW.ne (by omega)) | exact and31r (hW.gp (by omega)) | exact and31r (by decide)) (fun c_48 => False.elim (by omega)) (fun c_48 => ?_)
      refine mm_iload d_To_slotFor_51 rfl ?_
      refine mm_goto d_To_slotFor_52 ?_
      exact mm_ri d_To_slotFor_57 h
/-- what the class keeps of a text -/
def KpA (s c i : Nat) (μ μ1 : mm_M) : Prop := (s = 0 → ∃ ν, Fr (scR (4 + 7 * i) 6) μ ν ∧ mm_P ν = mm_P μ ∧ CyC μ 37 ν (4 + 7 * i) ∧ μ1 = mm_sI ν 34 0 (nI (max c (i + 1)))) ∧ (s = 1 → ∃ ν, Fr (scR (19 + 4 * i) 3) μ ν ∧ mm_P ν = mm_P μ ∧ CyY μ 44 ν (19 + 4 * i) ∧ μ1 = mm_sI ν 34 1 (nI (max c (i + 1)))) ∧ (s = 2 → ∃ ν, Fr (scR (28 + 3 * i) 2) μ ν ∧ mm_P ν = mm_P μ ∧ CyL μ 48 ν (28 + 3 * i) ∧ μ1 = mm_sI ν 34 2 (nI (max c (i + 1))))
theorem sp_To_keep {X : mm_X} {μ : mm_M} {q : mm_M → Prop} {s c i : Nat} (hM : SK μ) (hs : s < 3) (hi : i < 2) (hc : mm_I μ 34 s = nI c) (hc2 : c ≤ 2) (h : ∀ μ1, KpA s c i μ μ1 → q μ1) : mm_Cv X 2 0 0 k_To_keep [.ref 1, .ref 36, .int (nI s), .int (nI i)] μ q := by
  show mm_T X 2 0 0 k_To_keep 0 [some (.ref 1), some (.ref 36), some (.int (nI s)), some (.int (nI i))] [] μ _
  have h3 : s = 0 ∨ s = 1 ∨ s = 2 := by omega
  rcases h3 with rfl | rfl | rfl
  · refine mm_iload d_To_keep_0 rfl ?_
    refine mm_s1i d_To_keep_1 (sp_G_isSortT hs ?_)
    refine mm_if_eqN d_To_keep_4 (by first | omega | exact ite01_lt | exact bt8_lt31 _ _ | exact godB_lt31 _ _ _ | exact pop_lt31 _ | assumption | exact b31 (hW.gp (by omega)) | exact b31 (hW.ne (by omega)) | exact b31 (hW.op (by omega)) | exact and31 (hW.gp (by omega)) | exact and31 (hW.ne (by omega)) | exact and31 (hW.op (by omega)) | exact and31 (by assumption) | exact and31r (hW.ne (by omega)) | exact and31r (hW.gp (by omega)) | exact and31r (by decide)) (fun c_4 => False.elim (by omega)) (fun c_4 => ?_)
    refine mm_iload d_To_keep_7 rfl ?_
    refine mm_if_ltN d_To_keep_8 (by first | omega | exact ite01_lt | exact bt8_lt31 _ _ | exact godB_lt31 _ _ _ | exact pop_lt31 _ | assumption | exact b31 (hW.gp (by omega)) | exact b31 (hW.ne (by omega)) | exact b31 (hW.op (by omega)) | exact and31 (hW.gp (by omega)) | exact and31 (hW.ne (by omega)) | exact and31 (hW.op (by omega)) | exact and31 (by assumption) | exact and31r (hW.ne (by omega)) | exact and31r (hW.gp (by omega)) | exact and31r (by decide)) ?_
    refine mm_iload d_To_keep_11 rfl ?_
    refine mm_ciN 2 d_To_keep_12 rfl ?_
    refine mm_icmp_ltN d_To_keep_13 (by first | omega | exact ite01_lt | exact bt8_lt31 _ _ | exact godB_lt31 _ _ _ | exact pop_lt31 _ | assumption | exact b31 (hW.gp (by omega)) | exact b31 (hW.ne (by omega)) | exact b31 (hW.op (by omega)) | exact and31 (hW.gp (by omega)) | exact and31 (hW.ne (by omega)) | exact and31 (hW.op (by omega)) | exact and31 (by assumption) | exact and31r (hW.ne (by omega)) | exact and31r (hW.gp (by omega)) | exact and31r (by decide)) (by first | omega | exact ite01_lt | exact bt8_lt31 _ _ | exact godB_lt31 _ _ _ | exact pop_lt31 _ | assumption | exact b31 (hW.gp (by omega)) | exact b31 (hW.ne (by omega)) | exact b31 (hW.op (by omega)) | exact and31 (hW.gp (by omega)) | exact and31 (hW.ne (by omega)) | exact and31 (hW.op (by omega)) | exact and31 (by assumption) | exact and31r (hW.ne (by omega)) | exact and31r (hW.gp (by omega)) | exact and31r (by decide)) (fun c_13 => ?_) (fun c_13 => False.elim (by omega))
    refine mm_iload d_To_keep_17 rfl ?_
    refine mm_if_neN d_To_keep_18 (by first | omega | exact ite01_lt | exact bt8_lt31 _ _ | exact godB_lt31 _ _ _ | exact pop_lt31 _ | assumption | exact b31 (hW.gp (by omega)) | exact b31 (hW.ne (by omega)) | exact b31 (hW.op (by omega)) | exact and31 (hW.gp (by omega)) | exact and31 (hW.ne (by omega)) | exact and31 (hW.op (by omega)) | exact and31 (by assumption) | exact and31r (hW.ne (by omega)) | exact and31r (hW.gp (by omega)) | exact and31r (by decide)) (fun c_18 => False.elim (by omega)) (fun c_18 => ?_)
    refine mm_aload d_To_keep_21 rfl ?_
    refine mm_getP d_To_keep_22 rfl (sk_o_1 hM) (sk_p_1_1 hM) ?_
    refine mm_iload d_To_keep_25 rfl ?_
    refine mm_aaldX d_To_keep_26 (t := 0) (sk_a_3 hM) (by omega) (by decide) ((sk_t hM).pc hi) ?_
    refine mm_aload d_To_keep_27 rfl ?_
    refine mm_getP d_To_keep_28 rfl (sk_o_36 hM) (sk_p_36_0 hM) ?_
    refine mm_v1v d_To_keep_31 ((sk_t hM).co hi).1 (sp_Co_copyFrom (sk_c_37 hM) ((sk_t hM).co hi) (by omega) (fun ν f p cy => ?_))
    have hM := f.2.2.2 hM
    have hc : mm_I ν 34 0 = nI c := by rw [(f.2.2.1 34 (scR_f (by omega))).1]; exact hc
    refine mm_goto d_To_keep_34 ?_
    refine mm_aload d_To_keep_71 rfl ?_
    refine mm_getP d_To_keep_72 rfl (sk_o_1 hM) (sk_p_1_4 hM) ?_
    refine mm_iload d_To_keep_75 rfl ?_
    refine mm_aload d_To_keep_76 rfl ?_
    refine mm_getP d_To_keep_77 rfl (sk_o_1 hM) (sk_p_1_4 hM) ?_
    refine mm_iload d_To_keep_80 rfl ?_
    refine mm_ialdN d_To_keep_81 (sk_a_34 hM) (by omega) (by decide) hc ?_
    refine mm_iload d_To_keep_82 rfl ?_
    refine mm_ciN 1 d_To_keep_83 rfl ?_
    refine mm_iaddN d_To_keep_84 ?_
    refine mm_mmaxN d_To_keep_85 (by first | omega | exact ite01_lt | exact bt8_lt31 _ _ | exact godB_lt31 _ _ _ | exact pop_lt31 _ | assumption | exact b31 (hW.gp (by omega)) | exact b31 (hW.ne (by omega)) | exact b31 (hW.op (by omega)) | exact and31 (hW.gp (by omega)) | exact and31 (hW.ne (by omega)) | exact and31 (hW.op (by omega)) | exact and31 (by assumption) | exact and31r (hW.ne (by omega)) | exact and31r (hW.gp (by omega)) | exact and31r (by decide)) (by first | omega | exact ite01_lt | exact bt8_lt31 _ _ | exact godB_lt31 _ _ _ | exact pop_lt31 _ | assumption | exact b31 (hW.gp (by omega)) | exact b31 (hW.ne (by omega)) | exact b31 (hW.op (by omega)) | exact and31 (hW.gp (by omega)) | exact and31 (hW.ne (by omega)) | exact and31 (hW.op (by omega)) | exact and31 (by assumption) | exact and31r (hW.ne (by omega)) | exact and31r (hW.gp (by omega)) | exact and31r (by decide)) (Nat.le_of_ble_eq_true rfl) (Nat.le_of_ble_eq_true rfl) ?_
    refine mm_iastX d_To_keep_88 (sk_a_34 hM) (by omega) (by decide) ?_
    exact mm_rv d_To_keep_89 (h _ ⟨fun _ => ⟨ν, f, p, cy, rfl⟩, fun z => absurd z (by decide), fun z => absurd z (by decide)⟩)
  · refine mm_iload d_To_keep_0 rfl ?_
    refine mm_s1i d_To_keep_1 (sp_G_isSortT hs ?_)
    refine mm_if_eqN d_To_keep_4 (by first | omega | exact ite01_lt | exact bt8_lt31 _ _ | exact godB_lt31 _ _ _ | exact pop_lt31 _ | assumption | exact b31 (hW.gp (by omega)) | exact b31 (hW.ne (by omega)) | exact b31 (hW.op (by omega)) | exact and31 (hW.gp (by omega)) | exact and31 (hW.ne (by omega)) | exact and31 (hW.op (by omega)) | exact and31 (by assumption) | exact and31r (hW.ne (by omega)) | exact and31r (hW.gp (by omega)) | exact and31r (by decide)) (fun c_4 => False.elim (by omega)) (fun c_4 => ?_)
    refine mm_iload d_To_keep_7 rfl ?_
    refine mm_if_ltN d_To_keep_8 (by first | omega | exact ite01_lt | exact bt8_lt31 _ _ | exact godB_lt31 _ _ _ | exact pop_lt31 _ | assumption | exact b31 (hW.gp (by omega)) | exact b31 (hW.ne (by omega)) | exact b31 (hW.op (by omega)) | exact and31 (hW.gp (by omega)) | exact and31 (hW.ne (by omega)) | exact and31 (hW.op (by omega)) | exact and31 (by assumption) | exact and31r (hW.ne (by omega)) | exact and31r (hW.gp (by omega)) | exact and31r (by decide)) ?_
    refine mm_iload d_To_keep_11 rfl ?_
    refine mm_ciN 2 d_To_keep_12 rfl ?_
    refine mm_icmp_ltN d_To_keep_13 (by first | omega | exact ite01_lt | exact bt8_lt31 _ _ | exact godB_lt31 _ _ _ | exact pop_lt31 _ | assumption | exact b31 (hW.gp (by omega)) | exact b31 (hW.ne (by omega)) | exact b31 (hW.op (by omega)) | exact and31 (hW.gp (by omega)) | exact and31 (hW.ne (by omega)) | exact and31 (hW.op (by omega)) | exact and31 (by assumption) | exact and31r (hW.ne (by omega)) | exact and31r (hW.gp (by omega)) | exact and31r (by decide)) (by first | omega | exact ite01_lt | exact bt8_lt31 _ _ | exact godB_lt31 _ _ _ | exact pop_lt31 _ | assumption | exact b31 (hW.gp (by omega)) | exact b31 (hW.ne (by omega)) | exact b31 (hW.op (by omega)) | exact and31 (hW.gp (by omega)) | exact and31 (hW.ne (by omega)) | exact and31 (hW.op (by omega)) | exact and31 (by assumption) | exact and31r (hW.ne (by omega)) | exact and31r (hW.gp (by omega)) | exact and31r (by decide)) (fun c_13 => ?_) (fun c_13 => False.elim (by omega))
    refine mm_iload d_To_keep_17 rfl ?_
    refine mm_if_neN d_To_keep_18 (by first | omega | exact ite01_lt | exact bt8_lt31 _ _ | exact godB_lt31 _ _ _ | exact pop_lt31 _ | assumption | exact b31 (hW.gp (by omega)) | exact b31 (hW.ne (by omega)) | exact b31 (hW.op (by omega)) | exact and31 (hW.gp (by omega)) | exact and31 (hW.ne (by omega)) | exact and31 (hW.op (by omega)) | exact and31 (by assumption) | exact and31r (hW.ne (by omega)) | exact and31r (hW.gp (by omega)) | exact and31r (by decide)) (fun c_18 => ?_) (fun c_18 => False.elim (by omega))
    refine mm_iload d_To_keep_37 rfl ?_
    refine mm_ciN 1 d_To_keep_38 rfl ?_
    refine mm_icmp_neN d_To_keep_39 (by first | omega | exact ite01_lt | exact bt8_lt31 _ _ | exact godB_lt31 _ _ _ | exact pop_lt31 _ | assumption | exact b31 (hW.gp (by omega)) | exact b31 (hW.ne (by omega)) | exact b31 (hW.op (by omega)) | exact and31 (hW.gp (by omega)) | exact and31 (hW.ne (by omega)) | exact and31 (hW.op (by omega)) | exact and31 (by assumption) | exact and31r (hW.ne (by omega)) | exact and31r (hW.gp (by omega)) | exact and31r (by decide)) (by first | omega | exact ite01_lt | exact bt8_lt31 _ _ | exact godB_lt31 _ _ _ | exact pop_lt31 _ | assumption | exact b31 (hW.gp (by omega)) | exact b31 (hW.ne (by omega)) | exact b31 (hW.op (by omega)) | exact and31 (hW.gp (by omega)) | exact and31 (hW.ne (by omega)) | exact and31 (hW.op (by omega)) | exact and31 (by assumption) | exact and31r (hW.ne (by omega)) | exact and31r (hW.gp (by omega)) | exact and31r (by decide)) (fun c_39 => False.elim (by omega)) (fun c_39 => ?_)
    refine mm_aload d_To_keep_42 rfl ?_
    refine mm_getP d_To_keep_43 rfl (sk_o_1 hM) (sk_p_1_2 hM) ?_
    refine mm_iload d_To_keep_46 rfl ?_
    refine mm_aaldX d_To_keep_47 (t := 1) (sk_a_18 hM) (by omega) (by decide) ((sk_t hM).py hi) ?_
    refine mm_aload d_To_keep_48 rfl ?_
    refine mm_getP d_To_keep_49 rfl (sk_o_36 hM) (sk_p_36_1 hM) ?_
    refine mm_v1v d_To_keep_52 ((sk_t hM).ye hi).1 (sp_Ye_copyFrom (sk_y_44 hM) ((sk_t hM).ye hi) (by omega) (fun ν f p cy => ?_))
    have hM := f.2.2.2 hM
    have hc : mm_I ν 34 1 = nI c := by rw [(f.2.2.1 34 (scR_f (by omega))).1]; exact hc
    refine mm_goto d_To_keep_55 ?_
    refine mm_aload d_To_keep_71 rfl ?_
    refine mm_getP d_To_keep_72 rfl (sk_o_1 hM) (sk_p_1_4 hM) ?_
    refine mm_iload d_To_keep_75 rfl ?_
    refine mm_aload d_To_keep_76 rfl ?_
    refine mm_getP d_To_keep_77 rfl (sk_o_1 hM) (sk_p_1_4 hM) ?_
    refine mm_iload d_To_keep_80 rfl ?_
    refine mm_ialdN d_To_keep_81 (sk_a_34 hM) (by omega) (by decide) hc ?_
    refine mm_iload d_To_keep_82 rfl ?_
    refine mm_ciN 1 d_To_keep_83 rfl ?_
    refine mm_iaddN d_To_keep_84 ?_
    refine mm_mmaxN d_To_keep_85 (by first | omega | exact ite01_lt | exact bt8_lt31 _ _ | exact godB_lt31 _ _ _ | exact pop_lt31 _ | assumption | exact b31 (hW.gp (by omega)) | exact b31 (hW.ne (by omega)) | exact b31 (hW.op (by omega)) | exact and31 (hW.gp (by omega)) | exact and31 (hW.ne (by omega)) | exact and31 (hW.op (by omega)) | exact and31 (by assumption) | exact and31r (hW.ne (by omega)) | exact and31r (hW.gp (by omega)) | exact and31r (by decide)) (by first | omega | exact ite01_lt | exact bt8_lt31 _ _ | exact godB_lt31 _ _ _ | exact pop_lt31 _ | assumption | exact b31 (hW.gp (by omega)) | exact b31 (hW.ne (by omega)) | exact b31 (hW.op (by omega)) | exact and31 (hW.gp (by omega)) | exact and31 (hW.ne (by omega)) | exact and31 (hW.op (by omega)) | exact and31 (by assumption) | exact and31r (hW.ne (by omega)) | exact and31r (hW.gp (by omega)) | exact and31r (by decide)) (Nat.le_of_ble_eq_true rfl) (Nat.le_of_ble_eq_true rfl) ?_
    refine mm_iastX d_To_keep_88 (sk_a_34 hM) (by omega) (by decide) ?_
    exact mm_rv d_To_keep_89 (h _ ⟨fun z => absurd z (by decide), fun _ => ⟨ν, f, p, cy, rfl⟩, fun z => absurd z (by decide)⟩)
  · refine mm_iload d_To_keep_0 rfl ?_
    refine mm_s1i d_To_keep_1 (sp_G_isSortT hs ?_)
    refine mm_if_eqN d_To_keep_4 (by first | omega | exact ite01_lt | exact bt8_lt31 _ _ | exact godB_lt31 _ _ _ | exact pop_lt31 _ | assumption | exact b31 (hW.gp (by omega)) | exact b31 (hW.ne (by omega)) | exact b31 (hW.op (by omega)) | exact and31 (hW.gp (by omega)) | exact and31 (hW.ne (by omega)) | exact and31 (hW.op (by omega)) | exact and31 (by assumption) | exact and31r (hW.ne (by omega)) | exact and31r (hW.gp (by omega)) | exact and31r (by decide)) (fun c_4 => False.elim (by omega)) (fun c_4 => ?_)
    refine mm_iload d_To_keep_7 rfl ?_
    refine mm_if_ltN d_To_keep_8 (by first | omega | exact ite01_lt | exact bt8_lt31 _ _ | exact godB_lt31 _ _ _ | exact pop_lt31 _ | assumption | exact b31 (hW.gp (by omega)) | exact b31 (hW.ne (by omega)) | exact b31 (hW.op (by omega)) | exact and31 (hW.gp (by omega)) | exact and31 (hW.ne (by omega)) | exact and31 (hW.op (by omega)) | exact and31 (by assumption) | exact and31r (hW.ne (by omega)) | exact and31r (hW.gp (by omega)) | exact and31r (by decide)) ?_
    refine mm_iload d_To_keep_11 rfl ?_
    refine mm_ciN 2 d_To_keep_12 rfl ?_
    refine mm_icmp_ltN d_To_keep_13 (by first | omega | exact ite01_lt | exact bt8_lt31 _ _ | exact godB_lt31 _ _ _ | exact pop_lt31 _ | assumption | exact b31 (hW.gp (by omega)) | exact b31 (hW.ne (by omega)) | exact b31 (hW.op (by omega)) | exact and31 (hW.gp (by omega)) | exact and31 (hW.ne (by omega)) | exact and31 (hW.op (by omega)) | exact and31 (by assumption) | exact and31r (hW.ne (by omega)) | exact and31r (hW.gp (by omega)) | exact and31r (by decide)) (by first | omega | exact ite01_lt | exact bt8_lt31 _ _ | exact godB_lt31 _ _ _ | exact pop_lt31 _ | assumption | exact b31 (hW.gp (by omega)) | exact b31 (hW.ne (by omega)) | exact b31 (hW.op (by omega)) | exact and31 (hW.gp (by omega)) | exact and31 (hW.ne (by omega)) | exact and31 (hW.op (by omega)) | exact and31 (by assumption) | exact and31r (hW.ne (by omega)) | exact and31r (hW.gp (by omega)) | exact and31r (by decide)) (fun c_13 => ?_) (fun c_13 => False.elim (by omega))
    refine mm_iload d_To_keep_17 rfl ?_
    refine mm_if_neN d_To_keep_18 (by first | omega | exact ite01_lt | exact bt8_lt31 _ _ | exact godB_lt31 _ _ _ | exact pop_lt31 _ | assumption | exact b31 (hW.gp (by omega)) | exact b31 (hW.ne (by omega)) | exact b31 (hW.op (by omega)) | exact and31 (hW.gp (by omega)) | exact and31 (hW.ne (by omega)) | exact and31 (hW.op (by omega)) | exact and31 (by assumption) | exact and31r (hW.ne (by omega)) | exact and31r (hW.gp (by omega)) | exact and31r (by decide)) (fun c_18 => ?_) (fun c_18 => False.elim (by omega))
    refine mm_iload d_To_keep_37 rfl ?_
    refine mm_ciN 1 d_To_keep_38 rfl ?_
    refine mm_icmp_neN d_To_keep_39 (by first | omega | exact ite01_lt | exact bt8_lt31 _ _ | exact godB_lt31 _ _ _ | exact pop_lt31 _ | assumption | exact b31 (hW.gp (by omega)) | exact b31 (hW.ne (by omega)) | exact b31 (hW.op (by omega)) | exact and31 (hW.gp (by omega)) | exact and31 (hW.ne (by omega)) | exact and31 (hW.op (by omega)) | exact and31 (by assumption) | exact and31r (hW.ne (by omega)) | exact and31r (hW.gp (by omega)) | exact and31r (by decide)) (by first | omega | exact ite01_lt | exact bt8_lt31 _ _ | exact godB_lt31 _ _ _ | exact pop_lt31 _ | assumption | exact b31 (hW.gp (by omega)) | exact b31 (hW.ne (by omega)) | exact b31 (hW.op (by omega)) | exact and31 (hW.gp (by omega)) | exact and31 (hW.ne (by omega)) | exact and31 (hW.op (by omega)) | exact and31 (by assumption) | exact and31r (hW.ne (by omega)) | exact and31r (hW.gp (by omega)) | exact and31r (by decide)) (fun c_39 => ?_) (fun c_39 => False.elim (by omega))
    refine mm_aload d_To_keep_58 rfl ?_
    refine mm_getP d_To_keep_59 rfl (sk_o_1 hM) (sk_p_1_3 hM) ?_
    refine mm_iload d_To_keep_62 rfl ?_
    refine mm_aaldX d_To_keep_63 (t := 2) (sk_a_27 hM) (by omega) (by decide) ((sk_t hM).pl hi) ?_
    refine mm_aload d_To_keep_64 rfl ?_
    refine mm_getP d_To_keep_65 rfl (sk_o_36 hM) (sk_p_36_2 hM) ?_
    refine mm_v1v d_To_keep_68 ((sk_t hM).lo hi).1 (sp_Lo_copyFrom (sk_l_48 hM) ((sk_t hM).lo hi) (by omega) (fun ν f p cy => ?_))
    have hM := f.2.2.2 hM
    have hc : mm_I ν 34 2 = nI c := by rw [(f.2.2.1 34 (scR_f (by omega))).1]; exact hc
    refine mm_aload d_To_keep_71 rfl ?_
    refine mm_getP d_To_keep_72 rfl (sk_o_1 hM) (sk_p_1_4 hM) ?_
    refine mm_iload d_To_keep_75 rfl ?_
    refine mm_aload d_To_keep_76 rfl ?_
    refine mm_getP d_To_keep_77 rfl (sk_o_1 hM) (sk_p_1_4 hM) ?_
    refine mm_iload d_To_keep_80 rfl ?_
    refine mm_ialdN d_To_keep_81 (sk_a_34 hM) (by omega) (by decide) hc ?_
    refine mm_iload d_To_keep_82 rfl ?_
    refine mm_ciN 1 d_To_keep_83 rfl ?_
    refine mm_iaddN d_To_keep_84 ?_
    refine mm_mmaxN d_To_keep_85 (by first | omega | exact ite01_lt | exact bt8_lt31 _ _ | exact godB_lt31 _ _ _ | exact pop_lt31 _ | assumption | exact b31 (hW.gp (by omega)) | exact b31 (hW.ne (by omega)) | exact b31 (hW.op (by omega)) | exact and31 (hW.gp (by omega)) | exact and31 (hW.ne (by omega)) | exact and31 (hW.op (by omega)) | exact and31 (by assumption) | exact and31r (hW.ne (by omega)) | exact and31r (hW.gp (by omega)) | exact and31r (by decide)) (by first | omega | exact ite01_lt | exact bt8_lt31 _ _ | exact godB_lt31 _ _ _ | exact pop_lt31 _ | assumption | exact b31 (hW.gp (by omega)) | exact b31 (hW.ne (by omega)) | exact b31 (hW.op (by omega)) | exact and31 (hW.gp (by omega)) | exact and31 (hW.ne (by omega)) | exact and31 (hW.op (by omega)) | exact and31 (by assumption) | exact and31r (hW.ne (by omega)) | exact and31r (hW.gp (by omega)) | exact and31r (by decide)) (Nat.le_of_ble_eq_true rfl) (Nat.le_of_ble_eq_true rfl) ?_
    refine mm_iastX d_To_keep_88 (sk_a_34 hM) (by omega) (by decide) ?_
    exact mm_rv d_To_keep_89 (h _ ⟨fun z => absurd z (by decide), fun z => absurd z (by decide), fun _ => ⟨ν, f, p, cy, rfl⟩⟩)
def scRd (a : Nat) : Bool := a == 1 || (36 ≤ a && a ≤ 52)
/-- what the class has read -/
def RdA (s : Nat) (u : Nat → Nat) (n : Nat) (μ μr : mm_M) : Prop := Fr scRd μ μr ∧ mm_I μr 1 5 = nI 0 ∧ mm_I μr 1 6 = nI (rdF s u n).1 ∧ (mm_I μr 1 7 = if (rdF s u n).1 = 0 then -1 else nI (rdF s u n).2.1)
def TxA (s : Nat) (u : Nat → Nat) (n c i : Nat) (μ μ1 : mm_M) : Prop := ∃ μr, RdA s u n μ μr ∧ ((rdF s u n).1 ≠ 0 → μ1 = μr) ∧ ((rdF s u n).1 = 0 → RC s (rdF s u n).2.2 μr ∧ WfT s (rdF s u n).2.2 ∧ KpA s c i μr μ1)
theorem sp_G_textOk {X : mm_X} {k : Nat} {μ : mm_M} {s n c i : Nat} {y2 : Int32} (hJ : JJ k μ) (hs : s < 3) (hn : mm_I μ 1 5 = nI n) (hn6 : n ≤ 600) (hc : mm_I μ 34 s = nI c) (hc2 : c ≤ 2) (hi : i < 2) (hsl : slF c y2 = nI i) : mm_Ci X 12 0 0 k_G_text [.ref 0, .int (nI s), .int y2] μ (fun r μ1 => (r = if (rdF s (fun j => ub (mm_I μ 2 j)) n).1 = 0 then nI i else -1) ∧ TxA s (fun j => ub (mm_I μ 2 j)) n c i μ μ1) := by
  show mm_T X 12 0 0 k_G_text 0 [some (.ref 0), some (.int (nI s)), some (.int y2), none, none] [] μ _
  have hM := hJ.1
  have hb := hJ.2.1.fit
  generalize hu : (fun j => ub (mm_I μ 2 j)) = u
  have hb' : ∀ j, fits .byte (.int (mm_I (mm_sI (mm_sI (mm_sI μ 1 5 (nI 0)) 1 6 (nI 0)) 1 7 (-1)) 2 j)) = true ∧ ub (mm_I (mm_sI (mm_sI (mm_sI μ 1 5 (nI 0)) 1 6 (nI 0)) 1 7 (-1)) 2 j) = u j := by
    intro j
    rw [mm_sI_off (by decide), mm_sI_off (by decide), mm_sI_off (by decide)]
    exact ⟨hb j, by rw [← hu]⟩
  have hc' : mm_I (mm_sI (mm_sI (mm_sI μ 1 5 (nI 0)) 1 6 (nI 0)) 1 7 (-1)) 34 s = nI c := by rw [mm_sI_off (by decide), mm_sI_off (by decide), mm_sI_off (by decide)]; exact hc
  have hM0 : SK (mm_sI (mm_sI (mm_sI μ 1 5 (nI 0)) 1 6 (nI 0)) 1 7 (-1)) := hM
  refine mm_aload d_G_text_0 rfl ?_
  refine mm_getP d_G_text_1 rfl (sk_o_0 hM) (sk_p_0_0 hM) ?_
  refine mm_getIN d_G_text_4 rfl (sk_o_1 hM) hn ?_
  refine mm_ist3 d_G_text_7 ?_
  refine mm_aload d_G_text_8 rfl ?_
  refine mm_getP d_G_text_9 rfl (sk_o_0 hM) (sk_p_0_0 hM) ?_
  refine mm_ciN 0 d_G_text_12 rfl ?_
  refine mm_putI d_G_text_13 rfl (sk_o_1 hM) (Or.inl rfl) ?_
  refine mm_aload d_G_text_16 rfl ?_
  refine mm_getP d_G_text_17 rfl (sk_o_0 hM) (sk_p_0_0 hM) ?_
  refine mm_ciN 0 d_G_text_20 rfl ?_
  refine mm_putI d_G_text_21 rfl (sk_o_1 hM) (Or.inl rfl) ?_
  refine mm_aload d_G_text_24 rfl ?_
  refine mm_getP d_G_text_25 rfl (sk_o_0 hM) (sk_p_0_0 hM) ?_
  refine mm_ci d_G_text_28 ?_
  refine mm_putI d_G_text_29 rfl (sk_o_1 hM) (Or.inl rfl) ?_
  refine mm_aload d_G_text_32 rfl ?_
  refine mm_getP d_G_text_33 rfl (sk_o_0 hM) (sk_p_0_0 hM) ?_
  refine mm_iload d_G_text_36 rfl ?_
  refine mm_iload d_G_text_37 rfl ?_
  refine mm_v2i d_G_text_38 (sk_o_1 hM) (sp_To_slotForX hM0 hs hc' hc2 ?_)
  rw [hsl]
  refine mm_ist4 d_G_text_41 ?_
  refine mm_iload d_G_text_43 rfl ?_
  refine mm_if_geN d_G_text_45 (by first | omega | exact ite01_lt | exact bt8_lt31 _ _ | exact godB_lt31 _ _ _ | exact pop_lt31 _ | assumption | exact b31 (hW.gp (by omega)) | exact b31 (hW.ne (by omega)) | exact b31 (hW.op (by omega)) | exact and31 (hW.gp (by omega)) | exact and31 (hW.ne (by omega)) | exact and31 (hW.op (by omega)) | exact and31 (by assumption) | exact and31r (hW.ne (by omega)) | exact and31r (hW.gp (by omega)) | exact and31r (by decide)) ?_
  refine mm_aload d_G_text_51 rfl ?_
  refine mm_getP d_G_text_52 rfl (sk_o_0 hM) (sk_p_0_2 hM) ?_
  refine mm_aload d_G_text_55 rfl ?_
  refine mm_getP d_G_text_56 rfl (sk_o_0 hM) (sk_p_0_0 hM) ?_
  refine mm_getP d_G_text_59 rfl (sk_o_1 hM) (sk_p_1_0 hM) ?_
  refine mm_iload d_G_text_62 rfl ?_
  refine mm_iload d_G_text_63 rfl ?_
  refine mm_v3v d_G_text_64 (sk_o_36 hM) (sp_Re_read (u := u) (L := n) hM0 hs hn6 hb' (fun ν f e3 e4 hrc h5 => ?_))
  have hM := f.2.2.2 hM0
  have F0 : Fr scRd μ (mm_sI (mm_sI ν 1 6 (nI (rdF s u n).1)) 1 7 (if (rdF s u n).1 = 0 then -1 else nI (rdF s u n).2.1)) := (((((Fr.rf.sI rfl).sI rfl).sI rfl).trans (f.sub (fun a z => by unfold scRe at z; unfold scRd; simp at z ⊢; omega))).sI rfl).sI rfl
  have hRd : RdA s u n μ (mm_sI (mm_sI ν 1 6 (nI (rdF s u n).1)) 1 7 (if (rdF s u n).1 = 0 then -1 else nI (rdF s u n).2.1)) := by
    refine ⟨F0, ?_, ?_, ?_⟩
    · rw [mm_I_sI, if_neg (by decide), mm_I_sI, if_neg (by decide), (f.2.2.1 1 rfl).1, mm_I_sI, if_neg (by decide), mm_I_sI, if_neg (by decide), mm_I_sI, if_pos ⟨rfl, rfl⟩]
    · rw [mm_I_sI, if_neg (by decide), mm_I_sI, if_pos ⟨rfl, rfl⟩]
    · rw [mm_I_sI, if_pos ⟨rfl, rfl⟩]
  have hcr : mm_I (mm_sI (mm_sI ν 1 6 (nI (rdF s u n).1)) 1 7 (if (rdF s u n).1 = 0 then -1 else nI (rdF s u n).2.1)) 34 s = nI c := by rw [mm_sI_off (by decide), mm_sI_off (by decide), (f.2.2.1 34 rfl).1]; exact hc'
  refine mm_aload d_G_text_67 rfl ?_
  refine mm_getP d_G_text_68 rfl (sk_o_0 hM) (sk_p_0_0 hM) ?_
  refine mm_aload d_G_text_71 rfl ?_
  refine mm_getP d_G_text_72 rfl (sk_o_0 hM) (sk_p_0_2 hM) ?_
  refine mm_getIN d_G_text_75 rfl (sk_o_36 hM) e3 ?_
  refine mm_putI d_G_text_78 rfl (sk_o_1 hM) (Or.inl rfl) ?_
  refine mm_aload d_G_text_81 rfl ?_
  refine mm_getP d_G_text_82 rfl (sk_o_0 hM) (sk_p_0_0 hM) ?_
  refine mm_aload d_G_text_85 rfl ?_
  refine mm_getP d_G_text_86 rfl (sk_o_0 hM) (sk_p_0_2 hM) ?_
  refine mm_getIV d_G_text_89 rfl (sk_o_36 hM) (show _ = (if (rdF s u n).1 = 0 then -1 else nI (rdF s u n).2.1) by rw [mm_sI_off (by decide)]; exact e4) ?_
  refine mm_putI d_G_text_92 rfl (sk_o_1 hM) (Or.inl rfl) ?_
  refine mm_aload d_G_text_95 rfl ?_
  refine mm_getP d_G_text_96 rfl (sk_o_0 hM) (sk_p_0_2 hM) ?_
  refine mm_getIN d_G_text_99 rfl (sk_o_36 hM) (show _ = nI (rdF s u n).1 by rw [mm_sI_off (by decide), mm_sI_off (by decide)]; exact e3) ?_
  refine mm_if_eqN d_G_text_102 (by first | omega | exact ite01_lt | exact bt8_lt31 _ _ | exact godB_lt31 _ _ _ | exact pop_lt31 _ | assumption | exact b31 (hW.gp (by omega)) | exact b31 (hW.ne (by omega)) | exact b31 (hW.op (by omega)) | exact and31 (hW.gp (by omega)) | exact and31 (hW.ne (by omega)) | exact and31 (hW.op (by omega)) | exact and31 (by assumption) | exact and31r (hW.ne (by omega)) | exact and31r (hW.gp (by omega)) | exact and31r (by decide)) (fun c_102 => ?_) (fun c_102 => ?_)
  · refine mm_aload d_G_text_107 rfl ?_
    refine mm_getP d_G_text_108 rfl (sk_o_0 hM) (sk_p_0_0 hM) ?_
    refine mm_aload d_G_text_111 rfl ?_
    refine mm_getP d_G_text_112 rfl (sk_o_0 hM) (sk_p_0_2 hM) ?_
    refine mm_iload d_G_text_115 rfl ?_
    refine mm_iload d_G_text_116 rfl ?_
    refine mm_v3v d_G_text_118 (sk_o_1 hM) (sp_To_keep hM hs hi hcr hc2 (fun μ1 kp => ?_))
    refine mm_iload d_G_text_121 rfl ?_
    exact mm_ri d_G_text_123 ⟨(if_pos c_102).symm, _, hRd, fun z => absurd c_102 z, fun z => ⟨(hrc z).1.cg hM (fun a h1 h2 => by rw [mm_sI_off (by omega), mm_sI_off (by omega)]) (by rw [mm_sI_off (by decide), mm_sI_off (by decide)]), (hrc z).2, kp⟩⟩
  · refine mm_ci d_G_text_105 ?_
    exact mm_ri d_G_text_106 ⟨(if_neg c_102).symm, _, hRd, fun _ => rfl, fun z => absurd z c_102⟩
