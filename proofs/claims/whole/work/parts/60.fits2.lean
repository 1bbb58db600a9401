/-! logs: fits -/
def sureK (F : List Nat) : Nat → Nat
  | 0 => 255
  | j + 1 => sureK F j &&& F.getD j 0
def inAllK (E : mm_E) : Nat → Nat
  | 0 => 255
  | k + 1 => if fitI E k = 0 then inAllK E k else inAllK E k &&& k
theorem sureK_app {F : List Nat} {x : Nat} : ∀ j, j ≤ F.length → sureK (F ++ [x]) j = sureK F j
  | 0, _ => rfl
  | j + 1, h => by
    unfold sureK
    rw [sureK_app j (by omega), getD_app (by omega)]
theorem sureK_in (E : mm_E) : ∀ k, sureK (fitL E k) (fitL E k).length = inAllK E k
  | 0 => rfl
  | k + 1 => by
    have h := sureK_in E k
    unfold inAllK
    by_cases c : fitI E k = 0
    · rw [if_pos c, fitL_0 c]; exact h
    · rw [if_neg c, fitL_1 c, List.length_append]
      show sureK (fitL E k ++ [k]) (fitL E k).length &&& (fitL E k ++ [k]).getD (fitL E k).length 0 = _
      rw [sureK_app _ (Nat.le_refl _), h, getD_last]
theorem sp_Lo_inAll {X : mm_X} {μ : mm_M} {q : Int32 → mm_M → Prop} {a : Nat} {E : mm_E} (hLD : LoD μ a E) (hWE : WfE E) (h : q (nI (inAllK E 256)) μ) : mm_Ci X 2 0 0 k_Lo_inAll [.ref a] μ q := by
  show mm_T X 2 0 0 k_Lo_inAll 0 [some (.ref a), none, none] [] μ _
  refine mm_ciN 255 d_Lo_inAll_0 rfl ?_
  refine mm_ist1 d_Lo_inAll_3 ?_
  refine mm_ciN 0 d_Lo_inAll_4 rfl ?_
  refine mm_ist2 d_Lo_inAll_5 ?_
  refine mm_up (P := fun i => mm_T X _ 0 0 k_Lo_inAll 6 [some (.ref a), some (.int (nI (inAllK E i))), some (.int (nI i))] [] μ _) (256) ?_ (fun i hi ih => ?_)
  · refine mm_iload d_Lo_inAll_6 rfl ?_
    refine mm_ciN 255 d_Lo_inAll_7 rfl ?_
    refine mm_icmp_gtN d_Lo_inAll_10 (by first | omega | exact ite01_lt | exact bt8_lt31 _ _ | exact godB_lt31 _ _ _ | exact pop_lt31 _ | assumption | exact b31 (hW.gp (by omega)) | exact b31 (hW.ne (by omega)) | exact b31 (hW.op (by omega)) | exact and31 (hW.gp (by omega)) | exact and31 (hW.ne (by omega)) | exact and31 (hW.op (by omega)) | exact and31 (by assumption) | exact and31r (hW.ne (by omega)) | exact and31r (hW.gp (by omega)) | exact and31r (by decide)) (by first | omega | exact ite01_lt | exact bt8_lt31 _ _ | exact godB_lt31 _ _ _ | exact pop_lt31 _ | assumption | exact b31 (hW.gp (by omega)) | exact b31 (hW.ne (by omega)) | exact b31 (hW.op (by omega)) | exact and31 (hW.gp (by omega)) | exact and31 (hW.ne (by omega)) | exact and31 (hW.op (by omega)) | exact and31 (by assumption) | exact and31r (hW.ne (by omega)) | exact and31r (hW.gp (by omega)) | exact and31r (by decide)) (fun c_10 => ?_) (fun c_10 => False.elim (by omega))
    refine mm_iload d_Lo_inAll_31 rfl ?_
    exact mm_ri d_Lo_inAll_32 h
  · refine mm_iload d_Lo_inAll_6 rfl ?_
    refine mm_ciN 255 d_Lo_inAll_7 rfl ?_
    have hfi := fitI_lt31 E i
    refine mm_icmp_gtN d_Lo_inAll_10 (by first | omega | exact ite01_lt | exact bt8_lt31 _ _ | exact godB_lt31 _ _ _ | exact pop_lt31 _ | assumption | exact b31 (hW.gp (by omega)) | exact b31 (hW.ne (by omega)) | exact b31 (hW.op (by omega)) | exact and31 (hW.gp (by omega)) | exact and31 (hW.ne (by omega)) | exact and31 (hW.op (by omega)) | exact and31 (by assumption) | exact and31r (hW.ne (by omega)) | exact and31r (hW.gp (by omega)) | exact and31r (by decide)) (by first | omega | exact ite01_lt | exact bt8_lt31 _ _ | exact godB_lt31 _ _ _ | exact pop_lt31 _ | assumption | exact b31 (hW.gp (by omega)) | exact b31 (hW.ne (by omega)) | exact b31 (hW.op (by omega)) | exact and31 (hW.gp (by omega)) | exact and31 (hW.ne (by omega)) | exact and31 (hW.op (by omega)) | exact and31 (by assumption) | exact and31r (hW.ne (by omega)) | exact and31r (hW.gp (by omega)) | exact and31r (by decide)) (fun c_10 => False.elim (by omega)) (fun c_10 => ?_)
    refine mm_aload d_Lo_inAll_13 rfl ?_
    refine mm_iload d_Lo_inAll_14 rfl ?_
    refine mm_v1i d_Lo_inAll_15 hLD.1.1 (sp_Lo_allows hLD hWE hi ?_)
    refine mm_if_eqN d_Lo_inAll_18 (by first | omega | exact ite01_lt | exact bt8_lt31 _ _ | exact godB_lt31 _ _ _ | exact pop_lt31 _ | assumption | exact b31 (hW.gp (by omega)) | exact b31 (hW.ne (by omega)) | exact b31 (hW.op (by omega)) | exact and31 (hW.gp (by omega)) | exact and31 (hW.ne (by omega)) | exact and31 (hW.op (by omega)) | exact and31 (by assumption) | exact and31r (hW.ne (by omega)) | exact and31r (hW.gp (by omega)) | exact and31r (by decide)) (fun c_18 => ?_) (fun c_18 => ?_)
    · refine mm_inc2N d_Lo_inAll_25 ?_
      refine mm_goto d_Lo_inAll_28 ?_
      first
        | exact ih
        | (have z := ih; simp only [inAllK, if_pos c_18] at z; exact z)
        | (have z := ih; simp only [inAllK, if_pos c_18, Nat.or_zero, Nat.add_zero] at z; exact z)
        | (have z := ih; simp only [inAllK, if_pos c_18, Nat.mul_one] at z; exact z)
        | (have z := ih; simp only [inAllK, if_neg c_18] at z; exact z)
        | (have z := ih; simp only [inAllK, if_neg c_18, Nat.or_zero, Nat.add_zero] at z; exact z)
        | (have z := ih; simp only [inAllK, if_neg c_18, Nat.mul_one] at z; exact z)
        | (have z := ih; simp only [inAllK, if_neg (Nat.not_lt.mpr c_18)] at z; exact z)
        | (have z := ih; simp only [inAllK, if_neg (Nat.not_lt.mpr c_18), Nat.or_zero, Nat.add_zero] at z; exact z)
        | (have z := ih; simp only [inAllK, if_neg (Nat.not_lt.mpr c_18), Nat.mul_one] at z; exact z)
        | (have z := ih; simp only [inAllK, if_neg (Nat.not_le.mpr c_18)] at z; exact z)
        | (have z := ih; simp only [inAllK, if_neg (Nat.not_le.mpr c_18), Nat.or_zero, Nat.add_zero] at z; exact z)
        | (have z := ih; simp only [inAllK, if_neg (Nat.not_le.mpr c_18), Nat.mul_one] at z; exact z)
    · refine mm_iload d_Lo_inAll_21 rfl ?_
      refine mm_iload d_Lo_inAll_22 rfl ?_
      refine mm_iandN d_Lo_inAll_23 ?_
      refine mm_ist1 d_Lo_inAll_24 ?_
      refine mm_inc2N d_Lo_inAll_25 ?_
      refine mm_goto d_Lo_inAll_28 ?_
      first
        | exact ih
        | (have z := ih; simp only [inAllK, if_pos c_18] at z; exact z)
        | (have z := ih; simp only [inAllK, if_pos c_18, Nat.or_zero, Nat.add_zero] at z; exact z)
        | (have z := ih; simp only [inAllK, if_pos c_18, Nat.mul_one] at z; exact z)
        | (have z := ih; simp only [inAllK, if_neg c_18] at z; exact z)
        | (have z := ih; simp only [inAllK, if_neg c_18, Nat.or_zero, Nat.add_zero] at z; exact z)
        | (have z := ih; simp only [inAllK, if_neg c_18, Nat.mul_one] at z; exact z)
        | (have z := ih; simp only [inAllK, if_neg (Nat.not_lt.mpr c_18)] at z; exact z)
        | (have z := ih; simp only [inAllK, if_neg (Nat.not_lt.mpr c_18), Nat.or_zero, Nat.add_zero] at z; exact z)
        | (have z := ih; simp only [inAllK, if_neg (Nat.not_lt.mpr c_18), Nat.mul_one] at z; exact z)
        | (have z := ih; simp only [inAllK, if_neg (Nat.not_le.mpr c_18)] at z; exact z)
        | (have z := ih; simp only [inAllK, if_neg (Nat.not_le.mpr c_18), Nat.or_zero, Nat.add_zero] at z; exact z)
        | (have z := ih; simp only [inAllK, if_neg (Nat.not_le.mpr c_18), Nat.mul_one] at z; exact z)
theorem sp_M_sure {X : mm_X} {μ : mm_M} {q : Int32 → mm_M → Prop} {E : mm_E} (hM : SK μ) (hF : FL μ (fitL E 256)) (h : q (if (fitL E 256).length = 0 then -1 else nI (inAllK E 256)) μ) : mm_Ci X 0 0 0 k_M_sure [.ref 71] μ q := by
  show mm_T X 0 0 0 k_M_sure 0 [some (.ref 71), none, none] [] μ _
  have hle := fitL_le (E := E) (k := 256) (Nat.le_refl _)
  rw [← sureK_in E 256] at h
  generalize fitL E 256 = F at *
  refine mm_ciN 255 d_M_sure_0 rfl ?_
  refine mm_ist1 d_M_sure_3 ?_
  refine mm_ciN 0 d_M_sure_4 rfl ?_
  refine mm_ist2 d_M_sure_5 ?_
  refine mm_up (P := fun i => mm_T X _ 0 0 k_M_sure 6 [some (.ref 71), some (.int (nI (sureK F i))), some (.int (nI i))] [] μ _) (F.length) ?_ (fun i hi ih => ?_)
  · refine mm_iload d_M_sure_6 rfl ?_
    refine mm_aload d_M_sure_7 rfl ?_
    refine mm_getIN d_M_sure_8 rfl (sk_o_71 hM) hF.1 ?_
    refine mm_icmp_geN d_M_sure_11 (by first | omega | exact ite01_lt | exact bt8_lt31 _ _ | exact godB_lt31 _ _ _ | exact pop_lt31 _ | assumption | exact b31 (hW.gp (by omega)) | exact b31 (hW.ne (by omega)) | exact b31 (hW.op (by omega)) | exact and31 (hW.gp (by omega)) | exact and31 (hW.ne (by omega)) | exact and31 (hW.op (by omega)) | exact and31 (by assumption) | exact and31r (hW.ne (by omega)) | exact and31r (hW.gp (by omega)) | exact and31r (by decide)) (by first | omega | exact ite01_lt | exact bt8_lt31 _ _ | exact godB_lt31 _ _ _ | exact pop_lt31 _ | assumption | exact b31 (hW.gp (by omega)) | exact b31 (hW.ne (by omega)) | exact b31 (hW.op (by omega)) | exact and31 (hW.gp (by omega)) | exact and31 (hW.ne (by omega)) | exact and31 (hW.op (by omega)) | exact and31 (by assumption) | exact and31r (hW.ne (by omega)) | exact and31r (hW.gp (by omega)) | exact and31r (by decide)) (fun c_11 => ?_) (fun c_11 => False.elim (by omega))
    refine mm_aload d_M_sure_29 rfl ?_
    refine mm_getIN d_M_sure_30 rfl (sk_o_71 hM) hF.1 ?_
    refine mm_if_neN d_M_sure_33 (by first | omega | exact ite01_lt | exact bt8_lt31 _ _ | exact godB_lt31 _ _ _ | exact pop_lt31 _ | assumption | exact b31 (hW.gp (by omega)) | exact b31 (hW.ne (by omega)) | exact b31 (hW.op (by omega)) | exact and31 (hW.gp (by omega)) | exact and31 (hW.ne (by omega)) | exact and31 (hW.op (by omega)) | exact and31 (by assumption) | exact and31r (hW.ne (by omega)) | exact and31r (hW.gp (by omega)) | exact and31r (by decide)) (fun c_33 => ?_) (fun c_33 => ?_)
    · refine mm_iload d_M_sure_40 rfl ?_
      exact mm_ri d_M_sure_41 (by first | (rw [if_pos c_33] at h; exact h) | (rw [if_neg c_33] at h; exact h))
    · refine mm_ci d_M_sure_36 ?_
      refine mm_goto d_M_sure_37 ?_
      exact mm_ri d_M_sure_41 (by first | (rw [if_pos c_33] at h; exact h) | (rw [if_neg c_33] at h; exact h))
  · refine mm_iload d_M_sure_6 rfl ?_
    refine mm_aload d_M_sure_7 rfl ?_
    refine mm_getIN d_M_sure_8 rfl (sk_o_71 hM) hF.1 ?_
    refine mm_icmp_geN d_M_sure_11 (by first | omega | exact ite01_lt | exact bt8_lt31 _ _ | exact godB_lt31 _ _ _ | exact pop_lt31 _ | assumption | exact b31 (hW.gp (by omega)) | exact b31 (hW.ne (by omega)) | exact b31 (hW.op (by omega)) | exact and31 (hW.gp (by omega)) | exact and31 (hW.ne (by omega)) | exact and31 (hW.op (by omega)) | exact and31 (by assumption) | exact and31r (hW.ne (by omega)) | exact and31r (hW.gp (by omega)) | exact and31r (by decide)) (by first | omega | exact ite01_lt | exact bt8_lt31 _ _ | exact godB_lt31 _ _ _ | exact pop_lt31 _ | assumption | exact b31 (hW.gp (by omega)) | exact b31 (hW.ne (by omega)) | exact b31 (hW.op (by omega)) | exact and31 (hW.gp (by omega)) | exact and31 (hW.ne (by omega)) | exact and31 (hW.op (by omega)) | exact and31 (by assumption) | exact and31r (hW.ne (by omega)) | exact and31r (hW.gp (by omega)) | exact and31r (by decide)) (fun c_11 => False.elim (by omega)) (fun c_11 => ?_)
    refine mm_iload d_M_sure_14 rfl ?_
    refine mm_aload d_M_sure_15 rfl ?_
    refine mm_getP d_M_sure_16 rfl (sk_o_71 hM) (sk_p_71_42 hM) ?_
    refine mm_iload d_M_sure_19 rfl ?_
    refine mm_ialdN d_M_sure_20 (sk_a_88 hM) (by omega) (by decide) (hF.2 i hi) ?_
    refine mm_iandN d_M_sure_21 ?_
    refine mm_ist1 d_M_sure_22 ?_
    refine mm_inc2N d_M_sure_23 ?_
    refine mm_goto d_M_sure_26 ?_
    exact ih
def argK (f : Nat → Nat) : Nat → Option Nat
  | 0 => none
  | w + 1 => if lessB f w (argK f w) = true then some w else argK f w
theorem argK_lt {f : Nat → Nat} : ∀ {k b}, argK f k = some b → b < k
  | 0, b, h => by cases h
  | k + 1, b, h => by
    unfold argK at h
    split at h
    · cases h; omega
    · have := argK_lt h; omega
def gq (E : mm_E) (w : Nat) : Nat := max (hmK E (2 ^ w) 256) (hmK E 0 256 - hmK E (2 ^ w) 256)
theorem hm_le_all (E : mm_E) {w : Nat} (hw : w < 8) : hmK E (2 ^ w) 256 ≤ hmK E 0 256 := by
  rw [← mhK_hm E hw 256 (Nat.le_refl _), hmK_0]
  exact mhK_le _ _ _
theorem sp_Lo_bestQuestion {X : mm_X} {μ : mm_M} {q : Int32 → mm_M → Prop} {a : Nat} {E : mm_E} (hLD : LoD μ a E) (hWE : WfE E) (h : q (oI (argK (gq E) 8)) μ) : mm_Ci X 3 0 0 k_Lo_bestQuestion [.ref a] μ q := by
  show mm_T X 3 0 0 k_Lo_bestQuestion 0 [some (.ref a), none, none, none, none, none, none] [] μ _
  have h0 := hmK_le E 0 256
  refine mm_aload d_Lo_bestQuestion_0 rfl ?_
  refine mm_ciN 0 d_Lo_bestQuestion_1 rfl ?_
  refine mm_v1i d_Lo_bestQuestion_2 hLD.1.1 (sp_Lo_howManyHave hLD hWE (by decide) ?_)
  refine mm_ist1 d_Lo_bestQuestion_5 ?_
  refine mm_ci d_Lo_bestQuestion_6 ?_
  refine mm_ist2 d_Lo_bestQuestion_7 ?_
  refine mm_ciN 0 d_Lo_bestQuestion_8 rfl ?_
  refine mm_ist3 d_Lo_bestQuestion_9 ?_
  refine mm_ciN 0 d_Lo_bestQuestion_10 rfl ?_
  refine mm_ist4 d_Lo_bestQuestion_11 ?_
  refine mm_up (P := fun w => ∀ l5 l6 : Option Value, mm_T X _ 0 0 k_Lo_bestQuestion 13 [some (.ref a), some (.int (nI (hmK E 0 256))), some (.int (oI (argK (gq E) w))), some (.int (nI (leastO (gq E) (argK (gq E) w)))), some (.int (nI w)), l5, l6] [] μ _) 8 ?_ (fun w hw ih => ?_) none none
  · intro l5 l6
    refine mm_iload d_Lo_bestQuestion_13 rfl ?_
    refine mm_ciN 8 d_Lo_bestQuestion_15 rfl ?_
    refine mm_icmp_geN d_Lo_bestQuestion_17 (by first | omega | exact ite01_lt | exact bt8_lt31 _ _ | exact godB_lt31 _ _ _ | exact pop_lt31 _ | assumption | exact b31 (hW.gp (by omega)) | exact b31 (hW.ne (by omega)) | exact b31 (hW.op (by omega)) | exact and31 (hW.gp (by omega)) | exact and31 (hW.ne (by omega)) | exact and31 (hW.op (by omega)) | exact and31 (by assumption) | exact and31r (hW.ne (by omega)) | exact and31r (hW.gp (by omega)) | exact and31r (by decide)) (by first | omega | exact ite01_lt | exact bt8_lt31 _ _ | exact godB_lt31 _ _ _ | exact pop_lt31 _ | assumption | exact b31 (hW.gp (by omega)) | exact b31 (hW.ne (by omega)) | exact b31 (hW.op (by omega)) | exact and31 (hW.gp (by omega)) | exact and31 (hW.ne (by omega)) | exact and31 (hW.op (by omega)) | exact and31 (by assumption) | exact and31r (hW.ne (by omega)) | exact and31r (hW.gp (by omega)) | exact and31r (by decide)) (fun c_17 => ?_) (fun c_17 => False.elim (by omega))
    refine mm_iload d_Lo_bestQuestion_64 rfl ?_
    exact mm_ri d_Lo_bestQuestion_65 h
  · intro l5 l6
    have h2w : 2 ^ w < 256 := Nat.pow_lt_pow_right (by decide) hw
    have hm1 := hm_le_all E hw
    have hgd : gq E w = max (hmK E (2 ^ w) 256) (hmK E 0 256 - hmK E (2 ^ w) 256) := rfl
    have hg : gq E w ≤ 256 := by omega
    rcases hb : argK (gq E) w with _ | b
    · refine mm_iload d_Lo_bestQuestion_13 rfl ?_
      refine mm_ciN 8 d_Lo_bestQuestion_15 rfl ?_
      refine mm_icmp_geN d_Lo_bestQuestion_17 (by first | omega | exact ite01_lt | exact bt8_lt31 _ _ | exact godB_lt31 _ _ _ | exact pop_lt31 _ | assumption | exact b31 (hW.gp (by omega)) | exact b31 (hW.ne (by omega)) | exact b31 (hW.op (by omega)) | exact and31 (hW.gp (by omega)) | exact and31 (hW.ne (by omega)) | exact and31 (hW.op (by omega)) | exact and31 (by assumption) | exact and31r (hW.ne (by omega)) | exact and31r (hW.gp (by omega)) | exact and31r (by decide)) (by first | omega | exact ite01_lt | exact bt8_lt31 _ _ | exact godB_lt31 _ _ _ | exact pop_lt31 _ | assumption | exact b31 (hW.gp (by omega)) | exact b31 (hW.ne (by omega)) | exact b31 (hW.op (by omega)) | exact and31 (hW.gp (by omega)) | exact and31 (hW.ne (by omega)) | exact and31 (hW.op (by omega)) | exact and31 (by assumption) | exact and31r (hW.ne (by omega)) | exact and31r (hW.gp (by omega)) | exact and31r (by decide)) (fun c_17 => False.elim (by omega)) (fun c_17 => ?_)
      refine mm_aload d_Lo_bestQuestion_20 rfl ?_
      refine mm_ciN 1 d_Lo_bestQuestion_21 rfl ?_
      refine mm_iload d_Lo_bestQuestion_22 rfl ?_
      refine mm_ishl1N d_Lo_bestQuestion_24 (by omega) ?_
      refine mm_v1i d_Lo_bestQuestion_25 hLD.1.1 (sp_Lo_howManyHave hLD hWE h2w ?_)
      refine mm_ist5 d_Lo_bestQuestion_28 ?_
      refine mm_iload d_Lo_bestQuestion_30 rfl ?_
      refine mm_iload d_Lo_bestQuestion_32 rfl ?_
      refine mm_iload d_Lo_bestQuestion_33 rfl ?_
      refine mm_isubN d_Lo_bestQuestion_35 (by omega) ?_
      refine mm_mmaxN d_Lo_bestQuestion_36 (by first | omega | exact ite01_lt | exact bt8_lt31 _ _ | exact godB_lt31 _ _ _ | exact pop_lt31 _ | assumption | exact b31 (hW.gp (by omega)) | exact b31 (hW.ne (by omega)) | exact b31 (hW.op (by omega)) | exact and31 (hW.gp (by omega)) | exact and31 (hW.ne (by omega)) | exact and31 (hW.op (by omega)) | exact and31 (by assumption) | exact and31r (hW.ne (by omega)) | exact and31r (hW.gp (by omega)) | exact and31r (by decide)) (by first | omega | exact ite01_lt | exact bt8_lt31 _ _ | exact godB_lt31 _ _ _ | exact pop_lt31 _ | assumption | exact b31 (hW.gp (by omega)) | exact b31 (hW.ne (by omega)) | exact b31 (hW.op (by omega)) | exact and31 (hW.gp (by omega)) | exact and31 (hW.ne (by omega)) | exact and31 (hW.op (by omega)) | exact and31 (by assumption) | exact and31r (hW.ne (by omega)) | exact and31r (hW.gp (by omega)) | exact and31r (by decide)) (Nat.le_of_ble_eq_true rfl) (Nat.le_of_ble_eq_true rfl) ?_
      rw [← hgd]
      refine mm_ist6 d_Lo_bestQuestion_39 ?_
      refine mm_iload d_Lo_bestQuestion_41 rfl ?_
      refine mm_ci d_Lo_bestQuestion_42 ?_
      refine mm_icmp_eqS d_Lo_bestQuestion_43 ?_
      refine mm_iload d_Lo_bestQuestion_52 rfl ?_
      refine mm_ist2 d_Lo_bestQuestion_54 ?_
      refine mm_iload d_Lo_bestQuestion_55 rfl ?_
      refine mm_ist3 d_Lo_bestQuestion_57 ?_
      refine mm_inc4N d_Lo_bestQuestion_58 ?_
      refine mm_goto d_Lo_bestQuestion_61 ?_
      rw [show argK (gq E) (w + 1) = some w by unfold argK; rw [hb]; rfl] at ih
      exact ih _ _
    · have hb2 := argK_lt hb
      have hgb : gq E b ≤ 256 := by have := hm_le_all E (show b < 8 by omega); unfold gq; omega
      refine mm_iload d_Lo_bestQuestion_13 rfl ?_
      refine mm_ciN 8 d_Lo_bestQuestion_15 rfl ?_
      refine mm_icmp_geN d_Lo_bestQuestion_17 (by first | omega | exact ite01_lt | exact bt8_lt31 _ _ | exact godB_lt31 _ _ _ | exact pop_lt31 _ | assumption | exact b31 (hW.gp (by omega)) | exact b31 (hW.ne (by omega)) | exact b31 (hW.op (by omega)) | exact and31 (hW.gp (by omega)) | exact and31 (hW.ne (by omega)) | exact and31 (hW.op (by omega)) | exact and31 (by assumption) | exact and31r (hW.ne (by omega)) | exact and31r (hW.gp (by omega)) | exact and31r (by decide)) (by first | omega | exact ite01_lt | exact bt8_lt31 _ _ | exact godB_lt31 _ _ _ | exact pop_lt31 _ | assumption | exact b31 (hW.gp (by omega)) | exact b31 (hW.ne (by omega)) | exact b31 (hW.op (by omega)) | exact and31 (hW.gp (by omega)) | exact and31 (hW.ne (by omega)) | exact and31 (hW.op (by omega)) | exact and31 (by assumption) | exact and31r (hW.ne (by omega)) | exact and31r (hW.gp (by omega)) | exact and31r (by decide)) (fun c_17 => False.elim (by omega)) (fun c_17 => ?_)
      refine mm_aload d_Lo_bestQuestion_20 rfl ?_
      refine mm_ciN 1 d_Lo_bestQuestion_21 rfl ?_
      refine mm_iload d_Lo_bestQuestion_22 rfl ?_
      refine mm_ishl1N d_Lo_bestQuestion_24 (by omega) ?_
      refine mm_v1i d_Lo_bestQuestion_25 hLD.1.1 (sp_Lo_howManyHave hLD hWE h2w ?_)
      refine mm_ist5 d_Lo_bestQuestion_28 ?_
      refine mm_iload d_Lo_bestQuestion_30 rfl ?_
      refine mm_iload d_Lo_bestQuestion_32 rfl ?_
      refine mm_iload d_Lo_bestQuestion_33 rfl ?_
      refine mm_isubN d_Lo_bestQuestion_35 (by omega) ?_
      refine mm_mmaxN d_Lo_bestQuestion_36 (by first | omega | exact ite01_lt | exact bt8_lt31 _ _ | exact godB_lt31 _ _ _ | exact pop_lt31 _ | assumption | exact b31 (hW.gp (by omega)) | exact b31 (hW.ne (by omega)) | exact b31 (hW.op (by omega)) | exact and31 (hW.gp (by omega)) | exact and31 (hW.ne (by omega)) | exact and31 (hW.op (by omega)) | exact and31 (by assumption) | exact and31r (hW.ne (by omega)) | exact and31r (hW.gp (by omega)) | exact and31r (by decide)) (by first | omega | exact ite01_lt | exact bt8_lt31 _ _ | exact godB_lt31 _ _ _ | exact pop_lt31 _ | assumption | exact b31 (hW.gp (by omega)) | exact b31 (hW.ne (by omega)) | exact b31 (hW.op (by omega)) | exact and31 (hW.gp (by omega)) | exact and31 (hW.ne (by omega)) | exact and31 (hW.op (by omega)) | exact and31 (by assumption) | exact and31r (hW.ne (by omega)) | exact and31r (hW.gp (by omega)) | exact and31r (by decide)) (Nat.le_of_ble_eq_true rfl) (Nat.le_of_ble_eq_true rfl) ?_
      rw [← hgd]
      refine mm_ist6 d_Lo_bestQuestion_39 ?_
      refine mm_iload d_Lo_bestQuestion_41 rfl ?_
      refine mm_ci d_Lo_bestQuestion_42 ?_
      refine mm_icmp_eqM1 d_Lo_bestQuestion_43 (by first | omega | exact ite01_lt | exact bt8_lt31 _ _ | exact godB_lt31 _ _ _ | exact pop_lt31 _ | assumption | exact b31 (hW.gp (by omega)) | exact b31 (hW.ne (by omega)) | exact b31 (hW.op (by omega)) | exact and31 (hW.gp (by omega)) | exact and31 (hW.ne (by omega)) | exact and31 (hW.op (by omega)) | exact and31 (by assumption) | exact and31r (hW.ne (by omega)) | exact and31r (hW.gp (by omega)) | exact and31r (by decide)) ?_
      refine mm_iload d_Lo_bestQuestion_46 rfl ?_
      refine mm_iload d_Lo_bestQuestion_48 rfl ?_
      change mm_T _ _ _ _ _ _ _ (.int (nI (gq E b)) :: _) _ _
      refine mm_icmp_geN d_Lo_bestQuestion_49 (by first | omega | exact ite01_lt | exact bt8_lt31 _ _ | exact godB_lt31 _ _ _ | exact pop_lt31 _ | assumption | exact b31 (hW.gp (by omega)) | exact b31 (hW.ne (by omega)) | exact b31 (hW.op (by omega)) | exact and31 (hW.gp (by omega)) | exact and31 (hW.ne (by omega)) | exact and31 (hW.op (by omega)) | exact and31 (by assumption) | exact and31r (hW.ne (by omega)) | exact and31r (hW.gp (by omega)) | exact and31r (by decide)) (by first | omega | exact ite01_lt | exact bt8_lt31 _ _ | exact godB_lt31 _ _ _ | exact pop_lt31 _ | assumption | exact b31 (hW.gp (by omega)) | exact b31 (hW.ne (by omega)) | exact b31 (hW.op (by omega)) | exact and31 (hW.gp (by omega)) | exact and31 (hW.ne (by omega)) | exact and31 (hW.op (by omega)) | exact and31 (by assumption) | exact and31r (hW.ne (by omega)) | exact and31r (hW.gp (by omega)) | exact and31r (by decide)) (fun c_49 => ?_) (fun c_49 => ?_)
      · refine mm_inc4N d_Lo_bestQuestion_58 ?_
        refine mm_goto d_Lo_bestQuestion_61 ?_
        first
          | (rw [show argK (gq E) (w + 1) = some w by unfold argK; rw [hb]; simp [lessB] <;> omega] at ih; exact ih _ _)
          | (rw [show argK (gq E) (w + 1) = some b by unfold argK; rw [hb]; simp [lessB] <;> omega] at ih; exact ih _ _)
      · refine mm_iload d_Lo_bestQuestion_52 rfl ?_
        refine mm_ist2 d_Lo_bestQuestion_54 ?_
        refine mm_iload d_Lo_bestQuestion_55 rfl ?_
        refine mm_ist3 d_Lo_bestQuestion_57 ?_
        refine mm_inc4N d_Lo_bestQuestion_58 ?_
        refine mm_goto d_Lo_bestQuestion_61 ?_
        first
          | (rw [show argK (gq E) (w + 1) = some w by unfold argK; rw [hb]; simp [lessB] <;> omega] at ih; exact ih _ _)
          | (rw [show argK (gq E) (w + 1) = some b by unfold argK; rw [hb]; simp [lessB] <;> omega] at ih; exact ih _ _)
def leastF (f : Nat → Nat) : Option Nat → Nat
  | none => 1000000
  | some b => f b
theorem sp_M_next {X : mm_X} {μ : mm_M} {q : Int32 → mm_M → Prop} {E : mm_E} (hM : SK μ) (hF : FL μ (fitL E 256)) (h : q (if (fitL E 256).length = 0 then -1 else oI (argK (gq E) 8)) μ) : mm_Ci X 2 0 0 k_M_next [.ref 71] μ q := by
  show mm_T X 2 0 0 k_M_next 0 [some (.ref 71), none, none, none, none] [] μ _
  have hle := fitL_le (E := E) (k := 256) (Nat.le_refl _)
  have h0 := hmK_0 E 256
  by_cases hz : (fitL E 256).length = 0
  · rw [if_pos hz] at h
    refine mm_ci d_M_next_0 ?_
    refine mm_ist1 d_M_next_1 ?_
    refine mm_ciN 1000000 d_M_next_2 rfl ?_
    refine mm_ist2 d_M_next_5 ?_
    refine mm_ciN 0 d_M_next_6 rfl ?_
    refine mm_ist3 d_M_next_7 ?_
    refine mm_iload d_M_next_8 rfl ?_
    refine mm_ciN 8 d_M_next_9 rfl ?_
    refine mm_icmp_geN d_M_next_11 (by first | omega | exact ite01_lt | exact bt8_lt31 _ _ | exact godB_lt31 _ _ _ | exact pop_lt31 _ | assumption | exact b31 (hW.gp (by omega)) | exact b31 (hW.ne (by omega)) | exact b31 (hW.op (by omega)) | exact and31 (hW.gp (by omega)) | exact and31 (hW.ne (by omega)) | exact and31 (hW.op (by omega)) | exact and31 (by assumption) | exact and31r (hW.ne (by omega)) | exact and31r (hW.gp (by omega)) | exact and31r (by decide)) (by first | omega | exact ite01_lt | exact bt8_lt31 _ _ | exact godB_lt31 _ _ _ | exact pop_lt31 _ | assumption | exact b31 (hW.gp (by omega)) | exact b31 (hW.ne (by omega)) | exact b31 (hW.op (by omega)) | exact and31 (hW.gp (by omega)) | exact and31 (hW.ne (by omega)) | exact and31 (hW.op (by omega)) | exact and31 (by assumption) | exact and31r (hW.ne (by omega)) | exact and31r (hW.gp (by omega)) | exact and31r (by decide)) (fun c_11 => False.elim (by omega)) (fun c_11 => ?_)
    refine mm_aload d_M_next_14 rfl ?_
    refine mm_getIN d_M_next_15 rfl (sk_o_71 hM) hF.1 ?_
    refine mm_if_leN d_M_next_18 (by first | omega | exact ite01_lt | exact bt8_lt31 _ _ | exact godB_lt31 _ _ _ | exact pop_lt31 _ | assumption | exact b31 (hW.gp (by omega)) | exact b31 (hW.ne (by omega)) | exact b31 (hW.op (by omega)) | exact and31 (hW.gp (by omega)) | exact and31 (hW.ne (by omega)) | exact and31 (hW.op (by omega)) | exact and31 (by assumption) | exact and31r (hW.ne (by omega)) | exact and31r (hW.gp (by omega)) | exact and31r (by decide)) (fun c_18 => ?_) (fun c_18 => False.elim (by omega))
    refine mm_iload d_M_next_66 rfl ?_
    exact mm_ri d_M_next_67 h
  · rw [if_neg hz] at h
    refine mm_ci d_M_next_0 ?_
    refine mm_ist1 d_M_next_1 ?_
    refine mm_ciN 1000000 d_M_next_2 rfl ?_
    refine mm_ist2 d_M_next_5 ?_
    refine mm_ciN 0 d_M_next_6 rfl ?_
    refine mm_ist3 d_M_next_7 ?_
    refine mm_up (P := fun w => ∀ l4 : Option Value, mm_T X _ 0 0 k_M_next 8 [some (.ref 71), some (.int (oI (argK (gq E) w))), some (.int (nI (leastF (gq E) (argK (gq E) w)))), some (.int (nI w)), l4] [] μ _) 8 ?_ (fun w hw ih => ?_) none
    · intro l4
      refine mm_iload d_M_next_8 rfl ?_
      refine mm_ciN 8 d_M_next_9 rfl ?_
      refine mm_icmp_geN d_M_next_11 (by first | omega | exact ite01_lt | exact bt8_lt31 _ _ | exact godB_lt31 _ _ _ | exact pop_lt31 _ | assumption | exact b31 (hW.gp (by omega)) | exact b31 (hW.ne (by omega)) | exact b31 (hW.op (by omega)) | exact and31 (hW.gp (by omega)) | exact and31 (hW.ne (by omega)) | exact and31 (hW.op (by omega)) | exact and31 (by assumption) | exact and31r (hW.ne (by omega)) | exact and31r (hW.gp (by omega)) | exact and31r (by decide)) (by first | omega | exact ite01_lt | exact bt8_lt31 _ _ | exact godB_lt31 _ _ _ | exact pop_lt31 _ | assumption | exact b31 (hW.gp (by omega)) | exact b31 (hW.ne (by omega)) | exact b31 (hW.op (by omega)) | exact and31 (hW.gp (by omega)) | exact and31 (hW.ne (by omega)) | exact and31 (hW.op (by omega)) | exact and31 (by assumption) | exact and31r (hW.ne (by omega)) | exact and31r (hW.gp (by omega)) | exact and31r (by decide)) (fun c_11 => ?_) (fun c_11 => False.elim (by omega))
      refine mm_iload d_M_next_66 rfl ?_
      exact mm_ri d_M_next_67 h
    · intro l4
      have hm1 := hm_le_all E hw
      have hgd : gq E w = max (hmK E (2 ^ w) 256) (hmK E 0 256 - hmK E (2 ^ w) 256) := rfl
      have hg : gq E w ≤ 256 := by omega
      rcases hb : argK (gq E) w with _ | b
      · refine mm_iload d_M_next_8 rfl ?_
        refine mm_ciN 8 d_M_next_9 rfl ?_
        refine mm_icmp_geN d_M_next_11 (by first | omega | exact ite01_lt | exact bt8_lt31 _ _ | exact godB_lt31 _ _ _ | exact pop_lt31 _ | assumption | exact b31 (hW.gp (by omega)) | exact b31 (hW.ne (by omega)) | exact b31 (hW.op (by omega)) | exact and31 (hW.gp (by omega)) | exact and31 (hW.ne (by omega)) | exact and31 (hW.op (by omega)) | exact and31 (by assumption) | exact and31r (hW.ne (by omega)) | exact and31r (hW.gp (by omega)) | exact and31r (by decide)) (by first | omega | exact ite01_lt | exact bt8_lt31 _ _ | exact godB_lt31 _ _ _ | exact pop_lt31 _ | assumption | exact b31 (hW.gp (by omega)) | exact b31 (hW.ne (by omega)) | exact b31 (hW.op (by omega)) | exact and31 (hW.gp (by omega)) | exact and31 (hW.ne (by omega)) | exact and31 (hW.op (by omega)) | exact and31 (by assumption) | exact and31r (hW.ne (by omega)) | exact and31r (hW.gp (by omega)) | exact and31r (by decide)) (fun c_11 => False.elim (by omega)) (fun c_11 => ?_)
        refine mm_aload d_M_next_14 rfl ?_
        refine mm_getIN d_M_next_15 rfl (sk_o_71 hM) hF.1 ?_
        refine mm_if_leN d_M_next_18 (by first | omega | exact ite01_lt | exact bt8_lt31 _ _ | exact godB_lt31 _ _ _ | exact pop_lt31 _ | assumption | exact b31 (hW.gp (by omega)) | exact b31 (hW.ne (by omega)) | exact b31 (hW.op (by omega)) | exact and31 (hW.gp (by omega)) | exact and31 (hW.ne (by omega)) | exact and31 (hW.op (by omega)) | exact and31 (by assumption) | exact and31r (hW.ne (by omega)) | exact and31r (hW.gp (by omega)) | exact and31r (by decide)) (fun c_18 => False.elim (by omega)) (fun c_18 => ?_)
        refine mm_aload d_M_next_21 rfl ?_
        refine mm_iload d_M_next_22 rfl ?_
        refine mm_v1i d_M_next_23 (sk_o_71 hM) (sp_M_manyHave hM hF hw ?_)
        refine mm_aload d_M_next_26 rfl ?_
        refine mm_getIN d_M_next_27 rfl (sk_o_71 hM) hF.1 ?_
        refine mm_aload d_M_next_30 rfl ?_
        refine mm_iload d_M_next_31 rfl ?_
        refine mm_v1i d_M_next_32 (sk_o_71 hM) (sp_M_manyHave hM hF hw ?_)
        refine mm_isubN d_M_next_35 (by omega) ?_
        refine mm_s2i d_M_next_36 (sp_M_greaterN (by first | omega | exact ite01_lt | exact bt8_lt31 _ _ | exact godB_lt31 _ _ _ | exact pop_lt31 _ | assumption | exact b31 (hW.gp (by omega)) | exact b31 (hW.ne (by omega)) | exact b31 (hW.op (by omega)) | exact and31 (hW.gp (by omega)) | exact and31 (hW.ne (by omega)) | exact and31 (hW.op (by omega)) | exact and31 (by assumption) | exact and31r (hW.ne (by omega)) | exact and31r (hW.gp (by omega)) | exact and31r (by decide)) (by first | omega | exact ite01_lt | exact bt8_lt31 _ _ | exact godB_lt31 _ _ _ | exact pop_lt31 _ | assumption | exact b31 (hW.gp (by omega)) | exact b31 (hW.ne (by omega)) | exact b31 (hW.op (by omega)) | exact and31 (hW.gp (by omega)) | exact and31 (hW.ne (by omega)) | exact and31 (hW.op (by omega)) | exact and31 (by assumption) | exact and31r (hW.ne (by omega)) | exact and31r (hW.gp (by omega)) | exact and31r (by decide)) ?_)
        rw [← h0, ← hgd]
        refine mm_ist4 d_M_next_39 ?_
        refine mm_iload d_M_next_41 rfl ?_
        refine mm_iload d_M_next_43 rfl ?_
        change mm_T _ _ _ _ _ _ _ (.int (nI 1000000) :: _) _ _
        refine mm_icmp_geN d_M_next_44 (by first | omega | exact ite01_lt | exact bt8_lt31 _ _ | exact godB_lt31 _ _ _ | exact pop_lt31 _ | assumption | exact b31 (hW.gp (by omega)) | exact b31 (hW.ne (by omega)) | exact b31 (hW.op (by omega)) | exact and31 (hW.gp (by omega)) | exact and31 (hW.ne (by omega)) | exact and31 (hW.op (by omega)) | exact and31 (by assumption) | exact and31r (hW.ne (by omega)) | exact and31r (hW.gp (by omega)) | exact and31r (by decide)) (by first | omega | exact ite01_lt | exact bt8_lt31 _ _ | exact godB_lt31 _ _ _ | exact pop_lt31 _ | assumption | exact b31 (hW.gp (by omega)) | exact b31 (hW.ne (by omega)) | exact b31 (hW.op (by omega)) | exact and31 (hW.gp (by omega)) | exact and31 (hW.ne (by omega)) | exact and31 (hW.op (by omega)) | exact and31 (by assumption) | exact and31r (hW.ne (by omega)) | exact and31r (hW.gp (by omega)) | exact and31r (by decide)) (fun c_44 => False.elim (by omega)) (fun c_44 => ?_)
        refine mm_iload d_M_next_47 rfl ?_
        refine mm_goto d_M_next_48 ?_
        refine mm_ist1 d_M_next_52 ?_
        refine mm_iload d_M_next_53 rfl ?_
        refine mm_iload d_M_next_54 rfl ?_
        change mm_T _ _ _ _ _ _ _ (_ :: .int (nI 1000000) :: _) _ _
        refine mm_s2i d_M_next_56 (sp_M_lesserN (by decide) (by omega) ?_)
        rw [Nat.min_eq_right (by omega)]
        refine mm_ist2 d_M_next_59 ?_
        refine mm_inc3N d_M_next_60 ?_
        refine mm_goto d_M_next_63 ?_
        rw [show argK (gq E) (w + 1) = some w by unfold argK; rw [hb]; rfl] at ih
        exact ih _
      · have hb2 := argK_lt hb
        have hgb : gq E b ≤ 256 := by have := hm_le_all E (show b < 8 by omega); unfold gq; omega
        refine mm_iload d_M_next_8 rfl ?_
        refine mm_ciN 8 d_M_next_9 rfl ?_
        refine mm_icmp_geN d_M_next_11 (by first | omega | exact ite01_lt | exact bt8_lt31 _ _ | exact godB_lt31 _ _ _ | exact pop_lt31 _ | assumption | exact b31 (hW.gp (by omega)) | exact b31 (hW.ne (by omega)) | exact b31 (hW.op (by omega)) | exact and31 (hW.gp (by omega)) | exact and31 (hW.ne (by omega)) | exact and31 (hW.op (by omega)) | exact and31 (by assumption) | exact and31r (hW.ne (by omega)) | exact and31r (hW.gp (by omega)) | exact and31r (by decide)) (by first | omega | exact ite01_lt | exact bt8_lt31 _ _ | exact godB_lt31 _ _ _ | exact pop_lt31 _ | assumption | exact b31 (hW.gp (by omega)) | exact b31 (hW.ne (by omega)) | exact b31 (hW.op (by omega)) | exact and31 (hW.gp (by omega)) | exact and31 (hW.ne (by omega)) | exact and31 (hW.op (by omega)) | exact and31 (by assumption) | exact and31r (hW.ne (by omega)) | exact and31r (hW.gp (by omega)) | exact and31r (by decide)) (fun c_11 => False.elim (by omega)) (fun c_11 => ?_)
        refine mm_aload d_M_next_14 rfl ?_
        refine mm_getIN d_M_next_15 rfl (sk_o_71 hM) hF.1 ?_
        refine mm_if_leN d_M_next_18 (by first | omega | exact ite01_lt | exact bt8_lt31 _ _ | exact godB_lt31 _ _ _ | exact pop_lt31 _ | assumption | exact b31 (hW.gp (by omega)) | exact b31 (hW.ne (by omega)) | exact b31 (hW.op (by omega)) | exact and31 (hW.gp (by omega)) | exact and31 (hW.ne (by omega)) | exact and31 (hW.op (by omega)) | exact and31 (by assumption) | exact and31r (hW.ne (by omega)) | exact and31r (hW.gp (by omega)) | exact and31r (by decide)) (fun c_18 => False.elim (by omega)) (fun c_18 => ?_)
        refine mm_aload d_M_next_21 rfl ?_
        refine mm_iload d_M_next_22 rfl ?_
        refine mm_v1i d_M_next_23 (sk_o_71 hM) (sp_M_manyHave hM hF hw ?_)
        refine mm_aload d_M_next_26 rfl ?_
        refine mm_getIN d_M_next_27 rfl (sk_o_71 hM) hF.1 ?_
        refine mm_aload d_M_next_30 rfl ?_
        refine mm_iload d_M_next_31 rfl ?_
        refine mm_v1i d_M_next_32 (sk_o_71 hM) (sp_M_manyHave hM hF hw ?_)
        refine mm_isubN d_M_next_35 (by omega) ?_
        refine mm_s2i d_M_next_36 (sp_M_greaterN (by first | omega | exact ite01_lt | exact bt8_lt31 _ _ | exact godB_lt31 _ _ _ | exact pop_lt31 _ | assumption | exact b31 (hW.gp (by omega)) | exact b31 (hW.ne (by omega)) | exact b31 (hW.op (by omega)) | exact and31 (hW.gp (by omega)) | exact and31 (hW.ne (by omega)) | exact and31 (hW.op (by omega)) | exact and31 (by assumption) | exact and31r (hW.ne (by omega)) | exact and31r (hW.gp (by omega)) | exact and31r (by decide)) (by first | omega | exact ite01_lt | exact bt8_lt31 _ _ | exact godB_lt31 _ _ _ | exact pop_lt31 _ | assumption | exact b31 (hW.gp (by omega)) | exact b31 (hW.ne (by omega)) | exact b31 (hW.op (by omega)) | exact and31 (hW.gp (by omega)) | exact and31 (hW.ne (by omega)) | exact and31 (hW.op (by omega)) | exact and31 (by assumption) | exact and31r (hW.ne (by omega)) | exact and31r (hW.gp (by omega)) | exact and31r (by decide)) ?_)
        rw [← h0, ← hgd]
        refine mm_ist4 d_M_next_39 ?_
        refine mm_iload d_M_next_41 rfl ?_
        refine mm_iload d_M_next_43 rfl ?_
        change mm_T _ _ _ _ _ _ _ (.int (nI (gq E b)) :: _) _ _
        refine mm_icmp_geN d_M_next_44 (by first | omega | exact ite01_lt | exact bt8_lt31 _ _ | exact godB_lt31 _ _ _ | exact pop_lt31 _ | assumption | exact b31 (hW.gp (by omega)) | exact b31 (hW.ne (by omega)) | exact b31 (hW.op (by omega)) | exact and31 (hW.gp (by omega)) | exact and31 (hW.ne (by omega)) | exact and31 (hW.op (by omega)) | exact and31 (by assumption) | exact and31r (hW.ne (by omega)) | exact and31r (hW.gp (by omega)) | exact and31r (by decide)) (by first | omega | exact ite01_lt | exact bt8_lt31 _ _ | exact godB_lt31 _ _ _ | exact pop_lt31 _ | assumption | exact b31 (hW.gp (by omega)) | exact b31 (hW.ne (by omega)) | exact b31 (hW.op (by omega)) | exact and31 (hW.gp (by omega)) | exact and31 (hW.ne (by omega)) | exact and31 (hW.op (by omega)) | exact and31 (by assumption) | exact and31r (hW.ne (by omega)) | exact and31r (hW.gp (by omega)) | exact and31r (by decide)) (fun c_44 => ?_) (fun c_44 => ?_)
        · refine mm_iload d_M_next_51 rfl ?_
          refine mm_ist1 d_M_next_52 ?_
          refine mm_iload d_M_next_53 rfl ?_
          refine mm_iload d_M_next_54 rfl ?_
          change mm_T _ _ _ _ _ _ _ (_ :: .int (nI (gq E b)) :: _) _ _
          refine mm_s2i d_M_next_56 (sp_M_lesserN (by first | omega | exact ite01_lt | exact bt8_lt31 _ _ | exact godB_lt31 _ _ _ | exact pop_lt31 _ | assumption | exact b31 (hW.gp (by omega)) | exact b31 (hW.ne (by omega)) | exact b31 (hW.op (by omega)) | exact and31 (hW.gp (by omega)) | exact and31 (hW.ne (by omega)) | exact and31 (hW.op (by omega)) | exact and31 (by assumption) | exact and31r (hW.ne (by omega)) | exact and31r (hW.gp (by omega)) | exact and31r (by decide)) (by first | omega | exact ite01_lt | exact bt8_lt31 _ _ | exact godB_lt31 _ _ _ | exact pop_lt31 _ | assumption | exact b31 (hW.gp (by omega)) | exact b31 (hW.ne (by omega)) | exact b31 (hW.op (by omega)) | exact and31 (hW.gp (by omega)) | exact and31 (hW.ne (by omega)) | exact and31 (hW.op (by omega)) | exact and31 (by assumption) | exact and31r (hW.ne (by omega)) | exact and31r (hW.gp (by omega)) | exact and31r (by decide)) ?_)
          refine mm_ist2 d_M_next_59 ?_
          refine mm_inc3N d_M_next_60 ?_
          refine mm_goto d_M_next_63 ?_
          first
            | (rw [show argK (gq E) (w + 1) = some w by unfold argK; rw [hb]; simp [lessB] <;> omega] at ih; rw [Nat.min_eq_right (by omega)]; exact ih _)
            | (rw [show argK (gq E) (w + 1) = some b by unfold argK; rw [hb]; simp [lessB] <;> omega] at ih; rw [Nat.min_eq_left (by omega)]; exact ih _)
        · refine mm_iload d_M_next_47 rfl ?_
          refine mm_goto d_M_next_48 ?_
          refine mm_ist1 d_M_next_52 ?_
          refine mm_iload d_M_next_53 rfl ?_
          refine mm_iload d_M_next_54 rfl ?_
          change mm_T _ _ _ _ _ _ _ (_ :: .int (nI (gq E b)) :: _) _ _
          refine mm_s2i d_M_next_56 (sp_M_lesserN (by first | omega | exact ite01_lt | exact bt8_lt31 _ _ | exact godB_lt31 _ _ _ | exact pop_lt31 _ | assumption | exact b31 (hW.gp (by omega)) | exact b31 (hW.ne (by omega)) | exact b31 (hW.op (by omega)) | exact and31 (hW.gp (by omega)) | exact and31 (hW.ne (by omega)) | exact and31 (hW.op (by omega)) | exact and31 (by assumption) | exact and31r (hW.ne (by omega)) | exact and31r (hW.gp (by omega)) | exact and31r (by decide)) (by first | omega | exact ite01_lt | exact bt8_lt31 _ _ | exact godB_lt31 _ _ _ | exact pop_lt31 _ | assumption | exact b31 (hW.gp (by omega)) | exact b31 (hW.ne (by omega)) | exact b31 (hW.op (by omega)) | exact and31 (hW.gp (by omega)) | exact and31 (hW.ne (by omega)) | exact and31 (hW.op (by omega)) | exact and31 (by assumption) | exact and31r (hW.ne (by omega)) | exact and31r (hW.gp (by omega)) | exact and31r (by decide)) ?_)
          refine mm_ist2 d_M_next_59 ?_
          refine mm_inc3N d_M_next_60 ?_
          refine mm_goto d_M_next_63 ?_
          first
            | (rw [show argK (gq E) (w + 1) = some w by unfold argK; rw [hb]; simp [lessB] <;> omega] at ih; rw [Nat.min_eq_right (by omega)]; exact ih _)
            | (rw [show argK (gq E) (w + 1) = some b by unfold argK; rw [hb]; simp [lessB] <;> omega] at ih; rw [Nat.min_eq_left (by omega)]; exact ih _)
theorem sp_Lo_fitting {X : mm_X} {μ : mm_M} {q : Int32 → mm_M → Prop} {a t : Nat} {E : mm_E} (hLD : LoD μ a E) (hWE : WfE E) (ht : t < 2 ^ 31) (h : q (if t < (fitL E 256).length then nI ((fitL E 256).getD t 0) else -2) μ) : mm_Ci X 2 0 0 k_Lo_fitting [.ref a, .int (nI t)] μ q := by
  show mm_T X 2 0 0 k_Lo_fitting 0 [some (.ref a), some (.int (nI t)), none, none] [] μ _
  refine mm_ciN 0 d_Lo_fitting_0 rfl ?_
  refine mm_ist2 d_Lo_fitting_1 ?_
  refine mm_ciN 0 d_Lo_fitting_2 rfl ?_
  refine mm_ist3 d_Lo_fitting_3 ?_
  refine mm_up (P := fun s => (fitL E s).length ≤ t → mm_T X _ 0 0 k_Lo_fitting 4 [some (.ref a), some (.int (nI t)), some (.int (nI (fitL E s).length)), some (.int (nI s))] [] μ _) 256 ?_ (fun s hs ih => ?_) (Nat.zero_le _)
  · intro hl
    rw [if_neg (by omega)] at h
    refine mm_iload d_Lo_fitting_4 rfl ?_
    refine mm_ciN 255 d_Lo_fitting_5 rfl ?_
    refine mm_icmp_gtN d_Lo_fitting_8 (by first | omega | exact ite01_lt | exact bt8_lt31 _ _ | exact godB_lt31 _ _ _ | exact pop_lt31 _ | assumption | exact b31 (hW.gp (by omega)) | exact b31 (hW.ne (by omega)) | exact b31 (hW.op (by omega)) | exact and31 (hW.gp (by omega)) | exact and31 (hW.ne (by omega)) | exact and31 (hW.op (by omega)) | exact and31 (by assumption) | exact and31r (hW.ne (by omega)) | exact and31r (hW.gp (by omega)) | exact and31r (by decide)) (by first | omega | exact ite01_lt | exact bt8_lt31 _ _ | exact godB_lt31 _ _ _ | exact pop_lt31 _ | assumption | exact b31 (hW.gp (by omega)) | exact b31 (hW.ne (by omega)) | exact b31 (hW.op (by omega)) | exact and31 (hW.gp (by omega)) | exact and31 (hW.ne (by omega)) | exact and31 (hW.op (by omega)) | exact and31 (by assumption) | exact and31r (hW.ne (by omega)) | exact and31r (hW.gp (by omega)) | exact and31r (by decide)) (fun c_8 => ?_) (fun c_8 => False.elim (by omega))
    refine mm_ci d_Lo_fitting_35 ?_
    exact mm_ri d_Lo_fitting_37 h
  · intro hl
    have hfi := fitI_lt31 E s
    have hle := fitL_le (E := E) (k := s) (by omega)
    refine mm_iload d_Lo_fitting_4 rfl ?_
    refine mm_ciN 255 d_Lo_fitting_5 rfl ?_
    refine mm_icmp_gtN d_Lo_fitting_8 (by first | omega | exact ite01_lt | exact bt8_lt31 _ _ | exact godB_lt31 _ _ _ | exact pop_lt31 _ | assumption | exact b31 (hW.gp (by omega)) | exact b31 (hW.ne (by omega)) | exact b31 (hW.op (by omega)) | exact and31 (hW.gp (by omega)) | exact and31 (hW.ne (by omega)) | exact and31 (hW.op (by omega)) | exact and31 (by assumption) | exact and31r (hW.ne (by omega)) | exact and31r (hW.gp (by omega)) | exact and31r (by decide)) (by first | omega | exact ite01_lt | exact bt8_lt31 _ _ | exact godB_lt31 _ _ _ | exact pop_lt31 _ | assumption | exact b31 (hW.gp (by omega)) | exact b31 (hW.ne (by omega)) | exact b31 (hW.op (by omega)) | exact and31 (hW.gp (by omega)) | exact and31 (hW.ne (by omega)) | exact and31 (hW.op (by omega)) | exact and31 (by assumption) | exact and31r (hW.ne (by omega)) | exact and31r (hW.gp (by omega)) | exact and31r (by decide)) (fun c_8 => False.elim (by omega)) (fun c_8 => ?_)
    refine mm_aload d_Lo_fitting_11 rfl ?_
    refine mm_iload d_Lo_fitting_12 rfl ?_
    refine mm_v1i d_Lo_fitting_13 hLD.1.1 (sp_Lo_allows hLD hWE hs ?_)
    refine mm_if_eqN d_Lo_fitting_16 (by first | omega | exact ite01_lt | exact bt8_lt31 _ _ | exact godB_lt31 _ _ _ | exact pop_lt31 _ | assumption | exact b31 (hW.gp (by omega)) | exact b31 (hW.ne (by omega)) | exact b31 (hW.op (by omega)) | exact and31 (hW.gp (by omega)) | exact and31 (hW.ne (by omega)) | exact and31 (hW.op (by omega)) | exact and31 (by assumption) | exact and31r (hW.ne (by omega)) | exact and31r (hW.gp (by omega)) | exact and31r (by decide)) (fun c_16 => ?_) (fun c_16 => ?_)
    · refine mm_inc3N d_Lo_fitting_29 ?_
      refine mm_goto d_Lo_fitting_32 ?_
      first
        | (rw [fitL_0 c_16] at ih; exact ih hl)
        | (rw [fitL_1 c_16, List.length_append] at ih; exact ih (by simp; omega))
    · refine mm_iload d_Lo_fitting_19 rfl ?_
      refine mm_iload d_Lo_fitting_20 rfl ?_
      refine mm_icmp_neN d_Lo_fitting_21 (by first | omega | exact ite01_lt | exact bt8_lt31 _ _ | exact godB_lt31 _ _ _ | exact pop_lt31 _ | assumption | exact b31 (hW.gp (by omega)) | exact b31 (hW.ne (by omega)) | exact b31 (hW.op (by omega)) | exact and31 (hW.gp (by omega)) | exact and31 (hW.ne (by omega)) | exact and31 (hW.op (by omega)) | exact and31 (by assumption) | exact and31r (hW.ne (by omega)) | exact and31r (hW.gp (by omega)) | exact and31r (by decide)) (by first | omega | exact ite01_lt | exact bt8_lt31 _ _ | exact godB_lt31 _ _ _ | exact pop_lt31 _ | assumption | exact b31 (hW.gp (by omega)) | exact b31 (hW.ne (by omega)) | exact b31 (hW.op (by omega)) | exact and31 (hW.gp (by omega)) | exact and31 (hW.ne (by omega)) | exact and31 (hW.op (by omega)) | exact and31 (by assumption) | exact and31r (hW.ne (by omega)) | exact and31r (hW.gp (by omega)) | exact and31r (by decide)) (fun c_21 => ?_) (fun c_21 => ?_)
      · refine mm_inc2N d_Lo_fitting_26 ?_
        refine mm_inc3N d_Lo_fitting_29 ?_
        refine mm_goto d_Lo_fitting_32 ?_
        first
          | (rw [fitL_0 c_16] at ih; exact ih hl)
          | (rw [fitL_1 c_16, List.length_append] at ih; exact ih (by simp; omega))
      · have hp := fitL_pre (E := E) (s := s + 1) (256 - (s + 1))
        rw [show s + 1 + (256 - (s + 1)) = 256 by omega, fitL_1 c_16, List.length_append] at hp
        have hp1 : t < (fitL E 256).length := by have := hp.1; simp at this; omega
        have hp2 := hp.2 t (by simp; omega)
        rw [← c_21, getD_last] at hp2
        rw [c_21] at hp2
        rw [if_pos hp1, hp2] at h
        refine mm_iload d_Lo_fitting_24 rfl ?_
        exact mm_ri d_Lo_fitting_25 h
theorem pair_fits {X : mm_X} {k : Nat} {μ : mm_M} (hJ : JJ k μ) (y1 y2 : Int32) : PairI X (JJ (k + 1)) k_G_fits k_M_fits [.int y1, .int y2] μ := by
  obtain ⟨c, h02, h0, m0, hv⟩ := hJ.log y1
  have hM := hJ.1
  have hw := hJ.2.2.2.up
  rcases hv with hx | ⟨i, E, hi, rfl, hWE, hLD, hLM⟩
  · exact pairQ (-2) hJ (d := 2) (d' := 4) (by decide) (by decide) (n_G_fits hM h0 h02 hx ⟨rfl, Fr.rf, hw⟩) (fun μ1 hf => n_M_fits (hf.2.2.2 hM) (by rw [(hf.2.2.1 76 rfl).1]; exact m0) h02 hx (fun μ' hk => ⟨rfl, hk.fr (hf.2.2.2 hM)⟩))
  have h0256 := hmK_0 E 256
  have hle := fitL_le (E := E) (k := 256) (Nat.le_refl _)
  by_cases hn : y2 < 0
  · refine pairQ (-2) hJ (d := 12) (d' := 12) (by decide) (by decide) ?_ (fun μ1 hf => ?_)
    · show mm_T X 12 0 0 k_G_fits 0 [some (.ref 0), some (.int (nI i)), some (.int y2), none, none] [] μ _
      refine mm_aload d_G_fits_0 rfl ?_
      refine mm_getP d_G_fits_1 rfl (sk_o_0 hM) (sk_p_0_0 hM) ?_
      refine mm_iload d_G_fits_4 rfl ?_
      refine mm_v1r d_G_fits_5 (sk_o_1 hM) (sp_To_logAtI hM h0 h02 hi ?_)
      refine mm_ast3 d_G_fits_8 ?_
      refine mm_aload d_G_fits_9 rfl ?_
      refine mm_ifnonnull d_G_fits_10 ?_
      refine mm_aload d_G_fits_16 rfl ?_
      refine mm_ciN 0 d_G_fits_17 rfl ?_
      refine mm_v1i d_G_fits_18 hLD.1.1 (sp_Lo_howManyHave hLD hWE (by decide) ?_)
      refine mm_ist4 d_G_fits_21 ?_
      refine mm_iload d_G_fits_23 rfl ?_
      refine mm_if_ne d_G_fits_24 (fun c_24 => ?_) (fun c_24 => False.elim (by rw [Decidable.not_not.mp c_24] at hn; exact absurd hn (by decide)))
      refine mm_iload d_G_fits_30 rfl ?_
      refine mm_ciN 1 d_G_fits_31 rfl ?_
      refine mm_icmp_ne d_G_fits_32 (fun c_32 => ?_) (fun c_32 => False.elim (by rw [Decidable.not_not.mp c_32] at hn; exact absurd hn (by decide)))
      refine mm_iload d_G_fits_49 rfl ?_
      refine mm_ciN 2 d_G_fits_50 rfl ?_
      refine mm_icmp_ne d_G_fits_51 (fun c_51 => ?_) (fun c_51 => False.elim (by rw [Decidable.not_not.mp c_51] at hn; exact absurd hn (by decide)))
      refine mm_iload d_G_fits_68 rfl ?_
      refine mm_ciN 10 d_G_fits_69 rfl ?_
      refine mm_icmp_ge d_G_fits_71 (fun c_71 => False.elim (absurd (Int32.lt_of_le_of_lt c_71 hn) (by decide))) (fun c_71 => ?_)
      refine mm_ci d_G_fits_74 ?_
      refine mm_goto d_G_fits_76 ?_
      exact mm_ri d_G_fits_87 ⟨rfl, Fr.rf, hw⟩
    · show mm_T X 12 0 0 k_M_fits 0 [some (.ref 71), some (.int (nI i)), some (.int y2)] [] μ1 _
      replace hM := hf.2.2.2 hM
      refine mm_aload d_M_fits_0 rfl ?_
      refine mm_ciN 0 d_M_fits_1 rfl ?_
      refine mm_putI d_M_fits_2 rfl (sk_o_71 hM) (Or.inl rfl) ?_
      refine mm_aload d_M_fits_5 rfl ?_
      refine mm_iload d_M_fits_6 rfl ?_
      refine mm_v1i d_M_fits_7 (sk_o_71 hM) (sp_M_layLog hM (by rw [mm_sI_off (by decide), (hf.2.2.1 76 rfl).1]; exact m0) h02 hi ((hLM.frC hf rfl).sI) hWE (fun μ2 g1 hM hF => ?_))
      refine mm_if_neN d_M_fits_10 (by first | omega | exact ite01_lt | exact bt8_lt31 _ _ | exact godB_lt31 _ _ _ | exact pop_lt31 _ | assumption | exact b31 (hW.gp (by omega)) | exact b31 (hW.ne (by omega)) | exact b31 (hW.op (by omega)) | exact and31 (hW.gp (by omega)) | exact and31 (hW.ne (by omega)) | exact and31 (hW.op (by omega)) | exact and31 (by assumption) | exact and31r (hW.ne (by omega)) | exact and31r (hW.gp (by omega)) | exact and31r (by decide)) (fun c_10 => ?_) (fun c_10 => False.elim (by omega))
      refine mm_iload d_M_fits_16 rfl ?_
      refine mm_ciN 10 d_M_fits_17 rfl ?_
      refine mm_icmp_lt d_M_fits_19 (fun c_19 => ?_) (fun c_19 => False.elim (c_19 (Int32.lt_trans hn (by decide))))
      refine mm_iload d_M_fits_48 rfl ?_
      refine mm_switchOut (n := 0) d_M_fits_49 (Or.inl (Int32.lt_iff_toInt_lt.mp hn)) ?_
      refine mm_ci d_M_fits_91 ?_
      exact mm_ri d_M_fits_93 ⟨rfl, (Fr.rf.sI rfl).trans g1⟩
  · obtain ⟨t, ht, rfl⟩ := nI_of hn
    have h5 : t = 0 ∨ t = 1 ∨ t = 2 ∨ (3 ≤ t ∧ t < 10) ∨ 10 ≤ t := by omega
    rcases h5 with rfl | rfl | rfl | h5 | h5
    · refine pairQ (nI (hmK E 0 256)) hJ (d := 12) (d' := 12) (by decide) (by decide) ?_ (fun μ1 hf => ?_)
      · show mm_T X 12 0 0 k_G_fits 0 [some (.ref 0), some (.int (nI i)), some (.int (nI 0)), none, none] [] μ _
        refine mm_aload d_G_fits_0 rfl ?_
        refine mm_getP d_G_fits_1 rfl (sk_o_0 hM) (sk_p_0_0 hM) ?_
        refine mm_iload d_G_fits_4 rfl ?_
        refine mm_v1r d_G_fits_5 (sk_o_1 hM) (sp_To_logAtI hM h0 h02 hi ?_)
        refine mm_ast3 d_G_fits_8 ?_
        refine mm_aload d_G_fits_9 rfl ?_
        refine mm_ifnonnull d_G_fits_10 ?_
        refine mm_aload d_G_fits_16 rfl ?_
        refine mm_ciN 0 d_G_fits_17 rfl ?_
        refine mm_v1i d_G_fits_18 hLD.1.1 (sp_Lo_howManyHave hLD hWE (by decide) ?_)
        refine mm_ist4 d_G_fits_21 ?_
        refine mm_iload d_G_fits_23 rfl ?_
        refine mm_if_neN d_G_fits_24 (by first | omega | exact ite01_lt | exact bt8_lt31 _ _ | exact godB_lt31 _ _ _ | exact pop_lt31 _ | assumption | exact b31 (hW.gp (by omega)) | exact b31 (hW.ne (by omega)) | exact b31 (hW.op (by omega)) | exact and31 (hW.gp (by omega)) | exact and31 (hW.ne (by omega)) | exact and31 (hW.op (by omega)) | exact and31 (by assumption) | exact and31r (hW.ne (by omega)) | exact and31r (hW.gp (by omega)) | exact and31r (by decide)) (fun c_24 => False.elim (by omega)) (fun c_24 => ?_)
        refine mm_iload d_G_fits_27 rfl ?_
        exact mm_ri d_G_fits_29 ⟨rfl, Fr.rf, hw⟩
      · rw [h0256]
        show mm_T X 12 0 0 k_M_fits 0 [some (.ref 71), some (.int (nI i)), some (.int (nI 0))] [] μ1 _
        replace hM := hf.2.2.2 hM
        refine mm_aload d_M_fits_0 rfl ?_
        refine mm_ciN 0 d_M_fits_1 rfl ?_
        refine mm_putI d_M_fits_2 rfl (sk_o_71 hM) (Or.inl rfl) ?_
        refine mm_aload d_M_fits_5 rfl ?_
        refine mm_iload d_M_fits_6 rfl ?_
        refine mm_v1i d_M_fits_7 (sk_o_71 hM) (sp_M_layLog hM (by rw [mm_sI_off (by decide), (hf.2.2.1 76 rfl).1]; exact m0) h02 hi ((hLM.frC hf rfl).sI) hWE (fun μ2 g1 hM hF => ?_))
        refine mm_if_neN d_M_fits_10 (by first | omega | exact ite01_lt | exact bt8_lt31 _ _ | exact godB_lt31 _ _ _ | exact pop_lt31 _ | assumption | exact b31 (hW.gp (by omega)) | exact b31 (hW.ne (by omega)) | exact b31 (hW.op (by omega)) | exact and31 (hW.gp (by omega)) | exact and31 (hW.ne (by omega)) | exact and31 (hW.op (by omega)) | exact and31 (by assumption) | exact and31r (hW.ne (by omega)) | exact and31r (hW.gp (by omega)) | exact and31r (by decide)) (fun c_10 => ?_) (fun c_10 => False.elim (by omega))
        refine mm_iload d_M_fits_16 rfl ?_
        refine mm_ciN 10 d_M_fits_17 rfl ?_
        refine mm_icmp_ltN d_M_fits_19 (by first | omega | exact ite01_lt | exact bt8_lt31 _ _ | exact godB_lt31 _ _ _ | exact pop_lt31 _ | assumption | exact b31 (hW.gp (by omega)) | exact b31 (hW.ne (by omega)) | exact b31 (hW.op (by omega)) | exact and31 (hW.gp (by omega)) | exact and31 (hW.ne (by omega)) | exact and31 (hW.op (by omega)) | exact and31 (by assumption) | exact and31r (hW.ne (by omega)) | exact and31r (hW.gp (by omega)) | exact and31r (by decide)) (by first | omega | exact ite01_lt | exact bt8_lt31 _ _ | exact godB_lt31 _ _ _ | exact pop_lt31 _ | assumption | exact b31 (hW.gp (by omega)) | exact b31 (hW.ne (by omega)) | exact b31 (hW.op (by omega)) | exact and31 (hW.gp (by omega)) | exact and31 (hW.ne (by omega)) | exact and31 (hW.op (by omega)) | exact and31 (by assumption) | exact and31r (hW.ne (by omega)) | exact and31r (hW.gp (by omega)) | exact and31r (by decide)) (fun c_19 => ?_) (fun c_19 => False.elim (by omega))
        refine mm_iload d_M_fits_48 rfl ?_
        refine mm_switchIn (n := 0) d_M_fits_49 0 (by decide) (by decide) rfl ?_
        refine mm_aload d_M_fits_76 rfl ?_
        refine mm_getIN d_M_fits_77 rfl (sk_o_71 hM) hF.1 ?_
        exact mm_ri d_M_fits_80 ⟨rfl, (Fr.rf.sI rfl).trans g1⟩
    · refine pairQ (if (fitL E 256).length = 0 then -1 else nI (inAllK E 256)) hJ (d := 12) (d' := 12) (by decide) (by decide) ?_ (fun μ1 hf => ?_)
      · show mm_T X 12 0 0 k_G_fits 0 [some (.ref 0), some (.int (nI i)), some (.int (nI 1)), none, none] [] μ _
        refine mm_aload d_G_fits_0 rfl ?_
        refine mm_getP d_G_fits_1 rfl (sk_o_0 hM) (sk_p_0_0 hM) ?_
        refine mm_iload d_G_fits_4 rfl ?_
        refine mm_v1r d_G_fits_5 (sk_o_1 hM) (sp_To_logAtI hM h0 h02 hi ?_)
        refine mm_ast3 d_G_fits_8 ?_
        refine mm_aload d_G_fits_9 rfl ?_
        refine mm_ifnonnull d_G_fits_10 ?_
        refine mm_aload d_G_fits_16 rfl ?_
        refine mm_ciN 0 d_G_fits_17 rfl ?_
        refine mm_v1i d_G_fits_18 hLD.1.1 (sp_Lo_howManyHave hLD hWE (by decide) ?_)
        refine mm_ist4 d_G_fits_21 ?_
        refine mm_iload d_G_fits_23 rfl ?_
        refine mm_if_neN d_G_fits_24 (by first | omega | exact ite01_lt | exact bt8_lt31 _ _ | exact godB_lt31 _ _ _ | exact pop_lt31 _ | assumption | exact b31 (hW.gp (by omega)) | exact b31 (hW.ne (by omega)) | exact b31 (hW.op (by omega)) | exact and31 (hW.gp (by omega)) | exact and31 (hW.ne (by omega)) | exact and31 (hW.op (by omega)) | exact and31 (by assumption) | exact and31r (hW.ne (by omega)) | exact and31r (hW.gp (by omega)) | exact and31r (by decide)) (fun c_24 => ?_) (fun c_24 => False.elim (by omega))
        refine mm_iload d_G_fits_30 rfl ?_
        refine mm_ciN 1 d_G_fits_31 rfl ?_
        refine mm_icmp_neN d_G_fits_32 (by first | omega | exact ite01_lt | exact bt8_lt31 _ _ | exact godB_lt31 _ _ _ | exact pop_lt31 _ | assumption | exact b31 (hW.gp (by omega)) | exact b31 (hW.ne (by omega)) | exact b31 (hW.op (by omega)) | exact and31 (hW.gp (by omega)) | exact and31 (hW.ne (by omega)) | exact and31 (hW.op (by omega)) | exact and31 (by assumption) | exact and31r (hW.ne (by omega)) | exact and31r (hW.gp (by omega)) | exact and31r (by decide)) (by first | omega | exact ite01_lt | exact bt8_lt31 _ _ | exact godB_lt31 _ _ _ | exact pop_lt31 _ | assumption | exact b31 (hW.gp (by omega)) | exact b31 (hW.ne (by omega)) | exact b31 (hW.op (by omega)) | exact and31 (hW.gp (by omega)) | exact and31 (hW.ne (by omega)) | exact and31 (hW.op (by omega)) | exact and31 (by assumption) | exact and31r (hW.ne (by omega)) | exact and31r (hW.gp (by omega)) | exact and31r (by decide)) (fun c_32 => False.elim (by omega)) (fun c_32 => ?_)
        refine mm_iload d_G_fits_35 rfl ?_
        refine mm_if_neN d_G_fits_37 (by first | omega | exact ite01_lt | exact bt8_lt31 _ _ | exact godB_lt31 _ _ _ | exact pop_lt31 _ | assumption | exact b31 (hW.gp (by omega)) | exact b31 (hW.ne (by omega)) | exact b31 (hW.op (by omega)) | exact and31 (hW.gp (by omega)) | exact and31 (hW.ne (by omega)) | exact and31 (hW.op (by omega)) | exact and31 (by assumption) | exact and31r (hW.ne (by omega)) | exact and31r (hW.gp (by omega)) | exact and31r (by decide)) (fun c_37 => ?_) (fun c_37 => ?_)
        · refine mm_aload d_G_fits_44 rfl ?_
          refine mm_v0i d_G_fits_45 hLD.1.1 (sp_Lo_inAll hLD hWE ?_)
          exact mm_ri d_G_fits_48 ⟨by first | exact (if_neg (h0256 ▸ c_37)).symm | exact (if_pos (h0256 ▸ c_37)).symm, Fr.rf, hw⟩
        · refine mm_ci d_G_fits_40 ?_
          refine mm_goto d_G_fits_41 ?_
          exact mm_ri d_G_fits_48 ⟨by first | exact (if_neg (h0256 ▸ c_37)).symm | exact (if_pos (h0256 ▸ c_37)).symm, Fr.rf, hw⟩
      · show mm_T X 12 0 0 k_M_fits 0 [some (.ref 71), some (.int (nI i)), some (.int (nI 1))] [] μ1 _
        replace hM := hf.2.2.2 hM
        refine mm_aload d_M_fits_0 rfl ?_
        refine mm_ciN 0 d_M_fits_1 rfl ?_
        refine mm_putI d_M_fits_2 rfl (sk_o_71 hM) (Or.inl rfl) ?_
        refine mm_aload d_M_fits_5 rfl ?_
        refine mm_iload d_M_fits_6 rfl ?_
        refine mm_v1i d_M_fits_7 (sk_o_71 hM) (sp_M_layLog hM (by rw [mm_sI_off (by decide), (hf.2.2.1 76 rfl).1]; exact m0) h02 hi ((hLM.frC hf rfl).sI) hWE (fun μ2 g1 hM hF => ?_))
        refine mm_if_neN d_M_fits_10 (by first | omega | exact ite01_lt | exact bt8_lt31 _ _ | exact godB_lt31 _ _ _ | exact pop_lt31 _ | assumption | exact b31 (hW.gp (by omega)) | exact b31 (hW.ne (by omega)) | exact b31 (hW.op (by omega)) | exact and31 (hW.gp (by omega)) | exact and31 (hW.ne (by omega)) | exact and31 (hW.op (by omega)) | exact and31 (by assumption) | exact and31r (hW.ne (by omega)) | exact and31r (hW.gp (by omega)) | exact and31r (by decide)) (fun c_10 => ?_) (fun c_10 => False.elim (by omega))
        refine mm_iload d_M_fits_16 rfl ?_
        refine mm_ciN 10 d_M_fits_17 rfl ?_
        refine mm_icmp_ltN d_M_fits_19 (by first | omega | exact ite01_lt | exact bt8_lt31 _ _ | exact godB_lt31 _ _ _ | exact pop_lt31 _ | assumption | exact b31 (hW.gp (by omega)) | exact b31 (hW.ne (by omega)) | exact b31 (hW.op (by omega)) | exact and31 (hW.gp (by omega)) | exact and31 (hW.ne (by omega)) | exact and31 (hW.op (by omega)) | exact and31 (by assumption) | exact and31r (hW.ne (by omega)) | exact and31r (hW.gp (by omega)) | exact and31r (by decide)) (by first | omega | exact ite01_lt | exact bt8_lt31 _ _ | exact godB_lt31 _ _ _ | exact pop_lt31 _ | assumption | exact b31 (hW.gp (by omega)) | exact b31 (hW.ne (by omega)) | exact b31 (hW.op (by omega)) | exact and31 (hW.gp (by omega)) | exact and31 (hW.ne (by omega)) | exact and31 (hW.op (by omega)) | exact and31 (by assumption) | exact and31r (hW.ne (by omega)) | exact and31r (hW.gp (by omega)) | exact and31r (by decide)) (fun c_19 => ?_) (fun c_19 => False.elim (by omega))
        refine mm_iload d_M_fits_48 rfl ?_
        refine mm_switchIn (n := 0) d_M_fits_49 1 (by decide) (by decide) rfl ?_
        refine mm_aload d_M_fits_81 rfl ?_
        refine mm_v0i d_M_fits_82 (sk_o_71 hM) (sp_M_sure hM hF ?_)
        exact mm_ri d_M_fits_85 ⟨rfl, (Fr.rf.sI rfl).trans g1⟩
    · refine pairQ (if (fitL E 256).length = 0 then -1 else oI (argK (gq E) 8)) hJ (d := 12) (d' := 12) (by decide) (by decide) ?_ (fun μ1 hf => ?_)
      · show mm_T X 12 0 0 k_G_fits 0 [some (.ref 0), some (.int (nI i)), some (.int (nI 2)), none, none] [] μ _
        refine mm_aload d_G_fits_0 rfl ?_
        refine mm_getP d_G_fits_1 rfl (sk_o_0 hM) (sk_p_0_0 hM) ?_
        refine mm_iload d_G_fits_4 rfl ?_
        refine mm_v1r d_G_fits_5 (sk_o_1 hM) (sp_To_logAtI hM h0 h02 hi ?_)
        refine mm_ast3 d_G_fits_8 ?_
        refine mm_aload d_G_fits_9 rfl ?_
        refine mm_ifnonnull d_G_fits_10 ?_
        refine mm_aload d_G_fits_16 rfl ?_
        refine mm_ciN 0 d_G_fits_17 rfl ?_
        refine mm_v1i d_G_fits_18 hLD.1.1 (sp_Lo_howManyHave hLD hWE (by decide) ?_)
        refine mm_ist4 d_G_fits_21 ?_
        refine mm_iload d_G_fits_23 rfl ?_
        refine mm_if_neN d_G_fits_24 (by first | omega | exact ite01_lt | exact bt8_lt31 _ _ | exact godB_lt31 _ _ _ | exact pop_lt31 _ | assumption | exact b31 (hW.gp (by omega)) | exact b31 (hW.ne (by omega)) | exact b31 (hW.op (by omega)) | exact and31 (hW.gp (by omega)) | exact and31 (hW.ne (by omega)) | exact and31 (hW.op (by omega)) | exact and31 (by assumption) | exact and31r (hW.ne (by omega)) | exact and31r (hW.gp (by omega)) | exact and31r (by decide)) (fun c_24 => ?_) (fun c_24 => False.elim (by omega))
        refine mm_iload d_G_fits_30 rfl ?_
        refine mm_ciN 1 d_G_fits_31 rfl ?_
        refine mm_icmp_neN d_G_fits_32 (by first | omega | exact ite01_lt | exact bt8_lt31 _ _ | exact godB_lt31 _ _ _ | exact pop_lt31 _ | assumption | exact b31 (hW.gp (by omega)) | exact b31 (hW.ne (by omega)) | exact b31 (hW.op (by omega)) | exact and31 (hW.gp (by omega)) | exact and31 (hW.ne (by omega)) | exact and31 (hW.op (by omega)) | exact and31 (by assumption) | exact and31r (hW.ne (by omega)) | exact and31r (hW.gp (by omega)) | exact and31r (by decide)) (by first | omega | exact ite01_lt | exact bt8_lt31 _ _ | exact godB_lt31 _ _ _ | exact pop_lt31 _ | assumption | exact b31 (hW.gp (by omega)) | exact b31 (hW.ne (by omega)) | exact b31 (hW.op (by omega)) | exact and31 (hW.gp (by omega)) | exact and31 (hW.ne (by omega)) | exact and31 (hW.op (by omega)) | exact and31 (by assumption) | exact and31r (hW.ne (by omega)) | exact and31r (hW.gp (by omega)) | exact and31r (by decide)) (fun c_32 => ?_) (fun c_32 => False.elim (by omega))
        refine mm_iload d_G_fits_49 rfl ?_
        refine mm_ciN 2 d_G_fits_50 rfl ?_
        refine mm_icmp_neN d_G_fits_51 (by first | omega | exact ite01_lt | exact bt8_lt31 _ _ | exact godB_lt31 _ _ _ | exact pop_lt31 _ | assumption | exact b31 (hW.gp (by omega)) | exact b31 (hW.ne (by omega)) | exact b31 (hW.op (by omega)) | exact and31 (hW.gp (by omega)) | exact and31 (hW.ne (by omega)) | exact and31 (hW.op (by omega)) | exact and31 (by assumption) | exact and31r (hW.ne (by omega)) | exact and31r (hW.gp (by omega)) | exact and31r (by decide)) (by first | omega | exact ite01_lt | exact bt8_lt31 _ _ | exact godB_lt31 _ _ _ | exact pop_lt31 _ | assumption | exact b31 (hW.gp (by omega)) | exact b31 (hW.ne (by omega)) | exact b31 (hW.op (by omega)) | exact and31 (hW.gp (by omega)) | exact and31 (hW.ne (by omega)) | exact and31 (hW.op (by omega)) | exact and31 (by assumption) | exact and31r (hW.ne (by omega)) | exact and31r (hW.gp (by omega)) | exact and31r (by decide)) (fun c_51 => False.elim (by omega)) (fun c_51 => ?_)
        refine mm_iload d_G_fits_54 rfl ?_
        refine mm_if_neN d_G_fits_56 (by first | omega | exact ite01_lt | exact bt8_lt31 _ _ | exact godB_lt31 _ _ _ | exact pop_lt31 _ | assumption | exact b31 (hW.gp (by omega)) | exact b31 (hW.ne (by omega)) | exact b31 (hW.op (by omega)) | exact and31 (hW.gp (by omega)) | exact and31 (hW.ne (by omega)) | exact and31 (hW.op (by omega)) | exact and31 (by assumption) | exact and31r (hW.ne (by omega)) | exact and31r (hW.gp (by omega)) | exact and31r (by decide)) (fun c_56 => ?_) (fun c_56 => ?_)
        · refine mm_aload d_G_fits_63 rfl ?_
          refine mm_v0i d_G_fits_64 hLD.1.1 (sp_Lo_bestQuestion hLD hWE ?_)
          exact mm_ri d_G_fits_67 ⟨by first | exact (if_neg (h0256 ▸ c_56)).symm | exact (if_pos (h0256 ▸ c_56)).symm, Fr.rf, hw⟩
        · refine mm_ci d_G_fits_59 ?_
          refine mm_goto d_G_fits_60 ?_
          exact mm_ri d_G_fits_67 ⟨by first | exact (if_neg (h0256 ▸ c_56)).symm | exact (if_pos (h0256 ▸ c_56)).symm, Fr.rf, hw⟩
      · show mm_T X 12 0 0 k_M_fits 0 [some (.ref 71), some (.int (nI i)), some (.int (nI 2))] [] μ1 _
        replace hM := hf.2.2.2 hM
        refine mm_aload d_M_fits_0 rfl ?_
        refine mm_ciN 0 d_M_fits_1 rfl ?_
        refine mm_putI d_M_fits_2 rfl (sk_o_71 hM) (Or.inl rfl) ?_
        refine mm_aload d_M_fits_5 rfl ?_
        refine mm_iload d_M_fits_6 rfl ?_
        refine mm_v1i d_M_fits_7 (sk_o_71 hM) (sp_M_layLog hM (by rw [mm_sI_off (by decide), (hf.2.2.1 76 rfl).1]; exact m0) h02 hi ((hLM.frC hf rfl).sI) hWE (fun μ2 g1 hM hF => ?_))
        refine mm_if_neN d_M_fits_10 (by first | omega | exact ite01_lt | exact bt8_lt31 _ _ | exact godB_lt31 _ _ _ | exact pop_lt31 _ | assumption | exact b31 (hW.gp (by omega)) | exact b31 (hW.ne (by omega)) | exact b31 (hW.op (by omega)) | exact and31 (hW.gp (by omega)) | exact and31 (hW.ne (by omega)) | exact and31 (hW.op (by omega)) | exact and31 (by assumption) | exact and31r (hW.ne (by omega)) | exact and31r (hW.gp (by omega)) | exact and31r (by decide)) (fun c_10 => ?_) (fun c_10 => False.elim (by omega))
        refine mm_iload d_M_fits_16 rfl ?_
        refine mm_ciN 10 d_M_fits_17 rfl ?_
        refine mm_icmp_ltN d_M_fits_19 (by first | omega | exact ite01_lt | exact bt8_lt31 _ _ | exact godB_lt31 _ _ _ | exact pop_lt31 _ | assumption | exact b31 (hW.gp (by omega)) | exact b31 (hW.ne (by omega)) | exact b31 (hW.op (by omega)) | exact and31 (hW.gp (by omega)) | exact and31 (hW.ne (by omega)) | exact and31 (hW.op (by omega)) | exact and31 (by assumption) | exact and31r (hW.ne (by omega)) | exact and31r (hW.gp (by omega)) | exact and31r (by decide)) (by first | omega | exact ite01_lt | exact bt8_lt31 _ _ | exact godB_lt31 _ _ _ | exact pop_lt31 _ | assumption | exact b31 (hW.gp (by omega)) | exact b31 (hW.ne (by omega)) | exact b31 (hW.op (by omega)) | exact and31 (hW.gp (by omega)) | exact and31 (hW.ne (by omega)) | exact and31 (hW.op (by omega)) | exact and31 (by assumption) | exact and31r (hW.ne (by omega)) | exact and31r (hW.gp (by omega)) | exact and31r (by decide)) (fun c_19 => ?_) (fun c_19 => False.elim (by omega))
        refine mm_iload d_M_fits_48 rfl ?_
        refine mm_switchIn (n := 0) d_M_fits_49 2 (by decide) (by decide) rfl ?_
        refine mm_aload d_M_fits_86 rfl ?_
        refine mm_v0i d_M_fits_87 (sk_o_71 hM) (sp_M_next hM hF ?_)
        exact mm_ri d_M_fits_90 ⟨rfl, (Fr.rf.sI rfl).trans g1⟩
    · refine pairQ (-2) hJ (d := 12) (d' := 12) (by decide) (by decide) ?_ (fun μ1 hf => ?_)
      · show mm_T X 12 0 0 k_G_fits 0 [some (.ref 0), some (.int (nI i)), some (.int (nI t)), none, none] [] μ _
        refine mm_aload d_G_fits_0 rfl ?_
        refine mm_getP d_G_fits_1 rfl (sk_o_0 hM) (sk_p_0_0 hM) ?_
        refine mm_iload d_G_fits_4 rfl ?_
        refine mm_v1r d_G_fits_5 (sk_o_1 hM) (sp_To_logAtI hM h0 h02 hi ?_)
        refine mm_ast3 d_G_fits_8 ?_
        refine mm_aload d_G_fits_9 rfl ?_
        refine mm_ifnonnull d_G_fits_10 ?_
        refine mm_aload d_G_fits_16 rfl ?_
        refine mm_ciN 0 d_G_fits_17 rfl ?_
        refine mm_v1i d_G_fits_18 hLD.1.1 (sp_Lo_howManyHave hLD hWE (by decide) ?_)
        refine mm_ist4 d_G_fits_21 ?_
        refine mm_iload d_G_fits_23 rfl ?_
        refine mm_if_neN d_G_fits_24 (by first | omega | exact ite01_lt | exact bt8_lt31 _ _ | exact godB_lt31 _ _ _ | exact pop_lt31 _ | assumption | exact b31 (hW.gp (by omega)) | exact b31 (hW.ne (by omega)) | exact b31 (hW.op (by omega)) | exact and31 (hW.gp (by omega)) | exact and31 (hW.ne (by omega)) | exact and31 (hW.op (by omega)) | exact and31 (by assumption) | exact and31r (hW.ne (by omega)) | exact and31r (hW.gp (by omega)) | exact and31r (by decide)) (fun c_24 => ?_) (fun c_24 => False.elim (by omega))
        refine mm_iload d_G_fits_30 rfl ?_
        refine mm_ciN 1 d_G_fits_31 rfl ?_
        refine mm_icmp_neN d_G_fits_32 (by first | omega | exact ite01_lt | exact bt8_lt31 _ _ | exact godB_lt31 _ _ _ | exact pop_lt31 _ | assumption | exact b31 (hW.gp (by omega)) | exact b31 (hW.ne (by omega)) | exact b31 (hW.op (by omega)) | exact and31 (hW.gp (by omega)) | exact and31 (hW.ne (by omega)) | exact and31 (hW.op (by omega)) | exact and31 (by assumption) | exact and31r (hW.ne (by omega)) | exact and31r (hW.gp (by omega)) | exact and31r (by decide)) (by first | omega | exact ite01_lt | exact bt8_lt31 _ _ | exact godB_lt31 _ _ _ | exact pop_lt31 _ | assumption | exact b31 (hW.gp (by omega)) | exact b31 (hW.ne (by omega)) | exact b31 (hW.op (by omega)) | exact and31 (hW.gp (by omega)) | exact and31 (hW.ne (by omega)) | exact and31 (hW.op (by omega)) | exact and31 (by assumption) | exact and31r (hW.ne (by omega)) | exact and31r (hW.gp (by omega)) | exact and31r (by decide)) (fun c_32 => ?_) (fun c_32 => False.elim (by omega))
        refine mm_iload d_G_fits_49 rfl ?_
        refine mm_ciN 2 d_G_fits_50 rfl ?_
        refine mm_icmp_neN d_G_fits_51 (by first | omega | exact ite01_lt | exact bt8_lt31 _ _ | exact godB_lt31 _ _ _ | exact pop_lt31 _ | assumption | exact b31 (hW.gp (by omega)) | exact b31 (hW.ne (by omega)) | exact b31 (hW.op (by omega)) | exact and31 (hW.gp (by omega)) | exact and31 (hW.ne (by omega)) | exact and31 (hW.op (by omega)) | exact and31 (by assumption) | exact and31r (hW.ne (by omega)) | exact and31r (hW.gp (by omega)) | exact and31r (by decide)) (by first | omega | exact ite01_lt | exact bt8_lt31 _ _ | exact godB_lt31 _ _ _ | exact pop_lt31 _ | assumption | exact b31 (hW.gp (by omega)) | exact b31 (hW.ne (by omega)) | exact b31 (hW.op (by omega)) | exact and31 (hW.gp (by omega)) | exact and31 (hW.ne (by omega)) | exact and31 (hW.op (by omega)) | exact and31 (by assumption) | exact and31r (hW.ne (by omega)) | exact and31r (hW.gp (by omega)) | exact and31r (by decide)) (fun c_51 => ?_) (fun c_51 => False.elim (by omega))
        refine mm_iload d_G_fits_68 rfl ?_
        refine mm_ciN 10 d_G_fits_69 rfl ?_
        refine mm_icmp_geN d_G_fits_71 (by first | omega | exact ite01_lt | exact bt8_lt31 _ _ | exact godB_lt31 _ _ _ | exact pop_lt31 _ | assumption | exact b31 (hW.gp (by omega)) | exact b31 (hW.ne (by omega)) | exact b31 (hW.op (by omega)) | exact and31 (hW.gp (by omega)) | exact and31 (hW.ne (by omega)) | exact and31 (hW.op (by omega)) | exact and31 (by assumption) | exact and31r (hW.ne (by omega)) | exact and31r (hW.gp (by omega)) | exact and31r (by decide)) (by first | omega | exact ite01_lt | exact bt8_lt31 _ _ | exact godB_lt31 _ _ _ | exact pop_lt31 _ | assumption | exact b31 (hW.gp (by omega)) | exact b31 (hW.ne (by omega)) | exact b31 (hW.op (by omega)) | exact and31 (hW.gp (by omega)) | exact and31 (hW.ne (by omega)) | exact and31 (hW.op (by omega)) | exact and31 (by assumption) | exact and31r (hW.ne (by omega)) | exact and31r (hW.gp (by omega)) | exact and31r (by decide)) (fun c_71 => False.elim (by omega)) (fun c_71 => ?_)
        refine mm_ci d_G_fits_74 ?_
        refine mm_goto d_G_fits_76 ?_
        exact mm_ri d_G_fits_87 ⟨rfl, Fr.rf, hw⟩
      · show mm_T X 12 0 0 k_M_fits 0 [some (.ref 71), some (.int (nI i)), some (.int (nI t))] [] μ1 _
        replace hM := hf.2.2.2 hM
        refine mm_aload d_M_fits_0 rfl ?_
        refine mm_ciN 0 d_M_fits_1 rfl ?_
        refine mm_putI d_M_fits_2 rfl (sk_o_71 hM) (Or.inl rfl) ?_
        refine mm_aload d_M_fits_5 rfl ?_
        refine mm_iload d_M_fits_6 rfl ?_
        refine mm_v1i d_M_fits_7 (sk_o_71 hM) (sp_M_layLog hM (by rw [mm_sI_off (by decide), (hf.2.2.1 76 rfl).1]; exact m0) h02 hi ((hLM.frC hf rfl).sI) hWE (fun μ2 g1 hM hF => ?_))
        refine mm_if_neN d_M_fits_10 (by first | omega | exact ite01_lt | exact bt8_lt31 _ _ | exact godB_lt31 _ _ _ | exact pop_lt31 _ | assumption | exact b31 (hW.gp (by omega)) | exact b31 (hW.ne (by omega)) | exact b31 (hW.op (by omega)) | exact and31 (hW.gp (by omega)) | exact and31 (hW.ne (by omega)) | exact and31 (hW.op (by omega)) | exact and31 (by assumption) | exact and31r (hW.ne (by omega)) | exact and31r (hW.gp (by omega)) | exact and31r (by decide)) (fun c_10 => ?_) (fun c_10 => False.elim (by omega))
        refine mm_iload d_M_fits_16 rfl ?_
        refine mm_ciN 10 d_M_fits_17 rfl ?_
        refine mm_icmp_ltN d_M_fits_19 (by first | omega | exact ite01_lt | exact bt8_lt31 _ _ | exact godB_lt31 _ _ _ | exact pop_lt31 _ | assumption | exact b31 (hW.gp (by omega)) | exact b31 (hW.ne (by omega)) | exact b31 (hW.op (by omega)) | exact and31 (hW.gp (by omega)) | exact and31 (hW.ne (by omega)) | exact and31 (hW.op (by omega)) | exact and31 (by assumption) | exact and31r (hW.ne (by omega)) | exact and31r (hW.gp (by omega)) | exact and31r (by decide)) (by first | omega | exact ite01_lt | exact bt8_lt31 _ _ | exact godB_lt31 _ _ _ | exact pop_lt31 _ | assumption | exact b31 (hW.gp (by omega)) | exact b31 (hW.ne (by omega)) | exact b31 (hW.op (by omega)) | exact and31 (hW.gp (by omega)) | exact and31 (hW.ne (by omega)) | exact and31 (hW.op (by omega)) | exact and31 (by assumption) | exact and31r (hW.ne (by omega)) | exact and31r (hW.gp (by omega)) | exact and31r (by decide)) (fun c_19 => ?_) (fun c_19 => False.elim (by omega))
        refine mm_iload d_M_fits_48 rfl ?_
        refine mm_switchOut (n := 0) d_M_fits_49 (Or.inr (by rw [nI_toInt ht]; omega)) ?_
        refine mm_ci d_M_fits_91 ?_
        exact mm_ri d_M_fits_93 ⟨rfl, (Fr.rf.sI rfl).trans g1⟩
    · refine pairQ (if t - 10 < (fitL E 256).length then nI ((fitL E 256).getD (t - 10) 0) else -2) hJ (d := 12) (d' := 12) (by decide) (by decide) ?_ (fun μ1 hf => ?_)
      · show mm_T X 12 0 0 k_G_fits 0 [some (.ref 0), some (.int (nI i)), some (.int (nI t)), none, none] [] μ _
        refine mm_aload d_G_fits_0 rfl ?_
        refine mm_getP d_G_fits_1 rfl (sk_o_0 hM) (sk_p_0_0 hM) ?_
        refine mm_iload d_G_fits_4 rfl ?_
        refine mm_v1r d_G_fits_5 (sk_o_1 hM) (sp_To_logAtI hM h0 h02 hi ?_)
        refine mm_ast3 d_G_fits_8 ?_
        refine mm_aload d_G_fits_9 rfl ?_
        refine mm_ifnonnull d_G_fits_10 ?_
        refine mm_aload d_G_fits_16 rfl ?_
        refine mm_ciN 0 d_G_fits_17 rfl ?_
        refine mm_v1i d_G_fits_18 hLD.1.1 (sp_Lo_howManyHave hLD hWE (by decide) ?_)
        refine mm_ist4 d_G_fits_21 ?_
        refine mm_iload d_G_fits_23 rfl ?_
        refine mm_if_neN d_G_fits_24 (by first | omega | exact ite01_lt | exact bt8_lt31 _ _ | exact godB_lt31 _ _ _ | exact pop_lt31 _ | assumption | exact b31 (hW.gp (by omega)) | exact b31 (hW.ne (by omega)) | exact b31 (hW.op (by omega)) | exact and31 (hW.gp (by omega)) | exact and31 (hW.ne (by omega)) | exact and31 (hW.op (by omega)) | exact and31 (by assumption) | exact and31r (hW.ne (by omega)) | exact and31r (hW.gp (by omega)) | exact and31r (by decide)) (fun c_24 => ?_) (fun c_24 => False.elim (by omega))
        refine mm_iload d_G_fits_30 rfl ?_
        refine mm_ciN 1 d_G_fits_31 rfl ?_
        refine mm_icmp_neN d_G_fits_32 (by first | omega | exact ite01_lt | exact bt8_lt31 _ _ | exact godB_lt31 _ _ _ | exact pop_lt31 _ | assumption | exact b31 (hW.gp (by omega)) | exact b31 (hW.ne (by omega)) | exact b31 (hW.op (by omega)) | exact and31 (hW.gp (by omega)) | exact and31 (hW.ne (by omega)) | exact and31 (hW.op (by omega)) | exact and31 (by assumption) | exact and31r (hW.ne (by omega)) | exact and31r (hW.gp (by omega)) | exact and31r (by decide)) (by first | omega | exact ite01_lt | exact bt8_lt31 _ _ | exact godB_lt31 _ _ _ | exact pop_lt31 _ | assumption | exact b31 (hW.gp (by omega)) | exact b31 (hW.ne (by omega)) | exact b31 (hW.op (by omega)) | exact and31 (hW.gp (by omega)) | exact and31 (hW.ne (by omega)) | exact and31 (hW.op (by omega)) | exact and31 (by assumption) | exact and31r (hW.ne (by omega)) | exact and31r (hW.gp (by omega)) | exact and31r (by decide)) (fun c_32 => ?_) (fun c_32 => False.elim (by omega))
        refine mm_iload d_G_fits_49 rfl ?_
        refine mm_ciN 2 d_G_fits_50 rfl ?_
        refine mm_icmp_neN d_G_fits_51 (by first | omega | exact ite01_lt | exact bt8_lt31 _ _ | exact godB_lt31 _ _ _ | exact pop_lt31 _ | assumption | exact b31 (hW.gp (by omega)) | exact b31 (hW.ne (by omega)) | exact b31 (hW.op (by omega)) | exact and31 (hW.gp (by omega)) | exact and31 (hW.ne (by omega)) | exact and31 (hW.op (by omega)) | exact and31 (by assumption) | exact and31r (hW.ne (by omega)) | exact and31r (hW.gp (by omega)) | exact and31r (by decide)) (by first | omega | exact ite01_lt | exact bt8_lt31 _ _ | exact godB_lt31 _ _ _ | exact pop_lt31 _ | assumption | exact b31 (hW.gp (by omega)) | exact b31 (hW.ne (by omega)) | exact b31 (hW.op (by omega)) | exact and31 (hW.gp (by omega)) | exact and31 (hW.ne (by omega)) | exact and31 (hW.op (by omega)) | exact and31 (by assumption) | exact and31r (hW.ne (by omega)) | exact and31r (hW.gp (by omega)) | exact and31r (by decide)) (fun c_51 => ?_) (fun c_51 => False.elim (by omega))
        refine mm_iload d_G_fits_68 rfl ?_
        refine mm_ciN 10 d_G_fits_69 rfl ?_
        refine mm_icmp_geN d_G_fits_71 (by first | omega | exact ite01_lt | exact bt8_lt31 _ _ | exact godB_lt31 _ _ _ | exact pop_lt31 _ | assumption | exact b31 (hW.gp (by omega)) | exact b31 (hW.ne (by omega)) | exact b31 (hW.op (by omega)) | exact and31 (hW.gp (by omega)) | exact and31 (hW.ne (by omega)) | exact and31 (hW.op (by omega)) | exact and31 (by assumption) | exact and31r (hW.ne (by omega)) | exact and31r (hW.gp (by omega)) | exact and31r (by decide)) (by first | omega | exact ite01_lt | exact bt8_lt31 _ _ | exact godB_lt31 _ _ _ | exact pop_lt31 _ | assumption | exact b31 (hW.gp (by omega)) | exact b31 (hW.ne (by omega)) | exact b31 (hW.op (by omega)) | exact and31 (hW.gp (by omega)) | exact and31 (hW.ne (by omega)) | exact and31 (hW.op (by omega)) | exact and31 (by assumption) | exact and31r (hW.ne (by omega)) | exact and31r (hW.gp (by omega)) | exact and31r (by decide)) (fun c_71 => ?_) (fun c_71 => False.elim (by omega))
        refine mm_aload d_G_fits_79 rfl ?_
        refine mm_iload d_G_fits_80 rfl ?_
        refine mm_ciN 10 d_G_fits_81 rfl ?_
        refine mm_isubN d_G_fits_83 (by omega) ?_
        refine mm_v1i d_G_fits_84 hLD.1.1 (sp_Lo_fitting hLD hWE (by omega) ?_)
        exact mm_ri d_G_fits_87 ⟨rfl, Fr.rf, hw⟩
      · show mm_T X 12 0 0 k_M_fits 0 [some (.ref 71), some (.int (nI i)), some (.int (nI t))] [] μ1 _
        replace hM := hf.2.2.2 hM
        refine mm_aload d_M_fits_0 rfl ?_
        refine mm_ciN 0 d_M_fits_1 rfl ?_
        refine mm_putI d_M_fits_2 rfl (sk_o_71 hM) (Or.inl rfl) ?_
        refine mm_aload d_M_fits_5 rfl ?_
        refine mm_iload d_M_fits_6 rfl ?_
        refine mm_v1i d_M_fits_7 (sk_o_71 hM) (sp_M_layLog hM (by rw [mm_sI_off (by decide), (hf.2.2.1 76 rfl).1]; exact m0) h02 hi ((hLM.frC hf rfl).sI) hWE (fun μ2 g1 hM hF => ?_))
        refine mm_if_neN d_M_fits_10 (by first | omega | exact ite01_lt | exact bt8_lt31 _ _ | exact godB_lt31 _ _ _ | exact pop_lt31 _ | assumption | exact b31 (hW.gp (by omega)) | exact b31 (hW.ne (by omega)) | exact b31 (hW.op (by omega)) | exact and31 (hW.gp (by omega)) | exact and31 (hW.ne (by omega)) | exact and31 (hW.op (by omega)) | exact and31 (by assumption) | exact and31r (hW.ne (by omega)) | exact and31r (hW.gp (by omega)) | exact and31r (by decide)) (fun c_10 => ?_) (fun c_10 => False.elim (by omega))
        refine mm_iload d_M_fits_16 rfl ?_
        refine mm_ciN 10 d_M_fits_17 rfl ?_
        refine mm_icmp_ltN d_M_fits_19 (by first | omega | exact ite01_lt | exact bt8_lt31 _ _ | exact godB_lt31 _ _ _ | exact pop_lt31 _ | assumption | exact b31 (hW.gp (by omega)) | exact b31 (hW.ne (by omega)) | exact b31 (hW.op (by omega)) | exact and31 (hW.gp (by omega)) | exact and31 (hW.ne (by omega)) | exact and31 (hW.op (by omega)) | exact and31 (by assumption) | exact and31r (hW.ne (by omega)) | exact and31r (hW.gp (by omega)) | exact and31r (by decide)) (by first | omega | exact ite01_lt | exact bt8_lt31 _ _ | exact godB_lt31 _ _ _ | exact pop_lt31 _ | assumption | exact b31 (hW.gp (by omega)) | exact b31 (hW.ne (by omega)) | exact b31 (hW.op (by omega)) | exact and31 (hW.gp (by omega)) | exact and31 (hW.ne (by omega)) | exact and31 (hW.op (by omega)) | exact and31 (by assumption) | exact and31r (hW.ne (by omega)) | exact and31r (hW.gp (by omega)) | exact and31r (by decide)) (fun c_19 => False.elim (by omega)) (fun c_19 => ?_)
        refine mm_iload d_M_fits_22 rfl ?_
        refine mm_ciN 10 d_M_fits_23 rfl ?_
        refine mm_isubN d_M_fits_25 (by omega) ?_
        refine mm_aload d_M_fits_26 rfl ?_
        refine mm_getIN d_M_fits_27 rfl (sk_o_71 hM) hF.1 ?_
        refine mm_icmp_geN d_M_fits_30 (by first | omega | exact ite01_lt | exact bt8_lt31 _ _ | exact godB_lt31 _ _ _ | exact pop_lt31 _ | assumption | exact b31 (hW.gp (by omega)) | exact b31 (hW.ne (by omega)) | exact b31 (hW.op (by omega)) | exact and31 (hW.gp (by omega)) | exact and31 (hW.ne (by omega)) | exact and31 (hW.op (by omega)) | exact and31 (by assumption) | exact and31r (hW.ne (by omega)) | exact and31r (hW.gp (by omega)) | exact and31r (by decide)) (by first | omega | exact ite01_lt | exact bt8_lt31 _ _ | exact godB_lt31 _ _ _ | exact pop_lt31 _ | assumption | exact b31 (hW.gp (by omega)) | exact b31 (hW.ne (by omega)) | exact b31 (hW.op (by omega)) | exact and31 (hW.gp (by omega)) | exact and31 (hW.ne (by omega)) | exact and31 (hW.op (by omega)) | exact and31 (by assumption) | exact and31r (hW.ne (by omega)) | exact and31r (hW.gp (by omega)) | exact and31r (by decide)) (fun c_30 => ?_) (fun c_30 => ?_)
        · refine mm_ci d_M_fits_45 ?_
          exact mm_ri d_M_fits_47 ⟨by first | exact (if_neg (Nat.not_lt.mpr c_30)).symm | exact (if_pos c_30).symm, (Fr.rf.sI rfl).trans g1⟩
        · refine mm_aload d_M_fits_33 rfl ?_
          refine mm_getP d_M_fits_34 rfl (sk_o_71 hM) (sk_p_71_42 hM) ?_
          refine mm_iload d_M_fits_37 rfl ?_
          refine mm_ciN 10 d_M_fits_38 rfl ?_
          refine mm_isubN d_M_fits_40 (by omega) ?_
          refine mm_ialdN d_M_fits_41 (sk_a_88 hM) (by omega) (by decide) (hF.2 _ c_30) ?_
          refine mm_goto d_M_fits_42 ?_
          exact mm_ri d_M_fits_47 ⟨by first | exact (if_neg (Nat.not_lt.mpr c_30)).symm | exact (if_pos c_30).symm, (Fr.rf.sI rfl).trans g1⟩
