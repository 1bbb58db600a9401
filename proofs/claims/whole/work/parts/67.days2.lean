/-! a year as it goes on: deeds of the class -/
theorem WfL.ask {D : mm_D} {σ : mm_S} {c w : Nat} (h : WfL D σ) : WfL D (askS D σ c w) := fun j hj hb => by
  show upN (sL σ) (8 * c + w) 0 j ≤ _
  unfold upN
  split
  · exact Nat.zero_le _
  · exact h j hj hb
theorem WfL.tha {D : mm_D} {σ : mm_S} {c w : Nat} (h : WfL D σ) (hw : w < 8) : WfL D (thaS σ c w) := fun j hj hb => by
  show upN (sL σ) (8 * c + w) 0 j ≤ _
  unfold upN
  split
  · exact Nat.zero_le _
  · rename_i e
    refine h j hj ?_
    have hb' : bt8 (upN (sC σ) c (sC σ c &&& (2 ^ w ^^^ 4294967295)) (j / 8)) (j % 8) = 0 := hb
    unfold upN at hb'
    split at hb'
    · rename_i e2
      rw [e2]
      refine Decidable.byContradiction fun z => ?_
      exact (bt8_min (sC σ c) w (j % 8) (by omega) (by omega)).mpr ⟨z, by omega⟩ hb'
    · exact hb'
theorem WfT_dyS {D : mm_D} (hW : WfD D) {σ : mm_S} (h : WfS σ ∧ WfL D σ) {i : Nat} (hi : i < 48) : WfS (dyS D σ i) ∧ WfL D (dyS D σ i) := by
  obtain ⟨h1, h2⟩ := h
  have hp := hW.pa (j := i % 8) (by omega)
  unfold dyS
  split
  · rename_i hc
    have hl := h2 i hi hc.2
    split
    · rename_i hd
      refine ⟨⟨h1.1, h1.2.1, h1.2.2.1, upN_lt h1.2.2.2.1 (or_lt256 (h1.2.2.2.1 _ (by omega)) (two_lt256 (by omega))), upN_le h1.2.2.2.2 (by omega)⟩, fun j hj hb => ?_⟩
      have hb' : bt8 (upN (sC σ) (i / 8) (sC σ (i / 8) ||| 2 ^ (i % 8)) (j / 8)) (j % 8) = 0 := hb
      show upN (sL σ) i (sL σ i + 1) j ≤ _
      unfold upN at hb' ⊢
      by_cases e : j = i
      · subst e
        rw [if_pos rfl] at hb'
        exact absurd rfl ((bt8_or2 _ _ _).mp hb').2
      · rw [if_neg e]
        refine h2 j hj ?_
        by_cases e2 : j / 8 = i / 8
        · rw [if_pos e2] at hb'
          rw [e2]
          exact ((bt8_or2 _ _ _).mp hb').1
        · rw [if_neg e2] at hb'; exact hb'
    · rename_i hd
      refine ⟨⟨h1.1, h1.2.1, h1.2.2.1, h1.2.2.2.1, upN_le h1.2.2.2.2 (by omega)⟩, fun j hj hb => ?_⟩
      show upN (sL σ) i (sL σ i + 1) j ≤ _
      unfold upN
      by_cases e : j = i
      · subst e; rw [if_pos rfl]; omega
      · rw [if_neg e]; exact h2 j hj hb
  · exact ⟨h1, h2⟩
theorem WfT_dyK {D : mm_D} (hW : WfD D) {σ : mm_S} (h : WfS σ ∧ WfL D σ) : ∀ i, i ≤ 48 → WfS (dyK D σ i) ∧ WfL D (dyK D σ i)
  | 0, _ => h
  | i + 1, hi => WfT_dyS hW (WfT_dyK hW h i (by omega)) (by omega)
theorem sp_Da_ask {X : mm_X} {μ : mm_M} {q : Int32 → mm_M → Prop} {i c w : Nat} {D : mm_D} {σ : mm_S} {ξ : mm_Xi} (hS : DaS μ i D σ ξ) (hT : WfS σ) (hW : WfD D) (hc : c < 6) (hw : w < 8) (h1 : askC D σ c w → ∀ μ', DaS μ' i D (askS D σ c w) ξ → Fr scD μ μ' → q (nI 1) μ') (h0 : ¬ askC D σ c w → q (nI 0) μ) : mm_Ci X 2 0 0 k_Da_ask [.ref 53, .int (nI c), .int (nI w)] μ q := by
  show mm_T X 2 0 0 k_Da_ask 0 [some (.ref 53), some (.int (nI c)), some (.int (nI w))] [] μ _
  obtain ⟨hM, hi2, hCD, hP, hF⟩ := hS
  have hsc := hT.2.2.2.1 c hc
  have hsa := hT.2.2.1
  unfold askC at h1 h0
  by_cases hcd : c < dn D
  · have hgb := godB_in (w := w) hcd
    refine mm_aload d_Da_ask_0 rfl ?_
    refine mm_getP d_Da_ask_1 rfl (sk_o_53 hM) hP ?_
    refine mm_iload d_Da_ask_4 rfl ?_
    refine mm_iload d_Da_ask_5 rfl ?_
    refine mm_v2i d_Da_ask_6 hCD.1.1 (sp_Co_isGodparent hCD hW (by omega) (by omega) ?_)
    rw [hgb]
    refine mm_if_eqN d_Da_ask_9 (by first | omega | exact ite01_lt | exact bt8_lt31 _ _ | exact godB_lt31 _ _ _ | exact pop_lt31 _ | assumption | exact b31 (hW.gp (by omega)) | exact b31 (hW.ne (by omega)) | exact b31 (hW.op (by omega)) | exact and31 (hW.gp (by omega)) | exact and31 (hW.ne (by omega)) | exact and31 (hW.op (by omega)) | exact and31 (by assumption) | exact and31r (hW.ne (by omega)) | exact and31r (hW.gp (by omega)) | exact and31r (by decide)) (fun c_9 => ?_) (fun c_9 => ?_)
    · refine mm_ciN 0 d_Da_ask_36 rfl ?_
      first
        | exact mm_rz d_Da_ask_37 (h0 (fun z => z.2.1 c_9))
        | exact mm_rz d_Da_ask_37 (h0 (fun z => c_20 z.2.2.1))
        | exact mm_rz d_Da_ask_37 (h0 (fun z => c_33 z.2.2.2))
    · refine mm_aload d_Da_ask_12 rfl ?_
      refine mm_getIN d_Da_ask_13 rfl (sk_o_53 hM) hF.A ?_
      refine mm_iload d_Da_ask_16 rfl ?_
      refine mm_s2i d_Da_ask_17 (sp_has (by first | omega | assumption | exact hW.gp (by omega) | exact hW.ne (by omega) | exact hW.op (by omega) | exact and_lt256 (hW.gp (by omega)) | exact and_lt256 (hW.ne (by omega)) | exact and_lt256 (hW.op (by omega)) | exact and_lt256 (by assumption)) (by omega) ?_)
      refine mm_if_neN d_Da_ask_20 (by first | omega | exact ite01_lt | exact bt8_lt31 _ _ | exact godB_lt31 _ _ _ | exact pop_lt31 _ | assumption | exact b31 (hW.gp (by omega)) | exact b31 (hW.ne (by omega)) | exact b31 (hW.op (by omega)) | exact and31 (hW.gp (by omega)) | exact and31 (hW.ne (by omega)) | exact and31 (hW.op (by omega)) | exact and31 (by assumption) | exact and31r (hW.ne (by omega)) | exact and31r (hW.gp (by omega)) | exact and31r (by decide)) (fun c_20 => ?_) (fun c_20 => ?_)
      · refine mm_ciN 0 d_Da_ask_36 rfl ?_
        first
          | exact mm_rz d_Da_ask_37 (h0 (fun z => z.2.1 c_9))
          | exact mm_rz d_Da_ask_37 (h0 (fun z => c_20 z.2.2.1))
          | exact mm_rz d_Da_ask_37 (h0 (fun z => c_33 z.2.2.2))
      · refine mm_aload d_Da_ask_23 rfl ?_
        refine mm_getP d_Da_ask_24 rfl (sk_o_53 hM) (sk_p_53_5 hM) ?_
        refine mm_iload d_Da_ask_27 rfl ?_
        refine mm_ialdN d_Da_ask_28 (sk_a_54 hM) (by omega) (by decide) (hF.C hc) ?_
        refine mm_iload d_Da_ask_29 rfl ?_
        refine mm_s2i d_Da_ask_30 (sp_has (by first | omega | assumption | exact hW.gp (by omega) | exact hW.ne (by omega) | exact hW.op (by omega) | exact and_lt256 (hW.gp (by omega)) | exact and_lt256 (hW.ne (by omega)) | exact and_lt256 (hW.op (by omega)) | exact and_lt256 (by assumption)) (by omega) ?_)
        refine mm_if_eqN d_Da_ask_33 (by first | omega | exact ite01_lt | exact bt8_lt31 _ _ | exact godB_lt31 _ _ _ | exact pop_lt31 _ | assumption | exact b31 (hW.gp (by omega)) | exact b31 (hW.ne (by omega)) | exact b31 (hW.op (by omega)) | exact and31 (hW.gp (by omega)) | exact and31 (hW.ne (by omega)) | exact and31 (hW.op (by omega)) | exact and31 (by assumption) | exact and31r (hW.ne (by omega)) | exact and31r (hW.gp (by omega)) | exact and31r (by decide)) (fun c_33 => ?_) (fun c_33 => ?_)
        · refine mm_aload d_Da_ask_38 rfl ?_
          refine mm_dup d_Da_ask_39 rfl ?_
          refine mm_getIN d_Da_ask_40 rfl (sk_o_53 hM) hF.A ?_
          refine mm_ciN 1 d_Da_ask_43 rfl ?_
          refine mm_iload d_Da_ask_44 rfl ?_
          refine mm_ishl1N d_Da_ask_45 (by omega) ?_
          refine mm_iorN d_Da_ask_46 ?_
          refine mm_putI d_Da_ask_47 rfl (sk_o_53 hM) (Or.inl rfl) ?_
          have F1 := DaF.wA (I' := mm_I (mm_sI μ 53 11 (nI (sA σ ||| 2 ^ c)))) hF (fun b j => mm_I_sI)
          refine mm_aload d_Da_ask_50 rfl ?_
          refine mm_getP d_Da_ask_51 rfl (sk_o_53 hM) (sk_p_53_7 hM) ?_
          refine mm_iload d_Da_ask_54 rfl ?_
          refine mm_dup2 d_Da_ask_55 rfl rfl ?_
          refine mm_ialdN d_Da_ask_56 (sk_a_56 hM) (by omega) (by decide) (F1.K hc) ?_
          refine mm_ciN 1 d_Da_ask_57 rfl ?_
          refine mm_iaddN d_Da_ask_58 ?_
          refine mm_iastX d_Da_ask_59 (sk_a_56 hM) (by omega) (by decide) ?_
          have F2 := DaF.wK (I' := mm_I (mm_sI (mm_sI μ 53 11 (nI (sA σ ||| 2 ^ c))) 56 c (nI (sK σ c + 1)))) F1 (fun b j => mm_I_sI)
          have f2 : Fr scD μ (mm_sI (mm_sI μ 53 11 (nI (sA σ ||| 2 ^ c))) 56 c (nI (sK σ c + 1))) := (Fr.rf.sI rfl).sI rfl
          refine mm_aload d_Da_ask_60 rfl ?_
          refine mm_aload d_Da_ask_61 rfl ?_
          refine mm_getP d_Da_ask_62 rfl (sk_o_53 hM) hP ?_
          refine mm_aload d_Da_ask_65 rfl ?_
          refine mm_getIN d_Da_ask_66 rfl (sk_o_53 hM) F2.H ?_
          refine mm_iload d_Da_ask_69 rfl ?_
          refine mm_v2i d_Da_ask_70 (hCD.frD f2 hi2).1.1 (sp_Co_hereOnceComes (hCD.frD f2 hi2) hw ?_)
          refine mm_putI d_Da_ask_73 rfl (sk_o_53 hM) (Or.inl rfl) ?_
          have F3 := DaF.wH (I' := mm_I (mm_sI (mm_sI (mm_sI μ 53 11 (nI (sA σ ||| 2 ^ c))) 56 c (nI (sK σ c + 1))) 53 10 (nI (comesN D (sH σ) w)))) F2 (fun b j => mm_I_sI)
          refine mm_aload d_Da_ask_76 rfl ?_
          refine mm_getP d_Da_ask_77 rfl (sk_o_53 hM) (sk_p_53_6 hM) ?_
          refine mm_iload d_Da_ask_80 rfl ?_
          refine mm_ciN 8 d_Da_ask_81 rfl ?_
          refine mm_imulN d_Da_ask_83 ?_
          refine mm_iload d_Da_ask_84 rfl ?_
          rw [Nat.mul_comm c 8]
          refine mm_iaddN d_Da_ask_85 ?_
          refine mm_ciN 0 d_Da_ask_86 rfl ?_
          refine mm_iastX d_Da_ask_87 (sk_a_55 hM) (by omega) (by decide) ?_
          have F4 := DaF.wL (I' := mm_I (mm_sI (mm_sI (mm_sI (mm_sI μ 53 11 (nI (sA σ ||| 2 ^ c))) 56 c (nI (sK σ c + 1))) 53 10 (nI (comesN D (sH σ) w))) 55 (8 * c + w) (nI 0))) F3 (fun b j => mm_I_sI)
          have f4 : Fr scD μ (mm_sI (mm_sI (mm_sI (mm_sI μ 53 11 (nI (sA σ ||| 2 ^ c))) 56 c (nI (sK σ c + 1))) 53 10 (nI (comesN D (sH σ) w))) 55 (8 * c + w) (nI 0)) := (f2.sI rfl).sI rfl
          refine mm_ciN 1 d_Da_ask_88 rfl ?_
          exact mm_rz d_Da_ask_89 (h1 ⟨hcd, c_9, c_20, c_33⟩ _ ⟨f4.2.2.2 hM, hi2, hCD.frD f4 hi2, hP, F4⟩ f4)
        · refine mm_ciN 0 d_Da_ask_36 rfl ?_
          first
            | exact mm_rz d_Da_ask_37 (h0 (fun z => z.2.1 c_9))
            | exact mm_rz d_Da_ask_37 (h0 (fun z => c_20 z.2.2.1))
            | exact mm_rz d_Da_ask_37 (h0 (fun z => c_33 z.2.2.2))
  · have hgb : godB D c w = 0 := if_neg hcd
    refine mm_aload d_Da_ask_0 rfl ?_
    refine mm_getP d_Da_ask_1 rfl (sk_o_53 hM) hP ?_
    refine mm_iload d_Da_ask_4 rfl ?_
    refine mm_iload d_Da_ask_5 rfl ?_
    refine mm_v2i d_Da_ask_6 hCD.1.1 (sp_Co_isGodparent hCD hW (by omega) (by omega) ?_)
    refine mm_if_eqN d_Da_ask_9 (by first | omega | exact ite01_lt | exact bt8_lt31 _ _ | exact godB_lt31 _ _ _ | exact pop_lt31 _ | assumption | exact b31 (hW.gp (by omega)) | exact b31 (hW.ne (by omega)) | exact b31 (hW.op (by omega)) | exact and31 (hW.gp (by omega)) | exact and31 (hW.ne (by omega)) | exact and31 (hW.op (by omega)) | exact and31 (by assumption) | exact and31r (hW.ne (by omega)) | exact and31r (hW.gp (by omega)) | exact and31r (by decide)) (fun c_9 => ?_) (fun c_9 => False.elim (by omega))
    refine mm_ciN 0 d_Da_ask_36 rfl ?_
    exact mm_rz d_Da_ask_37 (h0 (fun z => hcd z.1))
theorem sp_Da_thank {X : mm_X} {μ : mm_M} {q : Int32 → mm_M → Prop} {i c w : Nat} {D : mm_D} {σ : mm_S} {ξ : mm_Xi} (hS : DaS μ i D σ ξ) (hT : WfS σ) (hW : WfD D) (hc : c < 6) (hw : w < 8) (h1 : thaC D c w → ∀ μ', DaS μ' i D (thaS σ c w) (xO ξ, xW ξ, xM ξ, xT ξ + 1, xS ξ) → Fr scD μ μ' → q (nI 1) μ') (h0 : ¬ thaC D c w → q (nI 0) μ) : mm_Ci X 2 0 0 k_Da_thank [.ref 53, .int (nI c), .int (nI w)] μ q := by
  show mm_T X 2 0 0 k_Da_thank 0 [some (.ref 53), some (.int (nI c)), some (.int (nI w))] [] μ _
  obtain ⟨hM, hi2, hCD, hP, hF⟩ := hS
  have hsc := hT.2.2.2.1 c hc
  unfold thaC at h1 h0
  by_cases hcd : c < dn D
  · have hgb := godB_in (w := w) hcd
    refine mm_aload d_Da_thank_0 rfl ?_
    refine mm_getP d_Da_thank_1 rfl (sk_o_53 hM) hP ?_
    refine mm_iload d_Da_thank_4 rfl ?_
    refine mm_iload d_Da_thank_5 rfl ?_
    refine mm_v2i d_Da_thank_6 hCD.1.1 (sp_Co_isGodparent hCD hW (by omega) (by omega) ?_)
    rw [hgb]
    refine mm_if_neN d_Da_thank_9 (by first | omega | exact ite01_lt | exact bt8_lt31 _ _ | exact godB_lt31 _ _ _ | exact pop_lt31 _ | assumption | exact b31 (hW.gp (by omega)) | exact b31 (hW.ne (by omega)) | exact b31 (hW.op (by omega)) | exact and31 (hW.gp (by omega)) | exact and31 (hW.ne (by omega)) | exact and31 (hW.op (by omega)) | exact and31 (by assumption) | exact and31r (hW.ne (by omega)) | exact and31r (hW.gp (by omega)) | exact and31r (by decide)) (fun c_9 => ?_) (fun c_9 => ?_)
    · refine mm_aload d_Da_thank_14 rfl ?_
      refine mm_dup d_Da_thank_15 rfl ?_
      refine mm_getIN d_Da_thank_16 rfl (sk_o_53 hM) hF.vT ?_
      refine mm_ciN 1 d_Da_thank_19 rfl ?_
      refine mm_iaddN d_Da_thank_20 ?_
      refine mm_putI d_Da_thank_21 rfl (sk_o_53 hM) (Or.inl rfl) ?_
      have F1 := DaF.zT (I' := mm_I (mm_sI μ 53 4 (nI (xT ξ + 1)))) hF (fun b j => mm_I_sI)
      refine mm_aload d_Da_thank_24 rfl ?_
      refine mm_getP d_Da_thank_25 rfl (sk_o_53 hM) (sk_p_53_6 hM) ?_
      refine mm_iload d_Da_thank_28 rfl ?_
      refine mm_ciN 8 d_Da_thank_29 rfl ?_
      refine mm_imulN d_Da_thank_31 ?_
      refine mm_iload d_Da_thank_32 rfl ?_
      rw [Nat.mul_comm c 8]
      refine mm_iaddN d_Da_thank_33 ?_
      refine mm_ciN 0 d_Da_thank_34 rfl ?_
      refine mm_iastX d_Da_thank_35 (sk_a_55 hM) (by omega) (by decide) ?_
      have F2 := DaF.wL (I' := mm_I (mm_sI (mm_sI μ 53 4 (nI (xT ξ + 1))) 55 (8 * c + w) (nI 0))) F1 (fun b j => mm_I_sI)
      refine mm_aload d_Da_thank_36 rfl ?_
      refine mm_getP d_Da_thank_37 rfl (sk_o_53 hM) (sk_p_53_5 hM) ?_
      refine mm_iload d_Da_thank_40 rfl ?_
      refine mm_dup2 d_Da_thank_41 rfl rfl ?_
      refine mm_ialdN d_Da_thank_42 (sk_a_54 hM) (by omega) (by decide) (F2.C hc) ?_
      refine mm_ciN 1 d_Da_thank_43 rfl ?_
      refine mm_iload d_Da_thank_44 rfl ?_
      refine mm_ishl1N d_Da_thank_45 (by omega) ?_
      refine mm_ci d_Da_thank_46 ?_
      refine mm_inotN d_Da_thank_47 ?_
      refine mm_iandN d_Da_thank_48 ?_
      refine mm_iastX d_Da_thank_49 (sk_a_54 hM) (by omega) (by decide) ?_
      have F3 := DaF.wC (I' := mm_I (mm_sI (mm_sI (mm_sI μ 53 4 (nI (xT ξ + 1))) 55 (8 * c + w) (nI 0)) 54 c (nI (sC σ c &&& (2 ^ w ^^^ 4294967295))))) F2 (fun b j => mm_I_sI)
      have f4 : Fr scD μ (mm_sI (mm_sI (mm_sI μ 53 4 (nI (xT ξ + 1))) 55 (8 * c + w) (nI 0)) 54 c (nI (sC σ c &&& (2 ^ w ^^^ 4294967295)))) := ((Fr.rf.sI rfl).sI rfl).sI rfl
      refine mm_ciN 1 d_Da_thank_50 rfl ?_
      exact mm_rz d_Da_thank_51 (h1 ⟨hcd, c_9⟩ _ ⟨f4.2.2.2 hM, hi2, hCD.frD f4 hi2, hP, F3⟩ f4)
    · refine mm_ciN 0 d_Da_thank_12 rfl ?_
      exact mm_rz d_Da_thank_13 (h0 (fun z => z.2 c_9))
  · have hgb : godB D c w = 0 := if_neg hcd
    refine mm_aload d_Da_thank_0 rfl ?_
    refine mm_getP d_Da_thank_1 rfl (sk_o_53 hM) hP ?_
    refine mm_iload d_Da_thank_4 rfl ?_
    refine mm_iload d_Da_thank_5 rfl ?_
    refine mm_v2i d_Da_thank_6 hCD.1.1 (sp_Co_isGodparent hCD hW (by omega) (by omega) ?_)
    refine mm_if_neN d_Da_thank_9 (by first | omega | exact ite01_lt | exact bt8_lt31 _ _ | exact godB_lt31 _ _ _ | exact pop_lt31 _ | assumption | exact b31 (hW.gp (by omega)) | exact b31 (hW.ne (by omega)) | exact b31 (hW.op (by omega)) | exact and31 (hW.gp (by omega)) | exact and31 (hW.ne (by omega)) | exact and31 (hW.op (by omega)) | exact and31 (by assumption) | exact and31r (hW.ne (by omega)) | exact and31r (hW.gp (by omega)) | exact and31r (by decide)) (fun c_9 => False.elim (by omega)) (fun c_9 => ?_)
    refine mm_ciN 0 d_Da_thank_12 rfl ?_
    exact mm_rz d_Da_thank_13 (h0 (fun z => hcd z.1))
theorem sp_Da_work {X : mm_X} {μ : mm_M} {q : Int32 → mm_M → Prop} {i k : Nat} {D : mm_D} {σ : mm_S} {ξ : mm_Xi} (hS : DaS μ i D σ ξ) (hT : WfS σ) (hW : WfD D) (hk : k < 6) (h1 : doC D σ k → ∀ μ', DaS μ' i D (doS σ k) ξ → Fr scD μ μ' → q (nI 1) μ') (h0 : ¬ doC D σ k → q (nI 0) μ) : mm_Ci X 2 0 0 k_Da_work [.ref 53, .int (nI k)] μ q := by
  show mm_T X 2 0 0 k_Da_work 0 [some (.ref 53), some (.int (nI k))] [] μ _
  obtain ⟨hM, hi2, hCD, hP, hF⟩ := hS
  have hsd := hT.2.1
  unfold doC at h1 h0
  by_cases hkd : k < dw D
  · refine mm_aload d_Da_work_0 rfl ?_
    refine mm_getP d_Da_work_1 rfl (sk_o_53 hM) hP ?_
    refine mm_iload d_Da_work_4 rfl ?_
    refine mm_v1i d_Da_work_5 hCD.1.1 (sp_Co_hasWorkT hCD hW (by omega) ?_)
    refine mm_if_eqN d_Da_work_8 (by first | omega | exact ite01_lt | exact bt8_lt31 _ _ | exact godB_lt31 _ _ _ | exact pop_lt31 _ | assumption | exact b31 (hW.gp (by omega)) | exact b31 (hW.ne (by omega)) | exact b31 (hW.op (by omega)) | exact and31 (hW.gp (by omega)) | exact and31 (hW.ne (by omega)) | exact and31 (hW.op (by omega)) | exact and31 (by assumption) | exact and31r (hW.ne (by omega)) | exact and31r (hW.gp (by omega)) | exact and31r (by decide)) (fun c_8 => False.elim (by omega)) (fun c_8 => ?_)
    refine mm_aload d_Da_work_11 rfl ?_
    refine mm_getIN d_Da_work_12 rfl (sk_o_53 hM) hF.D ?_
    refine mm_iload d_Da_work_15 rfl ?_
    refine mm_s2i d_Da_work_16 (sp_has (by first | omega | assumption | exact hW.gp (by omega) | exact hW.ne (by omega) | exact hW.op (by omega) | exact and_lt256 (hW.gp (by omega)) | exact and_lt256 (hW.ne (by omega)) | exact and_lt256 (hW.op (by omega)) | exact and_lt256 (by assumption)) (by omega) ?_)
    refine mm_if_neN d_Da_work_19 (by first | omega | exact ite01_lt | exact bt8_lt31 _ _ | exact godB_lt31 _ _ _ | exact pop_lt31 _ | assumption | exact b31 (hW.gp (by omega)) | exact b31 (hW.ne (by omega)) | exact b31 (hW.op (by omega)) | exact and31 (hW.gp (by omega)) | exact and31 (hW.ne (by omega)) | exact and31 (hW.op (by omega)) | exact and31 (by assumption) | exact and31r (hW.ne (by omega)) | exact and31r (hW.gp (by omega)) | exact and31r (by decide)) (fun c_19 => ?_) (fun c_19 => ?_)
    · refine mm_ciN 0 d_Da_work_41 rfl ?_
      first
        | exact mm_rz d_Da_work_42 (h0 (fun z => c_19 z.2.1))
        | exact mm_rz d_Da_work_42 (h0 (fun z => c_38 z.2.2))
    · refine mm_aload d_Da_work_22 rfl ?_
      refine mm_getP d_Da_work_23 rfl (sk_o_53 hM) hP ?_
      refine mm_getP d_Da_work_26 rfl hCD.1.1 (CoS_p5 hCD.1) ?_
      refine mm_iload d_Da_work_29 rfl ?_
      refine mm_ialdN d_Da_work_30 (CoS_a5 hCD.1) (by omega) (by decide) (hCD.f5 (by omega)) ?_
      refine mm_aload d_Da_work_31 rfl ?_
      refine mm_getIN d_Da_work_32 rfl (sk_o_53 hM) hF.H ?_
      refine mm_ci d_Da_work_35 ?_
      refine mm_inotN d_Da_work_36 ?_
      refine mm_iandN d_Da_work_37 ?_
      refine mm_if_eqN d_Da_work_38 (by first | omega | exact ite01_lt | exact bt8_lt31 _ _ | exact godB_lt31 _ _ _ | exact pop_lt31 _ | assumption | exact b31 (hW.gp (by omega)) | exact b31 (hW.ne (by omega)) | exact b31 (hW.op (by omega)) | exact and31 (hW.gp (by omega)) | exact and31 (hW.ne (by omega)) | exact and31 (hW.op (by omega)) | exact and31 (by assumption) | exact and31r (hW.ne (by omega)) | exact and31r (hW.gp (by omega)) | exact and31r (by decide)) (fun c_38 => ?_) (fun c_38 => ?_)
      · refine mm_aload d_Da_work_43 rfl ?_
        refine mm_dup d_Da_work_44 rfl ?_
        refine mm_getIN d_Da_work_45 rfl (sk_o_53 hM) hF.D ?_
        refine mm_ciN 1 d_Da_work_48 rfl ?_
        refine mm_iload d_Da_work_49 rfl ?_
        refine mm_ishl1N d_Da_work_50 (by omega) ?_
        refine mm_iorN d_Da_work_51 ?_
        refine mm_putI d_Da_work_52 rfl (sk_o_53 hM) (Or.inl rfl) ?_
        have F1 := DaF.wD (I' := mm_I (mm_sI μ 53 0 (nI (sD σ ||| 2 ^ k)))) hF (fun b j => mm_I_sI)
        have f4 : Fr scD μ (mm_sI μ 53 0 (nI (sD σ ||| 2 ^ k))) := Fr.rf.sI rfl
        refine mm_ciN 1 d_Da_work_55 rfl ?_
        exact mm_rz d_Da_work_56 (h1 ⟨hkd, c_19, c_38⟩ _ ⟨f4.2.2.2 hM, hi2, hCD.frD f4 hi2, hP, F1⟩ f4)
      · refine mm_ciN 0 d_Da_work_41 rfl ?_
        first
          | exact mm_rz d_Da_work_42 (h0 (fun z => c_19 z.2.1))
          | exact mm_rz d_Da_work_42 (h0 (fun z => c_38 z.2.2))
  · refine mm_aload d_Da_work_0 rfl ?_
    refine mm_getP d_Da_work_1 rfl (sk_o_53 hM) hP ?_
    refine mm_iload d_Da_work_4 rfl ?_
    refine mm_v1i d_Da_work_5 hCD.1.1 (sp_Co_hasWorkN hCD (by omega) hW ?_)
    rw [if_neg hkd]
    refine mm_if_eqN d_Da_work_8 (by first | omega | exact ite01_lt | exact bt8_lt31 _ _ | exact godB_lt31 _ _ _ | exact pop_lt31 _ | assumption | exact b31 (hW.gp (by omega)) | exact b31 (hW.ne (by omega)) | exact b31 (hW.op (by omega)) | exact and31 (hW.gp (by omega)) | exact and31 (hW.ne (by omega)) | exact and31 (hW.op (by omega)) | exact and31 (by assumption) | exact and31r (hW.ne (by omega)) | exact and31r (hW.gp (by omega)) | exact and31r (by decide)) (fun c_8 => ?_) (fun c_8 => False.elim (by omega))
    refine mm_ciN 0 d_Da_work_41 rfl ?_
    exact mm_rz d_Da_work_42 (h0 (fun z => hkd z.1))
/-- who is offended first -/
def xiO (ξ : mm_Xi) (k c w : Nat) : mm_Xi := match xO ξ with
  | none => (some k, some (10 * c + w), xM ξ, xT ξ, xS ξ)
  | some _ => ξ
theorem sp_Da_forget {X : mm_X} {μ : mm_M} {q : mm_M → Prop} {i c w k : Nat} {D : mm_D} {σ : mm_S} {ξ : mm_Xi} (hS : DaS μ i D σ ξ) (hT : WfS σ) (hW : WfD D) (hc : c < 6) (hw : w < 8) (hk : k < 2 ^ 31) (ho : ∀ e, xO ξ = some e → e < 2 ^ 31) (h1 : dpa D w < sL σ (8 * c + w) + 1 → ∀ μ', DaS μ' i D (sH σ, sD σ, sA σ, sB σ + 1, sY σ, upN (sC σ) c (sC σ c ||| 2 ^ w), upN (sL σ) (8 * c + w) (sL σ (8 * c + w) + 1), sK σ) (xiO ξ k c w) → Fr scD μ μ' → q μ') (h0 : ¬ dpa D w < sL σ (8 * c + w) + 1 → ∀ μ', DaS μ' i D (sH σ, sD σ, sA σ, sB σ, sY σ, sC σ, upN (sL σ) (8 * c + w) (sL σ (8 * c + w) + 1), sK σ) ξ → Fr scD μ μ' → q μ') : mm_Cv X 1 0 0 k_Da_forget [.ref 53, .int (nI c), .int (nI w), .int (nI k)] μ q := by
  show mm_T X 1 0 0 k_Da_forget 0 [some (.ref 53), some (.int (nI c)), some (.int (nI w)), some (.int (nI k)), none] [] μ _
  obtain ⟨hM, hi2, hCD, hP, hF⟩ := hS
  have hpa := hW.pa hw
  have hsl := hT.2.2.2.2 (8 * c + w) (by omega)
  by_cases hd : dpa D w < sL σ (8 * c + w) + 1
  · refine mm_iload d_Da_forget_0 rfl ?_
    refine mm_ciN 8 d_Da_forget_1 rfl ?_
    refine mm_imulN d_Da_forget_3 ?_
    refine mm_iload d_Da_forget_4 rfl ?_
    refine mm_iaddN d_Da_forget_5 ?_
    rw [Nat.mul_comm c 8]
    refine mm_ist4 d_Da_forget_6 ?_
    refine mm_aload d_Da_forget_8 rfl ?_
    refine mm_getP d_Da_forget_9 rfl (sk_o_53 hM) (sk_p_53_6 hM) ?_
    refine mm_iload d_Da_forget_12 rfl ?_
    refine mm_dup2 d_Da_forget_14 rfl rfl ?_
    refine mm_ialdN d_Da_forget_15 (sk_a_55 hM) (by omega) (by decide) (hF.L (by omega)) ?_
    refine mm_ciN 1 d_Da_forget_16 rfl ?_
    refine mm_iaddN d_Da_forget_17 ?_
    refine mm_iastX d_Da_forget_18 (sk_a_55 hM) (by omega) (by decide) ?_
    have F1 := DaF.wL (I' := mm_I (mm_sI μ 55 (8 * c + w) (nI (sL σ (8 * c + w) + 1)))) hF (fun b j => mm_I_sI)
    have f1 : Fr scD μ (mm_sI μ 55 (8 * c + w) (nI (sL σ (8 * c + w) + 1))) := Fr.rf.sI rfl
    have hCD1 := hCD.frD f1 hi2
    have eL : sL (wL σ (8 * c + w) (sL σ (8 * c + w) + 1)) (8 * c + w) = sL σ (8 * c + w) + 1 := if_pos rfl
    refine mm_aload d_Da_forget_19 rfl ?_
    refine mm_getP d_Da_forget_20 rfl (sk_o_53 hM) (sk_p_53_6 hM) ?_
    refine mm_iload d_Da_forget_23 rfl ?_
    refine mm_ialdN d_Da_forget_25 (sk_a_55 hM) (by omega) (by decide) ((F1.L (by omega)).trans (by rw [eL])) ?_
    refine mm_aload d_Da_forget_26 rfl ?_
    refine mm_getP d_Da_forget_27 rfl (sk_o_53 hM) hP ?_
    refine mm_getP d_Da_forget_30 rfl hCD1.1.1 (CoS_p1 hCD1.1) ?_
    refine mm_iload d_Da_forget_33 rfl ?_
    refine mm_ialdN d_Da_forget_34 (CoS_a1 hCD1.1) (by omega) (by decide) (hCD1.f1 (by omega)) ?_
    refine mm_icmp_gtN d_Da_forget_35 (by first | omega | exact ite01_lt | exact bt8_lt31 _ _ | exact godB_lt31 _ _ _ | exact pop_lt31 _ | assumption | exact b31 (hW.gp (by omega)) | exact b31 (hW.ne (by omega)) | exact b31 (hW.op (by omega)) | exact and31 (hW.gp (by omega)) | exact and31 (hW.ne (by omega)) | exact and31 (hW.op (by omega)) | exact and31 (by assumption) | exact and31r (hW.ne (by omega)) | exact and31r (hW.gp (by omega)) | exact and31r (by decide)) (by first | omega | exact ite01_lt | exact bt8_lt31 _ _ | exact godB_lt31 _ _ _ | exact pop_lt31 _ | assumption | exact b31 (hW.gp (by omega)) | exact b31 (hW.ne (by omega)) | exact b31 (hW.op (by omega)) | exact and31 (hW.gp (by omega)) | exact and31 (hW.ne (by omega)) | exact and31 (hW.op (by omega)) | exact and31 (by assumption) | exact and31r (hW.ne (by omega)) | exact and31r (hW.gp (by omega)) | exact and31r (by decide)) (fun c_35 => ?_) (fun c_35 => False.elim (by omega))
    refine mm_aload d_Da_forget_39 rfl ?_
    refine mm_getP d_Da_forget_40 rfl (sk_o_53 hM) (sk_p_53_5 hM) ?_
    refine mm_iload d_Da_forget_43 rfl ?_
    refine mm_dup2 d_Da_forget_44 rfl rfl ?_
    refine mm_ialdN d_Da_forget_45 (sk_a_54 hM) (by omega) (by decide) (F1.C hc) ?_
    refine mm_ciN 1 d_Da_forget_46 rfl ?_
    refine mm_iload d_Da_forget_47 rfl ?_
    refine mm_ishl1N d_Da_forget_48 (by omega) ?_
    refine mm_iorN d_Da_forget_49 ?_
    refine mm_iastX d_Da_forget_50 (sk_a_54 hM) (by omega) (by decide) ?_
    have F2 := DaF.wC (I' := mm_I (mm_sI (mm_sI μ 55 (8 * c + w) (nI (sL σ (8 * c + w) + 1))) 54 c (nI (sC σ c ||| 2 ^ w)))) F1 (fun b j => mm_I_sI)
    refine mm_aload d_Da_forget_51 rfl ?_
    refine mm_dup d_Da_forget_52 rfl ?_
    refine mm_getIN d_Da_forget_53 rfl (sk_o_53 hM) F2.B ?_
    refine mm_ciN 1 d_Da_forget_56 rfl ?_
    refine mm_iaddN d_Da_forget_57 ?_
    refine mm_putI d_Da_forget_58 rfl (sk_o_53 hM) (Or.inl rfl) ?_
    have F3 := DaF.wB (I' := mm_I (mm_sI (mm_sI (mm_sI μ 55 (8 * c + w) (nI (sL σ (8 * c + w) + 1))) 54 c (nI (sC σ c ||| 2 ^ w))) 53 12 (nI (sB σ + 1)))) F2 (fun b j => mm_I_sI)
    have f3 : Fr scD μ (mm_sI (mm_sI (mm_sI μ 55 (8 * c + w) (nI (sL σ (8 * c + w) + 1))) 54 c (nI (sC σ c ||| 2 ^ w))) 53 12 (nI (sB σ + 1))) := (f1.sI rfl).sI rfl
    unfold xiO at h1
    refine mm_aload d_Da_forget_61 rfl ?_
    rcases hox : xO ξ with _ | e
    · rw [hox] at h1
      have eo : oI (xO ξ) = -1 := by rw [hox]; rfl
      refine mm_getIV d_Da_forget_62 rfl (sk_o_53 hM) (F3.vO.trans eo) ?_
      refine mm_ci d_Da_forget_65 ?_
      refine mm_icmp_neS d_Da_forget_66 ?_
      refine mm_aload d_Da_forget_69 rfl ?_
      refine mm_iload d_Da_forget_70 rfl ?_
      refine mm_putI d_Da_forget_71 rfl (sk_o_53 hM) (Or.inl rfl) ?_
      have F4 := DaF.zO (v := some k) (I' := mm_I (mm_sI (mm_sI (mm_sI (mm_sI μ 55 (8 * c + w) (nI (sL σ (8 * c + w) + 1))) 54 c (nI (sC σ c ||| 2 ^ w))) 53 12 (nI (sB σ + 1))) 53 1 (nI k))) F3 (fun b j => mm_I_sI)
      refine mm_aload d_Da_forget_74 rfl ?_
      refine mm_ciN 10 d_Da_forget_75 rfl ?_
      refine mm_iload d_Da_forget_77 rfl ?_
      refine mm_imulN d_Da_forget_78 ?_
      refine mm_iload d_Da_forget_79 rfl ?_
      refine mm_iaddN d_Da_forget_80 ?_
      refine mm_putI d_Da_forget_81 rfl (sk_o_53 hM) (Or.inl rfl) ?_
      have F5 := DaF.zW (v := some (10 * c + w)) (I' := mm_I (mm_sI (mm_sI (mm_sI (mm_sI (mm_sI μ 55 (8 * c + w) (nI (sL σ (8 * c + w) + 1))) 54 c (nI (sC σ c ||| 2 ^ w))) 53 12 (nI (sB σ + 1))) 53 1 (nI k)) 53 2 (nI (10 * c + w)))) F4 (fun b j => mm_I_sI)
      have f5 : Fr scD μ (mm_sI (mm_sI (mm_sI (mm_sI (mm_sI μ 55 (8 * c + w) (nI (sL σ (8 * c + w) + 1))) 54 c (nI (sC σ c ||| 2 ^ w))) 53 12 (nI (sB σ + 1))) 53 1 (nI k)) 53 2 (nI (10 * c + w))) := (f3.sI rfl).sI rfl
      exact mm_rv d_Da_forget_84 (h1 hd _ ⟨f5.2.2.2 hM, hi2, hCD.frD f5 hi2, hP, F5⟩ f5)
    · rw [hox] at h1
      have he := ho e hox
      have eo : oI (xO ξ) = nI e := by rw [hox]; rfl
      refine mm_getIN d_Da_forget_62 rfl (sk_o_53 hM) (F3.vO.trans eo) ?_
      refine mm_ci d_Da_forget_65 ?_
      refine mm_icmp_neM1 d_Da_forget_66 (by first | omega | exact ite01_lt | exact bt8_lt31 _ _ | exact godB_lt31 _ _ _ | exact pop_lt31 _ | assumption | exact b31 (hW.gp (by omega)) | exact b31 (hW.ne (by omega)) | exact b31 (hW.op (by omega)) | exact and31 (hW.gp (by omega)) | exact and31 (hW.ne (by omega)) | exact and31 (hW.op (by omega)) | exact and31 (by assumption) | exact and31r (hW.ne (by omega)) | exact and31r (hW.gp (by omega)) | exact and31r (by decide)) ?_
      exact mm_rv d_Da_forget_84 (h1 hd _ ⟨f3.2.2.2 hM, hi2, hCD.frD f3 hi2, hP, F3⟩ f3)
  · refine mm_iload d_Da_forget_0 rfl ?_
    refine mm_ciN 8 d_Da_forget_1 rfl ?_
    refine mm_imulN d_Da_forget_3 ?_
    refine mm_iload d_Da_forget_4 rfl ?_
    refine mm_iaddN d_Da_forget_5 ?_
    rw [Nat.mul_comm c 8]
    refine mm_ist4 d_Da_forget_6 ?_
    refine mm_aload d_Da_forget_8 rfl ?_
    refine mm_getP d_Da_forget_9 rfl (sk_o_53 hM) (sk_p_53_6 hM) ?_
    refine mm_iload d_Da_forget_12 rfl ?_
    refine mm_dup2 d_Da_forget_14 rfl rfl ?_
    refine mm_ialdN d_Da_forget_15 (sk_a_55 hM) (by omega) (by decide) (hF.L (by omega)) ?_
    refine mm_ciN 1 d_Da_forget_16 rfl ?_
    refine mm_iaddN d_Da_forget_17 ?_
    refine mm_iastX d_Da_forget_18 (sk_a_55 hM) (by omega) (by decide) ?_
    have F1 := DaF.wL (I' := mm_I (mm_sI μ 55 (8 * c + w) (nI (sL σ (8 * c + w) + 1)))) hF (fun b j => mm_I_sI)
    have f1 : Fr scD μ (mm_sI μ 55 (8 * c + w) (nI (sL σ (8 * c + w) + 1))) := Fr.rf.sI rfl
    have hCD1 := hCD.frD f1 hi2
    have eL : sL (wL σ (8 * c + w) (sL σ (8 * c + w) + 1)) (8 * c + w) = sL σ (8 * c + w) + 1 := if_pos rfl
    refine mm_aload d_Da_forget_19 rfl ?_
    refine mm_getP d_Da_forget_20 rfl (sk_o_53 hM) (sk_p_53_6 hM) ?_
    refine mm_iload d_Da_forget_23 rfl ?_
    refine mm_ialdN d_Da_forget_25 (sk_a_55 hM) (by omega) (by decide) ((F1.L (by omega)).trans (by rw [eL])) ?_
    refine mm_aload d_Da_forget_26 rfl ?_
    refine mm_getP d_Da_forget_27 rfl (sk_o_53 hM) hP ?_
    refine mm_getP d_Da_forget_30 rfl hCD1.1.1 (CoS_p1 hCD1.1) ?_
    refine mm_iload d_Da_forget_33 rfl ?_
    refine mm_ialdN d_Da_forget_34 (CoS_a1 hCD1.1) (by omega) (by decide) (hCD1.f1 (by omega)) ?_
    refine mm_icmp_gtN d_Da_forget_35 (by first | omega | exact ite01_lt | exact bt8_lt31 _ _ | exact godB_lt31 _ _ _ | exact pop_lt31 _ | assumption | exact b31 (hW.gp (by omega)) | exact b31 (hW.ne (by omega)) | exact b31 (hW.op (by omega)) | exact and31 (hW.gp (by omega)) | exact and31 (hW.ne (by omega)) | exact and31 (hW.op (by omega)) | exact and31 (by assumption) | exact and31r (hW.ne (by omega)) | exact and31r (hW.gp (by omega)) | exact and31r (by decide)) (by first | omega | exact ite01_lt | exact bt8_lt31 _ _ | exact godB_lt31 _ _ _ | exact pop_lt31 _ | assumption | exact b31 (hW.gp (by omega)) | exact b31 (hW.ne (by omega)) | exact b31 (hW.op (by omega)) | exact and31 (hW.gp (by omega)) | exact and31 (hW.ne (by omega)) | exact and31 (hW.op (by omega)) | exact and31 (by assumption) | exact and31r (hW.ne (by omega)) | exact and31r (hW.gp (by omega)) | exact and31r (by decide)) (fun c_35 => False.elim (by omega)) (fun c_35 => ?_)
    exact mm_rv d_Da_forget_38 (h0 (by omega) _ ⟨f1.2.2.2 hM, hi2, hCD1, hP, F1⟩ f1)
