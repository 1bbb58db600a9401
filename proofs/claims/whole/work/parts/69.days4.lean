/-! a year as it goes on: deeds of the model -/
theorem readyK_bit {D : mm_D} {s : Nat} : ∀ K x, K ≤ 8 → x < K → (bt8 (readyK D s K) x ≠ 0 ↔ dne D x &&& (s ^^^ 4294967295) = 0)
  | 0, x, _, h => absurd h (Nat.not_lt_zero x)
  | K + 1, x, hK, h => by
    unfold readyK
    by_cases hc : dne D K &&& (s ^^^ 4294967295) = 0
    · rw [if_pos hc, Ne, bt8_or2]
      by_cases e : x = K
      · subst e; simp [hc]
      · have ih := readyK_bit (D := D) (s := s) K x (by omega) (by omega)
        simp [e]
        exact ih
    · rw [if_neg hc, Nat.or_zero]
      by_cases e : x = K
      · subst e
        have hl := readyK_lt D s x (by omega)
        have : bt8 (readyK D s x) x = 0 := by unfold bt8; rw [Nat.div_eq_of_lt hl]
        simp [this, hc]
      · exact readyK_bit K x (by omega) (by omega)
theorem readyN_bit {D : mm_D} (hW : WfD D) {s x : Nat} (hx : x < dw D) : bt8 (readyN D s) x ≠ 0 ↔ dne D x &&& (s ^^^ 4294967295) = 0 := readyK_bit _ _ (by have := hW.2.1; omega) hx
theorem sp_M_asking {X : mm_X} {μ : mm_M} {q : Int32 → mm_M → Prop} {k c w : Nat} {D : mm_D} {σ : mm_S} (hS : MoS μ k D σ) (hT : WfS σ) (hc : c < 6) (hw : w < 8) (h1 : askC D σ c w → ∀ μ', MoS μ' k D (askS D σ c w) → Mk μ μ' → q (nI 1) μ') (h0 : ¬ askC D σ c w → q (nI 0) μ) : mm_Ci X 2 0 0 k_M_asking [.ref 71, .int (nI c), .int (nI w)] μ q := by
  show mm_T X 2 0 0 k_M_asking 0 [some (.ref 71), some (.int (nI c)), some (.int (nI w))] [] μ _
  obtain ⟨hH, hF⟩ := hS
  have hM := hH.1
  have hW := hH.wf
  have hsc := hT.2.2.2.1 c hc
  have hsa := hT.2.2.1
  unfold askC at h1 h0
  by_cases hcd : c < dn D
  · refine mm_aload d_M_asking_0 rfl ?_
    refine mm_iload d_M_asking_1 rfl ?_
    refine mm_v1i d_M_asking_2 (sk_o_71 hM) (sp_M_isChildT hH (by omega) ?_)
    refine mm_if_eqN d_M_asking_5 (by first | omega | exact ite01_lt | exact bt8_lt31 _ _ | exact godB_lt31 _ _ _ | exact pop_lt31 _ | assumption | exact b31 (hW.gp (by omega)) | exact b31 (hW.ne (by omega)) | exact b31 (hW.op (by omega)) | exact and31 (hW.gp (by omega)) | exact and31 (hW.ne (by omega)) | exact and31 (hW.op (by omega)) | exact and31 (by assumption) | exact and31r (hW.ne (by omega)) | exact and31r (hW.gp (by omega)) | exact and31r (by decide)) (fun c_5 => False.elim (by omega)) (fun c_5 => ?_)
    refine mm_aload d_M_asking_8 rfl ?_
    refine mm_iload d_M_asking_9 rfl ?_
    refine mm_v1i d_M_asking_10 (sk_o_71 hM) (sp_M_gods hH (by omega) ?_)
    refine mm_iload d_M_asking_13 rfl ?_
    refine mm_s2i d_M_asking_14 (sp_M_has (by first | omega | assumption | exact hW.gp (by omega) | exact hW.ne (by omega) | exact hW.op (by omega) | exact and_lt256 (hW.gp (by omega)) | exact and_lt256 (hW.ne (by omega)) | exact and_lt256 (hW.op (by omega)) | exact and_lt256 (by assumption)) (by omega) ?_)
    refine mm_if_eqN d_M_asking_17 (by first | omega | exact ite01_lt | exact bt8_lt31 _ _ | exact godB_lt31 _ _ _ | exact pop_lt31 _ | assumption | exact b31 (hW.gp (by omega)) | exact b31 (hW.ne (by omega)) | exact b31 (hW.op (by omega)) | exact and31 (hW.gp (by omega)) | exact and31 (hW.ne (by omega)) | exact and31 (hW.op (by omega)) | exact and31 (by assumption) | exact and31r (hW.ne (by omega)) | exact and31r (hW.gp (by omega)) | exact and31r (by decide)) (fun c_17 => ?_) (fun c_17 => ?_)
    · refine mm_ciN 0 d_M_asking_44 rfl ?_
      first
        | exact mm_rz d_M_asking_45 (h0 (fun z => z.2.1 c_17))
        | exact mm_rz d_M_asking_45 (h0 (fun z => c_28 z.2.2.1))
        | exact mm_rz d_M_asking_45 (h0 (fun z => c_41 z.2.2.2))
    · refine mm_aload d_M_asking_20 rfl ?_
      refine mm_getIN d_M_asking_21 rfl (sk_o_71 hM) hF.A ?_
      refine mm_iload d_M_asking_24 rfl ?_
      refine mm_s2i d_M_asking_25 (sp_M_has (by first | omega | assumption | exact hW.gp (by omega) | exact hW.ne (by omega) | exact hW.op (by omega) | exact and_lt256 (hW.gp (by omega)) | exact and_lt256 (hW.ne (by omega)) | exact and_lt256 (hW.op (by omega)) | exact and_lt256 (by assumption)) (by omega) ?_)
      refine mm_if_neN d_M_asking_28 (by first | omega | exact ite01_lt | exact bt8_lt31 _ _ | exact godB_lt31 _ _ _ | exact pop_lt31 _ | assumption | exact b31 (hW.gp (by omega)) | exact b31 (hW.ne (by omega)) | exact b31 (hW.op (by omega)) | exact and31 (hW.gp (by omega)) | exact and31 (hW.ne (by omega)) | exact and31 (hW.op (by omega)) | exact and31 (by assumption) | exact and31r (hW.ne (by omega)) | exact and31r (hW.gp (by omega)) | exact and31r (by decide)) (fun c_28 => ?_) (fun c_28 => ?_)
      · refine mm_ciN 0 d_M_asking_44 rfl ?_
        first
          | exact mm_rz d_M_asking_45 (h0 (fun z => z.2.1 c_17))
          | exact mm_rz d_M_asking_45 (h0 (fun z => c_28 z.2.2.1))
          | exact mm_rz d_M_asking_45 (h0 (fun z => c_41 z.2.2.2))
      · refine mm_aload d_M_asking_31 rfl ?_
        refine mm_getP d_M_asking_32 rfl (sk_o_71 hM) (sk_p_71_30 hM) ?_
        refine mm_iload d_M_asking_35 rfl ?_
        refine mm_ialdN d_M_asking_36 (sk_a_82 hM) (by omega) (by decide) (hF.C hc) ?_
        refine mm_iload d_M_asking_37 rfl ?_
        refine mm_s2i d_M_asking_38 (sp_M_has (by first | omega | assumption | exact hW.gp (by omega) | exact hW.ne (by omega) | exact hW.op (by omega) | exact and_lt256 (hW.gp (by omega)) | exact and_lt256 (hW.ne (by omega)) | exact and_lt256 (hW.op (by omega)) | exact and_lt256 (by assumption)) (by omega) ?_)
        refine mm_if_eqN d_M_asking_41 (by first | omega | exact ite01_lt | exact bt8_lt31 _ _ | exact godB_lt31 _ _ _ | exact pop_lt31 _ | assumption | exact b31 (hW.gp (by omega)) | exact b31 (hW.ne (by omega)) | exact b31 (hW.op (by omega)) | exact and31 (hW.gp (by omega)) | exact and31 (hW.ne (by omega)) | exact and31 (hW.op (by omega)) | exact and31 (by assumption) | exact and31r (hW.ne (by omega)) | exact and31r (hW.gp (by omega)) | exact and31r (by decide)) (fun c_41 => ?_) (fun c_41 => ?_)
        · refine mm_aload d_M_asking_46 rfl ?_
          refine mm_aload d_M_asking_47 rfl ?_
          refine mm_aload d_M_asking_48 rfl ?_
          refine mm_getIN d_M_asking_49 rfl (sk_o_71 hM) hF.H ?_
          refine mm_iload d_M_asking_52 rfl ?_
          refine mm_v2i d_M_asking_53 (sk_o_71 hM) (sp_M_comes hH (by omega) ?_)
          refine mm_putI d_M_asking_56 rfl (sk_o_71 hM) (Or.inl rfl) ?_
          have F1 := MoF.wH (I' := mm_I (mm_sI μ 71 25 (nI (comesN D (sH σ) w)))) hF (fun b j => mm_I_sI)
          refine mm_aload d_M_asking_59 rfl ?_
          refine mm_getP d_M_asking_60 rfl (sk_o_71 hM) (sk_p_71_31 hM) ?_
          refine mm_ciN 8 d_M_asking_63 rfl ?_
          refine mm_iload d_M_asking_65 rfl ?_
          refine mm_imulN d_M_asking_66 ?_
          refine mm_iload d_M_asking_67 rfl ?_
          refine mm_iaddN d_M_asking_68 ?_
          refine mm_ciN 0 d_M_asking_69 rfl ?_
          refine mm_iastX d_M_asking_70 (sk_a_83 hM) (by omega) (by decide) ?_
          have F2 := MoF.wL (I' := mm_I (mm_sI (mm_sI μ 71 25 (nI (comesN D (sH σ) w))) 83 (8 * c + w) (nI 0))) F1 (fun b j => mm_I_sI)
          refine mm_aload d_M_asking_71 rfl ?_
          refine mm_dup d_M_asking_72 rfl ?_
          refine mm_getIN d_M_asking_73 rfl (sk_o_71 hM) F2.A ?_
          refine mm_ciN 1 d_M_asking_76 rfl ?_
          refine mm_iload d_M_asking_77 rfl ?_
          refine mm_ishl1N d_M_asking_78 (by omega) ?_
          refine mm_iorN d_M_asking_79 ?_
          refine mm_putI d_M_asking_80 rfl (sk_o_71 hM) (Or.inl rfl) ?_
          have F3 := MoF.wA (I' := mm_I (mm_sI (mm_sI (mm_sI μ 71 25 (nI (comesN D (sH σ) w))) 83 (8 * c + w) (nI 0)) 71 27 (nI (sA σ ||| 2 ^ c)))) F2 (fun b j => mm_I_sI)
          refine mm_aload d_M_asking_83 rfl ?_
          refine mm_getP d_M_asking_84 rfl (sk_o_71 hM) (sk_p_71_32 hM) ?_
          refine mm_iload d_M_asking_87 rfl ?_
          refine mm_dup2 d_M_asking_88 rfl rfl ?_
          refine mm_ialdN d_M_asking_89 (sk_a_84 hM) (by omega) (by decide) (F3.K hc) ?_
          refine mm_ciN 1 d_M_asking_90 rfl ?_
          refine mm_iaddN d_M_asking_91 ?_
          refine mm_iastX d_M_asking_92 (sk_a_84 hM) (by omega) (by decide) ?_
          have F4 := MoF.wK (I' := mm_I (mm_sI (mm_sI (mm_sI (mm_sI μ 71 25 (nI (comesN D (sH σ) w))) 83 (8 * c + w) (nI 0)) 71 27 (nI (sA σ ||| 2 ^ c))) 84 c (nI (sK σ c + 1)))) F3 (fun b j => mm_I_sI)
          have f4 : Mk μ (mm_sI (mm_sI (mm_sI (mm_sI μ 71 25 (nI (comesN D (sH σ) w))) 83 (8 * c + w) (nI 0)) 71 27 (nI (sA σ ||| 2 ^ c))) 84 c (nI (sK σ c + 1))) := (((Mk.rf.sI rfl (by omega)).sI rfl (by omega)).sI rfl (by omega)).sI rfl (by omega)
          refine mm_ciN 1 d_M_asking_93 rfl ?_
          exact mm_rz d_M_asking_94 (h1 ⟨hcd, c_17, c_28, c_41⟩ _ ⟨(((hH.s71 (by decide)).sI (by decide) (by decide)).s71 (by decide)).sI (by decide) (by decide), F4⟩ f4)
        · refine mm_ciN 0 d_M_asking_44 rfl ?_
          first
            | exact mm_rz d_M_asking_45 (h0 (fun z => z.2.1 c_17))
            | exact mm_rz d_M_asking_45 (h0 (fun z => c_28 z.2.2.1))
            | exact mm_rz d_M_asking_45 (h0 (fun z => c_41 z.2.2.2))
  · refine mm_aload d_M_asking_0 rfl ?_
    refine mm_iload d_M_asking_1 rfl ?_
    refine mm_v1i d_M_asking_2 (sk_o_71 hM) (sp_M_isChildN hH (by omega) ?_)
    rw [if_neg hcd]
    refine mm_if_eqN d_M_asking_5 (by first | omega | exact ite01_lt | exact bt8_lt31 _ _ | exact godB_lt31 _ _ _ | exact pop_lt31 _ | assumption | exact b31 (hW.gp (by omega)) | exact b31 (hW.ne (by omega)) | exact b31 (hW.op (by omega)) | exact and31 (hW.gp (by omega)) | exact and31 (hW.ne (by omega)) | exact and31 (hW.op (by omega)) | exact and31 (by assumption) | exact and31r (hW.ne (by omega)) | exact and31r (hW.gp (by omega)) | exact and31r (by decide)) (fun c_5 => ?_) (fun c_5 => False.elim (by omega))
    refine mm_ciN 0 d_M_asking_44 rfl ?_
    exact mm_rz d_M_asking_45 (h0 (fun z => hcd z.1))
theorem sp_M_thanking {X : mm_X} {μ : mm_M} {q : Int32 → mm_M → Prop} {k c w : Nat} {D : mm_D} {σ : mm_S} (hS : MoS μ k D σ) (hT : WfS σ) (hc : c < 6) (hw : w < 8) (h1 : thaC D c w → ∀ μ', MoS μ' k D (thaS σ c w) → Mk μ μ' → q (nI 1) μ') (h0 : ¬ thaC D c w → q (nI 0) μ) : mm_Ci X 2 0 0 k_M_thanking [.ref 71, .int (nI c), .int (nI w)] μ q := by
  show mm_T X 2 0 0 k_M_thanking 0 [some (.ref 71), some (.int (nI c)), some (.int (nI w))] [] μ _
  obtain ⟨hH, hF⟩ := hS
  have hM := hH.1
  have hW := hH.wf
  have hsc := hT.2.2.2.1 c hc
  unfold thaC at h1 h0
  by_cases hcd : c < dn D
  · refine mm_aload d_M_thanking_0 rfl ?_
    refine mm_iload d_M_thanking_1 rfl ?_
    refine mm_v1i d_M_thanking_2 (sk_o_71 hM) (sp_M_isChildT hH (by omega) ?_)
    refine mm_if_eqN d_M_thanking_5 (by first | omega | exact ite01_lt | exact bt8_lt31 _ _ | exact godB_lt31 _ _ _ | exact pop_lt31 _ | assumption | exact b31 (hW.gp (by omega)) | exact b31 (hW.ne (by omega)) | exact b31 (hW.op (by omega)) | exact and31 (hW.gp (by omega)) | exact and31 (hW.ne (by omega)) | exact and31 (hW.op (by omega)) | exact and31 (by assumption) | exact and31r (hW.ne (by omega)) | exact and31r (hW.gp (by omega)) | exact and31r (by decide)) (fun c_5 => False.elim (by omega)) (fun c_5 => ?_)
    refine mm_aload d_M_thanking_8 rfl ?_
    refine mm_iload d_M_thanking_9 rfl ?_
    refine mm_v1i d_M_thanking_10 (sk_o_71 hM) (sp_M_gods hH (by omega) ?_)
    refine mm_iload d_M_thanking_13 rfl ?_
    refine mm_s2i d_M_thanking_14 (sp_M_has (by first | omega | assumption | exact hW.gp (by omega) | exact hW.ne (by omega) | exact hW.op (by omega) | exact and_lt256 (hW.gp (by omega)) | exact and_lt256 (hW.ne (by omega)) | exact and_lt256 (hW.op (by omega)) | exact and_lt256 (by assumption)) (by omega) ?_)
    refine mm_if_neN d_M_thanking_17 (by first | omega | exact ite01_lt | exact bt8_lt31 _ _ | exact godB_lt31 _ _ _ | exact pop_lt31 _ | assumption | exact b31 (hW.gp (by omega)) | exact b31 (hW.ne (by omega)) | exact b31 (hW.op (by omega)) | exact and31 (hW.gp (by omega)) | exact and31 (hW.ne (by omega)) | exact and31 (hW.op (by omega)) | exact and31 (by assumption) | exact and31r (hW.ne (by omega)) | exact and31r (hW.gp (by omega)) | exact and31r (by decide)) (fun c_17 => ?_) (fun c_17 => ?_)
    · refine mm_aload d_M_thanking_22 rfl ?_
      refine mm_getP d_M_thanking_23 rfl (sk_o_71 hM) (sk_p_71_31 hM) ?_
      refine mm_ciN 8 d_M_thanking_26 rfl ?_
      refine mm_iload d_M_thanking_28 rfl ?_
      refine mm_imulN d_M_thanking_29 ?_
      refine mm_iload d_M_thanking_30 rfl ?_
      refine mm_iaddN d_M_thanking_31 ?_
      refine mm_ciN 0 d_M_thanking_32 rfl ?_
      refine mm_iastX d_M_thanking_33 (sk_a_83 hM) (by omega) (by decide) ?_
      have F1 := MoF.wL (I' := mm_I (mm_sI μ 83 (8 * c + w) (nI 0))) hF (fun b j => mm_I_sI)
      refine mm_aload d_M_thanking_34 rfl ?_
      refine mm_getP d_M_thanking_35 rfl (sk_o_71 hM) (sk_p_71_30 hM) ?_
      refine mm_iload d_M_thanking_38 rfl ?_
      refine mm_dup2 d_M_thanking_39 rfl rfl ?_
      refine mm_ialdN d_M_thanking_40 (sk_a_82 hM) (by omega) (by decide) (F1.C hc) ?_
      refine mm_ciN 1 d_M_thanking_41 rfl ?_
      refine mm_iload d_M_thanking_42 rfl ?_
      refine mm_ishl1N d_M_thanking_43 (by omega) ?_
      refine mm_ci d_M_thanking_44 ?_
      refine mm_inotN d_M_thanking_45 ?_
      refine mm_iandN d_M_thanking_46 ?_
      refine mm_iastX d_M_thanking_47 (sk_a_82 hM) (by omega) (by decide) ?_
      have F2 := MoF.wC (I' := mm_I (mm_sI (mm_sI μ 83 (8 * c + w) (nI 0)) 82 c (nI (sC σ c &&& (2 ^ w ^^^ 4294967295))))) F1 (fun b j => mm_I_sI)
      have f4 : Mk μ (mm_sI (mm_sI μ 83 (8 * c + w) (nI 0)) 82 c (nI (sC σ c &&& (2 ^ w ^^^ 4294967295)))) := (Mk.rf.sI rfl (by omega)).sI rfl (by omega)
      refine mm_ciN 1 d_M_thanking_48 rfl ?_
      exact mm_rz d_M_thanking_49 (h1 ⟨hcd, c_17⟩ _ ⟨(hH.sI (by decide) (by decide)).sI (by decide) (by decide), F2⟩ f4)
    · refine mm_ciN 0 d_M_thanking_20 rfl ?_
      exact mm_rz d_M_thanking_21 (h0 (fun z => z.2 c_17))
  · refine mm_aload d_M_thanking_0 rfl ?_
    refine mm_iload d_M_thanking_1 rfl ?_
    refine mm_v1i d_M_thanking_2 (sk_o_71 hM) (sp_M_isChildN hH (by omega) ?_)
    rw [if_neg hcd]
    refine mm_if_eqN d_M_thanking_5 (by first | omega | exact ite01_lt | exact bt8_lt31 _ _ | exact godB_lt31 _ _ _ | exact pop_lt31 _ | assumption | exact b31 (hW.gp (by omega)) | exact b31 (hW.ne (by omega)) | exact b31 (hW.op (by omega)) | exact and31 (hW.gp (by omega)) | exact and31 (hW.ne (by omega)) | exact and31 (hW.op (by omega)) | exact and31 (by assumption) | exact and31r (hW.ne (by omega)) | exact and31r (hW.gp (by omega)) | exact and31r (by decide)) (fun c_5 => ?_) (fun c_5 => False.elim (by omega))
    refine mm_ciN 0 d_M_thanking_20 rfl ?_
    exact mm_rz d_M_thanking_21 (h0 (fun z => hcd z.1))
theorem sp_M_goesOn {X : mm_X} {μ : mm_M} {q : mm_M → Prop} {k : Nat} {D : mm_D} {σ : mm_S} (hS : MoS μ k D σ) (hT : WfS σ ∧ WfL D σ) (h : ∀ μ', MoS μ' k D (dyE (dyK D σ (8 * dn D))) → Mk μ μ' → q μ') : mm_Cv X 2 0 0 k_M_goesOn [.ref 71] μ q := by
  show mm_T X 2 0 0 k_M_goesOn 0 [some (.ref 71), none, none, none] [] μ _
  have hM := hS.1.1
  have hW := hS.1.wf
  have hn6 := hW.1
  refine mm_ciN 0 d_M_goesOn_0 rfl ?_
  refine mm_ist1 d_M_goesOn_1 ?_
  refine mm_up (P := fun i => ∀ ν, (MoS ν k D (dyK D σ i) ∧ Mk μ ν) → ∀ l2 l3 : Option Value, mm_T X _ 0 0 k_M_goesOn 2 [some (.ref 71), some (.int (nI i)), l2, l3] [] ν _) (8 * dn D) ?_ ?_ μ ⟨hS, Mk.rf⟩ none none
  · intro ν hI l2 l3
    obtain ⟨⟨hH, hF⟩, hk⟩ := hI
    have hM := hH.1
    refine mm_iload d_M_goesOn_2 rfl ?_
    refine mm_ciN 8 d_M_goesOn_3 rfl ?_
    refine mm_aload d_M_goesOn_5 rfl ?_
    refine mm_getIN d_M_goesOn_6 rfl (sk_o_71 hM) hH.n ?_
    refine mm_imulN d_M_goesOn_9 ?_
    refine mm_icmp_geN d_M_goesOn_10 (by first | omega | exact ite01_lt | exact bt8_lt31 _ _ | exact godB_lt31 _ _ _ | exact pop_lt31 _ | assumption | exact b31 (hW.gp (by omega)) | exact b31 (hW.ne (by omega)) | exact b31 (hW.op (by omega)) | exact and31 (hW.gp (by omega)) | exact and31 (hW.ne (by omega)) | exact and31 (hW.op (by omega)) | exact and31 (by assumption) | exact and31r (hW.ne (by omega)) | exact and31r (hW.gp (by omega)) | exact and31r (by decide)) (by first | omega | exact ite01_lt | exact bt8_lt31 _ _ | exact godB_lt31 _ _ _ | exact pop_lt31 _ | assumption | exact b31 (hW.gp (by omega)) | exact b31 (hW.ne (by omega)) | exact b31 (hW.op (by omega)) | exact and31 (hW.gp (by omega)) | exact and31 (hW.ne (by omega)) | exact and31 (hW.op (by omega)) | exact and31 (by assumption) | exact and31r (hW.ne (by omega)) | exact and31r (hW.gp (by omega)) | exact and31r (by decide)) (fun c_10 => ?_) (fun c_10 => False.elim (by omega))
    refine mm_aload d_M_goesOn_103 rfl ?_
    refine mm_ciN 0 d_M_goesOn_104 rfl ?_
    refine mm_putI d_M_goesOn_105 rfl (sk_o_71 hM) (Or.inl rfl) ?_
    have F1 := MoF.wH (I' := mm_I (mm_sI ν 71 25 (nI 0))) hF (fun b j => mm_I_sI)
    refine mm_aload d_M_goesOn_108 rfl ?_
    refine mm_ciN 0 d_M_goesOn_109 rfl ?_
    refine mm_putI d_M_goesOn_110 rfl (sk_o_71 hM) (Or.inl rfl) ?_
    have F2 := MoF.wA (I' := mm_I (mm_sI (mm_sI ν 71 25 (nI 0)) 71 27 (nI 0))) F1 (fun b j => mm_I_sI)
    refine mm_aload d_M_goesOn_113 rfl ?_
    refine mm_dup d_M_goesOn_114 rfl ?_
    refine mm_getIN d_M_goesOn_115 rfl (sk_o_71 hM) F2.Y ?_
    refine mm_ciN 1 d_M_goesOn_118 rfl ?_
    refine mm_iaddN d_M_goesOn_119 ?_
    refine mm_putI d_M_goesOn_120 rfl (sk_o_71 hM) (Or.inl rfl) ?_
    have F3 := MoF.wY (I' := mm_I (mm_sI (mm_sI (mm_sI ν 71 25 (nI 0)) 71 27 (nI 0)) 71 29 (nI (sY (dyK D σ (8 * dn D)) + 1)))) F2 (fun b j => mm_I_sI)
    exact mm_rv d_M_goesOn_123 (h _ ⟨((hH.s71 (by decide)).s71 (by decide)).s71 (by decide), F3⟩ (((hk.sI rfl (by omega)).sI rfl (by omega)).sI rfl (by omega)))
  · intro i hi ih ν hI l2 l3
    obtain ⟨⟨hH, hF⟩, hk⟩ := hI
    have hM := hH.1
    have hTK := WfT_dyK hW hT i (by omega)
    have hsc := hTK.1.2.2.2.1 (i / 8) (by omega)
    have hsl := hTK.1.2.2.2.2 i (by omega)
    have hpa := hW.pa (j := i % 8) (by omega)
    replace ih : ∀ ν, (MoS ν k D (dyS D (dyK D σ i) i) ∧ Mk μ ν) → ∀ l2 l3 : Option Value, mm_T X 2 0 0 k_M_goesOn 2 [some (.ref 71), some (.int (nI (i + 1))), l2, l3] [] ν (fun v μ' => v = none ∧ q μ') := ih
    generalize dyK D σ i = τ at *
    unfold dyS at ih
    refine mm_iload d_M_goesOn_2 rfl ?_
    refine mm_ciN 8 d_M_goesOn_3 rfl ?_
    refine mm_aload d_M_goesOn_5 rfl ?_
    refine mm_getIN d_M_goesOn_6 rfl (sk_o_71 hM) hH.n ?_
    refine mm_imulN d_M_goesOn_9 ?_
    refine mm_icmp_geN d_M_goesOn_10 (by first | omega | exact ite01_lt | exact bt8_lt31 _ _ | exact godB_lt31 _ _ _ | exact pop_lt31 _ | assumption | exact b31 (hW.gp (by omega)) | exact b31 (hW.ne (by omega)) | exact b31 (hW.op (by omega)) | exact and31 (hW.gp (by omega)) | exact and31 (hW.ne (by omega)) | exact and31 (hW.op (by omega)) | exact and31 (by assumption) | exact and31r (hW.ne (by omega)) | exact and31r (hW.gp (by omega)) | exact and31r (by decide)) (by first | omega | exact ite01_lt | exact bt8_lt31 _ _ | exact godB_lt31 _ _ _ | exact pop_lt31 _ | assumption | exact b31 (hW.gp (by omega)) | exact b31 (hW.ne (by omega)) | exact b31 (hW.op (by omega)) | exact and31 (hW.gp (by omega)) | exact and31 (hW.ne (by omega)) | exact and31 (hW.op (by omega)) | exact and31 (by assumption) | exact and31r (hW.ne (by omega)) | exact and31r (hW.gp (by omega)) | exact and31r (by decide)) (fun c_10 => False.elim (by omega)) (fun c_10 => ?_)
    refine mm_iload d_M_goesOn_13 rfl ?_
    refine mm_ciN 8 d_M_goesOn_14 rfl ?_
    refine mm_idivN d_M_goesOn_16 (by first | omega | exact ite01_lt | exact bt8_lt31 _ _ | exact godB_lt31 _ _ _ | exact pop_lt31 _ | assumption | exact b31 (hW.gp (by omega)) | exact b31 (hW.ne (by omega)) | exact b31 (hW.op (by omega)) | exact and31 (hW.gp (by omega)) | exact and31 (hW.ne (by omega)) | exact and31 (hW.op (by omega)) | exact and31 (by assumption) | exact and31r (hW.ne (by omega)) | exact and31r (hW.gp (by omega)) | exact and31r (by decide)) (by omega) (by omega) ?_
    refine mm_ist2 d_M_goesOn_17 ?_
    refine mm_iload d_M_goesOn_18 rfl ?_
    refine mm_ciN 8 d_M_goesOn_19 rfl ?_
    refine mm_iremN d_M_goesOn_21 (by first | omega | exact ite01_lt | exact bt8_lt31 _ _ | exact godB_lt31 _ _ _ | exact pop_lt31 _ | assumption | exact b31 (hW.gp (by omega)) | exact b31 (hW.ne (by omega)) | exact b31 (hW.op (by omega)) | exact and31 (hW.gp (by omega)) | exact and31 (hW.ne (by omega)) | exact and31 (hW.op (by omega)) | exact and31 (by assumption) | exact and31r (hW.ne (by omega)) | exact and31r (hW.gp (by omega)) | exact and31r (by decide)) (by omega) (by omega) ?_
    refine mm_ist3 d_M_goesOn_22 ?_
    refine mm_aload d_M_goesOn_23 rfl ?_
    refine mm_iload d_M_goesOn_24 rfl ?_
    refine mm_v1i d_M_goesOn_25 (sk_o_71 hM) (sp_M_gods hH (by omega) ?_)
    refine mm_iload d_M_goesOn_28 rfl ?_
    refine mm_s2i d_M_goesOn_29 (sp_M_has (by first | omega | assumption | exact hW.gp (by omega) | exact hW.ne (by omega) | exact hW.op (by omega) | exact and_lt256 (hW.gp (by omega)) | exact and_lt256 (hW.ne (by omega)) | exact and_lt256 (hW.op (by omega)) | exact and_lt256 (by assumption)) (by omega) ?_)
    refine mm_if_eqN d_M_goesOn_32 (by first | omega | exact ite01_lt | exact bt8_lt31 _ _ | exact godB_lt31 _ _ _ | exact pop_lt31 _ | assumption | exact b31 (hW.gp (by omega)) | exact b31 (hW.ne (by omega)) | exact b31 (hW.op (by omega)) | exact and31 (hW.gp (by omega)) | exact and31 (hW.ne (by omega)) | exact and31 (hW.op (by omega)) | exact and31 (by assumption) | exact and31r (hW.ne (by omega)) | exact and31r (hW.gp (by omega)) | exact and31r (by decide)) (fun c_32 => ?_) (fun c_32 => ?_)
    · first
        | (rw [if_neg (show ¬ (bt8 (dgp D (i / 8)) (i % 8) ≠ 0 ∧ bt8 (sC τ (i / 8)) (i % 8) = 0) by omega)] at ih
           refine mm_inc1N d_M_goesOn_97 ?_
           refine mm_goto d_M_goesOn_100 ?_
           exact ih ν ⟨⟨hH, hF⟩, hk⟩ _ _)
        | (rw [if_pos ⟨c_32, c_45⟩, if_neg (show ¬ dpa D (i % 8) < sL τ i + 1 by omega)] at ih
           refine mm_inc1N d_M_goesOn_97 ?_
           refine mm_goto d_M_goesOn_100 ?_
           exact ih _ ⟨⟨hH, F1⟩, hk.sI rfl (by omega)⟩ _ _)
        | (rw [if_pos ⟨c_32, c_45⟩, if_pos (show dpa D (i % 8) < sL τ i + 1 by omega)] at ih
           have F3 := MoF.wB (I' := mm_I (mm_sI (mm_sI (mm_sI ν 83 i (nI (sL τ i + 1))) 82 (i / 8) (nI (sC τ (i / 8) ||| 2 ^ (i % 8)))) 71 28 (nI (sB τ + 1)))) F2 (fun b j => mm_I_sI)
           refine mm_inc1N d_M_goesOn_97 ?_
           refine mm_goto d_M_goesOn_100 ?_
           exact ih _ ⟨⟨(hH.sI (by decide) (by decide)).s71 (by decide), F3⟩, ((hk.sI rfl (by omega)).sI rfl (by omega)).sI rfl (by omega)⟩ _ _)
    · refine mm_aload d_M_goesOn_35 rfl ?_
      refine mm_getP d_M_goesOn_36 rfl (sk_o_71 hM) (sk_p_71_30 hM) ?_
      refine mm_iload d_M_goesOn_39 rfl ?_
      refine mm_ialdN d_M_goesOn_40 (sk_a_82 hM) (by omega) (by decide) (hF.C (by omega)) ?_
      refine mm_iload d_M_goesOn_41 rfl ?_
      refine mm_s2i d_M_goesOn_42 (sp_M_has (by first | omega | assumption | exact hW.gp (by omega) | exact hW.ne (by omega) | exact hW.op (by omega) | exact and_lt256 (hW.gp (by omega)) | exact and_lt256 (hW.ne (by omega)) | exact and_lt256 (hW.op (by omega)) | exact and_lt256 (by assumption)) (by omega) ?_)
      refine mm_if_neN d_M_goesOn_45 (by first | omega | exact ite01_lt | exact bt8_lt31 _ _ | exact godB_lt31 _ _ _ | exact pop_lt31 _ | assumption | exact b31 (hW.gp (by omega)) | exact b31 (hW.ne (by omega)) | exact b31 (hW.op (by omega)) | exact and31 (hW.gp (by omega)) | exact and31 (hW.ne (by omega)) | exact and31 (hW.op (by omega)) | exact and31 (by assumption) | exact and31r (hW.ne (by omega)) | exact and31r (hW.gp (by omega)) | exact and31r (by decide)) (fun c_45 => ?_) (fun c_45 => ?_)
      · first
          | (rw [if_neg (show ¬ (bt8 (dgp D (i / 8)) (i % 8) ≠ 0 ∧ bt8 (sC τ (i / 8)) (i % 8) = 0) by omega)] at ih
             refine mm_inc1N d_M_goesOn_97 ?_
             refine mm_goto d_M_goesOn_100 ?_
             exact ih ν ⟨⟨hH, hF⟩, hk⟩ _ _)
          | (rw [if_pos ⟨c_32, c_45⟩, if_neg (show ¬ dpa D (i % 8) < sL τ i + 1 by omega)] at ih
             refine mm_inc1N d_M_goesOn_97 ?_
             refine mm_goto d_M_goesOn_100 ?_
             exact ih _ ⟨⟨hH, F1⟩, hk.sI rfl (by omega)⟩ _ _)
          | (rw [if_pos ⟨c_32, c_45⟩, if_pos (show dpa D (i % 8) < sL τ i + 1 by omega)] at ih
             have F3 := MoF.wB (I' := mm_I (mm_sI (mm_sI (mm_sI ν 83 i (nI (sL τ i + 1))) 82 (i / 8) (nI (sC τ (i / 8) ||| 2 ^ (i % 8)))) 71 28 (nI (sB τ + 1)))) F2 (fun b j => mm_I_sI)
             refine mm_inc1N d_M_goesOn_97 ?_
             refine mm_goto d_M_goesOn_100 ?_
             exact ih _ ⟨⟨(hH.sI (by decide) (by decide)).s71 (by decide), F3⟩, ((hk.sI rfl (by omega)).sI rfl (by omega)).sI rfl (by omega)⟩ _ _)
      · refine mm_aload d_M_goesOn_48 rfl ?_
        refine mm_getP d_M_goesOn_49 rfl (sk_o_71 hM) (sk_p_71_31 hM) ?_
        refine mm_iload d_M_goesOn_52 rfl ?_
        refine mm_dup2 d_M_goesOn_53 rfl rfl ?_
        refine mm_ialdN d_M_goesOn_54 (sk_a_83 hM) (by omega) (by decide) (hF.L (by omega)) ?_
        refine mm_ciN 1 d_M_goesOn_55 rfl ?_
        refine mm_iaddN d_M_goesOn_56 ?_
        refine mm_iastX d_M_goesOn_57 (sk_a_83 hM) (by omega) (by decide) ?_
        have F1 := MoF.wL (I' := mm_I (mm_sI ν 83 i (nI (sL τ i + 1)))) hF (fun b j => mm_I_sI)
        have eL : sL (wL τ i (sL τ i + 1)) i = sL τ i + 1 := if_pos rfl
        replace hH : Hd (mm_sI ν 83 i (nI (sL τ i + 1))) k D := hH.sI (by decide) (by decide)
        replace hM := hH.1
        refine mm_aload d_M_goesOn_58 rfl ?_
        refine mm_getP d_M_goesOn_59 rfl (sk_o_71 hM) (sk_p_71_31 hM) ?_
        refine mm_iload d_M_goesOn_62 rfl ?_
        refine mm_ialdN d_M_goesOn_63 (sk_a_83 hM) (by omega) (by decide) ((F1.L (by omega)).trans (by rw [eL])) ?_
        refine mm_aload d_M_goesOn_64 rfl ?_
        refine mm_ciN 10 d_M_goesOn_65 rfl ?_
        refine mm_iload d_M_goesOn_67 rfl ?_
        refine mm_iaddN d_M_goesOn_68 ?_
        refine mm_v1i d_M_goesOn_69 (sk_o_71 hM) (sp_M_ofN hH (by omega) (hH.f1 (by omega)) ?_)
        refine mm_icmp_leN d_M_goesOn_72 (by first | omega | exact ite01_lt | exact bt8_lt31 _ _ | exact godB_lt31 _ _ _ | exact pop_lt31 _ | assumption | exact b31 (hW.gp (by omega)) | exact b31 (hW.ne (by omega)) | exact b31 (hW.op (by omega)) | exact and31 (hW.gp (by omega)) | exact and31 (hW.ne (by omega)) | exact and31 (hW.op (by omega)) | exact and31 (by assumption) | exact and31r (hW.ne (by omega)) | exact and31r (hW.gp (by omega)) | exact and31r (by decide)) (by first | omega | exact ite01_lt | exact bt8_lt31 _ _ | exact godB_lt31 _ _ _ | exact pop_lt31 _ | assumption | exact b31 (hW.gp (by omega)) | exact b31 (hW.ne (by omega)) | exact b31 (hW.op (by omega)) | exact and31 (hW.gp (by omega)) | exact and31 (hW.ne (by omega)) | exact and31 (hW.op (by omega)) | exact and31 (by assumption) | exact and31r (hW.ne (by omega)) | exact and31r (hW.gp (by omega)) | exact and31r (by decide)) (fun c_72 => ?_) (fun c_72 => ?_)
        · first
            | (rw [if_neg (show ¬ (bt8 (dgp D (i / 8)) (i % 8) ≠ 0 ∧ bt8 (sC τ (i / 8)) (i % 8) = 0) by omega)] at ih
               refine mm_inc1N d_M_goesOn_97 ?_
               refine mm_goto d_M_goesOn_100 ?_
               exact ih ν ⟨⟨hH, hF⟩, hk⟩ _ _)
            | (rw [if_pos ⟨c_32, c_45⟩, if_neg (show ¬ dpa D (i % 8) < sL τ i + 1 by omega)] at ih
               refine mm_inc1N d_M_goesOn_97 ?_
               refine mm_goto d_M_goesOn_100 ?_
               exact ih _ ⟨⟨hH, F1⟩, hk.sI rfl (by omega)⟩ _ _)
            | (rw [if_pos ⟨c_32, c_45⟩, if_pos (show dpa D (i % 8) < sL τ i + 1 by omega)] at ih
               have F3 := MoF.wB (I' := mm_I (mm_sI (mm_sI (mm_sI ν 83 i (nI (sL τ i + 1))) 82 (i / 8) (nI (sC τ (i / 8) ||| 2 ^ (i % 8)))) 71 28 (nI (sB τ + 1)))) F2 (fun b j => mm_I_sI)
               refine mm_inc1N d_M_goesOn_97 ?_
               refine mm_goto d_M_goesOn_100 ?_
               exact ih _ ⟨⟨(hH.sI (by decide) (by decide)).s71 (by decide), F3⟩, ((hk.sI rfl (by omega)).sI rfl (by omega)).sI rfl (by omega)⟩ _ _)
        · refine mm_aload d_M_goesOn_75 rfl ?_
          refine mm_getP d_M_goesOn_76 rfl (sk_o_71 hM) (sk_p_71_30 hM) ?_
          refine mm_iload d_M_goesOn_79 rfl ?_
          refine mm_dup2 d_M_goesOn_80 rfl rfl ?_
          refine mm_ialdN d_M_goesOn_81 (sk_a_82 hM) (by omega) (by decide) (F1.C (by omega)) ?_
          refine mm_ciN 1 d_M_goesOn_82 rfl ?_
          refine mm_iload d_M_goesOn_83 rfl ?_
          refine mm_ishl1N d_M_goesOn_84 (by omega) ?_
          refine mm_iorN d_M_goesOn_85 ?_
          refine mm_iastX d_M_goesOn_86 (sk_a_82 hM) (by omega) (by decide) ?_
          have F2 := MoF.wC (I' := mm_I (mm_sI (mm_sI ν 83 i (nI (sL τ i + 1))) 82 (i / 8) (nI (sC τ (i / 8) ||| 2 ^ (i % 8))))) F1 (fun b j => mm_I_sI)
          refine mm_aload d_M_goesOn_87 rfl ?_
          refine mm_dup d_M_goesOn_88 rfl ?_
          refine mm_getIN d_M_goesOn_89 rfl (sk_o_71 hM) F2.B ?_
          refine mm_ciN 1 d_M_goesOn_92 rfl ?_
          refine mm_iaddN d_M_goesOn_93 ?_
          refine mm_putI d_M_goesOn_94 rfl (sk_o_71 hM) (Or.inl rfl) ?_
          first
            | (rw [if_neg (show ¬ (bt8 (dgp D (i / 8)) (i % 8) ≠ 0 ∧ bt8 (sC τ (i / 8)) (i % 8) = 0) by omega)] at ih
               refine mm_inc1N d_M_goesOn_97 ?_
               refine mm_goto d_M_goesOn_100 ?_
               exact ih ν ⟨⟨hH, hF⟩, hk⟩ _ _)
            | (rw [if_pos ⟨c_32, c_45⟩, if_neg (show ¬ dpa D (i % 8) < sL τ i + 1 by omega)] at ih
               refine mm_inc1N d_M_goesOn_97 ?_
               refine mm_goto d_M_goesOn_100 ?_
               exact ih _ ⟨⟨hH, F1⟩, hk.sI rfl (by omega)⟩ _ _)
            | (rw [if_pos ⟨c_32, c_45⟩, if_pos (show dpa D (i % 8) < sL τ i + 1 by omega)] at ih
               have F3 := MoF.wB (I' := mm_I (mm_sI (mm_sI (mm_sI ν 83 i (nI (sL τ i + 1))) 82 (i / 8) (nI (sC τ (i / 8) ||| 2 ^ (i % 8)))) 71 28 (nI (sB τ + 1)))) F2 (fun b j => mm_I_sI)
               refine mm_inc1N d_M_goesOn_97 ?_
               refine mm_goto d_M_goesOn_100 ?_
               exact ih _ ⟨⟨(hH.sI (by decide) (by decide)).s71 (by decide), F3⟩, ((hk.sI rfl (by omega)).sI rfl (by omega)).sI rfl (by omega)⟩ _ _)
theorem sp_M_does {X : mm_X} {μ : mm_M} {q : Int32 → mm_M → Prop} {k kd x y : Nat} {U V : Int32} {D : mm_D} {σ : mm_S} (hO : OkD kd U V x y) (hS : MoS μ k D σ) (hT : WfS σ ∧ WfL D σ) (h1 : ∀ σ', dl D σ kd x y = some σ' → ∀ μ', MoS μ' k D σ' → Mk μ μ' → q (nI 1) μ') (h0 : dl D σ kd x y = none → q (nI 0) μ) : mm_Ci X 3 0 0 k_M_does [.ref 71, .int (nI kd), .int U, .int V] μ q := by
  show mm_T X 3 0 0 k_M_does 0 [some (.ref 71), some (.int (nI kd)), some (.int U), some (.int V)] [] μ _
  have hH := hS.1
  have hF := hS.2
  have hM := hH.1
  have hW := hH.wf
  have hn6 := hW.1
  rcases hO with ⟨hkd, rfl, rfl, hx, hy⟩ | ⟨rfl, rfl, hx⟩ | ⟨rfl, rfl, hx⟩ | rfl
  · have h2 : kd = 0 ∨ kd = 1 := by omega
    rcases h2 with rfl | rfl
    · refine mm_iload d_M_does_0 rfl ?_
      refine mm_switchIn (n := 0) d_M_does_1 0 (by decide) (by decide) rfl ?_
      refine mm_aload d_M_does_32 rfl ?_
      refine mm_iload d_M_does_33 rfl ?_
      refine mm_iload d_M_does_34 rfl ?_
      refine mm_v2i d_M_does_35 (sk_o_71 hM) (sp_M_asking hS hT.1 hx hy (fun hc μ' hS' hf => ?_) (fun hc => ?_))
      · exact mm_rz d_M_does_38 (h1 _ (if_pos hc) μ' hS' hf)
      · exact mm_rz d_M_does_38 (h0 (if_neg hc))
    · refine mm_iload d_M_does_0 rfl ?_
      refine mm_switchIn (n := 0) d_M_does_1 1 (by decide) (by decide) rfl ?_
      refine mm_aload d_M_does_39 rfl ?_
      refine mm_iload d_M_does_40 rfl ?_
      refine mm_iload d_M_does_41 rfl ?_
      refine mm_v2i d_M_does_42 (sk_o_71 hM) (sp_M_thanking hS hT.1 hx hy (fun hc μ' hS' hf => ?_) (fun hc => ?_))
      · exact mm_rz d_M_does_45 (h1 _ (if_pos hc) μ' hS' hf)
      · exact mm_rz d_M_does_45 (h0 (if_neg hc))
  · refine mm_iload d_M_does_0 rfl ?_
    refine mm_switchIn (n := 0) d_M_does_1 2 (by decide) (by decide) rfl ?_
    refine mm_aload d_M_does_46 rfl ?_
    refine mm_aload d_M_does_47 rfl ?_
    refine mm_aload d_M_does_48 rfl ?_
    refine mm_getIN d_M_does_49 rfl (sk_o_71 hM) hF.H ?_
    refine mm_iload d_M_does_52 rfl ?_
    refine mm_v2i d_M_does_53 (sk_o_71 hM) (sp_M_comes hH (by omega) ?_)
    refine mm_putI d_M_does_56 rfl (sk_o_71 hM) (Or.inl rfl) ?_
    have F1 := MoF.wH (I' := mm_I (mm_sI μ 71 25 (nI (comesN D (sH σ) x)))) hF (fun b j => mm_I_sI)
    refine mm_ciN 1 d_M_does_59 rfl ?_
    exact mm_rz d_M_does_60 (h1 _ rfl _ ⟨hH.s71 (by decide), F1⟩ (Mk.rf.sI rfl (by omega)))
  · have hsd := hT.1.2.1
    have hr := readyN_lt hW (sH σ)
    have e3 : dl D σ 3 x y = if x < dw D ∧ bt8 (sD σ) x = 0 ∧ dne D x &&& (sH σ ^^^ 4294967295) = 0 then some (doS σ x) else none := rfl
    by_cases hkd : x < dw D
    · have hrb := readyN_bit hW (s := sH σ) hkd
      refine mm_iload d_M_does_0 rfl ?_
      refine mm_switchIn (n := 0) d_M_does_1 3 (by decide) (by decide) rfl ?_
      refine mm_aload d_M_does_61 rfl ?_
      refine mm_iload d_M_does_62 rfl ?_
      refine mm_v1i d_M_does_63 (sk_o_71 hM) (sp_M_isWorkT hH (by omega) ?_)
      refine mm_if_eqN d_M_does_66 (by first | omega | exact ite01_lt | exact bt8_lt31 _ _ | exact godB_lt31 _ _ _ | exact pop_lt31 _ | assumption | exact b31 (hW.gp (by omega)) | exact b31 (hW.ne (by omega)) | exact b31 (hW.op (by omega)) | exact and31 (hW.gp (by omega)) | exact and31 (hW.ne (by omega)) | exact and31 (hW.op (by omega)) | exact and31 (by assumption) | exact and31r (hW.ne (by omega)) | exact and31r (hW.gp (by omega)) | exact and31r (by decide)) (fun c_66 => False.elim (by omega)) (fun c_66 => ?_)
      refine mm_aload d_M_does_69 rfl ?_
      refine mm_getIN d_M_does_70 rfl (sk_o_71 hM) hF.D ?_
      refine mm_iload d_M_does_73 rfl ?_
      refine mm_s2i d_M_does_74 (sp_M_has (by first | omega | assumption | exact hW.gp (by omega) | exact hW.ne (by omega) | exact hW.op (by omega) | exact and_lt256 (hW.gp (by omega)) | exact and_lt256 (hW.ne (by omega)) | exact and_lt256 (hW.op (by omega)) | exact and_lt256 (by assumption)) (by omega) ?_)
      refine mm_if_neN d_M_does_77 (by first | omega | exact ite01_lt | exact bt8_lt31 _ _ | exact godB_lt31 _ _ _ | exact pop_lt31 _ | assumption | exact b31 (hW.gp (by omega)) | exact b31 (hW.ne (by omega)) | exact b31 (hW.op (by omega)) | exact and31 (hW.gp (by omega)) | exact and31 (hW.ne (by omega)) | exact and31 (hW.op (by omega)) | exact and31 (by assumption) | exact and31r (hW.ne (by omega)) | exact and31r (hW.gp (by omega)) | exact and31r (by decide)) (fun c_77 => ?_) (fun c_77 => ?_)
      · refine mm_ciN 0 d_M_does_95 rfl ?_
        first
          | exact mm_rz d_M_does_96 (h0 (e3.trans (if_neg (fun z => c_77 z.2.1))))
          | exact mm_rz d_M_does_96 (h0 (e3.trans (if_neg (fun z => hrb.mpr z.2.2 c_92))))
      · refine mm_aload d_M_does_80 rfl ?_
        refine mm_aload d_M_does_81 rfl ?_
        refine mm_getIN d_M_does_82 rfl (sk_o_71 hM) hF.H ?_
        refine mm_v1i d_M_does_85 (sk_o_71 hM) (sp_M_readyBy hH ?_)
        refine mm_iload d_M_does_88 rfl ?_
        refine mm_s2i d_M_does_89 (sp_M_has (by first | omega | assumption | exact hW.gp (by omega) | exact hW.ne (by omega) | exact hW.op (by omega) | exact and_lt256 (hW.gp (by omega)) | exact and_lt256 (hW.ne (by omega)) | exact and_lt256 (hW.op (by omega)) | exact and_lt256 (by assumption)) (by omega) ?_)
        refine mm_if_neN d_M_does_92 (by first | omega | exact ite01_lt | exact bt8_lt31 _ _ | exact godB_lt31 _ _ _ | exact pop_lt31 _ | assumption | exact b31 (hW.gp (by omega)) | exact b31 (hW.ne (by omega)) | exact b31 (hW.op (by omega)) | exact and31 (hW.gp (by omega)) | exact and31 (hW.ne (by omega)) | exact and31 (hW.op (by omega)) | exact and31 (by assumption) | exact and31r (hW.ne (by omega)) | exact and31r (hW.gp (by omega)) | exact and31r (by decide)) (fun c_92 => ?_) (fun c_92 => ?_)
        · refine mm_aload d_M_does_97 rfl ?_
          refine mm_dup d_M_does_98 rfl ?_
          refine mm_getIN d_M_does_99 rfl (sk_o_71 hM) hF.D ?_
          refine mm_ciN 1 d_M_does_102 rfl ?_
          refine mm_iload d_M_does_103 rfl ?_
          refine mm_ishl1N d_M_does_104 (by omega) ?_
          refine mm_iorN d_M_does_105 ?_
          refine mm_putI d_M_does_106 rfl (sk_o_71 hM) (Or.inl rfl) ?_
          have F1 := MoF.wD (I' := mm_I (mm_sI μ 71 26 (nI (sD σ ||| 2 ^ x)))) hF (fun b j => mm_I_sI)
          refine mm_ciN 1 d_M_does_109 rfl ?_
          exact mm_rz d_M_does_110 (h1 _ (e3.trans (if_pos ⟨hkd, c_77, hrb.mp c_92⟩)) _ ⟨hH.s71 (by decide), F1⟩ (Mk.rf.sI rfl (by omega)))
        · refine mm_ciN 0 d_M_does_95 rfl ?_
          first
            | exact mm_rz d_M_does_96 (h0 (e3.trans (if_neg (fun z => c_77 z.2.1))))
            | exact mm_rz d_M_does_96 (h0 (e3.trans (if_neg (fun z => hrb.mpr z.2.2 c_92))))
    · refine mm_iload d_M_does_0 rfl ?_
      refine mm_switchIn (n := 0) d_M_does_1 3 (by decide) (by decide) rfl ?_
      refine mm_aload d_M_does_61 rfl ?_
      refine mm_iload d_M_does_62 rfl ?_
      refine mm_v1i d_M_does_63 (sk_o_71 hM) (sp_M_isWorkN hH (by omega) ?_)
      rw [if_neg hkd]
      refine mm_if_eqN d_M_does_66 (by first | omega | exact ite01_lt | exact bt8_lt31 _ _ | exact godB_lt31 _ _ _ | exact pop_lt31 _ | assumption | exact b31 (hW.gp (by omega)) | exact b31 (hW.ne (by omega)) | exact b31 (hW.op (by omega)) | exact and31 (hW.gp (by omega)) | exact and31 (hW.ne (by omega)) | exact and31 (hW.op (by omega)) | exact and31 (by assumption) | exact and31r (hW.ne (by omega)) | exact and31r (hW.gp (by omega)) | exact and31r (by decide)) (fun c_66 => ?_) (fun c_66 => False.elim (by omega))
      refine mm_ciN 0 d_M_does_95 rfl ?_
      exact mm_rz d_M_does_96 (h0 (e3.trans (if_neg (fun z => hkd z.1))))
  · refine mm_iload d_M_does_0 rfl ?_
    refine mm_switchOut (n := 0) d_M_does_1 (Or.inr (by decide)) ?_
    refine mm_aload d_M_does_111 rfl ?_
    refine mm_v0v d_M_does_112 (sk_o_71 hM) (sp_M_goesOn hS hT (fun μ' hS' hf => ?_))
    refine mm_ciN 1 d_M_does_115 rfl ?_
    exact mm_rz d_M_does_116 (h1 _ rfl _ hS' hf)
