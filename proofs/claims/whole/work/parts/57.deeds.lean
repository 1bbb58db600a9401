/-! pairs: deed, fact, whose -/
theorem LoM.frC {μ μ1 : mm_M} {b : Nat} {E : mm_E} (h : LoM μ b E) {S : Nat → Bool} (hf : Fr S μ μ1) (h79 : S 79 = false) : LoM μ1 b E := by
  unfold LoM at h ⊢
  rw [(hf.2.2.1 79 h79).1]
  exact h
theorem YeM.frC {μ μ1 : mm_M} {b : Nat} {E : mm_Y} (h : YeM μ b E) {S : Nat → Bool} (hf : Fr S μ μ1) (h79 : S 78 = false) : YeM μ1 b E := by
  unfold YeM at h ⊢
  rw [(hf.2.2.1 78 h79).1]
  exact h
theorem LoM.sI {μ : mm_M} {b : Nat} {E : mm_E} (h : LoM μ b E) {j : Nat} {x : Int32} : LoM (mm_sI μ 71 j x) b E := by
  unfold LoM at h ⊢
  rw [mm_sI_off (by decide)]
  exact h
theorem YeM.sI {μ : mm_M} {b : Nat} {E : mm_Y} (h : YeM μ b E) {j : Nat} {x : Int32} : YeM (mm_sI μ 71 j x) b E := by
  unfold YeM at h ⊢
  rw [mm_sI_off (by decide)]
  exact h
theorem sp_M_in_m1 {c : Nat} {y : Int32} (hc : c < 2 ^ 30) (h : atF c y = none) : inG y 0 (nI c - nI 1) = 0 := (inG_is' hc).trans (isF_none h)
theorem nm1 {y : Int32} {c : Nat} (hy : y = -1) : atF c y = none := by rw [hy]; rfl
theorem pair_deed {X : mm_X} {k : Nat} {μ : mm_M} (hJ : JJ k μ) (y1 y2 y3 : Int32) : PairI X (JJ (k + 1)) k_G_deed k_M_deed [.int y1, .int y2, .int y3] μ := by
  obtain ⟨c, h02, h0, m0, hv⟩ := hJ.year y1
  have hM := hJ.1
  have hw := hJ.2.2.2.up
  rcases hv with hx | ⟨i, Y, hi, rfl, hW, hYD, hYM⟩
  · exact pairQ (-2) hJ (d := 2) (d' := 4) (by decide) (by decide) (n_G_deed hM h0 h02 hx ⟨rfl, Fr.rf, hw⟩) (fun μ1 hf => n_M_deed (hf.2.2.2 hM) (by rw [(hf.2.2.1 76 rfl).1]; exact m0) h02 hx (fun μ' hk => ⟨rfl, hk.fr (hf.2.2.2 hM)⟩))
  have h40 := hW.1
  obtain ⟨⟨hYo, ⟨hp0, ha0⟩, ⟨hp1, ha1⟩, ⟨hp2, ha2⟩⟩, hYn, hY1, hY2, hY3⟩ := id hYD
  by_cases hk : y2 = -1
  · subst hk
    refine pairQ (if y3 = 0 then nI Y.1 else -2) hJ (d := 12) (d' := 12) (by decide) (by decide) ?_ (fun μ1 hf => ?_)
    · show mm_T X 12 0 0 k_G_deed 0 [some (.ref 0), some (.int (nI i)), some (.int (-1)), some (.int y3), none] [] μ _
      refine mm_aload d_G_deed_0 rfl ?_
      refine mm_getP d_G_deed_1 rfl (sk_o_0 hM) (sk_p_0_0 hM) ?_
      refine mm_iload d_G_deed_4 rfl ?_
      refine mm_v1r d_G_deed_5 (sk_o_1 hM) (sp_To_yearAtI hM h0 h02 hi ?_)
      refine mm_ast4 d_G_deed_8 ?_
      refine mm_aload d_G_deed_10 rfl ?_
      refine mm_ifnonnull d_G_deed_12 ?_
      refine mm_iload d_G_deed_18 rfl ?_
      refine mm_ci d_G_deed_19 ?_
      refine mm_icmp_neS d_G_deed_20 ?_
      refine mm_iload d_G_deed_23 rfl ?_
      refine mm_if_ne d_G_deed_24 (fun c_24 => ?_) (fun c_24 => ?_)
      · refine mm_ci d_G_deed_35 ?_
        exact mm_ri d_G_deed_37 ⟨by first | exact (if_pos (Decidable.not_not.mp c_24)).symm | exact (if_neg c_24).symm, Fr.rf, hw⟩
      · refine mm_aload d_G_deed_27 rfl ?_
        refine mm_getIN d_G_deed_29 rfl (by assumption) hYn ?_
        refine mm_goto d_G_deed_32 ?_
        exact mm_ri d_G_deed_37 ⟨by first | exact (if_pos (Decidable.not_not.mp c_24)).symm | exact (if_neg c_24).symm, Fr.rf, hw⟩
    · show mm_T X 12 0 0 k_M_deed 0 [some (.ref 71), some (.int (nI i)), some (.int (-1)), some (.int y3)] [] μ1 _
      replace hM := hf.2.2.2 hM
      refine mm_aload d_M_deed_0 rfl ?_
      refine mm_ciN 0 d_M_deed_1 rfl ?_
      refine mm_putI d_M_deed_2 rfl (sk_o_71 hM) (Or.inl rfl) ?_
      refine mm_aload d_M_deed_5 rfl ?_
      refine mm_iload d_M_deed_6 rfl ?_
      refine mm_v1i d_M_deed_7 (sk_o_71 hM) (sp_M_hasYearT hM (by rw [mm_sI_off (by decide), (hf.2.2.1 76 rfl).1]; exact m0) h02 hi ((hYM.frC hf rfl).sI) hW (fun hL => ?_))
      refine mm_if_neN d_M_deed_10 (by first | omega | exact ite01_lt | exact bt8_lt31 _ _ | exact godB_lt31 _ _ _ | exact pop_lt31 _ | assumption | exact b31 (hW.gp (by omega)) | exact b31 (hW.ne (by omega)) | exact b31 (hW.op (by omega)) | exact and31 (hW.gp (by omega)) | exact and31 (hW.ne (by omega)) | exact and31 (hW.op (by omega)) | exact and31 (by assumption) | exact and31r (hW.ne (by omega)) | exact and31r (hW.gp (by omega)) | exact and31r (by decide)) (fun c_10 => ?_) (fun c_10 => False.elim (by omega))
      refine mm_iload d_M_deed_16 rfl ?_
      refine mm_ci d_M_deed_17 ?_
      refine mm_icmp_neS d_M_deed_18 ?_
      refine mm_iload d_M_deed_21 rfl ?_
      refine mm_if_ne d_M_deed_22 (fun c_22 => ?_) (fun c_22 => ?_)
      · refine mm_ci d_M_deed_32 ?_
        exact mm_ri d_M_deed_34 ⟨by first | exact (if_pos (Decidable.not_not.mp c_22)).symm | exact (if_neg c_22).symm, (Fr.rf.sI rfl).sI rfl⟩
      · refine mm_aload d_M_deed_25 rfl ?_
        refine mm_v0i d_M_deed_26 (sk_o_71 hM) (sp_M_deeds hL ?_)
        refine mm_goto d_M_deed_29 ?_
        exact mm_ri d_M_deed_34 ⟨by first | exact (if_pos (Decidable.not_not.mp c_22)).symm | exact (if_neg c_22).symm, (Fr.rf.sI rfl).sI rfl⟩
  · rcases atF_or (c := Y.1) (by omega) y2 with hz | ⟨j, hj, rfl⟩
    · refine pairQ (-2) hJ (d := 12) (d' := 12) (by decide) (by decide) ?_ (fun μ1 hf => ?_)
      · show mm_T X 12 0 0 k_G_deed 0 [some (.ref 0), some (.int (nI i)), some (.int y2), some (.int y3), none] [] μ _
        have lk : ∀ q : Int32 → mm_M → Prop, q (-2) μ → mm_Ci X 1 0 0 k_Ye_look [.ref (19 + 4 * i), .int y2, .int y3] μ q := by
          intro q h
          show mm_T X 1 0 0 k_Ye_look 0 [some (.ref (19 + 4 * i)), some (.int y2), some (.int y3)] [] μ _
          have hzi := inF_none hz
          unfold inF at hzi
          refine mm_iload d_Ye_look_0 rfl ?_
          refine mm_if_lt d_Ye_look_1 (fun c_1 => ?_) (fun c_1 => ?_)
          · refine mm_ci d_Ye_look_12 ?_
            exact mm_ri d_Ye_look_14 h
          · refine mm_iload d_Ye_look_4 rfl ?_
            refine mm_aload d_Ye_look_5 rfl ?_
            refine mm_getIN d_Ye_look_6 rfl (by assumption) hYn ?_
            refine mm_icmp_lt d_Ye_look_9 (fun c_9 => False.elim (by rw [if_neg c_1] at hzi; by_cases z : nI Y.1 ≤ y2; exact absurd c_9 (Int32.not_lt.mpr z); rw [if_neg z] at hzi; exact absurd hzi (by decide))) (fun c_9 => ?_)
            refine mm_ci d_Ye_look_12 ?_
            exact mm_ri d_Ye_look_14 h
        refine mm_aload d_G_deed_0 rfl ?_
        refine mm_getP d_G_deed_1 rfl (sk_o_0 hM) (sk_p_0_0 hM) ?_
        refine mm_iload d_G_deed_4 rfl ?_
        refine mm_v1r d_G_deed_5 (sk_o_1 hM) (sp_To_yearAtI hM h0 h02 hi ?_)
        refine mm_ast4 d_G_deed_8 ?_
        refine mm_aload d_G_deed_10 rfl ?_
        refine mm_ifnonnull d_G_deed_12 ?_
        refine mm_iload d_G_deed_18 rfl ?_
        refine mm_ci d_G_deed_19 ?_
        refine mm_icmp_ne d_G_deed_20 (fun c_20 => ?_) (fun c_20 => False.elim (c_20 hk))
        refine mm_aload d_G_deed_38 rfl ?_
        refine mm_iload d_G_deed_40 rfl ?_
        refine mm_iload d_G_deed_41 rfl ?_
        refine mm_v2i d_G_deed_42 hYo (lk _ ?_)
        exact mm_ri d_G_deed_45 ⟨rfl, Fr.rf, hw⟩
      · show mm_T X 12 0 0 k_M_deed 0 [some (.ref 71), some (.int (nI i)), some (.int y2), some (.int y3)] [] μ1 _
        replace hM := hf.2.2.2 hM
        refine mm_aload d_M_deed_0 rfl ?_
        refine mm_ciN 0 d_M_deed_1 rfl ?_
        refine mm_putI d_M_deed_2 rfl (sk_o_71 hM) (Or.inl rfl) ?_
        refine mm_aload d_M_deed_5 rfl ?_
        refine mm_iload d_M_deed_6 rfl ?_
        refine mm_v1i d_M_deed_7 (sk_o_71 hM) (sp_M_hasYearT hM (by rw [mm_sI_off (by decide), (hf.2.2.1 76 rfl).1]; exact m0) h02 hi ((hYM.frC hf rfl).sI) hW (fun hL => ?_))
        refine mm_if_neN d_M_deed_10 (by first | omega | exact ite01_lt | exact bt8_lt31 _ _ | exact godB_lt31 _ _ _ | exact pop_lt31 _ | assumption | exact b31 (hW.gp (by omega)) | exact b31 (hW.ne (by omega)) | exact b31 (hW.op (by omega)) | exact and31 (hW.gp (by omega)) | exact and31 (hW.ne (by omega)) | exact and31 (hW.op (by omega)) | exact and31 (by assumption) | exact and31r (hW.ne (by omega)) | exact and31r (hW.gp (by omega)) | exact and31r (by decide)) (fun c_10 => ?_) (fun c_10 => False.elim (by omega))
        refine mm_iload d_M_deed_16 rfl ?_
        refine mm_ci d_M_deed_17 ?_
        refine mm_icmp_ne d_M_deed_18 (fun c_18 => ?_) (fun c_18 => False.elim (c_18 hk))
        refine mm_iload d_M_deed_35 rfl ?_
        refine mm_ciN 0 d_M_deed_36 rfl ?_
        refine mm_aload d_M_deed_37 rfl ?_
        refine mm_v0i d_M_deed_38 (sk_o_71 hM) (sp_M_deeds hL ?_)
        refine mm_ciN 1 d_M_deed_41 rfl ?_
        refine mm_isub d_M_deed_42 ?_
        refine mm_s3i d_M_deed_43 (sp_M_in ?_)
        rw [show inG y2 (nI 0) (nI Y.1 - nI 1) = nI 0 from sp_M_in_m1 (by omega) hz]
        refine mm_if_eqN d_M_deed_46 (by first | omega | exact ite01_lt | exact bt8_lt31 _ _ | exact godB_lt31 _ _ _ | exact pop_lt31 _ | assumption | exact b31 (hW.gp (by omega)) | exact b31 (hW.ne (by omega)) | exact b31 (hW.op (by omega)) | exact and31 (hW.gp (by omega)) | exact and31 (hW.ne (by omega)) | exact and31 (hW.op (by omega)) | exact and31 (by assumption) | exact and31r (hW.ne (by omega)) | exact and31r (hW.gp (by omega)) | exact and31r (by decide)) (fun c_46 => ?_) (fun c_46 => False.elim (by omega))
        refine mm_ci d_M_deed_67 ?_
        exact mm_ri d_M_deed_69 ⟨rfl, (Fr.rf.sI rfl).sI rfl⟩
    · rcases rng_or y3 (a := 0) (b := 2) (by decide) (by decide) with ⟨hz, hz2⟩ | ⟨e, -, he, rfl⟩
      · refine pairQ (-2) hJ (d := 12) (d' := 12) (by decide) (by decide) ?_ (fun μ1 hf => ?_)
        · show mm_T X 12 0 0 k_G_deed 0 [some (.ref 0), some (.int (nI i)), some (.int (nI j)), some (.int y3), none] [] μ _
          have lk : ∀ q : Int32 → mm_M → Prop, q (-2) μ → mm_Ci X 1 0 0 k_Ye_look [.ref (19 + 4 * i), .int (nI j), .int y3] μ q := by
            intro q h
            show mm_T X 1 0 0 k_Ye_look 0 [some (.ref (19 + 4 * i)), some (.int (nI j)), some (.int y3)] [] μ _
            refine mm_iload d_Ye_look_0 rfl ?_
            refine mm_if_ltN d_Ye_look_1 (by first | omega | exact ite01_lt | exact bt8_lt31 _ _ | exact godB_lt31 _ _ _ | exact pop_lt31 _ | assumption | exact b31 (hW.gp (by omega)) | exact b31 (hW.ne (by omega)) | exact b31 (hW.op (by omega)) | exact and31 (hW.gp (by omega)) | exact and31 (hW.ne (by omega)) | exact and31 (hW.op (by omega)) | exact and31 (by assumption) | exact and31r (hW.ne (by omega)) | exact and31r (hW.gp (by omega)) | exact and31r (by decide)) ?_
            refine mm_iload d_Ye_look_4 rfl ?_
            refine mm_aload d_Ye_look_5 rfl ?_
            refine mm_getIN d_Ye_look_6 rfl (by assumption) hYn ?_
            refine mm_icmp_ltN d_Ye_look_9 (by first | omega | exact ite01_lt | exact bt8_lt31 _ _ | exact godB_lt31 _ _ _ | exact pop_lt31 _ | assumption | exact b31 (hW.gp (by omega)) | exact b31 (hW.ne (by omega)) | exact b31 (hW.op (by omega)) | exact and31 (hW.gp (by omega)) | exact and31 (hW.ne (by omega)) | exact and31 (hW.op (by omega)) | exact and31 (by assumption) | exact and31r (hW.ne (by omega)) | exact and31r (hW.gp (by omega)) | exact and31r (by decide)) (by first | omega | exact ite01_lt | exact bt8_lt31 _ _ | exact godB_lt31 _ _ _ | exact pop_lt31 _ | assumption | exact b31 (hW.gp (by omega)) | exact b31 (hW.ne (by omega)) | exact b31 (hW.op (by omega)) | exact and31 (hW.gp (by omega)) | exact and31 (hW.ne (by omega)) | exact and31 (hW.op (by omega)) | exact and31 (by assumption) | exact and31r (hW.ne (by omega)) | exact and31r (hW.gp (by omega)) | exact and31r (by decide)) (fun c_9 => ?_) (fun c_9 => False.elim (by omega))
            refine mm_iload d_Ye_look_15 rfl ?_
            refine mm_switchOut (n := 0) d_Ye_look_16 (by rcases hz2 with z | z; exact Or.inl (Int32.lt_iff_toInt_lt.mp z); exact Or.inr (Int32.lt_iff_toInt_lt.mp z)) ?_
            refine mm_ci d_Ye_look_65 ?_
            exact mm_ri d_Ye_look_67 h
          refine mm_aload d_G_deed_0 rfl ?_
          refine mm_getP d_G_deed_1 rfl (sk_o_0 hM) (sk_p_0_0 hM) ?_
          refine mm_iload d_G_deed_4 rfl ?_
          refine mm_v1r d_G_deed_5 (sk_o_1 hM) (sp_To_yearAtI hM h0 h02 hi ?_)
          refine mm_ast4 d_G_deed_8 ?_
          refine mm_aload d_G_deed_10 rfl ?_
          refine mm_ifnonnull d_G_deed_12 ?_
          refine mm_iload d_G_deed_18 rfl ?_
          refine mm_ci d_G_deed_19 ?_
          refine mm_icmp_neM1 d_G_deed_20 (by first | omega | exact ite01_lt | exact bt8_lt31 _ _ | exact godB_lt31 _ _ _ | exact pop_lt31 _ | assumption | exact b31 (hW.gp (by omega)) | exact b31 (hW.ne (by omega)) | exact b31 (hW.op (by omega)) | exact and31 (hW.gp (by omega)) | exact and31 (hW.ne (by omega)) | exact and31 (hW.op (by omega)) | exact and31 (by assumption) | exact and31r (hW.ne (by omega)) | exact and31r (hW.gp (by omega)) | exact and31r (by decide)) ?_
          refine mm_aload d_G_deed_38 rfl ?_
          refine mm_iload d_G_deed_40 rfl ?_
          refine mm_iload d_G_deed_41 rfl ?_
          refine mm_v2i d_G_deed_42 hYo (lk _ ?_)
          exact mm_ri d_G_deed_45 ⟨rfl, Fr.rf, hw⟩
        · show mm_T X 12 0 0 k_M_deed 0 [some (.ref 71), some (.int (nI i)), some (.int (nI j)), some (.int y3)] [] μ1 _
          replace hM := hf.2.2.2 hM
          refine mm_aload d_M_deed_0 rfl ?_
          refine mm_ciN 0 d_M_deed_1 rfl ?_
          refine mm_putI d_M_deed_2 rfl (sk_o_71 hM) (Or.inl rfl) ?_
          refine mm_aload d_M_deed_5 rfl ?_
          refine mm_iload d_M_deed_6 rfl ?_
          refine mm_v1i d_M_deed_7 (sk_o_71 hM) (sp_M_hasYearT hM (by rw [mm_sI_off (by decide), (hf.2.2.1 76 rfl).1]; exact m0) h02 hi ((hYM.frC hf rfl).sI) hW (fun hL => ?_))
          refine mm_if_neN d_M_deed_10 (by first | omega | exact ite01_lt | exact bt8_lt31 _ _ | exact godB_lt31 _ _ _ | exact pop_lt31 _ | assumption | exact b31 (hW.gp (by omega)) | exact b31 (hW.ne (by omega)) | exact b31 (hW.op (by omega)) | exact and31 (hW.gp (by omega)) | exact and31 (hW.ne (by omega)) | exact and31 (hW.op (by omega)) | exact and31 (by assumption) | exact and31r (hW.ne (by omega)) | exact and31r (hW.gp (by omega)) | exact and31r (by decide)) (fun c_10 => ?_) (fun c_10 => False.elim (by omega))
          refine mm_iload d_M_deed_16 rfl ?_
          refine mm_ci d_M_deed_17 ?_
          refine mm_icmp_neM1 d_M_deed_18 (by first | omega | exact ite01_lt | exact bt8_lt31 _ _ | exact godB_lt31 _ _ _ | exact pop_lt31 _ | assumption | exact b31 (hW.gp (by omega)) | exact b31 (hW.ne (by omega)) | exact b31 (hW.op (by omega)) | exact and31 (hW.gp (by omega)) | exact and31 (hW.ne (by omega)) | exact and31 (hW.op (by omega)) | exact and31 (by assumption) | exact and31r (hW.ne (by omega)) | exact and31r (hW.gp (by omega)) | exact and31r (by decide)) ?_
          refine mm_iload d_M_deed_35 rfl ?_
          refine mm_ciN 0 d_M_deed_36 rfl ?_
          refine mm_aload d_M_deed_37 rfl ?_
          refine mm_v0i d_M_deed_38 (sk_o_71 hM) (sp_M_deeds hL ?_)
          refine mm_ciN 1 d_M_deed_41 rfl ?_
          refine mm_isubN d_M_deed_42 (by omega) ?_
          refine mm_s3i d_M_deed_43 (sp_M_inT (by omega) (by omega) (by omega) ?_)
          refine mm_if_eqN d_M_deed_46 (by first | omega | exact ite01_lt | exact bt8_lt31 _ _ | exact godB_lt31 _ _ _ | exact pop_lt31 _ | assumption | exact b31 (hW.gp (by omega)) | exact b31 (hW.ne (by omega)) | exact b31 (hW.op (by omega)) | exact and31 (hW.gp (by omega)) | exact and31 (hW.ne (by omega)) | exact and31 (hW.op (by omega)) | exact and31 (by assumption) | exact and31r (hW.ne (by omega)) | exact and31r (hW.gp (by omega)) | exact and31r (by decide)) (fun c_46 => False.elim (by omega)) (fun c_46 => ?_)
          refine mm_iload d_M_deed_49 rfl ?_
          refine mm_ciN 0 d_M_deed_50 rfl ?_
          refine mm_ciN 2 d_M_deed_51 rfl ?_
          refine mm_s3i d_M_deed_52 (sp_M_inB hz ?_)
          refine mm_if_eqN d_M_deed_55 (by first | omega | exact ite01_lt | exact bt8_lt31 _ _ | exact godB_lt31 _ _ _ | exact pop_lt31 _ | assumption | exact b31 (hW.gp (by omega)) | exact b31 (hW.ne (by omega)) | exact b31 (hW.op (by omega)) | exact and31 (hW.gp (by omega)) | exact and31 (hW.ne (by omega)) | exact and31 (hW.op (by omega)) | exact and31 (by assumption) | exact and31r (hW.ne (by omega)) | exact and31r (hW.gp (by omega)) | exact and31r (by decide)) (fun c_55 => ?_) (fun c_55 => False.elim (by omega))
          refine mm_ci d_M_deed_67 ?_
          exact mm_ri d_M_deed_69 ⟨rfl, (Fr.rf.sI rfl).sI rfl⟩
      · refine pairQ (yAt Y j e) hJ (d := 12) (d' := 12) (by decide) (by decide) ?_ (fun μ1 hf => ?_)
        · show mm_T X 12 0 0 k_G_deed 0 [some (.ref 0), some (.int (nI i)), some (.int (nI j)), some (.int (nI e)), none] [] μ _
          have lk : ∀ q : Int32 → mm_M → Prop, q (yAt Y j e) μ → mm_Ci X 1 0 0 k_Ye_look [.ref (19 + 4 * i), .int (nI j), .int (nI e)] μ q := by
            intro q h
            show mm_T X 1 0 0 k_Ye_look 0 [some (.ref (19 + 4 * i)), some (.int (nI j)), some (.int (nI e))] [] μ _
            have h3 : e = 0 ∨ e = 1 ∨ e = 2 := by omega
            rcases h3 with rfl | rfl | rfl
            · refine mm_iload d_Ye_look_0 rfl ?_
              refine mm_if_ltN d_Ye_look_1 (by first | omega | exact ite01_lt | exact bt8_lt31 _ _ | exact godB_lt31 _ _ _ | exact pop_lt31 _ | assumption | exact b31 (hW.gp (by omega)) | exact b31 (hW.ne (by omega)) | exact b31 (hW.op (by omega)) | exact and31 (hW.gp (by omega)) | exact and31 (hW.ne (by omega)) | exact and31 (hW.op (by omega)) | exact and31 (by assumption) | exact and31r (hW.ne (by omega)) | exact and31r (hW.gp (by omega)) | exact and31r (by decide)) ?_
              refine mm_iload d_Ye_look_4 rfl ?_
              refine mm_aload d_Ye_look_5 rfl ?_
              refine mm_getIN d_Ye_look_6 rfl (by assumption) hYn ?_
              refine mm_icmp_ltN d_Ye_look_9 (by first | omega | exact ite01_lt | exact bt8_lt31 _ _ | exact godB_lt31 _ _ _ | exact pop_lt31 _ | assumption | exact b31 (hW.gp (by omega)) | exact b31 (hW.ne (by omega)) | exact b31 (hW.op (by omega)) | exact and31 (hW.gp (by omega)) | exact and31 (hW.ne (by omega)) | exact and31 (hW.op (by omega)) | exact and31 (by assumption) | exact and31r (hW.ne (by omega)) | exact and31r (hW.gp (by omega)) | exact and31r (by decide)) (by first | omega | exact ite01_lt | exact bt8_lt31 _ _ | exact godB_lt31 _ _ _ | exact pop_lt31 _ | assumption | exact b31 (hW.gp (by omega)) | exact b31 (hW.ne (by omega)) | exact b31 (hW.op (by omega)) | exact and31 (hW.gp (by omega)) | exact and31 (hW.ne (by omega)) | exact and31 (hW.op (by omega)) | exact and31 (by assumption) | exact and31r (hW.ne (by omega)) | exact and31r (hW.gp (by omega)) | exact and31r (by decide)) (fun c_9 => ?_) (fun c_9 => False.elim (by omega))
              refine mm_iload d_Ye_look_15 rfl ?_
              refine mm_switchIn (n := 0) d_Ye_look_16 0 (by decide) (by decide) rfl ?_
              refine mm_aload d_Ye_look_44 rfl ?_
              refine mm_getP d_Ye_look_45 rfl (by assumption) (by assumption) ?_
              refine mm_iload d_Ye_look_48 rfl ?_
              refine mm_ialdV d_Ye_look_49 (by assumption) (by omega) (by decide) (congrFun hY1 j) ?_
              exact mm_ri d_Ye_look_50 h
            · refine mm_iload d_Ye_look_0 rfl ?_
              refine mm_if_ltN d_Ye_look_1 (by first | omega | exact ite01_lt | exact bt8_lt31 _ _ | exact godB_lt31 _ _ _ | exact pop_lt31 _ | assumption | exact b31 (hW.gp (by omega)) | exact b31 (hW.ne (by omega)) | exact b31 (hW.op (by omega)) | exact and31 (hW.gp (by omega)) | exact and31 (hW.ne (by omega)) | exact and31 (hW.op (by omega)) | exact and31 (by assumption) | exact and31r (hW.ne (by omega)) | exact and31r (hW.gp (by omega)) | exact and31r (by decide)) ?_
              refine mm_iload d_Ye_look_4 rfl ?_
              refine mm_aload d_Ye_look_5 rfl ?_
              refine mm_getIN d_Ye_look_6 rfl (by assumption) hYn ?_
              refine mm_icmp_ltN d_Ye_look_9 (by first | omega | exact ite01_lt | exact bt8_lt31 _ _ | exact godB_lt31 _ _ _ | exact pop_lt31 _ | assumption | exact b31 (hW.gp (by omega)) | exact b31 (hW.ne (by omega)) | exact b31 (hW.op (by omega)) | exact and31 (hW.gp (by omega)) | exact and31 (hW.ne (by omega)) | exact and31 (hW.op (by omega)) | exact and31 (by assumption) | exact and31r (hW.ne (by omega)) | exact and31r (hW.gp (by omega)) | exact and31r (by decide)) (by first | omega | exact ite01_lt | exact bt8_lt31 _ _ | exact godB_lt31 _ _ _ | exact pop_lt31 _ | assumption | exact b31 (hW.gp (by omega)) | exact b31 (hW.ne (by omega)) | exact b31 (hW.op (by omega)) | exact and31 (hW.gp (by omega)) | exact and31 (hW.ne (by omega)) | exact and31 (hW.op (by omega)) | exact and31 (by assumption) | exact and31r (hW.ne (by omega)) | exact and31r (hW.gp (by omega)) | exact and31r (by decide)) (fun c_9 => ?_) (fun c_9 => False.elim (by omega))
              refine mm_iload d_Ye_look_15 rfl ?_
              refine mm_switchIn (n := 0) d_Ye_look_16 1 (by decide) (by decide) rfl ?_
              refine mm_aload d_Ye_look_51 rfl ?_
              refine mm_getP d_Ye_look_52 rfl (by assumption) (by assumption) ?_
              refine mm_iload d_Ye_look_55 rfl ?_
              refine mm_ialdV d_Ye_look_56 (by assumption) (by omega) (by decide) (congrFun hY2 j) ?_
              exact mm_ri d_Ye_look_57 h
            · refine mm_iload d_Ye_look_0 rfl ?_
              refine mm_if_ltN d_Ye_look_1 (by first | omega | exact ite01_lt | exact bt8_lt31 _ _ | exact godB_lt31 _ _ _ | exact pop_lt31 _ | assumption | exact b31 (hW.gp (by omega)) | exact b31 (hW.ne (by omega)) | exact b31 (hW.op (by omega)) | exact and31 (hW.gp (by omega)) | exact and31 (hW.ne (by omega)) | exact and31 (hW.op (by omega)) | exact and31 (by assumption) | exact and31r (hW.ne (by omega)) | exact and31r (hW.gp (by omega)) | exact and31r (by decide)) ?_
              refine mm_iload d_Ye_look_4 rfl ?_
              refine mm_aload d_Ye_look_5 rfl ?_
              refine mm_getIN d_Ye_look_6 rfl (by assumption) hYn ?_
              refine mm_icmp_ltN d_Ye_look_9 (by first | omega | exact ite01_lt | exact bt8_lt31 _ _ | exact godB_lt31 _ _ _ | exact pop_lt31 _ | assumption | exact b31 (hW.gp (by omega)) | exact b31 (hW.ne (by omega)) | exact b31 (hW.op (by omega)) | exact and31 (hW.gp (by omega)) | exact and31 (hW.ne (by omega)) | exact and31 (hW.op (by omega)) | exact and31 (by assumption) | exact and31r (hW.ne (by omega)) | exact and31r (hW.gp (by omega)) | exact and31r (by decide)) (by first | omega | exact ite01_lt | exact bt8_lt31 _ _ | exact godB_lt31 _ _ _ | exact pop_lt31 _ | assumption | exact b31 (hW.gp (by omega)) | exact b31 (hW.ne (by omega)) | exact b31 (hW.op (by omega)) | exact and31 (hW.gp (by omega)) | exact and31 (hW.ne (by omega)) | exact and31 (hW.op (by omega)) | exact and31 (by assumption) | exact and31r (hW.ne (by omega)) | exact and31r (hW.gp (by omega)) | exact and31r (by decide)) (fun c_9 => ?_) (fun c_9 => False.elim (by omega))
              refine mm_iload d_Ye_look_15 rfl ?_
              refine mm_switchIn (n := 0) d_Ye_look_16 2 (by decide) (by decide) rfl ?_
              refine mm_aload d_Ye_look_58 rfl ?_
              refine mm_getP d_Ye_look_59 rfl (by assumption) (by assumption) ?_
              refine mm_iload d_Ye_look_62 rfl ?_
              refine mm_ialdV d_Ye_look_63 (by assumption) (by omega) (by decide) (congrFun hY3 j) ?_
              exact mm_ri d_Ye_look_64 h
          refine mm_aload d_G_deed_0 rfl ?_
          refine mm_getP d_G_deed_1 rfl (sk_o_0 hM) (sk_p_0_0 hM) ?_
          refine mm_iload d_G_deed_4 rfl ?_
          refine mm_v1r d_G_deed_5 (sk_o_1 hM) (sp_To_yearAtI hM h0 h02 hi ?_)
          refine mm_ast4 d_G_deed_8 ?_
          refine mm_aload d_G_deed_10 rfl ?_
          refine mm_ifnonnull d_G_deed_12 ?_
          refine mm_iload d_G_deed_18 rfl ?_
          refine mm_ci d_G_deed_19 ?_
          refine mm_icmp_neM1 d_G_deed_20 (by first | omega | exact ite01_lt | exact bt8_lt31 _ _ | exact godB_lt31 _ _ _ | exact pop_lt31 _ | assumption | exact b31 (hW.gp (by omega)) | exact b31 (hW.ne (by omega)) | exact b31 (hW.op (by omega)) | exact and31 (hW.gp (by omega)) | exact and31 (hW.ne (by omega)) | exact and31 (hW.op (by omega)) | exact and31 (by assumption) | exact and31r (hW.ne (by omega)) | exact and31r (hW.gp (by omega)) | exact and31r (by decide)) ?_
          refine mm_aload d_G_deed_38 rfl ?_
          refine mm_iload d_G_deed_40 rfl ?_
          refine mm_iload d_G_deed_41 rfl ?_
          refine mm_v2i d_G_deed_42 hYo (lk _ ?_)
          exact mm_ri d_G_deed_45 ⟨rfl, Fr.rf, hw⟩
        · show mm_T X 12 0 0 k_M_deed 0 [some (.ref 71), some (.int (nI i)), some (.int (nI j)), some (.int (nI e))] [] μ1 _
          replace hM := hf.2.2.2 hM
          refine mm_aload d_M_deed_0 rfl ?_
          refine mm_ciN 0 d_M_deed_1 rfl ?_
          refine mm_putI d_M_deed_2 rfl (sk_o_71 hM) (Or.inl rfl) ?_
          refine mm_aload d_M_deed_5 rfl ?_
          refine mm_iload d_M_deed_6 rfl ?_
          refine mm_v1i d_M_deed_7 (sk_o_71 hM) (sp_M_hasYearT hM (by rw [mm_sI_off (by decide), (hf.2.2.1 76 rfl).1]; exact m0) h02 hi ((hYM.frC hf rfl).sI) hW (fun hL => ?_))
          refine mm_if_neN d_M_deed_10 (by first | omega | exact ite01_lt | exact bt8_lt31 _ _ | exact godB_lt31 _ _ _ | exact pop_lt31 _ | assumption | exact b31 (hW.gp (by omega)) | exact b31 (hW.ne (by omega)) | exact b31 (hW.op (by omega)) | exact and31 (hW.gp (by omega)) | exact and31 (hW.ne (by omega)) | exact and31 (hW.op (by omega)) | exact and31 (by assumption) | exact and31r (hW.ne (by omega)) | exact and31r (hW.gp (by omega)) | exact and31r (by decide)) (fun c_10 => ?_) (fun c_10 => False.elim (by omega))
          refine mm_iload d_M_deed_16 rfl ?_
          refine mm_ci d_M_deed_17 ?_
          refine mm_icmp_neM1 d_M_deed_18 (by first | omega | exact ite01_lt | exact bt8_lt31 _ _ | exact godB_lt31 _ _ _ | exact pop_lt31 _ | assumption | exact b31 (hW.gp (by omega)) | exact b31 (hW.ne (by omega)) | exact b31 (hW.op (by omega)) | exact and31 (hW.gp (by omega)) | exact and31 (hW.ne (by omega)) | exact and31 (hW.op (by omega)) | exact and31 (by assumption) | exact and31r (hW.ne (by omega)) | exact and31r (hW.gp (by omega)) | exact and31r (by decide)) ?_
          refine mm_iload d_M_deed_35 rfl ?_
          refine mm_ciN 0 d_M_deed_36 rfl ?_
          refine mm_aload d_M_deed_37 rfl ?_
          refine mm_v0i d_M_deed_38 (sk_o_71 hM) (sp_M_deeds hL ?_)
          refine mm_ciN 1 d_M_deed_41 rfl ?_
          refine mm_isubN d_M_deed_42 (by omega) ?_
          refine mm_s3i d_M_deed_43 (sp_M_inT (by omega) (by omega) (by omega) ?_)
          refine mm_if_eqN d_M_deed_46 (by first | omega | exact ite01_lt | exact bt8_lt31 _ _ | exact godB_lt31 _ _ _ | exact pop_lt31 _ | assumption | exact b31 (hW.gp (by omega)) | exact b31 (hW.ne (by omega)) | exact b31 (hW.op (by omega)) | exact and31 (hW.gp (by omega)) | exact and31 (hW.ne (by omega)) | exact and31 (hW.op (by omega)) | exact and31 (by assumption) | exact and31r (hW.ne (by omega)) | exact and31r (hW.gp (by omega)) | exact and31r (by decide)) (fun c_46 => False.elim (by omega)) (fun c_46 => ?_)
          refine mm_iload d_M_deed_49 rfl ?_
          refine mm_ciN 0 d_M_deed_50 rfl ?_
          refine mm_ciN 2 d_M_deed_51 rfl ?_
          refine mm_s3i d_M_deed_52 (sp_M_inT (by omega) (by omega) (by omega) ?_)
          refine mm_if_eqN d_M_deed_55 (by first | omega | exact ite01_lt | exact bt8_lt31 _ _ | exact godB_lt31 _ _ _ | exact pop_lt31 _ | assumption | exact b31 (hW.gp (by omega)) | exact b31 (hW.ne (by omega)) | exact b31 (hW.op (by omega)) | exact and31 (hW.gp (by omega)) | exact and31 (hW.ne (by omega)) | exact and31 (hW.op (by omega)) | exact and31 (by assumption) | exact and31r (hW.ne (by omega)) | exact and31r (hW.gp (by omega)) | exact and31r (by decide)) (fun c_55 => False.elim (by omega)) (fun c_55 => ?_)
          refine mm_aload d_M_deed_58 rfl ?_
          refine mm_iload d_M_deed_59 rfl ?_
          refine mm_iload d_M_deed_60 rfl ?_
          refine mm_v2i d_M_deed_61 (sk_o_71 hM) (sp_M_deedOf hL hj he ?_)
          refine mm_goto d_M_deed_64 ?_
          exact mm_ri d_M_deed_69 ⟨rfl, (Fr.rf.sI rfl).sI rfl⟩
theorem pair_fact {X : mm_X} {k : Nat} {μ : mm_M} (hJ : JJ k μ) (y1 y2 y3 : Int32) : PairI X (JJ (k + 1)) k_G_fact k_M_fact [.int y1, .int y2, .int y3] μ := by
  obtain ⟨c, h02, h0, m0, hv⟩ := hJ.log y1
  have hM := hJ.1
  have hw := hJ.2.2.2.up
  rcases hv with hx | ⟨i, E, hi, rfl, hW, hLD, hLM⟩
  · exact pairQ (-2) hJ (d := 2) (d' := 4) (by decide) (by decide) (n_G_fact hM h0 h02 hx ⟨rfl, Fr.rf, hw⟩) (fun μ1 hf => n_M_fact (hf.2.2.2 hM) (by rw [(hf.2.2.1 76 rfl).1]; exact m0) h02 hx (fun μ' hk => ⟨rfl, hk.fr (hf.2.2.2 hM)⟩))
  have h8 := hW.1
  obtain ⟨⟨hYo, ⟨hp0, ha0⟩, ⟨hp1, ha1⟩⟩, hYn, hY1⟩ := id hLD
  by_cases hk : y2 = -1
  · subst hk
    refine pairQ (if y3 = 0 then nI (en E) else -2) hJ (d := 12) (d' := 12) (by decide) (by decide) ?_ (fun μ1 hf => ?_)
    · show mm_T X 12 0 0 k_G_fact 0 [some (.ref 0), some (.int (nI i)), some (.int (-1)), some (.int y3), none] [] μ _
      refine mm_aload d_G_fact_0 rfl ?_
      refine mm_getP d_G_fact_1 rfl (sk_o_0 hM) (sk_p_0_0 hM) ?_
      refine mm_iload d_G_fact_4 rfl ?_
      refine mm_v1r d_G_fact_5 (sk_o_1 hM) (sp_To_logAtI hM h0 h02 hi ?_)
      refine mm_ast4 d_G_fact_8 ?_
      refine mm_aload d_G_fact_10 rfl ?_
      refine mm_ifnonnull d_G_fact_12 ?_
      refine mm_iload d_G_fact_18 rfl ?_
      refine mm_ci d_G_fact_19 ?_
      refine mm_icmp_neS d_G_fact_20 ?_
      refine mm_iload d_G_fact_23 rfl ?_
      refine mm_if_ne d_G_fact_24 (fun c_24 => ?_) (fun c_24 => ?_)
      · refine mm_ci d_G_fact_35 ?_
        exact mm_ri d_G_fact_37 ⟨by first | exact (if_pos (Decidable.not_not.mp c_24)).symm | exact (if_neg c_24).symm, Fr.rf, hw⟩
      · refine mm_aload d_G_fact_27 rfl ?_
        refine mm_getIN d_G_fact_29 rfl (by assumption) hYn ?_
        refine mm_goto d_G_fact_32 ?_
        exact mm_ri d_G_fact_37 ⟨by first | exact (if_pos (Decidable.not_not.mp c_24)).symm | exact (if_neg c_24).symm, Fr.rf, hw⟩
    · show mm_T X 12 0 0 k_M_fact 0 [some (.ref 71), some (.int (nI i)), some (.int (-1)), some (.int y3)] [] μ1 _
      replace hM := hf.2.2.2 hM
      refine mm_aload d_M_fact_0 rfl ?_
      refine mm_ciN 0 d_M_fact_1 rfl ?_
      refine mm_putI d_M_fact_2 rfl (sk_o_71 hM) (Or.inl rfl) ?_
      refine mm_aload d_M_fact_5 rfl ?_
      refine mm_iload d_M_fact_6 rfl ?_
      refine mm_v1i d_M_fact_7 (sk_o_71 hM) (sp_M_hasLogT hM (by rw [mm_sI_off (by decide), (hf.2.2.1 76 rfl).1]; exact m0) h02 hi ((hLM.frC hf rfl).sI) hW (fun hL => ?_))
      refine mm_if_neN d_M_fact_10 (by first | omega | exact ite01_lt | exact bt8_lt31 _ _ | exact godB_lt31 _ _ _ | exact pop_lt31 _ | assumption | exact b31 (hW.gp (by omega)) | exact b31 (hW.ne (by omega)) | exact b31 (hW.op (by omega)) | exact and31 (hW.gp (by omega)) | exact and31 (hW.ne (by omega)) | exact and31 (hW.op (by omega)) | exact and31 (by assumption) | exact and31r (hW.ne (by omega)) | exact and31r (hW.gp (by omega)) | exact and31r (by decide)) (fun c_10 => ?_) (fun c_10 => False.elim (by omega))
      refine mm_iload d_M_fact_16 rfl ?_
      refine mm_ci d_M_fact_17 ?_
      refine mm_icmp_neS d_M_fact_18 ?_
      refine mm_iload d_M_fact_21 rfl ?_
      refine mm_if_ne d_M_fact_22 (fun c_22 => ?_) (fun c_22 => ?_)
      · refine mm_ci d_M_fact_32 ?_
        exact mm_ri d_M_fact_34 ⟨by first | exact (if_pos (Decidable.not_not.mp c_22)).symm | exact (if_neg c_22).symm, (Fr.rf.sI rfl).sI rfl⟩
      · refine mm_aload d_M_fact_25 rfl ?_
        refine mm_v0i d_M_fact_26 (sk_o_71 hM) (sp_M_facts hL ?_)
        refine mm_goto d_M_fact_29 ?_
        exact mm_ri d_M_fact_34 ⟨by first | exact (if_pos (Decidable.not_not.mp c_22)).symm | exact (if_neg c_22).symm, (Fr.rf.sI rfl).sI rfl⟩
  · rcases atF_or (c := en E) (by omega) y2 with hz | ⟨j, hj, rfl⟩
    · refine pairQ (-2) hJ (d := 12) (d' := 12) (by decide) (by decide) ?_ (fun μ1 hf => ?_)
      · show mm_T X 12 0 0 k_G_fact 0 [some (.ref 0), some (.int (nI i)), some (.int y2), some (.int y3), none] [] μ _
        have lk : ∀ q : Int32 → mm_M → Prop, q (-2) μ → mm_Ci X 1 0 0 k_Lo_look [.ref (28 + 3 * i), .int y2, .int y3] μ q := by
          intro q h
          show mm_T X 1 0 0 k_Lo_look 0 [some (.ref (28 + 3 * i)), some (.int y2), some (.int y3)] [] μ _
          have hzi := inF_none hz
          unfold inF at hzi
          refine mm_iload d_Lo_look_0 rfl ?_
          refine mm_if_lt d_Lo_look_1 (fun c_1 => ?_) (fun c_1 => ?_)
          · refine mm_ci d_Lo_look_12 ?_
            exact mm_ri d_Lo_look_14 h
          · refine mm_iload d_Lo_look_4 rfl ?_
            refine mm_aload d_Lo_look_5 rfl ?_
            refine mm_getIN d_Lo_look_6 rfl (by assumption) hYn ?_
            refine mm_icmp_lt d_Lo_look_9 (fun c_9 => False.elim (by rw [if_neg c_1] at hzi; by_cases z : nI (en E) ≤ y2; exact absurd c_9 (Int32.not_lt.mpr z); rw [if_neg z] at hzi; exact absurd hzi (by decide))) (fun c_9 => ?_)
            refine mm_ci d_Lo_look_12 ?_
            exact mm_ri d_Lo_look_14 h
        refine mm_aload d_G_fact_0 rfl ?_
        refine mm_getP d_G_fact_1 rfl (sk_o_0 hM) (sk_p_0_0 hM) ?_
        refine mm_iload d_G_fact_4 rfl ?_
        refine mm_v1r d_G_fact_5 (sk_o_1 hM) (sp_To_logAtI hM h0 h02 hi ?_)
        refine mm_ast4 d_G_fact_8 ?_
        refine mm_aload d_G_fact_10 rfl ?_
        refine mm_ifnonnull d_G_fact_12 ?_
        refine mm_iload d_G_fact_18 rfl ?_
        refine mm_ci d_G_fact_19 ?_
        refine mm_icmp_ne d_G_fact_20 (fun c_20 => ?_) (fun c_20 => False.elim (c_20 hk))
        refine mm_aload d_G_fact_38 rfl ?_
        refine mm_iload d_G_fact_40 rfl ?_
        refine mm_iload d_G_fact_41 rfl ?_
        refine mm_v2i d_G_fact_42 hYo (lk _ ?_)
        exact mm_ri d_G_fact_45 ⟨rfl, Fr.rf, hw⟩
      · show mm_T X 12 0 0 k_M_fact 0 [some (.ref 71), some (.int (nI i)), some (.int y2), some (.int y3)] [] μ1 _
        replace hM := hf.2.2.2 hM
        refine mm_aload d_M_fact_0 rfl ?_
        refine mm_ciN 0 d_M_fact_1 rfl ?_
        refine mm_putI d_M_fact_2 rfl (sk_o_71 hM) (Or.inl rfl) ?_
        refine mm_aload d_M_fact_5 rfl ?_
        refine mm_iload d_M_fact_6 rfl ?_
        refine mm_v1i d_M_fact_7 (sk_o_71 hM) (sp_M_hasLogT hM (by rw [mm_sI_off (by decide), (hf.2.2.1 76 rfl).1]; exact m0) h02 hi ((hLM.frC hf rfl).sI) hW (fun hL => ?_))
        refine mm_if_neN d_M_fact_10 (by first | omega | exact ite01_lt | exact bt8_lt31 _ _ | exact godB_lt31 _ _ _ | exact pop_lt31 _ | assumption | exact b31 (hW.gp (by omega)) | exact b31 (hW.ne (by omega)) | exact b31 (hW.op (by omega)) | exact and31 (hW.gp (by omega)) | exact and31 (hW.ne (by omega)) | exact and31 (hW.op (by omega)) | exact and31 (by assumption) | exact and31r (hW.ne (by omega)) | exact and31r (hW.gp (by omega)) | exact and31r (by decide)) (fun c_10 => ?_) (fun c_10 => False.elim (by omega))
        refine mm_iload d_M_fact_16 rfl ?_
        refine mm_ci d_M_fact_17 ?_
        refine mm_icmp_ne d_M_fact_18 (fun c_18 => ?_) (fun c_18 => False.elim (c_18 hk))
        refine mm_iload d_M_fact_35 rfl ?_
        refine mm_ciN 0 d_M_fact_36 rfl ?_
        refine mm_aload d_M_fact_37 rfl ?_
        refine mm_v0i d_M_fact_38 (sk_o_71 hM) (sp_M_facts hL ?_)
        refine mm_ciN 1 d_M_fact_41 rfl ?_
        refine mm_isub d_M_fact_42 ?_
        refine mm_s3i d_M_fact_43 (sp_M_in ?_)
        rw [show inG y2 (nI 0) (nI (en E) - nI 1) = nI 0 from sp_M_in_m1 (by omega) hz]
        refine mm_if_eqN d_M_fact_46 (by first | omega | exact ite01_lt | exact bt8_lt31 _ _ | exact godB_lt31 _ _ _ | exact pop_lt31 _ | assumption | exact b31 (hW.gp (by omega)) | exact b31 (hW.ne (by omega)) | exact b31 (hW.op (by omega)) | exact and31 (hW.gp (by omega)) | exact and31 (hW.ne (by omega)) | exact and31 (hW.op (by omega)) | exact and31 (by assumption) | exact and31r (hW.ne (by omega)) | exact and31r (hW.gp (by omega)) | exact and31r (by decide)) (fun c_46 => ?_) (fun c_46 => False.elim (by omega))
        refine mm_ci d_M_fact_67 ?_
        exact mm_ri d_M_fact_69 ⟨rfl, (Fr.rf.sI rfl).sI rfl⟩
    · rcases rng_or y3 (a := 0) (b := 1) (by decide) (by decide) with ⟨hz, hz2⟩ | ⟨e, -, he, rfl⟩
      · refine pairQ (-2) hJ (d := 12) (d' := 12) (by decide) (by decide) ?_ (fun μ1 hf => ?_)
        · show mm_T X 12 0 0 k_G_fact 0 [some (.ref 0), some (.int (nI i)), some (.int (nI j)), some (.int y3), none] [] μ _
          have lk : ∀ q : Int32 → mm_M → Prop, q (-2) μ → mm_Ci X 1 0 0 k_Lo_look [.ref (28 + 3 * i), .int (nI j), .int y3] μ q := by
            intro q h
            show mm_T X 1 0 0 k_Lo_look 0 [some (.ref (28 + 3 * i)), some (.int (nI j)), some (.int y3)] [] μ _
            refine mm_iload d_Lo_look_0 rfl ?_
            refine mm_if_ltN d_Lo_look_1 (by first | omega | exact ite01_lt | exact bt8_lt31 _ _ | exact godB_lt31 _ _ _ | exact pop_lt31 _ | assumption | exact b31 (hW.gp (by omega)) | exact b31 (hW.ne (by omega)) | exact b31 (hW.op (by omega)) | exact and31 (hW.gp (by omega)) | exact and31 (hW.ne (by omega)) | exact and31 (hW.op (by omega)) | exact and31 (by assumption) | exact and31r (hW.ne (by omega)) | exact and31r (hW.gp (by omega)) | exact and31r (by decide)) ?_
            refine mm_iload d_Lo_look_4 rfl ?_
            refine mm_aload d_Lo_look_5 rfl ?_
            refine mm_getIN d_Lo_look_6 rfl (by assumption) hYn ?_
            refine mm_icmp_ltN d_Lo_look_9 (by first | omega | exact ite01_lt | exact bt8_lt31 _ _ | exact godB_lt31 _ _ _ | exact pop_lt31 _ | assumption | exact b31 (hW.gp (by omega)) | exact b31 (hW.ne (by omega)) | exact b31 (hW.op (by omega)) | exact and31 (hW.gp (by omega)) | exact and31 (hW.ne (by omega)) | exact and31 (hW.op (by omega)) | exact and31 (by assumption) | exact and31r (hW.ne (by omega)) | exact and31r (hW.gp (by omega)) | exact and31r (by decide)) (by first | omega | exact ite01_lt | exact bt8_lt31 _ _ | exact godB_lt31 _ _ _ | exact pop_lt31 _ | assumption | exact b31 (hW.gp (by omega)) | exact b31 (hW.ne (by omega)) | exact b31 (hW.op (by omega)) | exact and31 (hW.gp (by omega)) | exact and31 (hW.ne (by omega)) | exact and31 (hW.op (by omega)) | exact and31 (by assumption) | exact and31r (hW.ne (by omega)) | exact and31r (hW.gp (by omega)) | exact and31r (by decide)) (fun c_9 => ?_) (fun c_9 => False.elim (by omega))
            refine mm_iload d_Lo_look_15 rfl ?_
            refine mm_if_ne d_Lo_look_16 (fun c_16 => ?_) (fun c_16 => False.elim (by rw [Decidable.not_not.mp c_16] at hz2; exact absurd hz2 (by decide)))
            refine mm_iload d_Lo_look_26 rfl ?_
            refine mm_ciN 1 d_Lo_look_27 rfl ?_
            refine mm_icmp_ne d_Lo_look_28 (fun c_28 => ?_) (fun c_28 => False.elim (by rw [Decidable.not_not.mp c_28] at hz2; exact absurd hz2 (by decide)))
            refine mm_ci d_Lo_look_40 ?_
            exact mm_ri d_Lo_look_42 h
          refine mm_aload d_G_fact_0 rfl ?_
          refine mm_getP d_G_fact_1 rfl (sk_o_0 hM) (sk_p_0_0 hM) ?_
          refine mm_iload d_G_fact_4 rfl ?_
          refine mm_v1r d_G_fact_5 (sk_o_1 hM) (sp_To_logAtI hM h0 h02 hi ?_)
          refine mm_ast4 d_G_fact_8 ?_
          refine mm_aload d_G_fact_10 rfl ?_
          refine mm_ifnonnull d_G_fact_12 ?_
          refine mm_iload d_G_fact_18 rfl ?_
          refine mm_ci d_G_fact_19 ?_
          refine mm_icmp_neM1 d_G_fact_20 (by first | omega | exact ite01_lt | exact bt8_lt31 _ _ | exact godB_lt31 _ _ _ | exact pop_lt31 _ | assumption | exact b31 (hW.gp (by omega)) | exact b31 (hW.ne (by omega)) | exact b31 (hW.op (by omega)) | exact and31 (hW.gp (by omega)) | exact and31 (hW.ne (by omega)) | exact and31 (hW.op (by omega)) | exact and31 (by assumption) | exact and31r (hW.ne (by omega)) | exact and31r (hW.gp (by omega)) | exact and31r (by decide)) ?_
          refine mm_aload d_G_fact_38 rfl ?_
          refine mm_iload d_G_fact_40 rfl ?_
          refine mm_iload d_G_fact_41 rfl ?_
          refine mm_v2i d_G_fact_42 hYo (lk _ ?_)
          exact mm_ri d_G_fact_45 ⟨rfl, Fr.rf, hw⟩
        · show mm_T X 12 0 0 k_M_fact 0 [some (.ref 71), some (.int (nI i)), some (.int (nI j)), some (.int y3)] [] μ1 _
          replace hM := hf.2.2.2 hM
          refine mm_aload d_M_fact_0 rfl ?_
          refine mm_ciN 0 d_M_fact_1 rfl ?_
          refine mm_putI d_M_fact_2 rfl (sk_o_71 hM) (Or.inl rfl) ?_
          refine mm_aload d_M_fact_5 rfl ?_
          refine mm_iload d_M_fact_6 rfl ?_
          refine mm_v1i d_M_fact_7 (sk_o_71 hM) (sp_M_hasLogT hM (by rw [mm_sI_off (by decide), (hf.2.2.1 76 rfl).1]; exact m0) h02 hi ((hLM.frC hf rfl).sI) hW (fun hL => ?_))
          refine mm_if_neN d_M_fact_10 (by first | omega | exact ite01_lt | exact bt8_lt31 _ _ | exact godB_lt31 _ _ _ | exact pop_lt31 _ | assumption | exact b31 (hW.gp (by omega)) | exact b31 (hW.ne (by omega)) | exact b31 (hW.op (by omega)) | exact and31 (hW.gp (by omega)) | exact and31 (hW.ne (by omega)) | exact and31 (hW.op (by omega)) | exact and31 (by assumption) | exact and31r (hW.ne (by omega)) | exact and31r (hW.gp (by omega)) | exact and31r (by decide)) (fun c_10 => ?_) (fun c_10 => False.elim (by omega))
          refine mm_iload d_M_fact_16 rfl ?_
          refine mm_ci d_M_fact_17 ?_
          refine mm_icmp_neM1 d_M_fact_18 (by first | omega | exact ite01_lt | exact bt8_lt31 _ _ | exact godB_lt31 _ _ _ | exact pop_lt31 _ | assumption | exact b31 (hW.gp (by omega)) | exact b31 (hW.ne (by omega)) | exact b31 (hW.op (by omega)) | exact and31 (hW.gp (by omega)) | exact and31 (hW.ne (by omega)) | exact and31 (hW.op (by omega)) | exact and31 (by assumption) | exact and31r (hW.ne (by omega)) | exact and31r (hW.gp (by omega)) | exact and31r (by decide)) ?_
          refine mm_iload d_M_fact_35 rfl ?_
          refine mm_ciN 0 d_M_fact_36 rfl ?_
          refine mm_aload d_M_fact_37 rfl ?_
          refine mm_v0i d_M_fact_38 (sk_o_71 hM) (sp_M_facts hL ?_)
          refine mm_ciN 1 d_M_fact_41 rfl ?_
          refine mm_isubN d_M_fact_42 (by omega) ?_
          refine mm_s3i d_M_fact_43 (sp_M_inT (by omega) (by omega) (by omega) ?_)
          refine mm_if_eqN d_M_fact_46 (by first | omega | exact ite01_lt | exact bt8_lt31 _ _ | exact godB_lt31 _ _ _ | exact pop_lt31 _ | assumption | exact b31 (hW.gp (by omega)) | exact b31 (hW.ne (by omega)) | exact b31 (hW.op (by omega)) | exact and31 (hW.gp (by omega)) | exact and31 (hW.ne (by omega)) | exact and31 (hW.op (by omega)) | exact and31 (by assumption) | exact and31r (hW.ne (by omega)) | exact and31r (hW.gp (by omega)) | exact and31r (by decide)) (fun c_46 => False.elim (by omega)) (fun c_46 => ?_)
          refine mm_iload d_M_fact_49 rfl ?_
          refine mm_ciN 0 d_M_fact_50 rfl ?_
          refine mm_ciN 1 d_M_fact_51 rfl ?_
          refine mm_s3i d_M_fact_52 (sp_M_inB hz ?_)
          refine mm_if_eqN d_M_fact_55 (by first | omega | exact ite01_lt | exact bt8_lt31 _ _ | exact godB_lt31 _ _ _ | exact pop_lt31 _ | assumption | exact b31 (hW.gp (by omega)) | exact b31 (hW.ne (by omega)) | exact b31 (hW.op (by omega)) | exact and31 (hW.gp (by omega)) | exact and31 (hW.ne (by omega)) | exact and31 (hW.op (by omega)) | exact and31 (by assumption) | exact and31r (hW.ne (by omega)) | exact and31r (hW.gp (by omega)) | exact and31r (by decide)) (fun c_55 => ?_) (fun c_55 => False.elim (by omega))
          refine mm_ci d_M_fact_67 ?_
          exact mm_ri d_M_fact_69 ⟨rfl, (Fr.rf.sI rfl).sI rfl⟩
      · have h3 : e = 0 ∨ e = 1 := by omega
        refine pairQ (if e = 0 then nI (ek E j) else nI (ew E j)) hJ (d := 12) (d' := 12) (by decide) (by decide) ?_ (fun μ1 hf => ?_)
        · show mm_T X 12 0 0 k_G_fact 0 [some (.ref 0), some (.int (nI i)), some (.int (nI j)), some (.int (nI e)), none] [] μ _
          have lk : ∀ q : Int32 → mm_M → Prop, q (if e = 0 then nI (ek E j) else nI (ew E j)) μ → mm_Ci X 1 0 0 k_Lo_look [.ref (28 + 3 * i), .int (nI j), .int (nI e)] μ q := by
            intro q h
            show mm_T X 1 0 0 k_Lo_look 0 [some (.ref (28 + 3 * i)), some (.int (nI j)), some (.int (nI e))] [] μ _
            rcases h3 with rfl | rfl
            · refine mm_iload d_Lo_look_0 rfl ?_
              refine mm_if_ltN d_Lo_look_1 (by first | omega | exact ite01_lt | exact bt8_lt31 _ _ | exact godB_lt31 _ _ _ | exact pop_lt31 _ | assumption | exact b31 (hW.gp (by omega)) | exact b31 (hW.ne (by omega)) | exact b31 (hW.op (by omega)) | exact and31 (hW.gp (by omega)) | exact and31 (hW.ne (by omega)) | exact and31 (hW.op (by omega)) | exact and31 (by assumption) | exact and31r (hW.ne (by omega)) | exact and31r (hW.gp (by omega)) | exact and31r (by decide)) ?_
              refine mm_iload d_Lo_look_4 rfl ?_
              refine mm_aload d_Lo_look_5 rfl ?_
              refine mm_getIN d_Lo_look_6 rfl (by assumption) hYn ?_
              refine mm_icmp_ltN d_Lo_look_9 (by first | omega | exact ite01_lt | exact bt8_lt31 _ _ | exact godB_lt31 _ _ _ | exact pop_lt31 _ | assumption | exact b31 (hW.gp (by omega)) | exact b31 (hW.ne (by omega)) | exact b31 (hW.op (by omega)) | exact and31 (hW.gp (by omega)) | exact and31 (hW.ne (by omega)) | exact and31 (hW.op (by omega)) | exact and31 (by assumption) | exact and31r (hW.ne (by omega)) | exact and31r (hW.gp (by omega)) | exact and31r (by decide)) (by first | omega | exact ite01_lt | exact bt8_lt31 _ _ | exact godB_lt31 _ _ _ | exact pop_lt31 _ | assumption | exact b31 (hW.gp (by omega)) | exact b31 (hW.ne (by omega)) | exact b31 (hW.op (by omega)) | exact and31 (hW.gp (by omega)) | exact and31 (hW.ne (by omega)) | exact and31 (hW.op (by omega)) | exact and31 (by assumption) | exact and31r (hW.ne (by omega)) | exact and31r (hW.gp (by omega)) | exact and31r (by decide)) (fun c_9 => ?_) (fun c_9 => False.elim (by omega))
              refine mm_iload d_Lo_look_15 rfl ?_
              refine mm_if_neN d_Lo_look_16 (by first | omega | exact ite01_lt | exact bt8_lt31 _ _ | exact godB_lt31 _ _ _ | exact pop_lt31 _ | assumption | exact b31 (hW.gp (by omega)) | exact b31 (hW.ne (by omega)) | exact b31 (hW.op (by omega)) | exact and31 (hW.gp (by omega)) | exact and31 (hW.ne (by omega)) | exact and31 (hW.op (by omega)) | exact and31 (by assumption) | exact and31r (hW.ne (by omega)) | exact and31r (hW.gp (by omega)) | exact and31r (by decide)) (fun c_16 => False.elim (by omega)) (fun c_16 => ?_)
              refine mm_aload d_Lo_look_19 rfl ?_
              refine mm_getP d_Lo_look_20 rfl (by assumption) (by assumption) ?_
              refine mm_iload d_Lo_look_23 rfl ?_
              refine mm_ialdN d_Lo_look_24 (by assumption) (by omega) (by decide) (hY1 j hj).1 ?_
              exact mm_ri d_Lo_look_25 h
            · refine mm_iload d_Lo_look_0 rfl ?_
              refine mm_if_ltN d_Lo_look_1 (by first | omega | exact ite01_lt | exact bt8_lt31 _ _ | exact godB_lt31 _ _ _ | exact pop_lt31 _ | assumption | exact b31 (hW.gp (by omega)) | exact b31 (hW.ne (by omega)) | exact b31 (hW.op (by omega)) | exact and31 (hW.gp (by omega)) | exact and31 (hW.ne (by omega)) | exact and31 (hW.op (by omega)) | exact and31 (by assumption) | exact and31r (hW.ne (by omega)) | exact and31r (hW.gp (by omega)) | exact and31r (by decide)) ?_
              refine mm_iload d_Lo_look_4 rfl ?_
              refine mm_aload d_Lo_look_5 rfl ?_
              refine mm_getIN d_Lo_look_6 rfl (by assumption) hYn ?_
              refine mm_icmp_ltN d_Lo_look_9 (by first | omega | exact ite01_lt | exact bt8_lt31 _ _ | exact godB_lt31 _ _ _ | exact pop_lt31 _ | assumption | exact b31 (hW.gp (by omega)) | exact b31 (hW.ne (by omega)) | exact b31 (hW.op (by omega)) | exact and31 (hW.gp (by omega)) | exact and31 (hW.ne (by omega)) | exact and31 (hW.op (by omega)) | exact and31 (by assumption) | exact and31r (hW.ne (by omega)) | exact and31r (hW.gp (by omega)) | exact and31r (by decide)) (by first | omega | exact ite01_lt | exact bt8_lt31 _ _ | exact godB_lt31 _ _ _ | exact pop_lt31 _ | assumption | exact b31 (hW.gp (by omega)) | exact b31 (hW.ne (by omega)) | exact b31 (hW.op (by omega)) | exact and31 (hW.gp (by omega)) | exact and31 (hW.ne (by omega)) | exact and31 (hW.op (by omega)) | exact and31 (by assumption) | exact and31r (hW.ne (by omega)) | exact and31r (hW.gp (by omega)) | exact and31r (by decide)) (fun c_9 => ?_) (fun c_9 => False.elim (by omega))
              refine mm_iload d_Lo_look_15 rfl ?_
              refine mm_if_neN d_Lo_look_16 (by first | omega | exact ite01_lt | exact bt8_lt31 _ _ | exact godB_lt31 _ _ _ | exact pop_lt31 _ | assumption | exact b31 (hW.gp (by omega)) | exact b31 (hW.ne (by omega)) | exact b31 (hW.op (by omega)) | exact and31 (hW.gp (by omega)) | exact and31 (hW.ne (by omega)) | exact and31 (hW.op (by omega)) | exact and31 (by assumption) | exact and31r (hW.ne (by omega)) | exact and31r (hW.gp (by omega)) | exact and31r (by decide)) (fun c_16 => ?_) (fun c_16 => False.elim (by omega))
              refine mm_iload d_Lo_look_26 rfl ?_
              refine mm_ciN 1 d_Lo_look_27 rfl ?_
              refine mm_icmp_neN d_Lo_look_28 (by first | omega | exact ite01_lt | exact bt8_lt31 _ _ | exact godB_lt31 _ _ _ | exact pop_lt31 _ | assumption | exact b31 (hW.gp (by omega)) | exact b31 (hW.ne (by omega)) | exact b31 (hW.op (by omega)) | exact and31 (hW.gp (by omega)) | exact and31 (hW.ne (by omega)) | exact and31 (hW.op (by omega)) | exact and31 (by assumption) | exact and31r (hW.ne (by omega)) | exact and31r (hW.gp (by omega)) | exact and31r (by decide)) (by first | omega | exact ite01_lt | exact bt8_lt31 _ _ | exact godB_lt31 _ _ _ | exact pop_lt31 _ | assumption | exact b31 (hW.gp (by omega)) | exact b31 (hW.ne (by omega)) | exact b31 (hW.op (by omega)) | exact and31 (hW.gp (by omega)) | exact and31 (hW.ne (by omega)) | exact and31 (hW.op (by omega)) | exact and31 (by assumption) | exact and31r (hW.ne (by omega)) | exact and31r (hW.gp (by omega)) | exact and31r (by decide)) (fun c_28 => False.elim (by omega)) (fun c_28 => ?_)
              refine mm_aload d_Lo_look_31 rfl ?_
              refine mm_getP d_Lo_look_32 rfl (by assumption) (by assumption) ?_
              refine mm_iload d_Lo_look_35 rfl ?_
              refine mm_ialdN d_Lo_look_36 (by assumption) (by omega) (by decide) (hY1 j hj).2 ?_
              refine mm_goto d_Lo_look_37 ?_
              exact mm_ri d_Lo_look_42 h
          refine mm_aload d_G_fact_0 rfl ?_
          refine mm_getP d_G_fact_1 rfl (sk_o_0 hM) (sk_p_0_0 hM) ?_
          refine mm_iload d_G_fact_4 rfl ?_
          refine mm_v1r d_G_fact_5 (sk_o_1 hM) (sp_To_logAtI hM h0 h02 hi ?_)
          refine mm_ast4 d_G_fact_8 ?_
          refine mm_aload d_G_fact_10 rfl ?_
          refine mm_ifnonnull d_G_fact_12 ?_
          refine mm_iload d_G_fact_18 rfl ?_
          refine mm_ci d_G_fact_19 ?_
          refine mm_icmp_neM1 d_G_fact_20 (by first | omega | exact ite01_lt | exact bt8_lt31 _ _ | exact godB_lt31 _ _ _ | exact pop_lt31 _ | assumption | exact b31 (hW.gp (by omega)) | exact b31 (hW.ne (by omega)) | exact b31 (hW.op (by omega)) | exact and31 (hW.gp (by omega)) | exact and31 (hW.ne (by omega)) | exact and31 (hW.op (by omega)) | exact and31 (by assumption) | exact and31r (hW.ne (by omega)) | exact and31r (hW.gp (by omega)) | exact and31r (by decide)) ?_
          refine mm_aload d_G_fact_38 rfl ?_
          refine mm_iload d_G_fact_40 rfl ?_
          refine mm_iload d_G_fact_41 rfl ?_
          refine mm_v2i d_G_fact_42 hYo (lk _ ?_)
          exact mm_ri d_G_fact_45 ⟨rfl, Fr.rf, hw⟩
        · show mm_T X 12 0 0 k_M_fact 0 [some (.ref 71), some (.int (nI i)), some (.int (nI j)), some (.int (nI e))] [] μ1 _
          replace hM := hf.2.2.2 hM
          rcases h3 with rfl | rfl
          · refine mm_aload d_M_fact_0 rfl ?_
            refine mm_ciN 0 d_M_fact_1 rfl ?_
            refine mm_putI d_M_fact_2 rfl (sk_o_71 hM) (Or.inl rfl) ?_
            refine mm_aload d_M_fact_5 rfl ?_
            refine mm_iload d_M_fact_6 rfl ?_
            refine mm_v1i d_M_fact_7 (sk_o_71 hM) (sp_M_hasLogT hM (by rw [mm_sI_off (by decide), (hf.2.2.1 76 rfl).1]; exact m0) h02 hi ((hLM.frC hf rfl).sI) hW (fun hL => ?_))
            refine mm_if_neN d_M_fact_10 (by first | omega | exact ite01_lt | exact bt8_lt31 _ _ | exact godB_lt31 _ _ _ | exact pop_lt31 _ | assumption | exact b31 (hW.gp (by omega)) | exact b31 (hW.ne (by omega)) | exact b31 (hW.op (by omega)) | exact and31 (hW.gp (by omega)) | exact and31 (hW.ne (by omega)) | exact and31 (hW.op (by omega)) | exact and31 (by assumption) | exact and31r (hW.ne (by omega)) | exact and31r (hW.gp (by omega)) | exact and31r (by decide)) (fun c_10 => ?_) (fun c_10 => False.elim (by omega))
            refine mm_iload d_M_fact_16 rfl ?_
            refine mm_ci d_M_fact_17 ?_
            refine mm_icmp_neM1 d_M_fact_18 (by first | omega | exact ite01_lt | exact bt8_lt31 _ _ | exact godB_lt31 _ _ _ | exact pop_lt31 _ | assumption | exact b31 (hW.gp (by omega)) | exact b31 (hW.ne (by omega)) | exact b31 (hW.op (by omega)) | exact and31 (hW.gp (by omega)) | exact and31 (hW.ne (by omega)) | exact and31 (hW.op (by omega)) | exact and31 (by assumption) | exact and31r (hW.ne (by omega)) | exact and31r (hW.gp (by omega)) | exact and31r (by decide)) ?_
            refine mm_iload d_M_fact_35 rfl ?_
            refine mm_ciN 0 d_M_fact_36 rfl ?_
            refine mm_aload d_M_fact_37 rfl ?_
            refine mm_v0i d_M_fact_38 (sk_o_71 hM) (sp_M_facts hL ?_)
            refine mm_ciN 1 d_M_fact_41 rfl ?_
            refine mm_isubN d_M_fact_42 (by omega) ?_
            refine mm_s3i d_M_fact_43 (sp_M_inT (by omega) (by omega) (by omega) ?_)
            refine mm_if_eqN d_M_fact_46 (by first | omega | exact ite01_lt | exact bt8_lt31 _ _ | exact godB_lt31 _ _ _ | exact pop_lt31 _ | assumption | exact b31 (hW.gp (by omega)) | exact b31 (hW.ne (by omega)) | exact b31 (hW.op (by omega)) | exact and31 (hW.gp (by omega)) | exact and31 (hW.ne (by omega)) | exact and31 (hW.op (by omega)) | exact and31 (by assumption) | exact and31r (hW.ne (by omega)) | exact and31r (hW.gp (by omega)) | exact and31r (by decide)) (fun c_46 => False.elim (by omega)) (fun c_46 => ?_)
            refine mm_iload d_M_fact_49 rfl ?_
            refine mm_ciN 0 d_M_fact_50 rfl ?_
            refine mm_ciN 1 d_M_fact_51 rfl ?_
            refine mm_s3i d_M_fact_52 (sp_M_inT (by omega) (by omega) (by omega) ?_)
            refine mm_if_eqN d_M_fact_55 (by first | omega | exact ite01_lt | exact bt8_lt31 _ _ | exact godB_lt31 _ _ _ | exact pop_lt31 _ | assumption | exact b31 (hW.gp (by omega)) | exact b31 (hW.ne (by omega)) | exact b31 (hW.op (by omega)) | exact and31 (hW.gp (by omega)) | exact and31 (hW.ne (by omega)) | exact and31 (hW.op (by omega)) | exact and31 (by assumption) | exact and31r (hW.ne (by omega)) | exact and31r (hW.gp (by omega)) | exact and31r (by decide)) (fun c_55 => False.elim (by omega)) (fun c_55 => ?_)
            refine mm_aload d_M_fact_58 rfl ?_
            refine mm_iload d_M_fact_59 rfl ?_
            refine mm_iload d_M_fact_60 rfl ?_
            refine mm_v2i d_M_fact_61 (sk_o_71 hM) (sp_M_factOf0 hL hj ?_)
            refine mm_goto d_M_fact_64 ?_
            exact mm_ri d_M_fact_69 ⟨rfl, (Fr.rf.sI rfl).sI rfl⟩
          · refine mm_aload d_M_fact_0 rfl ?_
            refine mm_ciN 0 d_M_fact_1 rfl ?_
            refine mm_putI d_M_fact_2 rfl (sk_o_71 hM) (Or.inl rfl) ?_
            refine mm_aload d_M_fact_5 rfl ?_
            refine mm_iload d_M_fact_6 rfl ?_
            refine mm_v1i d_M_fact_7 (sk_o_71 hM) (sp_M_hasLogT hM (by rw [mm_sI_off (by decide), (hf.2.2.1 76 rfl).1]; exact m0) h02 hi ((hLM.frC hf rfl).sI) hW (fun hL => ?_))
            refine mm_if_neN d_M_fact_10 (by first | omega | exact ite01_lt | exact bt8_lt31 _ _ | exact godB_lt31 _ _ _ | exact pop_lt31 _ | assumption | exact b31 (hW.gp (by omega)) | exact b31 (hW.ne (by omega)) | exact b31 (hW.op (by omega)) | exact and31 (hW.gp (by omega)) | exact and31 (hW.ne (by omega)) | exact and31 (hW.op (by omega)) | exact and31 (by assumption) | exact and31r (hW.ne (by omega)) | exact and31r (hW.gp (by omega)) | exact and31r (by decide)) (fun c_10 => ?_) (fun c_10 => False.elim (by omega))
            refine mm_iload d_M_fact_16 rfl ?_
            refine mm_ci d_M_fact_17 ?_
            refine mm_icmp_neM1 d_M_fact_18 (by first | omega | exact ite01_lt | exact bt8_lt31 _ _ | exact godB_lt31 _ _ _ | exact pop_lt31 _ | assumption | exact b31 (hW.gp (by omega)) | exact b31 (hW.ne (by omega)) | exact b31 (hW.op (by omega)) | exact and31 (hW.gp (by omega)) | exact and31 (hW.ne (by omega)) | exact and31 (hW.op (by omega)) | exact and31 (by assumption) | exact and31r (hW.ne (by omega)) | exact and31r (hW.gp (by omega)) | exact and31r (by decide)) ?_
            refine mm_iload d_M_fact_35 rfl ?_
            refine mm_ciN 0 d_M_fact_36 rfl ?_
            refine mm_aload d_M_fact_37 rfl ?_
            refine mm_v0i d_M_fact_38 (sk_o_71 hM) (sp_M_facts hL ?_)
            refine mm_ciN 1 d_M_fact_41 rfl ?_
            refine mm_isubN d_M_fact_42 (by omega) ?_
            refine mm_s3i d_M_fact_43 (sp_M_inT (by omega) (by omega) (by omega) ?_)
            refine mm_if_eqN d_M_fact_46 (by first | omega | exact ite01_lt | exact bt8_lt31 _ _ | exact godB_lt31 _ _ _ | exact pop_lt31 _ | assumption | exact b31 (hW.gp (by omega)) | exact b31 (hW.ne (by omega)) | exact b31 (hW.op (by omega)) | exact and31 (hW.gp (by omega)) | exact and31 (hW.ne (by omega)) | exact and31 (hW.op (by omega)) | exact and31 (by assumption) | exact and31r (hW.ne (by omega)) | exact and31r (hW.gp (by omega)) | exact and31r (by decide)) (fun c_46 => False.elim (by omega)) (fun c_46 => ?_)
            refine mm_iload d_M_fact_49 rfl ?_
            refine mm_ciN 0 d_M_fact_50 rfl ?_
            refine mm_ciN 1 d_M_fact_51 rfl ?_
            refine mm_s3i d_M_fact_52 (sp_M_inT (by omega) (by omega) (by omega) ?_)
            refine mm_if_eqN d_M_fact_55 (by first | omega | exact ite01_lt | exact bt8_lt31 _ _ | exact godB_lt31 _ _ _ | exact pop_lt31 _ | assumption | exact b31 (hW.gp (by omega)) | exact b31 (hW.ne (by omega)) | exact b31 (hW.op (by omega)) | exact and31 (hW.gp (by omega)) | exact and31 (hW.ne (by omega)) | exact and31 (hW.op (by omega)) | exact and31 (by assumption) | exact and31r (hW.ne (by omega)) | exact and31r (hW.gp (by omega)) | exact and31r (by decide)) (fun c_55 => False.elim (by omega)) (fun c_55 => ?_)
            refine mm_aload d_M_fact_58 rfl ?_
            refine mm_iload d_M_fact_59 rfl ?_
            refine mm_iload d_M_fact_60 rfl ?_
            refine mm_v2i d_M_fact_61 (sk_o_71 hM) (sp_M_factOf1 hL hj ?_)
            refine mm_goto d_M_fact_64 ?_
            exact mm_ri d_M_fact_69 ⟨rfl, (Fr.rf.sI rfl).sI rfl⟩
