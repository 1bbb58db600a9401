/-! pairs: till, state -/
theorem Fr.DC {μ μ' : mm_M} (h : Fr scD μ μ') : Fr scC μ μ' := h.sub scD_C
theorem Wk.frD {k : Nat} {μ μ' : mm_M} (h : Wk k μ) (hf : Fr scD μ μ') : Wk k μ' := h.fr hf rfl rfl
theorem pair_till {X : mm_X} {k : Nat} {μ : mm_M} (hJ : JJ k μ) (y1 y2 : Int32) : PairI X (JJ (k + 1)) k_G_till k_M_till [.int y1, .int y2] μ := by
  obtain ⟨c, h02, h0, m0, hv⟩ := hJ.coast y1
  obtain ⟨c', h02', h0', m0', hv'⟩ := hJ.year y2
  have hM := hJ.1
  have hw := hJ.2.2.2.up
  rcases hv' with hz | ⟨l, Y, hl, rfl, hWY, hYD, hYM⟩
  · refine pairQ (-1) hJ (d := 12) (d' := 4) (by decide) (by decide) ?_ (fun μ1 hf => n_M_till (hf.2.2.2 hM) (by rw [(hf.2.2.1 76 rfl).1]; exact m0') h02' hz (fun μ' hk => ⟨rfl, hk.fr (hf.2.2.2 hM)⟩))
    rcases hv with hx | ⟨i, D, hi, rfl, hW, hCD, hDM⟩
    · show mm_T X 12 0 0 k_G_till 0 [some (.ref 0), some (.int y1), some (.int y2), none, none] [] μ _
      refine mm_aload d_G_till_0 rfl ?_
      refine mm_getP d_G_till_1 rfl (sk_o_0 hM) (sk_p_0_0 hM) ?_
      refine mm_iload d_G_till_4 rfl ?_
      refine mm_v1r d_G_till_5 (sk_o_1 hM) (sp_To_coastAt0 hM h0 h02 hx ?_)
      refine mm_astN3 d_G_till_8 ?_
      refine mm_aload d_G_till_9 rfl ?_
      refine mm_getP d_G_till_10 rfl (sk_o_0 hM) (sk_p_0_0 hM) ?_
      refine mm_iload d_G_till_13 rfl ?_
      refine mm_v1r d_G_till_14 (sk_o_1 hM) (sp_To_yearAt0 hM h0' h02' hz ?_)
      refine mm_astN4 d_G_till_17 ?_
      refine mm_aloadN d_G_till_19 rfl ?_
      refine mm_ifnullN d_G_till_20 ?_
      refine mm_ci d_G_till_28 ?_
      exact mm_ri d_G_till_29 ⟨rfl, Fr.rf, hw⟩
    · show mm_T X 12 0 0 k_G_till 0 [some (.ref 0), some (.int (nI i)), some (.int y2), none, none] [] μ _
      refine mm_aload d_G_till_0 rfl ?_
      refine mm_getP d_G_till_1 rfl (sk_o_0 hM) (sk_p_0_0 hM) ?_
      refine mm_iload d_G_till_4 rfl ?_
      refine mm_v1r d_G_till_5 (sk_o_1 hM) (sp_To_coastAtI hM h0 h02 hi ?_)
      refine mm_ast3 d_G_till_8 ?_
      refine mm_aload d_G_till_9 rfl ?_
      refine mm_getP d_G_till_10 rfl (sk_o_0 hM) (sk_p_0_0 hM) ?_
      refine mm_iload d_G_till_13 rfl ?_
      refine mm_v1r d_G_till_14 (sk_o_1 hM) (sp_To_yearAt0 hM h0' h02' hz ?_)
      refine mm_astN4 d_G_till_17 ?_
      refine mm_aload d_G_till_19 rfl ?_
      refine mm_ifnull d_G_till_20 ?_
      refine mm_aloadN d_G_till_23 rfl ?_
      refine mm_ifnonnullN d_G_till_25 ?_
      refine mm_ci d_G_till_28 ?_
      exact mm_ri d_G_till_29 ⟨rfl, Fr.rf, hw⟩
  · rcases hv with hx | ⟨i, D, hi, rfl, hW, hCD, hDM⟩
    · refine pairQ (-1) hJ (d := 12) (d' := 12) (by decide) (by decide) ?_ (fun μ1 hf => ?_)
      · show mm_T X 12 0 0 k_G_till 0 [some (.ref 0), some (.int y1), some (.int (nI l)), none, none] [] μ _
        refine mm_aload d_G_till_0 rfl ?_
        refine mm_getP d_G_till_1 rfl (sk_o_0 hM) (sk_p_0_0 hM) ?_
        refine mm_iload d_G_till_4 rfl ?_
        refine mm_v1r d_G_till_5 (sk_o_1 hM) (sp_To_coastAt0 hM h0 h02 hx ?_)
        refine mm_astN3 d_G_till_8 ?_
        refine mm_aload d_G_till_9 rfl ?_
        refine mm_getP d_G_till_10 rfl (sk_o_0 hM) (sk_p_0_0 hM) ?_
        refine mm_iload d_G_till_13 rfl ?_
        refine mm_v1r d_G_till_14 (sk_o_1 hM) (sp_To_yearAtI hM h0' h02' hl ?_)
        refine mm_ast4 d_G_till_17 ?_
        refine mm_aloadN d_G_till_19 rfl ?_
        refine mm_ifnullN d_G_till_20 ?_
        refine mm_ci d_G_till_28 ?_
        exact mm_ri d_G_till_29 ⟨rfl, Fr.rf, hw⟩
      · show mm_T X 12 0 0 k_M_till 0 [some (.ref 71), some (.int y1), some (.int (nI l))] [] μ1 _
        replace hM := hf.2.2.2 hM
        refine mm_aload d_M_till_0 rfl ?_
        refine mm_ciN 0 d_M_till_1 rfl ?_
        refine mm_putI d_M_till_2 rfl (sk_o_71 hM) (Or.inl rfl) ?_
        refine mm_aload d_M_till_5 rfl ?_
        refine mm_iload d_M_till_6 rfl ?_
        refine mm_iload d_M_till_7 rfl ?_
        refine mm_v2i d_M_till_8 (sk_o_71 hM) (sp_M_layAll0 hM (by rw [mm_sI_off (by decide), (hf.2.2.1 76 rfl).1]; exact m0') h02' hl ((hYM.frC hf rfl).sI) hWY (by rw [mm_sI_off (by decide), (hf.2.2.1 76 rfl).1]; exact m0) h02 hx (fun μ2 g1 => ?_))
        refine mm_if_eqN d_M_till_11 (by first | omega | exact ite01_lt | exact bt8_lt31 _ _ | exact godB_lt31 _ _ _ | exact pop_lt31 _ | assumption | exact b31 (hW.gp (by omega)) | exact b31 (hW.ne (by omega)) | exact b31 (hW.op (by omega)) | exact and31 (hW.gp (by omega)) | exact and31 (hW.ne (by omega)) | exact and31 (hW.op (by omega)) | exact and31 (by assumption) | exact and31r (hW.ne (by omega)) | exact and31r (hW.gp (by omega)) | exact and31r (by decide)) (fun c_11 => ?_) (fun c_11 => False.elim (by omega))
        refine mm_ci d_M_till_25 ?_
        exact mm_ri d_M_till_26 ⟨rfl, (Fr.rf.sI rfl).trans g1⟩
    · have hn6 := hW.1
      refine pairQ (nI (lvF D Y Y.1)) hJ (d := 12) (d' := 12) (by decide) (by decide) ?_ (fun μ1 hf => ?_)
      · show mm_T X 12 0 0 k_G_till 0 [some (.ref 0), some (.int (nI i)), some (.int (nI l)), none, none] [] μ _
        refine mm_aload d_G_till_0 rfl ?_
        refine mm_getP d_G_till_1 rfl (sk_o_0 hM) (sk_p_0_0 hM) ?_
        refine mm_iload d_G_till_4 rfl ?_
        refine mm_v1r d_G_till_5 (sk_o_1 hM) (sp_To_coastAtI hM h0 h02 hi ?_)
        refine mm_ast3 d_G_till_8 ?_
        refine mm_aload d_G_till_9 rfl ?_
        refine mm_getP d_G_till_10 rfl (sk_o_0 hM) (sk_p_0_0 hM) ?_
        refine mm_iload d_G_till_13 rfl ?_
        refine mm_v1r d_G_till_14 (sk_o_1 hM) (sp_To_yearAtI hM h0' h02' hl ?_)
        refine mm_ast4 d_G_till_17 ?_
        refine mm_aload d_G_till_19 rfl ?_
        refine mm_ifnull d_G_till_20 ?_
        refine mm_aload d_G_till_23 rfl ?_
        refine mm_ifnonnull d_G_till_25 ?_
        refine mm_aload d_G_till_30 rfl ?_
        refine mm_getP d_G_till_31 rfl (sk_o_0 hM) (sk_p_0_3 hM) ?_
        refine mm_aload d_G_till_34 rfl ?_
        refine mm_aload d_G_till_35 rfl ?_
        refine mm_aload d_G_till_37 rfl ?_
        refine mm_getIN d_G_till_39 rfl hYD.1.1 hYD.2.1 ?_
        refine mm_v3i d_G_till_42 (sk_o_53 hM) (sp_Da_live hM (by omega) (by omega) hCD hW hYD hWY (Nat.le_refl _) (fun μ2 σ hr hS g1 => ?_))
        exact mm_ri d_G_till_45 ⟨rfl, g1.DC, hw.frD g1⟩
      · show mm_T X 12 0 0 k_M_till 0 [some (.ref 71), some (.int (nI i)), some (.int (nI l))] [] μ1 _
        replace hM := hf.2.2.2 hM
        replace m0 : mm_I μ1 76 0 = nI c := by rw [(hf.2.2.1 76 rfl).1]; exact m0
        replace hDM := hDM.frC hf
        refine mm_aload d_M_till_0 rfl ?_
        refine mm_ciN 0 d_M_till_1 rfl ?_
        refine mm_putI d_M_till_2 rfl (sk_o_71 hM) (Or.inl rfl) ?_
        refine mm_aload d_M_till_5 rfl ?_
        refine mm_iload d_M_till_6 rfl ?_
        refine mm_iload d_M_till_7 rfl ?_
        refine mm_v2i d_M_till_8 (sk_o_71 hM) (sp_M_layAllT hM (by rw [mm_sI_off (by decide), (hf.2.2.1 76 rfl).1]; exact m0') h02' hl ((hYM.frC hf rfl).sI) hWY (by rw [mm_sI_off (by decide)]; exact m0) h02 hi (hDM.eq (mm_sI_off (by decide))) hW (fun μ2 g1 hS hY => ?_))
        replace hM := hS.1.1
        refine mm_if_eqN d_M_till_11 (by first | omega | exact ite01_lt | exact bt8_lt31 _ _ | exact godB_lt31 _ _ _ | exact pop_lt31 _ | assumption | exact b31 (hW.gp (by omega)) | exact b31 (hW.ne (by omega)) | exact b31 (hW.op (by omega)) | exact and31 (hW.gp (by omega)) | exact and31 (hW.ne (by omega)) | exact and31 (hW.op (by omega)) | exact and31 (by assumption) | exact and31r (hW.ne (by omega)) | exact and31r (hW.gp (by omega)) | exact and31r (by decide)) (fun c_11 => False.elim (by omega)) (fun c_11 => ?_)
        refine mm_aload d_M_till_14 rfl ?_
        refine mm_aload d_M_till_15 rfl ?_
        refine mm_v0i d_M_till_16 (sk_o_71 hM) (sp_M_deeds hY ?_)
        refine mm_v1i d_M_till_19 (sk_o_71 hM) (sp_M_play hS hY (Nat.le_refl _) (fun μ3 σ hr hS' g3 => ?_))
        refine mm_goto d_M_till_22 ?_
        exact mm_ri d_M_till_26 ⟨rfl, ((Fr.rf.sI rfl).trans g1).trans g3.1⟩
theorem pair_state {X : mm_X} {k : Nat} {μ : mm_M} (hJ : JJ k μ) (y1 y2 y3 y4 : Int32) : PairI X (JJ (k + 1)) k_G_state k_M_state [.int y1, .int y2, .int y3, .int y4] μ := by
  obtain ⟨c, h02, h0, m0, hv⟩ := hJ.coast y1
  obtain ⟨c', h02', h0', m0', hv'⟩ := hJ.year y2
  have hM := hJ.1
  have hw := hJ.2.2.2.up
  rcases hv' with hz | ⟨l, Y, hl, rfl, hWY, hYD, hYM⟩
  · refine pairQ (-1) hJ (d := 12) (d' := 4) (by decide) (by decide) ?_ (fun μ1 hf => n_M_state (hf.2.2.2 hM) (by rw [(hf.2.2.1 76 rfl).1]; exact m0') h02' hz (fun μ' hk => ⟨rfl, hk.fr (hf.2.2.2 hM)⟩))
    rcases hv with hx | ⟨i, D, hi, rfl, hW, hCD, hDM⟩
    · show mm_T X 12 0 0 k_G_state 0 [some (.ref 0), some (.int y1), some (.int y2), some (.int y3), some (.int y4), none, none] [] μ _
      refine mm_aload d_G_state_0 rfl ?_
      refine mm_getP d_G_state_1 rfl (sk_o_0 hM) (sk_p_0_0 hM) ?_
      refine mm_iload d_G_state_4 rfl ?_
      refine mm_v1r d_G_state_5 (sk_o_1 hM) (sp_To_coastAt0 hM h0 h02 hx ?_)
      refine mm_astN5 d_G_state_8 ?_
      refine mm_aload d_G_state_10 rfl ?_
      refine mm_getP d_G_state_11 rfl (sk_o_0 hM) (sk_p_0_0 hM) ?_
      refine mm_iload d_G_state_14 rfl ?_
      refine mm_v1r d_G_state_15 (sk_o_1 hM) (sp_To_yearAt0 hM h0' h02' hz ?_)
      refine mm_astN6 d_G_state_18 ?_
      refine mm_aloadN d_G_state_20 rfl ?_
      refine mm_ifnullN d_G_state_22 ?_
      refine mm_ci d_G_state_43 ?_
      exact mm_ri d_G_state_44 ⟨rfl, Fr.rf, hw⟩
    · show mm_T X 12 0 0 k_G_state 0 [some (.ref 0), some (.int (nI i)), some (.int y2), some (.int y3), some (.int y4), none, none] [] μ _
      refine mm_aload d_G_state_0 rfl ?_
      refine mm_getP d_G_state_1 rfl (sk_o_0 hM) (sk_p_0_0 hM) ?_
      refine mm_iload d_G_state_4 rfl ?_
      refine mm_v1r d_G_state_5 (sk_o_1 hM) (sp_To_coastAtI hM h0 h02 hi ?_)
      refine mm_ast5 d_G_state_8 ?_
      refine mm_aload d_G_state_10 rfl ?_
      refine mm_getP d_G_state_11 rfl (sk_o_0 hM) (sk_p_0_0 hM) ?_
      refine mm_iload d_G_state_14 rfl ?_
      refine mm_v1r d_G_state_15 (sk_o_1 hM) (sp_To_yearAt0 hM h0' h02' hz ?_)
      refine mm_astN6 d_G_state_18 ?_
      refine mm_aload d_G_state_20 rfl ?_
      refine mm_ifnull d_G_state_22 ?_
      refine mm_aloadN d_G_state_25 rfl ?_
      refine mm_ifnullN d_G_state_27 ?_
      refine mm_ci d_G_state_43 ?_
      exact mm_ri d_G_state_44 ⟨rfl, Fr.rf, hw⟩
  · rcases hv with hx | ⟨i, D, hi, rfl, hW, hCD, hDM⟩
    · refine pairQ (-1) hJ (d := 12) (d' := 12) (by decide) (by decide) ?_ (fun μ1 hf => ?_)
      · show mm_T X 12 0 0 k_G_state 0 [some (.ref 0), some (.int y1), some (.int (nI l)), some (.int y3), some (.int y4), none, none] [] μ _
        refine mm_aload d_G_state_0 rfl ?_
        refine mm_getP d_G_state_1 rfl (sk_o_0 hM) (sk_p_0_0 hM) ?_
        refine mm_iload d_G_state_4 rfl ?_
        refine mm_v1r d_G_state_5 (sk_o_1 hM) (sp_To_coastAt0 hM h0 h02 hx ?_)
        refine mm_astN5 d_G_state_8 ?_
        refine mm_aload d_G_state_10 rfl ?_
        refine mm_getP d_G_state_11 rfl (sk_o_0 hM) (sk_p_0_0 hM) ?_
        refine mm_iload d_G_state_14 rfl ?_
        refine mm_v1r d_G_state_15 (sk_o_1 hM) (sp_To_yearAtI hM h0' h02' hl ?_)
        refine mm_ast6 d_G_state_18 ?_
        refine mm_aloadN d_G_state_20 rfl ?_
        refine mm_ifnullN d_G_state_22 ?_
        refine mm_ci d_G_state_43 ?_
        exact mm_ri d_G_state_44 ⟨rfl, Fr.rf, hw⟩
      · show mm_T X 12 0 0 k_M_state 0 [some (.ref 71), some (.int y1), some (.int (nI l)), some (.int y3), some (.int y4)] [] μ1 _
        replace hM := hf.2.2.2 hM
        refine mm_aload d_M_state_0 rfl ?_
        refine mm_ciN 0 d_M_state_1 rfl ?_
        refine mm_putI d_M_state_2 rfl (sk_o_71 hM) (Or.inl rfl) ?_
        refine mm_aload d_M_state_5 rfl ?_
        refine mm_iload d_M_state_6 rfl ?_
        refine mm_iload d_M_state_7 rfl ?_
        refine mm_v2i d_M_state_8 (sk_o_71 hM) (sp_M_layAll0 hM (by rw [mm_sI_off (by decide), (hf.2.2.1 76 rfl).1]; exact m0') h02' hl ((hYM.frC hf rfl).sI) hWY (by rw [mm_sI_off (by decide), (hf.2.2.1 76 rfl).1]; exact m0) h02 hx (fun μ2 g1 => ?_))
        refine mm_if_eqN d_M_state_11 (by first | omega | exact ite01_lt | exact bt8_lt31 _ _ | exact godB_lt31 _ _ _ | exact pop_lt31 _ | assumption | exact b31 (hW.gp (by omega)) | exact b31 (hW.ne (by omega)) | exact b31 (hW.op (by omega)) | exact and31 (hW.gp (by omega)) | exact and31 (hW.ne (by omega)) | exact and31 (hW.op (by omega)) | exact and31 (by assumption) | exact and31r (hW.ne (by omega)) | exact and31r (hW.gp (by omega)) | exact and31r (by decide)) (fun c_11 => ?_) (fun c_11 => False.elim (by omega))
        refine mm_ci d_M_state_44 ?_
        exact mm_ri d_M_state_45 ⟨rfl, (Fr.rf.sI rfl).trans g1⟩
    · have hn6 := hW.1
      have h40 := hWY.1
      rcases rng_or y3 (a := 0) (b := Y.1) (by decide) (by omega) with ⟨hz, hz2⟩ | ⟨n, -, hn, rfl⟩
      · refine pairQ (-1) hJ (d := 12) (d' := 12) (by decide) (by decide) ?_ (fun μ1 hf => ?_)
        · show mm_T X 12 0 0 k_G_state 0 [some (.ref 0), some (.int (nI i)), some (.int (nI l)), some (.int y3), some (.int y4), none, none] [] μ _
          refine mm_aload d_G_state_0 rfl ?_
          refine mm_getP d_G_state_1 rfl (sk_o_0 hM) (sk_p_0_0 hM) ?_
          refine mm_iload d_G_state_4 rfl ?_
          refine mm_v1r d_G_state_5 (sk_o_1 hM) (sp_To_coastAtI hM h0 h02 hi ?_)
          refine mm_ast5 d_G_state_8 ?_
          refine mm_aload d_G_state_10 rfl ?_
          refine mm_getP d_G_state_11 rfl (sk_o_0 hM) (sk_p_0_0 hM) ?_
          refine mm_iload d_G_state_14 rfl ?_
          refine mm_v1r d_G_state_15 (sk_o_1 hM) (sp_To_yearAtI hM h0' h02' hl ?_)
          refine mm_ast6 d_G_state_18 ?_
          refine mm_aload d_G_state_20 rfl ?_
          refine mm_ifnull d_G_state_22 ?_
          refine mm_aload d_G_state_25 rfl ?_
          refine mm_ifnull d_G_state_27 ?_
          refine mm_iload d_G_state_30 rfl ?_
          refine mm_if_lt d_G_state_31 (fun c_31 => ?_) (fun c_31 => ?_)
          · refine mm_ci d_G_state_43 ?_
            exact mm_ri d_G_state_44 ⟨rfl, Fr.rf, hw⟩
          · refine mm_iload d_G_state_34 rfl ?_
            refine mm_aload d_G_state_35 rfl ?_
            refine mm_getIN d_G_state_37 rfl hYD.1.1 hYD.2.1 ?_
            refine mm_icmp_le d_G_state_40 (fun c_40 => False.elim (rng_dead hz2 c_31 c_40)) (fun c_40 => ?_)
            refine mm_ci d_G_state_43 ?_
            exact mm_ri d_G_state_44 ⟨rfl, Fr.rf, hw⟩
        · show mm_T X 12 0 0 k_M_state 0 [some (.ref 71), some (.int (nI i)), some (.int (nI l)), some (.int y3), some (.int y4)] [] μ1 _
          replace hM := hf.2.2.2 hM
          replace m0 : mm_I μ1 76 0 = nI c := by rw [(hf.2.2.1 76 rfl).1]; exact m0
          replace hDM := hDM.frC hf
          refine mm_aload d_M_state_0 rfl ?_
          refine mm_ciN 0 d_M_state_1 rfl ?_
          refine mm_putI d_M_state_2 rfl (sk_o_71 hM) (Or.inl rfl) ?_
          refine mm_aload d_M_state_5 rfl ?_
          refine mm_iload d_M_state_6 rfl ?_
          refine mm_iload d_M_state_7 rfl ?_
          refine mm_v2i d_M_state_8 (sk_o_71 hM) (sp_M_layAllT hM (by rw [mm_sI_off (by decide), (hf.2.2.1 76 rfl).1]; exact m0') h02' hl ((hYM.frC hf rfl).sI) hWY (by rw [mm_sI_off (by decide)]; exact m0) h02 hi (hDM.eq (mm_sI_off (by decide))) hW (fun μ2 g1 hS hY => ?_))
          replace hM := hS.1.1
          refine mm_if_eqN d_M_state_11 (by first | omega | exact ite01_lt | exact bt8_lt31 _ _ | exact godB_lt31 _ _ _ | exact pop_lt31 _ | assumption | exact b31 (hW.gp (by omega)) | exact b31 (hW.ne (by omega)) | exact b31 (hW.op (by omega)) | exact and31 (hW.gp (by omega)) | exact and31 (hW.ne (by omega)) | exact and31 (hW.op (by omega)) | exact and31 (by assumption) | exact and31r (hW.ne (by omega)) | exact and31r (hW.gp (by omega)) | exact and31r (by decide)) (fun c_11 => False.elim (by omega)) (fun c_11 => ?_)
          refine mm_iload d_M_state_14 rfl ?_
          refine mm_ciN 0 d_M_state_15 rfl ?_
          refine mm_aload d_M_state_16 rfl ?_
          refine mm_v0i d_M_state_17 (sk_o_71 hM) (sp_M_deeds hY ?_)
          refine mm_s3i d_M_state_20 (sp_M_inB hz ?_)
          refine mm_if_eqN d_M_state_23 (by first | omega | exact ite01_lt | exact bt8_lt31 _ _ | exact godB_lt31 _ _ _ | exact pop_lt31 _ | assumption | exact b31 (hW.gp (by omega)) | exact b31 (hW.ne (by omega)) | exact b31 (hW.op (by omega)) | exact and31 (hW.gp (by omega)) | exact and31 (hW.ne (by omega)) | exact and31 (hW.op (by omega)) | exact and31 (by assumption) | exact and31r (hW.ne (by omega)) | exact and31r (hW.gp (by omega)) | exact and31r (by decide)) (fun c_23 => ?_) (fun c_23 => False.elim (by omega))
          refine mm_ci d_M_state_44 ?_
          exact mm_ri d_M_state_45 ⟨rfl, (Fr.rf.sI rfl).trans g1⟩
      · have hlv := lvF_le D Y n
        by_cases hln : lvF D Y n = n
        · obtain ⟨σ, hr⟩ : ∃ σ, rn D Y n = some σ := by
            cases e : rn D Y n with
            | some σ => exact ⟨σ, rfl⟩
            | none =>
              cases n with
              | zero => cases e
              | succ n =>
                exfalso
                have h1 : lvF D Y (n + 1) = lvF D Y n := by show (if _ then _ else _) = _; rw [e]; rfl
                have h2 := lvF_le D Y n
                omega
          have hwf := rn_wf hW hWY hn hr
          refine pairQ (stR D σ y4) hJ (d := 12) (d' := 12) (by decide) (by decide) ?_ (fun μ1 hf => ?_)
          · show mm_T X 12 0 0 k_G_state 0 [some (.ref 0), some (.int (nI i)), some (.int (nI l)), some (.int (nI n)), some (.int y4), none, none] [] μ _
            refine mm_aload d_G_state_0 rfl ?_
            refine mm_getP d_G_state_1 rfl (sk_o_0 hM) (sk_p_0_0 hM) ?_
            refine mm_iload d_G_state_4 rfl ?_
            refine mm_v1r d_G_state_5 (sk_o_1 hM) (sp_To_coastAtI hM h0 h02 hi ?_)
            refine mm_ast5 d_G_state_8 ?_
            refine mm_aload d_G_state_10 rfl ?_
            refine mm_getP d_G_state_11 rfl (sk_o_0 hM) (sk_p_0_0 hM) ?_
            refine mm_iload d_G_state_14 rfl ?_
            refine mm_v1r d_G_state_15 (sk_o_1 hM) (sp_To_yearAtI hM h0' h02' hl ?_)
            refine mm_ast6 d_G_state_18 ?_
            refine mm_aload d_G_state_20 rfl ?_
            refine mm_ifnull d_G_state_22 ?_
            refine mm_aload d_G_state_25 rfl ?_
            refine mm_ifnull d_G_state_27 ?_
            refine mm_iload d_G_state_30 rfl ?_
            refine mm_if_ltN d_G_state_31 (by first | omega | exact ite01_lt | exact bt8_lt31 _ _ | exact godB_lt31 _ _ _ | exact pop_lt31 _ | assumption | exact b31 (hW.gp (by omega)) | exact b31 (hW.ne (by omega)) | exact b31 (hW.op (by omega)) | exact and31 (hW.gp (by omega)) | exact and31 (hW.ne (by omega)) | exact and31 (hW.op (by omega)) | exact and31 (by assumption) | exact and31r (hW.ne (by omega)) | exact and31r (hW.gp (by omega)) | exact and31r (by decide)) ?_
            refine mm_iload d_G_state_34 rfl ?_
            refine mm_aload d_G_state_35 rfl ?_
            refine mm_getIN d_G_state_37 rfl hYD.1.1 hYD.2.1 ?_
            refine mm_icmp_leN d_G_state_40 (by first | omega | exact ite01_lt | exact bt8_lt31 _ _ | exact godB_lt31 _ _ _ | exact pop_lt31 _ | assumption | exact b31 (hW.gp (by omega)) | exact b31 (hW.ne (by omega)) | exact b31 (hW.op (by omega)) | exact and31 (hW.gp (by omega)) | exact and31 (hW.ne (by omega)) | exact and31 (hW.op (by omega)) | exact and31 (by assumption) | exact and31r (hW.ne (by omega)) | exact and31r (hW.gp (by omega)) | exact and31r (by decide)) (by first | omega | exact ite01_lt | exact bt8_lt31 _ _ | exact godB_lt31 _ _ _ | exact pop_lt31 _ | assumption | exact b31 (hW.gp (by omega)) | exact b31 (hW.ne (by omega)) | exact b31 (hW.op (by omega)) | exact and31 (hW.gp (by omega)) | exact and31 (hW.ne (by omega)) | exact and31 (hW.op (by omega)) | exact and31 (by assumption) | exact and31r (hW.ne (by omega)) | exact and31r (hW.gp (by omega)) | exact and31r (by decide)) (fun c_40 => ?_) (fun c_40 => False.elim (by omega))
            refine mm_aload d_G_state_45 rfl ?_
            refine mm_getP d_G_state_46 rfl (sk_o_0 hM) (sk_p_0_3 hM) ?_
            refine mm_aload d_G_state_49 rfl ?_
            refine mm_aload d_G_state_51 rfl ?_
            refine mm_iload d_G_state_53 rfl ?_
            refine mm_v3i d_G_state_54 (sk_o_53 hM) (sp_Da_live hM (by omega) (by omega) hCD hW hYD hWY hn (fun μ2 σ' hr' hS g1 => ?_))
            rw [hln, hr] at hr'
            cases hr'
            rw [hln]
            replace hM := hS.1
            refine mm_iload d_G_state_57 rfl ?_
            refine mm_icmp_geN d_G_state_58 (by first | omega | exact ite01_lt | exact bt8_lt31 _ _ | exact godB_lt31 _ _ _ | exact pop_lt31 _ | assumption | exact b31 (hW.gp (by omega)) | exact b31 (hW.ne (by omega)) | exact b31 (hW.op (by omega)) | exact and31 (hW.gp (by omega)) | exact and31 (hW.ne (by omega)) | exact and31 (hW.op (by omega)) | exact and31 (by assumption) | exact and31r (hW.ne (by omega)) | exact and31r (hW.gp (by omega)) | exact and31r (by decide)) (by first | omega | exact ite01_lt | exact bt8_lt31 _ _ | exact godB_lt31 _ _ _ | exact pop_lt31 _ | assumption | exact b31 (hW.gp (by omega)) | exact b31 (hW.ne (by omega)) | exact b31 (hW.op (by omega)) | exact and31 (hW.gp (by omega)) | exact and31 (hW.ne (by omega)) | exact and31 (hW.op (by omega)) | exact and31 (by assumption) | exact and31r (hW.ne (by omega)) | exact and31r (hW.gp (by omega)) | exact and31r (by decide)) (fun c_58 => ?_) (fun c_58 => False.elim (by omega))
            refine mm_aload d_G_state_63 rfl ?_
            refine mm_getP d_G_state_64 rfl (sk_o_0 hM) (sk_p_0_3 hM) ?_
            refine mm_iload d_G_state_67 rfl ?_
            refine mm_v1i d_G_state_69 (sk_o_53 hM) (sp_Da_look hS hwf.1 hW ?_)
            exact mm_ri d_G_state_72 ⟨rfl, g1.DC, hw.frD g1⟩
          · show mm_T X 12 0 0 k_M_state 0 [some (.ref 71), some (.int (nI i)), some (.int (nI l)), some (.int (nI n)), some (.int y4)] [] μ1 _
            replace hM := hf.2.2.2 hM
            replace m0 : mm_I μ1 76 0 = nI c := by rw [(hf.2.2.1 76 rfl).1]; exact m0
            replace hDM := hDM.frC hf
            refine mm_aload d_M_state_0 rfl ?_
            refine mm_ciN 0 d_M_state_1 rfl ?_
            refine mm_putI d_M_state_2 rfl (sk_o_71 hM) (Or.inl rfl) ?_
            refine mm_aload d_M_state_5 rfl ?_
            refine mm_iload d_M_state_6 rfl ?_
            refine mm_iload d_M_state_7 rfl ?_
            refine mm_v2i d_M_state_8 (sk_o_71 hM) (sp_M_layAllT hM (by rw [mm_sI_off (by decide), (hf.2.2.1 76 rfl).1]; exact m0') h02' hl ((hYM.frC hf rfl).sI) hWY (by rw [mm_sI_off (by decide)]; exact m0) h02 hi (hDM.eq (mm_sI_off (by decide))) hW (fun μ2 g1 hS hY => ?_))
            replace hM := hS.1.1
            refine mm_if_eqN d_M_state_11 (by first | omega | exact ite01_lt | exact bt8_lt31 _ _ | exact godB_lt31 _ _ _ | exact pop_lt31 _ | assumption | exact b31 (hW.gp (by omega)) | exact b31 (hW.ne (by omega)) | exact b31 (hW.op (by omega)) | exact and31 (hW.gp (by omega)) | exact and31 (hW.ne (by omega)) | exact and31 (hW.op (by omega)) | exact and31 (by assumption) | exact and31r (hW.ne (by omega)) | exact and31r (hW.gp (by omega)) | exact and31r (by decide)) (fun c_11 => False.elim (by omega)) (fun c_11 => ?_)
            refine mm_iload d_M_state_14 rfl ?_
            refine mm_ciN 0 d_M_state_15 rfl ?_
            refine mm_aload d_M_state_16 rfl ?_
            refine mm_v0i d_M_state_17 (sk_o_71 hM) (sp_M_deeds hY ?_)
            refine mm_s3i d_M_state_20 (sp_M_inT (by omega) (by omega) (by omega) ?_)
            refine mm_if_eqN d_M_state_23 (by first | omega | exact ite01_lt | exact bt8_lt31 _ _ | exact godB_lt31 _ _ _ | exact pop_lt31 _ | assumption | exact b31 (hW.gp (by omega)) | exact b31 (hW.ne (by omega)) | exact b31 (hW.op (by omega)) | exact and31 (hW.gp (by omega)) | exact and31 (hW.ne (by omega)) | exact and31 (hW.op (by omega)) | exact and31 (by assumption) | exact and31r (hW.ne (by omega)) | exact and31r (hW.gp (by omega)) | exact and31r (by decide)) (fun c_23 => False.elim (by omega)) (fun c_23 => ?_)
            refine mm_aload d_M_state_26 rfl ?_
            refine mm_iload d_M_state_27 rfl ?_
            refine mm_v1i d_M_state_28 (sk_o_71 hM) (sp_M_play hS hY hn (fun μ3 σ' hr' hS' g3 => ?_))
            rw [hln, hr] at hr'
            cases hr'
            rw [hln]
            replace hM := hS'.1.1
            refine mm_iload d_M_state_31 rfl ?_
            refine mm_icmp_neN d_M_state_32 (by first | omega | exact ite01_lt | exact bt8_lt31 _ _ | exact godB_lt31 _ _ _ | exact pop_lt31 _ | assumption | exact b31 (hW.gp (by omega)) | exact b31 (hW.ne (by omega)) | exact b31 (hW.op (by omega)) | exact and31 (hW.gp (by omega)) | exact and31 (hW.ne (by omega)) | exact and31 (hW.op (by omega)) | exact and31 (by assumption) | exact and31r (hW.ne (by omega)) | exact and31r (hW.gp (by omega)) | exact and31r (by decide)) (by first | omega | exact ite01_lt | exact bt8_lt31 _ _ | exact godB_lt31 _ _ _ | exact pop_lt31 _ | assumption | exact b31 (hW.gp (by omega)) | exact b31 (hW.ne (by omega)) | exact b31 (hW.op (by omega)) | exact and31 (hW.gp (by omega)) | exact and31 (hW.ne (by omega)) | exact and31 (hW.op (by omega)) | exact and31 (by assumption) | exact and31r (hW.ne (by omega)) | exact and31r (hW.gp (by omega)) | exact and31r (by decide)) (fun c_32 => False.elim (by omega)) (fun c_32 => ?_)
            refine mm_aload d_M_state_35 rfl ?_
            refine mm_iload d_M_state_36 rfl ?_
            refine mm_v1i d_M_state_38 (sk_o_71 hM) (sp_M_ofState hS' hwf.1 ?_)
            refine mm_goto d_M_state_41 ?_
            exact mm_ri d_M_state_45 ⟨rfl, ((Fr.rf.sI rfl).trans g1).trans g3.1⟩
        · refine pairQ (-1) hJ (d := 12) (d' := 12) (by decide) (by decide) ?_ (fun μ1 hf => ?_)
          · show mm_T X 12 0 0 k_G_state 0 [some (.ref 0), some (.int (nI i)), some (.int (nI l)), some (.int (nI n)), some (.int y4), none, none] [] μ _
            refine mm_aload d_G_state_0 rfl ?_
            refine mm_getP d_G_state_1 rfl (sk_o_0 hM) (sk_p_0_0 hM) ?_
            refine mm_iload d_G_state_4 rfl ?_
            refine mm_v1r d_G_state_5 (sk_o_1 hM) (sp_To_coastAtI hM h0 h02 hi ?_)
            refine mm_ast5 d_G_state_8 ?_
            refine mm_aload d_G_state_10 rfl ?_
            refine mm_getP d_G_state_11 rfl (sk_o_0 hM) (sk_p_0_0 hM) ?_
            refine mm_iload d_G_state_14 rfl ?_
            refine mm_v1r d_G_state_15 (sk_o_1 hM) (sp_To_yearAtI hM h0' h02' hl ?_)
            refine mm_ast6 d_G_state_18 ?_
            refine mm_aload d_G_state_20 rfl ?_
            refine mm_ifnull d_G_state_22 ?_
            refine mm_aload d_G_state_25 rfl ?_
            refine mm_ifnull d_G_state_27 ?_
            refine mm_iload d_G_state_30 rfl ?_
            refine mm_if_ltN d_G_state_31 (by first | omega | exact ite01_lt | exact bt8_lt31 _ _ | exact godB_lt31 _ _ _ | exact pop_lt31 _ | assumption | exact b31 (hW.gp (by omega)) | exact b31 (hW.ne (by omega)) | exact b31 (hW.op (by omega)) | exact and31 (hW.gp (by omega)) | exact and31 (hW.ne (by omega)) | exact and31 (hW.op (by omega)) | exact and31 (by assumption) | exact and31r (hW.ne (by omega)) | exact and31r (hW.gp (by omega)) | exact and31r (by decide)) ?_
            refine mm_iload d_G_state_34 rfl ?_
            refine mm_aload d_G_state_35 rfl ?_
            refine mm_getIN d_G_state_37 rfl hYD.1.1 hYD.2.1 ?_
            refine mm_icmp_leN d_G_state_40 (by first | omega | exact ite01_lt | exact bt8_lt31 _ _ | exact godB_lt31 _ _ _ | exact pop_lt31 _ | assumption | exact b31 (hW.gp (by omega)) | exact b31 (hW.ne (by omega)) | exact b31 (hW.op (by omega)) | exact and31 (hW.gp (by omega)) | exact and31 (hW.ne (by omega)) | exact and31 (hW.op (by omega)) | exact and31 (by assumption) | exact and31r (hW.ne (by omega)) | exact and31r (hW.gp (by omega)) | exact and31r (by decide)) (by first | omega | exact ite01_lt | exact bt8_lt31 _ _ | exact godB_lt31 _ _ _ | exact pop_lt31 _ | assumption | exact b31 (hW.gp (by omega)) | exact b31 (hW.ne (by omega)) | exact b31 (hW.op (by omega)) | exact and31 (hW.gp (by omega)) | exact and31 (hW.ne (by omega)) | exact and31 (hW.op (by omega)) | exact and31 (by assumption) | exact and31r (hW.ne (by omega)) | exact and31r (hW.gp (by omega)) | exact and31r (by decide)) (fun c_40 => ?_) (fun c_40 => False.elim (by omega))
            refine mm_aload d_G_state_45 rfl ?_
            refine mm_getP d_G_state_46 rfl (sk_o_0 hM) (sk_p_0_3 hM) ?_
            refine mm_aload d_G_state_49 rfl ?_
            refine mm_aload d_G_state_51 rfl ?_
            refine mm_iload d_G_state_53 rfl ?_
            refine mm_v3i d_G_state_54 (sk_o_53 hM) (sp_Da_live hM (by omega) (by omega) hCD hW hYD hWY hn (fun μ2 σ' hr' hS g1 => ?_))
            refine mm_iload d_G_state_57 rfl ?_
            refine mm_icmp_geN d_G_state_58 (by first | omega | exact ite01_lt | exact bt8_lt31 _ _ | exact godB_lt31 _ _ _ | exact pop_lt31 _ | assumption | exact b31 (hW.gp (by omega)) | exact b31 (hW.ne (by omega)) | exact b31 (hW.op (by omega)) | exact and31 (hW.gp (by omega)) | exact and31 (hW.ne (by omega)) | exact and31 (hW.op (by omega)) | exact and31 (by assumption) | exact and31r (hW.ne (by omega)) | exact and31r (hW.gp (by omega)) | exact and31r (by decide)) (by first | omega | exact ite01_lt | exact bt8_lt31 _ _ | exact godB_lt31 _ _ _ | exact pop_lt31 _ | assumption | exact b31 (hW.gp (by omega)) | exact b31 (hW.ne (by omega)) | exact b31 (hW.op (by omega)) | exact and31 (hW.gp (by omega)) | exact and31 (hW.ne (by omega)) | exact and31 (hW.op (by omega)) | exact and31 (by assumption) | exact and31r (hW.ne (by omega)) | exact and31r (hW.gp (by omega)) | exact and31r (by decide)) (fun c_58 => False.elim (by omega)) (fun c_58 => ?_)
            refine mm_ci d_G_state_61 ?_
            exact mm_ri d_G_state_62 ⟨rfl, g1.DC, hw.frD g1⟩
          · show mm_T X 12 0 0 k_M_state 0 [some (.ref 71), some (.int (nI i)), some (.int (nI l)), some (.int (nI n)), some (.int y4)] [] μ1 _
            replace hM := hf.2.2.2 hM
            replace m0 : mm_I μ1 76 0 = nI c := by rw [(hf.2.2.1 76 rfl).1]; exact m0
            replace hDM := hDM.frC hf
            refine mm_aload d_M_state_0 rfl ?_
            refine mm_ciN 0 d_M_state_1 rfl ?_
            refine mm_putI d_M_state_2 rfl (sk_o_71 hM) (Or.inl rfl) ?_
            refine mm_aload d_M_state_5 rfl ?_
            refine mm_iload d_M_state_6 rfl ?_
            refine mm_iload d_M_state_7 rfl ?_
            refine mm_v2i d_M_state_8 (sk_o_71 hM) (sp_M_layAllT hM (by rw [mm_sI_off (by decide), (hf.2.2.1 76 rfl).1]; exact m0') h02' hl ((hYM.frC hf rfl).sI) hWY (by rw [mm_sI_off (by decide)]; exact m0) h02 hi (hDM.eq (mm_sI_off (by decide))) hW (fun μ2 g1 hS hY => ?_))
            replace hM := hS.1.1
            refine mm_if_eqN d_M_state_11 (by first | omega | exact ite01_lt | exact bt8_lt31 _ _ | exact godB_lt31 _ _ _ | exact pop_lt31 _ | assumption | exact b31 (hW.gp (by omega)) | exact b31 (hW.ne (by omega)) | exact b31 (hW.op (by omega)) | exact and31 (hW.gp (by omega)) | exact and31 (hW.ne (by omega)) | exact and31 (hW.op (by omega)) | exact and31 (by assumption) | exact and31r (hW.ne (by omega)) | exact and31r (hW.gp (by omega)) | exact and31r (by decide)) (fun c_11 => False.elim (by omega)) (fun c_11 => ?_)
            refine mm_iload d_M_state_14 rfl ?_
            refine mm_ciN 0 d_M_state_15 rfl ?_
            refine mm_aload d_M_state_16 rfl ?_
            refine mm_v0i d_M_state_17 (sk_o_71 hM) (sp_M_deeds hY ?_)
            refine mm_s3i d_M_state_20 (sp_M_inT (by omega) (by omega) (by omega) ?_)
            refine mm_if_eqN d_M_state_23 (by first | omega | exact ite01_lt | exact bt8_lt31 _ _ | exact godB_lt31 _ _ _ | exact pop_lt31 _ | assumption | exact b31 (hW.gp (by omega)) | exact b31 (hW.ne (by omega)) | exact b31 (hW.op (by omega)) | exact and31 (hW.gp (by omega)) | exact and31 (hW.ne (by omega)) | exact and31 (hW.op (by omega)) | exact and31 (by assumption) | exact and31r (hW.ne (by omega)) | exact and31r (hW.gp (by omega)) | exact and31r (by decide)) (fun c_23 => False.elim (by omega)) (fun c_23 => ?_)
            refine mm_aload d_M_state_26 rfl ?_
            refine mm_iload d_M_state_27 rfl ?_
            refine mm_v1i d_M_state_28 (sk_o_71 hM) (sp_M_play hS hY hn (fun μ3 σ' hr' hS' g3 => ?_))
            refine mm_iload d_M_state_31 rfl ?_
            refine mm_icmp_neN d_M_state_32 (by first | omega | exact ite01_lt | exact bt8_lt31 _ _ | exact godB_lt31 _ _ _ | exact pop_lt31 _ | assumption | exact b31 (hW.gp (by omega)) | exact b31 (hW.ne (by omega)) | exact b31 (hW.op (by omega)) | exact and31 (hW.gp (by omega)) | exact and31 (hW.ne (by omega)) | exact and31 (hW.op (by omega)) | exact and31 (by assumption) | exact and31r (hW.ne (by omega)) | exact and31r (hW.gp (by omega)) | exact and31r (by decide)) (by first | omega | exact ite01_lt | exact bt8_lt31 _ _ | exact godB_lt31 _ _ _ | exact pop_lt31 _ | assumption | exact b31 (hW.gp (by omega)) | exact b31 (hW.ne (by omega)) | exact b31 (hW.op (by omega)) | exact and31 (hW.gp (by omega)) | exact and31 (hW.ne (by omega)) | exact and31 (hW.op (by omega)) | exact and31 (by assumption) | exact and31r (hW.ne (by omega)) | exact and31r (hW.gp (by omega)) | exact and31r (by decide)) (fun c_32 => ?_) (fun c_32 => False.elim (by omega))
            refine mm_ci d_M_state_44 ?_
            exact mm_ri d_M_state_45 ⟨rfl, ((Fr.rf.sI rfl).trans g1).trans g3.1⟩
