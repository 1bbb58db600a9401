/-! the pair call -/
theorem pair_call {X : mm_X} {k : Nat} {μ : mm_M} (hJ : JJ k μ) (y1 y2 y3 : Int32) : PairI X (JJ (k + 1)) k_G_call k_M_call [.int y1, .int y2, .int y3] μ := by
  obtain ⟨c, h02, h0, m0, hv⟩ := hJ.coast y1
  have hM := hJ.1
  have hw := hJ.2.2.2.up
  rcases hv with hx | ⟨i, D, hi, rfl, hW, hCD, hDM⟩
  · exact pairQ (-1) hJ (d := 2) (d' := 4) (by decide) (by decide) (n_G_call hM h0 h02 hx ⟨rfl, Fr.rf, hw⟩) (fun μ1 hf => n_M_call (hf.2.2.2 hM) (by rw [(hf.2.2.1 76 rfl).1]; exact m0) h02 hx (fun μ' hk => ⟨rfl, hk.fr (hf.2.2.2 hM)⟩))
  have hn6 := hW.1
  have hw6 := hW.2.1
  rcases atF_or (c := dw D) (by omega) y2 with hz | ⟨j, hj, rfl⟩
  · refine pairQ (-1) hJ (d := 12) (d' := 12) (by decide) (by decide) ?_ (fun μ1 hf => ?_)
    · show mm_T X 12 0 0 k_G_call 0 [some (.ref 0), some (.int (nI i)), some (.int y2), some (.int y3), none, none, none] [] μ _
      refine mm_aload d_G_call_0 rfl ?_
      refine mm_getP d_G_call_1 rfl (sk_o_0 hM) (sk_p_0_0 hM) ?_
      refine mm_iload d_G_call_4 rfl ?_
      refine mm_iload d_G_call_5 rfl ?_
      refine mm_v2r d_G_call_6 (sk_o_1 hM) (sp_To_coastWithWorkN hM h0 h02 hi hCD hz ?_)
      refine mm_astN4 d_G_call_9 ?_
      refine mm_aloadN d_G_call_11 rfl ?_
      refine mm_ifnonnullN d_G_call_13 ?_
      refine mm_ci d_G_call_16 ?_
      exact mm_ri d_G_call_17 ⟨rfl, Fr.rf, hw⟩
    · show mm_T X 12 0 0 k_M_call 0 [some (.ref 71), some (.int (nI i)), some (.int y2), some (.int y3), none, none, none, none] [] μ1 _
      replace hM := hf.2.2.2 hM
      replace m0 : mm_I μ1 76 0 = nI c := by rw [(hf.2.2.1 76 rfl).1]; exact m0
      replace hDM := hDM.frC hf
      refine mm_aload d_M_call_0 rfl ?_
      refine mm_ciN 0 d_M_call_1 rfl ?_
      refine mm_putI d_M_call_2 rfl (sk_o_71 hM) (Or.inl rfl) ?_
      refine mm_aload d_M_call_5 rfl ?_
      refine mm_iload d_M_call_6 rfl ?_
      refine mm_v1i d_M_call_7 (sk_o_71 hM) (sp_M_handN hM (by first | exact m0 | (rw [mm_sI_off (by decide)]; exact m0)) h02 hi (by first | exact hDM | exact hDM.eq (mm_sI_off (by decide))) hW (fun μ2 g1 hH hZ => ?_))
      replace hM := hH.1
      refine mm_if_eqN d_M_call_10 (by first | omega | exact ite01_lt | exact bt8_lt31 _ _ | exact godB_lt31 _ _ _ | exact pop_lt31 _ | assumption | exact b31 (hW.gp (by omega)) | exact b31 (hW.ne (by omega)) | exact b31 (hW.op (by omega)) | exact and31 (hW.gp (by omega)) | exact and31 (hW.ne (by omega)) | exact and31 (hW.op (by omega)) | exact and31 (by assumption) | exact and31r (hW.ne (by omega)) | exact and31r (hW.gp (by omega)) | exact and31r (by decide)) (fun c_10 => False.elim (by omega)) (fun c_10 => ?_)
      refine mm_aload d_M_call_13 rfl ?_
      refine mm_iload d_M_call_14 rfl ?_
      refine mm_v1i d_M_call_15 (sk_o_71 hM) (sp_M_isWorkB hH hz ?_)
      refine mm_if_neN d_M_call_18 (by first | omega | exact ite01_lt | exact bt8_lt31 _ _ | exact godB_lt31 _ _ _ | exact pop_lt31 _ | assumption | exact b31 (hW.gp (by omega)) | exact b31 (hW.ne (by omega)) | exact b31 (hW.op (by omega)) | exact and31 (hW.gp (by omega)) | exact and31 (hW.ne (by omega)) | exact and31 (hW.op (by omega)) | exact and31 (by assumption) | exact and31r (hW.ne (by omega)) | exact and31r (hW.gp (by omega)) | exact and31r (by decide)) (fun c_18 => False.elim (by omega)) (fun c_18 => ?_)
      refine mm_ci d_M_call_21 ?_
      exact mm_ri d_M_call_22 ⟨rfl, (Fr.rf.sI rfl).trans g1⟩
  · have hnd := hW.ne (j := j) (by omega)
    have hi2 : i < 2 := by omega
    have hp8 := pop_le (dne D j)
    have gfF : ∀ {μ1 μ2 ν : mm_M}, Fr scM (mm_sI μ1 71 0 (nI 0)) μ2 → TB D (dne D j) i μ2 0 ν → Fr scM μ1 ν := fun g1 hT => ((Fr.rf.sI rfl).trans g1).trans hT.1
    have t0 : ∀ {μ2 ν : mm_M}, TB D (dne D j) i μ2 0 ν → mm_I ν 85 0 = nI (if cn D (dne D j) (pop (dne D j)) 0 0 = true then 1 else 0) := fun hT => hT.2.2 0 0 (Nat.le_refl _) (Nat.zero_le _) (by decide)
    cases hcn : cn D (dne D j) (pop (dne D j)) 0 0 with
    | false =>
      rw [hcn] at t0
      refine pairQ (-1) hJ (d := 12) (d' := 12) (by decide) (by decide) ?_ (fun μ1 hf => ?_)
      · show mm_T X 12 0 0 k_G_call 0 [some (.ref 0), some (.int (nI i)), some (.int (nI j)), some (.int y3), none, none, none] [] μ _
        refine mm_aload d_G_call_0 rfl ?_
        refine mm_getP d_G_call_1 rfl (sk_o_0 hM) (sk_p_0_0 hM) ?_
        refine mm_iload d_G_call_4 rfl ?_
        refine mm_iload d_G_call_5 rfl ?_
        refine mm_v2r d_G_call_6 (sk_o_1 hM) (sp_To_coastWithWorkI hM h0 h02 hi hCD hW (by omega) ?_)
        refine mm_ast4 d_G_call_9 ?_
        refine mm_aload d_G_call_11 rfl ?_
        refine mm_ifnonnull d_G_call_13 ?_
        refine mm_aload d_G_call_18 rfl ?_
        refine mm_getP d_G_call_20 rfl hCD.1.1 (CoS_p5 hCD.1) ?_
        refine mm_iload d_G_call_23 rfl ?_
        refine mm_ialdN d_G_call_24 (CoS_a5 hCD.1) (by omega) (by decide) (hCD.f5 (by omega)) ?_
        refine mm_ist5 d_G_call_25 ?_
        refine mm_iload d_G_call_27 rfl ?_
        refine mm_s1i d_G_call_29 (sp_Int_bitCount (by first | omega | assumption | exact hW.gp (by omega) | exact hW.ne (by omega) | exact hW.op (by omega) | exact and_lt256 (hW.gp (by omega)) | exact and_lt256 (hW.ne (by omega)) | exact and_lt256 (hW.op (by omega)) | exact and_lt256 (by assumption)) ?_)
        refine mm_ist6 d_G_call_32 ?_
        refine mm_iload d_G_call_34 rfl ?_
        refine mm_ci d_G_call_35 ?_
        refine mm_icmp_lt d_G_call_36 (fun c_36 => ?_) (fun c_36 => ?_)
        · refine mm_ci d_G_call_59 ?_
          exact mm_ri d_G_call_60 ⟨rfl, Fr.rf, hw⟩
        · refine mm_iload d_G_call_39 rfl ?_
          refine mm_iload d_G_call_40 rfl ?_
          refine mm_icmp_ge d_G_call_42 (fun c_42 => ?_) (fun c_42 => ?_)
          · refine mm_ci d_G_call_59 ?_
            exact mm_ri d_G_call_60 ⟨rfl, Fr.rf, hw⟩
          · refine mm_aload d_G_call_45 rfl ?_
            refine mm_getP d_G_call_46 rfl (sk_o_0 hM) (sk_p_0_4 hM) ?_
            refine mm_aload d_G_call_49 rfl ?_
            refine mm_iload d_G_call_51 rfl ?_
            refine mm_v2i d_G_call_53 (sk_o_57 hM) (sp_As_assign hM hi2 hCD hW hnd (fun ct => absurd ct (by rw [hcn]; decide)) (fun _ ν f e57 e62 => ?_))
            refine mm_if_neN d_G_call_56 (by decide) (fun z => absurd rfl z) (fun _ => ?_)
            refine mm_ci d_G_call_59 ?_
            exact mm_ri d_G_call_60 ⟨rfl, f, hw.cg e57 e62⟩
      · show mm_T X 12 0 0 k_M_call 0 [some (.ref 71), some (.int (nI i)), some (.int (nI j)), some (.int y3), none, none, none, none] [] μ1 _
        replace hM := hf.2.2.2 hM
        replace m0 : mm_I μ1 76 0 = nI c := by rw [(hf.2.2.1 76 rfl).1]; exact m0
        replace hDM := hDM.frC hf
        refine mm_aload d_M_call_0 rfl ?_
        refine mm_ciN 0 d_M_call_1 rfl ?_
        refine mm_putI d_M_call_2 rfl (sk_o_71 hM) (Or.inl rfl) ?_
        refine mm_aload d_M_call_5 rfl ?_
        refine mm_iload d_M_call_6 rfl ?_
        refine mm_v1i d_M_call_7 (sk_o_71 hM) (sp_M_handN hM (by first | exact m0 | (rw [mm_sI_off (by decide)]; exact m0)) h02 hi (by first | exact hDM | exact hDM.eq (mm_sI_off (by decide))) hW (fun μ2 g1 hH hZ => ?_))
        replace hM := hH.1
        refine mm_if_eqN d_M_call_10 (by first | omega | exact ite01_lt | exact bt8_lt31 _ _ | exact godB_lt31 _ _ _ | exact pop_lt31 _ | assumption | exact b31 (hW.gp (by omega)) | exact b31 (hW.ne (by omega)) | exact b31 (hW.op (by omega)) | exact and31 (hW.gp (by omega)) | exact and31 (hW.ne (by omega)) | exact and31 (hW.op (by omega)) | exact and31 (by assumption) | exact and31r (hW.ne (by omega)) | exact and31r (hW.gp (by omega)) | exact and31r (by decide)) (fun c_10 => False.elim (by omega)) (fun c_10 => ?_)
        refine mm_aload d_M_call_13 rfl ?_
        refine mm_iload d_M_call_14 rfl ?_
        refine mm_v1i d_M_call_15 (sk_o_71 hM) (sp_M_isWorkT hH (by omega) ?_)
        refine mm_if_neN d_M_call_18 (by first | omega | exact ite01_lt | exact bt8_lt31 _ _ | exact godB_lt31 _ _ _ | exact pop_lt31 _ | assumption | exact b31 (hW.gp (by omega)) | exact b31 (hW.ne (by omega)) | exact b31 (hW.op (by omega)) | exact and31 (hW.gp (by omega)) | exact and31 (hW.ne (by omega)) | exact and31 (hW.op (by omega)) | exact and31 (by assumption) | exact and31r (hW.ne (by omega)) | exact and31r (hW.gp (by omega)) | exact and31r (by decide)) (fun c_18 => ?_) (fun c_18 => False.elim (by omega))
        refine mm_aload d_M_call_23 rfl ?_
        refine mm_ciN 38 d_M_call_24 rfl ?_
        refine mm_iload d_M_call_26 rfl ?_
        refine mm_iaddN d_M_call_27 ?_
        refine mm_v1i d_M_call_28 (sk_o_71 hM) (sp_M_ofN hH (by omega) (hH.f5 (by omega)) ?_)
        refine mm_ist4 d_M_call_31 ?_
        refine mm_aload d_M_call_33 rfl ?_
        refine mm_iload d_M_call_34 rfl ?_
        refine mm_v1v d_M_call_36 (sk_o_71 hM) (sp_M_findCalls hH hnd (fun ν hT => ?_))
        have hM := hT.2.1.1
        refine mm_aload d_M_call_39 rfl ?_
        refine mm_getP d_M_call_40 rfl (sk_o_71 hM) (sk_p_71_34 hM) ?_
        refine mm_ciN 0 d_M_call_43 rfl ?_
        refine mm_zaldN d_M_call_44 (sk_a_85 hM) (by omega) (by decide) (show _ = nI 0 from t0 hT) ?_
        refine mm_if_eqN d_M_call_45 (by first | omega | exact ite01_lt | exact bt8_lt31 _ _ | exact godB_lt31 _ _ _ | exact pop_lt31 _ | assumption | exact b31 (hW.gp (by omega)) | exact b31 (hW.ne (by omega)) | exact b31 (hW.op (by omega)) | exact and31 (hW.gp (by omega)) | exact and31 (hW.ne (by omega)) | exact and31 (hW.op (by omega)) | exact and31 (by assumption) | exact and31r (hW.ne (by omega)) | exact and31r (hW.gp (by omega)) | exact and31r (by decide)) (fun c_45 => ?_) (fun c_45 => False.elim (by omega))
        refine mm_ci d_M_call_63 ?_
        exact mm_ri d_M_call_64 ⟨rfl, gfF g1 hT⟩
    | true =>
      rw [hcn] at t0
      by_cases hy : y3 = -1
      · subst hy
        refine pairQ (nI (pop (dne D j))) hJ (d := 12) (d' := 12) (by decide) (by decide) ?_ (fun μ1 hf => ?_)
        · show mm_T X 12 0 0 k_G_call 0 [some (.ref 0), some (.int (nI i)), some (.int (nI j)), some (.int (-1)), none, none, none] [] μ _
          refine mm_aload d_G_call_0 rfl ?_
          refine mm_getP d_G_call_1 rfl (sk_o_0 hM) (sk_p_0_0 hM) ?_
          refine mm_iload d_G_call_4 rfl ?_
          refine mm_iload d_G_call_5 rfl ?_
          refine mm_v2r d_G_call_6 (sk_o_1 hM) (sp_To_coastWithWorkI hM h0 h02 hi hCD hW (by omega) ?_)
          refine mm_ast4 d_G_call_9 ?_
          refine mm_aload d_G_call_11 rfl ?_
          refine mm_ifnonnull d_G_call_13 ?_
          refine mm_aload d_G_call_18 rfl ?_
          refine mm_getP d_G_call_20 rfl hCD.1.1 (CoS_p5 hCD.1) ?_
          refine mm_iload d_G_call_23 rfl ?_
          refine mm_ialdN d_G_call_24 (CoS_a5 hCD.1) (by omega) (by decide) (hCD.f5 (by omega)) ?_
          refine mm_ist5 d_G_call_25 ?_
          refine mm_iload d_G_call_27 rfl ?_
          refine mm_s1i d_G_call_29 (sp_Int_bitCount (by first | omega | assumption | exact hW.gp (by omega) | exact hW.ne (by omega) | exact hW.op (by omega) | exact and_lt256 (hW.gp (by omega)) | exact and_lt256 (hW.ne (by omega)) | exact and_lt256 (hW.op (by omega)) | exact and_lt256 (by assumption)) ?_)
          refine mm_ist6 d_G_call_32 ?_
          refine mm_iload d_G_call_34 rfl ?_
          refine mm_ci d_G_call_35 ?_
          refine mm_icmp_lt d_G_call_36 (fun c_36 => False.elim (absurd c_36 (by decide))) (fun c_36 => ?_)
          refine mm_iload d_G_call_39 rfl ?_
          refine mm_iload d_G_call_40 rfl ?_
          refine mm_icmp_ge d_G_call_42 (fun c_42 => False.elim (absurd c_42 (Int32.not_le.mpr (neg_lt (by decide) (by omega))))) (fun c_42 => ?_)
          refine mm_aload d_G_call_45 rfl ?_
          refine mm_getP d_G_call_46 rfl (sk_o_0 hM) (sk_p_0_4 hM) ?_
          refine mm_aload d_G_call_49 rfl ?_
          refine mm_iload d_G_call_51 rfl ?_
          refine mm_v2i d_G_call_53 (sk_o_57 hM) (sp_As_assign hM hi2 hCD hW hnd (fun _ ν f e57 e62 e58 => ?_) (fun cf => absurd cf (by rw [hcn]; decide)))
          refine mm_if_neN d_G_call_56 (by decide) (fun _ => ?_) (fun z => absurd z (by decide))
          refine mm_iload d_G_call_61 rfl ?_
          refine mm_ci d_G_call_62 ?_
          refine mm_icmp_neS d_G_call_63 ?_
          refine mm_iload d_G_call_66 rfl ?_
          refine mm_goto d_G_call_68 ?_
          exact mm_ri d_G_call_80 ⟨rfl, f, hw.cg e57 e62⟩
        · show mm_T X 12 0 0 k_M_call 0 [some (.ref 71), some (.int (nI i)), some (.int (nI j)), some (.int (-1)), none, none, none, none] [] μ1 _
          replace hM := hf.2.2.2 hM
          replace m0 : mm_I μ1 76 0 = nI c := by rw [(hf.2.2.1 76 rfl).1]; exact m0
          replace hDM := hDM.frC hf
          refine mm_aload d_M_call_0 rfl ?_
          refine mm_ciN 0 d_M_call_1 rfl ?_
          refine mm_putI d_M_call_2 rfl (sk_o_71 hM) (Or.inl rfl) ?_
          refine mm_aload d_M_call_5 rfl ?_
          refine mm_iload d_M_call_6 rfl ?_
          refine mm_v1i d_M_call_7 (sk_o_71 hM) (sp_M_handN hM (by first | exact m0 | (rw [mm_sI_off (by decide)]; exact m0)) h02 hi (by first | exact hDM | exact hDM.eq (mm_sI_off (by decide))) hW (fun μ2 g1 hH hZ => ?_))
          replace hM := hH.1
          refine mm_if_eqN d_M_call_10 (by first | omega | exact ite01_lt | exact bt8_lt31 _ _ | exact godB_lt31 _ _ _ | exact pop_lt31 _ | assumption | exact b31 (hW.gp (by omega)) | exact b31 (hW.ne (by omega)) | exact b31 (hW.op (by omega)) | exact and31 (hW.gp (by omega)) | exact and31 (hW.ne (by omega)) | exact and31 (hW.op (by omega)) | exact and31 (by assumption) | exact and31r (hW.ne (by omega)) | exact and31r (hW.gp (by omega)) | exact and31r (by decide)) (fun c_10 => False.elim (by omega)) (fun c_10 => ?_)
          refine mm_aload d_M_call_13 rfl ?_
          refine mm_iload d_M_call_14 rfl ?_
          refine mm_v1i d_M_call_15 (sk_o_71 hM) (sp_M_isWorkT hH (by omega) ?_)
          refine mm_if_neN d_M_call_18 (by first | omega | exact ite01_lt | exact bt8_lt31 _ _ | exact godB_lt31 _ _ _ | exact pop_lt31 _ | assumption | exact b31 (hW.gp (by omega)) | exact b31 (hW.ne (by omega)) | exact b31 (hW.op (by omega)) | exact and31 (hW.gp (by omega)) | exact and31 (hW.ne (by omega)) | exact and31 (hW.op (by omega)) | exact and31 (by assumption) | exact and31r (hW.ne (by omega)) | exact and31r (hW.gp (by omega)) | exact and31r (by decide)) (fun c_18 => ?_) (fun c_18 => False.elim (by omega))
          refine mm_aload d_M_call_23 rfl ?_
          refine mm_ciN 38 d_M_call_24 rfl ?_
          refine mm_iload d_M_call_26 rfl ?_
          refine mm_iaddN d_M_call_27 ?_
          refine mm_v1i d_M_call_28 (sk_o_71 hM) (sp_M_ofN hH (by omega) (hH.f5 (by omega)) ?_)
          refine mm_ist4 d_M_call_31 ?_
          refine mm_aload d_M_call_33 rfl ?_
          refine mm_iload d_M_call_34 rfl ?_
          refine mm_v1v d_M_call_36 (sk_o_71 hM) (sp_M_findCalls hH hnd (fun ν hT => ?_))
          have hM := hT.2.1.1
          refine mm_aload d_M_call_39 rfl ?_
          refine mm_getP d_M_call_40 rfl (sk_o_71 hM) (sk_p_71_34 hM) ?_
          refine mm_ciN 0 d_M_call_43 rfl ?_
          refine mm_zaldN d_M_call_44 (sk_a_85 hM) (by omega) (by decide) (show _ = nI 1 from t0 hT) ?_
          refine mm_if_eqN d_M_call_45 (by first | omega | exact ite01_lt | exact bt8_lt31 _ _ | exact godB_lt31 _ _ _ | exact pop_lt31 _ | assumption | exact b31 (hW.gp (by omega)) | exact b31 (hW.ne (by omega)) | exact b31 (hW.op (by omega)) | exact and31 (hW.gp (by omega)) | exact and31 (hW.ne (by omega)) | exact and31 (hW.op (by omega)) | exact and31 (by assumption) | exact and31r (hW.ne (by omega)) | exact and31r (hW.gp (by omega)) | exact and31r (by decide)) (fun c_45 => False.elim (by omega)) (fun c_45 => ?_)
          refine mm_iload d_M_call_48 rfl ?_
          refine mm_ci d_M_call_49 ?_
          refine mm_iload d_M_call_50 rfl ?_
          refine mm_s1i d_M_call_52 (sp_M_ones (by first | omega | assumption | exact hW.gp (by omega) | exact hW.ne (by omega) | exact hW.op (by omega) | exact and_lt256 (hW.gp (by omega)) | exact and_lt256 (hW.ne (by omega)) | exact and_lt256 (hW.op (by omega)) | exact and_lt256 (by assumption)) ?_)
          refine mm_ciN 1 d_M_call_55 rfl ?_
          refine mm_isub d_M_call_56 ?_
          refine mm_s3i d_M_call_57 (sp_M_in ?_)
          rw [inD_m _ hp8]
          refine mm_if_neN d_M_call_60 (by first | omega | exact ite01_lt | exact bt8_lt31 _ _ | exact godB_lt31 _ _ _ | exact pop_lt31 _ | assumption | exact b31 (hW.gp (by omega)) | exact b31 (hW.ne (by omega)) | exact b31 (hW.op (by omega)) | exact and31 (hW.gp (by omega)) | exact and31 (hW.ne (by omega)) | exact and31 (hW.op (by omega)) | exact and31 (by assumption) | exact and31r (hW.ne (by omega)) | exact and31r (hW.gp (by omega)) | exact and31r (by decide)) (fun c_60 => ?_) (fun c_60 => False.elim (by omega))
          refine mm_iload d_M_call_65 rfl ?_
          refine mm_ci d_M_call_66 ?_
          refine mm_icmp_neS d_M_call_67 ?_
          refine mm_iload d_M_call_70 rfl ?_
          refine mm_s1i d_M_call_72 (sp_M_ones (by first | omega | assumption | exact hW.gp (by omega) | exact hW.ne (by omega) | exact hW.op (by omega) | exact and_lt256 (hW.gp (by omega)) | exact and_lt256 (hW.ne (by omega)) | exact and_lt256 (hW.op (by omega)) | exact and_lt256 (by assumption)) ?_)
          exact mm_ri d_M_call_75 ⟨rfl, gfF g1 hT⟩
      · rcases atF_or (c := pop (dne D j)) (by omega) y3 with hz | ⟨t, ht, rfl⟩
        · have hz2 := atF_or2 hz
          refine pairQ (-1) hJ (d := 12) (d' := 12) (by decide) (by decide) ?_ (fun μ1 hf => ?_)
          · show mm_T X 12 0 0 k_G_call 0 [some (.ref 0), some (.int (nI i)), some (.int (nI j)), some (.int y3), none, none, none] [] μ _
            refine mm_aload d_G_call_0 rfl ?_
            refine mm_getP d_G_call_1 rfl (sk_o_0 hM) (sk_p_0_0 hM) ?_
            refine mm_iload d_G_call_4 rfl ?_
            refine mm_iload d_G_call_5 rfl ?_
            refine mm_v2r d_G_call_6 (sk_o_1 hM) (sp_To_coastWithWorkI hM h0 h02 hi hCD hW (by omega) ?_)
            refine mm_ast4 d_G_call_9 ?_
            refine mm_aload d_G_call_11 rfl ?_
            refine mm_ifnonnull d_G_call_13 ?_
            refine mm_aload d_G_call_18 rfl ?_
            refine mm_getP d_G_call_20 rfl hCD.1.1 (CoS_p5 hCD.1) ?_
            refine mm_iload d_G_call_23 rfl ?_
            refine mm_ialdN d_G_call_24 (CoS_a5 hCD.1) (by omega) (by decide) (hCD.f5 (by omega)) ?_
            refine mm_ist5 d_G_call_25 ?_
            refine mm_iload d_G_call_27 rfl ?_
            refine mm_s1i d_G_call_29 (sp_Int_bitCount (by first | omega | assumption | exact hW.gp (by omega) | exact hW.ne (by omega) | exact hW.op (by omega) | exact and_lt256 (hW.gp (by omega)) | exact and_lt256 (hW.ne (by omega)) | exact and_lt256 (hW.op (by omega)) | exact and_lt256 (by assumption)) ?_)
            refine mm_ist6 d_G_call_32 ?_
            refine mm_iload d_G_call_34 rfl ?_
            refine mm_ci d_G_call_35 ?_
            refine mm_icmp_lt d_G_call_36 (fun c_36 => ?_) (fun c_36 => ?_)
            · refine mm_ci d_G_call_59 ?_
              exact mm_ri d_G_call_60 ⟨rfl, Fr.rf, hw⟩
            · refine mm_iload d_G_call_39 rfl ?_
              refine mm_iload d_G_call_40 rfl ?_
              refine mm_icmp_ge d_G_call_42 (fun c_42 => ?_) (fun c_42 => False.elim (hz2.elim (fun a => c_36 (lt_m1 hy a)) c_42))
              refine mm_ci d_G_call_59 ?_
              exact mm_ri d_G_call_60 ⟨rfl, Fr.rf, hw⟩
          · show mm_T X 12 0 0 k_M_call 0 [some (.ref 71), some (.int (nI i)), some (.int (nI j)), some (.int y3), none, none, none, none] [] μ1 _
            replace hM := hf.2.2.2 hM
            replace m0 : mm_I μ1 76 0 = nI c := by rw [(hf.2.2.1 76 rfl).1]; exact m0
            replace hDM := hDM.frC hf
            refine mm_aload d_M_call_0 rfl ?_
            refine mm_ciN 0 d_M_call_1 rfl ?_
            refine mm_putI d_M_call_2 rfl (sk_o_71 hM) (Or.inl rfl) ?_
            refine mm_aload d_M_call_5 rfl ?_
            refine mm_iload d_M_call_6 rfl ?_
            refine mm_v1i d_M_call_7 (sk_o_71 hM) (sp_M_handN hM (by first | exact m0 | (rw [mm_sI_off (by decide)]; exact m0)) h02 hi (by first | exact hDM | exact hDM.eq (mm_sI_off (by decide))) hW (fun μ2 g1 hH hZ => ?_))
            replace hM := hH.1
            refine mm_if_eqN d_M_call_10 (by first | omega | exact ite01_lt | exact bt8_lt31 _ _ | exact godB_lt31 _ _ _ | exact pop_lt31 _ | assumption | exact b31 (hW.gp (by omega)) | exact b31 (hW.ne (by omega)) | exact b31 (hW.op (by omega)) | exact and31 (hW.gp (by omega)) | exact and31 (hW.ne (by omega)) | exact and31 (hW.op (by omega)) | exact and31 (by assumption) | exact and31r (hW.ne (by omega)) | exact and31r (hW.gp (by omega)) | exact and31r (by decide)) (fun c_10 => False.elim (by omega)) (fun c_10 => ?_)
            refine mm_aload d_M_call_13 rfl ?_
            refine mm_iload d_M_call_14 rfl ?_
            refine mm_v1i d_M_call_15 (sk_o_71 hM) (sp_M_isWorkT hH (by omega) ?_)
            refine mm_if_neN d_M_call_18 (by first | omega | exact ite01_lt | exact bt8_lt31 _ _ | exact godB_lt31 _ _ _ | exact pop_lt31 _ | assumption | exact b31 (hW.gp (by omega)) | exact b31 (hW.ne (by omega)) | exact b31 (hW.op (by omega)) | exact and31 (hW.gp (by omega)) | exact and31 (hW.ne (by omega)) | exact and31 (hW.op (by omega)) | exact and31 (by assumption) | exact and31r (hW.ne (by omega)) | exact and31r (hW.gp (by omega)) | exact and31r (by decide)) (fun c_18 => ?_) (fun c_18 => False.elim (by omega))
            refine mm_aload d_M_call_23 rfl ?_
            refine mm_ciN 38 d_M_call_24 rfl ?_
            refine mm_iload d_M_call_26 rfl ?_
            refine mm_iaddN d_M_call_27 ?_
            refine mm_v1i d_M_call_28 (sk_o_71 hM) (sp_M_ofN hH (by omega) (hH.f5 (by omega)) ?_)
            refine mm_ist4 d_M_call_31 ?_
            refine mm_aload d_M_call_33 rfl ?_
            refine mm_iload d_M_call_34 rfl ?_
            refine mm_v1v d_M_call_36 (sk_o_71 hM) (sp_M_findCalls hH hnd (fun ν hT => ?_))
            have hM := hT.2.1.1
            refine mm_aload d_M_call_39 rfl ?_
            refine mm_getP d_M_call_40 rfl (sk_o_71 hM) (sk_p_71_34 hM) ?_
            refine mm_ciN 0 d_M_call_43 rfl ?_
            refine mm_zaldN d_M_call_44 (sk_a_85 hM) (by omega) (by decide) (show _ = nI 1 from t0 hT) ?_
            refine mm_if_eqN d_M_call_45 (by first | omega | exact ite01_lt | exact bt8_lt31 _ _ | exact godB_lt31 _ _ _ | exact pop_lt31 _ | assumption | exact b31 (hW.gp (by omega)) | exact b31 (hW.ne (by omega)) | exact b31 (hW.op (by omega)) | exact and31 (hW.gp (by omega)) | exact and31 (hW.ne (by omega)) | exact and31 (hW.op (by omega)) | exact and31 (by assumption) | exact and31r (hW.ne (by omega)) | exact and31r (hW.gp (by omega)) | exact and31r (by decide)) (fun c_45 => False.elim (by omega)) (fun c_45 => ?_)
            refine mm_iload d_M_call_48 rfl ?_
            refine mm_ci d_M_call_49 ?_
            refine mm_iload d_M_call_50 rfl ?_
            refine mm_s1i d_M_call_52 (sp_M_ones (by first | omega | assumption | exact hW.gp (by omega) | exact hW.ne (by omega) | exact hW.op (by omega) | exact and_lt256 (hW.gp (by omega)) | exact and_lt256 (hW.ne (by omega)) | exact and_lt256 (hW.op (by omega)) | exact and_lt256 (by assumption)) ?_)
            refine mm_ciN 1 d_M_call_55 rfl ?_
            refine mm_isub d_M_call_56 ?_
            refine mm_s3i d_M_call_57 (sp_M_in ?_)
            rw [inD_n hp8 hy hz]
            refine mm_if_neN d_M_call_60 (by first | omega | exact ite01_lt | exact bt8_lt31 _ _ | exact godB_lt31 _ _ _ | exact pop_lt31 _ | assumption | exact b31 (hW.gp (by omega)) | exact b31 (hW.ne (by omega)) | exact b31 (hW.op (by omega)) | exact and31 (hW.gp (by omega)) | exact and31 (hW.ne (by omega)) | exact and31 (hW.op (by omega)) | exact and31 (by assumption) | exact and31r (hW.ne (by omega)) | exact and31r (hW.gp (by omega)) | exact and31r (by decide)) (fun c_60 => False.elim (by omega)) (fun c_60 => ?_)
            refine mm_ci d_M_call_63 ?_
            exact mm_ri d_M_call_64 ⟨rfl, gfF g1 hT⟩
        · have er := rw_eq (D := D) (N := dne D j) (n := pop (dne D j)) (pop (dne D j)) 0 t (by omega) (Nat.zero_le _) ht
          have path := cn_path hW hcn
          refine pairQ (nI (clN D (dne D j) (pop (dne D j)) (t + 1))) hJ (d := 12) (d' := 12) (by decide) (by decide) ?_ (fun μ1 hf => ?_)
          · show mm_T X 12 0 0 k_G_call 0 [some (.ref 0), some (.int (nI i)), some (.int (nI j)), some (.int (nI t)), none, none, none] [] μ _
            refine mm_aload d_G_call_0 rfl ?_
            refine mm_getP d_G_call_1 rfl (sk_o_0 hM) (sk_p_0_0 hM) ?_
            refine mm_iload d_G_call_4 rfl ?_
            refine mm_iload d_G_call_5 rfl ?_
            refine mm_v2r d_G_call_6 (sk_o_1 hM) (sp_To_coastWithWorkI hM h0 h02 hi hCD hW (by omega) ?_)
            refine mm_ast4 d_G_call_9 ?_
            refine mm_aload d_G_call_11 rfl ?_
            refine mm_ifnonnull d_G_call_13 ?_
            refine mm_aload d_G_call_18 rfl ?_
            refine mm_getP d_G_call_20 rfl hCD.1.1 (CoS_p5 hCD.1) ?_
            refine mm_iload d_G_call_23 rfl ?_
            refine mm_ialdN d_G_call_24 (CoS_a5 hCD.1) (by omega) (by decide) (hCD.f5 (by omega)) ?_
            refine mm_ist5 d_G_call_25 ?_
            refine mm_iload d_G_call_27 rfl ?_
            refine mm_s1i d_G_call_29 (sp_Int_bitCount (by first | omega | assumption | exact hW.gp (by omega) | exact hW.ne (by omega) | exact hW.op (by omega) | exact and_lt256 (hW.gp (by omega)) | exact and_lt256 (hW.ne (by omega)) | exact and_lt256 (hW.op (by omega)) | exact and_lt256 (by assumption)) ?_)
            refine mm_ist6 d_G_call_32 ?_
            refine mm_iload d_G_call_34 rfl ?_
            refine mm_ci d_G_call_35 ?_
            refine mm_icmp_lt d_G_call_36 (fun c_36 => False.elim (absurd c_36 (Int32.not_lt.mpr (Int32.le_of_lt (neg_lt (by decide) (by omega)))))) (fun c_36 => ?_)
            refine mm_iload d_G_call_39 rfl ?_
            refine mm_iload d_G_call_40 rfl ?_
            refine mm_icmp_geN d_G_call_42 (by first | omega | exact ite01_lt | exact bt8_lt31 _ _ | exact godB_lt31 _ _ _ | exact pop_lt31 _ | assumption | exact b31 (hW.gp (by omega)) | exact b31 (hW.ne (by omega)) | exact b31 (hW.op (by omega)) | exact and31 (hW.gp (by omega)) | exact and31 (hW.ne (by omega)) | exact and31 (hW.op (by omega)) | exact and31 (by assumption) | exact and31r (hW.ne (by omega)) | exact and31r (hW.gp (by omega)) | exact and31r (by decide)) (by first | omega | exact ite01_lt | exact bt8_lt31 _ _ | exact godB_lt31 _ _ _ | exact pop_lt31 _ | assumption | exact b31 (hW.gp (by omega)) | exact b31 (hW.ne (by omega)) | exact b31 (hW.op (by omega)) | exact and31 (hW.gp (by omega)) | exact and31 (hW.ne (by omega)) | exact and31 (hW.op (by omega)) | exact and31 (by assumption) | exact and31r (hW.ne (by omega)) | exact and31r (hW.gp (by omega)) | exact and31r (by decide)) (fun c_42 => False.elim (by omega)) (fun c_42 => ?_)
            refine mm_aload d_G_call_45 rfl ?_
            refine mm_getP d_G_call_46 rfl (sk_o_0 hM) (sk_p_0_4 hM) ?_
            refine mm_aload d_G_call_49 rfl ?_
            refine mm_iload d_G_call_51 rfl ?_
            refine mm_v2i d_G_call_53 (sk_o_57 hM) (sp_As_assign hM hi2 hCD hW hnd (fun _ ν f e57 e62 e58 => ?_) (fun cf => absurd cf (by rw [hcn]; decide)))
            have hM := f.2.2.2 hM
            refine mm_if_neN d_G_call_56 (by decide) (fun _ => ?_) (fun z => absurd z (by decide))
            refine mm_iload d_G_call_61 rfl ?_
            refine mm_ci d_G_call_62 ?_
            refine mm_icmp_neM1 d_G_call_63 (by omega) ?_
            refine mm_aload d_G_call_71 rfl ?_
            refine mm_getP d_G_call_72 rfl (sk_o_0 hM) (sk_p_0_4 hM) ?_
            refine mm_getP d_G_call_75 rfl (sk_o_57 hM) (sk_p_57_0 hM) ?_
            refine mm_iload d_G_call_78 rfl ?_
            refine mm_ialdN d_G_call_79 (sk_a_58 hM) (by omega) (by decide) (e58 t ht) ?_
            exact mm_ri d_G_call_80 ⟨by rw [show rwC D (dne D j) (pop (dne D j)) 0 0 t = clN D (dne D j) (pop (dne D j)) (t + 1) from er], f, hw.cg e57 e62⟩
          · show mm_T X 12 0 0 k_M_call 0 [some (.ref 71), some (.int (nI i)), some (.int (nI j)), some (.int (nI t)), none, none, none, none] [] μ1 _
            replace hM := hf.2.2.2 hM
            replace m0 : mm_I μ1 76 0 = nI c := by rw [(hf.2.2.1 76 rfl).1]; exact m0
            replace hDM := hDM.frC hf
            refine mm_aload d_M_call_0 rfl ?_
            refine mm_ciN 0 d_M_call_1 rfl ?_
            refine mm_putI d_M_call_2 rfl (sk_o_71 hM) (Or.inl rfl) ?_
            refine mm_aload d_M_call_5 rfl ?_
            refine mm_iload d_M_call_6 rfl ?_
            refine mm_v1i d_M_call_7 (sk_o_71 hM) (sp_M_handN hM (by first | exact m0 | (rw [mm_sI_off (by decide)]; exact m0)) h02 hi (by first | exact hDM | exact hDM.eq (mm_sI_off (by decide))) hW (fun μ2 g1 hH hZ => ?_))
            replace hM := hH.1
            refine mm_if_eqN d_M_call_10 (by first | omega | exact ite01_lt | exact bt8_lt31 _ _ | exact godB_lt31 _ _ _ | exact pop_lt31 _ | assumption | exact b31 (hW.gp (by omega)) | exact b31 (hW.ne (by omega)) | exact b31 (hW.op (by omega)) | exact and31 (hW.gp (by omega)) | exact and31 (hW.ne (by omega)) | exact and31 (hW.op (by omega)) | exact and31 (by assumption) | exact and31r (hW.ne (by omega)) | exact and31r (hW.gp (by omega)) | exact and31r (by decide)) (fun c_10 => False.elim (by omega)) (fun c_10 => ?_)
            refine mm_aload d_M_call_13 rfl ?_
            refine mm_iload d_M_call_14 rfl ?_
            refine mm_v1i d_M_call_15 (sk_o_71 hM) (sp_M_isWorkT hH (by omega) ?_)
            refine mm_if_neN d_M_call_18 (by first | omega | exact ite01_lt | exact bt8_lt31 _ _ | exact godB_lt31 _ _ _ | exact pop_lt31 _ | assumption | exact b31 (hW.gp (by omega)) | exact b31 (hW.ne (by omega)) | exact b31 (hW.op (by omega)) | exact and31 (hW.gp (by omega)) | exact and31 (hW.ne (by omega)) | exact and31 (hW.op (by omega)) | exact and31 (by assumption) | exact and31r (hW.ne (by omega)) | exact and31r (hW.gp (by omega)) | exact and31r (by decide)) (fun c_18 => ?_) (fun c_18 => False.elim (by omega))
            refine mm_aload d_M_call_23 rfl ?_
            refine mm_ciN 38 d_M_call_24 rfl ?_
            refine mm_iload d_M_call_26 rfl ?_
            refine mm_iaddN d_M_call_27 ?_
            refine mm_v1i d_M_call_28 (sk_o_71 hM) (sp_M_ofN hH (by omega) (hH.f5 (by omega)) ?_)
            refine mm_ist4 d_M_call_31 ?_
            refine mm_aload d_M_call_33 rfl ?_
            refine mm_iload d_M_call_34 rfl ?_
            refine mm_v1v d_M_call_36 (sk_o_71 hM) (sp_M_findCalls hH hnd (fun ν hT => ?_))
            have hM := hT.2.1.1
            refine mm_aload d_M_call_39 rfl ?_
            refine mm_getP d_M_call_40 rfl (sk_o_71 hM) (sk_p_71_34 hM) ?_
            refine mm_ciN 0 d_M_call_43 rfl ?_
            refine mm_zaldN d_M_call_44 (sk_a_85 hM) (by omega) (by decide) (show _ = nI 1 from t0 hT) ?_
            refine mm_if_eqN d_M_call_45 (by first | omega | exact ite01_lt | exact bt8_lt31 _ _ | exact godB_lt31 _ _ _ | exact pop_lt31 _ | assumption | exact b31 (hW.gp (by omega)) | exact b31 (hW.ne (by omega)) | exact b31 (hW.op (by omega)) | exact and31 (hW.gp (by omega)) | exact and31 (hW.ne (by omega)) | exact and31 (hW.op (by omega)) | exact and31 (by assumption) | exact and31r (hW.ne (by omega)) | exact and31r (hW.gp (by omega)) | exact and31r (by decide)) (fun c_45 => False.elim (by omega)) (fun c_45 => ?_)
            refine mm_iload d_M_call_48 rfl ?_
            refine mm_ci d_M_call_49 ?_
            refine mm_iload d_M_call_50 rfl ?_
            refine mm_s1i d_M_call_52 (sp_M_ones (by first | omega | assumption | exact hW.gp (by omega) | exact hW.ne (by omega) | exact hW.op (by omega) | exact and_lt256 (hW.gp (by omega)) | exact and_lt256 (hW.ne (by omega)) | exact and_lt256 (hW.op (by omega)) | exact and_lt256 (by assumption)) ?_)
            refine mm_ciN 1 d_M_call_55 rfl ?_
            refine mm_isub d_M_call_56 ?_
            refine mm_s3i d_M_call_57 (sp_M_in ?_)
            rw [inD_i _ hp8 t ht]
            refine mm_if_neN d_M_call_60 (by first | omega | exact ite01_lt | exact bt8_lt31 _ _ | exact godB_lt31 _ _ _ | exact pop_lt31 _ | assumption | exact b31 (hW.gp (by omega)) | exact b31 (hW.ne (by omega)) | exact b31 (hW.op (by omega)) | exact and31 (hW.gp (by omega)) | exact and31 (hW.ne (by omega)) | exact and31 (hW.op (by omega)) | exact and31 (by assumption) | exact and31r (hW.ne (by omega)) | exact and31r (hW.gp (by omega)) | exact and31r (by decide)) (fun c_60 => ?_) (fun c_60 => False.elim (by omega))
            refine mm_iload d_M_call_65 rfl ?_
            refine mm_ci d_M_call_66 ?_
            refine mm_icmp_neM1 d_M_call_67 (by first | omega | exact ite01_lt | exact bt8_lt31 _ _ | exact godB_lt31 _ _ _ | exact pop_lt31 _ | assumption | exact b31 (hW.gp (by omega)) | exact b31 (hW.ne (by omega)) | exact b31 (hW.op (by omega)) | exact and31 (hW.gp (by omega)) | exact and31 (hW.ne (by omega)) | exact and31 (hW.op (by omega)) | exact and31 (by assumption) | exact and31r (hW.ne (by omega)) | exact and31r (hW.gp (by omega)) | exact and31r (by decide)) ?_
            refine mm_ciN 0 d_M_call_76 rfl ?_
            refine mm_ist5 d_M_call_77 ?_
            refine mm_ciN 0 d_M_call_79 rfl ?_
            refine mm_ist6 d_M_call_80 ?_
            refine mm_ciN 0 d_M_call_82 rfl ?_
            refine mm_ist7 d_M_call_83 ?_
            generalize hN : dne D j = N at *
            have hHT := hT.2.1
            refine mm_up (P := fun a => mm_T X 12 0 0 k_M_call 85 [some (.ref 71), some (.int (nI i)), some (.int (nI j)), some (.int (nI t)), some (.int (nI N)), some (.int (nI (hdN D N (pop N) a))), some (.int (nI (clN D N (pop N) a))), some (.int (nI a))] [] ν _) (t + 1) ?_ ?_
            · refine mm_iload d_M_call_85 rfl ?_
              refine mm_iload d_M_call_87 rfl ?_
              refine mm_icmp_gtN d_M_call_88 (by first | omega | exact ite01_lt | exact bt8_lt31 _ _ | exact godB_lt31 _ _ _ | exact pop_lt31 _ | assumption | exact b31 (hW.gp (by omega)) | exact b31 (hW.ne (by omega)) | exact b31 (hW.op (by omega)) | exact and31 (hW.gp (by omega)) | exact and31 (hW.ne (by omega)) | exact and31 (hW.op (by omega)) | exact and31 (by assumption) | exact and31r (hW.ne (by omega)) | exact and31r (hW.gp (by omega)) | exact and31r (by decide)) (by first | omega | exact ite01_lt | exact bt8_lt31 _ _ | exact godB_lt31 _ _ _ | exact pop_lt31 _ | assumption | exact b31 (hW.gp (by omega)) | exact b31 (hW.ne (by omega)) | exact b31 (hW.op (by omega)) | exact and31 (hW.gp (by omega)) | exact and31 (hW.ne (by omega)) | exact and31 (hW.op (by omega)) | exact and31 (by assumption) | exact and31r (hW.ne (by omega)) | exact and31r (hW.gp (by omega)) | exact and31r (by decide)) (fun c_88 => ?_) (fun c_88 => False.elim (by omega))
              refine mm_iload d_M_call_130 rfl ?_
              exact mm_ri d_M_call_132 ⟨rfl, gfF g1 hT⟩
            · intro a ha IH
              obtain ⟨q1, q2⟩ := path a (by omega)
              rw [show pop N - a = (pop N - (a + 1)) + 1 by omega] at q1
              obtain ⟨n1, n2, n3, n4⟩ := cn_next q1
              have htb := fun h' hh' => hT.2.2 (a + 1) h' (Nat.zero_le _) (by omega) hh'
              refine mm_iload d_M_call_85 rfl ?_
              refine mm_iload d_M_call_87 rfl ?_
              refine mm_icmp_gtN d_M_call_88 (by first | omega | exact ite01_lt | exact bt8_lt31 _ _ | exact godB_lt31 _ _ _ | exact pop_lt31 _ | assumption | exact b31 (hW.gp (by omega)) | exact b31 (hW.ne (by omega)) | exact b31 (hW.op (by omega)) | exact and31 (hW.gp (by omega)) | exact and31 (hW.ne (by omega)) | exact and31 (hW.op (by omega)) | exact and31 (by assumption) | exact and31r (hW.ne (by omega)) | exact and31r (hW.gp (by omega)) | exact and31r (by decide)) (by first | omega | exact ite01_lt | exact bt8_lt31 _ _ | exact godB_lt31 _ _ _ | exact pop_lt31 _ | assumption | exact b31 (hW.gp (by omega)) | exact b31 (hW.ne (by omega)) | exact b31 (hW.op (by omega)) | exact and31 (hW.gp (by omega)) | exact and31 (hW.ne (by omega)) | exact and31 (hW.op (by omega)) | exact and31 (by assumption) | exact and31r (hW.ne (by omega)) | exact and31r (hW.gp (by omega)) | exact and31r (by decide)) (fun c_88 => False.elim (by omega)) (fun c_88 => ?_)
              refine mm_ciN 0 d_M_call_91 rfl ?_
              refine mm_ist6 d_M_call_92 ?_
              refine mm_up (P := fun c => mm_T X 12 0 0 k_M_call 94 [some (.ref 71), some (.int (nI i)), some (.int (nI j)), some (.int (nI t)), some (.int (nI N)), some (.int (nI (hdN D N (pop N) a))), some (.int (nI c)), some (.int (nI a))] [] ν _) (fc D N (pop N - (a + 1)) a (hdN D N (pop N) a)) ?_ ?_
              · refine mm_aload d_M_call_94 rfl ?_
                refine mm_iload d_M_call_95 rfl ?_
                refine mm_iload d_M_call_97 rfl ?_
                refine mm_iload d_M_call_99 rfl ?_
                refine mm_iload d_M_call_101 rfl ?_
                refine mm_v4i d_M_call_103 (sk_o_71 hM) (sp_M_callBy hHT hnd (by omega) q2 n1 htb ?_)
                rw [if_pos n2]
                refine mm_if_neN d_M_call_106 (by first | omega | exact ite01_lt | exact bt8_lt31 _ _ | exact godB_lt31 _ _ _ | exact pop_lt31 _ | assumption | exact b31 (hW.gp (by omega)) | exact b31 (hW.ne (by omega)) | exact b31 (hW.op (by omega)) | exact and31 (hW.gp (by omega)) | exact and31 (hW.ne (by omega)) | exact and31 (hW.op (by omega)) | exact and31 (by assumption) | exact and31r (hW.ne (by omega)) | exact and31r (hW.gp (by omega)) | exact and31r (by decide)) (fun c_106 => ?_) (fun c_106 => False.elim (by omega))
                refine mm_iload d_M_call_115 rfl ?_
                refine mm_ciN 1 d_M_call_117 rfl ?_
                refine mm_iload d_M_call_118 rfl ?_
                refine mm_ishl1N d_M_call_120 (by omega) ?_
                refine mm_iorN d_M_call_121 ?_
                refine mm_ist5 d_M_call_122 ?_
                refine mm_inc7N d_M_call_124 ?_
                refine mm_goto d_M_call_127 ?_
                exact IH
              · intro c hc IH2
                refine mm_aload d_M_call_94 rfl ?_
                refine mm_iload d_M_call_95 rfl ?_
                refine mm_iload d_M_call_97 rfl ?_
                refine mm_iload d_M_call_99 rfl ?_
                refine mm_iload d_M_call_101 rfl ?_
                refine mm_v4i d_M_call_103 (sk_o_71 hM) (sp_M_callBy hHT hnd (by omega) q2 (by omega) htb ?_)
                rw [if_neg (n3 c hc)]
                refine mm_if_neN d_M_call_106 (by first | omega | exact ite01_lt | exact bt8_lt31 _ _ | exact godB_lt31 _ _ _ | exact pop_lt31 _ | assumption | exact b31 (hW.gp (by omega)) | exact b31 (hW.ne (by omega)) | exact b31 (hW.op (by omega)) | exact and31 (hW.gp (by omega)) | exact and31 (hW.ne (by omega)) | exact and31 (hW.op (by omega)) | exact and31 (by assumption) | exact and31r (hW.ne (by omega)) | exact and31r (hW.gp (by omega)) | exact and31r (by decide)) (fun c_106 => False.elim (by omega)) (fun c_106 => ?_)
                refine mm_inc6N d_M_call_109 ?_
                refine mm_goto d_M_call_112 ?_
                exact IH2
