/-! pairs: more questions of a coast -/
theorem and31r {a b : Nat} (h : b < 256) : a &&& b < 2 ^ 31 := Nat.lt_of_le_of_lt Nat.and_le_right (b31 h)
theorem rng_dead {y a b : Int32} (h : y < a ∨ b < y) (h1 : ¬ y < a) (h2 : y ≤ b) : False := by
  rcases h with z | z
  · exact h1 z
  · exact absurd h2 (Int32.not_le.mpr z)
theorem m1_lt {a : Nat} (h : a < 2 ^ 31) : (-1 : Int32) < nI a := Int32.lt_iff_toInt_lt.mpr (by rw [nI_toInt h]; exact Int.lt_of_lt_of_le (by decide : (-1 : Int32).toInt < 0) (Int.natCast_nonneg a))
def keptK (D : mm_D) (c n : Nat) : Nat → Nat
  | 0 => 0
  | w + 1 => keptK D c n w + (if bt8 (dgp D c) w = 0 then 0 else (n - 1) / dpa D w)
theorem pair_kept {X : mm_X} {k : Nat} {μ : mm_M} (hJ : JJ k μ) (y1 y2 y3 : Int32) : PairI X (JJ (k + 1)) k_G_kept k_M_kept [.int y1, .int y2, .int y3] μ := by
  obtain ⟨c, h02, h0, m0, hv⟩ := hJ.coast y1
  have hM := hJ.1
  have hw := hJ.2.2.2.up
  rcases hv with hx | ⟨i, D, hi, rfl, hW, hCD, hDM⟩
  · exact pairQ (-1) hJ (d := 2) (d' := 4) (by decide) (by decide) (n_G_kept hM h0 h02 hx ⟨rfl, Fr.rf, hw⟩) (fun μ1 hf => n_M_kept (hf.2.2.2 hM) (by rw [(hf.2.2.1 76 rfl).1]; exact m0) h02 hx (fun μ' hk => ⟨rfl, hk.fr (hf.2.2.2 hM)⟩))
  have hn6 := hW.1
  have hw6 := hW.2.1
  rcases rng_or y3 (a := 1) (b := 99) (by decide) (by decide) with ⟨hz, hz2⟩ | ⟨n, hn1, hn2, rfl⟩
  · refine pairQ (-1) hJ (d := 12) (d' := 12) (by decide) (by decide) ?_ (fun μ1 hf => ?_)
    · rcases atF_or (c := dn D) (by omega) y2 with hz | ⟨a, ha, rfl⟩
      · show mm_T X 12 0 0 k_G_kept 0 [some (.ref 0), some (.int (nI i)), some (.int y2), some (.int y3), none, none, none] [] μ _
        refine mm_aload d_G_kept_0 rfl ?_
        refine mm_getP d_G_kept_1 rfl (sk_o_0 hM) (sk_p_0_0 hM) ?_
        refine mm_iload d_G_kept_4 rfl ?_
        refine mm_iload d_G_kept_5 rfl ?_
        refine mm_v2r d_G_kept_6 (sk_o_1 hM) (sp_To_coastWithChildN hM h0 h02 hi hCD hz ?_)
        refine mm_astN4 d_G_kept_9 ?_
        refine mm_aloadN d_G_kept_11 rfl ?_
        refine mm_ifnullN d_G_kept_13 ?_
        refine mm_ci d_G_kept_27 ?_
        exact mm_ri d_G_kept_28 ⟨rfl, Fr.rf, hw⟩
      · show mm_T X 12 0 0 k_G_kept 0 [some (.ref 0), some (.int (nI i)), some (.int (nI a)), some (.int y3), none, none, none] [] μ _
        refine mm_aload d_G_kept_0 rfl ?_
        refine mm_getP d_G_kept_1 rfl (sk_o_0 hM) (sk_p_0_0 hM) ?_
        refine mm_iload d_G_kept_4 rfl ?_
        refine mm_iload d_G_kept_5 rfl ?_
        refine mm_v2r d_G_kept_6 (sk_o_1 hM) (sp_To_coastWithChildI hM h0 h02 hi hCD hW (by omega) ?_)
        refine mm_ast4 d_G_kept_9 ?_
        refine mm_aload d_G_kept_11 rfl ?_
        refine mm_ifnull d_G_kept_13 ?_
        refine mm_iload d_G_kept_16 rfl ?_
        refine mm_ciN 1 d_G_kept_17 rfl ?_
        refine mm_icmp_lt d_G_kept_18 (fun c_18 => ?_) (fun c_18 => ?_)
        · refine mm_ci d_G_kept_27 ?_
          exact mm_ri d_G_kept_28 ⟨rfl, Fr.rf, hw⟩
        · refine mm_iload d_G_kept_21 rfl ?_
          refine mm_ciN 99 d_G_kept_22 rfl ?_
          refine mm_icmp_le d_G_kept_24 (fun c_24 => False.elim (rng_dead hz2 c_18 c_24)) (fun c_24 => ?_)
          refine mm_ci d_G_kept_27 ?_
          exact mm_ri d_G_kept_28 ⟨rfl, Fr.rf, hw⟩
    · show mm_T X 12 0 0 k_M_kept 0 [some (.ref 71), some (.int (nI i)), some (.int y2), some (.int y3), none, none] [] μ1 _
      replace hM := hf.2.2.2 hM
      replace m0 : mm_I μ1 76 0 = nI c := by rw [(hf.2.2.1 76 rfl).1]; exact m0
      replace hDM := hDM.frC hf
      refine mm_aload d_M_kept_0 rfl ?_
      refine mm_ciN 0 d_M_kept_1 rfl ?_
      refine mm_putI d_M_kept_2 rfl (sk_o_71 hM) (Or.inl rfl) ?_
      refine mm_iload d_M_kept_5 rfl ?_
      refine mm_ciN 1 d_M_kept_6 rfl ?_
      refine mm_ciN 99 d_M_kept_7 rfl ?_
      refine mm_s3i d_M_kept_9 (sp_M_inB hz ?_)
      refine mm_if_eqN d_M_kept_12 (by first | omega | exact bt8_lt31 _ _ | exact godB_lt31 _ _ _ | exact pop_lt31 _ | assumption | exact b31 (hW.gp (by omega)) | exact b31 (hW.ne (by omega)) | exact b31 (hW.op (by omega)) | exact and31 (hW.gp (by omega)) | exact and31 (hW.ne (by omega)) | exact and31 (hW.op (by omega)) | exact and31 (by assumption) | exact and31r (hW.ne (by omega)) | exact and31r (hW.gp (by omega))) (fun c_12 => ?_) (fun c_12 => False.elim (by omega))
      refine mm_ci d_M_kept_31 ?_
      exact mm_ri d_M_kept_32 ⟨rfl, Fr.rf.sI rfl⟩
  · rcases atF_or (c := dn D) (by omega) y2 with hz | ⟨a, ha, rfl⟩
    · refine pairQ (-1) hJ (d := 12) (d' := 12) (by decide) (by decide) ?_ (fun μ1 hf => ?_)
      · show mm_T X 12 0 0 k_G_kept 0 [some (.ref 0), some (.int (nI i)), some (.int y2), some (.int (nI n)), none, none, none] [] μ _
        refine mm_aload d_G_kept_0 rfl ?_
        refine mm_getP d_G_kept_1 rfl (sk_o_0 hM) (sk_p_0_0 hM) ?_
        refine mm_iload d_G_kept_4 rfl ?_
        refine mm_iload d_G_kept_5 rfl ?_
        refine mm_v2r d_G_kept_6 (sk_o_1 hM) (sp_To_coastWithChildN hM h0 h02 hi hCD hz ?_)
        refine mm_astN4 d_G_kept_9 ?_
        refine mm_aloadN d_G_kept_11 rfl ?_
        refine mm_ifnullN d_G_kept_13 ?_
        refine mm_ci d_G_kept_27 ?_
        exact mm_ri d_G_kept_28 ⟨rfl, Fr.rf, hw⟩
      · show mm_T X 12 0 0 k_M_kept 0 [some (.ref 71), some (.int (nI i)), some (.int y2), some (.int (nI n)), none, none] [] μ1 _
        replace hM := hf.2.2.2 hM
        replace m0 : mm_I μ1 76 0 = nI c := by rw [(hf.2.2.1 76 rfl).1]; exact m0
        replace hDM := hDM.frC hf
        refine mm_aload d_M_kept_0 rfl ?_
        refine mm_ciN 0 d_M_kept_1 rfl ?_
        refine mm_putI d_M_kept_2 rfl (sk_o_71 hM) (Or.inl rfl) ?_
        refine mm_iload d_M_kept_5 rfl ?_
        refine mm_ciN 1 d_M_kept_6 rfl ?_
        refine mm_ciN 99 d_M_kept_7 rfl ?_
        refine mm_s3i d_M_kept_9 (sp_M_inT (by omega) (by omega) (by omega) ?_)
        refine mm_if_eqN d_M_kept_12 (by first | omega | exact bt8_lt31 _ _ | exact godB_lt31 _ _ _ | exact pop_lt31 _ | assumption | exact b31 (hW.gp (by omega)) | exact b31 (hW.ne (by omega)) | exact b31 (hW.op (by omega)) | exact and31 (hW.gp (by omega)) | exact and31 (hW.ne (by omega)) | exact and31 (hW.op (by omega)) | exact and31 (by assumption) | exact and31r (hW.ne (by omega)) | exact and31r (hW.gp (by omega))) (fun c_12 => False.elim (by omega)) (fun c_12 => ?_)
        refine mm_aload d_M_kept_15 rfl ?_
        refine mm_iload d_M_kept_16 rfl ?_
        refine mm_v1i d_M_kept_17 (sk_o_71 hM) (sp_M_handN hM (by first | exact m0 | (rw [mm_sI_off (by decide)]; exact m0)) h02 hi (by first | exact hDM | exact hDM.eq (mm_sI_off (by decide))) hW (fun μ2 g1 hH hZ => ?_))
        replace hM := hH.1
        refine mm_if_eqN d_M_kept_20 (by first | omega | exact bt8_lt31 _ _ | exact godB_lt31 _ _ _ | exact pop_lt31 _ | assumption | exact b31 (hW.gp (by omega)) | exact b31 (hW.ne (by omega)) | exact b31 (hW.op (by omega)) | exact and31 (hW.gp (by omega)) | exact and31 (hW.ne (by omega)) | exact and31 (hW.op (by omega)) | exact and31 (by assumption) | exact and31r (hW.ne (by omega)) | exact and31r (hW.gp (by omega))) (fun c_20 => False.elim (by omega)) (fun c_20 => ?_)
        refine mm_aload d_M_kept_23 rfl ?_
        refine mm_iload d_M_kept_24 rfl ?_
        refine mm_v1i d_M_kept_25 (sk_o_71 hM) (sp_M_isChildB hH hz ?_)
        refine mm_if_neN d_M_kept_28 (by first | omega | exact bt8_lt31 _ _ | exact godB_lt31 _ _ _ | exact pop_lt31 _ | assumption | exact b31 (hW.gp (by omega)) | exact b31 (hW.ne (by omega)) | exact b31 (hW.op (by omega)) | exact and31 (hW.gp (by omega)) | exact and31 (hW.ne (by omega)) | exact and31 (hW.op (by omega)) | exact and31 (by assumption) | exact and31r (hW.ne (by omega)) | exact and31r (hW.gp (by omega))) (fun c_28 => False.elim (by omega)) (fun c_28 => ?_)
        refine mm_ci d_M_kept_31 ?_
        exact mm_ri d_M_kept_32 ⟨rfl, (Fr.rf.sI rfl).trans g1⟩
    · refine pairQ (nI (keptK D a n 8)) hJ (d := 12) (d' := 12) (by decide) (by decide) ?_ (fun μ1 hf => ?_)
      · show mm_T X 12 0 0 k_G_kept 0 [some (.ref 0), some (.int (nI i)), some (.int (nI a)), some (.int (nI n)), none, none, none] [] μ _
        refine mm_aload d_G_kept_0 rfl ?_
        refine mm_getP d_G_kept_1 rfl (sk_o_0 hM) (sk_p_0_0 hM) ?_
        refine mm_iload d_G_kept_4 rfl ?_
        refine mm_iload d_G_kept_5 rfl ?_
        refine mm_v2r d_G_kept_6 (sk_o_1 hM) (sp_To_coastWithChildI hM h0 h02 hi hCD hW (by omega) ?_)
        refine mm_ast4 d_G_kept_9 ?_
        refine mm_aload d_G_kept_11 rfl ?_
        refine mm_ifnull d_G_kept_13 ?_
        refine mm_iload d_G_kept_16 rfl ?_
        refine mm_ciN 1 d_G_kept_17 rfl ?_
        refine mm_icmp_ltN d_G_kept_18 (by first | omega | exact bt8_lt31 _ _ | exact godB_lt31 _ _ _ | exact pop_lt31 _ | assumption | exact b31 (hW.gp (by omega)) | exact b31 (hW.ne (by omega)) | exact b31 (hW.op (by omega)) | exact and31 (hW.gp (by omega)) | exact and31 (hW.ne (by omega)) | exact and31 (hW.op (by omega)) | exact and31 (by assumption) | exact and31r (hW.ne (by omega)) | exact and31r (hW.gp (by omega))) (by first | omega | exact bt8_lt31 _ _ | exact godB_lt31 _ _ _ | exact pop_lt31 _ | assumption | exact b31 (hW.gp (by omega)) | exact b31 (hW.ne (by omega)) | exact b31 (hW.op (by omega)) | exact and31 (hW.gp (by omega)) | exact and31 (hW.ne (by omega)) | exact and31 (hW.op (by omega)) | exact and31 (by assumption) | exact and31r (hW.ne (by omega)) | exact and31r (hW.gp (by omega))) (fun c_18 => False.elim (by omega)) (fun c_18 => ?_)
        refine mm_iload d_G_kept_21 rfl ?_
        refine mm_ciN 99 d_G_kept_22 rfl ?_
        refine mm_icmp_leN d_G_kept_24 (by first | omega | exact bt8_lt31 _ _ | exact godB_lt31 _ _ _ | exact pop_lt31 _ | assumption | exact b31 (hW.gp (by omega)) | exact b31 (hW.ne (by omega)) | exact b31 (hW.op (by omega)) | exact and31 (hW.gp (by omega)) | exact and31 (hW.ne (by omega)) | exact and31 (hW.op (by omega)) | exact and31 (by assumption) | exact and31r (hW.ne (by omega)) | exact and31r (hW.gp (by omega))) (by first | omega | exact bt8_lt31 _ _ | exact godB_lt31 _ _ _ | exact pop_lt31 _ | assumption | exact b31 (hW.gp (by omega)) | exact b31 (hW.ne (by omega)) | exact b31 (hW.op (by omega)) | exact and31 (hW.gp (by omega)) | exact and31 (hW.ne (by omega)) | exact and31 (hW.op (by omega)) | exact and31 (by assumption) | exact and31r (hW.ne (by omega)) | exact and31r (hW.gp (by omega))) (fun c_24 => ?_) (fun c_24 => False.elim (by omega))
        refine mm_ciN 0 d_G_kept_29 rfl ?_
        refine mm_ist5 d_G_kept_30 ?_
        refine mm_ciN 0 d_G_kept_32 rfl ?_
        refine mm_ist6 d_G_kept_33 ?_
        generalize 4 + 7 * i = ad at hCD ⊢
        generalize nI i = l1
        refine mm_up (P := fun i => mm_T X _ 0 0 k_G_kept 35 [some (.ref 0), some (.int l1), some (.int (nI a)), some (.int (nI n)), some (.ref ad), some (.int (nI (keptK D a n i))), some (.int (nI i))] [] μ _) (8) ?_ (fun i hi ih => ?_)
        · refine mm_iload d_G_kept_35 rfl ?_
          refine mm_ciN 8 d_G_kept_37 rfl ?_
          refine mm_icmp_geN d_G_kept_39 (by first | omega | exact bt8_lt31 _ _ | exact godB_lt31 _ _ _ | exact pop_lt31 _ | assumption | exact b31 (hW.gp (by omega)) | exact b31 (hW.ne (by omega)) | exact b31 (hW.op (by omega)) | exact and31 (hW.gp (by omega)) | exact and31 (hW.ne (by omega)) | exact and31 (hW.op (by omega)) | exact and31 (by assumption) | exact and31r (hW.ne (by omega)) | exact and31r (hW.gp (by omega))) (by first | omega | exact bt8_lt31 _ _ | exact godB_lt31 _ _ _ | exact pop_lt31 _ | assumption | exact b31 (hW.gp (by omega)) | exact b31 (hW.ne (by omega)) | exact b31 (hW.op (by omega)) | exact and31 (hW.gp (by omega)) | exact and31 (hW.ne (by omega)) | exact and31 (hW.op (by omega)) | exact and31 (by assumption) | exact and31r (hW.ne (by omega)) | exact and31r (hW.gp (by omega))) (fun c_39 => ?_) (fun c_39 => False.elim (by omega))
          refine mm_iload d_G_kept_87 rfl ?_
          exact mm_ri d_G_kept_89 ⟨rfl, Fr.rf, hw⟩
        · refine mm_iload d_G_kept_35 rfl ?_
          refine mm_ciN 8 d_G_kept_37 rfl ?_
          have hp1 := hW.pa1 hi
          have hp9 := hW.pa hi
          refine mm_icmp_geN d_G_kept_39 (by first | omega | exact bt8_lt31 _ _ | exact godB_lt31 _ _ _ | exact pop_lt31 _ | assumption | exact b31 (hW.gp (by omega)) | exact b31 (hW.ne (by omega)) | exact b31 (hW.op (by omega)) | exact and31 (hW.gp (by omega)) | exact and31 (hW.ne (by omega)) | exact and31 (hW.op (by omega)) | exact and31 (by assumption) | exact and31r (hW.ne (by omega)) | exact and31r (hW.gp (by omega))) (by first | omega | exact bt8_lt31 _ _ | exact godB_lt31 _ _ _ | exact pop_lt31 _ | assumption | exact b31 (hW.gp (by omega)) | exact b31 (hW.ne (by omega)) | exact b31 (hW.op (by omega)) | exact and31 (hW.gp (by omega)) | exact and31 (hW.ne (by omega)) | exact and31 (hW.op (by omega)) | exact and31 (by assumption) | exact and31r (hW.ne (by omega)) | exact and31r (hW.gp (by omega))) (fun c_39 => False.elim (by omega)) (fun c_39 => ?_)
          refine mm_aload d_G_kept_42 rfl ?_
          refine mm_iload d_G_kept_44 rfl ?_
          refine mm_iload d_G_kept_45 rfl ?_
          refine mm_v2i d_G_kept_47 hCD.1.1 (sp_Co_isGodparent hCD hW (by omega) (by omega) ?_)
          rw [godB_in ha]
          refine mm_if_eqN d_G_kept_50 (by first | omega | exact bt8_lt31 _ _ | exact godB_lt31 _ _ _ | exact pop_lt31 _ | assumption | exact b31 (hW.gp (by omega)) | exact b31 (hW.ne (by omega)) | exact b31 (hW.op (by omega)) | exact and31 (hW.gp (by omega)) | exact and31 (hW.ne (by omega)) | exact and31 (hW.op (by omega)) | exact and31 (by assumption) | exact and31r (hW.ne (by omega)) | exact and31r (hW.gp (by omega))) (fun c_50 => ?_) (fun c_50 => ?_)
          · refine mm_inc6N d_G_kept_81 ?_
            refine mm_goto d_G_kept_84 ?_
            first
              | exact ih
              | (have z := ih; simp only [keptK, if_pos c_50] at z; exact z)
              | (have z := ih; simp only [keptK, if_pos c_50, Nat.or_zero, Nat.add_zero] at z; exact z)
              | (have z := ih; simp only [keptK, if_pos c_50, Nat.mul_one] at z; exact z)
              | (have z := ih; simp only [keptK, if_neg c_50] at z; exact z)
              | (have z := ih; simp only [keptK, if_neg c_50, Nat.or_zero, Nat.add_zero] at z; exact z)
              | (have z := ih; simp only [keptK, if_neg c_50, Nat.mul_one] at z; exact z)
              | (have z := ih; simp only [keptK, if_neg (Nat.not_lt.mpr c_50)] at z; exact z)
              | (have z := ih; simp only [keptK, if_neg (Nat.not_lt.mpr c_50), Nat.or_zero, Nat.add_zero] at z; exact z)
              | (have z := ih; simp only [keptK, if_neg (Nat.not_lt.mpr c_50), Nat.mul_one] at z; exact z)
              | (have z := ih; simp only [keptK, if_neg (Nat.not_le.mpr c_50)] at z; exact z)
              | (have z := ih; simp only [keptK, if_neg (Nat.not_le.mpr c_50), Nat.or_zero, Nat.add_zero] at z; exact z)
              | (have z := ih; simp only [keptK, if_neg (Nat.not_le.mpr c_50), Nat.mul_one] at z; exact z)
          · refine mm_aload d_G_kept_53 rfl ?_
            refine mm_getP d_G_kept_55 rfl hCD.1.1 (CoS_p1 hCD.1) ?_
            refine mm_iload d_G_kept_58 rfl ?_
            refine mm_ialdN d_G_kept_60 (CoS_a1 hCD.1) (by omega) (by decide) (hCD.f1 (by omega)) ?_
            refine mm_if_leN d_G_kept_61 (by first | omega | exact bt8_lt31 _ _ | exact godB_lt31 _ _ _ | exact pop_lt31 _ | assumption | exact b31 (hW.gp (by omega)) | exact b31 (hW.ne (by omega)) | exact b31 (hW.op (by omega)) | exact and31 (hW.gp (by omega)) | exact and31 (hW.ne (by omega)) | exact and31 (hW.op (by omega)) | exact and31 (by assumption) | exact and31r (hW.ne (by omega)) | exact and31r (hW.gp (by omega))) (fun c_61 => False.elim (by omega)) (fun c_61 => ?_)
            refine mm_iload d_G_kept_64 rfl ?_
            refine mm_iload d_G_kept_66 rfl ?_
            refine mm_ciN 1 d_G_kept_67 rfl ?_
            refine mm_isubN d_G_kept_68 (by omega) ?_
            refine mm_aload d_G_kept_69 rfl ?_
            refine mm_getP d_G_kept_71 rfl hCD.1.1 (CoS_p1 hCD.1) ?_
            refine mm_iload d_G_kept_74 rfl ?_
            refine mm_ialdN d_G_kept_76 (CoS_a1 hCD.1) (by omega) (by decide) (hCD.f1 (by omega)) ?_
            refine mm_idivN d_G_kept_77 (by first | omega | exact bt8_lt31 _ _ | exact godB_lt31 _ _ _ | exact pop_lt31 _ | assumption | exact b31 (hW.gp (by omega)) | exact b31 (hW.ne (by omega)) | exact b31 (hW.op (by omega)) | exact and31 (hW.gp (by omega)) | exact and31 (hW.ne (by omega)) | exact and31 (hW.op (by omega)) | exact and31 (by assumption) | exact and31r (hW.ne (by omega)) | exact and31r (hW.gp (by omega))) (by omega) (by omega) ?_
            refine mm_iaddN d_G_kept_78 ?_
            refine mm_ist5 d_G_kept_79 ?_
            refine mm_inc6N d_G_kept_81 ?_
            refine mm_goto d_G_kept_84 ?_
            first
              | exact ih
              | (have z := ih; simp only [keptK, if_pos c_50] at z; exact z)
              | (have z := ih; simp only [keptK, if_pos c_50, Nat.or_zero, Nat.add_zero] at z; exact z)
              | (have z := ih; simp only [keptK, if_pos c_50, Nat.mul_one] at z; exact z)
              | (have z := ih; simp only [keptK, if_neg c_50] at z; exact z)
              | (have z := ih; simp only [keptK, if_neg c_50, Nat.or_zero, Nat.add_zero] at z; exact z)
              | (have z := ih; simp only [keptK, if_neg c_50, Nat.mul_one] at z; exact z)
              | (have z := ih; simp only [keptK, if_neg (Nat.not_lt.mpr c_50)] at z; exact z)
              | (have z := ih; simp only [keptK, if_neg (Nat.not_lt.mpr c_50), Nat.or_zero, Nat.add_zero] at z; exact z)
              | (have z := ih; simp only [keptK, if_neg (Nat.not_lt.mpr c_50), Nat.mul_one] at z; exact z)
              | (have z := ih; simp only [keptK, if_neg (Nat.not_le.mpr c_50)] at z; exact z)
              | (have z := ih; simp only [keptK, if_neg (Nat.not_le.mpr c_50), Nat.or_zero, Nat.add_zero] at z; exact z)
              | (have z := ih; simp only [keptK, if_neg (Nat.not_le.mpr c_50), Nat.mul_one] at z; exact z)
      · show mm_T X 12 0 0 k_M_kept 0 [some (.ref 71), some (.int (nI i)), some (.int (nI a)), some (.int (nI n)), none, none] [] μ1 _
        replace hM := hf.2.2.2 hM
        replace m0 : mm_I μ1 76 0 = nI c := by rw [(hf.2.2.1 76 rfl).1]; exact m0
        replace hDM := hDM.frC hf
        refine mm_aload d_M_kept_0 rfl ?_
        refine mm_ciN 0 d_M_kept_1 rfl ?_
        refine mm_putI d_M_kept_2 rfl (sk_o_71 hM) (Or.inl rfl) ?_
        refine mm_iload d_M_kept_5 rfl ?_
        refine mm_ciN 1 d_M_kept_6 rfl ?_
        refine mm_ciN 99 d_M_kept_7 rfl ?_
        refine mm_s3i d_M_kept_9 (sp_M_inT (by omega) (by omega) (by omega) ?_)
        refine mm_if_eqN d_M_kept_12 (by first | omega | exact bt8_lt31 _ _ | exact godB_lt31 _ _ _ | exact pop_lt31 _ | assumption | exact b31 (hW.gp (by omega)) | exact b31 (hW.ne (by omega)) | exact b31 (hW.op (by omega)) | exact and31 (hW.gp (by omega)) | exact and31 (hW.ne (by omega)) | exact and31 (hW.op (by omega)) | exact and31 (by assumption) | exact and31r (hW.ne (by omega)) | exact and31r (hW.gp (by omega))) (fun c_12 => False.elim (by omega)) (fun c_12 => ?_)
        refine mm_aload d_M_kept_15 rfl ?_
        refine mm_iload d_M_kept_16 rfl ?_
        refine mm_v1i d_M_kept_17 (sk_o_71 hM) (sp_M_handN hM (by first | exact m0 | (rw [mm_sI_off (by decide)]; exact m0)) h02 hi (by first | exact hDM | exact hDM.eq (mm_sI_off (by decide))) hW (fun μ2 g1 hH hZ => ?_))
        replace hM := hH.1
        refine mm_if_eqN d_M_kept_20 (by first | omega | exact bt8_lt31 _ _ | exact godB_lt31 _ _ _ | exact pop_lt31 _ | assumption | exact b31 (hW.gp (by omega)) | exact b31 (hW.ne (by omega)) | exact b31 (hW.op (by omega)) | exact and31 (hW.gp (by omega)) | exact and31 (hW.ne (by omega)) | exact and31 (hW.op (by omega)) | exact and31 (by assumption) | exact and31r (hW.ne (by omega)) | exact and31r (hW.gp (by omega))) (fun c_20 => False.elim (by omega)) (fun c_20 => ?_)
        refine mm_aload d_M_kept_23 rfl ?_
        refine mm_iload d_M_kept_24 rfl ?_
        refine mm_v1i d_M_kept_25 (sk_o_71 hM) (sp_M_isChildT hH (by omega) ?_)
        refine mm_if_neN d_M_kept_28 (by first | omega | exact bt8_lt31 _ _ | exact godB_lt31 _ _ _ | exact pop_lt31 _ | assumption | exact b31 (hW.gp (by omega)) | exact b31 (hW.ne (by omega)) | exact b31 (hW.op (by omega)) | exact and31 (hW.gp (by omega)) | exact and31 (hW.ne (by omega)) | exact and31 (hW.op (by omega)) | exact and31 (by assumption) | exact and31r (hW.ne (by omega)) | exact and31r (hW.gp (by omega))) (fun c_28 => ?_) (fun c_28 => False.elim (by omega))
        refine mm_ciN 0 d_M_kept_33 rfl ?_
        refine mm_ist4 d_M_kept_34 ?_
        refine mm_ciN 0 d_M_kept_36 rfl ?_
        refine mm_ist5 d_M_kept_37 ?_
        have gf := (Fr.rf (S := scM) (μ := μ1).sI (j := 0) (x := nI 0) (a := 71) rfl).trans g1
        generalize nI i = l1
        refine mm_up (P := fun i => mm_T X _ 0 0 k_M_kept 39 [some (.ref 71), some (.int l1), some (.int (nI a)), some (.int (nI n)), some (.int (nI (keptK D a n i))), some (.int (nI i))] [] μ2 _) (8) ?_ (fun i hi ih => ?_)
        · refine mm_iload d_M_kept_39 rfl ?_
          refine mm_ciN 8 d_M_kept_41 rfl ?_
          refine mm_icmp_geN d_M_kept_43 (by first | omega | exact bt8_lt31 _ _ | exact godB_lt31 _ _ _ | exact pop_lt31 _ | assumption | exact b31 (hW.gp (by omega)) | exact b31 (hW.ne (by omega)) | exact b31 (hW.op (by omega)) | exact and31 (hW.gp (by omega)) | exact and31 (hW.ne (by omega)) | exact and31 (hW.op (by omega)) | exact and31 (by assumption) | exact and31r (hW.ne (by omega)) | exact and31r (hW.gp (by omega))) (by first | omega | exact bt8_lt31 _ _ | exact godB_lt31 _ _ _ | exact pop_lt31 _ | assumption | exact b31 (hW.gp (by omega)) | exact b31 (hW.ne (by omega)) | exact b31 (hW.op (by omega)) | exact and31 (hW.gp (by omega)) | exact and31 (hW.ne (by omega)) | exact and31 (hW.op (by omega)) | exact and31 (by assumption) | exact and31r (hW.ne (by omega)) | exact and31r (hW.gp (by omega))) (fun c_43 => ?_) (fun c_43 => False.elim (by omega))
          refine mm_iload d_M_kept_87 rfl ?_
          exact mm_ri d_M_kept_89 ⟨rfl, gf⟩
        · refine mm_iload d_M_kept_39 rfl ?_
          refine mm_ciN 8 d_M_kept_41 rfl ?_
          have hp1 := hW.pa1 hi
          have hp9 := hW.pa hi
          refine mm_icmp_geN d_M_kept_43 (by first | omega | exact bt8_lt31 _ _ | exact godB_lt31 _ _ _ | exact pop_lt31 _ | assumption | exact b31 (hW.gp (by omega)) | exact b31 (hW.ne (by omega)) | exact b31 (hW.op (by omega)) | exact and31 (hW.gp (by omega)) | exact and31 (hW.ne (by omega)) | exact and31 (hW.op (by omega)) | exact and31 (by assumption) | exact and31r (hW.ne (by omega)) | exact and31r (hW.gp (by omega))) (by first | omega | exact bt8_lt31 _ _ | exact godB_lt31 _ _ _ | exact pop_lt31 _ | assumption | exact b31 (hW.gp (by omega)) | exact b31 (hW.ne (by omega)) | exact b31 (hW.op (by omega)) | exact and31 (hW.gp (by omega)) | exact and31 (hW.ne (by omega)) | exact and31 (hW.op (by omega)) | exact and31 (by assumption) | exact and31r (hW.ne (by omega)) | exact and31r (hW.gp (by omega))) (fun c_43 => False.elim (by omega)) (fun c_43 => ?_)
          refine mm_iload d_M_kept_46 rfl ?_
          refine mm_aload d_M_kept_48 rfl ?_
          refine mm_iload d_M_kept_49 rfl ?_
          refine mm_v1i d_M_kept_50 (sk_o_71 hM) (sp_M_gods hH (by omega) ?_)
          refine mm_iload d_M_kept_53 rfl ?_
          refine mm_s2i d_M_kept_55 (sp_M_has (by first | omega | assumption | exact hW.gp (by omega) | exact hW.ne (by omega) | exact hW.op (by omega) | exact and_lt256 (hW.gp (by omega)) | exact and_lt256 (hW.ne (by omega)) | exact and_lt256 (hW.op (by omega)) | exact and_lt256 (by assumption)) (by omega) ?_)
          refine mm_if_eqN d_M_kept_58 (by first | omega | exact bt8_lt31 _ _ | exact godB_lt31 _ _ _ | exact pop_lt31 _ | assumption | exact b31 (hW.gp (by omega)) | exact b31 (hW.ne (by omega)) | exact b31 (hW.op (by omega)) | exact and31 (hW.gp (by omega)) | exact and31 (hW.ne (by omega)) | exact and31 (hW.op (by omega)) | exact and31 (by assumption) | exact and31r (hW.ne (by omega)) | exact and31r (hW.gp (by omega))) (fun c_58 => ?_) (fun c_58 => ?_)
          · refine mm_ciN 0 d_M_kept_77 rfl ?_
            refine mm_iaddN d_M_kept_78 ?_
            refine mm_ist4 d_M_kept_79 ?_
            refine mm_inc5N d_M_kept_81 ?_
            refine mm_goto d_M_kept_84 ?_
            first
              | exact ih
              | (have z := ih; simp only [keptK, if_pos c_58] at z; exact z)
              | (have z := ih; simp only [keptK, if_pos c_58, Nat.or_zero, Nat.add_zero] at z; exact z)
              | (have z := ih; simp only [keptK, if_pos c_58, Nat.mul_one] at z; exact z)
              | (have z := ih; simp only [keptK, if_neg c_58] at z; exact z)
              | (have z := ih; simp only [keptK, if_neg c_58, Nat.or_zero, Nat.add_zero] at z; exact z)
              | (have z := ih; simp only [keptK, if_neg c_58, Nat.mul_one] at z; exact z)
              | (have z := ih; simp only [keptK, if_neg (Nat.not_lt.mpr c_58)] at z; exact z)
              | (have z := ih; simp only [keptK, if_neg (Nat.not_lt.mpr c_58), Nat.or_zero, Nat.add_zero] at z; exact z)
              | (have z := ih; simp only [keptK, if_neg (Nat.not_lt.mpr c_58), Nat.mul_one] at z; exact z)
              | (have z := ih; simp only [keptK, if_neg (Nat.not_le.mpr c_58)] at z; exact z)
              | (have z := ih; simp only [keptK, if_neg (Nat.not_le.mpr c_58), Nat.or_zero, Nat.add_zero] at z; exact z)
              | (have z := ih; simp only [keptK, if_neg (Nat.not_le.mpr c_58), Nat.mul_one] at z; exact z)
          · refine mm_iload d_M_kept_61 rfl ?_
            refine mm_ciN 1 d_M_kept_62 rfl ?_
            refine mm_isubN d_M_kept_63 (by omega) ?_
            refine mm_aload d_M_kept_64 rfl ?_
            refine mm_ciN 10 d_M_kept_65 rfl ?_
            refine mm_iload d_M_kept_67 rfl ?_
            refine mm_iaddN d_M_kept_69 ?_
            refine mm_v1i d_M_kept_70 (sk_o_71 hM) (sp_M_ofN hH (by omega) (hH.f1 (by omega)) ?_)
            refine mm_idivN d_M_kept_73 (by first | omega | exact bt8_lt31 _ _ | exact godB_lt31 _ _ _ | exact pop_lt31 _ | assumption | exact b31 (hW.gp (by omega)) | exact b31 (hW.ne (by omega)) | exact b31 (hW.op (by omega)) | exact and31 (hW.gp (by omega)) | exact and31 (hW.ne (by omega)) | exact and31 (hW.op (by omega)) | exact and31 (by assumption) | exact and31r (hW.ne (by omega)) | exact and31r (hW.gp (by omega))) (by omega) (by omega) ?_
            refine mm_goto d_M_kept_74 ?_
            refine mm_iaddN d_M_kept_78 ?_
            refine mm_ist4 d_M_kept_79 ?_
            refine mm_inc5N d_M_kept_81 ?_
            refine mm_goto d_M_kept_84 ?_
            first
              | exact ih
              | (have z := ih; simp only [keptK, if_pos c_58] at z; exact z)
              | (have z := ih; simp only [keptK, if_pos c_58, Nat.or_zero, Nat.add_zero] at z; exact z)
              | (have z := ih; simp only [keptK, if_pos c_58, Nat.mul_one] at z; exact z)
              | (have z := ih; simp only [keptK, if_neg c_58] at z; exact z)
              | (have z := ih; simp only [keptK, if_neg c_58, Nat.or_zero, Nat.add_zero] at z; exact z)
              | (have z := ih; simp only [keptK, if_neg c_58, Nat.mul_one] at z; exact z)
              | (have z := ih; simp only [keptK, if_neg (Nat.not_lt.mpr c_58)] at z; exact z)
              | (have z := ih; simp only [keptK, if_neg (Nat.not_lt.mpr c_58), Nat.or_zero, Nat.add_zero] at z; exact z)
              | (have z := ih; simp only [keptK, if_neg (Nat.not_lt.mpr c_58), Nat.mul_one] at z; exact z)
              | (have z := ih; simp only [keptK, if_neg (Nat.not_le.mpr c_58)] at z; exact z)
              | (have z := ih; simp only [keptK, if_neg (Nat.not_le.mpr c_58), Nat.or_zero, Nat.add_zero] at z; exact z)
              | (have z := ih; simp only [keptK, if_neg (Nat.not_le.mpr c_58), Nat.mul_one] at z; exact z)
def fewerB (k : Nat) : Option Nat → Bool
  | none => true
  | some b => decide (pop k < pop b)
def tideK (D : mm_D) (v : Nat) : Nat → Option Nat
  | 0 => none
  | k + 1 => if fewerB k (tideK D v k) = true ∧ v ≤ worthN D (readyN D k) then some k else tideK D v k
theorem tideK_lt {D : mm_D} {v : Nat} : ∀ {k b}, tideK D v k = some b → b < k
  | 0, b, h => by cases h
  | k + 1, b, h => by
    unfold tideK at h
    split at h
    · cases h; omega
    · have := tideK_lt h; omega
def tideR (u : Int32) : Option Nat → Int32
  | none => -1
  | some b => if u = 0 then nI (pop b) else nI b
theorem pair_tide {X : mm_X} {k : Nat} {μ : mm_M} (hJ : JJ k μ) (y1 y2 y3 : Int32) : PairI X (JJ (k + 1)) k_G_tide k_M_tide [.int y1, .int y2, .int y3] μ := by
  obtain ⟨c, h02, h0, m0, hv⟩ := hJ.coast y1
  have hM := hJ.1
  have hw := hJ.2.2.2.up
  rcases hv with hx | ⟨i, D, hi, rfl, hW, hCD, hDM⟩
  · exact pairQ (-1) hJ (d := 2) (d' := 4) (by decide) (by decide) (n_G_tide hM h0 h02 hx ⟨rfl, Fr.rf, hw⟩) (fun μ1 hf => n_M_tide (hf.2.2.2 hM) (by rw [(hf.2.2.1 76 rfl).1]; exact m0) h02 hx (fun μ' hk => ⟨rfl, hk.fr (hf.2.2.2 hM)⟩))
  have hn6 := hW.1
  have hw6 := hW.2.1
  rcases rng_or y2 (a := 0) (b := 99) (by decide) (by decide) with ⟨hz, hz2⟩ | ⟨v, -, hv, rfl⟩
  · refine pairQ (-1) hJ (d := 12) (d' := 12) (by decide) (by decide) ?_ (fun μ1 hf => ?_)
    · show mm_T X 12 0 0 k_G_tide 0 [some (.ref 0), some (.int (nI i)), some (.int y2), some (.int y3), none, none, none, none] [] μ _
      refine mm_aload d_G_tide_0 rfl ?_
      refine mm_getP d_G_tide_1 rfl (sk_o_0 hM) (sk_p_0_0 hM) ?_
      refine mm_iload d_G_tide_4 rfl ?_
      refine mm_v1r d_G_tide_5 (sk_o_1 hM) (sp_To_coastAtI hM h0 h02 hi ?_)
      refine mm_ast4 d_G_tide_8 ?_
      refine mm_aload d_G_tide_10 rfl ?_
      refine mm_ifnull d_G_tide_12 ?_
      refine mm_iload d_G_tide_15 rfl ?_
      refine mm_if_lt d_G_tide_16 (fun c_16 => ?_) (fun c_16 => ?_)
      · refine mm_ci d_G_tide_25 ?_
        exact mm_ri d_G_tide_26 ⟨rfl, Fr.rf, hw⟩
      · refine mm_iload d_G_tide_19 rfl ?_
        refine mm_ciN 99 d_G_tide_20 rfl ?_
        refine mm_icmp_le d_G_tide_22 (fun c_22 => False.elim (rng_dead hz2 c_16 c_22)) (fun c_22 => ?_)
        refine mm_ci d_G_tide_25 ?_
        exact mm_ri d_G_tide_26 ⟨rfl, Fr.rf, hw⟩
    · show mm_T X 12 0 0 k_M_tide 0 [some (.ref 71), some (.int (nI i)), some (.int y2), some (.int y3), none, none, none] [] μ1 _
      replace hM := hf.2.2.2 hM
      replace m0 : mm_I μ1 76 0 = nI c := by rw [(hf.2.2.1 76 rfl).1]; exact m0
      replace hDM := hDM.frC hf
      refine mm_aload d_M_tide_0 rfl ?_
      refine mm_ciN 0 d_M_tide_1 rfl ?_
      refine mm_putI d_M_tide_2 rfl (sk_o_71 hM) (Or.inl rfl) ?_
      refine mm_iload d_M_tide_5 rfl ?_
      refine mm_ciN 0 d_M_tide_6 rfl ?_
      refine mm_ciN 99 d_M_tide_7 rfl ?_
      refine mm_s3i d_M_tide_9 (sp_M_inB hz ?_)
      refine mm_if_eqN d_M_tide_12 (by first | omega | exact bt8_lt31 _ _ | exact godB_lt31 _ _ _ | exact pop_lt31 _ | assumption | exact b31 (hW.gp (by omega)) | exact b31 (hW.ne (by omega)) | exact b31 (hW.op (by omega)) | exact and31 (hW.gp (by omega)) | exact and31 (hW.ne (by omega)) | exact and31 (hW.op (by omega)) | exact and31 (by assumption) | exact and31r (hW.ne (by omega)) | exact and31r (hW.gp (by omega))) (fun c_12 => ?_) (fun c_12 => False.elim (by omega))
      refine mm_ci d_M_tide_23 ?_
      exact mm_ri d_M_tide_24 ⟨rfl, Fr.rf.sI rfl⟩
  · refine pairQ (tideR y3 (tideK D v 256)) hJ (d := 12) (d' := 12) (by decide) (by decide) ?_ (fun μ1 hf => ?_)
    · show mm_T X 12 0 0 k_G_tide 0 [some (.ref 0), some (.int (nI i)), some (.int (nI v)), some (.int y3), none, none, none, none] [] μ _
      refine mm_aload d_G_tide_0 rfl ?_
      refine mm_getP d_G_tide_1 rfl (sk_o_0 hM) (sk_p_0_0 hM) ?_
      refine mm_iload d_G_tide_4 rfl ?_
      refine mm_v1r d_G_tide_5 (sk_o_1 hM) (sp_To_coastAtI hM h0 h02 hi ?_)
      refine mm_ast4 d_G_tide_8 ?_
      refine mm_aload d_G_tide_10 rfl ?_
      refine mm_ifnull d_G_tide_12 ?_
      refine mm_iload d_G_tide_15 rfl ?_
      refine mm_if_ltN d_G_tide_16 (by first | omega | exact bt8_lt31 _ _ | exact godB_lt31 _ _ _ | exact pop_lt31 _ | assumption | exact b31 (hW.gp (by omega)) | exact b31 (hW.ne (by omega)) | exact b31 (hW.op (by omega)) | exact and31 (hW.gp (by omega)) | exact and31 (hW.ne (by omega)) | exact and31 (hW.op (by omega)) | exact and31 (by assumption) | exact and31r (hW.ne (by omega)) | exact and31r (hW.gp (by omega))) ?_
      refine mm_iload d_G_tide_19 rfl ?_
      refine mm_ciN 99 d_G_tide_20 rfl ?_
      refine mm_icmp_leN d_G_tide_22 (by first | omega | exact bt8_lt31 _ _ | exact godB_lt31 _ _ _ | exact pop_lt31 _ | assumption | exact b31 (hW.gp (by omega)) | exact b31 (hW.ne (by omega)) | exact b31 (hW.op (by omega)) | exact and31 (hW.gp (by omega)) | exact and31 (hW.ne (by omega)) | exact and31 (hW.op (by omega)) | exact and31 (by assumption) | exact and31r (hW.ne (by omega)) | exact and31r (hW.gp (by omega))) (by first | omega | exact bt8_lt31 _ _ | exact godB_lt31 _ _ _ | exact pop_lt31 _ | assumption | exact b31 (hW.gp (by omega)) | exact b31 (hW.ne (by omega)) | exact b31 (hW.op (by omega)) | exact and31 (hW.gp (by omega)) | exact and31 (hW.ne (by omega)) | exact and31 (hW.op (by omega)) | exact and31 (by assumption) | exact and31r (hW.ne (by omega)) | exact and31r (hW.gp (by omega))) (fun c_22 => ?_) (fun c_22 => False.elim (by omega))
      refine mm_ci d_G_tide_27 ?_
      refine mm_ist5 d_G_tide_28 ?_
      refine mm_ciN 0 d_G_tide_30 rfl ?_
      refine mm_ist6 d_G_tide_31 ?_
      generalize 4 + 7 * i = ad at hCD ⊢
      generalize nI i = l1
      have main : ∀ l7, mm_T X 12 0 0 k_G_tide 33 [some (.ref 0), some (.int l1), some (.int (nI v)), some (.int y3), some (.ref ad), some (.int (oI (tideK D v 0))), some (.int (nI 0)), l7] [] μ (fun u μ' => ∃ r, u = some (.int r) ∧ (r = tideR y3 (tideK D v 256) ∧ Fr scC μ μ' ∧ Wk (k + 1) μ')) := by
        refine mm_up (P := fun w => ∀ l7, mm_T X _ 0 0 k_G_tide 33 [some (.ref 0), some (.int l1), some (.int (nI v)), some (.int y3), some (.ref ad), some (.int (oI (tideK D v w))), some (.int (nI w)), l7] [] μ _) 256 ?_ (fun w hw8 ih => ?_)
        · intro l7
          rcases hb' : tideK D v 256 with _ | b'
          · refine mm_iload d_G_tide_33 rfl ?_
            refine mm_ciN 255 d_G_tide_35 rfl ?_
            refine mm_icmp_gtN d_G_tide_38 (by first | omega | exact bt8_lt31 _ _ | exact godB_lt31 _ _ _ | exact pop_lt31 _ | assumption | exact b31 (hW.gp (by omega)) | exact b31 (hW.ne (by omega)) | exact b31 (hW.op (by omega)) | exact and31 (hW.gp (by omega)) | exact and31 (hW.ne (by omega)) | exact and31 (hW.op (by omega)) | exact and31 (by assumption) | exact and31r (hW.ne (by omega)) | exact and31r (hW.gp (by omega))) (by first | omega | exact bt8_lt31 _ _ | exact godB_lt31 _ _ _ | exact pop_lt31 _ | assumption | exact b31 (hW.gp (by omega)) | exact b31 (hW.ne (by omega)) | exact b31 (hW.op (by omega)) | exact and31 (hW.gp (by omega)) | exact and31 (hW.ne (by omega)) | exact and31 (hW.op (by omega)) | exact and31 (by assumption) | exact and31r (hW.ne (by omega)) | exact and31r (hW.gp (by omega))) (fun c_38 => ?_) (fun c_38 => False.elim (by omega))
            refine mm_iload d_G_tide_98 rfl ?_
            refine mm_if_ne d_G_tide_99 (fun c_99 => ?_) (fun c_99 => ?_)
            · refine mm_iload d_G_tide_108 rfl ?_
              refine mm_goto d_G_tide_110 ?_
              exact mm_ri d_G_tide_118 ⟨rfl, Fr.rf, hw⟩
            · refine mm_iload d_G_tide_102 rfl ?_
              refine mm_ci d_G_tide_104 ?_
              refine mm_icmp_neS d_G_tide_105 ?_
              refine mm_iload d_G_tide_108 rfl ?_
              refine mm_goto d_G_tide_110 ?_
              exact mm_ri d_G_tide_118 ⟨rfl, Fr.rf, hw⟩
          · have hb2 := tideK_lt hb'
            refine mm_iload d_G_tide_33 rfl ?_
            refine mm_ciN 255 d_G_tide_35 rfl ?_
            refine mm_icmp_gtN d_G_tide_38 (by first | omega | exact bt8_lt31 _ _ | exact godB_lt31 _ _ _ | exact pop_lt31 _ | assumption | exact b31 (hW.gp (by omega)) | exact b31 (hW.ne (by omega)) | exact b31 (hW.op (by omega)) | exact and31 (hW.gp (by omega)) | exact and31 (hW.ne (by omega)) | exact and31 (hW.op (by omega)) | exact and31 (by assumption) | exact and31r (hW.ne (by omega)) | exact and31r (hW.gp (by omega))) (by first | omega | exact bt8_lt31 _ _ | exact godB_lt31 _ _ _ | exact pop_lt31 _ | assumption | exact b31 (hW.gp (by omega)) | exact b31 (hW.ne (by omega)) | exact b31 (hW.op (by omega)) | exact and31 (hW.gp (by omega)) | exact and31 (hW.ne (by omega)) | exact and31 (hW.op (by omega)) | exact and31 (by assumption) | exact and31r (hW.ne (by omega)) | exact and31r (hW.gp (by omega))) (fun c_38 => ?_) (fun c_38 => False.elim (by omega))
            refine mm_iload d_G_tide_98 rfl ?_
            refine mm_if_ne d_G_tide_99 (fun c_99 => ?_) (fun c_99 => ?_)
            · refine mm_iload d_G_tide_108 rfl ?_
              refine mm_goto d_G_tide_110 ?_
              exact mm_ri d_G_tide_118 ⟨by first | exact (if_neg c_99).symm | exact (if_pos (Decidable.not_not.mp c_99)).symm, Fr.rf, hw⟩
            · refine mm_iload d_G_tide_102 rfl ?_
              refine mm_ci d_G_tide_104 ?_
              refine mm_icmp_neM1 d_G_tide_105 (by first | omega | exact bt8_lt31 _ _ | exact godB_lt31 _ _ _ | exact pop_lt31 _ | assumption | exact b31 (hW.gp (by omega)) | exact b31 (hW.ne (by omega)) | exact b31 (hW.op (by omega)) | exact and31 (hW.gp (by omega)) | exact and31 (hW.ne (by omega)) | exact and31 (hW.op (by omega)) | exact and31 (by assumption) | exact and31r (hW.ne (by omega)) | exact and31r (hW.gp (by omega))) ?_
              refine mm_iload d_G_tide_113 rfl ?_
              refine mm_s1i d_G_tide_115 (sp_Int_bitCount (by first | omega | assumption | exact hW.gp (by omega) | exact hW.ne (by omega) | exact hW.op (by omega) | exact and_lt256 (hW.gp (by omega)) | exact and_lt256 (hW.ne (by omega)) | exact and_lt256 (hW.op (by omega)) | exact and_lt256 (by assumption)) ?_)
              exact mm_ri d_G_tide_118 ⟨by first | exact (if_neg c_99).symm | exact (if_pos (Decidable.not_not.mp c_99)).symm, Fr.rf, hw⟩
        · intro l7
          have hr := readyN_lt hW w
          have hwo := worthN_le hW (readyN D w)
          rcases hb' : tideK D v w with _ | b'
          · refine mm_iload d_G_tide_33 rfl ?_
            refine mm_ciN 255 d_G_tide_35 rfl ?_
            refine mm_icmp_gtN d_G_tide_38 (by first | omega | exact bt8_lt31 _ _ | exact godB_lt31 _ _ _ | exact pop_lt31 _ | assumption | exact b31 (hW.gp (by omega)) | exact b31 (hW.ne (by omega)) | exact b31 (hW.op (by omega)) | exact and31 (hW.gp (by omega)) | exact and31 (hW.ne (by omega)) | exact and31 (hW.op (by omega)) | exact and31 (by assumption) | exact and31r (hW.ne (by omega)) | exact and31r (hW.gp (by omega))) (by first | omega | exact bt8_lt31 _ _ | exact godB_lt31 _ _ _ | exact pop_lt31 _ | assumption | exact b31 (hW.gp (by omega)) | exact b31 (hW.ne (by omega)) | exact b31 (hW.op (by omega)) | exact and31 (hW.gp (by omega)) | exact and31 (hW.ne (by omega)) | exact and31 (hW.op (by omega)) | exact and31 (by assumption) | exact and31r (hW.ne (by omega)) | exact and31r (hW.gp (by omega))) (fun c_38 => False.elim (by omega)) (fun c_38 => ?_)
            refine mm_iload d_G_tide_41 rfl ?_
            refine mm_ci d_G_tide_43 ?_
            refine mm_icmp_eqS d_G_tide_44 ?_
            refine mm_ciN 1 d_G_tide_60 rfl ?_
            refine mm_goto d_G_tide_61 ?_
            refine mm_ist7 d_G_tide_65 ?_
            refine mm_iload d_G_tide_67 rfl ?_
            refine mm_if_eqN d_G_tide_69 (by first | omega | exact bt8_lt31 _ _ | exact godB_lt31 _ _ _ | exact pop_lt31 _ | assumption | exact b31 (hW.gp (by omega)) | exact b31 (hW.ne (by omega)) | exact b31 (hW.op (by omega)) | exact and31 (hW.gp (by omega)) | exact and31 (hW.ne (by omega)) | exact and31 (hW.op (by omega)) | exact and31 (by assumption) | exact and31r (hW.ne (by omega)) | exact and31r (hW.gp (by omega))) (fun c_69 => False.elim (by omega)) (fun c_69 => ?_)
            refine mm_aload d_G_tide_72 rfl ?_
            refine mm_aload d_G_tide_74 rfl ?_
            refine mm_iload d_G_tide_76 rfl ?_
            refine mm_v1i d_G_tide_78 hCD.1.1 (sp_Co_worksWith hCD hW ?_)
            refine mm_v1i d_G_tide_81 hCD.1.1 (sp_Co_worthOf hCD hW (by first | omega | assumption | exact hW.gp (by omega) | exact hW.ne (by omega) | exact hW.op (by omega) | exact and_lt256 (hW.gp (by omega)) | exact and_lt256 (hW.ne (by omega)) | exact and_lt256 (hW.op (by omega)) | exact and_lt256 (by assumption)) ?_)
            refine mm_iload d_G_tide_84 rfl ?_
            refine mm_icmp_ltN d_G_tide_85 (by first | omega | exact bt8_lt31 _ _ | exact godB_lt31 _ _ _ | exact pop_lt31 _ | assumption | exact b31 (hW.gp (by omega)) | exact b31 (hW.ne (by omega)) | exact b31 (hW.op (by omega)) | exact and31 (hW.gp (by omega)) | exact and31 (hW.ne (by omega)) | exact and31 (hW.op (by omega)) | exact and31 (by assumption) | exact and31r (hW.ne (by omega)) | exact and31r (hW.gp (by omega))) (by first | omega | exact bt8_lt31 _ _ | exact godB_lt31 _ _ _ | exact pop_lt31 _ | assumption | exact b31 (hW.gp (by omega)) | exact b31 (hW.ne (by omega)) | exact b31 (hW.op (by omega)) | exact and31 (hW.gp (by omega)) | exact and31 (hW.ne (by omega)) | exact and31 (hW.op (by omega)) | exact and31 (by assumption) | exact and31r (hW.ne (by omega)) | exact and31r (hW.gp (by omega))) (fun c_85 => ?_) (fun c_85 => ?_)
            · refine mm_inc6N d_G_tide_92 ?_
              refine mm_goto d_G_tide_95 ?_
              first
                | (rw [show tideK D v (w + 1) = some w by unfold tideK; rw [hb']; simp [fewerB] <;> omega] at ih; exact ih _)
                | (rw [show tideK D v (w + 1) = none by unfold tideK; rw [hb']; simp [fewerB] <;> omega] at ih; exact ih _)
            · refine mm_iload d_G_tide_88 rfl ?_
              refine mm_ist5 d_G_tide_90 ?_
              refine mm_inc6N d_G_tide_92 ?_
              refine mm_goto d_G_tide_95 ?_
              first
                | (rw [show tideK D v (w + 1) = some w by unfold tideK; rw [hb']; simp [fewerB] <;> omega] at ih; exact ih _)
                | (rw [show tideK D v (w + 1) = none by unfold tideK; rw [hb']; simp [fewerB] <;> omega] at ih; exact ih _)
          · have hb2 := tideK_lt hb'
            refine mm_iload d_G_tide_33 rfl ?_
            refine mm_ciN 255 d_G_tide_35 rfl ?_
            refine mm_icmp_gtN d_G_tide_38 (by first | omega | exact bt8_lt31 _ _ | exact godB_lt31 _ _ _ | exact pop_lt31 _ | assumption | exact b31 (hW.gp (by omega)) | exact b31 (hW.ne (by omega)) | exact b31 (hW.op (by omega)) | exact and31 (hW.gp (by omega)) | exact and31 (hW.ne (by omega)) | exact and31 (hW.op (by omega)) | exact and31 (by assumption) | exact and31r (hW.ne (by omega)) | exact and31r (hW.gp (by omega))) (by first | omega | exact bt8_lt31 _ _ | exact godB_lt31 _ _ _ | exact pop_lt31 _ | assumption | exact b31 (hW.gp (by omega)) | exact b31 (hW.ne (by omega)) | exact b31 (hW.op (by omega)) | exact and31 (hW.gp (by omega)) | exact and31 (hW.ne (by omega)) | exact and31 (hW.op (by omega)) | exact and31 (by assumption) | exact and31r (hW.ne (by omega)) | exact and31r (hW.gp (by omega))) (fun c_38 => False.elim (by omega)) (fun c_38 => ?_)
            refine mm_iload d_G_tide_41 rfl ?_
            refine mm_ci d_G_tide_43 ?_
            refine mm_icmp_eqM1 d_G_tide_44 (by first | omega | exact bt8_lt31 _ _ | exact godB_lt31 _ _ _ | exact pop_lt31 _ | assumption | exact b31 (hW.gp (by omega)) | exact b31 (hW.ne (by omega)) | exact b31 (hW.op (by omega)) | exact and31 (hW.gp (by omega)) | exact and31 (hW.ne (by omega)) | exact and31 (hW.op (by omega)) | exact and31 (by assumption) | exact and31r (hW.ne (by omega)) | exact and31r (hW.gp (by omega))) ?_
            refine mm_iload d_G_tide_47 rfl ?_
            refine mm_s1i d_G_tide_49 (sp_Int_bitCount (by first | omega | assumption | exact hW.gp (by omega) | exact hW.ne (by omega) | exact hW.op (by omega) | exact and_lt256 (hW.gp (by omega)) | exact and_lt256 (hW.ne (by omega)) | exact and_lt256 (hW.op (by omega)) | exact and_lt256 (by assumption)) ?_)
            refine mm_iload d_G_tide_52 rfl ?_
            refine mm_s1i d_G_tide_54 (sp_Int_bitCount (by first | omega | assumption | exact hW.gp (by omega) | exact hW.ne (by omega) | exact hW.op (by omega) | exact and_lt256 (hW.gp (by omega)) | exact and_lt256 (hW.ne (by omega)) | exact and_lt256 (hW.op (by omega)) | exact and_lt256 (by assumption)) ?_)
            refine mm_icmp_geN d_G_tide_57 (by first | omega | exact bt8_lt31 _ _ | exact godB_lt31 _ _ _ | exact pop_lt31 _ | assumption | exact b31 (hW.gp (by omega)) | exact b31 (hW.ne (by omega)) | exact b31 (hW.op (by omega)) | exact and31 (hW.gp (by omega)) | exact and31 (hW.ne (by omega)) | exact and31 (hW.op (by omega)) | exact and31 (by assumption) | exact and31r (hW.ne (by omega)) | exact and31r (hW.gp (by omega))) (by first | omega | exact bt8_lt31 _ _ | exact godB_lt31 _ _ _ | exact pop_lt31 _ | assumption | exact b31 (hW.gp (by omega)) | exact b31 (hW.ne (by omega)) | exact b31 (hW.op (by omega)) | exact and31 (hW.gp (by omega)) | exact and31 (hW.ne (by omega)) | exact and31 (hW.op (by omega)) | exact and31 (by assumption) | exact and31r (hW.ne (by omega)) | exact and31r (hW.gp (by omega))) (fun c_57 => ?_) (fun c_57 => ?_)
            · refine mm_ciN 0 d_G_tide_64 rfl ?_
              refine mm_ist7 d_G_tide_65 ?_
              refine mm_iload d_G_tide_67 rfl ?_
              refine mm_if_eqN d_G_tide_69 (by first | omega | exact bt8_lt31 _ _ | exact godB_lt31 _ _ _ | exact pop_lt31 _ | assumption | exact b31 (hW.gp (by omega)) | exact b31 (hW.ne (by omega)) | exact b31 (hW.op (by omega)) | exact and31 (hW.gp (by omega)) | exact and31 (hW.ne (by omega)) | exact and31 (hW.op (by omega)) | exact and31 (by assumption) | exact and31r (hW.ne (by omega)) | exact and31r (hW.gp (by omega))) (fun c_69 => ?_) (fun c_69 => False.elim (by omega))
              refine mm_inc6N d_G_tide_92 ?_
              refine mm_goto d_G_tide_95 ?_
              first
                | (rw [show tideK D v (w + 1) = some w by unfold tideK; rw [hb']; simp [fewerB] <;> omega] at ih; exact ih _)
                | (rw [show tideK D v (w + 1) = some b' by unfold tideK; rw [hb']; simp [fewerB] <;> omega] at ih; exact ih _)
            · refine mm_ciN 1 d_G_tide_60 rfl ?_
              refine mm_goto d_G_tide_61 ?_
              refine mm_ist7 d_G_tide_65 ?_
              refine mm_iload d_G_tide_67 rfl ?_
              refine mm_if_eqN d_G_tide_69 (by first | omega | exact bt8_lt31 _ _ | exact godB_lt31 _ _ _ | exact pop_lt31 _ | assumption | exact b31 (hW.gp (by omega)) | exact b31 (hW.ne (by omega)) | exact b31 (hW.op (by omega)) | exact and31 (hW.gp (by omega)) | exact and31 (hW.ne (by omega)) | exact and31 (hW.op (by omega)) | exact and31 (by assumption) | exact and31r (hW.ne (by omega)) | exact and31r (hW.gp (by omega))) (fun c_69 => False.elim (by omega)) (fun c_69 => ?_)
              refine mm_aload d_G_tide_72 rfl ?_
              refine mm_aload d_G_tide_74 rfl ?_
              refine mm_iload d_G_tide_76 rfl ?_
              refine mm_v1i d_G_tide_78 hCD.1.1 (sp_Co_worksWith hCD hW ?_)
              refine mm_v1i d_G_tide_81 hCD.1.1 (sp_Co_worthOf hCD hW (by first | omega | assumption | exact hW.gp (by omega) | exact hW.ne (by omega) | exact hW.op (by omega) | exact and_lt256 (hW.gp (by omega)) | exact and_lt256 (hW.ne (by omega)) | exact and_lt256 (hW.op (by omega)) | exact and_lt256 (by assumption)) ?_)
              refine mm_iload d_G_tide_84 rfl ?_
              refine mm_icmp_ltN d_G_tide_85 (by first | omega | exact bt8_lt31 _ _ | exact godB_lt31 _ _ _ | exact pop_lt31 _ | assumption | exact b31 (hW.gp (by omega)) | exact b31 (hW.ne (by omega)) | exact b31 (hW.op (by omega)) | exact and31 (hW.gp (by omega)) | exact and31 (hW.ne (by omega)) | exact and31 (hW.op (by omega)) | exact and31 (by assumption) | exact and31r (hW.ne (by omega)) | exact and31r (hW.gp (by omega))) (by first | omega | exact bt8_lt31 _ _ | exact godB_lt31 _ _ _ | exact pop_lt31 _ | assumption | exact b31 (hW.gp (by omega)) | exact b31 (hW.ne (by omega)) | exact b31 (hW.op (by omega)) | exact and31 (hW.gp (by omega)) | exact and31 (hW.ne (by omega)) | exact and31 (hW.op (by omega)) | exact and31 (by assumption) | exact and31r (hW.ne (by omega)) | exact and31r (hW.gp (by omega))) (fun c_85 => ?_) (fun c_85 => ?_)
              · refine mm_inc6N d_G_tide_92 ?_
                refine mm_goto d_G_tide_95 ?_
                first
                  | (rw [show tideK D v (w + 1) = some w by unfold tideK; rw [hb']; simp [fewerB] <;> omega] at ih; exact ih _)
                  | (rw [show tideK D v (w + 1) = some b' by unfold tideK; rw [hb']; simp [fewerB] <;> omega] at ih; exact ih _)
              · refine mm_iload d_G_tide_88 rfl ?_
                refine mm_ist5 d_G_tide_90 ?_
                refine mm_inc6N d_G_tide_92 ?_
                refine mm_goto d_G_tide_95 ?_
                first
                  | (rw [show tideK D v (w + 1) = some w by unfold tideK; rw [hb']; simp [fewerB] <;> omega] at ih; exact ih _)
                  | (rw [show tideK D v (w + 1) = some b' by unfold tideK; rw [hb']; simp [fewerB] <;> omega] at ih; exact ih _)
      exact main _
    · show mm_T X 12 0 0 k_M_tide 0 [some (.ref 71), some (.int (nI i)), some (.int (nI v)), some (.int y3), none, none, none] [] μ1 _
      replace hM := hf.2.2.2 hM
      replace m0 : mm_I μ1 76 0 = nI c := by rw [(hf.2.2.1 76 rfl).1]; exact m0
      replace hDM := hDM.frC hf
      refine mm_aload d_M_tide_0 rfl ?_
      refine mm_ciN 0 d_M_tide_1 rfl ?_
      refine mm_putI d_M_tide_2 rfl (sk_o_71 hM) (Or.inl rfl) ?_
      refine mm_iload d_M_tide_5 rfl ?_
      refine mm_ciN 0 d_M_tide_6 rfl ?_
      refine mm_ciN 99 d_M_tide_7 rfl ?_
      refine mm_s3i d_M_tide_9 (sp_M_inT (by omega) (by omega) (by omega) ?_)
      refine mm_if_eqN d_M_tide_12 (by first | omega | exact bt8_lt31 _ _ | exact godB_lt31 _ _ _ | exact pop_lt31 _ | assumption | exact b31 (hW.gp (by omega)) | exact b31 (hW.ne (by omega)) | exact b31 (hW.op (by omega)) | exact and31 (hW.gp (by omega)) | exact and31 (hW.ne (by omega)) | exact and31 (hW.op (by omega)) | exact and31 (by assumption) | exact and31r (hW.ne (by omega)) | exact and31r (hW.gp (by omega))) (fun c_12 => False.elim (by omega)) (fun c_12 => ?_)
      refine mm_aload d_M_tide_15 rfl ?_
      refine mm_iload d_M_tide_16 rfl ?_
      refine mm_v1i d_M_tide_17 (sk_o_71 hM) (sp_M_handN hM (by first | exact m0 | (rw [mm_sI_off (by decide)]; exact m0)) h02 hi (by first | exact hDM | exact hDM.eq (mm_sI_off (by decide))) hW (fun μ2 g1 hH hZ => ?_))
      replace hM := hH.1
      refine mm_if_neN d_M_tide_20 (by first | omega | exact bt8_lt31 _ _ | exact godB_lt31 _ _ _ | exact pop_lt31 _ | assumption | exact b31 (hW.gp (by omega)) | exact b31 (hW.ne (by omega)) | exact b31 (hW.op (by omega)) | exact and31 (hW.gp (by omega)) | exact and31 (hW.ne (by omega)) | exact and31 (hW.op (by omega)) | exact and31 (by assumption) | exact and31r (hW.ne (by omega)) | exact and31r (hW.gp (by omega))) (fun c_20 => ?_) (fun c_20 => False.elim (by omega))
      refine mm_ci d_M_tide_25 ?_
      refine mm_ist4 d_M_tide_26 ?_
      refine mm_ciN 0 d_M_tide_28 rfl ?_
      refine mm_ist5 d_M_tide_29 ?_
      have gf := (Fr.rf (S := scM) (μ := μ1).sI (j := 0) (x := nI 0) (a := 71) rfl).trans g1
      generalize nI i = l1
      have main : ∀ l7, mm_T X 12 0 0 k_M_tide 31 [some (.ref 71), some (.int l1), some (.int (nI v)), some (.int y3), some (.int (oI (tideK D v 0))), some (.int (nI 0)), l7] [] μ2 (fun u μ' => ∃ r, u = some (.int r) ∧ (r = tideR y3 (tideK D v 256) ∧ Fr scM μ1 μ')) := by
        refine mm_up (P := fun w => ∀ l7, mm_T X _ 0 0 k_M_tide 31 [some (.ref 71), some (.int l1), some (.int (nI v)), some (.int y3), some (.int (oI (tideK D v w))), some (.int (nI w)), l7] [] μ2 _) 256 ?_ (fun w hw8 ih => ?_)
        · intro l7
          rcases hb' : tideK D v 256 with _ | b'
          · refine mm_iload d_M_tide_31 rfl ?_
            refine mm_ciN 256 d_M_tide_33 rfl ?_
            refine mm_icmp_geN d_M_tide_36 (by first | omega | exact bt8_lt31 _ _ | exact godB_lt31 _ _ _ | exact pop_lt31 _ | assumption | exact b31 (hW.gp (by omega)) | exact b31 (hW.ne (by omega)) | exact b31 (hW.op (by omega)) | exact and31 (hW.gp (by omega)) | exact and31 (hW.ne (by omega)) | exact and31 (hW.op (by omega)) | exact and31 (by assumption) | exact and31r (hW.ne (by omega)) | exact and31r (hW.gp (by omega))) (by first | omega | exact bt8_lt31 _ _ | exact godB_lt31 _ _ _ | exact pop_lt31 _ | assumption | exact b31 (hW.gp (by omega)) | exact b31 (hW.ne (by omega)) | exact b31 (hW.op (by omega)) | exact and31 (hW.gp (by omega)) | exact and31 (hW.ne (by omega)) | exact and31 (hW.op (by omega)) | exact and31 (by assumption) | exact and31r (hW.ne (by omega)) | exact and31r (hW.gp (by omega))) (fun c_36 => ?_) (fun c_36 => False.elim (by omega))
            refine mm_iload d_M_tide_99 rfl ?_
            refine mm_ci d_M_tide_101 ?_
            refine mm_icmp_eqS d_M_tide_102 ?_
            refine mm_iload d_M_tide_109 rfl ?_
            refine mm_goto d_M_tide_111 ?_
            exact mm_ri d_M_tide_119 ⟨rfl, gf⟩
          · have hb2 := tideK_lt hb'
            refine mm_iload d_M_tide_31 rfl ?_
            refine mm_ciN 256 d_M_tide_33 rfl ?_
            refine mm_icmp_geN d_M_tide_36 (by first | omega | exact bt8_lt31 _ _ | exact godB_lt31 _ _ _ | exact pop_lt31 _ | assumption | exact b31 (hW.gp (by omega)) | exact b31 (hW.ne (by omega)) | exact b31 (hW.op (by omega)) | exact and31 (hW.gp (by omega)) | exact and31 (hW.ne (by omega)) | exact and31 (hW.op (by omega)) | exact and31 (by assumption) | exact and31r (hW.ne (by omega)) | exact and31r (hW.gp (by omega))) (by first | omega | exact bt8_lt31 _ _ | exact godB_lt31 _ _ _ | exact pop_lt31 _ | assumption | exact b31 (hW.gp (by omega)) | exact b31 (hW.ne (by omega)) | exact b31 (hW.op (by omega)) | exact and31 (hW.gp (by omega)) | exact and31 (hW.ne (by omega)) | exact and31 (hW.op (by omega)) | exact and31 (by assumption) | exact and31r (hW.ne (by omega)) | exact and31r (hW.gp (by omega))) (fun c_36 => ?_) (fun c_36 => False.elim (by omega))
            refine mm_iload d_M_tide_99 rfl ?_
            refine mm_ci d_M_tide_101 ?_
            refine mm_icmp_eqM1 d_M_tide_102 (by first | omega | exact bt8_lt31 _ _ | exact godB_lt31 _ _ _ | exact pop_lt31 _ | assumption | exact b31 (hW.gp (by omega)) | exact b31 (hW.ne (by omega)) | exact b31 (hW.op (by omega)) | exact and31 (hW.gp (by omega)) | exact and31 (hW.ne (by omega)) | exact and31 (hW.op (by omega)) | exact and31 (by assumption) | exact and31r (hW.ne (by omega)) | exact and31r (hW.gp (by omega))) ?_
            refine mm_iload d_M_tide_105 rfl ?_
            refine mm_if_eq d_M_tide_106 (fun c_106 => ?_) (fun c_106 => ?_)
            · refine mm_iload d_M_tide_114 rfl ?_
              refine mm_s1i d_M_tide_116 (sp_M_ones (by first | omega | assumption | exact hW.gp (by omega) | exact hW.ne (by omega) | exact hW.op (by omega) | exact and_lt256 (hW.gp (by omega)) | exact and_lt256 (hW.ne (by omega)) | exact and_lt256 (hW.op (by omega)) | exact and_lt256 (by assumption)) ?_)
              exact mm_ri d_M_tide_119 ⟨by first | exact (if_pos c_106).symm | exact (if_neg c_106).symm, gf⟩
            · refine mm_iload d_M_tide_109 rfl ?_
              refine mm_goto d_M_tide_111 ?_
              exact mm_ri d_M_tide_119 ⟨by first | exact (if_pos c_106).symm | exact (if_neg c_106).symm, gf⟩
        · intro l7
          have hr := readyN_lt hW w
          have hwo := worthN_le hW (readyN D w)
          rcases hb' : tideK D v w with _ | b'
          · refine mm_iload d_M_tide_31 rfl ?_
            refine mm_ciN 256 d_M_tide_33 rfl ?_
            refine mm_icmp_geN d_M_tide_36 (by first | omega | exact bt8_lt31 _ _ | exact godB_lt31 _ _ _ | exact pop_lt31 _ | assumption | exact b31 (hW.gp (by omega)) | exact b31 (hW.ne (by omega)) | exact b31 (hW.op (by omega)) | exact and31 (hW.gp (by omega)) | exact and31 (hW.ne (by omega)) | exact and31 (hW.op (by omega)) | exact and31 (by assumption) | exact and31r (hW.ne (by omega)) | exact and31r (hW.gp (by omega))) (by first | omega | exact bt8_lt31 _ _ | exact godB_lt31 _ _ _ | exact pop_lt31 _ | assumption | exact b31 (hW.gp (by omega)) | exact b31 (hW.ne (by omega)) | exact b31 (hW.op (by omega)) | exact and31 (hW.gp (by omega)) | exact and31 (hW.ne (by omega)) | exact and31 (hW.op (by omega)) | exact and31 (by assumption) | exact and31r (hW.ne (by omega)) | exact and31r (hW.gp (by omega))) (fun c_36 => False.elim (by omega)) (fun c_36 => ?_)
            refine mm_iload d_M_tide_39 rfl ?_
            refine mm_ci d_M_tide_41 ?_
            refine mm_icmp_eqS d_M_tide_42 ?_
            refine mm_ciN 1 d_M_tide_58 rfl ?_
            refine mm_goto d_M_tide_59 ?_
            refine mm_ist6 d_M_tide_63 ?_
            refine mm_iload d_M_tide_65 rfl ?_
            refine mm_if_eqN d_M_tide_67 (by first | omega | exact bt8_lt31 _ _ | exact godB_lt31 _ _ _ | exact pop_lt31 _ | assumption | exact b31 (hW.gp (by omega)) | exact b31 (hW.ne (by omega)) | exact b31 (hW.op (by omega)) | exact and31 (hW.gp (by omega)) | exact and31 (hW.ne (by omega)) | exact and31 (hW.op (by omega)) | exact and31 (by assumption) | exact and31r (hW.ne (by omega)) | exact and31r (hW.gp (by omega))) (fun c_67 => False.elim (by omega)) (fun c_67 => ?_)
            refine mm_aload d_M_tide_70 rfl ?_
            refine mm_aload d_M_tide_71 rfl ?_
            refine mm_iload d_M_tide_72 rfl ?_
            refine mm_v1i d_M_tide_74 (sk_o_71 hM) (sp_M_readyBy hH ?_)
            refine mm_v1i d_M_tide_77 (sk_o_71 hM) (sp_M_worthOf hH (by first | omega | assumption | exact hW.gp (by omega) | exact hW.ne (by omega) | exact hW.op (by omega) | exact and_lt256 (hW.gp (by omega)) | exact and_lt256 (hW.ne (by omega)) | exact and_lt256 (hW.op (by omega)) | exact and_lt256 (by assumption)) ?_)
            refine mm_iload d_M_tide_80 rfl ?_
            refine mm_icmp_ltN d_M_tide_81 (by first | omega | exact bt8_lt31 _ _ | exact godB_lt31 _ _ _ | exact pop_lt31 _ | assumption | exact b31 (hW.gp (by omega)) | exact b31 (hW.ne (by omega)) | exact b31 (hW.op (by omega)) | exact and31 (hW.gp (by omega)) | exact and31 (hW.ne (by omega)) | exact and31 (hW.op (by omega)) | exact and31 (by assumption) | exact and31r (hW.ne (by omega)) | exact and31r (hW.gp (by omega))) (by first | omega | exact bt8_lt31 _ _ | exact godB_lt31 _ _ _ | exact pop_lt31 _ | assumption | exact b31 (hW.gp (by omega)) | exact b31 (hW.ne (by omega)) | exact b31 (hW.op (by omega)) | exact and31 (hW.gp (by omega)) | exact and31 (hW.ne (by omega)) | exact and31 (hW.op (by omega)) | exact and31 (by assumption) | exact and31r (hW.ne (by omega)) | exact and31r (hW.gp (by omega))) (fun c_81 => ?_) (fun c_81 => ?_)
            · refine mm_iload d_M_tide_89 rfl ?_
              refine mm_ist4 d_M_tide_91 ?_
              refine mm_inc5N d_M_tide_93 ?_
              refine mm_goto d_M_tide_96 ?_
              first
                | (rw [show tideK D v (w + 1) = some w by unfold tideK; rw [hb']; simp [fewerB] <;> omega] at ih; exact ih _)
                | (rw [show tideK D v (w + 1) = none by unfold tideK; rw [hb']; simp [fewerB] <;> omega] at ih; exact ih _)
            · refine mm_iload d_M_tide_84 rfl ?_
              refine mm_goto d_M_tide_86 ?_
              refine mm_ist4 d_M_tide_91 ?_
              refine mm_inc5N d_M_tide_93 ?_
              refine mm_goto d_M_tide_96 ?_
              first
                | (rw [show tideK D v (w + 1) = some w by unfold tideK; rw [hb']; simp [fewerB] <;> omega] at ih; exact ih _)
                | (rw [show tideK D v (w + 1) = none by unfold tideK; rw [hb']; simp [fewerB] <;> omega] at ih; exact ih _)
          · have hb2 := tideK_lt hb'
            refine mm_iload d_M_tide_31 rfl ?_
            refine mm_ciN 256 d_M_tide_33 rfl ?_
            refine mm_icmp_geN d_M_tide_36 (by first | omega | exact bt8_lt31 _ _ | exact godB_lt31 _ _ _ | exact pop_lt31 _ | assumption | exact b31 (hW.gp (by omega)) | exact b31 (hW.ne (by omega)) | exact b31 (hW.op (by omega)) | exact and31 (hW.gp (by omega)) | exact and31 (hW.ne (by omega)) | exact and31 (hW.op (by omega)) | exact and31 (by assumption) | exact and31r (hW.ne (by omega)) | exact and31r (hW.gp (by omega))) (by first | omega | exact bt8_lt31 _ _ | exact godB_lt31 _ _ _ | exact pop_lt31 _ | assumption | exact b31 (hW.gp (by omega)) | exact b31 (hW.ne (by omega)) | exact b31 (hW.op (by omega)) | exact and31 (hW.gp (by omega)) | exact and31 (hW.ne (by omega)) | exact and31 (hW.op (by omega)) | exact and31 (by assumption) | exact and31r (hW.ne (by omega)) | exact and31r (hW.gp (by omega))) (fun c_36 => False.elim (by omega)) (fun c_36 => ?_)
            refine mm_iload d_M_tide_39 rfl ?_
            refine mm_ci d_M_tide_41 ?_
            refine mm_icmp_eqM1 d_M_tide_42 (by first | omega | exact bt8_lt31 _ _ | exact godB_lt31 _ _ _ | exact pop_lt31 _ | assumption | exact b31 (hW.gp (by omega)) | exact b31 (hW.ne (by omega)) | exact b31 (hW.op (by omega)) | exact and31 (hW.gp (by omega)) | exact and31 (hW.ne (by omega)) | exact and31 (hW.op (by omega)) | exact and31 (by assumption) | exact and31r (hW.ne (by omega)) | exact and31r (hW.gp (by omega))) ?_
            refine mm_iload d_M_tide_45 rfl ?_
            refine mm_s1i d_M_tide_47 (sp_M_ones (by first | omega | assumption | exact hW.gp (by omega) | exact hW.ne (by omega) | exact hW.op (by omega) | exact and_lt256 (hW.gp (by omega)) | exact and_lt256 (hW.ne (by omega)) | exact and_lt256 (hW.op (by omega)) | exact and_lt256 (by assumption)) ?_)
            refine mm_iload d_M_tide_50 rfl ?_
            refine mm_s1i d_M_tide_52 (sp_M_ones (by first | omega | assumption | exact hW.gp (by omega) | exact hW.ne (by omega) | exact hW.op (by omega) | exact and_lt256 (hW.gp (by omega)) | exact and_lt256 (hW.ne (by omega)) | exact and_lt256 (hW.op (by omega)) | exact and_lt256 (by assumption)) ?_)
            refine mm_icmp_geN d_M_tide_55 (by first | omega | exact bt8_lt31 _ _ | exact godB_lt31 _ _ _ | exact pop_lt31 _ | assumption | exact b31 (hW.gp (by omega)) | exact b31 (hW.ne (by omega)) | exact b31 (hW.op (by omega)) | exact and31 (hW.gp (by omega)) | exact and31 (hW.ne (by omega)) | exact and31 (hW.op (by omega)) | exact and31 (by assumption) | exact and31r (hW.ne (by omega)) | exact and31r (hW.gp (by omega))) (by first | omega | exact bt8_lt31 _ _ | exact godB_lt31 _ _ _ | exact pop_lt31 _ | assumption | exact b31 (hW.gp (by omega)) | exact b31 (hW.ne (by omega)) | exact b31 (hW.op (by omega)) | exact and31 (hW.gp (by omega)) | exact and31 (hW.ne (by omega)) | exact and31 (hW.op (by omega)) | exact and31 (by assumption) | exact and31r (hW.ne (by omega)) | exact and31r (hW.gp (by omega))) (fun c_55 => ?_) (fun c_55 => ?_)
            · refine mm_ciN 0 d_M_tide_62 rfl ?_
              refine mm_ist6 d_M_tide_63 ?_
              refine mm_iload d_M_tide_65 rfl ?_
              refine mm_if_eqN d_M_tide_67 (by first | omega | exact bt8_lt31 _ _ | exact godB_lt31 _ _ _ | exact pop_lt31 _ | assumption | exact b31 (hW.gp (by omega)) | exact b31 (hW.ne (by omega)) | exact b31 (hW.op (by omega)) | exact and31 (hW.gp (by omega)) | exact and31 (hW.ne (by omega)) | exact and31 (hW.op (by omega)) | exact and31 (by assumption) | exact and31r (hW.ne (by omega)) | exact and31r (hW.gp (by omega))) (fun c_67 => ?_) (fun c_67 => False.elim (by omega))
              refine mm_iload d_M_tide_89 rfl ?_
              refine mm_ist4 d_M_tide_91 ?_
              refine mm_inc5N d_M_tide_93 ?_
              refine mm_goto d_M_tide_96 ?_
              first
                | (rw [show tideK D v (w + 1) = some w by unfold tideK; rw [hb']; simp [fewerB] <;> omega] at ih; exact ih _)
                | (rw [show tideK D v (w + 1) = some b' by unfold tideK; rw [hb']; simp [fewerB] <;> omega] at ih; exact ih _)
            · refine mm_ciN 1 d_M_tide_58 rfl ?_
              refine mm_goto d_M_tide_59 ?_
              refine mm_ist6 d_M_tide_63 ?_
              refine mm_iload d_M_tide_65 rfl ?_
              refine mm_if_eqN d_M_tide_67 (by first | omega | exact bt8_lt31 _ _ | exact godB_lt31 _ _ _ | exact pop_lt31 _ | assumption | exact b31 (hW.gp (by omega)) | exact b31 (hW.ne (by omega)) | exact b31 (hW.op (by omega)) | exact and31 (hW.gp (by omega)) | exact and31 (hW.ne (by omega)) | exact and31 (hW.op (by omega)) | exact and31 (by assumption) | exact and31r (hW.ne (by omega)) | exact and31r (hW.gp (by omega))) (fun c_67 => False.elim (by omega)) (fun c_67 => ?_)
              refine mm_aload d_M_tide_70 rfl ?_
              refine mm_aload d_M_tide_71 rfl ?_
              refine mm_iload d_M_tide_72 rfl ?_
              refine mm_v1i d_M_tide_74 (sk_o_71 hM) (sp_M_readyBy hH ?_)
              refine mm_v1i d_M_tide_77 (sk_o_71 hM) (sp_M_worthOf hH (by first | omega | assumption | exact hW.gp (by omega) | exact hW.ne (by omega) | exact hW.op (by omega) | exact and_lt256 (hW.gp (by omega)) | exact and_lt256 (hW.ne (by omega)) | exact and_lt256 (hW.op (by omega)) | exact and_lt256 (by assumption)) ?_)
              refine mm_iload d_M_tide_80 rfl ?_
              refine mm_icmp_ltN d_M_tide_81 (by first | omega | exact bt8_lt31 _ _ | exact godB_lt31 _ _ _ | exact pop_lt31 _ | assumption | exact b31 (hW.gp (by omega)) | exact b31 (hW.ne (by omega)) | exact b31 (hW.op (by omega)) | exact and31 (hW.gp (by omega)) | exact and31 (hW.ne (by omega)) | exact and31 (hW.op (by omega)) | exact and31 (by assumption) | exact and31r (hW.ne (by omega)) | exact and31r (hW.gp (by omega))) (by first | omega | exact bt8_lt31 _ _ | exact godB_lt31 _ _ _ | exact pop_lt31 _ | assumption | exact b31 (hW.gp (by omega)) | exact b31 (hW.ne (by omega)) | exact b31 (hW.op (by omega)) | exact and31 (hW.gp (by omega)) | exact and31 (hW.ne (by omega)) | exact and31 (hW.op (by omega)) | exact and31 (by assumption) | exact and31r (hW.ne (by omega)) | exact and31r (hW.gp (by omega))) (fun c_81 => ?_) (fun c_81 => ?_)
              · refine mm_iload d_M_tide_89 rfl ?_
                refine mm_ist4 d_M_tide_91 ?_
                refine mm_inc5N d_M_tide_93 ?_
                refine mm_goto d_M_tide_96 ?_
                first
                  | (rw [show tideK D v (w + 1) = some w by unfold tideK; rw [hb']; simp [fewerB] <;> omega] at ih; exact ih _)
                  | (rw [show tideK D v (w + 1) = some b' by unfold tideK; rw [hb']; simp [fewerB] <;> omega] at ih; exact ih _)
              · refine mm_iload d_M_tide_84 rfl ?_
                refine mm_goto d_M_tide_86 ?_
                refine mm_ist4 d_M_tide_91 ?_
                refine mm_inc5N d_M_tide_93 ?_
                refine mm_goto d_M_tide_96 ?_
                first
                  | (rw [show tideK D v (w + 1) = some w by unfold tideK; rw [hb']; simp [fewerB] <;> omega] at ih; exact ih _)
                  | (rw [show tideK D v (w + 1) = some b' by unfold tideK; rw [hb']; simp [fewerB] <;> omega] at ih; exact ih _)
      exact main _
