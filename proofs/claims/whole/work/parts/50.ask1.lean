/-! pairs: questions of a coast -/
theorem all_lt {D : mm_D} (hW : WfD D) : 2 ^ dn D - 1 < 256 := by
  have h := Nat.pow_le_pow_right (n := 2) (by decide) hW.1
  have : 2 ^ 6 = 64 := rfl
  omega
theorem allw_lt {D : mm_D} (hW : WfD D) : 2 ^ dw D - 1 < 64 := by
  have h := Nat.pow_le_pow_right (n := 2) (by decide) hW.2.1
  have : 2 ^ 6 = 64 := rfl
  omega
theorem readyN_lt {D : mm_D} (hW : WfD D) (s : Nat) : readyN D s < 64 := by
  have h := readyK_lt D s (dw D) (by have := hW.2.1; omega)
  have h2 := Nat.pow_le_pow_right (n := 2) (by decide) hW.2.1
  have : 2 ^ 6 = 64 := rfl
  unfold readyN
  omega
theorem worthK_le {D : mm_D} (hW : WfD D) (s : Nat) : ∀ k, k ≤ 6 → worthK D s k ≤ 20 * k
  | 0, _ => Nat.le_refl 0
  | k + 1, h => by
    have h1 := worthK_le hW s k (by omega)
    have h2 := hW.wo (j := k) (by omega)
    unfold worthK
    split <;> omega
theorem worthN_le {D : mm_D} (hW : WfD D) (s : Nat) : worthN D s ≤ 120 := by
  have := worthK_le hW s (dw D) hW.2.1
  have := hW.2.1
  unfold worthN
  omega
theorem godB_in {D : mm_D} {c w : Nat} (h : c < dn D) : godB D c w = bt8 (dgp D c) w := if_pos h
def nearK (D : mm_D) (s : Nat) : Nat → Nat
  | 0 => 0
  | k + 1 => nearK D s k ||| (if pop (dgp D k &&& s) < 2 then 0 else 2 ^ k)
theorem pair_near {X : mm_X} {k : Nat} {μ : mm_M} (hJ : JJ k μ) (y1 y2 : Int32) : PairI X (JJ (k + 1)) k_G_near k_M_near [.int y1, .int y2] μ := by
  obtain ⟨c, h02, h0, m0, hv⟩ := hJ.coast y1
  have hM := hJ.1
  have hw := hJ.2.2.2.up
  rcases hv with hx | ⟨i, D, hi, rfl, hW, hCD, hDM⟩
  · exact pairQ (-1) hJ (d := 2) (d' := 4) (by decide) (by decide) (n_G_near hM h0 h02 hx ⟨rfl, Fr.rf, hw⟩) (fun μ1 hf => n_M_near (hf.2.2.2 hM) (by rw [(hf.2.2.1 76 rfl).1]; exact m0) h02 hx (fun μ' hk => ⟨rfl, hk.fr (hf.2.2.2 hM)⟩))
  have hn6 := hW.1
  have hw6 := hW.2.1
  rcases bits_or y2 with hz | ⟨s, hs, rfl⟩
  · refine pairQ (-1) hJ (d := 12) (d' := 12) (by decide) (by decide) ?_ (fun μ1 hf => ?_)
    · show mm_T X 12 0 0 k_G_near 0 [some (.ref 0), some (.int (nI i)), some (.int y2), none, none, none] [] μ _
      refine mm_aload d_G_near_0 rfl ?_
      refine mm_getP d_G_near_1 rfl (sk_o_0 hM) (sk_p_0_0 hM) ?_
      refine mm_iload d_G_near_4 rfl ?_
      refine mm_v1r d_G_near_5 (sk_o_1 hM) (sp_To_coastAtI hM h0 h02 hi ?_)
      refine mm_ast3 d_G_near_8 ?_
      refine mm_aload d_G_near_9 rfl ?_
      refine mm_ifnull d_G_near_10 ?_
      refine mm_iload d_G_near_13 rfl ?_
      refine mm_s1i d_G_near_14 (sp_G_isWeatherBitsB hz ?_)
      refine mm_if_neN d_G_near_17 (by first | omega | exact bt8_lt31 _ _ | exact godB_lt31 _ _ _ | exact pop_lt31 _ | assumption | exact b31 (hW.gp (by omega)) | exact b31 (hW.ne (by omega)) | exact b31 (hW.op (by omega)) | exact and31 (hW.gp (by omega)) | exact and31 (hW.ne (by omega)) | exact and31 (hW.op (by omega)) | exact and31 (by assumption)) (fun c_17 => False.elim (by omega)) (fun c_17 => ?_)
      refine mm_ci d_G_near_20 ?_
      exact mm_ri d_G_near_21 ⟨rfl, Fr.rf, hw⟩
    · show mm_T X 12 0 0 k_M_near 0 [some (.ref 71), some (.int (nI i)), some (.int y2), none, none] [] μ1 _
      replace hM := hf.2.2.2 hM
      replace m0 : mm_I μ1 76 0 = nI c := by rw [(hf.2.2.1 76 rfl).1]; exact m0
      replace hDM := hDM.frC hf
      refine mm_aload d_M_near_0 rfl ?_
      refine mm_ciN 0 d_M_near_1 rfl ?_
      refine mm_putI d_M_near_2 rfl (sk_o_71 hM) (Or.inl rfl) ?_
      refine mm_iload d_M_near_5 rfl ?_
      refine mm_ciN 0 d_M_near_6 rfl ?_
      refine mm_ciN 255 d_M_near_7 rfl ?_
      refine mm_s3i d_M_near_10 (sp_M_inB hz ?_)
      refine mm_if_eqN d_M_near_13 (by first | omega | exact bt8_lt31 _ _ | exact godB_lt31 _ _ _ | exact pop_lt31 _ | assumption | exact b31 (hW.gp (by omega)) | exact b31 (hW.ne (by omega)) | exact b31 (hW.op (by omega)) | exact and31 (hW.gp (by omega)) | exact and31 (hW.ne (by omega)) | exact and31 (hW.op (by omega)) | exact and31 (by assumption)) (fun c_13 => ?_) (fun c_13 => False.elim (by omega))
      refine mm_ci d_M_near_24 ?_
      exact mm_ri d_M_near_25 ⟨rfl, Fr.rf.sI rfl⟩
  · refine pairQ (nI (nearK D s (dn D))) hJ (d := 12) (d' := 12) (by decide) (by decide) ?_ (fun μ1 hf => ?_)
    · show mm_T X 12 0 0 k_G_near 0 [some (.ref 0), some (.int (nI i)), some (.int (nI s)), none, none, none] [] μ _
      refine mm_aload d_G_near_0 rfl ?_
      refine mm_getP d_G_near_1 rfl (sk_o_0 hM) (sk_p_0_0 hM) ?_
      refine mm_iload d_G_near_4 rfl ?_
      refine mm_v1r d_G_near_5 (sk_o_1 hM) (sp_To_coastAtI hM h0 h02 hi ?_)
      refine mm_ast3 d_G_near_8 ?_
      refine mm_aload d_G_near_9 rfl ?_
      refine mm_ifnull d_G_near_10 ?_
      refine mm_iload d_G_near_13 rfl ?_
      refine mm_s1i d_G_near_14 (sp_G_isWeatherBitsT (by omega) ?_)
      refine mm_if_neN d_G_near_17 (by first | omega | exact bt8_lt31 _ _ | exact godB_lt31 _ _ _ | exact pop_lt31 _ | assumption | exact b31 (hW.gp (by omega)) | exact b31 (hW.ne (by omega)) | exact b31 (hW.op (by omega)) | exact and31 (hW.gp (by omega)) | exact and31 (hW.ne (by omega)) | exact and31 (hW.op (by omega)) | exact and31 (by assumption)) (fun c_17 => ?_) (fun c_17 => False.elim (by omega))
      refine mm_ciN 0 d_G_near_22 rfl ?_
      refine mm_ist4 d_G_near_23 ?_
      refine mm_ciN 0 d_G_near_25 rfl ?_
      refine mm_ist5 d_G_near_26 ?_
      generalize 4 + 7 * i = a at hCD ⊢
      generalize nI i = l1
      refine mm_up (P := fun i => mm_T X _ 0 0 k_G_near 28 [some (.ref 0), some (.int l1), some (.int (nI s)), some (.ref a), some (.int (nI (nearK D s i))), some (.int (nI i))] [] μ _) (dn D) ?_ (fun i hi ih => ?_)
      · refine mm_iload d_G_near_28 rfl ?_
        refine mm_aload d_G_near_30 rfl ?_
        refine mm_getIN d_G_near_31 rfl hCD.1.1 hCD.n ?_
        refine mm_icmp_geN d_G_near_34 (by first | omega | exact bt8_lt31 _ _ | exact godB_lt31 _ _ _ | exact pop_lt31 _ | assumption | exact b31 (hW.gp (by omega)) | exact b31 (hW.ne (by omega)) | exact b31 (hW.op (by omega)) | exact and31 (hW.gp (by omega)) | exact and31 (hW.ne (by omega)) | exact and31 (hW.op (by omega)) | exact and31 (by assumption)) (by first | omega | exact bt8_lt31 _ _ | exact godB_lt31 _ _ _ | exact pop_lt31 _ | assumption | exact b31 (hW.gp (by omega)) | exact b31 (hW.ne (by omega)) | exact b31 (hW.op (by omega)) | exact and31 (hW.gp (by omega)) | exact and31 (hW.ne (by omega)) | exact and31 (hW.op (by omega)) | exact and31 (by assumption)) (fun c_34 => ?_) (fun c_34 => False.elim (by omega))
        refine mm_iload d_G_near_68 rfl ?_
        exact mm_ri d_G_near_70 ⟨rfl, Fr.rf, hw⟩
      · refine mm_iload d_G_near_28 rfl ?_
        refine mm_aload d_G_near_30 rfl ?_
        refine mm_getIN d_G_near_31 rfl hCD.1.1 hCD.n ?_
        refine mm_icmp_geN d_G_near_34 (by first | omega | exact bt8_lt31 _ _ | exact godB_lt31 _ _ _ | exact pop_lt31 _ | assumption | exact b31 (hW.gp (by omega)) | exact b31 (hW.ne (by omega)) | exact b31 (hW.op (by omega)) | exact and31 (hW.gp (by omega)) | exact and31 (hW.ne (by omega)) | exact and31 (hW.op (by omega)) | exact and31 (by assumption)) (by first | omega | exact bt8_lt31 _ _ | exact godB_lt31 _ _ _ | exact pop_lt31 _ | assumption | exact b31 (hW.gp (by omega)) | exact b31 (hW.ne (by omega)) | exact b31 (hW.op (by omega)) | exact and31 (hW.gp (by omega)) | exact and31 (hW.ne (by omega)) | exact and31 (hW.op (by omega)) | exact and31 (by assumption)) (fun c_34 => False.elim (by omega)) (fun c_34 => ?_)
        refine mm_aload d_G_near_37 rfl ?_
        refine mm_getP d_G_near_38 rfl hCD.1.1 (CoS_p3 hCD.1) ?_
        refine mm_iload d_G_near_41 rfl ?_
        refine mm_ialdN d_G_near_43 (CoS_a3 hCD.1) (by omega) (by decide) (hCD.f3 (by omega)) ?_
        refine mm_iload d_G_near_44 rfl ?_
        refine mm_iandN d_G_near_45 ?_
        refine mm_s1i d_G_near_46 (sp_Int_bitCount (by first | omega | assumption | exact hW.gp (by omega) | exact hW.ne (by omega) | exact hW.op (by omega) | exact and_lt256 (hW.gp (by omega)) | exact and_lt256 (hW.ne (by omega)) | exact and_lt256 (hW.op (by omega))) ?_)
        refine mm_ciN 2 d_G_near_49 rfl ?_
        refine mm_icmp_ltN d_G_near_50 (by first | omega | exact bt8_lt31 _ _ | exact godB_lt31 _ _ _ | exact pop_lt31 _ | assumption | exact b31 (hW.gp (by omega)) | exact b31 (hW.ne (by omega)) | exact b31 (hW.op (by omega)) | exact and31 (hW.gp (by omega)) | exact and31 (hW.ne (by omega)) | exact and31 (hW.op (by omega)) | exact and31 (by assumption)) (by first | omega | exact bt8_lt31 _ _ | exact godB_lt31 _ _ _ | exact pop_lt31 _ | assumption | exact b31 (hW.gp (by omega)) | exact b31 (hW.ne (by omega)) | exact b31 (hW.op (by omega)) | exact and31 (hW.gp (by omega)) | exact and31 (hW.ne (by omega)) | exact and31 (hW.op (by omega)) | exact and31 (by assumption)) (fun c_50 => ?_) (fun c_50 => ?_)
        · refine mm_inc5N d_G_near_62 ?_
          refine mm_goto d_G_near_65 ?_
          first
            | exact ih
            | (have z := ih; simp only [nearK, if_pos c_50] at z; exact z)
            | (have z := ih; simp only [nearK, if_pos c_50, Nat.or_zero, Nat.add_zero] at z; exact z)
            | (have z := ih; simp only [nearK, if_pos c_50, Nat.mul_one] at z; exact z)
            | (have z := ih; simp only [nearK, if_neg c_50] at z; exact z)
            | (have z := ih; simp only [nearK, if_neg c_50, Nat.or_zero, Nat.add_zero] at z; exact z)
            | (have z := ih; simp only [nearK, if_neg c_50, Nat.mul_one] at z; exact z)
            | (have z := ih; simp only [nearK, if_neg (Nat.not_lt.mpr c_50)] at z; exact z)
            | (have z := ih; simp only [nearK, if_neg (Nat.not_lt.mpr c_50), Nat.or_zero, Nat.add_zero] at z; exact z)
            | (have z := ih; simp only [nearK, if_neg (Nat.not_lt.mpr c_50), Nat.mul_one] at z; exact z)
            | (have z := ih; simp only [nearK, if_neg (Nat.not_le.mpr c_50)] at z; exact z)
            | (have z := ih; simp only [nearK, if_neg (Nat.not_le.mpr c_50), Nat.or_zero, Nat.add_zero] at z; exact z)
            | (have z := ih; simp only [nearK, if_neg (Nat.not_le.mpr c_50), Nat.mul_one] at z; exact z)
        · refine mm_iload d_G_near_53 rfl ?_
          refine mm_ciN 1 d_G_near_55 rfl ?_
          refine mm_iload d_G_near_56 rfl ?_
          refine mm_ishl1N d_G_near_58 (by omega) ?_
          refine mm_iorN d_G_near_59 ?_
          refine mm_ist4 d_G_near_60 ?_
          refine mm_inc5N d_G_near_62 ?_
          refine mm_goto d_G_near_65 ?_
          first
            | exact ih
            | (have z := ih; simp only [nearK, if_pos c_50] at z; exact z)
            | (have z := ih; simp only [nearK, if_pos c_50, Nat.or_zero, Nat.add_zero] at z; exact z)
            | (have z := ih; simp only [nearK, if_pos c_50, Nat.mul_one] at z; exact z)
            | (have z := ih; simp only [nearK, if_neg c_50] at z; exact z)
            | (have z := ih; simp only [nearK, if_neg c_50, Nat.or_zero, Nat.add_zero] at z; exact z)
            | (have z := ih; simp only [nearK, if_neg c_50, Nat.mul_one] at z; exact z)
            | (have z := ih; simp only [nearK, if_neg (Nat.not_lt.mpr c_50)] at z; exact z)
            | (have z := ih; simp only [nearK, if_neg (Nat.not_lt.mpr c_50), Nat.or_zero, Nat.add_zero] at z; exact z)
            | (have z := ih; simp only [nearK, if_neg (Nat.not_lt.mpr c_50), Nat.mul_one] at z; exact z)
            | (have z := ih; simp only [nearK, if_neg (Nat.not_le.mpr c_50)] at z; exact z)
            | (have z := ih; simp only [nearK, if_neg (Nat.not_le.mpr c_50), Nat.or_zero, Nat.add_zero] at z; exact z)
            | (have z := ih; simp only [nearK, if_neg (Nat.not_le.mpr c_50), Nat.mul_one] at z; exact z)
    · show mm_T X 12 0 0 k_M_near 0 [some (.ref 71), some (.int (nI i)), some (.int (nI s)), none, none] [] μ1 _
      replace hM := hf.2.2.2 hM
      replace m0 : mm_I μ1 76 0 = nI c := by rw [(hf.2.2.1 76 rfl).1]; exact m0
      replace hDM := hDM.frC hf
      refine mm_aload d_M_near_0 rfl ?_
      refine mm_ciN 0 d_M_near_1 rfl ?_
      refine mm_putI d_M_near_2 rfl (sk_o_71 hM) (Or.inl rfl) ?_
      refine mm_iload d_M_near_5 rfl ?_
      refine mm_ciN 0 d_M_near_6 rfl ?_
      refine mm_ciN 255 d_M_near_7 rfl ?_
      refine mm_s3i d_M_near_10 (sp_M_inT (by omega) (by omega) (by omega) ?_)
      refine mm_if_eqN d_M_near_13 (by first | omega | exact bt8_lt31 _ _ | exact godB_lt31 _ _ _ | exact pop_lt31 _ | assumption | exact b31 (hW.gp (by omega)) | exact b31 (hW.ne (by omega)) | exact b31 (hW.op (by omega)) | exact and31 (hW.gp (by omega)) | exact and31 (hW.ne (by omega)) | exact and31 (hW.op (by omega)) | exact and31 (by assumption)) (fun c_13 => False.elim (by omega)) (fun c_13 => ?_)
      refine mm_aload d_M_near_16 rfl ?_
      refine mm_iload d_M_near_17 rfl ?_
      refine mm_v1i d_M_near_18 (sk_o_71 hM) (sp_M_handN hM (by first | exact m0 | (rw [mm_sI_off (by decide)]; exact m0)) h02 hi (by first | exact hDM | exact hDM.eq (mm_sI_off (by decide))) hW (fun μ2 g1 hH hZ => ?_))
      replace hM := hH.1
      refine mm_if_neN d_M_near_21 (by first | omega | exact bt8_lt31 _ _ | exact godB_lt31 _ _ _ | exact pop_lt31 _ | assumption | exact b31 (hW.gp (by omega)) | exact b31 (hW.ne (by omega)) | exact b31 (hW.op (by omega)) | exact and31 (hW.gp (by omega)) | exact and31 (hW.ne (by omega)) | exact and31 (hW.op (by omega)) | exact and31 (by assumption)) (fun c_21 => ?_) (fun c_21 => False.elim (by omega))
      refine mm_ciN 0 d_M_near_26 rfl ?_
      refine mm_ist3 d_M_near_27 ?_
      refine mm_ciN 0 d_M_near_28 rfl ?_
      refine mm_ist4 d_M_near_29 ?_
      have gf := (Fr.rf (S := scM) (μ := μ1).sI (j := 0) (x := nI 0) (a := 71) rfl).trans g1
      generalize nI i = l1
      refine mm_up (P := fun i => mm_T X _ 0 0 k_M_near 31 [some (.ref 71), some (.int l1), some (.int (nI s)), some (.int (nI (nearK D s i))), some (.int (nI i))] [] μ2 _) (dn D) ?_ (fun i hi ih => ?_)
      · refine mm_iload d_M_near_31 rfl ?_
        refine mm_aload d_M_near_33 rfl ?_
        refine mm_getIN d_M_near_34 rfl (sk_o_71 hM) hH.n ?_
        refine mm_icmp_geN d_M_near_37 (by first | omega | exact bt8_lt31 _ _ | exact godB_lt31 _ _ _ | exact pop_lt31 _ | assumption | exact b31 (hW.gp (by omega)) | exact b31 (hW.ne (by omega)) | exact b31 (hW.op (by omega)) | exact and31 (hW.gp (by omega)) | exact and31 (hW.ne (by omega)) | exact and31 (hW.op (by omega)) | exact and31 (by assumption)) (by first | omega | exact bt8_lt31 _ _ | exact godB_lt31 _ _ _ | exact pop_lt31 _ | assumption | exact b31 (hW.gp (by omega)) | exact b31 (hW.ne (by omega)) | exact b31 (hW.op (by omega)) | exact and31 (hW.gp (by omega)) | exact and31 (hW.ne (by omega)) | exact and31 (hW.op (by omega)) | exact and31 (by assumption)) (fun c_37 => ?_) (fun c_37 => False.elim (by omega))
        refine mm_iload d_M_near_72 rfl ?_
        exact mm_ri d_M_near_73 ⟨rfl, gf⟩
      · refine mm_iload d_M_near_31 rfl ?_
        refine mm_aload d_M_near_33 rfl ?_
        refine mm_getIN d_M_near_34 rfl (sk_o_71 hM) hH.n ?_
        refine mm_icmp_geN d_M_near_37 (by first | omega | exact bt8_lt31 _ _ | exact godB_lt31 _ _ _ | exact pop_lt31 _ | assumption | exact b31 (hW.gp (by omega)) | exact b31 (hW.ne (by omega)) | exact b31 (hW.op (by omega)) | exact and31 (hW.gp (by omega)) | exact and31 (hW.ne (by omega)) | exact and31 (hW.op (by omega)) | exact and31 (by assumption)) (by first | omega | exact bt8_lt31 _ _ | exact godB_lt31 _ _ _ | exact pop_lt31 _ | assumption | exact b31 (hW.gp (by omega)) | exact b31 (hW.ne (by omega)) | exact b31 (hW.op (by omega)) | exact and31 (hW.gp (by omega)) | exact and31 (hW.ne (by omega)) | exact and31 (hW.op (by omega)) | exact and31 (by assumption)) (fun c_37 => False.elim (by omega)) (fun c_37 => ?_)
        refine mm_iload d_M_near_40 rfl ?_
        refine mm_aload d_M_near_41 rfl ?_
        refine mm_iload d_M_near_42 rfl ?_
        refine mm_v1i d_M_near_44 (sk_o_71 hM) (sp_M_gods hH (by omega) ?_)
        refine mm_iload d_M_near_47 rfl ?_
        refine mm_iandN d_M_near_48 ?_
        refine mm_s1i d_M_near_49 (sp_M_ones (by first | omega | assumption | exact hW.gp (by omega) | exact hW.ne (by omega) | exact hW.op (by omega) | exact and_lt256 (hW.gp (by omega)) | exact and_lt256 (hW.ne (by omega)) | exact and_lt256 (hW.op (by omega))) ?_)
        refine mm_ciN 2 d_M_near_52 rfl ?_
        refine mm_icmp_ltN d_M_near_53 (by first | omega | exact bt8_lt31 _ _ | exact godB_lt31 _ _ _ | exact pop_lt31 _ | assumption | exact b31 (hW.gp (by omega)) | exact b31 (hW.ne (by omega)) | exact b31 (hW.op (by omega)) | exact and31 (hW.gp (by omega)) | exact and31 (hW.ne (by omega)) | exact and31 (hW.op (by omega)) | exact and31 (by assumption)) (by first | omega | exact bt8_lt31 _ _ | exact godB_lt31 _ _ _ | exact pop_lt31 _ | assumption | exact b31 (hW.gp (by omega)) | exact b31 (hW.ne (by omega)) | exact b31 (hW.op (by omega)) | exact and31 (hW.gp (by omega)) | exact and31 (hW.ne (by omega)) | exact and31 (hW.op (by omega)) | exact and31 (by assumption)) (fun c_53 => ?_) (fun c_53 => ?_)
        · refine mm_ciN 0 d_M_near_63 rfl ?_
          refine mm_iorN d_M_near_64 ?_
          refine mm_ist3 d_M_near_65 ?_
          refine mm_inc4N d_M_near_66 ?_
          refine mm_goto d_M_near_69 ?_
          first
            | exact ih
            | (have z := ih; simp only [nearK, if_pos c_53] at z; exact z)
            | (have z := ih; simp only [nearK, if_pos c_53, Nat.or_zero, Nat.add_zero] at z; exact z)
            | (have z := ih; simp only [nearK, if_pos c_53, Nat.mul_one] at z; exact z)
            | (have z := ih; simp only [nearK, if_neg c_53] at z; exact z)
            | (have z := ih; simp only [nearK, if_neg c_53, Nat.or_zero, Nat.add_zero] at z; exact z)
            | (have z := ih; simp only [nearK, if_neg c_53, Nat.mul_one] at z; exact z)
            | (have z := ih; simp only [nearK, if_neg (Nat.not_lt.mpr c_53)] at z; exact z)
            | (have z := ih; simp only [nearK, if_neg (Nat.not_lt.mpr c_53), Nat.or_zero, Nat.add_zero] at z; exact z)
            | (have z := ih; simp only [nearK, if_neg (Nat.not_lt.mpr c_53), Nat.mul_one] at z; exact z)
            | (have z := ih; simp only [nearK, if_neg (Nat.not_le.mpr c_53)] at z; exact z)
            | (have z := ih; simp only [nearK, if_neg (Nat.not_le.mpr c_53), Nat.or_zero, Nat.add_zero] at z; exact z)
            | (have z := ih; simp only [nearK, if_neg (Nat.not_le.mpr c_53), Nat.mul_one] at z; exact z)
        · refine mm_ciN 1 d_M_near_56 rfl ?_
          refine mm_iload d_M_near_57 rfl ?_
          refine mm_ishl1N d_M_near_59 (by omega) ?_
          refine mm_goto d_M_near_60 ?_
          refine mm_iorN d_M_near_64 ?_
          refine mm_ist3 d_M_near_65 ?_
          refine mm_inc4N d_M_near_66 ?_
          refine mm_goto d_M_near_69 ?_
          first
            | exact ih
            | (have z := ih; simp only [nearK, if_pos c_53] at z; exact z)
            | (have z := ih; simp only [nearK, if_pos c_53, Nat.or_zero, Nat.add_zero] at z; exact z)
            | (have z := ih; simp only [nearK, if_pos c_53, Nat.mul_one] at z; exact z)
            | (have z := ih; simp only [nearK, if_neg c_53] at z; exact z)
            | (have z := ih; simp only [nearK, if_neg c_53, Nat.or_zero, Nat.add_zero] at z; exact z)
            | (have z := ih; simp only [nearK, if_neg c_53, Nat.mul_one] at z; exact z)
            | (have z := ih; simp only [nearK, if_neg (Nat.not_lt.mpr c_53)] at z; exact z)
            | (have z := ih; simp only [nearK, if_neg (Nat.not_lt.mpr c_53), Nat.or_zero, Nat.add_zero] at z; exact z)
            | (have z := ih; simp only [nearK, if_neg (Nat.not_lt.mpr c_53), Nat.mul_one] at z; exact z)
            | (have z := ih; simp only [nearK, if_neg (Nat.not_le.mpr c_53)] at z; exact z)
            | (have z := ih; simp only [nearK, if_neg (Nat.not_le.mpr c_53), Nat.or_zero, Nat.add_zero] at z; exact z)
            | (have z := ih; simp only [nearK, if_neg (Nat.not_le.mpr c_53), Nat.mul_one] at z; exact z)
theorem pair_kin {X : mm_X} {k : Nat} {μ : mm_M} (hJ : JJ k μ) (y1 y2 y3 : Int32) : PairI X (JJ (k + 1)) k_G_kin k_M_kin [.int y1, .int y2, .int y3] μ := by
  obtain ⟨c, h02, h0, m0, hv⟩ := hJ.coast y1
  have hM := hJ.1
  have hw := hJ.2.2.2.up
  rcases hv with hx | ⟨i, D, hi, rfl, hW, hCD, hDM⟩
  · exact pairQ (-1) hJ (d := 2) (d' := 4) (by decide) (by decide) (n_G_kin hM h0 h02 hx ⟨rfl, Fr.rf, hw⟩) (fun μ1 hf => n_M_kin (hf.2.2.2 hM) (by rw [(hf.2.2.1 76 rfl).1]; exact m0) h02 hx (fun μ' hk => ⟨rfl, hk.fr (hf.2.2.2 hM)⟩))
  have hn6 := hW.1
  have hw6 := hW.2.1
  rcases atF_or (c := dn D) (by omega) y2 with hz | ⟨a, ha, rfl⟩
  · refine pairQ (-1) hJ (d := 12) (d' := 12) (by decide) (by decide) ?_ (fun μ1 hf => ?_)
    · show mm_T X 12 0 0 k_G_kin 0 [some (.ref 0), some (.int (nI i)), some (.int y2), some (.int y3), none] [] μ _
      refine mm_aload d_G_kin_0 rfl ?_
      refine mm_getP d_G_kin_1 rfl (sk_o_0 hM) (sk_p_0_0 hM) ?_
      refine mm_iload d_G_kin_4 rfl ?_
      refine mm_iload d_G_kin_5 rfl ?_
      refine mm_v2r d_G_kin_6 (sk_o_1 hM) (sp_To_coastWithChildN hM h0 h02 hi hCD hz ?_)
      refine mm_astN4 d_G_kin_9 ?_
      refine mm_aloadN d_G_kin_11 rfl ?_
      refine mm_ifnullN d_G_kin_13 ?_
      refine mm_ci d_G_kin_25 ?_
      exact mm_ri d_G_kin_26 ⟨rfl, Fr.rf, hw⟩
    · show mm_T X 12 0 0 k_M_kin 0 [some (.ref 71), some (.int (nI i)), some (.int y2), some (.int y3)] [] μ1 _
      replace hM := hf.2.2.2 hM
      replace m0 : mm_I μ1 76 0 = nI c := by rw [(hf.2.2.1 76 rfl).1]; exact m0
      replace hDM := hDM.frC hf
      refine mm_aload d_M_kin_0 rfl ?_
      refine mm_ciN 0 d_M_kin_1 rfl ?_
      refine mm_putI d_M_kin_2 rfl (sk_o_71 hM) (Or.inl rfl) ?_
      refine mm_aload d_M_kin_5 rfl ?_
      refine mm_iload d_M_kin_6 rfl ?_
      refine mm_v1i d_M_kin_7 (sk_o_71 hM) (sp_M_handN hM (by first | exact m0 | (rw [mm_sI_off (by decide)]; exact m0)) h02 hi (by first | exact hDM | exact hDM.eq (mm_sI_off (by decide))) hW (fun μ2 g1 hH hZ => ?_))
      replace hM := hH.1
      refine mm_if_eqN d_M_kin_10 (by first | omega | exact bt8_lt31 _ _ | exact godB_lt31 _ _ _ | exact pop_lt31 _ | assumption | exact b31 (hW.gp (by omega)) | exact b31 (hW.ne (by omega)) | exact b31 (hW.op (by omega)) | exact and31 (hW.gp (by omega)) | exact and31 (hW.ne (by omega)) | exact and31 (hW.op (by omega)) | exact and31 (by assumption)) (fun c_10 => False.elim (by omega)) (fun c_10 => ?_)
      refine mm_aload d_M_kin_13 rfl ?_
      refine mm_iload d_M_kin_14 rfl ?_
      refine mm_v1i d_M_kin_15 (sk_o_71 hM) (sp_M_isChildB hH hz ?_)
      refine mm_if_eqN d_M_kin_18 (by first | omega | exact bt8_lt31 _ _ | exact godB_lt31 _ _ _ | exact pop_lt31 _ | assumption | exact b31 (hW.gp (by omega)) | exact b31 (hW.ne (by omega)) | exact b31 (hW.op (by omega)) | exact and31 (hW.gp (by omega)) | exact and31 (hW.ne (by omega)) | exact and31 (hW.op (by omega)) | exact and31 (by assumption)) (fun c_18 => ?_) (fun c_18 => False.elim (by omega))
      refine mm_ci d_M_kin_46 ?_
      exact mm_ri d_M_kin_47 ⟨rfl, (Fr.rf.sI rfl).trans g1⟩
  · rcases atF_or (c := dn D) (by omega) y3 with hz | ⟨b, hb, rfl⟩
    · refine pairQ (-1) hJ (d := 12) (d' := 12) (by decide) (by decide) ?_ (fun μ1 hf => ?_)
      · show mm_T X 12 0 0 k_G_kin 0 [some (.ref 0), some (.int (nI i)), some (.int (nI a)), some (.int y3), none] [] μ _
        refine mm_aload d_G_kin_0 rfl ?_
        refine mm_getP d_G_kin_1 rfl (sk_o_0 hM) (sk_p_0_0 hM) ?_
        refine mm_iload d_G_kin_4 rfl ?_
        refine mm_iload d_G_kin_5 rfl ?_
        refine mm_v2r d_G_kin_6 (sk_o_1 hM) (sp_To_coastWithChildI hM h0 h02 hi hCD hW (by omega) ?_)
        refine mm_ast4 d_G_kin_9 ?_
        refine mm_aload d_G_kin_11 rfl ?_
        refine mm_ifnull d_G_kin_13 ?_
        refine mm_aload d_G_kin_16 rfl ?_
        refine mm_iload d_G_kin_18 rfl ?_
        refine mm_v1i d_G_kin_19 hCD.1.1 (sp_Co_hasChildB hCD hz ?_)
        refine mm_if_neN d_G_kin_22 (by first | omega | exact bt8_lt31 _ _ | exact godB_lt31 _ _ _ | exact pop_lt31 _ | assumption | exact b31 (hW.gp (by omega)) | exact b31 (hW.ne (by omega)) | exact b31 (hW.op (by omega)) | exact and31 (hW.gp (by omega)) | exact and31 (hW.ne (by omega)) | exact and31 (hW.op (by omega)) | exact and31 (by assumption)) (fun c_22 => False.elim (by omega)) (fun c_22 => ?_)
        refine mm_ci d_G_kin_25 ?_
        exact mm_ri d_G_kin_26 ⟨rfl, Fr.rf, hw⟩
      · show mm_T X 12 0 0 k_M_kin 0 [some (.ref 71), some (.int (nI i)), some (.int (nI a)), some (.int y3)] [] μ1 _
        replace hM := hf.2.2.2 hM
        replace m0 : mm_I μ1 76 0 = nI c := by rw [(hf.2.2.1 76 rfl).1]; exact m0
        replace hDM := hDM.frC hf
        refine mm_aload d_M_kin_0 rfl ?_
        refine mm_ciN 0 d_M_kin_1 rfl ?_
        refine mm_putI d_M_kin_2 rfl (sk_o_71 hM) (Or.inl rfl) ?_
        refine mm_aload d_M_kin_5 rfl ?_
        refine mm_iload d_M_kin_6 rfl ?_
        refine mm_v1i d_M_kin_7 (sk_o_71 hM) (sp_M_handN hM (by first | exact m0 | (rw [mm_sI_off (by decide)]; exact m0)) h02 hi (by first | exact hDM | exact hDM.eq (mm_sI_off (by decide))) hW (fun μ2 g1 hH hZ => ?_))
        replace hM := hH.1
        refine mm_if_eqN d_M_kin_10 (by first | omega | exact bt8_lt31 _ _ | exact godB_lt31 _ _ _ | exact pop_lt31 _ | assumption | exact b31 (hW.gp (by omega)) | exact b31 (hW.ne (by omega)) | exact b31 (hW.op (by omega)) | exact and31 (hW.gp (by omega)) | exact and31 (hW.ne (by omega)) | exact and31 (hW.op (by omega)) | exact and31 (by assumption)) (fun c_10 => False.elim (by omega)) (fun c_10 => ?_)
        refine mm_aload d_M_kin_13 rfl ?_
        refine mm_iload d_M_kin_14 rfl ?_
        refine mm_v1i d_M_kin_15 (sk_o_71 hM) (sp_M_isChildT hH (by omega) ?_)
        refine mm_if_eqN d_M_kin_18 (by first | omega | exact bt8_lt31 _ _ | exact godB_lt31 _ _ _ | exact pop_lt31 _ | assumption | exact b31 (hW.gp (by omega)) | exact b31 (hW.ne (by omega)) | exact b31 (hW.op (by omega)) | exact and31 (hW.gp (by omega)) | exact and31 (hW.ne (by omega)) | exact and31 (hW.op (by omega)) | exact and31 (by assumption)) (fun c_18 => False.elim (by omega)) (fun c_18 => ?_)
        refine mm_aload d_M_kin_21 rfl ?_
        refine mm_iload d_M_kin_22 rfl ?_
        refine mm_v1i d_M_kin_23 (sk_o_71 hM) (sp_M_isChildB hH hz ?_)
        refine mm_if_eqN d_M_kin_26 (by first | omega | exact bt8_lt31 _ _ | exact godB_lt31 _ _ _ | exact pop_lt31 _ | assumption | exact b31 (hW.gp (by omega)) | exact b31 (hW.ne (by omega)) | exact b31 (hW.op (by omega)) | exact and31 (hW.gp (by omega)) | exact and31 (hW.ne (by omega)) | exact and31 (hW.op (by omega)) | exact and31 (by assumption)) (fun c_26 => ?_) (fun c_26 => False.elim (by omega))
        refine mm_ci d_M_kin_46 ?_
        exact mm_ri d_M_kin_47 ⟨rfl, (Fr.rf.sI rfl).trans g1⟩
    · refine pairQ (nI (pop (dgp D a &&& dgp D b))) hJ (d := 12) (d' := 12) (by decide) (by decide) ?_ (fun μ1 hf => ?_)
      · show mm_T X 12 0 0 k_G_kin 0 [some (.ref 0), some (.int (nI i)), some (.int (nI a)), some (.int (nI b)), none] [] μ _
        refine mm_aload d_G_kin_0 rfl ?_
        refine mm_getP d_G_kin_1 rfl (sk_o_0 hM) (sk_p_0_0 hM) ?_
        refine mm_iload d_G_kin_4 rfl ?_
        refine mm_iload d_G_kin_5 rfl ?_
        refine mm_v2r d_G_kin_6 (sk_o_1 hM) (sp_To_coastWithChildI hM h0 h02 hi hCD hW (by omega) ?_)
        refine mm_ast4 d_G_kin_9 ?_
        refine mm_aload d_G_kin_11 rfl ?_
        refine mm_ifnull d_G_kin_13 ?_
        refine mm_aload d_G_kin_16 rfl ?_
        refine mm_iload d_G_kin_18 rfl ?_
        refine mm_v1i d_G_kin_19 hCD.1.1 (sp_Co_hasChildT hCD hW (by omega) ?_)
        refine mm_if_neN d_G_kin_22 (by first | omega | exact bt8_lt31 _ _ | exact godB_lt31 _ _ _ | exact pop_lt31 _ | assumption | exact b31 (hW.gp (by omega)) | exact b31 (hW.ne (by omega)) | exact b31 (hW.op (by omega)) | exact and31 (hW.gp (by omega)) | exact and31 (hW.ne (by omega)) | exact and31 (hW.op (by omega)) | exact and31 (by assumption)) (fun c_22 => ?_) (fun c_22 => False.elim (by omega))
        refine mm_aload d_G_kin_27 rfl ?_
        refine mm_iload d_G_kin_29 rfl ?_
        refine mm_iload d_G_kin_30 rfl ?_
        refine mm_s3i d_G_kin_31 (sp_Cr_shared hCD hW (by omega) (by omega) ?_)
        exact mm_ri d_G_kin_34 ⟨rfl, Fr.rf, hw⟩
      · show mm_T X 12 0 0 k_M_kin 0 [some (.ref 71), some (.int (nI i)), some (.int (nI a)), some (.int (nI b))] [] μ1 _
        replace hM := hf.2.2.2 hM
        replace m0 : mm_I μ1 76 0 = nI c := by rw [(hf.2.2.1 76 rfl).1]; exact m0
        replace hDM := hDM.frC hf
        refine mm_aload d_M_kin_0 rfl ?_
        refine mm_ciN 0 d_M_kin_1 rfl ?_
        refine mm_putI d_M_kin_2 rfl (sk_o_71 hM) (Or.inl rfl) ?_
        refine mm_aload d_M_kin_5 rfl ?_
        refine mm_iload d_M_kin_6 rfl ?_
        refine mm_v1i d_M_kin_7 (sk_o_71 hM) (sp_M_handN hM (by first | exact m0 | (rw [mm_sI_off (by decide)]; exact m0)) h02 hi (by first | exact hDM | exact hDM.eq (mm_sI_off (by decide))) hW (fun μ2 g1 hH hZ => ?_))
        replace hM := hH.1
        refine mm_if_eqN d_M_kin_10 (by first | omega | exact bt8_lt31 _ _ | exact godB_lt31 _ _ _ | exact pop_lt31 _ | assumption | exact b31 (hW.gp (by omega)) | exact b31 (hW.ne (by omega)) | exact b31 (hW.op (by omega)) | exact and31 (hW.gp (by omega)) | exact and31 (hW.ne (by omega)) | exact and31 (hW.op (by omega)) | exact and31 (by assumption)) (fun c_10 => False.elim (by omega)) (fun c_10 => ?_)
        refine mm_aload d_M_kin_13 rfl ?_
        refine mm_iload d_M_kin_14 rfl ?_
        refine mm_v1i d_M_kin_15 (sk_o_71 hM) (sp_M_isChildT hH (by omega) ?_)
        refine mm_if_eqN d_M_kin_18 (by first | omega | exact bt8_lt31 _ _ | exact godB_lt31 _ _ _ | exact pop_lt31 _ | assumption | exact b31 (hW.gp (by omega)) | exact b31 (hW.ne (by omega)) | exact b31 (hW.op (by omega)) | exact and31 (hW.gp (by omega)) | exact and31 (hW.ne (by omega)) | exact and31 (hW.op (by omega)) | exact and31 (by assumption)) (fun c_18 => False.elim (by omega)) (fun c_18 => ?_)
        refine mm_aload d_M_kin_21 rfl ?_
        refine mm_iload d_M_kin_22 rfl ?_
        refine mm_v1i d_M_kin_23 (sk_o_71 hM) (sp_M_isChildT hH (by omega) ?_)
        refine mm_if_eqN d_M_kin_26 (by first | omega | exact bt8_lt31 _ _ | exact godB_lt31 _ _ _ | exact pop_lt31 _ | assumption | exact b31 (hW.gp (by omega)) | exact b31 (hW.ne (by omega)) | exact b31 (hW.op (by omega)) | exact and31 (hW.gp (by omega)) | exact and31 (hW.ne (by omega)) | exact and31 (hW.op (by omega)) | exact and31 (by assumption)) (fun c_26 => False.elim (by omega)) (fun c_26 => ?_)
        refine mm_aload d_M_kin_29 rfl ?_
        refine mm_iload d_M_kin_30 rfl ?_
        refine mm_v1i d_M_kin_31 (sk_o_71 hM) (sp_M_gods hH (by omega) ?_)
        refine mm_aload d_M_kin_34 rfl ?_
        refine mm_iload d_M_kin_35 rfl ?_
        refine mm_v1i d_M_kin_36 (sk_o_71 hM) (sp_M_gods hH (by omega) ?_)
        refine mm_iandN d_M_kin_39 ?_
        refine mm_s1i d_M_kin_40 (sp_M_ones (by first | omega | assumption | exact hW.gp (by omega) | exact hW.ne (by omega) | exact hW.op (by omega) | exact and_lt256 (hW.gp (by omega)) | exact and_lt256 (hW.ne (by omega)) | exact and_lt256 (hW.op (by omega))) ?_)
        refine mm_goto d_M_kin_43 ?_
        exact mm_ri d_M_kin_47 ⟨rfl, (Fr.rf.sI rfl).trans g1⟩
theorem pair_lack {X : mm_X} {k : Nat} {μ : mm_M} (hJ : JJ k μ) (y1 y2 : Int32) : PairI X (JJ (k + 1)) k_G_lack k_M_lack [.int y1, .int y2] μ := by
  obtain ⟨c, h02, h0, m0, hv⟩ := hJ.coast y1
  have hM := hJ.1
  have hw := hJ.2.2.2.up
  rcases hv with hx | ⟨i, D, hi, rfl, hW, hCD, hDM⟩
  · exact pairQ (-1) hJ (d := 2) (d' := 4) (by decide) (by decide) (n_G_lack hM h0 h02 hx ⟨rfl, Fr.rf, hw⟩) (fun μ1 hf => n_M_lack (hf.2.2.2 hM) (by rw [(hf.2.2.1 76 rfl).1]; exact m0) h02 hx (fun μ' hk => ⟨rfl, hk.fr (hf.2.2.2 hM)⟩))
  have hn6 := hW.1
  have hw6 := hW.2.1
  have hal := all_lt hW
  have hal2 := one_le_two_pow (dn D)
  rcases atF_or (c := dw D) (by omega) y2 with hz | ⟨a, ha, rfl⟩
  · refine pairQ (-1) hJ (d := 12) (d' := 12) (by decide) (by decide) ?_ (fun μ1 hf => ?_)
    · show mm_T X 12 0 0 k_G_lack 0 [some (.ref 0), some (.int (nI i)), some (.int y2), none] [] μ _
      refine mm_aload d_G_lack_0 rfl ?_
      refine mm_getP d_G_lack_1 rfl (sk_o_0 hM) (sk_p_0_0 hM) ?_
      refine mm_iload d_G_lack_4 rfl ?_
      refine mm_iload d_G_lack_5 rfl ?_
      refine mm_v2r d_G_lack_6 (sk_o_1 hM) (sp_To_coastWithWorkN hM h0 h02 hi hCD hz ?_)
      refine mm_astN3 d_G_lack_9 ?_
      refine mm_aloadN d_G_lack_10 rfl ?_
      refine mm_ifnonnullN d_G_lack_11 ?_
      refine mm_ci d_G_lack_14 ?_
      exact mm_ri d_G_lack_15 ⟨rfl, Fr.rf, hw⟩
    · show mm_T X 12 0 0 k_M_lack 0 [some (.ref 71), some (.int (nI i)), some (.int y2)] [] μ1 _
      replace hM := hf.2.2.2 hM
      replace m0 : mm_I μ1 76 0 = nI c := by rw [(hf.2.2.1 76 rfl).1]; exact m0
      replace hDM := hDM.frC hf
      refine mm_aload d_M_lack_0 rfl ?_
      refine mm_ciN 0 d_M_lack_1 rfl ?_
      refine mm_putI d_M_lack_2 rfl (sk_o_71 hM) (Or.inl rfl) ?_
      refine mm_aload d_M_lack_5 rfl ?_
      refine mm_iload d_M_lack_6 rfl ?_
      refine mm_v1i d_M_lack_7 (sk_o_71 hM) (sp_M_handN hM (by first | exact m0 | (rw [mm_sI_off (by decide)]; exact m0)) h02 hi (by first | exact hDM | exact hDM.eq (mm_sI_off (by decide))) hW (fun μ2 g1 hH hZ => ?_))
      replace hM := hH.1
      refine mm_if_eqN d_M_lack_10 (by first | omega | exact bt8_lt31 _ _ | exact godB_lt31 _ _ _ | exact pop_lt31 _ | assumption | exact b31 (hW.gp (by omega)) | exact b31 (hW.ne (by omega)) | exact b31 (hW.op (by omega)) | exact and31 (hW.gp (by omega)) | exact and31 (hW.ne (by omega)) | exact and31 (hW.op (by omega)) | exact and31 (by assumption)) (fun c_10 => False.elim (by omega)) (fun c_10 => ?_)
      refine mm_aload d_M_lack_13 rfl ?_
      refine mm_iload d_M_lack_14 rfl ?_
      refine mm_v1i d_M_lack_15 (sk_o_71 hM) (sp_M_isWorkB hH hz ?_)
      refine mm_if_eqN d_M_lack_18 (by first | omega | exact bt8_lt31 _ _ | exact godB_lt31 _ _ _ | exact pop_lt31 _ | assumption | exact b31 (hW.gp (by omega)) | exact b31 (hW.ne (by omega)) | exact b31 (hW.op (by omega)) | exact and31 (hW.gp (by omega)) | exact and31 (hW.ne (by omega)) | exact and31 (hW.op (by omega)) | exact and31 (by assumption)) (fun c_18 => ?_) (fun c_18 => False.elim (by omega))
      refine mm_ci d_M_lack_47 ?_
      exact mm_ri d_M_lack_48 ⟨rfl, (Fr.rf.sI rfl).trans g1⟩
  · refine pairQ (nI (dne D a &&& (unionN D (2 ^ dn D - 1) ^^^ 4294967295))) hJ (d := 12) (d' := 12) (by decide) (by decide) ?_ (fun μ1 hf => ?_)
    · show mm_T X 12 0 0 k_G_lack 0 [some (.ref 0), some (.int (nI i)), some (.int (nI a)), none] [] μ _
      refine mm_aload d_G_lack_0 rfl ?_
      refine mm_getP d_G_lack_1 rfl (sk_o_0 hM) (sk_p_0_0 hM) ?_
      refine mm_iload d_G_lack_4 rfl ?_
      refine mm_iload d_G_lack_5 rfl ?_
      refine mm_v2r d_G_lack_6 (sk_o_1 hM) (sp_To_coastWithWorkI hM h0 h02 hi hCD hW (by omega) ?_)
      refine mm_ast3 d_G_lack_9 ?_
      refine mm_aload d_G_lack_10 rfl ?_
      refine mm_ifnonnull d_G_lack_11 ?_
      refine mm_aload d_G_lack_16 rfl ?_
      refine mm_getP d_G_lack_17 rfl hCD.1.1 (CoS_p5 hCD.1) ?_
      refine mm_iload d_G_lack_20 rfl ?_
      refine mm_ialdN d_G_lack_21 (CoS_a5 hCD.1) (by omega) (by decide) (hCD.f5 (by omega)) ?_
      refine mm_aload d_G_lack_22 rfl ?_
      refine mm_aload d_G_lack_23 rfl ?_
      refine mm_v0i d_G_lack_24 hCD.1.1 (sp_Co_allChildrenN hCD hW ?_)
      refine mm_s2i d_G_lack_27 (sp_Cr_weathersOf hCD hW (by first | omega | assumption | exact hW.gp (by omega) | exact hW.ne (by omega) | exact hW.op (by omega) | exact and_lt256 (hW.gp (by omega)) | exact and_lt256 (hW.ne (by omega)) | exact and_lt256 (hW.op (by omega))) ?_)
      refine mm_ci d_G_lack_30 ?_
      refine mm_inotN d_G_lack_31 ?_
      refine mm_iandN d_G_lack_32 ?_
      exact mm_ri d_G_lack_33 ⟨rfl, Fr.rf, hw⟩
    · show mm_T X 12 0 0 k_M_lack 0 [some (.ref 71), some (.int (nI i)), some (.int (nI a))] [] μ1 _
      replace hM := hf.2.2.2 hM
      replace m0 : mm_I μ1 76 0 = nI c := by rw [(hf.2.2.1 76 rfl).1]; exact m0
      replace hDM := hDM.frC hf
      refine mm_aload d_M_lack_0 rfl ?_
      refine mm_ciN 0 d_M_lack_1 rfl ?_
      refine mm_putI d_M_lack_2 rfl (sk_o_71 hM) (Or.inl rfl) ?_
      refine mm_aload d_M_lack_5 rfl ?_
      refine mm_iload d_M_lack_6 rfl ?_
      refine mm_v1i d_M_lack_7 (sk_o_71 hM) (sp_M_handN hM (by first | exact m0 | (rw [mm_sI_off (by decide)]; exact m0)) h02 hi (by first | exact hDM | exact hDM.eq (mm_sI_off (by decide))) hW (fun μ2 g1 hH hZ => ?_))
      replace hM := hH.1
      refine mm_if_eqN d_M_lack_10 (by first | omega | exact bt8_lt31 _ _ | exact godB_lt31 _ _ _ | exact pop_lt31 _ | assumption | exact b31 (hW.gp (by omega)) | exact b31 (hW.ne (by omega)) | exact b31 (hW.op (by omega)) | exact and31 (hW.gp (by omega)) | exact and31 (hW.ne (by omega)) | exact and31 (hW.op (by omega)) | exact and31 (by assumption)) (fun c_10 => False.elim (by omega)) (fun c_10 => ?_)
      refine mm_aload d_M_lack_13 rfl ?_
      refine mm_iload d_M_lack_14 rfl ?_
      refine mm_v1i d_M_lack_15 (sk_o_71 hM) (sp_M_isWorkT hH (by omega) ?_)
      refine mm_if_eqN d_M_lack_18 (by first | omega | exact bt8_lt31 _ _ | exact godB_lt31 _ _ _ | exact pop_lt31 _ | assumption | exact b31 (hW.gp (by omega)) | exact b31 (hW.ne (by omega)) | exact b31 (hW.op (by omega)) | exact and31 (hW.gp (by omega)) | exact and31 (hW.ne (by omega)) | exact and31 (hW.op (by omega)) | exact and31 (by assumption)) (fun c_18 => False.elim (by omega)) (fun c_18 => ?_)
      refine mm_aload d_M_lack_21 rfl ?_
      refine mm_ciN 38 d_M_lack_22 rfl ?_
      refine mm_iload d_M_lack_24 rfl ?_
      refine mm_iaddN d_M_lack_25 ?_
      refine mm_v1i d_M_lack_26 (sk_o_71 hM) (sp_M_ofN hH (by omega) (hH.f5 (by omega)) ?_)
      refine mm_aload d_M_lack_29 rfl ?_
      refine mm_ciN 1 d_M_lack_30 rfl ?_
      refine mm_aload d_M_lack_31 rfl ?_
      refine mm_getIN d_M_lack_32 rfl (sk_o_71 hM) hH.n ?_
      refine mm_ishl1N d_M_lack_35 (by omega) ?_
      refine mm_ciN 1 d_M_lack_36 rfl ?_
      refine mm_isubN d_M_lack_37 (by omega) ?_
      refine mm_v1i d_M_lack_38 (sk_o_71 hM) (sp_M_allGods hH (by first | omega | assumption | exact hW.gp (by omega) | exact hW.ne (by omega) | exact hW.op (by omega) | exact and_lt256 (hW.gp (by omega)) | exact and_lt256 (hW.ne (by omega)) | exact and_lt256 (hW.op (by omega))) ?_)
      refine mm_ci d_M_lack_41 ?_
      refine mm_inotN d_M_lack_42 ?_
      refine mm_iandN d_M_lack_43 ?_
      refine mm_goto d_M_lack_44 ?_
      exact mm_ri d_M_lack_48 ⟨rfl, (Fr.rf.sI rfl).trans g1⟩
theorem pair_odds {X : mm_X} {k : Nat} {μ : mm_M} (hJ : JJ k μ) (y1 y2 y3 y4 : Int32) : PairJ X (JJ (k + 1)) k_G_odds k_M_odds [.int y1, .int y2, .int y3, .int y4] μ := by
  obtain ⟨c, h02, h0, m0, hv⟩ := hJ.coast y1
  have hM := hJ.1
  have hw := hJ.2.2.2.up
  rcases hv with hx | ⟨i, D, hi, rfl, hW, hCD, hDM⟩
  · exact pairQj (-1) hJ (d := 2) (d' := 4) (by decide) (by decide) (n_G_odds hM h0 h02 hx ⟨rfl, Fr.rf, hw⟩) (fun μ1 hf => n_M_odds (hf.2.2.2 hM) (by rw [(hf.2.2.1 76 rfl).1]; exact m0) h02 hx (fun μ' hk => ⟨rfl, hk.fr (hf.2.2.2 hM)⟩))
  have hn6 := hW.1
  have hw6 := hW.2.1
  rcases bits_or y3 with hz | ⟨s, hs, rfl⟩
  · refine pairQj (-1) hJ (d := 12) (d' := 12) (by decide) (by decide) ?_ (fun μ1 hf => ?_)
    · rcases atF_or (c := dw D) (by omega) y2 with hq | ⟨a, ha, rfl⟩
      · have hy := hz
        replace hz := hq
        show mm_T X 12 0 0 k_G_odds 0 [some (.ref 0), some (.int (nI i)), some (.int y2), some (.int y3), some (.int y4), none, none] [] μ _
        refine mm_aload d_G_odds_0 rfl ?_
        refine mm_getP d_G_odds_1 rfl (sk_o_0 hM) (sk_p_0_0 hM) ?_
        refine mm_iload d_G_odds_4 rfl ?_
        refine mm_iload d_G_odds_5 rfl ?_
        refine mm_v2r d_G_odds_6 (sk_o_1 hM) (sp_To_coastWithWorkN hM h0 h02 hi hCD hz ?_)
        refine mm_astN5 d_G_odds_9 ?_
        refine mm_aloadN d_G_odds_11 rfl ?_
        refine mm_ifnullN d_G_odds_13 ?_
        refine mm_lci d_G_odds_23 ?_
        exact mm_rj d_G_odds_26 ⟨rfl, Fr.rf, hw⟩
      · show mm_T X 12 0 0 k_G_odds 0 [some (.ref 0), some (.int (nI i)), some (.int (nI a)), some (.int y3), some (.int y4), none, none] [] μ _
        refine mm_aload d_G_odds_0 rfl ?_
        refine mm_getP d_G_odds_1 rfl (sk_o_0 hM) (sk_p_0_0 hM) ?_
        refine mm_iload d_G_odds_4 rfl ?_
        refine mm_iload d_G_odds_5 rfl ?_
        refine mm_v2r d_G_odds_6 (sk_o_1 hM) (sp_To_coastWithWorkI hM h0 h02 hi hCD hW (by omega) ?_)
        refine mm_ast5 d_G_odds_9 ?_
        refine mm_aload d_G_odds_11 rfl ?_
        refine mm_ifnull d_G_odds_13 ?_
        refine mm_iload d_G_odds_16 rfl ?_
        refine mm_s1i d_G_odds_17 (sp_G_isWeatherBitsB hz ?_)
        refine mm_if_neN d_G_odds_20 (by first | omega | exact bt8_lt31 _ _ | exact godB_lt31 _ _ _ | exact pop_lt31 _ | assumption | exact b31 (hW.gp (by omega)) | exact b31 (hW.ne (by omega)) | exact b31 (hW.op (by omega)) | exact and31 (hW.gp (by omega)) | exact and31 (hW.ne (by omega)) | exact and31 (hW.op (by omega)) | exact and31 (by assumption)) (fun c_20 => False.elim (by omega)) (fun c_20 => ?_)
        refine mm_lci d_G_odds_23 ?_
        exact mm_rj d_G_odds_26 ⟨rfl, Fr.rf, hw⟩
    · show mm_T X 12 0 0 k_M_odds 0 [some (.ref 71), some (.int (nI i)), some (.int y2), some (.int y3), some (.int y4)] [] μ1 _
      replace hM := hf.2.2.2 hM
      replace m0 : mm_I μ1 76 0 = nI c := by rw [(hf.2.2.1 76 rfl).1]; exact m0
      replace hDM := hDM.frC hf
      refine mm_aload d_M_odds_0 rfl ?_
      refine mm_ciN 0 d_M_odds_1 rfl ?_
      refine mm_putI d_M_odds_2 rfl (sk_o_71 hM) (Or.inl rfl) ?_
      refine mm_iload d_M_odds_5 rfl ?_
      refine mm_ciN 0 d_M_odds_6 rfl ?_
      refine mm_ciN 255 d_M_odds_7 rfl ?_
      refine mm_s3i d_M_odds_10 (sp_M_inB hz ?_)
      refine mm_if_eqN d_M_odds_13 (by first | omega | exact bt8_lt31 _ _ | exact godB_lt31 _ _ _ | exact pop_lt31 _ | assumption | exact b31 (hW.gp (by omega)) | exact b31 (hW.ne (by omega)) | exact b31 (hW.op (by omega)) | exact and31 (hW.gp (by omega)) | exact and31 (hW.ne (by omega)) | exact and31 (hW.op (by omega)) | exact and31 (by assumption)) (fun c_13 => ?_) (fun c_13 => False.elim (by omega))
      refine mm_lci d_M_odds_32 ?_
      exact mm_rj d_M_odds_35 ⟨rfl, Fr.rf.sI rfl⟩
  · rcases atF_or (c := dw D) (by omega) y2 with hz | ⟨a, ha, rfl⟩
    · refine pairQj (-1) hJ (d := 12) (d' := 12) (by decide) (by decide) ?_ (fun μ1 hf => ?_)
      · show mm_T X 12 0 0 k_G_odds 0 [some (.ref 0), some (.int (nI i)), some (.int y2), some (.int (nI s)), some (.int y4), none, none] [] μ _
        refine mm_aload d_G_odds_0 rfl ?_
        refine mm_getP d_G_odds_1 rfl (sk_o_0 hM) (sk_p_0_0 hM) ?_
        refine mm_iload d_G_odds_4 rfl ?_
        refine mm_iload d_G_odds_5 rfl ?_
        refine mm_v2r d_G_odds_6 (sk_o_1 hM) (sp_To_coastWithWorkN hM h0 h02 hi hCD hz ?_)
        refine mm_astN5 d_G_odds_9 ?_
        refine mm_aloadN d_G_odds_11 rfl ?_
        refine mm_ifnullN d_G_odds_13 ?_
        refine mm_lci d_G_odds_23 ?_
        exact mm_rj d_G_odds_26 ⟨rfl, Fr.rf, hw⟩
      · show mm_T X 12 0 0 k_M_odds 0 [some (.ref 71), some (.int (nI i)), some (.int y2), some (.int (nI s)), some (.int y4)] [] μ1 _
        replace hM := hf.2.2.2 hM
        replace m0 : mm_I μ1 76 0 = nI c := by rw [(hf.2.2.1 76 rfl).1]; exact m0
        replace hDM := hDM.frC hf
        refine mm_aload d_M_odds_0 rfl ?_
        refine mm_ciN 0 d_M_odds_1 rfl ?_
        refine mm_putI d_M_odds_2 rfl (sk_o_71 hM) (Or.inl rfl) ?_
        refine mm_iload d_M_odds_5 rfl ?_
        refine mm_ciN 0 d_M_odds_6 rfl ?_
        refine mm_ciN 255 d_M_odds_7 rfl ?_
        refine mm_s3i d_M_odds_10 (sp_M_inT (by omega) (by omega) (by omega) ?_)
        refine mm_if_eqN d_M_odds_13 (by first | omega | exact bt8_lt31 _ _ | exact godB_lt31 _ _ _ | exact pop_lt31 _ | assumption | exact b31 (hW.gp (by omega)) | exact b31 (hW.ne (by omega)) | exact b31 (hW.op (by omega)) | exact and31 (hW.gp (by omega)) | exact and31 (hW.ne (by omega)) | exact and31 (hW.op (by omega)) | exact and31 (by assumption)) (fun c_13 => False.elim (by omega)) (fun c_13 => ?_)
        refine mm_aload d_M_odds_16 rfl ?_
        refine mm_iload d_M_odds_17 rfl ?_
        refine mm_v1i d_M_odds_18 (sk_o_71 hM) (sp_M_handN hM (by first | exact m0 | (rw [mm_sI_off (by decide)]; exact m0)) h02 hi (by first | exact hDM | exact hDM.eq (mm_sI_off (by decide))) hW (fun μ2 g1 hH hZ => ?_))
        replace hM := hH.1
        refine mm_if_eqN d_M_odds_21 (by first | omega | exact bt8_lt31 _ _ | exact godB_lt31 _ _ _ | exact pop_lt31 _ | assumption | exact b31 (hW.gp (by omega)) | exact b31 (hW.ne (by omega)) | exact b31 (hW.op (by omega)) | exact and31 (hW.gp (by omega)) | exact and31 (hW.ne (by omega)) | exact and31 (hW.op (by omega)) | exact and31 (by assumption)) (fun c_21 => False.elim (by omega)) (fun c_21 => ?_)
        refine mm_aload d_M_odds_24 rfl ?_
        refine mm_iload d_M_odds_25 rfl ?_
        refine mm_v1i d_M_odds_26 (sk_o_71 hM) (sp_M_isWorkB hH hz ?_)
        refine mm_if_neN d_M_odds_29 (by first | omega | exact bt8_lt31 _ _ | exact godB_lt31 _ _ _ | exact pop_lt31 _ | assumption | exact b31 (hW.gp (by omega)) | exact b31 (hW.ne (by omega)) | exact b31 (hW.op (by omega)) | exact and31 (hW.gp (by omega)) | exact and31 (hW.ne (by omega)) | exact and31 (hW.op (by omega)) | exact and31 (by assumption)) (fun c_29 => False.elim (by omega)) (fun c_29 => ?_)
        refine mm_lci d_M_odds_32 ?_
        exact mm_rj d_M_odds_35 ⟨rfl, (Fr.rf.sI rfl).trans g1⟩
    · have h8 := chUp_le hW (dne D a &&& (s ^^^ 4294967295)) 8 (by decide)
      have h9 := chDn_pos (dne D a &&& (s ^^^ 4294967295)) 8
      refine pairQj (lN (ltN y4 (chUp D (dne D a &&& (s ^^^ 4294967295)) 8) (chDn (dne D a &&& (s ^^^ 4294967295)) 8))) hJ (d := 12) (d' := 12) (by decide) (by decide) ?_ (fun μ1 hf => ?_)
      · show mm_T X 12 0 0 k_G_odds 0 [some (.ref 0), some (.int (nI i)), some (.int (nI a)), some (.int (nI s)), some (.int y4), none, none] [] μ _
        refine mm_aload d_G_odds_0 rfl ?_
        refine mm_getP d_G_odds_1 rfl (sk_o_0 hM) (sk_p_0_0 hM) ?_
        refine mm_iload d_G_odds_4 rfl ?_
        refine mm_iload d_G_odds_5 rfl ?_
        refine mm_v2r d_G_odds_6 (sk_o_1 hM) (sp_To_coastWithWorkI hM h0 h02 hi hCD hW (by omega) ?_)
        refine mm_ast5 d_G_odds_9 ?_
        refine mm_aload d_G_odds_11 rfl ?_
        refine mm_ifnull d_G_odds_13 ?_
        refine mm_iload d_G_odds_16 rfl ?_
        refine mm_s1i d_G_odds_17 (sp_G_isWeatherBitsT (by omega) ?_)
        refine mm_if_neN d_G_odds_20 (by first | omega | exact bt8_lt31 _ _ | exact godB_lt31 _ _ _ | exact pop_lt31 _ | assumption | exact b31 (hW.gp (by omega)) | exact b31 (hW.ne (by omega)) | exact b31 (hW.op (by omega)) | exact and31 (hW.gp (by omega)) | exact and31 (hW.ne (by omega)) | exact and31 (hW.op (by omega)) | exact and31 (by assumption)) (fun c_20 => ?_) (fun c_20 => False.elim (by omega))
        refine mm_aload d_G_odds_27 rfl ?_
        refine mm_getP d_G_odds_29 rfl hCD.1.1 (CoS_p5 hCD.1) ?_
        refine mm_iload d_G_odds_32 rfl ?_
        refine mm_ialdN d_G_odds_33 (CoS_a5 hCD.1) (by omega) (by decide) (hCD.f5 (by omega)) ?_
        refine mm_iload d_G_odds_34 rfl ?_
        refine mm_ci d_G_odds_35 ?_
        refine mm_inotN d_G_odds_36 ?_
        refine mm_iandN d_G_odds_37 ?_
        refine mm_ist6 d_G_odds_38 ?_
        refine mm_aload d_G_odds_40 rfl ?_
        refine mm_iload d_G_odds_42 rfl ?_
        refine mm_v1j d_G_odds_44 hCD.1.1 (sp_Co_chances hCD hW (by first | omega | assumption | exact hW.gp (by omega) | exact hW.ne (by omega) | exact hW.op (by omega) | exact and_lt256 (hW.gp (by omega)) | exact and_lt256 (hW.ne (by omega)) | exact and_lt256 (hW.op (by omega))) ?_)
        refine mm_aload d_G_odds_47 rfl ?_
        refine mm_iload d_G_odds_49 rfl ?_
        refine mm_v1j d_G_odds_51 hCD.1.1 (sp_Co_chancesUnder (by first | omega | assumption | exact hW.gp (by omega) | exact hW.ne (by omega) | exact hW.op (by omega) | exact and_lt256 (hW.gp (by omega)) | exact and_lt256 (hW.ne (by omega)) | exact and_lt256 (hW.op (by omega))) ?_)
        refine mm_iload d_G_odds_54 rfl ?_
        refine mm_s3j d_G_odds_56 (sp_G_leastTerms (by omega) (by omega) (by omega) ?_)
        exact mm_rj d_G_odds_59 ⟨rfl, Fr.rf, hw⟩
      · show mm_T X 12 0 0 k_M_odds 0 [some (.ref 71), some (.int (nI i)), some (.int (nI a)), some (.int (nI s)), some (.int y4)] [] μ1 _
        replace hM := hf.2.2.2 hM
        replace m0 : mm_I μ1 76 0 = nI c := by rw [(hf.2.2.1 76 rfl).1]; exact m0
        replace hDM := hDM.frC hf
        refine mm_aload d_M_odds_0 rfl ?_
        refine mm_ciN 0 d_M_odds_1 rfl ?_
        refine mm_putI d_M_odds_2 rfl (sk_o_71 hM) (Or.inl rfl) ?_
        refine mm_iload d_M_odds_5 rfl ?_
        refine mm_ciN 0 d_M_odds_6 rfl ?_
        refine mm_ciN 255 d_M_odds_7 rfl ?_
        refine mm_s3i d_M_odds_10 (sp_M_inT (by omega) (by omega) (by omega) ?_)
        refine mm_if_eqN d_M_odds_13 (by first | omega | exact bt8_lt31 _ _ | exact godB_lt31 _ _ _ | exact pop_lt31 _ | assumption | exact b31 (hW.gp (by omega)) | exact b31 (hW.ne (by omega)) | exact b31 (hW.op (by omega)) | exact and31 (hW.gp (by omega)) | exact and31 (hW.ne (by omega)) | exact and31 (hW.op (by omega)) | exact and31 (by assumption)) (fun c_13 => False.elim (by omega)) (fun c_13 => ?_)
        refine mm_aload d_M_odds_16 rfl ?_
        refine mm_iload d_M_odds_17 rfl ?_
        refine mm_v1i d_M_odds_18 (sk_o_71 hM) (sp_M_handN hM (by first | exact m0 | (rw [mm_sI_off (by decide)]; exact m0)) h02 hi (by first | exact hDM | exact hDM.eq (mm_sI_off (by decide))) hW (fun μ2 g1 hH hZ => ?_))
        replace hM := hH.1
        refine mm_if_eqN d_M_odds_21 (by first | omega | exact bt8_lt31 _ _ | exact godB_lt31 _ _ _ | exact pop_lt31 _ | assumption | exact b31 (hW.gp (by omega)) | exact b31 (hW.ne (by omega)) | exact b31 (hW.op (by omega)) | exact and31 (hW.gp (by omega)) | exact and31 (hW.ne (by omega)) | exact and31 (hW.op (by omega)) | exact and31 (by assumption)) (fun c_21 => False.elim (by omega)) (fun c_21 => ?_)
        refine mm_aload d_M_odds_24 rfl ?_
        refine mm_iload d_M_odds_25 rfl ?_
        refine mm_v1i d_M_odds_26 (sk_o_71 hM) (sp_M_isWorkT hH (by omega) ?_)
        refine mm_if_neN d_M_odds_29 (by first | omega | exact bt8_lt31 _ _ | exact godB_lt31 _ _ _ | exact pop_lt31 _ | assumption | exact b31 (hW.gp (by omega)) | exact b31 (hW.ne (by omega)) | exact b31 (hW.op (by omega)) | exact and31 (hW.gp (by omega)) | exact and31 (hW.ne (by omega)) | exact and31 (hW.op (by omega)) | exact and31 (by assumption)) (fun c_29 => ?_) (fun c_29 => False.elim (by omega))
        refine mm_aload d_M_odds_36 rfl ?_
        refine mm_aload d_M_odds_37 rfl ?_
        refine mm_ciN 38 d_M_odds_38 rfl ?_
        refine mm_iload d_M_odds_40 rfl ?_
        refine mm_iaddN d_M_odds_41 ?_
        refine mm_v1i d_M_odds_42 (sk_o_71 hM) (sp_M_ofN hH (by omega) (hH.f5 (by omega)) ?_)
        refine mm_iload d_M_odds_45 rfl ?_
        refine mm_ci d_M_odds_46 ?_
        refine mm_inotN d_M_odds_47 ?_
        refine mm_iandN d_M_odds_48 ?_
        refine mm_v1v d_M_odds_49 (sk_o_71 hM) (sp_M_chancesOf hH (and_lt256 (hW.ne (by omega))) (fun μ3 g3 hH e1 e2 => ?_))
        replace hM := hH.1
        refine mm_aload d_M_odds_52 rfl ?_
        refine mm_getJN d_M_odds_53 rfl (sk_o_71 hM) e1 ?_
        refine mm_aload d_M_odds_56 rfl ?_
        refine mm_getJN d_M_odds_57 rfl (sk_o_71 hM) e2 ?_
        refine mm_iload d_M_odds_60 rfl ?_
        refine mm_s3j d_M_odds_62 (sp_M_part (by omega) (by omega) (by omega) ?_)
        exact mm_rj d_M_odds_65 ⟨rfl, ((Fr.rf.sI rfl).trans g1).trans g3⟩
theorem chUp_0 {D : mm_D} {s : Nat} : chUp D s 8 < 2 ^ 63 ∨ True := Or.inr trivial
theorem pair_hope {X : mm_X} {k : Nat} {μ : mm_M} (hJ : JJ k μ) (y1 y2 y3 : Int32) : PairJ X (JJ (k + 1)) k_G_hope k_M_hope [.int y1, .int y2, .int y3] μ := by
  obtain ⟨c, h02, h0, m0, hv⟩ := hJ.coast y1
  have hM := hJ.1
  have hw := hJ.2.2.2.up
  rcases hv with hx | ⟨i, D, hi, rfl, hW, hCD, hDM⟩
  · exact pairQj (-1) hJ (d := 2) (d' := 4) (by decide) (by decide) (n_G_hope hM h0 h02 hx ⟨rfl, Fr.rf, hw⟩) (fun μ1 hf => n_M_hope (hf.2.2.2 hM) (by rw [(hf.2.2.1 76 rfl).1]; exact m0) h02 hx (fun μ' hk => ⟨rfl, hk.fr (hf.2.2.2 hM)⟩))
  have hn6 := hW.1
  have hw6 := hW.2.1
  rcases atF_or (c := dw D) (by omega) y2 with hz | ⟨a, ha, rfl⟩
  · refine pairQj (-1) hJ (d := 12) (d' := 12) (by decide) (by decide) ?_ (fun μ1 hf => ?_)
    · show mm_T X 12 0 0 k_G_hope 0 [some (.ref 0), some (.int (nI i)), some (.int y2), some (.int y3), none, none, none] [] μ _
      refine mm_aload d_G_hope_0 rfl ?_
      refine mm_getP d_G_hope_1 rfl (sk_o_0 hM) (sk_p_0_0 hM) ?_
      refine mm_iload d_G_hope_4 rfl ?_
      refine mm_iload d_G_hope_5 rfl ?_
      refine mm_v2r d_G_hope_6 (sk_o_1 hM) (sp_To_coastWithWorkN hM h0 h02 hi hCD hz ?_)
      refine mm_astN4 d_G_hope_9 ?_
      refine mm_aloadN d_G_hope_11 rfl ?_
      refine mm_ifnonnullN d_G_hope_13 ?_
      refine mm_lci d_G_hope_16 ?_
      exact mm_rj d_G_hope_19 ⟨rfl, Fr.rf, hw⟩
    · show mm_T X 12 0 0 k_M_hope 0 [some (.ref 71), some (.int (nI i)), some (.int y2), some (.int y3)] [] μ1 _
      replace hM := hf.2.2.2 hM
      replace m0 : mm_I μ1 76 0 = nI c := by rw [(hf.2.2.1 76 rfl).1]; exact m0
      replace hDM := hDM.frC hf
      refine mm_aload d_M_hope_0 rfl ?_
      refine mm_ciN 0 d_M_hope_1 rfl ?_
      refine mm_putI d_M_hope_2 rfl (sk_o_71 hM) (Or.inl rfl) ?_
      refine mm_aload d_M_hope_5 rfl ?_
      refine mm_iload d_M_hope_6 rfl ?_
      refine mm_v1i d_M_hope_7 (sk_o_71 hM) (sp_M_handN hM (by first | exact m0 | (rw [mm_sI_off (by decide)]; exact m0)) h02 hi (by first | exact hDM | exact hDM.eq (mm_sI_off (by decide))) hW (fun μ2 g1 hH hZ => ?_))
      replace hM := hH.1
      refine mm_if_eqN d_M_hope_10 (by first | omega | exact bt8_lt31 _ _ | exact godB_lt31 _ _ _ | exact pop_lt31 _ | assumption | exact b31 (hW.gp (by omega)) | exact b31 (hW.ne (by omega)) | exact b31 (hW.op (by omega)) | exact and31 (hW.gp (by omega)) | exact and31 (hW.ne (by omega)) | exact and31 (hW.op (by omega)) | exact and31 (by assumption)) (fun c_10 => False.elim (by omega)) (fun c_10 => ?_)
      refine mm_aload d_M_hope_13 rfl ?_
      refine mm_iload d_M_hope_14 rfl ?_
      refine mm_v1i d_M_hope_15 (sk_o_71 hM) (sp_M_isWorkB hH hz ?_)
      refine mm_if_neN d_M_hope_18 (by first | omega | exact bt8_lt31 _ _ | exact godB_lt31 _ _ _ | exact pop_lt31 _ | assumption | exact b31 (hW.gp (by omega)) | exact b31 (hW.ne (by omega)) | exact b31 (hW.op (by omega)) | exact and31 (hW.gp (by omega)) | exact and31 (hW.ne (by omega)) | exact and31 (hW.op (by omega)) | exact and31 (by assumption)) (fun c_18 => False.elim (by omega)) (fun c_18 => ?_)
      refine mm_lci d_M_hope_21 ?_
      exact mm_rj d_M_hope_24 ⟨rfl, (Fr.rf.sI rfl).trans g1⟩
  · have h8 := chUp_le hW (dne D a) 8 (by decide)
    have h9 := chDn_pos (dne D a) 8
    by_cases hu : chUp D (dne D a) 8 = 0
    · refine pairQj (-1) hJ (d := 12) (d' := 12) (by decide) (by decide) ?_ (fun μ1 hf => ?_)
      · show mm_T X 12 0 0 k_G_hope 0 [some (.ref 0), some (.int (nI i)), some (.int (nI a)), some (.int y3), none, none, none] [] μ _
        refine mm_aload d_G_hope_0 rfl ?_
        refine mm_getP d_G_hope_1 rfl (sk_o_0 hM) (sk_p_0_0 hM) ?_
        refine mm_iload d_G_hope_4 rfl ?_
        refine mm_iload d_G_hope_5 rfl ?_
        refine mm_v2r d_G_hope_6 (sk_o_1 hM) (sp_To_coastWithWorkI hM h0 h02 hi hCD hW (by omega) ?_)
        refine mm_ast4 d_G_hope_9 ?_
        refine mm_aload d_G_hope_11 rfl ?_
        refine mm_ifnonnull d_G_hope_13 ?_
        refine mm_aload d_G_hope_20 rfl ?_
        refine mm_aload d_G_hope_22 rfl ?_
        refine mm_getP d_G_hope_24 rfl hCD.1.1 (CoS_p5 hCD.1) ?_
        refine mm_iload d_G_hope_27 rfl ?_
        refine mm_ialdN d_G_hope_28 (CoS_a5 hCD.1) (by omega) (by decide) (hCD.f5 (by omega)) ?_
        refine mm_v1j d_G_hope_29 hCD.1.1 (sp_Co_chances hCD hW (by first | omega | assumption | exact hW.gp (by omega) | exact hW.ne (by omega) | exact hW.op (by omega) | exact and_lt256 (hW.gp (by omega)) | exact and_lt256 (hW.ne (by omega)) | exact and_lt256 (hW.op (by omega))) ?_)
        refine mm_lst5 d_G_hope_32 ?_
        refine mm_lload d_G_hope_34 rfl ?_
        refine mm_lciN 0 d_G_hope_36 rfl ?_
        refine mm_lcmp d_G_hope_37 ?_
        refine mm_lif_neN d_G_hope_38 (by omega) (by omega) (fun c_38 => False.elim (by omega)) (fun c_38 => ?_)
        refine mm_lci d_G_hope_41 ?_
        exact mm_rj d_G_hope_44 ⟨rfl, Fr.rf, hw⟩
      · show mm_T X 12 0 0 k_M_hope 0 [some (.ref 71), some (.int (nI i)), some (.int (nI a)), some (.int y3)] [] μ1 _
        replace hM := hf.2.2.2 hM
        replace m0 : mm_I μ1 76 0 = nI c := by rw [(hf.2.2.1 76 rfl).1]; exact m0
        replace hDM := hDM.frC hf
        refine mm_aload d_M_hope_0 rfl ?_
        refine mm_ciN 0 d_M_hope_1 rfl ?_
        refine mm_putI d_M_hope_2 rfl (sk_o_71 hM) (Or.inl rfl) ?_
        refine mm_aload d_M_hope_5 rfl ?_
        refine mm_iload d_M_hope_6 rfl ?_
        refine mm_v1i d_M_hope_7 (sk_o_71 hM) (sp_M_handN hM (by first | exact m0 | (rw [mm_sI_off (by decide)]; exact m0)) h02 hi (by first | exact hDM | exact hDM.eq (mm_sI_off (by decide))) hW (fun μ2 g1 hH hZ => ?_))
        replace hM := hH.1
        refine mm_if_eqN d_M_hope_10 (by first | omega | exact bt8_lt31 _ _ | exact godB_lt31 _ _ _ | exact pop_lt31 _ | assumption | exact b31 (hW.gp (by omega)) | exact b31 (hW.ne (by omega)) | exact b31 (hW.op (by omega)) | exact and31 (hW.gp (by omega)) | exact and31 (hW.ne (by omega)) | exact and31 (hW.op (by omega)) | exact and31 (by assumption)) (fun c_10 => False.elim (by omega)) (fun c_10 => ?_)
        refine mm_aload d_M_hope_13 rfl ?_
        refine mm_iload d_M_hope_14 rfl ?_
        refine mm_v1i d_M_hope_15 (sk_o_71 hM) (sp_M_isWorkT hH (by omega) ?_)
        refine mm_if_neN d_M_hope_18 (by first | omega | exact bt8_lt31 _ _ | exact godB_lt31 _ _ _ | exact pop_lt31 _ | assumption | exact b31 (hW.gp (by omega)) | exact b31 (hW.ne (by omega)) | exact b31 (hW.op (by omega)) | exact and31 (hW.gp (by omega)) | exact and31 (hW.ne (by omega)) | exact and31 (hW.op (by omega)) | exact and31 (by assumption)) (fun c_18 => ?_) (fun c_18 => False.elim (by omega))
        refine mm_aload d_M_hope_25 rfl ?_
        refine mm_aload d_M_hope_26 rfl ?_
        refine mm_ciN 38 d_M_hope_27 rfl ?_
        refine mm_iload d_M_hope_29 rfl ?_
        refine mm_iaddN d_M_hope_30 ?_
        refine mm_v1i d_M_hope_31 (sk_o_71 hM) (sp_M_ofN hH (by omega) (hH.f5 (by omega)) ?_)
        refine mm_v1v d_M_hope_34 (sk_o_71 hM) (sp_M_chancesOf hH (hW.ne (by omega)) (fun μ3 g3 hH e1 e2 => ?_))
        replace hM := hH.1
        refine mm_aload d_M_hope_37 rfl ?_
        refine mm_getJN d_M_hope_38 rfl (sk_o_71 hM) e1 ?_
        refine mm_lciN 0 d_M_hope_41 rfl ?_
        refine mm_lcmp d_M_hope_42 ?_
        refine mm_lif_neN d_M_hope_43 (by omega) (by omega) (fun c_43 => False.elim (by omega)) (fun c_43 => ?_)
        refine mm_lci d_M_hope_46 ?_
        refine mm_goto d_M_hope_49 ?_
        exact mm_rj d_M_hope_64 ⟨rfl, ((Fr.rf.sI rfl).trans g1).trans g3⟩
    · refine pairQj (lN (ltN y3 (chDn (dne D a) 8) (chUp D (dne D a) 8))) hJ (d := 12) (d' := 12) (by decide) (by decide) ?_ (fun μ1 hf => ?_)
      · show mm_T X 12 0 0 k_G_hope 0 [some (.ref 0), some (.int (nI i)), some (.int (nI a)), some (.int y3), none, none, none] [] μ _
        refine mm_aload d_G_hope_0 rfl ?_
        refine mm_getP d_G_hope_1 rfl (sk_o_0 hM) (sk_p_0_0 hM) ?_
        refine mm_iload d_G_hope_4 rfl ?_
        refine mm_iload d_G_hope_5 rfl ?_
        refine mm_v2r d_G_hope_6 (sk_o_1 hM) (sp_To_coastWithWorkI hM h0 h02 hi hCD hW (by omega) ?_)
        refine mm_ast4 d_G_hope_9 ?_
        refine mm_aload d_G_hope_11 rfl ?_
        refine mm_ifnonnull d_G_hope_13 ?_
        refine mm_aload d_G_hope_20 rfl ?_
        refine mm_aload d_G_hope_22 rfl ?_
        refine mm_getP d_G_hope_24 rfl hCD.1.1 (CoS_p5 hCD.1) ?_
        refine mm_iload d_G_hope_27 rfl ?_
        refine mm_ialdN d_G_hope_28 (CoS_a5 hCD.1) (by omega) (by decide) (hCD.f5 (by omega)) ?_
        refine mm_v1j d_G_hope_29 hCD.1.1 (sp_Co_chances hCD hW (by first | omega | assumption | exact hW.gp (by omega) | exact hW.ne (by omega) | exact hW.op (by omega) | exact and_lt256 (hW.gp (by omega)) | exact and_lt256 (hW.ne (by omega)) | exact and_lt256 (hW.op (by omega))) ?_)
        refine mm_lst5 d_G_hope_32 ?_
        refine mm_lload d_G_hope_34 rfl ?_
        refine mm_lciN 0 d_G_hope_36 rfl ?_
        refine mm_lcmp d_G_hope_37 ?_
        refine mm_lif_neN d_G_hope_38 (by omega) (by omega) (fun c_38 => ?_) (fun c_38 => False.elim (by omega))
        refine mm_aload d_G_hope_45 rfl ?_
        refine mm_aload d_G_hope_47 rfl ?_
        refine mm_getP d_G_hope_49 rfl hCD.1.1 (CoS_p5 hCD.1) ?_
        refine mm_iload d_G_hope_52 rfl ?_
        refine mm_ialdN d_G_hope_53 (CoS_a5 hCD.1) (by omega) (by decide) (hCD.f5 (by omega)) ?_
        refine mm_v1j d_G_hope_54 hCD.1.1 (sp_Co_chancesUnder (by first | omega | assumption | exact hW.gp (by omega) | exact hW.ne (by omega) | exact hW.op (by omega) | exact and_lt256 (hW.gp (by omega)) | exact and_lt256 (hW.ne (by omega)) | exact and_lt256 (hW.op (by omega))) ?_)
        refine mm_lload d_G_hope_57 rfl ?_
        refine mm_iload d_G_hope_59 rfl ?_
        refine mm_s3j d_G_hope_60 (sp_G_leastTerms (by omega) (by omega) (by omega) ?_)
        exact mm_rj d_G_hope_63 ⟨rfl, Fr.rf, hw⟩
      · show mm_T X 12 0 0 k_M_hope 0 [some (.ref 71), some (.int (nI i)), some (.int (nI a)), some (.int y3)] [] μ1 _
        replace hM := hf.2.2.2 hM
        replace m0 : mm_I μ1 76 0 = nI c := by rw [(hf.2.2.1 76 rfl).1]; exact m0
        replace hDM := hDM.frC hf
        refine mm_aload d_M_hope_0 rfl ?_
        refine mm_ciN 0 d_M_hope_1 rfl ?_
        refine mm_putI d_M_hope_2 rfl (sk_o_71 hM) (Or.inl rfl) ?_
        refine mm_aload d_M_hope_5 rfl ?_
        refine mm_iload d_M_hope_6 rfl ?_
        refine mm_v1i d_M_hope_7 (sk_o_71 hM) (sp_M_handN hM (by first | exact m0 | (rw [mm_sI_off (by decide)]; exact m0)) h02 hi (by first | exact hDM | exact hDM.eq (mm_sI_off (by decide))) hW (fun μ2 g1 hH hZ => ?_))
        replace hM := hH.1
        refine mm_if_eqN d_M_hope_10 (by first | omega | exact bt8_lt31 _ _ | exact godB_lt31 _ _ _ | exact pop_lt31 _ | assumption | exact b31 (hW.gp (by omega)) | exact b31 (hW.ne (by omega)) | exact b31 (hW.op (by omega)) | exact and31 (hW.gp (by omega)) | exact and31 (hW.ne (by omega)) | exact and31 (hW.op (by omega)) | exact and31 (by assumption)) (fun c_10 => False.elim (by omega)) (fun c_10 => ?_)
        refine mm_aload d_M_hope_13 rfl ?_
        refine mm_iload d_M_hope_14 rfl ?_
        refine mm_v1i d_M_hope_15 (sk_o_71 hM) (sp_M_isWorkT hH (by omega) ?_)
        refine mm_if_neN d_M_hope_18 (by first | omega | exact bt8_lt31 _ _ | exact godB_lt31 _ _ _ | exact pop_lt31 _ | assumption | exact b31 (hW.gp (by omega)) | exact b31 (hW.ne (by omega)) | exact b31 (hW.op (by omega)) | exact and31 (hW.gp (by omega)) | exact and31 (hW.ne (by omega)) | exact and31 (hW.op (by omega)) | exact and31 (by assumption)) (fun c_18 => ?_) (fun c_18 => False.elim (by omega))
        refine mm_aload d_M_hope_25 rfl ?_
        refine mm_aload d_M_hope_26 rfl ?_
        refine mm_ciN 38 d_M_hope_27 rfl ?_
        refine mm_iload d_M_hope_29 rfl ?_
        refine mm_iaddN d_M_hope_30 ?_
        refine mm_v1i d_M_hope_31 (sk_o_71 hM) (sp_M_ofN hH (by omega) (hH.f5 (by omega)) ?_)
        refine mm_v1v d_M_hope_34 (sk_o_71 hM) (sp_M_chancesOf hH (hW.ne (by omega)) (fun μ3 g3 hH e1 e2 => ?_))
        replace hM := hH.1
        refine mm_aload d_M_hope_37 rfl ?_
        refine mm_getJN d_M_hope_38 rfl (sk_o_71 hM) e1 ?_
        refine mm_lciN 0 d_M_hope_41 rfl ?_
        refine mm_lcmp d_M_hope_42 ?_
        refine mm_lif_neN d_M_hope_43 (by omega) (by omega) (fun c_43 => ?_) (fun c_43 => False.elim (by omega))
        refine mm_aload d_M_hope_52 rfl ?_
        refine mm_getJN d_M_hope_53 rfl (sk_o_71 hM) e2 ?_
        refine mm_aload d_M_hope_56 rfl ?_
        refine mm_getJN d_M_hope_57 rfl (sk_o_71 hM) e1 ?_
        refine mm_iload d_M_hope_60 rfl ?_
        refine mm_s3j d_M_hope_61 (sp_M_part (by omega) (by omega) (by omega) ?_)
        exact mm_rj d_M_hope_64 ⟨rfl, ((Fr.rf.sI rfl).trans g1).trans g3⟩
def oI : Option Nat → Int32
  | none => -1
  | some k => nI k
def lessB (f : Nat → Nat) (w : Nat) : Option Nat → Bool
  | none => true
  | some b => decide (f w < f b)
def firstK (D : mm_D) (c : Nat) : Nat → Option Nat
  | 0 => none
  | w + 1 => if bt8 (dgp D c) w = 1 ∧ lessB (dpa D) w (firstK D c w) = true then some w else firstK D c w
def leastO (f : Nat → Nat) : Option Nat → Nat
  | none => 0
  | some b => f b
theorem firstK_lt {D : mm_D} {c : Nat} : ∀ {k b}, firstK D c k = some b → b < k
  | 0, b, h => by cases h
  | k + 1, b, h => by
    unfold firstK at h
    split at h
    · cases h; omega
    · have := firstK_lt h; omega
theorem firstK_none {D : mm_D} {c : Nat} : ∀ {k}, firstK D c k = none → ∀ w, w < k → bt8 (dgp D c) w = 0
  | 0, _, w, hw => absurd hw (Nat.not_lt_zero w)
  | k + 1, h, w, hw => by
    unfold firstK at h
    split at h
    · cases h
    · rename_i hn
      have h1 := firstK_none h
      by_cases e : w = k
      · subst e
        rw [h] at hn
        have := bt8_01 (dgp D c) w
        simp [lessB] at hn
        omega
      · exact h1 w (by omega)
theorem pop_0 {s : Nat} (h : ∀ w, w < 8 → bt8 s w = 0) : pop s = 0 := by
  unfold pop
  rw [h 0 (by decide), h 1 (by decide), h 2 (by decide), h 3 (by decide), h 4 (by decide), h 5 (by decide), h 6 (by decide), h 7 (by decide)]
theorem firstK_some {D : mm_D} (hW : WfD D) {c : Nat} (hc : c < dn D) : ∃ b, b < 8 ∧ firstK D c 8 = some b := by
  cases h : firstK D c 8 with
  | none =>
    have h1 := pop_0 (firstK_none h)
    have h2 := hW.2.2.2.2.1 c hc
    omega
  | some b => exact ⟨b, firstK_lt h, rfl⟩
theorem pair_first {X : mm_X} {k : Nat} {μ : mm_M} (hJ : JJ k μ) (y1 y2 y3 : Int32) : PairI X (JJ (k + 1)) k_G_first k_M_first [.int y1, .int y2, .int y3] μ := by
  obtain ⟨c, h02, h0, m0, hv⟩ := hJ.coast y1
  have hM := hJ.1
  have hw := hJ.2.2.2.up
  rcases hv with hx | ⟨i, D, hi, rfl, hW, hCD, hDM⟩
  · exact pairQ (-1) hJ (d := 2) (d' := 4) (by decide) (by decide) (n_G_first hM h0 h02 hx ⟨rfl, Fr.rf, hw⟩) (fun μ1 hf => n_M_first (hf.2.2.2 hM) (by rw [(hf.2.2.1 76 rfl).1]; exact m0) h02 hx (fun μ' hk => ⟨rfl, hk.fr (hf.2.2.2 hM)⟩))
  have hn6 := hW.1
  have hw6 := hW.2.1
  rcases atF_or (c := dn D) (by omega) y2 with hz | ⟨a, ha, rfl⟩
  · refine pairQ (-1) hJ (d := 12) (d' := 12) (by decide) (by decide) ?_ (fun μ1 hf => ?_)
    · show mm_T X 12 0 0 k_G_first 0 [some (.ref 0), some (.int (nI i)), some (.int y2), some (.int y3), none, none, none, none] [] μ _
      refine mm_aload d_G_first_0 rfl ?_
      refine mm_getP d_G_first_1 rfl (sk_o_0 hM) (sk_p_0_0 hM) ?_
      refine mm_iload d_G_first_4 rfl ?_
      refine mm_iload d_G_first_5 rfl ?_
      refine mm_v2r d_G_first_6 (sk_o_1 hM) (sp_To_coastWithChildN hM h0 h02 hi hCD hz ?_)
      refine mm_astN4 d_G_first_9 ?_
      refine mm_aloadN d_G_first_11 rfl ?_
      refine mm_ifnonnullN d_G_first_13 ?_
      refine mm_ci d_G_first_16 ?_
      exact mm_ri d_G_first_17 ⟨rfl, Fr.rf, hw⟩
    · show mm_T X 12 0 0 k_M_first 0 [some (.ref 71), some (.int (nI i)), some (.int y2), some (.int y3), none, none, none] [] μ1 _
      replace hM := hf.2.2.2 hM
      replace m0 : mm_I μ1 76 0 = nI c := by rw [(hf.2.2.1 76 rfl).1]; exact m0
      replace hDM := hDM.frC hf
      refine mm_aload d_M_first_0 rfl ?_
      refine mm_ciN 0 d_M_first_1 rfl ?_
      refine mm_putI d_M_first_2 rfl (sk_o_71 hM) (Or.inl rfl) ?_
      refine mm_aload d_M_first_5 rfl ?_
      refine mm_iload d_M_first_6 rfl ?_
      refine mm_v1i d_M_first_7 (sk_o_71 hM) (sp_M_handN hM (by first | exact m0 | (rw [mm_sI_off (by decide)]; exact m0)) h02 hi (by first | exact hDM | exact hDM.eq (mm_sI_off (by decide))) hW (fun μ2 g1 hH hZ => ?_))
      replace hM := hH.1
      refine mm_if_eqN d_M_first_10 (by first | omega | exact bt8_lt31 _ _ | exact godB_lt31 _ _ _ | exact pop_lt31 _ | assumption | exact b31 (hW.gp (by omega)) | exact b31 (hW.ne (by omega)) | exact b31 (hW.op (by omega)) | exact and31 (hW.gp (by omega)) | exact and31 (hW.ne (by omega)) | exact and31 (hW.op (by omega)) | exact and31 (by assumption)) (fun c_10 => False.elim (by omega)) (fun c_10 => ?_)
      refine mm_aload d_M_first_13 rfl ?_
      refine mm_iload d_M_first_14 rfl ?_
      refine mm_v1i d_M_first_15 (sk_o_71 hM) (sp_M_isChildB hH hz ?_)
      refine mm_if_neN d_M_first_18 (by first | omega | exact bt8_lt31 _ _ | exact godB_lt31 _ _ _ | exact pop_lt31 _ | assumption | exact b31 (hW.gp (by omega)) | exact b31 (hW.ne (by omega)) | exact b31 (hW.op (by omega)) | exact and31 (hW.gp (by omega)) | exact and31 (hW.ne (by omega)) | exact and31 (hW.op (by omega)) | exact and31 (by assumption)) (fun c_18 => False.elim (by omega)) (fun c_18 => ?_)
      refine mm_ci d_M_first_21 ?_
      exact mm_ri d_M_first_22 ⟨rfl, (Fr.rf.sI rfl).trans g1⟩
  · obtain ⟨b, hb8, hb⟩ := firstK_some hW ha
    refine pairQ (if y3 = 0 then nI (dpa D b + 1) else nI b) hJ (d := 12) (d' := 12) (by decide) (by decide) ?_ (fun μ1 hf => ?_)
    · show mm_T X 12 0 0 k_G_first 0 [some (.ref 0), some (.int (nI i)), some (.int (nI a)), some (.int y3), none, none, none, none] [] μ _
      refine mm_aload d_G_first_0 rfl ?_
      refine mm_getP d_G_first_1 rfl (sk_o_0 hM) (sk_p_0_0 hM) ?_
      refine mm_iload d_G_first_4 rfl ?_
      refine mm_iload d_G_first_5 rfl ?_
      refine mm_v2r d_G_first_6 (sk_o_1 hM) (sp_To_coastWithChildI hM h0 h02 hi hCD hW (by omega) ?_)
      refine mm_ast4 d_G_first_9 ?_
      refine mm_aload d_G_first_11 rfl ?_
      refine mm_ifnonnull d_G_first_13 ?_
      refine mm_ci d_G_first_18 ?_
      refine mm_ist5 d_G_first_19 ?_
      refine mm_ciN 0 d_G_first_21 rfl ?_
      refine mm_ist6 d_G_first_22 ?_
      refine mm_ciN 0 d_G_first_24 rfl ?_
      refine mm_ist7 d_G_first_25 ?_
      generalize 4 + 7 * i = ad at hCD ⊢
      generalize nI i = l1
      refine mm_up (P := fun w => mm_T X _ 0 0 k_G_first 27 [some (.ref 0), some (.int l1), some (.int (nI a)), some (.int y3), some (.ref ad), some (.int (oI (firstK D a w))), some (.int (nI (leastO (dpa D) (firstK D a w)))), some (.int (nI w))] [] μ _) 8 ?_ (fun w hw8 ih => ?_)
      · rw [hb]
        refine mm_iload d_G_first_27 rfl ?_
        refine mm_ciN 8 d_G_first_29 rfl ?_
        refine mm_icmp_geN d_G_first_31 (by first | omega | exact bt8_lt31 _ _ | exact godB_lt31 _ _ _ | exact pop_lt31 _ | assumption | exact b31 (hW.gp (by omega)) | exact b31 (hW.ne (by omega)) | exact b31 (hW.op (by omega)) | exact and31 (hW.gp (by omega)) | exact and31 (hW.ne (by omega)) | exact and31 (hW.op (by omega)) | exact and31 (by assumption)) (by first | omega | exact bt8_lt31 _ _ | exact godB_lt31 _ _ _ | exact pop_lt31 _ | assumption | exact b31 (hW.gp (by omega)) | exact b31 (hW.ne (by omega)) | exact b31 (hW.op (by omega)) | exact and31 (hW.gp (by omega)) | exact and31 (hW.ne (by omega)) | exact and31 (hW.op (by omega)) | exact and31 (by assumption)) (fun c_31 => ?_) (fun c_31 => False.elim (by omega))
        refine mm_iload d_G_first_84 rfl ?_
        refine mm_if_eq d_G_first_85 (fun c_85 => ?_) (fun c_85 => ?_)
        · refine mm_iload d_G_first_93 rfl ?_
          refine mm_ciN 1 d_G_first_95 rfl ?_
          refine mm_iaddN d_G_first_96 ?_
          exact mm_ri d_G_first_97 ⟨by first | exact (if_pos c_85).symm | exact (if_neg c_85).symm, Fr.rf, hw⟩
        · refine mm_iload d_G_first_88 rfl ?_
          refine mm_goto d_G_first_90 ?_
          exact mm_ri d_G_first_97 ⟨by first | exact (if_pos c_85).symm | exact (if_neg c_85).symm, Fr.rf, hw⟩
      · have hgb := godB_in (w := w) ha
        have hp9 := hW.pa hw8
        have h01 := bt8_01 (dgp D a) w
        rcases hb' : firstK D a w with _ | b'
        · refine mm_iload d_G_first_27 rfl ?_
          refine mm_ciN 8 d_G_first_29 rfl ?_
          refine mm_icmp_geN d_G_first_31 (by first | omega | exact bt8_lt31 _ _ | exact godB_lt31 _ _ _ | exact pop_lt31 _ | assumption | exact b31 (hW.gp (by omega)) | exact b31 (hW.ne (by omega)) | exact b31 (hW.op (by omega)) | exact and31 (hW.gp (by omega)) | exact and31 (hW.ne (by omega)) | exact and31 (hW.op (by omega)) | exact and31 (by assumption)) (by first | omega | exact bt8_lt31 _ _ | exact godB_lt31 _ _ _ | exact pop_lt31 _ | assumption | exact b31 (hW.gp (by omega)) | exact b31 (hW.ne (by omega)) | exact b31 (hW.op (by omega)) | exact and31 (hW.gp (by omega)) | exact and31 (hW.ne (by omega)) | exact and31 (hW.op (by omega)) | exact and31 (by assumption)) (fun c_31 => False.elim (by omega)) (fun c_31 => ?_)
          refine mm_aload d_G_first_34 rfl ?_
          refine mm_iload d_G_first_36 rfl ?_
          refine mm_iload d_G_first_37 rfl ?_
          refine mm_v2i d_G_first_39 hCD.1.1 (sp_Co_isGodparent hCD hW (by omega) (by omega) ?_)
          refine mm_if_eqN d_G_first_42 (by first | omega | exact bt8_lt31 _ _ | exact godB_lt31 _ _ _ | exact pop_lt31 _ | assumption | exact b31 (hW.gp (by omega)) | exact b31 (hW.ne (by omega)) | exact b31 (hW.op (by omega)) | exact and31 (hW.gp (by omega)) | exact and31 (hW.ne (by omega)) | exact and31 (hW.op (by omega)) | exact and31 (by assumption)) (fun c_42 => ?_) (fun c_42 => ?_)
          · refine mm_inc7N d_G_first_78 ?_
            refine mm_goto d_G_first_81 ?_
            first
              | (rw [show firstK D a (w + 1) = some w by unfold firstK; rw [hb']; simp [lessB] <;> omega] at ih; exact ih)
              | (rw [show firstK D a (w + 1) = none by unfold firstK; rw [hb']; simp [lessB] <;> omega] at ih; exact ih)
          · refine mm_iload d_G_first_45 rfl ?_
            refine mm_ci d_G_first_47 ?_
            refine mm_icmp_eqS d_G_first_48 ?_
            refine mm_iload d_G_first_64 rfl ?_
            refine mm_ist5 d_G_first_66 ?_
            refine mm_aload d_G_first_68 rfl ?_
            refine mm_getP d_G_first_70 rfl hCD.1.1 (CoS_p1 hCD.1) ?_
            refine mm_iload d_G_first_73 rfl ?_
            refine mm_ialdN d_G_first_75 (CoS_a1 hCD.1) (by omega) (by decide) (hCD.f1 (by omega)) ?_
            refine mm_ist6 d_G_first_76 ?_
            refine mm_inc7N d_G_first_78 ?_
            refine mm_goto d_G_first_81 ?_
            first
              | (rw [show firstK D a (w + 1) = some w by unfold firstK; rw [hb']; simp [lessB] <;> omega] at ih; exact ih)
              | (rw [show firstK D a (w + 1) = none by unfold firstK; rw [hb']; simp [lessB] <;> omega] at ih; exact ih)
        · have hb2 := firstK_lt hb'
          have hp2 := hW.pa (j := b') (by omega)
          refine mm_iload d_G_first_27 rfl ?_
          refine mm_ciN 8 d_G_first_29 rfl ?_
          refine mm_icmp_geN d_G_first_31 (by first | omega | exact bt8_lt31 _ _ | exact godB_lt31 _ _ _ | exact pop_lt31 _ | assumption | exact b31 (hW.gp (by omega)) | exact b31 (hW.ne (by omega)) | exact b31 (hW.op (by omega)) | exact and31 (hW.gp (by omega)) | exact and31 (hW.ne (by omega)) | exact and31 (hW.op (by omega)) | exact and31 (by assumption)) (by first | omega | exact bt8_lt31 _ _ | exact godB_lt31 _ _ _ | exact pop_lt31 _ | assumption | exact b31 (hW.gp (by omega)) | exact b31 (hW.ne (by omega)) | exact b31 (hW.op (by omega)) | exact and31 (hW.gp (by omega)) | exact and31 (hW.ne (by omega)) | exact and31 (hW.op (by omega)) | exact and31 (by assumption)) (fun c_31 => False.elim (by omega)) (fun c_31 => ?_)
          refine mm_aload d_G_first_34 rfl ?_
          refine mm_iload d_G_first_36 rfl ?_
          refine mm_iload d_G_first_37 rfl ?_
          refine mm_v2i d_G_first_39 hCD.1.1 (sp_Co_isGodparent hCD hW (by omega) (by omega) ?_)
          refine mm_if_eqN d_G_first_42 (by first | omega | exact bt8_lt31 _ _ | exact godB_lt31 _ _ _ | exact pop_lt31 _ | assumption | exact b31 (hW.gp (by omega)) | exact b31 (hW.ne (by omega)) | exact b31 (hW.op (by omega)) | exact and31 (hW.gp (by omega)) | exact and31 (hW.ne (by omega)) | exact and31 (hW.op (by omega)) | exact and31 (by assumption)) (fun c_42 => ?_) (fun c_42 => ?_)
          · refine mm_inc7N d_G_first_78 ?_
            refine mm_goto d_G_first_81 ?_
            first
              | (rw [show firstK D a (w + 1) = some w by unfold firstK; rw [hb']; simp [lessB] <;> omega] at ih; exact ih)
              | (rw [show firstK D a (w + 1) = some b' by unfold firstK; rw [hb']; simp [lessB] <;> omega] at ih; exact ih)
          · refine mm_iload d_G_first_45 rfl ?_
            refine mm_ci d_G_first_47 ?_
            refine mm_icmp_eqM1 d_G_first_48 (by first | omega | exact bt8_lt31 _ _ | exact godB_lt31 _ _ _ | exact pop_lt31 _ | assumption | exact b31 (hW.gp (by omega)) | exact b31 (hW.ne (by omega)) | exact b31 (hW.op (by omega)) | exact and31 (hW.gp (by omega)) | exact and31 (hW.ne (by omega)) | exact and31 (hW.op (by omega)) | exact and31 (by assumption)) ?_
            refine mm_aload d_G_first_51 rfl ?_
            refine mm_getP d_G_first_53 rfl hCD.1.1 (CoS_p1 hCD.1) ?_
            refine mm_iload d_G_first_56 rfl ?_
            refine mm_ialdN d_G_first_58 (CoS_a1 hCD.1) (by omega) (by decide) (hCD.f1 (by omega)) ?_
            refine mm_iload d_G_first_59 rfl ?_
            change mm_T _ _ _ _ _ _ _ (.int (nI (dpa D b')) :: _) _ _
            refine mm_icmp_geN d_G_first_61 (by first | omega | exact bt8_lt31 _ _ | exact godB_lt31 _ _ _ | exact pop_lt31 _ | assumption | exact b31 (hW.gp (by omega)) | exact b31 (hW.ne (by omega)) | exact b31 (hW.op (by omega)) | exact and31 (hW.gp (by omega)) | exact and31 (hW.ne (by omega)) | exact and31 (hW.op (by omega)) | exact and31 (by assumption)) (by first | omega | exact bt8_lt31 _ _ | exact godB_lt31 _ _ _ | exact pop_lt31 _ | assumption | exact b31 (hW.gp (by omega)) | exact b31 (hW.ne (by omega)) | exact b31 (hW.op (by omega)) | exact and31 (hW.gp (by omega)) | exact and31 (hW.ne (by omega)) | exact and31 (hW.op (by omega)) | exact and31 (by assumption)) (fun c_61 => ?_) (fun c_61 => ?_)
            · refine mm_inc7N d_G_first_78 ?_
              refine mm_goto d_G_first_81 ?_
              first
                | (rw [show firstK D a (w + 1) = some w by unfold firstK; rw [hb']; simp [lessB] <;> omega] at ih; exact ih)
                | (rw [show firstK D a (w + 1) = some b' by unfold firstK; rw [hb']; simp [lessB] <;> omega] at ih; exact ih)
            · refine mm_iload d_G_first_64 rfl ?_
              refine mm_ist5 d_G_first_66 ?_
              refine mm_aload d_G_first_68 rfl ?_
              refine mm_getP d_G_first_70 rfl hCD.1.1 (CoS_p1 hCD.1) ?_
              refine mm_iload d_G_first_73 rfl ?_
              refine mm_ialdN d_G_first_75 (CoS_a1 hCD.1) (by omega) (by decide) (hCD.f1 (by omega)) ?_
              refine mm_ist6 d_G_first_76 ?_
              refine mm_inc7N d_G_first_78 ?_
              refine mm_goto d_G_first_81 ?_
              first
                | (rw [show firstK D a (w + 1) = some w by unfold firstK; rw [hb']; simp [lessB] <;> omega] at ih; exact ih)
                | (rw [show firstK D a (w + 1) = some b' by unfold firstK; rw [hb']; simp [lessB] <;> omega] at ih; exact ih)
    · show mm_T X 12 0 0 k_M_first 0 [some (.ref 71), some (.int (nI i)), some (.int (nI a)), some (.int y3), none, none, none] [] μ1 _
      replace hM := hf.2.2.2 hM
      replace m0 : mm_I μ1 76 0 = nI c := by rw [(hf.2.2.1 76 rfl).1]; exact m0
      replace hDM := hDM.frC hf
      refine mm_aload d_M_first_0 rfl ?_
      refine mm_ciN 0 d_M_first_1 rfl ?_
      refine mm_putI d_M_first_2 rfl (sk_o_71 hM) (Or.inl rfl) ?_
      refine mm_aload d_M_first_5 rfl ?_
      refine mm_iload d_M_first_6 rfl ?_
      refine mm_v1i d_M_first_7 (sk_o_71 hM) (sp_M_handN hM (by first | exact m0 | (rw [mm_sI_off (by decide)]; exact m0)) h02 hi (by first | exact hDM | exact hDM.eq (mm_sI_off (by decide))) hW (fun μ2 g1 hH hZ => ?_))
      replace hM := hH.1
      refine mm_if_eqN d_M_first_10 (by first | omega | exact bt8_lt31 _ _ | exact godB_lt31 _ _ _ | exact pop_lt31 _ | assumption | exact b31 (hW.gp (by omega)) | exact b31 (hW.ne (by omega)) | exact b31 (hW.op (by omega)) | exact and31 (hW.gp (by omega)) | exact and31 (hW.ne (by omega)) | exact and31 (hW.op (by omega)) | exact and31 (by assumption)) (fun c_10 => False.elim (by omega)) (fun c_10 => ?_)
      refine mm_aload d_M_first_13 rfl ?_
      refine mm_iload d_M_first_14 rfl ?_
      refine mm_v1i d_M_first_15 (sk_o_71 hM) (sp_M_isChildT hH (by omega) ?_)
      refine mm_if_neN d_M_first_18 (by first | omega | exact bt8_lt31 _ _ | exact godB_lt31 _ _ _ | exact pop_lt31 _ | assumption | exact b31 (hW.gp (by omega)) | exact b31 (hW.ne (by omega)) | exact b31 (hW.op (by omega)) | exact and31 (hW.gp (by omega)) | exact and31 (hW.ne (by omega)) | exact and31 (hW.op (by omega)) | exact and31 (by assumption)) (fun c_18 => ?_) (fun c_18 => False.elim (by omega))
      refine mm_ci d_M_first_23 ?_
      refine mm_ist4 d_M_first_24 ?_
      refine mm_ciN 0 d_M_first_26 rfl ?_
      refine mm_ist5 d_M_first_27 ?_
      have gf := (Fr.rf (S := scM) (μ := μ1).sI (j := 0) (x := nI 0) (a := 71) rfl).trans g1
      generalize nI i = l1
      have main : ∀ l6, mm_T X 12 0 0 k_M_first 29 [some (.ref 71), some (.int l1), some (.int (nI a)), some (.int y3), some (.int (oI (firstK D a 0))), some (.int (nI 0)), l6] [] μ2 (fun v μ' => ∃ r, v = some (.int r) ∧ (r = (if y3 = 0 then nI (dpa D b + 1) else nI b) ∧ Fr scM μ1 μ')) := by
        refine mm_up (P := fun w => ∀ l6, mm_T X _ 0 0 k_M_first 29 [some (.ref 71), some (.int l1), some (.int (nI a)), some (.int y3), some (.int (oI (firstK D a w))), some (.int (nI w)), l6] [] μ2 _) 8 ?_ (fun w hw8 ih => ?_)
        · intro l6
          rw [hb]
          refine mm_iload d_M_first_29 rfl ?_
          refine mm_ciN 8 d_M_first_31 rfl ?_
          refine mm_icmp_geN d_M_first_33 (by first | omega | exact bt8_lt31 _ _ | exact godB_lt31 _ _ _ | exact pop_lt31 _ | assumption | exact b31 (hW.gp (by omega)) | exact b31 (hW.ne (by omega)) | exact b31 (hW.op (by omega)) | exact and31 (hW.gp (by omega)) | exact and31 (hW.ne (by omega)) | exact and31 (hW.op (by omega)) | exact and31 (by assumption)) (by first | omega | exact bt8_lt31 _ _ | exact godB_lt31 _ _ _ | exact pop_lt31 _ | assumption | exact b31 (hW.gp (by omega)) | exact b31 (hW.ne (by omega)) | exact b31 (hW.op (by omega)) | exact and31 (hW.gp (by omega)) | exact and31 (hW.ne (by omega)) | exact and31 (hW.op (by omega)) | exact and31 (by assumption)) (fun c_33 => ?_) (fun c_33 => False.elim (by omega))
          refine mm_iload d_M_first_103 rfl ?_
          refine mm_if_eq d_M_first_104 (fun c_104 => ?_) (fun c_104 => ?_)
          · refine mm_aload d_M_first_112 rfl ?_
            refine mm_ciN 10 d_M_first_113 rfl ?_
            refine mm_iload d_M_first_115 rfl ?_
            refine mm_iaddN d_M_first_117 ?_
            refine mm_v1i d_M_first_118 (sk_o_71 hM) (sp_M_ofN hH (by omega) (hH.f1 (by omega)) ?_)
            refine mm_ciN 1 d_M_first_121 rfl ?_
            refine mm_iaddN d_M_first_122 ?_
            exact mm_ri d_M_first_123 ⟨by first | exact (if_pos c_104).symm | exact (if_neg c_104).symm, gf⟩
          · refine mm_iload d_M_first_107 rfl ?_
            refine mm_goto d_M_first_109 ?_
            exact mm_ri d_M_first_123 ⟨by first | exact (if_pos c_104).symm | exact (if_neg c_104).symm, gf⟩
        · intro l6
          have hp9 := hW.pa hw8
          have h01 := bt8_01 (dgp D a) w
          rcases hb' : firstK D a w with _ | b'
          · refine mm_iload d_M_first_29 rfl ?_
            refine mm_ciN 8 d_M_first_31 rfl ?_
            refine mm_icmp_geN d_M_first_33 (by first | omega | exact bt8_lt31 _ _ | exact godB_lt31 _ _ _ | exact pop_lt31 _ | assumption | exact b31 (hW.gp (by omega)) | exact b31 (hW.ne (by omega)) | exact b31 (hW.op (by omega)) | exact and31 (hW.gp (by omega)) | exact and31 (hW.ne (by omega)) | exact and31 (hW.op (by omega)) | exact and31 (by assumption)) (by first | omega | exact bt8_lt31 _ _ | exact godB_lt31 _ _ _ | exact pop_lt31 _ | assumption | exact b31 (hW.gp (by omega)) | exact b31 (hW.ne (by omega)) | exact b31 (hW.op (by omega)) | exact and31 (hW.gp (by omega)) | exact and31 (hW.ne (by omega)) | exact and31 (hW.op (by omega)) | exact and31 (by assumption)) (fun c_33 => False.elim (by omega)) (fun c_33 => ?_)
            refine mm_iload d_M_first_36 rfl ?_
            refine mm_ci d_M_first_38 ?_
            refine mm_icmp_eqS d_M_first_39 ?_
            refine mm_ciN 1 d_M_first_63 rfl ?_
            refine mm_goto d_M_first_64 ?_
            refine mm_ist6 d_M_first_68 ?_
            refine mm_aload d_M_first_70 rfl ?_
            refine mm_iload d_M_first_71 rfl ?_
            refine mm_v1i d_M_first_72 (sk_o_71 hM) (sp_M_gods hH (by omega) ?_)
            refine mm_iload d_M_first_75 rfl ?_
            refine mm_s2i d_M_first_77 (sp_M_has (by first | omega | assumption | exact hW.gp (by omega) | exact hW.ne (by omega) | exact hW.op (by omega) | exact and_lt256 (hW.gp (by omega)) | exact and_lt256 (hW.ne (by omega)) | exact and_lt256 (hW.op (by omega))) (by omega) ?_)
            refine mm_if_eqN d_M_first_80 (by first | omega | exact bt8_lt31 _ _ | exact godB_lt31 _ _ _ | exact pop_lt31 _ | assumption | exact b31 (hW.gp (by omega)) | exact b31 (hW.ne (by omega)) | exact b31 (hW.op (by omega)) | exact and31 (hW.gp (by omega)) | exact and31 (hW.ne (by omega)) | exact and31 (hW.op (by omega)) | exact and31 (by assumption)) (fun c_80 => ?_) (fun c_80 => ?_)
            · refine mm_iload d_M_first_93 rfl ?_
              refine mm_ist4 d_M_first_95 ?_
              refine mm_inc5N d_M_first_97 ?_
              refine mm_goto d_M_first_100 ?_
              first
                | (rw [show firstK D a (w + 1) = some w by unfold firstK; rw [hb']; simp [lessB] <;> omega] at ih; exact ih _)
                | (rw [show firstK D a (w + 1) = none by unfold firstK; rw [hb']; simp [lessB] <;> omega] at ih; exact ih _)
            · refine mm_iload d_M_first_83 rfl ?_
              refine mm_if_eqN d_M_first_85 (by first | omega | exact bt8_lt31 _ _ | exact godB_lt31 _ _ _ | exact pop_lt31 _ | assumption | exact b31 (hW.gp (by omega)) | exact b31 (hW.ne (by omega)) | exact b31 (hW.op (by omega)) | exact and31 (hW.gp (by omega)) | exact and31 (hW.ne (by omega)) | exact and31 (hW.op (by omega)) | exact and31 (by assumption)) (fun c_85 => False.elim (by omega)) (fun c_85 => ?_)
              refine mm_iload d_M_first_88 rfl ?_
              refine mm_goto d_M_first_90 ?_
              refine mm_ist4 d_M_first_95 ?_
              refine mm_inc5N d_M_first_97 ?_
              refine mm_goto d_M_first_100 ?_
              first
                | (rw [show firstK D a (w + 1) = some w by unfold firstK; rw [hb']; simp [lessB] <;> omega] at ih; exact ih _)
                | (rw [show firstK D a (w + 1) = none by unfold firstK; rw [hb']; simp [lessB] <;> omega] at ih; exact ih _)
          · have hb2 := firstK_lt hb'
            have hp2 := hW.pa (j := b') (by omega)
            refine mm_iload d_M_first_29 rfl ?_
            refine mm_ciN 8 d_M_first_31 rfl ?_
            refine mm_icmp_geN d_M_first_33 (by first | omega | exact bt8_lt31 _ _ | exact godB_lt31 _ _ _ | exact pop_lt31 _ | assumption | exact b31 (hW.gp (by omega)) | exact b31 (hW.ne (by omega)) | exact b31 (hW.op (by omega)) | exact and31 (hW.gp (by omega)) | exact and31 (hW.ne (by omega)) | exact and31 (hW.op (by omega)) | exact and31 (by assumption)) (by first | omega | exact bt8_lt31 _ _ | exact godB_lt31 _ _ _ | exact pop_lt31 _ | assumption | exact b31 (hW.gp (by omega)) | exact b31 (hW.ne (by omega)) | exact b31 (hW.op (by omega)) | exact and31 (hW.gp (by omega)) | exact and31 (hW.ne (by omega)) | exact and31 (hW.op (by omega)) | exact and31 (by assumption)) (fun c_33 => False.elim (by omega)) (fun c_33 => ?_)
            refine mm_iload d_M_first_36 rfl ?_
            refine mm_ci d_M_first_38 ?_
            refine mm_icmp_eqM1 d_M_first_39 (by first | omega | exact bt8_lt31 _ _ | exact godB_lt31 _ _ _ | exact pop_lt31 _ | assumption | exact b31 (hW.gp (by omega)) | exact b31 (hW.ne (by omega)) | exact b31 (hW.op (by omega)) | exact and31 (hW.gp (by omega)) | exact and31 (hW.ne (by omega)) | exact and31 (hW.op (by omega)) | exact and31 (by assumption)) ?_
            refine mm_aload d_M_first_42 rfl ?_
            refine mm_ciN 10 d_M_first_43 rfl ?_
            refine mm_iload d_M_first_45 rfl ?_
            refine mm_iaddN d_M_first_47 ?_
            refine mm_v1i d_M_first_48 (sk_o_71 hM) (sp_M_ofN hH (by omega) (hH.f1 (by omega)) ?_)
            refine mm_aload d_M_first_51 rfl ?_
            refine mm_ciN 10 d_M_first_52 rfl ?_
            refine mm_iload d_M_first_54 rfl ?_
            refine mm_iaddN d_M_first_56 ?_
            refine mm_v1i d_M_first_57 (sk_o_71 hM) (sp_M_ofN hH (by omega) (hH.f1 (by omega)) ?_)
            refine mm_icmp_geN d_M_first_60 (by first | omega | exact bt8_lt31 _ _ | exact godB_lt31 _ _ _ | exact pop_lt31 _ | assumption | exact b31 (hW.gp (by omega)) | exact b31 (hW.ne (by omega)) | exact b31 (hW.op (by omega)) | exact and31 (hW.gp (by omega)) | exact and31 (hW.ne (by omega)) | exact and31 (hW.op (by omega)) | exact and31 (by assumption)) (by first | omega | exact bt8_lt31 _ _ | exact godB_lt31 _ _ _ | exact pop_lt31 _ | assumption | exact b31 (hW.gp (by omega)) | exact b31 (hW.ne (by omega)) | exact b31 (hW.op (by omega)) | exact and31 (hW.gp (by omega)) | exact and31 (hW.ne (by omega)) | exact and31 (hW.op (by omega)) | exact and31 (by assumption)) (fun c_60 => ?_) (fun c_60 => ?_)
            · refine mm_ciN 0 d_M_first_67 rfl ?_
              refine mm_ist6 d_M_first_68 ?_
              refine mm_aload d_M_first_70 rfl ?_
              refine mm_iload d_M_first_71 rfl ?_
              refine mm_v1i d_M_first_72 (sk_o_71 hM) (sp_M_gods hH (by omega) ?_)
              refine mm_iload d_M_first_75 rfl ?_
              refine mm_s2i d_M_first_77 (sp_M_has (by first | omega | assumption | exact hW.gp (by omega) | exact hW.ne (by omega) | exact hW.op (by omega) | exact and_lt256 (hW.gp (by omega)) | exact and_lt256 (hW.ne (by omega)) | exact and_lt256 (hW.op (by omega))) (by omega) ?_)
              refine mm_if_eqN d_M_first_80 (by first | omega | exact bt8_lt31 _ _ | exact godB_lt31 _ _ _ | exact pop_lt31 _ | assumption | exact b31 (hW.gp (by omega)) | exact b31 (hW.ne (by omega)) | exact b31 (hW.op (by omega)) | exact and31 (hW.gp (by omega)) | exact and31 (hW.ne (by omega)) | exact and31 (hW.op (by omega)) | exact and31 (by assumption)) (fun c_80 => ?_) (fun c_80 => ?_)
              · refine mm_iload d_M_first_93 rfl ?_
                refine mm_ist4 d_M_first_95 ?_
                refine mm_inc5N d_M_first_97 ?_
                refine mm_goto d_M_first_100 ?_
                first
                  | (rw [show firstK D a (w + 1) = some w by unfold firstK; rw [hb']; simp [lessB] <;> omega] at ih; exact ih _)
                  | (rw [show firstK D a (w + 1) = some b' by unfold firstK; rw [hb']; simp [lessB] <;> omega] at ih; exact ih _)
              · refine mm_iload d_M_first_83 rfl ?_
                refine mm_if_eqN d_M_first_85 (by first | omega | exact bt8_lt31 _ _ | exact godB_lt31 _ _ _ | exact pop_lt31 _ | assumption | exact b31 (hW.gp (by omega)) | exact b31 (hW.ne (by omega)) | exact b31 (hW.op (by omega)) | exact and31 (hW.gp (by omega)) | exact and31 (hW.ne (by omega)) | exact and31 (hW.op (by omega)) | exact and31 (by assumption)) (fun c_85 => ?_) (fun c_85 => False.elim (by omega))
                refine mm_iload d_M_first_93 rfl ?_
                refine mm_ist4 d_M_first_95 ?_
                refine mm_inc5N d_M_first_97 ?_
                refine mm_goto d_M_first_100 ?_
                first
                  | (rw [show firstK D a (w + 1) = some w by unfold firstK; rw [hb']; simp [lessB] <;> omega] at ih; exact ih _)
                  | (rw [show firstK D a (w + 1) = some b' by unfold firstK; rw [hb']; simp [lessB] <;> omega] at ih; exact ih _)
            · refine mm_ciN 1 d_M_first_63 rfl ?_
              refine mm_goto d_M_first_64 ?_
              refine mm_ist6 d_M_first_68 ?_
              refine mm_aload d_M_first_70 rfl ?_
              refine mm_iload d_M_first_71 rfl ?_
              refine mm_v1i d_M_first_72 (sk_o_71 hM) (sp_M_gods hH (by omega) ?_)
              refine mm_iload d_M_first_75 rfl ?_
              refine mm_s2i d_M_first_77 (sp_M_has (by first | omega | assumption | exact hW.gp (by omega) | exact hW.ne (by omega) | exact hW.op (by omega) | exact and_lt256 (hW.gp (by omega)) | exact and_lt256 (hW.ne (by omega)) | exact and_lt256 (hW.op (by omega))) (by omega) ?_)
              refine mm_if_eqN d_M_first_80 (by first | omega | exact bt8_lt31 _ _ | exact godB_lt31 _ _ _ | exact pop_lt31 _ | assumption | exact b31 (hW.gp (by omega)) | exact b31 (hW.ne (by omega)) | exact b31 (hW.op (by omega)) | exact and31 (hW.gp (by omega)) | exact and31 (hW.ne (by omega)) | exact and31 (hW.op (by omega)) | exact and31 (by assumption)) (fun c_80 => ?_) (fun c_80 => ?_)
              · refine mm_iload d_M_first_93 rfl ?_
                refine mm_ist4 d_M_first_95 ?_
                refine mm_inc5N d_M_first_97 ?_
                refine mm_goto d_M_first_100 ?_
                first
                  | (rw [show firstK D a (w + 1) = some w by unfold firstK; rw [hb']; simp [lessB] <;> omega] at ih; exact ih _)
                  | (rw [show firstK D a (w + 1) = some b' by unfold firstK; rw [hb']; simp [lessB] <;> omega] at ih; exact ih _)
              · refine mm_iload d_M_first_83 rfl ?_
                refine mm_if_eqN d_M_first_85 (by first | omega | exact bt8_lt31 _ _ | exact godB_lt31 _ _ _ | exact pop_lt31 _ | assumption | exact b31 (hW.gp (by omega)) | exact b31 (hW.ne (by omega)) | exact b31 (hW.op (by omega)) | exact and31 (hW.gp (by omega)) | exact and31 (hW.ne (by omega)) | exact and31 (hW.op (by omega)) | exact and31 (by assumption)) (fun c_85 => False.elim (by omega)) (fun c_85 => ?_)
                refine mm_iload d_M_first_88 rfl ?_
                refine mm_goto d_M_first_90 ?_
                refine mm_ist4 d_M_first_95 ?_
                refine mm_inc5N d_M_first_97 ?_
                refine mm_goto d_M_first_100 ?_
                first
                  | (rw [show firstK D a (w + 1) = some w by unfold firstK; rw [hb']; simp [lessB] <;> omega] at ih; exact ih _)
                  | (rw [show firstK D a (w + 1) = some b' by unfold firstK; rw [hb']; simp [lessB] <;> omega] at ih; exact ih _)
      exact main _
