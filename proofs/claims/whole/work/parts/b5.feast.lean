/-! pairs: feast, busy -/
def ou0 (_ : Nat) : Nat := 0
def rR (D : mm_D) (z : Int32) (ou : Nat → Nat) : Nat × Option Nat := fo (FF D (gN D z) ou (dn D) 0) 0 (4 ^ dn D)
theorem hbF_last {D : mm_D} {ou : Nat → Nat} : ∀ m h, hbF D ou m h (4 ^ m - 1) = some h
  | 0, _ => rfl
  | m + 1, h => by
    have := p4 m
    rw [show 4 ^ (m + 1) - 1 = 3 * 4 ^ m + (4 ^ m - 1) by rw [Nat.pow_succ]; omega, hbF_d3 (by omega)]
    exact hbF_last m h
theorem rR_some {D : mm_D} (z : Int32) (ou : Nat → Nat) : ∃ s, s < 4 ^ dn D ∧ (rR D z ou).2 = some s := by
  rcases fo_o (f := FF D (gN D z) ou (dn D) 0) (b := 0) (4 ^ dn D) with ⟨-, y⟩ | ⟨s, s1, s2, -⟩
  · have h1 := fo_all (f := FF D (gN D z) ou (dn D) 0) (b := 0) (4 ^ dn D) (4 ^ dn D - 1) (by have := p4 (dn D); omega)
    have h2 : FF D (gN D z) ou (dn D) 0 (4 ^ dn D - 1) = gN D z 0 + 1 := by unfold FF; rw [hbF_last]; rfl
    omega
  · exact ⟨s, s1, s2⟩
theorem rR_pos {D : mm_D} (z : Int32) (ou : Nat → Nat) : 1 ≤ (rR D z ou).1 := by
  have h1 := fo_all (f := FF D (gN D z) ou (dn D) 0) (b := 0) (4 ^ dn D) (4 ^ dn D - 1) (by have := p4 (dn D); omega)
  have h2 : FF D (gN D z) ou (dn D) 0 (4 ^ dn D - 1) = gN D z 0 + 1 := by unfold FF; rw [hbF_last]; rfl
  unfold rR
  omega
theorem rR_le {D : mm_D} (hW : WfD D) (z : Int32) (ou : Nat → Nat) : (rR D z ou).1 ≤ 900 := fo_le (Nat.zero_le _) (FF_le (fun x => gN_lt hW z x)) _
theorem inC_m : ∀ n, n ≤ 6 → inG (-1) (-1) (nI n - nI 1) = nI 1 := by decide +kernel
theorem inC_i : ∀ n, n ≤ 6 → ∀ j, j < n → inG (nI j) (-1) (nI n - nI 1) = nI 1 := by decide +kernel
theorem inC_n {n : Nat} (hn : n ≤ 6) {y : Int32} (hy : y ≠ -1) (hz : atF n y = none) : inG y (-1) (nI n - nI 1) = nI 0 := by
  unfold inG
  unfold atF at hz
  by_cases a : y < 0
  · have : y < -1 := by
      rw [Int32.lt_iff_toInt_lt] at a ⊢
      have h1 : y.toInt ≠ (-1 : Int32).toInt := fun z => hy (Int32.toInt_inj.mp z)
      have e1 : (-1 : Int32).toInt = -1 := by decide
      have e0 : (0 : Int32).toInt = 0 := by decide
      rw [e1] at h1 ⊢
      rw [e0] at a
      omega
    rw [if_pos this]; rfl
  · rw [if_neg a] at hz
    by_cases b : nI n ≤ y
    · have h2 : nI n - nI 1 < y := by
        cases n with
        | zero =>
          have e : nI 0 - nI 1 = -1 := by decide
          rw [e]
          exact Int32.lt_of_lt_of_le (by decide) (Int32.not_lt.mp a)
        | succ n => rw [pk_sub (by omega)]; exact Int32.lt_of_lt_of_le (nI_lt (by omega) (by omega)) b
      by_cases c : y < -1
      · rw [if_pos c]; rfl
      · rw [if_neg c, if_pos h2]; rfl
    · rw [if_neg b] at hz; cases hz
theorem crw_all : ∀ n, n ≤ 6 → ∀ c, c < n → bt8 (2 ^ n - 1) c = 1 - ou0 c := by decide
theorem sp_G_bestRow {X : mm_X} {μ : mm_M} {q : Int32 → mm_M → Prop} {D : mm_D} {e w : Nat} {y z R : Int32} (hM : SK μ) (he : e < 2) (hCD : CoD μ (4 + 7 * e) D) (hW : WfD D) (hw : mm_I μ 57 5 = nI w) (hw2 : w + 1 < 2 ^ 30) (hS : WkS w μ) (hy : (y = -1 ∧ R = bI (rR D z ou0).1) ∨ ∃ j s, j < dn D ∧ y = nI j ∧ (rR D z ou0).2 = some s ∧ R = nI (whN D s j)) (h : ∀ ν, Fr scC μ ν → mm_I ν 57 5 = nI (w + 1) → WkS (w + 1) ν → q R ν) : mm_Ci X 11 0 0 k_G_bestRow [.ref 0, .ref (4 + 7 * e), .int y, .int z] μ q := by
  show mm_T X 11 0 0 k_G_bestRow 0 [some (.ref 0), some (.ref (4 + 7 * e)), some (.int y), some (.int z), none] [] μ _
  have hn6 := hW.1
  have hal := all_lt hW
  have tail : mm_T X 11 0 0 k_G_bestRow 19 [some (.ref 0), some (.ref (4 + 7 * e)), some (.int y), some (.int z), none] [] μ (fun v μ' => ∃ r, v = some (.int r) ∧ q r μ') := by
    refine mm_aload d_G_bestRow_19 rfl ?_
    refine mm_getP d_G_bestRow_20 rfl (sk_o_0 hM) (sk_p_0_4 hM) ?_
    refine mm_aload d_G_bestRow_23 rfl ?_
    refine mm_iload d_G_bestRow_24 rfl ?_
    refine mm_v2v d_G_bestRow_25 (sk_o_57 hM) (sp_As_begin hM he hCD hW (fun ν f e57 hA => ?_))
    have hM1 := hA.1
    have hC1 := hA.2.2.2.1
    have f1 : Fr scC μ ν := f.sub scB_C
    have hS1 : WkS w ν := by intro j hj; rw [(f.2.2.1 62 rfl).1]; exact hS j hj
    refine mm_aload d_G_bestRow_28 rfl ?_
    refine mm_getP d_G_bestRow_29 rfl (sk_o_0 hM1) (sk_p_0_4 hM1) ?_
    refine mm_aload d_G_bestRow_32 rfl ?_
    refine mm_v0i d_G_bestRow_33 hC1.1.1 (sp_Co_allChildrenN hC1 hW ?_)
    refine mm_v1i d_G_bestRow_36 (sk_o_57 hM1) (sp_As_most hA (fun x => Nat.lt_trans (gN_lt hW z x) (by decide)) (crw_all (dn D) hn6) hal (by rw [e57]; exact hw) hw2 hS1 (fun ν' f2 hA2 e5 hS2 e59 _ => ?_))
    have hM2 := hA2.1
    have f3 : Fr scC μ ν' := f1.trans (f2.sub scK_C)
    refine mm_ist4 d_G_bestRow_39 ?_
    rcases hy with ⟨rfl, rfl⟩ | ⟨j, s, hj, rfl, es, rfl⟩
    · refine mm_iload d_G_bestRow_41 rfl ?_
      refine mm_ci d_G_bestRow_42 ?_
      refine mm_icmp_neS d_G_bestRow_43 ?_
      refine mm_iload d_G_bestRow_46 rfl ?_
      refine mm_goto d_G_bestRow_48 ?_
      exact mm_ri d_G_bestRow_60 (h ν' f3 e5 hS2)
    · have e59' := e59 j hj
      rw [show (fo (FF D (gN D z) ou0 (dn D) 0) 0 (4 ^ dn D)).2 = some s from es] at e59'
      replace e59' : mm_I ν' 59 j = nI (whN D (0 + s) j) := e59'
      rw [Nat.zero_add] at e59'
      have hM := hM2
      refine mm_iload d_G_bestRow_41 rfl ?_
      refine mm_ci d_G_bestRow_42 ?_
      refine mm_icmp_neM1 d_G_bestRow_43 (by first | omega | exact ite01_lt | exact bt8_lt31 _ _ | exact godB_lt31 _ _ _ | exact pop_lt31 _ | assumption | exact b31 (hW.gp (by omega)) | exact b31 (hW.ne (by omega)) | exact b31 (hW.op (by omega)) | exact and31 (hW.gp (by omega)) | exact and31 (hW.ne (by omega)) | exact and31 (hW.op (by omega)) | exact and31 (by assumption) | exact and31r (hW.ne (by omega)) | exact and31r (hW.gp (by omega)) | exact and31r (by decide)) ?_
      refine mm_aload d_G_bestRow_51 rfl ?_
      refine mm_getP d_G_bestRow_52 rfl (sk_o_0 hM) (sk_p_0_4 hM) ?_
      refine mm_getP d_G_bestRow_55 rfl (sk_o_57 hM) (sk_p_57_1 hM) ?_
      refine mm_iload d_G_bestRow_58 rfl ?_
      refine mm_ialdN d_G_bestRow_59 (sk_a_59 hM2) (by omega) (by decide) e59' ?_
      exact mm_ri d_G_bestRow_60 (h ν' f3 e5 hS2)
  rcases hy with ⟨rfl, -⟩ | ⟨j, s, hj, rfl, -⟩
  · refine mm_aload d_G_bestRow_0 rfl ?_
    refine mm_ifnull d_G_bestRow_1 ?_
    refine mm_iload d_G_bestRow_4 rfl ?_
    refine mm_ci d_G_bestRow_5 ?_
    refine mm_icmp_eqS d_G_bestRow_6 ?_
    exact tail
  · refine mm_aload d_G_bestRow_0 rfl ?_
    refine mm_ifnull d_G_bestRow_1 ?_
    refine mm_iload d_G_bestRow_4 rfl ?_
    refine mm_ci d_G_bestRow_5 ?_
    refine mm_icmp_eqM1 d_G_bestRow_6 (by first | omega | exact ite01_lt | exact bt8_lt31 _ _ | exact godB_lt31 _ _ _ | exact pop_lt31 _ | assumption | exact b31 (hW.gp (by omega)) | exact b31 (hW.ne (by omega)) | exact b31 (hW.op (by omega)) | exact and31 (hW.gp (by omega)) | exact and31 (hW.ne (by omega)) | exact and31 (hW.op (by omega)) | exact and31 (by assumption) | exact and31r (hW.ne (by omega)) | exact and31r (hW.gp (by omega)) | exact and31r (by decide)) ?_
    refine mm_aload d_G_bestRow_9 rfl ?_
    refine mm_iload d_G_bestRow_10 rfl ?_
    refine mm_v1i d_G_bestRow_11 hCD.1.1 (sp_Co_hasChildT hCD hW (by omega) ?_)
    refine mm_if_neN d_G_bestRow_14 (by first | omega | exact ite01_lt | exact bt8_lt31 _ _ | exact godB_lt31 _ _ _ | exact pop_lt31 _ | assumption | exact b31 (hW.gp (by omega)) | exact b31 (hW.ne (by omega)) | exact b31 (hW.op (by omega)) | exact and31 (hW.gp (by omega)) | exact and31 (hW.ne (by omega)) | exact and31 (hW.op (by omega)) | exact and31 (by assumption) | exact and31r (hW.ne (by omega)) | exact and31r (hW.gp (by omega)) | exact and31r (by decide)) (fun c_14 => ?_) (fun c_14 => False.elim (by omega))
    exact tail
theorem sp_G_bestRowN {X : mm_X} {μ : mm_M} {q : Int32 → mm_M → Prop} {D : mm_D} {e : Nat} {y z : Int32} (hCD : CoD μ (4 + 7 * e) D) (hy : y ≠ -1) (hz : atF (dn D) y = none) (h : q (-1) μ) : mm_Ci X 11 0 0 k_G_bestRow [.ref 0, .ref (4 + 7 * e), .int y, .int z] μ q := by
  show mm_T X 11 0 0 k_G_bestRow 0 [some (.ref 0), some (.ref (4 + 7 * e)), some (.int y), some (.int z), none] [] μ _
  refine mm_aload d_G_bestRow_0 rfl ?_
  refine mm_ifnull d_G_bestRow_1 ?_
  refine mm_iload d_G_bestRow_4 rfl ?_
  refine mm_ci d_G_bestRow_5 ?_
  refine mm_icmp_eq d_G_bestRow_6 (fun c_6 => False.elim (hy c_6)) (fun c_6 => ?_)
  refine mm_aload d_G_bestRow_9 rfl ?_
  refine mm_iload d_G_bestRow_10 rfl ?_
  refine mm_v1i d_G_bestRow_11 hCD.1.1 (sp_Co_hasChildB hCD hz ?_)
  refine mm_if_neN d_G_bestRow_14 (by first | omega | exact ite01_lt | exact bt8_lt31 _ _ | exact godB_lt31 _ _ _ | exact pop_lt31 _ | assumption | exact b31 (hW.gp (by omega)) | exact b31 (hW.ne (by omega)) | exact b31 (hW.op (by omega)) | exact and31 (hW.gp (by omega)) | exact and31 (hW.ne (by omega)) | exact and31 (hW.op (by omega)) | exact and31 (by assumption) | exact and31r (hW.ne (by omega)) | exact and31r (hW.gp (by omega)) | exact and31r (by decide)) (fun c_14 => False.elim (by omega)) (fun c_14 => ?_)
  refine mm_ci d_G_bestRow_17 ?_
  exact mm_ri d_G_bestRow_18 h
theorem Wk.of {k w : Nat} {ν : mm_M} (hw : w ≤ 20 * (k + 1)) (h5 : mm_I ν 57 5 = nI w) (hS : WkS w ν) : Wk (k + 1) ν := ⟨w, hw, h5, hS⟩
theorem pair_feast {X : mm_X} {k : Nat} {μ : mm_M} (hk : k ≤ 511) (hJ : JJ k μ) (y1 y2 : Int32) : PairI X (JJ (k + 1)) k_G_feast k_M_feast [.int y1, .int y2] μ := by
  obtain ⟨c, h02, h0, m0, hv⟩ := hJ.coast y1
  have hM := hJ.1
  have hw := hJ.2.2.2.up
  rcases hv with hx | ⟨i, D, hi, rfl, hW, hCD, hDM⟩
  · exact pairQ (-1) hJ (d := 2) (d' := 4) (by decide) (by decide) (n_G_feast hM h0 h02 hx ⟨rfl, Fr.rf, hw⟩) (fun μ1 hf => n_M_feast (hf.2.2.2 hM) (by rw [(hf.2.2.1 76 rfl).1]; exact m0) h02 hx (fun μ' hk => ⟨rfl, hk.fr (hf.2.2.2 hM)⟩))
  have hn6 := hW.1
  have hw6 := hW.2.1
  obtain ⟨w, w1, w2, w3⟩ := hJ.2.2.2
  have hi2 : i < 2 := by omega
  by_cases hy : y2 = -1
  · subst hy
    refine pairQ (bI (rR D (nI 0) ou0).1) hJ (d := 12) (d' := 12) (by decide) (by decide) ?_ (fun μ1 hf => ?_)
    · show mm_T X 12 0 0 k_G_feast 0 [some (.ref 0), some (.int (nI i)), some (.int (-1))] [] μ _
      refine mm_aload d_G_feast_0 rfl ?_
      refine mm_aload d_G_feast_1 rfl ?_
      refine mm_getP d_G_feast_2 rfl (sk_o_0 hM) (sk_p_0_0 hM) ?_
      refine mm_iload d_G_feast_5 rfl ?_
      refine mm_v1r d_G_feast_6 (sk_o_1 hM) (sp_To_coastAtI hM h0 h02 hi ?_)
      refine mm_iload d_G_feast_9 rfl ?_
      refine mm_ciN 0 d_G_feast_10 rfl ?_
      refine mm_v3i d_G_feast_11 (sk_o_0 hM) (sp_G_bestRow hM hi2 hCD hW w2 (by omega) w3 (Or.inl ⟨rfl, rfl⟩) (fun ν f e5 hs => ?_))
      exact mm_ri d_G_feast_14 ⟨rfl, f, Wk.of (by omega) e5 hs⟩
    · show mm_T X 12 0 0 k_M_feast 0 [some (.ref 71), some (.int (nI i)), some (.int (-1)), none] [] μ1 _
      replace hM := hf.2.2.2 hM
      replace m0 : mm_I μ1 76 0 = nI c := by rw [(hf.2.2.1 76 rfl).1]; exact m0
      replace hDM := hDM.frC hf
      refine mm_aload d_M_feast_0 rfl ?_
      refine mm_ciN 0 d_M_feast_1 rfl ?_
      refine mm_putI d_M_feast_2 rfl (sk_o_71 hM) (Or.inl rfl) ?_
      refine mm_aload d_M_feast_5 rfl ?_
      refine mm_iload d_M_feast_6 rfl ?_
      refine mm_v1i d_M_feast_7 (sk_o_71 hM) (sp_M_handN hM (by first | exact m0 | (rw [mm_sI_off (by decide)]; exact m0)) h02 hi (by first | exact hDM | exact hDM.eq (mm_sI_off (by decide))) hW (fun μ2 g1 hH hZ => ?_))
      replace hM := hH.1
      refine mm_if_eqN d_M_feast_10 (by first | omega | exact ite01_lt | exact bt8_lt31 _ _ | exact godB_lt31 _ _ _ | exact pop_lt31 _ | assumption | exact b31 (hW.gp (by omega)) | exact b31 (hW.ne (by omega)) | exact b31 (hW.op (by omega)) | exact and31 (hW.gp (by omega)) | exact and31 (hW.ne (by omega)) | exact and31 (hW.op (by omega)) | exact and31 (by assumption) | exact and31r (hW.ne (by omega)) | exact and31r (hW.gp (by omega)) | exact and31r (by decide)) (fun c_10 => False.elim (by omega)) (fun c_10 => ?_)
      refine mm_iload d_M_feast_13 rfl ?_
      refine mm_ci d_M_feast_14 ?_
      refine mm_aload d_M_feast_15 rfl ?_
      refine mm_getIN d_M_feast_16 rfl (sk_o_71 hM) hH.n ?_
      refine mm_ciN 1 d_M_feast_19 rfl ?_
      refine mm_isub d_M_feast_20 ?_
      refine mm_s3i d_M_feast_21 (sp_M_in ?_)
      rw [inC_m (dn D) hn6]
      refine mm_if_neN d_M_feast_24 (by first | omega | exact ite01_lt | exact bt8_lt31 _ _ | exact godB_lt31 _ _ _ | exact pop_lt31 _ | assumption | exact b31 (hW.gp (by omega)) | exact b31 (hW.ne (by omega)) | exact b31 (hW.op (by omega)) | exact and31 (hW.gp (by omega)) | exact and31 (hW.ne (by omega)) | exact and31 (hW.op (by omega)) | exact and31 (by assumption) | exact and31r (hW.ne (by omega)) | exact and31r (hW.gp (by omega)) | exact and31r (by decide)) (fun c_24 => ?_) (fun c_24 => False.elim (by omega))
      refine mm_aload d_M_feast_29 rfl ?_
      refine mm_ciN 0 d_M_feast_30 rfl ?_
      refine mm_ciN 0 d_M_feast_31 rfl ?_
      refine mm_v2i d_M_feast_32 (sk_o_71 hM) (sp_M_feastOf (ou := ou0) hH (fun c _ => bt8_0 c) (by decide) (fun ν f hH2 e35 => ?_))
      refine mm_ist3 d_M_feast_35 ?_
      refine mm_iload d_M_feast_36 rfl ?_
      refine mm_ci d_M_feast_37 ?_
      refine mm_icmp_neS d_M_feast_38 ?_
      refine mm_iload d_M_feast_41 rfl ?_
      refine mm_goto d_M_feast_42 ?_
      exact mm_ri d_M_feast_54 ⟨rfl, ((Fr.rf.sI rfl).trans g1).trans f⟩
  · rcases atF_or (c := dn D) (by omega) y2 with hz | ⟨j, hj, rfl⟩
    · refine pairQ (-1) hJ (d := 12) (d' := 12) (by decide) (by decide) ?_ (fun μ1 hf => ?_)
      · show mm_T X 12 0 0 k_G_feast 0 [some (.ref 0), some (.int (nI i)), some (.int y2)] [] μ _
        refine mm_aload d_G_feast_0 rfl ?_
        refine mm_aload d_G_feast_1 rfl ?_
        refine mm_getP d_G_feast_2 rfl (sk_o_0 hM) (sk_p_0_0 hM) ?_
        refine mm_iload d_G_feast_5 rfl ?_
        refine mm_v1r d_G_feast_6 (sk_o_1 hM) (sp_To_coastAtI hM h0 h02 hi ?_)
        refine mm_iload d_G_feast_9 rfl ?_
        refine mm_ciN 0 d_G_feast_10 rfl ?_
        refine mm_v3i d_G_feast_11 (sk_o_0 hM) (sp_G_bestRowN hCD hy hz ?_)
        exact mm_ri d_G_feast_14 ⟨rfl, Fr.rf, hw⟩
      · show mm_T X 12 0 0 k_M_feast 0 [some (.ref 71), some (.int (nI i)), some (.int y2), none] [] μ1 _
        replace hM := hf.2.2.2 hM
        replace m0 : mm_I μ1 76 0 = nI c := by rw [(hf.2.2.1 76 rfl).1]; exact m0
        replace hDM := hDM.frC hf
        refine mm_aload d_M_feast_0 rfl ?_
        refine mm_ciN 0 d_M_feast_1 rfl ?_
        refine mm_putI d_M_feast_2 rfl (sk_o_71 hM) (Or.inl rfl) ?_
        refine mm_aload d_M_feast_5 rfl ?_
        refine mm_iload d_M_feast_6 rfl ?_
        refine mm_v1i d_M_feast_7 (sk_o_71 hM) (sp_M_handN hM (by first | exact m0 | (rw [mm_sI_off (by decide)]; exact m0)) h02 hi (by first | exact hDM | exact hDM.eq (mm_sI_off (by decide))) hW (fun μ2 g1 hH hZ => ?_))
        replace hM := hH.1
        refine mm_if_eqN d_M_feast_10 (by first | omega | exact ite01_lt | exact bt8_lt31 _ _ | exact godB_lt31 _ _ _ | exact pop_lt31 _ | assumption | exact b31 (hW.gp (by omega)) | exact b31 (hW.ne (by omega)) | exact b31 (hW.op (by omega)) | exact and31 (hW.gp (by omega)) | exact and31 (hW.ne (by omega)) | exact and31 (hW.op (by omega)) | exact and31 (by assumption) | exact and31r (hW.ne (by omega)) | exact and31r (hW.gp (by omega)) | exact and31r (by decide)) (fun c_10 => False.elim (by omega)) (fun c_10 => ?_)
        refine mm_iload d_M_feast_13 rfl ?_
        refine mm_ci d_M_feast_14 ?_
        refine mm_aload d_M_feast_15 rfl ?_
        refine mm_getIN d_M_feast_16 rfl (sk_o_71 hM) hH.n ?_
        refine mm_ciN 1 d_M_feast_19 rfl ?_
        refine mm_isub d_M_feast_20 ?_
        refine mm_s3i d_M_feast_21 (sp_M_in ?_)
        rw [inC_n hn6 hy hz]
        refine mm_if_neN d_M_feast_24 (by first | omega | exact ite01_lt | exact bt8_lt31 _ _ | exact godB_lt31 _ _ _ | exact pop_lt31 _ | assumption | exact b31 (hW.gp (by omega)) | exact b31 (hW.ne (by omega)) | exact b31 (hW.op (by omega)) | exact and31 (hW.gp (by omega)) | exact and31 (hW.ne (by omega)) | exact and31 (hW.op (by omega)) | exact and31 (by assumption) | exact and31r (hW.ne (by omega)) | exact and31r (hW.gp (by omega)) | exact and31r (by decide)) (fun c_24 => False.elim (by omega)) (fun c_24 => ?_)
        refine mm_ci d_M_feast_27 ?_
        exact mm_ri d_M_feast_28 ⟨rfl, (Fr.rf.sI rfl).trans g1⟩
    · obtain ⟨s, hs4, es⟩ := rR_some (D := D) (nI 0) ou0
      have h46 : 4 ^ dn D ≤ 4096 := Nat.pow_le_pow_right (n := 4) (by decide) hn6
      refine pairQ (nI (whN D s j)) hJ (d := 12) (d' := 12) (by decide) (by decide) ?_ (fun μ1 hf => ?_)
      · show mm_T X 12 0 0 k_G_feast 0 [some (.ref 0), some (.int (nI i)), some (.int (nI j))] [] μ _
        refine mm_aload d_G_feast_0 rfl ?_
        refine mm_aload d_G_feast_1 rfl ?_
        refine mm_getP d_G_feast_2 rfl (sk_o_0 hM) (sk_p_0_0 hM) ?_
        refine mm_iload d_G_feast_5 rfl ?_
        refine mm_v1r d_G_feast_6 (sk_o_1 hM) (sp_To_coastAtI hM h0 h02 hi ?_)
        refine mm_iload d_G_feast_9 rfl ?_
        refine mm_ciN 0 d_G_feast_10 rfl ?_
        refine mm_v3i d_G_feast_11 (sk_o_0 hM) (sp_G_bestRow hM hi2 hCD hW w2 (by omega) w3 (Or.inr ⟨j, s, hj, rfl, es, rfl⟩) (fun ν f e5 hs => ?_))
        exact mm_ri d_G_feast_14 ⟨rfl, f, Wk.of (by omega) e5 hs⟩
      · show mm_T X 12 0 0 k_M_feast 0 [some (.ref 71), some (.int (nI i)), some (.int (nI j)), none] [] μ1 _
        replace hM := hf.2.2.2 hM
        replace m0 : mm_I μ1 76 0 = nI c := by rw [(hf.2.2.1 76 rfl).1]; exact m0
        replace hDM := hDM.frC hf
        refine mm_aload d_M_feast_0 rfl ?_
        refine mm_ciN 0 d_M_feast_1 rfl ?_
        refine mm_putI d_M_feast_2 rfl (sk_o_71 hM) (Or.inl rfl) ?_
        refine mm_aload d_M_feast_5 rfl ?_
        refine mm_iload d_M_feast_6 rfl ?_
        refine mm_v1i d_M_feast_7 (sk_o_71 hM) (sp_M_handN hM (by first | exact m0 | (rw [mm_sI_off (by decide)]; exact m0)) h02 hi (by first | exact hDM | exact hDM.eq (mm_sI_off (by decide))) hW (fun μ2 g1 hH hZ => ?_))
        replace hM := hH.1
        refine mm_if_eqN d_M_feast_10 (by first | omega | exact ite01_lt | exact bt8_lt31 _ _ | exact godB_lt31 _ _ _ | exact pop_lt31 _ | assumption | exact b31 (hW.gp (by omega)) | exact b31 (hW.ne (by omega)) | exact b31 (hW.op (by omega)) | exact and31 (hW.gp (by omega)) | exact and31 (hW.ne (by omega)) | exact and31 (hW.op (by omega)) | exact and31 (by assumption) | exact and31r (hW.ne (by omega)) | exact and31r (hW.gp (by omega)) | exact and31r (by decide)) (fun c_10 => False.elim (by omega)) (fun c_10 => ?_)
        refine mm_iload d_M_feast_13 rfl ?_
        refine mm_ci d_M_feast_14 ?_
        refine mm_aload d_M_feast_15 rfl ?_
        refine mm_getIN d_M_feast_16 rfl (sk_o_71 hM) hH.n ?_
        refine mm_ciN 1 d_M_feast_19 rfl ?_
        refine mm_isub d_M_feast_20 ?_
        refine mm_s3i d_M_feast_21 (sp_M_in ?_)
        rw [inC_i (dn D) hn6 j hj]
        refine mm_if_neN d_M_feast_24 (by first | omega | exact ite01_lt | exact bt8_lt31 _ _ | exact godB_lt31 _ _ _ | exact pop_lt31 _ | assumption | exact b31 (hW.gp (by omega)) | exact b31 (hW.ne (by omega)) | exact b31 (hW.op (by omega)) | exact and31 (hW.gp (by omega)) | exact and31 (hW.ne (by omega)) | exact and31 (hW.op (by omega)) | exact and31 (by assumption) | exact and31r (hW.ne (by omega)) | exact and31r (hW.gp (by omega)) | exact and31r (by decide)) (fun c_24 => ?_) (fun c_24 => False.elim (by omega))
        refine mm_aload d_M_feast_29 rfl ?_
        refine mm_ciN 0 d_M_feast_30 rfl ?_
        refine mm_ciN 0 d_M_feast_31 rfl ?_
        refine mm_v2i d_M_feast_32 (sk_o_71 hM) (sp_M_feastOf (ou := ou0) hH (fun c _ => bt8_0 c) (by decide) (fun ν f hH2 e35 => ?_))
        rw [show (fo (FF D (gN D (nI 0)) ou0 (dn D) 0) 0 (4 ^ dn D)).2 = some s from es] at e35
        have hM := hH2.1
        refine mm_ist3 d_M_feast_35 ?_
        refine mm_iload d_M_feast_36 rfl ?_
        refine mm_ci d_M_feast_37 ?_
        refine mm_icmp_neM1 d_M_feast_38 (by first | omega | exact ite01_lt | exact bt8_lt31 _ _ | exact godB_lt31 _ _ _ | exact pop_lt31 _ | assumption | exact b31 (hW.gp (by omega)) | exact b31 (hW.ne (by omega)) | exact b31 (hW.op (by omega)) | exact and31 (hW.gp (by omega)) | exact and31 (hW.ne (by omega)) | exact and31 (hW.op (by omega)) | exact and31 (by assumption) | exact and31r (hW.ne (by omega)) | exact and31r (hW.gp (by omega)) | exact and31r (by decide)) ?_
        refine mm_aload d_M_feast_45 rfl ?_
        refine mm_aload d_M_feast_46 rfl ?_
        refine mm_getIN d_M_feast_47 rfl (sk_o_71 hM) (show _ = nI s from e35) ?_
        refine mm_iload d_M_feast_50 rfl ?_
        refine mm_v2i d_M_feast_51 (sk_o_71 hM) (sp_M_whom hH2 hj (by omega) ?_)
        exact mm_ri d_M_feast_54 ⟨rfl, ((Fr.rf.sI rfl).trans g1).trans f⟩
theorem pair_busy {X : mm_X} {k : Nat} {μ : mm_M} (hk : k ≤ 511) (hJ : JJ k μ) (y1 y2 : Int32) : PairI X (JJ (k + 1)) k_G_busy k_M_busy [.int y1, .int y2] μ := by
  obtain ⟨c, h02, h0, m0, hv⟩ := hJ.coast y1
  have hM := hJ.1
  have hw := hJ.2.2.2.up
  rcases hv with hx | ⟨i, D, hi, rfl, hW, hCD, hDM⟩
  · exact pairQ (-1) hJ (d := 2) (d' := 4) (by decide) (by decide) (n_G_busy hM h0 h02 hx ⟨rfl, Fr.rf, hw⟩) (fun μ1 hf => n_M_busy (hf.2.2.2 hM) (by rw [(hf.2.2.1 76 rfl).1]; exact m0) h02 hx (fun μ' hk => ⟨rfl, hk.fr (hf.2.2.2 hM)⟩))
  have hn6 := hW.1
  have hw6 := hW.2.1
  obtain ⟨w, w1, w2, w3⟩ := hJ.2.2.2
  have hi2 : i < 2 := by omega
  by_cases hy : y2 = -1
  · subst hy
    refine pairQ (bI (rR D (nI 1) ou0).1) hJ (d := 12) (d' := 12) (by decide) (by decide) ?_ (fun μ1 hf => ?_)
    · show mm_T X 12 0 0 k_G_busy 0 [some (.ref 0), some (.int (nI i)), some (.int (-1))] [] μ _
      refine mm_aload d_G_busy_0 rfl ?_
      refine mm_aload d_G_busy_1 rfl ?_
      refine mm_getP d_G_busy_2 rfl (sk_o_0 hM) (sk_p_0_0 hM) ?_
      refine mm_iload d_G_busy_5 rfl ?_
      refine mm_v1r d_G_busy_6 (sk_o_1 hM) (sp_To_coastAtI hM h0 h02 hi ?_)
      refine mm_iload d_G_busy_9 rfl ?_
      refine mm_ciN 1 d_G_busy_10 rfl ?_
      refine mm_v3i d_G_busy_11 (sk_o_0 hM) (sp_G_bestRow hM hi2 hCD hW w2 (by omega) w3 (Or.inl ⟨rfl, rfl⟩) (fun ν f e5 hs => ?_))
      exact mm_ri d_G_busy_14 ⟨rfl, f, Wk.of (by omega) e5 hs⟩
    · show mm_T X 12 0 0 k_M_busy 0 [some (.ref 71), some (.int (nI i)), some (.int (-1)), none] [] μ1 _
      replace hM := hf.2.2.2 hM
      replace m0 : mm_I μ1 76 0 = nI c := by rw [(hf.2.2.1 76 rfl).1]; exact m0
      replace hDM := hDM.frC hf
      refine mm_aload d_M_busy_0 rfl ?_
      refine mm_ciN 0 d_M_busy_1 rfl ?_
      refine mm_putI d_M_busy_2 rfl (sk_o_71 hM) (Or.inl rfl) ?_
      refine mm_aload d_M_busy_5 rfl ?_
      refine mm_iload d_M_busy_6 rfl ?_
      refine mm_v1i d_M_busy_7 (sk_o_71 hM) (sp_M_handN hM (by first | exact m0 | (rw [mm_sI_off (by decide)]; exact m0)) h02 hi (by first | exact hDM | exact hDM.eq (mm_sI_off (by decide))) hW (fun μ2 g1 hH hZ => ?_))
      replace hM := hH.1
      refine mm_if_eqN d_M_busy_10 (by first | omega | exact ite01_lt | exact bt8_lt31 _ _ | exact godB_lt31 _ _ _ | exact pop_lt31 _ | assumption | exact b31 (hW.gp (by omega)) | exact b31 (hW.ne (by omega)) | exact b31 (hW.op (by omega)) | exact and31 (hW.gp (by omega)) | exact and31 (hW.ne (by omega)) | exact and31 (hW.op (by omega)) | exact and31 (by assumption) | exact and31r (hW.ne (by omega)) | exact and31r (hW.gp (by omega)) | exact and31r (by decide)) (fun c_10 => False.elim (by omega)) (fun c_10 => ?_)
      refine mm_iload d_M_busy_13 rfl ?_
      refine mm_ci d_M_busy_14 ?_
      refine mm_aload d_M_busy_15 rfl ?_
      refine mm_getIN d_M_busy_16 rfl (sk_o_71 hM) hH.n ?_
      refine mm_ciN 1 d_M_busy_19 rfl ?_
      refine mm_isub d_M_busy_20 ?_
      refine mm_s3i d_M_busy_21 (sp_M_in ?_)
      rw [inC_m (dn D) hn6]
      refine mm_if_neN d_M_busy_24 (by first | omega | exact ite01_lt | exact bt8_lt31 _ _ | exact godB_lt31 _ _ _ | exact pop_lt31 _ | assumption | exact b31 (hW.gp (by omega)) | exact b31 (hW.ne (by omega)) | exact b31 (hW.op (by omega)) | exact and31 (hW.gp (by omega)) | exact and31 (hW.ne (by omega)) | exact and31 (hW.op (by omega)) | exact and31 (by assumption) | exact and31r (hW.ne (by omega)) | exact and31r (hW.gp (by omega)) | exact and31r (by decide)) (fun c_24 => ?_) (fun c_24 => False.elim (by omega))
      refine mm_aload d_M_busy_29 rfl ?_
      refine mm_ciN 0 d_M_busy_30 rfl ?_
      refine mm_ciN 1 d_M_busy_31 rfl ?_
      refine mm_v2i d_M_busy_32 (sk_o_71 hM) (sp_M_feastOf (ou := ou0) hH (fun c _ => bt8_0 c) (by decide) (fun ν f hH2 e35 => ?_))
      refine mm_ist3 d_M_busy_35 ?_
      refine mm_iload d_M_busy_36 rfl ?_
      refine mm_ci d_M_busy_37 ?_
      refine mm_icmp_neS d_M_busy_38 ?_
      refine mm_iload d_M_busy_41 rfl ?_
      refine mm_goto d_M_busy_42 ?_
      exact mm_ri d_M_busy_54 ⟨rfl, ((Fr.rf.sI rfl).trans g1).trans f⟩
  · rcases atF_or (c := dn D) (by omega) y2 with hz | ⟨j, hj, rfl⟩
    · refine pairQ (-1) hJ (d := 12) (d' := 12) (by decide) (by decide) ?_ (fun μ1 hf => ?_)
      · show mm_T X 12 0 0 k_G_busy 0 [some (.ref 0), some (.int (nI i)), some (.int y2)] [] μ _
        refine mm_aload d_G_busy_0 rfl ?_
        refine mm_aload d_G_busy_1 rfl ?_
        refine mm_getP d_G_busy_2 rfl (sk_o_0 hM) (sk_p_0_0 hM) ?_
        refine mm_iload d_G_busy_5 rfl ?_
        refine mm_v1r d_G_busy_6 (sk_o_1 hM) (sp_To_coastAtI hM h0 h02 hi ?_)
        refine mm_iload d_G_busy_9 rfl ?_
        refine mm_ciN 1 d_G_busy_10 rfl ?_
        refine mm_v3i d_G_busy_11 (sk_o_0 hM) (sp_G_bestRowN hCD hy hz ?_)
        exact mm_ri d_G_busy_14 ⟨rfl, Fr.rf, hw⟩
      · show mm_T X 12 0 0 k_M_busy 0 [some (.ref 71), some (.int (nI i)), some (.int y2), none] [] μ1 _
        replace hM := hf.2.2.2 hM
        replace m0 : mm_I μ1 76 0 = nI c := by rw [(hf.2.2.1 76 rfl).1]; exact m0
        replace hDM := hDM.frC hf
        refine mm_aload d_M_busy_0 rfl ?_
        refine mm_ciN 0 d_M_busy_1 rfl ?_
        refine mm_putI d_M_busy_2 rfl (sk_o_71 hM) (Or.inl rfl) ?_
        refine mm_aload d_M_busy_5 rfl ?_
        refine mm_iload d_M_busy_6 rfl ?_
        refine mm_v1i d_M_busy_7 (sk_o_71 hM) (sp_M_handN hM (by first | exact m0 | (rw [mm_sI_off (by decide)]; exact m0)) h02 hi (by first | exact hDM | exact hDM.eq (mm_sI_off (by decide))) hW (fun μ2 g1 hH hZ => ?_))
        replace hM := hH.1
        refine mm_if_eqN d_M_busy_10 (by first | omega | exact ite01_lt | exact bt8_lt31 _ _ | exact godB_lt31 _ _ _ | exact pop_lt31 _ | assumption | exact b31 (hW.gp (by omega)) | exact b31 (hW.ne (by omega)) | exact b31 (hW.op (by omega)) | exact and31 (hW.gp (by omega)) | exact and31 (hW.ne (by omega)) | exact and31 (hW.op (by omega)) | exact and31 (by assumption) | exact and31r (hW.ne (by omega)) | exact and31r (hW.gp (by omega)) | exact and31r (by decide)) (fun c_10 => False.elim (by omega)) (fun c_10 => ?_)
        refine mm_iload d_M_busy_13 rfl ?_
        refine mm_ci d_M_busy_14 ?_
        refine mm_aload d_M_busy_15 rfl ?_
        refine mm_getIN d_M_busy_16 rfl (sk_o_71 hM) hH.n ?_
        refine mm_ciN 1 d_M_busy_19 rfl ?_
        refine mm_isub d_M_busy_20 ?_
        refine mm_s3i d_M_busy_21 (sp_M_in ?_)
        rw [inC_n hn6 hy hz]
        refine mm_if_neN d_M_busy_24 (by first | omega | exact ite01_lt | exact bt8_lt31 _ _ | exact godB_lt31 _ _ _ | exact pop_lt31 _ | assumption | exact b31 (hW.gp (by omega)) | exact b31 (hW.ne (by omega)) | exact b31 (hW.op (by omega)) | exact and31 (hW.gp (by omega)) | exact and31 (hW.ne (by omega)) | exact and31 (hW.op (by omega)) | exact and31 (by assumption) | exact and31r (hW.ne (by omega)) | exact and31r (hW.gp (by omega)) | exact and31r (by decide)) (fun c_24 => False.elim (by omega)) (fun c_24 => ?_)
        refine mm_ci d_M_busy_27 ?_
        exact mm_ri d_M_busy_28 ⟨rfl, (Fr.rf.sI rfl).trans g1⟩
    · obtain ⟨s, hs4, es⟩ := rR_some (D := D) (nI 1) ou0
      have h46 : 4 ^ dn D ≤ 4096 := Nat.pow_le_pow_right (n := 4) (by decide) hn6
      refine pairQ (nI (whN D s j)) hJ (d := 12) (d' := 12) (by decide) (by decide) ?_ (fun μ1 hf => ?_)
      · show mm_T X 12 0 0 k_G_busy 0 [some (.ref 0), some (.int (nI i)), some (.int (nI j))] [] μ _
        refine mm_aload d_G_busy_0 rfl ?_
        refine mm_aload d_G_busy_1 rfl ?_
        refine mm_getP d_G_busy_2 rfl (sk_o_0 hM) (sk_p_0_0 hM) ?_
        refine mm_iload d_G_busy_5 rfl ?_
        refine mm_v1r d_G_busy_6 (sk_o_1 hM) (sp_To_coastAtI hM h0 h02 hi ?_)
        refine mm_iload d_G_busy_9 rfl ?_
        refine mm_ciN 1 d_G_busy_10 rfl ?_
        refine mm_v3i d_G_busy_11 (sk_o_0 hM) (sp_G_bestRow hM hi2 hCD hW w2 (by omega) w3 (Or.inr ⟨j, s, hj, rfl, es, rfl⟩) (fun ν f e5 hs => ?_))
        exact mm_ri d_G_busy_14 ⟨rfl, f, Wk.of (by omega) e5 hs⟩
      · show mm_T X 12 0 0 k_M_busy 0 [some (.ref 71), some (.int (nI i)), some (.int (nI j)), none] [] μ1 _
        replace hM := hf.2.2.2 hM
        replace m0 : mm_I μ1 76 0 = nI c := by rw [(hf.2.2.1 76 rfl).1]; exact m0
        replace hDM := hDM.frC hf
        refine mm_aload d_M_busy_0 rfl ?_
        refine mm_ciN 0 d_M_busy_1 rfl ?_
        refine mm_putI d_M_busy_2 rfl (sk_o_71 hM) (Or.inl rfl) ?_
        refine mm_aload d_M_busy_5 rfl ?_
        refine mm_iload d_M_busy_6 rfl ?_
        refine mm_v1i d_M_busy_7 (sk_o_71 hM) (sp_M_handN hM (by first | exact m0 | (rw [mm_sI_off (by decide)]; exact m0)) h02 hi (by first | exact hDM | exact hDM.eq (mm_sI_off (by decide))) hW (fun μ2 g1 hH hZ => ?_))
        replace hM := hH.1
        refine mm_if_eqN d_M_busy_10 (by first | omega | exact ite01_lt | exact bt8_lt31 _ _ | exact godB_lt31 _ _ _ | exact pop_lt31 _ | assumption | exact b31 (hW.gp (by omega)) | exact b31 (hW.ne (by omega)) | exact b31 (hW.op (by omega)) | exact and31 (hW.gp (by omega)) | exact and31 (hW.ne (by omega)) | exact and31 (hW.op (by omega)) | exact and31 (by assumption) | exact and31r (hW.ne (by omega)) | exact and31r (hW.gp (by omega)) | exact and31r (by decide)) (fun c_10 => False.elim (by omega)) (fun c_10 => ?_)
        refine mm_iload d_M_busy_13 rfl ?_
        refine mm_ci d_M_busy_14 ?_
        refine mm_aload d_M_busy_15 rfl ?_
        refine mm_getIN d_M_busy_16 rfl (sk_o_71 hM) hH.n ?_
        refine mm_ciN 1 d_M_busy_19 rfl ?_
        refine mm_isub d_M_busy_20 ?_
        refine mm_s3i d_M_busy_21 (sp_M_in ?_)
        rw [inC_i (dn D) hn6 j hj]
        refine mm_if_neN d_M_busy_24 (by first | omega | exact ite01_lt | exact bt8_lt31 _ _ | exact godB_lt31 _ _ _ | exact pop_lt31 _ | assumption | exact b31 (hW.gp (by omega)) | exact b31 (hW.ne (by omega)) | exact b31 (hW.op (by omega)) | exact and31 (hW.gp (by omega)) | exact and31 (hW.ne (by omega)) | exact and31 (hW.op (by omega)) | exact and31 (by assumption) | exact and31r (hW.ne (by omega)) | exact and31r (hW.gp (by omega)) | exact and31r (by decide)) (fun c_24 => ?_) (fun c_24 => False.elim (by omega))
        refine mm_aload d_M_busy_29 rfl ?_
        refine mm_ciN 0 d_M_busy_30 rfl ?_
        refine mm_ciN 1 d_M_busy_31 rfl ?_
        refine mm_v2i d_M_busy_32 (sk_o_71 hM) (sp_M_feastOf (ou := ou0) hH (fun c _ => bt8_0 c) (by decide) (fun ν f hH2 e35 => ?_))
        rw [show (fo (FF D (gN D (nI 1)) ou0 (dn D) 0) 0 (4 ^ dn D)).2 = some s from es] at e35
        have hM := hH2.1
        refine mm_ist3 d_M_busy_35 ?_
        refine mm_iload d_M_busy_36 rfl ?_
        refine mm_ci d_M_busy_37 ?_
        refine mm_icmp_neM1 d_M_busy_38 (by first | omega | exact ite01_lt | exact bt8_lt31 _ _ | exact godB_lt31 _ _ _ | exact pop_lt31 _ | assumption | exact b31 (hW.gp (by omega)) | exact b31 (hW.ne (by omega)) | exact b31 (hW.op (by omega)) | exact and31 (hW.gp (by omega)) | exact and31 (hW.ne (by omega)) | exact and31 (hW.op (by omega)) | exact and31 (by assumption) | exact and31r (hW.ne (by omega)) | exact and31r (hW.gp (by omega)) | exact and31r (by decide)) ?_
        refine mm_aload d_M_busy_45 rfl ?_
        refine mm_aload d_M_busy_46 rfl ?_
        refine mm_getIN d_M_busy_47 rfl (sk_o_71 hM) (show _ = nI s from e35) ?_
        refine mm_iload d_M_busy_50 rfl ?_
        refine mm_v2i d_M_busy_51 (sk_o_71 hM) (sp_M_whom hH2 hj (by omega) ?_)
        exact mm_ri d_M_busy_54 ⟨rfl, ((Fr.rf.sI rfl).trans g1).trans f⟩
