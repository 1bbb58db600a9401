/-! the pair ladder -/
theorem rivK_1 {D : mm_D} {a : Nat} : ∀ k, a < k → pop (dop D a) ≤ rivK D k
  | 0, h => absurd h (Nat.not_lt_zero a)
  | k + 1, h => by
    show _ ≤ rivK D k + pop (dop D k)
    by_cases e : a = k
    · rw [e]; omega
    · have := rivK_1 (D := D) (a := a) k (by omega); omega
theorem rivK_2 {D : mm_D} {a b : Nat} (hab : a < b) : ∀ k, b < k → pop (dop D a) + pop (dop D b) ≤ rivK D k
  | 0, h => absurd h (Nat.not_lt_zero b)
  | k + 1, h => by
    show _ ≤ rivK D k + pop (dop D k)
    by_cases e : b = k
    · have := rivK_1 (D := D) (a := a) k (by omega)
      rw [e]; omega
    · have := rivK_2 (D := D) hab k (by omega); omega
theorem rivK_z {D : mm_D} (h : ∀ w, w < 8 → dop D w = 0) : ∀ k, k ≤ 8 → rivK D k = 0
  | 0, _ => rfl
  | k + 1, hk => by
    show rivK D k + pop (dop D k) = 0
    rw [rivK_z h k (by omega), h k (by omega)]
    decide
theorem op_bit {D : mm_D} (hW : WfD D) {a : Nat} (ha : a < 8) (h : dop D a ≠ 0) : ∃ b, b < 8 ∧ bt8 (dop D a) b ≠ 0 := by
  refine Decidable.byContradiction fun y => h ?_
  refine (pop_z _ (hW.op ha)).mp (pop_0 fun w hw => ?_)
  exact Decidable.byContradiction fun z => y ⟨w, hw, z⟩
theorem riv_ne {D : mm_D} (hW : WfD D) {a : Nat} (ha : a < 8) (h : dop D a ≠ 0) : rivK D 8 / 2 ≠ 0 := by
  obtain ⟨b, hb, hbit⟩ := op_bit hW ha h
  have hs := hW.2.2.2.2.2 a b ha hb
  have hne : a ≠ b := fun e => by rw [← e] at hbit; exact hbit hs.2
  have hd : dop D b ≠ 0 := dop_nz (w := a) (by rw [← hs.1]; exact hbit)
  have p1 : pop (dop D a) ≠ 0 := fun e => h ((pop_z _ (hW.op ha)).mp e)
  have p2 : pop (dop D b) ≠ 0 := fun e => hd ((pop_z _ (hW.op hb)).mp e)
  rcases Nat.lt_or_gt_of_ne hne with y | y
  · have := rivK_2 (D := D) y 8 hb; omega
  · have := rivK_2 (D := D) y 8 ha; omega
theorem Lg_next {D : mm_D} {a h : Nat} (hh : h < 256) (h0 : 0 < Lg D a h) : fw D a h < 8 ∧ bt8 h (fw D a h) = 0 ∧ rb D (Lg D) h a (fw D a h) = Lg D a h ∧ Lg D (fw D a h) (h ||| 2 ^ fw D a h) + 1 = Lg D a h ∧ ∀ w, w < fw D a h → rb D (Lg D) h a w < Lg D a h := by
  have er := Lg_rec (D := D) (a := a) hh
  rcases fo_o (f := rb D (Lg D) h a) (b := 0) 8 with ⟨-, y⟩ | ⟨s, s1, s2, s3, s4⟩
  · rw [er, y] at h0; exact absurd h0 (Nat.lt_irrefl 0)
  · have ef : fw D a h = s := by unfold fw; rw [s2]; rfl
    obtain ⟨-, c2, -, c4⟩ := fo_first 8 s s2
    rw [ef, er, ← c2]
    have hc : bt8 h s = 0 ∧ (a = 8 ∨ bt8 (dop D a) s ≠ 0) := Decidable.byContradiction fun y => by
      have : rb D (Lg D) h a s = 0 := if_neg y
      omega
    have e2 : rb D (Lg D) h a s = 1 + Lg D s (h ||| 2 ^ s) := if_pos hc
    exact ⟨s1, hc.1, rfl, by omega, fun w hw => c4 w hw⟩
theorem it_ok {D : mm_D} : ∀ i, i ≤ Lg D 8 0 → (itA D 8 0 i).2 < 256 ∧ (itA D 8 0 i).1 ≤ 8 ∧ Lg D (itA D 8 0 i).1 (itA D 8 0 i).2 + i = Lg D 8 0
  | 0, _ => ⟨show (0 : Nat) < 256 by decide, Nat.le_refl 8, Nat.add_zero (Lg D 8 0)⟩
  | i + 1, h => by
    obtain ⟨a1, a2, a3⟩ := it_ok (D := D) i (by omega)
    obtain ⟨b1, b2, b3, b4, -⟩ := Lg_next a1 (show 0 < Lg D (itA D 8 0 i).1 (itA D 8 0 i).2 by omega)
    refine ⟨or_set a1 b1, Nat.le_of_lt b1, ?_⟩
    show Lg D (fw D (itA D 8 0 i).1 (itA D 8 0 i).2) ((itA D 8 0 i).2 ||| 2 ^ fw D (itA D 8 0 i).1 (itA D 8 0 i).2) + (i + 1) = _
    omega
theorem rb8 {D : mm_D} {w : Nat} : rb D (Lg D) 0 8 w = 1 + Lg D w (2 ^ w) := by
  unfold rb
  rw [if_pos ⟨bt8_0 w, Or.inl rfl⟩, Nat.zero_or]
theorem Lg_nz {D : mm_D} {w : Nat} (hw : w < 8) (h : dop D w = 0) : Lg D w (2 ^ w) = 0 := by
  rw [Lg_rec (p256 hw), fo_id (f := rb D (Lg D) (2 ^ w) w) 8 (fun s hs => by unfold rb; rw [h, if_neg (fun y => y.2.elim (fun z => absurd z (by omega)) (fun z => z (bt8_0 s)))]; exact Nat.le_refl 0)]
theorem gF_eq {D : mm_D} (hW : WfD D) {a : Nat} (ha : a < 8) (h : dop D a ≠ 0) : gF D 8 = (Lg D 8 0, some (fw D 8 0)) := by
  obtain ⟨b, hb, hbit⟩ := op_bit hW ha h
  have hne : b ≠ a := fun e => by rw [e] at hbit; exact hbit (hW.2.2.2.2.2 a a ha ha).2
  have h1 : 1 ≤ Lg D a (2 ^ a) := by
    rw [Lg_rec (p256 ha)]
    have e : rb D (Lg D) (2 ^ a) a b = 1 + Lg D b (2 ^ a ||| 2 ^ b) := if_pos ⟨by rw [bt8_one, if_neg hne], Or.inr hbit⟩
    have := fo_all (f := rb D (Lg D) (2 ^ a) a) (b := 0) 8 b hb
    omega
  have h8 := Lg_rec (D := D) (a := 8) (h := 0) (by decide)
  have h2 : 2 ≤ Lg D 8 0 := by
    rw [h8]
    have := fo_all (f := rb D (Lg D) 0 8) (b := 0) 8 a ha
    rw [rb8] at this
    omega
  obtain ⟨b1, b2, b3, b4, b5⟩ := Lg_next (D := D) (a := 8) (h := 0) (by decide) (by omega)
  have le : ∀ w, w < 8 → gL D w ≤ rb D (Lg D) 0 8 w := by
    intro w hw
    rw [rb8]
    unfold gL
    split <;> omega
  refine fo_uniq (by omega) b1 ?_ (fun s' hs => ?_) (fun s' hs => Nat.lt_of_le_of_lt (le s' (by omega)) (b5 s' hs))
  · have hd : dop D (fw D 8 0) ≠ 0 := fun y => by
      rw [rb8, Lg_nz b1 y] at b3
      omega
    unfold gL
    rw [if_neg hd, ← b3, rb8]
  · refine Nat.le_trans (le s' hs) ?_
    rw [h8]
    exact fo_all 8 s' hs
theorem gF_z {D : mm_D} (h : ∀ w, w < 8 → dop D w = 0) : gF D 8 = (0, none) := fo_id 8 (fun s hs => by unfold gL; rw [if_pos (h s hs)]; exact Nat.le_refl 0)
theorem inE_i : ∀ n, n ≤ 8 → ∀ j, j < n → inG (nI j) (nI 0) (nI n - nI 1) = nI 1 := by decide +kernel
theorem inE_n {n : Nat} (hn : n ≤ 8) {y : Int32} (hz : atF n y = none) : inG y (nI 0) (nI n - nI 1) = nI 0 := by
  unfold inG
  by_cases a : y < nI 0
  · rw [if_pos a]; rfl
  · rcases atF_or2 hz with b | b
    · exact absurd b a
    · have h2 : nI n - nI 1 < y := by
        cases n with
        | zero =>
          have e : nI 0 - nI 1 = -1 := by decide
          rw [e]
          exact Int32.lt_of_lt_of_le (by decide) (Int32.not_lt.mp a)
        | succ n => rw [pk_sub (by omega)]; exact Int32.lt_of_lt_of_le (nI_lt (by omega) (by omega)) b
      rw [if_neg a, if_pos h2]; rfl
theorem pair_ladder {X : mm_X} {k : Nat} {μ : mm_M} (hJ : JJ k μ) (y1 y2 : Int32) : PairI X (JJ (k + 1)) k_G_ladder k_M_ladder [.int y1, .int y2] μ := by
  obtain ⟨c, h02, h0, m0, hv⟩ := hJ.coast y1
  have hM := hJ.1
  have hw := hJ.2.2.2.up
  rcases hv with hx | ⟨i, D, hi, rfl, hW, hCD, hDM⟩
  · exact pairQ (-1) hJ (d := 2) (d' := 4) (by decide) (by decide) (n_G_ladder hM h0 h02 hx ⟨rfl, Fr.rf, hw⟩) (fun μ1 hf => n_M_ladder (hf.2.2.2 hM) (by rw [(hf.2.2.1 76 rfl).1]; exact m0) h02 hx (fun μ' hk => ⟨rfl, hk.fr (hf.2.2.2 hM)⟩))
  have hn6 := hW.1
  have hw6 := hW.2.1
  have hi2 : i < 2 := by omega
  have hn8 := gF_le (D := D) 8 (Nat.le_refl _)
  have gfF : ∀ {μ1 μ2 ν : mm_M}, Fr scM (mm_sI μ1 71 0 (nI 0)) μ2 → TG D i μ2 0 ν → Fr scM μ1 ν := fun g1 hT => ((Fr.rf.sI rfl).trans g1).trans hT.1
  have both : (∀ w, w < 8 → dop D w = 0) ∨ ∃ a, a < 8 ∧ dop D a ≠ 0 := by
    by_cases y : ∃ a, a < 8 ∧ dop D a ≠ 0
    · exact Or.inr y
    · exact Or.inl fun w hw => Decidable.byContradiction fun z => y ⟨w, hw, z⟩
  have hrv : (rivK D 8 / 2 = 0 ∧ (gF D 8).1 = 0) ∨ (rivK D 8 / 2 ≠ 0 ∧ (gF D 8).1 = Lg D 8 0 ∧ (gF D 8).2.getD 0 = fw D 8 0) := by
    rcases both with z | ⟨a, ha, z⟩
    · exact Or.inl ⟨by rw [rivK_z z 8 (Nat.le_refl _)], by rw [gF_z z]⟩
    · exact Or.inr ⟨riv_ne hW ha z, by rw [gF_eq hW ha z], by rw [gF_eq hW ha z]; rfl⟩
  have hrl := rivK_le D 8
  have head : ∀ {μ1 ν : mm_M} (Q : Option Value → mm_M → Prop), TG D i μ1 0 ν → (mm_T X 12 0 0 k_M_ladder 38 [some (.ref 71), some (.int (nI i)), some (.int y2), none, none, none, none, none] [.int (nI (gF D 8).1)] ν Q) → mm_T X 12 0 0 k_M_ladder 19 [some (.ref 71), some (.int (nI i)), some (.int y2), none, none, none, none, none] [] ν Q := by
    intro μ1 ν Q hT go
    have hH := hT.2.1
    have hM := hH.1
    rcases hrv with ⟨r1, r2⟩ | ⟨r1, r2, r3⟩
    · rw [r2] at go
      refine mm_aload d_M_ladder_19 rfl ?_
      refine mm_v0i d_M_ladder_20 (sk_o_71 hM) (sp_M_rivals hH ?_)
      refine mm_if_neN d_M_ladder_23 (by first | omega | exact ite01_lt | exact bt8_lt31 _ _ | exact godB_lt31 _ _ _ | exact pop_lt31 _ | assumption | exact b31 (hW.gp (by omega)) | exact b31 (hW.ne (by omega)) | exact b31 (hW.op (by omega)) | exact and31 (hW.gp (by omega)) | exact and31 (hW.ne (by omega)) | exact and31 (hW.op (by omega)) | exact and31 (by assumption) | exact and31r (hW.ne (by omega)) | exact and31r (hW.gp (by omega)) | exact and31r (by decide)) (fun c_23 => False.elim (by omega)) (fun c_23 => ?_)
      refine mm_ciN 0 d_M_ladder_26 rfl ?_
      refine mm_goto d_M_ladder_27 ?_
      exact go
    · rw [r2] at go
      refine mm_aload d_M_ladder_19 rfl ?_
      refine mm_v0i d_M_ladder_20 (sk_o_71 hM) (sp_M_rivals hH ?_)
      refine mm_if_neN d_M_ladder_23 (by first | omega | exact ite01_lt | exact bt8_lt31 _ _ | exact godB_lt31 _ _ _ | exact pop_lt31 _ | assumption | exact b31 (hW.gp (by omega)) | exact b31 (hW.ne (by omega)) | exact b31 (hW.op (by omega)) | exact and31 (hW.gp (by omega)) | exact and31 (hW.ne (by omega)) | exact and31 (hW.op (by omega)) | exact and31 (by assumption) | exact and31r (hW.ne (by omega)) | exact and31r (hW.gp (by omega)) | exact and31r (by decide)) (fun c_23 => ?_) (fun c_23 => False.elim (by omega))
      refine mm_aload d_M_ladder_30 rfl ?_
      refine mm_getP d_M_ladder_31 rfl (sk_o_71 hM) (sk_p_71_46 hM) ?_
      refine mm_ciN 2048 d_M_ladder_34 rfl ?_
      refine mm_ialdN d_M_ladder_37 (sk_a_90 hM) (by omega) (by decide) (show _ = nI (Lg D 8 0) from hT.2.2 8 0 (Nat.le_refl _) (Nat.zero_le _) (by decide)) ?_
      exact go
  by_cases hy : y2 = -1
  · subst hy
    refine pairQ (nI (gF D 8).1) hJ (d := 12) (d' := 12) (by decide) (by decide) ?_ (fun μ1 hf => ?_)
    · show mm_T X 12 0 0 k_G_ladder 0 [some (.ref 0), some (.int (nI i)), some (.int (-1)), none, none] [] μ _
      refine mm_aload d_G_ladder_0 rfl ?_
      refine mm_getP d_G_ladder_1 rfl (sk_o_0 hM) (sk_p_0_0 hM) ?_
      refine mm_iload d_G_ladder_4 rfl ?_
      refine mm_v1r d_G_ladder_5 (sk_o_1 hM) (sp_To_coastAtI hM h0 h02 hi ?_)
      refine mm_ast3 d_G_ladder_8 ?_
      refine mm_aload d_G_ladder_9 rfl ?_
      refine mm_ifnull d_G_ladder_10 ?_
      refine mm_iload d_G_ladder_13 rfl ?_
      refine mm_ci d_G_ladder_14 ?_
      refine mm_icmp_lt d_G_ladder_15 (fun c_15 => False.elim (absurd c_15 (by decide))) (fun c_15 => ?_)
      refine mm_iload d_G_ladder_18 rfl ?_
      refine mm_ciN 8 d_G_ladder_19 rfl ?_
      refine mm_icmp_lt d_G_ladder_21 (fun c_21 => ?_) (fun c_21 => False.elim (c_21 (by decide)))
      refine mm_aload d_G_ladder_26 rfl ?_
      refine mm_getP d_G_ladder_27 rfl (sk_o_0 hM) (sk_p_0_6 hM) ?_
      refine mm_aload d_G_ladder_30 rfl ?_
      refine mm_v1i d_G_ladder_31 (sk_o_67 hM) (sp_Sk_longestLadder hM hi2 hCD hW (fun ν f e68 => ?_))
      refine mm_ist4 d_G_ladder_34 ?_
      refine mm_iload d_G_ladder_36 rfl ?_
      refine mm_ci d_G_ladder_37 ?_
      refine mm_icmp_ne d_G_ladder_38 (fun c_38 => False.elim (c_38 rfl)) (fun c_38 => ?_)
      refine mm_iload d_G_ladder_41 rfl ?_
      exact mm_ri d_G_ladder_43 ⟨rfl, f.sub scL_C, hw.fr f rfl rfl⟩
    · show mm_T X 12 0 0 k_M_ladder 0 [some (.ref 71), some (.int (nI i)), some (.int (-1)), none, none, none, none, none] [] μ1 _
      replace hM := hf.2.2.2 hM
      replace m0 : mm_I μ1 76 0 = nI c := by rw [(hf.2.2.1 76 rfl).1]; exact m0
      replace hDM := hDM.frC hf
      refine mm_aload d_M_ladder_0 rfl ?_
      refine mm_ciN 0 d_M_ladder_1 rfl ?_
      refine mm_putI d_M_ladder_2 rfl (sk_o_71 hM) (Or.inl rfl) ?_
      refine mm_aload d_M_ladder_5 rfl ?_
      refine mm_iload d_M_ladder_6 rfl ?_
      refine mm_v1i d_M_ladder_7 (sk_o_71 hM) (sp_M_handN hM (by first | exact m0 | (rw [mm_sI_off (by decide)]; exact m0)) h02 hi (by first | exact hDM | exact hDM.eq (mm_sI_off (by decide))) hW (fun μ2 g1 hH hZ => ?_))
      replace hM := hH.1
      refine mm_if_neN d_M_ladder_10 (by first | omega | exact ite01_lt | exact bt8_lt31 _ _ | exact godB_lt31 _ _ _ | exact pop_lt31 _ | assumption | exact b31 (hW.gp (by omega)) | exact b31 (hW.ne (by omega)) | exact b31 (hW.op (by omega)) | exact and31 (hW.gp (by omega)) | exact and31 (hW.ne (by omega)) | exact and31 (hW.op (by omega)) | exact and31 (by assumption) | exact and31r (hW.ne (by omega)) | exact and31r (hW.gp (by omega)) | exact and31r (by decide)) (fun c_10 => ?_) (fun c_10 => False.elim (by omega))
      refine mm_aload d_M_ladder_15 rfl ?_
      refine mm_v0v d_M_ladder_16 (sk_o_71 hM) (sp_M_findRungs hH (fun ν hT => ?_))
      refine head _ hT ?_
      have hM := hT.2.1.1
      refine mm_ist3 d_M_ladder_38 ?_
      refine mm_iload d_M_ladder_39 rfl ?_
      refine mm_ci d_M_ladder_40 ?_
      refine mm_icmp_eqS d_M_ladder_41 ?_
      refine mm_iload d_M_ladder_55 rfl ?_
      refine mm_ci d_M_ladder_56 ?_
      refine mm_icmp_neS d_M_ladder_57 ?_
      refine mm_iload d_M_ladder_60 rfl ?_
      refine mm_goto d_M_ladder_61 ?_
      exact mm_ri d_M_ladder_65 ⟨rfl, gfF g1 hT⟩
  · rcases atF_or (c := (gF D 8).1) (by omega) y2 with hz | ⟨j, hj, rfl⟩
    · have hz2 := atF_or2 hz
      refine pairQ (-1) hJ (d := 12) (d' := 12) (by decide) (by decide) ?_ (fun μ1 hf => ?_)
      · show mm_T X 12 0 0 k_G_ladder 0 [some (.ref 0), some (.int (nI i)), some (.int y2), none, none] [] μ _
        refine mm_aload d_G_ladder_0 rfl ?_
        refine mm_getP d_G_ladder_1 rfl (sk_o_0 hM) (sk_p_0_0 hM) ?_
        refine mm_iload d_G_ladder_4 rfl ?_
        refine mm_v1r d_G_ladder_5 (sk_o_1 hM) (sp_To_coastAtI hM h0 h02 hi ?_)
        refine mm_ast3 d_G_ladder_8 ?_
        refine mm_aload d_G_ladder_9 rfl ?_
        refine mm_ifnull d_G_ladder_10 ?_
        refine mm_iload d_G_ladder_13 rfl ?_
        refine mm_ci d_G_ladder_14 ?_
        refine mm_icmp_lt d_G_ladder_15 (fun c_15 => ?_) (fun c_15 => ?_)
        · refine mm_ci d_G_ladder_24 ?_
          exact mm_ri d_G_ladder_25 ⟨rfl, Fr.rf, hw⟩
        · refine mm_iload d_G_ladder_18 rfl ?_
          refine mm_ciN 8 d_G_ladder_19 rfl ?_
          refine mm_icmp_lt d_G_ladder_21 (fun c_21 => ?_) (fun c_21 => ?_)
          · refine mm_aload d_G_ladder_26 rfl ?_
            refine mm_getP d_G_ladder_27 rfl (sk_o_0 hM) (sk_p_0_6 hM) ?_
            refine mm_aload d_G_ladder_30 rfl ?_
            refine mm_v1i d_G_ladder_31 (sk_o_67 hM) (sp_Sk_longestLadder hM hi2 hCD hW (fun ν f e68 => ?_))
            refine mm_ist4 d_G_ladder_34 ?_
            refine mm_iload d_G_ladder_36 rfl ?_
            refine mm_ci d_G_ladder_37 ?_
            refine mm_icmp_ne d_G_ladder_38 (fun c_38 => ?_) (fun c_38 => False.elim (c_38 hy))
            refine mm_iload d_G_ladder_44 rfl ?_
            refine mm_iload d_G_ladder_45 rfl ?_
            refine mm_icmp_ge d_G_ladder_47 (fun c_47 => ?_) (fun c_47 => False.elim (hz2.elim (fun y => c_15 (lt_m1 hy y)) c_47))
            refine mm_ci d_G_ladder_62 ?_
            exact mm_ri d_G_ladder_63 ⟨rfl, f.sub scL_C, hw.fr f rfl rfl⟩
          · refine mm_ci d_G_ladder_24 ?_
            exact mm_ri d_G_ladder_25 ⟨rfl, Fr.rf, hw⟩
      · show mm_T X 12 0 0 k_M_ladder 0 [some (.ref 71), some (.int (nI i)), some (.int y2), none, none, none, none, none] [] μ1 _
        replace hM := hf.2.2.2 hM
        replace m0 : mm_I μ1 76 0 = nI c := by rw [(hf.2.2.1 76 rfl).1]; exact m0
        replace hDM := hDM.frC hf
        refine mm_aload d_M_ladder_0 rfl ?_
        refine mm_ciN 0 d_M_ladder_1 rfl ?_
        refine mm_putI d_M_ladder_2 rfl (sk_o_71 hM) (Or.inl rfl) ?_
        refine mm_aload d_M_ladder_5 rfl ?_
        refine mm_iload d_M_ladder_6 rfl ?_
        refine mm_v1i d_M_ladder_7 (sk_o_71 hM) (sp_M_handN hM (by first | exact m0 | (rw [mm_sI_off (by decide)]; exact m0)) h02 hi (by first | exact hDM | exact hDM.eq (mm_sI_off (by decide))) hW (fun μ2 g1 hH hZ => ?_))
        replace hM := hH.1
        refine mm_if_neN d_M_ladder_10 (by first | omega | exact ite01_lt | exact bt8_lt31 _ _ | exact godB_lt31 _ _ _ | exact pop_lt31 _ | assumption | exact b31 (hW.gp (by omega)) | exact b31 (hW.ne (by omega)) | exact b31 (hW.op (by omega)) | exact and31 (hW.gp (by omega)) | exact and31 (hW.ne (by omega)) | exact and31 (hW.op (by omega)) | exact and31 (by assumption) | exact and31r (hW.ne (by omega)) | exact and31r (hW.gp (by omega)) | exact and31r (by decide)) (fun c_10 => ?_) (fun c_10 => False.elim (by omega))
        refine mm_aload d_M_ladder_15 rfl ?_
        refine mm_v0v d_M_ladder_16 (sk_o_71 hM) (sp_M_findRungs hH (fun ν hT => ?_))
        refine head _ hT ?_
        have hM := hT.2.1.1
        refine mm_ist3 d_M_ladder_38 ?_
        refine mm_iload d_M_ladder_39 rfl ?_
        refine mm_ci d_M_ladder_40 ?_
        refine mm_icmp_eq d_M_ladder_41 (fun c_41 => False.elim (hy c_41)) (fun c_41 => ?_)
        refine mm_iload d_M_ladder_44 rfl ?_
        refine mm_ciN 0 d_M_ladder_45 rfl ?_
        refine mm_iload d_M_ladder_46 rfl ?_
        refine mm_ciN 1 d_M_ladder_47 rfl ?_
        refine mm_isub d_M_ladder_48 ?_
        refine mm_s3i d_M_ladder_49 (sp_M_in ?_)
        rw [inE_n hn8 hz]
        refine mm_if_neN d_M_ladder_52 (by first | omega | exact ite01_lt | exact bt8_lt31 _ _ | exact godB_lt31 _ _ _ | exact pop_lt31 _ | assumption | exact b31 (hW.gp (by omega)) | exact b31 (hW.ne (by omega)) | exact b31 (hW.op (by omega)) | exact and31 (hW.gp (by omega)) | exact and31 (hW.ne (by omega)) | exact and31 (hW.op (by omega)) | exact and31 (by assumption) | exact and31r (hW.ne (by omega)) | exact and31r (hW.gp (by omega)) | exact and31r (by decide)) (fun c_52 => False.elim (by omega)) (fun c_52 => ?_)
        refine mm_iload d_M_ladder_55 rfl ?_
        refine mm_ci d_M_ladder_56 ?_
        refine mm_icmp_ne d_M_ladder_57 (fun c_57 => ?_) (fun c_57 => False.elim (c_57 hy))
        refine mm_ci d_M_ladder_64 ?_
        exact mm_ri d_M_ladder_65 ⟨rfl, gfF g1 hT⟩
    · obtain ⟨r2, r3⟩ : (gF D 8).1 = Lg D 8 0 ∧ (gF D 8).2.getD 0 = fw D 8 0 := by
        rcases hrv with ⟨-, y⟩ | ⟨-, y⟩
        · omega
        · exact y
      refine pairQ (nI (itA D 8 0 (j + 1)).1) hJ (d := 12) (d' := 12) (by decide) (by decide) ?_ (fun μ1 hf => ?_)
      · show mm_T X 12 0 0 k_G_ladder 0 [some (.ref 0), some (.int (nI i)), some (.int (nI j)), none, none] [] μ _
        refine mm_aload d_G_ladder_0 rfl ?_
        refine mm_getP d_G_ladder_1 rfl (sk_o_0 hM) (sk_p_0_0 hM) ?_
        refine mm_iload d_G_ladder_4 rfl ?_
        refine mm_v1r d_G_ladder_5 (sk_o_1 hM) (sp_To_coastAtI hM h0 h02 hi ?_)
        refine mm_ast3 d_G_ladder_8 ?_
        refine mm_aload d_G_ladder_9 rfl ?_
        refine mm_ifnull d_G_ladder_10 ?_
        refine mm_iload d_G_ladder_13 rfl ?_
        refine mm_ci d_G_ladder_14 ?_
        refine mm_icmp_lt d_G_ladder_15 (fun c_15 => False.elim (absurd c_15 (Int32.not_lt.mpr (Int32.le_of_lt (neg_lt (by decide) (by omega)))))) (fun c_15 => ?_)
        refine mm_iload d_G_ladder_18 rfl ?_
        refine mm_ciN 8 d_G_ladder_19 rfl ?_
        refine mm_icmp_ltN d_G_ladder_21 (by first | omega | exact ite01_lt | exact bt8_lt31 _ _ | exact godB_lt31 _ _ _ | exact pop_lt31 _ | assumption | exact b31 (hW.gp (by omega)) | exact b31 (hW.ne (by omega)) | exact b31 (hW.op (by omega)) | exact and31 (hW.gp (by omega)) | exact and31 (hW.ne (by omega)) | exact and31 (hW.op (by omega)) | exact and31 (by assumption) | exact and31r (hW.ne (by omega)) | exact and31r (hW.gp (by omega)) | exact and31r (by decide)) (by first | omega | exact ite01_lt | exact bt8_lt31 _ _ | exact godB_lt31 _ _ _ | exact pop_lt31 _ | assumption | exact b31 (hW.gp (by omega)) | exact b31 (hW.ne (by omega)) | exact b31 (hW.op (by omega)) | exact and31 (hW.gp (by omega)) | exact and31 (hW.ne (by omega)) | exact and31 (hW.op (by omega)) | exact and31 (by assumption) | exact and31r (hW.ne (by omega)) | exact and31r (hW.gp (by omega)) | exact and31r (by decide)) (fun c_21 => ?_) (fun c_21 => False.elim (by omega))
        refine mm_aload d_G_ladder_26 rfl ?_
        refine mm_getP d_G_ladder_27 rfl (sk_o_0 hM) (sk_p_0_6 hM) ?_
        refine mm_aload d_G_ladder_30 rfl ?_
        refine mm_v1i d_G_ladder_31 (sk_o_67 hM) (sp_Sk_longestLadder hM hi2 hCD hW (fun ν f e68 => ?_))
        rw [r3] at e68
        have hM := f.2.2.2 hM
        refine mm_ist4 d_G_ladder_34 ?_
        refine mm_iload d_G_ladder_36 rfl ?_
        refine mm_ci d_G_ladder_37 ?_
        refine mm_icmp_neM1 d_G_ladder_38 (by first | omega | exact ite01_lt | exact bt8_lt31 _ _ | exact godB_lt31 _ _ _ | exact pop_lt31 _ | assumption | exact b31 (hW.gp (by omega)) | exact b31 (hW.ne (by omega)) | exact b31 (hW.op (by omega)) | exact and31 (hW.gp (by omega)) | exact and31 (hW.ne (by omega)) | exact and31 (hW.op (by omega)) | exact and31 (by assumption) | exact and31r (hW.ne (by omega)) | exact and31r (hW.gp (by omega)) | exact and31r (by decide)) ?_
        refine mm_iload d_G_ladder_44 rfl ?_
        refine mm_iload d_G_ladder_45 rfl ?_
        refine mm_icmp_geN d_G_ladder_47 (by first | omega | exact ite01_lt | exact bt8_lt31 _ _ | exact godB_lt31 _ _ _ | exact pop_lt31 _ | assumption | exact b31 (hW.gp (by omega)) | exact b31 (hW.ne (by omega)) | exact b31 (hW.op (by omega)) | exact and31 (hW.gp (by omega)) | exact and31 (hW.ne (by omega)) | exact and31 (hW.op (by omega)) | exact and31 (by assumption) | exact and31r (hW.ne (by omega)) | exact and31r (hW.gp (by omega)) | exact and31r (by decide)) (by first | omega | exact ite01_lt | exact bt8_lt31 _ _ | exact godB_lt31 _ _ _ | exact pop_lt31 _ | assumption | exact b31 (hW.gp (by omega)) | exact b31 (hW.ne (by omega)) | exact b31 (hW.op (by omega)) | exact and31 (hW.gp (by omega)) | exact and31 (hW.ne (by omega)) | exact and31 (hW.op (by omega)) | exact and31 (by assumption) | exact and31r (hW.ne (by omega)) | exact and31r (hW.gp (by omega)) | exact and31r (by decide)) (fun c_47 => False.elim (by omega)) (fun c_47 => ?_)
        refine mm_aload d_G_ladder_50 rfl ?_
        refine mm_getP d_G_ladder_51 rfl (sk_o_0 hM) (sk_p_0_6 hM) ?_
        refine mm_getP d_G_ladder_54 rfl (sk_o_67 hM) (sk_p_67_0 hM) ?_
        refine mm_iload d_G_ladder_57 rfl ?_
        refine mm_ialdN d_G_ladder_58 (sk_a_68 hM) (by omega) (by decide) (e68 j hj) ?_
        refine mm_goto d_G_ladder_59 ?_
        exact mm_ri d_G_ladder_63 ⟨by rw [itA_sh, Nat.zero_or], f.sub scL_C, hw.fr f rfl rfl⟩
      · show mm_T X 12 0 0 k_M_ladder 0 [some (.ref 71), some (.int (nI i)), some (.int (nI j)), none, none, none, none, none] [] μ1 _
        replace hM := hf.2.2.2 hM
        replace m0 : mm_I μ1 76 0 = nI c := by rw [(hf.2.2.1 76 rfl).1]; exact m0
        replace hDM := hDM.frC hf
        refine mm_aload d_M_ladder_0 rfl ?_
        refine mm_ciN 0 d_M_ladder_1 rfl ?_
        refine mm_putI d_M_ladder_2 rfl (sk_o_71 hM) (Or.inl rfl) ?_
        refine mm_aload d_M_ladder_5 rfl ?_
        refine mm_iload d_M_ladder_6 rfl ?_
        refine mm_v1i d_M_ladder_7 (sk_o_71 hM) (sp_M_handN hM (by first | exact m0 | (rw [mm_sI_off (by decide)]; exact m0)) h02 hi (by first | exact hDM | exact hDM.eq (mm_sI_off (by decide))) hW (fun μ2 g1 hH hZ => ?_))
        replace hM := hH.1
        refine mm_if_neN d_M_ladder_10 (by first | omega | exact ite01_lt | exact bt8_lt31 _ _ | exact godB_lt31 _ _ _ | exact pop_lt31 _ | assumption | exact b31 (hW.gp (by omega)) | exact b31 (hW.ne (by omega)) | exact b31 (hW.op (by omega)) | exact and31 (hW.gp (by omega)) | exact and31 (hW.ne (by omega)) | exact and31 (hW.op (by omega)) | exact and31 (by assumption) | exact and31r (hW.ne (by omega)) | exact and31r (hW.gp (by omega)) | exact and31r (by decide)) (fun c_10 => ?_) (fun c_10 => False.elim (by omega))
        refine mm_aload d_M_ladder_15 rfl ?_
        refine mm_v0v d_M_ladder_16 (sk_o_71 hM) (sp_M_findRungs hH (fun ν hT => ?_))
        refine head _ hT ?_
        have hM := hT.2.1.1
        have hHT := hT.2.1
        refine mm_ist3 d_M_ladder_38 ?_
        refine mm_iload d_M_ladder_39 rfl ?_
        refine mm_ci d_M_ladder_40 ?_
        refine mm_icmp_eqM1 d_M_ladder_41 (by first | omega | exact ite01_lt | exact bt8_lt31 _ _ | exact godB_lt31 _ _ _ | exact pop_lt31 _ | assumption | exact b31 (hW.gp (by omega)) | exact b31 (hW.ne (by omega)) | exact b31 (hW.op (by omega)) | exact and31 (hW.gp (by omega)) | exact and31 (hW.ne (by omega)) | exact and31 (hW.op (by omega)) | exact and31 (by assumption) | exact and31r (hW.ne (by omega)) | exact and31r (hW.gp (by omega)) | exact and31r (by decide)) ?_
        refine mm_iload d_M_ladder_44 rfl ?_
        refine mm_ciN 0 d_M_ladder_45 rfl ?_
        refine mm_iload d_M_ladder_46 rfl ?_
        refine mm_ciN 1 d_M_ladder_47 rfl ?_
        refine mm_isub d_M_ladder_48 ?_
        refine mm_s3i d_M_ladder_49 (sp_M_in ?_)
        rw [inE_i _ hn8 j hj]
        refine mm_if_neN d_M_ladder_52 (by first | omega | exact ite01_lt | exact bt8_lt31 _ _ | exact godB_lt31 _ _ _ | exact pop_lt31 _ | assumption | exact b31 (hW.gp (by omega)) | exact b31 (hW.ne (by omega)) | exact b31 (hW.op (by omega)) | exact and31 (hW.gp (by omega)) | exact and31 (hW.ne (by omega)) | exact and31 (hW.op (by omega)) | exact and31 (by assumption) | exact and31r (hW.ne (by omega)) | exact and31r (hW.gp (by omega)) | exact and31r (by decide)) (fun c_52 => ?_) (fun c_52 => False.elim (by omega))
        refine mm_ciN 0 d_M_ladder_66 rfl ?_
        refine mm_ist4 d_M_ladder_67 ?_
        refine mm_ciN 8 d_M_ladder_69 rfl ?_
        refine mm_ist5 d_M_ladder_71 ?_
        refine mm_ciN 0 d_M_ladder_73 rfl ?_
        refine mm_ist6 d_M_ladder_74 ?_
        generalize (gF D 8).1 = n at *
        refine mm_up (P := fun a => ∀ (l7 : Option Value), mm_T X 12 0 0 k_M_ladder 76 [some (.ref 71), some (.int (nI i)), some (.int (nI j)), some (.int (nI n)), some (.int (nI (itA D 8 0 a).2)), some (.int (nI (itA D 8 0 a).1)), some (.int (nI a)), l7] [] ν _) (j + 1) ?_ ?_ none
        · intro l7
          refine mm_iload d_M_ladder_76 rfl ?_
          refine mm_iload d_M_ladder_78 rfl ?_
          refine mm_icmp_gtN d_M_ladder_79 (by first | omega | exact ite01_lt | exact bt8_lt31 _ _ | exact godB_lt31 _ _ _ | exact pop_lt31 _ | assumption | exact b31 (hW.gp (by omega)) | exact b31 (hW.ne (by omega)) | exact b31 (hW.op (by omega)) | exact and31 (hW.gp (by omega)) | exact and31 (hW.ne (by omega)) | exact and31 (hW.op (by omega)) | exact and31 (by assumption) | exact and31r (hW.ne (by omega)) | exact and31r (hW.gp (by omega)) | exact and31r (by decide)) (by first | omega | exact ite01_lt | exact bt8_lt31 _ _ | exact godB_lt31 _ _ _ | exact pop_lt31 _ | assumption | exact b31 (hW.gp (by omega)) | exact b31 (hW.ne (by omega)) | exact b31 (hW.op (by omega)) | exact and31 (hW.gp (by omega)) | exact and31 (hW.ne (by omega)) | exact and31 (hW.op (by omega)) | exact and31 (by assumption) | exact and31r (hW.ne (by omega)) | exact and31r (hW.gp (by omega)) | exact and31r (by decide)) (fun c_79 => ?_) (fun c_79 => False.elim (by omega))
          refine mm_iload d_M_ladder_137 rfl ?_
          exact mm_ri d_M_ladder_139 ⟨rfl, gfF g1 hT⟩
        · intro a ha IH l7
          obtain ⟨q1, q2, q3⟩ := it_ok (D := D) a (by omega)
          obtain ⟨b1, b2, b3, b4, b5⟩ := Lg_next q1 (show 0 < Lg D (itA D 8 0 a).1 (itA D 8 0 a).2 by omega)
          have hl8 := Lg_le (D := D) (itA D 8 0 a).1 (itA D 8 0 a).2
          have IH2 := IH
          rw [show itA D 8 0 (a + 1) = (fw D (itA D 8 0 a).1 (itA D 8 0 a).2, (itA D 8 0 a).2 ||| 2 ^ fw D (itA D 8 0 a).1 (itA D 8 0 a).2) from rfl] at IH2
          generalize itA D 8 0 a = p at *
          obtain ⟨pa, ph⟩ := p
          dsimp only at q1 q2 q3 b1 b2 b3 b4 b5 hl8 IH2 ⊢
          have htb : ∀ w, w < 8 → bt8 ph w = 0 → mm_I ν 90 (256 * w + (ph ||| 2 ^ w)) = nI (Lg D w (ph ||| 2 ^ w)) := fun w hw _ => hT.2.2 w _ (by omega) (Nat.zero_le _) (or_set q1 hw)
          have etb : mm_I ν 90 (256 * pa + ph) = nI (Lg D pa ph) := hT.2.2 pa ph q2 (Nat.zero_le _) q1
          refine mm_iload d_M_ladder_76 rfl ?_
          refine mm_iload d_M_ladder_78 rfl ?_
          refine mm_icmp_gtN d_M_ladder_79 (by first | omega | exact ite01_lt | exact bt8_lt31 _ _ | exact godB_lt31 _ _ _ | exact pop_lt31 _ | assumption | exact b31 (hW.gp (by omega)) | exact b31 (hW.ne (by omega)) | exact b31 (hW.op (by omega)) | exact and31 (hW.gp (by omega)) | exact and31 (hW.ne (by omega)) | exact and31 (hW.op (by omega)) | exact and31 (by assumption) | exact and31r (hW.ne (by omega)) | exact and31r (hW.gp (by omega)) | exact and31r (by decide)) (by first | omega | exact ite01_lt | exact bt8_lt31 _ _ | exact godB_lt31 _ _ _ | exact pop_lt31 _ | assumption | exact b31 (hW.gp (by omega)) | exact b31 (hW.ne (by omega)) | exact b31 (hW.op (by omega)) | exact and31 (hW.gp (by omega)) | exact and31 (hW.ne (by omega)) | exact and31 (hW.op (by omega)) | exact and31 (by assumption) | exact and31r (hW.ne (by omega)) | exact and31r (hW.gp (by omega)) | exact and31r (by decide)) (fun c_79 => False.elim (by omega)) (fun c_79 => ?_)
          refine mm_ciN 0 d_M_ladder_82 rfl ?_
          refine mm_ist7 d_M_ladder_83 ?_
          refine mm_up (P := fun w => mm_T X 12 0 0 k_M_ladder 85 [some (.ref 71), some (.int (nI i)), some (.int (nI j)), some (.int (nI n)), some (.int (nI ph)), some (.int (nI pa)), some (.int (nI a)), some (.int (nI w))] [] ν _) (fw D pa ph) ?_ ?_
          · refine mm_aload d_M_ladder_85 rfl ?_
            refine mm_iload d_M_ladder_86 rfl ?_
            refine mm_iload d_M_ladder_88 rfl ?_
            refine mm_iload d_M_ladder_90 rfl ?_
            refine mm_v3i d_M_ladder_92 (sk_o_71 hM) (sp_M_rungBy hHT q1 q2 b1 (htb _ b1) ?_)
            rw [b3]
            refine mm_aload d_M_ladder_95 rfl ?_
            refine mm_getP d_M_ladder_96 rfl (sk_o_71 hM) (sk_p_71_46 hM) ?_
            refine mm_ciN 256 d_M_ladder_99 rfl ?_
            refine mm_iload d_M_ladder_102 rfl ?_
            refine mm_imulN d_M_ladder_104 ?_
            refine mm_iload d_M_ladder_105 rfl ?_
            refine mm_iaddN d_M_ladder_107 ?_
            refine mm_ialdN d_M_ladder_108 (sk_a_90 hM) (by omega) (by decide) etb ?_
            refine mm_icmp_eqN d_M_ladder_109 (by first | omega | exact ite01_lt | exact bt8_lt31 _ _ | exact godB_lt31 _ _ _ | exact pop_lt31 _ | assumption | exact b31 (hW.gp (by omega)) | exact b31 (hW.ne (by omega)) | exact b31 (hW.op (by omega)) | exact and31 (hW.gp (by omega)) | exact and31 (hW.ne (by omega)) | exact and31 (hW.op (by omega)) | exact and31 (by assumption) | exact and31r (hW.ne (by omega)) | exact and31r (hW.gp (by omega)) | exact and31r (by decide)) (by first | omega | exact ite01_lt | exact bt8_lt31 _ _ | exact godB_lt31 _ _ _ | exact pop_lt31 _ | assumption | exact b31 (hW.gp (by omega)) | exact b31 (hW.ne (by omega)) | exact b31 (hW.op (by omega)) | exact and31 (hW.gp (by omega)) | exact and31 (hW.ne (by omega)) | exact and31 (hW.op (by omega)) | exact and31 (by assumption) | exact and31r (hW.ne (by omega)) | exact and31r (hW.gp (by omega)) | exact and31r (by decide)) (fun c_109 => ?_) (fun c_109 => False.elim (by omega))
            refine mm_iload d_M_ladder_118 rfl ?_
            refine mm_ciN 1 d_M_ladder_120 rfl ?_
            refine mm_iload d_M_ladder_121 rfl ?_
            refine mm_ishl1N d_M_ladder_123 (by omega) ?_
            refine mm_iorN d_M_ladder_124 ?_
            refine mm_ist4 d_M_ladder_125 ?_
            refine mm_iload d_M_ladder_127 rfl ?_
            refine mm_ist5 d_M_ladder_129 ?_
            refine mm_inc6N d_M_ladder_131 ?_
            refine mm_goto d_M_ladder_134 ?_
            exact IH2 _
          · intro w hw IH3
            have hw5 := b5 w hw
            refine mm_aload d_M_ladder_85 rfl ?_
            refine mm_iload d_M_ladder_86 rfl ?_
            refine mm_iload d_M_ladder_88 rfl ?_
            refine mm_iload d_M_ladder_90 rfl ?_
            refine mm_v3i d_M_ladder_92 (sk_o_71 hM) (sp_M_rungBy hHT q1 q2 (by omega) (htb _ (by omega)) ?_)
            refine mm_aload d_M_ladder_95 rfl ?_
            refine mm_getP d_M_ladder_96 rfl (sk_o_71 hM) (sk_p_71_46 hM) ?_
            refine mm_ciN 256 d_M_ladder_99 rfl ?_
            refine mm_iload d_M_ladder_102 rfl ?_
            refine mm_imulN d_M_ladder_104 ?_
            refine mm_iload d_M_ladder_105 rfl ?_
            refine mm_iaddN d_M_ladder_107 ?_
            refine mm_ialdN d_M_ladder_108 (sk_a_90 hM) (by omega) (by decide) etb ?_
            refine mm_icmp_eqN d_M_ladder_109 (by first | omega | exact ite01_lt | exact bt8_lt31 _ _ | exact godB_lt31 _ _ _ | exact pop_lt31 _ | assumption | exact b31 (hW.gp (by omega)) | exact b31 (hW.ne (by omega)) | exact b31 (hW.op (by omega)) | exact and31 (hW.gp (by omega)) | exact and31 (hW.ne (by omega)) | exact and31 (hW.op (by omega)) | exact and31 (by assumption) | exact and31r (hW.ne (by omega)) | exact and31r (hW.gp (by omega)) | exact and31r (by decide)) (by first | omega | exact ite01_lt | exact bt8_lt31 _ _ | exact godB_lt31 _ _ _ | exact pop_lt31 _ | assumption | exact b31 (hW.gp (by omega)) | exact b31 (hW.ne (by omega)) | exact b31 (hW.op (by omega)) | exact and31 (hW.gp (by omega)) | exact and31 (hW.ne (by omega)) | exact and31 (hW.op (by omega)) | exact and31 (by assumption) | exact and31r (hW.ne (by omega)) | exact and31r (hW.gp (by omega)) | exact and31r (by decide)) (fun c_109 => False.elim (by omega)) (fun c_109 => ?_)
            refine mm_inc7N d_M_ladder_112 ?_
            refine mm_goto d_M_ladder_115 ?_
            exact IH3
