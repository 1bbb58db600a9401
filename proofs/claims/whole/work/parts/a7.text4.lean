/-! the pair text -/
def scX (a : Nat) : Bool := a == 1 || (3 ≤ a && a ≤ 34) || (36 ≤ a && a ≤ 52)
theorem TxA.fr {s n c i : Nat} {u : Nat → Nat} {μ μ1 : mm_M} (h : TxA s u n c i μ μ1) (hs : s < 3) (hi : i < 2) : Fr scX μ μ1 := by
  obtain ⟨μr, ⟨F, -⟩, h1, h2⟩ := h
  have F1 : Fr scX μ μr := F.sub (fun a z => by unfold scRd at z; unfold scX; simp at z ⊢; omega)
  by_cases hr : (rdF s u n).1 = 0
  · obtain ⟨-, -, k0, k1, k2⟩ := h2 hr
    have h3 : s = 0 ∨ s = 1 ∨ s = 2 := by omega
    rcases h3 with z | z | z
    · obtain ⟨ν, f, -, -, rfl⟩ := k0 z
      exact (F1.trans (f.sub (fun a z => by have := scR_o z; unfold scX; simp; omega))).sI rfl
    · obtain ⟨ν, f, -, -, rfl⟩ := k1 z
      exact (F1.trans (f.sub (fun a z => by have := scR_o z; unfold scX; simp; omega))).sI rfl
    · obtain ⟨ν, f, -, -, rfl⟩ := k2 z
      exact (F1.trans (f.sub (fun a z => by have := scR_o z; unfold scX; simp; omega))).sI rfl
  · rw [h1 hr]; exact F1
theorem slF_or {c : Nat} (hc : c ≤ 2) (y : Int32) : (slF c y = -2 ∧ ((y = -1 ∧ c = 2) ∨ (y ≠ -1 ∧ atF c y = none))) ∨ ∃ i, i < 2 ∧ i ≤ c ∧ slF c y = nI i ∧ ((y = -1 ∧ i = c) ∨ (y = nI i ∧ i < c)) := by
  by_cases hy : y = -1
  · subst hy
    by_cases h : c < 2
    · exact Or.inr ⟨c, h, Nat.le_refl _, by unfold slF; rw [if_pos rfl, if_pos h], Or.inl ⟨rfl, rfl⟩⟩
    · exact Or.inl ⟨by unfold slF; rw [if_pos rfl, if_neg h], Or.inl ⟨rfl, by omega⟩⟩
  · rcases atF_or (c := c) (by omega) y with hz | ⟨i, hi, rfl⟩
    · exact Or.inl ⟨by unfold slF; rw [if_neg hy, hz], Or.inr ⟨hy, hz⟩⟩
    · exact Or.inr ⟨i, by omega, by omega, slF_i hc hi, Or.inr ⟨rfl, hi⟩⟩
theorem pair_text {X : mm_X} {k : Nat} {μ : mm_M} (hJ : JJ k μ) (y1 y2 : Int32) : PairI X (JJ (k + 1)) k_G_text k_M_text [.int y1, .int y2] μ := by
  have hM := hJ.1
  obtain ⟨n, n1, n2, n3, n4⟩ := hJ.2.1.2.1
  rcases rng_or y1 (a := 0) (b := 2) (by decide) (by decide) with ⟨hz, hz2⟩ | ⟨s, -, hs, rfl⟩
  · refine pairS (-2) (fun μ1 => μ1 = mm_sI (mm_sI (mm_sI μ 1 5 (nI 0)) 1 6 (nI 0)) 1 7 (-1)) (by rintro μ1 rfl; exact hM) (d := 12) (d' := 12) (by decide) (by decide) ?_ ?_
    · show mm_T X 12 0 0 k_G_text 0 [some (.ref 0), some (.int y1), some (.int y2), none, none] [] μ _
      refine mm_aload d_G_text_0 rfl ?_
      refine mm_getP d_G_text_1 rfl (sk_o_0 hM) (sk_p_0_0 hM) ?_
      refine mm_getIN d_G_text_4 rfl (sk_o_1 hM) n2 ?_
      refine mm_ist3 d_G_text_7 ?_
      refine mm_aload d_G_text_8 rfl ?_
      refine mm_getP d_G_text_9 rfl (sk_o_0 hM) (sk_p_0_0 hM) ?_
      refine mm_ciN 0 d_G_text_12 rfl ?_
      refine mm_putI d_G_text_13 rfl (sk_o_1 hM) (Or.inl rfl) ?_
      refine mm_aload d_G_text_16 rfl ?_
      refine mm_getP d_G_text_17 rfl (sk_o_0 hM) (sk_p_0_0 hM) ?_
      refine mm_ciN 0 d_G_text_20 rfl ?_
      refine mm_putI d_G_text_21 rfl (sk_o_1 hM) (Or.inl rfl) ?_
      refine mm_aload d_G_text_24 rfl ?_
      refine mm_getP d_G_text_25 rfl (sk_o_0 hM) (sk_p_0_0 hM) ?_
      refine mm_ci d_G_text_28 ?_
      refine mm_putI d_G_text_29 rfl (sk_o_1 hM) (Or.inl rfl) ?_
      refine mm_aload d_G_text_32 rfl ?_
      refine mm_getP d_G_text_33 rfl (sk_o_0 hM) (sk_p_0_0 hM) ?_
      refine mm_iload d_G_text_36 rfl ?_
      refine mm_iload d_G_text_37 rfl ?_
      refine mm_v2i d_G_text_38 (sk_o_1 hM) (sp_To_slotForB hz2 ?_)
      refine mm_ist4 d_G_text_41 ?_
      refine mm_iload d_G_text_43 rfl ?_
      refine mm_if_ge d_G_text_45 (fun c_45 => False.elim (absurd c_45 (by decide))) (fun c_45 => ?_)
      refine mm_ci d_G_text_48 ?_
      exact mm_ri d_G_text_50 ⟨rfl, rfl⟩
    · rintro μ1 rfl
      show mm_T X 12 0 0 k_M_text 0 [some (.ref 71), some (.int y1), some (.int y2), none] [] _ _
      replace hM : SK (mm_sI (mm_sI (mm_sI μ 1 5 (nI 0)) 1 6 (nI 0)) 1 7 (-1)) := hM
      refine mm_aload d_M_text_0 rfl ?_
      refine mm_ciN 0 d_M_text_1 rfl ?_
      refine mm_putI d_M_text_2 rfl (sk_o_71 hM) (Or.inl rfl) ?_
      refine mm_aload d_M_text_5 rfl ?_
      refine mm_aload d_M_text_6 rfl ?_
      refine mm_getP d_M_text_7 rfl (sk_o_71 hM) (sk_p_71_2 hM) ?_
      refine mm_ciN 0 d_M_text_10 rfl ?_
      refine mm_ialdN d_M_text_11 (sk_a_73 hM) (by omega) (by decide) (show _ = nI n by rw [mm_sI_off (by decide), mm_sI_off (by decide), mm_sI_off (by decide), mm_sI_off (by decide), n3]) ?_
      refine mm_putI d_M_text_12 rfl (sk_o_71 hM) (Or.inl rfl) ?_
      refine mm_aload d_M_text_15 rfl ?_
      refine mm_getP d_M_text_16 rfl (sk_o_71 hM) (sk_p_71_2 hM) ?_
      refine mm_ciN 0 d_M_text_19 rfl ?_
      refine mm_ciN 0 d_M_text_20 rfl ?_
      refine mm_iastX d_M_text_21 (sk_a_73 hM) (by omega) (by decide) ?_
      refine mm_aload d_M_text_22 rfl ?_
      refine mm_getP d_M_text_23 rfl (sk_o_71 hM) (sk_p_71_3 hM) ?_
      refine mm_ciN 0 d_M_text_26 rfl ?_
      refine mm_ciN 0 d_M_text_27 rfl ?_
      refine mm_iastX d_M_text_28 (sk_a_74 hM) (by omega) (by decide) ?_
      refine mm_aload d_M_text_29 rfl ?_
      refine mm_getP d_M_text_30 rfl (sk_o_71 hM) (sk_p_71_4 hM) ?_
      refine mm_ciN 0 d_M_text_33 rfl ?_
      refine mm_ci d_M_text_34 ?_
      refine mm_iastX d_M_text_35 (sk_a_75 hM) (by omega) (by decide) ?_
      refine mm_iload d_M_text_36 rfl ?_
      refine mm_ciN 0 d_M_text_37 rfl ?_
      refine mm_ciN 2 d_M_text_38 rfl ?_
      refine mm_s3i d_M_text_39 (sp_M_inB hz ?_)
      refine mm_if_eqN d_M_text_42 (by first | omega | exact ite01_lt | exact bt8_lt31 _ _ | exact godB_lt31 _ _ _ | exact pop_lt31 _ | assumption | exact b31 (hW.gp (by omega)) | exact b31 (hW.ne (by omega)) | exact b31 (hW.op (by omega)) | exact and31 (hW.gp (by omega)) | exact and31 (hW.ne (by omega)) | exact and31 (hW.op (by omega)) | exact and31 (by assumption) | exact and31r (hW.ne (by omega)) | exact and31r (hW.gp (by omega)) | exact and31r (by decide)) (fun c_42 => ?_) (fun c_42 => False.elim (by omega))
      refine mm_ci d_M_text_72 ?_
      exact mm_ri d_M_text_74 ⟨rfl, text_no hJ n⟩
  · obtain ⟨c, c2, h34, h76, hcl⟩ := hJ.cnt (s := s) (by omega)
    rcases slF_or c2 y2 with ⟨hsl, hy⟩ | ⟨i, hi2, hic, hsl, hy⟩
    · have h34' : mm_I (mm_sI (mm_sI (mm_sI μ 1 5 (nI 0)) 1 6 (nI 0)) 1 7 (-1)) 34 s = nI c := by rw [mm_sI_off (by decide), mm_sI_off (by decide), mm_sI_off (by decide)]; exact h34
      have h76' : mm_I (mx5 (mm_sI (mm_sI (mm_sI μ 1 5 (nI 0)) 1 6 (nI 0)) 1 7 (-1)) n) 76 s = nI c := by rw [mx5_off (by decide) (by decide) (by decide) (by decide), mm_sI_off (by decide), mm_sI_off (by decide), mm_sI_off (by decide)]; exact h76
      refine pairS (-2) (fun μ1 => μ1 = mm_sI (mm_sI (mm_sI μ 1 5 (nI 0)) 1 6 (nI 0)) 1 7 (-1)) (by rintro μ1 rfl; exact hM) (d := 12) (d' := 12) (by decide) (by decide) ?_ ?_
      · show mm_T X 12 0 0 k_G_text 0 [some (.ref 0), some (.int (nI s)), some (.int y2), none, none] [] μ _
        refine mm_aload d_G_text_0 rfl ?_
        refine mm_getP d_G_text_1 rfl (sk_o_0 hM) (sk_p_0_0 hM) ?_
        refine mm_getIN d_G_text_4 rfl (sk_o_1 hM) n2 ?_
        refine mm_ist3 d_G_text_7 ?_
        refine mm_aload d_G_text_8 rfl ?_
        refine mm_getP d_G_text_9 rfl (sk_o_0 hM) (sk_p_0_0 hM) ?_
        refine mm_ciN 0 d_G_text_12 rfl ?_
        refine mm_putI d_G_text_13 rfl (sk_o_1 hM) (Or.inl rfl) ?_
        refine mm_aload d_G_text_16 rfl ?_
        refine mm_getP d_G_text_17 rfl (sk_o_0 hM) (sk_p_0_0 hM) ?_
        refine mm_ciN 0 d_G_text_20 rfl ?_
        refine mm_putI d_G_text_21 rfl (sk_o_1 hM) (Or.inl rfl) ?_
        refine mm_aload d_G_text_24 rfl ?_
        refine mm_getP d_G_text_25 rfl (sk_o_0 hM) (sk_p_0_0 hM) ?_
        refine mm_ci d_G_text_28 ?_
        refine mm_putI d_G_text_29 rfl (sk_o_1 hM) (Or.inl rfl) ?_
        refine mm_aload d_G_text_32 rfl ?_
        refine mm_getP d_G_text_33 rfl (sk_o_0 hM) (sk_p_0_0 hM) ?_
        refine mm_iload d_G_text_36 rfl ?_
        refine mm_iload d_G_text_37 rfl ?_
        refine mm_v2i d_G_text_38 (sk_o_1 hM) (sp_To_slotForX hM (by omega) h34' c2 ?_)
        rw [hsl]
        refine mm_ist4 d_G_text_41 ?_
        refine mm_iload d_G_text_43 rfl ?_
        refine mm_if_ge d_G_text_45 (fun c_45 => False.elim (absurd c_45 (by decide))) (fun c_45 => ?_)
        refine mm_ci d_G_text_48 ?_
        exact mm_ri d_G_text_50 ⟨rfl, rfl⟩
      · rintro μ1 rfl
        show mm_T X 12 0 0 k_M_text 0 [some (.ref 71), some (.int (nI s)), some (.int y2), none] [] _ _
        replace hM : SK (mm_sI (mm_sI (mm_sI μ 1 5 (nI 0)) 1 6 (nI 0)) 1 7 (-1)) := hM
        rcases hy with ⟨rfl, rfl⟩ | ⟨hy, hz⟩
        · refine mm_aload d_M_text_0 rfl ?_
          refine mm_ciN 0 d_M_text_1 rfl ?_
          refine mm_putI d_M_text_2 rfl (sk_o_71 hM) (Or.inl rfl) ?_
          refine mm_aload d_M_text_5 rfl ?_
          refine mm_aload d_M_text_6 rfl ?_
          refine mm_getP d_M_text_7 rfl (sk_o_71 hM) (sk_p_71_2 hM) ?_
          refine mm_ciN 0 d_M_text_10 rfl ?_
          refine mm_ialdN d_M_text_11 (sk_a_73 hM) (by omega) (by decide) (show _ = nI n by rw [mm_sI_off (by decide), mm_sI_off (by decide), mm_sI_off (by decide), mm_sI_off (by decide), n3]) ?_
          refine mm_putI d_M_text_12 rfl (sk_o_71 hM) (Or.inl rfl) ?_
          refine mm_aload d_M_text_15 rfl ?_
          refine mm_getP d_M_text_16 rfl (sk_o_71 hM) (sk_p_71_2 hM) ?_
          refine mm_ciN 0 d_M_text_19 rfl ?_
          refine mm_ciN 0 d_M_text_20 rfl ?_
          refine mm_iastX d_M_text_21 (sk_a_73 hM) (by omega) (by decide) ?_
          refine mm_aload d_M_text_22 rfl ?_
          refine mm_getP d_M_text_23 rfl (sk_o_71 hM) (sk_p_71_3 hM) ?_
          refine mm_ciN 0 d_M_text_26 rfl ?_
          refine mm_ciN 0 d_M_text_27 rfl ?_
          refine mm_iastX d_M_text_28 (sk_a_74 hM) (by omega) (by decide) ?_
          refine mm_aload d_M_text_29 rfl ?_
          refine mm_getP d_M_text_30 rfl (sk_o_71 hM) (sk_p_71_4 hM) ?_
          refine mm_ciN 0 d_M_text_33 rfl ?_
          refine mm_ci d_M_text_34 ?_
          refine mm_iastX d_M_text_35 (sk_a_75 hM) (by omega) (by decide) ?_
          refine mm_iload d_M_text_36 rfl ?_
          refine mm_ciN 0 d_M_text_37 rfl ?_
          refine mm_ciN 2 d_M_text_38 rfl ?_
          refine mm_s3i d_M_text_39 (sp_M_inT (by omega) (by omega) (by omega) ?_)
          refine mm_if_eqN d_M_text_42 (by first | omega | exact ite01_lt | exact bt8_lt31 _ _ | exact godB_lt31 _ _ _ | exact pop_lt31 _ | assumption | exact b31 (hW.gp (by omega)) | exact b31 (hW.ne (by omega)) | exact b31 (hW.op (by omega)) | exact and31 (hW.gp (by omega)) | exact and31 (hW.ne (by omega)) | exact and31 (hW.op (by omega)) | exact and31 (by assumption) | exact and31r (hW.ne (by omega)) | exact and31r (hW.gp (by omega)) | exact and31r (by decide)) (fun c_42 => False.elim (by omega)) (fun c_42 => ?_)
          refine mm_iload d_M_text_45 rfl ?_
          refine mm_ci d_M_text_46 ?_
          refine mm_icmp_neS d_M_text_47 ?_
          refine mm_aload d_M_text_50 rfl ?_
          refine mm_getP d_M_text_51 rfl (sk_o_71 hM) (sk_p_71_5 hM) ?_
          refine mm_iload d_M_text_54 rfl ?_
          refine mm_ialdN d_M_text_55 (sk_a_76 hM) (by omega) (by decide) h76' ?_
          refine mm_ciN 2 d_M_text_56 rfl ?_
          refine mm_icmp_neN d_M_text_57 (by first | omega | exact ite01_lt | exact bt8_lt31 _ _ | exact godB_lt31 _ _ _ | exact pop_lt31 _ | assumption | exact b31 (hW.gp (by omega)) | exact b31 (hW.ne (by omega)) | exact b31 (hW.op (by omega)) | exact and31 (hW.gp (by omega)) | exact and31 (hW.ne (by omega)) | exact and31 (hW.op (by omega)) | exact and31 (by assumption) | exact and31r (hW.ne (by omega)) | exact and31r (hW.gp (by omega)) | exact and31r (by decide)) (by first | omega | exact ite01_lt | exact bt8_lt31 _ _ | exact godB_lt31 _ _ _ | exact pop_lt31 _ | assumption | exact b31 (hW.gp (by omega)) | exact b31 (hW.ne (by omega)) | exact b31 (hW.op (by omega)) | exact and31 (hW.gp (by omega)) | exact and31 (hW.ne (by omega)) | exact and31 (hW.op (by omega)) | exact and31 (by assumption) | exact and31r (hW.ne (by omega)) | exact and31r (hW.gp (by omega)) | exact and31r (by decide)) (fun c_57 => False.elim (by omega)) (fun c_57 => ?_)
          refine mm_goto d_M_text_60 ?_
          refine mm_ci d_M_text_72 ?_
          exact mm_ri d_M_text_74 ⟨rfl, text_no hJ n⟩
        · refine mm_aload d_M_text_0 rfl ?_
          refine mm_ciN 0 d_M_text_1 rfl ?_
          refine mm_putI d_M_text_2 rfl (sk_o_71 hM) (Or.inl rfl) ?_
          refine mm_aload d_M_text_5 rfl ?_
          refine mm_aload d_M_text_6 rfl ?_
          refine mm_getP d_M_text_7 rfl (sk_o_71 hM) (sk_p_71_2 hM) ?_
          refine mm_ciN 0 d_M_text_10 rfl ?_
          refine mm_ialdN d_M_text_11 (sk_a_73 hM) (by omega) (by decide) (show _ = nI n by rw [mm_sI_off (by decide), mm_sI_off (by decide), mm_sI_off (by decide), mm_sI_off (by decide), n3]) ?_
          refine mm_putI d_M_text_12 rfl (sk_o_71 hM) (Or.inl rfl) ?_
          refine mm_aload d_M_text_15 rfl ?_
          refine mm_getP d_M_text_16 rfl (sk_o_71 hM) (sk_p_71_2 hM) ?_
          refine mm_ciN 0 d_M_text_19 rfl ?_
          refine mm_ciN 0 d_M_text_20 rfl ?_
          refine mm_iastX d_M_text_21 (sk_a_73 hM) (by omega) (by decide) ?_
          refine mm_aload d_M_text_22 rfl ?_
          refine mm_getP d_M_text_23 rfl (sk_o_71 hM) (sk_p_71_3 hM) ?_
          refine mm_ciN 0 d_M_text_26 rfl ?_
          refine mm_ciN 0 d_M_text_27 rfl ?_
          refine mm_iastX d_M_text_28 (sk_a_74 hM) (by omega) (by decide) ?_
          refine mm_aload d_M_text_29 rfl ?_
          refine mm_getP d_M_text_30 rfl (sk_o_71 hM) (sk_p_71_4 hM) ?_
          refine mm_ciN 0 d_M_text_33 rfl ?_
          refine mm_ci d_M_text_34 ?_
          refine mm_iastX d_M_text_35 (sk_a_75 hM) (by omega) (by decide) ?_
          refine mm_iload d_M_text_36 rfl ?_
          refine mm_ciN 0 d_M_text_37 rfl ?_
          refine mm_ciN 2 d_M_text_38 rfl ?_
          refine mm_s3i d_M_text_39 (sp_M_inT (by omega) (by omega) (by omega) ?_)
          refine mm_if_eqN d_M_text_42 (by first | omega | exact ite01_lt | exact bt8_lt31 _ _ | exact godB_lt31 _ _ _ | exact pop_lt31 _ | assumption | exact b31 (hW.gp (by omega)) | exact b31 (hW.ne (by omega)) | exact b31 (hW.op (by omega)) | exact and31 (hW.gp (by omega)) | exact and31 (hW.ne (by omega)) | exact and31 (hW.op (by omega)) | exact and31 (by assumption) | exact and31r (hW.ne (by omega)) | exact and31r (hW.gp (by omega)) | exact and31r (by decide)) (fun c_42 => False.elim (by omega)) (fun c_42 => ?_)
          refine mm_iload d_M_text_45 rfl ?_
          refine mm_ci d_M_text_46 ?_
          refine mm_icmp_ne d_M_text_47 (fun c_47 => ?_) (fun c_47 => False.elim (c_47 hy))
          refine mm_aload d_M_text_63 rfl ?_
          refine mm_iload d_M_text_64 rfl ?_
          refine mm_iload d_M_text_65 rfl ?_
          refine mm_v2i d_M_text_66 (sk_o_71 hM) (sp_M_is (c := c) hM (by omega) h76' c2 ?_)
          rw [isF_none hz]
          refine mm_if_ne d_M_text_69 (fun c_69 => False.elim (c_69 rfl)) (fun c_69 => ?_)
          refine mm_ci d_M_text_72 ?_
          exact mm_ri d_M_text_74 ⟨rfl, text_no hJ n⟩
    · refine pairS (if (rdF s (fun j => ub (mm_I μ 2 j)) n).1 = 0 then nI i else -1) (fun μ1 => TxA s (fun j => ub (mm_I μ 2 j)) n c i μ μ1) (fun μ1 h => (h.fr (by omega) hi2).2.2.2 hM) (d := 12) (d' := 12) (by decide) (by decide) (sp_G_textOk hJ (by omega) n2 n1 h34 c2 hi2 hsl) ?_
      intro μ1 hA
      have F := hA.fr (by omega) hi2
      have hM := F.2.2.2 hM
      have hb : ∀ j, j < n → mm_I (mx5 μ1 n) 72 j &&& 255 = nI (ub (mm_I μ 2 j)) ∧ ub (mm_I μ 2 j) < 256 := by
        intro j hj
        rw [mx5_off (by decide) (by decide) (by decide) (by decide), (F.2.2.1 72 rfl).1]
        have := n4 j hj
        rw [show 600 * 0 + j = j by omega, show 1 + 1 = 2 from rfl] at this
        rw [← this]
        exact ⟨ub_m _, ub_lt _⟩
      have h76' : mm_I (mx5 μ1 n) 76 s = nI c := by rw [mx5_off (by decide) (by decide) (by decide) (by decide), (F.2.2.1 76 rfl).1]; exact h76
      have h73 : mm_I (mm_sI μ1 71 0 (nI 0)) 73 0 = nI n := by rw [mm_sI_off (by decide), (F.2.2.1 73 rfl).1]; exact n3
      have hMx : SK (mx5 μ1 n) := hM
      generalize hu : (fun j => ub (mm_I μ 2 j)) = u at hA ⊢
      have hb : ∀ j, j < n → mm_I (mx5 μ1 n) 72 j &&& 255 = nI (u j) ∧ u j < 256 := by rw [← hu]; exact hb
      have hs3 : s < 3 := by omega
      have h3 : s = 0 ∨ s = 1 ∨ s = 2 := by omega
      rcases h3 with rfl | rfl | rfl
      · rcases hy with ⟨rfl, rfl⟩ | ⟨rfl, hi⟩
        · show mm_T X 12 0 0 k_M_text 0 [some (.ref 71), some (.int (nI 0)), some (.int (-1)), none] [] μ1 _
          refine mm_aload d_M_text_0 rfl ?_
          refine mm_ciN 0 d_M_text_1 rfl ?_
          refine mm_putI d_M_text_2 rfl (sk_o_71 hM) (Or.inl rfl) ?_
          refine mm_aload d_M_text_5 rfl ?_
          refine mm_aload d_M_text_6 rfl ?_
          refine mm_getP d_M_text_7 rfl (sk_o_71 hM) (sk_p_71_2 hM) ?_
          refine mm_ciN 0 d_M_text_10 rfl ?_
          refine mm_ialdN d_M_text_11 (sk_a_73 hM) (by omega) (by decide) h73 ?_
          refine mm_putI d_M_text_12 rfl (sk_o_71 hM) (Or.inl rfl) ?_
          refine mm_aload d_M_text_15 rfl ?_
          refine mm_getP d_M_text_16 rfl (sk_o_71 hM) (sk_p_71_2 hM) ?_
          refine mm_ciN 0 d_M_text_19 rfl ?_
          refine mm_ciN 0 d_M_text_20 rfl ?_
          refine mm_iastX d_M_text_21 (sk_a_73 hM) (by omega) (by decide) ?_
          refine mm_aload d_M_text_22 rfl ?_
          refine mm_getP d_M_text_23 rfl (sk_o_71 hM) (sk_p_71_3 hM) ?_
          refine mm_ciN 0 d_M_text_26 rfl ?_
          refine mm_ciN 0 d_M_text_27 rfl ?_
          refine mm_iastX d_M_text_28 (sk_a_74 hM) (by omega) (by decide) ?_
          refine mm_aload d_M_text_29 rfl ?_
          refine mm_getP d_M_text_30 rfl (sk_o_71 hM) (sk_p_71_4 hM) ?_
          refine mm_ciN 0 d_M_text_33 rfl ?_
          refine mm_ci d_M_text_34 ?_
          refine mm_iastX d_M_text_35 (sk_a_75 hM) (by omega) (by decide) ?_
          refine mm_iload d_M_text_36 rfl ?_
          refine mm_ciN 0 d_M_text_37 rfl ?_
          refine mm_ciN 2 d_M_text_38 rfl ?_
          refine mm_s3i d_M_text_39 (sp_M_inT (by omega) (by omega) (by decide) ?_)
          refine mm_if_eqN d_M_text_42 (by first | omega | exact ite01_lt | exact bt8_lt31 _ _ | exact godB_lt31 _ _ _ | exact pop_lt31 _ | assumption | exact b31 (hW.gp (by omega)) | exact b31 (hW.ne (by omega)) | exact b31 (hW.op (by omega)) | exact and31 (hW.gp (by omega)) | exact and31 (hW.ne (by omega)) | exact and31 (hW.op (by omega)) | exact and31 (by assumption) | exact and31r (hW.ne (by omega)) | exact and31r (hW.gp (by omega)) | exact and31r (by decide)) (fun c_42 => False.elim (by omega)) (fun c_42 => ?_)
          refine mm_iload d_M_text_45 rfl ?_
          refine mm_ci d_M_text_46 ?_
          refine mm_icmp_neS d_M_text_47 ?_
          refine mm_aload d_M_text_50 rfl ?_
          refine mm_getP d_M_text_51 rfl (sk_o_71 hM) (sk_p_71_5 hM) ?_
          refine mm_iload d_M_text_54 rfl ?_
          refine mm_ialdN d_M_text_55 (sk_a_76 hM) (by omega) (by decide) h76' ?_
          refine mm_ciN 2 d_M_text_56 rfl ?_
          refine mm_icmp_neN d_M_text_57 (by first | omega | exact ite01_lt | exact bt8_lt31 _ _ | exact godB_lt31 _ _ _ | exact pop_lt31 _ | assumption | exact b31 (hW.gp (by omega)) | exact b31 (hW.ne (by omega)) | exact b31 (hW.op (by omega)) | exact and31 (hW.gp (by omega)) | exact and31 (hW.ne (by omega)) | exact and31 (hW.op (by omega)) | exact and31 (by assumption) | exact and31r (hW.ne (by omega)) | exact and31r (hW.gp (by omega)) | exact and31r (by decide)) (by first | omega | exact ite01_lt | exact bt8_lt31 _ _ | exact godB_lt31 _ _ _ | exact pop_lt31 _ | assumption | exact b31 (hW.gp (by omega)) | exact b31 (hW.ne (by omega)) | exact b31 (hW.op (by omega)) | exact and31 (hW.gp (by omega)) | exact and31 (hW.ne (by omega)) | exact and31 (hW.op (by omega)) | exact and31 (by assumption) | exact and31r (hW.ne (by omega)) | exact and31r (hW.gp (by omega)) | exact and31r (by decide)) (fun c_57 => ?_) (fun c_57 => False.elim (by omega))
          refine mm_aload d_M_text_75 rfl ?_
          refine mm_iload d_M_text_76 rfl ?_
          refine mm_v1i d_M_text_77 (sk_o_71 hM) (sp_M_readText (u := u) (L := n) hMx hs3 n1 mx5_k.1.2.2.2 hb (fun ν f hP k4 e74 e75 hRM => ?_))
          have hM := f.2.2.2 hMx
          have h76n : mm_I ν 76 0 = nI i := by rw [(f.2.2.1 76 rfl).1]; exact h76'
          refine mm_if_neN d_M_text_80 (by first | omega | exact ite01_lt | exact bt8_lt31 _ _ | exact godB_lt31 _ _ _ | exact pop_lt31 _ | assumption | exact b31 (hW.gp (by omega)) | exact b31 (hW.ne (by omega)) | exact b31 (hW.op (by omega)) | exact and31 (hW.gp (by omega)) | exact and31 (hW.ne (by omega)) | exact and31 (hW.op (by omega)) | exact and31 (by assumption) | exact and31r (hW.ne (by omega)) | exact and31r (hW.gp (by omega)) | exact and31r (by decide)) (fun c_80 => ?_) (fun c_80 => ?_)
          · refine mm_iload d_M_text_85 rfl ?_
            refine mm_ci d_M_text_86 ?_
            refine mm_icmp_neS d_M_text_87 ?_
            refine mm_aload d_M_text_90 rfl ?_
            refine mm_getP d_M_text_91 rfl (sk_o_71 hM) (sk_p_71_5 hM) ?_
            refine mm_iload d_M_text_94 rfl ?_
            refine mm_ialdN d_M_text_95 (sk_a_76 hM) (by omega) (by decide) h76n ?_
            refine mm_goto d_M_text_96 ?_
            refine mm_ist3 d_M_text_100 ?_
            refine mm_aload d_M_text_101 rfl ?_
            refine mm_getP d_M_text_102 rfl (sk_o_71 hM) (sk_p_71_5 hM) ?_
            refine mm_iload d_M_text_105 rfl ?_
            refine mm_dup2 d_M_text_106 rfl rfl ?_
            refine mm_ialdN d_M_text_107 (sk_a_76 hM) (by omega) (by decide) h76n ?_
            refine mm_iload d_M_text_108 rfl ?_
            refine mm_ci d_M_text_109 ?_
            refine mm_icmp_neS d_M_text_110 ?_
            refine mm_ciN 1 d_M_text_113 rfl ?_
            refine mm_goto d_M_text_114 ?_
            refine mm_iaddN d_M_text_118 ?_
            refine mm_iastX d_M_text_119 (sk_a_76 hM) (by omega) (by decide) ?_
            rw [show nI (i + 1) = nI (max i (i + 1)) by rw [show max i (i + 1) = i + 1 by omega]]
            refine mm_iload d_M_text_120 rfl ?_
            refine mm_if_neN d_M_text_121 (by first | omega | exact ite01_lt | exact bt8_lt31 _ _ | exact godB_lt31 _ _ _ | exact pop_lt31 _ | assumption | exact b31 (hW.gp (by omega)) | exact b31 (hW.ne (by omega)) | exact b31 (hW.op (by omega)) | exact and31 (hW.gp (by omega)) | exact and31 (hW.ne (by omega)) | exact and31 (hW.op (by omega)) | exact and31 (by assumption) | exact and31r (hW.ne (by omega)) | exact and31r (hW.gp (by omega)) | exact and31r (by decide)) (fun c_121 => False.elim (by omega)) (fun c_121 => ?_)
            refine mm_aload d_M_text_124 rfl ?_
            refine mm_aload d_M_text_125 rfl ?_
            refine mm_getP d_M_text_126 rfl (sk_o_71 hM) (sk_p_71_6 hM) ?_
            refine mm_ciN 44 d_M_text_129 rfl ?_
            refine mm_iload d_M_text_131 rfl ?_
            refine mm_v3v d_M_text_132 (sk_o_71 hM) (sp_M_store (L := 352) hM (sk_a_77 hM) (by decide) (by decide) (by omega) (by decide) (fun ξ g hP2 g1 g2 => ?_))
            refine mm_goto d_M_text_135 ?_
            refine mm_iload d_M_text_168 rfl ?_
            exact mm_ri d_M_text_169 ⟨(if_pos (ite01_ne c_80)).symm, text_ok0 hJ hA (ite01_ne c_80) f k4 e74 e75 (hRM (ite01_ne c_80)) c2 hic hi2 (hcl.1 rfl) g (fun j hj => (g1 j hj).trans (by rw [mm_sI_off (by decide)])) (fun j hj => (g2 j hj).trans (by rw [mm_sI_off (by decide)]))⟩
          · refine mm_ci d_M_text_83 ?_
            exact mm_ri d_M_text_84 ⟨(if_neg (ite01_eq c_80)).symm, text_bad hJ hA (ite01_eq c_80) f k4 e74 e75⟩
        · show mm_T X 12 0 0 k_M_text 0 [some (.ref 71), some (.int (nI 0)), some (.int (nI i)), none] [] μ1 _
          refine mm_aload d_M_text_0 rfl ?_
          refine mm_ciN 0 d_M_text_1 rfl ?_
          refine mm_putI d_M_text_2 rfl (sk_o_71 hM) (Or.inl rfl) ?_
          refine mm_aload d_M_text_5 rfl ?_
          refine mm_aload d_M_text_6 rfl ?_
          refine mm_getP d_M_text_7 rfl (sk_o_71 hM) (sk_p_71_2 hM) ?_
          refine mm_ciN 0 d_M_text_10 rfl ?_
          refine mm_ialdN d_M_text_11 (sk_a_73 hM) (by omega) (by decide) h73 ?_
          refine mm_putI d_M_text_12 rfl (sk_o_71 hM) (Or.inl rfl) ?_
          refine mm_aload d_M_text_15 rfl ?_
          refine mm_getP d_M_text_16 rfl (sk_o_71 hM) (sk_p_71_2 hM) ?_
          refine mm_ciN 0 d_M_text_19 rfl ?_
          refine mm_ciN 0 d_M_text_20 rfl ?_
          refine mm_iastX d_M_text_21 (sk_a_73 hM) (by omega) (by decide) ?_
          refine mm_aload d_M_text_22 rfl ?_
          refine mm_getP d_M_text_23 rfl (sk_o_71 hM) (sk_p_71_3 hM) ?_
          refine mm_ciN 0 d_M_text_26 rfl ?_
          refine mm_ciN 0 d_M_text_27 rfl ?_
          refine mm_iastX d_M_text_28 (sk_a_74 hM) (by omega) (by decide) ?_
          refine mm_aload d_M_text_29 rfl ?_
          refine mm_getP d_M_text_30 rfl (sk_o_71 hM) (sk_p_71_4 hM) ?_
          refine mm_ciN 0 d_M_text_33 rfl ?_
          refine mm_ci d_M_text_34 ?_
          refine mm_iastX d_M_text_35 (sk_a_75 hM) (by omega) (by decide) ?_
          refine mm_iload d_M_text_36 rfl ?_
          refine mm_ciN 0 d_M_text_37 rfl ?_
          refine mm_ciN 2 d_M_text_38 rfl ?_
          refine mm_s3i d_M_text_39 (sp_M_inT (by omega) (by omega) (by decide) ?_)
          refine mm_if_eqN d_M_text_42 (by first | omega | exact ite01_lt | exact bt8_lt31 _ _ | exact godB_lt31 _ _ _ | exact pop_lt31 _ | assumption | exact b31 (hW.gp (by omega)) | exact b31 (hW.ne (by omega)) | exact b31 (hW.op (by omega)) | exact and31 (hW.gp (by omega)) | exact and31 (hW.ne (by omega)) | exact and31 (hW.op (by omega)) | exact and31 (by assumption) | exact and31r (hW.ne (by omega)) | exact and31r (hW.gp (by omega)) | exact and31r (by decide)) (fun c_42 => False.elim (by omega)) (fun c_42 => ?_)
          refine mm_iload d_M_text_45 rfl ?_
          refine mm_ci d_M_text_46 ?_
          refine mm_icmp_neM1 d_M_text_47 (by first | omega | exact ite01_lt | exact bt8_lt31 _ _ | exact godB_lt31 _ _ _ | exact pop_lt31 _ | assumption | exact b31 (hW.gp (by omega)) | exact b31 (hW.ne (by omega)) | exact b31 (hW.op (by omega)) | exact and31 (hW.gp (by omega)) | exact and31 (hW.ne (by omega)) | exact and31 (hW.op (by omega)) | exact and31 (by assumption) | exact and31r (hW.ne (by omega)) | exact and31r (hW.gp (by omega)) | exact and31r (by decide)) ?_
          refine mm_aload d_M_text_63 rfl ?_
          refine mm_iload d_M_text_64 rfl ?_
          refine mm_iload d_M_text_65 rfl ?_
          refine mm_v2i d_M_text_66 (sk_o_71 hM) (sp_M_is (c := c) hM (by omega) h76' c2 ?_)
          rw [isF_at (by omega) hi]
          refine mm_if_ne d_M_text_69 (fun c_69 => ?_) (fun c_69 => False.elim (c_69 (by decide)))
          refine mm_aload d_M_text_75 rfl ?_
          refine mm_iload d_M_text_76 rfl ?_
          refine mm_v1i d_M_text_77 (sk_o_71 hM) (sp_M_readText (u := u) (L := n) hMx hs3 n1 mx5_k.1.2.2.2 hb (fun ν f hP k4 e74 e75 hRM => ?_))
          have hM := f.2.2.2 hMx
          have h76n : mm_I ν 76 0 = nI c := by rw [(f.2.2.1 76 rfl).1]; exact h76'
          refine mm_if_neN d_M_text_80 (by first | omega | exact ite01_lt | exact bt8_lt31 _ _ | exact godB_lt31 _ _ _ | exact pop_lt31 _ | assumption | exact b31 (hW.gp (by omega)) | exact b31 (hW.ne (by omega)) | exact b31 (hW.op (by omega)) | exact and31 (hW.gp (by omega)) | exact and31 (hW.ne (by omega)) | exact and31 (hW.op (by omega)) | exact and31 (by assumption) | exact and31r (hW.ne (by omega)) | exact and31r (hW.gp (by omega)) | exact and31r (by decide)) (fun c_80 => ?_) (fun c_80 => ?_)
          · refine mm_iload d_M_text_85 rfl ?_
            refine mm_ci d_M_text_86 ?_
            refine mm_icmp_neM1 d_M_text_87 (by first | omega | exact ite01_lt | exact bt8_lt31 _ _ | exact godB_lt31 _ _ _ | exact pop_lt31 _ | assumption | exact b31 (hW.gp (by omega)) | exact b31 (hW.ne (by omega)) | exact b31 (hW.op (by omega)) | exact and31 (hW.gp (by omega)) | exact and31 (hW.ne (by omega)) | exact and31 (hW.op (by omega)) | exact and31 (by assumption) | exact and31r (hW.ne (by omega)) | exact and31r (hW.gp (by omega)) | exact and31r (by decide)) ?_
            refine mm_iload d_M_text_99 rfl ?_
            refine mm_ist3 d_M_text_100 ?_
            refine mm_aload d_M_text_101 rfl ?_
            refine mm_getP d_M_text_102 rfl (sk_o_71 hM) (sk_p_71_5 hM) ?_
            refine mm_iload d_M_text_105 rfl ?_
            refine mm_dup2 d_M_text_106 rfl rfl ?_
            refine mm_ialdN d_M_text_107 (sk_a_76 hM) (by omega) (by decide) h76n ?_
            refine mm_iload d_M_text_108 rfl ?_
            refine mm_ci d_M_text_109 ?_
            refine mm_icmp_neM1 d_M_text_110 (by first | omega | exact ite01_lt | exact bt8_lt31 _ _ | exact godB_lt31 _ _ _ | exact pop_lt31 _ | assumption | exact b31 (hW.gp (by omega)) | exact b31 (hW.ne (by omega)) | exact b31 (hW.op (by omega)) | exact and31 (hW.gp (by omega)) | exact and31 (hW.ne (by omega)) | exact and31 (hW.op (by omega)) | exact and31 (by assumption) | exact and31r (hW.ne (by omega)) | exact and31r (hW.gp (by omega)) | exact and31r (by decide)) ?_
            refine mm_ciN 0 d_M_text_117 rfl ?_
            refine mm_iaddN d_M_text_118 ?_
            refine mm_iastX d_M_text_119 (sk_a_76 hM) (by omega) (by decide) ?_
            rw [show nI (c + 0) = nI (max c (i + 1)) by rw [show max c (i + 1) = c + 0 by omega]]
            refine mm_iload d_M_text_120 rfl ?_
            refine mm_if_neN d_M_text_121 (by first | omega | exact ite01_lt | exact bt8_lt31 _ _ | exact godB_lt31 _ _ _ | exact pop_lt31 _ | assumption | exact b31 (hW.gp (by omega)) | exact b31 (hW.ne (by omega)) | exact b31 (hW.op (by omega)) | exact and31 (hW.gp (by omega)) | exact and31 (hW.ne (by omega)) | exact and31 (hW.op (by omega)) | exact and31 (by assumption) | exact and31r (hW.ne (by omega)) | exact and31r (hW.gp (by omega)) | exact and31r (by decide)) (fun c_121 => False.elim (by omega)) (fun c_121 => ?_)
            refine mm_aload d_M_text_124 rfl ?_
            refine mm_aload d_M_text_125 rfl ?_
            refine mm_getP d_M_text_126 rfl (sk_o_71 hM) (sk_p_71_6 hM) ?_
            refine mm_ciN 44 d_M_text_129 rfl ?_
            refine mm_iload d_M_text_131 rfl ?_
            refine mm_v3v d_M_text_132 (sk_o_71 hM) (sp_M_store (L := 352) hM (sk_a_77 hM) (by decide) (by decide) (by omega) (by decide) (fun ξ g hP2 g1 g2 => ?_))
            refine mm_goto d_M_text_135 ?_
            refine mm_iload d_M_text_168 rfl ?_
            exact mm_ri d_M_text_169 ⟨(if_pos (ite01_ne c_80)).symm, text_ok0 hJ hA (ite01_ne c_80) f k4 e74 e75 (hRM (ite01_ne c_80)) c2 hic hi2 (hcl.1 rfl) g (fun j hj => (g1 j hj).trans (by rw [mm_sI_off (by decide)])) (fun j hj => (g2 j hj).trans (by rw [mm_sI_off (by decide)]))⟩
          · refine mm_ci d_M_text_83 ?_
            exact mm_ri d_M_text_84 ⟨(if_neg (ite01_eq c_80)).symm, text_bad hJ hA (ite01_eq c_80) f k4 e74 e75⟩
      · rcases hy with ⟨rfl, rfl⟩ | ⟨rfl, hi⟩
        · show mm_T X 12 0 0 k_M_text 0 [some (.ref 71), some (.int (nI 1)), some (.int (-1)), none] [] μ1 _
          refine mm_aload d_M_text_0 rfl ?_
          refine mm_ciN 0 d_M_text_1 rfl ?_
          refine mm_putI d_M_text_2 rfl (sk_o_71 hM) (Or.inl rfl) ?_
          refine mm_aload d_M_text_5 rfl ?_
          refine mm_aload d_M_text_6 rfl ?_
          refine mm_getP d_M_text_7 rfl (sk_o_71 hM) (sk_p_71_2 hM) ?_
          refine mm_ciN 0 d_M_text_10 rfl ?_
          refine mm_ialdN d_M_text_11 (sk_a_73 hM) (by omega) (by decide) h73 ?_
          refine mm_putI d_M_text_12 rfl (sk_o_71 hM) (Or.inl rfl) ?_
          refine mm_aload d_M_text_15 rfl ?_
          refine mm_getP d_M_text_16 rfl (sk_o_71 hM) (sk_p_71_2 hM) ?_
          refine mm_ciN 0 d_M_text_19 rfl ?_
          refine mm_ciN 0 d_M_text_20 rfl ?_
          refine mm_iastX d_M_text_21 (sk_a_73 hM) (by omega) (by decide) ?_
          refine mm_aload d_M_text_22 rfl ?_
          refine mm_getP d_M_text_23 rfl (sk_o_71 hM) (sk_p_71_3 hM) ?_
          refine mm_ciN 0 d_M_text_26 rfl ?_
          refine mm_ciN 0 d_M_text_27 rfl ?_
          refine mm_iastX d_M_text_28 (sk_a_74 hM) (by omega) (by decide) ?_
          refine mm_aload d_M_text_29 rfl ?_
          refine mm_getP d_M_text_30 rfl (sk_o_71 hM) (sk_p_71_4 hM) ?_
          refine mm_ciN 0 d_M_text_33 rfl ?_
          refine mm_ci d_M_text_34 ?_
          refine mm_iastX d_M_text_35 (sk_a_75 hM) (by omega) (by decide) ?_
          refine mm_iload d_M_text_36 rfl ?_
          refine mm_ciN 0 d_M_text_37 rfl ?_
          refine mm_ciN 2 d_M_text_38 rfl ?_
          refine mm_s3i d_M_text_39 (sp_M_inT (by omega) (by omega) (by decide) ?_)
          refine mm_if_eqN d_M_text_42 (by first | omega | exact ite01_lt | exact bt8_lt31 _ _ | exact godB_lt31 _ _ _ | exact pop_lt31 _ | assumption | exact b31 (hW.gp (by omega)) | exact b31 (hW.ne (by omega)) | exact b31 (hW.op (by omega)) | exact and31 (hW.gp (by omega)) | exact and31 (hW.ne (by omega)) | exact and31 (hW.op (by omega)) | exact and31 (by assumption) | exact and31r (hW.ne (by omega)) | exact and31r (hW.gp (by omega)) | exact and31r (by decide)) (fun c_42 => False.elim (by omega)) (fun c_42 => ?_)
          refine mm_iload d_M_text_45 rfl ?_
          refine mm_ci d_M_text_46 ?_
          refine mm_icmp_neS d_M_text_47 ?_
          refine mm_aload d_M_text_50 rfl ?_
          refine mm_getP d_M_text_51 rfl (sk_o_71 hM) (sk_p_71_5 hM) ?_
          refine mm_iload d_M_text_54 rfl ?_
          refine mm_ialdN d_M_text_55 (sk_a_76 hM) (by omega) (by decide) h76' ?_
          refine mm_ciN 2 d_M_text_56 rfl ?_
          refine mm_icmp_neN d_M_text_57 (by first | omega | exact ite01_lt | exact bt8_lt31 _ _ | exact godB_lt31 _ _ _ | exact pop_lt31 _ | assumption | exact b31 (hW.gp (by omega)) | exact b31 (hW.ne (by omega)) | exact b31 (hW.op (by omega)) | exact and31 (hW.gp (by omega)) | exact and31 (hW.ne (by omega)) | exact and31 (hW.op (by omega)) | exact and31 (by assumption) | exact and31r (hW.ne (by omega)) | exact and31r (hW.gp (by omega)) | exact and31r (by decide)) (by first | omega | exact ite01_lt | exact bt8_lt31 _ _ | exact godB_lt31 _ _ _ | exact pop_lt31 _ | assumption | exact b31 (hW.gp (by omega)) | exact b31 (hW.ne (by omega)) | exact b31 (hW.op (by omega)) | exact and31 (hW.gp (by omega)) | exact and31 (hW.ne (by omega)) | exact and31 (hW.op (by omega)) | exact and31 (by assumption) | exact and31r (hW.ne (by omega)) | exact and31r (hW.gp (by omega)) | exact and31r (by decide)) (fun c_57 => ?_) (fun c_57 => False.elim (by omega))
          refine mm_aload d_M_text_75 rfl ?_
          refine mm_iload d_M_text_76 rfl ?_
          refine mm_v1i d_M_text_77 (sk_o_71 hM) (sp_M_readText (u := u) (L := n) hMx hs3 n1 mx5_k.1.2.2.2 hb (fun ν f hP k4 e74 e75 hRM => ?_))
          have hM := f.2.2.2 hMx
          have h76n : mm_I ν 76 1 = nI i := by rw [(f.2.2.1 76 rfl).1]; exact h76'
          refine mm_if_neN d_M_text_80 (by first | omega | exact ite01_lt | exact bt8_lt31 _ _ | exact godB_lt31 _ _ _ | exact pop_lt31 _ | assumption | exact b31 (hW.gp (by omega)) | exact b31 (hW.ne (by omega)) | exact b31 (hW.op (by omega)) | exact and31 (hW.gp (by omega)) | exact and31 (hW.ne (by omega)) | exact and31 (hW.op (by omega)) | exact and31 (by assumption) | exact and31r (hW.ne (by omega)) | exact and31r (hW.gp (by omega)) | exact and31r (by decide)) (fun c_80 => ?_) (fun c_80 => ?_)
          · refine mm_iload d_M_text_85 rfl ?_
            refine mm_ci d_M_text_86 ?_
            refine mm_icmp_neS d_M_text_87 ?_
            refine mm_aload d_M_text_90 rfl ?_
            refine mm_getP d_M_text_91 rfl (sk_o_71 hM) (sk_p_71_5 hM) ?_
            refine mm_iload d_M_text_94 rfl ?_
            refine mm_ialdN d_M_text_95 (sk_a_76 hM) (by omega) (by decide) h76n ?_
            refine mm_goto d_M_text_96 ?_
            refine mm_ist3 d_M_text_100 ?_
            refine mm_aload d_M_text_101 rfl ?_
            refine mm_getP d_M_text_102 rfl (sk_o_71 hM) (sk_p_71_5 hM) ?_
            refine mm_iload d_M_text_105 rfl ?_
            refine mm_dup2 d_M_text_106 rfl rfl ?_
            refine mm_ialdN d_M_text_107 (sk_a_76 hM) (by omega) (by decide) h76n ?_
            refine mm_iload d_M_text_108 rfl ?_
            refine mm_ci d_M_text_109 ?_
            refine mm_icmp_neS d_M_text_110 ?_
            refine mm_ciN 1 d_M_text_113 rfl ?_
            refine mm_goto d_M_text_114 ?_
            refine mm_iaddN d_M_text_118 ?_
            refine mm_iastX d_M_text_119 (sk_a_76 hM) (by omega) (by decide) ?_
            rw [show nI (i + 1) = nI (max i (i + 1)) by rw [show max i (i + 1) = i + 1 by omega]]
            refine mm_iload d_M_text_120 rfl ?_
            refine mm_if_neN d_M_text_121 (by first | omega | exact ite01_lt | exact bt8_lt31 _ _ | exact godB_lt31 _ _ _ | exact pop_lt31 _ | assumption | exact b31 (hW.gp (by omega)) | exact b31 (hW.ne (by omega)) | exact b31 (hW.op (by omega)) | exact and31 (hW.gp (by omega)) | exact and31 (hW.ne (by omega)) | exact and31 (hW.op (by omega)) | exact and31 (by assumption) | exact and31r (hW.ne (by omega)) | exact and31r (hW.gp (by omega)) | exact and31r (by decide)) (fun c_121 => ?_) (fun c_121 => False.elim (by omega))
            refine mm_iload d_M_text_138 rfl ?_
            refine mm_ciN 1 d_M_text_139 rfl ?_
            refine mm_icmp_neN d_M_text_140 (by first | omega | exact ite01_lt | exact bt8_lt31 _ _ | exact godB_lt31 _ _ _ | exact pop_lt31 _ | assumption | exact b31 (hW.gp (by omega)) | exact b31 (hW.ne (by omega)) | exact b31 (hW.op (by omega)) | exact and31 (hW.gp (by omega)) | exact and31 (hW.ne (by omega)) | exact and31 (hW.op (by omega)) | exact and31 (by assumption) | exact and31r (hW.ne (by omega)) | exact and31r (hW.gp (by omega)) | exact and31r (by decide)) (by first | omega | exact ite01_lt | exact bt8_lt31 _ _ | exact godB_lt31 _ _ _ | exact pop_lt31 _ | assumption | exact b31 (hW.gp (by omega)) | exact b31 (hW.ne (by omega)) | exact b31 (hW.op (by omega)) | exact and31 (hW.gp (by omega)) | exact and31 (hW.ne (by omega)) | exact and31 (hW.op (by omega)) | exact and31 (by assumption) | exact and31r (hW.ne (by omega)) | exact and31r (hW.gp (by omega)) | exact and31r (by decide)) (fun c_140 => False.elim (by omega)) (fun c_140 => ?_)
            refine mm_aload d_M_text_143 rfl ?_
            refine mm_aload d_M_text_144 rfl ?_
            refine mm_getP d_M_text_145 rfl (sk_o_71 hM) (sk_p_71_7 hM) ?_
            refine mm_ciN 121 d_M_text_148 rfl ?_
            refine mm_iload d_M_text_150 rfl ?_
            refine mm_v3v d_M_text_151 (sk_o_71 hM) (sp_M_store (L := 968) hM (sk_a_78 hM) (by decide) (by decide) (by omega) (by decide) (fun ξ g hP2 g1 g2 => ?_))
            refine mm_goto d_M_text_154 ?_
            refine mm_iload d_M_text_168 rfl ?_
            exact mm_ri d_M_text_169 ⟨(if_pos (ite01_ne c_80)).symm, text_ok1 hJ hA (ite01_ne c_80) f k4 e74 e75 (hRM (ite01_ne c_80)) c2 hic hi2 (hcl.2.1 rfl) g (fun j hj => (g1 j hj).trans (by rw [mm_sI_off (by decide)])) (fun j hj => (g2 j hj).trans (by rw [mm_sI_off (by decide)]))⟩
          · refine mm_ci d_M_text_83 ?_
            exact mm_ri d_M_text_84 ⟨(if_neg (ite01_eq c_80)).symm, text_bad hJ hA (ite01_eq c_80) f k4 e74 e75⟩
        · show mm_T X 12 0 0 k_M_text 0 [some (.ref 71), some (.int (nI 1)), some (.int (nI i)), none] [] μ1 _
          refine mm_aload d_M_text_0 rfl ?_
          refine mm_ciN 0 d_M_text_1 rfl ?_
          refine mm_putI d_M_text_2 rfl (sk_o_71 hM) (Or.inl rfl) ?_
          refine mm_aload d_M_text_5 rfl ?_
          refine mm_aload d_M_text_6 rfl ?_
          refine mm_getP d_M_text_7 rfl (sk_o_71 hM) (sk_p_71_2 hM) ?_
          refine mm_ciN 0 d_M_text_10 rfl ?_
          refine mm_ialdN d_M_text_11 (sk_a_73 hM) (by omega) (by decide) h73 ?_
          refine mm_putI d_M_text_12 rfl (sk_o_71 hM) (Or.inl rfl) ?_
          refine mm_aload d_M_text_15 rfl ?_
          refine mm_getP d_M_text_16 rfl (sk_o_71 hM) (sk_p_71_2 hM) ?_
          refine mm_ciN 0 d_M_text_19 rfl ?_
          refine mm_ciN 0 d_M_text_20 rfl ?_
          refine mm_iastX d_M_text_21 (sk_a_73 hM) (by omega) (by decide) ?_
          refine mm_aload d_M_text_22 rfl ?_
          refine mm_getP d_M_text_23 rfl (sk_o_71 hM) (sk_p_71_3 hM) ?_
          refine mm_ciN 0 d_M_text_26 rfl ?_
          refine mm_ciN 0 d_M_text_27 rfl ?_
          refine mm_iastX d_M_text_28 (sk_a_74 hM) (by omega) (by decide) ?_
          refine mm_aload d_M_text_29 rfl ?_
          refine mm_getP d_M_text_30 rfl (sk_o_71 hM) (sk_p_71_4 hM) ?_
          refine mm_ciN 0 d_M_text_33 rfl ?_
          refine mm_ci d_M_text_34 ?_
          refine mm_iastX d_M_text_35 (sk_a_75 hM) (by omega) (by decide) ?_
          refine mm_iload d_M_text_36 rfl ?_
          refine mm_ciN 0 d_M_text_37 rfl ?_
          refine mm_ciN 2 d_M_text_38 rfl ?_
          refine mm_s3i d_M_text_39 (sp_M_inT (by omega) (by omega) (by decide) ?_)
          refine mm_if_eqN d_M_text_42 (by first | omega | exact ite01_lt | exact bt8_lt31 _ _ | exact godB_lt31 _ _ _ | exact pop_lt31 _ | assumption | exact b31 (hW.gp (by omega)) | exact b31 (hW.ne (by omega)) | exact b31 (hW.op (by omega)) | exact and31 (hW.gp (by omega)) | exact and31 (hW.ne (by omega)) | exact and31 (hW.op (by omega)) | exact and31 (by assumption) | exact and31r (hW.ne (by omega)) | exact and31r (hW.gp (by omega)) | exact and31r (by decide)) (fun c_42 => False.elim (by omega)) (fun c_42 => ?_)
          refine mm_iload d_M_text_45 rfl ?_
          refine mm_ci d_M_text_46 ?_
          refine mm_icmp_neM1 d_M_text_47 (by first | omega | exact ite01_lt | exact bt8_lt31 _ _ | exact godB_lt31 _ _ _ | exact pop_lt31 _ | assumption | exact b31 (hW.gp (by omega)) | exact b31 (hW.ne (by omega)) | exact b31 (hW.op (by omega)) | exact and31 (hW.gp (by omega)) | exact and31 (hW.ne (by omega)) | exact and31 (hW.op (by omega)) | exact and31 (by assumption) | exact and31r (hW.ne (by omega)) | exact and31r (hW.gp (by omega)) | exact and31r (by decide)) ?_
          refine mm_aload d_M_text_63 rfl ?_
          refine mm_iload d_M_text_64 rfl ?_
          refine mm_iload d_M_text_65 rfl ?_
          refine mm_v2i d_M_text_66 (sk_o_71 hM) (sp_M_is (c := c) hM (by omega) h76' c2 ?_)
          rw [isF_at (by omega) hi]
          refine mm_if_ne d_M_text_69 (fun c_69 => ?_) (fun c_69 => False.elim (c_69 (by decide)))
          refine mm_aload d_M_text_75 rfl ?_
          refine mm_iload d_M_text_76 rfl ?_
          refine mm_v1i d_M_text_77 (sk_o_71 hM) (sp_M_readText (u := u) (L := n) hMx hs3 n1 mx5_k.1.2.2.2 hb (fun ν f hP k4 e74 e75 hRM => ?_))
          have hM := f.2.2.2 hMx
          have h76n : mm_I ν 76 1 = nI c := by rw [(f.2.2.1 76 rfl).1]; exact h76'
          refine mm_if_neN d_M_text_80 (by first | omega | exact ite01_lt | exact bt8_lt31 _ _ | exact godB_lt31 _ _ _ | exact pop_lt31 _ | assumption | exact b31 (hW.gp (by omega)) | exact b31 (hW.ne (by omega)) | exact b31 (hW.op (by omega)) | exact and31 (hW.gp (by omega)) | exact and31 (hW.ne (by omega)) | exact and31 (hW.op (by omega)) | exact and31 (by assumption) | exact and31r (hW.ne (by omega)) | exact and31r (hW.gp (by omega)) | exact and31r (by decide)) (fun c_80 => ?_) (fun c_80 => ?_)
          · refine mm_iload d_M_text_85 rfl ?_
            refine mm_ci d_M_text_86 ?_
            refine mm_icmp_neM1 d_M_text_87 (by first | omega | exact ite01_lt | exact bt8_lt31 _ _ | exact godB_lt31 _ _ _ | exact pop_lt31 _ | assumption | exact b31 (hW.gp (by omega)) | exact b31 (hW.ne (by omega)) | exact b31 (hW.op (by omega)) | exact and31 (hW.gp (by omega)) | exact and31 (hW.ne (by omega)) | exact and31 (hW.op (by omega)) | exact and31 (by assumption) | exact and31r (hW.ne (by omega)) | exact and31r (hW.gp (by omega)) | exact and31r (by decide)) ?_
            refine mm_iload d_M_text_99 rfl ?_
            refine mm_ist3 d_M_text_100 ?_
            refine mm_aload d_M_text_101 rfl ?_
            refine mm_getP d_M_text_102 rfl (sk_o_71 hM) (sk_p_71_5 hM) ?_
            refine mm_iload d_M_text_105 rfl ?_
            refine mm_dup2 d_M_text_106 rfl rfl ?_
            refine mm_ialdN d_M_text_107 (sk_a_76 hM) (by omega) (by decide) h76n ?_
            refine mm_iload d_M_text_108 rfl ?_
            refine mm_ci d_M_text_109 ?_
            refine mm_icmp_neM1 d_M_text_110 (by first | omega | exact ite01_lt | exact bt8_lt31 _ _ | exact godB_lt31 _ _ _ | exact pop_lt31 _ | assumption | exact b31 (hW.gp (by omega)) | exact b31 (hW.ne (by omega)) | exact b31 (hW.op (by omega)) | exact and31 (hW.gp (by omega)) | exact and31 (hW.ne (by omega)) | exact and31 (hW.op (by omega)) | exact and31 (by assumption) | exact and31r (hW.ne (by omega)) | exact and31r (hW.gp (by omega)) | exact and31r (by decide)) ?_
            refine mm_ciN 0 d_M_text_117 rfl ?_
            refine mm_iaddN d_M_text_118 ?_
            refine mm_iastX d_M_text_119 (sk_a_76 hM) (by omega) (by decide) ?_
            rw [show nI (c + 0) = nI (max c (i + 1)) by rw [show max c (i + 1) = c + 0 by omega]]
            refine mm_iload d_M_text_120 rfl ?_
            refine mm_if_neN d_M_text_121 (by first | omega | exact ite01_lt | exact bt8_lt31 _ _ | exact godB_lt31 _ _ _ | exact pop_lt31 _ | assumption | exact b31 (hW.gp (by omega)) | exact b31 (hW.ne (by omega)) | exact b31 (hW.op (by omega)) | exact and31 (hW.gp (by omega)) | exact and31 (hW.ne (by omega)) | exact and31 (hW.op (by omega)) | exact and31 (by assumption) | exact and31r (hW.ne (by omega)) | exact and31r (hW.gp (by omega)) | exact and31r (by decide)) (fun c_121 => ?_) (fun c_121 => False.elim (by omega))
            refine mm_iload d_M_text_138 rfl ?_
            refine mm_ciN 1 d_M_text_139 rfl ?_
            refine mm_icmp_neN d_M_text_140 (by first | omega | exact ite01_lt | exact bt8_lt31 _ _ | exact godB_lt31 _ _ _ | exact pop_lt31 _ | assumption | exact b31 (hW.gp (by omega)) | exact b31 (hW.ne (by omega)) | exact b31 (hW.op (by omega)) | exact and31 (hW.gp (by omega)) | exact and31 (hW.ne (by omega)) | exact and31 (hW.op (by omega)) | exact and31 (by assumption) | exact and31r (hW.ne (by omega)) | exact and31r (hW.gp (by omega)) | exact and31r (by decide)) (by first | omega | exact ite01_lt | exact bt8_lt31 _ _ | exact godB_lt31 _ _ _ | exact pop_lt31 _ | assumption | exact b31 (hW.gp (by omega)) | exact b31 (hW.ne (by omega)) | exact b31 (hW.op (by omega)) | exact and31 (hW.gp (by omega)) | exact and31 (hW.ne (by omega)) | exact and31 (hW.op (by omega)) | exact and31 (by assumption) | exact and31r (hW.ne (by omega)) | exact and31r (hW.gp (by omega)) | exact and31r (by decide)) (fun c_140 => False.elim (by omega)) (fun c_140 => ?_)
            refine mm_aload d_M_text_143 rfl ?_
            refine mm_aload d_M_text_144 rfl ?_
            refine mm_getP d_M_text_145 rfl (sk_o_71 hM) (sk_p_71_7 hM) ?_
            refine mm_ciN 121 d_M_text_148 rfl ?_
            refine mm_iload d_M_text_150 rfl ?_
            refine mm_v3v d_M_text_151 (sk_o_71 hM) (sp_M_store (L := 968) hM (sk_a_78 hM) (by decide) (by decide) (by omega) (by decide) (fun ξ g hP2 g1 g2 => ?_))
            refine mm_goto d_M_text_154 ?_
            refine mm_iload d_M_text_168 rfl ?_
            exact mm_ri d_M_text_169 ⟨(if_pos (ite01_ne c_80)).symm, text_ok1 hJ hA (ite01_ne c_80) f k4 e74 e75 (hRM (ite01_ne c_80)) c2 hic hi2 (hcl.2.1 rfl) g (fun j hj => (g1 j hj).trans (by rw [mm_sI_off (by decide)])) (fun j hj => (g2 j hj).trans (by rw [mm_sI_off (by decide)]))⟩
          · refine mm_ci d_M_text_83 ?_
            exact mm_ri d_M_text_84 ⟨(if_neg (ite01_eq c_80)).symm, text_bad hJ hA (ite01_eq c_80) f k4 e74 e75⟩
      · rcases hy with ⟨rfl, rfl⟩ | ⟨rfl, hi⟩
        · show mm_T X 12 0 0 k_M_text 0 [some (.ref 71), some (.int (nI 2)), some (.int (-1)), none] [] μ1 _
          refine mm_aload d_M_text_0 rfl ?_
          refine mm_ciN 0 d_M_text_1 rfl ?_
          refine mm_putI d_M_text_2 rfl (sk_o_71 hM) (Or.inl rfl) ?_
          refine mm_aload d_M_text_5 rfl ?_
          refine mm_aload d_M_text_6 rfl ?_
          refine mm_getP d_M_text_7 rfl (sk_o_71 hM) (sk_p_71_2 hM) ?_
          refine mm_ciN 0 d_M_text_10 rfl ?_
          refine mm_ialdN d_M_text_11 (sk_a_73 hM) (by omega) (by decide) h73 ?_
          refine mm_putI d_M_text_12 rfl (sk_o_71 hM) (Or.inl rfl) ?_
          refine mm_aload d_M_text_15 rfl ?_
          refine mm_getP d_M_text_16 rfl (sk_o_71 hM) (sk_p_71_2 hM) ?_
          refine mm_ciN 0 d_M_text_19 rfl ?_
          refine mm_ciN 0 d_M_text_20 rfl ?_
          refine mm_iastX d_M_text_21 (sk_a_73 hM) (by omega) (by decide) ?_
          refine mm_aload d_M_text_22 rfl ?_
          refine mm_getP d_M_text_23 rfl (sk_o_71 hM) (sk_p_71_3 hM) ?_
          refine mm_ciN 0 d_M_text_26 rfl ?_
          refine mm_ciN 0 d_M_text_27 rfl ?_
          refine mm_iastX d_M_text_28 (sk_a_74 hM) (by omega) (by decide) ?_
          refine mm_aload d_M_text_29 rfl ?_
          refine mm_getP d_M_text_30 rfl (sk_o_71 hM) (sk_p_71_4 hM) ?_
          refine mm_ciN 0 d_M_text_33 rfl ?_
          refine mm_ci d_M_text_34 ?_
          refine mm_iastX d_M_text_35 (sk_a_75 hM) (by omega) (by decide) ?_
          refine mm_iload d_M_text_36 rfl ?_
          refine mm_ciN 0 d_M_text_37 rfl ?_
          refine mm_ciN 2 d_M_text_38 rfl ?_
          refine mm_s3i d_M_text_39 (sp_M_inT (by omega) (by omega) (by decide) ?_)
          refine mm_if_eqN d_M_text_42 (by first | omega | exact ite01_lt | exact bt8_lt31 _ _ | exact godB_lt31 _ _ _ | exact pop_lt31 _ | assumption | exact b31 (hW.gp (by omega)) | exact b31 (hW.ne (by omega)) | exact b31 (hW.op (by omega)) | exact and31 (hW.gp (by omega)) | exact and31 (hW.ne (by omega)) | exact and31 (hW.op (by omega)) | exact and31 (by assumption) | exact and31r (hW.ne (by omega)) | exact and31r (hW.gp (by omega)) | exact and31r (by decide)) (fun c_42 => False.elim (by omega)) (fun c_42 => ?_)
          refine mm_iload d_M_text_45 rfl ?_
          refine mm_ci d_M_text_46 ?_
          refine mm_icmp_neS d_M_text_47 ?_
          refine mm_aload d_M_text_50 rfl ?_
          refine mm_getP d_M_text_51 rfl (sk_o_71 hM) (sk_p_71_5 hM) ?_
          refine mm_iload d_M_text_54 rfl ?_
          refine mm_ialdN d_M_text_55 (sk_a_76 hM) (by omega) (by decide) h76' ?_
          refine mm_ciN 2 d_M_text_56 rfl ?_
          refine mm_icmp_neN d_M_text_57 (by first | omega | exact ite01_lt | exact bt8_lt31 _ _ | exact godB_lt31 _ _ _ | exact pop_lt31 _ | assumption | exact b31 (hW.gp (by omega)) | exact b31 (hW.ne (by omega)) | exact b31 (hW.op (by omega)) | exact and31 (hW.gp (by omega)) | exact and31 (hW.ne (by omega)) | exact and31 (hW.op (by omega)) | exact and31 (by assumption) | exact and31r (hW.ne (by omega)) | exact and31r (hW.gp (by omega)) | exact and31r (by decide)) (by first | omega | exact ite01_lt | exact bt8_lt31 _ _ | exact godB_lt31 _ _ _ | exact pop_lt31 _ | assumption | exact b31 (hW.gp (by omega)) | exact b31 (hW.ne (by omega)) | exact b31 (hW.op (by omega)) | exact and31 (hW.gp (by omega)) | exact and31 (hW.ne (by omega)) | exact and31 (hW.op (by omega)) | exact and31 (by assumption) | exact and31r (hW.ne (by omega)) | exact and31r (hW.gp (by omega)) | exact and31r (by decide)) (fun c_57 => ?_) (fun c_57 => False.elim (by omega))
          refine mm_aload d_M_text_75 rfl ?_
          refine mm_iload d_M_text_76 rfl ?_
          refine mm_v1i d_M_text_77 (sk_o_71 hM) (sp_M_readText (u := u) (L := n) hMx hs3 n1 mx5_k.1.2.2.2 hb (fun ν f hP k4 e74 e75 hRM => ?_))
          have hM := f.2.2.2 hMx
          have h76n : mm_I ν 76 2 = nI i := by rw [(f.2.2.1 76 rfl).1]; exact h76'
          refine mm_if_neN d_M_text_80 (by first | omega | exact ite01_lt | exact bt8_lt31 _ _ | exact godB_lt31 _ _ _ | exact pop_lt31 _ | assumption | exact b31 (hW.gp (by omega)) | exact b31 (hW.ne (by omega)) | exact b31 (hW.op (by omega)) | exact and31 (hW.gp (by omega)) | exact and31 (hW.ne (by omega)) | exact and31 (hW.op (by omega)) | exact and31 (by assumption) | exact and31r (hW.ne (by omega)) | exact and31r (hW.gp (by omega)) | exact and31r (by decide)) (fun c_80 => ?_) (fun c_80 => ?_)
          · refine mm_iload d_M_text_85 rfl ?_
            refine mm_ci d_M_text_86 ?_
            refine mm_icmp_neS d_M_text_87 ?_
            refine mm_aload d_M_text_90 rfl ?_
            refine mm_getP d_M_text_91 rfl (sk_o_71 hM) (sk_p_71_5 hM) ?_
            refine mm_iload d_M_text_94 rfl ?_
            refine mm_ialdN d_M_text_95 (sk_a_76 hM) (by omega) (by decide) h76n ?_
            refine mm_goto d_M_text_96 ?_
            refine mm_ist3 d_M_text_100 ?_
            refine mm_aload d_M_text_101 rfl ?_
            refine mm_getP d_M_text_102 rfl (sk_o_71 hM) (sk_p_71_5 hM) ?_
            refine mm_iload d_M_text_105 rfl ?_
            refine mm_dup2 d_M_text_106 rfl rfl ?_
            refine mm_ialdN d_M_text_107 (sk_a_76 hM) (by omega) (by decide) h76n ?_
            refine mm_iload d_M_text_108 rfl ?_
            refine mm_ci d_M_text_109 ?_
            refine mm_icmp_neS d_M_text_110 ?_
            refine mm_ciN 1 d_M_text_113 rfl ?_
            refine mm_goto d_M_text_114 ?_
            refine mm_iaddN d_M_text_118 ?_
            refine mm_iastX d_M_text_119 (sk_a_76 hM) (by omega) (by decide) ?_
            rw [show nI (i + 1) = nI (max i (i + 1)) by rw [show max i (i + 1) = i + 1 by omega]]
            refine mm_iload d_M_text_120 rfl ?_
            refine mm_if_neN d_M_text_121 (by first | omega | exact ite01_lt | exact bt8_lt31 _ _ | exact godB_lt31 _ _ _ | exact pop_lt31 _ | assumption | exact b31 (hW.gp (by omega)) | exact b31 (hW.ne (by omega)) | exact b31 (hW.op (by omega)) | exact and31 (hW.gp (by omega)) | exact and31 (hW.ne (by omega)) | exact and31 (hW.op (by omega)) | exact and31 (by assumption) | exact and31r (hW.ne (by omega)) | exact and31r (hW.gp (by omega)) | exact and31r (by decide)) (fun c_121 => ?_) (fun c_121 => False.elim (by omega))
            refine mm_iload d_M_text_138 rfl ?_
            refine mm_ciN 1 d_M_text_139 rfl ?_
            refine mm_icmp_neN d_M_text_140 (by first | omega | exact ite01_lt | exact bt8_lt31 _ _ | exact godB_lt31 _ _ _ | exact pop_lt31 _ | assumption | exact b31 (hW.gp (by omega)) | exact b31 (hW.ne (by omega)) | exact b31 (hW.op (by omega)) | exact and31 (hW.gp (by omega)) | exact and31 (hW.ne (by omega)) | exact and31 (hW.op (by omega)) | exact and31 (by assumption) | exact and31r (hW.ne (by omega)) | exact and31r (hW.gp (by omega)) | exact and31r (by decide)) (by first | omega | exact ite01_lt | exact bt8_lt31 _ _ | exact godB_lt31 _ _ _ | exact pop_lt31 _ | assumption | exact b31 (hW.gp (by omega)) | exact b31 (hW.ne (by omega)) | exact b31 (hW.op (by omega)) | exact and31 (hW.gp (by omega)) | exact and31 (hW.ne (by omega)) | exact and31 (hW.op (by omega)) | exact and31 (by assumption) | exact and31r (hW.ne (by omega)) | exact and31r (hW.gp (by omega)) | exact and31r (by decide)) (fun c_140 => ?_) (fun c_140 => False.elim (by omega))
            refine mm_aload d_M_text_157 rfl ?_
            refine mm_aload d_M_text_158 rfl ?_
            refine mm_getP d_M_text_159 rfl (sk_o_71 hM) (sk_p_71_8 hM) ?_
            refine mm_ciN 17 d_M_text_162 rfl ?_
            refine mm_iload d_M_text_164 rfl ?_
            refine mm_v3v d_M_text_165 (sk_o_71 hM) (sp_M_store (L := 136) hM (sk_a_79 hM) (by decide) (by decide) (by omega) (by decide) (fun ξ g hP2 g1 g2 => ?_))
            refine mm_iload d_M_text_168 rfl ?_
            exact mm_ri d_M_text_169 ⟨(if_pos (ite01_ne c_80)).symm, text_ok2 hJ hA (ite01_ne c_80) f k4 e74 e75 (hRM (ite01_ne c_80)) c2 hic hi2 (hcl.2.2 rfl) g (fun j hj => (g1 j hj).trans (by rw [mm_sI_off (by decide)])) (fun j hj => (g2 j hj).trans (by rw [mm_sI_off (by decide)]))⟩
          · refine mm_ci d_M_text_83 ?_
            exact mm_ri d_M_text_84 ⟨(if_neg (ite01_eq c_80)).symm, text_bad hJ hA (ite01_eq c_80) f k4 e74 e75⟩
        · show mm_T X 12 0 0 k_M_text 0 [some (.ref 71), some (.int (nI 2)), some (.int (nI i)), none] [] μ1 _
          refine mm_aload d_M_text_0 rfl ?_
          refine mm_ciN 0 d_M_text_1 rfl ?_
          refine mm_putI d_M_text_2 rfl (sk_o_71 hM) (Or.inl rfl) ?_
          refine mm_aload d_M_text_5 rfl ?_
          refine mm_aload d_M_text_6 rfl ?_
          refine mm_getP d_M_text_7 rfl (sk_o_71 hM) (sk_p_71_2 hM) ?_
          refine mm_ciN 0 d_M_text_10 rfl ?_
          refine mm_ialdN d_M_text_11 (sk_a_73 hM) (by omega) (by decide) h73 ?_
          refine mm_putI d_M_text_12 rfl (sk_o_71 hM) (Or.inl rfl) ?_
          refine mm_aload d_M_text_15 rfl ?_
          refine mm_getP d_M_text_16 rfl (sk_o_71 hM) (sk_p_71_2 hM) ?_
          refine mm_ciN 0 d_M_text_19 rfl ?_
          refine mm_ciN 0 d_M_text_20 rfl ?_
          refine mm_iastX d_M_text_21 (sk_a_73 hM) (by omega) (by decide) ?_
          refine mm_aload d_M_text_22 rfl ?_
          refine mm_getP d_M_text_23 rfl (sk_o_71 hM) (sk_p_71_3 hM) ?_
          refine mm_ciN 0 d_M_text_26 rfl ?_
          refine mm_ciN 0 d_M_text_27 rfl ?_
          refine mm_iastX d_M_text_28 (sk_a_74 hM) (by omega) (by decide) ?_
          refine mm_aload d_M_text_29 rfl ?_
          refine mm_getP d_M_text_30 rfl (sk_o_71 hM) (sk_p_71_4 hM) ?_
          refine mm_ciN 0 d_M_text_33 rfl ?_
          refine mm_ci d_M_text_34 ?_
          refine mm_iastX d_M_text_35 (sk_a_75 hM) (by omega) (by decide) ?_
          refine mm_iload d_M_text_36 rfl ?_
          refine mm_ciN 0 d_M_text_37 rfl ?_
          refine mm_ciN 2 d_M_text_38 rfl ?_
          refine mm_s3i d_M_text_39 (sp_M_inT (by omega) (by omega) (by decide) ?_)
          refine mm_if_eqN d_M_text_42 (by first | omega | exact ite01_lt | exact bt8_lt31 _ _ | exact godB_lt31 _ _ _ | exact pop_lt31 _ | assumption | exact b31 (hW.gp (by omega)) | exact b31 (hW.ne (by omega)) | exact b31 (hW.op (by omega)) | exact and31 (hW.gp (by omega)) | exact and31 (hW.ne (by omega)) | exact and31 (hW.op (by omega)) | exact and31 (by assumption) | exact and31r (hW.ne (by omega)) | exact and31r (hW.gp (by omega)) | exact and31r (by decide)) (fun c_42 => False.elim (by omega)) (fun c_42 => ?_)
          refine mm_iload d_M_text_45 rfl ?_
          refine mm_ci d_M_text_46 ?_
          refine mm_icmp_neM1 d_M_text_47 (by first | omega | exact ite01_lt | exact bt8_lt31 _ _ | exact godB_lt31 _ _ _ | exact pop_lt31 _ | assumption | exact b31 (hW.gp (by omega)) | exact b31 (hW.ne (by omega)) | exact b31 (hW.op (by omega)) | exact and31 (hW.gp (by omega)) | exact and31 (hW.ne (by omega)) | exact and31 (hW.op (by omega)) | exact and31 (by assumption) | exact and31r (hW.ne (by omega)) | exact and31r (hW.gp (by omega)) | exact and31r (by decide)) ?_
          refine mm_aload d_M_text_63 rfl ?_
          refine mm_iload d_M_text_64 rfl ?_
          refine mm_iload d_M_text_65 rfl ?_
          refine mm_v2i d_M_text_66 (sk_o_71 hM) (sp_M_is (c := c) hM (by omega) h76' c2 ?_)
          rw [isF_at (by omega) hi]
          refine mm_if_ne d_M_text_69 (fun c_69 => ?_) (fun c_69 => False.elim (c_69 (by decide)))
          refine mm_aload d_M_text_75 rfl ?_
          refine mm_iload d_M_text_76 rfl ?_
          refine mm_v1i d_M_text_77 (sk_o_71 hM) (sp_M_readText (u := u) (L := n) hMx hs3 n1 mx5_k.1.2.2.2 hb (fun ν f hP k4 e74 e75 hRM => ?_))
          have hM := f.2.2.2 hMx
          have h76n : mm_I ν 76 2 = nI c := by rw [(f.2.2.1 76 rfl).1]; exact h76'
          refine mm_if_neN d_M_text_80 (by first | omega | exact ite01_lt | exact bt8_lt31 _ _ | exact godB_lt31 _ _ _ | exact pop_lt31 _ | assumption | exact b31 (hW.gp (by omega)) | exact b31 (hW.ne (by omega)) | exact b31 (hW.op (by omega)) | exact and31 (hW.gp (by omega)) | exact and31 (hW.ne (by omega)) | exact and31 (hW.op (by omega)) | exact and31 (by assumption) | exact and31r (hW.ne (by omega)) | exact and31r (hW.gp (by omega)) | exact and31r (by decide)) (fun c_80 => ?_) (fun c_80 => ?_)
          · refine mm_iload d_M_text_85 rfl ?_
            refine mm_ci d_M_text_86 ?_
            refine mm_icmp_neM1 d_M_text_87 (by first | omega | exact ite01_lt | exact bt8_lt31 _ _ | exact godB_lt31 _ _ _ | exact pop_lt31 _ | assumption | exact b31 (hW.gp (by omega)) | exact b31 (hW.ne (by omega)) | exact b31 (hW.op (by omega)) | exact and31 (hW.gp (by omega)) | exact and31 (hW.ne (by omega)) | exact and31 (hW.op (by omega)) | exact and31 (by assumption) | exact and31r (hW.ne (by omega)) | exact and31r (hW.gp (by omega)) | exact and31r (by decide)) ?_
            refine mm_iload d_M_text_99 rfl ?_
            refine mm_ist3 d_M_text_100 ?_
            refine mm_aload d_M_text_101 rfl ?_
            refine mm_getP d_M_text_102 rfl (sk_o_71 hM) (sk_p_71_5 hM) ?_
            refine mm_iload d_M_text_105 rfl ?_
            refine mm_dup2 d_M_text_106 rfl rfl ?_
            refine mm_ialdN d_M_text_107 (sk_a_76 hM) (by omega) (by decide) h76n ?_
            refine mm_iload d_M_text_108 rfl ?_
            refine mm_ci d_M_text_109 ?_
            refine mm_icmp_neM1 d_M_text_110 (by first | omega | exact ite01_lt | exact bt8_lt31 _ _ | exact godB_lt31 _ _ _ | exact pop_lt31 _ | assumption | exact b31 (hW.gp (by omega)) | exact b31 (hW.ne (by omega)) | exact b31 (hW.op (by omega)) | exact and31 (hW.gp (by omega)) | exact and31 (hW.ne (by omega)) | exact and31 (hW.op (by omega)) | exact and31 (by assumption) | exact and31r (hW.ne (by omega)) | exact and31r (hW.gp (by omega)) | exact and31r (by decide)) ?_
            refine mm_ciN 0 d_M_text_117 rfl ?_
            refine mm_iaddN d_M_text_118 ?_
            refine mm_iastX d_M_text_119 (sk_a_76 hM) (by omega) (by decide) ?_
            rw [show nI (c + 0) = nI (max c (i + 1)) by rw [show max c (i + 1) = c + 0 by omega]]
            refine mm_iload d_M_text_120 rfl ?_
            refine mm_if_neN d_M_text_121 (by first | omega | exact ite01_lt | exact bt8_lt31 _ _ | exact godB_lt31 _ _ _ | exact pop_lt31 _ | assumption | exact b31 (hW.gp (by omega)) | exact b31 (hW.ne (by omega)) | exact b31 (hW.op (by omega)) | exact and31 (hW.gp (by omega)) | exact and31 (hW.ne (by omega)) | exact and31 (hW.op (by omega)) | exact and31 (by assumption) | exact and31r (hW.ne (by omega)) | exact and31r (hW.gp (by omega)) | exact and31r (by decide)) (fun c_121 => ?_) (fun c_121 => False.elim (by omega))
            refine mm_iload d_M_text_138 rfl ?_
            refine mm_ciN 1 d_M_text_139 rfl ?_
            refine mm_icmp_neN d_M_text_140 (by first | omega | exact ite01_lt | exact bt8_lt31 _ _ | exact godB_lt31 _ _ _ | exact pop_lt31 _ | assumption | exact b31 (hW.gp (by omega)) | exact b31 (hW.ne (by omega)) | exact b31 (hW.op (by omega)) | exact and31 (hW.gp (by omega)) | exact and31 (hW.ne (by omega)) | exact and31 (hW.op (by omega)) | exact and31 (by assumption) | exact and31r (hW.ne (by omega)) | exact and31r (hW.gp (by omega)) | exact and31r (by decide)) (by first | omega | exact ite01_lt | exact bt8_lt31 _ _ | exact godB_lt31 _ _ _ | exact pop_lt31 _ | assumption | exact b31 (hW.gp (by omega)) | exact b31 (hW.ne (by omega)) | exact b31 (hW.op (by omega)) | exact and31 (hW.gp (by omega)) | exact and31 (hW.ne (by omega)) | exact and31 (hW.op (by omega)) | exact and31 (by assumption) | exact and31r (hW.ne (by omega)) | exact and31r (hW.gp (by omega)) | exact and31r (by decide)) (fun c_140 => ?_) (fun c_140 => False.elim (by omega))
            refine mm_aload d_M_text_157 rfl ?_
            refine mm_aload d_M_text_158 rfl ?_
            refine mm_getP d_M_text_159 rfl (sk_o_71 hM) (sk_p_71_8 hM) ?_
            refine mm_ciN 17 d_M_text_162 rfl ?_
            refine mm_iload d_M_text_164 rfl ?_
            refine mm_v3v d_M_text_165 (sk_o_71 hM) (sp_M_store (L := 136) hM (sk_a_79 hM) (by decide) (by decide) (by omega) (by decide) (fun ξ g hP2 g1 g2 => ?_))
            refine mm_iload d_M_text_168 rfl ?_
            exact mm_ri d_M_text_169 ⟨(if_pos (ite01_ne c_80)).symm, text_ok2 hJ hA (ite01_ne c_80) f k4 e74 e75 (hRM (ite01_ne c_80)) c2 hic hi2 (hcl.2.2 rfl) g (fun j hj => (g1 j hj).trans (by rw [mm_sI_off (by decide)])) (fun j hj => (g2 j hj).trans (by rw [mm_sI_off (by decide)]))⟩
          · refine mm_ci d_M_text_83 ?_
            exact mm_ri d_M_text_84 ⟨(if_neg (ite01_eq c_80)).symm, text_bad hJ hA (ite01_eq c_80) f k4 e74 e75⟩
