/-! texts: the model's lines of a coast, the rest -/
theorem RM0.c0 {t : Nat → Nat} {μ : mm_M} {c : Nat} (h : RM0 t μ) (hW : WfT 0 t) (hc : c ≤ 6) (e : mm_I μ 80 0 = nI c) : t 0 = c := by
  have := h.1 0 (by decide)
  rw [e] at this
  exact ((nI_eqq (by omega) (by have := hW.b0; omega)).mp this).symm
theorem sp_M_childLine {X : mm_X} {μ : mm_M} {q : Int32 → mm_M → Prop} {u : Nat → Nat} {L p f0 p0 : Nat} (hl : LM 0 0 u L p f0 p0 μ μ 0) (hp : p ≤ L) (hB : MB0 μ) (hst : ∀ i ξ, i < 3 → tK u L (ps u L p i) ≠ 3 → (∀ j, j < i → tK u L (ps u L p j) = 3) → K2 μ ξ → mm_I ξ 71 15 = nI (tP u L (ps u L p i)) → q (nI 0) ξ) (hok : ∀ ξ, EndC 0 u L p f0 p0 μ ξ → q (nI 1) ξ) : mm_Ci X 4 0 0 k_M_childLine [.ref 71] μ q := by
  show mm_T X 4 0 0 k_M_childLine 0 [some (.ref 71), none, none] [] μ _
  have hM := hl.2.1.1
  have fin : ∀ ξ, LM 0 0 u L p f0 p0 μ ξ 3 → mm_T X 4 0 0 k_M_childLine 38 [some (.ref 71), none, none] [] ξ (fun w μ' => ∃ z, w = some (.int z) ∧ q z μ') := by
    intro ξ hx
    have hM := hx.2.1.1
    obtain ⟨c0, c1, b0, b1, e0, e1⟩ := hB.k2 hx.1
    by_cases hc6 : c0 = 6
    · have done : q (nI 1) ξ := hok _ (EndC.mk hx K2.rf.k5 (fun j _ => rfl) rfl ⟨c0, c1, b0, b1, e0, e1⟩ (fun t h1 h2 h3 h4 => absurd (fu_i.mpr (by have := h1.c0 h2 b0 e0; omega)) h3))
      refine mm_aload d_M_childLine_38 rfl ?_
      refine mm_getP d_M_childLine_39 rfl (sk_o_71 hM) (sk_p_71_18 hM) ?_
      refine mm_ciN 0 d_M_childLine_42 rfl ?_
      refine mm_ialdN d_M_childLine_43 (sk_a_80 hM) (by omega) (by decide) e0 ?_
      refine mm_ist1 d_M_childLine_44 ?_
      refine mm_iload d_M_childLine_45 rfl ?_
      refine mm_ciN 6 d_M_childLine_46 rfl ?_
      refine mm_icmp_neN d_M_childLine_48 (by first | omega | exact ite01_lt | exact bt8_lt31 _ _ | exact godB_lt31 _ _ _ | exact pop_lt31 _ | assumption | exact b31 (hW.gp (by omega)) | exact b31 (hW.ne (by omega)) | exact b31 (hW.op (by omega)) | exact and31 (hW.gp (by omega)) | exact and31 (hW.ne (by omega)) | exact and31 (hW.op (by omega)) | exact and31 (by assumption) | exact and31r (hW.ne (by omega)) | exact and31r (hW.gp (by omega)) | exact and31r (by decide)) (by first | omega | exact ite01_lt | exact bt8_lt31 _ _ | exact godB_lt31 _ _ _ | exact pop_lt31 _ | assumption | exact b31 (hW.gp (by omega)) | exact b31 (hW.ne (by omega)) | exact b31 (hW.op (by omega)) | exact and31 (hW.gp (by omega)) | exact and31 (hW.ne (by omega)) | exact and31 (hW.op (by omega)) | exact and31 (by assumption) | exact and31r (hW.ne (by omega)) | exact and31r (hW.gp (by omega)) | exact and31r (by decide)) (fun c_48 => False.elim (by omega)) (fun c_48 => ?_)
      refine mm_ciN 1 d_M_childLine_51 rfl ?_
      exact mm_rz d_M_childLine_52 done
    · rcases gg_01 (k := 0) (v := vv u L p) 3 with ⟨g1, g2⟩ | ⟨g1, g2⟩
      · have e21 : mm_I ξ 71 21 = nI 1 := by rw [hx.2.2.2.2.1, g1]
        have w0 : vv u L p 0 ≤ 7 := (cb_i.mp (g2 0 (by decide))).1
        have w1 : vv u L p 1 ≤ 7 := (cb_i.mp (g2 1 (by decide))).1
        have w2 : vv u L p 2 ≤ 7 := (cb_i.mp (g2 2 (by decide))).1
        have wi : ∀ i, i < 3 → vv u L p i ≤ 7 := fun i hi => by
          have h3 : i = 0 ∨ i = 1 ∨ i = 2 := by omega
          rcases h3 with rfl | rfl | rfl
          · exact w0
          · exact w1
          · exact w2
        have step : ∀ (i : Nat) (ρ : mm_M), i < 3 → SK ρ → mm_I ρ 71 = mm_I ξ 71 → mm_I ρ 81 = mm_I ξ 81 → mm_T X 4 0 0 k_M_childLine 55 [some (.ref 71), some (.int (nI c0)), some (.int (nI (i + 1)))] [] (mm_sI ρ 80 (26 + c0) (mm_I ρ 80 (26 + c0) ||| nI (2 ^ vv u L p i))) (fun w μ' => ∃ z, w = some (.int z) ∧ q z μ') → mm_T X 4 0 0 k_M_childLine 55 [some (.ref 71), some (.int (nI c0)), some (.int (nI i))] [] ρ (fun w μ' => ∃ z, w = some (.int z) ∧ q z μ') := by
          intro i ρ hi hM r1 r2 hgo
          have wv := wi i hi
          have vi : mm_I ρ 81 i = nI (vv u L p i) := by rw [r2]; have := (hx.2.2.2.2.2 i hi).1; rw [Nat.zero_add] at this; exact this
          refine mm_iload d_M_childLine_55 rfl ?_
          refine mm_ciN 3 d_M_childLine_56 rfl ?_
          refine mm_icmp_geN d_M_childLine_57 (by first | omega | exact ite01_lt | exact bt8_lt31 _ _ | exact godB_lt31 _ _ _ | exact pop_lt31 _ | assumption | exact b31 (hW.gp (by omega)) | exact b31 (hW.ne (by omega)) | exact b31 (hW.op (by omega)) | exact and31 (hW.gp (by omega)) | exact and31 (hW.ne (by omega)) | exact and31 (hW.op (by omega)) | exact and31 (by assumption) | exact and31r (hW.ne (by omega)) | exact and31r (hW.gp (by omega)) | exact and31r (by decide)) (by first | omega | exact ite01_lt | exact bt8_lt31 _ _ | exact godB_lt31 _ _ _ | exact pop_lt31 _ | assumption | exact b31 (hW.gp (by omega)) | exact b31 (hW.ne (by omega)) | exact b31 (hW.op (by omega)) | exact and31 (hW.gp (by omega)) | exact and31 (hW.ne (by omega)) | exact and31 (hW.op (by omega)) | exact and31 (by assumption) | exact and31r (hW.ne (by omega)) | exact and31r (hW.gp (by omega)) | exact and31r (by decide)) (fun c_57 => False.elim (by omega)) (fun c_57 => ?_)
          refine mm_aload d_M_childLine_60 rfl ?_
          refine mm_getIV d_M_childLine_61 rfl (sk_o_71 hM) (show _ = nI 1 by rw [r1]; exact e21) ?_
          refine mm_if_eqN d_M_childLine_64 (by first | omega | exact ite01_lt | exact bt8_lt31 _ _ | exact godB_lt31 _ _ _ | exact pop_lt31 _ | assumption | exact b31 (hW.gp (by omega)) | exact b31 (hW.ne (by omega)) | exact b31 (hW.op (by omega)) | exact and31 (hW.gp (by omega)) | exact and31 (hW.ne (by omega)) | exact and31 (hW.op (by omega)) | exact and31 (by assumption) | exact and31r (hW.ne (by omega)) | exact and31r (hW.gp (by omega)) | exact and31r (by decide)) (fun c_64 => False.elim (by omega)) (fun c_64 => ?_)
          refine mm_aload d_M_childLine_67 rfl ?_
          refine mm_getP d_M_childLine_68 rfl (sk_o_71 hM) (sk_p_71_18 hM) ?_
          refine mm_ciN 26 d_M_childLine_71 rfl ?_
          refine mm_iload d_M_childLine_73 rfl ?_
          refine mm_iaddN d_M_childLine_74 ?_
          refine mm_dup2 d_M_childLine_75 rfl rfl ?_
          refine mm_ialdX d_M_childLine_76 (sk_a_80 hM) (by omega) (by decide) ?_
          refine mm_ciN 1 d_M_childLine_77 rfl ?_
          refine mm_aload d_M_childLine_78 rfl ?_
          refine mm_getP d_M_childLine_79 rfl (sk_o_71 hM) (sk_p_71_19 hM) ?_
          refine mm_iload d_M_childLine_82 rfl ?_
          refine mm_ialdN d_M_childLine_83 (sk_a_81 hM) (by omega) (by decide) vi ?_
          refine mm_ishl1N d_M_childLine_84 (by omega) ?_
          refine mm_ior d_M_childLine_85 ?_
          refine mm_iastX d_M_childLine_86 (sk_a_80 hM) (by omega) (by decide) ?_
          refine mm_inc2N d_M_childLine_87 ?_
          refine mm_goto d_M_childLine_90 ?_
          exact hgo
        have done : ∀ B, B = mm_I ξ 80 (26 + c0) ||| nI (2 ^ vv u L p 0) ||| nI (2 ^ vv u L p 1) ||| nI (2 ^ vv u L p 2) → ∀ ρ, ρ = mm_sI (mm_sI (mm_sI (mm_sI ξ 80 (26 + c0) (mm_I ξ 80 (26 + c0) ||| nI (2 ^ vv u L p 0))) 80 (26 + c0) (mm_I ξ 80 (26 + c0) ||| nI (2 ^ vv u L p 0) ||| nI (2 ^ vv u L p 1))) 80 (26 + c0) B) 80 0 (nI (c0 + 1)) → q (nI 1) ρ := by
          intro B hBB ρ hρ
          subst hρ
          have i80 : ∀ j, mm_I (mm_sI (mm_sI (mm_sI (mm_sI ξ 80 (26 + c0) (mm_I ξ 80 (26 + c0) ||| nI (2 ^ vv u L p 0))) 80 (26 + c0) (mm_I ξ 80 (26 + c0) ||| nI (2 ^ vv u L p 0) ||| nI (2 ^ vv u L p 1))) 80 (26 + c0) B) 80 0 (nI (c0 + 1))) 80 j = if j = 0 then nI (c0 + 1) else if j = 26 + c0 then B else mm_I ξ 80 j := by
            intro j
            rw [mm_I_sI]
            by_cases z : j = 0
            · rw [if_pos ⟨rfl, z⟩, if_pos z]
            · rw [if_neg (fun w => z w.2), if_neg z, mm_I_sI]
              by_cases y : j = 26 + c0
              · rw [if_pos ⟨rfl, y⟩, if_pos y]
              · rw [if_neg (fun w => y w.2), if_neg y, mm_I_sI, if_neg (fun w => y w.2), mm_I_sI, if_neg (fun w => y w.2)]
          refine hok _ (EndC.mk hx (K2.rf.k5.s8.s8.s8.s8) (fun j _ => by rw [mm_sI_off (by decide), mm_sI_off (by decide), mm_sI_off (by decide), mm_sI_off (by decide)]) rfl ⟨c0 + 1, c1, by omega, b1, by rw [i80, if_pos rfl], by rw [i80, if_neg (by decide), if_neg (by omega)]; exact e1⟩ (fun t h1 h2 h3 h4 => ?_))
          have ec := h1.c0 h2 b0 e0
          have eB : B = nI (2 ^ vv u L p 0 ||| 2 ^ vv u L p 1 ||| 2 ^ vv u L p 2) := by
            rw [hBB, h1.1 (26 + c0) (by omega), h1.2.2 c0 (by omega) (by omega), nb_or, nb_or, nb_or, Nat.zero_or]
          rw [stp0, ec]
          refine ⟨fun j hj => ?_, ?_, fun j hj1 hj2 => ?_⟩
          · rw [i80]
            unfold up
            by_cases z : j = 0
            · rw [if_pos z, if_pos z]
            · rw [if_neg z, if_neg z]
              by_cases y : j = 26 + c0
              · rw [if_pos y, if_pos y, eB]
              · rw [if_neg y, if_neg y]; exact h1.1 j hj
          · rw [mm_sI_off (by decide), mm_sI_off (by decide), mm_sI_off (by decide), mm_sI_off (by decide)]
            rw [up_ne (by decide), up_ne (by omega)]
            exact h1.2.1
          · rw [up_at] at hj1
            rw [up_ne (by omega), up_ne (by omega)]
            exact h1.2.2 j (by omega) hj2
        refine mm_aload d_M_childLine_38 rfl ?_
        refine mm_getP d_M_childLine_39 rfl (sk_o_71 hM) (sk_p_71_18 hM) ?_
        refine mm_ciN 0 d_M_childLine_42 rfl ?_
        refine mm_ialdN d_M_childLine_43 (sk_a_80 hM) (by omega) (by decide) e0 ?_
        refine mm_ist1 d_M_childLine_44 ?_
        refine mm_iload d_M_childLine_45 rfl ?_
        refine mm_ciN 6 d_M_childLine_46 rfl ?_
        refine mm_icmp_neN d_M_childLine_48 (by first | omega | exact ite01_lt | exact bt8_lt31 _ _ | exact godB_lt31 _ _ _ | exact pop_lt31 _ | assumption | exact b31 (hW.gp (by omega)) | exact b31 (hW.ne (by omega)) | exact b31 (hW.op (by omega)) | exact and31 (hW.gp (by omega)) | exact and31 (hW.ne (by omega)) | exact and31 (hW.op (by omega)) | exact and31 (by assumption) | exact and31r (hW.ne (by omega)) | exact and31r (hW.gp (by omega)) | exact and31r (by decide)) (by first | omega | exact ite01_lt | exact bt8_lt31 _ _ | exact godB_lt31 _ _ _ | exact pop_lt31 _ | assumption | exact b31 (hW.gp (by omega)) | exact b31 (hW.ne (by omega)) | exact b31 (hW.op (by omega)) | exact and31 (hW.gp (by omega)) | exact and31 (hW.ne (by omega)) | exact and31 (hW.op (by omega)) | exact and31 (by assumption) | exact and31r (hW.ne (by omega)) | exact and31r (hW.gp (by omega)) | exact and31r (by decide)) (fun c_48 => ?_) (fun c_48 => False.elim (by omega))
        refine mm_ciN 0 d_M_childLine_53 rfl ?_
        refine mm_ist2 d_M_childLine_54 ?_
        refine step 0 ξ (by decide) hM rfl rfl ?_
        refine step 1 _ (by decide) hM (mm_sI_off (by decide)) (mm_sI_off (by decide)) ?_
        rw [show mm_I (mm_sI ξ 80 (26 + c0) (mm_I ξ 80 (26 + c0) ||| nI (2 ^ vv u L p 0))) 80 (26 + c0) = mm_I ξ 80 (26 + c0) ||| nI (2 ^ vv u L p 0) by rw [mm_I_sI, if_pos ⟨rfl, rfl⟩]]
        refine step 2 _ (by decide) hM (by rw [mm_sI_off (by decide), mm_sI_off (by decide)]) (by rw [mm_sI_off (by decide), mm_sI_off (by decide)]) ?_
        have eX : mm_I (mm_sI (mm_sI ξ 80 (26 + c0) (mm_I ξ 80 (26 + c0) ||| nI (2 ^ vv u L p 0))) 80 (26 + c0) (mm_I ξ 80 (26 + c0) ||| nI (2 ^ vv u L p 0) ||| nI (2 ^ vv u L p 1))) 80 (26 + c0) = mm_I ξ 80 (26 + c0) ||| nI (2 ^ vv u L p 0) ||| nI (2 ^ vv u L p 1) := by rw [mm_I_sI, if_pos ⟨rfl, rfl⟩]
        rw [eX]
        refine mm_iload d_M_childLine_55 rfl ?_
        refine mm_ciN 3 d_M_childLine_56 rfl ?_
        refine mm_icmp_geN d_M_childLine_57 (by omega) (by omega) (fun _ => ?_) (fun c => False.elim (by omega))
        refine mm_aload d_M_childLine_93 rfl ?_
        refine mm_getP d_M_childLine_94 rfl (sk_o_71 hM) (sk_p_71_18 hM) ?_
        refine mm_ciN 0 d_M_childLine_97 rfl ?_
        refine mm_dup2 d_M_childLine_98 rfl rfl ?_
        refine mm_ialdN d_M_childLine_99 (sk_a_80 hM) (by decide) (by decide) (show _ = nI c0 by rw [mm_I_sI, if_neg (by omega), mm_I_sI, if_neg (by omega), mm_I_sI, if_neg (by omega)]; exact e0) ?_
        refine mm_ciN 1 d_M_childLine_100 rfl ?_
        refine mm_iaddN d_M_childLine_101 ?_
        refine mm_iastX d_M_childLine_102 (sk_a_80 hM) (by decide) (by decide) ?_
        refine mm_ciN 1 d_M_childLine_103 rfl ?_
        exact mm_rz d_M_childLine_104 (done _ rfl _ rfl)
      · have e21 : mm_I ξ 71 21 = nI 0 := by rw [hx.2.2.2.2.1, g1]
        have done : q (nI 1) (mm_sI ξ 80 0 (nI (c0 + 1))) := hok _ (EndC.mk hx (K2.rf.k5.s8) (fun j _ => by rw [mm_sI_off (by decide)]) rfl ⟨c0 + 1, c1, by omega, b1, by rw [mm_I_sI, if_pos ⟨rfl, rfl⟩], by rw [mm_I_sI, if_neg (by omega)]; exact e1⟩ (fun t h1 h2 h3 h4 => absurd h4 g2))
        refine mm_aload d_M_childLine_38 rfl ?_
        refine mm_getP d_M_childLine_39 rfl (sk_o_71 hM) (sk_p_71_18 hM) ?_
        refine mm_ciN 0 d_M_childLine_42 rfl ?_
        refine mm_ialdN d_M_childLine_43 (sk_a_80 hM) (by omega) (by decide) e0 ?_
        refine mm_ist1 d_M_childLine_44 ?_
        refine mm_iload d_M_childLine_45 rfl ?_
        refine mm_ciN 6 d_M_childLine_46 rfl ?_
        refine mm_icmp_neN d_M_childLine_48 (by first | omega | exact ite01_lt | exact bt8_lt31 _ _ | exact godB_lt31 _ _ _ | exact pop_lt31 _ | assumption | exact b31 (hW.gp (by omega)) | exact b31 (hW.ne (by omega)) | exact b31 (hW.op (by omega)) | exact and31 (hW.gp (by omega)) | exact and31 (hW.ne (by omega)) | exact and31 (hW.op (by omega)) | exact and31 (by assumption) | exact and31r (hW.ne (by omega)) | exact and31r (hW.gp (by omega)) | exact and31r (by decide)) (by first | omega | exact ite01_lt | exact bt8_lt31 _ _ | exact godB_lt31 _ _ _ | exact pop_lt31 _ | assumption | exact b31 (hW.gp (by omega)) | exact b31 (hW.ne (by omega)) | exact b31 (hW.op (by omega)) | exact and31 (hW.gp (by omega)) | exact and31 (hW.ne (by omega)) | exact and31 (hW.op (by omega)) | exact and31 (by assumption) | exact and31r (hW.ne (by omega)) | exact and31r (hW.gp (by omega)) | exact and31r (by decide)) (fun c_48 => ?_) (fun c_48 => False.elim (by omega))
        refine mm_ciN 0 d_M_childLine_53 rfl ?_
        refine mm_ist2 d_M_childLine_54 ?_
        refine mm_iload d_M_childLine_55 rfl ?_
        refine mm_ciN 3 d_M_childLine_56 rfl ?_
        refine mm_icmp_geN d_M_childLine_57 (by omega) (by omega) (fun c => False.elim (by omega)) (fun _ => ?_)
        refine mm_aload d_M_childLine_60 rfl ?_
        refine mm_getIN d_M_childLine_61 rfl (sk_o_71 hM) e21 ?_
        refine mm_if_eqN d_M_childLine_64 (by decide) (fun _ => ?_) (fun c => absurd rfl c)
        refine mm_aload d_M_childLine_93 rfl ?_
        refine mm_getP d_M_childLine_94 rfl (sk_o_71 hM) (sk_p_71_18 hM) ?_
        refine mm_ciN 0 d_M_childLine_97 rfl ?_
        refine mm_dup2 d_M_childLine_98 rfl rfl ?_
        refine mm_ialdN d_M_childLine_99 (sk_a_80 hM) (by decide) (by decide) e0 ?_
        refine mm_ciN 1 d_M_childLine_100 rfl ?_
        refine mm_iaddN d_M_childLine_101 ?_
        refine mm_iastX d_M_childLine_102 (sk_a_80 hM) (by decide) (by decide) ?_
        refine mm_ciN 1 d_M_childLine_103 rfl ?_
        exact mm_rz d_M_childLine_104 done
  have ccb : ∀ i, i < 3 → canT (vv u L p i) 0 7 1 (0 + i) (vv u L p) = cb 0 (vv u L p) i := by
    intro i hi3
    apply Bool.eq_iff_iff.mpr
    rw [canT_i, cb_i, Nat.zero_add]
    have h7 : ∀ i, i < 3 → hi i = 7 := by decide
    rw [h7 i hi3]
    exact ⟨fun z => ⟨z.1.2, fun w => absurd w.1 (by decide), fun _ b hb => ((z.2.resolve_left (by decide)) b hb).symm⟩, fun z => ⟨⟨Nat.zero_le _, z.1⟩, Or.inr (fun b hb => (z.2.2 (Or.inl rfl) b hb).symm)⟩⟩
  refine mm_aload d_M_childLine_0 rfl ?_
  refine mm_ciN 0 d_M_childLine_1 rfl ?_
  refine mm_ciN 0 d_M_childLine_2 rfl ?_
  refine mm_ciN 7 d_M_childLine_3 rfl ?_
  refine mm_ciN 1 d_M_childLine_5 rfl ?_
  refine mm_v4i d_M_childLine_6 (sk_o_71 hM) (sp_LM (o := 0) (i := 0) hl hp (by decide) (by decide) (by decide) (Or.inr ⟨rfl, rfl⟩) (fun _ => ccb 0 (by decide)) (fun h3 ξ kx e => mm_if_eqN d_M_childLine_9 (by decide) (fun _ => mm_ciN 0 d_M_childLine_36 rfl (mm_rz d_M_childLine_37 (hst 0 ξ (by decide) h3 (fun j hj => absurd hj (Nat.not_lt_zero j)) kx e))) (fun c => absurd rfl c)) (fun h3 ξ1 l1 => ?_))
  replace hM := l1.2.1.1
  refine mm_if_eqN d_M_childLine_9 (by first | omega | exact ite01_lt | exact bt8_lt31 _ _ | exact godB_lt31 _ _ _ | exact pop_lt31 _ | assumption | exact b31 (hW.gp (by omega)) | exact b31 (hW.ne (by omega)) | exact b31 (hW.op (by omega)) | exact and31 (hW.gp (by omega)) | exact and31 (hW.ne (by omega)) | exact and31 (hW.op (by omega)) | exact and31 (by assumption) | exact and31r (hW.ne (by omega)) | exact and31r (hW.gp (by omega)) | exact and31r (by decide)) (fun c_9 => False.elim (by omega)) (fun c_9 => ?_)
  refine mm_aload d_M_childLine_12 rfl ?_
  refine mm_ciN 1 d_M_childLine_13 rfl ?_
  refine mm_ciN 0 d_M_childLine_14 rfl ?_
  refine mm_ciN 7 d_M_childLine_15 rfl ?_
  refine mm_ciN 1 d_M_childLine_17 rfl ?_
  refine mm_v4i d_M_childLine_18 (sk_o_71 hM) (sp_LM (o := 0) (i := 1) l1 hp (by decide) (by decide) (by decide) (Or.inr ⟨rfl, rfl⟩) (fun _ => ccb 1 (by decide)) (fun h3 ξ kx e => mm_if_eqN d_M_childLine_21 (by decide) (fun _ => mm_ciN 0 d_M_childLine_36 rfl (mm_rz d_M_childLine_37 (hst 1 ξ (by decide) h3 (fun j hj => (l1.2.2.2.2.2 j hj).2) kx e))) (fun c => absurd rfl c)) (fun h3 ξ2 l2 => ?_))
  replace hM := l2.2.1.1
  refine mm_if_eqN d_M_childLine_21 (by first | omega | exact ite01_lt | exact bt8_lt31 _ _ | exact godB_lt31 _ _ _ | exact pop_lt31 _ | assumption | exact b31 (hW.gp (by omega)) | exact b31 (hW.ne (by omega)) | exact b31 (hW.op (by omega)) | exact and31 (hW.gp (by omega)) | exact and31 (hW.ne (by omega)) | exact and31 (hW.op (by omega)) | exact and31 (by assumption) | exact and31r (hW.ne (by omega)) | exact and31r (hW.gp (by omega)) | exact and31r (by decide)) (fun c_21 => False.elim (by omega)) (fun c_21 => ?_)
  refine mm_aload d_M_childLine_24 rfl ?_
  refine mm_ciN 2 d_M_childLine_25 rfl ?_
  refine mm_ciN 0 d_M_childLine_26 rfl ?_
  refine mm_ciN 7 d_M_childLine_27 rfl ?_
  refine mm_ciN 1 d_M_childLine_29 rfl ?_
  refine mm_v4i d_M_childLine_30 (sk_o_71 hM) (sp_LM (o := 0) (i := 2) l2 hp (by decide) (by decide) (by decide) (Or.inr ⟨rfl, rfl⟩) (fun _ => ccb 2 (by decide)) (fun h3 ξ kx e => mm_if_neN d_M_childLine_33 (by decide) (fun c => absurd rfl c) (fun _ => mm_ciN 0 d_M_childLine_36 rfl (mm_rz d_M_childLine_37 (hst 2 ξ (by decide) h3 (fun j hj => (l2.2.2.2.2.2 j hj).2) kx e)))) (fun h3 ξ3 l3 => ?_))
  refine mm_if_neN d_M_childLine_33 (by first | omega | exact ite01_lt | exact bt8_lt31 _ _ | exact godB_lt31 _ _ _ | exact pop_lt31 _ | assumption | exact b31 (hW.gp (by omega)) | exact b31 (hW.ne (by omega)) | exact b31 (hW.op (by omega)) | exact and31 (hW.gp (by omega)) | exact and31 (hW.ne (by omega)) | exact and31 (hW.op (by omega)) | exact and31 (by assumption) | exact and31r (hW.ne (by omega)) | exact and31r (hW.gp (by omega)) | exact and31r (by decide)) (fun c_33 => ?_) (fun c_33 => False.elim (by omega))
  exact fin ξ3 l3
