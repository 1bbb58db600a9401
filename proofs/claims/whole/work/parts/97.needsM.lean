/-! texts: the model's lines of a coast: oppose, needs, weather, patience -/
theorem sp_M_opposeLine {X : mm_X} {μ : mm_M} {q : Int32 → mm_M → Prop} {u : Nat → Nat} {L p f0 p0 : Nat} (hl : LM 2 0 u L p f0 p0 μ μ 0) (hp : p ≤ L) (hB : MB0 μ) (hst : ∀ i ξ, i < 2 → tK u L (ps u L p i) ≠ 3 → (∀ j, j < i → tK u L (ps u L p j) = 3) → K2 μ ξ → mm_I ξ 71 15 = nI (tP u L (ps u L p i)) → q (nI 0) ξ) (hok : ∀ ξ, EndC 2 u L p f0 p0 μ ξ → q (nI 1) ξ) : mm_Ci X 4 0 0 k_M_opposeLine [.ref 71] μ q := by
  show mm_T X 4 0 0 k_M_opposeLine 0 [some (.ref 71), none] [] μ _
  have hM := hl.2.1.1
  have ccb : ∀ i, i < 2 → canT (vv u L p i) 0 7 1 (0 + i) (vv u L p) = cb 2 (vv u L p) i := by
    intro i hi3
    apply Bool.eq_iff_iff.mpr
    rw [canT_i, cb_i, Nat.zero_add]
    have h7 : ∀ i, i < 2 → hi (2 * 3 + i) = 7 := by decide
    rw [h7 i hi3]
    exact ⟨fun z => ⟨z.1.2, fun w => absurd w.1 (by decide), fun _ b hb => ((z.2.resolve_left (by decide)) b hb).symm⟩, fun z => ⟨⟨Nat.zero_le _, z.1⟩, Or.inr (fun b hb => (z.2.2 (Or.inr rfl) b hb).symm)⟩⟩
  have fin : ∀ ξ, LM 2 0 u L p f0 p0 μ ξ 2 → mm_T X 4 0 0 k_M_opposeLine 26 [some (.ref 71), none] [] ξ (fun w μ' => ∃ z, w = some (.int z) ∧ q z μ') := by
    intro ξ hx
    have hM := hx.2.1.1
    obtain ⟨c0, c1, b0, b1, e0, e1⟩ := hB.k2 hx.1
    have v0 : mm_I ξ 81 0 = nI (vv u L p 0) := (hx.2.2.2.2.2 0 (by decide)).1
    have v1 : mm_I ξ 81 1 = nI (vv u L p 1) := (hx.2.2.2.2.2 1 (by decide)).1
    rcases gg_01 (k := 2) (v := vv u L p) 2 with ⟨g1, g2⟩ | ⟨g1, g2⟩
    · have e21 : mm_I ξ 71 21 = nI 1 := by rw [hx.2.2.2.2.1, g1]
      have w0 : vv u L p 0 ≤ 7 := (cb_i.mp (g2 0 (by decide))).1
      have w1 : vv u L p 1 ≤ 7 := (cb_i.mp (g2 1 (by decide))).1
      have wne : vv u L p 0 ≠ vv u L p 1 := (cb_i.mp (g2 1 (by decide))).2.2 (Or.inr rfl) 0 (by decide)
      have done : q (nI 1) (mm_sI (mm_sI ξ 80 (18 + vv u L p 0) (mm_I ξ 80 (18 + vv u L p 0) ||| nI (2 ^ vv u L p 1))) 80 (18 + vv u L p 1) (mm_I ξ 80 (18 + vv u L p 1) ||| nI (2 ^ vv u L p 0))) := by
        refine hok _ (EndC.mk hx (K2.rf.k5.s8.s8) (fun j _ => by rw [mm_sI_off (by decide), mm_sI_off (by decide)]) rfl ⟨c0, c1, b0, b1, by rw [mm_I_sI, if_neg (by omega), mm_I_sI, if_neg (by omega)]; exact e0, by rw [mm_I_sI, if_neg (by omega), mm_I_sI, if_neg (by omega)]; exact e1⟩ (fun t h1 h2 h3 h4 => ?_))
        rw [stp2]
        refine ⟨fun j hj => ?_, ?_, fun j hj1 hj2 => ?_⟩
        · rw [mm_I_sI]
          unfold up
          by_cases z : j = 18 + vv u L p 1
          · rw [if_pos ⟨rfl, z⟩, if_pos z, h1.1 _ (by omega), nb_or]
          · rw [if_neg (fun w => z w.2), if_neg z, mm_I_sI]
            by_cases y : j = 18 + vv u L p 0
            · rw [if_pos ⟨rfl, y⟩, if_pos y, h1.1 _ (by omega), nb_or]
            · rw [if_neg (fun w => y w.2), if_neg y]; exact h1.1 j hj
        · rw [mm_sI_off (by decide), mm_sI_off (by decide), up_ne (by omega), up_ne (by omega)]
          exact h1.2.1
        · rw [up_ne (by omega), up_ne (by omega)] at hj1
          rw [up_ne (by omega), up_ne (by omega)]
          exact h1.2.2 j hj1 hj2
      refine mm_ciN 0 d_M_opposeLine_26 rfl ?_
      refine mm_ist1 d_M_opposeLine_27 ?_
      refine mm_iload d_M_opposeLine_28 rfl ?_
      refine mm_ciN 2 d_M_opposeLine_29 rfl ?_
      refine mm_icmp_geN d_M_opposeLine_30 (by first | omega | exact ite01_lt | exact bt8_lt31 _ _ | exact godB_lt31 _ _ _ | exact pop_lt31 _ | assumption | exact b31 (hW.gp (by omega)) | exact b31 (hW.ne (by omega)) | exact b31 (hW.op (by omega)) | exact and31 (hW.gp (by omega)) | exact and31 (hW.ne (by omega)) | exact and31 (hW.op (by omega)) | exact and31 (by assumption) | exact and31r (hW.ne (by omega)) | exact and31r (hW.gp (by omega)) | exact and31r (by decide)) (by first | omega | exact ite01_lt | exact bt8_lt31 _ _ | exact godB_lt31 _ _ _ | exact pop_lt31 _ | assumption | exact b31 (hW.gp (by omega)) | exact b31 (hW.ne (by omega)) | exact b31 (hW.op (by omega)) | exact and31 (hW.gp (by omega)) | exact and31 (hW.ne (by omega)) | exact and31 (hW.op (by omega)) | exact and31 (by assumption) | exact and31r (hW.ne (by omega)) | exact and31r (hW.gp (by omega)) | exact and31r (by decide)) (fun c_30 => False.elim (by omega)) (fun c_30 => ?_)
      refine mm_aload d_M_opposeLine_33 rfl ?_
      refine mm_getIV d_M_opposeLine_34 rfl (sk_o_71 hM) e21 ?_
      refine mm_if_eqN d_M_opposeLine_37 (by first | omega | exact ite01_lt | exact bt8_lt31 _ _ | exact godB_lt31 _ _ _ | exact pop_lt31 _ | assumption | exact b31 (hW.gp (by omega)) | exact b31 (hW.ne (by omega)) | exact b31 (hW.op (by omega)) | exact and31 (hW.gp (by omega)) | exact and31 (hW.ne (by omega)) | exact and31 (hW.op (by omega)) | exact and31 (by assumption) | exact and31r (hW.ne (by omega)) | exact and31r (hW.gp (by omega)) | exact and31r (by decide)) (fun c_37 => False.elim (by omega)) (fun c_37 => ?_)
      refine mm_aload d_M_opposeLine_40 rfl ?_
      refine mm_getP d_M_opposeLine_41 rfl (sk_o_71 hM) (sk_p_71_18 hM) ?_
      refine mm_ciN 18 d_M_opposeLine_44 rfl ?_
      refine mm_aload d_M_opposeLine_46 rfl ?_
      refine mm_getP d_M_opposeLine_47 rfl (sk_o_71 hM) (sk_p_71_19 hM) ?_
      refine mm_iload d_M_opposeLine_50 rfl ?_
      refine mm_ialdN d_M_opposeLine_51 (sk_a_81 hM) (by omega) (by decide) v0 ?_
      refine mm_iaddN d_M_opposeLine_52 ?_
      refine mm_dup2 d_M_opposeLine_53 rfl rfl ?_
      refine mm_ialdX d_M_opposeLine_54 (sk_a_80 hM) (by omega) (by decide) ?_
      refine mm_ciN 1 d_M_opposeLine_55 rfl ?_
      refine mm_aload d_M_opposeLine_56 rfl ?_
      refine mm_getP d_M_opposeLine_57 rfl (sk_o_71 hM) (sk_p_71_19 hM) ?_
      refine mm_ciN 1 d_M_opposeLine_60 rfl ?_
      refine mm_iload d_M_opposeLine_61 rfl ?_
      refine mm_isubN d_M_opposeLine_62 (by omega) ?_
      refine mm_ialdN d_M_opposeLine_63 (sk_a_81 hM) (by omega) (by decide) v1 ?_
      refine mm_ishl1N d_M_opposeLine_64 (by omega) ?_
      refine mm_ior d_M_opposeLine_65 ?_
      refine mm_iastX d_M_opposeLine_66 (sk_a_80 hM) (by omega) (by decide) ?_
      refine mm_inc1N d_M_opposeLine_67 ?_
      refine mm_goto d_M_opposeLine_70 ?_
      refine mm_iload d_M_opposeLine_28 rfl ?_
      refine mm_ciN 2 d_M_opposeLine_29 rfl ?_
      refine mm_icmp_geN d_M_opposeLine_30 (by first | omega | exact ite01_lt | exact bt8_lt31 _ _ | exact godB_lt31 _ _ _ | exact pop_lt31 _ | assumption | exact b31 (hW.gp (by omega)) | exact b31 (hW.ne (by omega)) | exact b31 (hW.op (by omega)) | exact and31 (hW.gp (by omega)) | exact and31 (hW.ne (by omega)) | exact and31 (hW.op (by omega)) | exact and31 (by assumption) | exact and31r (hW.ne (by omega)) | exact and31r (hW.gp (by omega)) | exact and31r (by decide)) (by first | omega | exact ite01_lt | exact bt8_lt31 _ _ | exact godB_lt31 _ _ _ | exact pop_lt31 _ | assumption | exact b31 (hW.gp (by omega)) | exact b31 (hW.ne (by omega)) | exact b31 (hW.op (by omega)) | exact and31 (hW.gp (by omega)) | exact and31 (hW.ne (by omega)) | exact and31 (hW.op (by omega)) | exact and31 (by assumption) | exact and31r (hW.ne (by omega)) | exact and31r (hW.gp (by omega)) | exact and31r (by decide)) (fun c_30 => False.elim (by omega)) (fun c_30 => ?_)
      refine mm_aload d_M_opposeLine_33 rfl ?_
      refine mm_getIV d_M_opposeLine_34 rfl (sk_o_71 hM) (show _ = nI 1 by rw [mm_sI_off (by decide)]; exact e21) ?_
      refine mm_if_eqN d_M_opposeLine_37 (by first | omega | exact ite01_lt | exact bt8_lt31 _ _ | exact godB_lt31 _ _ _ | exact pop_lt31 _ | assumption | exact b31 (hW.gp (by omega)) | exact b31 (hW.ne (by omega)) | exact b31 (hW.op (by omega)) | exact and31 (hW.gp (by omega)) | exact and31 (hW.ne (by omega)) | exact and31 (hW.op (by omega)) | exact and31 (by assumption) | exact and31r (hW.ne (by omega)) | exact and31r (hW.gp (by omega)) | exact and31r (by decide)) (fun c_37 => False.elim (by omega)) (fun c_37 => ?_)
      refine mm_aload d_M_opposeLine_40 rfl ?_
      refine mm_getP d_M_opposeLine_41 rfl (sk_o_71 hM) (sk_p_71_18 hM) ?_
      refine mm_ciN 18 d_M_opposeLine_44 rfl ?_
      refine mm_aload d_M_opposeLine_46 rfl ?_
      refine mm_getP d_M_opposeLine_47 rfl (sk_o_71 hM) (sk_p_71_19 hM) ?_
      refine mm_iload d_M_opposeLine_50 rfl ?_
      refine mm_ialdN d_M_opposeLine_51 (sk_a_81 hM) (by omega) (by decide) (show _ = nI (vv u L p 1) by rw [mm_sI_off (by decide)]; exact v1) ?_
      refine mm_iaddN d_M_opposeLine_52 ?_
      refine mm_dup2 d_M_opposeLine_53 rfl rfl ?_
      refine mm_ialdV d_M_opposeLine_54 (sk_a_80 hM) (by omega) (by decide) (show _ = mm_I ξ 80 (18 + vv u L p 1) by rw [mm_I_sI, if_neg (by omega)]) ?_
      refine mm_ciN 1 d_M_opposeLine_55 rfl ?_
      refine mm_aload d_M_opposeLine_56 rfl ?_
      refine mm_getP d_M_opposeLine_57 rfl (sk_o_71 hM) (sk_p_71_19 hM) ?_
      refine mm_ciN 1 d_M_opposeLine_60 rfl ?_
      refine mm_iload d_M_opposeLine_61 rfl ?_
      refine mm_isubN d_M_opposeLine_62 (by omega) ?_
      refine mm_ialdN d_M_opposeLine_63 (sk_a_81 hM) (by omega) (by decide) (show _ = nI (vv u L p 0) by rw [mm_sI_off (by decide)]; exact v0) ?_
      refine mm_ishl1N d_M_opposeLine_64 (by omega) ?_
      refine mm_ior d_M_opposeLine_65 ?_
      refine mm_iastX d_M_opposeLine_66 (sk_a_80 hM) (by omega) (by decide) ?_
      refine mm_inc1N d_M_opposeLine_67 ?_
      refine mm_goto d_M_opposeLine_70 ?_
      refine mm_iload d_M_opposeLine_28 rfl ?_
      refine mm_ciN 2 d_M_opposeLine_29 rfl ?_
      refine mm_icmp_geN d_M_opposeLine_30 (by first | omega | exact ite01_lt | exact bt8_lt31 _ _ | exact godB_lt31 _ _ _ | exact pop_lt31 _ | assumption | exact b31 (hW.gp (by omega)) | exact b31 (hW.ne (by omega)) | exact b31 (hW.op (by omega)) | exact and31 (hW.gp (by omega)) | exact and31 (hW.ne (by omega)) | exact and31 (hW.op (by omega)) | exact and31 (by assumption) | exact and31r (hW.ne (by omega)) | exact and31r (hW.gp (by omega)) | exact and31r (by decide)) (by first | omega | exact ite01_lt | exact bt8_lt31 _ _ | exact godB_lt31 _ _ _ | exact pop_lt31 _ | assumption | exact b31 (hW.gp (by omega)) | exact b31 (hW.ne (by omega)) | exact b31 (hW.op (by omega)) | exact and31 (hW.gp (by omega)) | exact and31 (hW.ne (by omega)) | exact and31 (hW.op (by omega)) | exact and31 (by assumption) | exact and31r (hW.ne (by omega)) | exact and31r (hW.gp (by omega)) | exact and31r (by decide)) (fun c_30 => ?_) (fun c_30 => False.elim (by omega))
      refine mm_ciN 1 d_M_opposeLine_73 rfl ?_
      exact mm_rz d_M_opposeLine_74 done
    · have e21 : mm_I ξ 71 21 = nI 0 := by rw [hx.2.2.2.2.1, g1]
      have done : q (nI 1) ξ := hok _ (EndC.mk hx K2.rf.k5 (fun j _ => rfl) rfl ⟨c0, c1, b0, b1, e0, e1⟩ (fun t h1 h2 h3 h4 => absurd h4 g2))
      refine mm_ciN 0 d_M_opposeLine_26 rfl ?_
      refine mm_ist1 d_M_opposeLine_27 ?_
      refine mm_iload d_M_opposeLine_28 rfl ?_
      refine mm_ciN 2 d_M_opposeLine_29 rfl ?_
      refine mm_icmp_geN d_M_opposeLine_30 (by first | omega | exact ite01_lt | exact bt8_lt31 _ _ | exact godB_lt31 _ _ _ | exact pop_lt31 _ | assumption | exact b31 (hW.gp (by omega)) | exact b31 (hW.ne (by omega)) | exact b31 (hW.op (by omega)) | exact and31 (hW.gp (by omega)) | exact and31 (hW.ne (by omega)) | exact and31 (hW.op (by omega)) | exact and31 (by assumption) | exact and31r (hW.ne (by omega)) | exact and31r (hW.gp (by omega)) | exact and31r (by decide)) (by first | omega | exact ite01_lt | exact bt8_lt31 _ _ | exact godB_lt31 _ _ _ | exact pop_lt31 _ | assumption | exact b31 (hW.gp (by omega)) | exact b31 (hW.ne (by omega)) | exact b31 (hW.op (by omega)) | exact and31 (hW.gp (by omega)) | exact and31 (hW.ne (by omega)) | exact and31 (hW.op (by omega)) | exact and31 (by assumption) | exact and31r (hW.ne (by omega)) | exact and31r (hW.gp (by omega)) | exact and31r (by decide)) (fun c_30 => False.elim (by omega)) (fun c_30 => ?_)
      refine mm_aload d_M_opposeLine_33 rfl ?_
      refine mm_getIV d_M_opposeLine_34 rfl (sk_o_71 hM) e21 ?_
      refine mm_if_eqN d_M_opposeLine_37 (by first | omega | exact ite01_lt | exact bt8_lt31 _ _ | exact godB_lt31 _ _ _ | exact pop_lt31 _ | assumption | exact b31 (hW.gp (by omega)) | exact b31 (hW.ne (by omega)) | exact b31 (hW.op (by omega)) | exact and31 (hW.gp (by omega)) | exact and31 (hW.ne (by omega)) | exact and31 (hW.op (by omega)) | exact and31 (by assumption) | exact and31r (hW.ne (by omega)) | exact and31r (hW.gp (by omega)) | exact and31r (by decide)) (fun c_37 => ?_) (fun c_37 => False.elim (by omega))
      refine mm_ciN 1 d_M_opposeLine_73 rfl ?_
      exact mm_rz d_M_opposeLine_74 done
  refine mm_aload d_M_opposeLine_0 rfl ?_
  refine mm_ciN 0 d_M_opposeLine_1 rfl ?_
  refine mm_ciN 0 d_M_opposeLine_2 rfl ?_
  refine mm_ciN 7 d_M_opposeLine_3 rfl ?_
  refine mm_ciN 1 d_M_opposeLine_5 rfl ?_
  refine mm_v4i d_M_opposeLine_6 (sk_o_71 hM) (sp_LM (o := 0) (i := 0) hl hp (by decide) (by decide) (by decide) (Or.inr ⟨rfl, rfl⟩) (fun _ => ccb 0 (by decide)) (fun h3 ξ kx e => mm_if_eqN d_M_opposeLine_9 (by decide) (fun _ => mm_ciN 0 d_M_opposeLine_24 rfl (mm_rz d_M_opposeLine_25 (hst 0 ξ (by decide) h3 (fun j hj => absurd hj (Nat.not_lt_zero j)) kx e))) (fun c => absurd rfl c)) (fun h3 ξ1 l1 => ?_))
  replace hM := l1.2.1.1
  refine mm_if_eqN d_M_opposeLine_9 (by first | omega | exact ite01_lt | exact bt8_lt31 _ _ | exact godB_lt31 _ _ _ | exact pop_lt31 _ | assumption | exact b31 (hW.gp (by omega)) | exact b31 (hW.ne (by omega)) | exact b31 (hW.op (by omega)) | exact and31 (hW.gp (by omega)) | exact and31 (hW.ne (by omega)) | exact and31 (hW.op (by omega)) | exact and31 (by assumption) | exact and31r (hW.ne (by omega)) | exact and31r (hW.gp (by omega)) | exact and31r (by decide)) (fun c_9 => False.elim (by omega)) (fun c_9 => ?_)
  refine mm_aload d_M_opposeLine_12 rfl ?_
  refine mm_ciN 1 d_M_opposeLine_13 rfl ?_
  refine mm_ciN 0 d_M_opposeLine_14 rfl ?_
  refine mm_ciN 7 d_M_opposeLine_15 rfl ?_
  refine mm_ciN 1 d_M_opposeLine_17 rfl ?_
  refine mm_v4i d_M_opposeLine_18 (sk_o_71 hM) (sp_LM (o := 0) (i := 1) l1 hp (by decide) (by decide) (by decide) (Or.inr ⟨rfl, rfl⟩) (fun _ => ccb 1 (by decide)) (fun h3 ξ kx e => mm_if_neN d_M_opposeLine_21 (by decide) (fun c => absurd rfl c) (fun _ => mm_ciN 0 d_M_opposeLine_24 rfl (mm_rz d_M_opposeLine_25 (hst 1 ξ (by decide) h3 (fun j hj => (l1.2.2.2.2.2 j hj).2) kx e)))) (fun h3 ξ2 l2 => ?_))
  refine mm_if_neN d_M_opposeLine_21 (by first | omega | exact ite01_lt | exact bt8_lt31 _ _ | exact godB_lt31 _ _ _ | exact pop_lt31 _ | assumption | exact b31 (hW.gp (by omega)) | exact b31 (hW.ne (by omega)) | exact b31 (hW.op (by omega)) | exact and31 (hW.gp (by omega)) | exact and31 (hW.ne (by omega)) | exact and31 (hW.op (by omega)) | exact and31 (by assumption) | exact and31r (hW.ne (by omega)) | exact and31r (hW.gp (by omega)) | exact and31r (by decide)) (fun c_21 => ?_) (fun c_21 => False.elim (by omega))
  exact fin ξ2 l2
theorem or_pow_lt {W m a : Nat} (h1 : W < 2 ^ (m + 1)) (h : a ≤ m) : W ||| 2 ^ a < 2 ^ (m + 1) := Nat.or_lt_two_pow h1 (Nat.pow_lt_pow_right (by decide) (by omega))
theorem or_ge_l {W x : Nat} : W ≤ W ||| x := Nat.left_le_or
theorem or_ge_r {W x : Nat} : x ≤ W ||| x := Nat.right_le_or
theorem FO_up {W a : Nat} {x : Int32} (h : FO W x) (ha : a < 6) : FO (W ||| 2 ^ a) (if x ≤ nI a then nI a else x) := by
  rcases h with ⟨rfl, rfl⟩ | ⟨m, m6, rfl, m1, m2⟩
  · rw [if_pos (by rw [Int32.le_iff_toInt_le, nI_toInt (by omega)]; have w : (-1 : Int32).toInt = -1 := (by decide); omega)]
    exact Or.inr ⟨a, ha, rfl, or_ge_r, by rw [Nat.zero_or]; exact Nat.pow_lt_pow_right (by decide) (by omega)⟩
  · by_cases z : m ≤ a
    · rw [if_pos (nI_le z (by omega))]
      exact Or.inr ⟨a, ha, rfl, or_ge_r, or_pow_lt (Nat.lt_of_lt_of_le m2 (Nat.pow_le_pow_right (by decide) (by omega))) (Nat.le_refl a)⟩
    · rw [if_neg (nI_ge (by omega) (by omega))]
      exact Or.inr ⟨m, m6, rfl, Nat.le_trans m1 or_ge_l, or_pow_lt m2 (by omega)⟩
theorem sp_M_needsLine {X : mm_X} {μ : mm_M} {q : Int32 → mm_M → Prop} {u : Nat → Nat} {L p f0 p0 : Nat} (hl : LM 3 0 u L p f0 p0 μ μ 0) (hp : p ≤ L) (hB : MB0 μ) (hst : ∀ i ξ, i < 2 → tK u L (ps u L p i) ≠ 3 → (∀ j, j < i → tK u L (ps u L p j) = 3) → K2 μ ξ → mm_I ξ 71 15 = nI (tP u L (ps u L p i)) → q (nI 0) ξ) (hok : ∀ ξ, EndC 3 u L p f0 p0 μ ξ → q (nI 1) ξ) : mm_Ci X 4 0 0 k_M_needsLine [.ref 71] μ q := by
  show mm_T X 4 0 0 k_M_needsLine 0 [some (.ref 71)] [] μ _
  have hM := hl.2.1.1
  have cc0 : canT (vv u L p 0) 0 5 0 (0 + 0) (vv u L p) = cb 3 (vv u L p) 0 := by
    apply Bool.eq_iff_iff.mpr
    rw [canT_i, cb_i]
    have : hi (3 * 3 + 0) = 5 := rfl
    omega
  have cc1 : canT (vv u L p 1) 0 7 0 (0 + 1) (vv u L p) = cb 3 (vv u L p) 1 := by
    apply Bool.eq_iff_iff.mpr
    rw [canT_i, cb_i]
    have : hi (3 * 3 + 1) = 7 := rfl
    omega
  have fin : ∀ ξ, LM 3 0 u L p f0 p0 μ ξ 2 → mm_T X 4 0 0 k_M_needsLine 23 [some (.ref 71)] [] ξ (fun w μ' => ∃ z, w = some (.int z) ∧ q z μ') := by
    intro ξ hx
    have hM := hx.2.1.1
    obtain ⟨c0, c1, b0, b1, e0, e1⟩ := hB.k2 hx.1
    have v0 : mm_I ξ 81 0 = nI (vv u L p 0) := (hx.2.2.2.2.2 0 (by decide)).1
    have v1 : mm_I ξ 81 1 = nI (vv u L p 1) := (hx.2.2.2.2.2 1 (by decide)).1
    rcases gg_01 (k := 3) (v := vv u L p) 2 with ⟨g1, g2⟩ | ⟨g1, g2⟩
    · have e21 : mm_I ξ 71 21 = nI 1 := by rw [hx.2.2.2.2.1, g1]
      have w0 : vv u L p 0 ≤ 5 := (cb_i.mp (g2 0 (by decide))).1
      have w1 : vv u L p 1 ≤ 7 := (cb_i.mp (g2 1 (by decide))).1
      have done : q (nI 1) (mm_sI (mm_sI ξ 71 20 (if mm_I ξ 71 20 ≤ nI (vv u L p 0) then nI (vv u L p 0) else mm_I ξ 71 20)) 80 (38 + vv u L p 0) (mm_I ξ 80 (38 + vv u L p 0) ||| nI (2 ^ vv u L p 1))) := by
        refine hok _ (EndC.mk hx (K2.rf.k5.sF.s8) (fun j hj => by rw [mm_sI_off (by decide), mm_I_sI, if_neg (fun w => hj w.2)]) rfl ⟨c0, c1, b0, b1, by rw [mm_I_sI, if_neg (by omega), mm_sI_off (by decide)]; exact e0, by rw [mm_I_sI, if_neg (by omega), mm_sI_off (by decide)]; exact e1⟩ (fun t h1 h2 h3 h4 => ?_))
        rw [stp3]
        refine ⟨fun j hj => ?_, ?_, fun j hj1 hj2 => ?_⟩
        · rw [mm_I_sI, up_ne (by omega)]
          unfold up
          by_cases y : j = 38 + vv u L p 0
          · rw [if_pos ⟨rfl, y⟩, if_pos y, h1.1 _ (by omega), nb_or]
          · rw [if_neg (fun w => y w.2), if_neg y, mm_sI_off (by decide)]; exact h1.1 j hj
        · rw [mm_sI_off (by decide), mm_I_sI, if_pos ⟨rfl, rfl⟩, up_at]
          exact FO_up h1.2.1 (by omega)
        · rw [up_ne (by omega), up_ne (by omega)] at hj1
          rw [up_ne (by omega), up_ne (by omega)]
          exact h1.2.2 j hj1 hj2
      refine mm_aload d_M_needsLine_23 rfl ?_
      refine mm_aload d_M_needsLine_24 rfl ?_
      refine mm_getI d_M_needsLine_25 rfl (sk_o_71 hM) ?_
      refine mm_aload d_M_needsLine_28 rfl ?_
      refine mm_getP d_M_needsLine_29 rfl (sk_o_71 hM) (sk_p_71_19 hM) ?_
      refine mm_ciN 0 d_M_needsLine_32 rfl ?_
      refine mm_ialdN d_M_needsLine_33 (sk_a_81 hM) (by omega) (by decide) v0 ?_
      refine mm_s2i d_M_needsLine_34 (sp_M_greater ?_)
      refine mm_putI d_M_needsLine_37 rfl (sk_o_71 hM) (Or.inl rfl) ?_
      refine mm_aload d_M_needsLine_40 rfl ?_
      refine mm_getIV d_M_needsLine_41 rfl (sk_o_71 hM) (show _ = nI 1 by rw [mm_I_sI, if_neg (by decide)]; exact e21) ?_
      refine mm_if_eqN d_M_needsLine_44 (by first | omega | exact ite01_lt | exact bt8_lt31 _ _ | exact godB_lt31 _ _ _ | exact pop_lt31 _ | assumption | exact b31 (hW.gp (by omega)) | exact b31 (hW.ne (by omega)) | exact b31 (hW.op (by omega)) | exact and31 (hW.gp (by omega)) | exact and31 (hW.ne (by omega)) | exact and31 (hW.op (by omega)) | exact and31 (by assumption) | exact and31r (hW.ne (by omega)) | exact and31r (hW.gp (by omega)) | exact and31r (by decide)) (fun c_44 => False.elim (by omega)) (fun c_44 => ?_)
      refine mm_aload d_M_needsLine_47 rfl ?_
      refine mm_getP d_M_needsLine_48 rfl (sk_o_71 hM) (sk_p_71_18 hM) ?_
      refine mm_ciN 38 d_M_needsLine_51 rfl ?_
      refine mm_aload d_M_needsLine_53 rfl ?_
      refine mm_getP d_M_needsLine_54 rfl (sk_o_71 hM) (sk_p_71_19 hM) ?_
      refine mm_ciN 0 d_M_needsLine_57 rfl ?_
      refine mm_ialdN d_M_needsLine_58 (sk_a_81 hM) (by omega) (by decide) (show _ = nI (vv u L p 0) by rw [mm_sI_off (by decide)]; exact v0) ?_
      refine mm_iaddN d_M_needsLine_59 ?_
      refine mm_dup2 d_M_needsLine_60 rfl rfl ?_
      refine mm_ialdV d_M_needsLine_61 (sk_a_80 hM) (by omega) (by decide) (show _ = mm_I ξ 80 (38 + vv u L p 0) by rw [mm_sI_off (by decide)]) ?_
      refine mm_ciN 1 d_M_needsLine_62 rfl ?_
      refine mm_aload d_M_needsLine_63 rfl ?_
      refine mm_getP d_M_needsLine_64 rfl (sk_o_71 hM) (sk_p_71_19 hM) ?_
      refine mm_ciN 1 d_M_needsLine_67 rfl ?_
      refine mm_ialdN d_M_needsLine_68 (sk_a_81 hM) (by omega) (by decide) (show _ = nI (vv u L p 1) by rw [mm_sI_off (by decide)]; exact v1) ?_
      refine mm_ishl1N d_M_needsLine_69 (by omega) ?_
      refine mm_ior d_M_needsLine_70 ?_
      refine mm_iastX d_M_needsLine_71 (sk_a_80 hM) (by omega) (by decide) ?_
      refine mm_ciN 1 d_M_needsLine_72 rfl ?_
      exact mm_rz d_M_needsLine_73 done
    · have e21 : mm_I ξ 71 21 = nI 0 := by rw [hx.2.2.2.2.1, g1]
      have done : ∀ x, q (nI 1) (mm_sI ξ 71 20 x) := fun x => hok _ (EndC.mk hx (K2.rf.k5.sF) (fun j hj => by rw [mm_I_sI, if_neg (fun w => hj w.2)]) rfl ⟨c0, c1, b0, b1, by rw [mm_sI_off (by decide)]; exact e0, by rw [mm_sI_off (by decide)]; exact e1⟩ (fun t h1 h2 h3 h4 => absurd h4 g2))
      refine mm_aload d_M_needsLine_23 rfl ?_
      refine mm_aload d_M_needsLine_24 rfl ?_
      refine mm_getI d_M_needsLine_25 rfl (sk_o_71 hM) ?_
      refine mm_aload d_M_needsLine_28 rfl ?_
      refine mm_getP d_M_needsLine_29 rfl (sk_o_71 hM) (sk_p_71_19 hM) ?_
      refine mm_ciN 0 d_M_needsLine_32 rfl ?_
      refine mm_ialdN d_M_needsLine_33 (sk_a_81 hM) (by omega) (by decide) v0 ?_
      refine mm_s2i d_M_needsLine_34 (sp_M_greater ?_)
      refine mm_putI d_M_needsLine_37 rfl (sk_o_71 hM) (Or.inl rfl) ?_
      refine mm_aload d_M_needsLine_40 rfl ?_
      refine mm_getIV d_M_needsLine_41 rfl (sk_o_71 hM) (show _ = nI 0 by rw [mm_I_sI, if_neg (by decide)]; exact e21) ?_
      refine mm_if_eqN d_M_needsLine_44 (by first | omega | exact ite01_lt | exact bt8_lt31 _ _ | exact godB_lt31 _ _ _ | exact pop_lt31 _ | assumption | exact b31 (hW.gp (by omega)) | exact b31 (hW.ne (by omega)) | exact b31 (hW.op (by omega)) | exact and31 (hW.gp (by omega)) | exact and31 (hW.ne (by omega)) | exact and31 (hW.op (by omega)) | exact and31 (by assumption) | exact and31r (hW.ne (by omega)) | exact and31r (hW.gp (by omega)) | exact and31r (by decide)) (fun c_44 => ?_) (fun c_44 => False.elim (by omega))
      refine mm_ciN 1 d_M_needsLine_72 rfl ?_
      exact mm_rz d_M_needsLine_73 (done _)
  refine mm_aload d_M_needsLine_0 rfl ?_
  refine mm_ciN 0 d_M_needsLine_1 rfl ?_
  refine mm_ciN 0 d_M_needsLine_2 rfl ?_
  refine mm_ciN 5 d_M_needsLine_3 rfl ?_
  refine mm_v3i d_M_needsLine_4 (sk_o_71 hM) (sp_M_take hM (sp_LM (o := 0) (i := 0) hl hp (by decide) (by decide) (by decide) (Or.inl rfl) (fun _ => cc0) (fun h3 ξ kx e => ⟨Or.inl rfl, mm_if_eqN d_M_needsLine_7 (by decide) (fun _ => mm_ciN 0 d_M_needsLine_21 rfl (mm_rz d_M_needsLine_22 (hst 0 ξ (by decide) h3 (fun j hj => absurd hj (Nat.not_lt_zero j)) kx e))) (fun c => absurd rfl c)⟩) (fun h3 ξ1 l1 => ⟨Or.inr rfl, ?_⟩)))
  replace hM := l1.2.1.1
  refine mm_if_eqN d_M_needsLine_7 (by decide) (fun c => absurd c (by decide)) (fun _ => ?_)
  refine mm_aload d_M_needsLine_10 rfl ?_
  refine mm_ciN 1 d_M_needsLine_11 rfl ?_
  refine mm_ciN 0 d_M_needsLine_12 rfl ?_
  refine mm_ciN 7 d_M_needsLine_13 rfl ?_
  refine mm_v3i d_M_needsLine_15 (sk_o_71 hM) (sp_M_take hM (sp_LM (o := 0) (i := 1) l1 hp (by decide) (by decide) (by decide) (Or.inl rfl) (fun _ => cc1) (fun h3 ξ kx e => ⟨Or.inl rfl, mm_if_neN d_M_needsLine_18 (by decide) (fun c => absurd rfl c) (fun _ => mm_ciN 0 d_M_needsLine_21 rfl (mm_rz d_M_needsLine_22 (hst 1 ξ (by decide) h3 (fun j hj => (l1.2.2.2.2.2 j hj).2) kx e)))⟩) (fun h3 ξ2 l2 => ⟨Or.inr rfl, ?_⟩)))
  refine mm_if_neN d_M_needsLine_18 (by decide) (fun _ => fin ξ2 l2) (fun c => absurd c (by decide))
