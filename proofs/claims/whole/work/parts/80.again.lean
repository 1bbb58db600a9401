/-! pairs: again, image -/
theorem mm_P_sP {μ : mm_M} {a j b i : Nat} {x : Option Nat} : mm_P (mm_sP μ a j x) b i = if b = a ∧ i = j then x else mm_P μ b i := by
  by_cases h : b = a
  · subst h
    by_cases h2 : i = j
    · simp [mm_P, mm_sP, h2, va_up]
    · simp [mm_P, mm_sP, h2, va_up]
  · rw [mm_sP_off h, if_neg (fun z => h z.1)]
theorem ToS.eq' {μ μ' : mm_M} {t : Nat} (h : ToS μ t) (hn : mm_n μ' = mm_n μ) (hs : mm_sh μ' = mm_sh μ) (hP : ∀ y, t ≤ y → mm_P μ' y = mm_P μ y) : ToS μ' t := by
  unfold ToS CoS YeS LoS mm_ob mm_ar at *
  rw [hn, hs, hP t (by omega), hP (t + 2) (by omega), hP (t + 17) (by omega), hP (t + 26) (by omega), hP (t + 3) (by omega), hP (t + 10) (by omega), hP (t + 18) (by omega), hP (t + 22) (by omega), hP (t + 27) (by omega), hP (t + 30) (by omega)]
  exact h
theorem TR.fit {μ : mm_M} {t k : Nat} (h : TR μ t k) : ∀ j, fits .byte (.int (mm_I μ (t + 1) j)) = true := h.2.2.1
theorem pair_again {X : mm_X} {k : Nat} {μ : mm_M} (hJ : JJ k μ) (y1 : Int32) : PairI X (JJ (k + 1)) k_G_again k_M_again [.int y1] μ := by
  have hM := hJ.1
  have hw := hJ.2.2.2.up
  have hT0 := hJ.2.1
  obtain ⟨m, m1, m2, m3, m4⟩ := hJ.2.2.1
  rcases rng_or y1 (a := 0) (b := 2) (by decide) (by decide) with ⟨hz, hz2⟩ | ⟨i, -, hi, rfl⟩
  · refine pairQ (nI 0) hJ (d := 12) (d' := 12) (by decide) (by decide) ?_ (fun μ1 hf => ?_)
    · show mm_T X 12 0 0 k_G_again 0 [some (.ref 0), some (.int y1)] [] μ _
      refine mm_iload d_G_again_0 rfl ?_
      refine mm_if_lt d_G_again_1 (fun c_1 => ?_) (fun c_1 => ?_)
      · refine mm_ciN 0 d_G_again_18 rfl ?_
        exact mm_rz d_G_again_19 ⟨rfl, Fr.rf, hw⟩
      · refine mm_iload d_G_again_4 rfl ?_
        refine mm_ciN 3 d_G_again_5 rfl ?_
        refine mm_icmp_ge d_G_again_6 (fun c_6 => ?_) (fun c_6 => False.elim (hz2.elim c_1 (fun z => c_6 (i32_succ_le z))))
        refine mm_ciN 0 d_G_again_18 rfl ?_
        exact mm_rz d_G_again_19 ⟨rfl, Fr.rf, hw⟩
    · show mm_T X 12 0 0 k_M_again 0 [some (.ref 71), some (.int y1)] [] μ1 _
      replace hM := hf.2.2.2 hM
      refine mm_aload d_M_again_0 rfl ?_
      refine mm_ciN 0 d_M_again_1 rfl ?_
      refine mm_putI d_M_again_2 rfl (sk_o_71 hM) (Or.inl rfl) ?_
      refine mm_iload d_M_again_5 rfl ?_
      refine mm_ciN 0 d_M_again_6 rfl ?_
      refine mm_ciN 2 d_M_again_7 rfl ?_
      refine mm_s3i d_M_again_8 (sp_M_inB hz ?_)
      refine mm_if_eqN d_M_again_11 (by first | omega | exact ite01_lt | exact bt8_lt31 _ _ | exact godB_lt31 _ _ _ | exact pop_lt31 _ | assumption | exact b31 (hW.gp (by omega)) | exact b31 (hW.ne (by omega)) | exact b31 (hW.op (by omega)) | exact and31 (hW.gp (by omega)) | exact and31 (hW.ne (by omega)) | exact and31 (hW.op (by omega)) | exact and31 (by assumption) | exact and31r (hW.ne (by omega)) | exact and31r (hW.gp (by omega)) | exact and31r (by decide)) (fun c_11 => ?_) (fun c_11 => False.elim (by omega))
      refine mm_ciN 0 d_M_again_23 rfl ?_
      exact mm_rz d_M_again_24 ⟨rfl, Fr.rf.sI rfl⟩
  · rcases m4 i (by omega) with ⟨z1, z2⟩ | ⟨e, e1, z2, z3, z4, z5⟩
    · refine pairQ (nI 0) hJ (d := 12) (d' := 12) (by decide) (by decide) ?_ (fun μ1 hf => ?_)
      · show mm_T X 12 0 0 k_G_again 0 [some (.ref 0), some (.int (nI i))] [] μ _
        refine mm_iload d_G_again_0 rfl ?_
        refine mm_if_ltN d_G_again_1 (by first | omega | exact ite01_lt | exact bt8_lt31 _ _ | exact godB_lt31 _ _ _ | exact pop_lt31 _ | assumption | exact b31 (hW.gp (by omega)) | exact b31 (hW.ne (by omega)) | exact b31 (hW.op (by omega)) | exact and31 (hW.gp (by omega)) | exact and31 (hW.ne (by omega)) | exact and31 (hW.op (by omega)) | exact and31 (by assumption) | exact and31r (hW.ne (by omega)) | exact and31r (hW.gp (by omega)) | exact and31r (by decide)) ?_
        refine mm_iload d_G_again_4 rfl ?_
        refine mm_ciN 3 d_G_again_5 rfl ?_
        refine mm_icmp_geN d_G_again_6 (by first | omega | exact ite01_lt | exact bt8_lt31 _ _ | exact godB_lt31 _ _ _ | exact pop_lt31 _ | assumption | exact b31 (hW.gp (by omega)) | exact b31 (hW.ne (by omega)) | exact b31 (hW.op (by omega)) | exact and31 (hW.gp (by omega)) | exact and31 (hW.ne (by omega)) | exact and31 (hW.op (by omega)) | exact and31 (by assumption) | exact and31r (hW.ne (by omega)) | exact and31r (hW.gp (by omega)) | exact and31r (by decide)) (by first | omega | exact ite01_lt | exact bt8_lt31 _ _ | exact godB_lt31 _ _ _ | exact pop_lt31 _ | assumption | exact b31 (hW.gp (by omega)) | exact b31 (hW.ne (by omega)) | exact b31 (hW.op (by omega)) | exact and31 (hW.gp (by omega)) | exact and31 (hW.ne (by omega)) | exact and31 (hW.op (by omega)) | exact and31 (by assumption) | exact and31r (hW.ne (by omega)) | exact and31r (hW.gp (by omega)) | exact and31r (by decide)) (fun c_6 => False.elim (by omega)) (fun c_6 => ?_)
        refine mm_aload d_G_again_9 rfl ?_
        refine mm_getP d_G_again_10 rfl (sk_o_0 hM) (sk_p_0_1 hM) ?_
        refine mm_iload d_G_again_13 rfl ?_
        refine mm_aald0X d_G_again_14 (t := 3) (sk_a_35 hM) (by omega) (by decide) z1 ?_
        refine mm_ifnonnullN d_G_again_15 ?_
        refine mm_ciN 0 d_G_again_18 rfl ?_
        exact mm_rz d_G_again_19 ⟨rfl, Fr.rf, hw⟩
      · show mm_T X 12 0 0 k_M_again 0 [some (.ref 71), some (.int (nI i))] [] μ1 _
        replace hM := hf.2.2.2 hM
        refine mm_aload d_M_again_0 rfl ?_
        refine mm_ciN 0 d_M_again_1 rfl ?_
        refine mm_putI d_M_again_2 rfl (sk_o_71 hM) (Or.inl rfl) ?_
        refine mm_iload d_M_again_5 rfl ?_
        refine mm_ciN 0 d_M_again_6 rfl ?_
        refine mm_ciN 2 d_M_again_7 rfl ?_
        refine mm_s3i d_M_again_8 (sp_M_inT (by omega) (by omega) (by omega) ?_)
        refine mm_if_eqN d_M_again_11 (by first | omega | exact ite01_lt | exact bt8_lt31 _ _ | exact godB_lt31 _ _ _ | exact pop_lt31 _ | assumption | exact b31 (hW.gp (by omega)) | exact b31 (hW.ne (by omega)) | exact b31 (hW.op (by omega)) | exact and31 (hW.gp (by omega)) | exact and31 (hW.ne (by omega)) | exact and31 (hW.op (by omega)) | exact and31 (by assumption) | exact and31r (hW.ne (by omega)) | exact and31r (hW.gp (by omega)) | exact and31r (by decide)) (fun c_11 => False.elim (by omega)) (fun c_11 => ?_)
        refine mm_aload d_M_again_14 rfl ?_
        refine mm_getP d_M_again_15 rfl (sk_o_71 hM) (sk_p_71_50 hM) ?_
        refine mm_iload d_M_again_18 rfl ?_
        refine mm_zaldN d_M_again_19 (sk_a_94 hM) (by omega) (by decide) (show _ = nI 0 by rw [mm_sI_off (by decide), (hf.2.2.1 94 rfl).1, z2]; rfl) ?_
        refine mm_if_neN d_M_again_20 (by first | omega | exact ite01_lt | exact bt8_lt31 _ _ | exact godB_lt31 _ _ _ | exact pop_lt31 _ | assumption | exact b31 (hW.gp (by omega)) | exact b31 (hW.ne (by omega)) | exact b31 (hW.op (by omega)) | exact and31 (hW.gp (by omega)) | exact and31 (hW.ne (by omega)) | exact and31 (hW.op (by omega)) | exact and31 (by assumption) | exact and31r (hW.ne (by omega)) | exact and31r (hW.gp (by omega)) | exact and31r (by decide)) (fun c_20 => False.elim (by omega)) (fun c_20 => ?_)
        refine mm_ciN 0 d_M_again_23 rfl ?_
        exact mm_rz d_M_again_24 ⟨rfl, Fr.rf.sI rfl⟩
    · refine pairS (nI 1) (fun μ1 => Fr (scR 1 33) μ μ1 ∧ mm_P μ1 = mm_P μ ∧ CyT μ (95 + 34 * e) μ1 1 ∧ ∀ j, 600 ≤ j → mm_I μ1 2 j = mm_I μ 2 j) (fun μ1 h => h.1.2.2.2 hM) (d := 12) (d' := 12) (by decide) (by decide) ?_ ?_
      · show mm_T X 12 0 0 k_G_again 0 [some (.ref 0), some (.int (nI i))] [] μ _
        refine mm_iload d_G_again_0 rfl ?_
        refine mm_if_ltN d_G_again_1 (by first | omega | exact ite01_lt | exact bt8_lt31 _ _ | exact godB_lt31 _ _ _ | exact pop_lt31 _ | assumption | exact b31 (hW.gp (by omega)) | exact b31 (hW.ne (by omega)) | exact b31 (hW.op (by omega)) | exact and31 (hW.gp (by omega)) | exact and31 (hW.ne (by omega)) | exact and31 (hW.op (by omega)) | exact and31 (by assumption) | exact and31r (hW.ne (by omega)) | exact and31r (hW.gp (by omega)) | exact and31r (by decide)) ?_
        refine mm_iload d_G_again_4 rfl ?_
        refine mm_ciN 3 d_G_again_5 rfl ?_
        refine mm_icmp_geN d_G_again_6 (by first | omega | exact ite01_lt | exact bt8_lt31 _ _ | exact godB_lt31 _ _ _ | exact pop_lt31 _ | assumption | exact b31 (hW.gp (by omega)) | exact b31 (hW.ne (by omega)) | exact b31 (hW.op (by omega)) | exact and31 (hW.gp (by omega)) | exact and31 (hW.ne (by omega)) | exact and31 (hW.op (by omega)) | exact and31 (by assumption) | exact and31r (hW.ne (by omega)) | exact and31r (hW.gp (by omega)) | exact and31r (by decide)) (by first | omega | exact ite01_lt | exact bt8_lt31 _ _ | exact godB_lt31 _ _ _ | exact pop_lt31 _ | assumption | exact b31 (hW.gp (by omega)) | exact b31 (hW.ne (by omega)) | exact b31 (hW.op (by omega)) | exact and31 (hW.gp (by omega)) | exact and31 (hW.ne (by omega)) | exact and31 (hW.op (by omega)) | exact and31 (by assumption) | exact and31r (hW.ne (by omega)) | exact and31r (hW.gp (by omega)) | exact and31r (by decide)) (fun c_6 => False.elim (by omega)) (fun c_6 => ?_)
        refine mm_aload d_G_again_9 rfl ?_
        refine mm_getP d_G_again_10 rfl (sk_o_0 hM) (sk_p_0_1 hM) ?_
        refine mm_iload d_G_again_13 rfl ?_
        refine mm_aaldX d_G_again_14 (t := 3) (sk_a_35 hM) (by omega) (by decide) z2 ?_
        refine mm_ifnonnull d_G_again_15 ?_
        refine mm_aload d_G_again_20 rfl ?_
        refine mm_getP d_G_again_21 rfl (sk_o_0 hM) (sk_p_0_0 hM) ?_
        refine mm_aload d_G_again_24 rfl ?_
        refine mm_getP d_G_again_25 rfl (sk_o_0 hM) (sk_p_0_1 hM) ?_
        refine mm_iload d_G_again_28 rfl ?_
        refine mm_aaldX d_G_again_29 (t := 3) (sk_a_35 hM) (by omega) (by decide) z2 ?_
        refine mm_v1v d_G_again_30 (sk_o_1 hM) (sp_To_copyFrom z4.1 hT0.1 z4.fit (by omega) (fun μ1 f1 p1 c1 o1 => ?_))
        refine mm_ciN 1 d_G_again_33 rfl ?_
        exact mm_rz d_G_again_34 ⟨rfl, f1, p1, c1, o1⟩
      · rintro μ1 ⟨f1, p1, c1, o1⟩
        show mm_T X 12 0 0 k_M_again 0 [some (.ref 71), some (.int (nI i))] [] μ1 _
        replace hM := f1.2.2.2 hM
        have fin : ∀ (j : Nat) (x : Int32) (ν : mm_M), Fr scS (mm_sI μ1 71 j x) ν → Kp (i + 1) 0 (mm_sI μ1 71 j x) ν → (∀ e, e < 4 → e ≠ 0 → Kp e e (mm_sI μ1 71 j x) ν) → JJ (k + 1) ν := by
          intro j x ν g k1 k2
          have q1 : ∀ y, 34 < y → mm_I μ1 y = mm_I μ y := fun y hy => (f1.2.2.1 y (scR_f (by omega))).1
          have q2 : ∀ y, y < 71 ∨ 79 < y → mm_I ν y = mm_I μ1 y := fun y hy => by rw [(g.2.2.1 y (by unfold scS; simp; omega)).1, mm_sI_off (by omega)]
          have q3 : ∀ y, 72 ≤ y → y ≤ 79 → mm_I μ y = mm_I (mm_sI μ1 71 j x) y := fun y hy hy2 => by rw [mm_sI_off (by omega), q1 y (by omega)]
          have F1 : Fr scT μ μ1 := f1.sub (fun a h => by have := scR_o h; unfold scT; simp; omega)
          have F2 : Fr scT μ1 ν := (Fr.rf.sI (a := 71) (j := j) (x := x) rfl).trans (g.sub (fun a h => by unfold scS at h; simp at h; unfold scT; simp; omega))
          have hk : ∀ e, 1 ≤ e → e ≤ 3 → Kp e e μ ν := fun e h1 h2 => (k2 e (by omega) (by omega)).frm q3 (fun y _ _ => rfl)
          refine hJ.told (F1.trans F2) hk ?_ ?_
          · refine z4.mv (sk_t (F2.2.2.2 hM)) (fun j => ?_) (c1.frm (fun x _ => rfl) (fun x hx => q2 _ (by omega))) (k1.frm q3 (fun y _ _ => rfl))
            rw [q2 2 (by omega)]
            by_cases hj : j < 600
            · rw [c1.2.1 j hj]; exact z4.fit j
            · rw [o1 j (by omega)]; exact hT0.fit j
          · obtain ⟨w, w1, w2, w3⟩ := hw
            exact ⟨w, w1, by rw [q2 57 (by omega), q1 57 (by omega)]; exact w2, by rw [q2 62 (by omega), q1 62 (by omega)]; exact w3⟩
        refine mm_aload d_M_again_0 rfl ?_
        refine mm_ciN 0 d_M_again_1 rfl ?_
        refine mm_putI d_M_again_2 rfl (sk_o_71 hM) (Or.inl rfl) ?_
        refine mm_iload d_M_again_5 rfl ?_
        refine mm_ciN 0 d_M_again_6 rfl ?_
        refine mm_ciN 2 d_M_again_7 rfl ?_
        refine mm_s3i d_M_again_8 (sp_M_inT (by omega) (by omega) (by omega) ?_)
        refine mm_if_eqN d_M_again_11 (by first | omega | exact ite01_lt | exact bt8_lt31 _ _ | exact godB_lt31 _ _ _ | exact pop_lt31 _ | assumption | exact b31 (hW.gp (by omega)) | exact b31 (hW.ne (by omega)) | exact b31 (hW.op (by omega)) | exact and31 (hW.gp (by omega)) | exact and31 (hW.ne (by omega)) | exact and31 (hW.op (by omega)) | exact and31 (by assumption) | exact and31r (hW.ne (by omega)) | exact and31r (hW.gp (by omega)) | exact and31r (by decide)) (fun c_11 => False.elim (by omega)) (fun c_11 => ?_)
        refine mm_aload d_M_again_14 rfl ?_
        refine mm_getP d_M_again_15 rfl (sk_o_71 hM) (sk_p_71_50 hM) ?_
        refine mm_iload d_M_again_18 rfl ?_
        refine mm_zaldN d_M_again_19 (sk_a_94 hM) (by omega) (by decide) (show _ = nI 1 by rw [mm_sI_off (by decide), (f1.2.2.1 94 rfl).1, z3]; rfl) ?_
        refine mm_if_neN d_M_again_20 (by first | omega | exact ite01_lt | exact bt8_lt31 _ _ | exact godB_lt31 _ _ _ | exact pop_lt31 _ | assumption | exact b31 (hW.gp (by omega)) | exact b31 (hW.ne (by omega)) | exact b31 (hW.op (by omega)) | exact and31 (hW.gp (by omega)) | exact and31 (hW.ne (by omega)) | exact and31 (hW.op (by omega)) | exact and31 (by assumption) | exact and31r (hW.ne (by omega)) | exact and31r (hW.gp (by omega)) | exact and31r (by decide)) (fun c_20 => ?_) (fun c_20 => False.elim (by omega))
        refine mm_aload d_M_again_25 rfl ?_
        refine mm_iload d_M_again_26 rfl ?_
        refine mm_ciN 1 d_M_again_27 rfl ?_
        refine mm_iaddN d_M_again_28 ?_
        refine mm_ciN 0 d_M_again_29 rfl ?_
        refine mm_v2v d_M_again_30 (sk_o_71 hM) (sp_M_copyAll hM (by omega) (by decide) (by omega) (fun ν g k1 k2 => ?_))
        refine mm_ciN 1 d_M_again_33 rfl ?_
        exact mm_rz d_M_again_34 ⟨rfl, fin _ _ _ g k1 k2⟩
def Ol (a : Nat) (μ μ' : mm_M) : Prop := a ≤ mm_n μ' ∧ ∀ x, x < a → mm_I μ' x = mm_I μ x ∧ mm_P μ' x = mm_P μ x ∧ mm_sh μ' x = mm_sh μ x
theorem Ol.new {a : Nat} {μ μ' : mm_M} {q : Nat × Nat} (h : Ol a μ μ') : Ol a μ (mm_new μ' q) := by
  refine ⟨Nat.le_succ_of_le h.1, fun x hx => ?_⟩
  have hne : ¬ x = μ'.1 := fun e => by have := h.1; unfold mm_n at this; omega
  obtain ⟨h1, h2, h3⟩ := h.2 x hx
  exact ⟨by rw [← h1]; exact if_neg hne, by rw [← h2]; exact if_neg hne, by rw [← h3]; exact if_neg hne⟩
theorem Ol.sP {a b j : Nat} {μ μ' : mm_M} {r : Option Nat} (h : Ol a μ μ') (hb : a ≤ b) : Ol a μ (mm_sP μ' b j r) := ⟨h.1, fun x hx => ⟨(h.2 x hx).1, (mm_sP_off (by omega)).trans (h.2 x hx).2.1, (h.2 x hx).2.2⟩⟩
theorem Ol.sI {a b j : Nat} {μ μ' : mm_M} {r : Int32} (h : Ol a μ μ') (hb : a ≤ b) : Ol a μ (mm_sI μ' b j r) := ⟨h.1, fun x hx => ⟨(mm_sI_off (by omega)).trans (h.2 x hx).1, (h.2 x hx).2.1, (h.2 x hx).2.2⟩⟩
theorem Ol.cCo {a b : Nat} {μ μ' : mm_M} (h : Ol a μ μ') (hb : a ≤ b) : Ol a μ (cCo μ' b) := (((((h.new.sP hb).new.sP hb).new.sP hb).new.sP hb).new.sP hb).new.sP hb
theorem Ol.cYe {a b : Nat} {μ μ' : mm_M} (h : Ol a μ μ') (hb : a ≤ b) : Ol a μ (cYe μ' b) := ((h.new.sP hb).new.sP hb).new.sP hb
theorem Ol.cLo {a b : Nat} {μ μ' : mm_M} (h : Ol a μ μ') (hb : a ≤ b) : Ol a μ (cLo μ' b) := (h.new.sP hb).new.sP hb
theorem Ol.cTo {a b : Nat} {μ μ' : mm_M} (h : Ol a μ μ') (hb : a ≤ b) : Ol a μ (cTo μ' b) := by
  have n0 := h.1
  dsimp only [CGodWeathersLaw_law_r2031_7c753c.cTo]
  repeat (with_reducible first | exact h | refine Ol.new ?_ | refine Ol.sI ?_ hb | refine Ol.cCo ?_ (by omega) | refine Ol.cYe ?_ (by omega) | refine Ol.cLo ?_ (by omega) | refine Ol.sP ?_ (by first | exact hb | omega))
theorem cTo_n {μ : mm_M} {a : Nat} : mm_n (cTo μ a) = mm_n μ + 33 := rfl
theorem ToS_new {μ : mm_M} {m : Nat} (hn : mm_n μ = 95 + 34 * m) (hm : m ≤ 2) : ToS (cTo (mm_new μ (7, 0)) (mm_n μ)) (95 + 34 * m) ∧ ∀ j, mm_I (cTo (mm_new μ (7, 0)) (mm_n μ)) (95 + 34 * m + 1) j = 0 := by
  obtain ⟨n, sh, I, J, P⟩ := μ
  have hn : n = 95 + 34 * m := hn
  have h3 : m = 0 ∨ m = 1 ∨ m = 2 := by omega
  rcases h3 with rfl | rfl | rfl <;> subst hn
  all_goals
    have L : ∀ {a b : Nat}, Nat.ble (a + 1) b = true → a < b := fun h => Nat.le_of_ble_eq_true h
    refine ⟨⟨⟨L rfl, rfl, by decide⟩, ⟨rfl, ⟨L rfl, rfl, by decide⟩⟩, ⟨rfl, ⟨L rfl, rfl, by decide⟩, rfl, rfl, ?_, ?_⟩, ⟨rfl, ⟨L rfl, rfl, by decide⟩, rfl, rfl, ?_, ?_⟩, ⟨rfl, ⟨L rfl, rfl, by decide⟩, rfl, rfl, ?_, ?_⟩, ⟨rfl, ⟨L rfl, rfl, by decide⟩⟩⟩, fun j => rfl⟩
    · exact ⟨⟨L rfl, rfl, by decide⟩, ⟨rfl, ⟨L rfl, rfl, by decide⟩⟩, ⟨rfl, ⟨L rfl, rfl, by decide⟩⟩, ⟨rfl, ⟨L rfl, rfl, by decide⟩⟩, ⟨rfl, ⟨L rfl, rfl, by decide⟩⟩, ⟨rfl, ⟨L rfl, rfl, by decide⟩⟩, ⟨rfl, ⟨L rfl, rfl, by decide⟩⟩⟩
    · exact ⟨⟨L rfl, rfl, by decide⟩, ⟨rfl, ⟨L rfl, rfl, by decide⟩⟩, ⟨rfl, ⟨L rfl, rfl, by decide⟩⟩, ⟨rfl, ⟨L rfl, rfl, by decide⟩⟩, ⟨rfl, ⟨L rfl, rfl, by decide⟩⟩, ⟨rfl, ⟨L rfl, rfl, by decide⟩⟩, ⟨rfl, ⟨L rfl, rfl, by decide⟩⟩⟩
    · exact ⟨⟨L rfl, rfl, by decide⟩, ⟨rfl, ⟨L rfl, rfl, by decide⟩⟩, ⟨rfl, ⟨L rfl, rfl, by decide⟩⟩, ⟨rfl, ⟨L rfl, rfl, by decide⟩⟩⟩
    · exact ⟨⟨L rfl, rfl, by decide⟩, ⟨rfl, ⟨L rfl, rfl, by decide⟩⟩, ⟨rfl, ⟨L rfl, rfl, by decide⟩⟩, ⟨rfl, ⟨L rfl, rfl, by decide⟩⟩⟩
    · exact ⟨⟨L rfl, rfl, by decide⟩, ⟨rfl, ⟨L rfl, rfl, by decide⟩⟩, ⟨rfl, ⟨L rfl, rfl, by decide⟩⟩⟩
    · exact ⟨⟨L rfl, rfl, by decide⟩, ⟨rfl, ⟨L rfl, rfl, by decide⟩⟩, ⟨rfl, ⟨L rfl, rfl, by decide⟩⟩⟩
theorem SK.ol {μ μ' : mm_M} (h : SK μ) (o : Ol 95 μ μ') : SK μ' := by
  have h95 : ∀ e ∈ sk_P, e.1 < 95 := by decide
  exact ⟨o.1, fun a ha => (o.2 a ha).2.2.trans (h.2.1 a ha), fun e he => by rw [(o.2 e.1 (h95 e he)).2.1]; exact h.2.2 e he⟩
theorem sk_35 : ∀ e ∈ sk_P, ¬ (e.1 = 35) := by decide
def NewT (μ : mm_M) (m : Nat) (N : mm_M) : Prop := mm_n N = 95 + 34 * (m + 1) ∧ ToS N (95 + 34 * m) ∧ (∀ j, mm_I N (95 + 34 * m + 1) j = 0) ∧ Ol (mm_n μ) μ N ∧ SK N
theorem NewT_mk {μ : mm_M} {m : Nat} (hM : SK μ) (hn : mm_n μ = 95 + 34 * m) (hm : m ≤ 2) : NewT μ m (cTo (mm_new μ (7, 0)) (mm_n μ)) := by
  obtain ⟨t1, t2⟩ := ToS_new hn hm
  have o1 : Ol (mm_n μ) μ (cTo (mm_new μ (7, 0)) (mm_n μ)) := Ol.cTo (Ol.new ⟨Nat.le_refl _, fun _ _ => ⟨rfl, rfl, rfl⟩⟩) (Nat.le_refl _)
  exact ⟨by rw [cTo_n]; show mm_n μ + 1 + 33 = _; omega, t1, t2, o1, hM.ol ⟨Nat.le_trans hM.1 o1.1, fun x hx => o1.2 x (Nat.lt_of_lt_of_le hx hM.1)⟩⟩
