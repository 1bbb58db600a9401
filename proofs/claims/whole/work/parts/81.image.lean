/-! pair: image -/
/-- the state behind an image: i holds the told at 95 + 34 e -/
theorem JJ.img {k : Nat} {μ μ2 : mm_M} {i e m m' : Nat} (hJ : JJ k μ) (hi : i < 3) (hm' : m' ≤ 3) (hn : mm_n μ = 95 + 34 * m) (n2 : mm_n μ2 = 95 + 34 * m') (hmm : m ≤ m') (he : e < m') (hS : SK μ2) (p1 : mm_P μ2 35 i = some (95 + 34 * e)) (p2 : ∀ i', i' < 3 → i' ≠ i → mm_P μ2 35 i' = mm_P μ 35 i') (old : ∀ e', e' < m' → e' ≠ e → e' < m) (un : ∀ i', i' < 3 → mm_P μ 35 i' = some (95 + 34 * e) → i' = i) (pi : ∀ e', mm_P μ 35 i = some (95 + 34 * e') → e' = e) (eqs : ∀ x, (1 ≤ x ∧ x ≤ 34) ∨ (95 ≤ x ∧ x < mm_n μ ∧ (x < 95 + 34 * e ∨ 95 + 34 * e + 33 < x)) → mm_I μ2 x = mm_I μ x ∧ mm_P μ2 x = mm_P μ x ∧ mm_sh μ2 x = mm_sh μ x) (hT : TR μ2 (95 + 34 * e) (i + 1)) (k2 : ∀ e, e < 4 → e ≠ i + 1 → Kp e e μ μ2) (i94 : mm_I μ2 94 i = 1) (i95 : ∀ j, j ≠ i → mm_I μ2 94 j = mm_I μ 94 j) (hw : Wk (k + 1) μ2) : JJ (k + 1) μ2 := by
  obtain ⟨h1, h2, ⟨m0, q1, q2, q3, q4⟩, -⟩ := hJ
  obtain rfl : m0 = m := by omega
  refine ⟨hS, h2.eqk ⟨by omega, fun x hx hy => eqs x (by omega)⟩ (k2 0 (by decide) (by omega)), ⟨m', hm', n2, fun e' he' => ?_, fun i' hi' => ?_⟩, hw⟩
  · by_cases z : e' = e
    · exact ⟨i, hi, by rw [z]; exact p1⟩
    · obtain ⟨i', w1, w2⟩ := q3 e' (old e' he' z)
      refine ⟨i', w1, ?_⟩
      rw [p2 i' w1 (fun w => z (pi e' (by rw [← w]; exact w2)))]
      exact w2
  · by_cases z : i' = i
    · subst z
      refine Or.inr ⟨e, he, p1, i94, hT, fun i'' w1 w2 => ?_⟩
      by_cases w : i'' = i'
      · exact w
      · rw [p2 i'' w1 w] at w2
        exact un i'' w1 w2
    · rcases q4 i' hi' with ⟨z1, z2⟩ | ⟨e', e1, z2, z3, z4, z5⟩
      · exact Or.inl ⟨by rw [p2 i' hi' z]; exact z1, by rw [i95 i' z]; exact z2⟩
      · have hne : e' ≠ e := fun w => z (un i' hi' (by rw [← w]; exact z2))
        refine Or.inr ⟨e', by omega, by rw [p2 i' hi' z]; exact z2, by rw [i95 i' z]; exact z3, z4.eqk ⟨by omega, fun x hx hy => eqs x (by omega)⟩ (k2 (i' + 1) (by omega) (by omega)), fun i'' w1 w2 => ?_⟩
        by_cases w : i'' = i
        · rw [w, p1] at w2
          have : 95 + 34 * e = 95 + 34 * e' := Option.some.inj w2
          omega
        · rw [p2 i'' w1 w] at w2
          exact z5 i'' w1 w2
theorem pair_image {X : mm_X} {k : Nat} {μ : mm_M} (hJ : JJ k μ) (y1 : Int32) : PairI X (JJ (k + 1)) k_G_image k_M_image [.int y1] μ := by
  have hM := hJ.1
  have hw := hJ.2.2.2.up
  have hT0 := hJ.2.1
  have hIm := hJ.2.2.1
  obtain ⟨m, m1, m2, m3, m4⟩ := hJ.2.2.1
  rcases rng_or y1 (a := 0) (b := 2) (by decide) (by decide) with ⟨hz, hz2⟩ | ⟨i, -, hi, rfl⟩
  · refine pairQ (nI 0) hJ (d := 12) (d' := 12) (by decide) (by decide) ?_ (fun μ1 hf => ?_)
    · show mm_T X 12 0 0 k_G_image 0 [some (.ref 0), some (.int y1)] [] μ _
      refine mm_iload d_G_image_0 rfl ?_
      refine mm_if_lt d_G_image_1 (fun c_1 => ?_) (fun c_1 => ?_)
      · refine mm_ciN 0 d_G_image_9 rfl ?_
        exact mm_rz d_G_image_10 ⟨rfl, Fr.rf, hw⟩
      · refine mm_iload d_G_image_4 rfl ?_
        refine mm_ciN 3 d_G_image_5 rfl ?_
        refine mm_icmp_lt d_G_image_6 (fun c_6 => False.elim (hz2.elim c_1 (fun z => absurd (i32_succ_le z) (Int32.not_le.mpr c_6)))) (fun c_6 => ?_)
        refine mm_ciN 0 d_G_image_9 rfl ?_
        exact mm_rz d_G_image_10 ⟨rfl, Fr.rf, hw⟩
    · show mm_T X 12 0 0 k_M_image 0 [some (.ref 71), some (.int y1)] [] μ1 _
      replace hM := hf.2.2.2 hM
      refine mm_aload d_M_image_0 rfl ?_
      refine mm_ciN 0 d_M_image_1 rfl ?_
      refine mm_putI d_M_image_2 rfl (sk_o_71 hM) (Or.inl rfl) ?_
      refine mm_iload d_M_image_5 rfl ?_
      refine mm_ciN 0 d_M_image_6 rfl ?_
      refine mm_ciN 2 d_M_image_7 rfl ?_
      refine mm_s3i d_M_image_8 (sp_M_inB hz ?_)
      refine mm_if_neN d_M_image_11 (by first | omega | exact ite01_lt | exact bt8_lt31 _ _ | exact godB_lt31 _ _ _ | exact pop_lt31 _ | assumption | exact b31 (hW.gp (by omega)) | exact b31 (hW.ne (by omega)) | exact b31 (hW.op (by omega)) | exact and31 (hW.gp (by omega)) | exact and31 (hW.ne (by omega)) | exact and31 (hW.op (by omega)) | exact and31 (by assumption) | exact and31r (hW.ne (by omega)) | exact and31r (hW.gp (by omega)) | exact and31r (by decide)) (fun c_11 => False.elim (by omega)) (fun c_11 => ?_)
      refine mm_ciN 0 d_M_image_14 rfl ?_
      exact mm_rz d_M_image_15 ⟨rfl, Fr.rf.sI rfl⟩
  · have mod : ∀ (μ0 μ1 : mm_M) (e m' : Nat), m' ≤ 3 → mm_n μ0 = 95 + 34 * m' → m ≤ m' → e < m' → SK μ0 → ToS μ0 (95 + 34 * e) → (∀ j, fits .byte (.int (mm_I μ0 (95 + 34 * e + 1) j)) = true) → mm_P μ0 35 i = some (95 + 34 * e) → (∀ i', i' < 3 → i' ≠ i → mm_P μ0 35 i' = mm_P μ 35 i') → (∀ e', e' < m' → e' ≠ e → e' < m) → (∀ i', i' < 3 → mm_P μ 35 i' = some (95 + 34 * e) → i' = i) → (∀ e', mm_P μ 35 i = some (95 + 34 * e') → e' = e) → (∀ x, x < mm_n μ → mm_I μ0 x = mm_I μ x ∧ (x ≠ 35 → mm_P μ0 x = mm_P μ x) ∧ mm_sh μ0 x = mm_sh μ x) → (Fr (scR (95 + 34 * e) 33) μ0 μ1 ∧ mm_P μ1 = mm_P μ0 ∧ CyT μ0 1 μ1 (95 + 34 * e) ∧ ∀ j, 600 ≤ j → mm_I μ1 (95 + 34 * e + 1) j = mm_I μ0 (95 + 34 * e + 1) j) → mm_Ci X 12 0 0 k_M_image [.ref 71, .int (nI i)] μ1 (fun r μ2 => r = nI 1 ∧ JJ (k + 1) μ2) := by
      intro μ0 μ1 e m' a1 a2 a3 a4 a5 a6 a7 b1 b2 b3 b4 b5 b6 ⟨f1, p1, c1, o1⟩
      show mm_T X 12 0 0 k_M_image 0 [some (.ref 71), some (.int (nI i))] [] μ1 _
      have hM := f1.2.2.2 a5
      have hn95 : 95 ≤ mm_n μ := hJ.1.1
      have fin : ∀ (j : Nat) (x : Int32) (ν : mm_M), Fr scS (mm_sI μ1 71 j x) ν → Kp 0 (i + 1) (mm_sI μ1 71 j x) ν → (∀ e, e < 4 → e ≠ i + 1 → Kp e e (mm_sI μ1 71 j x) ν) → JJ (k + 1) (mm_sI ν 94 i (nI 1)) := by
        intro j x ν g k1 k2
        have q1 : ∀ y, y < 95 → mm_I μ1 y = mm_I μ y := fun y hy => by rw [(f1.2.2.1 y (scR_f (by omega))).1]; exact (b6 y (by omega)).1
        have q2 : ∀ y, (y < 71 ∨ 79 < y) → y ≠ 94 → mm_I (mm_sI ν 94 i (nI 1)) y = mm_I μ1 y := fun y hy hy2 => by rw [mm_sI_off hy2, (g.2.2.1 y (by unfold scS; simp; omega)).1, mm_sI_off (by omega)]
        have q3 : ∀ y, 72 ≤ y → y ≤ 79 → mm_I μ y = mm_I (mm_sI μ1 71 j x) y := fun y hy hy2 => by rw [mm_sI_off (by omega), q1 y (by omega)]
        have q4 : ∀ y, 72 ≤ y → y ≤ 79 → mm_I (mm_sI ν 94 i (nI 1)) y = mm_I ν y := fun y hy hy2 => mm_sI_off (by omega)
        have P2 : ∀ y, (y < 72 ∨ 79 < y) → mm_P (mm_sI ν 94 i (nI 1)) y = mm_P μ0 y := fun y hy => by
          show mm_P ν y = _
          rw [(g.2.2.1 y (by unfold scS; simp; omega)).2.2]
          show mm_P μ1 y = _
          rw [p1]
        have S2 : mm_sh (mm_sI ν 94 i (nI 1)) = mm_sh μ0 := by
          show mm_sh ν = _
          rw [g.2.1]
          exact f1.2.1
        have N2 : mm_n (mm_sI ν 94 i (nI 1)) = mm_n μ0 := by
          show mm_n ν = _
          rw [g.1]
          exact f1.1
        have hS2 : SK (mm_sI ν 94 i (nI 1)) := g.2.2.2 hM
        refine hJ.img (i := i) (e := e) (m := m) (m' := m') (by omega) a1 m2 (N2.trans a2) a3 a4 hS2 (by rw [P2 35 (by omega)]; exact b1) (fun i' w1 w2 => by rw [P2 35 (by omega)]; exact b2 i' w1 w2) b3 b4 b5 (fun y hy => ?_) ?_ (fun e' w1 w2 => (k2 e' w1 w2).frm q3 q4) (by rw [mm_I_sI, if_pos ⟨rfl, rfl⟩]; rfl) (fun j' w => ?_) ?_
        · refine ⟨?_, ?_, by rw [S2]; exact (b6 y (by omega)).2.2⟩
          · rw [q2 y (by omega) (by omega), (f1.2.2.1 y (scR_f (by omega))).1]; exact (b6 y (by omega)).1
          · rw [P2 y (by omega)]; exact (b6 y (by omega)).2.1 (by omega)
        · refine hT0.mv (a6.eq' N2 S2 (fun y hy => P2 y (by omega))) (fun j' => ?_) (c1.frm (fun y hy => ?_) (fun y hy => ?_)) (k1.frm q3 q4)
          · rw [q2 _ (by omega) (by omega)]
            by_cases hj : j' < 600
            · rw [c1.2.1 j' hj, (b6 (1 + 1) (by omega)).1]; exact hT0.fit j'
            · rw [o1 j' (by omega)]; exact a7 j'
          · exact ((b6 (1 + y) (by omega)).1).symm
          · exact q2 _ (by omega) (by omega)
        · rw [mm_I_sI, if_neg (fun z => w z.2), (g.2.2.1 94 rfl).1, mm_sI_off (by decide), q1 94 (by decide)]
        · obtain ⟨w, w1, w2, w3⟩ := hw
          exact ⟨w, w1, by rw [q2 57 (by omega) (by decide), q1 57 (by omega)]; exact w2, by rw [q2 62 (by omega) (by decide), q1 62 (by omega)]; exact w3⟩
      refine mm_aload d_M_image_0 rfl ?_
      refine mm_ciN 0 d_M_image_1 rfl ?_
      refine mm_putI d_M_image_2 rfl (sk_o_71 hM) (Or.inl rfl) ?_
      refine mm_iload d_M_image_5 rfl ?_
      refine mm_ciN 0 d_M_image_6 rfl ?_
      refine mm_ciN 2 d_M_image_7 rfl ?_
      refine mm_s3i d_M_image_8 (sp_M_inT (by omega) (by omega) (by omega) ?_)
      refine mm_if_neN d_M_image_11 (by first | omega | exact ite01_lt | exact bt8_lt31 _ _ | exact godB_lt31 _ _ _ | exact pop_lt31 _ | assumption | exact b31 (hW.gp (by omega)) | exact b31 (hW.ne (by omega)) | exact b31 (hW.op (by omega)) | exact and31 (hW.gp (by omega)) | exact and31 (hW.ne (by omega)) | exact and31 (hW.op (by omega)) | exact and31 (by assumption) | exact and31r (hW.ne (by omega)) | exact and31r (hW.gp (by omega)) | exact and31r (by decide)) (fun c_11 => ?_) (fun c_11 => False.elim (by omega))
      refine mm_aload d_M_image_16 rfl ?_
      refine mm_ciN 0 d_M_image_17 rfl ?_
      refine mm_iload d_M_image_18 rfl ?_
      refine mm_ciN 1 d_M_image_19 rfl ?_
      refine mm_iaddN d_M_image_20 ?_
      refine mm_v2v d_M_image_21 (sk_o_71 hM) (sp_M_copyAll hM (by decide) (by omega) (by omega) (fun ν g k1 k2 => ?_))
      replace hM := g.2.2.2 hM
      refine mm_aload d_M_image_24 rfl ?_
      refine mm_getP d_M_image_25 rfl (sk_o_71 hM) (sk_p_71_50 hM) ?_
      refine mm_iload d_M_image_28 rfl ?_
      refine mm_ciN 1 d_M_image_29 rfl ?_
      refine mm_zastX d_M_image_30 (sk_a_94 hM) (by omega) (by decide) (Or.inr rfl) ?_
      refine mm_ciN 1 d_M_image_31 rfl ?_
      exact mm_rz d_M_image_32 ⟨rfl, fin _ _ _ g k1 k2⟩
    have hb0 := hT0.fit
    rcases m4 i (by omega) with ⟨z1, z2⟩ | ⟨e, e1, z2, z3, z4, z5⟩
    · have hm2 : m ≤ 2 := by
        refine Decidable.byContradiction fun hm => ?_
        obtain ⟨i0, w0, v0⟩ := m3 0 (by omega)
        obtain ⟨i1, w1, v1⟩ := m3 1 (by omega)
        obtain ⟨i2, w2, v2⟩ := m3 2 (by omega)
        have d01 : i0 ≠ i1 := fun z => by rw [z, v1] at v0; cases v0
        have d02 : i0 ≠ i2 := fun z => by rw [z, v2] at v0; cases v0
        have d12 : i1 ≠ i2 := fun z => by rw [z, v2] at v1; cases v1
        have d0 : i0 ≠ i := fun z => by rw [z, z1] at v0; cases v0
        have d1 : i1 ≠ i := fun z => by rw [z, z1] at v1; cases v1
        have d2 : i2 ≠ i := fun z => by rw [z, z1] at v2; cases v2
        omega
      have un : ∀ e', mm_P μ 35 e' = some (95 + 34 * m) → e' < 3 → False := fun e' w w3 => by
        rcases m4 e' w3 with ⟨v1, -⟩ | ⟨e'', v1, v2, -⟩
        · rw [v1] at w; cases w
        · rw [v2] at w; have := Option.some.inj w; omega
      have hn95 : 95 ≤ mm_n μ := hM.1
      refine (show mm_Ci X 30 40 1100 k_G_image [.ref 0, .int (nI i)] μ _ from ?_)
      refine mm_Ci.imp (q := fun r μ1 => r = nI 1 ∧ ∃ N, NewT μ m N ∧ (Fr (scR (95 + 34 * m) 33) (mm_sP N 35 i (some (95 + 34 * m))) μ1 ∧ mm_P μ1 = mm_P (mm_sP N 35 i (some (95 + 34 * m))) ∧ CyT (mm_sP N 35 i (some (95 + 34 * m))) 1 μ1 (95 + 34 * m) ∧ ∀ j, 600 ≤ j → mm_I μ1 (95 + 34 * m + 1) j = mm_I (mm_sP N 35 i (some (95 + 34 * m))) (95 + 34 * m + 1) j)) ?_ (fun r μ1 h => ?_)
      · show mm_T X 30 40 1100 k_G_image 0 [some (.ref 0), some (.int (nI i))] [] μ _
        refine mm_iload d_G_image_0 rfl ?_
        refine mm_if_ltN d_G_image_1 (by first | omega | exact ite01_lt | exact bt8_lt31 _ _ | exact godB_lt31 _ _ _ | exact pop_lt31 _ | assumption | exact b31 (hW.gp (by omega)) | exact b31 (hW.ne (by omega)) | exact b31 (hW.op (by omega)) | exact and31 (hW.gp (by omega)) | exact and31 (hW.ne (by omega)) | exact and31 (hW.op (by omega)) | exact and31 (by assumption) | exact and31r (hW.ne (by omega)) | exact and31r (hW.gp (by omega)) | exact and31r (by decide)) ?_
        refine mm_iload d_G_image_4 rfl ?_
        refine mm_ciN 3 d_G_image_5 rfl ?_
        refine mm_icmp_ltN d_G_image_6 (by first | omega | exact ite01_lt | exact bt8_lt31 _ _ | exact godB_lt31 _ _ _ | exact pop_lt31 _ | assumption | exact b31 (hW.gp (by omega)) | exact b31 (hW.ne (by omega)) | exact b31 (hW.op (by omega)) | exact and31 (hW.gp (by omega)) | exact and31 (hW.ne (by omega)) | exact and31 (hW.op (by omega)) | exact and31 (by assumption) | exact and31r (hW.ne (by omega)) | exact and31r (hW.gp (by omega)) | exact and31r (by decide)) (by first | omega | exact ite01_lt | exact bt8_lt31 _ _ | exact godB_lt31 _ _ _ | exact pop_lt31 _ | assumption | exact b31 (hW.gp (by omega)) | exact b31 (hW.ne (by omega)) | exact b31 (hW.op (by omega)) | exact and31 (hW.gp (by omega)) | exact and31 (hW.ne (by omega)) | exact and31 (hW.op (by omega)) | exact and31 (by assumption) | exact and31r (hW.ne (by omega)) | exact and31r (hW.gp (by omega)) | exact and31r (by decide)) (fun c_6 => ?_) (fun c_6 => False.elim (by omega))
        refine mm_aload d_G_image_11 rfl ?_
        refine mm_getP d_G_image_12 rfl (sk_o_0 hM) (sk_p_0_1 hM) ?_
        refine mm_iload d_G_image_15 rfl ?_
        refine mm_aald0X d_G_image_16 (t := 3) (sk_a_35 hM) (by omega) (by decide) z1 ?_
        refine mm_ifnonnullN d_G_image_17 ?_
        refine mm_aload d_G_image_20 rfl ?_
        refine mm_getP d_G_image_21 rfl (sk_o_0 hM) (sk_p_0_1 hM) ?_
        refine mm_iload d_G_image_24 rfl ?_
        refine mm_newO' (mm_n μ) d_G_image_25 rfl (by omega) (fun h_0 => ?_)
        refine mm_dup d_G_image_28 rfl ?_
        refine mm_i0w 33 995 d_G_image_29 (sp_To_init h_0 (by show mm_n μ + 1 + 33 ≤ 1000000; omega) ?_)
        have hN := NewT_mk hM m2 hm2
        generalize cTo (mm_new μ (7, 0)) (mm_n μ) = N at hN ⊢
        obtain ⟨n1, t1, t2, o1, hS1⟩ := id hN
        rw [m2]
        refine mm_aast d_G_image_32 (t := 3) (sk_a_35 hS1) (vp_in_nI (by omega) (by decide)) t1.1 rfl ?_
        rw [nI_clamp (by omega)]
        replace hM : SK (mm_sP N 35 i (some (95 + 34 * m))) := hS1.sP (fun e he z => sk_35 e he z.1)
        have t1' : ToS (mm_sP N 35 i (some (95 + 34 * m))) (95 + 34 * m) := t1.eq' rfl rfl (fun y hy => mm_sP_off (by omega))
        refine mm_aload d_G_image_33 rfl ?_
        refine mm_getP d_G_image_34 rfl (sk_o_0 hM) (sk_p_0_1 hM) ?_
        refine mm_iload d_G_image_37 rfl ?_
        refine mm_aaldX d_G_image_38 (t := 3) (sk_a_35 hM) (by omega) (by decide) (show mm_P (mm_sP N 35 i (some (95 + 34 * m))) 35 i = some (95 + 34 * m) by rw [mm_P_sP, if_pos ⟨rfl, rfl⟩]) ?_
        refine mm_aload d_G_image_39 rfl ?_
        refine mm_getP d_G_image_40 rfl (sk_o_0 hM) (sk_p_0_0 hM) ?_
        refine mm_v1v d_G_image_43 t1'.1 (sp_To_copyFrom (sk_t hM) t1' (fun j => by show fits .byte (.int (mm_I N 2 j)) = true; rw [(o1.2 2 (by omega)).1]; exact hb0 j) (by omega) (fun μ1 f1 p1 c1 o2 => ?_))
        refine mm_ciN 1 d_G_image_46 rfl ?_
        exact mm_rz d_G_image_47 ⟨rfl, N, hN, f1, p1, c1, o2⟩
      · obtain ⟨rfl, N, hN, h⟩ := h
        obtain ⟨n1, t1, t2, o1, hS1⟩ := hN
        have hS2 : SK (mm_sP N 35 i (some (95 + 34 * m))) := hS1.sP (fun e he z => sk_35 e he z.1)
        have t1' : ToS (mm_sP N 35 i (some (95 + 34 * m))) (95 + 34 * m) := t1.eq' rfl rfl (fun y hy => mm_sP_off (by omega))
        refine ⟨h.1.2.2.2 hS2, ((mod (mm_sP N 35 i (some (95 + 34 * m))) μ1 m (m + 1) (by omega) n1 (by omega) (by omega) hS2 t1' (fun j => by show fits .byte (.int (mm_I N (95 + 34 * m + 1) j)) = true; rw [t2]; rfl) (by rw [mm_P_sP, if_pos ⟨rfl, rfl⟩]) (fun i' w1 w2 => by rw [mm_P_sP, if_neg (fun z => w2 z.2)]; rw [(o1.2 35 (by omega)).2.1]) (fun e' w1 w2 => by omega) (fun i' w1 w2 => (un i' w2 w1).elim) (fun e' w => by rw [z1] at w; cases w) (fun x hx => ⟨(o1.2 x hx).1, fun h35 => by rw [mm_sP_off h35]; exact (o1.2 x hx).2.1, (o1.2 x hx).2.2⟩) h).lift 30 0 0 (by decide)).imp (fun r' μ2 h => ⟨h.1.symm, h.2⟩)⟩
    · refine pairS (nI 1) (fun μ1 => Fr (scR (95 + 34 * e) 33) μ μ1 ∧ mm_P μ1 = mm_P μ ∧ CyT μ 1 μ1 (95 + 34 * e) ∧ ∀ j, 600 ≤ j → mm_I μ1 (95 + 34 * e + 1) j = mm_I μ (95 + 34 * e + 1) j) (fun μ1 h => h.1.2.2.2 hM) (d := 12) (d' := 12) (by decide) (by decide) ?_ (fun μ1 h => mod μ μ1 e m m1 m2 (Nat.le_refl _) e1 hM z4.1 z4.fit z2 (fun _ _ _ => rfl) (fun e' w _ => w) z5 (fun e' w => by rw [z2] at w; have := Option.some.inj w; omega) (fun x _ => ⟨rfl, fun _ => rfl, rfl⟩) h)
      show mm_T X 12 0 0 k_G_image 0 [some (.ref 0), some (.int (nI i))] [] μ _
      refine mm_iload d_G_image_0 rfl ?_
      refine mm_if_ltN d_G_image_1 (by first | omega | exact ite01_lt | exact bt8_lt31 _ _ | exact godB_lt31 _ _ _ | exact pop_lt31 _ | assumption | exact b31 (hW.gp (by omega)) | exact b31 (hW.ne (by omega)) | exact b31 (hW.op (by omega)) | exact and31 (hW.gp (by omega)) | exact and31 (hW.ne (by omega)) | exact and31 (hW.op (by omega)) | exact and31 (by assumption) | exact and31r (hW.ne (by omega)) | exact and31r (hW.gp (by omega)) | exact and31r (by decide)) ?_
      refine mm_iload d_G_image_4 rfl ?_
      refine mm_ciN 3 d_G_image_5 rfl ?_
      refine mm_icmp_ltN d_G_image_6 (by first | omega | exact ite01_lt | exact bt8_lt31 _ _ | exact godB_lt31 _ _ _ | exact pop_lt31 _ | assumption | exact b31 (hW.gp (by omega)) | exact b31 (hW.ne (by omega)) | exact b31 (hW.op (by omega)) | exact and31 (hW.gp (by omega)) | exact and31 (hW.ne (by omega)) | exact and31 (hW.op (by omega)) | exact and31 (by assumption) | exact and31r (hW.ne (by omega)) | exact and31r (hW.gp (by omega)) | exact and31r (by decide)) (by first | omega | exact ite01_lt | exact bt8_lt31 _ _ | exact godB_lt31 _ _ _ | exact pop_lt31 _ | assumption | exact b31 (hW.gp (by omega)) | exact b31 (hW.ne (by omega)) | exact b31 (hW.op (by omega)) | exact and31 (hW.gp (by omega)) | exact and31 (hW.ne (by omega)) | exact and31 (hW.op (by omega)) | exact and31 (by assumption) | exact and31r (hW.ne (by omega)) | exact and31r (hW.gp (by omega)) | exact and31r (by decide)) (fun c_6 => ?_) (fun c_6 => False.elim (by omega))
      refine mm_aload d_G_image_11 rfl ?_
      refine mm_getP d_G_image_12 rfl (sk_o_0 hM) (sk_p_0_1 hM) ?_
      refine mm_iload d_G_image_15 rfl ?_
      refine mm_aaldX d_G_image_16 (t := 3) (sk_a_35 hM) (by omega) (by decide) z2 ?_
      refine mm_ifnonnull d_G_image_17 ?_
      refine mm_aload d_G_image_33 rfl ?_
      refine mm_getP d_G_image_34 rfl (sk_o_0 hM) (sk_p_0_1 hM) ?_
      refine mm_iload d_G_image_37 rfl ?_
      refine mm_aaldX d_G_image_38 (t := 3) (sk_a_35 hM) (by omega) (by decide) z2 ?_
      refine mm_aload d_G_image_39 rfl ?_
      refine mm_getP d_G_image_40 rfl (sk_o_0 hM) (sk_p_0_0 hM) ?_
      refine mm_v1v d_G_image_43 z4.1.1 (sp_To_copyFrom hT0.1 z4.1 hT0.fit (by omega) (fun μ1 f1 p1 c1 o1 => ?_))
      refine mm_ciN 1 d_G_image_46 rfl ?_
      exact mm_rz d_G_image_47 ⟨rfl, f1, p1, c1, o1⟩
