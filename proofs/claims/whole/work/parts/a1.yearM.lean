/-! texts: the model's year and log lines -/
theorem LM.sR {k o : Nat} {u : Nat → Nat} {L p f0 p0 : Nat} {ν : mm_M} {j : Nat} {x : Int32} (h : LM k o u L p f0 p0 ν ν 0) : LM k o u L p f0 p0 (mm_sI ν 81 j x) (mm_sI ν 81 j x) 0 := by
  obtain ⟨-, a2, a3, a4, a5, -⟩ := h
  have kr : K2 ν (mm_sI ν 81 j x) := K2.rf.sR
  exact ⟨K2.rf, a2.k2 kr, a3.cg (fun i _ => by rw [mm_sI_off (by decide)]) rfl, a4.cg (Nat.le_refl _) (by rw [mm_sI_off (by decide)]) (by rw [mm_sI_off (by decide)]), by rw [mm_sI_off (by decide)]; exact a5, fun i hi => absurd hi (Nat.not_lt_zero i)⟩
theorem wcs1 : wc 6 = 6386539 ∧ wc 7 = 499967422059 ∧ wc 8 = 1668246885 ∧ wc 9 = 25711 ∧ wc 10 = 6578553 ∧ wc 11 = 448377483876 ∧ wc 12 = 1684365670 := by decide
theorem RM1.k {t : Nat → Nat} {μ ν : mm_M} (h : RM1 t μ) (e : mm_I ν 80 = mm_I μ 80) : RM1 t ν := by unfold RM1 at *; rw [e]; exact h
theorem RM2.k {t : Nat → Nat} {μ ν : mm_M} (h : RM2 t μ) (e : mm_I ν 80 = mm_I μ 80) : RM2 t ν := by unfold RM2 at *; rw [e]; exact h
theorem MBn.k {m : Nat} {μ ν : mm_M} (h : MBn m μ) (e : mm_I ν 80 = mm_I μ 80) : MBn m ν := by unfold MBn at *; rw [e]; exact h
/-- a row is kept, and the line ends -/
theorem EndG_mk {RM : (Nat → Nat) → mm_M → Prop} {m s k o : Nat} {u : Nat → Nat} {L p f0 p0 : Nat} {μ ν ξ : mm_M} {x : Int32} (hl : LM k o u L p f0 p0 μ ν (nu k)) (hrk : ∀ t μ ν, RM t μ → mm_I ν 80 = mm_I μ 80 → RM t ν) (f : Fr sc80 (mm_sI ν 81 0 x) ξ) (hP : mm_P ξ = mm_P ν) (hJ : mm_J ξ = mm_J ν) (hB : MBn m ξ) (hD : ∀ t, RM t (mm_sI ν 81 0 x) → WfT s t → ¬ fu k t = true → (∀ j, j < nu k → cb k (vv u L p) j = true) → RM (stp k (vv u L p) t) ξ) : EndG RM (MBn m) s k u L p f0 p0 μ ξ := by
  obtain ⟨a1, a2, a3, a4, a5, a6⟩ := hl
  have e71 : ∀ j, mm_I ξ 71 j = mm_I ν 71 j := fun j => by rw [(f.2.2.1 71 rfl).1, mm_sI_off (by decide)]
  have kx : K5 ν ξ := ⟨((Fr.rf.sI (a := 81) (j := 0) (x := x) rfl).trans (f.sub (fun a z => by unfold sc80 at z; unfold sc790; simp at z ⊢; omega))), hP, fun j _ => e71 j⟩
  exact ⟨⟨a1.k5.1.trans kx.1, kx.2.1.trans a1.2.1, fun j hj => (kx.2.2 j hj).trans (a1.k5.2.2 j hj)⟩, a3.cg (fun j _ => e71 j) (by rw [hJ]), a4.cg (Nat.le_refl _) (e71 16) (e71 17), fun j hj => (a6 j hj).2, hB, fun t h1 h2 h3 h4 => hD t (hrk t μ _ h1 (by rw [mm_sI_off (by decide), (a1.1.2.2.1 80 rfl).1])) h2 h3 h4⟩
theorem EndG.base {RM : (Nat → Nat) → mm_M → Prop} {MB : mm_M → Prop} {s k : Nat} {u : Nat → Nat} {L p f0 p0 : Nat} {μ ν ξ : mm_M} (h : EndG RM MB s k u L p f0 p0 ν ξ) (kx : K5 μ ν) (hr : ∀ t, RM t μ → RM t ν) : EndG RM MB s k u L p f0 p0 μ ξ := by
  obtain ⟨a1, a2, a3, a4, a5, a6⟩ := h
  exact ⟨⟨kx.1.trans a1.1, a1.2.1.trans kx.2.1, fun j hj => (a1.2.2 j hj).trans (kx.2.2 j hj)⟩, a2, a3, a4, a5, fun t h1 => a6 t (hr t h1)⟩
theorem sp_M_yearEnd {X : mm_X} {μ ξ : mm_M} {q : Int32 → mm_M → Prop} {u : Nat → Nat} {L p f0 p0 k w x d : Nat} (hk : 6 ≤ k) (hk2 : k < 11) (hd : d = k - 6) (hx : LM k 1 u L p f0 p0 μ ξ (nu k)) (hB : MBn 40 μ) (r1 : mm_I ξ 81 1 = if d < 4 then nI (vv u L p 0) else -1) (r2 : mm_I ξ 81 2 = if d < 2 then nI (vv u L p 1) else -1) (hok : ∀ ξ, EndG RM1 (MBn 40) 1 k u L p f0 p0 μ ξ → q (nI 1) ξ) : mm_T X 5 0 0 k_M_yearLine 158 [some (.ref 71), some (.long (lN w)), none, some (.int (nI x)), some (.int (nI d))] [] ξ (fun w μ' => ∃ z, w = some (.int z) ∧ q z μ') := by
  have hM := hx.2.1.1
  obtain ⟨c, b0, e0⟩ := hB.k ((hx.1.1.2.2.1 80 rfl).1)
  have e0' : mm_I (mm_sI ξ 81 0 (nI d)) 80 0 = nI c := by rw [mm_sI_off (by decide)]; exact e0
  have hrk : ∀ t μ ν, RM1 t μ → mm_I ν 80 = mm_I μ 80 → RM1 t ν := fun t μ ν h e => h.k e
  have ec : ∀ t, RM1 t (mm_sI ξ 81 0 (nI d)) → WfT 1 t → t 0 = c := fun t h1 h2 => by
    have := h1.1
    rw [e0'] at this
    exact ((nI_eqq (by omega) (by have := (h2.2.1 rfl).1; omega)).mp this).symm
  refine mm_aload d_M_yearLine_158 rfl ?_
  refine mm_getP d_M_yearLine_159 rfl (sk_o_71 hM) (sk_p_71_19 hM) ?_
  refine mm_ciN 0 d_M_yearLine_162 rfl ?_
  refine mm_iload d_M_yearLine_163 rfl ?_
  refine mm_iastX d_M_yearLine_165 (sk_a_81 hM) (by omega) (by decide) ?_
  refine mm_aload d_M_yearLine_166 rfl ?_
  refine mm_ciN 3 d_M_yearLine_167 rfl ?_
  refine mm_ciN 40 d_M_yearLine_168 rfl ?_
  refine mm_v2v d_M_yearLine_170 (sk_o_71 hM) (sp_M_keepRow hM (by decide) e0' b0 (by decide) (fun _ => by omega) (by decide) (fun hc => ?_) (fun hc ν f hP hJ e => ?_))
  · refine mm_ciN 1 d_M_yearLine_173 rfl ?_
    exact mm_rz d_M_yearLine_174 (hok _ (EndG_mk hx hrk Fr.rf rfl rfl ⟨c, b0, e0'⟩ (fun t h1 h2 h3 h4 => absurd (fu_i.mpr (by have := ec t h1 h2; omega)) h3)))
  · refine mm_ciN 1 d_M_yearLine_173 rfl ?_
    refine mm_rz d_M_yearLine_174 (hok _ (EndG_mk hx hrk f hP hJ ⟨c + 1, by omega, by rw [e, if_pos rfl]⟩ (fun t h1 h2 h3 h4 => ?_)))
    rw [stpY _ _ hk hk2, ← hd]
    exact RM1_keep h1 (ec t h1 h2) (by rw [mm_I_sI, if_pos ⟨rfl, rfl⟩]) (by rw [mm_I_sI, if_neg (by omega)]; exact r1) (by rw [mm_I_sI, if_neg (by omega)]; exact r2) e
theorem sp_M_yearLine {X : mm_X} {μ : mm_M} {q : Int32 → mm_M → Prop} {u : Nat → Nat} {L p fl pl : Nat} {t : Nat → Nat} (hR : Rm u L μ) (hT : Tk2 u L p μ) (hp : p ≤ L) (hk1 : tK u L p ≠ 1) (hF : LF fl pl (tP u L p) μ) (hg : mm_I μ 71 21 = nI 1) (hB : MBn 40 μ) (hD : fl = 0 → RM1 t μ ∧ WfT 1 t) (hst0 : lnF 1 u L p = 13 → ∀ ξ, K5 μ ξ → mm_I ξ 71 15 = nI (tP u L p) → q (nI 0) ξ) (hst : ∀ i ξ, lnF 1 u L p < 13 → i < nu (lnF 1 u L p) → tK u L (ps u L p i) ≠ 3 → (∀ j, j < i → tK u L (ps u L p j) = 3) → K5 μ ξ → mm_I ξ 71 15 = nI (tP u L (ps u L p i)) → q (nI 0) ξ) (hok : ∀ ξ, lnF 1 u L p < 13 → EndG RM1 (MBn 40) 1 (lnF 1 u L p) u L p (jf (lnF 1 u L p) t fl) (jp (lnF 1 u L p) t fl pl (tP u L p)) μ ξ → q (nI 1) ξ) : mm_Ci X 5 0 0 k_M_yearLine [.ref 71, .long (lN (wF u L p)), .int (nI (tP u L p))] μ q := by
  show mm_T X 5 0 0 k_M_yearLine 0 [some (.ref 71), some (.long (lN (wF u L p))), none, some (.int (nI (tP u L p))), none] [] μ _
  have hM := hR.1
  have hL6 := hR.2.2.1
  have htp := tP_le (u := u) hp
  have htn := tN_le (u := u) hp
  obtain ⟨c, b0, e0⟩ := id hB
  obtain ⟨q6, q7, q8, q9, q10, -, -⟩ := wcs1
  rcases ln_w1 (u := u) (L := L) (p := p) with ⟨hk, hw⟩ | ⟨k, k6, k11, hk, hw⟩
  · have w0 := hw 6 (by decide) (by decide)
    have w1 := hw 7 (by decide) (by decide)
    have w2 := hw 8 (by decide) (by decide)
    have w3 := hw 9 (by decide) (by decide)
    have w4 := hw 10 (by decide) (by decide)
    rw [q6] at w0
    rw [q7] at w1
    rw [q8] at w2
    rw [q9] at w3
    rw [q10] at w4
    have hlt := wF_lt (u := u) (L := L) (p := p)
    generalize wF u L p = w at *
    refine mm_lload d_M_yearLine_0 rfl ?_
    refine mm_lciN 6386539 d_M_yearLine_1 rfl ?_
    refine mm_lcmp d_M_yearLine_4 ?_
    refine mm_lif_neN d_M_yearLine_5 (by omega) (by omega) (fun c_5 => ?_) (fun c_5 => False.elim (by omega))
    refine mm_lload d_M_yearLine_12 rfl ?_
    refine mm_lciN 499967422059 d_M_yearLine_13 rfl ?_
    refine mm_lcmp d_M_yearLine_16 ?_
    refine mm_lif_neN d_M_yearLine_17 (by omega) (by omega) (fun c_17 => ?_) (fun c_17 => False.elim (by omega))
    refine mm_lload d_M_yearLine_24 rfl ?_
    refine mm_lciN 1668246885 d_M_yearLine_25 rfl ?_
    refine mm_lcmp d_M_yearLine_28 ?_
    refine mm_lif_neN d_M_yearLine_29 (by omega) (by omega) (fun c_29 => ?_) (fun c_29 => False.elim (by omega))
    refine mm_lload d_M_yearLine_36 rfl ?_
    refine mm_lciN 25711 d_M_yearLine_37 rfl ?_
    refine mm_lcmp d_M_yearLine_40 ?_
    refine mm_lif_neN d_M_yearLine_41 (by omega) (by omega) (fun c_41 => ?_) (fun c_41 => False.elim (by omega))
    refine mm_lload d_M_yearLine_48 rfl ?_
    refine mm_lciN 6578553 d_M_yearLine_49 rfl ?_
    refine mm_lcmp d_M_yearLine_52 ?_
    refine mm_lif_neN d_M_yearLine_53 (by omega) (by omega) (fun c_53 => ?_) (fun c_53 => False.elim (by omega))
    refine mm_ci d_M_yearLine_60 ?_
    refine mm_ist4 d_M_yearLine_61 ?_
    refine mm_iload d_M_yearLine_63 rfl ?_
    refine mm_ci d_M_yearLine_65 ?_
    refine mm_icmp_neS d_M_yearLine_66 ?_
    refine mm_aload d_M_yearLine_69 rfl ?_
    refine mm_v0i d_M_yearLine_70 (sk_o_71 hM) (sp_M_fails hM hT.2.1 ?_)
    exact mm_rz d_M_yearLine_73 (hst0 hk _ (K2.rf.sI (by omega)).k5 (by rw [mm_I_sI, if_pos ⟨rfl, rfl⟩]))
  · rw [hk] at hst hok
    have hfu : fl = 0 → (fu k t = true ↔ 40 ≤ c) := fun z => by
      obtain ⟨d1, d2⟩ := hD z
      have ec : t 0 = c := by
        have := d1.1
        rw [e0] at this
        exact ((nI_eqq (by omega) (by have := (d2.2.1 rfl).1; omega)).mp this).symm
      rw [fu_i, ec]
      omega
    obtain ⟨j1, j2⟩ := jf_c (pl := pl) (x := tP u L p) hfu
    have hkc : k = 6 ∨ k = 7 ∨ k = 8 ∨ k = 9 ∨ k = 10 := by omega
    rcases hkc with rfl | rfl | rfl | rfl | rfl
    · rw [q6] at hw
      rw [hw]
      have cc0 : canT (vv u L p 0) 0 5 0 (1 + 0) (vv u L p) = cb 6 (vv u L p) 0 := by
        apply Bool.eq_iff_iff.mpr
        rw [canT_i, cb_i]
        have : hi (6 * 3 + 0) = 5 := rfl
        omega
      have cc1 : canT (vv u L p 1) 0 7 0 (1 + 1) (vv u L p) = cb 6 (vv u L p) 1 := by
        apply Bool.eq_iff_iff.mpr
        rw [canT_i, cb_i]
        have : hi (6 * 3 + 1) = 7 := rfl
        omega
      refine mm_lload d_M_yearLine_0 rfl ?_
      refine mm_lciN 6386539 d_M_yearLine_1 rfl ?_
      refine mm_lcmp d_M_yearLine_4 ?_
      refine mm_lif_neN d_M_yearLine_5 (by decide) (by decide) (fun c_5 => False.elim (by omega)) (fun c_5 => ?_)
      refine mm_ciN 0 d_M_yearLine_8 rfl ?_
      refine mm_goto d_M_yearLine_9 ?_
      refine mm_ist4 d_M_yearLine_61 ?_
      refine mm_iload d_M_yearLine_63 rfl ?_
      refine mm_ci d_M_yearLine_65 ?_
      refine mm_icmp_neM1 d_M_yearLine_66 (by first | omega | exact ite01_lt | exact bt8_lt31 _ _ | exact godB_lt31 _ _ _ | exact pop_lt31 _ | assumption | exact b31 (hW.gp (by omega)) | exact b31 (hW.ne (by omega)) | exact b31 (hW.op (by omega)) | exact and31 (hW.gp (by omega)) | exact and31 (hW.ne (by omega)) | exact and31 (hW.op (by omega)) | exact and31 (by assumption) | exact and31r (hW.ne (by omega)) | exact and31r (hW.gp (by omega)) | exact and31r (by decide)) ?_
      refine mm_aload d_M_yearLine_74 rfl ?_
      refine mm_ciN 0 d_M_yearLine_75 rfl ?_
      refine mm_ciN 40 d_M_yearLine_76 rfl ?_
      refine mm_iload d_M_yearLine_78 rfl ?_
      refine mm_v3v d_M_yearLine_79 (sk_o_71 hM) (sp_M_full hM hF (by omega) (by decide) e0 b0 (by decide) (fun ν1 f1 p1 g1 gJ lf => ?_))
      rw [j1, j2] at lf
      have hR1 : Rm u L ν1 := ⟨f1.2.2.2 hM, by rw [g1 10 (by decide) (by decide)]; exact hR.2.1, hL6, by rw [(f1.2.2.1 72 rfl).1]; exact hR.2.2.2⟩
      replace hM := hR1.1
      have kF1 : K5 μ ν1 := ⟨f1.sub (fun a z => by unfold sc71 at z; unfold sc790; simp at z ⊢; omega), p1, fun j hj => g1 j (by omega) (by omega)⟩
      refine mm_aload d_M_yearLine_82 rfl ?_
      refine mm_v0v d_M_yearLine_83 (sk_o_71 hM) (sp_M_token hR1 (by rw [g1 9 (by decide) (by decide)]; exact hT.1) htn (fun ν km tk => ?_))
      have l00 : LM 6 1 u L p (jf 6 t fl) (jp 6 t fl pl (tP u L p)) ν ν 0 := LM_0 hR1 km tk hk1 lf (by rw [g1 21 (by decide) (by decide)]; exact hg)
      have l0 := (l00.sR (j := 1) (x := -1)).sR (j := 2) (x := -1)
      replace hM := l00.2.1.1
      have e80 : mm_I (mm_sI (mm_sI ν 81 1 (-1)) 81 2 (-1)) 80 = mm_I μ 80 := by rw [mm_sI_off (by decide), mm_sI_off (by decide), (km.1.2.2.1 80 rfl).1, (f1.2.2.1 80 rfl).1]
      have kF : K5 μ (mm_sI (mm_sI ν 81 1 (-1)) 81 2 (-1)) := (kF1.trans km.k2.k5).trans (K2.rf.sR.sR).k5
      have kR : ∀ t, RM1 t μ → RM1 t (mm_sI (mm_sI ν 81 1 (-1)) 81 2 (-1)) := fun t h => h.k e80
      have hB2 := hB.k e80
      have m1 : mm_I (mm_sI (mm_sI ν 81 1 (-1)) 81 2 (-1)) 81 1 = -1 := by rw [mm_I_sI, if_neg (by decide), mm_I_sI, if_pos ⟨rfl, rfl⟩]
      have m2 : mm_I (mm_sI (mm_sI ν 81 1 (-1)) 81 2 (-1)) 81 2 = -1 := by rw [mm_I_sI, if_pos ⟨rfl, rfl⟩]
      refine mm_aload d_M_yearLine_86 rfl ?_
      refine mm_getP d_M_yearLine_87 rfl (sk_o_71 hM) (sk_p_71_19 hM) ?_
      refine mm_ciN 1 d_M_yearLine_90 rfl ?_
      refine mm_ci d_M_yearLine_91 ?_
      refine mm_iastX d_M_yearLine_92 (sk_a_81 hM) (by omega) (by decide) ?_
      refine mm_aload d_M_yearLine_93 rfl ?_
      refine mm_getP d_M_yearLine_94 rfl (sk_o_71 hM) (sk_p_71_19 hM) ?_
      refine mm_ciN 2 d_M_yearLine_97 rfl ?_
      refine mm_ci d_M_yearLine_98 ?_
      refine mm_iastX d_M_yearLine_99 (sk_a_81 hM) (by omega) (by decide) ?_
      refine mm_iload d_M_yearLine_100 rfl ?_
      refine mm_ciN 4 d_M_yearLine_102 rfl ?_
      refine mm_icmp_eqN d_M_yearLine_103 (by first | omega | exact ite01_lt | exact bt8_lt31 _ _ | exact godB_lt31 _ _ _ | exact pop_lt31 _ | assumption | exact b31 (hW.gp (by omega)) | exact b31 (hW.ne (by omega)) | exact b31 (hW.op (by omega)) | exact and31 (hW.gp (by omega)) | exact and31 (hW.ne (by omega)) | exact and31 (hW.op (by omega)) | exact and31 (by assumption) | exact and31r (hW.ne (by omega)) | exact and31r (hW.gp (by omega)) | exact and31r (by decide)) (by first | omega | exact ite01_lt | exact bt8_lt31 _ _ | exact godB_lt31 _ _ _ | exact pop_lt31 _ | assumption | exact b31 (hW.gp (by omega)) | exact b31 (hW.ne (by omega)) | exact b31 (hW.op (by omega)) | exact and31 (hW.gp (by omega)) | exact and31 (hW.ne (by omega)) | exact and31 (hW.op (by omega)) | exact and31 (by assumption) | exact and31r (hW.ne (by omega)) | exact and31r (hW.gp (by omega)) | exact and31r (by decide)) (fun c_103 => False.elim (by omega)) (fun c_103 => ?_)
      refine mm_aload d_M_yearLine_106 rfl ?_
      refine mm_ciN 1 d_M_yearLine_107 rfl ?_
      refine mm_ciN 0 d_M_yearLine_108 rfl ?_
      refine mm_iload d_M_yearLine_109 rfl ?_
      refine mm_ciN 2 d_M_yearLine_111 rfl ?_
      refine mm_icmp_neN d_M_yearLine_112 (by first | omega | exact ite01_lt | exact bt8_lt31 _ _ | exact godB_lt31 _ _ _ | exact pop_lt31 _ | assumption | exact b31 (hW.gp (by omega)) | exact b31 (hW.ne (by omega)) | exact b31 (hW.op (by omega)) | exact and31 (hW.gp (by omega)) | exact and31 (hW.ne (by omega)) | exact and31 (hW.op (by omega)) | exact and31 (by assumption) | exact and31r (hW.ne (by omega)) | exact and31r (hW.gp (by omega)) | exact and31r (by decide)) (by first | omega | exact ite01_lt | exact bt8_lt31 _ _ | exact godB_lt31 _ _ _ | exact pop_lt31 _ | assumption | exact b31 (hW.gp (by omega)) | exact b31 (hW.ne (by omega)) | exact b31 (hW.op (by omega)) | exact and31 (hW.gp (by omega)) | exact and31 (hW.ne (by omega)) | exact and31 (hW.op (by omega)) | exact and31 (by assumption) | exact and31r (hW.ne (by omega)) | exact and31r (hW.gp (by omega)) | exact and31r (by decide)) (fun c_112 => ?_) (fun c_112 => False.elim (by omega))
      refine mm_iload d_M_yearLine_120 rfl ?_
      refine mm_ciN 3 d_M_yearLine_122 rfl ?_
      refine mm_icmp_neN d_M_yearLine_123 (by first | omega | exact ite01_lt | exact bt8_lt31 _ _ | exact godB_lt31 _ _ _ | exact pop_lt31 _ | assumption | exact b31 (hW.gp (by omega)) | exact b31 (hW.ne (by omega)) | exact b31 (hW.op (by omega)) | exact and31 (hW.gp (by omega)) | exact and31 (hW.ne (by omega)) | exact and31 (hW.op (by omega)) | exact and31 (by assumption) | exact and31r (hW.ne (by omega)) | exact and31r (hW.gp (by omega)) | exact and31r (by decide)) (by first | omega | exact ite01_lt | exact bt8_lt31 _ _ | exact godB_lt31 _ _ _ | exact pop_lt31 _ | assumption | exact b31 (hW.gp (by omega)) | exact b31 (hW.ne (by omega)) | exact b31 (hW.op (by omega)) | exact and31 (hW.gp (by omega)) | exact and31 (hW.ne (by omega)) | exact and31 (hW.op (by omega)) | exact and31 (by assumption) | exact and31r (hW.ne (by omega)) | exact and31r (hW.gp (by omega)) | exact and31r (by decide)) (fun c_123 => ?_) (fun c_123 => False.elim (by omega))
      refine mm_ciN 5 d_M_yearLine_130 rfl ?_
      refine mm_v3i d_M_yearLine_131 (sk_o_71 hM) (sp_M_take hM (sp_LMe (i := 0) l0 hp (by decide) (by decide) (by decide) cc0 (fun h3 ξ kx e => ⟨Or.inl rfl, mm_if_neN d_M_yearLine_134 (by decide) (fun c => absurd rfl c) (fun _ => mm_ciN 0 d_M_yearLine_137 rfl (mm_rz d_M_yearLine_138 (hst 0 ξ (by decide) (by decide) h3 (fun j hj => absurd hj (Nat.not_lt_zero j)) (kF.trans kx.k5) e)))⟩) (fun h3 ξ1 l1 x1 => ⟨Or.inr rfl, ?_⟩)))
      replace hM := l1.2.1.1
      refine mm_if_neN d_M_yearLine_134 (by first | omega | exact ite01_lt | exact bt8_lt31 _ _ | exact godB_lt31 _ _ _ | exact pop_lt31 _ | assumption | exact b31 (hW.gp (by omega)) | exact b31 (hW.ne (by omega)) | exact b31 (hW.op (by omega)) | exact and31 (hW.gp (by omega)) | exact and31 (hW.ne (by omega)) | exact and31 (hW.op (by omega)) | exact and31 (by assumption) | exact and31r (hW.ne (by omega)) | exact and31r (hW.gp (by omega)) | exact and31r (by decide)) (fun c_134 => ?_) (fun c_134 => False.elim (by omega))
      refine mm_iload d_M_yearLine_139 rfl ?_
      refine mm_ciN 1 d_M_yearLine_141 rfl ?_
      refine mm_icmp_gtN d_M_yearLine_142 (by first | omega | exact ite01_lt | exact bt8_lt31 _ _ | exact godB_lt31 _ _ _ | exact pop_lt31 _ | assumption | exact b31 (hW.gp (by omega)) | exact b31 (hW.ne (by omega)) | exact b31 (hW.op (by omega)) | exact and31 (hW.gp (by omega)) | exact and31 (hW.ne (by omega)) | exact and31 (hW.op (by omega)) | exact and31 (by assumption) | exact and31r (hW.ne (by omega)) | exact and31r (hW.gp (by omega)) | exact and31r (by decide)) (by first | omega | exact ite01_lt | exact bt8_lt31 _ _ | exact godB_lt31 _ _ _ | exact pop_lt31 _ | assumption | exact b31 (hW.gp (by omega)) | exact b31 (hW.ne (by omega)) | exact b31 (hW.op (by omega)) | exact and31 (hW.gp (by omega)) | exact and31 (hW.ne (by omega)) | exact and31 (hW.op (by omega)) | exact and31 (by assumption) | exact and31r (hW.ne (by omega)) | exact and31r (hW.gp (by omega)) | exact and31r (by decide)) (fun c_142 => False.elim (by omega)) (fun c_142 => ?_)
      refine mm_aload d_M_yearLine_145 rfl ?_
      refine mm_ciN 2 d_M_yearLine_146 rfl ?_
      refine mm_ciN 0 d_M_yearLine_147 rfl ?_
      refine mm_ciN 7 d_M_yearLine_148 rfl ?_
      refine mm_v3i d_M_yearLine_150 (sk_o_71 hM) (sp_M_take hM (sp_LMe (i := 1) l1 hp (by decide) (by decide) (by decide) cc1 (fun h3 ξ kx e => ⟨Or.inl rfl, mm_if_neN d_M_yearLine_153 (by decide) (fun c => absurd rfl c) (fun _ => mm_ciN 0 d_M_yearLine_156 rfl (mm_rz d_M_yearLine_157 (hst 1 ξ (by decide) (by decide) h3 (fun j hj => (l1.2.2.2.2.2 j hj).2) (kF.trans kx.k5) e)))⟩) (fun h3 ξ2 l2 x2 => ⟨Or.inr rfl, ?_⟩)))
      refine mm_if_neN d_M_yearLine_153 (by first | omega | exact ite01_lt | exact bt8_lt31 _ _ | exact godB_lt31 _ _ _ | exact pop_lt31 _ | assumption | exact b31 (hW.gp (by omega)) | exact b31 (hW.ne (by omega)) | exact b31 (hW.op (by omega)) | exact and31 (hW.gp (by omega)) | exact and31 (hW.ne (by omega)) | exact and31 (hW.op (by omega)) | exact and31 (by assumption) | exact and31r (hW.ne (by omega)) | exact and31r (hW.gp (by omega)) | exact and31r (by decide)) (fun c_153 => ?_) (fun c_153 => False.elim (by omega))
      exact sp_M_yearEnd (k := 6) (d := 0) (by decide) (by decide) rfl l2 hB2 (l2.2.2.2.2.2 0 (by decide)).1 (l2.2.2.2.2.2 1 (by decide)).1 (fun ξ he => hok ξ (by decide) (he.base kF kR))
    · rw [q7] at hw
      rw [hw]
      have cc0 : canT (vv u L p 0) 0 5 0 (1 + 0) (vv u L p) = cb 7 (vv u L p) 0 := by
        apply Bool.eq_iff_iff.mpr
        rw [canT_i, cb_i]
        have : hi (7 * 3 + 0) = 5 := rfl
        omega
      have cc1 : canT (vv u L p 1) 0 7 0 (1 + 1) (vv u L p) = cb 7 (vv u L p) 1 := by
        apply Bool.eq_iff_iff.mpr
        rw [canT_i, cb_i]
        have : hi (7 * 3 + 1) = 7 := rfl
        omega
      refine mm_lload d_M_yearLine_0 rfl ?_
      refine mm_lciN 6386539 d_M_yearLine_1 rfl ?_
      refine mm_lcmp d_M_yearLine_4 ?_
      refine mm_lif_neN d_M_yearLine_5 (by decide) (by decide) (fun c_5 => ?_) (fun c_5 => False.elim (by omega))
      refine mm_lload d_M_yearLine_12 rfl ?_
      refine mm_lciN 499967422059 d_M_yearLine_13 rfl ?_
      refine mm_lcmp d_M_yearLine_16 ?_
      refine mm_lif_neN d_M_yearLine_17 (by decide) (by decide) (fun c_17 => False.elim (by omega)) (fun c_17 => ?_)
      refine mm_ciN 1 d_M_yearLine_20 rfl ?_
      refine mm_goto d_M_yearLine_21 ?_
      refine mm_ist4 d_M_yearLine_61 ?_
      refine mm_iload d_M_yearLine_63 rfl ?_
      refine mm_ci d_M_yearLine_65 ?_
      refine mm_icmp_neM1 d_M_yearLine_66 (by first | omega | exact ite01_lt | exact bt8_lt31 _ _ | exact godB_lt31 _ _ _ | exact pop_lt31 _ | assumption | exact b31 (hW.gp (by omega)) | exact b31 (hW.ne (by omega)) | exact b31 (hW.op (by omega)) | exact and31 (hW.gp (by omega)) | exact and31 (hW.ne (by omega)) | exact and31 (hW.op (by omega)) | exact and31 (by assumption) | exact and31r (hW.ne (by omega)) | exact and31r (hW.gp (by omega)) | exact and31r (by decide)) ?_
      refine mm_aload d_M_yearLine_74 rfl ?_
      refine mm_ciN 0 d_M_yearLine_75 rfl ?_
      refine mm_ciN 40 d_M_yearLine_76 rfl ?_
      refine mm_iload d_M_yearLine_78 rfl ?_
      refine mm_v3v d_M_yearLine_79 (sk_o_71 hM) (sp_M_full hM hF (by omega) (by decide) e0 b0 (by decide) (fun ν1 f1 p1 g1 gJ lf => ?_))
      rw [j1, j2] at lf
      have hR1 : Rm u L ν1 := ⟨f1.2.2.2 hM, by rw [g1 10 (by decide) (by decide)]; exact hR.2.1, hL6, by rw [(f1.2.2.1 72 rfl).1]; exact hR.2.2.2⟩
      replace hM := hR1.1
      have kF1 : K5 μ ν1 := ⟨f1.sub (fun a z => by unfold sc71 at z; unfold sc790; simp at z ⊢; omega), p1, fun j hj => g1 j (by omega) (by omega)⟩
      refine mm_aload d_M_yearLine_82 rfl ?_
      refine mm_v0v d_M_yearLine_83 (sk_o_71 hM) (sp_M_token hR1 (by rw [g1 9 (by decide) (by decide)]; exact hT.1) htn (fun ν km tk => ?_))
      have l00 : LM 7 1 u L p (jf 7 t fl) (jp 7 t fl pl (tP u L p)) ν ν 0 := LM_0 hR1 km tk hk1 lf (by rw [g1 21 (by decide) (by decide)]; exact hg)
      have l0 := (l00.sR (j := 1) (x := -1)).sR (j := 2) (x := -1)
      replace hM := l00.2.1.1
      have e80 : mm_I (mm_sI (mm_sI ν 81 1 (-1)) 81 2 (-1)) 80 = mm_I μ 80 := by rw [mm_sI_off (by decide), mm_sI_off (by decide), (km.1.2.2.1 80 rfl).1, (f1.2.2.1 80 rfl).1]
      have kF : K5 μ (mm_sI (mm_sI ν 81 1 (-1)) 81 2 (-1)) := (kF1.trans km.k2.k5).trans (K2.rf.sR.sR).k5
      have kR : ∀ t, RM1 t μ → RM1 t (mm_sI (mm_sI ν 81 1 (-1)) 81 2 (-1)) := fun t h => h.k e80
      have hB2 := hB.k e80
      have m1 : mm_I (mm_sI (mm_sI ν 81 1 (-1)) 81 2 (-1)) 81 1 = -1 := by rw [mm_I_sI, if_neg (by decide), mm_I_sI, if_pos ⟨rfl, rfl⟩]
      have m2 : mm_I (mm_sI (mm_sI ν 81 1 (-1)) 81 2 (-1)) 81 2 = -1 := by rw [mm_I_sI, if_pos ⟨rfl, rfl⟩]
      refine mm_aload d_M_yearLine_86 rfl ?_
      refine mm_getP d_M_yearLine_87 rfl (sk_o_71 hM) (sk_p_71_19 hM) ?_
      refine mm_ciN 1 d_M_yearLine_90 rfl ?_
      refine mm_ci d_M_yearLine_91 ?_
      refine mm_iastX d_M_yearLine_92 (sk_a_81 hM) (by omega) (by decide) ?_
      refine mm_aload d_M_yearLine_93 rfl ?_
      refine mm_getP d_M_yearLine_94 rfl (sk_o_71 hM) (sk_p_71_19 hM) ?_
      refine mm_ciN 2 d_M_yearLine_97 rfl ?_
      refine mm_ci d_M_yearLine_98 ?_
      refine mm_iastX d_M_yearLine_99 (sk_a_81 hM) (by omega) (by decide) ?_
      refine mm_iload d_M_yearLine_100 rfl ?_
      refine mm_ciN 4 d_M_yearLine_102 rfl ?_
      refine mm_icmp_eqN d_M_yearLine_103 (by first | omega | exact ite01_lt | exact bt8_lt31 _ _ | exact godB_lt31 _ _ _ | exact pop_lt31 _ | assumption | exact b31 (hW.gp (by omega)) | exact b31 (hW.ne (by omega)) | exact b31 (hW.op (by omega)) | exact and31 (hW.gp (by omega)) | exact and31 (hW.ne (by omega)) | exact and31 (hW.op (by omega)) | exact and31 (by assumption) | exact and31r (hW.ne (by omega)) | exact and31r (hW.gp (by omega)) | exact and31r (by decide)) (by first | omega | exact ite01_lt | exact bt8_lt31 _ _ | exact godB_lt31 _ _ _ | exact pop_lt31 _ | assumption | exact b31 (hW.gp (by omega)) | exact b31 (hW.ne (by omega)) | exact b31 (hW.op (by omega)) | exact and31 (hW.gp (by omega)) | exact and31 (hW.ne (by omega)) | exact and31 (hW.op (by omega)) | exact and31 (by assumption) | exact and31r (hW.ne (by omega)) | exact and31r (hW.gp (by omega)) | exact and31r (by decide)) (fun c_103 => False.elim (by omega)) (fun c_103 => ?_)
      refine mm_aload d_M_yearLine_106 rfl ?_
      refine mm_ciN 1 d_M_yearLine_107 rfl ?_
      refine mm_ciN 0 d_M_yearLine_108 rfl ?_
      refine mm_iload d_M_yearLine_109 rfl ?_
      refine mm_ciN 2 d_M_yearLine_111 rfl ?_
      refine mm_icmp_neN d_M_yearLine_112 (by first | omega | exact ite01_lt | exact bt8_lt31 _ _ | exact godB_lt31 _ _ _ | exact pop_lt31 _ | assumption | exact b31 (hW.gp (by omega)) | exact b31 (hW.ne (by omega)) | exact b31 (hW.op (by omega)) | exact and31 (hW.gp (by omega)) | exact and31 (hW.ne (by omega)) | exact and31 (hW.op (by omega)) | exact and31 (by assumption) | exact and31r (hW.ne (by omega)) | exact and31r (hW.gp (by omega)) | exact and31r (by decide)) (by first | omega | exact ite01_lt | exact bt8_lt31 _ _ | exact godB_lt31 _ _ _ | exact pop_lt31 _ | assumption | exact b31 (hW.gp (by omega)) | exact b31 (hW.ne (by omega)) | exact b31 (hW.op (by omega)) | exact and31 (hW.gp (by omega)) | exact and31 (hW.ne (by omega)) | exact and31 (hW.op (by omega)) | exact and31 (by assumption) | exact and31r (hW.ne (by omega)) | exact and31r (hW.gp (by omega)) | exact and31r (by decide)) (fun c_112 => ?_) (fun c_112 => False.elim (by omega))
      refine mm_iload d_M_yearLine_120 rfl ?_
      refine mm_ciN 3 d_M_yearLine_122 rfl ?_
      refine mm_icmp_neN d_M_yearLine_123 (by first | omega | exact ite01_lt | exact bt8_lt31 _ _ | exact godB_lt31 _ _ _ | exact pop_lt31 _ | assumption | exact b31 (hW.gp (by omega)) | exact b31 (hW.ne (by omega)) | exact b31 (hW.op (by omega)) | exact and31 (hW.gp (by omega)) | exact and31 (hW.ne (by omega)) | exact and31 (hW.op (by omega)) | exact and31 (by assumption) | exact and31r (hW.ne (by omega)) | exact and31r (hW.gp (by omega)) | exact and31r (by decide)) (by first | omega | exact ite01_lt | exact bt8_lt31 _ _ | exact godB_lt31 _ _ _ | exact pop_lt31 _ | assumption | exact b31 (hW.gp (by omega)) | exact b31 (hW.ne (by omega)) | exact b31 (hW.op (by omega)) | exact and31 (hW.gp (by omega)) | exact and31 (hW.ne (by omega)) | exact and31 (hW.op (by omega)) | exact and31 (by assumption) | exact and31r (hW.ne (by omega)) | exact and31r (hW.gp (by omega)) | exact and31r (by decide)) (fun c_123 => ?_) (fun c_123 => False.elim (by omega))
      refine mm_ciN 5 d_M_yearLine_130 rfl ?_
      refine mm_v3i d_M_yearLine_131 (sk_o_71 hM) (sp_M_take hM (sp_LMe (i := 0) l0 hp (by decide) (by decide) (by decide) cc0 (fun h3 ξ kx e => ⟨Or.inl rfl, mm_if_neN d_M_yearLine_134 (by decide) (fun c => absurd rfl c) (fun _ => mm_ciN 0 d_M_yearLine_137 rfl (mm_rz d_M_yearLine_138 (hst 0 ξ (by decide) (by decide) h3 (fun j hj => absurd hj (Nat.not_lt_zero j)) (kF.trans kx.k5) e)))⟩) (fun h3 ξ1 l1 x1 => ⟨Or.inr rfl, ?_⟩)))
      replace hM := l1.2.1.1
      refine mm_if_neN d_M_yearLine_134 (by first | omega | exact ite01_lt | exact bt8_lt31 _ _ | exact godB_lt31 _ _ _ | exact pop_lt31 _ | assumption | exact b31 (hW.gp (by omega)) | exact b31 (hW.ne (by omega)) | exact b31 (hW.op (by omega)) | exact and31 (hW.gp (by omega)) | exact and31 (hW.ne (by omega)) | exact and31 (hW.op (by omega)) | exact and31 (by assumption) | exact and31r (hW.ne (by omega)) | exact and31r (hW.gp (by omega)) | exact and31r (by decide)) (fun c_134 => ?_) (fun c_134 => False.elim (by omega))
      refine mm_iload d_M_yearLine_139 rfl ?_
      refine mm_ciN 1 d_M_yearLine_141 rfl ?_
      refine mm_icmp_gtN d_M_yearLine_142 (by first | omega | exact ite01_lt | exact bt8_lt31 _ _ | exact godB_lt31 _ _ _ | exact pop_lt31 _ | assumption | exact b31 (hW.gp (by omega)) | exact b31 (hW.ne (by omega)) | exact b31 (hW.op (by omega)) | exact and31 (hW.gp (by omega)) | exact and31 (hW.ne (by omega)) | exact and31 (hW.op (by omega)) | exact and31 (by assumption) | exact and31r (hW.ne (by omega)) | exact and31r (hW.gp (by omega)) | exact and31r (by decide)) (by first | omega | exact ite01_lt | exact bt8_lt31 _ _ | exact godB_lt31 _ _ _ | exact pop_lt31 _ | assumption | exact b31 (hW.gp (by omega)) | exact b31 (hW.ne (by omega)) | exact b31 (hW.op (by omega)) | exact and31 (hW.gp (by omega)) | exact and31 (hW.ne (by omega)) | exact and31 (hW.op (by omega)) | exact and31 (by assumption) | exact and31r (hW.ne (by omega)) | exact and31r (hW.gp (by omega)) | exact and31r (by decide)) (fun c_142 => False.elim (by omega)) (fun c_142 => ?_)
      refine mm_aload d_M_yearLine_145 rfl ?_
      refine mm_ciN 2 d_M_yearLine_146 rfl ?_
      refine mm_ciN 0 d_M_yearLine_147 rfl ?_
      refine mm_ciN 7 d_M_yearLine_148 rfl ?_
      refine mm_v3i d_M_yearLine_150 (sk_o_71 hM) (sp_M_take hM (sp_LMe (i := 1) l1 hp (by decide) (by decide) (by decide) cc1 (fun h3 ξ kx e => ⟨Or.inl rfl, mm_if_neN d_M_yearLine_153 (by decide) (fun c => absurd rfl c) (fun _ => mm_ciN 0 d_M_yearLine_156 rfl (mm_rz d_M_yearLine_157 (hst 1 ξ (by decide) (by decide) h3 (fun j hj => (l1.2.2.2.2.2 j hj).2) (kF.trans kx.k5) e)))⟩) (fun h3 ξ2 l2 x2 => ⟨Or.inr rfl, ?_⟩)))
      refine mm_if_neN d_M_yearLine_153 (by first | omega | exact ite01_lt | exact bt8_lt31 _ _ | exact godB_lt31 _ _ _ | exact pop_lt31 _ | assumption | exact b31 (hW.gp (by omega)) | exact b31 (hW.ne (by omega)) | exact b31 (hW.op (by omega)) | exact and31 (hW.gp (by omega)) | exact and31 (hW.ne (by omega)) | exact and31 (hW.op (by omega)) | exact and31 (by assumption) | exact and31r (hW.ne (by omega)) | exact and31r (hW.gp (by omega)) | exact and31r (by decide)) (fun c_153 => ?_) (fun c_153 => False.elim (by omega))
      exact sp_M_yearEnd (k := 7) (d := 1) (by decide) (by decide) rfl l2 hB2 (l2.2.2.2.2.2 0 (by decide)).1 (l2.2.2.2.2.2 1 (by decide)).1 (fun ξ he => hok ξ (by decide) (he.base kF kR))
    · rw [q8] at hw
      rw [hw]
      have cc0 : canT (vv u L p 0) 0 7 0 (1 + 0) (vv u L p) = cb 8 (vv u L p) 0 := by
        apply Bool.eq_iff_iff.mpr
        rw [canT_i, cb_i]
        have : hi (8 * 3 + 0) = 7 := rfl
        omega
      refine mm_lload d_M_yearLine_0 rfl ?_
      refine mm_lciN 6386539 d_M_yearLine_1 rfl ?_
      refine mm_lcmp d_M_yearLine_4 ?_
      refine mm_lif_neN d_M_yearLine_5 (by decide) (by decide) (fun c_5 => ?_) (fun c_5 => False.elim (by omega))
      refine mm_lload d_M_yearLine_12 rfl ?_
      refine mm_lciN 499967422059 d_M_yearLine_13 rfl ?_
      refine mm_lcmp d_M_yearLine_16 ?_
      refine mm_lif_neN d_M_yearLine_17 (by decide) (by decide) (fun c_17 => ?_) (fun c_17 => False.elim (by omega))
      refine mm_lload d_M_yearLine_24 rfl ?_
      refine mm_lciN 1668246885 d_M_yearLine_25 rfl ?_
      refine mm_lcmp d_M_yearLine_28 ?_
      refine mm_lif_neN d_M_yearLine_29 (by decide) (by decide) (fun c_29 => False.elim (by omega)) (fun c_29 => ?_)
      refine mm_ciN 2 d_M_yearLine_32 rfl ?_
      refine mm_goto d_M_yearLine_33 ?_
      refine mm_ist4 d_M_yearLine_61 ?_
      refine mm_iload d_M_yearLine_63 rfl ?_
      refine mm_ci d_M_yearLine_65 ?_
      refine mm_icmp_neM1 d_M_yearLine_66 (by first | omega | exact ite01_lt | exact bt8_lt31 _ _ | exact godB_lt31 _ _ _ | exact pop_lt31 _ | assumption | exact b31 (hW.gp (by omega)) | exact b31 (hW.ne (by omega)) | exact b31 (hW.op (by omega)) | exact and31 (hW.gp (by omega)) | exact and31 (hW.ne (by omega)) | exact and31 (hW.op (by omega)) | exact and31 (by assumption) | exact and31r (hW.ne (by omega)) | exact and31r (hW.gp (by omega)) | exact and31r (by decide)) ?_
      refine mm_aload d_M_yearLine_74 rfl ?_
      refine mm_ciN 0 d_M_yearLine_75 rfl ?_
      refine mm_ciN 40 d_M_yearLine_76 rfl ?_
      refine mm_iload d_M_yearLine_78 rfl ?_
      refine mm_v3v d_M_yearLine_79 (sk_o_71 hM) (sp_M_full hM hF (by omega) (by decide) e0 b0 (by decide) (fun ν1 f1 p1 g1 gJ lf => ?_))
      rw [j1, j2] at lf
      have hR1 : Rm u L ν1 := ⟨f1.2.2.2 hM, by rw [g1 10 (by decide) (by decide)]; exact hR.2.1, hL6, by rw [(f1.2.2.1 72 rfl).1]; exact hR.2.2.2⟩
      replace hM := hR1.1
      have kF1 : K5 μ ν1 := ⟨f1.sub (fun a z => by unfold sc71 at z; unfold sc790; simp at z ⊢; omega), p1, fun j hj => g1 j (by omega) (by omega)⟩
      refine mm_aload d_M_yearLine_82 rfl ?_
      refine mm_v0v d_M_yearLine_83 (sk_o_71 hM) (sp_M_token hR1 (by rw [g1 9 (by decide) (by decide)]; exact hT.1) htn (fun ν km tk => ?_))
      have l00 : LM 8 1 u L p (jf 8 t fl) (jp 8 t fl pl (tP u L p)) ν ν 0 := LM_0 hR1 km tk hk1 lf (by rw [g1 21 (by decide) (by decide)]; exact hg)
      have l0 := (l00.sR (j := 1) (x := -1)).sR (j := 2) (x := -1)
      replace hM := l00.2.1.1
      have e80 : mm_I (mm_sI (mm_sI ν 81 1 (-1)) 81 2 (-1)) 80 = mm_I μ 80 := by rw [mm_sI_off (by decide), mm_sI_off (by decide), (km.1.2.2.1 80 rfl).1, (f1.2.2.1 80 rfl).1]
      have kF : K5 μ (mm_sI (mm_sI ν 81 1 (-1)) 81 2 (-1)) := (kF1.trans km.k2.k5).trans (K2.rf.sR.sR).k5
      have kR : ∀ t, RM1 t μ → RM1 t (mm_sI (mm_sI ν 81 1 (-1)) 81 2 (-1)) := fun t h => h.k e80
      have hB2 := hB.k e80
      have m1 : mm_I (mm_sI (mm_sI ν 81 1 (-1)) 81 2 (-1)) 81 1 = -1 := by rw [mm_I_sI, if_neg (by decide), mm_I_sI, if_pos ⟨rfl, rfl⟩]
      have m2 : mm_I (mm_sI (mm_sI ν 81 1 (-1)) 81 2 (-1)) 81 2 = -1 := by rw [mm_I_sI, if_pos ⟨rfl, rfl⟩]
      refine mm_aload d_M_yearLine_86 rfl ?_
      refine mm_getP d_M_yearLine_87 rfl (sk_o_71 hM) (sk_p_71_19 hM) ?_
      refine mm_ciN 1 d_M_yearLine_90 rfl ?_
      refine mm_ci d_M_yearLine_91 ?_
      refine mm_iastX d_M_yearLine_92 (sk_a_81 hM) (by omega) (by decide) ?_
      refine mm_aload d_M_yearLine_93 rfl ?_
      refine mm_getP d_M_yearLine_94 rfl (sk_o_71 hM) (sk_p_71_19 hM) ?_
      refine mm_ciN 2 d_M_yearLine_97 rfl ?_
      refine mm_ci d_M_yearLine_98 ?_
      refine mm_iastX d_M_yearLine_99 (sk_a_81 hM) (by omega) (by decide) ?_
      refine mm_iload d_M_yearLine_100 rfl ?_
      refine mm_ciN 4 d_M_yearLine_102 rfl ?_
      refine mm_icmp_eqN d_M_yearLine_103 (by first | omega | exact ite01_lt | exact bt8_lt31 _ _ | exact godB_lt31 _ _ _ | exact pop_lt31 _ | assumption | exact b31 (hW.gp (by omega)) | exact b31 (hW.ne (by omega)) | exact b31 (hW.op (by omega)) | exact and31 (hW.gp (by omega)) | exact and31 (hW.ne (by omega)) | exact and31 (hW.op (by omega)) | exact and31 (by assumption) | exact and31r (hW.ne (by omega)) | exact and31r (hW.gp (by omega)) | exact and31r (by decide)) (by first | omega | exact ite01_lt | exact bt8_lt31 _ _ | exact godB_lt31 _ _ _ | exact pop_lt31 _ | assumption | exact b31 (hW.gp (by omega)) | exact b31 (hW.ne (by omega)) | exact b31 (hW.op (by omega)) | exact and31 (hW.gp (by omega)) | exact and31 (hW.ne (by omega)) | exact and31 (hW.op (by omega)) | exact and31 (by assumption) | exact and31r (hW.ne (by omega)) | exact and31r (hW.gp (by omega)) | exact and31r (by decide)) (fun c_103 => False.elim (by omega)) (fun c_103 => ?_)
      refine mm_aload d_M_yearLine_106 rfl ?_
      refine mm_ciN 1 d_M_yearLine_107 rfl ?_
      refine mm_ciN 0 d_M_yearLine_108 rfl ?_
      refine mm_iload d_M_yearLine_109 rfl ?_
      refine mm_ciN 2 d_M_yearLine_111 rfl ?_
      refine mm_icmp_neN d_M_yearLine_112 (by first | omega | exact ite01_lt | exact bt8_lt31 _ _ | exact godB_lt31 _ _ _ | exact pop_lt31 _ | assumption | exact b31 (hW.gp (by omega)) | exact b31 (hW.ne (by omega)) | exact b31 (hW.op (by omega)) | exact and31 (hW.gp (by omega)) | exact and31 (hW.ne (by omega)) | exact and31 (hW.op (by omega)) | exact and31 (by assumption) | exact and31r (hW.ne (by omega)) | exact and31r (hW.gp (by omega)) | exact and31r (by decide)) (by first | omega | exact ite01_lt | exact bt8_lt31 _ _ | exact godB_lt31 _ _ _ | exact pop_lt31 _ | assumption | exact b31 (hW.gp (by omega)) | exact b31 (hW.ne (by omega)) | exact b31 (hW.op (by omega)) | exact and31 (hW.gp (by omega)) | exact and31 (hW.ne (by omega)) | exact and31 (hW.op (by omega)) | exact and31 (by assumption) | exact and31r (hW.ne (by omega)) | exact and31r (hW.gp (by omega)) | exact and31r (by decide)) (fun c_112 => False.elim (by omega)) (fun c_112 => ?_)
      refine mm_ciN 7 d_M_yearLine_115 rfl ?_
      refine mm_goto d_M_yearLine_117 ?_
      refine mm_v3i d_M_yearLine_131 (sk_o_71 hM) (sp_M_take hM (sp_LMe (i := 0) l0 hp (by decide) (by decide) (by decide) cc0 (fun h3 ξ kx e => ⟨Or.inl rfl, mm_if_neN d_M_yearLine_134 (by decide) (fun c => absurd rfl c) (fun _ => mm_ciN 0 d_M_yearLine_137 rfl (mm_rz d_M_yearLine_138 (hst 0 ξ (by decide) (by decide) h3 (fun j hj => absurd hj (Nat.not_lt_zero j)) (kF.trans kx.k5) e)))⟩) (fun h3 ξ1 l1 x1 => ⟨Or.inr rfl, ?_⟩)))
      replace hM := l1.2.1.1
      refine mm_if_neN d_M_yearLine_134 (by first | omega | exact ite01_lt | exact bt8_lt31 _ _ | exact godB_lt31 _ _ _ | exact pop_lt31 _ | assumption | exact b31 (hW.gp (by omega)) | exact b31 (hW.ne (by omega)) | exact b31 (hW.op (by omega)) | exact and31 (hW.gp (by omega)) | exact and31 (hW.ne (by omega)) | exact and31 (hW.op (by omega)) | exact and31 (by assumption) | exact and31r (hW.ne (by omega)) | exact and31r (hW.gp (by omega)) | exact and31r (by decide)) (fun c_134 => ?_) (fun c_134 => False.elim (by omega))
      refine mm_iload d_M_yearLine_139 rfl ?_
      refine mm_ciN 1 d_M_yearLine_141 rfl ?_
      refine mm_icmp_gtN d_M_yearLine_142 (by first | omega | exact ite01_lt | exact bt8_lt31 _ _ | exact godB_lt31 _ _ _ | exact pop_lt31 _ | assumption | exact b31 (hW.gp (by omega)) | exact b31 (hW.ne (by omega)) | exact b31 (hW.op (by omega)) | exact and31 (hW.gp (by omega)) | exact and31 (hW.ne (by omega)) | exact and31 (hW.op (by omega)) | exact and31 (by assumption) | exact and31r (hW.ne (by omega)) | exact and31r (hW.gp (by omega)) | exact and31r (by decide)) (by first | omega | exact ite01_lt | exact bt8_lt31 _ _ | exact godB_lt31 _ _ _ | exact pop_lt31 _ | assumption | exact b31 (hW.gp (by omega)) | exact b31 (hW.ne (by omega)) | exact b31 (hW.op (by omega)) | exact and31 (hW.gp (by omega)) | exact and31 (hW.ne (by omega)) | exact and31 (hW.op (by omega)) | exact and31 (by assumption) | exact and31r (hW.ne (by omega)) | exact and31r (hW.gp (by omega)) | exact and31r (by decide)) (fun c_142 => ?_) (fun c_142 => False.elim (by omega))
      exact sp_M_yearEnd (k := 8) (d := 2) (by decide) (by decide) rfl l1 hB2 (l1.2.2.2.2.2 0 (by decide)).1 ((x1 2 (by decide)).trans m2) (fun ξ he => hok ξ (by decide) (he.base kF kR))
    · rw [q9] at hw
      rw [hw]
      have cc0 : canT (vv u L p 0) 0 5 0 (1 + 0) (vv u L p) = cb 9 (vv u L p) 0 := by
        apply Bool.eq_iff_iff.mpr
        rw [canT_i, cb_i]
        have : hi (9 * 3 + 0) = 5 := rfl
        omega
      refine mm_lload d_M_yearLine_0 rfl ?_
      refine mm_lciN 6386539 d_M_yearLine_1 rfl ?_
      refine mm_lcmp d_M_yearLine_4 ?_
      refine mm_lif_neN d_M_yearLine_5 (by decide) (by decide) (fun c_5 => ?_) (fun c_5 => False.elim (by omega))
      refine mm_lload d_M_yearLine_12 rfl ?_
      refine mm_lciN 499967422059 d_M_yearLine_13 rfl ?_
      refine mm_lcmp d_M_yearLine_16 ?_
      refine mm_lif_neN d_M_yearLine_17 (by decide) (by decide) (fun c_17 => ?_) (fun c_17 => False.elim (by omega))
      refine mm_lload d_M_yearLine_24 rfl ?_
      refine mm_lciN 1668246885 d_M_yearLine_25 rfl ?_
      refine mm_lcmp d_M_yearLine_28 ?_
      refine mm_lif_neN d_M_yearLine_29 (by decide) (by decide) (fun c_29 => ?_) (fun c_29 => False.elim (by omega))
      refine mm_lload d_M_yearLine_36 rfl ?_
      refine mm_lciN 25711 d_M_yearLine_37 rfl ?_
      refine mm_lcmp d_M_yearLine_40 ?_
      refine mm_lif_neN d_M_yearLine_41 (by decide) (by decide) (fun c_41 => False.elim (by omega)) (fun c_41 => ?_)
      refine mm_ciN 3 d_M_yearLine_44 rfl ?_
      refine mm_goto d_M_yearLine_45 ?_
      refine mm_ist4 d_M_yearLine_61 ?_
      refine mm_iload d_M_yearLine_63 rfl ?_
      refine mm_ci d_M_yearLine_65 ?_
      refine mm_icmp_neM1 d_M_yearLine_66 (by first | omega | exact ite01_lt | exact bt8_lt31 _ _ | exact godB_lt31 _ _ _ | exact pop_lt31 _ | assumption | exact b31 (hW.gp (by omega)) | exact b31 (hW.ne (by omega)) | exact b31 (hW.op (by omega)) | exact and31 (hW.gp (by omega)) | exact and31 (hW.ne (by omega)) | exact and31 (hW.op (by omega)) | exact and31 (by assumption) | exact and31r (hW.ne (by omega)) | exact and31r (hW.gp (by omega)) | exact and31r (by decide)) ?_
      refine mm_aload d_M_yearLine_74 rfl ?_
      refine mm_ciN 0 d_M_yearLine_75 rfl ?_
      refine mm_ciN 40 d_M_yearLine_76 rfl ?_
      refine mm_iload d_M_yearLine_78 rfl ?_
      refine mm_v3v d_M_yearLine_79 (sk_o_71 hM) (sp_M_full hM hF (by omega) (by decide) e0 b0 (by decide) (fun ν1 f1 p1 g1 gJ lf => ?_))
      rw [j1, j2] at lf
      have hR1 : Rm u L ν1 := ⟨f1.2.2.2 hM, by rw [g1 10 (by decide) (by decide)]; exact hR.2.1, hL6, by rw [(f1.2.2.1 72 rfl).1]; exact hR.2.2.2⟩
      replace hM := hR1.1
      have kF1 : K5 μ ν1 := ⟨f1.sub (fun a z => by unfold sc71 at z; unfold sc790; simp at z ⊢; omega), p1, fun j hj => g1 j (by omega) (by omega)⟩
      refine mm_aload d_M_yearLine_82 rfl ?_
      refine mm_v0v d_M_yearLine_83 (sk_o_71 hM) (sp_M_token hR1 (by rw [g1 9 (by decide) (by decide)]; exact hT.1) htn (fun ν km tk => ?_))
      have l00 : LM 9 1 u L p (jf 9 t fl) (jp 9 t fl pl (tP u L p)) ν ν 0 := LM_0 hR1 km tk hk1 lf (by rw [g1 21 (by decide) (by decide)]; exact hg)
      have l0 := (l00.sR (j := 1) (x := -1)).sR (j := 2) (x := -1)
      replace hM := l00.2.1.1
      have e80 : mm_I (mm_sI (mm_sI ν 81 1 (-1)) 81 2 (-1)) 80 = mm_I μ 80 := by rw [mm_sI_off (by decide), mm_sI_off (by decide), (km.1.2.2.1 80 rfl).1, (f1.2.2.1 80 rfl).1]
      have kF : K5 μ (mm_sI (mm_sI ν 81 1 (-1)) 81 2 (-1)) := (kF1.trans km.k2.k5).trans (K2.rf.sR.sR).k5
      have kR : ∀ t, RM1 t μ → RM1 t (mm_sI (mm_sI ν 81 1 (-1)) 81 2 (-1)) := fun t h => h.k e80
      have hB2 := hB.k e80
      have m1 : mm_I (mm_sI (mm_sI ν 81 1 (-1)) 81 2 (-1)) 81 1 = -1 := by rw [mm_I_sI, if_neg (by decide), mm_I_sI, if_pos ⟨rfl, rfl⟩]
      have m2 : mm_I (mm_sI (mm_sI ν 81 1 (-1)) 81 2 (-1)) 81 2 = -1 := by rw [mm_I_sI, if_pos ⟨rfl, rfl⟩]
      refine mm_aload d_M_yearLine_86 rfl ?_
      refine mm_getP d_M_yearLine_87 rfl (sk_o_71 hM) (sk_p_71_19 hM) ?_
      refine mm_ciN 1 d_M_yearLine_90 rfl ?_
      refine mm_ci d_M_yearLine_91 ?_
      refine mm_iastX d_M_yearLine_92 (sk_a_81 hM) (by omega) (by decide) ?_
      refine mm_aload d_M_yearLine_93 rfl ?_
      refine mm_getP d_M_yearLine_94 rfl (sk_o_71 hM) (sk_p_71_19 hM) ?_
      refine mm_ciN 2 d_M_yearLine_97 rfl ?_
      refine mm_ci d_M_yearLine_98 ?_
      refine mm_iastX d_M_yearLine_99 (sk_a_81 hM) (by omega) (by decide) ?_
      refine mm_iload d_M_yearLine_100 rfl ?_
      refine mm_ciN 4 d_M_yearLine_102 rfl ?_
      refine mm_icmp_eqN d_M_yearLine_103 (by first | omega | exact ite01_lt | exact bt8_lt31 _ _ | exact godB_lt31 _ _ _ | exact pop_lt31 _ | assumption | exact b31 (hW.gp (by omega)) | exact b31 (hW.ne (by omega)) | exact b31 (hW.op (by omega)) | exact and31 (hW.gp (by omega)) | exact and31 (hW.ne (by omega)) | exact and31 (hW.op (by omega)) | exact and31 (by assumption) | exact and31r (hW.ne (by omega)) | exact and31r (hW.gp (by omega)) | exact and31r (by decide)) (by first | omega | exact ite01_lt | exact bt8_lt31 _ _ | exact godB_lt31 _ _ _ | exact pop_lt31 _ | assumption | exact b31 (hW.gp (by omega)) | exact b31 (hW.ne (by omega)) | exact b31 (hW.op (by omega)) | exact and31 (hW.gp (by omega)) | exact and31 (hW.ne (by omega)) | exact and31 (hW.op (by omega)) | exact and31 (by assumption) | exact and31r (hW.ne (by omega)) | exact and31r (hW.gp (by omega)) | exact and31r (by decide)) (fun c_103 => False.elim (by omega)) (fun c_103 => ?_)
      refine mm_aload d_M_yearLine_106 rfl ?_
      refine mm_ciN 1 d_M_yearLine_107 rfl ?_
      refine mm_ciN 0 d_M_yearLine_108 rfl ?_
      refine mm_iload d_M_yearLine_109 rfl ?_
      refine mm_ciN 2 d_M_yearLine_111 rfl ?_
      refine mm_icmp_neN d_M_yearLine_112 (by first | omega | exact ite01_lt | exact bt8_lt31 _ _ | exact godB_lt31 _ _ _ | exact pop_lt31 _ | assumption | exact b31 (hW.gp (by omega)) | exact b31 (hW.ne (by omega)) | exact b31 (hW.op (by omega)) | exact and31 (hW.gp (by omega)) | exact and31 (hW.ne (by omega)) | exact and31 (hW.op (by omega)) | exact and31 (by assumption) | exact and31r (hW.ne (by omega)) | exact and31r (hW.gp (by omega)) | exact and31r (by decide)) (by first | omega | exact ite01_lt | exact bt8_lt31 _ _ | exact godB_lt31 _ _ _ | exact pop_lt31 _ | assumption | exact b31 (hW.gp (by omega)) | exact b31 (hW.ne (by omega)) | exact b31 (hW.op (by omega)) | exact and31 (hW.gp (by omega)) | exact and31 (hW.ne (by omega)) | exact and31 (hW.op (by omega)) | exact and31 (by assumption) | exact and31r (hW.ne (by omega)) | exact and31r (hW.gp (by omega)) | exact and31r (by decide)) (fun c_112 => ?_) (fun c_112 => False.elim (by omega))
      refine mm_iload d_M_yearLine_120 rfl ?_
      refine mm_ciN 3 d_M_yearLine_122 rfl ?_
      refine mm_icmp_neN d_M_yearLine_123 (by first | omega | exact ite01_lt | exact bt8_lt31 _ _ | exact godB_lt31 _ _ _ | exact pop_lt31 _ | assumption | exact b31 (hW.gp (by omega)) | exact b31 (hW.ne (by omega)) | exact b31 (hW.op (by omega)) | exact and31 (hW.gp (by omega)) | exact and31 (hW.ne (by omega)) | exact and31 (hW.op (by omega)) | exact and31 (by assumption) | exact and31r (hW.ne (by omega)) | exact and31r (hW.gp (by omega)) | exact and31r (by decide)) (by first | omega | exact ite01_lt | exact bt8_lt31 _ _ | exact godB_lt31 _ _ _ | exact pop_lt31 _ | assumption | exact b31 (hW.gp (by omega)) | exact b31 (hW.ne (by omega)) | exact b31 (hW.op (by omega)) | exact and31 (hW.gp (by omega)) | exact and31 (hW.ne (by omega)) | exact and31 (hW.op (by omega)) | exact and31 (by assumption) | exact and31r (hW.ne (by omega)) | exact and31r (hW.gp (by omega)) | exact and31r (by decide)) (fun c_123 => False.elim (by omega)) (fun c_123 => ?_)
      refine mm_ciN 5 d_M_yearLine_126 rfl ?_
      refine mm_goto d_M_yearLine_127 ?_
      refine mm_v3i d_M_yearLine_131 (sk_o_71 hM) (sp_M_take hM (sp_LMe (i := 0) l0 hp (by decide) (by decide) (by decide) cc0 (fun h3 ξ kx e => ⟨Or.inl rfl, mm_if_neN d_M_yearLine_134 (by decide) (fun c => absurd rfl c) (fun _ => mm_ciN 0 d_M_yearLine_137 rfl (mm_rz d_M_yearLine_138 (hst 0 ξ (by decide) (by decide) h3 (fun j hj => absurd hj (Nat.not_lt_zero j)) (kF.trans kx.k5) e)))⟩) (fun h3 ξ1 l1 x1 => ⟨Or.inr rfl, ?_⟩)))
      replace hM := l1.2.1.1
      refine mm_if_neN d_M_yearLine_134 (by first | omega | exact ite01_lt | exact bt8_lt31 _ _ | exact godB_lt31 _ _ _ | exact pop_lt31 _ | assumption | exact b31 (hW.gp (by omega)) | exact b31 (hW.ne (by omega)) | exact b31 (hW.op (by omega)) | exact and31 (hW.gp (by omega)) | exact and31 (hW.ne (by omega)) | exact and31 (hW.op (by omega)) | exact and31 (by assumption) | exact and31r (hW.ne (by omega)) | exact and31r (hW.gp (by omega)) | exact and31r (by decide)) (fun c_134 => ?_) (fun c_134 => False.elim (by omega))
      refine mm_iload d_M_yearLine_139 rfl ?_
      refine mm_ciN 1 d_M_yearLine_141 rfl ?_
      refine mm_icmp_gtN d_M_yearLine_142 (by first | omega | exact ite01_lt | exact bt8_lt31 _ _ | exact godB_lt31 _ _ _ | exact pop_lt31 _ | assumption | exact b31 (hW.gp (by omega)) | exact b31 (hW.ne (by omega)) | exact b31 (hW.op (by omega)) | exact and31 (hW.gp (by omega)) | exact and31 (hW.ne (by omega)) | exact and31 (hW.op (by omega)) | exact and31 (by assumption) | exact and31r (hW.ne (by omega)) | exact and31r (hW.gp (by omega)) | exact and31r (by decide)) (by first | omega | exact ite01_lt | exact bt8_lt31 _ _ | exact godB_lt31 _ _ _ | exact pop_lt31 _ | assumption | exact b31 (hW.gp (by omega)) | exact b31 (hW.ne (by omega)) | exact b31 (hW.op (by omega)) | exact and31 (hW.gp (by omega)) | exact and31 (hW.ne (by omega)) | exact and31 (hW.op (by omega)) | exact and31 (by assumption) | exact and31r (hW.ne (by omega)) | exact and31r (hW.gp (by omega)) | exact and31r (by decide)) (fun c_142 => ?_) (fun c_142 => False.elim (by omega))
      exact sp_M_yearEnd (k := 9) (d := 3) (by decide) (by decide) rfl l1 hB2 (l1.2.2.2.2.2 0 (by decide)).1 ((x1 2 (by decide)).trans m2) (fun ξ he => hok ξ (by decide) (he.base kF kR))
    · rw [q10] at hw
      rw [hw]
      refine mm_lload d_M_yearLine_0 rfl ?_
      refine mm_lciN 6386539 d_M_yearLine_1 rfl ?_
      refine mm_lcmp d_M_yearLine_4 ?_
      refine mm_lif_neN d_M_yearLine_5 (by decide) (by decide) (fun c_5 => ?_) (fun c_5 => False.elim (by omega))
      refine mm_lload d_M_yearLine_12 rfl ?_
      refine mm_lciN 499967422059 d_M_yearLine_13 rfl ?_
      refine mm_lcmp d_M_yearLine_16 ?_
      refine mm_lif_neN d_M_yearLine_17 (by decide) (by decide) (fun c_17 => ?_) (fun c_17 => False.elim (by omega))
      refine mm_lload d_M_yearLine_24 rfl ?_
      refine mm_lciN 1668246885 d_M_yearLine_25 rfl ?_
      refine mm_lcmp d_M_yearLine_28 ?_
      refine mm_lif_neN d_M_yearLine_29 (by decide) (by decide) (fun c_29 => ?_) (fun c_29 => False.elim (by omega))
      refine mm_lload d_M_yearLine_36 rfl ?_
      refine mm_lciN 25711 d_M_yearLine_37 rfl ?_
      refine mm_lcmp d_M_yearLine_40 ?_
      refine mm_lif_neN d_M_yearLine_41 (by decide) (by decide) (fun c_41 => ?_) (fun c_41 => False.elim (by omega))
      refine mm_lload d_M_yearLine_48 rfl ?_
      refine mm_lciN 6578553 d_M_yearLine_49 rfl ?_
      refine mm_lcmp d_M_yearLine_52 ?_
      refine mm_lif_neN d_M_yearLine_53 (by decide) (by decide) (fun c_53 => False.elim (by omega)) (fun c_53 => ?_)
      refine mm_ciN 4 d_M_yearLine_56 rfl ?_
      refine mm_goto d_M_yearLine_57 ?_
      refine mm_ist4 d_M_yearLine_61 ?_
      refine mm_iload d_M_yearLine_63 rfl ?_
      refine mm_ci d_M_yearLine_65 ?_
      refine mm_icmp_neM1 d_M_yearLine_66 (by first | omega | exact ite01_lt | exact bt8_lt31 _ _ | exact godB_lt31 _ _ _ | exact pop_lt31 _ | assumption | exact b31 (hW.gp (by omega)) | exact b31 (hW.ne (by omega)) | exact b31 (hW.op (by omega)) | exact and31 (hW.gp (by omega)) | exact and31 (hW.ne (by omega)) | exact and31 (hW.op (by omega)) | exact and31 (by assumption) | exact and31r (hW.ne (by omega)) | exact and31r (hW.gp (by omega)) | exact and31r (by decide)) ?_
      refine mm_aload d_M_yearLine_74 rfl ?_
      refine mm_ciN 0 d_M_yearLine_75 rfl ?_
      refine mm_ciN 40 d_M_yearLine_76 rfl ?_
      refine mm_iload d_M_yearLine_78 rfl ?_
      refine mm_v3v d_M_yearLine_79 (sk_o_71 hM) (sp_M_full hM hF (by omega) (by decide) e0 b0 (by decide) (fun ν1 f1 p1 g1 gJ lf => ?_))
      rw [j1, j2] at lf
      have hR1 : Rm u L ν1 := ⟨f1.2.2.2 hM, by rw [g1 10 (by decide) (by decide)]; exact hR.2.1, hL6, by rw [(f1.2.2.1 72 rfl).1]; exact hR.2.2.2⟩
      replace hM := hR1.1
      have kF1 : K5 μ ν1 := ⟨f1.sub (fun a z => by unfold sc71 at z; unfold sc790; simp at z ⊢; omega), p1, fun j hj => g1 j (by omega) (by omega)⟩
      refine mm_aload d_M_yearLine_82 rfl ?_
      refine mm_v0v d_M_yearLine_83 (sk_o_71 hM) (sp_M_token hR1 (by rw [g1 9 (by decide) (by decide)]; exact hT.1) htn (fun ν km tk => ?_))
      have l00 : LM 10 1 u L p (jf 10 t fl) (jp 10 t fl pl (tP u L p)) ν ν 0 := LM_0 hR1 km tk hk1 lf (by rw [g1 21 (by decide) (by decide)]; exact hg)
      have l0 := (l00.sR (j := 1) (x := -1)).sR (j := 2) (x := -1)
      replace hM := l00.2.1.1
      have e80 : mm_I (mm_sI (mm_sI ν 81 1 (-1)) 81 2 (-1)) 80 = mm_I μ 80 := by rw [mm_sI_off (by decide), mm_sI_off (by decide), (km.1.2.2.1 80 rfl).1, (f1.2.2.1 80 rfl).1]
      have kF : K5 μ (mm_sI (mm_sI ν 81 1 (-1)) 81 2 (-1)) := (kF1.trans km.k2.k5).trans (K2.rf.sR.sR).k5
      have kR : ∀ t, RM1 t μ → RM1 t (mm_sI (mm_sI ν 81 1 (-1)) 81 2 (-1)) := fun t h => h.k e80
      have hB2 := hB.k e80
      have m1 : mm_I (mm_sI (mm_sI ν 81 1 (-1)) 81 2 (-1)) 81 1 = -1 := by rw [mm_I_sI, if_neg (by decide), mm_I_sI, if_pos ⟨rfl, rfl⟩]
      have m2 : mm_I (mm_sI (mm_sI ν 81 1 (-1)) 81 2 (-1)) 81 2 = -1 := by rw [mm_I_sI, if_pos ⟨rfl, rfl⟩]
      refine mm_aload d_M_yearLine_86 rfl ?_
      refine mm_getP d_M_yearLine_87 rfl (sk_o_71 hM) (sk_p_71_19 hM) ?_
      refine mm_ciN 1 d_M_yearLine_90 rfl ?_
      refine mm_ci d_M_yearLine_91 ?_
      refine mm_iastX d_M_yearLine_92 (sk_a_81 hM) (by omega) (by decide) ?_
      refine mm_aload d_M_yearLine_93 rfl ?_
      refine mm_getP d_M_yearLine_94 rfl (sk_o_71 hM) (sk_p_71_19 hM) ?_
      refine mm_ciN 2 d_M_yearLine_97 rfl ?_
      refine mm_ci d_M_yearLine_98 ?_
      refine mm_iastX d_M_yearLine_99 (sk_a_81 hM) (by omega) (by decide) ?_
      refine mm_iload d_M_yearLine_100 rfl ?_
      refine mm_ciN 4 d_M_yearLine_102 rfl ?_
      refine mm_icmp_eqN d_M_yearLine_103 (by first | omega | exact ite01_lt | exact bt8_lt31 _ _ | exact godB_lt31 _ _ _ | exact pop_lt31 _ | assumption | exact b31 (hW.gp (by omega)) | exact b31 (hW.ne (by omega)) | exact b31 (hW.op (by omega)) | exact and31 (hW.gp (by omega)) | exact and31 (hW.ne (by omega)) | exact and31 (hW.op (by omega)) | exact and31 (by assumption) | exact and31r (hW.ne (by omega)) | exact and31r (hW.gp (by omega)) | exact and31r (by decide)) (by first | omega | exact ite01_lt | exact bt8_lt31 _ _ | exact godB_lt31 _ _ _ | exact pop_lt31 _ | assumption | exact b31 (hW.gp (by omega)) | exact b31 (hW.ne (by omega)) | exact b31 (hW.op (by omega)) | exact and31 (hW.gp (by omega)) | exact and31 (hW.ne (by omega)) | exact and31 (hW.op (by omega)) | exact and31 (by assumption) | exact and31r (hW.ne (by omega)) | exact and31r (hW.gp (by omega)) | exact and31r (by decide)) (fun c_103 => ?_) (fun c_103 => False.elim (by omega))
      refine mm_iload d_M_yearLine_139 rfl ?_
      refine mm_ciN 1 d_M_yearLine_141 rfl ?_
      refine mm_icmp_gtN d_M_yearLine_142 (by first | omega | exact ite01_lt | exact bt8_lt31 _ _ | exact godB_lt31 _ _ _ | exact pop_lt31 _ | assumption | exact b31 (hW.gp (by omega)) | exact b31 (hW.ne (by omega)) | exact b31 (hW.op (by omega)) | exact and31 (hW.gp (by omega)) | exact and31 (hW.ne (by omega)) | exact and31 (hW.op (by omega)) | exact and31 (by assumption) | exact and31r (hW.ne (by omega)) | exact and31r (hW.gp (by omega)) | exact and31r (by decide)) (by first | omega | exact ite01_lt | exact bt8_lt31 _ _ | exact godB_lt31 _ _ _ | exact pop_lt31 _ | assumption | exact b31 (hW.gp (by omega)) | exact b31 (hW.ne (by omega)) | exact b31 (hW.op (by omega)) | exact and31 (hW.gp (by omega)) | exact and31 (hW.ne (by omega)) | exact and31 (hW.op (by omega)) | exact and31 (by assumption) | exact and31r (hW.ne (by omega)) | exact and31r (hW.gp (by omega)) | exact and31r (by decide)) (fun c_142 => ?_) (fun c_142 => False.elim (by omega))
      exact sp_M_yearEnd (k := 10) (d := 4) (by decide) (by decide) rfl l0 hB2 m1 m2 (fun ξ he => hok ξ (by decide) (he.base kF kR))
theorem sp_M_logEnd {X : mm_X} {μ ξ : mm_M} {q : Int32 → mm_M → Prop} {u : Nat → Nat} {L p f0 p0 k w x : Nat} (hk : (k = 11 ∧ w = 448377483876) ∨ (k = 12 ∧ w = 1684365670)) (hx : LM k 1 u L p f0 p0 μ ξ 1) (hB : MBn 8 μ) (hok : ∀ ξ, EndG RM2 (MBn 8) 2 k u L p f0 p0 μ ξ → q (nI 1) ξ) : mm_T X 5 0 0 k_M_logLine 46 [some (.ref 71), some (.long (lN w)), none, some (.int (nI x))] [] ξ (fun w μ' => ∃ z, w = some (.int z) ∧ q z μ') := by
  have hM := hx.2.1.1
  have hnu : nu k = 1 := by rcases hk with ⟨rfl, -⟩ | ⟨rfl, -⟩ <;> rfl
  have hx' : LM k 1 u L p f0 p0 μ ξ (nu k) := by rw [hnu]; exact hx
  obtain ⟨c, b0, e0⟩ := hB.k ((hx.1.1.2.2.1 80 rfl).1)
  have r1 : mm_I ξ 81 1 = nI (vv u L p 0) := (hx.2.2.2.2.2 0 (by decide)).1
  have hrk : ∀ t μ ν, RM2 t μ → mm_I ν 80 = mm_I μ 80 → RM2 t ν := fun t μ ν h e => h.k e
  have e0' : ∀ y, mm_I (mm_sI ξ 81 0 y) 80 0 = nI c := fun y => by rw [mm_sI_off (by decide)]; exact e0
  have ec : ∀ t y, RM2 t (mm_sI ξ 81 0 y) → WfT 2 t → t 0 = c := fun t y h1 h2 => by
    have := h1.1
    rw [e0'] at this
    exact ((nI_eqq (by omega) (by have := (h2.2.2 rfl).1; omega)).mp this).symm
  rcases hk with ⟨rfl, rfl⟩ | ⟨rfl, rfl⟩
  · refine mm_aload d_M_logLine_46 rfl ?_
    refine mm_getP d_M_logLine_47 rfl (sk_o_71 hM) (sk_p_71_19 hM) ?_
    refine mm_ciN 0 d_M_logLine_50 rfl ?_
    refine mm_lload d_M_logLine_51 rfl ?_
    refine mm_lciN 448377483876 d_M_logLine_52 rfl ?_
    refine mm_lcmp d_M_logLine_55 ?_
    refine mm_lif_neN d_M_logLine_56 (by decide) (by decide) (fun c_56 => False.elim (by omega)) (fun c_56 => ?_)
    refine mm_ciN 0 d_M_logLine_59 rfl ?_
    refine mm_goto d_M_logLine_60 ?_
    refine mm_iastX d_M_logLine_64 (sk_a_81 hM) (by omega) (by decide) ?_
    refine mm_aload d_M_logLine_65 rfl ?_
    refine mm_ciN 2 d_M_logLine_66 rfl ?_
    refine mm_ciN 8 d_M_logLine_67 rfl ?_
    refine mm_v2v d_M_logLine_69 (sk_o_71 hM) (sp_M_keepRow hM (by decide) (e0' _) b0 (by decide) (fun _ => by omega) (by decide) (fun hc => ?_) (fun hc ν f hP hJ e => ?_))
    · refine mm_ciN 1 d_M_logLine_72 rfl ?_
      exact mm_rz d_M_logLine_73 (hok _ (EndG_mk hx' hrk Fr.rf rfl rfl ⟨c, b0, e0' _⟩ (fun t h1 h2 h3 h4 => absurd (fu_i.mpr (by have := ec t _ h1 h2; omega)) h3)))
    · refine mm_ciN 1 d_M_logLine_72 rfl ?_
      refine mm_rz d_M_logLine_73 (hok _ (EndG_mk hx' hrk f hP hJ ⟨c + 1, by omega, by rw [e, if_pos rfl]⟩ (fun t h1 h2 h3 h4 => ?_)))
      rw [stpL _ _ (by decide)]
      exact RM2_keep h1 (ec t _ h1 h2) (by rw [mm_I_sI, if_pos ⟨rfl, rfl⟩]) (by rw [mm_I_sI, if_neg (by omega)]; exact r1) e
  · refine mm_aload d_M_logLine_46 rfl ?_
    refine mm_getP d_M_logLine_47 rfl (sk_o_71 hM) (sk_p_71_19 hM) ?_
    refine mm_ciN 0 d_M_logLine_50 rfl ?_
    refine mm_lload d_M_logLine_51 rfl ?_
    refine mm_lciN 448377483876 d_M_logLine_52 rfl ?_
    refine mm_lcmp d_M_logLine_55 ?_
    refine mm_lif_neN d_M_logLine_56 (by decide) (by decide) (fun c_56 => ?_) (fun c_56 => False.elim (by omega))
    refine mm_ciN 1 d_M_logLine_63 rfl ?_
    refine mm_iastX d_M_logLine_64 (sk_a_81 hM) (by omega) (by decide) ?_
    refine mm_aload d_M_logLine_65 rfl ?_
    refine mm_ciN 2 d_M_logLine_66 rfl ?_
    refine mm_ciN 8 d_M_logLine_67 rfl ?_
    refine mm_v2v d_M_logLine_69 (sk_o_71 hM) (sp_M_keepRow hM (by decide) (e0' _) b0 (by decide) (fun _ => by omega) (by decide) (fun hc => ?_) (fun hc ν f hP hJ e => ?_))
    · refine mm_ciN 1 d_M_logLine_72 rfl ?_
      exact mm_rz d_M_logLine_73 (hok _ (EndG_mk hx' hrk Fr.rf rfl rfl ⟨c, b0, e0' _⟩ (fun t h1 h2 h3 h4 => absurd (fu_i.mpr (by have := ec t _ h1 h2; omega)) h3)))
    · refine mm_ciN 1 d_M_logLine_72 rfl ?_
      refine mm_rz d_M_logLine_73 (hok _ (EndG_mk hx' hrk f hP hJ ⟨c + 1, by omega, by rw [e, if_pos rfl]⟩ (fun t h1 h2 h3 h4 => ?_)))
      rw [stpL _ _ (by decide)]
      exact RM2_keep h1 (ec t _ h1 h2) (by rw [mm_I_sI, if_pos ⟨rfl, rfl⟩]) (by rw [mm_I_sI, if_neg (by omega)]; exact r1) e
theorem sp_M_logLine {X : mm_X} {μ : mm_M} {q : Int32 → mm_M → Prop} {u : Nat → Nat} {L p fl pl : Nat} {t : Nat → Nat} (hR : Rm u L μ) (hT : Tk2 u L p μ) (hp : p ≤ L) (hk1 : tK u L p ≠ 1) (hF : LF fl pl (tP u L p) μ) (hg : mm_I μ 71 21 = nI 1) (hB : MBn 8 μ) (hD : fl = 0 → RM2 t μ ∧ WfT 2 t) (hst0 : lnF 2 u L p = 13 → ∀ ξ, K5 μ ξ → mm_I ξ 71 15 = nI (tP u L p) → q (nI 0) ξ) (hst : ∀ i ξ, lnF 2 u L p < 13 → i < nu (lnF 2 u L p) → tK u L (ps u L p i) ≠ 3 → (∀ j, j < i → tK u L (ps u L p j) = 3) → K5 μ ξ → mm_I ξ 71 15 = nI (tP u L (ps u L p i)) → q (nI 0) ξ) (hok : ∀ ξ, lnF 2 u L p < 13 → EndG RM2 (MBn 8) 2 (lnF 2 u L p) u L p (jf (lnF 2 u L p) t fl) (jp (lnF 2 u L p) t fl pl (tP u L p)) μ ξ → q (nI 1) ξ) : mm_Ci X 5 0 0 k_M_logLine [.ref 71, .long (lN (wF u L p)), .int (nI (tP u L p))] μ q := by
  show mm_T X 5 0 0 k_M_logLine 0 [some (.ref 71), some (.long (lN (wF u L p))), none, some (.int (nI (tP u L p)))] [] μ _
  have hM := hR.1
  have hL6 := hR.2.2.1
  have htp := tP_le (u := u) hp
  have htn := tN_le (u := u) hp
  obtain ⟨c, b0, e0⟩ := id hB
  obtain ⟨-, -, -, -, -, q11, q12⟩ := wcs1
  rcases ln_w2 (u := u) (L := L) (p := p) with ⟨hk, hw⟩ | ⟨k, k6, k11, hk, hw⟩
  · have w0 := hw 11 (by decide) (by decide)
    have w1 := hw 12 (by decide) (by decide)
    rw [q11] at w0
    rw [q12] at w1
    have hlt := wF_lt (u := u) (L := L) (p := p)
    generalize wF u L p = w at *
    refine mm_lload d_M_logLine_0 rfl ?_
    refine mm_lciN 448377483876 d_M_logLine_1 rfl ?_
    refine mm_lcmp d_M_logLine_4 ?_
    refine mm_lif_eqN d_M_logLine_5 (by omega) (by omega) (fun c_5 => False.elim (by omega)) (fun c_5 => ?_)
    refine mm_lload d_M_logLine_8 rfl ?_
    refine mm_lciN 1684365670 d_M_logLine_9 rfl ?_
    refine mm_lcmp d_M_logLine_12 ?_
    refine mm_lif_eqN d_M_logLine_13 (by omega) (by omega) (fun c_13 => False.elim (by omega)) (fun c_13 => ?_)
    refine mm_aload d_M_logLine_16 rfl ?_
    refine mm_v0i d_M_logLine_17 (sk_o_71 hM) (sp_M_fails hM hT.2.1 ?_)
    exact mm_rz d_M_logLine_20 (hst0 hk _ (K2.rf.sI (by omega)).k5 (by rw [mm_I_sI, if_pos ⟨rfl, rfl⟩]))
  · rw [hk] at hst hok
    have hfu : fl = 0 → (fu k t = true ↔ 8 ≤ c) := fun z => by
      obtain ⟨d1, d2⟩ := hD z
      have ec : t 0 = c := by
        have := d1.1
        rw [e0] at this
        exact ((nI_eqq (by omega) (by have := (d2.2.2 rfl).1; omega)).mp this).symm
      rw [fu_i, ec]
      omega
    obtain ⟨j1, j2⟩ := jf_c (pl := pl) (x := tP u L p) hfu
    have hkc : k = 11 ∨ k = 12 := by omega
    rcases hkc with rfl | rfl
    · rw [q11] at hw
      rw [hw]
      have cc0 : canT (vv u L p 0) 0 7 0 (1 + 0) (vv u L p) = cb 11 (vv u L p) 0 := by
        apply Bool.eq_iff_iff.mpr
        rw [canT_i, cb_i]
        have : hi (11 * 3 + 0) = 7 := rfl
        omega
      refine mm_lload d_M_logLine_0 rfl ?_
      refine mm_lciN 448377483876 d_M_logLine_1 rfl ?_
      refine mm_lcmp d_M_logLine_4 ?_
      refine mm_lif_eqN d_M_logLine_5 (by decide) (by decide) (fun c_5 => ?_) (fun c_5 => False.elim (by omega))
      refine mm_aload d_M_logLine_21 rfl ?_
      refine mm_ciN 0 d_M_logLine_22 rfl ?_
      refine mm_ciN 8 d_M_logLine_23 rfl ?_
      refine mm_iload d_M_logLine_25 rfl ?_
      refine mm_v3v d_M_logLine_26 (sk_o_71 hM) (sp_M_full hM hF (by omega) (by decide) e0 b0 (by decide) (fun ν1 f1 p1 g1 gJ lf => ?_))
      rw [j1, j2] at lf
      have hR1 : Rm u L ν1 := ⟨f1.2.2.2 hM, by rw [g1 10 (by decide) (by decide)]; exact hR.2.1, hL6, by rw [(f1.2.2.1 72 rfl).1]; exact hR.2.2.2⟩
      replace hM := hR1.1
      have kF1 : K5 μ ν1 := ⟨f1.sub (fun a z => by unfold sc71 at z; unfold sc790; simp at z ⊢; omega), p1, fun j hj => g1 j (by omega) (by omega)⟩
      refine mm_aload d_M_logLine_29 rfl ?_
      refine mm_v0v d_M_logLine_30 (sk_o_71 hM) (sp_M_token hR1 (by rw [g1 9 (by decide) (by decide)]; exact hT.1) htn (fun ν km tk => ?_))
      have l0 : LM 11 1 u L p (jf 11 t fl) (jp 11 t fl pl (tP u L p)) ν ν 0 := LM_0 hR1 km tk hk1 lf (by rw [g1 21 (by decide) (by decide)]; exact hg)
      replace hM := l0.2.1.1
      have e80 : mm_I ν 80 = mm_I μ 80 := by rw [(km.1.2.2.1 80 rfl).1, (f1.2.2.1 80 rfl).1]
      have kF : K5 μ ν := kF1.trans km.k2.k5
      have kR : ∀ t, RM2 t μ → RM2 t ν := fun t h => h.k e80
      have hB2 := hB.k e80
      refine mm_aload d_M_logLine_33 rfl ?_
      refine mm_ciN 1 d_M_logLine_34 rfl ?_
      refine mm_ciN 0 d_M_logLine_35 rfl ?_
      refine mm_ciN 7 d_M_logLine_36 rfl ?_
      refine mm_v3i d_M_logLine_38 (sk_o_71 hM) (sp_M_take hM (sp_LMe (i := 0) l0 hp (by decide) (by decide) (by decide) cc0 (fun h3 ξ kx e => ⟨Or.inl rfl, mm_if_neN d_M_logLine_41 (by decide) (fun c => absurd rfl c) (fun _ => mm_ciN 0 d_M_logLine_44 rfl (mm_rz d_M_logLine_45 (hst 0 ξ (by decide) (by decide) h3 (fun j hj => absurd hj (Nat.not_lt_zero j)) (kF.trans kx.k5) e)))⟩) (fun h3 ξ1 l1 x1 => ⟨Or.inr rfl, ?_⟩)))
      refine mm_if_neN d_M_logLine_41 (by first | omega | exact ite01_lt | exact bt8_lt31 _ _ | exact godB_lt31 _ _ _ | exact pop_lt31 _ | assumption | exact b31 (hW.gp (by omega)) | exact b31 (hW.ne (by omega)) | exact b31 (hW.op (by omega)) | exact and31 (hW.gp (by omega)) | exact and31 (hW.ne (by omega)) | exact and31 (hW.op (by omega)) | exact and31 (by assumption) | exact and31r (hW.ne (by omega)) | exact and31r (hW.gp (by omega)) | exact and31r (by decide)) (fun c_41 => ?_) (fun c_41 => False.elim (by omega))
      exact sp_M_logEnd (k := 11) (by omega) l1 hB2 (fun ξ he => hok ξ (by decide) (he.base kF kR))
    · rw [q12] at hw
      rw [hw]
      have cc0 : canT (vv u L p 0) 0 7 0 (1 + 0) (vv u L p) = cb 12 (vv u L p) 0 := by
        apply Bool.eq_iff_iff.mpr
        rw [canT_i, cb_i]
        have : hi (12 * 3 + 0) = 7 := rfl
        omega
      refine mm_lload d_M_logLine_0 rfl ?_
      refine mm_lciN 448377483876 d_M_logLine_1 rfl ?_
      refine mm_lcmp d_M_logLine_4 ?_
      refine mm_lif_eqN d_M_logLine_5 (by decide) (by decide) (fun c_5 => False.elim (by omega)) (fun c_5 => ?_)
      refine mm_lload d_M_logLine_8 rfl ?_
      refine mm_lciN 1684365670 d_M_logLine_9 rfl ?_
      refine mm_lcmp d_M_logLine_12 ?_
      refine mm_lif_eqN d_M_logLine_13 (by decide) (by decide) (fun c_13 => ?_) (fun c_13 => False.elim (by omega))
      refine mm_aload d_M_logLine_21 rfl ?_
      refine mm_ciN 0 d_M_logLine_22 rfl ?_
      refine mm_ciN 8 d_M_logLine_23 rfl ?_
      refine mm_iload d_M_logLine_25 rfl ?_
      refine mm_v3v d_M_logLine_26 (sk_o_71 hM) (sp_M_full hM hF (by omega) (by decide) e0 b0 (by decide) (fun ν1 f1 p1 g1 gJ lf => ?_))
      rw [j1, j2] at lf
      have hR1 : Rm u L ν1 := ⟨f1.2.2.2 hM, by rw [g1 10 (by decide) (by decide)]; exact hR.2.1, hL6, by rw [(f1.2.2.1 72 rfl).1]; exact hR.2.2.2⟩
      replace hM := hR1.1
      have kF1 : K5 μ ν1 := ⟨f1.sub (fun a z => by unfold sc71 at z; unfold sc790; simp at z ⊢; omega), p1, fun j hj => g1 j (by omega) (by omega)⟩
      refine mm_aload d_M_logLine_29 rfl ?_
      refine mm_v0v d_M_logLine_30 (sk_o_71 hM) (sp_M_token hR1 (by rw [g1 9 (by decide) (by decide)]; exact hT.1) htn (fun ν km tk => ?_))
      have l0 : LM 12 1 u L p (jf 12 t fl) (jp 12 t fl pl (tP u L p)) ν ν 0 := LM_0 hR1 km tk hk1 lf (by rw [g1 21 (by decide) (by decide)]; exact hg)
      replace hM := l0.2.1.1
      have e80 : mm_I ν 80 = mm_I μ 80 := by rw [(km.1.2.2.1 80 rfl).1, (f1.2.2.1 80 rfl).1]
      have kF : K5 μ ν := kF1.trans km.k2.k5
      have kR : ∀ t, RM2 t μ → RM2 t ν := fun t h => h.k e80
      have hB2 := hB.k e80
      refine mm_aload d_M_logLine_33 rfl ?_
      refine mm_ciN 1 d_M_logLine_34 rfl ?_
      refine mm_ciN 0 d_M_logLine_35 rfl ?_
      refine mm_ciN 7 d_M_logLine_36 rfl ?_
      refine mm_v3i d_M_logLine_38 (sk_o_71 hM) (sp_M_take hM (sp_LMe (i := 0) l0 hp (by decide) (by decide) (by decide) cc0 (fun h3 ξ kx e => ⟨Or.inl rfl, mm_if_neN d_M_logLine_41 (by decide) (fun c => absurd rfl c) (fun _ => mm_ciN 0 d_M_logLine_44 rfl (mm_rz d_M_logLine_45 (hst 0 ξ (by decide) (by decide) h3 (fun j hj => absurd hj (Nat.not_lt_zero j)) (kF.trans kx.k5) e)))⟩) (fun h3 ξ1 l1 x1 => ⟨Or.inr rfl, ?_⟩)))
      refine mm_if_neN d_M_logLine_41 (by first | omega | exact ite01_lt | exact bt8_lt31 _ _ | exact godB_lt31 _ _ _ | exact pop_lt31 _ | assumption | exact b31 (hW.gp (by omega)) | exact b31 (hW.ne (by omega)) | exact b31 (hW.op (by omega)) | exact and31 (hW.gp (by omega)) | exact and31 (hW.ne (by omega)) | exact and31 (hW.op (by omega)) | exact and31 (by assumption) | exact and31r (hW.ne (by omega)) | exact and31r (hW.gp (by omega)) | exact and31r (by decide)) (fun c_41 => ?_) (fun c_41 => False.elim (by omega))
      exact sp_M_logEnd (k := 12) (by omega) l1 hB2 (fun ξ he => hok ξ (by decide) (he.base kF kR))
