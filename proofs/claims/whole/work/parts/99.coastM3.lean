/-! texts: the model's coast line -/
theorem wcs : wc 0 = 426953501796 ∧ wc 1 = 33606991467799922 ∧ wc 2 = 122528713372517 ∧ wc 3 = 474147546227 ∧ wc 4 = 8097881601010983781 ∧ wc 5 = 2003792491 := by decide
theorem sp_M_coastLine {X : mm_X} {μ : mm_M} {q : Int32 → mm_M → Prop} {u : Nat → Nat} {L p fl pl : Nat} {t : Nat → Nat} (hR : Rm u L μ) (hT : Tk2 u L p μ) (hp : p ≤ L) (hk1 : tK u L p ≠ 1) (hF : LF fl pl (tP u L p) μ) (hg : mm_I μ 71 21 = nI 1) (hB : MB0 μ) (hD : fl = 0 → RM0 t μ ∧ WfT 0 t) (hst0 : lnF 0 u L p = 13 → ∀ ξ, K5 μ ξ → mm_I ξ 71 15 = nI (tP u L p) → q (nI 0) ξ) (hst : ∀ i ξ, lnF 0 u L p < 13 → i < nu (lnF 0 u L p) → tK u L (ps u L p i) ≠ 3 → (∀ j, j < i → tK u L (ps u L p j) = 3) → K5 μ ξ → mm_I ξ 71 15 = nI (tP u L (ps u L p i)) → q (nI 0) ξ) (hok : ∀ ξ, lnF 0 u L p < 13 → EndC (lnF 0 u L p) u L p (jf (lnF 0 u L p) t fl) (jp (lnF 0 u L p) t fl pl (tP u L p)) μ ξ → q (nI 1) ξ) : mm_Ci X 5 0 0 k_M_coastLine [.ref 71, .long (lN (wF u L p)), .int (nI (tP u L p))] μ q := by
  show mm_T X 5 0 0 k_M_coastLine 0 [some (.ref 71), some (.long (lN (wF u L p))), none, some (.int (nI (tP u L p)))] [] μ _
  have hM := hR.1
  have hL6 := hR.2.2.1
  have htp := tP_le (u := u) hp
  have htn := tN_le (u := u) hp
  obtain ⟨c0, c1, b0, b1, e0, e1⟩ := hB
  have hB : MB0 μ := ⟨c0, c1, b0, b1, e0, e1⟩
  obtain ⟨q0, q1, q2, q3, q4, q5⟩ := wcs
  have rmk : ∀ ν, Km μ ν → ∀ t, RM0 t μ → RM0 t ν := fun ν km t h => h.k2 km.k2
  rcases ln_w0 (u := u) (L := L) (p := p) with ⟨hk, hw⟩ | ⟨k, -, k6, hk, hw⟩
  · have w0 := hw 0 (by decide) (by decide)
    have w1 := hw 1 (by decide) (by decide)
    have w2 := hw 2 (by decide) (by decide)
    have w3 := hw 3 (by decide) (by decide)
    have w4 := hw 4 (by decide) (by decide)
    have w5 := hw 5 (by decide) (by decide)
    rw [q0] at w0
    rw [q1] at w1
    rw [q2] at w2
    rw [q3] at w3
    rw [q4] at w4
    rw [q5] at w5
    have hlt := wF_lt (u := u) (L := L) (p := p)
    generalize wF u L p = w at *
    refine mm_lload d_M_coastLine_0 rfl ?_
    refine mm_lciN 426953501796 d_M_coastLine_1 rfl ?_
    refine mm_lcmp d_M_coastLine_4 ?_
    refine mm_lif_eqN d_M_coastLine_5 (by omega) (by omega) (fun c_5 => False.elim (by omega)) (fun c_5 => ?_)
    refine mm_lload d_M_coastLine_8 rfl ?_
    refine mm_lciN 2003792491 d_M_coastLine_9 rfl ?_
    refine mm_lcmp d_M_coastLine_12 ?_
    refine mm_lif_neN d_M_coastLine_13 (by omega) (by omega) (fun c_13 => ?_) (fun c_13 => False.elim (by omega))
    refine mm_lload d_M_coastLine_73 rfl ?_
    refine mm_lciN 33606991467799922 d_M_coastLine_74 rfl ?_
    refine mm_lcmp d_M_coastLine_77 ?_
    refine mm_lif_eqN d_M_coastLine_78 (by omega) (by omega) (fun c_78 => False.elim (by omega)) (fun c_78 => ?_)
    refine mm_lload d_M_coastLine_81 rfl ?_
    refine mm_lciN 8097881601010983781 d_M_coastLine_82 rfl ?_
    refine mm_lcmp d_M_coastLine_85 ?_
    refine mm_lif_eqN d_M_coastLine_86 (by omega) (by omega) (fun c_86 => False.elim (by omega)) (fun c_86 => ?_)
    refine mm_lload d_M_coastLine_89 rfl ?_
    refine mm_lciN 122528713372517 d_M_coastLine_90 rfl ?_
    refine mm_lcmp d_M_coastLine_93 ?_
    refine mm_lif_eqN d_M_coastLine_94 (by omega) (by omega) (fun c_94 => False.elim (by omega)) (fun c_94 => ?_)
    refine mm_lload d_M_coastLine_97 rfl ?_
    refine mm_lciN 474147546227 d_M_coastLine_98 rfl ?_
    refine mm_lcmp d_M_coastLine_101 ?_
    refine mm_lif_eqN d_M_coastLine_102 (by omega) (by omega) (fun c_102 => False.elim (by omega)) (fun c_102 => ?_)
    refine mm_aload d_M_coastLine_105 rfl ?_
    refine mm_v0i d_M_coastLine_106 (sk_o_71 hM) (sp_M_fails hM hT.2.1 ?_)
    exact mm_rz d_M_coastLine_109 (hst0 hk _ (K2.rf.sI (by omega)).k5 (by rw [mm_I_sI, if_pos ⟨rfl, rfl⟩]))
  · rw [hk] at hst hok
    have h13 : k < 13 := by omega
    have hkc : k = 0 ∨ k = 1 ∨ k = 2 ∨ k = 3 ∨ k = 4 ∨ k = 5 := by omega
    have fuk : k ≠ 0 → k ≠ 5 → ¬ fu k t = true := fun h1 h2 z => by have := fu_i.mp z; omega
    rcases hkc with rfl | rfl | rfl | rfl | rfl | rfl
    · rw [q0] at hw
      rw [hw]
      have hfu : fl = 0 → (fu 0 t = true ↔ 6 ≤ c0) := fun z => by
        obtain ⟨d1, d2⟩ := hD z
        have ec : t 0 = c0 := by
          have := d1.1 0 (by decide)
          rw [e0] at this
          exact ((nI_eqq (by omega) (by have := d2.b0; omega)).mp this).symm
        rw [fu_i, ec]
        omega
      obtain ⟨j1, j2⟩ := jf_c (pl := pl) (x := tP u L p) hfu
      refine mm_lload d_M_coastLine_0 rfl ?_
      refine mm_lciN 426953501796 d_M_coastLine_1 rfl ?_
      refine mm_lcmp d_M_coastLine_4 ?_
      refine mm_lif_eqN d_M_coastLine_5 (by decide) (by decide) (fun c_5 => ?_) (fun c_5 => False.elim (by omega))
      refine mm_aload d_M_coastLine_16 rfl ?_
      refine mm_lload d_M_coastLine_17 rfl ?_
      refine mm_lciN 426953501796 d_M_coastLine_18 rfl ?_
      refine mm_lcmp d_M_coastLine_21 ?_
      refine mm_lif_neN d_M_coastLine_22 (by decide) (by decide) (fun c_22 => False.elim (by omega)) (fun c_22 => ?_)
      refine mm_ciN 0 d_M_coastLine_25 rfl ?_
      refine mm_goto d_M_coastLine_26 ?_
      refine mm_lload d_M_coastLine_30 rfl ?_
      refine mm_lciN 426953501796 d_M_coastLine_31 rfl ?_
      refine mm_lcmp d_M_coastLine_34 ?_
      refine mm_lif_neN d_M_coastLine_35 (by decide) (by decide) (fun c_35 => False.elim (by omega)) (fun c_35 => ?_)
      refine mm_ciN 6 d_M_coastLine_38 rfl ?_
      refine mm_goto d_M_coastLine_40 ?_
      refine mm_iload d_M_coastLine_45 rfl ?_
      refine mm_v3v d_M_coastLine_46 (sk_o_71 hM) (sp_M_full hM hF (by omega) (by decide) e0 b0 (by decide) (fun ν1 f1 p1 g1 gJ lf => ?_))
      rw [j1, j2] at lf
      have hR1 : Rm u L ν1 := ⟨f1.2.2.2 hM, by rw [g1 10 (by decide) (by decide)]; exact hR.2.1, hL6, by rw [(f1.2.2.1 72 rfl).1]; exact hR.2.2.2⟩
      replace hM := hR1.1
      have kF1 : K5 μ ν1 := ⟨f1.sub (fun a z => by unfold sc71 at z; unfold sc790; simp at z ⊢; omega), p1, fun j hj => g1 j (by omega) (by omega)⟩
      have kR1 : ∀ t, RM0 t μ → RM0 t ν1 := fun t h => ⟨by rw [(f1.2.2.1 80 rfl).1]; exact h.1, by rw [g1 20 (by decide) (by decide)]; exact h.2.1, h.2.2⟩
      refine mm_aload d_M_coastLine_49 rfl ?_
      refine mm_v0v d_M_coastLine_50 (sk_o_71 hM) (sp_M_token hR1 (by rw [g1 9 (by decide) (by decide)]; exact hT.1) htn (fun ν km tk => ?_))
      have l0 : LM 0 0 u L p (jf 0 t fl) (jp 0 t fl pl (tP u L p)) ν ν 0 := LM_0 hR1 km tk hk1 lf (by rw [g1 21 (by decide) (by decide)]; exact hg)
      replace hM := l0.2.1.1
      have kF : K5 μ ν := kF1.trans km.k2.k5
      have kR : ∀ t, RM0 t μ → RM0 t ν := fun t h => (kR1 t h).k2 km.k2
      have hB2 : MB0 ν := by unfold MB0; rw [(km.1.2.2.1 80 rfl).1, (f1.2.2.1 80 rfl).1]; exact hB
      refine mm_lload d_M_coastLine_53 rfl ?_
      refine mm_lciN 426953501796 d_M_coastLine_54 rfl ?_
      refine mm_lcmp d_M_coastLine_57 ?_
      refine mm_lif_neN d_M_coastLine_58 (by decide) (by decide) (fun c_58 => False.elim (by omega)) (fun c_58 => ?_)
      refine mm_aload d_M_coastLine_61 rfl ?_
      refine mm_v0i d_M_coastLine_62 (sk_o_71 hM) (sp_M_childLine l0 hp hB2 (fun i ξ hi h3 hj kx e => ?_) (fun ξ he => ?_))
      · exact mm_goto d_M_coastLine_65 (mm_rz d_M_coastLine_72 (hst i ξ (by decide) hi h3 hj (kF.trans kx.k5) e))
      · exact mm_goto d_M_coastLine_65 (mm_rz d_M_coastLine_72 (hok ξ (by decide) (he.base kF kR)))
    · rw [q1] at hw
      rw [hw]
      obtain ⟨j1, j2⟩ := jf_0 (k := 1) (t := t) (fl := fl) (pl := pl) (x := tP u L p) (fuk (by decide) (by decide))
      rw [j1, j2] at hok
      have cc0 : canT (vv u L p 0) 0 7 0 (0 + 0) (vv u L p) = cb 1 (vv u L p) 0 := by
        apply Bool.eq_iff_iff.mpr
        rw [canT_i, cb_i]
        have : hi (1 * 3 + 0) = 7 := rfl
        omega
      have cc1 : canT (vv u L p 1) 0 10 0 (0 + 1) (vv u L p) = cb 1 (vv u L p) 1 := by
        apply Bool.eq_iff_iff.mpr
        rw [canT_i, cb_i]
        have : hi (1 * 3 + 1) = 10 := rfl
        omega
      refine mm_lload d_M_coastLine_0 rfl ?_
      refine mm_lciN 426953501796 d_M_coastLine_1 rfl ?_
      refine mm_lcmp d_M_coastLine_4 ?_
      refine mm_lif_eqN d_M_coastLine_5 (by decide) (by decide) (fun c_5 => False.elim (by omega)) (fun c_5 => ?_)
      refine mm_lload d_M_coastLine_8 rfl ?_
      refine mm_lciN 2003792491 d_M_coastLine_9 rfl ?_
      refine mm_lcmp d_M_coastLine_12 ?_
      refine mm_lif_neN d_M_coastLine_13 (by decide) (by decide) (fun c_13 => ?_) (fun c_13 => False.elim (by omega))
      refine mm_lload d_M_coastLine_73 rfl ?_
      refine mm_lciN 33606991467799922 d_M_coastLine_74 rfl ?_
      refine mm_lcmp d_M_coastLine_77 ?_
      refine mm_lif_eqN d_M_coastLine_78 (by decide) (by decide) (fun c_78 => ?_) (fun c_78 => False.elim (by omega))
      refine mm_aload d_M_coastLine_110 rfl ?_
      refine mm_v0v d_M_coastLine_111 (sk_o_71 hM) (sp_M_token hR hT.1 htn (fun ν km tk => ?_))
      have l0 : LM 1 0 u L p fl pl ν ν 0 := LM_0 hR km tk hk1 (hF.cg (Nat.le_succ _) rfl rfl) hg
      replace hM := l0.2.1.1
      have kF : K5 μ ν := km.k2.k5
      have kR : ∀ t, RM0 t μ → RM0 t ν := rmk ν km
      have hB2 : MB0 ν := hB.k2 km.k2
      refine mm_lload d_M_coastLine_114 rfl ?_
      refine mm_lciN 122528713372517 d_M_coastLine_115 rfl ?_
      refine mm_lcmp d_M_coastLine_118 ?_
      refine mm_lif_neN d_M_coastLine_119 (by decide) (by decide) (fun c_119 => ?_) (fun c_119 => False.elim (by omega))
      refine mm_lload d_M_coastLine_127 rfl ?_
      refine mm_lciN 474147546227 d_M_coastLine_128 rfl ?_
      refine mm_lcmp d_M_coastLine_131 ?_
      refine mm_lif_neN d_M_coastLine_132 (by decide) (by decide) (fun c_132 => ?_) (fun c_132 => False.elim (by omega))
      refine mm_aload d_M_coastLine_140 rfl ?_
      refine mm_ciN 0 d_M_coastLine_141 rfl ?_
      refine mm_ciN 0 d_M_coastLine_142 rfl ?_
      refine mm_ciN 7 d_M_coastLine_143 rfl ?_
      refine mm_v3i d_M_coastLine_145 (sk_o_71 hM) (sp_M_take hM (sp_LM (o := 0) (i := 0) l0 hp (by decide) (by decide) (by decide) (Or.inl rfl) (fun _ => cc0) (fun h3 ξ kx e => ⟨Or.inl rfl, mm_if_eqN d_M_coastLine_148 (by decide) (fun _ => mm_ciN 0 d_M_coastLine_187 rfl (mm_rz d_M_coastLine_188 (hst 0 ξ (by decide) (by decide) h3 (fun j hj => absurd hj (Nat.not_lt_zero j)) (kF.trans kx.k5) e))) (fun c => absurd rfl c)⟩) (fun h3 ξ1 l1 => ⟨Or.inr rfl, ?_⟩)))
      replace hM := l1.2.1.1
      refine mm_if_eqN d_M_coastLine_148 (by first | omega | exact ite01_lt | exact bt8_lt31 _ _ | exact godB_lt31 _ _ _ | exact pop_lt31 _ | assumption | exact b31 (hW.gp (by omega)) | exact b31 (hW.ne (by omega)) | exact b31 (hW.op (by omega)) | exact and31 (hW.gp (by omega)) | exact and31 (hW.ne (by omega)) | exact and31 (hW.op (by omega)) | exact and31 (by assumption) | exact and31r (hW.ne (by omega)) | exact and31r (hW.gp (by omega)) | exact and31r (by decide)) (fun c_148 => False.elim (by omega)) (fun c_148 => ?_)
      refine mm_aload d_M_coastLine_151 rfl ?_
      refine mm_ciN 1 d_M_coastLine_152 rfl ?_
      refine mm_lload d_M_coastLine_153 rfl ?_
      refine mm_lciN 33606991467799922 d_M_coastLine_154 rfl ?_
      refine mm_lcmp d_M_coastLine_157 ?_
      refine mm_lif_neN d_M_coastLine_158 (by decide) (by decide) (fun c_158 => False.elim (by omega)) (fun c_158 => ?_)
      refine mm_ciN 0 d_M_coastLine_161 rfl ?_
      refine mm_goto d_M_coastLine_162 ?_
      refine mm_lload d_M_coastLine_166 rfl ?_
      refine mm_lciN 33606991467799922 d_M_coastLine_167 rfl ?_
      refine mm_lcmp d_M_coastLine_170 ?_
      refine mm_lif_neN d_M_coastLine_171 (by decide) (by decide) (fun c_171 => False.elim (by omega)) (fun c_171 => ?_)
      refine mm_ciN 10 d_M_coastLine_174 rfl ?_
      refine mm_goto d_M_coastLine_176 ?_
      refine mm_v3i d_M_coastLine_181 (sk_o_71 hM) (sp_M_take hM (sp_LM (o := 0) (i := 1) l1 hp (by decide) (by decide) (by decide) (Or.inl rfl) (fun _ => cc1) (fun h3 ξ kx e => ⟨Or.inl rfl, mm_if_neN d_M_coastLine_184 (by decide) (fun c => absurd rfl c) (fun _ => mm_ciN 0 d_M_coastLine_187 rfl (mm_rz d_M_coastLine_188 (hst 1 ξ (by decide) (by decide) h3 (fun j hj => (l1.2.2.2.2.2 j hj).2) (kF.trans kx.k5) e)))⟩) (fun h3 ξ2 l2 => ⟨Or.inr rfl, ?_⟩)))
      refine mm_if_neN d_M_coastLine_184 (by first | omega | exact ite01_lt | exact bt8_lt31 _ _ | exact godB_lt31 _ _ _ | exact pop_lt31 _ | assumption | exact b31 (hW.gp (by omega)) | exact b31 (hW.ne (by omega)) | exact b31 (hW.op (by omega)) | exact and31 (hW.gp (by omega)) | exact and31 (hW.ne (by omega)) | exact and31 (hW.op (by omega)) | exact and31 (by assumption) | exact and31r (hW.ne (by omega)) | exact and31r (hW.gp (by omega)) | exact and31r (by decide)) (fun c_184 => ?_) (fun c_184 => False.elim (by omega))
      exact sp_M_coastEnd (k := 1) (by omega) l2 hB2 (fun ξ he => hok ξ (by decide) (he.base kF kR))
    · rw [q2] at hw
      rw [hw]
      obtain ⟨j1, j2⟩ := jf_0 (k := 2) (t := t) (fl := fl) (pl := pl) (x := tP u L p) (fuk (by decide) (by decide))
      rw [j1, j2] at hok
      refine mm_lload d_M_coastLine_0 rfl ?_
      refine mm_lciN 426953501796 d_M_coastLine_1 rfl ?_
      refine mm_lcmp d_M_coastLine_4 ?_
      refine mm_lif_eqN d_M_coastLine_5 (by decide) (by decide) (fun c_5 => False.elim (by omega)) (fun c_5 => ?_)
      refine mm_lload d_M_coastLine_8 rfl ?_
      refine mm_lciN 2003792491 d_M_coastLine_9 rfl ?_
      refine mm_lcmp d_M_coastLine_12 ?_
      refine mm_lif_neN d_M_coastLine_13 (by decide) (by decide) (fun c_13 => ?_) (fun c_13 => False.elim (by omega))
      refine mm_lload d_M_coastLine_73 rfl ?_
      refine mm_lciN 33606991467799922 d_M_coastLine_74 rfl ?_
      refine mm_lcmp d_M_coastLine_77 ?_
      refine mm_lif_eqN d_M_coastLine_78 (by decide) (by decide) (fun c_78 => False.elim (by omega)) (fun c_78 => ?_)
      refine mm_lload d_M_coastLine_81 rfl ?_
      refine mm_lciN 8097881601010983781 d_M_coastLine_82 rfl ?_
      refine mm_lcmp d_M_coastLine_85 ?_
      refine mm_lif_eqN d_M_coastLine_86 (by decide) (by decide) (fun c_86 => False.elim (by omega)) (fun c_86 => ?_)
      refine mm_lload d_M_coastLine_89 rfl ?_
      refine mm_lciN 122528713372517 d_M_coastLine_90 rfl ?_
      refine mm_lcmp d_M_coastLine_93 ?_
      refine mm_lif_eqN d_M_coastLine_94 (by decide) (by decide) (fun c_94 => ?_) (fun c_94 => False.elim (by omega))
      refine mm_aload d_M_coastLine_110 rfl ?_
      refine mm_v0v d_M_coastLine_111 (sk_o_71 hM) (sp_M_token hR hT.1 htn (fun ν km tk => ?_))
      have l0 : LM 2 0 u L p fl pl ν ν 0 := LM_0 hR km tk hk1 (hF.cg (Nat.le_succ _) rfl rfl) hg
      replace hM := l0.2.1.1
      have kF : K5 μ ν := km.k2.k5
      have kR : ∀ t, RM0 t μ → RM0 t ν := rmk ν km
      have hB2 : MB0 ν := hB.k2 km.k2
      refine mm_lload d_M_coastLine_114 rfl ?_
      refine mm_lciN 122528713372517 d_M_coastLine_115 rfl ?_
      refine mm_lcmp d_M_coastLine_118 ?_
      refine mm_lif_neN d_M_coastLine_119 (by decide) (by decide) (fun c_119 => False.elim (by omega)) (fun c_119 => ?_)
      refine mm_aload d_M_coastLine_122 rfl ?_
      refine mm_v0i d_M_coastLine_123 (sk_o_71 hM) (sp_M_opposeLine l0 hp hB2 (fun i ξ hi h3 hj kx e => ?_) (fun ξ he => ?_))
      · exact mm_rz d_M_coastLine_126 (hst i ξ (by decide) hi h3 hj (kF.trans kx.k5) e)
      · exact mm_rz d_M_coastLine_126 (hok ξ (by decide) (he.base kF kR))
    · rw [q3] at hw
      rw [hw]
      obtain ⟨j1, j2⟩ := jf_0 (k := 3) (t := t) (fl := fl) (pl := pl) (x := tP u L p) (fuk (by decide) (by decide))
      rw [j1, j2] at hok
      refine mm_lload d_M_coastLine_0 rfl ?_
      refine mm_lciN 426953501796 d_M_coastLine_1 rfl ?_
      refine mm_lcmp d_M_coastLine_4 ?_
      refine mm_lif_eqN d_M_coastLine_5 (by decide) (by decide) (fun c_5 => False.elim (by omega)) (fun c_5 => ?_)
      refine mm_lload d_M_coastLine_8 rfl ?_
      refine mm_lciN 2003792491 d_M_coastLine_9 rfl ?_
      refine mm_lcmp d_M_coastLine_12 ?_
      refine mm_lif_neN d_M_coastLine_13 (by decide) (by decide) (fun c_13 => ?_) (fun c_13 => False.elim (by omega))
      refine mm_lload d_M_coastLine_73 rfl ?_
      refine mm_lciN 33606991467799922 d_M_coastLine_74 rfl ?_
      refine mm_lcmp d_M_coastLine_77 ?_
      refine mm_lif_eqN d_M_coastLine_78 (by decide) (by decide) (fun c_78 => False.elim (by omega)) (fun c_78 => ?_)
      refine mm_lload d_M_coastLine_81 rfl ?_
      refine mm_lciN 8097881601010983781 d_M_coastLine_82 rfl ?_
      refine mm_lcmp d_M_coastLine_85 ?_
      refine mm_lif_eqN d_M_coastLine_86 (by decide) (by decide) (fun c_86 => False.elim (by omega)) (fun c_86 => ?_)
      refine mm_lload d_M_coastLine_89 rfl ?_
      refine mm_lciN 122528713372517 d_M_coastLine_90 rfl ?_
      refine mm_lcmp d_M_coastLine_93 ?_
      refine mm_lif_eqN d_M_coastLine_94 (by decide) (by decide) (fun c_94 => False.elim (by omega)) (fun c_94 => ?_)
      refine mm_lload d_M_coastLine_97 rfl ?_
      refine mm_lciN 474147546227 d_M_coastLine_98 rfl ?_
      refine mm_lcmp d_M_coastLine_101 ?_
      refine mm_lif_eqN d_M_coastLine_102 (by decide) (by decide) (fun c_102 => ?_) (fun c_102 => False.elim (by omega))
      refine mm_aload d_M_coastLine_110 rfl ?_
      refine mm_v0v d_M_coastLine_111 (sk_o_71 hM) (sp_M_token hR hT.1 htn (fun ν km tk => ?_))
      have l0 : LM 3 0 u L p fl pl ν ν 0 := LM_0 hR km tk hk1 (hF.cg (Nat.le_succ _) rfl rfl) hg
      replace hM := l0.2.1.1
      have kF : K5 μ ν := km.k2.k5
      have kR : ∀ t, RM0 t μ → RM0 t ν := rmk ν km
      have hB2 : MB0 ν := hB.k2 km.k2
      refine mm_lload d_M_coastLine_114 rfl ?_
      refine mm_lciN 122528713372517 d_M_coastLine_115 rfl ?_
      refine mm_lcmp d_M_coastLine_118 ?_
      refine mm_lif_neN d_M_coastLine_119 (by decide) (by decide) (fun c_119 => ?_) (fun c_119 => False.elim (by omega))
      refine mm_lload d_M_coastLine_127 rfl ?_
      refine mm_lciN 474147546227 d_M_coastLine_128 rfl ?_
      refine mm_lcmp d_M_coastLine_131 ?_
      refine mm_lif_neN d_M_coastLine_132 (by decide) (by decide) (fun c_132 => False.elim (by omega)) (fun c_132 => ?_)
      refine mm_aload d_M_coastLine_135 rfl ?_
      refine mm_v0i d_M_coastLine_136 (sk_o_71 hM) (sp_M_needsLine l0 hp hB2 (fun i ξ hi h3 hj kx e => ?_) (fun ξ he => ?_))
      · exact mm_rz d_M_coastLine_139 (hst i ξ (by decide) hi h3 hj (kF.trans kx.k5) e)
      · exact mm_rz d_M_coastLine_139 (hok ξ (by decide) (he.base kF kR))
    · rw [q4] at hw
      rw [hw]
      obtain ⟨j1, j2⟩ := jf_0 (k := 4) (t := t) (fl := fl) (pl := pl) (x := tP u L p) (fuk (by decide) (by decide))
      rw [j1, j2] at hok
      have cc0 : canT (vv u L p 0) 0 7 0 (0 + 0) (vv u L p) = cb 4 (vv u L p) 0 := by
        apply Bool.eq_iff_iff.mpr
        rw [canT_i, cb_i]
        have : hi (4 * 3 + 0) = 7 := rfl
        omega
      have cc1 : canT (vv u L p 1) 1 9 0 (0 + 1) (vv u L p) = cb 4 (vv u L p) 1 := by
        apply Bool.eq_iff_iff.mpr
        rw [canT_i, cb_i]
        have : hi (4 * 3 + 1) = 9 := rfl
        omega
      refine mm_lload d_M_coastLine_0 rfl ?_
      refine mm_lciN 426953501796 d_M_coastLine_1 rfl ?_
      refine mm_lcmp d_M_coastLine_4 ?_
      refine mm_lif_eqN d_M_coastLine_5 (by decide) (by decide) (fun c_5 => False.elim (by omega)) (fun c_5 => ?_)
      refine mm_lload d_M_coastLine_8 rfl ?_
      refine mm_lciN 2003792491 d_M_coastLine_9 rfl ?_
      refine mm_lcmp d_M_coastLine_12 ?_
      refine mm_lif_neN d_M_coastLine_13 (by decide) (by decide) (fun c_13 => ?_) (fun c_13 => False.elim (by omega))
      refine mm_lload d_M_coastLine_73 rfl ?_
      refine mm_lciN 33606991467799922 d_M_coastLine_74 rfl ?_
      refine mm_lcmp d_M_coastLine_77 ?_
      refine mm_lif_eqN d_M_coastLine_78 (by decide) (by decide) (fun c_78 => False.elim (by omega)) (fun c_78 => ?_)
      refine mm_lload d_M_coastLine_81 rfl ?_
      refine mm_lciN 8097881601010983781 d_M_coastLine_82 rfl ?_
      refine mm_lcmp d_M_coastLine_85 ?_
      refine mm_lif_eqN d_M_coastLine_86 (by decide) (by decide) (fun c_86 => ?_) (fun c_86 => False.elim (by omega))
      refine mm_aload d_M_coastLine_110 rfl ?_
      refine mm_v0v d_M_coastLine_111 (sk_o_71 hM) (sp_M_token hR hT.1 htn (fun ν km tk => ?_))
      have l0 : LM 4 0 u L p fl pl ν ν 0 := LM_0 hR km tk hk1 (hF.cg (Nat.le_succ _) rfl rfl) hg
      replace hM := l0.2.1.1
      have kF : K5 μ ν := km.k2.k5
      have kR : ∀ t, RM0 t μ → RM0 t ν := rmk ν km
      have hB2 : MB0 ν := hB.k2 km.k2
      refine mm_lload d_M_coastLine_114 rfl ?_
      refine mm_lciN 122528713372517 d_M_coastLine_115 rfl ?_
      refine mm_lcmp d_M_coastLine_118 ?_
      refine mm_lif_neN d_M_coastLine_119 (by decide) (by decide) (fun c_119 => ?_) (fun c_119 => False.elim (by omega))
      refine mm_lload d_M_coastLine_127 rfl ?_
      refine mm_lciN 474147546227 d_M_coastLine_128 rfl ?_
      refine mm_lcmp d_M_coastLine_131 ?_
      refine mm_lif_neN d_M_coastLine_132 (by decide) (by decide) (fun c_132 => ?_) (fun c_132 => False.elim (by omega))
      refine mm_aload d_M_coastLine_140 rfl ?_
      refine mm_ciN 0 d_M_coastLine_141 rfl ?_
      refine mm_ciN 0 d_M_coastLine_142 rfl ?_
      refine mm_ciN 7 d_M_coastLine_143 rfl ?_
      refine mm_v3i d_M_coastLine_145 (sk_o_71 hM) (sp_M_take hM (sp_LM (o := 0) (i := 0) l0 hp (by decide) (by decide) (by decide) (Or.inl rfl) (fun _ => cc0) (fun h3 ξ kx e => ⟨Or.inl rfl, mm_if_eqN d_M_coastLine_148 (by decide) (fun _ => mm_ciN 0 d_M_coastLine_187 rfl (mm_rz d_M_coastLine_188 (hst 0 ξ (by decide) (by decide) h3 (fun j hj => absurd hj (Nat.not_lt_zero j)) (kF.trans kx.k5) e))) (fun c => absurd rfl c)⟩) (fun h3 ξ1 l1 => ⟨Or.inr rfl, ?_⟩)))
      replace hM := l1.2.1.1
      refine mm_if_eqN d_M_coastLine_148 (by first | omega | exact ite01_lt | exact bt8_lt31 _ _ | exact godB_lt31 _ _ _ | exact pop_lt31 _ | assumption | exact b31 (hW.gp (by omega)) | exact b31 (hW.ne (by omega)) | exact b31 (hW.op (by omega)) | exact and31 (hW.gp (by omega)) | exact and31 (hW.ne (by omega)) | exact and31 (hW.op (by omega)) | exact and31 (by assumption) | exact and31r (hW.ne (by omega)) | exact and31r (hW.gp (by omega)) | exact and31r (by decide)) (fun c_148 => False.elim (by omega)) (fun c_148 => ?_)
      refine mm_aload d_M_coastLine_151 rfl ?_
      refine mm_ciN 1 d_M_coastLine_152 rfl ?_
      refine mm_lload d_M_coastLine_153 rfl ?_
      refine mm_lciN 33606991467799922 d_M_coastLine_154 rfl ?_
      refine mm_lcmp d_M_coastLine_157 ?_
      refine mm_lif_neN d_M_coastLine_158 (by decide) (by decide) (fun c_158 => ?_) (fun c_158 => False.elim (by omega))
      refine mm_ciN 1 d_M_coastLine_165 rfl ?_
      refine mm_lload d_M_coastLine_166 rfl ?_
      refine mm_lciN 33606991467799922 d_M_coastLine_167 rfl ?_
      refine mm_lcmp d_M_coastLine_170 ?_
      refine mm_lif_neN d_M_coastLine_171 (by decide) (by decide) (fun c_171 => ?_) (fun c_171 => False.elim (by omega))
      refine mm_ciN 9 d_M_coastLine_179 rfl ?_
      refine mm_v3i d_M_coastLine_181 (sk_o_71 hM) (sp_M_take hM (sp_LM (o := 0) (i := 1) l1 hp (by decide) (by decide) (by decide) (Or.inl rfl) (fun _ => cc1) (fun h3 ξ kx e => ⟨Or.inl rfl, mm_if_neN d_M_coastLine_184 (by decide) (fun c => absurd rfl c) (fun _ => mm_ciN 0 d_M_coastLine_187 rfl (mm_rz d_M_coastLine_188 (hst 1 ξ (by decide) (by decide) h3 (fun j hj => (l1.2.2.2.2.2 j hj).2) (kF.trans kx.k5) e)))⟩) (fun h3 ξ2 l2 => ⟨Or.inr rfl, ?_⟩)))
      refine mm_if_neN d_M_coastLine_184 (by first | omega | exact ite01_lt | exact bt8_lt31 _ _ | exact godB_lt31 _ _ _ | exact pop_lt31 _ | assumption | exact b31 (hW.gp (by omega)) | exact b31 (hW.ne (by omega)) | exact b31 (hW.op (by omega)) | exact and31 (hW.gp (by omega)) | exact and31 (hW.ne (by omega)) | exact and31 (hW.op (by omega)) | exact and31 (by assumption) | exact and31r (hW.ne (by omega)) | exact and31r (hW.gp (by omega)) | exact and31r (by decide)) (fun c_184 => ?_) (fun c_184 => False.elim (by omega))
      exact sp_M_coastEnd (k := 4) (by omega) l2 hB2 (fun ξ he => hok ξ (by decide) (he.base kF kR))
    · rw [q5] at hw
      rw [hw]
      have hfu : fl = 0 → (fu 5 t = true ↔ 6 ≤ c1) := fun z => by
        obtain ⟨d1, d2⟩ := hD z
        have ec : t 1 = c1 := by
          have := d1.1 1 (by decide)
          rw [e1] at this
          exact ((nI_eqq (by omega) (by have := d2.b0; omega)).mp this).symm
        rw [fu_i, ec]
        omega
      obtain ⟨j1, j2⟩ := jf_c (pl := pl) (x := tP u L p) hfu
      refine mm_lload d_M_coastLine_0 rfl ?_
      refine mm_lciN 426953501796 d_M_coastLine_1 rfl ?_
      refine mm_lcmp d_M_coastLine_4 ?_
      refine mm_lif_eqN d_M_coastLine_5 (by decide) (by decide) (fun c_5 => False.elim (by omega)) (fun c_5 => ?_)
      refine mm_lload d_M_coastLine_8 rfl ?_
      refine mm_lciN 2003792491 d_M_coastLine_9 rfl ?_
      refine mm_lcmp d_M_coastLine_12 ?_
      refine mm_lif_neN d_M_coastLine_13 (by decide) (by decide) (fun c_13 => False.elim (by omega)) (fun c_13 => ?_)
      refine mm_aload d_M_coastLine_16 rfl ?_
      refine mm_lload d_M_coastLine_17 rfl ?_
      refine mm_lciN 426953501796 d_M_coastLine_18 rfl ?_
      refine mm_lcmp d_M_coastLine_21 ?_
      refine mm_lif_neN d_M_coastLine_22 (by decide) (by decide) (fun c_22 => ?_) (fun c_22 => False.elim (by omega))
      refine mm_ciN 1 d_M_coastLine_29 rfl ?_
      refine mm_lload d_M_coastLine_30 rfl ?_
      refine mm_lciN 426953501796 d_M_coastLine_31 rfl ?_
      refine mm_lcmp d_M_coastLine_34 ?_
      refine mm_lif_neN d_M_coastLine_35 (by decide) (by decide) (fun c_35 => ?_) (fun c_35 => False.elim (by omega))
      refine mm_ciN 6 d_M_coastLine_43 rfl ?_
      refine mm_iload d_M_coastLine_45 rfl ?_
      refine mm_v3v d_M_coastLine_46 (sk_o_71 hM) (sp_M_full hM hF (by omega) (by decide) e1 b1 (by decide) (fun ν1 f1 p1 g1 gJ lf => ?_))
      rw [j1, j2] at lf
      have hR1 : Rm u L ν1 := ⟨f1.2.2.2 hM, by rw [g1 10 (by decide) (by decide)]; exact hR.2.1, hL6, by rw [(f1.2.2.1 72 rfl).1]; exact hR.2.2.2⟩
      replace hM := hR1.1
      have kF1 : K5 μ ν1 := ⟨f1.sub (fun a z => by unfold sc71 at z; unfold sc790; simp at z ⊢; omega), p1, fun j hj => g1 j (by omega) (by omega)⟩
      have kR1 : ∀ t, RM0 t μ → RM0 t ν1 := fun t h => ⟨by rw [(f1.2.2.1 80 rfl).1]; exact h.1, by rw [g1 20 (by decide) (by decide)]; exact h.2.1, h.2.2⟩
      refine mm_aload d_M_coastLine_49 rfl ?_
      refine mm_v0v d_M_coastLine_50 (sk_o_71 hM) (sp_M_token hR1 (by rw [g1 9 (by decide) (by decide)]; exact hT.1) htn (fun ν km tk => ?_))
      have l0 : LM 5 0 u L p (jf 5 t fl) (jp 5 t fl pl (tP u L p)) ν ν 0 := LM_0 hR1 km tk hk1 lf (by rw [g1 21 (by decide) (by decide)]; exact hg)
      replace hM := l0.2.1.1
      have kF : K5 μ ν := kF1.trans km.k2.k5
      have kR : ∀ t, RM0 t μ → RM0 t ν := fun t h => (kR1 t h).k2 km.k2
      have hB2 : MB0 ν := by unfold MB0; rw [(km.1.2.2.1 80 rfl).1, (f1.2.2.1 80 rfl).1]; exact hB
      refine mm_lload d_M_coastLine_53 rfl ?_
      refine mm_lciN 426953501796 d_M_coastLine_54 rfl ?_
      refine mm_lcmp d_M_coastLine_57 ?_
      refine mm_lif_neN d_M_coastLine_58 (by decide) (by decide) (fun c_58 => ?_) (fun c_58 => False.elim (by omega))
      refine mm_aload d_M_coastLine_68 rfl ?_
      refine mm_v0i d_M_coastLine_69 (sk_o_71 hM) (sp_M_workLine l0 hp hB2 (fun i ξ hi h3 hj kx e => ?_) (fun ξ he => ?_))
      · exact mm_rz d_M_coastLine_72 (hst i ξ (by decide) hi h3 hj (kF.trans kx.k5) e)
      · exact mm_rz d_M_coastLine_72 (hok ξ (by decide) (he.base kF kR))
