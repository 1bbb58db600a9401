/-! texts: the model reads a text -/
def scTx (a : Nat) : Bool := a == 71 || a == 74 || a == 75 || a == 80 || a == 81
theorem FO_far {W w : Nat} {x : Int32} (h : FO W x) (hw : w ≤ 6) : x < nI w ↔ W < 2 ^ w := by
  have hp := one_le_two_pow w
  rcases h with ⟨h1, h2⟩ | ⟨m, h1, h2, h3, h4⟩
  · subst h1 h2
    exact ⟨fun _ => by omega, fun _ => neg_lt (by decide) (by omega)⟩
  · subst h2
    constructor
    · intro c
      have c' := (nI_ltI (by omega) (by omega)).mp c
      exact Nat.lt_of_lt_of_le h4 (Nat.pow_le_pow_right (by decide) c')
    · intro c
      refine (nI_ltI (by omega) (by omega)).mpr (Nat.not_le.mp fun z => ?_)
      have := Nat.pow_le_pow_right (n := 2) (by decide) z
      omega
theorem t0_0 {s : Nat} : t0F s 0 = 0 := by unfold t0F; exact if_neg (by omega)
theorem t0_1 {s : Nat} : t0F s 1 = 0 := by unfold t0F; exact if_neg (by omega)
theorem RMs_0 {s : Nat} {ν : mm_M} (e : ∀ j, j < 121 → mm_I ν 80 j = nI (t0F s j)) (e20 : mm_I ν 71 20 = -1) : RMs s (t0F s) ν := by
  refine ⟨fun z => ⟨fun j hj => e j (by omega), Or.inl ⟨by unfold t0F; exact if_neg (by omega), e20⟩, fun j h1 h2 => by unfold t0F; exact if_neg (by omega)⟩, fun z => ⟨e 0 (by decide), fun j hj => ?_⟩, fun z => ⟨e 0 (by decide), fun j hj => ?_⟩⟩
  · rw [t0_0] at hj; exact absurd hj (Nat.not_lt_zero j)
  · rw [t0_0] at hj; exact absurd hj (Nat.not_lt_zero j)
theorem MBs_0 {s : Nat} {ν : mm_M} (e : ∀ j, j < 121 → mm_I ν 80 j = nI (t0F s j)) : MBs s ν := by
  have e0 : mm_I ν 80 0 = nI 0 := by rw [e 0 (by decide), t0_0]
  have e1 : mm_I ν 80 1 = nI 0 := by rw [e 1 (by decide), t0_1]
  exact ⟨fun _ => ⟨0, 0, by decide, by decide, e0, e1⟩, fun _ => ⟨0, by decide, e0⟩, fun _ => ⟨0, by decide, e0⟩⟩
theorem sp_M_readText {X : mm_X} {μ : mm_M} {q : Int32 → mm_M → Prop} {s L : Nat} {u : Nat → Nat} (hM : SK μ) (hs3 : s < 3) (hL : L ≤ 600) (h10 : mm_I μ 71 10 = nI L) (hb : ∀ j, j < L → mm_I μ 72 j &&& 255 = nI (u j) ∧ u j < 256) (h : ∀ ν, Fr scTx μ ν → mm_P ν = mm_P μ → (∀ j, 1 ≤ j → mm_I ν 74 j = mm_I μ 74 j ∧ mm_I ν 75 j = mm_I μ 75 j) → mm_I ν 74 0 = nI (rdF s u L).1 → (mm_I ν 75 0 = if (rdF s u L).1 = 0 then -1 else nI (rdF s u L).2.1) → ((rdF s u L).1 = 0 → RMs s (rdF s u L).2.2 ν) → q (nI (if (rdF s u L).1 = 0 then 1 else 0)) ν) : mm_Ci X 7 0 0 k_M_readText [.ref 71, .int (nI s)] μ q := by
  show mm_T X 7 0 0 k_M_readText 0 [some (.ref 71), some (.int (nI s)), none] [] μ _
  have fin : ∀ (ξ : mm_M) (f p : Nat), Fr scTx μ ξ → mm_P ξ = mm_P μ → mm_I ξ 74 = mm_I μ 74 → mm_I ξ 75 = mm_I μ 75 → mm_I ξ 71 16 = nI f → f < 5 → (f ≠ 0 → mm_I ξ 71 17 = nI p) → (rdF s u L).1 = f → (f ≠ 0 → (rdF s u L).2.1 = p) → (f = 0 → RMs s (rdF s u L).2.2 ξ) → mm_T X 7 0 0 k_M_readText 101 [some (.ref 71), some (.int (nI s)), some (.int (nI 1))] [] ξ (fun v μ' => ∃ r, v = some (.int r) ∧ q r μ') := by
    intro ξ f p F hP e74 e75 e16 hf5 e17 r1 r2 r3
    have hM := F.2.2.2 hM
    rw [r1] at h
    have cl : ∀ y : Int32, y = (if f = 0 then -1 else nI (rdF s u L).2.1) → q (nI (if f = 0 then 1 else 0)) (mm_sI (mm_sI ξ 74 0 (nI f)) 75 0 y) := by
      intro y hy
      refine h _ ((F.sI rfl).sI rfl) hP (fun j hj => ⟨?_, ?_⟩) ?_ ?_ (fun z => ?_)
      · rw [mm_sI_off (by decide), mm_I_sI, if_neg (by omega), e74]
      · rw [mm_I_sI, if_neg (by omega), mm_sI_off (by decide), e75]
      · rw [mm_sI_off (by decide), mm_I_sI, if_pos ⟨rfl, rfl⟩]
      · rw [mm_I_sI, if_pos ⟨rfl, rfl⟩, hy]
      · exact (r3 z).cg (by rw [mm_sI_off (by decide), mm_sI_off (by decide)]) (by rw [mm_sI_off (by decide), mm_sI_off (by decide)])
    by_cases hf0 : f = 0
    · subst hf0
      have cl0 := cl (-1) rfl
      refine mm_aload d_M_readText_101 rfl ?_
      refine mm_getP d_M_readText_102 rfl (sk_o_71 hM) (sk_p_71_3 hM) ?_
      refine mm_ciN 0 d_M_readText_105 rfl ?_
      refine mm_iload d_M_readText_106 rfl ?_
      refine mm_if_eqN d_M_readText_107 (by first | omega | exact ite01_lt | exact bt8_lt31 _ _ | exact godB_lt31 _ _ _ | exact pop_lt31 _ | assumption | exact b31 (hW.gp (by omega)) | exact b31 (hW.ne (by omega)) | exact b31 (hW.op (by omega)) | exact and31 (hW.gp (by omega)) | exact and31 (hW.ne (by omega)) | exact and31 (hW.op (by omega)) | exact and31 (by assumption) | exact and31r (hW.ne (by omega)) | exact and31r (hW.gp (by omega)) | exact and31r (by decide)) (fun c_107 => False.elim (by omega)) (fun c_107 => ?_)
      refine mm_aload d_M_readText_110 rfl ?_
      refine mm_getIV d_M_readText_111 rfl (sk_o_71 hM) (show _ = nI 0 from e16) ?_
      refine mm_goto d_M_readText_114 ?_
      refine mm_iastX d_M_readText_118 (sk_a_74 hM) (by omega) (by decide) ?_
      refine mm_aload d_M_readText_119 rfl ?_
      refine mm_getP d_M_readText_120 rfl (sk_o_71 hM) (sk_p_71_4 hM) ?_
      refine mm_ciN 0 d_M_readText_123 rfl ?_
      refine mm_iload d_M_readText_124 rfl ?_
      refine mm_if_neN d_M_readText_125 (by first | omega | exact ite01_lt | exact bt8_lt31 _ _ | exact godB_lt31 _ _ _ | exact pop_lt31 _ | assumption | exact b31 (hW.gp (by omega)) | exact b31 (hW.ne (by omega)) | exact b31 (hW.op (by omega)) | exact and31 (hW.gp (by omega)) | exact and31 (hW.ne (by omega)) | exact and31 (hW.op (by omega)) | exact and31 (by assumption) | exact and31r (hW.ne (by omega)) | exact and31r (hW.gp (by omega)) | exact and31r (by decide)) (fun c_125 => ?_) (fun c_125 => False.elim (by omega))
      refine mm_aload d_M_readText_135 rfl ?_
      refine mm_getIV d_M_readText_136 rfl (sk_o_71 hM) (show _ = nI 0 by rw [mm_sI_off (by decide)]; exact e16) ?_
      refine mm_if_leN d_M_readText_139 (by first | omega | exact ite01_lt | exact bt8_lt31 _ _ | exact godB_lt31 _ _ _ | exact pop_lt31 _ | assumption | exact b31 (hW.gp (by omega)) | exact b31 (hW.ne (by omega)) | exact b31 (hW.op (by omega)) | exact and31 (hW.gp (by omega)) | exact and31 (hW.ne (by omega)) | exact and31 (hW.op (by omega)) | exact and31 (by assumption) | exact and31r (hW.ne (by omega)) | exact and31r (hW.gp (by omega)) | exact and31r (by decide)) (fun c_139 => ?_) (fun c_139 => False.elim (by omega))
      refine mm_ci d_M_readText_149 ?_
      refine mm_iastX d_M_readText_150 (sk_a_75 hM) (by omega) (by decide) ?_
      refine mm_aload d_M_readText_151 rfl ?_
      refine mm_getP d_M_readText_152 rfl (sk_o_71 hM) (sk_p_71_3 hM) ?_
      refine mm_ciN 0 d_M_readText_155 rfl ?_
      refine mm_ialdN d_M_readText_156 (sk_a_74 hM) (by omega) (by decide) (show _ = nI 0 by rw [mm_sI_off (by decide), mm_I_sI, if_pos ⟨rfl, rfl⟩]) ?_
      refine mm_if_neN d_M_readText_157 (by first | omega | exact ite01_lt | exact bt8_lt31 _ _ | exact godB_lt31 _ _ _ | exact pop_lt31 _ | assumption | exact b31 (hW.gp (by omega)) | exact b31 (hW.ne (by omega)) | exact b31 (hW.op (by omega)) | exact and31 (hW.gp (by omega)) | exact and31 (hW.ne (by omega)) | exact and31 (hW.op (by omega)) | exact and31 (by assumption) | exact and31r (hW.ne (by omega)) | exact and31r (hW.gp (by omega)) | exact and31r (by decide)) (fun c_157 => False.elim (by omega)) (fun c_157 => ?_)
      refine mm_ciN 1 d_M_readText_160 rfl ?_
      refine mm_goto d_M_readText_161 ?_
      exact mm_rz d_M_readText_165 cl0
    · have cl0 := cl (nI p) (by rw [if_neg hf0, r2 hf0])
      rw [if_neg hf0] at cl0
      refine mm_aload d_M_readText_101 rfl ?_
      refine mm_getP d_M_readText_102 rfl (sk_o_71 hM) (sk_p_71_3 hM) ?_
      refine mm_ciN 0 d_M_readText_105 rfl ?_
      refine mm_iload d_M_readText_106 rfl ?_
      refine mm_if_eqN d_M_readText_107 (by first | omega | exact ite01_lt | exact bt8_lt31 _ _ | exact godB_lt31 _ _ _ | exact pop_lt31 _ | assumption | exact b31 (hW.gp (by omega)) | exact b31 (hW.ne (by omega)) | exact b31 (hW.op (by omega)) | exact and31 (hW.gp (by omega)) | exact and31 (hW.ne (by omega)) | exact and31 (hW.op (by omega)) | exact and31 (by assumption) | exact and31r (hW.ne (by omega)) | exact and31r (hW.gp (by omega)) | exact and31r (by decide)) (fun c_107 => False.elim (by omega)) (fun c_107 => ?_)
      refine mm_aload d_M_readText_110 rfl ?_
      refine mm_getIN d_M_readText_111 rfl (sk_o_71 hM) (show _ = nI f from e16) ?_
      refine mm_goto d_M_readText_114 ?_
      refine mm_iastX d_M_readText_118 (sk_a_74 hM) (by omega) (by decide) ?_
      refine mm_aload d_M_readText_119 rfl ?_
      refine mm_getP d_M_readText_120 rfl (sk_o_71 hM) (sk_p_71_4 hM) ?_
      refine mm_ciN 0 d_M_readText_123 rfl ?_
      refine mm_iload d_M_readText_124 rfl ?_
      refine mm_if_neN d_M_readText_125 (by first | omega | exact ite01_lt | exact bt8_lt31 _ _ | exact godB_lt31 _ _ _ | exact pop_lt31 _ | assumption | exact b31 (hW.gp (by omega)) | exact b31 (hW.ne (by omega)) | exact b31 (hW.op (by omega)) | exact and31 (hW.gp (by omega)) | exact and31 (hW.ne (by omega)) | exact and31 (hW.op (by omega)) | exact and31 (by assumption) | exact and31r (hW.ne (by omega)) | exact and31r (hW.gp (by omega)) | exact and31r (by decide)) (fun c_125 => ?_) (fun c_125 => False.elim (by omega))
      refine mm_aload d_M_readText_135 rfl ?_
      refine mm_getIN d_M_readText_136 rfl (sk_o_71 hM) (show _ = nI f by rw [mm_sI_off (by decide)]; exact e16) ?_
      refine mm_if_leN d_M_readText_139 (by first | omega | exact ite01_lt | exact bt8_lt31 _ _ | exact godB_lt31 _ _ _ | exact pop_lt31 _ | assumption | exact b31 (hW.gp (by omega)) | exact b31 (hW.ne (by omega)) | exact b31 (hW.op (by omega)) | exact and31 (hW.gp (by omega)) | exact and31 (hW.ne (by omega)) | exact and31 (hW.op (by omega)) | exact and31 (by assumption) | exact and31r (hW.ne (by omega)) | exact and31r (hW.gp (by omega)) | exact and31r (by decide)) (fun c_139 => False.elim (by omega)) (fun c_139 => ?_)
      refine mm_aload d_M_readText_142 rfl ?_
      refine mm_getIN d_M_readText_143 rfl (sk_o_71 hM) (show _ = nI p by rw [mm_sI_off (by decide)]; exact e17 hf0) ?_
      refine mm_goto d_M_readText_146 ?_
      refine mm_iastX d_M_readText_150 (sk_a_75 hM) (by omega) (by decide) ?_
      refine mm_aload d_M_readText_151 rfl ?_
      refine mm_getP d_M_readText_152 rfl (sk_o_71 hM) (sk_p_71_3 hM) ?_
      refine mm_ciN 0 d_M_readText_155 rfl ?_
      refine mm_ialdN d_M_readText_156 (sk_a_74 hM) (by omega) (by decide) (show _ = nI f by rw [mm_sI_off (by decide), mm_I_sI, if_pos ⟨rfl, rfl⟩]) ?_
      refine mm_if_neN d_M_readText_157 (by first | omega | exact ite01_lt | exact bt8_lt31 _ _ | exact godB_lt31 _ _ _ | exact pop_lt31 _ | assumption | exact b31 (hW.gp (by omega)) | exact b31 (hW.ne (by omega)) | exact b31 (hW.op (by omega)) | exact and31 (hW.gp (by omega)) | exact and31 (hW.ne (by omega)) | exact and31 (hW.op (by omega)) | exact and31 (by assumption) | exact and31r (hW.ne (by omega)) | exact and31r (hW.gp (by omega)) | exact and31r (by decide)) (fun c_157 => ?_) (fun c_157 => False.elim (by omega))
      refine mm_ciN 0 d_M_readText_164 rfl ?_
      exact mm_rz d_M_readText_165 cl0
  have fin0 : ∀ (ξ : mm_M) (x : Nat), Fr scTx μ ξ → mm_P ξ = mm_P μ → mm_I ξ 74 = mm_I μ 74 → mm_I ξ 75 = mm_I μ 75 → mm_I ξ 71 15 = nI x → (rdF s u L).1 = 1 → (rdF s u L).2.1 = x → mm_T X 7 0 0 k_M_readText 101 [some (.ref 71), some (.int (nI s)), some (.int (nI 0))] [] ξ (fun v μ' => ∃ r, v = some (.int r) ∧ q r μ') := by
    intro ξ x F hP e74 e75 e15 r1 r2
    have hM := F.2.2.2 hM
    rw [r1, r2] at h
    have cl0 : q (nI 0) (mm_sI (mm_sI ξ 74 0 (nI 1)) 75 0 (nI x)) := by
      refine h _ ((F.sI rfl).sI rfl) hP (fun j hj => ⟨?_, ?_⟩) ?_ ?_ (fun z => absurd z (by decide))
      · rw [mm_sI_off (by decide), mm_I_sI, if_neg (by omega), e74]
      · rw [mm_I_sI, if_neg (by omega), mm_sI_off (by decide), e75]
      · rw [mm_sI_off (by decide), mm_I_sI, if_pos ⟨rfl, rfl⟩]
      · rw [mm_I_sI, if_pos ⟨rfl, rfl⟩]; exact (if_neg (by decide)).symm
    refine mm_aload d_M_readText_101 rfl ?_
    refine mm_getP d_M_readText_102 rfl (sk_o_71 hM) (sk_p_71_3 hM) ?_
    refine mm_ciN 0 d_M_readText_105 rfl ?_
    refine mm_iload d_M_readText_106 rfl ?_
    refine mm_if_eqN d_M_readText_107 (by first | omega | exact ite01_lt | exact bt8_lt31 _ _ | exact godB_lt31 _ _ _ | exact pop_lt31 _ | assumption | exact b31 (hW.gp (by omega)) | exact b31 (hW.ne (by omega)) | exact b31 (hW.op (by omega)) | exact and31 (hW.gp (by omega)) | exact and31 (hW.ne (by omega)) | exact and31 (hW.op (by omega)) | exact and31 (by assumption) | exact and31r (hW.ne (by omega)) | exact and31r (hW.gp (by omega)) | exact and31r (by decide)) (fun c_107 => ?_) (fun c_107 => False.elim (by omega))
    refine mm_ciN 1 d_M_readText_117 rfl ?_
    refine mm_iastX d_M_readText_118 (sk_a_74 hM) (by omega) (by decide) ?_
    refine mm_aload d_M_readText_119 rfl ?_
    refine mm_getP d_M_readText_120 rfl (sk_o_71 hM) (sk_p_71_4 hM) ?_
    refine mm_ciN 0 d_M_readText_123 rfl ?_
    refine mm_iload d_M_readText_124 rfl ?_
    refine mm_if_neN d_M_readText_125 (by first | omega | exact ite01_lt | exact bt8_lt31 _ _ | exact godB_lt31 _ _ _ | exact pop_lt31 _ | assumption | exact b31 (hW.gp (by omega)) | exact b31 (hW.ne (by omega)) | exact b31 (hW.op (by omega)) | exact and31 (hW.gp (by omega)) | exact and31 (hW.ne (by omega)) | exact and31 (hW.op (by omega)) | exact and31 (by assumption) | exact and31r (hW.ne (by omega)) | exact and31r (hW.gp (by omega)) | exact and31r (by decide)) (fun c_125 => False.elim (by omega)) (fun c_125 => ?_)
    refine mm_aload d_M_readText_128 rfl ?_
    refine mm_getIN d_M_readText_129 rfl (sk_o_71 hM) (show _ = nI x by rw [mm_sI_off (by decide)]; exact e15) ?_
    refine mm_goto d_M_readText_132 ?_
    refine mm_iastX d_M_readText_150 (sk_a_75 hM) (by omega) (by decide) ?_
    refine mm_aload d_M_readText_151 rfl ?_
    refine mm_getP d_M_readText_152 rfl (sk_o_71 hM) (sk_p_71_3 hM) ?_
    refine mm_ciN 0 d_M_readText_155 rfl ?_
    refine mm_ialdN d_M_readText_156 (sk_a_74 hM) (by omega) (by decide) (show _ = nI 1 by rw [mm_sI_off (by decide), mm_I_sI, if_pos ⟨rfl, rfl⟩]) ?_
    refine mm_if_neN d_M_readText_157 (by first | omega | exact ite01_lt | exact bt8_lt31 _ _ | exact godB_lt31 _ _ _ | exact pop_lt31 _ | assumption | exact b31 (hW.gp (by omega)) | exact b31 (hW.ne (by omega)) | exact b31 (hW.op (by omega)) | exact and31 (hW.gp (by omega)) | exact and31 (hW.ne (by omega)) | exact and31 (hW.op (by omega)) | exact and31 (by assumption) | exact and31r (hW.ne (by omega)) | exact and31r (hW.gp (by omega)) | exact and31r (by decide)) (fun c_157 => ?_) (fun c_157 => False.elim (by omega))
    refine mm_ciN 0 d_M_readText_164 rfl ?_
    exact mm_rz d_M_readText_165 cl0
  have tail : ∀ ν, Fr sc80 μ ν → mm_P ν = mm_P μ → (∀ j, j < 121 → mm_I ν 80 j = nI (t0F s j)) → mm_T X 7 0 0 k_M_readText 39 [some (.ref 71), some (.int (nI s)), some (.int (nI 121))] [] ν (fun v μ' => ∃ r, v = some (.int r) ∧ q r μ') := by
    intro ν hf hP e
    have hM' := hM
    have hM := hf.2.2.2 hM
    have eI : ∀ a i, a ≠ 71 → mm_I (mm_sI (mm_sI (mm_sI ν 71 20 (-1)) 71 9 (nI 0)) 71 16 (nI 0)) a i = mm_I ν a i := by
      intro a i x1
      rw [mm_sI_off x1, mm_sI_off x1, mm_sI_off x1]
    have hR : Rm u L (mm_sI (mm_sI (mm_sI ν 71 20 (-1)) 71 9 (nI 0)) 71 16 (nI 0)) := by
      refine ⟨hM, ?_, hL, fun j hj => ?_⟩
      · rw [mm_I_sI, if_neg (by decide), mm_I_sI, if_neg (by decide), mm_I_sI, if_neg (by decide), (hf.2.2.1 71 rfl).1]; exact h10
      · rw [eI 72 j (by decide), (hf.2.2.1 72 rfl).1]; exact hb j hj
    refine mm_aload d_M_readText_39 rfl ?_
    refine mm_ci d_M_readText_40 ?_
    refine mm_putI d_M_readText_41 rfl (sk_o_71 hM) (Or.inl rfl) ?_
    refine mm_aload d_M_readText_44 rfl ?_
    refine mm_ciN 0 d_M_readText_45 rfl ?_
    refine mm_putI d_M_readText_46 rfl (sk_o_71 hM) (Or.inl rfl) ?_
    refine mm_aload d_M_readText_49 rfl ?_
    refine mm_ciN 0 d_M_readText_50 rfl ?_
    refine mm_putI d_M_readText_51 rfl (sk_o_71 hM) (Or.inl rfl) ?_
    refine mm_aload d_M_readText_54 rfl ?_
    refine mm_v0v d_M_readText_55 (sk_o_71 hM) (sp_M_token hR (show _ = nI 0 by rw [mm_I_sI, if_neg (by decide), mm_I_sI, if_pos ⟨rfl, rfl⟩]) (Nat.zero_le _) (fun ρ km tk => ?_))
    have hM := km.1.2.2.2 hM
    refine mm_aload d_M_readText_58 rfl ?_
    refine mm_iload d_M_readText_59 rfl ?_
    have e80 : ∀ j, mm_I ρ 80 j = mm_I ν 80 j := fun j => by rw [(km.1.2.2.1 80 rfl).1]; exact eI 80 j (by decide)
    have e20 : mm_I ρ 71 20 = -1 := by rw [km.2.2 20 (by decide) (by decide) (by decide) (by decide), mm_I_sI, if_neg (by decide), mm_I_sI, if_neg (by decide), mm_I_sI, if_pos ⟨rfl, rfl⟩]
    have e16 : mm_I ρ 71 16 = nI 0 := by rw [km.2.2 16 (by decide) (by decide) (by decide) (by decide), mm_I_sI, if_pos ⟨rfl, rfl⟩]
    have eT : ∀ j, j < 121 → mm_I ρ 80 j = nI (t0F s j) := fun j hj => (e80 j).trans (e j hj)
    have hS : MdS s u L 0 (t0F s) 0 0 ρ := ⟨hR.km km, tk, ⟨e16, by decide, by decide, fun z => absurd rfl z⟩, MBs_0 eT, fun _ => ⟨RMs_0 eT e20, WfT_0 hs3⟩⟩
    have F0 : Fr sc790 μ ρ := (hf.sub (fun a z => by unfold sc80 at z; unfold sc790; simp at z ⊢; omega)).trans ((((Fr.rf.sI rfl).sI rfl).sI rfl).trans (km.1.sub (fun a z => by unfold sc71 at z; unfold sc790; simp at z ⊢; omega)))
    have P0 : mm_P ρ = mm_P μ := km.2.1.trans hP
    have sx : ∀ a, sc790 a = true → scTx a = true := fun a z => by unfold sc790 at z; unfold scTx; simp at z ⊢; omega
    refine mm_v1i d_M_readText_60 (sk_o_71 hM) (sp_M_lines hs3 hS (fun x t' ξ er kx ex => ?_) (fun fl pl t' p' ξ er f1 hp kx hS' ht => ?_))
    · have rr : rdF s u L = (1, x, t') := by unfold rdF; rw [er]; exact if_neg (fun z => Nat.one_ne_zero z.1)
      have F1 := F0.trans kx.1
      refine mm_ist2 d_M_readText_63 ?_
      refine mm_iload d_M_readText_64 rfl ?_
      refine mm_if_eqN d_M_readText_65 (by first | omega | exact ite01_lt | exact bt8_lt31 _ _ | exact godB_lt31 _ _ _ | exact pop_lt31 _ | assumption | exact b31 (hW.gp (by omega)) | exact b31 (hW.ne (by omega)) | exact b31 (hW.op (by omega)) | exact and31 (hW.gp (by omega)) | exact and31 (hW.ne (by omega)) | exact and31 (hW.op (by omega)) | exact and31 (by assumption) | exact and31r (hW.ne (by omega)) | exact and31r (hW.gp (by omega)) | exact and31r (by decide)) (fun c_65 => ?_) (fun c_65 => False.elim (by omega))
      exact fin0 ξ x (F1.sub sx) (kx.2.1.trans P0) (F1.2.2.1 74 rfl).1 (F1.2.2.1 75 rfl).1 ex (by rw [rr]) (by rw [rr])
    · have F1 := F0.trans kx.1
      have hM := hS'.1.1
      obtain ⟨-, hT, hF, -, hD⟩ := hS'
      have eL : tP u L p' = L := by
        have := tP_le (u := u) hp
        have : ¬ (tP u L p' < L) := fun z => by
          unfold tK at ht
          rw [if_neg (by omega)] at ht
          revert ht
          split
          · intro z; cases z
          · split
            · split
              · intro z; cases z
              · intro z; cases z
            · split
              · intro z; cases z
              · intro z; cases z
        omega
      by_cases hz : fl = 0 ∧ s = 0
      · obtain ⟨rfl, rfl⟩ := hz
        obtain ⟨hRM, hWf⟩ := hD rfl
        have hr0 := hRM.1 rfl
        have b0 := hWf.b0
        have far := FO_far hr0.2.1 b0.2.1
        have rA : t' 44 < 2 ^ t' 1 → rdF 0 u L = (0, pl, t') := fun c => by unfold rdF; rw [er]; exact if_neg (fun z => absurd c (Nat.not_lt.mpr z.2.2))
        have rB : ¬ t' 44 < 2 ^ t' 1 → rdF 0 u L = (4, L, t') := fun c => by unfold rdF; rw [er]; exact if_pos ⟨rfl, rfl, Nat.not_lt.mp c⟩
        refine mm_ist2 d_M_readText_63 ?_
        refine mm_iload d_M_readText_64 rfl ?_
        refine mm_if_eqN d_M_readText_65 (by first | omega | exact ite01_lt | exact bt8_lt31 _ _ | exact godB_lt31 _ _ _ | exact pop_lt31 _ | assumption | exact b31 (hW.gp (by omega)) | exact b31 (hW.ne (by omega)) | exact b31 (hW.op (by omega)) | exact and31 (hW.gp (by omega)) | exact and31 (hW.ne (by omega)) | exact and31 (hW.op (by omega)) | exact and31 (by assumption) | exact and31r (hW.ne (by omega)) | exact and31r (hW.gp (by omega)) | exact and31r (by decide)) (fun c_65 => False.elim (by omega)) (fun c_65 => ?_)
        refine mm_iload d_M_readText_68 rfl ?_
        refine mm_if_neN d_M_readText_69 (by first | omega | exact ite01_lt | exact bt8_lt31 _ _ | exact godB_lt31 _ _ _ | exact pop_lt31 _ | assumption | exact b31 (hW.gp (by omega)) | exact b31 (hW.ne (by omega)) | exact b31 (hW.op (by omega)) | exact and31 (hW.gp (by omega)) | exact and31 (hW.ne (by omega)) | exact and31 (hW.op (by omega)) | exact and31 (by assumption) | exact and31r (hW.ne (by omega)) | exact and31r (hW.gp (by omega)) | exact and31r (by decide)) (fun c_69 => False.elim (by omega)) (fun c_69 => ?_)
        refine mm_aload d_M_readText_72 rfl ?_
        refine mm_getIV d_M_readText_73 rfl (sk_o_71 hM) (show _ = nI 0 from hF.1) ?_
        refine mm_if_neN d_M_readText_76 (by first | omega | exact ite01_lt | exact bt8_lt31 _ _ | exact godB_lt31 _ _ _ | exact pop_lt31 _ | assumption | exact b31 (hW.gp (by omega)) | exact b31 (hW.ne (by omega)) | exact b31 (hW.op (by omega)) | exact and31 (hW.gp (by omega)) | exact and31 (hW.ne (by omega)) | exact and31 (hW.op (by omega)) | exact and31 (by assumption) | exact and31r (hW.ne (by omega)) | exact and31r (hW.gp (by omega)) | exact and31r (by decide)) (fun c_76 => False.elim (by omega)) (fun c_76 => ?_)
        refine mm_aload d_M_readText_79 rfl ?_
        refine mm_getI d_M_readText_80 rfl (sk_o_71 hM) ?_
        refine mm_aload d_M_readText_83 rfl ?_
        refine mm_getP d_M_readText_84 rfl (sk_o_71 hM) (sk_p_71_18 hM) ?_
        refine mm_ciN 1 d_M_readText_87 rfl ?_
        refine mm_ialdN d_M_readText_88 (sk_a_80 hM) (by omega) (by decide) (hr0.1 1 (by decide)) ?_
        refine mm_icmp_lt d_M_readText_89 (fun c_89 => ?_) (fun c_89 => ?_)
        · first
            | exact fin ξ 0 pl (F1.sub sx) (kx.2.1.trans P0) (F1.2.2.1 74 rfl).1 (F1.2.2.1 75 rfl).1 hF.1 (by decide) (fun z => absurd rfl z) (by rw [rA (far.mp c_89)]) (fun z => absurd rfl z) (fun _ => by rw [rA (far.mp c_89)]; exact hRM)
            | exact fin _ 4 L (((F1.sub sx).sI rfl).sI rfl) (kx.2.1.trans P0) (by rw [mm_sI_off (by decide), mm_sI_off (by decide)]; exact (F1.2.2.1 74 rfl).1) (by rw [mm_sI_off (by decide), mm_sI_off (by decide)]; exact (F1.2.2.1 75 rfl).1) (by rw [mm_I_sI, if_neg (by decide), mm_I_sI, if_pos ⟨rfl, rfl⟩]) (by decide) (fun _ => by rw [mm_I_sI, if_pos ⟨rfl, rfl⟩, eL]) (by rw [rB (fun z => c_89 (far.mpr z))]) (fun _ => by rw [rB (fun z => c_89 (far.mpr z))]) (fun z => absurd z (by decide))
        · refine mm_aload d_M_readText_92 rfl ?_
          refine mm_ciN 4 d_M_readText_93 rfl ?_
          refine mm_aload d_M_readText_94 rfl ?_
          refine mm_getIN d_M_readText_95 rfl (sk_o_71 hM) hT.2.1 ?_
          refine mm_v2v d_M_readText_98 (sk_o_71 hM) (sp_M_later hM hF (by omega) (by decide) (fun _ => ?_) (fun z => absurd rfl z))
          first
            | exact fin ξ 0 pl (F1.sub sx) (kx.2.1.trans P0) (F1.2.2.1 74 rfl).1 (F1.2.2.1 75 rfl).1 hF.1 (by decide) (fun z => absurd rfl z) (by rw [rA (far.mp c_89)]) (fun z => absurd rfl z) (fun _ => by rw [rA (far.mp c_89)]; exact hRM)
            | exact fin _ 4 L (((F1.sub sx).sI rfl).sI rfl) (kx.2.1.trans P0) (by rw [mm_sI_off (by decide), mm_sI_off (by decide)]; exact (F1.2.2.1 74 rfl).1) (by rw [mm_sI_off (by decide), mm_sI_off (by decide)]; exact (F1.2.2.1 75 rfl).1) (by rw [mm_I_sI, if_neg (by decide), mm_I_sI, if_pos ⟨rfl, rfl⟩]) (by decide) (fun _ => by rw [mm_I_sI, if_pos ⟨rfl, rfl⟩, eL]) (by rw [rB (fun z => c_89 (far.mpr z))]) (fun _ => by rw [rB (fun z => c_89 (far.mpr z))]) (fun z => absurd z (by decide))
      · have rr : rdF s u L = (fl, pl, t') := by unfold rdF; rw [er]; exact if_neg (fun z => hz ⟨z.1, z.2.1⟩)
        have go := fin ξ fl pl (F1.sub sx) (kx.2.1.trans P0) (F1.2.2.1 74 rfl).1 (F1.2.2.1 75 rfl).1 hF.1 hF.2.1 (fun z => (hF.2.2.2 z).1) (by rw [rr]) (fun _ => by rw [rr]) (fun z => by rw [rr]; exact (hD z).1)
        by_cases hs0 : s = 0
        · subst hs0
          have hfl : fl ≠ 0 := fun z => hz ⟨z, rfl⟩
          have hf5 := hF.2.1
          refine mm_ist2 d_M_readText_63 ?_
          refine mm_iload d_M_readText_64 rfl ?_
          refine mm_if_eqN d_M_readText_65 (by first | omega | exact ite01_lt | exact bt8_lt31 _ _ | exact godB_lt31 _ _ _ | exact pop_lt31 _ | assumption | exact b31 (hW.gp (by omega)) | exact b31 (hW.ne (by omega)) | exact b31 (hW.op (by omega)) | exact and31 (hW.gp (by omega)) | exact and31 (hW.ne (by omega)) | exact and31 (hW.op (by omega)) | exact and31 (by assumption) | exact and31r (hW.ne (by omega)) | exact and31r (hW.gp (by omega)) | exact and31r (by decide)) (fun c_65 => False.elim (by omega)) (fun c_65 => ?_)
          refine mm_iload d_M_readText_68 rfl ?_
          refine mm_if_neN d_M_readText_69 (by first | omega | exact ite01_lt | exact bt8_lt31 _ _ | exact godB_lt31 _ _ _ | exact pop_lt31 _ | assumption | exact b31 (hW.gp (by omega)) | exact b31 (hW.ne (by omega)) | exact b31 (hW.op (by omega)) | exact and31 (hW.gp (by omega)) | exact and31 (hW.ne (by omega)) | exact and31 (hW.op (by omega)) | exact and31 (by assumption) | exact and31r (hW.ne (by omega)) | exact and31r (hW.gp (by omega)) | exact and31r (by decide)) (fun c_69 => False.elim (by omega)) (fun c_69 => ?_)
          refine mm_aload d_M_readText_72 rfl ?_
          refine mm_getIN d_M_readText_73 rfl (sk_o_71 hM) (show _ = nI fl from hF.1) ?_
          refine mm_if_neN d_M_readText_76 (by first | omega | exact ite01_lt | exact bt8_lt31 _ _ | exact godB_lt31 _ _ _ | exact pop_lt31 _ | assumption | exact b31 (hW.gp (by omega)) | exact b31 (hW.ne (by omega)) | exact b31 (hW.op (by omega)) | exact and31 (hW.gp (by omega)) | exact and31 (hW.ne (by omega)) | exact and31 (hW.op (by omega)) | exact and31 (by assumption) | exact and31r (hW.ne (by omega)) | exact and31r (hW.gp (by omega)) | exact and31r (by decide)) (fun c_76 => ?_) (fun c_76 => False.elim (by omega))
          exact go
        · refine mm_ist2 d_M_readText_63 ?_
          refine mm_iload d_M_readText_64 rfl ?_
          refine mm_if_eqN d_M_readText_65 (by first | omega | exact ite01_lt | exact bt8_lt31 _ _ | exact godB_lt31 _ _ _ | exact pop_lt31 _ | assumption | exact b31 (hW.gp (by omega)) | exact b31 (hW.ne (by omega)) | exact b31 (hW.op (by omega)) | exact and31 (hW.gp (by omega)) | exact and31 (hW.ne (by omega)) | exact and31 (hW.op (by omega)) | exact and31 (by assumption) | exact and31r (hW.ne (by omega)) | exact and31r (hW.gp (by omega)) | exact and31r (by decide)) (fun c_65 => False.elim (by omega)) (fun c_65 => ?_)
          refine mm_iload d_M_readText_68 rfl ?_
          refine mm_if_neN d_M_readText_69 (by first | omega | exact ite01_lt | exact bt8_lt31 _ _ | exact godB_lt31 _ _ _ | exact pop_lt31 _ | assumption | exact b31 (hW.gp (by omega)) | exact b31 (hW.ne (by omega)) | exact b31 (hW.op (by omega)) | exact and31 (hW.gp (by omega)) | exact and31 (hW.ne (by omega)) | exact and31 (hW.op (by omega)) | exact and31 (by assumption) | exact and31r (hW.ne (by omega)) | exact and31r (hW.gp (by omega)) | exact and31r (by decide)) (fun c_69 => ?_) (fun c_69 => False.elim (by omega))
          exact go
  refine mm_ciN 0 d_M_readText_0 rfl ?_
  refine mm_ist2 d_M_readText_1 ?_
  refine mm_up (P := fun i => ∀ ν, (Fr sc80 μ ν ∧ mm_P ν = mm_P μ ∧ ∀ j, j < i → mm_I ν 80 j = nI (t0F s j)) → mm_T X _ 0 0 k_M_readText 2 [some (.ref 71), some (.int (nI s)), some (.int (nI i))] [] ν _) (121) ?_ ?_ _ ⟨Fr.rf, rfl, fun j hj => absurd hj (Nat.not_lt_zero j)⟩
  · intro ν hI
    obtain ⟨hf, hP, e⟩ := hI
    have hM := hf.2.2.2 hM
    refine mm_iload d_M_readText_2 rfl ?_
    refine mm_ciN 121 d_M_readText_3 rfl ?_
    refine mm_icmp_geN d_M_readText_5 (by first | omega | exact ite01_lt | exact bt8_lt31 _ _ | exact godB_lt31 _ _ _ | exact pop_lt31 _ | assumption | exact b31 (hW.gp (by omega)) | exact b31 (hW.ne (by omega)) | exact b31 (hW.op (by omega)) | exact and31 (hW.gp (by omega)) | exact and31 (hW.ne (by omega)) | exact and31 (hW.op (by omega)) | exact and31 (by assumption) | exact and31r (hW.ne (by omega)) | exact and31r (hW.gp (by omega)) | exact and31r (by decide)) (by first | omega | exact ite01_lt | exact bt8_lt31 _ _ | exact godB_lt31 _ _ _ | exact pop_lt31 _ | assumption | exact b31 (hW.gp (by omega)) | exact b31 (hW.ne (by omega)) | exact b31 (hW.op (by omega)) | exact and31 (hW.gp (by omega)) | exact and31 (hW.ne (by omega)) | exact and31 (hW.op (by omega)) | exact and31 (by assumption) | exact and31r (hW.ne (by omega)) | exact and31r (hW.gp (by omega)) | exact and31r (by decide)) (fun c_5 => ?_) (fun c_5 => False.elim (by omega))
    exact tail ν hf hP e
  · intro i hi ih ν hI
    obtain ⟨hf, hP, e⟩ := hI
    have hM := hf.2.2.2 hM
    refine mm_iload d_M_readText_2 rfl ?_
    refine mm_ciN 121 d_M_readText_3 rfl ?_
    refine mm_icmp_geN d_M_readText_5 (by first | omega | exact ite01_lt | exact bt8_lt31 _ _ | exact godB_lt31 _ _ _ | exact pop_lt31 _ | assumption | exact b31 (hW.gp (by omega)) | exact b31 (hW.ne (by omega)) | exact b31 (hW.op (by omega)) | exact and31 (hW.gp (by omega)) | exact and31 (hW.ne (by omega)) | exact and31 (hW.op (by omega)) | exact and31 (by assumption) | exact and31r (hW.ne (by omega)) | exact and31r (hW.gp (by omega)) | exact and31r (by decide)) (by first | omega | exact ite01_lt | exact bt8_lt31 _ _ | exact godB_lt31 _ _ _ | exact pop_lt31 _ | assumption | exact b31 (hW.gp (by omega)) | exact b31 (hW.ne (by omega)) | exact b31 (hW.op (by omega)) | exact and31 (hW.gp (by omega)) | exact and31 (hW.ne (by omega)) | exact and31 (hW.op (by omega)) | exact and31 (by assumption) | exact and31r (hW.ne (by omega)) | exact and31r (hW.gp (by omega)) | exact and31r (by decide)) (fun c_5 => False.elim (by omega)) (fun c_5 => ?_)
    refine mm_aload d_M_readText_8 rfl ?_
    refine mm_getP d_M_readText_9 rfl (sk_o_71 hM) (sk_p_71_18 hM) ?_
    refine mm_iload d_M_readText_12 rfl ?_
    refine mm_iload d_M_readText_13 rfl ?_
    refine mm_if_neN d_M_readText_14 (by first | omega | exact ite01_lt | exact bt8_lt31 _ _ | exact godB_lt31 _ _ _ | exact pop_lt31 _ | assumption | exact b31 (hW.gp (by omega)) | exact b31 (hW.ne (by omega)) | exact b31 (hW.op (by omega)) | exact and31 (hW.gp (by omega)) | exact and31 (hW.ne (by omega)) | exact and31 (hW.op (by omega)) | exact and31 (by assumption) | exact and31r (hW.ne (by omega)) | exact and31r (hW.gp (by omega)) | exact and31r (by decide)) (fun c_14 => ?_) (fun c_14 => ?_)
    · refine mm_ciN 0 d_M_readText_31 rfl ?_
      refine mm_iastX d_M_readText_32 (sk_a_80 hM) (by omega) (by decide) ?_
      refine mm_inc2N d_M_readText_33 ?_
      refine mm_goto d_M_readText_36 ?_
      refine ih _ ⟨hf.sI rfl, hP, fun j hj => ?_⟩
      rw [mm_I_sI]
      by_cases z : j = i
      · rw [if_pos ⟨rfl, z⟩]
        subst z
        unfold t0F
        first
          | rw [if_neg (fun z => c_14 z.1)]
          | (by_cases z2 : 2 ≤ j ∧ j ≤ 17
             · rw [if_pos ⟨c_14, z2⟩]; first | done | rfl | (rw [if_pos z2] at c_24; exact absurd c_24 (by decide))
             · rw [if_neg (fun z => z2 z.2)]; first | done | rfl | (rw [if_neg z2] at c_24; exact absurd rfl c_24))
      · rw [if_neg (fun w => z w.2)]
        exact e j (by omega)
    · refine mm_iload d_M_readText_17 rfl ?_
      refine mm_ciN 2 d_M_readText_18 rfl ?_
      refine mm_ciN 17 d_M_readText_19 rfl ?_
      refine mm_s3i d_M_readText_21 (sp_M_inN (by omega) (by decide) (by decide) ?_)
      refine mm_if_eqN d_M_readText_24 (by first | omega | exact ite01_lt | exact bt8_lt31 _ _ | exact godB_lt31 _ _ _ | exact pop_lt31 _ | assumption | exact b31 (hW.gp (by omega)) | exact b31 (hW.ne (by omega)) | exact b31 (hW.op (by omega)) | exact and31 (hW.gp (by omega)) | exact and31 (hW.ne (by omega)) | exact and31 (hW.op (by omega)) | exact and31 (by assumption) | exact and31r (hW.ne (by omega)) | exact and31r (hW.gp (by omega)) | exact and31r (by decide)) (fun c_24 => ?_) (fun c_24 => ?_)
      · refine mm_ciN 0 d_M_readText_31 rfl ?_
        refine mm_iastX d_M_readText_32 (sk_a_80 hM) (by omega) (by decide) ?_
        refine mm_inc2N d_M_readText_33 ?_
        refine mm_goto d_M_readText_36 ?_
        refine ih _ ⟨hf.sI rfl, hP, fun j hj => ?_⟩
        rw [mm_I_sI]
        by_cases z : j = i
        · rw [if_pos ⟨rfl, z⟩]
          subst z
          unfold t0F
          first
            | rw [if_neg (fun z => c_14 z.1)]
            | (by_cases z2 : 2 ≤ j ∧ j ≤ 17
               · rw [if_pos ⟨c_14, z2⟩]; first | done | rfl | (rw [if_pos z2] at c_24; exact absurd c_24 (by decide))
               · rw [if_neg (fun z => z2 z.2)]; first | done | rfl | (rw [if_neg z2] at c_24; exact absurd rfl c_24))
        · rw [if_neg (fun w => z w.2)]
          exact e j (by omega)
      · refine mm_ciN 3 d_M_readText_27 rfl ?_
        refine mm_goto d_M_readText_28 ?_
        refine mm_iastX d_M_readText_32 (sk_a_80 hM) (by omega) (by decide) ?_
        refine mm_inc2N d_M_readText_33 ?_
        refine mm_goto d_M_readText_36 ?_
        refine ih _ ⟨hf.sI rfl, hP, fun j hj => ?_⟩
        rw [mm_I_sI]
        by_cases z : j = i
        · rw [if_pos ⟨rfl, z⟩]
          subst z
          unfold t0F
          first
            | rw [if_neg (fun z => c_14 z.1)]
            | (by_cases z2 : 2 ≤ j ∧ j ≤ 17
               · rw [if_pos ⟨c_14, z2⟩]; first | done | rfl | (rw [if_pos z2] at c_24; exact absurd c_24 (by decide))
               · rw [if_neg (fun z => z2 z.2)]; first | done | rfl | (rw [if_neg z2] at c_24; exact absurd rfl c_24))
        · rw [if_neg (fun w => z w.2)]
          exact e j (by omega)
theorem sp_M_store {X : mm_X} {μ : mm_M} {q : mm_M → Prop} {a n k L : Nat} (hM : SK μ) (ha : mm_ar μ a 0 L) (hL : L < 2 ^ 31) (hn : n ≤ 121) (hk : n * k + n ≤ L) (h80 : a ≠ 80) (h : ∀ ν, Fr (fun x => x == a) μ ν → mm_P ν = mm_P μ → (∀ j, j < n → mm_I ν a (n * k + j) = mm_I μ 80 j) → (∀ j, (j < n * k ∨ n * k + n ≤ j) → mm_I ν a j = mm_I μ a j) → q ν) : mm_Cv X 0 0 0 k_M_store [.ref 71, .ref a, .int (nI n), .int (nI k)] μ q := by
  show mm_T X 0 0 0 k_M_store 0 [some (.ref 71), some (.ref a), some (.int (nI n)), some (.int (nI k)), none] [] μ _
  refine mm_ciN 0 d_M_store_0 rfl ?_
  refine mm_ist4 d_M_store_1 ?_
  refine mm_up (P := fun i => ∀ ν, (Fr (fun x => x == a) μ ν ∧ mm_P ν = mm_P μ ∧ (∀ j, j < i → mm_I ν a (n * k + j) = mm_I μ 80 j) ∧ ∀ j, (j < n * k ∨ n * k + i ≤ j) → mm_I ν a j = mm_I μ a j) → mm_T X _ 0 0 k_M_store 3 [some (.ref 71), some (.ref a), some (.int (nI n)), some (.int (nI k)), some (.int (nI i))] [] ν _) (n) ?_ ?_ _ ⟨Fr.rf, rfl, fun j hj => absurd hj (Nat.not_lt_zero j), fun j _ => rfl⟩
  · intro ν hI
    obtain ⟨hf, hP, e1, e2⟩ := hI
    have hM := hf.2.2.2 hM
    have ha := hf.ar ha
    have e80 : mm_I ν 80 = mm_I μ 80 := (hf.2.2.1 80 (by simp; omega)).1
    refine mm_iload d_M_store_3 rfl ?_
    refine mm_iload d_M_store_5 rfl ?_
    refine mm_icmp_geN d_M_store_6 (by first | omega | exact ite01_lt | exact bt8_lt31 _ _ | exact godB_lt31 _ _ _ | exact pop_lt31 _ | assumption | exact b31 (hW.gp (by omega)) | exact b31 (hW.ne (by omega)) | exact b31 (hW.op (by omega)) | exact and31 (hW.gp (by omega)) | exact and31 (hW.ne (by omega)) | exact and31 (hW.op (by omega)) | exact and31 (by assumption) | exact and31r (hW.ne (by omega)) | exact and31r (hW.gp (by omega)) | exact and31r (by decide)) (by first | omega | exact ite01_lt | exact bt8_lt31 _ _ | exact godB_lt31 _ _ _ | exact pop_lt31 _ | assumption | exact b31 (hW.gp (by omega)) | exact b31 (hW.ne (by omega)) | exact b31 (hW.op (by omega)) | exact and31 (hW.gp (by omega)) | exact and31 (hW.ne (by omega)) | exact and31 (hW.op (by omega)) | exact and31 (by assumption) | exact and31r (hW.ne (by omega)) | exact and31r (hW.gp (by omega)) | exact and31r (by decide)) (fun c_6 => ?_) (fun c_6 => False.elim (by omega))
    exact mm_rv d_M_store_30 (h ν hf hP e1 e2)
  · intro i hi ih ν hI
    obtain ⟨hf, hP, e1, e2⟩ := hI
    have hM := hf.2.2.2 hM
    have ha := hf.ar ha
    have e80 : mm_I ν 80 = mm_I μ 80 := (hf.2.2.1 80 (by simp; omega)).1
    refine mm_iload d_M_store_3 rfl ?_
    refine mm_iload d_M_store_5 rfl ?_
    refine mm_icmp_geN d_M_store_6 (by first | omega | exact ite01_lt | exact bt8_lt31 _ _ | exact godB_lt31 _ _ _ | exact pop_lt31 _ | assumption | exact b31 (hW.gp (by omega)) | exact b31 (hW.ne (by omega)) | exact b31 (hW.op (by omega)) | exact and31 (hW.gp (by omega)) | exact and31 (hW.ne (by omega)) | exact and31 (hW.op (by omega)) | exact and31 (by assumption) | exact and31r (hW.ne (by omega)) | exact and31r (hW.gp (by omega)) | exact and31r (by decide)) (by first | omega | exact ite01_lt | exact bt8_lt31 _ _ | exact godB_lt31 _ _ _ | exact pop_lt31 _ | assumption | exact b31 (hW.gp (by omega)) | exact b31 (hW.ne (by omega)) | exact b31 (hW.op (by omega)) | exact and31 (hW.gp (by omega)) | exact and31 (hW.ne (by omega)) | exact and31 (hW.op (by omega)) | exact and31 (by assumption) | exact and31r (hW.ne (by omega)) | exact and31r (hW.gp (by omega)) | exact and31r (by decide)) (fun c_6 => False.elim (by omega)) (fun c_6 => ?_)
    refine mm_aload d_M_store_9 rfl ?_
    refine mm_iload d_M_store_10 rfl ?_
    refine mm_iload d_M_store_11 rfl ?_
    refine mm_imulN d_M_store_12 ?_
    refine mm_iload d_M_store_13 rfl ?_
    refine mm_iaddN d_M_store_15 ?_
    refine mm_aload d_M_store_16 rfl ?_
    refine mm_getP d_M_store_17 rfl (sk_o_71 hM) (sk_p_71_18 hM) ?_
    refine mm_iload d_M_store_20 rfl ?_
    refine mm_ialdX d_M_store_22 (sk_a_80 hM) (by omega) (by decide) ?_
    refine mm_iastX d_M_store_23 ha (by omega) hL ?_
    refine mm_inc4N d_M_store_24 ?_
    refine mm_goto d_M_store_27 ?_
    refine ih _ ⟨hf.sI (beq_self_eq_true a), hP, fun j hj => ?_, fun j hj => ?_⟩
    · rw [mm_I_sI]
      by_cases z : j = i
      · rw [if_pos ⟨rfl, by rw [z]⟩, e80, z]
      · rw [if_neg (fun w => z (by omega))]; exact e1 j (by omega)
    · rw [mm_I_sI, if_neg (by omega)]; exact e2 j (by omega)
