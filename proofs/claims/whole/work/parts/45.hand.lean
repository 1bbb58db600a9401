theorem mm_I_sI {μ : mm_M} {a j b i : Nat} {x : Int32} : mm_I (mm_sI μ a j x) b i = if b = a ∧ i = j then x else mm_I μ b i := by
  by_cases h : b = a
  · subst h
    rw [mm_sI_at]
    by_cases h2 : i = j
    · simp [upd, h2]
    · simp [upd, h2]
  · rw [mm_sI_off h, if_neg (fun z => h z.1)]
/-- what hand() lays to nought -/
def HdZ (μ : mm_M) : Prop := mm_I μ 71 25 = 0 ∧ mm_I μ 71 26 = 0 ∧ mm_I μ 71 27 = 0 ∧ mm_I μ 71 28 = 0 ∧ mm_I μ 71 29 = 0 ∧ (∀ j, j < 6 → mm_I μ 82 j = 0 ∧ mm_I μ 84 j = 0) ∧ ∀ j, j < 48 → mm_I μ 83 j = 0
theorem isF_at {c k : Nat} (hc : c < 2 ^ 31) (hk : k < c) : isF c (nI k) = 1 := by unfold isF; rw [atF_at hc hk]
theorem sp_M_hand {X : mm_X} {μ : mm_M} {q : Int32 → mm_M → Prop} {c k : Nat} {D : mm_D} (hM : SK μ) (hc : mm_I μ 76 0 = nI c) (hc2 : c ≤ 2) (hk : k < c) (hD : CoM μ (44 * k) D) (hW : WfD D) (h : ∀ μ', Fr scM μ μ' → Hd μ' k D → HdZ μ' → q 1 μ') : mm_Ci X 2 0 0 k_M_hand [.ref 71, .int (nI k)] μ q := by
  show mm_T X 2 0 0 k_M_hand 0 [some (.ref 71), some (.int (nI k)), none] [] μ _
  have hk2 : k < 2 := by omega
  refine mm_aload d_M_hand_0 rfl ?_
  refine mm_ci d_M_hand_1 ?_
  refine mm_iload d_M_hand_2 rfl ?_
  refine mm_v2i d_M_hand_3 (sk_o_71 hM) (sp_M_is (s := 0) hM (by decide) hc hc2 ?_)
  rw [isF_at (by omega) hk]
  refine mm_if_ne d_M_hand_6 (fun _ => ?_) (fun z => absurd (by decide) z)
  refine mm_aload d_M_hand_11 rfl ?_
  refine mm_iload d_M_hand_12 rfl ?_
  refine mm_putI d_M_hand_13 rfl (sk_o_71 hM) (Or.inl rfl) ?_
  have f1 : Fr scM μ (mm_sI μ 71 22 (nI k)) := Fr.rf.sI rfl
  have e1 : mm_I (mm_sI μ 71 22 (nI k)) 71 22 = nI k := by rw [mm_I_sI, if_pos ⟨rfl, rfl⟩]
  generalize mm_sI μ 71 22 (nI k) = μ1 at f1 e1
  have hM1 := f1.2.2.2 hM
  have hD1 := hD.fr f1 rfl
  refine mm_aload d_M_hand_16 rfl ?_
  refine mm_aload d_M_hand_17 rfl ?_
  refine mm_ci d_M_hand_18 ?_
  refine mm_v1i d_M_hand_19 (sk_o_71 hM1) (sp_M_of (e := 0) hM1 hk2 e1 (by decide) ?_)
  rw [Nat.add_zero, hD1.1]
  refine mm_putI d_M_hand_22 rfl (sk_o_71 hM1) (Or.inl rfl) ?_
  have f2 : Fr scM μ (mm_sI μ1 71 23 (nI (dn D))) := f1.sI rfl
  have e2 : mm_I (mm_sI μ1 71 23 (nI (dn D))) 71 22 = nI k ∧ mm_I (mm_sI μ1 71 23 (nI (dn D))) 71 23 = nI (dn D) := by
    constructor
    · rw [mm_I_sI, if_neg (by decide)]; exact e1
    · rw [mm_I_sI, if_pos ⟨rfl, rfl⟩]
  generalize mm_sI μ1 71 23 (nI (dn D)) = μ2 at f2 e2
  have hM2 := f2.2.2.2 hM
  have hD2 := hD.fr f2 rfl
  refine mm_aload d_M_hand_25 rfl ?_
  refine mm_aload d_M_hand_26 rfl ?_
  refine mm_ci d_M_hand_27 ?_
  refine mm_v1i d_M_hand_28 (sk_o_71 hM2) (sp_M_of (e := 1) hM2 hk2 e2.1 (by decide) ?_)
  rw [hD2.2.1]
  refine mm_putI d_M_hand_31 rfl (sk_o_71 hM2) (Or.inl rfl) ?_
  refine mm_aload d_M_hand_34 rfl ?_
  refine mm_ci d_M_hand_35 ?_
  refine mm_putI d_M_hand_36 rfl (sk_o_71 hM2) (Or.inl rfl) ?_
  refine mm_aload d_M_hand_39 rfl ?_
  refine mm_ci d_M_hand_40 ?_
  refine mm_putI d_M_hand_41 rfl (sk_o_71 hM2) (Or.inl rfl) ?_
  refine mm_aload d_M_hand_44 rfl ?_
  refine mm_ci d_M_hand_45 ?_
  refine mm_putI d_M_hand_46 rfl (sk_o_71 hM2) (Or.inl rfl) ?_
  refine mm_aload d_M_hand_49 rfl ?_
  refine mm_ci d_M_hand_50 ?_
  refine mm_putI d_M_hand_51 rfl (sk_o_71 hM2) (Or.inl rfl) ?_
  refine mm_aload d_M_hand_54 rfl ?_
  refine mm_ci d_M_hand_55 ?_
  refine mm_putI d_M_hand_56 rfl (sk_o_71 hM2) (Or.inl rfl) ?_
  have f3 : Fr scM μ (mm_sI (mm_sI (mm_sI (mm_sI (mm_sI (mm_sI μ2 71 24 (nI (dw D))) 71 25 0) 71 26 0) 71 27 0) 71 28 0) 71 29 0) := (((((f2.sI rfl).sI rfl).sI rfl).sI rfl).sI rfl).sI rfl
  have e3 : (fun ν : mm_M => mm_I ν 71 22 = nI k ∧ mm_I ν 71 23 = nI (dn D) ∧ mm_I ν 71 24 = nI (dw D) ∧ mm_I ν 71 25 = 0 ∧ mm_I ν 71 26 = 0 ∧ mm_I ν 71 27 = 0 ∧ mm_I ν 71 28 = 0 ∧ mm_I ν 71 29 = 0) (mm_sI (mm_sI (mm_sI (mm_sI (mm_sI (mm_sI μ2 71 24 (nI (dw D))) 71 25 0) 71 26 0) 71 27 0) 71 28 0) 71 29 0) := by
    simp only [mm_I_sI]
    simp [e2]
  generalize mm_sI (mm_sI (mm_sI (mm_sI (mm_sI (mm_sI μ2 71 24 (nI (dw D))) 71 25 0) 71 26 0) 71 27 0) 71 28 0) 71 29 0 = μ3 at f3 e3
  refine mm_ci d_M_hand_59 ?_
  refine mm_ist2 d_M_hand_60 ?_
  have st71 : ∀ {ν : mm_M} {b j : Nat} {x : Int32}, b ≠ 71 → (mm_I ν 71 22 = nI k ∧ mm_I ν 71 23 = nI (dn D) ∧ mm_I ν 71 24 = nI (dw D) ∧ mm_I ν 71 25 = 0 ∧ mm_I ν 71 26 = 0 ∧ mm_I ν 71 27 = 0 ∧ mm_I ν 71 28 = 0 ∧ mm_I ν 71 29 = 0) → (mm_I (mm_sI ν b j x) 71 22 = nI k ∧ mm_I (mm_sI ν b j x) 71 23 = nI (dn D) ∧ mm_I (mm_sI ν b j x) 71 24 = nI (dw D) ∧ mm_I (mm_sI ν b j x) 71 25 = 0 ∧ mm_I (mm_sI ν b j x) 71 26 = 0 ∧ mm_I (mm_sI ν b j x) 71 27 = 0 ∧ mm_I (mm_sI ν b j x) 71 28 = 0 ∧ mm_I (mm_sI ν b j x) 71 29 = 0) := by
    intro ν b j x hb z
    rw [mm_sI_off (fun e => hb e.symm)]
    exact z
  have loop2 : ∀ ν, Fr scM μ ν → (mm_I ν 71 22 = nI k ∧ mm_I ν 71 23 = nI (dn D) ∧ mm_I ν 71 24 = nI (dw D) ∧ mm_I ν 71 25 = 0 ∧ mm_I ν 71 26 = 0 ∧ mm_I ν 71 27 = 0 ∧ mm_I ν 71 28 = 0 ∧ mm_I ν 71 29 = 0) → (∀ j, j < 6 → mm_I ν 82 j = 0 ∧ mm_I ν 84 j = 0) → mm_T X 2 0 0 k_M_hand 89 [some (.ref 71), some (.int (nI k)), some (.int (nI 0))] [] ν (fun v μ' => ∃ r, v = some (.int r) ∧ q r μ') := by
    intro ν g1 g2 g3
    refine mm_up (P := fun i => ∀ ν, Fr scM μ ν → (mm_I ν 71 22 = nI k ∧ mm_I ν 71 23 = nI (dn D) ∧ mm_I ν 71 24 = nI (dw D) ∧ mm_I ν 71 25 = 0 ∧ mm_I ν 71 26 = 0 ∧ mm_I ν 71 27 = 0 ∧ mm_I ν 71 28 = 0 ∧ mm_I ν 71 29 = 0) → (∀ j, j < 6 → mm_I ν 82 j = 0 ∧ mm_I ν 84 j = 0) → (∀ j, j < i → mm_I ν 83 j = 0) → mm_T X 2 0 0 k_M_hand 89 [some (.ref 71), some (.int (nI k)), some (.int (nI i))] [] ν (fun v μ' => ∃ r, v = some (.int r) ∧ q r μ')) 48 ?_ ?_ ν g1 g2 g3 (fun j hj => absurd hj (Nat.not_lt_zero j))
    · intro ν g1 g2 g3 g4
      refine mm_iload d_M_hand_89 rfl ?_
      refine mm_ci d_M_hand_90 ?_
      refine mm_icmp_ge d_M_hand_92 (fun c_92 => ?_) (fun c_92 => absurd (by decide) c_92)
      refine mm_ci d_M_hand_108 ?_
      exact mm_rz d_M_hand_109 (h ν g1 ⟨g1.2.2.2 hM, hk2, g2.1, g2.2.1, g2.2.2.1, hD.fr g1 rfl, hW⟩ ⟨g2.2.2.2.1, g2.2.2.2.2.1, g2.2.2.2.2.2.1, g2.2.2.2.2.2.2.1, g2.2.2.2.2.2.2.2, g3, g4⟩)
    · intro i hi ih ν g1 g2 g3 g4
      have hM := g1.2.2.2 hM
      refine mm_iload d_M_hand_89 rfl ?_
      refine mm_ci d_M_hand_90 ?_
      refine mm_icmp_ge d_M_hand_92 (fun c_92 => absurd c_92 (nI_ge (a := i) (b := 48) hi (by decide))) (fun c_92 => ?_)
      refine mm_aload d_M_hand_95 rfl ?_
      refine mm_getP d_M_hand_96 rfl (sk_o_71 hM) (sk_p_71_31 hM) ?_
      refine mm_iload d_M_hand_99 rfl ?_
      refine mm_ci d_M_hand_100 ?_
      refine mm_iast d_M_hand_101 (sk_a_83 hM) (vp_in_nI (by omega) (by decide)) ?_
      refine mm_inc2 d_M_hand_102 ?_
      refine mm_goto d_M_hand_105 ?_
      rw [nI_1]
      refine ih _ (g1.sI rfl) (st71 (by decide) g2) (fun j hj => ?_) (fun j hj => ?_)
      · rw [mm_sI_off (by decide), mm_sI_off (by decide)]; exact g3 j hj
      · rw [mm_I_sI, nI_clamp (by omega)]
        by_cases e : j = i
        · rw [if_pos ⟨rfl, e⟩]
        · rw [if_neg (fun z => e z.2)]; exact g4 j (by omega)
  refine mm_up (P := fun i => ∀ ν, Fr scM μ ν → (mm_I ν 71 22 = nI k ∧ mm_I ν 71 23 = nI (dn D) ∧ mm_I ν 71 24 = nI (dw D) ∧ mm_I ν 71 25 = 0 ∧ mm_I ν 71 26 = 0 ∧ mm_I ν 71 27 = 0 ∧ mm_I ν 71 28 = 0 ∧ mm_I ν 71 29 = 0) → (∀ j, j < i → mm_I ν 82 j = 0 ∧ mm_I ν 84 j = 0) → mm_T X 2 0 0 k_M_hand 61 [some (.ref 71), some (.int (nI k)), some (.int (nI i))] [] ν (fun v μ' => ∃ r, v = some (.int r) ∧ q r μ')) 6 ?_ ?_ μ3 f3 e3 (fun j hj => absurd hj (Nat.not_lt_zero j))
  · intro ν g1 g2 g3
    refine mm_iload d_M_hand_61 rfl ?_
    refine mm_ci d_M_hand_62 ?_
    refine mm_icmp_ge d_M_hand_64 (fun c_64 => ?_) (fun c_64 => absurd (by decide) c_64)
    refine mm_ci d_M_hand_87 ?_
    refine mm_ist2 d_M_hand_88 ?_
    exact loop2 ν g1 g2 g3
  · intro i hi ih ν g1 g2 g3
    have hM := g1.2.2.2 hM
    refine mm_iload d_M_hand_61 rfl ?_
    refine mm_ci d_M_hand_62 ?_
    refine mm_icmp_ge d_M_hand_64 (fun c_64 => absurd c_64 (nI_ge (a := i) (b := 6) hi (by decide))) (fun c_64 => ?_)
    refine mm_aload d_M_hand_67 rfl ?_
    refine mm_getP d_M_hand_68 rfl (sk_o_71 hM) (sk_p_71_30 hM) ?_
    refine mm_iload d_M_hand_71 rfl ?_
    refine mm_ci d_M_hand_72 ?_
    refine mm_iast d_M_hand_73 (sk_a_82 hM) (vp_in_nI (by omega) (by decide)) ?_
    refine mm_aload d_M_hand_74 rfl ?_
    refine mm_getP d_M_hand_75 rfl (sk_o_71 hM) (sk_p_71_32 hM) ?_
    refine mm_iload d_M_hand_78 rfl ?_
    refine mm_ci d_M_hand_79 ?_
    refine mm_iast d_M_hand_80 (sk_a_84 hM) (vp_in_nI (by omega) (by decide)) ?_
    refine mm_inc2 d_M_hand_81 ?_
    refine mm_goto d_M_hand_84 ?_
    rw [nI_1]
    refine ih _ ((g1.sI rfl).sI rfl) (st71 (by decide) (st71 (by decide) g2)) (fun j hj => ?_)
    rw [nI_clamp (by omega), mm_sI_off (show (82 : Nat) ≠ 84 by decide), mm_I_sI, mm_I_sI]
    by_cases e : j = i
    · rw [if_pos ⟨rfl, e⟩, if_pos ⟨rfl, e⟩]; exact ⟨rfl, rfl⟩
    · rw [if_neg (fun z => e z.2), if_neg (fun z => e z.2), mm_sI_off (by decide)]; exact g3 j (by omega)
