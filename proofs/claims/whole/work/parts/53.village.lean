/-! pairs: village -/
def lexle (a b : Nat) : Prop := pop a < pop b ∨ (pop a = pop b ∧ a ≤ b)
def vilC (D : mm_D) (A : Nat) : Nat → Nat
  | 0 => A
  | t + 1 => if unionN D (A - t) = unionN D A ∧ pop (A - t) ≤ pop (vilC D A t) then A - t else vilC D A t
def vilM (D : mm_D) (A : Nat) : Nat → Nat
  | 0 => A
  | t + 1 => if (pop t < pop (vilM D A t) ∨ pop t = pop (vilM D A t) ∧ t < vilM D A t) ∧ unionN D t = unionN D A then t else vilM D A t
theorem vilC_min (D : mm_D) (A : Nat) : ∀ t, t ≤ A + 1 → vilC D A t ≤ A ∧ unionN D (vilC D A t) = unionN D A ∧ (t = 0 ∨ A + 1 - t ≤ vilC D A t) ∧ ∀ s, s ≤ A → A + 1 - t ≤ s → unionN D s = unionN D A → lexle (vilC D A t) s
  | 0, _ => ⟨Nat.le_refl A, rfl, Or.inl rfl, fun s h1 h2 _ => absurd h2 (by omega)⟩
  | t + 1, h => by
    obtain ⟨h1, h2, h3, h4⟩ := vilC_min D A t (by omega)
    unfold vilC
    split
    · rename_i c
      refine ⟨by omega, c.1, Or.inr (by omega), fun s a1 a2 a3 => ?_⟩
      by_cases e : s = A - t
      · subst e; exact Or.inr ⟨rfl, Nat.le_refl _⟩
      · have := h4 s a1 (by omega) a3
        unfold lexle at this ⊢
        omega
    · rename_i c
      rcases h3 with h3 | h3
      · subst h3
        refine absurd ⟨?_, ?_⟩ c
        · rw [Nat.sub_zero]
        · show pop (A - 0) ≤ pop A
          rw [Nat.sub_zero]
          exact Nat.le_refl _
      · refine ⟨h1, h2, Or.inr (by omega), fun s a1 a2 a3 => ?_⟩
        by_cases e : s = A - t
        · subst e
          have : ¬ pop (A - t) ≤ pop (vilC D A t) := fun z => c ⟨a3, z⟩
          unfold lexle
          omega
        · exact h4 s a1 (by omega) a3
theorem vilM_min (D : mm_D) (A : Nat) : ∀ t, t ≤ A + 1 → vilM D A t ≤ A ∧ unionN D (vilM D A t) = unionN D A ∧ ∀ s, s < t → unionN D s = unionN D A → lexle (vilM D A t) s
  | 0, _ => ⟨Nat.le_refl A, rfl, fun s h1 _ => absurd h1 (Nat.not_lt_zero s)⟩
  | t + 1, h => by
    obtain ⟨h1, h2, h4⟩ := vilM_min D A t (by omega)
    unfold vilM
    split
    · rename_i c
      refine ⟨by omega, c.2, fun s a1 a3 => ?_⟩
      by_cases e : s = t
      · subst e; exact Or.inr ⟨rfl, Nat.le_refl _⟩
      · have := h4 s (by omega) a3
        unfold lexle at this ⊢
        omega
    · rename_i c
      refine ⟨h1, h2, fun s a1 a3 => ?_⟩
      by_cases e : s = t
      · subst e
        have : ¬ (pop s < pop (vilM D A s) ∨ pop s = pop (vilM D A s) ∧ s < vilM D A s) := fun z => c ⟨z, a3⟩
        unfold lexle
        omega
      · exact h4 s (by omega) a3
theorem vil_eq (D : mm_D) (A : Nat) : vilC D A (A + 1) = vilM D A (A + 1) := by
  obtain ⟨a1, a2, -, a4⟩ := vilC_min D A (A + 1) (Nat.le_refl _)
  obtain ⟨b1, b2, b4⟩ := vilM_min D A (A + 1) (Nat.le_refl _)
  have h1 := a4 _ b1 (by omega) b2
  have h2 := b4 _ (by omega) a2
  unfold lexle at h1 h2
  omega
theorem vilC_le (D : mm_D) (A t : Nat) (h : t ≤ A + 1) : vilC D A t ≤ A := (vilC_min D A t h).1
theorem vilM_le (D : mm_D) (A t : Nat) (h : t ≤ A + 1) : vilM D A t ≤ A := (vilM_min D A t h).1
theorem unionN_lt {D : mm_D} (hW : WfD D) (s : Nat) : unionN D s < 256 := unionK_lt hW s _ hW.1
theorem sp_Cr_smallestVillage {X : mm_X} {μ : mm_M} {q : Int32 → mm_M → Prop} {a : Nat} {D : mm_D} (hCD : CoD μ a D) (hW : WfD D) (h : q (nI (vilC D (2 ^ dn D - 1) (2 ^ dn D - 1 + 1))) μ) : mm_Ci X 2 0 0 k_Cr_smallestVillage [.ref a] μ q := by
  show mm_T X 2 0 0 k_Cr_smallestVillage 0 [some (.ref a), none, none, none] [] μ _
  have hn6 := hW.1
  have hal := all_lt hW
  refine mm_aload d_Cr_smallestVillage_0 rfl ?_
  refine mm_aload d_Cr_smallestVillage_1 rfl ?_
  refine mm_v0i d_Cr_smallestVillage_2 hCD.1.1 (sp_Co_allChildrenN hCD hW ?_)
  refine mm_s2i d_Cr_smallestVillage_5 (sp_Cr_weathersOf hCD hW (by first | omega | assumption | exact hW.gp (by omega) | exact hW.ne (by omega) | exact hW.op (by omega) | exact and_lt256 (hW.gp (by omega)) | exact and_lt256 (hW.ne (by omega)) | exact and_lt256 (hW.op (by omega)) | exact and_lt256 (by assumption)) ?_)
  refine mm_ist1 d_Cr_smallestVillage_8 ?_
  refine mm_aload d_Cr_smallestVillage_9 rfl ?_
  refine mm_v0i d_Cr_smallestVillage_10 hCD.1.1 (sp_Co_allChildrenN hCD hW ?_)
  refine mm_ist2 d_Cr_smallestVillage_13 ?_
  refine mm_aload d_Cr_smallestVillage_14 rfl ?_
  refine mm_v0i d_Cr_smallestVillage_15 hCD.1.1 (sp_Co_allChildrenN hCD hW ?_)
  refine mm_ist3 d_Cr_smallestVillage_18 ?_
  generalize 2 ^ dn D - 1 = A at hal h ⊢
  have hu := unionN_lt hW A
  have fin : mm_T X 2 0 0 k_Cr_smallestVillage 19 [some (.ref a), some (.int (nI (unionN D A))), some (.int (nI (vilC D A (A + 1)))), some (.int (-1))] [] μ (fun v μ' => ∃ r, v = some (.int r) ∧ q r μ') := by
    refine mm_iload d_Cr_smallestVillage_19 rfl ?_
    refine mm_if_lt d_Cr_smallestVillage_20 (fun c_20 => ?_) (fun c_20 => False.elim (c_20 (by decide)))
    refine mm_iload d_Cr_smallestVillage_51 rfl ?_
    exact mm_ri d_Cr_smallestVillage_52 h
  have stp : ∀ t, t ≤ A → (∀ z : Int32, z = nI (A - t) + -1 → mm_T X 2 0 0 k_Cr_smallestVillage 19 [some (.ref a), some (.int (nI (unionN D A))), some (.int (nI (vilC D A (t + 1)))), some (.int z)] [] μ (fun v μ' => ∃ r, v = some (.int r) ∧ q r μ')) → mm_T X 2 0 0 k_Cr_smallestVillage 19 [some (.ref a), some (.int (nI (unionN D A))), some (.int (nI (vilC D A t))), some (.int (nI (A - t)))] [] μ (fun v μ' => ∃ r, v = some (.int r) ∧ q r μ') := by
    intro t ht ih
    have hu2 := unionN_lt hW (A - t)
    have hv := vilC_le D A t (by omega)
    refine mm_iload d_Cr_smallestVillage_19 rfl ?_
    refine mm_if_ltN d_Cr_smallestVillage_20 (by first | omega | exact bt8_lt31 _ _ | exact godB_lt31 _ _ _ | exact pop_lt31 _ | assumption | exact b31 (hW.gp (by omega)) | exact b31 (hW.ne (by omega)) | exact b31 (hW.op (by omega)) | exact and31 (hW.gp (by omega)) | exact and31 (hW.ne (by omega)) | exact and31 (hW.op (by omega)) | exact and31 (by assumption) | exact and31r (hW.ne (by omega)) | exact and31r (hW.gp (by omega)) | exact and31r (by decide)) ?_
    refine mm_aload d_Cr_smallestVillage_23 rfl ?_
    refine mm_iload d_Cr_smallestVillage_24 rfl ?_
    refine mm_s2i d_Cr_smallestVillage_25 (sp_Cr_weathersOf hCD hW (by first | omega | assumption | exact hW.gp (by omega) | exact hW.ne (by omega) | exact hW.op (by omega) | exact and_lt256 (hW.gp (by omega)) | exact and_lt256 (hW.ne (by omega)) | exact and_lt256 (hW.op (by omega)) | exact and_lt256 (by assumption)) ?_)
    refine mm_iload d_Cr_smallestVillage_28 rfl ?_
    refine mm_icmp_neN d_Cr_smallestVillage_29 (by first | omega | exact bt8_lt31 _ _ | exact godB_lt31 _ _ _ | exact pop_lt31 _ | assumption | exact b31 (hW.gp (by omega)) | exact b31 (hW.ne (by omega)) | exact b31 (hW.op (by omega)) | exact and31 (hW.gp (by omega)) | exact and31 (hW.ne (by omega)) | exact and31 (hW.op (by omega)) | exact and31 (by assumption) | exact and31r (hW.ne (by omega)) | exact and31r (hW.gp (by omega)) | exact and31r (by decide)) (by first | omega | exact bt8_lt31 _ _ | exact godB_lt31 _ _ _ | exact pop_lt31 _ | assumption | exact b31 (hW.gp (by omega)) | exact b31 (hW.ne (by omega)) | exact b31 (hW.op (by omega)) | exact and31 (hW.gp (by omega)) | exact and31 (hW.ne (by omega)) | exact and31 (hW.op (by omega)) | exact and31 (by assumption) | exact and31r (hW.ne (by omega)) | exact and31r (hW.gp (by omega)) | exact and31r (by decide)) (fun c_29 => ?_) (fun c_29 => ?_)
    · refine mm_inc3 d_Cr_smallestVillage_45 ?_
      refine mm_goto d_Cr_smallestVillage_48 ?_
      first
        | (rw [show vilC D A (t + 1) = vilC D A t by show (if _ then _ else _) = _; rw [if_neg (by omega)]] at ih; exact ih _ rfl)
        | (rw [show vilC D A (t + 1) = A - t by show (if _ then _ else _) = _; rw [if_pos (by omega)]] at ih; exact ih _ rfl)
    · refine mm_iload d_Cr_smallestVillage_32 rfl ?_
      refine mm_s1i d_Cr_smallestVillage_33 (sp_Int_bitCount (by first | omega | assumption | exact hW.gp (by omega) | exact hW.ne (by omega) | exact hW.op (by omega) | exact and_lt256 (hW.gp (by omega)) | exact and_lt256 (hW.ne (by omega)) | exact and_lt256 (hW.op (by omega)) | exact and_lt256 (by assumption)) ?_)
      refine mm_iload d_Cr_smallestVillage_36 rfl ?_
      refine mm_s1i d_Cr_smallestVillage_37 (sp_Int_bitCount (by first | omega | assumption | exact hW.gp (by omega) | exact hW.ne (by omega) | exact hW.op (by omega) | exact and_lt256 (hW.gp (by omega)) | exact and_lt256 (hW.ne (by omega)) | exact and_lt256 (hW.op (by omega)) | exact and_lt256 (by assumption)) ?_)
      refine mm_icmp_gtN d_Cr_smallestVillage_40 (by first | omega | exact bt8_lt31 _ _ | exact godB_lt31 _ _ _ | exact pop_lt31 _ | assumption | exact b31 (hW.gp (by omega)) | exact b31 (hW.ne (by omega)) | exact b31 (hW.op (by omega)) | exact and31 (hW.gp (by omega)) | exact and31 (hW.ne (by omega)) | exact and31 (hW.op (by omega)) | exact and31 (by assumption) | exact and31r (hW.ne (by omega)) | exact and31r (hW.gp (by omega)) | exact and31r (by decide)) (by first | omega | exact bt8_lt31 _ _ | exact godB_lt31 _ _ _ | exact pop_lt31 _ | assumption | exact b31 (hW.gp (by omega)) | exact b31 (hW.ne (by omega)) | exact b31 (hW.op (by omega)) | exact and31 (hW.gp (by omega)) | exact and31 (hW.ne (by omega)) | exact and31 (hW.op (by omega)) | exact and31 (by assumption) | exact and31r (hW.ne (by omega)) | exact and31r (hW.gp (by omega)) | exact and31r (by decide)) (fun c_40 => ?_) (fun c_40 => ?_)
      · refine mm_inc3 d_Cr_smallestVillage_45 ?_
        refine mm_goto d_Cr_smallestVillage_48 ?_
        first
          | (rw [show vilC D A (t + 1) = vilC D A t by show (if _ then _ else _) = _; rw [if_neg (by omega)]] at ih; exact ih _ rfl)
          | (rw [show vilC D A (t + 1) = A - t by show (if _ then _ else _) = _; rw [if_pos (by omega)]] at ih; exact ih _ rfl)
      · refine mm_iload d_Cr_smallestVillage_43 rfl ?_
        refine mm_ist2 d_Cr_smallestVillage_44 ?_
        refine mm_inc3 d_Cr_smallestVillage_45 ?_
        refine mm_goto d_Cr_smallestVillage_48 ?_
        first
          | (rw [show vilC D A (t + 1) = vilC D A t by show (if _ then _ else _) = _; rw [if_neg (by omega)]] at ih; exact ih _ rfl)
          | (rw [show vilC D A (t + 1) = A - t by show (if _ then _ else _) = _; rw [if_pos (by omega)]] at ih; exact ih _ rfl)
  have := mm_up (P := fun t => mm_T X 2 0 0 k_Cr_smallestVillage 19 [some (.ref a), some (.int (nI (unionN D A))), some (.int (nI (vilC D A t))), some (.int (nI (A - t)))] [] μ (fun v μ' => ∃ r, v = some (.int r) ∧ q r μ')) A (stp A (Nat.le_refl A) (fun z hz => by rw [hz, Nat.sub_self]; exact fin)) (fun t ht ih => stp t (by omega) (fun z hz => by rw [hz, show A - t = (A - (t + 1)) + 1 by omega, pk_m1]; exact ih))
  exact this
theorem pair_village {X : mm_X} {k : Nat} {μ : mm_M} (hJ : JJ k μ) (y1 y2 : Int32) : PairI X (JJ (k + 1)) k_G_village k_M_village [.int y1, .int y2] μ := by
  obtain ⟨c, h02, h0, m0, hv⟩ := hJ.coast y1
  have hM := hJ.1
  have hw := hJ.2.2.2.up
  rcases hv with hx | ⟨i, D, hi, rfl, hW, hCD, hDM⟩
  · exact pairQ (-1) hJ (d := 2) (d' := 4) (by decide) (by decide) (n_G_village hM h0 h02 hx ⟨rfl, Fr.rf, hw⟩) (fun μ1 hf => n_M_village (hf.2.2.2 hM) (by rw [(hf.2.2.1 76 rfl).1]; exact m0) h02 hx (fun μ' hk => ⟨rfl, hk.fr (hf.2.2.2 hM)⟩))
  have hn6 := hW.1
  have hw6 := hW.2.1
  have hal := all_lt hW
  have hal2 := one_le_two_pow (dn D)
  have hv := vilC_le D (2 ^ dn D - 1) (2 ^ dn D - 1 + 1) (Nat.le_refl _)
  refine pairQ (if y2 = 0 then nI (pop (vilC D (2 ^ dn D - 1) (2 ^ dn D - 1 + 1))) else nI (vilC D (2 ^ dn D - 1) (2 ^ dn D - 1 + 1))) hJ (d := 12) (d' := 12) (by decide) (by decide) ?_ (fun μ1 hf => ?_)
  · show mm_T X 12 0 0 k_G_village 0 [some (.ref 0), some (.int (nI i)), some (.int y2), none, none] [] μ _
    refine mm_aload d_G_village_0 rfl ?_
    refine mm_getP d_G_village_1 rfl (sk_o_0 hM) (sk_p_0_0 hM) ?_
    refine mm_iload d_G_village_4 rfl ?_
    refine mm_v1r d_G_village_5 (sk_o_1 hM) (sp_To_coastAtI hM h0 h02 hi ?_)
    refine mm_ast3 d_G_village_8 ?_
    refine mm_aload d_G_village_9 rfl ?_
    refine mm_ifnonnull d_G_village_10 ?_
    refine mm_aload d_G_village_15 rfl ?_
    refine mm_s1i d_G_village_16 (sp_Cr_smallestVillage hCD hW ?_)
    refine mm_ist4 d_G_village_19 ?_
    refine mm_iload d_G_village_21 rfl ?_
    refine mm_if_eq d_G_village_22 (fun c_22 => ?_) (fun c_22 => ?_)
    · refine mm_iload d_G_village_30 rfl ?_
      refine mm_s1i d_G_village_32 (sp_Int_bitCount (by first | omega | assumption | exact hW.gp (by omega) | exact hW.ne (by omega) | exact hW.op (by omega) | exact and_lt256 (hW.gp (by omega)) | exact and_lt256 (hW.ne (by omega)) | exact and_lt256 (hW.op (by omega)) | exact and_lt256 (by assumption)) ?_)
      exact mm_ri d_G_village_35 ⟨by first | exact (if_pos c_22).symm | exact (if_neg c_22).symm, Fr.rf, hw⟩
    · refine mm_iload d_G_village_25 rfl ?_
      refine mm_goto d_G_village_27 ?_
      exact mm_ri d_G_village_35 ⟨by first | exact (if_pos c_22).symm | exact (if_neg c_22).symm, Fr.rf, hw⟩
  · show mm_T X 12 0 0 k_M_village 0 [some (.ref 71), some (.int (nI i)), some (.int y2), none, none, none, none] [] μ1 _
    replace hM := hf.2.2.2 hM
    replace m0 : mm_I μ1 76 0 = nI c := by rw [(hf.2.2.1 76 rfl).1]; exact m0
    replace hDM := hDM.frC hf
    refine mm_aload d_M_village_0 rfl ?_
    refine mm_ciN 0 d_M_village_1 rfl ?_
    refine mm_putI d_M_village_2 rfl (sk_o_71 hM) (Or.inl rfl) ?_
    refine mm_aload d_M_village_5 rfl ?_
    refine mm_iload d_M_village_6 rfl ?_
    refine mm_v1i d_M_village_7 (sk_o_71 hM) (sp_M_handN hM (by first | exact m0 | (rw [mm_sI_off (by decide)]; exact m0)) h02 hi (by first | exact hDM | exact hDM.eq (mm_sI_off (by decide))) hW (fun μ2 g1 hH hZ => ?_))
    replace hM := hH.1
    refine mm_if_neN d_M_village_10 (by first | omega | exact bt8_lt31 _ _ | exact godB_lt31 _ _ _ | exact pop_lt31 _ | assumption | exact b31 (hW.gp (by omega)) | exact b31 (hW.ne (by omega)) | exact b31 (hW.op (by omega)) | exact and31 (hW.gp (by omega)) | exact and31 (hW.ne (by omega)) | exact and31 (hW.op (by omega)) | exact and31 (by assumption) | exact and31r (hW.ne (by omega)) | exact and31r (hW.gp (by omega)) | exact and31r (by decide)) (fun c_10 => ?_) (fun c_10 => False.elim (by omega))
    refine mm_ciN 1 d_M_village_15 rfl ?_
    refine mm_aload d_M_village_16 rfl ?_
    refine mm_getIN d_M_village_17 rfl (sk_o_71 hM) hH.n ?_
    refine mm_ishl1N d_M_village_20 (by omega) ?_
    refine mm_ciN 1 d_M_village_21 rfl ?_
    refine mm_isubN d_M_village_22 (by omega) ?_
    refine mm_ist3 d_M_village_23 ?_
    refine mm_iload d_M_village_24 rfl ?_
    refine mm_ist4 d_M_village_25 ?_
    refine mm_ciN 0 d_M_village_27 rfl ?_
    refine mm_ist5 d_M_village_28 ?_
    have gf := (Fr.rf (S := scM) (μ := μ1).sI (j := 0) (x := nI 0) (a := 71) rfl).trans g1
    generalize nI i = l1
    rw [vil_eq] at hv ⊢
    generalize 2 ^ dn D - 1 = A at hal hv ⊢
    have hu := unionN_lt hW A
    refine mm_up (P := fun t => ∀ l6 : Option Value, mm_T X _ 0 0 k_M_village 30 [some (.ref 71), some (.int l1), some (.int y2), some (.int (nI A)), some (.int (nI (vilM D A t))), some (.int (nI t)), l6] [] μ2 _) (A + 1) ?_ (fun t ht ih => ?_) none
    · intro l6
      refine mm_iload d_M_village_30 rfl ?_
      refine mm_iload d_M_village_32 rfl ?_
      refine mm_icmp_gtN d_M_village_33 (by first | omega | exact bt8_lt31 _ _ | exact godB_lt31 _ _ _ | exact pop_lt31 _ | assumption | exact b31 (hW.gp (by omega)) | exact b31 (hW.ne (by omega)) | exact b31 (hW.op (by omega)) | exact and31 (hW.gp (by omega)) | exact and31 (hW.ne (by omega)) | exact and31 (hW.op (by omega)) | exact and31 (by assumption) | exact and31r (hW.ne (by omega)) | exact and31r (hW.gp (by omega)) | exact and31r (by decide)) (by first | omega | exact bt8_lt31 _ _ | exact godB_lt31 _ _ _ | exact pop_lt31 _ | assumption | exact b31 (hW.gp (by omega)) | exact b31 (hW.ne (by omega)) | exact b31 (hW.op (by omega)) | exact and31 (hW.gp (by omega)) | exact and31 (hW.ne (by omega)) | exact and31 (hW.op (by omega)) | exact and31 (by assumption) | exact and31r (hW.ne (by omega)) | exact and31r (hW.gp (by omega)) | exact and31r (by decide)) (fun c_33 => ?_) (fun c_33 => False.elim (by omega))
      refine mm_iload d_M_village_110 rfl ?_
      refine mm_if_eq d_M_village_111 (fun c_111 => ?_) (fun c_111 => ?_)
      · refine mm_iload d_M_village_119 rfl ?_
        refine mm_s1i d_M_village_121 (sp_M_ones (by first | omega | assumption | exact hW.gp (by omega) | exact hW.ne (by omega) | exact hW.op (by omega) | exact and_lt256 (hW.gp (by omega)) | exact and_lt256 (hW.ne (by omega)) | exact and_lt256 (hW.op (by omega)) | exact and_lt256 (by assumption)) ?_)
        exact mm_ri d_M_village_124 ⟨by first | exact (if_pos c_111).symm | exact (if_neg c_111).symm, gf⟩
      · refine mm_iload d_M_village_114 rfl ?_
        refine mm_goto d_M_village_116 ?_
        exact mm_ri d_M_village_124 ⟨by first | exact (if_pos c_111).symm | exact (if_neg c_111).symm, gf⟩
    · intro l6
      have hu2 := unionN_lt hW t
      have hv := vilM_le D A t (by omega)
      refine mm_iload d_M_village_30 rfl ?_
      refine mm_iload d_M_village_32 rfl ?_
      refine mm_icmp_gtN d_M_village_33 (by first | omega | exact bt8_lt31 _ _ | exact godB_lt31 _ _ _ | exact pop_lt31 _ | assumption | exact b31 (hW.gp (by omega)) | exact b31 (hW.ne (by omega)) | exact b31 (hW.op (by omega)) | exact and31 (hW.gp (by omega)) | exact and31 (hW.ne (by omega)) | exact and31 (hW.op (by omega)) | exact and31 (by assumption) | exact and31r (hW.ne (by omega)) | exact and31r (hW.gp (by omega)) | exact and31r (by decide)) (by first | omega | exact bt8_lt31 _ _ | exact godB_lt31 _ _ _ | exact pop_lt31 _ | assumption | exact b31 (hW.gp (by omega)) | exact b31 (hW.ne (by omega)) | exact b31 (hW.op (by omega)) | exact and31 (hW.gp (by omega)) | exact and31 (hW.ne (by omega)) | exact and31 (hW.op (by omega)) | exact and31 (by assumption) | exact and31r (hW.ne (by omega)) | exact and31r (hW.gp (by omega)) | exact and31r (by decide)) (fun c_33 => False.elim (by omega)) (fun c_33 => ?_)
      refine mm_iload d_M_village_36 rfl ?_
      refine mm_s1i d_M_village_38 (sp_M_ones (by first | omega | assumption | exact hW.gp (by omega) | exact hW.ne (by omega) | exact hW.op (by omega) | exact and_lt256 (hW.gp (by omega)) | exact and_lt256 (hW.ne (by omega)) | exact and_lt256 (hW.op (by omega)) | exact and_lt256 (by assumption)) ?_)
      refine mm_iload d_M_village_41 rfl ?_
      refine mm_s1i d_M_village_43 (sp_M_ones (by first | omega | assumption | exact hW.gp (by omega) | exact hW.ne (by omega) | exact hW.op (by omega) | exact and_lt256 (hW.gp (by omega)) | exact and_lt256 (hW.ne (by omega)) | exact and_lt256 (hW.op (by omega)) | exact and_lt256 (by assumption)) ?_)
      refine mm_icmp_ltN d_M_village_46 (by first | omega | exact bt8_lt31 _ _ | exact godB_lt31 _ _ _ | exact pop_lt31 _ | assumption | exact b31 (hW.gp (by omega)) | exact b31 (hW.ne (by omega)) | exact b31 (hW.op (by omega)) | exact and31 (hW.gp (by omega)) | exact and31 (hW.ne (by omega)) | exact and31 (hW.op (by omega)) | exact and31 (by assumption) | exact and31r (hW.ne (by omega)) | exact and31r (hW.gp (by omega)) | exact and31r (by decide)) (by first | omega | exact bt8_lt31 _ _ | exact godB_lt31 _ _ _ | exact pop_lt31 _ | assumption | exact b31 (hW.gp (by omega)) | exact b31 (hW.ne (by omega)) | exact b31 (hW.op (by omega)) | exact and31 (hW.gp (by omega)) | exact and31 (hW.ne (by omega)) | exact and31 (hW.op (by omega)) | exact and31 (by assumption) | exact and31r (hW.ne (by omega)) | exact and31r (hW.gp (by omega)) | exact and31r (by decide)) (fun c_46 => ?_) (fun c_46 => ?_)
      · refine mm_ciN 1 d_M_village_69 rfl ?_
        refine mm_goto d_M_village_70 ?_
        refine mm_ist6 d_M_village_74 ?_
        refine mm_iload d_M_village_76 rfl ?_
        refine mm_if_eqN d_M_village_78 (by first | omega | exact bt8_lt31 _ _ | exact godB_lt31 _ _ _ | exact pop_lt31 _ | assumption | exact b31 (hW.gp (by omega)) | exact b31 (hW.ne (by omega)) | exact b31 (hW.op (by omega)) | exact and31 (hW.gp (by omega)) | exact and31 (hW.ne (by omega)) | exact and31 (hW.op (by omega)) | exact and31 (by assumption) | exact and31r (hW.ne (by omega)) | exact and31r (hW.gp (by omega)) | exact and31r (by decide)) (fun c_78 => False.elim (by omega)) (fun c_78 => ?_)
        refine mm_aload d_M_village_81 rfl ?_
        refine mm_iload d_M_village_82 rfl ?_
        refine mm_v1i d_M_village_84 (sk_o_71 hM) (sp_M_allGods hH (by first | omega | assumption | exact hW.gp (by omega) | exact hW.ne (by omega) | exact hW.op (by omega) | exact and_lt256 (hW.gp (by omega)) | exact and_lt256 (hW.ne (by omega)) | exact and_lt256 (hW.op (by omega)) | exact and_lt256 (by assumption)) ?_)
        refine mm_aload d_M_village_87 rfl ?_
        refine mm_iload d_M_village_88 rfl ?_
        refine mm_v1i d_M_village_89 (sk_o_71 hM) (sp_M_allGods hH (by first | omega | assumption | exact hW.gp (by omega) | exact hW.ne (by omega) | exact hW.op (by omega) | exact and_lt256 (hW.gp (by omega)) | exact and_lt256 (hW.ne (by omega)) | exact and_lt256 (hW.op (by omega)) | exact and_lt256 (by assumption)) ?_)
        refine mm_icmp_neN d_M_village_92 (by first | omega | exact bt8_lt31 _ _ | exact godB_lt31 _ _ _ | exact pop_lt31 _ | assumption | exact b31 (hW.gp (by omega)) | exact b31 (hW.ne (by omega)) | exact b31 (hW.op (by omega)) | exact and31 (hW.gp (by omega)) | exact and31 (hW.ne (by omega)) | exact and31 (hW.op (by omega)) | exact and31 (by assumption) | exact and31r (hW.ne (by omega)) | exact and31r (hW.gp (by omega)) | exact and31r (by decide)) (by first | omega | exact bt8_lt31 _ _ | exact godB_lt31 _ _ _ | exact pop_lt31 _ | assumption | exact b31 (hW.gp (by omega)) | exact b31 (hW.ne (by omega)) | exact b31 (hW.op (by omega)) | exact and31 (hW.gp (by omega)) | exact and31 (hW.ne (by omega)) | exact and31 (hW.op (by omega)) | exact and31 (by assumption) | exact and31r (hW.ne (by omega)) | exact and31r (hW.gp (by omega)) | exact and31r (by decide)) (fun c_92 => ?_) (fun c_92 => ?_)
        · refine mm_iload d_M_village_100 rfl ?_
          refine mm_ist4 d_M_village_102 ?_
          refine mm_inc5N d_M_village_104 ?_
          refine mm_goto d_M_village_107 ?_
          first
            | (rw [show vilM D A (t + 1) = vilM D A t by show (if _ then _ else _) = _; rw [if_neg (by omega)]] at ih; exact ih _)
            | (rw [show vilM D A (t + 1) = t by show (if _ then _ else _) = _; rw [if_pos (by omega)]] at ih; exact ih _)
        · refine mm_iload d_M_village_95 rfl ?_
          refine mm_goto d_M_village_97 ?_
          refine mm_ist4 d_M_village_102 ?_
          refine mm_inc5N d_M_village_104 ?_
          refine mm_goto d_M_village_107 ?_
          first
            | (rw [show vilM D A (t + 1) = vilM D A t by show (if _ then _ else _) = _; rw [if_neg (by omega)]] at ih; exact ih _)
            | (rw [show vilM D A (t + 1) = t by show (if _ then _ else _) = _; rw [if_pos (by omega)]] at ih; exact ih _)
      · refine mm_iload d_M_village_49 rfl ?_
        refine mm_s1i d_M_village_51 (sp_M_ones (by first | omega | assumption | exact hW.gp (by omega) | exact hW.ne (by omega) | exact hW.op (by omega) | exact and_lt256 (hW.gp (by omega)) | exact and_lt256 (hW.ne (by omega)) | exact and_lt256 (hW.op (by omega)) | exact and_lt256 (by assumption)) ?_)
        refine mm_iload d_M_village_54 rfl ?_
        refine mm_s1i d_M_village_56 (sp_M_ones (by first | omega | assumption | exact hW.gp (by omega) | exact hW.ne (by omega) | exact hW.op (by omega) | exact and_lt256 (hW.gp (by omega)) | exact and_lt256 (hW.ne (by omega)) | exact and_lt256 (hW.op (by omega)) | exact and_lt256 (by assumption)) ?_)
        refine mm_icmp_neN d_M_village_59 (by first | omega | exact bt8_lt31 _ _ | exact godB_lt31 _ _ _ | exact pop_lt31 _ | assumption | exact b31 (hW.gp (by omega)) | exact b31 (hW.ne (by omega)) | exact b31 (hW.op (by omega)) | exact and31 (hW.gp (by omega)) | exact and31 (hW.ne (by omega)) | exact and31 (hW.op (by omega)) | exact and31 (by assumption) | exact and31r (hW.ne (by omega)) | exact and31r (hW.gp (by omega)) | exact and31r (by decide)) (by first | omega | exact bt8_lt31 _ _ | exact godB_lt31 _ _ _ | exact pop_lt31 _ | assumption | exact b31 (hW.gp (by omega)) | exact b31 (hW.ne (by omega)) | exact b31 (hW.op (by omega)) | exact and31 (hW.gp (by omega)) | exact and31 (hW.ne (by omega)) | exact and31 (hW.op (by omega)) | exact and31 (by assumption) | exact and31r (hW.ne (by omega)) | exact and31r (hW.gp (by omega)) | exact and31r (by decide)) (fun c_59 => ?_) (fun c_59 => ?_)
        · refine mm_ciN 0 d_M_village_73 rfl ?_
          refine mm_ist6 d_M_village_74 ?_
          refine mm_iload d_M_village_76 rfl ?_
          refine mm_if_eqN d_M_village_78 (by first | omega | exact bt8_lt31 _ _ | exact godB_lt31 _ _ _ | exact pop_lt31 _ | assumption | exact b31 (hW.gp (by omega)) | exact b31 (hW.ne (by omega)) | exact b31 (hW.op (by omega)) | exact and31 (hW.gp (by omega)) | exact and31 (hW.ne (by omega)) | exact and31 (hW.op (by omega)) | exact and31 (by assumption) | exact and31r (hW.ne (by omega)) | exact and31r (hW.gp (by omega)) | exact and31r (by decide)) (fun c_78 => ?_) (fun c_78 => False.elim (by omega))
          refine mm_iload d_M_village_100 rfl ?_
          refine mm_ist4 d_M_village_102 ?_
          refine mm_inc5N d_M_village_104 ?_
          refine mm_goto d_M_village_107 ?_
          first
            | (rw [show vilM D A (t + 1) = vilM D A t by show (if _ then _ else _) = _; rw [if_neg (by omega)]] at ih; exact ih _)
            | (rw [show vilM D A (t + 1) = t by show (if _ then _ else _) = _; rw [if_pos (by omega)]] at ih; exact ih _)
        · refine mm_iload d_M_village_62 rfl ?_
          refine mm_iload d_M_village_64 rfl ?_
          refine mm_icmp_geN d_M_village_66 (by first | omega | exact bt8_lt31 _ _ | exact godB_lt31 _ _ _ | exact pop_lt31 _ | assumption | exact b31 (hW.gp (by omega)) | exact b31 (hW.ne (by omega)) | exact b31 (hW.op (by omega)) | exact and31 (hW.gp (by omega)) | exact and31 (hW.ne (by omega)) | exact and31 (hW.op (by omega)) | exact and31 (by assumption) | exact and31r (hW.ne (by omega)) | exact and31r (hW.gp (by omega)) | exact and31r (by decide)) (by first | omega | exact bt8_lt31 _ _ | exact godB_lt31 _ _ _ | exact pop_lt31 _ | assumption | exact b31 (hW.gp (by omega)) | exact b31 (hW.ne (by omega)) | exact b31 (hW.op (by omega)) | exact and31 (hW.gp (by omega)) | exact and31 (hW.ne (by omega)) | exact and31 (hW.op (by omega)) | exact and31 (by assumption) | exact and31r (hW.ne (by omega)) | exact and31r (hW.gp (by omega)) | exact and31r (by decide)) (fun c_66 => ?_) (fun c_66 => ?_)
          · refine mm_ciN 0 d_M_village_73 rfl ?_
            refine mm_ist6 d_M_village_74 ?_
            refine mm_iload d_M_village_76 rfl ?_
            refine mm_if_eqN d_M_village_78 (by first | omega | exact bt8_lt31 _ _ | exact godB_lt31 _ _ _ | exact pop_lt31 _ | assumption | exact b31 (hW.gp (by omega)) | exact b31 (hW.ne (by omega)) | exact b31 (hW.op (by omega)) | exact and31 (hW.gp (by omega)) | exact and31 (hW.ne (by omega)) | exact and31 (hW.op (by omega)) | exact and31 (by assumption) | exact and31r (hW.ne (by omega)) | exact and31r (hW.gp (by omega)) | exact and31r (by decide)) (fun c_78 => ?_) (fun c_78 => False.elim (by omega))
            refine mm_iload d_M_village_100 rfl ?_
            refine mm_ist4 d_M_village_102 ?_
            refine mm_inc5N d_M_village_104 ?_
            refine mm_goto d_M_village_107 ?_
            first
              | (rw [show vilM D A (t + 1) = vilM D A t by show (if _ then _ else _) = _; rw [if_neg (by omega)]] at ih; exact ih _)
              | (rw [show vilM D A (t + 1) = t by show (if _ then _ else _) = _; rw [if_pos (by omega)]] at ih; exact ih _)
          · refine mm_ciN 1 d_M_village_69 rfl ?_
            refine mm_goto d_M_village_70 ?_
            refine mm_ist6 d_M_village_74 ?_
            refine mm_iload d_M_village_76 rfl ?_
            refine mm_if_eqN d_M_village_78 (by first | omega | exact bt8_lt31 _ _ | exact godB_lt31 _ _ _ | exact pop_lt31 _ | assumption | exact b31 (hW.gp (by omega)) | exact b31 (hW.ne (by omega)) | exact b31 (hW.op (by omega)) | exact and31 (hW.gp (by omega)) | exact and31 (hW.ne (by omega)) | exact and31 (hW.op (by omega)) | exact and31 (by assumption) | exact and31r (hW.ne (by omega)) | exact and31r (hW.gp (by omega)) | exact and31r (by decide)) (fun c_78 => False.elim (by omega)) (fun c_78 => ?_)
            refine mm_aload d_M_village_81 rfl ?_
            refine mm_iload d_M_village_82 rfl ?_
            refine mm_v1i d_M_village_84 (sk_o_71 hM) (sp_M_allGods hH (by first | omega | assumption | exact hW.gp (by omega) | exact hW.ne (by omega) | exact hW.op (by omega) | exact and_lt256 (hW.gp (by omega)) | exact and_lt256 (hW.ne (by omega)) | exact and_lt256 (hW.op (by omega)) | exact and_lt256 (by assumption)) ?_)
            refine mm_aload d_M_village_87 rfl ?_
            refine mm_iload d_M_village_88 rfl ?_
            refine mm_v1i d_M_village_89 (sk_o_71 hM) (sp_M_allGods hH (by first | omega | assumption | exact hW.gp (by omega) | exact hW.ne (by omega) | exact hW.op (by omega) | exact and_lt256 (hW.gp (by omega)) | exact and_lt256 (hW.ne (by omega)) | exact and_lt256 (hW.op (by omega)) | exact and_lt256 (by assumption)) ?_)
            refine mm_icmp_neN d_M_village_92 (by first | omega | exact bt8_lt31 _ _ | exact godB_lt31 _ _ _ | exact pop_lt31 _ | assumption | exact b31 (hW.gp (by omega)) | exact b31 (hW.ne (by omega)) | exact b31 (hW.op (by omega)) | exact and31 (hW.gp (by omega)) | exact and31 (hW.ne (by omega)) | exact and31 (hW.op (by omega)) | exact and31 (by assumption) | exact and31r (hW.ne (by omega)) | exact and31r (hW.gp (by omega)) | exact and31r (by decide)) (by first | omega | exact bt8_lt31 _ _ | exact godB_lt31 _ _ _ | exact pop_lt31 _ | assumption | exact b31 (hW.gp (by omega)) | exact b31 (hW.ne (by omega)) | exact b31 (hW.op (by omega)) | exact and31 (hW.gp (by omega)) | exact and31 (hW.ne (by omega)) | exact and31 (hW.op (by omega)) | exact and31 (by assumption) | exact and31r (hW.ne (by omega)) | exact and31r (hW.gp (by omega)) | exact and31r (by decide)) (fun c_92 => ?_) (fun c_92 => ?_)
            · refine mm_iload d_M_village_100 rfl ?_
              refine mm_ist4 d_M_village_102 ?_
              refine mm_inc5N d_M_village_104 ?_
              refine mm_goto d_M_village_107 ?_
              first
                | (rw [show vilM D A (t + 1) = vilM D A t by show (if _ then _ else _) = _; rw [if_neg (by omega)]] at ih; exact ih _)
                | (rw [show vilM D A (t + 1) = t by show (if _ then _ else _) = _; rw [if_pos (by omega)]] at ih; exact ih _)
            · refine mm_iload d_M_village_95 rfl ?_
              refine mm_goto d_M_village_97 ?_
              refine mm_ist4 d_M_village_102 ?_
              refine mm_inc5N d_M_village_104 ?_
              refine mm_goto d_M_village_107 ?_
              first
                | (rw [show vilM D A (t + 1) = vilM D A t by show (if _ then _ else _) = _; rw [if_neg (by omega)]] at ih; exact ih _)
                | (rw [show vilM D A (t + 1) = t by show (if _ then _ else _) = _; rw [if_pos (by omega)]] at ih; exact ih _)
