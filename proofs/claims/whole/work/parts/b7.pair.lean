/-! pairs: pair -/
def paI (D : mm_D) (a : Nat) (st : Option (Nat × Nat)) : Nat → Option (Nat × Nat)
  | 0 => st
  | t + 1 => stM (paI D a st t) (10 * a + (a + 1 + t)) (vR D (nI 0) (ou2 a (a + 1 + t)))
def paO (D : mm_D) : Nat → Option (Nat × Nat)
  | 0 => none
  | a + 1 => paI D a (paO D a) (dn D - (a + 1))
def tri : Nat → Nat
  | 0 => 0
  | m + 1 => tri m + m
theorem tri_le : ∀ m, m ≤ 6 → tri m ≤ 15 := by decide
theorem paI_ok {D : mm_D} (hW : WfD D) {a : Nat} {st : Option (Nat × Nat)} (h : ∀ p, st = some p → p.1 < 100 ∧ p.2 < 900) : ∀ t, a + 1 + t ≤ 6 → ∀ p, paI D a st t = some p → p.1 < 100 ∧ p.2 < 900
  | 0, _, p, e => h p e
  | t + 1, h6, p, e => (st_ok (paI_ok hW h t (by omega)) (show 10 * a + (a + 1 + t) < 100 by omega) (vR_le hW _ _)).2 p e
theorem paO_ok {D : mm_D} (hW : WfD D) : ∀ a, a ≤ dn D → ∀ p, paO D a = some p → p.1 < 100 ∧ p.2 < 900
  | 0, _, p, e => by cases e
  | a + 1, h6, p, e => by
    have hn6 := hW.1
    exact paI_ok hW (paO_ok hW a (by omega)) (dn D - (a + 1)) (by omega) p e
theorem stM_s {st : Option (Nat × Nat)} {x v : Nat} : ∃ p, stM st x v = some p := by
  unfold stM
  cases st with
  | none => exact ⟨_, rfl⟩
  | some p =>
    simp only
    split
    · exact ⟨_, rfl⟩
    · exact ⟨_, rfl⟩
theorem paI_s {D : mm_D} {a : Nat} {st : Option (Nat × Nat)} : ∀ t, (0 < t ∨ ∃ p, st = some p) → ∃ p, paI D a st t = some p
  | 0, h => by rcases h with h | h; exact absurd h (Nat.lt_irrefl 0); exact h
  | t + 1, _ => stM_s
theorem paO_s {D : mm_D} (h2 : 2 ≤ dn D) : ∀ a, 1 ≤ a → ∃ p, paO D a = some p
  | 0, h => absurd h (by decide)
  | 1, _ => paI_s (D := D) (a := 0) (dn D - (0 + 1)) (Or.inl (by omega))
  | a + 2, _ => paI_s _ (Or.inr (paO_s h2 (a + 1) (by omega)))
theorem paO_n {D : mm_D} (h2 : dn D < 2) : ∀ a, a ≤ dn D → paO D a = none
  | 0, _ => rfl
  | a + 1, h => by
    have e : dn D - (a + 1) = 0 := by omega
    show paI D a (paO D a) (dn D - (a + 1)) = none
    rw [e]
    exact paO_n h2 a (by omega)
theorem crw_pair : ∀ a, a < 6 → ∀ b, b < 6 → ∀ c, c < 6 → bt8 (2 ^ a ||| 2 ^ b) c = 1 - ou2 a b c := by decide +kernel
theorem out_pair : ∀ a, a < 6 → ∀ b, b < 6 → ∀ c, c < 6 → bt8 (63 &&& ((2 ^ a ||| 2 ^ b) ^^^ 4294967295)) c = ou2 a b c := by decide +kernel
theorem or64p : ∀ a, a < 6 → ∀ b, b < 6 → 2 ^ a ||| 2 ^ b < 256 := by decide +kernel
theorem pair_pair {X : mm_X} {k : Nat} {μ : mm_M} (hk : k ≤ 511) (hJ : JJ k μ) (y1 y2 : Int32) : PairI X (JJ (k + 1)) k_G_pair k_M_pair [.int y1, .int y2] μ := by
  obtain ⟨c, h02, h0, m0, hv⟩ := hJ.coast y1
  have hM := hJ.1
  have hw := hJ.2.2.2.up
  rcases hv with hx | ⟨i, D, hi, rfl, hW, hCD, hDM⟩
  · exact pairQ (-1) hJ (d := 2) (d' := 4) (by decide) (by decide) (n_G_pair hM h0 h02 hx ⟨rfl, Fr.rf, hw⟩) (fun μ1 hf => n_M_pair (hf.2.2.2 hM) (by rw [(hf.2.2.1 76 rfl).1]; exact m0) h02 hx (fun μ' hk => ⟨rfl, hk.fr (hf.2.2.2 hM)⟩))
  have hn6 := hW.1
  have hw6 := hW.2.1
  obtain ⟨w, w1, w2, w3⟩ := hJ.2.2.2
  have hi2 : i < 2 := by omega
  have model : ∀ (R : Int32) (μ1 : mm_M), Fr scC μ μ1 → (R = match paO D (dn D) with | none => -1 | some p => if y2 = 0 then nI p.1 else nI p.2) → mm_Ci X 12 0 0 k_M_pair [.ref 71, .int (nI i), .int y2] μ1 (fun r μ2 => r = R ∧ Fr scM μ1 μ2) := by
    intro R μ1 hf hR
    show mm_T X 12 0 0 k_M_pair 0 [some (.ref 71), some (.int (nI i)), some (.int y2), none, none, none, none, none] [] μ1 _
    replace hM := hf.2.2.2 hM
    replace m0 : mm_I μ1 76 0 = nI c := by rw [(hf.2.2.1 76 rfl).1]; exact m0
    replace hDM := hDM.frC hf
    refine mm_aload d_M_pair_0 rfl ?_
    refine mm_ciN 0 d_M_pair_1 rfl ?_
    refine mm_putI d_M_pair_2 rfl (sk_o_71 hM) (Or.inl rfl) ?_
    refine mm_aload d_M_pair_5 rfl ?_
    refine mm_iload d_M_pair_6 rfl ?_
    refine mm_v1i d_M_pair_7 (sk_o_71 hM) (sp_M_handN hM (by first | exact m0 | (rw [mm_sI_off (by decide)]; exact m0)) h02 hi (by first | exact hDM | exact hDM.eq (mm_sI_off (by decide))) hW (fun μ2 g1 hH hZ => ?_))
    replace hM := hH.1
    refine mm_if_neN d_M_pair_10 (by first | omega | exact ite01_lt | exact bt8_lt31 _ _ | exact godB_lt31 _ _ _ | exact pop_lt31 _ | assumption | exact b31 (hW.gp (by omega)) | exact b31 (hW.ne (by omega)) | exact b31 (hW.op (by omega)) | exact and31 (hW.gp (by omega)) | exact and31 (hW.ne (by omega)) | exact and31 (hW.op (by omega)) | exact and31 (by assumption) | exact and31r (hW.ne (by omega)) | exact and31r (hW.gp (by omega)) | exact and31r (by decide)) (fun c_10 => ?_) (fun c_10 => False.elim (by omega))
    refine mm_ci d_M_pair_15 ?_
    refine mm_ist3 d_M_pair_16 ?_
    refine mm_ci d_M_pair_17 ?_
    refine mm_ist4 d_M_pair_18 ?_
    refine mm_ciN 0 d_M_pair_20 rfl ?_
    refine mm_ist5 d_M_pair_21 ?_
    have gf := (Fr.rf (S := scM) (μ := μ1).sI (j := 0) (x := nI 0) (a := 71) rfl).trans g1
    refine mm_up (P := fun a => ∀ (l6 l7 : Option Value) (ν : mm_M), Fr scM μ1 ν → Hd ν i D → mm_T X 12 0 0 k_M_pair 23 [some (.ref 71), some (.int (nI i)), some (.int y2), some (.int (xA (paO D a))), some (.int (xC (-1) (paO D a))), some (.int (nI a)), l6, l7] [] ν _) (dn D) ?_ ?_ none none μ2 gf hH
    · intro l6 l7 ν gf hH
      have hM := hH.1
      cases hst : paO D (dn D) with
      | none =>
        rw [hst] at hR
        replace hR : R = -1 := hR
        rw [show xA none = -1 from rfl]
        refine mm_iload d_M_pair_23 rfl ?_
        refine mm_aload d_M_pair_25 rfl ?_
        refine mm_getIN d_M_pair_26 rfl (sk_o_71 hM) hH.n ?_
        refine mm_icmp_geN d_M_pair_29 (by first | omega | exact ite01_lt | exact bt8_lt31 _ _ | exact godB_lt31 _ _ _ | exact pop_lt31 _ | assumption | exact b31 (hW.gp (by omega)) | exact b31 (hW.ne (by omega)) | exact b31 (hW.op (by omega)) | exact and31 (hW.gp (by omega)) | exact and31 (hW.ne (by omega)) | exact and31 (hW.op (by omega)) | exact and31 (by assumption) | exact and31r (hW.ne (by omega)) | exact and31r (hW.gp (by omega)) | exact and31r (by decide)) (by first | omega | exact ite01_lt | exact bt8_lt31 _ _ | exact godB_lt31 _ _ _ | exact pop_lt31 _ | assumption | exact b31 (hW.gp (by omega)) | exact b31 (hW.ne (by omega)) | exact b31 (hW.op (by omega)) | exact and31 (hW.gp (by omega)) | exact and31 (hW.ne (by omega)) | exact and31 (hW.op (by omega)) | exact and31 (by assumption) | exact and31r (hW.ne (by omega)) | exact and31r (hW.gp (by omega)) | exact and31r (by decide)) (fun c_29 => ?_) (fun c_29 => False.elim (by omega))
        refine mm_iload d_M_pair_109 rfl ?_
        refine mm_ci d_M_pair_110 ?_
        refine mm_icmp_eqS d_M_pair_111 ?_
        refine mm_iload d_M_pair_118 rfl ?_
        refine mm_goto d_M_pair_119 ?_
        exact mm_ri d_M_pair_124 ⟨hR.symm, gf⟩
      | some p =>
        obtain ⟨o1, o2⟩ := paO_ok hW (dn D) (Nat.le_refl _) p hst
        rw [hst] at hR
        replace hR : R = if y2 = 0 then nI p.1 else nI p.2 := hR
        rw [show xA (some p) = nI p.1 from rfl]
        refine mm_iload d_M_pair_23 rfl ?_
        refine mm_aload d_M_pair_25 rfl ?_
        refine mm_getIN d_M_pair_26 rfl (sk_o_71 hM) hH.n ?_
        refine mm_icmp_geN d_M_pair_29 (by first | omega | exact ite01_lt | exact bt8_lt31 _ _ | exact godB_lt31 _ _ _ | exact pop_lt31 _ | assumption | exact b31 (hW.gp (by omega)) | exact b31 (hW.ne (by omega)) | exact b31 (hW.op (by omega)) | exact and31 (hW.gp (by omega)) | exact and31 (hW.ne (by omega)) | exact and31 (hW.op (by omega)) | exact and31 (by assumption) | exact and31r (hW.ne (by omega)) | exact and31r (hW.gp (by omega)) | exact and31r (by decide)) (by first | omega | exact ite01_lt | exact bt8_lt31 _ _ | exact godB_lt31 _ _ _ | exact pop_lt31 _ | assumption | exact b31 (hW.gp (by omega)) | exact b31 (hW.ne (by omega)) | exact b31 (hW.op (by omega)) | exact and31 (hW.gp (by omega)) | exact and31 (hW.ne (by omega)) | exact and31 (hW.op (by omega)) | exact and31 (by assumption) | exact and31r (hW.ne (by omega)) | exact and31r (hW.gp (by omega)) | exact and31r (by decide)) (fun c_29 => ?_) (fun c_29 => False.elim (by omega))
        refine mm_iload d_M_pair_109 rfl ?_
        refine mm_ci d_M_pair_110 ?_
        refine mm_icmp_eqM1 d_M_pair_111 (by first | omega | exact ite01_lt | exact bt8_lt31 _ _ | exact godB_lt31 _ _ _ | exact pop_lt31 _ | assumption | exact b31 (hW.gp (by omega)) | exact b31 (hW.ne (by omega)) | exact b31 (hW.op (by omega)) | exact and31 (hW.gp (by omega)) | exact and31 (hW.ne (by omega)) | exact and31 (hW.op (by omega)) | exact and31 (by assumption) | exact and31r (hW.ne (by omega)) | exact and31r (hW.gp (by omega)) | exact and31r (by decide)) ?_
        refine mm_iload d_M_pair_114 rfl ?_
        refine mm_if_ne d_M_pair_115 (fun c_115 => ?_) (fun c_115 => ?_)
        · refine mm_iload d_M_pair_122 rfl ?_
          exact mm_ri d_M_pair_124 ⟨by rw [hR]; first | exact (if_pos (Decidable.not_not.mp c_115)).symm | exact (if_neg c_115).symm, gf⟩
        · refine mm_iload d_M_pair_118 rfl ?_
          refine mm_goto d_M_pair_119 ?_
          exact mm_ri d_M_pair_124 ⟨by rw [hR]; first | exact (if_pos (Decidable.not_not.mp c_115)).symm | exact (if_neg c_115).symm, gf⟩
    · intro a ha IH l6 l7 ν gf hH
      have hM := hH.1
      refine mm_iload d_M_pair_23 rfl ?_
      refine mm_aload d_M_pair_25 rfl ?_
      refine mm_getIN d_M_pair_26 rfl (sk_o_71 hM) hH.n ?_
      refine mm_icmp_geN d_M_pair_29 (by first | omega | exact ite01_lt | exact bt8_lt31 _ _ | exact godB_lt31 _ _ _ | exact pop_lt31 _ | assumption | exact b31 (hW.gp (by omega)) | exact b31 (hW.ne (by omega)) | exact b31 (hW.op (by omega)) | exact and31 (hW.gp (by omega)) | exact and31 (hW.ne (by omega)) | exact and31 (hW.op (by omega)) | exact and31 (by assumption) | exact and31r (hW.ne (by omega)) | exact and31r (hW.gp (by omega)) | exact and31r (by decide)) (by first | omega | exact ite01_lt | exact bt8_lt31 _ _ | exact godB_lt31 _ _ _ | exact pop_lt31 _ | assumption | exact b31 (hW.gp (by omega)) | exact b31 (hW.ne (by omega)) | exact b31 (hW.op (by omega)) | exact and31 (hW.gp (by omega)) | exact and31 (hW.ne (by omega)) | exact and31 (hW.op (by omega)) | exact and31 (by assumption) | exact and31r (hW.ne (by omega)) | exact and31r (hW.gp (by omega)) | exact and31r (by decide)) (fun c_29 => False.elim (by omega)) (fun c_29 => ?_)
      refine mm_iload d_M_pair_32 rfl ?_
      refine mm_ciN 1 d_M_pair_34 rfl ?_
      refine mm_iaddN d_M_pair_35 ?_
      refine mm_ist6 d_M_pair_36 ?_
      refine mm_up (P := fun t => ∀ (l7 : Option Value) (ν : mm_M), Fr scM μ1 ν → Hd ν i D → mm_T X 12 0 0 k_M_pair 38 [some (.ref 71), some (.int (nI i)), some (.int y2), some (.int (xA (paI D a (paO D a) t))), some (.int (xC (-1) (paI D a (paO D a) t))), some (.int (nI a)), some (.int (nI (a + 1 + t))), l7] [] ν _) (dn D - (a + 1)) ?_ ?_ l7 ν gf hH
      · intro l7 ν gf hH
        have hM := hH.1
        refine mm_iload d_M_pair_38 rfl ?_
        refine mm_aload d_M_pair_40 rfl ?_
        refine mm_getIN d_M_pair_41 rfl (sk_o_71 hM) hH.n ?_
        refine mm_icmp_geN d_M_pair_44 (by first | omega | exact ite01_lt | exact bt8_lt31 _ _ | exact godB_lt31 _ _ _ | exact pop_lt31 _ | assumption | exact b31 (hW.gp (by omega)) | exact b31 (hW.ne (by omega)) | exact b31 (hW.op (by omega)) | exact and31 (hW.gp (by omega)) | exact and31 (hW.ne (by omega)) | exact and31 (hW.op (by omega)) | exact and31 (by assumption) | exact and31r (hW.ne (by omega)) | exact and31r (hW.gp (by omega)) | exact and31r (by decide)) (by first | omega | exact ite01_lt | exact bt8_lt31 _ _ | exact godB_lt31 _ _ _ | exact pop_lt31 _ | assumption | exact b31 (hW.gp (by omega)) | exact b31 (hW.ne (by omega)) | exact b31 (hW.op (by omega)) | exact and31 (hW.gp (by omega)) | exact and31 (hW.ne (by omega)) | exact and31 (hW.op (by omega)) | exact and31 (by assumption) | exact and31r (hW.ne (by omega)) | exact and31r (hW.gp (by omega)) | exact and31r (by decide)) (fun c_44 => ?_) (fun c_44 => False.elim (by omega))
        refine mm_inc5N d_M_pair_103 ?_
        refine mm_goto d_M_pair_106 ?_
        exact IH _ _ ν gf hH
      · intro t ht IH2 l7 ν gf hH
        have hM := hH.1
        have hb6 : a + 1 + t < dn D := by omega
        have hs : paI D a (paO D a) (t + 1) = stM (paI D a (paO D a) t) (10 * a + (a + 1 + t)) (vR D (nI 0) (ou2 a (a + 1 + t))) := rfl
        have hv := vR_le hW (nI 0) (ou2 a (a + 1 + t))
        have hok := paI_ok (a := a) hW (paO_ok hW a (by omega)) t (by omega)
        obtain ⟨v, hve⟩ : ∃ v, vR D (nI 0) (ou2 a (a + 1 + t)) = v := ⟨_, rfl⟩
        rw [hs, hve, show a + 1 + (t + 1) = a + 1 + t + 1 by omega] at IH2
        rw [hve] at hv
        generalize hb : a + 1 + t = b at *
        have hout : 63 &&& ((2 ^ a ||| 2 ^ b) ^^^ 4294967295) < 256 := and_lt256 (by decide)
        cases hst : paI D a (paO D a) t with
        | none =>
          rw [hst] at IH2
          rw [show xA none = -1 from rfl, show xC (-1) none = -1 from rfl]
          refine mm_iload d_M_pair_38 rfl ?_
          refine mm_aload d_M_pair_40 rfl ?_
          refine mm_getIN d_M_pair_41 rfl (sk_o_71 hM) hH.n ?_
          refine mm_icmp_geN d_M_pair_44 (by first | omega | exact ite01_lt | exact bt8_lt31 _ _ | exact godB_lt31 _ _ _ | exact pop_lt31 _ | assumption | exact b31 (hW.gp (by omega)) | exact b31 (hW.ne (by omega)) | exact b31 (hW.op (by omega)) | exact and31 (hW.gp (by omega)) | exact and31 (hW.ne (by omega)) | exact and31 (hW.op (by omega)) | exact and31 (by assumption) | exact and31r (hW.ne (by omega)) | exact and31r (hW.gp (by omega)) | exact and31r (by decide)) (by first | omega | exact ite01_lt | exact bt8_lt31 _ _ | exact godB_lt31 _ _ _ | exact pop_lt31 _ | assumption | exact b31 (hW.gp (by omega)) | exact b31 (hW.ne (by omega)) | exact b31 (hW.op (by omega)) | exact and31 (hW.gp (by omega)) | exact and31 (hW.ne (by omega)) | exact and31 (hW.op (by omega)) | exact and31 (by assumption) | exact and31r (hW.ne (by omega)) | exact and31r (hW.gp (by omega)) | exact and31r (by decide)) (fun c_44 => False.elim (by omega)) (fun c_44 => ?_)
          refine mm_aload d_M_pair_47 rfl ?_
          refine mm_ciN 63 d_M_pair_48 rfl ?_
          refine mm_ciN 1 d_M_pair_50 rfl ?_
          refine mm_iload d_M_pair_51 rfl ?_
          refine mm_ishl1N d_M_pair_53 (by omega) ?_
          refine mm_ciN 1 d_M_pair_54 rfl ?_
          refine mm_iload d_M_pair_55 rfl ?_
          refine mm_ishl1N d_M_pair_57 (by omega) ?_
          refine mm_iorN d_M_pair_58 ?_
          refine mm_ci d_M_pair_59 ?_
          refine mm_inotN d_M_pair_60 ?_
          refine mm_iandN d_M_pair_61 ?_
          refine mm_ciN 0 d_M_pair_62 rfl ?_
          refine mm_v2i d_M_pair_63 (sk_o_71 hM) (sp_M_feastV (ou := ou2 a b) hH (fun x hx => out_pair a (by omega) b (by omega) x (by omega)) hout (fun ν2 f2 hH2 => ?_))
          rw [hve]
          refine mm_ist7 d_M_pair_66 ?_
          refine mm_iload d_M_pair_68 rfl ?_
          refine mm_iload d_M_pair_70 rfl ?_
          refine mm_icmp_le d_M_pair_72 (fun c_72 => False.elim (absurd c_72 (Int32.not_le.mpr (neg_lt (by decide) (by omega))))) (fun c_72 => ?_)
          refine mm_ciN 10 d_M_pair_75 rfl ?_
          refine mm_iload d_M_pair_77 rfl ?_
          refine mm_imulN d_M_pair_79 ?_
          refine mm_iload d_M_pair_80 rfl ?_
          refine mm_iaddN d_M_pair_82 ?_
          refine mm_goto d_M_pair_83 ?_
          refine mm_ist3 d_M_pair_87 ?_
          refine mm_iload d_M_pair_88 rfl ?_
          refine mm_iload d_M_pair_90 rfl ?_
          refine mm_s2i d_M_pair_92 (sp_M_greater ?_)
          rw [if_pos (Int32.le_of_lt (neg_lt (by decide) (by omega)))]
          refine mm_ist4 d_M_pair_95 ?_
          refine mm_inc6N d_M_pair_97 ?_
          refine mm_goto d_M_pair_100 ?_
          exact IH2 _ ν2 (gf.trans f2) hH2
        | some p =>
          obtain ⟨o1, o2⟩ := hok p hst
          rw [hst] at IH2
          rw [show xA (some p) = nI p.1 from rfl, show xC (-1) (some p) = nI p.2 from rfl]
          have e1 : stM (some p) (10 * a + b) v = if p.2 < v then some (10 * a + b, v) else some p := rfl
          rw [e1] at IH2
          refine mm_iload d_M_pair_38 rfl ?_
          refine mm_aload d_M_pair_40 rfl ?_
          refine mm_getIN d_M_pair_41 rfl (sk_o_71 hM) hH.n ?_
          refine mm_icmp_geN d_M_pair_44 (by first | omega | exact ite01_lt | exact bt8_lt31 _ _ | exact godB_lt31 _ _ _ | exact pop_lt31 _ | assumption | exact b31 (hW.gp (by omega)) | exact b31 (hW.ne (by omega)) | exact b31 (hW.op (by omega)) | exact and31 (hW.gp (by omega)) | exact and31 (hW.ne (by omega)) | exact and31 (hW.op (by omega)) | exact and31 (by assumption) | exact and31r (hW.ne (by omega)) | exact and31r (hW.gp (by omega)) | exact and31r (by decide)) (by first | omega | exact ite01_lt | exact bt8_lt31 _ _ | exact godB_lt31 _ _ _ | exact pop_lt31 _ | assumption | exact b31 (hW.gp (by omega)) | exact b31 (hW.ne (by omega)) | exact b31 (hW.op (by omega)) | exact and31 (hW.gp (by omega)) | exact and31 (hW.ne (by omega)) | exact and31 (hW.op (by omega)) | exact and31 (by assumption) | exact and31r (hW.ne (by omega)) | exact and31r (hW.gp (by omega)) | exact and31r (by decide)) (fun c_44 => False.elim (by omega)) (fun c_44 => ?_)
          refine mm_aload d_M_pair_47 rfl ?_
          refine mm_ciN 63 d_M_pair_48 rfl ?_
          refine mm_ciN 1 d_M_pair_50 rfl ?_
          refine mm_iload d_M_pair_51 rfl ?_
          refine mm_ishl1N d_M_pair_53 (by omega) ?_
          refine mm_ciN 1 d_M_pair_54 rfl ?_
          refine mm_iload d_M_pair_55 rfl ?_
          refine mm_ishl1N d_M_pair_57 (by omega) ?_
          refine mm_iorN d_M_pair_58 ?_
          refine mm_ci d_M_pair_59 ?_
          refine mm_inotN d_M_pair_60 ?_
          refine mm_iandN d_M_pair_61 ?_
          refine mm_ciN 0 d_M_pair_62 rfl ?_
          refine mm_v2i d_M_pair_63 (sk_o_71 hM) (sp_M_feastV (ou := ou2 a b) hH (fun x hx => out_pair a (by omega) b (by omega) x (by omega)) hout (fun ν2 f2 hH2 => ?_))
          rw [hve]
          refine mm_ist7 d_M_pair_66 ?_
          refine mm_iload d_M_pair_68 rfl ?_
          refine mm_iload d_M_pair_70 rfl ?_
          refine mm_icmp_leN d_M_pair_72 (by first | omega | exact ite01_lt | exact bt8_lt31 _ _ | exact godB_lt31 _ _ _ | exact pop_lt31 _ | assumption | exact b31 (hW.gp (by omega)) | exact b31 (hW.ne (by omega)) | exact b31 (hW.op (by omega)) | exact and31 (hW.gp (by omega)) | exact and31 (hW.ne (by omega)) | exact and31 (hW.op (by omega)) | exact and31 (by assumption) | exact and31r (hW.ne (by omega)) | exact and31r (hW.gp (by omega)) | exact and31r (by decide)) (by first | omega | exact ite01_lt | exact bt8_lt31 _ _ | exact godB_lt31 _ _ _ | exact pop_lt31 _ | assumption | exact b31 (hW.gp (by omega)) | exact b31 (hW.ne (by omega)) | exact b31 (hW.op (by omega)) | exact and31 (hW.gp (by omega)) | exact and31 (hW.ne (by omega)) | exact and31 (hW.op (by omega)) | exact and31 (by assumption) | exact and31r (hW.ne (by omega)) | exact and31r (hW.gp (by omega)) | exact and31r (by decide)) (fun c_72 => ?_) (fun c_72 => ?_)
          · refine mm_iload d_M_pair_86 rfl ?_
            refine mm_ist3 d_M_pair_87 ?_
            refine mm_iload d_M_pair_88 rfl ?_
            refine mm_iload d_M_pair_90 rfl ?_
            refine mm_s2i d_M_pair_92 (sp_M_greaterN (by omega) (by omega) ?_)
            refine mm_ist4 d_M_pair_95 ?_
            refine mm_inc6N d_M_pair_97 ?_
            refine mm_goto d_M_pair_100 ?_
            first | (rw [if_pos (by omega)] at IH2; rw [Nat.max_eq_right (by omega)]; exact IH2 _ ν2 (gf.trans f2) hH2) | (rw [if_neg (by omega)] at IH2; rw [Nat.max_eq_left (by omega)]; exact IH2 _ ν2 (gf.trans f2) hH2)
          · refine mm_ciN 10 d_M_pair_75 rfl ?_
            refine mm_iload d_M_pair_77 rfl ?_
            refine mm_imulN d_M_pair_79 ?_
            refine mm_iload d_M_pair_80 rfl ?_
            refine mm_iaddN d_M_pair_82 ?_
            refine mm_goto d_M_pair_83 ?_
            refine mm_ist3 d_M_pair_87 ?_
            refine mm_iload d_M_pair_88 rfl ?_
            refine mm_iload d_M_pair_90 rfl ?_
            refine mm_s2i d_M_pair_92 (sp_M_greaterN (by omega) (by omega) ?_)
            refine mm_ist4 d_M_pair_95 ?_
            refine mm_inc6N d_M_pair_97 ?_
            refine mm_goto d_M_pair_100 ?_
            first | (rw [if_pos (by omega)] at IH2; rw [Nat.max_eq_right (by omega)]; exact IH2 _ ν2 (gf.trans f2) hH2) | (rw [if_neg (by omega)] at IH2; rw [Nat.max_eq_left (by omega)]; exact IH2 _ ν2 (gf.trans f2) hH2)
  by_cases hn2 : dn D < 2
  · refine pairQ (-1) hJ (d := 12) (d' := 12) (by decide) (by decide) ?_ (fun μ1 hf => ?_)
    · show mm_T X 12 0 0 k_G_pair 0 [some (.ref 0), some (.int (nI i)), some (.int y2), none, none, none, none, none, none] [] μ _
      refine mm_aload d_G_pair_0 rfl ?_
      refine mm_getP d_G_pair_1 rfl (sk_o_0 hM) (sk_p_0_0 hM) ?_
      refine mm_iload d_G_pair_4 rfl ?_
      refine mm_v1r d_G_pair_5 (sk_o_1 hM) (sp_To_coastAtI hM h0 h02 hi ?_)
      refine mm_ast3 d_G_pair_8 ?_
      refine mm_aload d_G_pair_9 rfl ?_
      refine mm_ifnull d_G_pair_10 ?_
      refine mm_aload d_G_pair_13 rfl ?_
      refine mm_getIN d_G_pair_14 rfl hCD.1.1 hCD.n ?_
      refine mm_ciN 2 d_G_pair_17 rfl ?_
      refine mm_icmp_geN d_G_pair_18 (by first | omega | exact ite01_lt | exact bt8_lt31 _ _ | exact godB_lt31 _ _ _ | exact pop_lt31 _ | assumption | exact b31 (hW.gp (by omega)) | exact b31 (hW.ne (by omega)) | exact b31 (hW.op (by omega)) | exact and31 (hW.gp (by omega)) | exact and31 (hW.ne (by omega)) | exact and31 (hW.op (by omega)) | exact and31 (by assumption) | exact and31r (hW.ne (by omega)) | exact and31r (hW.gp (by omega)) | exact and31r (by decide)) (by first | omega | exact ite01_lt | exact bt8_lt31 _ _ | exact godB_lt31 _ _ _ | exact pop_lt31 _ | assumption | exact b31 (hW.gp (by omega)) | exact b31 (hW.ne (by omega)) | exact b31 (hW.op (by omega)) | exact and31 (hW.gp (by omega)) | exact and31 (hW.ne (by omega)) | exact and31 (hW.op (by omega)) | exact and31 (by assumption) | exact and31r (hW.ne (by omega)) | exact and31r (hW.gp (by omega)) | exact and31r (by decide)) (fun c_18 => False.elim (by omega)) (fun c_18 => ?_)
      refine mm_ci d_G_pair_21 ?_
      exact mm_ri d_G_pair_22 ⟨rfl, Fr.rf, hw⟩
    · exact model (-1) μ1 hf (by rw [paO_n hn2 (dn D) (Nat.le_refl _)])
  · obtain ⟨p, hp⟩ := paO_s (D := D) (by omega) (dn D) (by omega)
    obtain ⟨p1, p2⟩ := paO_ok hW (dn D) (Nat.le_refl _) p hp
    refine pairQ (if y2 = 0 then nI p.1 else nI p.2) hJ (d := 12) (d' := 12) (by decide) (by decide) ?_ (fun μ1 hf => ?_)
    · show mm_T X 12 0 0 k_G_pair 0 [some (.ref 0), some (.int (nI i)), some (.int y2), none, none, none, none, none, none] [] μ _
      refine mm_aload d_G_pair_0 rfl ?_
      refine mm_getP d_G_pair_1 rfl (sk_o_0 hM) (sk_p_0_0 hM) ?_
      refine mm_iload d_G_pair_4 rfl ?_
      refine mm_v1r d_G_pair_5 (sk_o_1 hM) (sp_To_coastAtI hM h0 h02 hi ?_)
      refine mm_ast3 d_G_pair_8 ?_
      refine mm_aload d_G_pair_9 rfl ?_
      refine mm_ifnull d_G_pair_10 ?_
      refine mm_aload d_G_pair_13 rfl ?_
      refine mm_getIN d_G_pair_14 rfl hCD.1.1 hCD.n ?_
      refine mm_ciN 2 d_G_pair_17 rfl ?_
      refine mm_icmp_geN d_G_pair_18 (by first | omega | exact ite01_lt | exact bt8_lt31 _ _ | exact godB_lt31 _ _ _ | exact pop_lt31 _ | assumption | exact b31 (hW.gp (by omega)) | exact b31 (hW.ne (by omega)) | exact b31 (hW.op (by omega)) | exact and31 (hW.gp (by omega)) | exact and31 (hW.ne (by omega)) | exact and31 (hW.op (by omega)) | exact and31 (by assumption) | exact and31r (hW.ne (by omega)) | exact and31r (hW.gp (by omega)) | exact and31r (by decide)) (by first | omega | exact ite01_lt | exact bt8_lt31 _ _ | exact godB_lt31 _ _ _ | exact pop_lt31 _ | assumption | exact b31 (hW.gp (by omega)) | exact b31 (hW.ne (by omega)) | exact b31 (hW.op (by omega)) | exact and31 (hW.gp (by omega)) | exact and31 (hW.ne (by omega)) | exact and31 (hW.op (by omega)) | exact and31 (by assumption) | exact and31r (hW.ne (by omega)) | exact and31r (hW.gp (by omega)) | exact and31r (by decide)) (fun c_18 => ?_) (fun c_18 => False.elim (by omega))
      refine mm_aload d_G_pair_23 rfl ?_
      refine mm_getP d_G_pair_24 rfl (sk_o_0 hM) (sk_p_0_4 hM) ?_
      refine mm_aload d_G_pair_27 rfl ?_
      refine mm_ciN 0 d_G_pair_28 rfl ?_
      refine mm_v2v d_G_pair_29 (sk_o_57 hM) (sp_As_begin hM hi2 hCD hW (fun ν f e57 hA => ?_))
      refine mm_ci d_G_pair_32 ?_
      refine mm_ist4 d_G_pair_33 ?_
      refine mm_ciN 0 d_G_pair_35 rfl ?_
      refine mm_ist5 d_G_pair_36 ?_
      refine mm_ciN 0 d_G_pair_38 rfl ?_
      refine mm_ist6 d_G_pair_39 ?_
      have tn := tri_le (dn D) hn6
      have hA0 : ASt D i (gN D (nI 0)) μ (w + (15 - tri (dn D - 0))) ν := ⟨f.sub scB_C, hA, w, by omega, by rw [e57]; exact w2, by intro j hj; rw [(f.2.2.1 62 rfl).1]; exact w3 j hj⟩
      refine mm_up (P := fun a => ∀ (l7 l8 : Option Value) (ν : mm_M), ASt D i (gN D (nI 0)) μ (w + (15 - tri (dn D - a))) ν → mm_T X 12 0 0 k_G_pair 41 [some (.ref 0), some (.int (nI i)), some (.int y2), some (.ref (4 + 7 * i)), some (.int (xA (paO D a))), some (.int (xB (paO D a))), some (.int (nI a)), l7, l8] [] ν _) (dn D) ?_ ?_ none none ν hA0
      · intro l7 l8 ν hA
        have hM := hA.2.1.1
        have hCD := hA.2.1.2.2.2.1
        obtain ⟨-, -, w', w1', w2', w3'⟩ := id hA
        rw [hp]
        refine mm_iload d_G_pair_41 rfl ?_
        refine mm_aload d_G_pair_43 rfl ?_
        refine mm_getIN d_G_pair_44 rfl hCD.1.1 hCD.n ?_
        refine mm_icmp_geN d_G_pair_47 (by first | omega | exact ite01_lt | exact bt8_lt31 _ _ | exact godB_lt31 _ _ _ | exact pop_lt31 _ | assumption | exact b31 (hW.gp (by omega)) | exact b31 (hW.ne (by omega)) | exact b31 (hW.op (by omega)) | exact and31 (hW.gp (by omega)) | exact and31 (hW.ne (by omega)) | exact and31 (hW.op (by omega)) | exact and31 (by assumption) | exact and31r (hW.ne (by omega)) | exact and31r (hW.gp (by omega)) | exact and31r (by decide)) (by first | omega | exact ite01_lt | exact bt8_lt31 _ _ | exact godB_lt31 _ _ _ | exact pop_lt31 _ | assumption | exact b31 (hW.gp (by omega)) | exact b31 (hW.ne (by omega)) | exact b31 (hW.op (by omega)) | exact and31 (hW.gp (by omega)) | exact and31 (hW.ne (by omega)) | exact and31 (hW.op (by omega)) | exact and31 (by assumption) | exact and31r (hW.ne (by omega)) | exact and31r (hW.gp (by omega)) | exact and31r (by decide)) (fun c_47 => ?_) (fun c_47 => False.elim (by omega))
        refine mm_iload d_G_pair_122 rfl ?_
        refine mm_if_eq d_G_pair_123 (fun c_123 => ?_) (fun c_123 => ?_)
        · refine mm_iload d_G_pair_131 rfl ?_
          exact mm_ri d_G_pair_133 ⟨by first | exact (if_pos c_123).symm | exact (if_neg c_123).symm, hA.1, Wk.of (by omega) w2' w3'⟩
        · refine mm_iload d_G_pair_126 rfl ?_
          refine mm_goto d_G_pair_128 ?_
          exact mm_ri d_G_pair_133 ⟨by first | exact (if_pos c_123).symm | exact (if_neg c_123).symm, hA.1, Wk.of (by omega) w2' w3'⟩
      · intro a ha IH l7 l8 ν hA
        have hM := hA.2.1.1
        have hCD := hA.2.1.2.2.2.1
        have ta := tri_le (dn D - a) (by omega)
        have ta1 := tri_le (dn D - (a + 1)) (by omega)
        have tt : tri (dn D - a) = tri (dn D - (a + 1)) + (dn D - (a + 1)) := by rw [show dn D - a = (dn D - (a + 1)) + 1 by omega]; rfl
        refine mm_iload d_G_pair_41 rfl ?_
        refine mm_aload d_G_pair_43 rfl ?_
        refine mm_getIN d_G_pair_44 rfl hCD.1.1 hCD.n ?_
        refine mm_icmp_geN d_G_pair_47 (by first | omega | exact ite01_lt | exact bt8_lt31 _ _ | exact godB_lt31 _ _ _ | exact pop_lt31 _ | assumption | exact b31 (hW.gp (by omega)) | exact b31 (hW.ne (by omega)) | exact b31 (hW.op (by omega)) | exact and31 (hW.gp (by omega)) | exact and31 (hW.ne (by omega)) | exact and31 (hW.op (by omega)) | exact and31 (by assumption) | exact and31r (hW.ne (by omega)) | exact and31r (hW.gp (by omega)) | exact and31r (by decide)) (by first | omega | exact ite01_lt | exact bt8_lt31 _ _ | exact godB_lt31 _ _ _ | exact pop_lt31 _ | assumption | exact b31 (hW.gp (by omega)) | exact b31 (hW.ne (by omega)) | exact b31 (hW.op (by omega)) | exact and31 (hW.gp (by omega)) | exact and31 (hW.ne (by omega)) | exact and31 (hW.op (by omega)) | exact and31 (by assumption) | exact and31r (hW.ne (by omega)) | exact and31r (hW.gp (by omega)) | exact and31r (by decide)) (fun c_47 => False.elim (by omega)) (fun c_47 => ?_)
        refine mm_iload d_G_pair_50 rfl ?_
        refine mm_ciN 1 d_G_pair_52 rfl ?_
        refine mm_iaddN d_G_pair_53 ?_
        refine mm_ist7 d_G_pair_54 ?_
        refine mm_up (P := fun t => ∀ (l8 : Option Value) (ν : mm_M), ASt D i (gN D (nI 0)) μ (w + (15 - tri (dn D - a)) + t) ν → mm_T X 12 0 0 k_G_pair 56 [some (.ref 0), some (.int (nI i)), some (.int y2), some (.ref (4 + 7 * i)), some (.int (xA (paI D a (paO D a) t))), some (.int (xB (paI D a (paO D a) t))), some (.int (nI a)), some (.int (nI (a + 1 + t))), l8] [] ν _) (dn D - (a + 1)) ?_ ?_ l8 ν hA
        · intro l8 ν hA
          have hM := hA.2.1.1
          have hCD := hA.2.1.2.2.2.1
          refine mm_iload d_G_pair_56 rfl ?_
          refine mm_aload d_G_pair_58 rfl ?_
          refine mm_getIN d_G_pair_59 rfl hCD.1.1 hCD.n ?_
          refine mm_icmp_geN d_G_pair_62 (by first | omega | exact ite01_lt | exact bt8_lt31 _ _ | exact godB_lt31 _ _ _ | exact pop_lt31 _ | assumption | exact b31 (hW.gp (by omega)) | exact b31 (hW.ne (by omega)) | exact b31 (hW.op (by omega)) | exact and31 (hW.gp (by omega)) | exact and31 (hW.ne (by omega)) | exact and31 (hW.op (by omega)) | exact and31 (by assumption) | exact and31r (hW.ne (by omega)) | exact and31r (hW.gp (by omega)) | exact and31r (by decide)) (by first | omega | exact ite01_lt | exact bt8_lt31 _ _ | exact godB_lt31 _ _ _ | exact pop_lt31 _ | assumption | exact b31 (hW.gp (by omega)) | exact b31 (hW.ne (by omega)) | exact b31 (hW.op (by omega)) | exact and31 (hW.gp (by omega)) | exact and31 (hW.ne (by omega)) | exact and31 (hW.op (by omega)) | exact and31 (by assumption) | exact and31r (hW.ne (by omega)) | exact and31r (hW.gp (by omega)) | exact and31r (by decide)) (fun c_62 => ?_) (fun c_62 => False.elim (by omega))
          refine mm_inc6N d_G_pair_116 ?_
          refine mm_goto d_G_pair_119 ?_
          exact IH _ _ ν (by rw [show w + (15 - tri (dn D - (a + 1))) = w + (15 - tri (dn D - a)) + (dn D - (a + 1)) by omega]; exact hA)
        · intro t ht IH2 l8 ν hA
          have hM := hA.2.1.1
          have hCD := hA.2.1.2.2.2.1
          have hb6 : a + 1 + t < dn D := by omega
          have hs : paI D a (paO D a) (t + 1) = stM (paI D a (paO D a) t) (10 * a + (a + 1 + t)) (vR D (nI 0) (ou2 a (a + 1 + t))) := rfl
          have hv := vR_le hW (nI 0) (ou2 a (a + 1 + t))
          have hok := paI_ok (a := a) hW (paO_ok hW a (by omega)) t (by omega)
          obtain ⟨v, hve⟩ : ∃ v, vR D (nI 0) (ou2 a (a + 1 + t)) = v := ⟨_, rfl⟩
          have hcr := or64p a (by omega) (a + 1 + t) (by omega)
          rw [hs, hve, show a + 1 + (t + 1) = a + 1 + t + 1 by omega] at IH2
          rw [hve] at hv
          generalize hb : a + 1 + t = b at *
          cases hst : paI D a (paO D a) t with
          | none =>
            rw [hst] at IH2
            rw [show xA none = -1 from rfl]
            refine mm_iload d_G_pair_56 rfl ?_
            refine mm_aload d_G_pair_58 rfl ?_
            refine mm_getIN d_G_pair_59 rfl hCD.1.1 hCD.n ?_
            refine mm_icmp_geN d_G_pair_62 (by first | omega | exact ite01_lt | exact bt8_lt31 _ _ | exact godB_lt31 _ _ _ | exact pop_lt31 _ | assumption | exact b31 (hW.gp (by omega)) | exact b31 (hW.ne (by omega)) | exact b31 (hW.op (by omega)) | exact and31 (hW.gp (by omega)) | exact and31 (hW.ne (by omega)) | exact and31 (hW.op (by omega)) | exact and31 (by assumption) | exact and31r (hW.ne (by omega)) | exact and31r (hW.gp (by omega)) | exact and31r (by decide)) (by first | omega | exact ite01_lt | exact bt8_lt31 _ _ | exact godB_lt31 _ _ _ | exact pop_lt31 _ | assumption | exact b31 (hW.gp (by omega)) | exact b31 (hW.ne (by omega)) | exact b31 (hW.op (by omega)) | exact and31 (hW.gp (by omega)) | exact and31 (hW.ne (by omega)) | exact and31 (hW.op (by omega)) | exact and31 (by assumption) | exact and31r (hW.ne (by omega)) | exact and31r (hW.gp (by omega)) | exact and31r (by decide)) (fun c_62 => False.elim (by omega)) (fun c_62 => ?_)
            refine mm_aload d_G_pair_65 rfl ?_
            refine mm_getP d_G_pair_66 rfl (sk_o_0 hM) (sk_p_0_4 hM) ?_
            refine mm_ciN 1 d_G_pair_69 rfl ?_
            refine mm_iload d_G_pair_70 rfl ?_
            refine mm_ishl1N d_G_pair_72 (by omega) ?_
            refine mm_ciN 1 d_G_pair_73 rfl ?_
            refine mm_iload d_G_pair_74 rfl ?_
            refine mm_ishl1N d_G_pair_76 (by omega) ?_
            refine mm_iorN d_G_pair_77 ?_
            refine mm_v1i d_G_pair_78 (sk_o_57 hM) (sp_As_mostV (ou := ou2 a b) hA (fun x hx => crw_pair a (by omega) b (by omega) x (by omega)) hcr (by omega) (fun ν2 hA2 => ?_))
            rw [hve]
            refine mm_ist8 d_G_pair_81 ?_
            refine mm_iload d_G_pair_83 rfl ?_
            refine mm_ci d_G_pair_85 ?_
            refine mm_icmp_eqS d_G_pair_86 ?_
            refine mm_ciN 10 d_G_pair_96 rfl ?_
            refine mm_iload d_G_pair_98 rfl ?_
            refine mm_imulN d_G_pair_100 ?_
            refine mm_iload d_G_pair_101 rfl ?_
            refine mm_iaddN d_G_pair_103 ?_
            refine mm_ist4 d_G_pair_104 ?_
            refine mm_iload d_G_pair_106 rfl ?_
            refine mm_ist5 d_G_pair_108 ?_
            refine mm_inc7N d_G_pair_110 ?_
            refine mm_goto d_G_pair_113 ?_
            exact IH2 _ ν2 hA2
          | some p =>
            obtain ⟨o1, o2⟩ := hok p hst
            rw [hst] at IH2
            rw [show xA (some p) = nI p.1 from rfl, show xB (some p) = nI p.2 from rfl]
            have e1 : stM (some p) (10 * a + b) v = if p.2 < v then some (10 * a + b, v) else some p := rfl
            rw [e1] at IH2
            refine mm_iload d_G_pair_56 rfl ?_
            refine mm_aload d_G_pair_58 rfl ?_
            refine mm_getIN d_G_pair_59 rfl hCD.1.1 hCD.n ?_
            refine mm_icmp_geN d_G_pair_62 (by first | omega | exact ite01_lt | exact bt8_lt31 _ _ | exact godB_lt31 _ _ _ | exact pop_lt31 _ | assumption | exact b31 (hW.gp (by omega)) | exact b31 (hW.ne (by omega)) | exact b31 (hW.op (by omega)) | exact and31 (hW.gp (by omega)) | exact and31 (hW.ne (by omega)) | exact and31 (hW.op (by omega)) | exact and31 (by assumption) | exact and31r (hW.ne (by omega)) | exact and31r (hW.gp (by omega)) | exact and31r (by decide)) (by first | omega | exact ite01_lt | exact bt8_lt31 _ _ | exact godB_lt31 _ _ _ | exact pop_lt31 _ | assumption | exact b31 (hW.gp (by omega)) | exact b31 (hW.ne (by omega)) | exact b31 (hW.op (by omega)) | exact and31 (hW.gp (by omega)) | exact and31 (hW.ne (by omega)) | exact and31 (hW.op (by omega)) | exact and31 (by assumption) | exact and31r (hW.ne (by omega)) | exact and31r (hW.gp (by omega)) | exact and31r (by decide)) (fun c_62 => False.elim (by omega)) (fun c_62 => ?_)
            refine mm_aload d_G_pair_65 rfl ?_
            refine mm_getP d_G_pair_66 rfl (sk_o_0 hM) (sk_p_0_4 hM) ?_
            refine mm_ciN 1 d_G_pair_69 rfl ?_
            refine mm_iload d_G_pair_70 rfl ?_
            refine mm_ishl1N d_G_pair_72 (by omega) ?_
            refine mm_ciN 1 d_G_pair_73 rfl ?_
            refine mm_iload d_G_pair_74 rfl ?_
            refine mm_ishl1N d_G_pair_76 (by omega) ?_
            refine mm_iorN d_G_pair_77 ?_
            refine mm_v1i d_G_pair_78 (sk_o_57 hM) (sp_As_mostV (ou := ou2 a b) hA (fun x hx => crw_pair a (by omega) b (by omega) x (by omega)) hcr (by omega) (fun ν2 hA2 => ?_))
            rw [hve]
            refine mm_ist8 d_G_pair_81 ?_
            refine mm_iload d_G_pair_83 rfl ?_
            refine mm_ci d_G_pair_85 ?_
            refine mm_icmp_eqM1 d_G_pair_86 (by first | omega | exact ite01_lt | exact bt8_lt31 _ _ | exact godB_lt31 _ _ _ | exact pop_lt31 _ | assumption | exact b31 (hW.gp (by omega)) | exact b31 (hW.ne (by omega)) | exact b31 (hW.op (by omega)) | exact and31 (hW.gp (by omega)) | exact and31 (hW.ne (by omega)) | exact and31 (hW.op (by omega)) | exact and31 (by assumption) | exact and31r (hW.ne (by omega)) | exact and31r (hW.gp (by omega)) | exact and31r (by decide)) ?_
            refine mm_iload d_G_pair_89 rfl ?_
            refine mm_iload d_G_pair_91 rfl ?_
            refine mm_icmp_leN d_G_pair_93 (by first | omega | exact ite01_lt | exact bt8_lt31 _ _ | exact godB_lt31 _ _ _ | exact pop_lt31 _ | assumption | exact b31 (hW.gp (by omega)) | exact b31 (hW.ne (by omega)) | exact b31 (hW.op (by omega)) | exact and31 (hW.gp (by omega)) | exact and31 (hW.ne (by omega)) | exact and31 (hW.op (by omega)) | exact and31 (by assumption) | exact and31r (hW.ne (by omega)) | exact and31r (hW.gp (by omega)) | exact and31r (by decide)) (by first | omega | exact ite01_lt | exact bt8_lt31 _ _ | exact godB_lt31 _ _ _ | exact pop_lt31 _ | assumption | exact b31 (hW.gp (by omega)) | exact b31 (hW.ne (by omega)) | exact b31 (hW.op (by omega)) | exact and31 (hW.gp (by omega)) | exact and31 (hW.ne (by omega)) | exact and31 (hW.op (by omega)) | exact and31 (by assumption) | exact and31r (hW.ne (by omega)) | exact and31r (hW.gp (by omega)) | exact and31r (by decide)) (fun c_93 => ?_) (fun c_93 => ?_)
            · refine mm_inc7N d_G_pair_110 ?_
              refine mm_goto d_G_pair_113 ?_
              first | (rw [if_pos (by omega)] at IH2; exact IH2 _ ν2 hA2) | (rw [if_neg (by omega)] at IH2; exact IH2 _ ν2 hA2)
            · refine mm_ciN 10 d_G_pair_96 rfl ?_
              refine mm_iload d_G_pair_98 rfl ?_
              refine mm_imulN d_G_pair_100 ?_
              refine mm_iload d_G_pair_101 rfl ?_
              refine mm_iaddN d_G_pair_103 ?_
              refine mm_ist4 d_G_pair_104 ?_
              refine mm_iload d_G_pair_106 rfl ?_
              refine mm_ist5 d_G_pair_108 ?_
              refine mm_inc7N d_G_pair_110 ?_
              refine mm_goto d_G_pair_113 ?_
              first | (rw [if_pos (by omega)] at IH2; exact IH2 _ ν2 hA2) | (rw [if_neg (by omega)] at IH2; exact IH2 _ ν2 hA2)
    · exact model _ μ1 hf (by rw [hp])
