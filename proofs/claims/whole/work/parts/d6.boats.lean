/-! the pairs boats, seat -/
theorem sp_M_boatsOf {X : mm_X} {μ : mm_M} {q : Int32 → mm_M → Prop} {k R : Nat} {D : mm_D} (hH : Hd μ k D) (hR1 : 1 ≤ R) (hR : R ≤ 6) (h : ∀ m g ν, m ≤ dn D → (∀ m', m' < m → ¬ Sl D R m' 0 f0) → Gr D R m 0 g → Fr scM μ ν → Hd ν k D → (∀ b, b < dn D → mm_I ν 86 b = nI (g b)) → q (nI m) ν) : mm_Ci X 4 0 0 k_M_boatsOf [.ref 71, .int (nI R)] μ q := by
  show mm_T X 4 0 0 k_M_boatsOf 0 [some (.ref 71), some (.int (nI R)), none, none, none] [] μ _
  have hW := hH.wf
  have hn6 := hW.1
  have hM := hH.1
  by_cases hN : dn D = 0
  · have hg : Gr D R 0 0 f0 := ⟨fun b hb => absurd hb (by omega), by rw [hN]; exact ⟨fun x => Nat.zero_le _, fun a b ha => absurd ha (Nat.not_lt_zero a)⟩, fun c' _ hc => absurd hc (by omega)⟩
    refine mm_ciN 1 d_M_boatsOf_0 rfl ?_
    refine mm_ist2 d_M_boatsOf_1 ?_
    refine mm_iload d_M_boatsOf_2 rfl ?_
    refine mm_aload d_M_boatsOf_3 rfl ?_
    refine mm_getIN d_M_boatsOf_4 rfl (sk_o_71 hM) hH.n ?_
    refine mm_icmp_gtN d_M_boatsOf_7 (by first | omega | exact ite01_lt | exact bt8_lt31 _ _ | exact godB_lt31 _ _ _ | exact pop_lt31 _ | assumption | exact b31 (hW.gp (by omega)) | exact b31 (hW.ne (by omega)) | exact b31 (hW.op (by omega)) | exact and31 (hW.gp (by omega)) | exact and31 (hW.ne (by omega)) | exact and31 (hW.op (by omega)) | exact and31 (by assumption) | exact and31r (hW.ne (by omega)) | exact and31r (hW.gp (by omega)) | exact and31r (by decide)) (by first | omega | exact ite01_lt | exact bt8_lt31 _ _ | exact godB_lt31 _ _ _ | exact pop_lt31 _ | assumption | exact b31 (hW.gp (by omega)) | exact b31 (hW.ne (by omega)) | exact b31 (hW.op (by omega)) | exact and31 (hW.gp (by omega)) | exact and31 (hW.ne (by omega)) | exact and31 (hW.op (by omega)) | exact and31 (by assumption) | exact and31r (hW.ne (by omega)) | exact and31r (hW.gp (by omega)) | exact and31r (by decide)) (fun c_7 => ?_) (fun c_7 => False.elim (by omega))
    refine mm_ciN 0 d_M_boatsOf_68 rfl ?_
    exact mm_ri d_M_boatsOf_69 (h 0 f0 μ (Nat.zero_le _) (fun m' y => absurd y (Nat.not_lt_zero m')) hg Fr.rf hH (fun b hb => absurd hb (by omega)))
  · refine mm_ciN 1 d_M_boatsOf_0 rfl ?_
    refine mm_ist2 d_M_boatsOf_1 ?_
    have s0 : ¬ Sl D R 0 0 f0 := fun ⟨g, _, g2, _⟩ => absurd (g2 0 (by omega)) (Nat.not_lt_zero _)
    refine mm_up (P := fun t => ∀ (l3 l4 : Option Value) (ν : mm_M), Fr scM μ ν → Hd ν k D → (∀ m', m' < 1 + t → ¬ Sl D R m' 0 f0) → mm_T X 4 0 0 k_M_boatsOf 2 [some (.ref 71), some (.int (nI R)), some (.int (nI (1 + t))), l3, l4] [] ν (fun v μ' => ∃ r, v = some (.int r) ∧ q r μ')) (dn D) ?_ ?_ none none μ Fr.rf hH (fun m' y => by rw [show m' = 0 by omega]; exact s0)
    · intro l3 l4 ν hf hH hn
      exact absurd (Sl_all hR1 f0) (hn (dn D) (by omega))
    · intro t ht IH l3 l4 ν hf hH hn
      have hM := hH.1
      obtain ⟨m, hme⟩ : ∃ m, 1 + t = m := ⟨_, rfl⟩
      rw [show 1 + (t + 1) = 1 + t + 1 by omega, hme] at IH
      rw [hme] at hn ⊢
      have hm1 : 1 ≤ m := by omega
      have hm6 : m ≤ dn D := by omega
      have hpm := p6 (m := m) (n := dn D) (by omega) hn6 hm1
      have rows : ∀ (ν : mm_M), Fr scM μ ν → Hd ν k D → mm_T X 4 0 0 k_M_boatsOf 37 [some (.ref 71), some (.int (nI R)), some (.int (nI m)), some (.int (nI (m ^ dn D))), some (.int (nI 0))] [] ν (fun v μ' => ∃ r, v = some (.int r) ∧ q r μ') := by
        intro ν hf hH
        refine mm_up (P := fun row => ∀ ν, Fr scM μ ν → Hd ν k D → (∀ r', r' < row → ¬ Vl D R (dn D) (dgt m (dn D) r')) → mm_T X 4 0 0 k_M_boatsOf 37 [some (.ref 71), some (.int (nI R)), some (.int (nI m)), some (.int (nI (m ^ dn D))), some (.int (nI row))] [] ν (fun v μ' => ∃ r, v = some (.int r) ∧ q r μ')) (m ^ dn D) ?_ ?_ ν hf hH (fun r' y => absurd y (Nat.not_lt_zero r'))
        · intro ν hf hH hno
          have ns := row_no (f := f0) hm1 hno
          refine mm_iload d_M_boatsOf_37 rfl ?_
          refine mm_iload d_M_boatsOf_39 rfl ?_
          refine mm_icmp_geN d_M_boatsOf_40 (by first | omega | exact ite01_lt | exact bt8_lt31 _ _ | exact godB_lt31 _ _ _ | exact pop_lt31 _ | assumption | exact b31 (hW.gp (by omega)) | exact b31 (hW.ne (by omega)) | exact b31 (hW.op (by omega)) | exact and31 (hW.gp (by omega)) | exact and31 (hW.ne (by omega)) | exact and31 (hW.op (by omega)) | exact and31 (by assumption) | exact and31r (hW.ne (by omega)) | exact and31r (hW.gp (by omega)) | exact and31r (by decide)) (by first | omega | exact ite01_lt | exact bt8_lt31 _ _ | exact godB_lt31 _ _ _ | exact pop_lt31 _ | assumption | exact b31 (hW.gp (by omega)) | exact b31 (hW.ne (by omega)) | exact b31 (hW.op (by omega)) | exact and31 (hW.gp (by omega)) | exact and31 (hW.ne (by omega)) | exact and31 (hW.op (by omega)) | exact and31 (by assumption) | exact and31r (hW.ne (by omega)) | exact and31r (hW.gp (by omega)) | exact and31r (by decide)) (fun c_40 => ?_) (fun c_40 => False.elim (by omega))
          refine mm_inc2N d_M_boatsOf_62 ?_
          refine mm_goto d_M_boatsOf_65 ?_
          exact IH _ _ ν hf hH (fun m' y => by by_cases z : m' = m; (rw [z]; exact ns); exact hn m' (by omega))
        · intro row hrow IH2 ν hf hH hno
          have hM := hH.1
          refine mm_iload d_M_boatsOf_37 rfl ?_
          refine mm_iload d_M_boatsOf_39 rfl ?_
          refine mm_icmp_geN d_M_boatsOf_40 (by first | omega | exact ite01_lt | exact bt8_lt31 _ _ | exact godB_lt31 _ _ _ | exact pop_lt31 _ | assumption | exact b31 (hW.gp (by omega)) | exact b31 (hW.ne (by omega)) | exact b31 (hW.op (by omega)) | exact and31 (hW.gp (by omega)) | exact and31 (hW.ne (by omega)) | exact and31 (hW.op (by omega)) | exact and31 (by assumption) | exact and31r (hW.ne (by omega)) | exact and31r (hW.gp (by omega)) | exact and31r (by decide)) (by first | omega | exact ite01_lt | exact bt8_lt31 _ _ | exact godB_lt31 _ _ _ | exact pop_lt31 _ | assumption | exact b31 (hW.gp (by omega)) | exact b31 (hW.ne (by omega)) | exact b31 (hW.op (by omega)) | exact and31 (hW.gp (by omega)) | exact and31 (hW.ne (by omega)) | exact and31 (hW.op (by omega)) | exact and31 (by assumption) | exact and31r (hW.ne (by omega)) | exact and31r (hW.gp (by omega)) | exact and31r (by decide)) (fun c_40 => False.elim (by omega)) (fun c_40 => ?_)
          refine mm_aload d_M_boatsOf_43 rfl ?_
          refine mm_iload d_M_boatsOf_44 rfl ?_
          refine mm_iload d_M_boatsOf_46 rfl ?_
          refine mm_iload d_M_boatsOf_47 rfl ?_
          refine mm_v3i d_M_boatsOf_48 (sk_o_71 hM) (sp_M_isRow hH (by omega) hm1 (by omega) hR hrow (fun hV ν' a1 a2 a3 => ?_) (fun nV ν' a1 a2 => ?_))
          · refine mm_if_eqN d_M_boatsOf_51 (by decide) (fun y => absurd y (by decide)) (fun _ => ?_)
            refine mm_iload d_M_boatsOf_54 rfl ?_
            exact mm_ri d_M_boatsOf_55 (h m _ ν' hm6 hn (row_gr hm1 hrow hV hno) (hf.trans a1) a2 a3)
          · refine mm_if_eqN d_M_boatsOf_51 (by decide) (fun _ => ?_) (fun y => absurd rfl y)
            refine mm_inc4N d_M_boatsOf_56 ?_
            refine mm_goto d_M_boatsOf_59 ?_
            exact IH2 ν' (hf.trans a1) a2 (fun r' y => by by_cases z : r' = row; (rw [z]; exact nV); exact hno r' (by omega))
      refine mm_iload d_M_boatsOf_2 rfl ?_
      refine mm_aload d_M_boatsOf_3 rfl ?_
      refine mm_getIN d_M_boatsOf_4 rfl (sk_o_71 hM) hH.n ?_
      refine mm_icmp_gtN d_M_boatsOf_7 (by first | omega | exact ite01_lt | exact bt8_lt31 _ _ | exact godB_lt31 _ _ _ | exact pop_lt31 _ | assumption | exact b31 (hW.gp (by omega)) | exact b31 (hW.ne (by omega)) | exact b31 (hW.op (by omega)) | exact and31 (hW.gp (by omega)) | exact and31 (hW.ne (by omega)) | exact and31 (hW.op (by omega)) | exact and31 (by assumption) | exact and31r (hW.ne (by omega)) | exact and31r (hW.gp (by omega)) | exact and31r (by decide)) (by first | omega | exact ite01_lt | exact bt8_lt31 _ _ | exact godB_lt31 _ _ _ | exact pop_lt31 _ | assumption | exact b31 (hW.gp (by omega)) | exact b31 (hW.ne (by omega)) | exact b31 (hW.op (by omega)) | exact and31 (hW.gp (by omega)) | exact and31 (hW.ne (by omega)) | exact and31 (hW.op (by omega)) | exact and31 (by assumption) | exact and31r (hW.ne (by omega)) | exact and31r (hW.gp (by omega)) | exact and31r (by decide)) (fun c_7 => False.elim (by omega)) (fun c_7 => ?_)
      refine mm_ciN 1 d_M_boatsOf_10 rfl ?_
      refine mm_ist3 d_M_boatsOf_11 ?_
      refine mm_ciN 0 d_M_boatsOf_12 rfl ?_
      refine mm_ist4 d_M_boatsOf_13 ?_
      refine mm_up (P := fun i => mm_T X 4 0 0 k_M_boatsOf 15 [some (.ref 71), some (.int (nI R)), some (.int (nI m)), some (.int (nI (m ^ i))), some (.int (nI i))] [] ν (fun v μ' => ∃ r, v = some (.int r) ∧ q r μ')) (dn D) ?_ ?_
      · refine mm_iload d_M_boatsOf_15 rfl ?_
        refine mm_aload d_M_boatsOf_17 rfl ?_
        refine mm_getIN d_M_boatsOf_18 rfl (sk_o_71 hM) hH.n ?_
        refine mm_icmp_geN d_M_boatsOf_21 (by first | omega | exact ite01_lt | exact bt8_lt31 _ _ | exact godB_lt31 _ _ _ | exact pop_lt31 _ | assumption | exact b31 (hW.gp (by omega)) | exact b31 (hW.ne (by omega)) | exact b31 (hW.op (by omega)) | exact and31 (hW.gp (by omega)) | exact and31 (hW.ne (by omega)) | exact and31 (hW.op (by omega)) | exact and31 (by assumption) | exact and31r (hW.ne (by omega)) | exact and31r (hW.gp (by omega)) | exact and31r (by decide)) (by first | omega | exact ite01_lt | exact bt8_lt31 _ _ | exact godB_lt31 _ _ _ | exact pop_lt31 _ | assumption | exact b31 (hW.gp (by omega)) | exact b31 (hW.ne (by omega)) | exact b31 (hW.op (by omega)) | exact and31 (hW.gp (by omega)) | exact and31 (hW.ne (by omega)) | exact and31 (hW.op (by omega)) | exact and31 (by assumption) | exact and31r (hW.ne (by omega)) | exact and31r (hW.gp (by omega)) | exact and31r (by decide)) (fun c_21 => ?_) (fun c_21 => False.elim (by omega))
        refine mm_ciN 0 d_M_boatsOf_34 rfl ?_
        refine mm_ist4 d_M_boatsOf_35 ?_
        exact rows ν hf hH
      · intro i hi IH2
        rw [Nat.pow_succ] at IH2
        refine mm_iload d_M_boatsOf_15 rfl ?_
        refine mm_aload d_M_boatsOf_17 rfl ?_
        refine mm_getIN d_M_boatsOf_18 rfl (sk_o_71 hM) hH.n ?_
        refine mm_icmp_geN d_M_boatsOf_21 (by first | omega | exact ite01_lt | exact bt8_lt31 _ _ | exact godB_lt31 _ _ _ | exact pop_lt31 _ | assumption | exact b31 (hW.gp (by omega)) | exact b31 (hW.ne (by omega)) | exact b31 (hW.op (by omega)) | exact and31 (hW.gp (by omega)) | exact and31 (hW.ne (by omega)) | exact and31 (hW.op (by omega)) | exact and31 (by assumption) | exact and31r (hW.ne (by omega)) | exact and31r (hW.gp (by omega)) | exact and31r (by decide)) (by first | omega | exact ite01_lt | exact bt8_lt31 _ _ | exact godB_lt31 _ _ _ | exact pop_lt31 _ | assumption | exact b31 (hW.gp (by omega)) | exact b31 (hW.ne (by omega)) | exact b31 (hW.op (by omega)) | exact and31 (hW.gp (by omega)) | exact and31 (hW.ne (by omega)) | exact and31 (hW.op (by omega)) | exact and31 (by assumption) | exact and31r (hW.ne (by omega)) | exact and31r (hW.gp (by omega)) | exact and31r (by decide)) (fun c_21 => False.elim (by omega)) (fun c_21 => ?_)
        refine mm_iload d_M_boatsOf_24 rfl ?_
        refine mm_iload d_M_boatsOf_25 rfl ?_
        refine mm_imulN d_M_boatsOf_26 ?_
        refine mm_ist3 d_M_boatsOf_27 ?_
        refine mm_inc4N d_M_boatsOf_28 ?_
        refine mm_goto d_M_boatsOf_31 ?_
        exact IH2
theorem pairE {X : mm_X} {k : Nat} {μ : mm_M} {kc km : mm_K} {as : List Value} {d d' : Nat} (A : Int32 → Prop) (hJ : JJ k μ) (hd : d ≤ 30) (hd' : d' ≤ 30) (HC : mm_Ci X d 0 0 kc (.ref 0 :: as) μ (fun r μ1 => A r ∧ Fr scC μ μ1 ∧ Wk (k + 1) μ1)) (HM : ∀ r μ1, A r → Fr scC μ μ1 → mm_Ci X d' 0 0 km (.ref 71 :: as) μ1 (fun r' μ2 => r = r' ∧ Fr scM μ1 μ2)) : PairI X (JJ (k + 1)) kc km as μ := by
  refine (HC.lift 30 40 1100 hd).imp (fun r μ1 h => ?_)
  obtain ⟨hA, hf, hw⟩ := h
  refine ⟨hf.2.2.2 hJ.1, ((HM r μ1 hA hf).lift 30 0 0 hd').imp (fun r' μ2 h => ?_)⟩
  obtain ⟨rfl, hg⟩ := h
  exact ⟨rfl, hJ.asked hf hw hg⟩
theorem least_eq {D : mm_D} {R m m' : Nat} {g g' : Nat → Nat} (h1 : ∀ x, x < m → ¬ Sl D R x 0 f0) (h2 : Gr D R m 0 g) (h1' : ∀ x, x < m' → ¬ Sl D R x 0 f0) (h2' : Gr D R m' 0 g') : m = m' := by
  have s : Sl D R m 0 f0 := Sl_cg (fun b hb => absurd hb (Nat.not_lt_zero b)) (Gr_sl h2)
  have s' : Sl D R m' 0 f0 := Sl_cg (fun b hb => absurd hb (Nat.not_lt_zero b)) (Gr_sl h2')
  rcases Nat.lt_trichotomy m m' with y | y | y
  · exact absurd s (h1' m y)
  · exact y
  · exact absurd s' (h1 m' y)
theorem pair_boats {X : mm_X} {k : Nat} {μ : mm_M} (hJ : JJ k μ) (y1 y2 : Int32) : PairI X (JJ (k + 1)) k_G_boats k_M_boats [.int y1, .int y2] μ := by
  obtain ⟨c, h02, h0, m0, hv⟩ := hJ.coast y1
  have hM := hJ.1
  have hw := hJ.2.2.2.up
  rcases hv with hx | ⟨i, D, hi, rfl, hW, hCD, hDM⟩
  · exact pairQ (-1) hJ (d := 2) (d' := 4) (by decide) (by decide) (n_G_boats hM h0 h02 hx ⟨rfl, Fr.rf, hw⟩) (fun μ1 hf => n_M_boats (hf.2.2.2 hM) (by rw [(hf.2.2.1 76 rfl).1]; exact m0) h02 hx (fun μ' hk => ⟨rfl, hk.fr (hf.2.2.2 hM)⟩))
  have hn6 := hW.1
  have hw6 := hW.2.1
  have hi2 : i < 2 := by omega
  rcases rng_or y2 (a := 1) (b := 6) (by decide) (by decide) with ⟨hz, hz2⟩ | ⟨R, hR1, hR, rfl⟩
  · refine pairQ (-1) hJ (d := 12) (d' := 12) (by decide) (by decide) ?_ (fun μ1 hf => ?_)
    · show mm_T X 12 0 0 k_G_boats 0 [some (.ref 0), some (.int (nI i)), some (.int y2), none] [] μ _
      refine mm_aload d_G_boats_0 rfl ?_
      refine mm_getP d_G_boats_1 rfl (sk_o_0 hM) (sk_p_0_0 hM) ?_
      refine mm_iload d_G_boats_4 rfl ?_
      refine mm_v1r d_G_boats_5 (sk_o_1 hM) (sp_To_coastAtI hM h0 h02 hi ?_)
      refine mm_ast3 d_G_boats_8 ?_
      refine mm_aload d_G_boats_9 rfl ?_
      refine mm_ifnull d_G_boats_10 ?_
      refine mm_iload d_G_boats_13 rfl ?_
      refine mm_ciN 1 d_G_boats_14 rfl ?_
      refine mm_icmp_lt d_G_boats_15 (fun c_15 => ?_) (fun c_15 => ?_)
      · refine mm_ci d_G_boats_24 ?_
        exact mm_ri d_G_boats_25 ⟨rfl, Fr.rf, hw⟩
      · refine mm_iload d_G_boats_18 rfl ?_
        refine mm_ciN 6 d_G_boats_19 rfl ?_
        refine mm_icmp_le d_G_boats_21 (fun c_21 => False.elim (hz2.elim (fun y => c_15 y) (fun y => absurd c_21 (Int32.not_le.mpr y)))) (fun c_21 => ?_)
        refine mm_ci d_G_boats_24 ?_
        exact mm_ri d_G_boats_25 ⟨rfl, Fr.rf, hw⟩
    · show mm_T X 12 0 0 k_M_boats 0 [some (.ref 71), some (.int (nI i)), some (.int y2)] [] μ1 _
      replace hM := hf.2.2.2 hM
      replace m0 : mm_I μ1 76 0 = nI c := by rw [(hf.2.2.1 76 rfl).1]; exact m0
      replace hDM := hDM.frC hf
      refine mm_aload d_M_boats_0 rfl ?_
      refine mm_ciN 0 d_M_boats_1 rfl ?_
      refine mm_putI d_M_boats_2 rfl (sk_o_71 hM) (Or.inl rfl) ?_
      refine mm_iload d_M_boats_5 rfl ?_
      refine mm_ciN 1 d_M_boats_6 rfl ?_
      refine mm_ciN 6 d_M_boats_7 rfl ?_
      refine mm_s3i d_M_boats_9 (sp_M_inB hz ?_)
      refine mm_if_eqN d_M_boats_12 (by first | omega | exact ite01_lt | exact bt8_lt31 _ _ | exact godB_lt31 _ _ _ | exact pop_lt31 _ | assumption | exact b31 (hW.gp (by omega)) | exact b31 (hW.ne (by omega)) | exact b31 (hW.op (by omega)) | exact and31 (hW.gp (by omega)) | exact and31 (hW.ne (by omega)) | exact and31 (hW.op (by omega)) | exact and31 (by assumption) | exact and31r (hW.ne (by omega)) | exact and31r (hW.gp (by omega)) | exact and31r (by decide)) (fun c_12 => ?_) (fun c_12 => False.elim (by omega))
      refine mm_ci d_M_boats_31 ?_
      exact mm_ri d_M_boats_32 ⟨rfl, Fr.rf.sI rfl⟩
  · refine pairE (fun r => ∃ m g, (∀ x, x < m → ¬ Sl D R x 0 f0) ∧ Gr D R m 0 g ∧ r = nI m) hJ (d := 12) (d' := 12) (by decide) (by decide) ?_ (fun r μ1 hA hf => ?_)
    · show mm_T X 12 0 0 k_G_boats 0 [some (.ref 0), some (.int (nI i)), some (.int (nI R)), none] [] μ _
      refine mm_aload d_G_boats_0 rfl ?_
      refine mm_getP d_G_boats_1 rfl (sk_o_0 hM) (sk_p_0_0 hM) ?_
      refine mm_iload d_G_boats_4 rfl ?_
      refine mm_v1r d_G_boats_5 (sk_o_1 hM) (sp_To_coastAtI hM h0 h02 hi ?_)
      refine mm_ast3 d_G_boats_8 ?_
      refine mm_aload d_G_boats_9 rfl ?_
      refine mm_ifnull d_G_boats_10 ?_
      refine mm_iload d_G_boats_13 rfl ?_
      refine mm_ciN 1 d_G_boats_14 rfl ?_
      refine mm_icmp_ltN d_G_boats_15 (by first | omega | exact ite01_lt | exact bt8_lt31 _ _ | exact godB_lt31 _ _ _ | exact pop_lt31 _ | assumption | exact b31 (hW.gp (by omega)) | exact b31 (hW.ne (by omega)) | exact b31 (hW.op (by omega)) | exact and31 (hW.gp (by omega)) | exact and31 (hW.ne (by omega)) | exact and31 (hW.op (by omega)) | exact and31 (by assumption) | exact and31r (hW.ne (by omega)) | exact and31r (hW.gp (by omega)) | exact and31r (by decide)) (by first | omega | exact ite01_lt | exact bt8_lt31 _ _ | exact godB_lt31 _ _ _ | exact pop_lt31 _ | assumption | exact b31 (hW.gp (by omega)) | exact b31 (hW.ne (by omega)) | exact b31 (hW.op (by omega)) | exact and31 (hW.gp (by omega)) | exact and31 (hW.ne (by omega)) | exact and31 (hW.op (by omega)) | exact and31 (by assumption) | exact and31r (hW.ne (by omega)) | exact and31r (hW.gp (by omega)) | exact and31r (by decide)) (fun c_15 => False.elim (by omega)) (fun c_15 => ?_)
      refine mm_iload d_G_boats_18 rfl ?_
      refine mm_ciN 6 d_G_boats_19 rfl ?_
      refine mm_icmp_leN d_G_boats_21 (by first | omega | exact ite01_lt | exact bt8_lt31 _ _ | exact godB_lt31 _ _ _ | exact pop_lt31 _ | assumption | exact b31 (hW.gp (by omega)) | exact b31 (hW.ne (by omega)) | exact b31 (hW.op (by omega)) | exact and31 (hW.gp (by omega)) | exact and31 (hW.ne (by omega)) | exact and31 (hW.op (by omega)) | exact and31 (by assumption) | exact and31r (hW.ne (by omega)) | exact and31r (hW.gp (by omega)) | exact and31r (by decide)) (by first | omega | exact ite01_lt | exact bt8_lt31 _ _ | exact godB_lt31 _ _ _ | exact pop_lt31 _ | assumption | exact b31 (hW.gp (by omega)) | exact b31 (hW.ne (by omega)) | exact b31 (hW.op (by omega)) | exact and31 (hW.gp (by omega)) | exact and31 (hW.ne (by omega)) | exact and31 (hW.op (by omega)) | exact and31 (by assumption) | exact and31r (hW.ne (by omega)) | exact and31r (hW.gp (by omega)) | exact and31r (by decide)) (fun c_21 => ?_) (fun c_21 => False.elim (by omega))
      refine mm_aload d_G_boats_26 rfl ?_
      refine mm_getP d_G_boats_27 rfl (sk_o_0 hM) (sk_p_0_5 hM) ?_
      refine mm_aload d_G_boats_30 rfl ?_
      refine mm_iload d_G_boats_31 rfl ?_
      refine mm_v2i d_G_boats_32 (sk_o_63 hM) (sp_Bo_fewest hM hi2 hCD hW hR1 hR (fun m g ν a1 a2 a3 a4 a5 a6 a7 => ?_))
      exact mm_ri d_G_boats_35 ⟨⟨m, g, a2, a3, rfl⟩, a4, hw.cg a5 a6⟩
    · obtain ⟨m, g, b1, b2, rfl⟩ := hA
      show mm_T X 12 0 0 k_M_boats 0 [some (.ref 71), some (.int (nI i)), some (.int (nI R))] [] μ1 _
      replace hM := hf.2.2.2 hM
      replace m0 : mm_I μ1 76 0 = nI c := by rw [(hf.2.2.1 76 rfl).1]; exact m0
      replace hDM := hDM.frC hf
      refine mm_aload d_M_boats_0 rfl ?_
      refine mm_ciN 0 d_M_boats_1 rfl ?_
      refine mm_putI d_M_boats_2 rfl (sk_o_71 hM) (Or.inl rfl) ?_
      refine mm_iload d_M_boats_5 rfl ?_
      refine mm_ciN 1 d_M_boats_6 rfl ?_
      refine mm_ciN 6 d_M_boats_7 rfl ?_
      refine mm_s3i d_M_boats_9 (sp_M_inT (by omega) (by omega) (by omega) ?_)
      refine mm_if_eqN d_M_boats_12 (by first | omega | exact ite01_lt | exact bt8_lt31 _ _ | exact godB_lt31 _ _ _ | exact pop_lt31 _ | assumption | exact b31 (hW.gp (by omega)) | exact b31 (hW.ne (by omega)) | exact b31 (hW.op (by omega)) | exact and31 (hW.gp (by omega)) | exact and31 (hW.ne (by omega)) | exact and31 (hW.op (by omega)) | exact and31 (by assumption) | exact and31r (hW.ne (by omega)) | exact and31r (hW.gp (by omega)) | exact and31r (by decide)) (fun c_12 => False.elim (by omega)) (fun c_12 => ?_)
      refine mm_aload d_M_boats_15 rfl ?_
      refine mm_iload d_M_boats_16 rfl ?_
      refine mm_v1i d_M_boats_17 (sk_o_71 hM) (sp_M_handN hM (by first | exact m0 | (rw [mm_sI_off (by decide)]; exact m0)) h02 hi (by first | exact hDM | exact hDM.eq (mm_sI_off (by decide))) hW (fun μ2 g1 hH hZ => ?_))
      replace hM := hH.1
      refine mm_if_eqN d_M_boats_20 (by first | omega | exact ite01_lt | exact bt8_lt31 _ _ | exact godB_lt31 _ _ _ | exact pop_lt31 _ | assumption | exact b31 (hW.gp (by omega)) | exact b31 (hW.ne (by omega)) | exact b31 (hW.op (by omega)) | exact and31 (hW.gp (by omega)) | exact and31 (hW.ne (by omega)) | exact and31 (hW.op (by omega)) | exact and31 (by assumption) | exact and31r (hW.ne (by omega)) | exact and31r (hW.gp (by omega)) | exact and31r (by decide)) (fun c_20 => False.elim (by omega)) (fun c_20 => ?_)
      refine mm_aload d_M_boats_23 rfl ?_
      refine mm_iload d_M_boats_24 rfl ?_
      refine mm_v1i d_M_boats_25 (sk_o_71 hM) (sp_M_boatsOf hH hR1 hR (fun m' g' ν a1 a2 a3 a4 a5 a6 => ?_))
      refine mm_goto d_M_boats_28 ?_
      exact mm_ri d_M_boats_32 ⟨by rw [least_eq b1 b2 a2 a3], ((Fr.rf.sI rfl).trans g1).trans a4⟩
theorem pair_seat {X : mm_X} {k : Nat} {μ : mm_M} (hJ : JJ k μ) (y1 y2 y3 : Int32) : PairI X (JJ (k + 1)) k_G_seat k_M_seat [.int y1, .int y2, .int y3] μ := by
  obtain ⟨c, h02, h0, m0, hv⟩ := hJ.coast y1
  have hM := hJ.1
  have hw := hJ.2.2.2.up
  rcases hv with hx | ⟨i, D, hi, rfl, hW, hCD, hDM⟩
  · exact pairQ (-1) hJ (d := 2) (d' := 4) (by decide) (by decide) (n_G_seat hM h0 h02 hx ⟨rfl, Fr.rf, hw⟩) (fun μ1 hf => n_M_seat (hf.2.2.2 hM) (by rw [(hf.2.2.1 76 rfl).1]; exact m0) h02 hx (fun μ' hk => ⟨rfl, hk.fr (hf.2.2.2 hM)⟩))
  have hn6 := hW.1
  have hw6 := hW.2.1
  have hi2 : i < 2 := by omega
  rcases atF_or (c := dn D) (by omega) y3 with hz | ⟨j, hj, rfl⟩
  · refine pairQ (-1) hJ (d := 12) (d' := 12) (by decide) (by decide) ?_ (fun μ1 hf => ?_)
    · show mm_T X 12 0 0 k_G_seat 0 [some (.ref 0), some (.int (nI i)), some (.int y2), some (.int y3), none] [] μ _
      refine mm_aload d_G_seat_0 rfl ?_
      refine mm_getP d_G_seat_1 rfl (sk_o_0 hM) (sk_p_0_0 hM) ?_
      refine mm_iload d_G_seat_4 rfl ?_
      refine mm_iload d_G_seat_5 rfl ?_
      refine mm_v2r d_G_seat_6 (sk_o_1 hM) (sp_To_coastWithChildN hM h0 h02 hi hCD hz ?_)
      refine mm_astN4 d_G_seat_9 ?_
      refine mm_aloadN d_G_seat_11 rfl ?_
      refine mm_ifnullN d_G_seat_13 ?_
      refine mm_ci d_G_seat_27 ?_
      exact mm_ri d_G_seat_28 ⟨rfl, Fr.rf, hw⟩
    · show mm_T X 12 0 0 k_M_seat 0 [some (.ref 71), some (.int (nI i)), some (.int y2), some (.int y3)] [] μ1 _
      replace hM := hf.2.2.2 hM
      replace m0 : mm_I μ1 76 0 = nI c := by rw [(hf.2.2.1 76 rfl).1]; exact m0
      replace hDM := hDM.frC hf
      rcases rng_or y2 (a := 1) (b := 6) (by decide) (by decide) with ⟨hq, -⟩ | ⟨R, hR1, hR, rfl⟩
      · refine mm_aload d_M_seat_0 rfl ?_
        refine mm_ciN 0 d_M_seat_1 rfl ?_
        refine mm_putI d_M_seat_2 rfl (sk_o_71 hM) (Or.inl rfl) ?_
        refine mm_iload d_M_seat_5 rfl ?_
        refine mm_ciN 1 d_M_seat_6 rfl ?_
        refine mm_ciN 6 d_M_seat_7 rfl ?_
        refine mm_s3i d_M_seat_9 (sp_M_inB hq ?_)
        refine mm_if_eqN d_M_seat_12 (by first | omega | exact ite01_lt | exact bt8_lt31 _ _ | exact godB_lt31 _ _ _ | exact pop_lt31 _ | assumption | exact b31 (hW.gp (by omega)) | exact b31 (hW.ne (by omega)) | exact b31 (hW.op (by omega)) | exact and31 (hW.gp (by omega)) | exact and31 (hW.ne (by omega)) | exact and31 (hW.op (by omega)) | exact and31 (by assumption) | exact and31r (hW.ne (by omega)) | exact and31r (hW.gp (by omega)) | exact and31r (by decide)) (fun c_12 => ?_) (fun c_12 => False.elim (by omega))
        refine mm_ci d_M_seat_31 ?_
        exact mm_ri d_M_seat_32 ⟨rfl, Fr.rf.sI rfl⟩
      · refine mm_aload d_M_seat_0 rfl ?_
        refine mm_ciN 0 d_M_seat_1 rfl ?_
        refine mm_putI d_M_seat_2 rfl (sk_o_71 hM) (Or.inl rfl) ?_
        refine mm_iload d_M_seat_5 rfl ?_
        refine mm_ciN 1 d_M_seat_6 rfl ?_
        refine mm_ciN 6 d_M_seat_7 rfl ?_
        refine mm_s3i d_M_seat_9 (sp_M_inT (by omega) (by omega) (by omega) ?_)
        refine mm_if_eqN d_M_seat_12 (by first | omega | exact ite01_lt | exact bt8_lt31 _ _ | exact godB_lt31 _ _ _ | exact pop_lt31 _ | assumption | exact b31 (hW.gp (by omega)) | exact b31 (hW.ne (by omega)) | exact b31 (hW.op (by omega)) | exact and31 (hW.gp (by omega)) | exact and31 (hW.ne (by omega)) | exact and31 (hW.op (by omega)) | exact and31 (by assumption) | exact and31r (hW.ne (by omega)) | exact and31r (hW.gp (by omega)) | exact and31r (by decide)) (fun c_12 => False.elim (by omega)) (fun c_12 => ?_)
        refine mm_aload d_M_seat_15 rfl ?_
        refine mm_iload d_M_seat_16 rfl ?_
        refine mm_v1i d_M_seat_17 (sk_o_71 hM) (sp_M_handN hM (by first | exact m0 | (rw [mm_sI_off (by decide)]; exact m0)) h02 hi (by first | exact hDM | exact hDM.eq (mm_sI_off (by decide))) hW (fun μ2 g1 hH hZ => ?_))
        replace hM := hH.1
        refine mm_if_eqN d_M_seat_20 (by first | omega | exact ite01_lt | exact bt8_lt31 _ _ | exact godB_lt31 _ _ _ | exact pop_lt31 _ | assumption | exact b31 (hW.gp (by omega)) | exact b31 (hW.ne (by omega)) | exact b31 (hW.op (by omega)) | exact and31 (hW.gp (by omega)) | exact and31 (hW.ne (by omega)) | exact and31 (hW.op (by omega)) | exact and31 (by assumption) | exact and31r (hW.ne (by omega)) | exact and31r (hW.gp (by omega)) | exact and31r (by decide)) (fun c_20 => False.elim (by omega)) (fun c_20 => ?_)
        refine mm_aload d_M_seat_23 rfl ?_
        refine mm_iload d_M_seat_24 rfl ?_
        refine mm_v1i d_M_seat_25 (sk_o_71 hM) (sp_M_isChildB hH hz ?_)
        refine mm_if_neN d_M_seat_28 (by first | omega | exact ite01_lt | exact bt8_lt31 _ _ | exact godB_lt31 _ _ _ | exact pop_lt31 _ | assumption | exact b31 (hW.gp (by omega)) | exact b31 (hW.ne (by omega)) | exact b31 (hW.op (by omega)) | exact and31 (hW.gp (by omega)) | exact and31 (hW.ne (by omega)) | exact and31 (hW.op (by omega)) | exact and31 (by assumption) | exact and31r (hW.ne (by omega)) | exact and31r (hW.gp (by omega)) | exact and31r (by decide)) (fun c_28 => False.elim (by omega)) (fun c_28 => ?_)
        refine mm_ci d_M_seat_31 ?_
        exact mm_ri d_M_seat_32 ⟨rfl, (Fr.rf.sI rfl).trans g1⟩
  · rcases rng_or y2 (a := 1) (b := 6) (by decide) (by decide) with ⟨hz, hz2⟩ | ⟨R, hR1, hR, rfl⟩
    · refine pairQ (-1) hJ (d := 12) (d' := 12) (by decide) (by decide) ?_ (fun μ1 hf => ?_)
      · show mm_T X 12 0 0 k_G_seat 0 [some (.ref 0), some (.int (nI i)), some (.int y2), some (.int (nI j)), none] [] μ _
        refine mm_aload d_G_seat_0 rfl ?_
        refine mm_getP d_G_seat_1 rfl (sk_o_0 hM) (sk_p_0_0 hM) ?_
        refine mm_iload d_G_seat_4 rfl ?_
        refine mm_iload d_G_seat_5 rfl ?_
        refine mm_v2r d_G_seat_6 (sk_o_1 hM) (sp_To_coastWithChildI hM h0 h02 hi hCD hW (by omega) ?_)
        refine mm_ast4 d_G_seat_9 ?_
        refine mm_aload d_G_seat_11 rfl ?_
        refine mm_ifnull d_G_seat_13 ?_
        refine mm_iload d_G_seat_16 rfl ?_
        refine mm_ciN 1 d_G_seat_17 rfl ?_
        refine mm_icmp_lt d_G_seat_18 (fun c_18 => ?_) (fun c_18 => ?_)
        · refine mm_ci d_G_seat_27 ?_
          exact mm_ri d_G_seat_28 ⟨rfl, Fr.rf, hw⟩
        · refine mm_iload d_G_seat_21 rfl ?_
          refine mm_ciN 6 d_G_seat_22 rfl ?_
          refine mm_icmp_le d_G_seat_24 (fun c_24 => False.elim (hz2.elim (fun y => c_18 y) (fun y => absurd c_24 (Int32.not_le.mpr y)))) (fun c_24 => ?_)
          refine mm_ci d_G_seat_27 ?_
          exact mm_ri d_G_seat_28 ⟨rfl, Fr.rf, hw⟩
      · show mm_T X 12 0 0 k_M_seat 0 [some (.ref 71), some (.int (nI i)), some (.int y2), some (.int (nI j))] [] μ1 _
        replace hM := hf.2.2.2 hM
        replace m0 : mm_I μ1 76 0 = nI c := by rw [(hf.2.2.1 76 rfl).1]; exact m0
        replace hDM := hDM.frC hf
        refine mm_aload d_M_seat_0 rfl ?_
        refine mm_ciN 0 d_M_seat_1 rfl ?_
        refine mm_putI d_M_seat_2 rfl (sk_o_71 hM) (Or.inl rfl) ?_
        refine mm_iload d_M_seat_5 rfl ?_
        refine mm_ciN 1 d_M_seat_6 rfl ?_
        refine mm_ciN 6 d_M_seat_7 rfl ?_
        refine mm_s3i d_M_seat_9 (sp_M_inB hz ?_)
        refine mm_if_eqN d_M_seat_12 (by first | omega | exact ite01_lt | exact bt8_lt31 _ _ | exact godB_lt31 _ _ _ | exact pop_lt31 _ | assumption | exact b31 (hW.gp (by omega)) | exact b31 (hW.ne (by omega)) | exact b31 (hW.op (by omega)) | exact and31 (hW.gp (by omega)) | exact and31 (hW.ne (by omega)) | exact and31 (hW.op (by omega)) | exact and31 (by assumption) | exact and31r (hW.ne (by omega)) | exact and31r (hW.gp (by omega)) | exact and31r (by decide)) (fun c_12 => ?_) (fun c_12 => False.elim (by omega))
        refine mm_ci d_M_seat_31 ?_
        exact mm_ri d_M_seat_32 ⟨rfl, Fr.rf.sI rfl⟩
    · refine pairE (fun r => ∃ m g, (∀ x, x < m → ¬ Sl D R x 0 f0) ∧ Gr D R m 0 g ∧ r = nI (g j)) hJ (d := 12) (d' := 12) (by decide) (by decide) ?_ (fun r μ1 hA hf => ?_)
      · show mm_T X 12 0 0 k_G_seat 0 [some (.ref 0), some (.int (nI i)), some (.int (nI R)), some (.int (nI j)), none] [] μ _
        refine mm_aload d_G_seat_0 rfl ?_
        refine mm_getP d_G_seat_1 rfl (sk_o_0 hM) (sk_p_0_0 hM) ?_
        refine mm_iload d_G_seat_4 rfl ?_
        refine mm_iload d_G_seat_5 rfl ?_
        refine mm_v2r d_G_seat_6 (sk_o_1 hM) (sp_To_coastWithChildI hM h0 h02 hi hCD hW (by omega) ?_)
        refine mm_ast4 d_G_seat_9 ?_
        refine mm_aload d_G_seat_11 rfl ?_
        refine mm_ifnull d_G_seat_13 ?_
        refine mm_iload d_G_seat_16 rfl ?_
        refine mm_ciN 1 d_G_seat_17 rfl ?_
        refine mm_icmp_ltN d_G_seat_18 (by first | omega | exact ite01_lt | exact bt8_lt31 _ _ | exact godB_lt31 _ _ _ | exact pop_lt31 _ | assumption | exact b31 (hW.gp (by omega)) | exact b31 (hW.ne (by omega)) | exact b31 (hW.op (by omega)) | exact and31 (hW.gp (by omega)) | exact and31 (hW.ne (by omega)) | exact and31 (hW.op (by omega)) | exact and31 (by assumption) | exact and31r (hW.ne (by omega)) | exact and31r (hW.gp (by omega)) | exact and31r (by decide)) (by first | omega | exact ite01_lt | exact bt8_lt31 _ _ | exact godB_lt31 _ _ _ | exact pop_lt31 _ | assumption | exact b31 (hW.gp (by omega)) | exact b31 (hW.ne (by omega)) | exact b31 (hW.op (by omega)) | exact and31 (hW.gp (by omega)) | exact and31 (hW.ne (by omega)) | exact and31 (hW.op (by omega)) | exact and31 (by assumption) | exact and31r (hW.ne (by omega)) | exact and31r (hW.gp (by omega)) | exact and31r (by decide)) (fun c_18 => False.elim (by omega)) (fun c_18 => ?_)
        refine mm_iload d_G_seat_21 rfl ?_
        refine mm_ciN 6 d_G_seat_22 rfl ?_
        refine mm_icmp_leN d_G_seat_24 (by first | omega | exact ite01_lt | exact bt8_lt31 _ _ | exact godB_lt31 _ _ _ | exact pop_lt31 _ | assumption | exact b31 (hW.gp (by omega)) | exact b31 (hW.ne (by omega)) | exact b31 (hW.op (by omega)) | exact and31 (hW.gp (by omega)) | exact and31 (hW.ne (by omega)) | exact and31 (hW.op (by omega)) | exact and31 (by assumption) | exact and31r (hW.ne (by omega)) | exact and31r (hW.gp (by omega)) | exact and31r (by decide)) (by first | omega | exact ite01_lt | exact bt8_lt31 _ _ | exact godB_lt31 _ _ _ | exact pop_lt31 _ | assumption | exact b31 (hW.gp (by omega)) | exact b31 (hW.ne (by omega)) | exact b31 (hW.op (by omega)) | exact and31 (hW.gp (by omega)) | exact and31 (hW.ne (by omega)) | exact and31 (hW.op (by omega)) | exact and31 (by assumption) | exact and31r (hW.ne (by omega)) | exact and31r (hW.gp (by omega)) | exact and31r (by decide)) (fun c_24 => ?_) (fun c_24 => False.elim (by omega))
        refine mm_aload d_G_seat_29 rfl ?_
        refine mm_getP d_G_seat_30 rfl (sk_o_0 hM) (sk_p_0_5 hM) ?_
        refine mm_aload d_G_seat_33 rfl ?_
        refine mm_iload d_G_seat_35 rfl ?_
        refine mm_v2i d_G_seat_36 (sk_o_63 hM) (sp_Bo_fewest hM hi2 hCD hW hR1 hR (fun m g ν a1 a2 a3 a4 a5 a6 a7 => ?_))
        have hM := a4.2.2.2 hM
        refine mm_pop d_G_seat_39 rfl ?_
        refine mm_aload d_G_seat_40 rfl ?_
        refine mm_getP d_G_seat_41 rfl (sk_o_0 hM) (sk_p_0_5 hM) ?_
        refine mm_getP d_G_seat_44 rfl (sk_o_63 hM) (sk_p_63_0 hM) ?_
        refine mm_iload d_G_seat_47 rfl ?_
        refine mm_ialdN d_G_seat_48 (sk_a_64 hM) (by omega) (by decide) (a7 j hj) ?_
        exact mm_ri d_G_seat_49 ⟨⟨m, g, a2, a3, rfl⟩, a4, hw.cg a5 a6⟩
      · obtain ⟨m, g, b1, b2, rfl⟩ := hA
        show mm_T X 12 0 0 k_M_seat 0 [some (.ref 71), some (.int (nI i)), some (.int (nI R)), some (.int (nI j))] [] μ1 _
        replace hM := hf.2.2.2 hM
        replace m0 : mm_I μ1 76 0 = nI c := by rw [(hf.2.2.1 76 rfl).1]; exact m0
        replace hDM := hDM.frC hf
        refine mm_aload d_M_seat_0 rfl ?_
        refine mm_ciN 0 d_M_seat_1 rfl ?_
        refine mm_putI d_M_seat_2 rfl (sk_o_71 hM) (Or.inl rfl) ?_
        refine mm_iload d_M_seat_5 rfl ?_
        refine mm_ciN 1 d_M_seat_6 rfl ?_
        refine mm_ciN 6 d_M_seat_7 rfl ?_
        refine mm_s3i d_M_seat_9 (sp_M_inT (by omega) (by omega) (by omega) ?_)
        refine mm_if_eqN d_M_seat_12 (by first | omega | exact ite01_lt | exact bt8_lt31 _ _ | exact godB_lt31 _ _ _ | exact pop_lt31 _ | assumption | exact b31 (hW.gp (by omega)) | exact b31 (hW.ne (by omega)) | exact b31 (hW.op (by omega)) | exact and31 (hW.gp (by omega)) | exact and31 (hW.ne (by omega)) | exact and31 (hW.op (by omega)) | exact and31 (by assumption) | exact and31r (hW.ne (by omega)) | exact and31r (hW.gp (by omega)) | exact and31r (by decide)) (fun c_12 => False.elim (by omega)) (fun c_12 => ?_)
        refine mm_aload d_M_seat_15 rfl ?_
        refine mm_iload d_M_seat_16 rfl ?_
        refine mm_v1i d_M_seat_17 (sk_o_71 hM) (sp_M_handN hM (by first | exact m0 | (rw [mm_sI_off (by decide)]; exact m0)) h02 hi (by first | exact hDM | exact hDM.eq (mm_sI_off (by decide))) hW (fun μ2 g1 hH hZ => ?_))
        replace hM := hH.1
        refine mm_if_eqN d_M_seat_20 (by first | omega | exact ite01_lt | exact bt8_lt31 _ _ | exact godB_lt31 _ _ _ | exact pop_lt31 _ | assumption | exact b31 (hW.gp (by omega)) | exact b31 (hW.ne (by omega)) | exact b31 (hW.op (by omega)) | exact and31 (hW.gp (by omega)) | exact and31 (hW.ne (by omega)) | exact and31 (hW.op (by omega)) | exact and31 (by assumption) | exact and31r (hW.ne (by omega)) | exact and31r (hW.gp (by omega)) | exact and31r (by decide)) (fun c_20 => False.elim (by omega)) (fun c_20 => ?_)
        refine mm_aload d_M_seat_23 rfl ?_
        refine mm_iload d_M_seat_24 rfl ?_
        refine mm_v1i d_M_seat_25 (sk_o_71 hM) (sp_M_isChildT hH (by omega) ?_)
        refine mm_if_neN d_M_seat_28 (by first | omega | exact ite01_lt | exact bt8_lt31 _ _ | exact godB_lt31 _ _ _ | exact pop_lt31 _ | assumption | exact b31 (hW.gp (by omega)) | exact b31 (hW.ne (by omega)) | exact b31 (hW.op (by omega)) | exact and31 (hW.gp (by omega)) | exact and31 (hW.ne (by omega)) | exact and31 (hW.op (by omega)) | exact and31 (by assumption) | exact and31r (hW.ne (by omega)) | exact and31r (hW.gp (by omega)) | exact and31r (by decide)) (fun c_28 => ?_) (fun c_28 => False.elim (by omega))
        refine mm_aload d_M_seat_33 rfl ?_
        refine mm_iload d_M_seat_34 rfl ?_
        refine mm_v1i d_M_seat_35 (sk_o_71 hM) (sp_M_boatsOf hH hR1 hR (fun m' g' ν a1 a2 a3 a4 a5 a6 => ?_))
        have hM := a5.1
        refine mm_pop d_M_seat_38 rfl ?_
        refine mm_aload d_M_seat_39 rfl ?_
        refine mm_getP d_M_seat_40 rfl (sk_o_71 hM) (sk_p_71_38 hM) ?_
        refine mm_iload d_M_seat_43 rfl ?_
        refine mm_ialdN d_M_seat_44 (sk_a_86 hM) (by omega) (by decide) (a6 j hj) ?_
        exact mm_ri d_M_seat_45 ⟨by (have e := least_eq b1 b2 a2 a3); subst e; rw [Gr_uniq b2 a3 (dn D) (Nat.le_refl _) j hj], ((Fr.rf.sI rfl).trans g1).trans a4⟩
