/-! pairs of calls that only ask -/
theorem JJ_0 : JJ 0 mm_1 := by
  have hz : ∀ a, a = 2 ∨ a = 62 → mm_I mm_1 a = fun _ => 0 := by
    intro a ha
    rcases ha with rfl | rfl <;> rfl
  refine ⟨SK_1, ⟨sk_t SK_1, ⟨0, by decide, by decide +kernel, by decide +kernel, fun j hj => absurd hj (Nat.not_lt_zero j)⟩, fun j => ?_, by decide +kernel, by decide +kernel, ⟨0, by decide, by decide +kernel, by decide +kernel, fun j hj => absurd hj (Nat.not_lt_zero j)⟩, ⟨0, by decide, by decide +kernel, by decide +kernel, fun j hj => absurd hj (Nat.not_lt_zero j)⟩, ⟨0, by decide, by decide +kernel, by decide +kernel, fun j hj => absurd hj (Nat.not_lt_zero j)⟩⟩, ⟨0, by decide, SK_n1, fun e he => absurd he (Nat.not_lt_zero e), fun i hi => Or.inl ?_⟩, ⟨0, by decide, by decide +kernel, fun j _ => ⟨0, Nat.le_refl 0, ?_⟩⟩⟩
  · show fits .byte (.int (mm_I mm_1 2 j)) = true
    rw [hz 2 (Or.inl rfl)]
    decide
  · match i, hi with
    | 0, _ => exact ⟨by decide +kernel, by decide +kernel⟩
    | 1, _ => exact ⟨by decide +kernel, by decide +kernel⟩
    | 2, _ => exact ⟨by decide +kernel, by decide +kernel⟩
    | i + 3, hi => exact absurd hi (by omega)
  · rw [hz 62 (Or.inr rfl)]
    rfl
def scA (a : Nat) : Bool := scM a || scC a
theorem scA_per : Per scA := by
  intro a ha
  unfold scA scM scC
  simp
  omega
theorem mm_Ci.lift {X : mm_X} {d : Nat} {K : mm_K} {av : List Value} {μ : mm_M} {q : Int32 → mm_M → Prop} (h : mm_Ci X d 0 0 K av μ q) (d' nc ns : Nat) (hd : d ≤ d') : mm_Ci X d' nc ns K av μ q := mm_T.deeper hd (mm_T.more (Nat.zero_le _) (Nat.zero_le _) h)
theorem mm_Cj.lift {X : mm_X} {d : Nat} {K : mm_K} {av : List Value} {μ : mm_M} {q : Int64 → mm_M → Prop} (h : mm_Cj X d 0 0 K av μ q) (d' nc ns : Nat) (hd : d ≤ d') : mm_Cj X d' nc ns K av μ q := mm_T.deeper hd (mm_T.more (Nat.zero_le _) (Nat.zero_le _) h)
theorem Wk.fr {S : Nat → Bool} {k : Nat} {μ μ' : mm_M} (h : Wk k μ) (hf : Fr S μ μ') (h1 : S 57 = false) (h2 : S 62 = false) : Wk k μ' := by
  obtain ⟨w, a, b, c⟩ := h
  exact ⟨w, a, by rw [(hf.2.2.1 57 h1).1]; exact b, by rw [(hf.2.2.1 62 h2).1]; exact c⟩
/-- the state behind a question: only scratch has changed -/
theorem JJ.asked {k : Nat} {μ μ1 μ2 : mm_M} (hJ : JJ k μ) (hf : Fr scC μ μ1) (hw : Wk (k + 1) μ1) (hg : Fr scM μ1 μ2) : JJ (k + 1) μ2 := hJ.fr ((hf.sub (fun a h => by unfold scA; rw [h, Bool.or_true])).trans (hg.sub (fun a h => by unfold scA; rw [h, Bool.true_or]))) scA_per (hw.fr hg rfl rfl)
theorem pairQ {X : mm_X} {k : Nat} {μ : mm_M} {kc km : mm_K} {as : List Value} {d d' : Nat} (R : Int32) (hJ : JJ k μ) (hd : d ≤ 30) (hd' : d' ≤ 30) (HC : mm_Ci X d 0 0 kc (.ref 0 :: as) μ (fun r μ1 => r = R ∧ Fr scC μ μ1 ∧ Wk (k + 1) μ1)) (HM : ∀ μ1, Fr scC μ μ1 → mm_Ci X d' 0 0 km (.ref 71 :: as) μ1 (fun r μ2 => r = R ∧ Fr scM μ1 μ2)) : PairI X (JJ (k + 1)) kc km as μ := by
  refine (HC.lift 30 40 1100 hd).imp (fun r μ1 h => ?_)
  obtain ⟨rfl, hf, hw⟩ := h
  refine ⟨hf.2.2.2 hJ.1, ((HM μ1 hf).lift 30 0 0 hd').imp (fun r' μ2 h => ?_)⟩
  obtain ⟨rfl, hg⟩ := h
  exact ⟨rfl, hJ.asked hf hw hg⟩
theorem pairQj {X : mm_X} {k : Nat} {μ : mm_M} {kc km : mm_K} {as : List Value} {d d' : Nat} (R : Int64) (hJ : JJ k μ) (hd : d ≤ 30) (hd' : d' ≤ 30) (HC : mm_Cj X d 0 0 kc (.ref 0 :: as) μ (fun r μ1 => r = R ∧ Fr scC μ μ1 ∧ Wk (k + 1) μ1)) (HM : ∀ μ1, Fr scC μ μ1 → mm_Cj X d' 0 0 km (.ref 71 :: as) μ1 (fun r μ2 => r = R ∧ Fr scM μ1 μ2)) : PairJ X (JJ (k + 1)) kc km as μ := by
  refine (HC.lift 30 40 1100 hd).imp (fun r μ1 h => ?_)
  obtain ⟨rfl, hf, hw⟩ := h
  refine ⟨hf.2.2.2 hJ.1, ((HM μ1 hf).lift 30 0 0 hd').imp (fun r' μ2 h => ?_)⟩
  obtain ⟨rfl, hg⟩ := h
  exact ⟨rfl, hJ.asked hf hw hg⟩
theorem KeM.fr {μ μ' : mm_M} (h : KeM μ μ') (hM : SK μ) : Fr scM μ μ' := ⟨h.1, h.2.1, fun a ha => ⟨h.2.2.2.2 a (fun e => by rw [e] at ha; cases ha), congrFun h.2.2.2.1 a, congrFun h.2.2.1 a⟩, fun _ => ⟨by rw [h.1]; exact hM.1, by rw [h.2.1]; exact hM.2.1, by rw [h.2.2.1]; exact hM.2.2⟩⟩
/-- a coast's number: none there, or its data on both sides -/
def Vw (μ : mm_M) (x : Int32) : Prop := ∃ c : Nat, c ≤ 2 ∧ mm_I μ 34 0 = nI c ∧ mm_I μ 76 0 = nI c ∧ (atF c x = none ∨ ∃ (i : Nat) (D : mm_D), i < c ∧ x = nI i ∧ WfD D ∧ CoD μ (4 + 7 * i) D ∧ CoM μ (44 * i) D)
theorem atF_or {c : Nat} (hc : c < 2 ^ 31) (x : Int32) : atF c x = none ∨ ∃ i, i < c ∧ x = nI i := by
  unfold atF
  by_cases h : x < 0
  · exact Or.inl (if_pos h)
  · by_cases h2 : nI c ≤ x
    · exact Or.inl (by rw [if_neg h, if_pos h2])
    · obtain ⟨j, h3, h4, -⟩ := pk_mu h h2 hc
      exact Or.inr ⟨j, h3, h4⟩
theorem JJ.coast {k : Nat} {μ : mm_M} (h : JJ k μ) (x : Int32) : Vw μ x := by
  obtain ⟨-, ⟨-, -, -, -, -, ⟨c, c1, c2, c3, c4⟩, -⟩, -⟩ := h
  refine ⟨c, c1, c2, c3, ?_⟩
  rcases atF_or (by omega) x with z | ⟨i, hi, e⟩
  · exact Or.inl z
  · obtain ⟨D, d1, d2, d3⟩ := c4 i hi
    exact Or.inr ⟨i, D, hi, e, d1, by rw [show 4 + 7 * i = 1 + 3 + 7 * i by omega]; exact d2, by rw [show 44 * i = 88 * 0 + 44 * i by omega]; exact d3⟩
theorem CoM.frC {μ μ1 : mm_M} {b : Nat} {D : mm_D} (h : CoM μ b D) (hf : Fr scC μ μ1) : CoM μ1 b D := h.fr hf rfl
theorem inG_or {x : Int32} {n : Nat} (hn : n < 2 ^ 30) : inG x 0 (nI n) = 0 ∨ ∃ s, s ≤ n ∧ x = nI s ∧ inG x 0 (nI n) = 1 := by
  unfold inG
  by_cases h : x < 0
  · exact Or.inl (if_pos h)
  · by_cases h2 : nI n < x
    · exact Or.inl (by rw [if_neg h, if_pos h2])
    · obtain ⟨s, h3, h4⟩ := nI_of2 (M := nI n) (n := n) (nI_toInt (by omega)) h (Int32.not_lt.mp h2)
      exact Or.inr ⟨s, h3, h4, by rw [if_neg h, if_neg h2]⟩
theorem pair_ready {X : mm_X} {k : Nat} {μ : mm_M} (hJ : JJ k μ) (y1 y2 : Int32) : PairI X (JJ (k + 1)) k_G_ready k_M_ready [.int y1, .int y2] μ := by
  obtain ⟨c, h02, h0, m0, hv⟩ := hJ.coast y1
  have hM := hJ.1
  have hw := hJ.2.2.2.up
  rcases hv with hx | ⟨i, D, hi, rfl, hW, hCD, hDM⟩
  · refine pairQ (-1) hJ (d := 2) (d' := 4) (by decide) (by decide) (n_G_ready hM h0 h02 hx ⟨rfl, Fr.rf, hw⟩) (fun μ1 hf => ?_)
    exact n_M_ready (hf.2.2.2 hM) (by rw [(hf.2.2.1 76 rfl).1]; exact m0) h02 hx (fun μ' hk => ⟨rfl, hk.fr (hf.2.2.2 hM)⟩)
  · rcases inG_or (x := y2) (n := 255) (by decide) with z | ⟨s, hs, rfl, z⟩
    · refine pairQ (-1) hJ (d := 2) (d' := 4) (by decide) (by decide) ?_ (fun μ1 hf => ?_)
      · show mm_T X 2 0 0 k_G_ready 0 [some (.ref 0), some (.int (nI i)), some (.int y2), none] [] μ _
        refine mm_aload d_G_ready_0 rfl ?_
        refine mm_getP d_G_ready_1 rfl (sk_o_0 hM) (sk_p_0_0 hM) ?_
        refine mm_iload d_G_ready_4 rfl ?_
        refine mm_v1r d_G_ready_5 (sk_o_1 hM) (sp_To_coastAt (sk_t hM) h0 h02 ?_)
        rw [atF_at (by omega) hi]
        refine mm_ast3 d_G_ready_8 ?_
        refine mm_aload d_G_ready_9 rfl ?_
        refine mm_ifnull d_G_ready_10 ?_
        refine mm_iload d_G_ready_13 rfl ?_
        refine mm_s1i d_G_ready_14 (sp_G_isWeatherBits ?_)
        rw [show (255 : Int32) = nI 255 from rfl, z]
        refine mm_if_ne d_G_ready_17 (fun c_17 => absurd c_17 (fun e => e rfl)) (fun c_17 => ?_)
        refine mm_ci d_G_ready_20 ?_
        exact mm_ri d_G_ready_21 ⟨rfl, Fr.rf, hw⟩
      · show mm_T X 4 0 0 k_M_ready 0 [some (.ref 71), some (.int (nI i)), some (.int y2)] [] μ1 _
        have hM := hf.2.2.2 hM
        refine mm_aload d_M_ready_0 rfl ?_
        refine mm_ci d_M_ready_1 ?_
        refine mm_putI d_M_ready_2 rfl (sk_o_71 hM) (Or.inl rfl) ?_
        refine mm_iload d_M_ready_5 rfl ?_
        refine mm_ci d_M_ready_6 ?_
        refine mm_ci d_M_ready_7 ?_
        refine mm_s3i d_M_ready_10 (sp_M_in ?_)
        rw [show (255 : Int32) = nI 255 from rfl, z]
        refine mm_if_eq d_M_ready_13 (fun c_13 => ?_) (fun c_13 => absurd (rfl) c_13)
        refine mm_ci d_M_ready_32 ?_
        exact mm_ri d_M_ready_33 ⟨rfl, Fr.rf.sI rfl⟩
    · refine pairQ (nI (readyN D s)) hJ (d := 2) (d' := 4) (by decide) (by decide) ?_ (fun μ1 hf => ?_)
      · show mm_T X 2 0 0 k_G_ready 0 [some (.ref 0), some (.int (nI i)), some (.int (nI s)), none] [] μ _
        refine mm_aload d_G_ready_0 rfl ?_
        refine mm_getP d_G_ready_1 rfl (sk_o_0 hM) (sk_p_0_0 hM) ?_
        refine mm_iload d_G_ready_4 rfl ?_
        refine mm_v1r d_G_ready_5 (sk_o_1 hM) (sp_To_coastAt (sk_t hM) h0 h02 ?_)
        rw [atF_at (by omega) hi, show some i |>.map (fun k => 1 + 3 + 7 * k) = some (4 + 7 * i) from rfl]
        refine mm_ast3 d_G_ready_8 ?_
        refine mm_aload d_G_ready_9 rfl ?_
        refine mm_ifnull d_G_ready_10 ?_
        refine mm_iload d_G_ready_13 rfl ?_
        refine mm_s1i d_G_ready_14 (sp_G_isWeatherBits ?_)
        rw [show (255 : Int32) = nI 255 from rfl, z]
        refine mm_if_ne d_G_ready_17 (fun c_17 => ?_) (fun c_17 => absurd (by decide) c_17)
        refine mm_aload d_G_ready_22 rfl ?_
        refine mm_iload d_G_ready_23 rfl ?_
        refine mm_v1i d_G_ready_24 hCD.1.1 (sp_Co_worksWith hCD hW ?_)
        exact mm_ri d_G_ready_27 ⟨rfl, Fr.rf, hw⟩
      · show mm_T X 4 0 0 k_M_ready 0 [some (.ref 71), some (.int (nI i)), some (.int (nI s))] [] μ1 _
        have hM := hf.2.2.2 hM
        refine mm_aload d_M_ready_0 rfl ?_
        refine mm_ci d_M_ready_1 ?_
        refine mm_putI d_M_ready_2 rfl (sk_o_71 hM) (Or.inl rfl) ?_
        refine mm_iload d_M_ready_5 rfl ?_
        refine mm_ci d_M_ready_6 ?_
        refine mm_ci d_M_ready_7 ?_
        refine mm_s3i d_M_ready_10 (sp_M_in ?_)
        rw [show (255 : Int32) = nI 255 from rfl, z]
        refine mm_if_eq d_M_ready_13 (fun c_13 => absurd c_13 (by decide)) (fun c_13 => ?_)
        refine mm_aload d_M_ready_16 rfl ?_
        refine mm_iload d_M_ready_17 rfl ?_
        refine mm_v1i d_M_ready_18 (sk_o_71 hM) (sp_M_hand hM (by rw [mm_sI_off (by decide), (hf.2.2.1 76 rfl).1]; exact m0) h02 hi ((hDM.frC hf).eq (mm_sI_off (by decide))) hW (fun μ2 g1 g2 g3 => ?_))
        refine mm_if_eq d_M_ready_21 (fun c_21 => absurd c_21 (by decide)) (fun c_21 => ?_)
        refine mm_aload d_M_ready_24 rfl ?_
        refine mm_iload d_M_ready_25 rfl ?_
        refine mm_v1i d_M_ready_26 (sk_o_71 g2.1) (sp_M_readyBy g2 ?_)
        refine mm_goto d_M_ready_29 ?_
        exact mm_ri d_M_ready_33 ⟨rfl, (Fr.rf.sI rfl).trans g1⟩
