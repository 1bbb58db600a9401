/-! the model, where there is no such coast, year, log (written by program) -/
theorem sp_M_in {X : mm_X} {μ : mm_M} {q : Int32 → mm_M → Prop} {x lo hi : Int32} (h : q (inG x lo hi) μ) : mm_Ci X 0 0 0 k_M_in [.int x, .int lo, .int hi] μ q := by
  show mm_T X 0 0 0 k_M_in 0 [some (.int x), some (.int lo), some (.int hi)] [] μ _
  unfold inG at h
  refine mm_iload d_M_in_0 rfl ?_
  refine mm_iload d_M_in_1 rfl ?_
  refine mm_icmp_lt d_M_in_2 (fun c_2 => ?_) (fun c_2 => ?_)
  · refine mm_ci d_M_in_14 ?_
    exact mm_rz d_M_in_15 (by simpa [*] using h)
  · refine mm_iload d_M_in_5 rfl ?_
    refine mm_iload d_M_in_6 rfl ?_
    refine mm_icmp_gt d_M_in_7 (fun c_7 => ?_) (fun c_7 => ?_)
    · refine mm_ci d_M_in_14 ?_
      exact mm_rz d_M_in_15 (by simpa [*] using h)
    · refine mm_ci d_M_in_10 ?_
      refine mm_goto d_M_in_11 ?_
      exact mm_rz d_M_in_15 (by simpa [*] using h)
def isF (c : Nat) (x : Int32) : Int32 := match atF c x with
  | none => 0
  | some _ => 1
theorem inG_is {c : Nat} {x : Int32} (hc : c ≤ 2) : inG x 0 (nI c - 1) = isF c x := by
  unfold inG isF atF
  by_cases h : x < 0
  · rw [if_pos h, if_pos h]
  · rw [if_neg h, if_neg h]
    have e : (nI c - 1).toInt = (c : Int) - 1 := by
      have : c = 0 ∨ c = 1 ∨ c = 2 := by omega
      rcases this with rfl | rfl | rfl <;> decide
    have e2 : (nI c).toInt = (c : Int) := nI_toInt (by omega)
    by_cases h2 : nI c ≤ x
    · rw [if_pos (show nI c - 1 < x from Int32.lt_iff_toInt_lt.mpr (by rw [e]; have := Int32.le_iff_toInt_le.mp h2; omega)), if_pos h2]
    · rw [if_neg (show ¬ nI c - 1 < x from fun z => h2 (Int32.le_iff_toInt_le.mpr (by rw [e2]; have := Int32.lt_iff_toInt_lt.mp z; omega))), if_neg h2]
theorem isF_bool (c : Nat) (x : Int32) : isF c x = 0 ∨ isF c x = 1 := by
  unfold isF
  cases atF c x
  · exact Or.inl rfl
  · exact Or.inr rfl
theorem nar_b {x : Int32} (h : x = 0 ∨ x = 1) : narrow .boolean (.int x) = .int x := by
  rcases h with rfl | rfl <;> decide
theorem sp_M_is {X : mm_X} {μ : mm_M} {q : Int32 → mm_M → Prop} {s c : Nat} {x : Int32} (hM : SK μ) (hs : s < 12) (hc : mm_I μ 76 s = nI c) (hc2 : c ≤ 2) (h : q (isF c x) μ) : mm_Ci X 1 0 0 k_M_is [.ref 71, .int (nI s), .int x] μ q := by
  show mm_T X 1 0 0 k_M_is 0 [some (.ref 71), some (.int (nI s)), some (.int x)] [] μ _
  have hi : vp_in (nI s) 12 := vp_in_nI hs (by decide)
  refine mm_iload d_M_is_0 rfl ?_
  refine mm_ci d_M_is_1 ?_
  refine mm_aload d_M_is_2 rfl ?_
  refine mm_getP d_M_is_3 rfl (sk_o_71 hM) (sk_p_71_5 hM) ?_
  refine mm_iload d_M_is_6 rfl ?_
  refine mm_iald d_M_is_7 (sk_a_76 hM) hi ?_
  rw [nI_clamp (by omega), hc]
  refine mm_ci d_M_is_8 ?_
  refine mm_isub d_M_is_9 ?_
  refine mm_s3i d_M_is_10 (sp_M_in ?_)
  rw [inG_is hc2]
  exact mm_rz d_M_is_13 h (nar_b (isF_bool c x))
theorem n_M_hand {X : mm_X} {μ : mm_M} {q : Int32 → mm_M → Prop} {c : Nat} {x : Int32} (hM : SK μ) (hc : mm_I μ 76 0 = nI c) (hc2 : c ≤ 2) (hx : atF c x = none) (h : q 0 μ) : mm_Ci X 2 0 0 k_M_hand [.ref 71, .int x] μ q := by
  show mm_T X 2 0 0 k_M_hand 0 [some (.ref 71), some (.int x), none] [] μ _
  refine mm_aload d_M_hand_0 rfl ?_
  refine mm_ci d_M_hand_1 ?_
  refine mm_iload d_M_hand_2 rfl ?_
  refine mm_v2i d_M_hand_3 (sk_o_71 hM) (sp_M_is (s := 0) hM (by decide) hc hc2 ?_)
  rw [show isF c x = 0 by unfold isF; rw [hx]]
  refine mm_if_ne d_M_hand_6 (fun c_6 => absurd rfl c_6) (fun c_6 => ?_)
  refine mm_ci d_M_hand_9 ?_
  exact mm_rz d_M_hand_10 h
theorem sp_M_hasYear {X : mm_X} {μ : mm_M} {q : Int32 → mm_M → Prop} {c : Nat} {x : Int32} (hM : SK μ) (hc : mm_I μ 76 1 = nI c) (hc2 : c ≤ 2) (h : q (isF c x) (mm_sI μ 71 33 x)) : mm_Ci X 2 0 0 k_M_hasYear [.ref 71, .int x] μ q := by
  show mm_T X 2 0 0 k_M_hasYear 0 [some (.ref 71), some (.int x)] [] μ _
  refine mm_aload d_M_hasYear_0 rfl ?_
  refine mm_iload d_M_hasYear_1 rfl ?_
  refine mm_putI d_M_hasYear_2 rfl (sk_o_71 hM) (Or.inl rfl) ?_
  refine mm_aload d_M_hasYear_5 rfl ?_
  refine mm_ci d_M_hasYear_6 ?_
  refine mm_iload d_M_hasYear_7 rfl ?_
  refine mm_v2i d_M_hasYear_8 (sk_o_71 hM) (sp_M_is (s := 1) hM (by decide) hc hc2 ?_)
  exact mm_rz d_M_hasYear_11 h (nar_b (isF_bool c x))
theorem sp_M_hasLog {X : mm_X} {μ : mm_M} {q : Int32 → mm_M → Prop} {c : Nat} {x : Int32} (hM : SK μ) (hc : mm_I μ 76 2 = nI c) (hc2 : c ≤ 2) (h : q (isF c x) (mm_sI μ 71 41 x)) : mm_Ci X 2 0 0 k_M_hasLog [.ref 71, .int x] μ q := by
  show mm_T X 2 0 0 k_M_hasLog 0 [some (.ref 71), some (.int x)] [] μ _
  refine mm_aload d_M_hasLog_0 rfl ?_
  refine mm_iload d_M_hasLog_1 rfl ?_
  refine mm_putI d_M_hasLog_2 rfl (sk_o_71 hM) (Or.inl rfl) ?_
  refine mm_aload d_M_hasLog_5 rfl ?_
  refine mm_ci d_M_hasLog_6 ?_
  refine mm_iload d_M_hasLog_7 rfl ?_
  refine mm_v2i d_M_hasLog_8 (sk_o_71 hM) (sp_M_is (s := 2) hM (by decide) hc hc2 ?_)
  exact mm_rz d_M_hasLog_11 h (nar_b (isF_bool c x))
theorem n_M_hasYear {X : mm_X} {μ : mm_M} {q : Int32 → mm_M → Prop} {c : Nat} {x : Int32} (hM : SK μ) (hc : mm_I μ 76 1 = nI c) (hc2 : c ≤ 2) (hx : atF c x = none) (h : q 0 (mm_sI μ 71 33 x)) : mm_Ci X 2 0 0 k_M_hasYear [.ref 71, .int x] μ q := sp_M_hasYear hM hc hc2 (by rw [show isF c x = 0 by unfold isF; rw [hx]]; exact h)
theorem n_M_hasLog {X : mm_X} {μ : mm_M} {q : Int32 → mm_M → Prop} {c : Nat} {x : Int32} (hM : SK μ) (hc : mm_I μ 76 2 = nI c) (hc2 : c ≤ 2) (hx : atF c x = none) (h : q 0 (mm_sI μ 71 41 x)) : mm_Ci X 2 0 0 k_M_hasLog [.ref 71, .int x] μ q := sp_M_hasLog hM hc hc2 (by rw [show isF c x = 0 by unfold isF; rw [hx]]; exact h)
theorem n_M_layAll {X : mm_X} {μ : mm_M} {q : Int32 → mm_M → Prop} {c : Nat} {x y : Int32} (hM : SK μ) (m1 : mm_I μ 76 1 = nI c) (h12 : c ≤ 2) (hy : atF c y = none) (h : q 0 (mm_sI μ 71 33 y)) : mm_Ci X 3 0 0 k_M_layAll [.ref 71, .int x, .int y] μ q := by
  show mm_T X 3 0 0 k_M_layAll 0 [some (.ref 71), some (.int x), some (.int y)] [] _ _
  refine mm_aload d_M_layAll_0 rfl ?_
  refine mm_iload d_M_layAll_1 rfl ?_
  refine mm_v1i d_M_layAll_2 (sk_o_71 hM) (n_M_hasYear hM m1 h12 hy ?_)
  refine mm_if_eq d_M_layAll_5 (fun c_5 => ?_) (fun c_5 => absurd rfl c_5)
  refine mm_ci d_M_layAll_20 ?_
  exact mm_rz d_M_layAll_21 h
theorem n_M_layLog {X : mm_X} {μ : mm_M} {q : Int32 → mm_M → Prop} {c : Nat} {x : Int32} (hM : SK μ) (m2 : mm_I μ 76 2 = nI c) (h22 : c ≤ 2) (hz : atF c x = none) (h : q 0 (mm_sI μ 71 41 x)) : mm_Ci X 3 0 0 k_M_layLog [.ref 71, .int x] μ q := by
  show mm_T X 3 0 0 k_M_layLog 0 [some (.ref 71), some (.int x), none] [] _ _
  refine mm_aload d_M_layLog_0 rfl ?_
  refine mm_iload d_M_layLog_1 rfl ?_
  refine mm_v1i d_M_layLog_2 (sk_o_71 hM) (n_M_hasLog hM m2 h22 hz ?_)
  refine mm_if_ne d_M_layLog_5 (fun c_5 => absurd rfl c_5) (fun c_5 => ?_)
  refine mm_ci d_M_layLog_8 ?_
  exact mm_rz d_M_layLog_9 h
/-- the model has put down no more than its own fields -/
def KeM (μ μ' : mm_M) : Prop := mm_n μ' = mm_n μ ∧ mm_sh μ' = mm_sh μ ∧ mm_P μ' = mm_P μ ∧ mm_J μ' = mm_J μ ∧ ∀ a, a ≠ 71 → mm_I μ' a = mm_I μ a
theorem KeM.rf {μ : mm_M} : KeM μ μ := ⟨rfl, rfl, rfl, rfl, fun _ _ => rfl⟩
theorem KeM.st {μ μ' : mm_M} {j : Nat} {x : Int32} (h : KeM μ μ') : KeM μ (mm_sI μ' 71 j x) := ⟨h.1, h.2.1, h.2.2.1, h.2.2.2.1, fun a ha => (mm_sI_off ha).trans (h.2.2.2.2 a ha)⟩
theorem n_M_coast {X : mm_X} {μ : mm_M} {q : Int32 → mm_M → Prop} {c0 : Nat} {x1 x2 : Int32} (hM : SK μ) (m0 : mm_I μ 76 0 = nI c0) (h02 : c0 ≤ 2) (hx : atF c0 x1 = none) (h : ∀ μ', KeM μ μ' → q (-1) μ') : mm_Ci X 4 0 0 k_M_coast [.ref 71, .int x1, .int x2] μ q := by
  show mm_T X 4 0 0 k_M_coast 0 [some (.ref 71), some (.int x1), some (.int x2), none] [] _ _
  refine mm_aload d_M_coast_0 rfl ?_
  refine mm_ci d_M_coast_1 ?_
  refine mm_putI d_M_coast_2 rfl (sk_o_71 hM) (Or.inl rfl) ?_
  refine mm_aload d_M_coast_5 rfl ?_
  refine mm_iload d_M_coast_6 rfl ?_
  refine mm_v1i d_M_coast_7 (sk_o_71 hM) (n_M_hand hM m0 h02 hx ?_)
  refine mm_if_ne d_M_coast_10 (fun c_10 => absurd rfl c_10) (fun c_10 => ?_)
  refine mm_ci d_M_coast_13 ?_
  exact mm_ri d_M_coast_14 (h _ (by first | exact KeM.rf.st | exact KeM.rf.st.st))
theorem n_M_deed {X : mm_X} {μ : mm_M} {q : Int32 → mm_M → Prop} {c1 : Nat} {x1 x2 x3 : Int32} (hM : SK μ) (m1 : mm_I μ 76 1 = nI c1) (h12 : c1 ≤ 2) (hy : atF c1 x1 = none) (h : ∀ μ', KeM μ μ' → q (-2) μ') : mm_Ci X 4 0 0 k_M_deed [.ref 71, .int x1, .int x2, .int x3] μ q := by
  show mm_T X 4 0 0 k_M_deed 0 [some (.ref 71), some (.int x1), some (.int x2), some (.int x3)] [] _ _
  refine mm_aload d_M_deed_0 rfl ?_
  refine mm_ci d_M_deed_1 ?_
  refine mm_putI d_M_deed_2 rfl (sk_o_71 hM) (Or.inl rfl) ?_
  refine mm_aload d_M_deed_5 rfl ?_
  refine mm_iload d_M_deed_6 rfl ?_
  refine mm_v1i d_M_deed_7 (sk_o_71 hM) (n_M_hasYear hM m1 h12 hy ?_)
  refine mm_if_ne d_M_deed_10 (fun c_10 => absurd rfl c_10) (fun c_10 => ?_)
  refine mm_ci d_M_deed_13 ?_
  exact mm_ri d_M_deed_15 (h _ (by first | exact KeM.rf.st | exact KeM.rf.st.st))
theorem n_M_till {X : mm_X} {μ : mm_M} {q : Int32 → mm_M → Prop} {c1 : Nat} {x1 x2 : Int32} (hM : SK μ) (m1 : mm_I μ 76 1 = nI c1) (h12 : c1 ≤ 2) (hy : atF c1 x2 = none) (h : ∀ μ', KeM μ μ' → q (-1) μ') : mm_Ci X 4 0 0 k_M_till [.ref 71, .int x1, .int x2] μ q := by
  show mm_T X 4 0 0 k_M_till 0 [some (.ref 71), some (.int x1), some (.int x2)] [] _ _
  refine mm_aload d_M_till_0 rfl ?_
  refine mm_ci d_M_till_1 ?_
  refine mm_putI d_M_till_2 rfl (sk_o_71 hM) (Or.inl rfl) ?_
  refine mm_aload d_M_till_5 rfl ?_
  refine mm_iload d_M_till_6 rfl ?_
  refine mm_iload d_M_till_7 rfl ?_
  refine mm_v2i d_M_till_8 (sk_o_71 hM) (n_M_layAll hM m1 h12 hy ?_)
  refine mm_if_eq d_M_till_11 (fun c_11 => ?_) (fun c_11 => absurd rfl c_11)
  refine mm_ci d_M_till_25 ?_
  exact mm_ri d_M_till_26 (h _ (by first | exact KeM.rf.st | exact KeM.rf.st.st))
theorem n_M_state {X : mm_X} {μ : mm_M} {q : Int32 → mm_M → Prop} {c1 : Nat} {x1 x2 x3 x4 : Int32} (hM : SK μ) (m1 : mm_I μ 76 1 = nI c1) (h12 : c1 ≤ 2) (hy : atF c1 x2 = none) (h : ∀ μ', KeM μ μ' → q (-1) μ') : mm_Ci X 4 0 0 k_M_state [.ref 71, .int x1, .int x2, .int x3, .int x4] μ q := by
  show mm_T X 4 0 0 k_M_state 0 [some (.ref 71), some (.int x1), some (.int x2), some (.int x3), some (.int x4)] [] _ _
  refine mm_aload d_M_state_0 rfl ?_
  refine mm_ci d_M_state_1 ?_
  refine mm_putI d_M_state_2 rfl (sk_o_71 hM) (Or.inl rfl) ?_
  refine mm_aload d_M_state_5 rfl ?_
  refine mm_iload d_M_state_6 rfl ?_
  refine mm_iload d_M_state_7 rfl ?_
  refine mm_v2i d_M_state_8 (sk_o_71 hM) (n_M_layAll hM m1 h12 hy ?_)
  refine mm_if_eq d_M_state_11 (fun c_11 => ?_) (fun c_11 => absurd rfl c_11)
  refine mm_ci d_M_state_44 ?_
  exact mm_ri d_M_state_45 (h _ (by first | exact KeM.rf.st | exact KeM.rf.st.st))
theorem n_M_call {X : mm_X} {μ : mm_M} {q : Int32 → mm_M → Prop} {c0 : Nat} {x1 x2 x3 : Int32} (hM : SK μ) (m0 : mm_I μ 76 0 = nI c0) (h02 : c0 ≤ 2) (hx : atF c0 x1 = none) (h : ∀ μ', KeM μ μ' → q (-1) μ') : mm_Ci X 4 0 0 k_M_call [.ref 71, .int x1, .int x2, .int x3] μ q := by
  show mm_T X 4 0 0 k_M_call 0 [some (.ref 71), some (.int x1), some (.int x2), some (.int x3), none, none, none, none] [] _ _
  refine mm_aload d_M_call_0 rfl ?_
  refine mm_ci d_M_call_1 ?_
  refine mm_putI d_M_call_2 rfl (sk_o_71 hM) (Or.inl rfl) ?_
  refine mm_aload d_M_call_5 rfl ?_
  refine mm_iload d_M_call_6 rfl ?_
  refine mm_v1i d_M_call_7 (sk_o_71 hM) (n_M_hand hM m0 h02 hx ?_)
  refine mm_if_eq d_M_call_10 (fun c_10 => ?_) (fun c_10 => absurd rfl c_10)
  refine mm_ci d_M_call_21 ?_
  exact mm_ri d_M_call_22 (h _ (by first | exact KeM.rf.st | exact KeM.rf.st.st))
theorem n_M_feast {X : mm_X} {μ : mm_M} {q : Int32 → mm_M → Prop} {c0 : Nat} {x1 x2 : Int32} (hM : SK μ) (m0 : mm_I μ 76 0 = nI c0) (h02 : c0 ≤ 2) (hx : atF c0 x1 = none) (h : ∀ μ', KeM μ μ' → q (-1) μ') : mm_Ci X 4 0 0 k_M_feast [.ref 71, .int x1, .int x2] μ q := by
  show mm_T X 4 0 0 k_M_feast 0 [some (.ref 71), some (.int x1), some (.int x2), none] [] _ _
  refine mm_aload d_M_feast_0 rfl ?_
  refine mm_ci d_M_feast_1 ?_
  refine mm_putI d_M_feast_2 rfl (sk_o_71 hM) (Or.inl rfl) ?_
  refine mm_aload d_M_feast_5 rfl ?_
  refine mm_iload d_M_feast_6 rfl ?_
  refine mm_v1i d_M_feast_7 (sk_o_71 hM) (n_M_hand hM m0 h02 hx ?_)
  refine mm_if_eq d_M_feast_10 (fun c_10 => ?_) (fun c_10 => absurd rfl c_10)
  refine mm_ci d_M_feast_27 ?_
  exact mm_ri d_M_feast_28 (h _ (by first | exact KeM.rf.st | exact KeM.rf.st.st))
theorem n_M_odds {X : mm_X} {μ : mm_M} {q : Int64 → mm_M → Prop} {c0 : Nat} {x1 x2 x3 x4 : Int32} (hM : SK μ) (m0 : mm_I μ 76 0 = nI c0) (h02 : c0 ≤ 2) (hx : atF c0 x1 = none) (h : ∀ μ', KeM μ μ' → q (-1) μ') : mm_Cj X 4 0 0 k_M_odds [.ref 71, .int x1, .int x2, .int x3, .int x4] μ q := by
  show mm_T X 4 0 0 k_M_odds 0 [some (.ref 71), some (.int x1), some (.int x2), some (.int x3), some (.int x4)] [] _ _
  refine mm_aload d_M_odds_0 rfl ?_
  refine mm_ci d_M_odds_1 ?_
  refine mm_putI d_M_odds_2 rfl (sk_o_71 hM) (Or.inl rfl) ?_
  refine mm_iload d_M_odds_5 rfl ?_
  refine mm_ci d_M_odds_6 ?_
  refine mm_ci d_M_odds_7 ?_
  refine mm_s3i d_M_odds_10 (sp_M_in ?_)
  refine mm_if_eq d_M_odds_13 (fun c_13 => ?_) (fun c_13 => ?_)
  · refine mm_lci d_M_odds_32 ?_
    exact mm_rj d_M_odds_35 (h _ (by first | exact KeM.rf.st | exact KeM.rf.st.st))
  · refine mm_aload d_M_odds_16 rfl ?_
    refine mm_iload d_M_odds_17 rfl ?_
    refine mm_v1i d_M_odds_18 (sk_o_71 hM) (n_M_hand hM m0 h02 hx ?_)
    refine mm_if_eq d_M_odds_21 (fun c_21 => ?_) (fun c_21 => absurd rfl c_21)
    refine mm_lci d_M_odds_32 ?_
    exact mm_rj d_M_odds_35 (h _ (by first | exact KeM.rf.st | exact KeM.rf.st.st))
theorem n_M_village {X : mm_X} {μ : mm_M} {q : Int32 → mm_M → Prop} {c0 : Nat} {x1 x2 : Int32} (hM : SK μ) (m0 : mm_I μ 76 0 = nI c0) (h02 : c0 ≤ 2) (hx : atF c0 x1 = none) (h : ∀ μ', KeM μ μ' → q (-1) μ') : mm_Ci X 4 0 0 k_M_village [.ref 71, .int x1, .int x2] μ q := by
  show mm_T X 4 0 0 k_M_village 0 [some (.ref 71), some (.int x1), some (.int x2), none, none, none, none] [] _ _
  refine mm_aload d_M_village_0 rfl ?_
  refine mm_ci d_M_village_1 ?_
  refine mm_putI d_M_village_2 rfl (sk_o_71 hM) (Or.inl rfl) ?_
  refine mm_aload d_M_village_5 rfl ?_
  refine mm_iload d_M_village_6 rfl ?_
  refine mm_v1i d_M_village_7 (sk_o_71 hM) (n_M_hand hM m0 h02 hx ?_)
  refine mm_if_ne d_M_village_10 (fun c_10 => absurd rfl c_10) (fun c_10 => ?_)
  refine mm_ci d_M_village_13 ?_
  exact mm_ri d_M_village_14 (h _ (by first | exact KeM.rf.st | exact KeM.rf.st.st))
theorem n_M_boats {X : mm_X} {μ : mm_M} {q : Int32 → mm_M → Prop} {c0 : Nat} {x1 x2 : Int32} (hM : SK μ) (m0 : mm_I μ 76 0 = nI c0) (h02 : c0 ≤ 2) (hx : atF c0 x1 = none) (h : ∀ μ', KeM μ μ' → q (-1) μ') : mm_Ci X 4 0 0 k_M_boats [.ref 71, .int x1, .int x2] μ q := by
  show mm_T X 4 0 0 k_M_boats 0 [some (.ref 71), some (.int x1), some (.int x2)] [] _ _
  refine mm_aload d_M_boats_0 rfl ?_
  refine mm_ci d_M_boats_1 ?_
  refine mm_putI d_M_boats_2 rfl (sk_o_71 hM) (Or.inl rfl) ?_
  refine mm_iload d_M_boats_5 rfl ?_
  refine mm_ci d_M_boats_6 ?_
  refine mm_ci d_M_boats_7 ?_
  refine mm_s3i d_M_boats_9 (sp_M_in ?_)
  refine mm_if_eq d_M_boats_12 (fun c_12 => ?_) (fun c_12 => ?_)
  · refine mm_ci d_M_boats_31 ?_
    exact mm_ri d_M_boats_32 (h _ (by first | exact KeM.rf.st | exact KeM.rf.st.st))
  · refine mm_aload d_M_boats_15 rfl ?_
    refine mm_iload d_M_boats_16 rfl ?_
    refine mm_v1i d_M_boats_17 (sk_o_71 hM) (n_M_hand hM m0 h02 hx ?_)
    refine mm_if_eq d_M_boats_20 (fun c_20 => ?_) (fun c_20 => absurd rfl c_20)
    refine mm_ci d_M_boats_31 ?_
    exact mm_ri d_M_boats_32 (h _ (by first | exact KeM.rf.st | exact KeM.rf.st.st))
theorem n_M_headland {X : mm_X} {μ : mm_M} {q : Int32 → mm_M → Prop} {c0 : Nat} {x1 x2 x3 : Int32} (hM : SK μ) (m0 : mm_I μ 76 0 = nI c0) (h02 : c0 ≤ 2) (hx : atF c0 x1 = none) (h : ∀ μ', KeM μ μ' → q (-2) μ') : mm_Ci X 4 0 0 k_M_headland [.ref 71, .int x1, .int x2, .int x3] μ q := by
  show mm_T X 4 0 0 k_M_headland 0 [some (.ref 71), some (.int x1), some (.int x2), some (.int x3), none, none, none] [] _ _
  refine mm_aload d_M_headland_0 rfl ?_
  refine mm_ci d_M_headland_1 ?_
  refine mm_putI d_M_headland_2 rfl (sk_o_71 hM) (Or.inl rfl) ?_
  refine mm_iload d_M_headland_5 rfl ?_
  refine mm_ci d_M_headland_6 ?_
  refine mm_ci d_M_headland_7 ?_
  refine mm_s3i d_M_headland_8 (sp_M_in ?_)
  refine mm_if_eq d_M_headland_11 (fun c_11 => ?_) (fun c_11 => ?_)
  · refine mm_ci d_M_headland_22 ?_
    exact mm_ri d_M_headland_24 (h _ (by first | exact KeM.rf.st | exact KeM.rf.st.st))
  · refine mm_aload d_M_headland_14 rfl ?_
    refine mm_iload d_M_headland_15 rfl ?_
    refine mm_v1i d_M_headland_16 (sk_o_71 hM) (n_M_hand hM m0 h02 hx ?_)
    refine mm_if_ne d_M_headland_19 (fun c_19 => absurd rfl c_19) (fun c_19 => ?_)
    refine mm_ci d_M_headland_22 ?_
    exact mm_ri d_M_headland_24 (h _ (by first | exact KeM.rf.st | exact KeM.rf.st.st))
theorem n_M_fact {X : mm_X} {μ : mm_M} {q : Int32 → mm_M → Prop} {c2 : Nat} {x1 x2 x3 : Int32} (hM : SK μ) (m2 : mm_I μ 76 2 = nI c2) (h22 : c2 ≤ 2) (hz : atF c2 x1 = none) (h : ∀ μ', KeM μ μ' → q (-2) μ') : mm_Ci X 4 0 0 k_M_fact [.ref 71, .int x1, .int x2, .int x3] μ q := by
  show mm_T X 4 0 0 k_M_fact 0 [some (.ref 71), some (.int x1), some (.int x2), some (.int x3)] [] _ _
  refine mm_aload d_M_fact_0 rfl ?_
  refine mm_ci d_M_fact_1 ?_
  refine mm_putI d_M_fact_2 rfl (sk_o_71 hM) (Or.inl rfl) ?_
  refine mm_aload d_M_fact_5 rfl ?_
  refine mm_iload d_M_fact_6 rfl ?_
  refine mm_v1i d_M_fact_7 (sk_o_71 hM) (n_M_hasLog hM m2 h22 hz ?_)
  refine mm_if_ne d_M_fact_10 (fun c_10 => absurd rfl c_10) (fun c_10 => ?_)
  refine mm_ci d_M_fact_13 ?_
  exact mm_ri d_M_fact_15 (h _ (by first | exact KeM.rf.st | exact KeM.rf.st.st))
theorem n_M_fits {X : mm_X} {μ : mm_M} {q : Int32 → mm_M → Prop} {c2 : Nat} {x1 x2 : Int32} (hM : SK μ) (m2 : mm_I μ 76 2 = nI c2) (h22 : c2 ≤ 2) (hz : atF c2 x1 = none) (h : ∀ μ', KeM μ μ' → q (-2) μ') : mm_Ci X 4 0 0 k_M_fits [.ref 71, .int x1, .int x2] μ q := by
  show mm_T X 4 0 0 k_M_fits 0 [some (.ref 71), some (.int x1), some (.int x2)] [] _ _
  refine mm_aload d_M_fits_0 rfl ?_
  refine mm_ci d_M_fits_1 ?_
  refine mm_putI d_M_fits_2 rfl (sk_o_71 hM) (Or.inl rfl) ?_
  refine mm_aload d_M_fits_5 rfl ?_
  refine mm_iload d_M_fits_6 rfl ?_
  refine mm_v1i d_M_fits_7 (sk_o_71 hM) (n_M_layLog hM m2 h22 hz ?_)
  refine mm_if_ne d_M_fits_10 (fun c_10 => absurd rfl c_10) (fun c_10 => ?_)
  refine mm_ci d_M_fits_13 ?_
  exact mm_ri d_M_fits_15 (h _ (by first | exact KeM.rf.st | exact KeM.rf.st.st))
theorem n_M_whose {X : mm_X} {μ : mm_M} {q : Int32 → mm_M → Prop} {c2 : Nat} {x1 x2 : Int32} (hM : SK μ) (m2 : mm_I μ 76 2 = nI c2) (h22 : c2 ≤ 2) (hz : atF c2 x2 = none) (h : ∀ μ', KeM μ μ' → q (-1) μ') : mm_Ci X 4 0 0 k_M_whose [.ref 71, .int x1, .int x2] μ q := by
  show mm_T X 4 0 0 k_M_whose 0 [some (.ref 71), some (.int x1), some (.int x2), none, none] [] _ _
  refine mm_aload d_M_whose_0 rfl ?_
  refine mm_ci d_M_whose_1 ?_
  refine mm_putI d_M_whose_2 rfl (sk_o_71 hM) (Or.inl rfl) ?_
  refine mm_aload d_M_whose_5 rfl ?_
  refine mm_iload d_M_whose_6 rfl ?_
  refine mm_v1i d_M_whose_7 (sk_o_71 hM) (n_M_hasLog hM m2 h22 hz ?_)
  refine mm_if_eq d_M_whose_10 (fun c_10 => ?_) (fun c_10 => absurd rfl c_10)
  refine mm_ci d_M_whose_21 ?_
  exact mm_ri d_M_whose_22 (h _ (by first | exact KeM.rf.st | exact KeM.rf.st.st))
theorem n_M_drawn {X : mm_X} {μ : mm_M} {q : Int32 → mm_M → Prop} {c0 : Nat} {x1 x2 x3 x4 : Int32} (hM : SK μ) (m0 : mm_I μ 76 0 = nI c0) (h02 : c0 ≤ 2) (hx : atF c0 x1 = none) (h : ∀ μ', KeM μ μ' → q (-1) μ') : mm_Ci X 4 0 0 k_M_drawn [.ref 71, .int x1, .int x2, .int x3, .int x4] μ q := by
  show mm_T X 4 0 0 k_M_drawn 0 [some (.ref 71), some (.int x1), some (.int x2), some (.int x3), some (.int x4), none] [] _ _
  refine mm_aload d_M_drawn_0 rfl ?_
  refine mm_ci d_M_drawn_1 ?_
  refine mm_putI d_M_drawn_2 rfl (sk_o_71 hM) (Or.inl rfl) ?_
  refine mm_iload d_M_drawn_5 rfl ?_
  refine mm_ci d_M_drawn_6 ?_
  refine mm_ci d_M_drawn_7 ?_
  refine mm_s3i d_M_drawn_9 (sp_M_in ?_)
  refine mm_if_eq d_M_drawn_12 (fun c_12 => ?_) (fun c_12 => ?_)
  · refine mm_ci d_M_drawn_23 ?_
    exact mm_ri d_M_drawn_24 (h _ (by first | exact KeM.rf.st | exact KeM.rf.st.st))
  · refine mm_aload d_M_drawn_15 rfl ?_
    refine mm_iload d_M_drawn_16 rfl ?_
    refine mm_v1i d_M_drawn_17 (sk_o_71 hM) (n_M_hand hM m0 h02 hx ?_)
    refine mm_if_ne d_M_drawn_20 (fun c_20 => absurd rfl c_20) (fun c_20 => ?_)
    refine mm_ci d_M_drawn_23 ?_
    exact mm_ri d_M_drawn_24 (h _ (by first | exact KeM.rf.st | exact KeM.rf.st.st))
theorem n_M_kin {X : mm_X} {μ : mm_M} {q : Int32 → mm_M → Prop} {c0 : Nat} {x1 x2 x3 : Int32} (hM : SK μ) (m0 : mm_I μ 76 0 = nI c0) (h02 : c0 ≤ 2) (hx : atF c0 x1 = none) (h : ∀ μ', KeM μ μ' → q (-1) μ') : mm_Ci X 4 0 0 k_M_kin [.ref 71, .int x1, .int x2, .int x3] μ q := by
  show mm_T X 4 0 0 k_M_kin 0 [some (.ref 71), some (.int x1), some (.int x2), some (.int x3)] [] _ _
  refine mm_aload d_M_kin_0 rfl ?_
  refine mm_ci d_M_kin_1 ?_
  refine mm_putI d_M_kin_2 rfl (sk_o_71 hM) (Or.inl rfl) ?_
  refine mm_aload d_M_kin_5 rfl ?_
  refine mm_iload d_M_kin_6 rfl ?_
  refine mm_v1i d_M_kin_7 (sk_o_71 hM) (n_M_hand hM m0 h02 hx ?_)
  refine mm_if_eq d_M_kin_10 (fun c_10 => ?_) (fun c_10 => absurd rfl c_10)
  refine mm_ci d_M_kin_46 ?_
  exact mm_ri d_M_kin_47 (h _ (by first | exact KeM.rf.st | exact KeM.rf.st.st))
theorem n_M_clan {X : mm_X} {μ : mm_M} {q : Int32 → mm_M → Prop} {c0 : Nat} {x1 x2 : Int32} (hM : SK μ) (m0 : mm_I μ 76 0 = nI c0) (h02 : c0 ≤ 2) (hx : atF c0 x1 = none) (h : ∀ μ', KeM μ μ' → q (-2) μ') : mm_Ci X 4 0 0 k_M_clan [.ref 71, .int x1, .int x2] μ q := by
  show mm_T X 4 0 0 k_M_clan 0 [some (.ref 71), some (.int x1), some (.int x2)] [] _ _
  refine mm_aload d_M_clan_0 rfl ?_
  refine mm_ci d_M_clan_1 ?_
  refine mm_putI d_M_clan_2 rfl (sk_o_71 hM) (Or.inl rfl) ?_
  refine mm_aload d_M_clan_5 rfl ?_
  refine mm_iload d_M_clan_6 rfl ?_
  refine mm_v1i d_M_clan_7 (sk_o_71 hM) (n_M_hand hM m0 h02 hx ?_)
  refine mm_if_ne d_M_clan_10 (fun c_10 => absurd rfl c_10) (fun c_10 => ?_)
  refine mm_ci d_M_clan_13 ?_
  exact mm_ri d_M_clan_15 (h _ (by first | exact KeM.rf.st | exact KeM.rf.st.st))
theorem n_M_lone {X : mm_X} {μ : mm_M} {q : Int32 → mm_M → Prop} {c0 : Nat} {x1 x2 : Int32} (hM : SK μ) (m0 : mm_I μ 76 0 = nI c0) (h02 : c0 ≤ 2) (hx : atF c0 x1 = none) (h : ∀ μ', KeM μ μ' → q (-2) μ') : mm_Ci X 4 0 0 k_M_lone [.ref 71, .int x1, .int x2] μ q := by
  show mm_T X 4 0 0 k_M_lone 0 [some (.ref 71), some (.int x1), some (.int x2), none, none, none] [] _ _
  refine mm_aload d_M_lone_0 rfl ?_
  refine mm_ci d_M_lone_1 ?_
  refine mm_putI d_M_lone_2 rfl (sk_o_71 hM) (Or.inl rfl) ?_
  refine mm_aload d_M_lone_5 rfl ?_
  refine mm_iload d_M_lone_6 rfl ?_
  refine mm_v1i d_M_lone_7 (sk_o_71 hM) (n_M_hand hM m0 h02 hx ?_)
  refine mm_if_ne d_M_lone_10 (fun c_10 => absurd rfl c_10) (fun c_10 => ?_)
  refine mm_ci d_M_lone_13 ?_
  exact mm_ri d_M_lone_15 (h _ (by first | exact KeM.rf.st | exact KeM.rf.st.st))
theorem n_M_near {X : mm_X} {μ : mm_M} {q : Int32 → mm_M → Prop} {c0 : Nat} {x1 x2 : Int32} (hM : SK μ) (m0 : mm_I μ 76 0 = nI c0) (h02 : c0 ≤ 2) (hx : atF c0 x1 = none) (h : ∀ μ', KeM μ μ' → q (-1) μ') : mm_Ci X 4 0 0 k_M_near [.ref 71, .int x1, .int x2] μ q := by
  show mm_T X 4 0 0 k_M_near 0 [some (.ref 71), some (.int x1), some (.int x2), none, none] [] _ _
  refine mm_aload d_M_near_0 rfl ?_
  refine mm_ci d_M_near_1 ?_
  refine mm_putI d_M_near_2 rfl (sk_o_71 hM) (Or.inl rfl) ?_
  refine mm_iload d_M_near_5 rfl ?_
  refine mm_ci d_M_near_6 ?_
  refine mm_ci d_M_near_7 ?_
  refine mm_s3i d_M_near_10 (sp_M_in ?_)
  refine mm_if_eq d_M_near_13 (fun c_13 => ?_) (fun c_13 => ?_)
  · refine mm_ci d_M_near_24 ?_
    exact mm_ri d_M_near_25 (h _ (by first | exact KeM.rf.st | exact KeM.rf.st.st))
  · refine mm_aload d_M_near_16 rfl ?_
    refine mm_iload d_M_near_17 rfl ?_
    refine mm_v1i d_M_near_18 (sk_o_71 hM) (n_M_hand hM m0 h02 hx ?_)
    refine mm_if_ne d_M_near_21 (fun c_21 => absurd rfl c_21) (fun c_21 => ?_)
    refine mm_ci d_M_near_24 ?_
    exact mm_ri d_M_near_25 (h _ (by first | exact KeM.rf.st | exact KeM.rf.st.st))
theorem n_M_ladder {X : mm_X} {μ : mm_M} {q : Int32 → mm_M → Prop} {c0 : Nat} {x1 x2 : Int32} (hM : SK μ) (m0 : mm_I μ 76 0 = nI c0) (h02 : c0 ≤ 2) (hx : atF c0 x1 = none) (h : ∀ μ', KeM μ μ' → q (-1) μ') : mm_Ci X 4 0 0 k_M_ladder [.ref 71, .int x1, .int x2] μ q := by
  show mm_T X 4 0 0 k_M_ladder 0 [some (.ref 71), some (.int x1), some (.int x2), none, none, none, none, none] [] _ _
  refine mm_aload d_M_ladder_0 rfl ?_
  refine mm_ci d_M_ladder_1 ?_
  refine mm_putI d_M_ladder_2 rfl (sk_o_71 hM) (Or.inl rfl) ?_
  refine mm_aload d_M_ladder_5 rfl ?_
  refine mm_iload d_M_ladder_6 rfl ?_
  refine mm_v1i d_M_ladder_7 (sk_o_71 hM) (n_M_hand hM m0 h02 hx ?_)
  refine mm_if_ne d_M_ladder_10 (fun c_10 => absurd rfl c_10) (fun c_10 => ?_)
  refine mm_ci d_M_ladder_13 ?_
  exact mm_ri d_M_ladder_14 (h _ (by first | exact KeM.rf.st | exact KeM.rf.st.st))
theorem n_M_storm {X : mm_X} {μ : mm_M} {q : Int64 → mm_M → Prop} {c0 : Nat} {x1 x2 x3 : Int32} (hM : SK μ) (m0 : mm_I μ 76 0 = nI c0) (h02 : c0 ≤ 2) (hx : atF c0 x1 = none) (h : ∀ μ', KeM μ μ' → q (-1) μ') : mm_Cj X 4 0 0 k_M_storm [.ref 71, .int x1, .int x2, .int x3] μ q := by
  show mm_T X 4 0 0 k_M_storm 0 [some (.ref 71), some (.int x1), some (.int x2), some (.int x3), none, none, none, none, none, none] [] _ _
  refine mm_aload d_M_storm_0 rfl ?_
  refine mm_ci d_M_storm_1 ?_
  refine mm_putI d_M_storm_2 rfl (sk_o_71 hM) (Or.inl rfl) ?_
  refine mm_iload d_M_storm_5 rfl ?_
  refine mm_ci d_M_storm_6 ?_
  refine mm_ci d_M_storm_7 ?_
  refine mm_s3i d_M_storm_9 (sp_M_in ?_)
  refine mm_if_eq d_M_storm_12 (fun c_12 => ?_) (fun c_12 => ?_)
  · refine mm_lci d_M_storm_23 ?_
    exact mm_rj d_M_storm_26 (h _ (by first | exact KeM.rf.st | exact KeM.rf.st.st))
  · refine mm_aload d_M_storm_15 rfl ?_
    refine mm_iload d_M_storm_16 rfl ?_
    refine mm_v1i d_M_storm_17 (sk_o_71 hM) (n_M_hand hM m0 h02 hx ?_)
    refine mm_if_ne d_M_storm_20 (fun c_20 => absurd rfl c_20) (fun c_20 => ?_)
    refine mm_lci d_M_storm_23 ?_
    exact mm_rj d_M_storm_26 (h _ (by first | exact KeM.rf.st | exact KeM.rf.st.st))
theorem n_M_lack {X : mm_X} {μ : mm_M} {q : Int32 → mm_M → Prop} {c0 : Nat} {x1 x2 : Int32} (hM : SK μ) (m0 : mm_I μ 76 0 = nI c0) (h02 : c0 ≤ 2) (hx : atF c0 x1 = none) (h : ∀ μ', KeM μ μ' → q (-1) μ') : mm_Ci X 4 0 0 k_M_lack [.ref 71, .int x1, .int x2] μ q := by
  show mm_T X 4 0 0 k_M_lack 0 [some (.ref 71), some (.int x1), some (.int x2)] [] _ _
  refine mm_aload d_M_lack_0 rfl ?_
  refine mm_ci d_M_lack_1 ?_
  refine mm_putI d_M_lack_2 rfl (sk_o_71 hM) (Or.inl rfl) ?_
  refine mm_aload d_M_lack_5 rfl ?_
  refine mm_iload d_M_lack_6 rfl ?_
  refine mm_v1i d_M_lack_7 (sk_o_71 hM) (n_M_hand hM m0 h02 hx ?_)
  refine mm_if_eq d_M_lack_10 (fun c_10 => ?_) (fun c_10 => absurd rfl c_10)
  refine mm_ci d_M_lack_47 ?_
  exact mm_ri d_M_lack_48 (h _ (by first | exact KeM.rf.st | exact KeM.rf.st.st))
theorem n_M_busy {X : mm_X} {μ : mm_M} {q : Int32 → mm_M → Prop} {c0 : Nat} {x1 x2 : Int32} (hM : SK μ) (m0 : mm_I μ 76 0 = nI c0) (h02 : c0 ≤ 2) (hx : atF c0 x1 = none) (h : ∀ μ', KeM μ μ' → q (-1) μ') : mm_Ci X 4 0 0 k_M_busy [.ref 71, .int x1, .int x2] μ q := by
  show mm_T X 4 0 0 k_M_busy 0 [some (.ref 71), some (.int x1), some (.int x2), none] [] _ _
  refine mm_aload d_M_busy_0 rfl ?_
  refine mm_ci d_M_busy_1 ?_
  refine mm_putI d_M_busy_2 rfl (sk_o_71 hM) (Or.inl rfl) ?_
  refine mm_aload d_M_busy_5 rfl ?_
  refine mm_iload d_M_busy_6 rfl ?_
  refine mm_v1i d_M_busy_7 (sk_o_71 hM) (n_M_hand hM m0 h02 hx ?_)
  refine mm_if_eq d_M_busy_10 (fun c_10 => ?_) (fun c_10 => absurd rfl c_10)
  refine mm_ci d_M_busy_27 ?_
  exact mm_ri d_M_busy_28 (h _ (by first | exact KeM.rf.st | exact KeM.rf.st.st))
theorem n_M_lots {X : mm_X} {μ : mm_M} {q : Int64 → mm_M → Prop} {c0 : Nat} {x1 x2 x3 : Int32} (hM : SK μ) (m0 : mm_I μ 76 0 = nI c0) (h02 : c0 ≤ 2) (hx : atF c0 x1 = none) (h : ∀ μ', KeM μ μ' → q (-1) μ') : mm_Cj X 4 0 0 k_M_lots [.ref 71, .int x1, .int x2, .int x3] μ q := by
  show mm_T X 4 0 0 k_M_lots 0 [some (.ref 71), some (.int x1), some (.int x2), some (.int x3), none, none, none, none, none] [] _ _
  refine mm_aload d_M_lots_0 rfl ?_
  refine mm_ci d_M_lots_1 ?_
  refine mm_putI d_M_lots_2 rfl (sk_o_71 hM) (Or.inl rfl) ?_
  refine mm_aload d_M_lots_5 rfl ?_
  refine mm_iload d_M_lots_6 rfl ?_
  refine mm_v1i d_M_lots_7 (sk_o_71 hM) (n_M_hand hM m0 h02 hx ?_)
  refine mm_if_eq d_M_lots_10 (fun c_10 => ?_) (fun c_10 => absurd rfl c_10)
  refine mm_lci d_M_lots_21 ?_
  exact mm_rj d_M_lots_24 (h _ (by first | exact KeM.rf.st | exact KeM.rf.st.st))
theorem n_M_heir {X : mm_X} {μ : mm_M} {q : Int32 → mm_M → Prop} {c0 : Nat} {x1 x2 : Int32} (hM : SK μ) (m0 : mm_I μ 76 0 = nI c0) (h02 : c0 ≤ 2) (hx : atF c0 x1 = none) (h : ∀ μ', KeM μ μ' → q (-1) μ') : mm_Ci X 4 0 0 k_M_heir [.ref 71, .int x1, .int x2] μ q := by
  show mm_T X 4 0 0 k_M_heir 0 [some (.ref 71), some (.int x1), some (.int x2), none, none, none, none] [] _ _
  refine mm_aload d_M_heir_0 rfl ?_
  refine mm_ci d_M_heir_1 ?_
  refine mm_putI d_M_heir_2 rfl (sk_o_71 hM) (Or.inl rfl) ?_
  refine mm_aload d_M_heir_5 rfl ?_
  refine mm_iload d_M_heir_6 rfl ?_
  refine mm_v1i d_M_heir_7 (sk_o_71 hM) (n_M_hand hM m0 h02 hx ?_)
  refine mm_if_ne d_M_heir_10 (fun c_10 => absurd rfl c_10) (fun c_10 => ?_)
  refine mm_ci d_M_heir_13 ?_
  exact mm_ri d_M_heir_14 (h _ (by first | exact KeM.rf.st | exact KeM.rf.st.st))
theorem n_M_plan {X : mm_X} {μ : mm_M} {q : Int32 → mm_M → Prop} {c0 : Nat} {x1 x2 : Int32} (hM : SK μ) (m0 : mm_I μ 76 0 = nI c0) (h02 : c0 ≤ 2) (hx : atF c0 x1 = none) (h : ∀ μ', KeM μ μ' → q (-1) μ') : mm_Ci X 4 0 0 k_M_plan [.ref 71, .int x1, .int x2] μ q := by
  show mm_T X 4 0 0 k_M_plan 0 [some (.ref 71), some (.int x1), some (.int x2), none] [] _ _
  refine mm_aload d_M_plan_0 rfl ?_
  refine mm_ci d_M_plan_1 ?_
  refine mm_putI d_M_plan_2 rfl (sk_o_71 hM) (Or.inl rfl) ?_
  refine mm_aload d_M_plan_5 rfl ?_
  refine mm_iload d_M_plan_6 rfl ?_
  refine mm_v1i d_M_plan_7 (sk_o_71 hM) (n_M_hand hM m0 h02 hx ?_)
  refine mm_if_ne d_M_plan_10 (fun c_10 => absurd rfl c_10) (fun c_10 => ?_)
  refine mm_ci d_M_plan_13 ?_
  exact mm_ri d_M_plan_14 (h _ (by first | exact KeM.rf.st | exact KeM.rf.st.st))
theorem n_M_levy {X : mm_X} {μ : mm_M} {q : Int32 → mm_M → Prop} {c0 : Nat} {x1 x2 : Int32} (hM : SK μ) (m0 : mm_I μ 76 0 = nI c0) (h02 : c0 ≤ 2) (hx : atF c0 x1 = none) (h : ∀ μ', KeM μ μ' → q (-1) μ') : mm_Ci X 4 0 0 k_M_levy [.ref 71, .int x1, .int x2] μ q := by
  show mm_T X 4 0 0 k_M_levy 0 [some (.ref 71), some (.int x1), some (.int x2), none, none, none, none, none, none] [] _ _
  refine mm_aload d_M_levy_0 rfl ?_
  refine mm_ci d_M_levy_1 ?_
  refine mm_putI d_M_levy_2 rfl (sk_o_71 hM) (Or.inl rfl) ?_
  refine mm_iload d_M_levy_5 rfl ?_
  refine mm_ci d_M_levy_6 ?_
  refine mm_ci d_M_levy_7 ?_
  refine mm_s3i d_M_levy_9 (sp_M_in ?_)
  refine mm_if_eq d_M_levy_12 (fun c_12 => ?_) (fun c_12 => ?_)
  · refine mm_ci d_M_levy_23 ?_
    exact mm_ri d_M_levy_24 (h _ (by first | exact KeM.rf.st | exact KeM.rf.st.st))
  · refine mm_aload d_M_levy_15 rfl ?_
    refine mm_iload d_M_levy_16 rfl ?_
    refine mm_v1i d_M_levy_17 (sk_o_71 hM) (n_M_hand hM m0 h02 hx ?_)
    refine mm_if_ne d_M_levy_20 (fun c_20 => absurd rfl c_20) (fun c_20 => ?_)
    refine mm_ci d_M_levy_23 ?_
    exact mm_ri d_M_levy_24 (h _ (by first | exact KeM.rf.st | exact KeM.rf.st.st))
theorem n_M_ready {X : mm_X} {μ : mm_M} {q : Int32 → mm_M → Prop} {c0 : Nat} {x1 x2 : Int32} (hM : SK μ) (m0 : mm_I μ 76 0 = nI c0) (h02 : c0 ≤ 2) (hx : atF c0 x1 = none) (h : ∀ μ', KeM μ μ' → q (-1) μ') : mm_Ci X 4 0 0 k_M_ready [.ref 71, .int x1, .int x2] μ q := by
  show mm_T X 4 0 0 k_M_ready 0 [some (.ref 71), some (.int x1), some (.int x2)] [] _ _
  refine mm_aload d_M_ready_0 rfl ?_
  refine mm_ci d_M_ready_1 ?_
  refine mm_putI d_M_ready_2 rfl (sk_o_71 hM) (Or.inl rfl) ?_
  refine mm_iload d_M_ready_5 rfl ?_
  refine mm_ci d_M_ready_6 ?_
  refine mm_ci d_M_ready_7 ?_
  refine mm_s3i d_M_ready_10 (sp_M_in ?_)
  refine mm_if_eq d_M_ready_13 (fun c_13 => ?_) (fun c_13 => ?_)
  · refine mm_ci d_M_ready_32 ?_
    exact mm_ri d_M_ready_33 (h _ (by first | exact KeM.rf.st | exact KeM.rf.st.st))
  · refine mm_aload d_M_ready_16 rfl ?_
    refine mm_iload d_M_ready_17 rfl ?_
    refine mm_v1i d_M_ready_18 (sk_o_71 hM) (n_M_hand hM m0 h02 hx ?_)
    refine mm_if_eq d_M_ready_21 (fun c_21 => ?_) (fun c_21 => absurd rfl c_21)
    refine mm_ci d_M_ready_32 ?_
    exact mm_ri d_M_ready_33 (h _ (by first | exact KeM.rf.st | exact KeM.rf.st.st))
theorem n_M_hope {X : mm_X} {μ : mm_M} {q : Int64 → mm_M → Prop} {c0 : Nat} {x1 x2 x3 : Int32} (hM : SK μ) (m0 : mm_I μ 76 0 = nI c0) (h02 : c0 ≤ 2) (hx : atF c0 x1 = none) (h : ∀ μ', KeM μ μ' → q (-1) μ') : mm_Cj X 4 0 0 k_M_hope [.ref 71, .int x1, .int x2, .int x3] μ q := by
  show mm_T X 4 0 0 k_M_hope 0 [some (.ref 71), some (.int x1), some (.int x2), some (.int x3)] [] _ _
  refine mm_aload d_M_hope_0 rfl ?_
  refine mm_ci d_M_hope_1 ?_
  refine mm_putI d_M_hope_2 rfl (sk_o_71 hM) (Or.inl rfl) ?_
  refine mm_aload d_M_hope_5 rfl ?_
  refine mm_iload d_M_hope_6 rfl ?_
  refine mm_v1i d_M_hope_7 (sk_o_71 hM) (n_M_hand hM m0 h02 hx ?_)
  refine mm_if_eq d_M_hope_10 (fun c_10 => ?_) (fun c_10 => absurd rfl c_10)
  refine mm_lci d_M_hope_21 ?_
  exact mm_rj d_M_hope_24 (h _ (by first | exact KeM.rf.st | exact KeM.rf.st.st))
theorem n_M_pair {X : mm_X} {μ : mm_M} {q : Int32 → mm_M → Prop} {c0 : Nat} {x1 x2 : Int32} (hM : SK μ) (m0 : mm_I μ 76 0 = nI c0) (h02 : c0 ≤ 2) (hx : atF c0 x1 = none) (h : ∀ μ', KeM μ μ' → q (-1) μ') : mm_Ci X 4 0 0 k_M_pair [.ref 71, .int x1, .int x2] μ q := by
  show mm_T X 4 0 0 k_M_pair 0 [some (.ref 71), some (.int x1), some (.int x2), none, none, none, none, none] [] _ _
  refine mm_aload d_M_pair_0 rfl ?_
  refine mm_ci d_M_pair_1 ?_
  refine mm_putI d_M_pair_2 rfl (sk_o_71 hM) (Or.inl rfl) ?_
  refine mm_aload d_M_pair_5 rfl ?_
  refine mm_iload d_M_pair_6 rfl ?_
  refine mm_v1i d_M_pair_7 (sk_o_71 hM) (n_M_hand hM m0 h02 hx ?_)
  refine mm_if_ne d_M_pair_10 (fun c_10 => absurd rfl c_10) (fun c_10 => ?_)
  refine mm_ci d_M_pair_13 ?_
  exact mm_ri d_M_pair_14 (h _ (by first | exact KeM.rf.st | exact KeM.rf.st.st))
theorem n_M_seat {X : mm_X} {μ : mm_M} {q : Int32 → mm_M → Prop} {c0 : Nat} {x1 x2 x3 : Int32} (hM : SK μ) (m0 : mm_I μ 76 0 = nI c0) (h02 : c0 ≤ 2) (hx : atF c0 x1 = none) (h : ∀ μ', KeM μ μ' → q (-1) μ') : mm_Ci X 4 0 0 k_M_seat [.ref 71, .int x1, .int x2, .int x3] μ q := by
  show mm_T X 4 0 0 k_M_seat 0 [some (.ref 71), some (.int x1), some (.int x2), some (.int x3)] [] _ _
  refine mm_aload d_M_seat_0 rfl ?_
  refine mm_ci d_M_seat_1 ?_
  refine mm_putI d_M_seat_2 rfl (sk_o_71 hM) (Or.inl rfl) ?_
  refine mm_iload d_M_seat_5 rfl ?_
  refine mm_ci d_M_seat_6 ?_
  refine mm_ci d_M_seat_7 ?_
  refine mm_s3i d_M_seat_9 (sp_M_in ?_)
  refine mm_if_eq d_M_seat_12 (fun c_12 => ?_) (fun c_12 => ?_)
  · refine mm_ci d_M_seat_31 ?_
    exact mm_ri d_M_seat_32 (h _ (by first | exact KeM.rf.st | exact KeM.rf.st.st))
  · refine mm_aload d_M_seat_15 rfl ?_
    refine mm_iload d_M_seat_16 rfl ?_
    refine mm_v1i d_M_seat_17 (sk_o_71 hM) (n_M_hand hM m0 h02 hx ?_)
    refine mm_if_eq d_M_seat_20 (fun c_20 => ?_) (fun c_20 => absurd rfl c_20)
    refine mm_ci d_M_seat_31 ?_
    exact mm_ri d_M_seat_32 (h _ (by first | exact KeM.rf.st | exact KeM.rf.st.st))
theorem n_M_tide {X : mm_X} {μ : mm_M} {q : Int32 → mm_M → Prop} {c0 : Nat} {x1 x2 x3 : Int32} (hM : SK μ) (m0 : mm_I μ 76 0 = nI c0) (h02 : c0 ≤ 2) (hx : atF c0 x1 = none) (h : ∀ μ', KeM μ μ' → q (-1) μ') : mm_Ci X 4 0 0 k_M_tide [.ref 71, .int x1, .int x2, .int x3] μ q := by
  show mm_T X 4 0 0 k_M_tide 0 [some (.ref 71), some (.int x1), some (.int x2), some (.int x3), none, none, none] [] _ _
  refine mm_aload d_M_tide_0 rfl ?_
  refine mm_ci d_M_tide_1 ?_
  refine mm_putI d_M_tide_2 rfl (sk_o_71 hM) (Or.inl rfl) ?_
  refine mm_iload d_M_tide_5 rfl ?_
  refine mm_ci d_M_tide_6 ?_
  refine mm_ci d_M_tide_7 ?_
  refine mm_s3i d_M_tide_9 (sp_M_in ?_)
  refine mm_if_eq d_M_tide_12 (fun c_12 => ?_) (fun c_12 => ?_)
  · refine mm_ci d_M_tide_23 ?_
    exact mm_ri d_M_tide_24 (h _ (by first | exact KeM.rf.st | exact KeM.rf.st.st))
  · refine mm_aload d_M_tide_15 rfl ?_
    refine mm_iload d_M_tide_16 rfl ?_
    refine mm_v1i d_M_tide_17 (sk_o_71 hM) (n_M_hand hM m0 h02 hx ?_)
    refine mm_if_ne d_M_tide_20 (fun c_20 => absurd rfl c_20) (fun c_20 => ?_)
    refine mm_ci d_M_tide_23 ?_
    exact mm_ri d_M_tide_24 (h _ (by first | exact KeM.rf.st | exact KeM.rf.st.st))
theorem n_M_first {X : mm_X} {μ : mm_M} {q : Int32 → mm_M → Prop} {c0 : Nat} {x1 x2 x3 : Int32} (hM : SK μ) (m0 : mm_I μ 76 0 = nI c0) (h02 : c0 ≤ 2) (hx : atF c0 x1 = none) (h : ∀ μ', KeM μ μ' → q (-1) μ') : mm_Ci X 4 0 0 k_M_first [.ref 71, .int x1, .int x2, .int x3] μ q := by
  show mm_T X 4 0 0 k_M_first 0 [some (.ref 71), some (.int x1), some (.int x2), some (.int x3), none, none, none] [] _ _
  refine mm_aload d_M_first_0 rfl ?_
  refine mm_ci d_M_first_1 ?_
  refine mm_putI d_M_first_2 rfl (sk_o_71 hM) (Or.inl rfl) ?_
  refine mm_aload d_M_first_5 rfl ?_
  refine mm_iload d_M_first_6 rfl ?_
  refine mm_v1i d_M_first_7 (sk_o_71 hM) (n_M_hand hM m0 h02 hx ?_)
  refine mm_if_eq d_M_first_10 (fun c_10 => ?_) (fun c_10 => absurd rfl c_10)
  refine mm_ci d_M_first_21 ?_
  exact mm_ri d_M_first_22 (h _ (by first | exact KeM.rf.st | exact KeM.rf.st.st))
theorem n_M_kept {X : mm_X} {μ : mm_M} {q : Int32 → mm_M → Prop} {c0 : Nat} {x1 x2 x3 : Int32} (hM : SK μ) (m0 : mm_I μ 76 0 = nI c0) (h02 : c0 ≤ 2) (hx : atF c0 x1 = none) (h : ∀ μ', KeM μ μ' → q (-1) μ') : mm_Ci X 4 0 0 k_M_kept [.ref 71, .int x1, .int x2, .int x3] μ q := by
  show mm_T X 4 0 0 k_M_kept 0 [some (.ref 71), some (.int x1), some (.int x2), some (.int x3), none, none] [] _ _
  refine mm_aload d_M_kept_0 rfl ?_
  refine mm_ci d_M_kept_1 ?_
  refine mm_putI d_M_kept_2 rfl (sk_o_71 hM) (Or.inl rfl) ?_
  refine mm_iload d_M_kept_5 rfl ?_
  refine mm_ci d_M_kept_6 ?_
  refine mm_ci d_M_kept_7 ?_
  refine mm_s3i d_M_kept_9 (sp_M_in ?_)
  refine mm_if_eq d_M_kept_12 (fun c_12 => ?_) (fun c_12 => ?_)
  · refine mm_ci d_M_kept_31 ?_
    exact mm_ri d_M_kept_32 (h _ (by first | exact KeM.rf.st | exact KeM.rf.st.st))
  · refine mm_aload d_M_kept_15 rfl ?_
    refine mm_iload d_M_kept_16 rfl ?_
    refine mm_v1i d_M_kept_17 (sk_o_71 hM) (n_M_hand hM m0 h02 hx ?_)
    refine mm_if_eq d_M_kept_20 (fun c_20 => ?_) (fun c_20 => absurd rfl c_20)
    refine mm_ci d_M_kept_31 ?_
    exact mm_ri d_M_kept_32 (h _ (by first | exact KeM.rf.st | exact KeM.rf.st.st))
theorem n_M_after {X : mm_X} {μ : mm_M} {q : Int32 → mm_M → Prop} {c1 : Nat} {x1 x2 x3 : Int32} (hM : SK μ) (m1 : mm_I μ 76 1 = nI c1) (h12 : c1 ≤ 2) (hy : atF c1 x2 = none) (h : ∀ μ', KeM μ μ' → q (-2) μ') : mm_Ci X 4 0 0 k_M_after [.ref 71, .int x1, .int x2, .int x3] μ q := by
  show mm_T X 4 0 0 k_M_after 0 [some (.ref 71), some (.int x1), some (.int x2), some (.int x3), none, none, none, none, none, none] [] _ _
  refine mm_aload d_M_after_0 rfl ?_
  refine mm_ci d_M_after_1 ?_
  refine mm_putI d_M_after_2 rfl (sk_o_71 hM) (Or.inl rfl) ?_
  refine mm_aload d_M_after_5 rfl ?_
  refine mm_iload d_M_after_6 rfl ?_
  refine mm_iload d_M_after_7 rfl ?_
  refine mm_v2i d_M_after_8 (sk_o_71 hM) (n_M_layAll hM m1 h12 hy ?_)
  refine mm_if_eq d_M_after_11 (fun c_11 => ?_) (fun c_11 => absurd rfl c_11)
  refine mm_ci d_M_after_23 ?_
  exact mm_ri d_M_after_25 (h _ (by first | exact KeM.rf.st | exact KeM.rf.st.st))
theorem n_M_share {X : mm_X} {μ : mm_M} {q : Int64 → mm_M → Prop} {c2 : Nat} {x1 x2 x3 : Int32} (hM : SK μ) (m2 : mm_I μ 76 2 = nI c2) (h22 : c2 ≤ 2) (hz : atF c2 x1 = none) (h : ∀ μ', KeM μ μ' → q (-1) μ') : mm_Cj X 4 0 0 k_M_share [.ref 71, .int x1, .int x2, .int x3] μ q := by
  show mm_T X 4 0 0 k_M_share 0 [some (.ref 71), some (.int x1), some (.int x2), some (.int x3)] [] _ _
  refine mm_aload d_M_share_0 rfl ?_
  refine mm_ci d_M_share_1 ?_
  refine mm_putI d_M_share_2 rfl (sk_o_71 hM) (Or.inl rfl) ?_
  refine mm_iload d_M_share_5 rfl ?_
  refine mm_ci d_M_share_6 ?_
  refine mm_ci d_M_share_7 ?_
  refine mm_s3i d_M_share_9 (sp_M_in ?_)
  refine mm_if_eq d_M_share_12 (fun c_12 => ?_) (fun c_12 => ?_)
  · refine mm_lci d_M_share_30 ?_
    exact mm_rj d_M_share_33 (h _ (by first | exact KeM.rf.st | exact KeM.rf.st.st))
  · refine mm_aload d_M_share_15 rfl ?_
    refine mm_iload d_M_share_16 rfl ?_
    refine mm_v1i d_M_share_17 (sk_o_71 hM) (n_M_layLog hM m2 h22 hz ?_)
    refine mm_if_eq d_M_share_20 (fun c_20 => ?_) (fun c_20 => absurd rfl c_20)
    refine mm_lci d_M_share_30 ?_
    exact mm_rj d_M_share_33 (h _ (by first | exact KeM.rf.st | exact KeM.rf.st.st))
