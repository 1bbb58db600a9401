/-! where there is no such coast, year, log (written by program) -/
theorem atF_0 (x : Int32) : atF 0 x = none := by
  unfold atF
  by_cases h : x < 0
  · rw [if_pos h]
  · rw [if_neg h, if_pos (show nI 0 ≤ x from Int32.not_lt.mp h)]
theorem sp_To_coastWithChild0 {X : mm_X} {μ : mm_M} {q : Option Nat → mm_M → Prop} {t c : Nat} {x y : Int32} (hS : ToS μ t) (h0 : mm_I μ (t + 33) 0 = nI c) (h02 : c ≤ 2) (hx : atF c x = none) (h : q none μ) : mm_Cr X 1 0 0 k_To_coastWithChild [.ref t, .int x, .int y] μ q := by
  show mm_T X 1 0 0 k_To_coastWithChild 0 [some (.ref t), some (.int x), some (.int y), none] [] μ _
  have ho := hS.1
  refine mm_aload d_To_coastWithChild_0 rfl ?_
  refine mm_iload d_To_coastWithChild_1 rfl ?_
  refine mm_v1r d_To_coastWithChild_2 (by assumption) (sp_To_coastAt hS h0 h02 ?_)
  rw [hx]
  refine mm_astN3 d_To_coastWithChild_5 ?_
  refine mm_aloadN d_To_coastWithChild_6 rfl ?_
  refine mm_ifnullN d_To_coastWithChild_7 ?_
  refine mm_null d_To_coastWithChild_22 ?_
  exact mm_rr d_To_coastWithChild_23 (r := none) h
theorem sp_To_coastWithWork0 {X : mm_X} {μ : mm_M} {q : Option Nat → mm_M → Prop} {t c : Nat} {x y : Int32} (hS : ToS μ t) (h0 : mm_I μ (t + 33) 0 = nI c) (h02 : c ≤ 2) (hx : atF c x = none) (h : q none μ) : mm_Cr X 1 0 0 k_To_coastWithWork [.ref t, .int x, .int y] μ q := by
  show mm_T X 1 0 0 k_To_coastWithWork 0 [some (.ref t), some (.int x), some (.int y), none] [] μ _
  have ho := hS.1
  refine mm_aload d_To_coastWithWork_0 rfl ?_
  refine mm_iload d_To_coastWithWork_1 rfl ?_
  refine mm_v1r d_To_coastWithWork_2 (by assumption) (sp_To_coastAt hS h0 h02 ?_)
  rw [hx]
  refine mm_astN3 d_To_coastWithWork_5 ?_
  refine mm_aloadN d_To_coastWithWork_6 rfl ?_
  refine mm_ifnullN d_To_coastWithWork_7 ?_
  refine mm_null d_To_coastWithWork_22 ?_
  exact mm_rr d_To_coastWithWork_23 (r := none) h
theorem n_G_bestRow {X : mm_X} {μ : mm_M} {q : Int32 → mm_M → Prop} {x2 x3 : Int32} (h : q (-1) μ) : mm_Ci X 0 0 0 k_G_bestRow [.ref 0, .null, .int x2, .int x3] μ q := by
  show mm_T X 0 0 0 k_G_bestRow 0 [some (.ref 0), some .null, some (.int x2), some (.int x3), none] [] μ _
  refine mm_aloadN d_G_bestRow_0 rfl ?_
  refine mm_ifnullN d_G_bestRow_1 ?_
  refine mm_ci d_G_bestRow_17 ?_
  exact mm_ri d_G_bestRow_18 h
theorem n_G_coast {X : mm_X} {μ : mm_M} {q : Int32 → mm_M → Prop} {c0 : Nat} {x1 x2 : Int32} (hM : SK μ) (h0 : mm_I μ 34 0 = nI c0) (h02 : c0 ≤ 2) (hx : atF c0 x1 = none) (h : q (-1) μ) : mm_Ci X 2 0 0 k_G_coast [.ref 0, .int x1, .int x2] μ q := by
  show mm_T X 2 0 0 k_G_coast 0 [some (.ref 0), some (.int x1), some (.int x2), none] [] μ _
  refine mm_aload d_G_coast_0 rfl ?_
  refine mm_getP d_G_coast_1 rfl (sk_o_0 hM) (sk_p_0_0 hM) ?_
  refine mm_iload d_G_coast_4 rfl ?_
  refine mm_v1r d_G_coast_5 (sk_o_1 hM) (sp_To_coastAt (sk_t hM) h0 h02 ?_)
  rw [hx]
  refine mm_astN3 d_G_coast_8 ?_
  refine mm_aloadN d_G_coast_9 rfl ?_
  refine mm_ifnonnullN d_G_coast_10 ?_
  refine mm_ci d_G_coast_13 ?_
  refine mm_goto d_G_coast_14 ?_
  exact mm_ri d_G_coast_22 h
theorem n_G_deed {X : mm_X} {μ : mm_M} {q : Int32 → mm_M → Prop} {c1 : Nat} {x1 x2 x3 : Int32} (hM : SK μ) (h1 : mm_I μ 34 1 = nI c1) (h12 : c1 ≤ 2) (hy : atF c1 x1 = none) (h : q (-2) μ) : mm_Ci X 2 0 0 k_G_deed [.ref 0, .int x1, .int x2, .int x3] μ q := by
  show mm_T X 2 0 0 k_G_deed 0 [some (.ref 0), some (.int x1), some (.int x2), some (.int x3), none] [] μ _
  refine mm_aload d_G_deed_0 rfl ?_
  refine mm_getP d_G_deed_1 rfl (sk_o_0 hM) (sk_p_0_0 hM) ?_
  refine mm_iload d_G_deed_4 rfl ?_
  refine mm_v1r d_G_deed_5 (sk_o_1 hM) (sp_To_yearAt (sk_t hM) h1 h12 ?_)
  rw [hy]
  refine mm_astN4 d_G_deed_8 ?_
  refine mm_aloadN d_G_deed_10 rfl ?_
  refine mm_ifnonnullN d_G_deed_12 ?_
  refine mm_ci d_G_deed_15 ?_
  exact mm_ri d_G_deed_17 h
theorem n_G_till {X : mm_X} {μ : mm_M} {q : Int32 → mm_M → Prop} {c0 c1 : Nat} {x1 x2 : Int32} (hM : SK μ) (h0 : mm_I μ 34 0 = nI c0) (h02 : c0 ≤ 2) (hx : atF c0 x1 = none) (h1 : mm_I μ 34 1 = nI c1) (h12 : c1 ≤ 2) (hy : atF c1 x2 = none) (h : q (-1) μ) : mm_Ci X 2 0 0 k_G_till [.ref 0, .int x1, .int x2] μ q := by
  show mm_T X 2 0 0 k_G_till 0 [some (.ref 0), some (.int x1), some (.int x2), none, none] [] μ _
  refine mm_aload d_G_till_0 rfl ?_
  refine mm_getP d_G_till_1 rfl (sk_o_0 hM) (sk_p_0_0 hM) ?_
  refine mm_iload d_G_till_4 rfl ?_
  refine mm_v1r d_G_till_5 (sk_o_1 hM) (sp_To_coastAt (sk_t hM) h0 h02 ?_)
  rw [hx]
  refine mm_astN3 d_G_till_8 ?_
  refine mm_aload d_G_till_9 rfl ?_
  refine mm_getP d_G_till_10 rfl (sk_o_0 hM) (sk_p_0_0 hM) ?_
  refine mm_iload d_G_till_13 rfl ?_
  refine mm_v1r d_G_till_14 (sk_o_1 hM) (sp_To_yearAt (sk_t hM) h1 h12 ?_)
  rw [hy]
  refine mm_astN4 d_G_till_17 ?_
  refine mm_aloadN d_G_till_19 rfl ?_
  refine mm_ifnullN d_G_till_20 ?_
  refine mm_ci d_G_till_28 ?_
  exact mm_ri d_G_till_29 h
theorem n_G_state {X : mm_X} {μ : mm_M} {q : Int32 → mm_M → Prop} {c0 c1 : Nat} {x1 x2 x3 x4 : Int32} (hM : SK μ) (h0 : mm_I μ 34 0 = nI c0) (h02 : c0 ≤ 2) (hx : atF c0 x1 = none) (h1 : mm_I μ 34 1 = nI c1) (h12 : c1 ≤ 2) (hy : atF c1 x2 = none) (h : q (-1) μ) : mm_Ci X 2 0 0 k_G_state [.ref 0, .int x1, .int x2, .int x3, .int x4] μ q := by
  show mm_T X 2 0 0 k_G_state 0 [some (.ref 0), some (.int x1), some (.int x2), some (.int x3), some (.int x4), none, none] [] μ _
  refine mm_aload d_G_state_0 rfl ?_
  refine mm_getP d_G_state_1 rfl (sk_o_0 hM) (sk_p_0_0 hM) ?_
  refine mm_iload d_G_state_4 rfl ?_
  refine mm_v1r d_G_state_5 (sk_o_1 hM) (sp_To_coastAt (sk_t hM) h0 h02 ?_)
  rw [hx]
  refine mm_astN5 d_G_state_8 ?_
  refine mm_aload d_G_state_10 rfl ?_
  refine mm_getP d_G_state_11 rfl (sk_o_0 hM) (sk_p_0_0 hM) ?_
  refine mm_iload d_G_state_14 rfl ?_
  refine mm_v1r d_G_state_15 (sk_o_1 hM) (sp_To_yearAt (sk_t hM) h1 h12 ?_)
  rw [hy]
  refine mm_astN6 d_G_state_18 ?_
  refine mm_aloadN d_G_state_20 rfl ?_
  refine mm_ifnullN d_G_state_22 ?_
  refine mm_ci d_G_state_43 ?_
  exact mm_ri d_G_state_44 h
theorem n_G_call {X : mm_X} {μ : mm_M} {q : Int32 → mm_M → Prop} {c0 : Nat} {x1 x2 x3 : Int32} (hM : SK μ) (h0 : mm_I μ 34 0 = nI c0) (h02 : c0 ≤ 2) (hx : atF c0 x1 = none) (h : q (-1) μ) : mm_Ci X 2 0 0 k_G_call [.ref 0, .int x1, .int x2, .int x3] μ q := by
  show mm_T X 2 0 0 k_G_call 0 [some (.ref 0), some (.int x1), some (.int x2), some (.int x3), none, none, none] [] μ _
  refine mm_aload d_G_call_0 rfl ?_
  refine mm_getP d_G_call_1 rfl (sk_o_0 hM) (sk_p_0_0 hM) ?_
  refine mm_iload d_G_call_4 rfl ?_
  refine mm_iload d_G_call_5 rfl ?_
  refine mm_v2r d_G_call_6 (sk_o_1 hM) (sp_To_coastWithWork0 (sk_t hM) h0 h02 hx ?_)
  refine mm_astN4 d_G_call_9 ?_
  refine mm_aloadN d_G_call_11 rfl ?_
  refine mm_ifnonnullN d_G_call_13 ?_
  refine mm_ci d_G_call_16 ?_
  exact mm_ri d_G_call_17 h
theorem n_G_feast {X : mm_X} {μ : mm_M} {q : Int32 → mm_M → Prop} {c0 : Nat} {x1 x2 : Int32} (hM : SK μ) (h0 : mm_I μ 34 0 = nI c0) (h02 : c0 ≤ 2) (hx : atF c0 x1 = none) (h : q (-1) μ) : mm_Ci X 2 0 0 k_G_feast [.ref 0, .int x1, .int x2] μ q := by
  show mm_T X 2 0 0 k_G_feast 0 [some (.ref 0), some (.int x1), some (.int x2)] [] μ _
  refine mm_aload d_G_feast_0 rfl ?_
  refine mm_aload d_G_feast_1 rfl ?_
  refine mm_getP d_G_feast_2 rfl (sk_o_0 hM) (sk_p_0_0 hM) ?_
  refine mm_iload d_G_feast_5 rfl ?_
  refine mm_v1r d_G_feast_6 (sk_o_1 hM) (sp_To_coastAt (sk_t hM) h0 h02 ?_)
  rw [hx]
  refine mm_iload d_G_feast_9 rfl ?_
  refine mm_ci d_G_feast_10 ?_
  refine mm_v3i d_G_feast_11 (sk_o_0 hM) (n_G_bestRow ?_)
  exact mm_ri d_G_feast_14 h
theorem n_G_odds {X : mm_X} {μ : mm_M} {q : Int64 → mm_M → Prop} {c0 : Nat} {x1 x2 x3 x4 : Int32} (hM : SK μ) (h0 : mm_I μ 34 0 = nI c0) (h02 : c0 ≤ 2) (hx : atF c0 x1 = none) (h : q (-1) μ) : mm_Cj X 2 0 0 k_G_odds [.ref 0, .int x1, .int x2, .int x3, .int x4] μ q := by
  show mm_T X 2 0 0 k_G_odds 0 [some (.ref 0), some (.int x1), some (.int x2), some (.int x3), some (.int x4), none, none] [] μ _
  refine mm_aload d_G_odds_0 rfl ?_
  refine mm_getP d_G_odds_1 rfl (sk_o_0 hM) (sk_p_0_0 hM) ?_
  refine mm_iload d_G_odds_4 rfl ?_
  refine mm_iload d_G_odds_5 rfl ?_
  refine mm_v2r d_G_odds_6 (sk_o_1 hM) (sp_To_coastWithWork0 (sk_t hM) h0 h02 hx ?_)
  refine mm_astN5 d_G_odds_9 ?_
  refine mm_aloadN d_G_odds_11 rfl ?_
  refine mm_ifnullN d_G_odds_13 ?_
  refine mm_lci d_G_odds_23 ?_
  exact mm_rj d_G_odds_26 h
theorem n_G_village {X : mm_X} {μ : mm_M} {q : Int32 → mm_M → Prop} {c0 : Nat} {x1 x2 : Int32} (hM : SK μ) (h0 : mm_I μ 34 0 = nI c0) (h02 : c0 ≤ 2) (hx : atF c0 x1 = none) (h : q (-1) μ) : mm_Ci X 2 0 0 k_G_village [.ref 0, .int x1, .int x2] μ q := by
  show mm_T X 2 0 0 k_G_village 0 [some (.ref 0), some (.int x1), some (.int x2), none, none] [] μ _
  refine mm_aload d_G_village_0 rfl ?_
  refine mm_getP d_G_village_1 rfl (sk_o_0 hM) (sk_p_0_0 hM) ?_
  refine mm_iload d_G_village_4 rfl ?_
  refine mm_v1r d_G_village_5 (sk_o_1 hM) (sp_To_coastAt (sk_t hM) h0 h02 ?_)
  rw [hx]
  refine mm_astN3 d_G_village_8 ?_
  refine mm_aloadN d_G_village_9 rfl ?_
  refine mm_ifnonnullN d_G_village_10 ?_
  refine mm_ci d_G_village_13 ?_
  exact mm_ri d_G_village_14 h
theorem n_G_boats {X : mm_X} {μ : mm_M} {q : Int32 → mm_M → Prop} {c0 : Nat} {x1 x2 : Int32} (hM : SK μ) (h0 : mm_I μ 34 0 = nI c0) (h02 : c0 ≤ 2) (hx : atF c0 x1 = none) (h : q (-1) μ) : mm_Ci X 2 0 0 k_G_boats [.ref 0, .int x1, .int x2] μ q := by
  show mm_T X 2 0 0 k_G_boats 0 [some (.ref 0), some (.int x1), some (.int x2), none] [] μ _
  refine mm_aload d_G_boats_0 rfl ?_
  refine mm_getP d_G_boats_1 rfl (sk_o_0 hM) (sk_p_0_0 hM) ?_
  refine mm_iload d_G_boats_4 rfl ?_
  refine mm_v1r d_G_boats_5 (sk_o_1 hM) (sp_To_coastAt (sk_t hM) h0 h02 ?_)
  rw [hx]
  refine mm_astN3 d_G_boats_8 ?_
  refine mm_aloadN d_G_boats_9 rfl ?_
  refine mm_ifnullN d_G_boats_10 ?_
  refine mm_ci d_G_boats_24 ?_
  exact mm_ri d_G_boats_25 h
theorem n_G_headland {X : mm_X} {μ : mm_M} {q : Int32 → mm_M → Prop} {c0 : Nat} {x1 x2 x3 : Int32} (hM : SK μ) (h0 : mm_I μ 34 0 = nI c0) (h02 : c0 ≤ 2) (hx : atF c0 x1 = none) (h : q (-2) μ) : mm_Ci X 2 0 0 k_G_headland [.ref 0, .int x1, .int x2, .int x3] μ q := by
  show mm_T X 2 0 0 k_G_headland 0 [some (.ref 0), some (.int x1), some (.int x2), some (.int x3), none] [] μ _
  refine mm_aload d_G_headland_0 rfl ?_
  refine mm_getP d_G_headland_1 rfl (sk_o_0 hM) (sk_p_0_0 hM) ?_
  refine mm_iload d_G_headland_4 rfl ?_
  refine mm_v1r d_G_headland_5 (sk_o_1 hM) (sp_To_coastAt (sk_t hM) h0 h02 ?_)
  rw [hx]
  refine mm_astN4 d_G_headland_8 ?_
  refine mm_aloadN d_G_headland_10 rfl ?_
  refine mm_ifnullN d_G_headland_12 ?_
  refine mm_ci d_G_headland_24 ?_
  exact mm_ri d_G_headland_26 h
theorem n_G_fact {X : mm_X} {μ : mm_M} {q : Int32 → mm_M → Prop} {c2 : Nat} {x1 x2 x3 : Int32} (hM : SK μ) (h2 : mm_I μ 34 2 = nI c2) (h22 : c2 ≤ 2) (hz : atF c2 x1 = none) (h : q (-2) μ) : mm_Ci X 2 0 0 k_G_fact [.ref 0, .int x1, .int x2, .int x3] μ q := by
  show mm_T X 2 0 0 k_G_fact 0 [some (.ref 0), some (.int x1), some (.int x2), some (.int x3), none] [] μ _
  refine mm_aload d_G_fact_0 rfl ?_
  refine mm_getP d_G_fact_1 rfl (sk_o_0 hM) (sk_p_0_0 hM) ?_
  refine mm_iload d_G_fact_4 rfl ?_
  refine mm_v1r d_G_fact_5 (sk_o_1 hM) (sp_To_logAt (sk_t hM) h2 h22 ?_)
  rw [hz]
  refine mm_astN4 d_G_fact_8 ?_
  refine mm_aloadN d_G_fact_10 rfl ?_
  refine mm_ifnonnullN d_G_fact_12 ?_
  refine mm_ci d_G_fact_15 ?_
  exact mm_ri d_G_fact_17 h
theorem n_G_fits {X : mm_X} {μ : mm_M} {q : Int32 → mm_M → Prop} {c2 : Nat} {x1 x2 : Int32} (hM : SK μ) (h2 : mm_I μ 34 2 = nI c2) (h22 : c2 ≤ 2) (hz : atF c2 x1 = none) (h : q (-2) μ) : mm_Ci X 2 0 0 k_G_fits [.ref 0, .int x1, .int x2] μ q := by
  show mm_T X 2 0 0 k_G_fits 0 [some (.ref 0), some (.int x1), some (.int x2), none, none] [] μ _
  refine mm_aload d_G_fits_0 rfl ?_
  refine mm_getP d_G_fits_1 rfl (sk_o_0 hM) (sk_p_0_0 hM) ?_
  refine mm_iload d_G_fits_4 rfl ?_
  refine mm_v1r d_G_fits_5 (sk_o_1 hM) (sp_To_logAt (sk_t hM) h2 h22 ?_)
  rw [hz]
  refine mm_astN3 d_G_fits_8 ?_
  refine mm_aloadN d_G_fits_9 rfl ?_
  refine mm_ifnonnullN d_G_fits_10 ?_
  refine mm_ci d_G_fits_13 ?_
  exact mm_ri d_G_fits_15 h
theorem n_G_whose {X : mm_X} {μ : mm_M} {q : Int32 → mm_M → Prop} {c0 c2 : Nat} {x1 x2 : Int32} (hM : SK μ) (h0 : mm_I μ 34 0 = nI c0) (h02 : c0 ≤ 2) (hx : atF c0 x1 = none) (h2 : mm_I μ 34 2 = nI c2) (h22 : c2 ≤ 2) (hz : atF c2 x2 = none) (h : q (-1) μ) : mm_Ci X 2 0 0 k_G_whose [.ref 0, .int x1, .int x2] μ q := by
  show mm_T X 2 0 0 k_G_whose 0 [some (.ref 0), some (.int x1), some (.int x2), none, none, none, none] [] μ _
  refine mm_aload d_G_whose_0 rfl ?_
  refine mm_getP d_G_whose_1 rfl (sk_o_0 hM) (sk_p_0_0 hM) ?_
  refine mm_iload d_G_whose_4 rfl ?_
  refine mm_v1r d_G_whose_5 (sk_o_1 hM) (sp_To_coastAt (sk_t hM) h0 h02 ?_)
  rw [hx]
  refine mm_astN3 d_G_whose_8 ?_
  refine mm_aload d_G_whose_9 rfl ?_
  refine mm_getP d_G_whose_10 rfl (sk_o_0 hM) (sk_p_0_0 hM) ?_
  refine mm_iload d_G_whose_13 rfl ?_
  refine mm_v1r d_G_whose_14 (sk_o_1 hM) (sp_To_logAt (sk_t hM) h2 h22 ?_)
  rw [hz]
  refine mm_astN4 d_G_whose_17 ?_
  refine mm_aloadN d_G_whose_19 rfl ?_
  refine mm_ifnullN d_G_whose_20 ?_
  refine mm_ci d_G_whose_28 ?_
  exact mm_ri d_G_whose_29 h
theorem n_G_drawn {X : mm_X} {μ : mm_M} {q : Int32 → mm_M → Prop} {c0 : Nat} {x1 x2 x3 x4 : Int32} (hM : SK μ) (h0 : mm_I μ 34 0 = nI c0) (h02 : c0 ≤ 2) (hx : atF c0 x1 = none) (h : q (-1) μ) : mm_Ci X 2 0 0 k_G_drawn [.ref 0, .int x1, .int x2, .int x3, .int x4] μ q := by
  show mm_T X 2 0 0 k_G_drawn 0 [some (.ref 0), some (.int x1), some (.int x2), some (.int x3), some (.int x4), none] [] μ _
  refine mm_aload d_G_drawn_0 rfl ?_
  refine mm_getP d_G_drawn_1 rfl (sk_o_0 hM) (sk_p_0_0 hM) ?_
  refine mm_iload d_G_drawn_4 rfl ?_
  refine mm_v1r d_G_drawn_5 (sk_o_1 hM) (sp_To_coastAt (sk_t hM) h0 h02 ?_)
  rw [hx]
  refine mm_astN5 d_G_drawn_8 ?_
  refine mm_aloadN d_G_drawn_10 rfl ?_
  refine mm_ifnullN d_G_drawn_12 ?_
  refine mm_ci d_G_drawn_25 ?_
  exact mm_ri d_G_drawn_26 h
theorem n_G_kin {X : mm_X} {μ : mm_M} {q : Int32 → mm_M → Prop} {c0 : Nat} {x1 x2 x3 : Int32} (hM : SK μ) (h0 : mm_I μ 34 0 = nI c0) (h02 : c0 ≤ 2) (hx : atF c0 x1 = none) (h : q (-1) μ) : mm_Ci X 2 0 0 k_G_kin [.ref 0, .int x1, .int x2, .int x3] μ q := by
  show mm_T X 2 0 0 k_G_kin 0 [some (.ref 0), some (.int x1), some (.int x2), some (.int x3), none] [] μ _
  refine mm_aload d_G_kin_0 rfl ?_
  refine mm_getP d_G_kin_1 rfl (sk_o_0 hM) (sk_p_0_0 hM) ?_
  refine mm_iload d_G_kin_4 rfl ?_
  refine mm_iload d_G_kin_5 rfl ?_
  refine mm_v2r d_G_kin_6 (sk_o_1 hM) (sp_To_coastWithChild0 (sk_t hM) h0 h02 hx ?_)
  refine mm_astN4 d_G_kin_9 ?_
  refine mm_aloadN d_G_kin_11 rfl ?_
  refine mm_ifnullN d_G_kin_13 ?_
  refine mm_ci d_G_kin_25 ?_
  exact mm_ri d_G_kin_26 h
theorem n_G_clan {X : mm_X} {μ : mm_M} {q : Int32 → mm_M → Prop} {c0 : Nat} {x1 x2 : Int32} (hM : SK μ) (h0 : mm_I μ 34 0 = nI c0) (h02 : c0 ≤ 2) (hx : atF c0 x1 = none) (h : q (-2) μ) : mm_Ci X 2 0 0 k_G_clan [.ref 0, .int x1, .int x2] μ q := by
  show mm_T X 2 0 0 k_G_clan 0 [some (.ref 0), some (.int x1), some (.int x2), none] [] μ _
  refine mm_aload d_G_clan_0 rfl ?_
  refine mm_getP d_G_clan_1 rfl (sk_o_0 hM) (sk_p_0_0 hM) ?_
  refine mm_iload d_G_clan_4 rfl ?_
  refine mm_v1r d_G_clan_5 (sk_o_1 hM) (sp_To_coastAt (sk_t hM) h0 h02 ?_)
  rw [hx]
  refine mm_astN3 d_G_clan_8 ?_
  refine mm_aloadN d_G_clan_9 rfl ?_
  refine mm_ifnonnullN d_G_clan_10 ?_
  refine mm_ci d_G_clan_13 ?_
  exact mm_ri d_G_clan_15 h
theorem n_G_lone {X : mm_X} {μ : mm_M} {q : Int32 → mm_M → Prop} {c0 : Nat} {x1 x2 : Int32} (hM : SK μ) (h0 : mm_I μ 34 0 = nI c0) (h02 : c0 ≤ 2) (hx : atF c0 x1 = none) (h : q (-2) μ) : mm_Ci X 2 0 0 k_G_lone [.ref 0, .int x1, .int x2] μ q := by
  show mm_T X 2 0 0 k_G_lone 0 [some (.ref 0), some (.int x1), some (.int x2), none] [] μ _
  refine mm_aload d_G_lone_0 rfl ?_
  refine mm_getP d_G_lone_1 rfl (sk_o_0 hM) (sk_p_0_0 hM) ?_
  refine mm_iload d_G_lone_4 rfl ?_
  refine mm_v1r d_G_lone_5 (sk_o_1 hM) (sp_To_coastAt (sk_t hM) h0 h02 ?_)
  rw [hx]
  refine mm_astN3 d_G_lone_8 ?_
  refine mm_aloadN d_G_lone_9 rfl ?_
  refine mm_ifnonnullN d_G_lone_10 ?_
  refine mm_ci d_G_lone_13 ?_
  exact mm_ri d_G_lone_15 h
theorem n_G_near {X : mm_X} {μ : mm_M} {q : Int32 → mm_M → Prop} {c0 : Nat} {x1 x2 : Int32} (hM : SK μ) (h0 : mm_I μ 34 0 = nI c0) (h02 : c0 ≤ 2) (hx : atF c0 x1 = none) (h : q (-1) μ) : mm_Ci X 2 0 0 k_G_near [.ref 0, .int x1, .int x2] μ q := by
  show mm_T X 2 0 0 k_G_near 0 [some (.ref 0), some (.int x1), some (.int x2), none, none, none] [] μ _
  refine mm_aload d_G_near_0 rfl ?_
  refine mm_getP d_G_near_1 rfl (sk_o_0 hM) (sk_p_0_0 hM) ?_
  refine mm_iload d_G_near_4 rfl ?_
  refine mm_v1r d_G_near_5 (sk_o_1 hM) (sp_To_coastAt (sk_t hM) h0 h02 ?_)
  rw [hx]
  refine mm_astN3 d_G_near_8 ?_
  refine mm_aloadN d_G_near_9 rfl ?_
  refine mm_ifnullN d_G_near_10 ?_
  refine mm_ci d_G_near_20 ?_
  exact mm_ri d_G_near_21 h
theorem n_G_ladder {X : mm_X} {μ : mm_M} {q : Int32 → mm_M → Prop} {c0 : Nat} {x1 x2 : Int32} (hM : SK μ) (h0 : mm_I μ 34 0 = nI c0) (h02 : c0 ≤ 2) (hx : atF c0 x1 = none) (h : q (-1) μ) : mm_Ci X 2 0 0 k_G_ladder [.ref 0, .int x1, .int x2] μ q := by
  show mm_T X 2 0 0 k_G_ladder 0 [some (.ref 0), some (.int x1), some (.int x2), none, none] [] μ _
  refine mm_aload d_G_ladder_0 rfl ?_
  refine mm_getP d_G_ladder_1 rfl (sk_o_0 hM) (sk_p_0_0 hM) ?_
  refine mm_iload d_G_ladder_4 rfl ?_
  refine mm_v1r d_G_ladder_5 (sk_o_1 hM) (sp_To_coastAt (sk_t hM) h0 h02 ?_)
  rw [hx]
  refine mm_astN3 d_G_ladder_8 ?_
  refine mm_aloadN d_G_ladder_9 rfl ?_
  refine mm_ifnullN d_G_ladder_10 ?_
  refine mm_ci d_G_ladder_24 ?_
  exact mm_ri d_G_ladder_25 h
theorem n_G_storm {X : mm_X} {μ : mm_M} {q : Int64 → mm_M → Prop} {c0 : Nat} {x1 x2 x3 : Int32} (hM : SK μ) (h0 : mm_I μ 34 0 = nI c0) (h02 : c0 ≤ 2) (hx : atF c0 x1 = none) (h : q (-1) μ) : mm_Cj X 2 0 0 k_G_storm [.ref 0, .int x1, .int x2, .int x3] μ q := by
  show mm_T X 2 0 0 k_G_storm 0 [some (.ref 0), some (.int x1), some (.int x2), some (.int x3), none] [] μ _
  refine mm_aload d_G_storm_0 rfl ?_
  refine mm_getP d_G_storm_1 rfl (sk_o_0 hM) (sk_p_0_0 hM) ?_
  refine mm_iload d_G_storm_4 rfl ?_
  refine mm_v1r d_G_storm_5 (sk_o_1 hM) (sp_To_coastAt (sk_t hM) h0 h02 ?_)
  rw [hx]
  refine mm_astN4 d_G_storm_8 ?_
  refine mm_aloadN d_G_storm_10 rfl ?_
  refine mm_ifnullN d_G_storm_12 ?_
  refine mm_lci d_G_storm_25 ?_
  exact mm_rj d_G_storm_28 h
theorem n_G_lack {X : mm_X} {μ : mm_M} {q : Int32 → mm_M → Prop} {c0 : Nat} {x1 x2 : Int32} (hM : SK μ) (h0 : mm_I μ 34 0 = nI c0) (h02 : c0 ≤ 2) (hx : atF c0 x1 = none) (h : q (-1) μ) : mm_Ci X 2 0 0 k_G_lack [.ref 0, .int x1, .int x2] μ q := by
  show mm_T X 2 0 0 k_G_lack 0 [some (.ref 0), some (.int x1), some (.int x2), none] [] μ _
  refine mm_aload d_G_lack_0 rfl ?_
  refine mm_getP d_G_lack_1 rfl (sk_o_0 hM) (sk_p_0_0 hM) ?_
  refine mm_iload d_G_lack_4 rfl ?_
  refine mm_iload d_G_lack_5 rfl ?_
  refine mm_v2r d_G_lack_6 (sk_o_1 hM) (sp_To_coastWithWork0 (sk_t hM) h0 h02 hx ?_)
  refine mm_astN3 d_G_lack_9 ?_
  refine mm_aloadN d_G_lack_10 rfl ?_
  refine mm_ifnonnullN d_G_lack_11 ?_
  refine mm_ci d_G_lack_14 ?_
  exact mm_ri d_G_lack_15 h
theorem n_G_busy {X : mm_X} {μ : mm_M} {q : Int32 → mm_M → Prop} {c0 : Nat} {x1 x2 : Int32} (hM : SK μ) (h0 : mm_I μ 34 0 = nI c0) (h02 : c0 ≤ 2) (hx : atF c0 x1 = none) (h : q (-1) μ) : mm_Ci X 2 0 0 k_G_busy [.ref 0, .int x1, .int x2] μ q := by
  show mm_T X 2 0 0 k_G_busy 0 [some (.ref 0), some (.int x1), some (.int x2)] [] μ _
  refine mm_aload d_G_busy_0 rfl ?_
  refine mm_aload d_G_busy_1 rfl ?_
  refine mm_getP d_G_busy_2 rfl (sk_o_0 hM) (sk_p_0_0 hM) ?_
  refine mm_iload d_G_busy_5 rfl ?_
  refine mm_v1r d_G_busy_6 (sk_o_1 hM) (sp_To_coastAt (sk_t hM) h0 h02 ?_)
  rw [hx]
  refine mm_iload d_G_busy_9 rfl ?_
  refine mm_ci d_G_busy_10 ?_
  refine mm_v3i d_G_busy_11 (sk_o_0 hM) (n_G_bestRow ?_)
  exact mm_ri d_G_busy_14 h
theorem n_G_lots {X : mm_X} {μ : mm_M} {q : Int64 → mm_M → Prop} {c0 : Nat} {x1 x2 x3 : Int32} (hM : SK μ) (h0 : mm_I μ 34 0 = nI c0) (h02 : c0 ≤ 2) (hx : atF c0 x1 = none) (h : q (-1) μ) : mm_Cj X 2 0 0 k_G_lots [.ref 0, .int x1, .int x2, .int x3] μ q := by
  show mm_T X 2 0 0 k_G_lots 0 [some (.ref 0), some (.int x1), some (.int x2), some (.int x3), none, none, none, none] [] μ _
  refine mm_aload d_G_lots_0 rfl ?_
  refine mm_getP d_G_lots_1 rfl (sk_o_0 hM) (sk_p_0_0 hM) ?_
  refine mm_iload d_G_lots_4 rfl ?_
  refine mm_iload d_G_lots_5 rfl ?_
  refine mm_v2r d_G_lots_6 (sk_o_1 hM) (sp_To_coastWithWork0 (sk_t hM) h0 h02 hx ?_)
  refine mm_astN4 d_G_lots_9 ?_
  refine mm_aloadN d_G_lots_11 rfl ?_
  refine mm_ifnonnullN d_G_lots_13 ?_
  refine mm_lci d_G_lots_16 ?_
  exact mm_rj d_G_lots_19 h
theorem n_G_heir {X : mm_X} {μ : mm_M} {q : Int32 → mm_M → Prop} {c0 : Nat} {x1 x2 : Int32} (hM : SK μ) (h0 : mm_I μ 34 0 = nI c0) (h02 : c0 ≤ 2) (hx : atF c0 x1 = none) (h : q (-1) μ) : mm_Ci X 2 0 0 k_G_heir [.ref 0, .int x1, .int x2] μ q := by
  show mm_T X 2 0 0 k_G_heir 0 [some (.ref 0), some (.int x1), some (.int x2), none, none, none, none, none] [] μ _
  refine mm_aload d_G_heir_0 rfl ?_
  refine mm_getP d_G_heir_1 rfl (sk_o_0 hM) (sk_p_0_0 hM) ?_
  refine mm_iload d_G_heir_4 rfl ?_
  refine mm_v1r d_G_heir_5 (sk_o_1 hM) (sp_To_coastAt (sk_t hM) h0 h02 ?_)
  rw [hx]
  refine mm_astN3 d_G_heir_8 ?_
  refine mm_aloadN d_G_heir_9 rfl ?_
  refine mm_ifnullN d_G_heir_10 ?_
  refine mm_ci d_G_heir_20 ?_
  exact mm_ri d_G_heir_21 h
theorem n_G_plan {X : mm_X} {μ : mm_M} {q : Int32 → mm_M → Prop} {c0 : Nat} {x1 x2 : Int32} (hM : SK μ) (h0 : mm_I μ 34 0 = nI c0) (h02 : c0 ≤ 2) (hx : atF c0 x1 = none) (h : q (-1) μ) : mm_Ci X 2 0 0 k_G_plan [.ref 0, .int x1, .int x2] μ q := by
  show mm_T X 2 0 0 k_G_plan 0 [some (.ref 0), some (.int x1), some (.int x2), none, none, none, none] [] μ _
  refine mm_aload d_G_plan_0 rfl ?_
  refine mm_getP d_G_plan_1 rfl (sk_o_0 hM) (sk_p_0_0 hM) ?_
  refine mm_iload d_G_plan_4 rfl ?_
  refine mm_v1r d_G_plan_5 (sk_o_1 hM) (sp_To_coastAt (sk_t hM) h0 h02 ?_)
  rw [hx]
  refine mm_astN3 d_G_plan_8 ?_
  refine mm_aloadN d_G_plan_9 rfl ?_
  refine mm_ifnonnullN d_G_plan_10 ?_
  refine mm_ci d_G_plan_13 ?_
  exact mm_ri d_G_plan_14 h
theorem n_G_levy {X : mm_X} {μ : mm_M} {q : Int32 → mm_M → Prop} {c0 : Nat} {x1 x2 : Int32} (hM : SK μ) (h0 : mm_I μ 34 0 = nI c0) (h02 : c0 ≤ 2) (hx : atF c0 x1 = none) (h : q (-1) μ) : mm_Ci X 2 0 0 k_G_levy [.ref 0, .int x1, .int x2] μ q := by
  show mm_T X 2 0 0 k_G_levy 0 [some (.ref 0), some (.int x1), some (.int x2), none] [] μ _
  refine mm_aload d_G_levy_0 rfl ?_
  refine mm_getP d_G_levy_1 rfl (sk_o_0 hM) (sk_p_0_0 hM) ?_
  refine mm_iload d_G_levy_4 rfl ?_
  refine mm_v1r d_G_levy_5 (sk_o_1 hM) (sp_To_coastAt (sk_t hM) h0 h02 ?_)
  rw [hx]
  refine mm_astN3 d_G_levy_8 ?_
  refine mm_aloadN d_G_levy_9 rfl ?_
  refine mm_ifnullN d_G_levy_10 ?_
  refine mm_ci d_G_levy_23 ?_
  exact mm_ri d_G_levy_24 h
theorem n_G_ready {X : mm_X} {μ : mm_M} {q : Int32 → mm_M → Prop} {c0 : Nat} {x1 x2 : Int32} (hM : SK μ) (h0 : mm_I μ 34 0 = nI c0) (h02 : c0 ≤ 2) (hx : atF c0 x1 = none) (h : q (-1) μ) : mm_Ci X 2 0 0 k_G_ready [.ref 0, .int x1, .int x2] μ q := by
  show mm_T X 2 0 0 k_G_ready 0 [some (.ref 0), some (.int x1), some (.int x2), none] [] μ _
  refine mm_aload d_G_ready_0 rfl ?_
  refine mm_getP d_G_ready_1 rfl (sk_o_0 hM) (sk_p_0_0 hM) ?_
  refine mm_iload d_G_ready_4 rfl ?_
  refine mm_v1r d_G_ready_5 (sk_o_1 hM) (sp_To_coastAt (sk_t hM) h0 h02 ?_)
  rw [hx]
  refine mm_astN3 d_G_ready_8 ?_
  refine mm_aloadN d_G_ready_9 rfl ?_
  refine mm_ifnullN d_G_ready_10 ?_
  refine mm_ci d_G_ready_20 ?_
  exact mm_ri d_G_ready_21 h
theorem n_G_hope {X : mm_X} {μ : mm_M} {q : Int64 → mm_M → Prop} {c0 : Nat} {x1 x2 x3 : Int32} (hM : SK μ) (h0 : mm_I μ 34 0 = nI c0) (h02 : c0 ≤ 2) (hx : atF c0 x1 = none) (h : q (-1) μ) : mm_Cj X 2 0 0 k_G_hope [.ref 0, .int x1, .int x2, .int x3] μ q := by
  show mm_T X 2 0 0 k_G_hope 0 [some (.ref 0), some (.int x1), some (.int x2), some (.int x3), none, none, none] [] μ _
  refine mm_aload d_G_hope_0 rfl ?_
  refine mm_getP d_G_hope_1 rfl (sk_o_0 hM) (sk_p_0_0 hM) ?_
  refine mm_iload d_G_hope_4 rfl ?_
  refine mm_iload d_G_hope_5 rfl ?_
  refine mm_v2r d_G_hope_6 (sk_o_1 hM) (sp_To_coastWithWork0 (sk_t hM) h0 h02 hx ?_)
  refine mm_astN4 d_G_hope_9 ?_
  refine mm_aloadN d_G_hope_11 rfl ?_
  refine mm_ifnonnullN d_G_hope_13 ?_
  refine mm_lci d_G_hope_16 ?_
  exact mm_rj d_G_hope_19 h
theorem n_G_pair {X : mm_X} {μ : mm_M} {q : Int32 → mm_M → Prop} {c0 : Nat} {x1 x2 : Int32} (hM : SK μ) (h0 : mm_I μ 34 0 = nI c0) (h02 : c0 ≤ 2) (hx : atF c0 x1 = none) (h : q (-1) μ) : mm_Ci X 2 0 0 k_G_pair [.ref 0, .int x1, .int x2] μ q := by
  show mm_T X 2 0 0 k_G_pair 0 [some (.ref 0), some (.int x1), some (.int x2), none, none, none, none, none, none] [] μ _
  refine mm_aload d_G_pair_0 rfl ?_
  refine mm_getP d_G_pair_1 rfl (sk_o_0 hM) (sk_p_0_0 hM) ?_
  refine mm_iload d_G_pair_4 rfl ?_
  refine mm_v1r d_G_pair_5 (sk_o_1 hM) (sp_To_coastAt (sk_t hM) h0 h02 ?_)
  rw [hx]
  refine mm_astN3 d_G_pair_8 ?_
  refine mm_aloadN d_G_pair_9 rfl ?_
  refine mm_ifnullN d_G_pair_10 ?_
  refine mm_ci d_G_pair_21 ?_
  exact mm_ri d_G_pair_22 h
theorem n_G_seat {X : mm_X} {μ : mm_M} {q : Int32 → mm_M → Prop} {c0 : Nat} {x1 x2 x3 : Int32} (hM : SK μ) (h0 : mm_I μ 34 0 = nI c0) (h02 : c0 ≤ 2) (hx : atF c0 x1 = none) (h : q (-1) μ) : mm_Ci X 2 0 0 k_G_seat [.ref 0, .int x1, .int x2, .int x3] μ q := by
  show mm_T X 2 0 0 k_G_seat 0 [some (.ref 0), some (.int x1), some (.int x2), some (.int x3), none] [] μ _
  refine mm_aload d_G_seat_0 rfl ?_
  refine mm_getP d_G_seat_1 rfl (sk_o_0 hM) (sk_p_0_0 hM) ?_
  refine mm_iload d_G_seat_4 rfl ?_
  refine mm_iload d_G_seat_5 rfl ?_
  refine mm_v2r d_G_seat_6 (sk_o_1 hM) (sp_To_coastWithChild0 (sk_t hM) h0 h02 hx ?_)
  refine mm_astN4 d_G_seat_9 ?_
  refine mm_aloadN d_G_seat_11 rfl ?_
  refine mm_ifnullN d_G_seat_13 ?_
  refine mm_ci d_G_seat_27 ?_
  exact mm_ri d_G_seat_28 h
theorem n_G_tide {X : mm_X} {μ : mm_M} {q : Int32 → mm_M → Prop} {c0 : Nat} {x1 x2 x3 : Int32} (hM : SK μ) (h0 : mm_I μ 34 0 = nI c0) (h02 : c0 ≤ 2) (hx : atF c0 x1 = none) (h : q (-1) μ) : mm_Ci X 2 0 0 k_G_tide [.ref 0, .int x1, .int x2, .int x3] μ q := by
  show mm_T X 2 0 0 k_G_tide 0 [some (.ref 0), some (.int x1), some (.int x2), some (.int x3), none, none, none, none] [] μ _
  refine mm_aload d_G_tide_0 rfl ?_
  refine mm_getP d_G_tide_1 rfl (sk_o_0 hM) (sk_p_0_0 hM) ?_
  refine mm_iload d_G_tide_4 rfl ?_
  refine mm_v1r d_G_tide_5 (sk_o_1 hM) (sp_To_coastAt (sk_t hM) h0 h02 ?_)
  rw [hx]
  refine mm_astN4 d_G_tide_8 ?_
  refine mm_aloadN d_G_tide_10 rfl ?_
  refine mm_ifnullN d_G_tide_12 ?_
  refine mm_ci d_G_tide_25 ?_
  exact mm_ri d_G_tide_26 h
theorem n_G_first {X : mm_X} {μ : mm_M} {q : Int32 → mm_M → Prop} {c0 : Nat} {x1 x2 x3 : Int32} (hM : SK μ) (h0 : mm_I μ 34 0 = nI c0) (h02 : c0 ≤ 2) (hx : atF c0 x1 = none) (h : q (-1) μ) : mm_Ci X 2 0 0 k_G_first [.ref 0, .int x1, .int x2, .int x3] μ q := by
  show mm_T X 2 0 0 k_G_first 0 [some (.ref 0), some (.int x1), some (.int x2), some (.int x3), none, none, none, none] [] μ _
  refine mm_aload d_G_first_0 rfl ?_
  refine mm_getP d_G_first_1 rfl (sk_o_0 hM) (sk_p_0_0 hM) ?_
  refine mm_iload d_G_first_4 rfl ?_
  refine mm_iload d_G_first_5 rfl ?_
  refine mm_v2r d_G_first_6 (sk_o_1 hM) (sp_To_coastWithChild0 (sk_t hM) h0 h02 hx ?_)
  refine mm_astN4 d_G_first_9 ?_
  refine mm_aloadN d_G_first_11 rfl ?_
  refine mm_ifnonnullN d_G_first_13 ?_
  refine mm_ci d_G_first_16 ?_
  exact mm_ri d_G_first_17 h
theorem n_G_kept {X : mm_X} {μ : mm_M} {q : Int32 → mm_M → Prop} {c0 : Nat} {x1 x2 x3 : Int32} (hM : SK μ) (h0 : mm_I μ 34 0 = nI c0) (h02 : c0 ≤ 2) (hx : atF c0 x1 = none) (h : q (-1) μ) : mm_Ci X 2 0 0 k_G_kept [.ref 0, .int x1, .int x2, .int x3] μ q := by
  show mm_T X 2 0 0 k_G_kept 0 [some (.ref 0), some (.int x1), some (.int x2), some (.int x3), none, none, none] [] μ _
  refine mm_aload d_G_kept_0 rfl ?_
  refine mm_getP d_G_kept_1 rfl (sk_o_0 hM) (sk_p_0_0 hM) ?_
  refine mm_iload d_G_kept_4 rfl ?_
  refine mm_iload d_G_kept_5 rfl ?_
  refine mm_v2r d_G_kept_6 (sk_o_1 hM) (sp_To_coastWithChild0 (sk_t hM) h0 h02 hx ?_)
  refine mm_astN4 d_G_kept_9 ?_
  refine mm_aloadN d_G_kept_11 rfl ?_
  refine mm_ifnullN d_G_kept_13 ?_
  refine mm_ci d_G_kept_27 ?_
  exact mm_ri d_G_kept_28 h
theorem n_G_after {X : mm_X} {μ : mm_M} {q : Int32 → mm_M → Prop} {c0 c1 : Nat} {x1 x2 x3 : Int32} (hM : SK μ) (h0 : mm_I μ 34 0 = nI c0) (h02 : c0 ≤ 2) (hx : atF c0 x1 = none) (h1 : mm_I μ 34 1 = nI c1) (h12 : c1 ≤ 2) (hy : atF c1 x2 = none) (h : q (-2) μ) : mm_Ci X 2 0 0 k_G_after [.ref 0, .int x1, .int x2, .int x3] μ q := by
  show mm_T X 2 0 0 k_G_after 0 [some (.ref 0), some (.int x1), some (.int x2), some (.int x3), none, none] [] μ _
  refine mm_aload d_G_after_0 rfl ?_
  refine mm_getP d_G_after_1 rfl (sk_o_0 hM) (sk_p_0_0 hM) ?_
  refine mm_iload d_G_after_4 rfl ?_
  refine mm_v1r d_G_after_5 (sk_o_1 hM) (sp_To_coastAt (sk_t hM) h0 h02 ?_)
  rw [hx]
  refine mm_astN4 d_G_after_8 ?_
  refine mm_aload d_G_after_10 rfl ?_
  refine mm_getP d_G_after_11 rfl (sk_o_0 hM) (sk_p_0_0 hM) ?_
  refine mm_iload d_G_after_14 rfl ?_
  refine mm_v1r d_G_after_15 (sk_o_1 hM) (sp_To_yearAt (sk_t hM) h1 h12 ?_)
  rw [hy]
  refine mm_astN5 d_G_after_18 ?_
  refine mm_aloadN d_G_after_20 rfl ?_
  refine mm_ifnullN d_G_after_22 ?_
  refine mm_ci d_G_after_30 ?_
  exact mm_ri d_G_after_32 h
theorem n_G_share {X : mm_X} {μ : mm_M} {q : Int64 → mm_M → Prop} {c2 : Nat} {x1 x2 x3 : Int32} (hM : SK μ) (h2 : mm_I μ 34 2 = nI c2) (h22 : c2 ≤ 2) (hz : atF c2 x1 = none) (h : q (-1) μ) : mm_Cj X 2 0 0 k_G_share [.ref 0, .int x1, .int x2, .int x3] μ q := by
  show mm_T X 2 0 0 k_G_share 0 [some (.ref 0), some (.int x1), some (.int x2), some (.int x3), none, none] [] μ _
  refine mm_aload d_G_share_0 rfl ?_
  refine mm_getP d_G_share_1 rfl (sk_o_0 hM) (sk_p_0_0 hM) ?_
  refine mm_iload d_G_share_4 rfl ?_
  refine mm_v1r d_G_share_5 (sk_o_1 hM) (sp_To_logAt (sk_t hM) h2 h22 ?_)
  rw [hz]
  refine mm_astN4 d_G_share_8 ?_
  refine mm_aloadN d_G_share_10 rfl ?_
  refine mm_ifnullN d_G_share_12 ?_
  refine mm_lci d_G_share_22 ?_
  exact mm_rj d_G_share_25 h
