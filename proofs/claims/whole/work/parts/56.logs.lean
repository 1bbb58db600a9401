/-! logs and years: their data on both sides; hand() once more; deed, fact, whose -/
abbrev mm_E : Type := Nat × (Nat → Nat) × (Nat → Nat)
def en (E : mm_E) : Nat := E.1
def ek (E : mm_E) : Nat → Nat := E.2.1
def ew (E : mm_E) : Nat → Nat := E.2.2
def WfE (E : mm_E) : Prop := en E ≤ 8 ∧ ∀ j, j < en E → ek E j ≤ 1 ∧ ew E j < 8
def LoD (μ : mm_M) (a : Nat) (E : mm_E) : Prop := LoS μ a ∧ mm_I μ a 2 = nI (en E) ∧ ∀ j, j < en E → mm_I μ (a + 1) j = nI (ek E j) ∧ mm_I μ (a + 2) j = nI (ew E j)
def LoM (μ : mm_M) (b : Nat) (E : mm_E) : Prop := mm_I μ 79 b = nI (en E) ∧ ∀ j, j < en E → mm_I μ 79 (b + (1 + 2 * j)) = nI (ek E j) ∧ mm_I μ 79 (b + (1 + 2 * j + 1)) = nI (ew E j)
theorem LoR.data {μ : mm_M} {a b : Nat} (h : LoR μ a b) : ∃ E, WfE E ∧ LoD μ a E ∧ LoM μ b E := by
  obtain ⟨h0, n, h1, h2, h3, h4⟩ := h
  refine ⟨(n, fun j => (mm_I μ (a + 1) j).toNatClampNeg, fun j => (mm_I μ (a + 2) j).toNatClampNeg), ⟨h1, fun j hj => ?_⟩, ⟨h0, h2, fun j hj => ?_⟩, h3, fun j hj => ?_⟩
  · obtain ⟨-, -, ⟨e, e1, e2⟩, w, w1, w2⟩ := h4 j hj
    constructor
    · show (mm_I μ (a + 1) j).toNatClampNeg ≤ 1
      rw [e2, nI_clamp (by omega)]; exact e1
    · show (mm_I μ (a + 2) j).toNatClampNeg < 8
      rw [w2, nI_clamp (by omega)]; exact w1
  · obtain ⟨-, -, ⟨e, e1, e2⟩, w, w1, w2⟩ := h4 j hj
    constructor
    · show mm_I μ (a + 1) j = nI (mm_I μ (a + 1) j).toNatClampNeg
      rw [e2, nI_clamp (by omega)]
    · show mm_I μ (a + 2) j = nI (mm_I μ (a + 2) j).toNatClampNeg
      rw [w2, nI_clamp (by omega)]
  · obtain ⟨f1, f2, ⟨e, e1, e2⟩, w, w1, w2⟩ := h4 j hj
    rw [← f1, ← f2]
    constructor
    · show mm_I μ (a + 1) j = nI (mm_I μ (a + 1) j).toNatClampNeg
      rw [e2, nI_clamp (by omega)]
    · show mm_I μ (a + 2) j = nI (mm_I μ (a + 2) j).toNatClampNeg
      rw [w2, nI_clamp (by omega)]
theorem JJ.log {k : Nat} {μ : mm_M} (h : JJ k μ) (x : Int32) : ∃ c : Nat, c ≤ 2 ∧ mm_I μ 34 2 = nI c ∧ mm_I μ 76 2 = nI c ∧ (atF c x = none ∨ ∃ (i : Nat) (E : mm_E), i < c ∧ x = nI i ∧ WfE E ∧ LoD μ (28 + 3 * i) E ∧ LoM μ (17 * i) E) := by
  obtain ⟨-, ⟨-, -, -, -, -, -, -, ⟨c, c1, c2, c3, c4⟩⟩, -⟩ := h
  refine ⟨c, c1, c2, c3, ?_⟩
  rcases atF_or (c := c) (by omega) x with z | ⟨i, hi, e⟩
  · exact Or.inl z
  · obtain ⟨E, d1, d2, d3⟩ := (c4 i hi).data
    exact Or.inr ⟨i, E, hi, e, d1, by rw [show 28 + 3 * i = 1 + 27 + 3 * i by omega]; exact d2, by rw [show 17 * i = 34 * 0 + 17 * i by omega]; exact d3⟩
abbrev mm_Y : Type := Nat × (Nat → Int32) × (Nat → Int32) × (Nat → Int32)
def WfYY (Y : mm_Y) : Prop := Y.1 ≤ 40 ∧ ∀ j, j < Y.1 → WfY (Y.2.1 j) (Y.2.2.1 j) (Y.2.2.2 j)
def YeD (μ : mm_M) (a : Nat) (Y : mm_Y) : Prop := YeS μ a ∧ mm_I μ a 3 = nI Y.1 ∧ mm_I μ (a + 1) = Y.2.1 ∧ mm_I μ (a + 2) = Y.2.2.1 ∧ mm_I μ (a + 3) = Y.2.2.2
def YeM (μ : mm_M) (b : Nat) (Y : mm_Y) : Prop := mm_I μ 78 b = nI Y.1 ∧ ∀ j, j < Y.1 → mm_I μ 78 (b + (1 + 3 * j)) = Y.2.1 j ∧ mm_I μ 78 (b + (1 + 3 * j + 1)) = Y.2.2.1 j ∧ mm_I μ 78 (b + (1 + 3 * j + 2)) = Y.2.2.2 j
theorem JJ.year {k : Nat} {μ : mm_M} (h : JJ k μ) (x : Int32) : ∃ c : Nat, c ≤ 2 ∧ mm_I μ 34 1 = nI c ∧ mm_I μ 76 1 = nI c ∧ (atF c x = none ∨ ∃ (i : Nat) (Y : mm_Y), i < c ∧ x = nI i ∧ WfYY Y ∧ YeD μ (19 + 4 * i) Y ∧ YeM μ (121 * i) Y) := by
  obtain ⟨-, ⟨-, -, -, -, -, -, ⟨c, c1, c2, c3, c4⟩, -⟩, -⟩ := h
  refine ⟨c, c1, c2, c3, ?_⟩
  rcases atF_or (c := c) (by omega) x with z | ⟨i, hi, e⟩
  · exact Or.inl z
  · obtain ⟨h0, n, h1, h2, h3, h4⟩ := c4 i hi
    rw [show 1 + 18 + 4 * i = 19 + 4 * i by omega] at *
    rw [show 242 * 0 + 121 * i = 121 * i by omega] at *
    exact Or.inr ⟨i, (n, mm_I μ (19 + 4 * i + 1), mm_I μ (19 + 4 * i + 2), mm_I μ (19 + 4 * i + 3)), hi, e, ⟨h1, fun j hj => (h4 j hj).2.2.2⟩, ⟨h0, h2, rfl, rfl, rfl⟩, h3, fun j hj => ⟨(h4 j hj).1.symm, (h4 j hj).2.1.symm, (h4 j hj).2.2.1.symm⟩⟩
theorem sp_To_logAtI {X : mm_X} {μ : mm_M} {q : Option Nat → mm_M → Prop} {c i : Nat} (hM : SK μ) (h0 : mm_I μ 34 2 = nI c) (h02 : c ≤ 2) (hi : i < c) (h : q (some (28 + 3 * i)) μ) : mm_Cr X 0 0 0 k_To_logAt [.ref 1, .int (nI i)] μ q := sp_To_logAt (sk_t hM) h0 h02 (by rw [atF_at (by omega) hi]; exact h)
theorem sp_To_yearAtI {X : mm_X} {μ : mm_M} {q : Option Nat → mm_M → Prop} {c i : Nat} (hM : SK μ) (h0 : mm_I μ 34 1 = nI c) (h02 : c ≤ 2) (hi : i < c) (h : q (some (19 + 4 * i)) μ) : mm_Cr X 0 0 0 k_To_yearAt [.ref 1, .int (nI i)] μ q := sp_To_yearAt (sk_t hM) h0 h02 (by rw [atF_at (by omega) hi]; exact h)
theorem sp_To_logAt0 {X : mm_X} {μ : mm_M} {q : Option Nat → mm_M → Prop} {c : Nat} {y : Int32} (hM : SK μ) (h0 : mm_I μ 34 2 = nI c) (h02 : c ≤ 2) (hi : atF c y = none) (h : q none μ) : mm_Cr X 0 0 0 k_To_logAt [.ref 1, .int y] μ q := sp_To_logAt (sk_t hM) h0 h02 (by rw [hi]; exact h)
theorem sp_To_yearAt0 {X : mm_X} {μ : mm_M} {q : Option Nat → mm_M → Prop} {c : Nat} {y : Int32} (hM : SK μ) (h0 : mm_I μ 34 1 = nI c) (h02 : c ≤ 2) (hi : atF c y = none) (h : q none μ) : mm_Cr X 0 0 0 k_To_yearAt [.ref 1, .int y] μ q := sp_To_yearAt (sk_t hM) h0 h02 (by rw [hi]; exact h)
theorem sp_To_coastAt0 {X : mm_X} {μ : mm_M} {q : Option Nat → mm_M → Prop} {c : Nat} {y : Int32} (hM : SK μ) (h0 : mm_I μ 34 0 = nI c) (h02 : c ≤ 2) (hi : atF c y = none) (h : q none μ) : mm_Cr X 0 0 0 k_To_coastAt [.ref 1, .int y] μ q := sp_To_coastAt (sk_t hM) h0 h02 (by rw [hi]; exact h)
/-- the model, a log at hand; a year at hand -/
def HL (μ : mm_M) (i : Nat) (E : mm_E) : Prop := SK μ ∧ i < 2 ∧ mm_I μ 71 41 = nI i ∧ LoM μ (17 * i) E ∧ WfE E
def HY (μ : mm_M) (i : Nat) (Y : mm_Y) : Prop := SK μ ∧ i < 2 ∧ mm_I μ 71 33 = nI i ∧ YeM μ (121 * i) Y ∧ WfYY Y
theorem HL.n {μ : mm_M} {i : Nat} {E : mm_E} (h : HL μ i E) : mm_I μ 79 (17 * i) = nI (en E) := h.2.2.2.1.1
theorem HL.k {μ : mm_M} {i j : Nat} {E : mm_E} (h : HL μ i E) (hj : j < en E) : mm_I μ 79 (17 * i + 1 + 2 * j + 0) = nI (ek E j) := by rw [show 17 * i + 1 + 2 * j + 0 = 17 * i + (1 + 2 * j) by omega]; exact (h.2.2.2.1.2 j hj).1
theorem HL.w {μ : mm_M} {i j : Nat} {E : mm_E} (h : HL μ i E) (hj : j < en E) : mm_I μ 79 (17 * i + 1 + 2 * j + 1) = nI (ew E j) := by rw [show 17 * i + 1 + 2 * j + 1 = 17 * i + (1 + 2 * j + 1) by omega]; exact (h.2.2.2.1.2 j hj).2
theorem sp_M_hasLogT {X : mm_X} {μ : mm_M} {q : Int32 → mm_M → Prop} {c i : Nat} {E : mm_E} (hM : SK μ) (hc : mm_I μ 76 2 = nI c) (hc2 : c ≤ 2) (hi : i < c) (hE : LoM μ (17 * i) E) (hW : WfE E) (h : HL (mm_sI μ 71 41 (nI i)) i E → q (nI 1) (mm_sI μ 71 41 (nI i))) : mm_Ci X 2 0 0 k_M_hasLog [.ref 71, .int (nI i)] μ q := sp_M_hasLog hM hc hc2 (by
  rw [isF_at (by omega) hi]
  exact h ⟨hM, by omega, by rw [mm_I_sI, if_pos ⟨rfl, rfl⟩], by unfold LoM at hE ⊢; rw [mm_sI_off (by decide)]; exact hE, hW⟩)
theorem sp_M_hasYearT {X : mm_X} {μ : mm_M} {q : Int32 → mm_M → Prop} {c i : Nat} {Y : mm_Y} (hM : SK μ) (hc : mm_I μ 76 1 = nI c) (hc2 : c ≤ 2) (hi : i < c) (hE : YeM μ (121 * i) Y) (hW : WfYY Y) (h : HY (mm_sI μ 71 33 (nI i)) i Y → q (nI 1) (mm_sI μ 71 33 (nI i))) : mm_Ci X 2 0 0 k_M_hasYear [.ref 71, .int (nI i)] μ q := sp_M_hasYear hM hc hc2 (by
  rw [isF_at (by omega) hi]
  exact h ⟨hM, by omega, by rw [mm_I_sI, if_pos ⟨rfl, rfl⟩], by unfold YeM at hE ⊢; rw [mm_sI_off (by decide)]; exact hE, hW⟩)
theorem sp_M_facts {X : mm_X} {μ : mm_M} {q : Int32 → mm_M → Prop} {i : Nat} {E : mm_E} (hL : HL μ i E) (h : q (nI (en E)) μ) : mm_Ci X 0 0 0 k_M_facts [.ref 71] μ q := by
  show mm_T X 0 0 0 k_M_facts 0 [some (.ref 71)] [] μ _
  have hM := hL.1
  have hi2 := hL.2.1
  refine mm_aload d_M_facts_0 rfl ?_
  refine mm_getP d_M_facts_1 rfl (sk_o_71 hM) (sk_p_71_8 hM) ?_
  refine mm_ciN 17 d_M_facts_4 rfl ?_
  refine mm_aload d_M_facts_6 rfl ?_
  refine mm_getIN d_M_facts_7 rfl (sk_o_71 hM) hL.2.2.1 ?_
  refine mm_imulN d_M_facts_10 ?_
  refine mm_ialdN d_M_facts_11 (sk_a_79 hM) (by omega) (by decide) hL.n ?_
  exact mm_ri d_M_facts_12 h
theorem sp_M_factOf0 {X : mm_X} {μ : mm_M} {q : Int32 → mm_M → Prop} {i j : Nat} {E : mm_E} (hL : HL μ i E) (hj : j < en E) (h : q (nI (ek E j)) μ) : mm_Ci X 0 0 0 k_M_factOf [.ref 71, .int (nI j), .int (nI 0)] μ q := by
  show mm_T X 0 0 0 k_M_factOf 0 [some (.ref 71), some (.int (nI j)), some (.int (nI 0))] [] μ _
  have hM := hL.1
  have hi2 := hL.2.1
  have h8 := hL.2.2.2.2.1
  refine mm_aload d_M_factOf_0 rfl ?_
  refine mm_getP d_M_factOf_1 rfl (sk_o_71 hM) (sk_p_71_8 hM) ?_
  refine mm_ciN 17 d_M_factOf_4 rfl ?_
  refine mm_aload d_M_factOf_6 rfl ?_
  refine mm_getIN d_M_factOf_7 rfl (sk_o_71 hM) hL.2.2.1 ?_
  refine mm_imulN d_M_factOf_10 ?_
  refine mm_ciN 1 d_M_factOf_11 rfl ?_
  refine mm_iaddN d_M_factOf_12 ?_
  refine mm_ciN 2 d_M_factOf_13 rfl ?_
  refine mm_iload d_M_factOf_14 rfl ?_
  refine mm_imulN d_M_factOf_15 ?_
  refine mm_iaddN d_M_factOf_16 ?_
  refine mm_iload d_M_factOf_17 rfl ?_
  refine mm_iaddN d_M_factOf_18 ?_
  refine mm_ialdN d_M_factOf_19 (sk_a_79 hM) (by omega) (by decide) (hL.k hj) ?_
  exact mm_ri d_M_factOf_20 h
theorem sp_M_factOf1 {X : mm_X} {μ : mm_M} {q : Int32 → mm_M → Prop} {i j : Nat} {E : mm_E} (hL : HL μ i E) (hj : j < en E) (h : q (nI (ew E j)) μ) : mm_Ci X 0 0 0 k_M_factOf [.ref 71, .int (nI j), .int (nI 1)] μ q := by
  show mm_T X 0 0 0 k_M_factOf 0 [some (.ref 71), some (.int (nI j)), some (.int (nI 1))] [] μ _
  have hM := hL.1
  have hi2 := hL.2.1
  have h8 := hL.2.2.2.2.1
  refine mm_aload d_M_factOf_0 rfl ?_
  refine mm_getP d_M_factOf_1 rfl (sk_o_71 hM) (sk_p_71_8 hM) ?_
  refine mm_ciN 17 d_M_factOf_4 rfl ?_
  refine mm_aload d_M_factOf_6 rfl ?_
  refine mm_getIN d_M_factOf_7 rfl (sk_o_71 hM) hL.2.2.1 ?_
  refine mm_imulN d_M_factOf_10 ?_
  refine mm_ciN 1 d_M_factOf_11 rfl ?_
  refine mm_iaddN d_M_factOf_12 ?_
  refine mm_ciN 2 d_M_factOf_13 rfl ?_
  refine mm_iload d_M_factOf_14 rfl ?_
  refine mm_imulN d_M_factOf_15 ?_
  refine mm_iaddN d_M_factOf_16 ?_
  refine mm_iload d_M_factOf_17 rfl ?_
  refine mm_iaddN d_M_factOf_18 ?_
  refine mm_ialdN d_M_factOf_19 (sk_a_79 hM) (by omega) (by decide) (hL.w hj) ?_
  exact mm_ri d_M_factOf_20 h
theorem HY.at {μ : mm_M} {i j : Nat} {Y : mm_Y} (h : HY μ i Y) (hj : j < Y.1) : mm_I μ 78 (121 * i + 1 + 3 * j + 0) = Y.2.1 j ∧ mm_I μ 78 (121 * i + 1 + 3 * j + 1) = Y.2.2.1 j ∧ mm_I μ 78 (121 * i + 1 + 3 * j + 2) = Y.2.2.2 j := by
  have := h.2.2.2.1.2 j hj
  rw [show 121 * i + 1 + 3 * j + 0 = 121 * i + (1 + 3 * j) by omega, show 121 * i + 1 + 3 * j + 1 = 121 * i + (1 + 3 * j + 1) by omega, show 121 * i + 1 + 3 * j + 2 = 121 * i + (1 + 3 * j + 2) by omega]
  exact this
def yAt (Y : mm_Y) (j e : Nat) : Int32 := if e = 0 then Y.2.1 j else if e = 1 then Y.2.2.1 j else Y.2.2.2 j
theorem HY.at' {μ : mm_M} {i j e : Nat} {Y : mm_Y} (h : HY μ i Y) (hj : j < Y.1) (he : e ≤ 2) : mm_I μ 78 (121 * i + 1 + 3 * j + e) = yAt Y j e := by
  have h3 : e = 0 ∨ e = 1 ∨ e = 2 := by omega
  have := h.at hj
  rcases h3 with rfl | rfl | rfl
  · exact this.1
  · exact this.2.1
  · exact this.2.2
theorem sp_M_deeds {X : mm_X} {μ : mm_M} {q : Int32 → mm_M → Prop} {i : Nat} {Y : mm_Y} (hL : HY μ i Y) (h : q (nI Y.1) μ) : mm_Ci X 0 0 0 k_M_deeds [.ref 71] μ q := by
  show mm_T X 0 0 0 k_M_deeds 0 [some (.ref 71)] [] μ _
  have hM := hL.1
  have hi2 := hL.2.1
  refine mm_aload d_M_deeds_0 rfl ?_
  refine mm_getP d_M_deeds_1 rfl (sk_o_71 hM) (sk_p_71_7 hM) ?_
  refine mm_ciN 121 d_M_deeds_4 rfl ?_
  refine mm_aload d_M_deeds_6 rfl ?_
  refine mm_getIN d_M_deeds_7 rfl (sk_o_71 hM) hL.2.2.1 ?_
  refine mm_imulN d_M_deeds_10 ?_
  refine mm_ialdN d_M_deeds_11 (sk_a_78 hM) (by omega) (by decide) hL.2.2.2.1.1 ?_
  exact mm_ri d_M_deeds_12 h
theorem sp_M_deedOf {X : mm_X} {μ : mm_M} {q : Int32 → mm_M → Prop} {i j e : Nat} {Y : mm_Y} (hL : HY μ i Y) (hj : j < Y.1) (he : e ≤ 2) (h : q (yAt Y j e) μ) : mm_Ci X 0 0 0 k_M_deedOf [.ref 71, .int (nI j), .int (nI e)] μ q := by
  show mm_T X 0 0 0 k_M_deedOf 0 [some (.ref 71), some (.int (nI j)), some (.int (nI e))] [] μ _
  have hM := hL.1
  have hi2 := hL.2.1
  have h8 := hL.2.2.2.2.1
  refine mm_aload d_M_deedOf_0 rfl ?_
  refine mm_getP d_M_deedOf_1 rfl (sk_o_71 hM) (sk_p_71_7 hM) ?_
  refine mm_ciN 121 d_M_deedOf_4 rfl ?_
  refine mm_aload d_M_deedOf_6 rfl ?_
  refine mm_getIN d_M_deedOf_7 rfl (sk_o_71 hM) hL.2.2.1 ?_
  refine mm_imulN d_M_deedOf_10 ?_
  refine mm_ciN 1 d_M_deedOf_11 rfl ?_
  refine mm_iaddN d_M_deedOf_12 ?_
  refine mm_ciN 3 d_M_deedOf_13 rfl ?_
  refine mm_iload d_M_deedOf_14 rfl ?_
  refine mm_imulN d_M_deedOf_15 ?_
  refine mm_iaddN d_M_deedOf_16 ?_
  refine mm_iload d_M_deedOf_17 rfl ?_
  refine mm_iaddN d_M_deedOf_18 ?_
  refine mm_ialdV d_M_deedOf_19 (sk_a_78 hM) (by omega) (by decide) (hL.at' hj he) ?_
  exact mm_ri d_M_deedOf_20 h
/-- hand(), and what it leaves -/
def H71 (k : Nat) (D : mm_D) (μ ν : mm_M) : Prop := mm_I ν 71 22 = nI k ∧ mm_I ν 71 23 = nI (dn D) ∧ mm_I ν 71 24 = nI (dw D) ∧ mm_I ν 71 25 = 0 ∧ mm_I ν 71 26 = 0 ∧ mm_I ν 71 27 = 0 ∧ mm_I ν 71 28 = 0 ∧ mm_I ν 71 29 = 0 ∧ ∀ j, 29 < j → mm_I ν 71 j = mm_I μ 71 j
theorem H71.off {k : Nat} {D : mm_D} {μ ν : mm_M} {b j : Nat} {x : Int32} (h : H71 k D μ ν) (hb : b ≠ 71) : H71 k D μ (mm_sI ν b j x) := by
  unfold H71
  rw [mm_sI_off (fun e => hb e.symm)]
  exact h
theorem Hd.mk {μ ν : mm_M} {k : Nat} {D : mm_D} (hM : SK μ) (hk2 : k < 2) (hD : CoM μ (44 * k) D) (hW : WfD D) (f : Fr scM μ ν) (h : H71 k D μ ν) : Hd ν k D := ⟨f.2.2.2 hM, hk2, h.1, h.2.1, h.2.2.1, hD.fr f rfl, hW⟩
theorem sp_M_handK {X : mm_X} {μ : mm_M} {q : Int32 → mm_M → Prop} {c k : Nat} {D : mm_D} (hM : SK μ) (hc : mm_I μ 76 0 = nI c) (hc2 : c ≤ 2) (hk : k < c) (hD : CoM μ (44 * k) D) (hW : WfD D) (h : ∀ μ', Fr scM μ μ' → Hd μ' k D → HdZ μ' → (∀ j, 29 < j → mm_I μ' 71 j = mm_I μ 71 j) → q (nI 1) μ') : mm_Ci X 2 0 0 k_M_hand [.ref 71, .int (nI k)] μ q := by
  show mm_T X 2 0 0 k_M_hand 0 [some (.ref 71), some (.int (nI k)), none] [] μ _
  have hk2 : k < 2 := by omega
  refine mm_aload d_M_hand_0 rfl ?_
  refine mm_ci d_M_hand_1 ?_
  refine mm_iload d_M_hand_2 rfl ?_
  refine mm_v2i d_M_hand_3 (sk_o_71 hM) (sp_M_is (s := 0) hM (by decide) hc hc2 ?_)
  rw [isF_at (by omega) hk]
  refine mm_if_ne d_M_hand_6 (fun _ => ?_) (fun z => absurd (by decide) z)
  refine mm_aload d_M_hand_11 rfl ?_
  refine mm_iload d_M_hand_12 rfl ?_
  refine mm_putI d_M_hand_13 rfl (sk_o_71 hM) (Or.inl rfl) ?_
  have f1 : Fr scM μ (mm_sI μ 71 22 (nI k)) := Fr.rf.sI rfl
  have e1 : mm_I (mm_sI μ 71 22 (nI k)) 71 22 = nI k ∧ ∀ j, 29 < j → mm_I (mm_sI μ 71 22 (nI k)) 71 j = mm_I μ 71 j := ⟨by rw [mm_I_sI, if_pos ⟨rfl, rfl⟩], fun j hj => by rw [mm_I_sI, if_neg (by omega)]⟩
  generalize mm_sI μ 71 22 (nI k) = μ1 at f1 e1
  have hM1 := f1.2.2.2 hM
  have hD1 := hD.fr f1 rfl
  refine mm_aload d_M_hand_16 rfl ?_
  refine mm_aload d_M_hand_17 rfl ?_
  refine mm_ci d_M_hand_18 ?_
  refine mm_v1i d_M_hand_19 (sk_o_71 hM1) (sp_M_of (e := 0) hM1 hk2 e1.1 (by decide) ?_)
  rw [Nat.add_zero, hD1.1]
  refine mm_putI d_M_hand_22 rfl (sk_o_71 hM1) (Or.inl rfl) ?_
  have f2 : Fr scM μ (mm_sI μ1 71 23 (nI (dn D))) := f1.sI rfl
  have e2 : mm_I (mm_sI μ1 71 23 (nI (dn D))) 71 22 = nI k ∧ mm_I (mm_sI μ1 71 23 (nI (dn D))) 71 23 = nI (dn D) ∧ ∀ j, 29 < j → mm_I (mm_sI μ1 71 23 (nI (dn D))) 71 j = mm_I μ 71 j := ⟨by rw [mm_I_sI, if_neg (by decide)]; exact e1.1, by rw [mm_I_sI, if_pos ⟨rfl, rfl⟩], fun j hj => by rw [mm_I_sI, if_neg (by omega)]; exact e1.2 j hj⟩
  generalize mm_sI μ1 71 23 (nI (dn D)) = μ2 at f2 e2
  have hM2 := f2.2.2.2 hM
  have hD2 := hD.fr f2 rfl
  refine mm_aload d_M_hand_25 rfl ?_
  refine mm_aload d_M_hand_26 rfl ?_
  refine mm_ci d_M_hand_27 ?_
  refine mm_v1i d_M_hand_28 (sk_o_71 hM2) (sp_M_of (e := 1) hM2 hk2 e2.1 (by decide) ?_)
  rw [hD2.2.1]
  refine mm_putI d_M_hand_31 rfl (sk_o_71 hM2) (Or.inl rfl) ?_
  refine mm_aload d_M_hand_34 rfl ?_
  refine mm_ci d_M_hand_35 ?_
  refine mm_putI d_M_hand_36 rfl (sk_o_71 hM2) (Or.inl rfl) ?_
  refine mm_aload d_M_hand_39 rfl ?_
  refine mm_ci d_M_hand_40 ?_
  refine mm_putI d_M_hand_41 rfl (sk_o_71 hM2) (Or.inl rfl) ?_
  refine mm_aload d_M_hand_44 rfl ?_
  refine mm_ci d_M_hand_45 ?_
  refine mm_putI d_M_hand_46 rfl (sk_o_71 hM2) (Or.inl rfl) ?_
  refine mm_aload d_M_hand_49 rfl ?_
  refine mm_ci d_M_hand_50 ?_
  refine mm_putI d_M_hand_51 rfl (sk_o_71 hM2) (Or.inl rfl) ?_
  refine mm_aload d_M_hand_54 rfl ?_
  refine mm_ci d_M_hand_55 ?_
  refine mm_putI d_M_hand_56 rfl (sk_o_71 hM2) (Or.inl rfl) ?_
  have f3 : Fr scM μ (mm_sI (mm_sI (mm_sI (mm_sI (mm_sI (mm_sI μ2 71 24 (nI (dw D))) 71 25 0) 71 26 0) 71 27 0) 71 28 0) 71 29 0) := (((((f2.sI rfl).sI rfl).sI rfl).sI rfl).sI rfl).sI rfl
  have e3 : H71 k D μ (mm_sI (mm_sI (mm_sI (mm_sI (mm_sI (mm_sI μ2 71 24 (nI (dw D))) 71 25 0) 71 26 0) 71 27 0) 71 28 0) 71 29 0) := by
    unfold H71
    simp only [mm_I_sI]
    refine ⟨by simp [e2.1], by simp [e2.2.1], by simp, by simp, by simp, by simp, by simp, by simp, fun j hj => ?_⟩
    rw [if_neg (by omega), if_neg (by omega), if_neg (by omega), if_neg (by omega), if_neg (by omega), if_neg (by omega)]
    exact e2.2.2 j hj
  generalize mm_sI (mm_sI (mm_sI (mm_sI (mm_sI (mm_sI μ2 71 24 (nI (dw D))) 71 25 0) 71 26 0) 71 27 0) 71 28 0) 71 29 0 = μ3 at f3 e3
  refine mm_ciN 0 d_M_hand_59 rfl ?_
  refine mm_ist2 d_M_hand_60 ?_
  refine mm_up (P := fun i => ∀ ν, Fr scM μ ν → H71 k D μ ν → (∀ j, j < i → mm_I ν 82 j = 0 ∧ mm_I ν 84 j = 0) → mm_T X _ 0 0 k_M_hand 61 [some (.ref 71), some (.int (nI k)), some (.int (nI i))] [] ν _) 6 ?_ ?_ μ3 f3 e3 (fun j hj => absurd hj (Nat.not_lt_zero j))
  · intro ν g1 g2 g3
    have hM := g1.2.2.2 hM
    refine mm_iload d_M_hand_61 rfl ?_
    refine mm_ciN 6 d_M_hand_62 rfl ?_
    refine mm_icmp_geN d_M_hand_64 (by first | omega | exact ite01_lt | exact bt8_lt31 _ _ | exact godB_lt31 _ _ _ | exact pop_lt31 _ | assumption | exact b31 (hW.gp (by omega)) | exact b31 (hW.ne (by omega)) | exact b31 (hW.op (by omega)) | exact and31 (hW.gp (by omega)) | exact and31 (hW.ne (by omega)) | exact and31 (hW.op (by omega)) | exact and31 (by assumption) | exact and31r (hW.ne (by omega)) | exact and31r (hW.gp (by omega)) | exact and31r (by decide)) (by first | omega | exact ite01_lt | exact bt8_lt31 _ _ | exact godB_lt31 _ _ _ | exact pop_lt31 _ | assumption | exact b31 (hW.gp (by omega)) | exact b31 (hW.ne (by omega)) | exact b31 (hW.op (by omega)) | exact and31 (hW.gp (by omega)) | exact and31 (hW.ne (by omega)) | exact and31 (hW.op (by omega)) | exact and31 (by assumption) | exact and31r (hW.ne (by omega)) | exact and31r (hW.gp (by omega)) | exact and31r (by decide)) (fun c_64 => ?_) (fun c_64 => False.elim (by omega))
    refine mm_ciN 0 d_M_hand_87 rfl ?_
    refine mm_ist2 d_M_hand_88 ?_
    refine mm_up (P := fun i => ∀ ν, Fr scM μ ν → H71 k D μ ν → (∀ j, j < 6 → mm_I ν 82 j = 0 ∧ mm_I ν 84 j = 0) → (∀ j, j < i → mm_I ν 83 j = 0) → mm_T X _ 0 0 k_M_hand 89 [some (.ref 71), some (.int (nI k)), some (.int (nI i))] [] ν _) 48 ?_ ?_ ν g1 g2 g3 (fun j hj => absurd hj (Nat.not_lt_zero j))
    · intro ν g1 g2 g3 g4
      refine mm_iload d_M_hand_89 rfl ?_
      refine mm_ciN 48 d_M_hand_90 rfl ?_
      refine mm_icmp_geN d_M_hand_92 (by first | omega | exact ite01_lt | exact bt8_lt31 _ _ | exact godB_lt31 _ _ _ | exact pop_lt31 _ | assumption | exact b31 (hW.gp (by omega)) | exact b31 (hW.ne (by omega)) | exact b31 (hW.op (by omega)) | exact and31 (hW.gp (by omega)) | exact and31 (hW.ne (by omega)) | exact and31 (hW.op (by omega)) | exact and31 (by assumption) | exact and31r (hW.ne (by omega)) | exact and31r (hW.gp (by omega)) | exact and31r (by decide)) (by first | omega | exact ite01_lt | exact bt8_lt31 _ _ | exact godB_lt31 _ _ _ | exact pop_lt31 _ | assumption | exact b31 (hW.gp (by omega)) | exact b31 (hW.ne (by omega)) | exact b31 (hW.op (by omega)) | exact and31 (hW.gp (by omega)) | exact and31 (hW.ne (by omega)) | exact and31 (hW.op (by omega)) | exact and31 (by assumption) | exact and31r (hW.ne (by omega)) | exact and31r (hW.gp (by omega)) | exact and31r (by decide)) (fun c_92 => ?_) (fun c_92 => False.elim (by omega))
      refine mm_ciN 1 d_M_hand_108 rfl ?_
      exact mm_rz d_M_hand_109 (h ν g1 (Hd.mk (by assumption) hk2 hD hW g1 g2) ⟨g2.2.2.2.1, g2.2.2.2.2.1, g2.2.2.2.2.2.1, g2.2.2.2.2.2.2.1, g2.2.2.2.2.2.2.2.1, g3, g4⟩ g2.2.2.2.2.2.2.2.2)
    · intro i hi ih ν g1 g2 g3 g4
      have hM := (g1.2.2.2 (by assumption) : SK ν)
      refine mm_iload d_M_hand_89 rfl ?_
      refine mm_ciN 48 d_M_hand_90 rfl ?_
      refine mm_icmp_geN d_M_hand_92 (by first | omega | exact ite01_lt | exact bt8_lt31 _ _ | exact godB_lt31 _ _ _ | exact pop_lt31 _ | assumption | exact b31 (hW.gp (by omega)) | exact b31 (hW.ne (by omega)) | exact b31 (hW.op (by omega)) | exact and31 (hW.gp (by omega)) | exact and31 (hW.ne (by omega)) | exact and31 (hW.op (by omega)) | exact and31 (by assumption) | exact and31r (hW.ne (by omega)) | exact and31r (hW.gp (by omega)) | exact and31r (by decide)) (by first | omega | exact ite01_lt | exact bt8_lt31 _ _ | exact godB_lt31 _ _ _ | exact pop_lt31 _ | assumption | exact b31 (hW.gp (by omega)) | exact b31 (hW.ne (by omega)) | exact b31 (hW.op (by omega)) | exact and31 (hW.gp (by omega)) | exact and31 (hW.ne (by omega)) | exact and31 (hW.op (by omega)) | exact and31 (by assumption) | exact and31r (hW.ne (by omega)) | exact and31r (hW.gp (by omega)) | exact and31r (by decide)) (fun c_92 => False.elim (by omega)) (fun c_92 => ?_)
      refine mm_aload d_M_hand_95 rfl ?_
      refine mm_getP d_M_hand_96 rfl (sk_o_71 hM) (sk_p_71_31 hM) ?_
      refine mm_iload d_M_hand_99 rfl ?_
      refine mm_ciN 0 d_M_hand_100 rfl ?_
      refine mm_iastX d_M_hand_101 (sk_a_83 hM) (by omega) (by decide) ?_
      refine mm_inc2N d_M_hand_102 ?_
      refine mm_goto d_M_hand_105 ?_
      refine ih _ (g1.sI rfl) (g2.off (by decide)) (fun j hj => ?_) (fun j hj => ?_)
      · rw [mm_sI_off (by decide), mm_sI_off (by decide)]; exact g3 j hj
      · rw [mm_I_sI]
        by_cases e : j = i
        · rw [if_pos ⟨rfl, e⟩]; rfl
        · rw [if_neg (fun z => e z.2)]; exact g4 j (by omega)
  · intro i hi ih ν g1 g2 g3
    have hM := (g1.2.2.2 (by assumption) : SK ν)
    refine mm_iload d_M_hand_61 rfl ?_
    refine mm_ciN 6 d_M_hand_62 rfl ?_
    refine mm_icmp_geN d_M_hand_64 (by first | omega | exact ite01_lt | exact bt8_lt31 _ _ | exact godB_lt31 _ _ _ | exact pop_lt31 _ | assumption | exact b31 (hW.gp (by omega)) | exact b31 (hW.ne (by omega)) | exact b31 (hW.op (by omega)) | exact and31 (hW.gp (by omega)) | exact and31 (hW.ne (by omega)) | exact and31 (hW.op (by omega)) | exact and31 (by assumption) | exact and31r (hW.ne (by omega)) | exact and31r (hW.gp (by omega)) | exact and31r (by decide)) (by first | omega | exact ite01_lt | exact bt8_lt31 _ _ | exact godB_lt31 _ _ _ | exact pop_lt31 _ | assumption | exact b31 (hW.gp (by omega)) | exact b31 (hW.ne (by omega)) | exact b31 (hW.op (by omega)) | exact and31 (hW.gp (by omega)) | exact and31 (hW.ne (by omega)) | exact and31 (hW.op (by omega)) | exact and31 (by assumption) | exact and31r (hW.ne (by omega)) | exact and31r (hW.gp (by omega)) | exact and31r (by decide)) (fun c_64 => False.elim (by omega)) (fun c_64 => ?_)
    refine mm_aload d_M_hand_67 rfl ?_
    refine mm_getP d_M_hand_68 rfl (sk_o_71 hM) (sk_p_71_30 hM) ?_
    refine mm_iload d_M_hand_71 rfl ?_
    refine mm_ciN 0 d_M_hand_72 rfl ?_
    refine mm_iastX d_M_hand_73 (sk_a_82 hM) (by omega) (by decide) ?_
    refine mm_aload d_M_hand_74 rfl ?_
    refine mm_getP d_M_hand_75 rfl (sk_o_71 hM) (sk_p_71_32 hM) ?_
    refine mm_iload d_M_hand_78 rfl ?_
    refine mm_ciN 0 d_M_hand_79 rfl ?_
    refine mm_iastX d_M_hand_80 (sk_a_84 hM) (by omega) (by decide) ?_
    refine mm_inc2N d_M_hand_81 ?_
    refine mm_goto d_M_hand_84 ?_
    refine ih _ ((g1.sI rfl).sI rfl) ((g2.off (by decide)).off (by decide)) (fun j hj => ?_)
    simp only [mm_I_sI]
    by_cases e : j = i
    · subst e; simp; exact rfl
    · have := g3 j (by omega)
      simp [e]
      exact this
