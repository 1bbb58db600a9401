/-! the tape: end, feed -/
def Kp (k k' : Nat) (μ μ' : mm_M) : Prop := (∀ j, j < 600 → fits .byte (.int (mm_I μ 72 (600 * k + j))) = true → mm_I μ' 72 (600 * k' + j) = mm_I μ 72 (600 * k + j)) ∧ mm_I μ' 73 k' = mm_I μ 73 k ∧ mm_I μ' 74 k' = mm_I μ 74 k ∧ mm_I μ' 75 k' = mm_I μ 75 k ∧ (∀ j, j < 3 → mm_I μ' 76 (3 * k' + j) = mm_I μ 76 (3 * k + j)) ∧ (∀ j, j < 88 → mm_I μ' 77 (88 * k' + j) = mm_I μ 77 (88 * k + j)) ∧ (∀ j, j < 242 → mm_I μ' 78 (242 * k' + j) = mm_I μ 78 (242 * k + j)) ∧ ∀ j, j < 34 → mm_I μ' 79 (34 * k' + j) = mm_I μ 79 (34 * k + j)
def CyC (μ : mm_M) (a : Nat) (μ' : mm_M) (b : Nat) : Prop := mm_I μ' b 6 = mm_I μ a 6 ∧ mm_I μ' b 7 = mm_I μ a 7 ∧ (∀ j, j < 8 → mm_I μ' (b + 1) j = mm_I μ (a + 1) j ∧ mm_I μ' (b + 2) j = mm_I μ (a + 2) j ∧ mm_I μ' (b + 3) j = mm_I μ (a + 3) j) ∧ ∀ j, j < 6 → mm_I μ' (b + 4) j = mm_I μ (a + 4) j ∧ mm_I μ' (b + 5) j = mm_I μ (a + 5) j ∧ mm_I μ' (b + 6) j = mm_I μ (a + 6) j
def CyY (μ : mm_M) (a : Nat) (μ' : mm_M) (b : Nat) : Prop := mm_I μ' b 3 = mm_I μ a 3 ∧ ∀ j, j < 40 → mm_I μ' (b + 1) j = mm_I μ (a + 1) j ∧ mm_I μ' (b + 2) j = mm_I μ (a + 2) j ∧ mm_I μ' (b + 3) j = mm_I μ (a + 3) j
def CyL (μ : mm_M) (a : Nat) (μ' : mm_M) (b : Nat) : Prop := mm_I μ' b 2 = mm_I μ a 2 ∧ ∀ j, j < 8 → mm_I μ' (b + 1) j = mm_I μ (a + 1) j ∧ mm_I μ' (b + 2) j = mm_I μ (a + 2) j
def CyT (μ : mm_M) (a : Nat) (μ' : mm_M) (b : Nat) : Prop := (mm_I μ' b 5 = mm_I μ a 5 ∧ mm_I μ' b 6 = mm_I μ a 6 ∧ mm_I μ' b 7 = mm_I μ a 7) ∧ (∀ j, j < 600 → mm_I μ' (b + 1) j = mm_I μ (a + 1) j) ∧ (∀ j, j < 3 → mm_I μ' (b + 33) j = mm_I μ (a + 33) j) ∧ (∀ i, i < 2 → CyC μ (a + 3 + 7 * i) μ' (b + 3 + 7 * i)) ∧ (∀ i, i < 2 → CyY μ (a + 18 + 4 * i) μ' (b + 18 + 4 * i)) ∧ ∀ i, i < 2 → CyL μ (a + 27 + 3 * i) μ' (b + 27 + 3 * i)
theorem CoD.mv {μ μ' : mm_M} {a b : Nat} {D : mm_D} (h : CoD μ a D) (hs : CoS μ' b) (c : CyC μ a μ' b) : CoD μ' b D := by
  obtain ⟨-, h1, h2, h3, h4⟩ := h
  obtain ⟨c1, c2, c3, c4⟩ := c
  exact ⟨hs, c1.trans h1, c2.trans h2, fun j hj => ⟨(c3 j hj).1.trans (h3 j hj).1, (c3 j hj).2.1.trans (h3 j hj).2.1, (c3 j hj).2.2.trans (h3 j hj).2.2⟩, fun j hj => ⟨(c4 j hj).1.trans (h4 j hj).1, (c4 j hj).2.1.trans (h4 j hj).2.1, (c4 j hj).2.2.trans (h4 j hj).2.2⟩⟩
theorem CoM.mv {μ μ' : mm_M} {b b' : Nat} {D : mm_D} (h : CoM μ b D) (e : ∀ j, j < 44 → mm_I μ' 77 (b' + j) = mm_I μ 77 (b + j)) : CoM μ' b' D := by
  obtain ⟨h1, h2, h3, h4⟩ := h
  exact ⟨(e 0 (by decide)).trans h1, (e 1 (by decide)).trans h2, fun j hj => ⟨(e _ (by omega)).trans (h3 j hj).1, (e _ (by omega)).trans (h3 j hj).2.1, (e _ (by omega)).trans (h3 j hj).2.2⟩, fun j hj => ⟨(e _ (by omega)).trans (h4 j hj).1, (e _ (by omega)).trans (h4 j hj).2.1, (e _ (by omega)).trans (h4 j hj).2.2⟩⟩
theorem CoR.mv {μ μ' : mm_M} {a a' b b' : Nat} (h : CoR μ a b) (hs : CoS μ' a') (c : CyC μ a μ' a') (e : ∀ j, j < 44 → mm_I μ' 77 (b' + j) = mm_I μ 77 (b + j)) : CoR μ' a' b' := by
  obtain ⟨D, h1, h2, h3⟩ := h
  exact ⟨D, h1, h2.mv hs c, h3.mv e⟩
theorem YeR.mv {μ μ' : mm_M} {a a' b b' : Nat} (h : YeR μ a b) (hs : YeS μ' a') (c : CyY μ a μ' a') (e : ∀ j, j < 121 → mm_I μ' 78 (b' + j) = mm_I μ 78 (b + j)) : YeR μ' a' b' := by
  obtain ⟨-, n, h1, h2, h3, h4⟩ := h
  refine ⟨hs, n, h1, c.1.trans h2, (e 0 (by decide)).trans h3, fun j hj => ?_⟩
  obtain ⟨x1, x2, x3, x4⟩ := h4 j hj
  obtain ⟨y1, y2, y3⟩ := c.2 j (by omega)
  rw [y1, y2, y3, e _ (by omega), e _ (by omega), e _ (by omega)]
  exact ⟨x1, x2, x3, x4⟩
theorem LoR.mv {μ μ' : mm_M} {a a' b b' : Nat} (h : LoR μ a b) (hs : LoS μ' a') (c : CyL μ a μ' a') (e : ∀ j, j < 17 → mm_I μ' 79 (b' + j) = mm_I μ 79 (b + j)) : LoR μ' a' b' := by
  obtain ⟨-, n, h1, h2, h3, h4⟩ := h
  refine ⟨hs, n, h1, c.1.trans h2, (e 0 (by decide)).trans h3, fun j hj => ?_⟩
  obtain ⟨x1, x2, x3, x4⟩ := h4 j hj
  obtain ⟨y1, y2⟩ := c.2 j (by omega)
  rw [y1, y2, e _ (by omega), e _ (by omega)]
  exact ⟨x1, x2, x3, x4⟩
theorem ToS.co {μ : mm_M} {t i : Nat} (h : ToS μ t) (hi : i < 2) : CoS μ (t + 3 + 7 * i) := by
  obtain ⟨-, -, ⟨-, -, -, -, a5, a6⟩, -⟩ := h
  have h2 : i = 0 ∨ i = 1 := by omega
  rcases h2 with rfl | rfl
  · exact a5
  · exact a6
theorem ToS.ye {μ : mm_M} {t i : Nat} (h : ToS μ t) (hi : i < 2) : YeS μ (t + 18 + 4 * i) := by
  obtain ⟨-, -, -, ⟨-, -, -, -, a5, a6⟩, -⟩ := h
  have h2 : i = 0 ∨ i = 1 := by omega
  rcases h2 with rfl | rfl
  · exact a5
  · exact a6
theorem ToS.lo {μ : mm_M} {t i : Nat} (h : ToS μ t) (hi : i < 2) : LoS μ (t + 27 + 3 * i) := by
  obtain ⟨-, -, -, -, ⟨-, -, -, -, a5, a6⟩, -⟩ := h
  have h2 : i = 0 ∨ i = 1 := by omega
  rcases h2 with rfl | rfl
  · exact a5
  · exact a6
theorem TR.mv {μ μ' : mm_M} {t t' k k' : Nat} (h : TR μ t k) (hs : ToS μ' t') (hb : ∀ j, fits .byte (.int (mm_I μ' (t' + 1) j)) = true) (c : CyT μ t μ' t') (m : Kp k k' μ μ') : TR μ' t' k' := by
  obtain ⟨-, ⟨n, n1, n2, n3, n4⟩, hb0, h3, h4, ⟨c0, c1, c2, c3, c4⟩, ⟨d, d1, d2, d3, d4⟩, ⟨f, f1, f2, f3, f4⟩⟩ := h
  obtain ⟨⟨x5, x6, x7⟩, xt, xc, xco, xy, xl⟩ := c
  obtain ⟨m72, m73, m74, m75, m76, m77, m78, m79⟩ := m
  refine ⟨hs, ⟨n, n1, x5.trans n2, m73.trans n3, fun j hj => ?_⟩, hb, ?_, ?_, ⟨c0, c1, (xc 0 (by decide)).trans c2, (m76 0 (by decide)).trans c3, fun i hi => (c4 i hi).mv (hs.co (by omega)) (xco i (by omega)) (fun j hj => ?_)⟩, ⟨d, d1, (xc 1 (by decide)).trans d2, (m76 1 (by decide)).trans d3, fun i hi => (d4 i hi).mv (hs.ye (by omega)) (xy i (by omega)) (fun j hj => ?_)⟩, ⟨f, f1, (xc 2 (by decide)).trans f2, (m76 2 (by decide)).trans f3, fun i hi => (f4 i hi).mv (hs.lo (by omega)) (xl i (by omega)) (fun j hj => ?_)⟩⟩
  · rw [xt j (by omega), m72 j (by omega) (by rw [← n4 j hj]; exact hb0 j)]; exact n4 j hj
  · rw [x6, m74]; exact h3
  · rw [x7, m75]; exact h4
  · rw [show 88 * k' + 44 * i + j = 88 * k' + (44 * i + j) by omega, show 88 * k + 44 * i + j = 88 * k + (44 * i + j) by omega]; exact m77 _ (by omega)
  · rw [show 242 * k' + 121 * i + j = 242 * k' + (121 * i + j) by omega, show 242 * k + 121 * i + j = 242 * k + (121 * i + j) by omega]; exact m78 _ (by omega)
  · rw [show 34 * k' + 17 * i + j = 34 * k' + (17 * i + j) by omega, show 34 * k + 17 * i + j = 34 * k + (17 * i + j) by omega]; exact m79 _ (by omega)
theorem Eq2.cy {μ μ' : mm_M} {t : Nat} (e : Eq2 μ μ' t (t + 33)) : CyT μ t μ' t := by
  have f : ∀ x j, x ≤ 33 → mm_I μ' (t + x) j = mm_I μ (t + x) j := fun x j hx => congrFun (e.i (by omega) (by omega)) j
  refine ⟨⟨f 0 _ (by decide), f 0 _ (by decide), f 0 _ (by decide)⟩, fun j _ => f 1 j (by decide), fun j _ => f 33 j (by decide), fun i hi => ?_, fun i hi => ?_, fun i hi => ?_⟩
  · have g : ∀ x j, x ≤ 6 → mm_I μ' (t + 3 + 7 * i + x) j = mm_I μ (t + 3 + 7 * i + x) j := fun x j hx => by rw [show t + 3 + 7 * i + x = t + (3 + 7 * i + x) by omega]; exact f _ j (by omega)
    exact ⟨g 0 _ (by decide), g 0 _ (by decide), fun j _ => ⟨g 1 j (by decide), g 2 j (by decide), g 3 j (by decide)⟩, fun j _ => ⟨g 4 j (by decide), g 5 j (by decide), g 6 j (by decide)⟩⟩
  · have g : ∀ x j, x ≤ 3 → mm_I μ' (t + 18 + 4 * i + x) j = mm_I μ (t + 18 + 4 * i + x) j := fun x j hx => by rw [show t + 18 + 4 * i + x = t + (18 + 4 * i + x) by omega]; exact f _ j (by omega)
    exact ⟨g 0 _ (by decide), fun j _ => ⟨g 1 j (by decide), g 2 j (by decide), g 3 j (by decide)⟩⟩
  · have g : ∀ x j, x ≤ 2 → mm_I μ' (t + 27 + 3 * i + x) j = mm_I μ (t + 27 + 3 * i + x) j := fun x j hx => by rw [show t + 27 + 3 * i + x = t + (27 + 3 * i + x) by omega]; exact f _ j (by omega)
    exact ⟨g 0 _ (by decide), fun j _ => ⟨g 1 j (by decide), g 2 j (by decide)⟩⟩
theorem TR.eqk {μ μ' : mm_M} {t k : Nat} (h : TR μ t k) (e : Eq2 μ μ' t (t + 33)) (m : Kp k k μ μ') : TR μ' t k := h.mv (h.1.eq e) (by rw [e.i (by omega) (by omega)]; exact h.2.2.1) e.cy m
/-- all cells but the images -/
def scT (a : Nat) : Bool := a < 95 && a != 35 && a != 94
theorem JJ.told {k : Nat} {μ μ' : mm_M} (h : JJ k μ) (hf : Fr scT μ μ') (hk : ∀ e, 1 ≤ e → e ≤ 3 → Kp e e μ μ') (hT : TR μ' 1 0) (hw : Wk (k + 1) μ') : JJ (k + 1) μ' := by
  obtain ⟨h1, h2, ⟨m, m1, m2, m3, m4⟩, -⟩ := h
  have p35 := (hf.2.2.1 35 rfl).2.2
  have i94 := (hf.2.2.1 94 rfl).1
  refine ⟨hf.2.2.2 h1, hT, ⟨m, m1, hf.1.trans m2, by rw [p35]; exact m3, fun i hi => ?_⟩, hw⟩
  rw [p35, i94]
  rcases m4 i hi with z | ⟨e, e1, z2, z3, z4, z5⟩
  · exact Or.inl z
  · refine Or.inr ⟨e, e1, z2, z3, z4.eqk (hf.eq2 (fun x hx hy => ?_)) (hk (i + 1) (by omega) (by omega)), z5⟩
    unfold scT
    simp
    omega
/-- the tape's cells and scratch -/
def scP (a : Nat) : Bool := a == 1 || a == 2 || (36 ≤ a && a ≤ 75) || (80 ≤ a && a ≤ 93)
theorem scP_T : ∀ a, scP a = true → scT a = true := by
  intro a h
  unfold scP at h
  unfold scT
  simp at h ⊢
  omega
theorem TR.tape {μ μ' : mm_M} (h : TR μ 1 0) (hS : SK μ) (hf : Fr scP μ μ') (ht : ∃ n : Nat, n ≤ 600 ∧ mm_I μ' 1 5 = nI n ∧ mm_I μ' 73 0 = nI n ∧ ∀ j, j < n → mm_I μ' 2 j = mm_I μ' 72 j) (hb : ∀ j, fits .byte (.int (mm_I μ' 2 j)) = true) (h6 : mm_I μ' 1 6 = mm_I μ' 74 0) (h7 : mm_I μ' 1 7 = mm_I μ' 75 0) : TR μ' 1 0 := by
  obtain ⟨-, -, -, -, -, ⟨c0, c1, c2, c3, c4⟩, ⟨d, d1, d2, d3, d4⟩, ⟨f, f1, f2, f3, f4⟩⟩ := h
  obtain ⟨n, n1, n2, n3, n4⟩ := ht
  have e34 := (hf.2.2.1 34 rfl).1
  have e76 := (hf.2.2.1 76 rfl).1
  have e77 := (hf.2.2.1 77 rfl).1
  have e78 := (hf.2.2.1 78 rfl).1
  have e79 := (hf.2.2.1 79 rfl).1
  have hs : ∀ x, 3 ≤ x → x ≤ 34 → scP x = false := by
    intro x h1 h2
    unfold scP
    simp
    omega
  refine ⟨sk_t (hf.2.2.2 hS), ⟨n, n1, n2, n3, fun j hj => ?_⟩, hb, h6, h7, ⟨c0, c1, ?_, ?_, fun i hi => (c4 i hi).eq (hf.eq2 (fun x hx hy => hs x (by omega) (by omega))) e77⟩, ⟨d, d1, ?_, ?_, fun i hi => (d4 i hi).eq (hf.eq2 (fun x hx hy => hs x (by omega) (by omega))) e78⟩, ⟨f, f1, ?_, ?_, fun i hi => (f4 i hi).eq (hf.eq2 (fun x hx hy => hs x (by omega) (by omega))) e79⟩⟩
  · rw [show 600 * 0 + j = j by omega]; exact n4 j hj
  · rw [show 1 + 33 = 34 from rfl, e34]; exact c2
  · rw [e76]; exact c3
  · rw [show 1 + 33 = 34 from rfl, e34]; exact d2
  · rw [e76]; exact d3
  · rw [show 1 + 33 = 34 from rfl, e34]; exact f2
  · rw [e76]; exact f3
theorem JJ.tape {k : Nat} {μ μ' : mm_M} (h : JJ k μ) (hf : Fr scP μ μ') (ht : ∃ n : Nat, n ≤ 600 ∧ mm_I μ' 1 5 = nI n ∧ mm_I μ' 73 0 = nI n ∧ ∀ j, j < n → mm_I μ' 2 j = mm_I μ' 72 j) (hb : ∀ j, fits .byte (.int (mm_I μ' 2 j)) = true) (h6 : mm_I μ' 1 6 = mm_I μ' 74 0) (h7 : mm_I μ' 1 7 = mm_I μ' 75 0) (k72 : ∀ j, 600 ≤ j → mm_I μ' 72 j = mm_I μ 72 j) (k7 : ∀ j, 1 ≤ j → mm_I μ' 73 j = mm_I μ 73 j ∧ mm_I μ' 74 j = mm_I μ 74 j ∧ mm_I μ' 75 j = mm_I μ 75 j) (hw : Wk (k + 1) μ') : JJ (k + 1) μ' := by
  refine h.told (hf.sub scP_T) (fun e e1 e2 => ⟨fun j hj _ => k72 _ (by omega), (k7 e e1).1, (k7 e e1).2.1, (k7 e e1).2.2, fun j _ => by rw [(hf.2.2.1 76 rfl).1], fun j _ => by rw [(hf.2.2.1 77 rfl).1], fun j _ => by rw [(hf.2.2.1 78 rfl).1], fun j _ => by rw [(hf.2.2.1 79 rfl).1]⟩) (h.2.1.tape h.1 hf ht hb h6 h7) hw
theorem pairS {X : mm_X} {k : Nat} {μ : mm_M} {kc km : mm_K} {as : List Value} {d d' : Nat} (R : Int32) (A : mm_M → Prop) (hA : ∀ μ1, A μ1 → SK μ1) (hd : d ≤ 30) (hd' : d' ≤ 30) (HC : mm_Ci X d 0 0 kc (.ref 0 :: as) μ (fun r μ1 => r = R ∧ A μ1)) (HM : ∀ μ1, A μ1 → mm_Ci X d' 0 0 km (.ref 71 :: as) μ1 (fun r μ2 => r = R ∧ JJ (k + 1) μ2)) : PairI X (JJ (k + 1)) kc km as μ := by
  refine (HC.lift 30 40 1100 hd).imp (fun r μ1 h => ?_)
  obtain ⟨rfl, hf⟩ := h
  refine ⟨hA μ1 hf, ((HM μ1 hf).lift 30 0 0 hd').imp (fun r' μ2 h => ?_)⟩
  obtain ⟨rfl, hg⟩ := h
  exact ⟨rfl, hg⟩
theorem pair_end {X : mm_X} {k : Nat} {μ : mm_M} (hJ : JJ k μ) (y1 : Int32) : PairI X (JJ (k + 1)) k_G_end k_M_end [.int y1] μ := by
  have hM := hJ.1
  have hw := hJ.2.2.2.up
  obtain ⟨-, ⟨n, n1, n2, n3, n4⟩, hb, h6, h7, -⟩ := hJ.2.1
  rcases rng_or y1 (a := 0) (b := n) (by decide) (by omega) with ⟨hz, hz2⟩ | ⟨s, -, hs, rfl⟩
  · refine pairQ (-1) hJ (d := 12) (d' := 12) (by decide) (by decide) ?_ (fun μ1 hf => ?_)
    · show mm_T X 12 0 0 k_G_end 0 [some (.ref 0), some (.int y1)] [] μ _
      refine mm_iload d_G_end_0 rfl ?_
      refine mm_if_lt d_G_end_1 (fun c_1 => ?_) (fun c_1 => ?_)
      · refine mm_ci d_G_end_15 ?_
        exact mm_ri d_G_end_16 ⟨rfl, Fr.rf, hw⟩
      · refine mm_iload d_G_end_4 rfl ?_
        refine mm_aload d_G_end_5 rfl ?_
        refine mm_getP d_G_end_6 rfl (sk_o_0 hM) (sk_p_0_0 hM) ?_
        refine mm_getIN d_G_end_9 rfl (sk_o_1 hM) n2 ?_
        refine mm_icmp_le d_G_end_12 (fun c_12 => False.elim (rng_dead hz2 c_1 c_12)) (fun c_12 => ?_)
        refine mm_ci d_G_end_15 ?_
        exact mm_ri d_G_end_16 ⟨rfl, Fr.rf, hw⟩
    · show mm_T X 12 0 0 k_M_end 0 [some (.ref 71), some (.int y1)] [] μ1 _
      replace hM := hf.2.2.2 hM
      refine mm_aload d_M_end_0 rfl ?_
      refine mm_ciN 0 d_M_end_1 rfl ?_
      refine mm_putI d_M_end_2 rfl (sk_o_71 hM) (Or.inl rfl) ?_
      refine mm_iload d_M_end_5 rfl ?_
      refine mm_ciN 0 d_M_end_6 rfl ?_
      refine mm_aload d_M_end_7 rfl ?_
      refine mm_getP d_M_end_8 rfl (sk_o_71 hM) (sk_p_71_2 hM) ?_
      refine mm_ciN 0 d_M_end_11 rfl ?_
      refine mm_ialdN d_M_end_12 (sk_a_73 hM) (by omega) (by decide) (show _ = nI n by rw [mm_sI_off (by decide), (hf.2.2.1 73 rfl).1, n3]) ?_
      refine mm_s3i d_M_end_13 (sp_M_inB hz ?_)
      refine mm_if_neN d_M_end_16 (by first | omega | exact ite01_lt | exact bt8_lt31 _ _ | exact godB_lt31 _ _ _ | exact pop_lt31 _ | assumption | exact b31 (hW.gp (by omega)) | exact b31 (hW.ne (by omega)) | exact b31 (hW.op (by omega)) | exact and31 (hW.gp (by omega)) | exact and31 (hW.ne (by omega)) | exact and31 (hW.op (by omega)) | exact and31 (by assumption) | exact and31r (hW.ne (by omega)) | exact and31r (hW.gp (by omega)) | exact and31r (by decide)) (fun c_16 => False.elim (by omega)) (fun c_16 => ?_)
      refine mm_ci d_M_end_19 ?_
      exact mm_ri d_M_end_20 ⟨rfl, Fr.rf.sI rfl⟩
  · have fin : ∀ x j, JJ (k + 1) (mm_sI (mm_sI (mm_sI μ 1 5 (nI s)) 71 j x) 73 0 (nI s)) := by
      intro x j
      have e : ∀ a i, a ≠ 1 → a ≠ 71 → a ≠ 73 → mm_I (mm_sI (mm_sI (mm_sI μ 1 5 (nI s)) 71 j x) 73 0 (nI s)) a i = mm_I μ a i := by
        intro a i x1 x2 x3
        rw [mm_sI_off x3, mm_sI_off x2, mm_sI_off x1]
      have e1 : ∀ i, i ≠ 5 → mm_I (mm_sI (mm_sI (mm_sI μ 1 5 (nI s)) 71 j x) 73 0 (nI s)) 1 i = mm_I μ 1 i := by
        intro i x1
        rw [mm_sI_off (by decide), mm_sI_off (by decide), mm_I_sI, if_neg (fun z => x1 z.2)]
      refine hJ.tape (((Fr.rf.sI rfl).sI rfl).sI rfl) ⟨s, by omega, ?_, ?_, fun i hi => ?_⟩ (fun i => ?_) ?_ ?_ (fun i _ => e 72 i (by decide) (by decide) (by decide)) (fun i hi => ⟨?_, e 74 i (by decide) (by decide) (by decide), e 75 i (by decide) (by decide) (by decide)⟩) hw
      · rw [mm_sI_off (by decide), mm_sI_off (by decide), mm_I_sI, if_pos ⟨rfl, rfl⟩]
      · rw [mm_I_sI, if_pos ⟨rfl, rfl⟩]
      · rw [e 2 i (by decide) (by decide) (by decide), e 72 i (by decide) (by decide) (by decide)]
        have := n4 i (by omega)
        rw [show 600 * 0 + i = i by omega] at this
        exact this
      · rw [e 2 i (by decide) (by decide) (by decide)]; exact hb i
      · rw [e1 6 (by decide), e 74 0 (by decide) (by decide) (by decide)]; exact h6
      · rw [e1 7 (by decide), e 75 0 (by decide) (by decide) (by decide)]; exact h7
      · rw [mm_I_sI, if_neg (by omega), mm_sI_off (by decide), mm_sI_off (by decide)]
    refine pairS (nI s) (fun μ1 => μ1 = mm_sI μ 1 5 (nI s)) (by rintro μ1 rfl; exact hM) (d := 12) (d' := 12) (by decide) (by decide) ?_ ?_
    · show mm_T X 12 0 0 k_G_end 0 [some (.ref 0), some (.int (nI s))] [] μ _
      refine mm_iload d_G_end_0 rfl ?_
      refine mm_if_ltN d_G_end_1 (by first | omega | exact ite01_lt | exact bt8_lt31 _ _ | exact godB_lt31 _ _ _ | exact pop_lt31 _ | assumption | exact b31 (hW.gp (by omega)) | exact b31 (hW.ne (by omega)) | exact b31 (hW.op (by omega)) | exact and31 (hW.gp (by omega)) | exact and31 (hW.ne (by omega)) | exact and31 (hW.op (by omega)) | exact and31 (by assumption) | exact and31r (hW.ne (by omega)) | exact and31r (hW.gp (by omega)) | exact and31r (by decide)) ?_
      refine mm_iload d_G_end_4 rfl ?_
      refine mm_aload d_G_end_5 rfl ?_
      refine mm_getP d_G_end_6 rfl (sk_o_0 hM) (sk_p_0_0 hM) ?_
      refine mm_getIN d_G_end_9 rfl (sk_o_1 hM) n2 ?_
      refine mm_icmp_leN d_G_end_12 (by first | omega | exact ite01_lt | exact bt8_lt31 _ _ | exact godB_lt31 _ _ _ | exact pop_lt31 _ | assumption | exact b31 (hW.gp (by omega)) | exact b31 (hW.ne (by omega)) | exact b31 (hW.op (by omega)) | exact and31 (hW.gp (by omega)) | exact and31 (hW.ne (by omega)) | exact and31 (hW.op (by omega)) | exact and31 (by assumption) | exact and31r (hW.ne (by omega)) | exact and31r (hW.gp (by omega)) | exact and31r (by decide)) (by first | omega | exact ite01_lt | exact bt8_lt31 _ _ | exact godB_lt31 _ _ _ | exact pop_lt31 _ | assumption | exact b31 (hW.gp (by omega)) | exact b31 (hW.ne (by omega)) | exact b31 (hW.op (by omega)) | exact and31 (hW.gp (by omega)) | exact and31 (hW.ne (by omega)) | exact and31 (hW.op (by omega)) | exact and31 (by assumption) | exact and31r (hW.ne (by omega)) | exact and31r (hW.gp (by omega)) | exact and31r (by decide)) (fun c_12 => ?_) (fun c_12 => False.elim (by omega))
      refine mm_aload d_G_end_17 rfl ?_
      refine mm_getP d_G_end_18 rfl (sk_o_0 hM) (sk_p_0_0 hM) ?_
      refine mm_iload d_G_end_21 rfl ?_
      refine mm_putI d_G_end_22 rfl (sk_o_1 hM) (Or.inl rfl) ?_
      refine mm_iload d_G_end_25 rfl ?_
      exact mm_ri d_G_end_26 ⟨rfl, rfl⟩
    · rintro μ1 rfl
      show mm_T X 12 0 0 k_M_end 0 [some (.ref 71), some (.int (nI s))] [] _ _
      replace hM : SK (mm_sI μ 1 5 (nI s)) := hM
      refine mm_aload d_M_end_0 rfl ?_
      refine mm_ciN 0 d_M_end_1 rfl ?_
      refine mm_putI d_M_end_2 rfl (sk_o_71 hM) (Or.inl rfl) ?_
      refine mm_iload d_M_end_5 rfl ?_
      refine mm_ciN 0 d_M_end_6 rfl ?_
      refine mm_aload d_M_end_7 rfl ?_
      refine mm_getP d_M_end_8 rfl (sk_o_71 hM) (sk_p_71_2 hM) ?_
      refine mm_ciN 0 d_M_end_11 rfl ?_
      refine mm_ialdN d_M_end_12 (sk_a_73 hM) (by omega) (by decide) (show _ = nI n by rw [mm_sI_off (by decide), mm_sI_off (by decide), n3]) ?_
      refine mm_s3i d_M_end_13 (sp_M_inT (by omega) (by omega) (by omega) ?_)
      refine mm_if_neN d_M_end_16 (by first | omega | exact ite01_lt | exact bt8_lt31 _ _ | exact godB_lt31 _ _ _ | exact pop_lt31 _ | assumption | exact b31 (hW.gp (by omega)) | exact b31 (hW.ne (by omega)) | exact b31 (hW.op (by omega)) | exact and31 (hW.gp (by omega)) | exact and31 (hW.ne (by omega)) | exact and31 (hW.op (by omega)) | exact and31 (by assumption) | exact and31r (hW.ne (by omega)) | exact and31r (hW.gp (by omega)) | exact and31r (by decide)) (fun c_16 => ?_) (fun c_16 => False.elim (by omega))
      refine mm_aload d_M_end_21 rfl ?_
      refine mm_getP d_M_end_22 rfl (sk_o_71 hM) (sk_p_71_2 hM) ?_
      refine mm_ciN 0 d_M_end_25 rfl ?_
      refine mm_iload d_M_end_26 rfl ?_
      refine mm_iastX d_M_end_27 (sk_a_73 hM) (by omega) (by decide) ?_
      refine mm_iload d_M_end_28 rfl ?_
      exact mm_ri d_M_end_29 ⟨rfl, fin _ _⟩
/-! feed -/
def bB (v : Int32) (i : Nat) : Int32 := (v >>> (nI (24 - 8 * i) &&& 31)).toInt8.toInt32
theorem sh8 (x : BitVec 32) (k : Nat) (hk : k ≤ 24) : (x >>> k).signExtend 8 = (x.sshiftRight k).signExtend 8 := by
  ext i hi
  rw [BitVec.getElem_signExtend, BitVec.getElem_signExtend]
  have h32 : i < 32 := by omega
  rw [dif_pos h32, dif_pos h32, BitVec.getElem_ushiftRight, BitVec.getElem_sshiftRight, dif_pos (by omega)]
  exact BitVec.getLsbD_eq_getElem (by omega)
theorem bB_u (v : Int32) {i : Nat} (hi : i < 4) : (v.toUInt32 >>> ((nI (24 - 8 * i)).toUInt32 &&& Int32.toUInt32 31)).toInt32.toInt8.toInt32 = bB v i := by
  have h4 : i = 0 ∨ i = 1 ∨ i = 2 ∨ i = 3 := by omega
  unfold bB
  congr 1
  apply Int8.toBitVec_inj.mp
  have e1 : ∀ k : Nat, k ≤ 24 → (v.toUInt32 >>> UInt32.ofNat k).toInt32.toBitVec = v.toBitVec >>> k := by
    intro k hk
    show (v.toUInt32 >>> UInt32.ofNat k).toBitVec = _
    rw [UInt32.toBitVec_shiftRight]
    show v.toBitVec >>> ((BitVec.ofNat 32 k) % 32).toNat = _
    congr 1
    simp
    omega
  have e2 : ∀ k : Nat, ((BitVec.ofNat 32 k).smod 32).toNat = k → (v >>> Int32.ofNat k).toBitVec = v.toBitVec.sshiftRight k := by
    intro k hk
    rw [Int32.toBitVec_shiftRight]
    show v.toBitVec.sshiftRight ((BitVec.ofNat 32 k).smod 32).toNat = _
    rw [hk]
  rcases h4 with rfl | rfl | rfl | rfl
  · have := sh8 v.toBitVec 24 (by decide)
    rw [← e1 24 (by decide), ← e2 24 (by decide)] at this
    exact this
  · have := sh8 v.toBitVec 16 (by decide)
    rw [← e1 16 (by decide), ← e2 16 (by decide)] at this
    exact this
  · have := sh8 v.toBitVec 8 (by decide)
    rw [← e1 8 (by decide), ← e2 8 (by decide)] at this
    exact this
  · have := sh8 v.toBitVec 0 (by decide)
    rw [← e1 0 (by decide), ← e2 0 (by decide)] at this
    exact this
def shF (i : Nat) : Int32 := if i < 4 then nI (24 - 8 * i) else -8
theorem shF_s {i : Nat} (hi : i < 4) : nI (24 - 8 * i) + -8 = shF (i + 1) := by
  have h4 : i = 0 ∨ i = 1 ∨ i = 2 ∨ i = 3 := by omega
  rcases h4 with rfl | rfl | rfl | rfl <;> rfl
def app (f : Nat → Int32) (n i : Nat) (v : Int32) (j : Nat) : Int32 := if n ≤ j ∧ j < n + i then bB v (j - n) else f j
theorem app_s {f : Nat → Int32} {n i : Nat} {v : Int32} {j : Nat} : (if j = n + i then bB v i else app f n i v j) = app f n (i + 1) v j := by
  unfold app
  by_cases h : j = n + i
  · subst h
    rw [if_pos rfl, if_pos (by omega), show n + i - n = i by omega]
  · rw [if_neg h]
    by_cases h2 : n ≤ j ∧ j < n + i
    · rw [if_pos h2, if_pos (by omega)]
    · rw [if_neg h2, if_neg (by omega)]
def scp1 (a : Nat) : Bool := a == 1 || a == 2
def scp2 (a : Nat) : Bool := a == 71 || a == 72 || a == 73
def PutI (μ ν : mm_M) (n i : Nat) (v : Int32) : Prop := Fr scp1 μ ν ∧ mm_I ν 1 5 = nI (n + i) ∧ (∀ j, j ≠ 5 → mm_I ν 1 j = mm_I μ 1 j) ∧ ∀ j, mm_I ν 2 j = app (mm_I μ 2) n i v j
def FourI (μ ν : mm_M) (n i : Nat) (v : Int32) : Prop := Fr scp2 μ ν ∧ mm_I ν 73 0 = nI (n + i) ∧ (∀ j, j ≠ 0 → mm_I ν 73 j = mm_I μ 73 j) ∧ ∀ j, mm_I ν 72 j = app (mm_I μ 72) n i v j
theorem app_0 {f : Nat → Int32} {n : Nat} {v : Int32} {j : Nat} : f j = app f n 0 v j := by unfold app; rw [if_neg (by omega)]
theorem sp_To_put {X : mm_X} {μ : mm_M} {q : mm_M → Prop} {n : Nat} {v : Int32} (hM : SK μ) (h5 : mm_I μ 1 5 = nI n) (hn : n + 4 ≤ 600) (h : ∀ μ', PutI μ μ' n 4 v → q μ') : mm_Cv X 0 0 0 k_To_put [.ref 1, .int v] μ q := by
  show mm_T X 0 0 0 k_To_put 0 [some (.ref 1), some (.int v), none] [] μ _
  refine mm_ci d_To_put_0 ?_
  refine mm_ist2 d_To_put_2 ?_
  refine mm_up (P := fun i => ∀ ν, (PutI μ ν n i v) → mm_T X _ 0 0 k_To_put 3 [some (.ref 1), some (.int v), some (.int (shF i))] [] ν _) (4) ?_ ?_ _ ⟨Fr.rf, h5, fun _ _ => rfl, fun _ => app_0⟩
  · intro ν hI
    obtain ⟨hf, e5, eo, et⟩ := hI
    replace hM := hf.2.2.2 hM
    refine mm_iload d_To_put_3 rfl ?_
    refine mm_if_lt d_To_put_4 (fun c_4 => ?_) (fun c_4 => False.elim (absurd (show shF 4 < 0 by decide) c_4))
    exact mm_rv d_To_put_46 (h ν ⟨hf, e5, eo, et⟩)
  · intro i hi ih ν hI
    obtain ⟨hf, e5, eo, et⟩ := hI
    replace hM := hf.2.2.2 hM
    rw [show shF i = nI (24 - 8 * i) from if_pos hi]
    refine mm_iload d_To_put_3 rfl ?_
    refine mm_if_lt d_To_put_4 (fun c_4 => False.elim (nI_pos (by omega) c_4)) (fun c_4 => ?_)
    refine mm_aload d_To_put_7 rfl ?_
    refine mm_getIN d_To_put_8 rfl (sk_o_1 hM) e5 ?_
    refine mm_ciN 600 d_To_put_11 rfl ?_
    refine mm_icmp_geN d_To_put_14 (by first | omega | exact ite01_lt | exact bt8_lt31 _ _ | exact godB_lt31 _ _ _ | exact pop_lt31 _ | assumption | exact b31 (hW.gp (by omega)) | exact b31 (hW.ne (by omega)) | exact b31 (hW.op (by omega)) | exact and31 (hW.gp (by omega)) | exact and31 (hW.ne (by omega)) | exact and31 (hW.op (by omega)) | exact and31 (by assumption) | exact and31r (hW.ne (by omega)) | exact and31r (hW.gp (by omega)) | exact and31r (by decide)) (by first | omega | exact ite01_lt | exact bt8_lt31 _ _ | exact godB_lt31 _ _ _ | exact pop_lt31 _ | assumption | exact b31 (hW.gp (by omega)) | exact b31 (hW.ne (by omega)) | exact b31 (hW.op (by omega)) | exact and31 (hW.gp (by omega)) | exact and31 (hW.ne (by omega)) | exact and31 (hW.op (by omega)) | exact and31 (by assumption) | exact and31r (hW.ne (by omega)) | exact and31r (hW.gp (by omega)) | exact and31r (by decide)) (fun c_14 => False.elim (by omega)) (fun c_14 => ?_)
    refine mm_aload d_To_put_17 rfl ?_
    refine mm_getP d_To_put_18 rfl (sk_o_1 hM) (sk_p_1_0 hM) ?_
    refine mm_aload d_To_put_21 rfl ?_
    refine mm_getIN d_To_put_22 rfl (sk_o_1 hM) e5 ?_
    refine mm_iload d_To_put_25 rfl ?_
    refine mm_iload d_To_put_26 rfl ?_
    refine mm_iushr d_To_put_27 ?_
    refine mm_i2b d_To_put_28 ?_
    rw [bB_u v hi]
    refine mm_bastX d_To_put_29 (sk_a_2 hM) (by omega) (by decide) ?_
    refine mm_aload d_To_put_30 rfl ?_
    refine mm_dup d_To_put_31 rfl ?_
    refine mm_getIN d_To_put_32 rfl (sk_o_1 hM) (by rw [mm_sI_off (by decide)]; exact e5) ?_
    refine mm_ciN 1 d_To_put_35 rfl ?_
    refine mm_iaddN d_To_put_36 ?_
    refine mm_putI d_To_put_37 rfl (sk_o_1 hM) (Or.inl rfl) ?_
    refine mm_inc2 d_To_put_40 ?_
    rw [shF_s hi]
    refine mm_goto d_To_put_43 ?_
    refine ih _ ⟨(hf.sI rfl).sI rfl, ?_, fun j hj => ?_, fun j => ?_⟩
    · rw [mm_I_sI, if_pos ⟨rfl, rfl⟩]; rfl
    · rw [mm_I_sI, if_neg (fun z => hj z.2), mm_sI_off (by decide)]; exact eo j hj
    · rw [mm_sI_off (by decide), mm_I_sI, et j, show vp_nar .byte (bB v i) = bB v i from pk_vb _, ← app_s]; by_cases z : j = n + i; rw [if_pos z, if_pos ⟨rfl, z⟩]; rw [if_neg z, if_neg (fun w => z w.2)]
theorem sp_M_four {X : mm_X} {μ : mm_M} {q : mm_M → Prop} {n : Nat} {v : Int32} (hM : SK μ) (h5 : mm_I μ 73 0 = nI n) (hn : n + 4 ≤ 600) (h : ∀ μ', FourI μ μ' n 4 v → q μ') : mm_Cv X 0 0 0 k_M_four [.ref 71, .int v] μ q := by
  show mm_T X 0 0 0 k_M_four 0 [some (.ref 71), some (.int v), none] [] μ _
  refine mm_ci d_M_four_0 ?_
  refine mm_ist2 d_M_four_2 ?_
  refine mm_up (P := fun i => ∀ ν, (FourI μ ν n i v) → mm_T X _ 0 0 k_M_four 3 [some (.ref 71), some (.int v), some (.int (shF i))] [] ν _) (4) ?_ ?_ _ ⟨Fr.rf, h5, fun _ _ => rfl, fun _ => app_0⟩
  · intro ν hI
    obtain ⟨hf, e5, eo, et⟩ := hI
    replace hM := hf.2.2.2 hM
    refine mm_iload d_M_four_3 rfl ?_
    refine mm_if_lt d_M_four_4 (fun c_4 => ?_) (fun c_4 => False.elim (absurd (show shF 4 < 0 by decide) c_4))
    exact mm_rv d_M_four_38 (h ν ⟨hf, e5, eo, et⟩)
  · intro i hi ih ν hI
    obtain ⟨hf, e5, eo, et⟩ := hI
    replace hM := hf.2.2.2 hM
    rw [show shF i = nI (24 - 8 * i) from if_pos hi]
    refine mm_iload d_M_four_3 rfl ?_
    refine mm_if_lt d_M_four_4 (fun c_4 => False.elim (nI_pos (by omega) c_4)) (fun c_4 => ?_)
    refine mm_aload d_M_four_7 rfl ?_
    refine mm_getP d_M_four_8 rfl (sk_o_71 hM) (sk_p_71_1 hM) ?_
    refine mm_aload d_M_four_11 rfl ?_
    refine mm_getP d_M_four_12 rfl (sk_o_71 hM) (sk_p_71_2 hM) ?_
    refine mm_ciN 0 d_M_four_15 rfl ?_
    refine mm_ialdN d_M_four_16 (sk_a_73 hM) (by omega) (by decide) e5 ?_
    refine mm_iload d_M_four_17 rfl ?_
    refine mm_iload d_M_four_18 rfl ?_
    refine mm_ishr d_M_four_19 ?_
    refine mm_i2b d_M_four_20 ?_
    rw [show (v >>> (nI (24 - 8 * i) &&& 31)).toInt8.toInt32 = bB v i from rfl]
    refine mm_bastX d_M_four_21 (sk_a_72 hM) (by omega) (by decide) ?_
    refine mm_aload d_M_four_22 rfl ?_
    refine mm_getP d_M_four_23 rfl (sk_o_71 hM) (sk_p_71_2 hM) ?_
    refine mm_ciN 0 d_M_four_26 rfl ?_
    refine mm_dup2 d_M_four_27 rfl rfl ?_
    refine mm_ialdN d_M_four_28 (sk_a_73 hM) (by omega) (by decide) (by rw [mm_sI_off (by decide)]; exact e5) ?_
    refine mm_ciN 1 d_M_four_29 rfl ?_
    refine mm_iaddN d_M_four_30 ?_
    refine mm_iastX d_M_four_31 (sk_a_73 hM) (by omega) (by decide) ?_
    refine mm_inc2 d_M_four_32 ?_
    rw [shF_s hi]
    refine mm_goto d_M_four_35 ?_
    refine ih _ ⟨(hf.sI rfl).sI rfl, ?_, fun j hj => ?_, fun j => ?_⟩
    · rw [mm_I_sI, if_pos ⟨rfl, rfl⟩]; rfl
    · rw [mm_I_sI, if_neg (fun z => hj z.2), mm_sI_off (by decide)]; exact eo j hj
    · rw [mm_sI_off (by decide), mm_I_sI, et j, show vp_nar .byte (bB v i) = bB v i from pk_vb _, ← app_s]; by_cases z : j = n + i; rw [if_pos z, if_pos ⟨rfl, z⟩]; rw [if_neg z, if_neg (fun w => z w.2)]
def app5 (f : Nat → Int32) (n : Nat) (a b c d e : Int32) : Nat → Int32 := app (app (app (app (app f n 4 a) (n + 4) 4 b) (n + 8) 4 c) (n + 12) 4 d) (n + 16) 4 e
theorem app_eq {f g : Nat → Int32} {n m : Nat} {v : Int32} (h : ∀ j, j < n → f j = g j) (hm : m ≤ n + 4) {j : Nat} (hj : j < m) : app f n 4 v j = app g n 4 v j := by
  unfold app
  by_cases z : n ≤ j ∧ j < n + 4
  · rw [if_pos z, if_pos z]
  · rw [if_neg z, if_neg z]; exact h j (by omega)
theorem app_fit {f : Nat → Int32} {n : Nat} {v : Int32} (h : ∀ j, fits .byte (.int (f j)) = true) (j : Nat) : fits .byte (.int (app f n 4 v j)) = true := by
  unfold app
  by_cases z : n ≤ j ∧ j < n + 4
  · rw [if_pos z]; exact pk_fb _
  · rw [if_neg z]; exact h j
theorem app_out {f : Nat → Int32} {n j : Nat} {v : Int32} (h : n + 4 ≤ j) : app f n 4 v j = f j := by unfold app; rw [if_neg (by omega)]
theorem pair_feed {X : mm_X} {k : Nat} {μ : mm_M} (hJ : JJ k μ) (y1 y2 y3 y4 y5 : Int32) : PairI X (JJ (k + 1)) k_G_feed k_M_feed [.int y1, .int y2, .int y3, .int y4, .int y5] μ := by
  have hM := hJ.1
  have hw := hJ.2.2.2.up
  obtain ⟨-, ⟨n, n1, n2, n3, n4⟩, hb, h6, h7, -⟩ := hJ.2.1
  by_cases hn : 600 < n + 20
  · refine pairQ (-1) hJ (d := 12) (d' := 12) (by decide) (by decide) ?_ (fun μ1 hf => ?_)
    · show mm_T X 12 0 0 k_G_feed 0 [some (.ref 0), some (.int y1), some (.int y2), some (.int y3), some (.int y4), some (.int y5)] [] μ _
      refine mm_aload d_G_feed_0 rfl ?_
      refine mm_getP d_G_feed_1 rfl (sk_o_0 hM) (sk_p_0_0 hM) ?_
      refine mm_getIN d_G_feed_4 rfl (sk_o_1 hM) n2 ?_
      refine mm_ciN 20 d_G_feed_7 rfl ?_
      refine mm_iaddN d_G_feed_9 ?_
      refine mm_ciN 600 d_G_feed_10 rfl ?_
      refine mm_icmp_leN d_G_feed_13 (by first | omega | exact ite01_lt | exact bt8_lt31 _ _ | exact godB_lt31 _ _ _ | exact pop_lt31 _ | assumption | exact b31 (hW.gp (by omega)) | exact b31 (hW.ne (by omega)) | exact b31 (hW.op (by omega)) | exact and31 (hW.gp (by omega)) | exact and31 (hW.ne (by omega)) | exact and31 (hW.op (by omega)) | exact and31 (by assumption) | exact and31r (hW.ne (by omega)) | exact and31r (hW.gp (by omega)) | exact and31r (by decide)) (by first | omega | exact ite01_lt | exact bt8_lt31 _ _ | exact godB_lt31 _ _ _ | exact pop_lt31 _ | assumption | exact b31 (hW.gp (by omega)) | exact b31 (hW.ne (by omega)) | exact b31 (hW.op (by omega)) | exact and31 (hW.gp (by omega)) | exact and31 (hW.ne (by omega)) | exact and31 (hW.op (by omega)) | exact and31 (by assumption) | exact and31r (hW.ne (by omega)) | exact and31r (hW.gp (by omega)) | exact and31r (by decide)) (fun c_13 => False.elim (by omega)) (fun c_13 => ?_)
      refine mm_ci d_G_feed_16 ?_
      exact mm_ri d_G_feed_17 ⟨rfl, Fr.rf, hw⟩
    · show mm_T X 12 0 0 k_M_feed 0 [some (.ref 71), some (.int y1), some (.int y2), some (.int y3), some (.int y4), some (.int y5)] [] μ1 _
      replace hM := hf.2.2.2 hM
      refine mm_aload d_M_feed_0 rfl ?_
      refine mm_ciN 0 d_M_feed_1 rfl ?_
      refine mm_putI d_M_feed_2 rfl (sk_o_71 hM) (Or.inl rfl) ?_
      refine mm_aload d_M_feed_5 rfl ?_
      refine mm_getP d_M_feed_6 rfl (sk_o_71 hM) (sk_p_71_2 hM) ?_
      refine mm_ciN 0 d_M_feed_9 rfl ?_
      refine mm_ialdN d_M_feed_10 (sk_a_73 hM) (by omega) (by decide) (show _ = nI n by rw [mm_sI_off (by decide), (hf.2.2.1 73 rfl).1, n3]) ?_
      refine mm_ciN 20 d_M_feed_11 rfl ?_
      refine mm_iaddN d_M_feed_13 ?_
      refine mm_ciN 600 d_M_feed_14 rfl ?_
      refine mm_icmp_leN d_M_feed_17 (by first | omega | exact ite01_lt | exact bt8_lt31 _ _ | exact godB_lt31 _ _ _ | exact pop_lt31 _ | assumption | exact b31 (hW.gp (by omega)) | exact b31 (hW.ne (by omega)) | exact b31 (hW.op (by omega)) | exact and31 (hW.gp (by omega)) | exact and31 (hW.ne (by omega)) | exact and31 (hW.op (by omega)) | exact and31 (by assumption) | exact and31r (hW.ne (by omega)) | exact and31r (hW.gp (by omega)) | exact and31r (by decide)) (by first | omega | exact ite01_lt | exact bt8_lt31 _ _ | exact godB_lt31 _ _ _ | exact pop_lt31 _ | assumption | exact b31 (hW.gp (by omega)) | exact b31 (hW.ne (by omega)) | exact b31 (hW.op (by omega)) | exact and31 (hW.gp (by omega)) | exact and31 (hW.ne (by omega)) | exact and31 (hW.op (by omega)) | exact and31 (by assumption) | exact and31r (hW.ne (by omega)) | exact and31r (hW.gp (by omega)) | exact and31r (by decide)) (fun c_17 => False.elim (by omega)) (fun c_17 => ?_)
      refine mm_ci d_M_feed_20 ?_
      exact mm_ri d_M_feed_21 ⟨rfl, Fr.rf.sI rfl⟩
  · refine pairS (nI (n + 20)) (fun μ1 => Fr scp1 μ μ1 ∧ mm_I μ1 1 5 = nI (n + 20) ∧ (∀ j, j ≠ 5 → mm_I μ1 1 j = mm_I μ 1 j) ∧ mm_I μ1 2 = app5 (mm_I μ 2) n y1 y2 y3 y4 y5) (fun μ1 h => h.1.2.2.2 hM) (d := 12) (d' := 12) (by decide) (by decide) ?_ ?_
    · show mm_T X 12 0 0 k_G_feed 0 [some (.ref 0), some (.int y1), some (.int y2), some (.int y3), some (.int y4), some (.int y5)] [] μ _
      refine mm_aload d_G_feed_0 rfl ?_
      refine mm_getP d_G_feed_1 rfl (sk_o_0 hM) (sk_p_0_0 hM) ?_
      refine mm_getIN d_G_feed_4 rfl (sk_o_1 hM) n2 ?_
      refine mm_ciN 20 d_G_feed_7 rfl ?_
      refine mm_iaddN d_G_feed_9 ?_
      refine mm_ciN 600 d_G_feed_10 rfl ?_
      refine mm_icmp_leN d_G_feed_13 (by first | omega | exact ite01_lt | exact bt8_lt31 _ _ | exact godB_lt31 _ _ _ | exact pop_lt31 _ | assumption | exact b31 (hW.gp (by omega)) | exact b31 (hW.ne (by omega)) | exact b31 (hW.op (by omega)) | exact and31 (hW.gp (by omega)) | exact and31 (hW.ne (by omega)) | exact and31 (hW.op (by omega)) | exact and31 (by assumption) | exact and31r (hW.ne (by omega)) | exact and31r (hW.gp (by omega)) | exact and31r (by decide)) (by first | omega | exact ite01_lt | exact bt8_lt31 _ _ | exact godB_lt31 _ _ _ | exact pop_lt31 _ | assumption | exact b31 (hW.gp (by omega)) | exact b31 (hW.ne (by omega)) | exact b31 (hW.op (by omega)) | exact and31 (hW.gp (by omega)) | exact and31 (hW.ne (by omega)) | exact and31 (hW.op (by omega)) | exact and31 (by assumption) | exact and31r (hW.ne (by omega)) | exact and31r (hW.gp (by omega)) | exact and31r (by decide)) (fun c_13 => ?_) (fun c_13 => False.elim (by omega))
      refine mm_aload d_G_feed_18 rfl ?_
      refine mm_getP d_G_feed_19 rfl (sk_o_0 hM) (sk_p_0_0 hM) ?_
      refine mm_iload d_G_feed_22 rfl ?_
      refine mm_v1v d_G_feed_23 (sk_o_1 hM) (sp_To_put hM n2 (by omega) (fun m1 p1 => ?_))
      replace hM := p1.1.2.2.2 hM
      refine mm_aload d_G_feed_26 rfl ?_
      refine mm_getP d_G_feed_27 rfl (sk_o_0 hM) (sk_p_0_0 hM) ?_
      refine mm_iload d_G_feed_30 rfl ?_
      refine mm_v1v d_G_feed_31 (sk_o_1 hM) (sp_To_put hM p1.2.1 (by omega) (fun m2 p2 => ?_))
      replace hM := p2.1.2.2.2 hM
      refine mm_aload d_G_feed_34 rfl ?_
      refine mm_getP d_G_feed_35 rfl (sk_o_0 hM) (sk_p_0_0 hM) ?_
      refine mm_iload d_G_feed_38 rfl ?_
      refine mm_v1v d_G_feed_39 (sk_o_1 hM) (sp_To_put hM p2.2.1 (by omega) (fun m3 p3 => ?_))
      replace hM := p3.1.2.2.2 hM
      refine mm_aload d_G_feed_42 rfl ?_
      refine mm_getP d_G_feed_43 rfl (sk_o_0 hM) (sk_p_0_0 hM) ?_
      refine mm_iload d_G_feed_46 rfl ?_
      refine mm_v1v d_G_feed_48 (sk_o_1 hM) (sp_To_put hM p3.2.1 (by omega) (fun m4 p4 => ?_))
      replace hM := p4.1.2.2.2 hM
      refine mm_aload d_G_feed_51 rfl ?_
      refine mm_getP d_G_feed_52 rfl (sk_o_0 hM) (sk_p_0_0 hM) ?_
      refine mm_iload d_G_feed_55 rfl ?_
      refine mm_v1v d_G_feed_57 (sk_o_1 hM) (sp_To_put hM p4.2.1 (by omega) (fun m5 p5 => ?_))
      replace hM := p5.1.2.2.2 hM
      refine mm_aload d_G_feed_60 rfl ?_
      refine mm_getP d_G_feed_61 rfl (sk_o_0 hM) (sk_p_0_0 hM) ?_
      refine mm_getIN d_G_feed_64 rfl (sk_o_1 hM) p5.2.1 ?_
      exact mm_ri d_G_feed_67 ⟨rfl, ((((p1.1.trans p2.1).trans p3.1).trans p4.1).trans p5.1), p5.2.1, fun j hj => by rw [p5.2.2.1 j hj, p4.2.2.1 j hj, p3.2.2.1 j hj, p2.2.2.1 j hj, p1.2.2.1 j hj], by unfold app5; rw [← (funext p1.2.2.2 : mm_I m1 2 = _), ← (funext p2.2.2.2 : mm_I m2 2 = _), ← (funext p3.2.2.2 : mm_I m3 2 = _), ← (funext p4.2.2.2 : mm_I m4 2 = _), ← (funext p5.2.2.2 : mm_I m5 2 = _)]⟩
    · rintro μ1 ⟨hf, l5, lo, lt⟩
      show mm_T X 12 0 0 k_M_feed 0 [some (.ref 71), some (.int y1), some (.int y2), some (.int y3), some (.int y4), some (.int y5)] [] μ1 _
      replace hM := hf.2.2.2 hM
      have n3' : ∀ (j : Nat) (x : Int32), mm_I (mm_sI μ1 71 j x) 73 0 = nI n := fun j x => by rw [mm_sI_off (by decide), (hf.2.2.1 73 rfl).1, n3]
      have fin : ∀ (j : Nat) (x : Int32) (m1 m2 m3 m4 m5 : mm_M), FourI (mm_sI μ1 71 j x) m1 n 4 y1 → FourI m1 m2 (n + 4) 4 y2 → FourI m2 m3 (n + 4 + 4) 4 y3 → FourI m3 m4 (n + 4 + 4 + 4) 4 y4 → FourI m4 m5 (n + 4 + 4 + 4 + 4) 4 y5 → JJ (k + 1) m5 := by
        intro j x m1 m2 m3 m4 m5 p1 p2 p3 p4 p5
        have g0 : Fr scp2 μ1 m5 := (((((Fr.rf (μ := μ1)).sI (a := 71) (j := j) (x := x) rfl).trans p1.1).trans p2.1).trans p3.1).trans p4.1 |>.trans p5.1
        have g1 : Fr scP μ m5 := (hf.sub (fun a h => by unfold scp1 at h; unfold scP; simp at h ⊢; omega)).trans (g0.sub (fun a h => by unfold scp2 at h; unfold scP; simp at h ⊢; omega))
        have t72 : mm_I m5 72 = app5 (mm_I μ 72) n y1 y2 y3 y4 y5 := by
          have b1 : mm_I m1 72 = app (mm_I μ 72) n 4 y1 := by rw [← (hf.2.2.1 72 rfl).1, ← mm_sI_off (μ := μ1) (a := 71) (j := j) (x := x) (show 72 ≠ 71 by decide)]; exact funext p1.2.2.2
          unfold app5
          rw [← b1, ← (funext p2.2.2.2 : mm_I m2 72 = _), ← (funext p3.2.2.2 : mm_I m3 72 = _), ← (funext p4.2.2.2 : mm_I m4 72 = _), ← (funext p5.2.2.2 : mm_I m5 72 = _)]
        have t73 : ∀ i, i ≠ 0 → mm_I m5 73 i = mm_I μ 73 i := fun i hi => by rw [p5.2.2.1 i hi, p4.2.2.1 i hi, p3.2.2.1 i hi, p2.2.2.1 i hi, p1.2.2.1 i hi, mm_sI_off (by decide), (hf.2.2.1 73 rfl).1]
        refine hJ.tape g1 ⟨n + 20, by omega, by rw [(g0.2.2.1 1 rfl).1]; exact l5, p5.2.1, fun i hi => ?_⟩ (fun i => ?_) ?_ ?_ (fun i hi => ?_) (fun i hi => ⟨t73 i (by omega), ?_, ?_⟩) ((hw.fr hf rfl rfl).fr g0 rfl rfl)
        · rw [(g0.2.2.1 2 rfl).1, lt, t72]
          unfold app5
          refine app_eq (fun j hj => app_eq (fun j hj => app_eq (fun j hj => app_eq (fun j hj => app_eq (fun j hj => ?_) (Nat.le_refl _) (by omega)) (Nat.le_refl _) (by omega)) (Nat.le_refl _) (by omega)) (Nat.le_refl _) (by omega)) (m := n + 20) (by omega) hi
          have := n4 j hj
          rw [show 600 * 0 + j = j by omega] at this
          exact this
        · rw [(g0.2.2.1 2 rfl).1, lt]
          exact app_fit (app_fit (app_fit (app_fit (app_fit hb)))) i
        · rw [(g0.2.2.1 1 rfl).1, lo 6 (by decide), (g0.2.2.1 74 rfl).1, (hf.2.2.1 74 rfl).1]; exact h6
        · rw [(g0.2.2.1 1 rfl).1, lo 7 (by decide), (g0.2.2.1 75 rfl).1, (hf.2.2.1 75 rfl).1]; exact h7
        · rw [t72]; unfold app5; rw [app_out (by omega), app_out (by omega), app_out (by omega), app_out (by omega), app_out (by omega)]
        · rw [(g0.2.2.1 74 rfl).1, (hf.2.2.1 74 rfl).1]
        · rw [(g0.2.2.1 75 rfl).1, (hf.2.2.1 75 rfl).1]
      refine mm_aload d_M_feed_0 rfl ?_
      refine mm_ciN 0 d_M_feed_1 rfl ?_
      refine mm_putI d_M_feed_2 rfl (sk_o_71 hM) (Or.inl rfl) ?_
      refine mm_aload d_M_feed_5 rfl ?_
      refine mm_getP d_M_feed_6 rfl (sk_o_71 hM) (sk_p_71_2 hM) ?_
      refine mm_ciN 0 d_M_feed_9 rfl ?_
      refine mm_ialdN d_M_feed_10 (sk_a_73 hM) (by omega) (by decide) (show _ = nI n from n3' _ _) ?_
      refine mm_ciN 20 d_M_feed_11 rfl ?_
      refine mm_iaddN d_M_feed_13 ?_
      refine mm_ciN 600 d_M_feed_14 rfl ?_
      refine mm_icmp_leN d_M_feed_17 (by first | omega | exact ite01_lt | exact bt8_lt31 _ _ | exact godB_lt31 _ _ _ | exact pop_lt31 _ | assumption | exact b31 (hW.gp (by omega)) | exact b31 (hW.ne (by omega)) | exact b31 (hW.op (by omega)) | exact and31 (hW.gp (by omega)) | exact and31 (hW.ne (by omega)) | exact and31 (hW.op (by omega)) | exact and31 (by assumption) | exact and31r (hW.ne (by omega)) | exact and31r (hW.gp (by omega)) | exact and31r (by decide)) (by first | omega | exact ite01_lt | exact bt8_lt31 _ _ | exact godB_lt31 _ _ _ | exact pop_lt31 _ | assumption | exact b31 (hW.gp (by omega)) | exact b31 (hW.ne (by omega)) | exact b31 (hW.op (by omega)) | exact and31 (hW.gp (by omega)) | exact and31 (hW.ne (by omega)) | exact and31 (hW.op (by omega)) | exact and31 (by assumption) | exact and31r (hW.ne (by omega)) | exact and31r (hW.gp (by omega)) | exact and31r (by decide)) (fun c_17 => ?_) (fun c_17 => False.elim (by omega))
      refine mm_aload d_M_feed_22 rfl ?_
      refine mm_iload d_M_feed_23 rfl ?_
      refine mm_v1v d_M_feed_24 (sk_o_71 hM) (sp_M_four hM (n3' _ _) (by omega) (fun m1 p1 => ?_))
      replace hM := p1.1.2.2.2 hM
      refine mm_aload d_M_feed_27 rfl ?_
      refine mm_iload d_M_feed_28 rfl ?_
      refine mm_v1v d_M_feed_29 (sk_o_71 hM) (sp_M_four hM p1.2.1 (by omega) (fun m2 p2 => ?_))
      replace hM := p2.1.2.2.2 hM
      refine mm_aload d_M_feed_32 rfl ?_
      refine mm_iload d_M_feed_33 rfl ?_
      refine mm_v1v d_M_feed_34 (sk_o_71 hM) (sp_M_four hM p2.2.1 (by omega) (fun m3 p3 => ?_))
      replace hM := p3.1.2.2.2 hM
      refine mm_aload d_M_feed_37 rfl ?_
      refine mm_iload d_M_feed_38 rfl ?_
      refine mm_v1v d_M_feed_40 (sk_o_71 hM) (sp_M_four hM p3.2.1 (by omega) (fun m4 p4 => ?_))
      replace hM := p4.1.2.2.2 hM
      refine mm_aload d_M_feed_43 rfl ?_
      refine mm_iload d_M_feed_44 rfl ?_
      refine mm_v1v d_M_feed_46 (sk_o_71 hM) (sp_M_four hM p4.2.1 (by omega) (fun m5 p5 => ?_))
      replace hM := p5.1.2.2.2 hM
      refine mm_aload d_M_feed_49 rfl ?_
      refine mm_getP d_M_feed_50 rfl (sk_o_71 hM) (sk_p_71_2 hM) ?_
      refine mm_ciN 0 d_M_feed_53 rfl ?_
      refine mm_ialdN d_M_feed_54 (sk_a_73 hM) (by omega) (by decide) p5.2.1 ?_
      exact mm_ri d_M_feed_55 ⟨rfl, fin _ _ _ _ _ _ _ p1 p2 p3 p4 p5⟩
