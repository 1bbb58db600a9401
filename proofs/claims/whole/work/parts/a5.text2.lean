/-! pairs: text -/
def scQ (a : Nat) : Bool := a == 1 || (36 ≤ a && a ≤ 52) || a == 71 || a == 73 || a == 74 || a == 75 || a == 80 || a == 81
theorem text_fault {k : Nat} {μ ν : mm_M} (hJ : JJ k μ) (hf : Fr scQ μ ν) (h5 : mm_I ν 1 5 = nI 0) (h73 : mm_I ν 73 0 = nI 0) (h6 : mm_I ν 1 6 = mm_I ν 74 0) (h7 : mm_I ν 1 7 = mm_I ν 75 0) (k7 : ∀ j, 1 ≤ j → mm_I ν 73 j = mm_I μ 73 j ∧ mm_I ν 74 j = mm_I μ 74 j ∧ mm_I ν 75 j = mm_I μ 75 j) : JJ (k + 1) ν := by
  have hs : ∀ a, scQ a = true → scP a = true := fun a z => by unfold scQ at z; unfold scP; simp at z ⊢; omega
  exact hJ.tape (hf.sub hs) ⟨0, by decide, h5, h73, fun j hj => absurd hj (Nat.not_lt_zero j)⟩ (fun j => by rw [(hf.2.2.1 2 rfl).1]; exact hJ.2.1.fit j) h6 h7 (fun j _ => by rw [(hf.2.2.1 72 rfl).1]) k7 (hJ.2.2.2.up.fr hf rfl rfl)
def scV (a : Nat) : Bool := a == 1 || (3 ≤ a && a ≤ 34) || (36 ≤ a && a ≤ 52) || a == 71 || (73 ≤ a && a ≤ 81)
def CCl (μ : mm_M) : Prop := ∃ c : Nat, c ≤ 2 ∧ mm_I μ (1 + 33) 0 = nI c ∧ mm_I μ 76 (3 * 0) = nI c ∧ ∀ i, i < c → CoR μ (1 + 3 + 7 * i) (88 * 0 + 44 * i)
def YCl (μ : mm_M) : Prop := ∃ c : Nat, c ≤ 2 ∧ mm_I μ (1 + 33) 1 = nI c ∧ mm_I μ 76 (3 * 0 + 1) = nI c ∧ ∀ i, i < c → YeR μ (1 + 18 + 4 * i) (242 * 0 + 121 * i)
def LCl (μ : mm_M) : Prop := ∃ c : Nat, c ≤ 2 ∧ mm_I μ (1 + 33) 2 = nI c ∧ mm_I μ 76 (3 * 0 + 2) = nI c ∧ ∀ i, i < c → LoR μ (1 + 27 + 3 * i) (34 * 0 + 17 * i)
theorem CCl.keep {μ ν : mm_M} (h : CCl μ) (e34 : mm_I ν 34 0 = mm_I μ 34 0) (e76 : mm_I ν 76 0 = mm_I μ 76 0) (e : Eq2 μ ν 4 17) (e77 : mm_I ν 77 = mm_I μ 77) : CCl ν := by
  obtain ⟨c, c1, c2, c3, c4⟩ := h
  exact ⟨c, c1, e34.trans c2, e76.trans c3, fun i hi => (c4 i hi).eq (e.sub (by omega) (by omega)) e77⟩
theorem YCl.keep {μ ν : mm_M} (h : YCl μ) (e34 : mm_I ν 34 1 = mm_I μ 34 1) (e76 : mm_I ν 76 1 = mm_I μ 76 1) (e : Eq2 μ ν 19 26) (e77 : mm_I ν 78 = mm_I μ 78) : YCl ν := by
  obtain ⟨c, c1, c2, c3, c4⟩ := h
  exact ⟨c, c1, e34.trans c2, e76.trans c3, fun i hi => (c4 i hi).eq (e.sub (by omega) (by omega)) e77⟩
theorem LCl.keep {μ ν : mm_M} (h : LCl μ) (e34 : mm_I ν 34 2 = mm_I μ 34 2) (e76 : mm_I ν 76 2 = mm_I μ 76 2) (e : Eq2 μ ν 28 33) (e77 : mm_I ν 79 = mm_I μ 79) : LCl ν := by
  obtain ⟨c, c1, c2, c3, c4⟩ := h
  exact ⟨c, c1, e34.trans c2, e76.trans c3, fun i hi => (c4 i hi).eq (e.sub (by omega) (by omega)) e77⟩
theorem Eq2.cyC {μ ν : mm_M} {a : Nat} (e : Eq2 μ ν a (a + 6)) : CyC μ a ν a := by
  refine ⟨?_, ?_, fun j hj => ⟨?_, ?_, ?_⟩, fun j hj => ⟨?_, ?_, ?_⟩⟩ <;> rw [e.i (by omega) (by omega)]
theorem Eq2.cyY {μ ν : mm_M} {a : Nat} (e : Eq2 μ ν a (a + 3)) : CyY μ a ν a := by
  refine ⟨?_, fun j hj => ⟨?_, ?_, ?_⟩⟩ <;> rw [e.i (by omega) (by omega)]
theorem Eq2.cyL {μ ν : mm_M} {a : Nat} (e : Eq2 μ ν a (a + 2)) : CyL μ a ν a := by
  refine ⟨?_, fun j hj => ⟨?_, ?_⟩⟩ <;> rw [e.i (by omega) (by omega)]
theorem CCl.new {μ ν : mm_M} {c i : Nat} (c2 : c ≤ 2) (hi : i ≤ c) (hi2 : i < 2) (h : ∀ e, e < c → CoR μ (1 + 3 + 7 * e) (88 * 0 + 44 * e)) (e34 : mm_I ν 34 0 = nI (max c (i + 1))) (e76 : mm_I ν 76 0 = nI (max c (i + 1))) (hE : ∀ e, e < 2 → e ≠ i → Eq2 μ ν (1 + 3 + 7 * e) (1 + 3 + 7 * e + 6)) (hM : SK ν) (e77 : ∀ j, (j < 44 * i ∨ 44 * i + 44 ≤ j) → mm_I ν 77 j = mm_I μ 77 j) (hN : CoR ν (1 + 3 + 7 * i) (88 * 0 + 44 * i)) : CCl ν := by
  refine ⟨max c (i + 1), by omega, e34, e76, fun e he => ?_⟩
  by_cases z : e = i
  · rw [z]; exact hN
  · exact (h e (by omega)).mv ((sk_t hM).co (by omega)) (hE e (by omega) z).cyC (fun j hj => e77 _ (by omega))
theorem YCl.new {μ ν : mm_M} {c i : Nat} (c2 : c ≤ 2) (hi : i ≤ c) (hi2 : i < 2) (h : ∀ e, e < c → YeR μ (1 + 18 + 4 * e) (242 * 0 + 121 * e)) (e34 : mm_I ν 34 1 = nI (max c (i + 1))) (e76 : mm_I ν 76 1 = nI (max c (i + 1))) (hE : ∀ e, e < 2 → e ≠ i → Eq2 μ ν (1 + 18 + 4 * e) (1 + 18 + 4 * e + 3)) (hM : SK ν) (e77 : ∀ j, (j < 121 * i ∨ 121 * i + 121 ≤ j) → mm_I ν 78 j = mm_I μ 78 j) (hN : YeR ν (1 + 18 + 4 * i) (242 * 0 + 121 * i)) : YCl ν := by
  refine ⟨max c (i + 1), by omega, e34, e76, fun e he => ?_⟩
  by_cases z : e = i
  · rw [z]; exact hN
  · exact (h e (by omega)).mv ((sk_t hM).ye (by omega)) (hE e (by omega) z).cyY (fun j hj => e77 _ (by omega))
theorem LCl.new {μ ν : mm_M} {c i : Nat} (c2 : c ≤ 2) (hi : i ≤ c) (hi2 : i < 2) (h : ∀ e, e < c → LoR μ (1 + 27 + 3 * e) (34 * 0 + 17 * e)) (e34 : mm_I ν 34 2 = nI (max c (i + 1))) (e76 : mm_I ν 76 2 = nI (max c (i + 1))) (hE : ∀ e, e < 2 → e ≠ i → Eq2 μ ν (1 + 27 + 3 * e) (1 + 27 + 3 * e + 2)) (hM : SK ν) (e77 : ∀ j, (j < 17 * i ∨ 17 * i + 17 ≤ j) → mm_I ν 79 j = mm_I μ 79 j) (hN : LoR ν (1 + 27 + 3 * i) (34 * 0 + 17 * i)) : LCl ν := by
  refine ⟨max c (i + 1), by omega, e34, e76, fun e he => ?_⟩
  by_cases z : e = i
  · rw [z]; exact hN
  · exact (h e (by omega)).mv ((sk_t hM).lo (by omega)) (hE e (by omega) z).cyL (fun j hj => e77 _ (by omega))
theorem text_told {k : Nat} {μ ν : mm_M} (hJ : JJ k μ) (hf : Fr scV μ ν) (h5 : mm_I ν 1 5 = nI 0) (h73 : mm_I ν 73 0 = nI 0) (h6 : mm_I ν 1 6 = mm_I ν 74 0) (h7 : mm_I ν 1 7 = mm_I ν 75 0) (k7 : ∀ j, 1 ≤ j → mm_I ν 73 j = mm_I μ 73 j ∧ mm_I ν 74 j = mm_I μ 74 j ∧ mm_I ν 75 j = mm_I μ 75 j) (e76 : ∀ j, 3 ≤ j → mm_I ν 76 j = mm_I μ 76 j) (e77 : ∀ j, 88 ≤ j → mm_I ν 77 j = mm_I μ 77 j) (e78 : ∀ j, 242 ≤ j → mm_I ν 78 j = mm_I μ 78 j) (e79 : ∀ j, 34 ≤ j → mm_I ν 79 j = mm_I μ 79 j) (hc : CCl ν) (hy : YCl ν) (hl : LCl ν) : JJ (k + 1) ν := by
  have hs : ∀ a, scV a = true → scT a = true := fun a z => by unfold scV at z; unfold scT; simp at z ⊢; omega
  have e72 := (hf.2.2.1 72 rfl).1
  have hM := hf.2.2.2 hJ.1
  refine hJ.told (hf.sub hs) (fun e e1 e2 => ⟨fun j hj _ => by rw [e72], (k7 e e1).1, (k7 e e1).2.1, (k7 e e1).2.2, fun j hj => e76 _ (by omega), fun j hj => e77 _ (by omega), fun j hj => e78 _ (by omega), fun j hj => e79 _ (by omega)⟩) ⟨sk_t hM, ⟨0, by decide, h5, h73, fun j hj => absurd hj (Nat.not_lt_zero j)⟩, fun j => ?_, h6, h7, hc, hy, hl⟩ (hJ.2.2.2.up.fr hf rfl rfl)
  rw [show 1 + 1 = 2 from rfl, (hf.2.2.1 2 rfl).1]
  exact hJ.2.1.fit j
/-- a year's row is well formed -/
theorem WfY_t {t : Nat → Nat} (h : WfT 1 t) {j : Nat} (hj : j < t 0) : WfY (nI (t (1 + 3 * j))) (yv1 t j) (yv2 t j) := by
  obtain ⟨h1, h2, h3, h4⟩ := (h.2.1 rfl).2 j hj
  unfold yv1 yv2
  have hk : t (1 + 3 * j) = 0 ∨ t (1 + 3 * j) = 1 ∨ t (1 + 3 * j) = 2 ∨ t (1 + 3 * j) = 3 ∨ t (1 + 3 * j) = 4 := by omega
  rcases hk with e | e | e | e | e
  · rw [if_pos (by omega), if_pos (by omega), e]
    exact Or.inl ⟨Or.inl rfl, _, _, (h2 (by omega)).1, (h2 (by omega)).2, rfl, rfl⟩
  · rw [if_pos (by omega), if_pos (by omega), e]
    exact Or.inl ⟨Or.inr rfl, _, _, (h2 (by omega)).1, (h2 (by omega)).2, rfl, rfl⟩
  · rw [if_pos (by omega), if_neg (by omega), e]
    exact Or.inr (Or.inl ⟨rfl, _, h3 e, rfl, rfl⟩)
  · rw [if_pos (by omega), if_neg (by omega), e]
    exact Or.inr (Or.inr (Or.inl ⟨rfl, _, h4 e, rfl, rfl⟩))
  · rw [if_neg (by omega), if_neg (by omega), e]
    exact Or.inr (Or.inr (Or.inr ⟨rfl, rfl, rfl⟩))
/-- the three sorts of what was told, class and model -/
theorem tell0 {ν μr ξ : mm_M} {i : Nat} {t : Nat → Nat} (hM : SK ν) (hi : i < 2) (hC : RC 0 t μr) (hW : WfT 0 t) (cy : CyC μr 37 ν (4 + 7 * i)) (hR : RMs 0 t ξ) (em : ∀ j, j < 44 → mm_I ν 77 (44 * i + j) = mm_I ξ 80 j) : CoR ν (1 + 3 + 7 * i) (88 * 0 + 44 * i) := by
  refine ⟨DT t, (hW.1 rfl).1, (hC.1 rfl).1.mv ((sk_t hM).co hi) cy, ?_⟩
  rw [show 88 * 0 + 44 * i = 44 * i by omega]
  have hr := (hR.1 rfl).1
  have g : ∀ j, j < 44 → mm_I ν 77 (44 * i + j) = nI (t j) := fun j hj => (em j hj).trans (hr j hj)
  exact ⟨g 0 (by decide), g 1 (by decide), fun j hj => ⟨g _ (by omega), g _ (by omega), g _ (by omega)⟩, fun j hj => ⟨g _ (by omega), g _ (by omega), g _ (by omega)⟩⟩
theorem tell1 {ν μr ξ : mm_M} {i : Nat} {t : Nat → Nat} (hM : SK ν) (hi : i < 2) (hC : RC 1 t μr) (hW : WfT 1 t) (cy : CyY μr 44 ν (19 + 4 * i)) (hR : RMs 1 t ξ) (em : ∀ j, j < 121 → mm_I ν 78 (121 * i + j) = mm_I ξ 80 j) : YeR ν (1 + 18 + 4 * i) (242 * 0 + 121 * i) := by
  obtain ⟨c1, c2⟩ := hC.2.1 rfl
  obtain ⟨r1, r2⟩ := hR.2.1 rfl
  have hw := hW.2.1 rfl
  refine ⟨(sk_t hM).ye hi, t 0, hw.1, ?_, ?_, fun j hj => ?_⟩
  · exact cy.1.trans c1
  · have := em 0 (by decide)
    rw [show 242 * 0 + 121 * i = 121 * i + 0 by omega, this]
    exact r1
  · obtain ⟨q1, q2, q3⟩ := cy.2 j (by omega)
    obtain ⟨d1, d2, d3⟩ := c2 j hj
    obtain ⟨p1, p2, p3⟩ := r2 j hj
    have a1 : mm_I ν (1 + 18 + 4 * i + 1) j = nI (t (1 + 3 * j)) := q1.trans d1
    have a2 : mm_I ν (1 + 18 + 4 * i + 2) j = yv1 t j := q2.trans d2
    have a3 : mm_I ν (1 + 18 + 4 * i + 3) j = yv2 t j := q3.trans d3
    have b1 := em (1 + 3 * j) (by omega)
    have b2 := em (1 + 3 * j + 1) (by omega)
    have b3 := em (1 + 3 * j + 2) (by omega)
    rw [a1, a2, a3, show 242 * 0 + 121 * i = 121 * i by omega, b1, b2, b3, p1, p2, p3]
    exact ⟨rfl, rfl, rfl, WfY_t hW hj⟩
theorem tell2 {ν μr ξ : mm_M} {i : Nat} {t : Nat → Nat} (hM : SK ν) (hi : i < 2) (hC : RC 2 t μr) (hW : WfT 2 t) (cy : CyL μr 48 ν (28 + 3 * i)) (hR : RMs 2 t ξ) (em : ∀ j, j < 17 → mm_I ν 79 (17 * i + j) = mm_I ξ 80 j) : LoR ν (1 + 27 + 3 * i) (34 * 0 + 17 * i) := by
  obtain ⟨c1, c2⟩ := hC.2.2.1 rfl
  obtain ⟨r1, r2⟩ := hR.2.2 rfl
  have hw := hW.2.2 rfl
  refine ⟨(sk_t hM).lo hi, t 0, hw.1, ?_, ?_, fun j hj => ?_⟩
  · exact cy.1.trans c1
  · have := em 0 (by decide)
    rw [show 34 * 0 + 17 * i = 17 * i + 0 by omega, this]
    exact r1
  · obtain ⟨q1, q2⟩ := cy.2 j (by omega)
    obtain ⟨d1, d2⟩ := c2 j hj
    obtain ⟨p1, p2⟩ := r2 j hj
    obtain ⟨w1, w2⟩ := hw.2 j hj
    have a1 : mm_I ν (1 + 27 + 3 * i + 1) j = nI (t (1 + 2 * j)) := q1.trans d1
    have a2 : mm_I ν (1 + 27 + 3 * i + 2) j = nI (t (1 + 2 * j + 1)) := q2.trans d2
    have b1 := em (1 + 2 * j) (by omega)
    have b2 := em (1 + 2 * j + 1) (by omega)
    rw [a1, a2, show 34 * 0 + 17 * i = 17 * i by omega, b1, b2, p1, p2]
    exact ⟨rfl, rfl, ⟨_, w1, rfl⟩, _, w2, rfl⟩
