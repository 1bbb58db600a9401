/-! pairs: text -/
def mx5 (μ : mm_M) (n : Nat) : mm_M := mm_sI (mm_sI (mm_sI (mm_sI (mm_sI μ 71 0 (nI 0)) 71 10 (nI n)) 73 0 (nI 0)) 74 0 (nI 0)) 75 0 (-1)
theorem mx5_off {μ : mm_M} {n a : Nat} (h1 : a ≠ 71) (h2 : a ≠ 73) (h3 : a ≠ 74) (h4 : a ≠ 75) : mm_I (mx5 μ n) a = mm_I μ a := by unfold mx5; rw [mm_sI_off h4, mm_sI_off h3, mm_sI_off h2, mm_sI_off h1, mm_sI_off h1]
theorem mx5_k {μ : mm_M} {n : Nat} : (mm_I (mx5 μ n) 73 0 = nI 0 ∧ mm_I (mx5 μ n) 74 0 = nI 0 ∧ mm_I (mx5 μ n) 75 0 = -1 ∧ mm_I (mx5 μ n) 71 10 = nI n) ∧ ∀ j, 1 ≤ j → mm_I (mx5 μ n) 73 j = mm_I μ 73 j ∧ mm_I (mx5 μ n) 74 j = mm_I μ 74 j ∧ mm_I (mx5 μ n) 75 j = mm_I μ 75 j := by
  refine ⟨⟨?_, ?_, ?_, ?_⟩, fun j hj => ⟨?_, ?_, ?_⟩⟩
  · unfold mx5; rw [mm_sI_off (by decide), mm_sI_off (by decide), mm_I_sI, if_pos ⟨rfl, rfl⟩]
  · unfold mx5; rw [mm_sI_off (by decide), mm_I_sI, if_pos ⟨rfl, rfl⟩]
  · unfold mx5; rw [mm_I_sI, if_pos ⟨rfl, rfl⟩]
  · unfold mx5; rw [mm_sI_off (by decide), mm_sI_off (by decide), mm_sI_off (by decide), mm_I_sI, if_pos ⟨rfl, rfl⟩]
  · unfold mx5; rw [mm_sI_off (by decide), mm_sI_off (by decide), mm_I_sI, if_neg (by omega), mm_sI_off (by decide), mm_sI_off (by decide)]
  · unfold mx5; rw [mm_sI_off (by decide), mm_I_sI, if_neg (by omega), mm_sI_off (by decide), mm_sI_off (by decide), mm_sI_off (by decide)]
  · unfold mx5; rw [mm_I_sI, if_neg (by omega), mm_sI_off (by decide), mm_sI_off (by decide), mm_sI_off (by decide), mm_sI_off (by decide)]
theorem mx5_fr {μ : mm_M} {n : Nat} {S : Nat → Bool} (h1 : S 71 = true) (h2 : S 73 = true) (h3 : S 74 = true) (h4 : S 75 = true) : Fr S μ (mx5 μ n) := ((((Fr.rf.sI h1).sI h1).sI h2).sI h3).sI h4
/-- the call is refused -/
theorem text_no {k : Nat} {μ : mm_M} (hJ : JJ k μ) (n : Nat) : JJ (k + 1) (mx5 (mm_sI (mm_sI (mm_sI μ 1 5 (nI 0)) 1 6 (nI 0)) 1 7 (-1)) n) := by
  obtain ⟨⟨k1, k2, k3, -⟩, k4⟩ := mx5_k (μ := mm_sI (mm_sI (mm_sI μ 1 5 (nI 0)) 1 6 (nI 0)) 1 7 (-1)) (n := n)
  have e1 := mx5_off (μ := mm_sI (mm_sI (mm_sI μ 1 5 (nI 0)) 1 6 (nI 0)) 1 7 (-1)) (n := n) (a := 1) (by decide) (by decide) (by decide) (by decide)
  refine text_fault hJ ((((Fr.rf.sI rfl).sI rfl).sI rfl).trans (mx5_fr rfl rfl rfl rfl)) ?_ k1 ?_ ?_ (fun j hj => ?_)
  · rw [e1, mm_I_sI, if_neg (by decide), mm_I_sI, if_neg (by decide), mm_I_sI, if_pos ⟨rfl, rfl⟩]
  · rw [e1, k2, mm_I_sI, if_neg (by decide), mm_I_sI, if_pos ⟨rfl, rfl⟩]
  · rw [e1, k3, mm_I_sI, if_pos ⟨rfl, rfl⟩]
  · obtain ⟨a, b, c⟩ := k4 j hj
    rw [a, b, c, mm_sI_off (by decide), mm_sI_off (by decide), mm_sI_off (by decide), mm_sI_off (by decide), mm_sI_off (by decide), mm_sI_off (by decide), mm_sI_off (by decide), mm_sI_off (by decide), mm_sI_off (by decide)]
    exact ⟨rfl, rfl, rfl⟩
theorem JJ.cnt {k : Nat} {μ : mm_M} (h : JJ k μ) {s : Nat} (hs : s < 3) : ∃ c : Nat, c ≤ 2 ∧ mm_I μ 34 s = nI c ∧ mm_I μ 76 s = nI c ∧ (s = 0 → ∀ i, i < c → CoR μ (1 + 3 + 7 * i) (88 * 0 + 44 * i)) ∧ (s = 1 → ∀ i, i < c → YeR μ (1 + 18 + 4 * i) (242 * 0 + 121 * i)) ∧ (s = 2 → ∀ i, i < c → LoR μ (1 + 27 + 3 * i) (34 * 0 + 17 * i)) := by
  obtain ⟨-, ⟨-, -, -, -, -, ⟨c, c1, c2, c3, c4⟩, ⟨d, d1, d2, d3, d4⟩, ⟨f, f1, f2, f3, f4⟩⟩, -⟩ := h
  have h3 : s = 0 ∨ s = 1 ∨ s = 2 := by omega
  rcases h3 with rfl | rfl | rfl
  · exact ⟨c, c1, c2, c3, fun _ => c4, fun z => absurd z (by decide), fun z => absurd z (by decide)⟩
  · exact ⟨d, d1, d2, d3, fun z => absurd z (by decide), fun _ => d4, fun z => absurd z (by decide)⟩
  · exact ⟨f, f1, f2, f3, fun z => absurd z (by decide), fun z => absurd z (by decide), fun _ => f4⟩
theorem JJ.cls {k : Nat} {μ : mm_M} (h : JJ k μ) : CCl μ ∧ YCl μ ∧ LCl μ := ⟨h.2.1.2.2.2.2.2.1, h.2.1.2.2.2.2.2.2.1, h.2.1.2.2.2.2.2.2.2⟩
/-- the text has a fault -/
theorem text_bad {k s n c i : Nat} {u : Nat → Nat} {μ μ1 ν : mm_M} (hJ : JJ k μ) (h : TxA s u n c i μ μ1) (hr : (rdF s u n).1 ≠ 0) (f : Fr scTx (mx5 μ1 n) ν) (k4 : ∀ j, 1 ≤ j → mm_I ν 74 j = mm_I (mx5 μ1 n) 74 j ∧ mm_I ν 75 j = mm_I (mx5 μ1 n) 75 j) (e74 : mm_I ν 74 0 = nI (rdF s u n).1) (e75 : mm_I ν 75 0 = if (rdF s u n).1 = 0 then -1 else nI (rdF s u n).2.1) : JJ (k + 1) ν := by
  obtain ⟨μr, ⟨F, h5, h6, h7⟩, hb, -⟩ := h
  have e := hb hr
  subst e
  obtain ⟨⟨q1, q2, q3, -⟩, q4⟩ := mx5_k (μ := μ1) (n := n)
  have e1 : mm_I ν 1 = mm_I μ1 1 := by rw [(f.2.2.1 1 rfl).1]; exact mx5_off (by decide) (by decide) (by decide) (by decide)
  have e73 : mm_I ν 73 = mm_I (mx5 μ1 n) 73 := (f.2.2.1 73 rfl).1
  refine text_fault hJ (((F.sub (fun a z => by unfold scRd at z; unfold scQ; simp at z ⊢; omega)).trans (mx5_fr rfl rfl rfl rfl)).trans (f.sub (fun a z => by unfold scTx at z; unfold scQ; simp at z ⊢; omega))) ?_ ?_ ?_ ?_ (fun j hj => ?_)
  · rw [e1]; exact h5
  · rw [e73]; exact q1
  · rw [e1, e74]; exact h6
  · rw [e1, e75]; exact h7
  · rw [e73, (k4 j hj).1, (k4 j hj).2, (q4 j hj).1, (q4 j hj).2.1, (q4 j hj).2.2, (F.2.2.1 73 rfl).1, (F.2.2.1 74 rfl).1, (F.2.2.1 75 rfl).1]
    exact ⟨rfl, rfl, rfl⟩
theorem text_ok0 {k n c i : Nat} {u : Nat → Nat} {μ μ1 ν ξ : mm_M} (hJ : JJ k μ) (h : TxA 0 u n c i μ μ1) (hr : (rdF 0 u n).1 = 0) (f : Fr scTx (mx5 μ1 n) ν) (k4 : ∀ j, 1 ≤ j → mm_I ν 74 j = mm_I (mx5 μ1 n) 74 j ∧ mm_I ν 75 j = mm_I (mx5 μ1 n) 75 j) (e74 : mm_I ν 74 0 = nI (rdF 0 u n).1) (e75 : mm_I ν 75 0 = if (rdF 0 u n).1 = 0 then -1 else nI (rdF 0 u n).2.1) (hRM : RMs 0 (rdF 0 u n).2.2 ν) (hc2 : c ≤ 2) (hic : i ≤ c) (hi : i < 2) (hcl : ∀ e, e < c → CoR μ (1 + 3 + 7 * e) (88 * 0 + 44 * e)) (g : Fr (fun x => x == 77) (mm_sI ν 76 0 (nI (max c (i + 1)))) ξ) (g1 : ∀ j, j < 44 → mm_I ξ 77 (44 * i + j) = mm_I ν 80 j) (g2 : ∀ j, (j < 44 * i ∨ 44 * i + 44 ≤ j) → mm_I ξ 77 j = mm_I ν 77 j) : JJ (k + 1) ξ := by
  obtain ⟨μr, ⟨F, h5, h6, h7⟩, -, hb⟩ := h
  obtain ⟨hC, hW, hK⟩ := hb hr
  obtain ⟨η, fk, -, cy, rfl⟩ := hK.1 rfl
  obtain ⟨⟨q1, q2, q3, -⟩, q4⟩ := mx5_k (μ := mm_sI η 34 0 (nI (max c (i + 1)))) (n := n)
  have sx : ∀ a, scR (4 + 7 * i) 6 a = true → scV a = true := fun a z => by have := scR_o z; unfold scV; simp; omega
  have FF : Fr scV μ ξ := (((((F.sub (fun a z => by unfold scRd at z; unfold scV; simp at z ⊢; omega)).trans (fk.sub sx)).sI rfl).trans (mx5_fr rfl rfl rfl rfl)).trans (f.sub (fun a z => by unfold scTx at z; unfold scV; simp at z ⊢; omega))).trans ((Fr.rf.sI rfl).trans (g.sub (fun a z => by simp at z; subst z; rfl)))
  have hMx := FF.2.2.2 hJ.1
  have x0 : ∀ a, a ≠ 77 → a ≠ 76 → mm_I ξ a = mm_I ν a := fun a z1 z2 => by rw [(g.2.2.1 a (by simp; exact z1)).1, mm_sI_off z2]
  have x1 : ∀ a, a ≤ 70 → mm_I ξ a = mm_I (mm_sI η 34 0 (nI (max c (i + 1)))) a := fun a z => by rw [x0 a (by omega) (by omega), (f.2.2.1 a (by unfold scTx; simp; omega)).1, mx5_off (by omega) (by omega) (by omega) (by omega)]
  have x2 : ∀ a, a ≤ 70 → a ≠ 34 → mm_I ξ a = mm_I η a := fun a z z2 => by rw [x1 a z, mm_sI_off z2]
  have xc : ∀ a, (2 ≤ a ∧ a ≤ 33) → scR (4 + 7 * i) 6 a = false → mm_I ξ a = mm_I μ a := fun a z z2 => by rw [x2 a (by omega) (by omega), (fk.2.2.1 a z2).1, (F.2.2.1 a (by unfold scRd; simp; omega)).1]
  have y1 : mm_I ξ 1 = mm_I μr 1 := by rw [x2 1 (by decide) (by decide), (fk.2.2.1 1 (scR_f (by omega))).1]
  have y34 : ∀ j, mm_I ξ 34 j = if j = 0 then nI (max c (i + 1)) else mm_I μ 34 j := fun j => by
    rw [x1 34 (by decide), mm_I_sI]
    by_cases z : j = 0
    · rw [if_pos z, if_pos ⟨rfl, z⟩]
    · rw [if_neg z, if_neg (fun w => z w.2), (fk.2.2.1 34 (scR_f (by omega))).1, (F.2.2.1 34 rfl).1]
  have ymr : ∀ a, 72 ≤ a → a ≤ 79 → mm_I (mm_sI η 34 0 (nI (max c (i + 1)))) a = mm_I μ a := fun a z1 z2 => by rw [mm_sI_off (by omega), (fk.2.2.1 a (scR_f (by omega))).1, (F.2.2.1 a (by unfold scRd; simp; omega)).1]
  have yk : ∀ a, (a = 72 ∨ (76 ≤ a ∧ a ≤ 79)) → mm_I ν a = mm_I μ a := fun a z => by rw [(f.2.2.1 a (by unfold scTx; simp; omega)).1, mx5_off (by omega) (by omega) (by omega) (by omega), ymr a (by omega) (by omega)]
  have y76 : ∀ j, mm_I ξ 76 j = if j = 0 then nI (max c (i + 1)) else mm_I μ 76 j := fun j => by
    rw [(g.2.2.1 76 rfl).1, mm_I_sI]
    by_cases z : j = 0
    · rw [if_pos z, if_pos ⟨rfl, z⟩]
    · rw [if_neg z, if_neg (fun w => z w.2), yk 76 (by omega)]
  have hE : ∀ x, 2 ≤ x → x ≤ 33 → scR (4 + 7 * i) 6 x = false → mm_I ξ x = mm_I μ x ∧ mm_P ξ x = mm_P μ x ∧ mm_sh ξ x = mm_sh μ x := by
    intro x z1 z2 z3
    refine ⟨xc x ⟨z1, z2⟩ z3, ?_, by rw [FF.2.1]⟩
    rw [(g.2.2.1 x (by simp; omega)).2.2]
    show mm_P ν x = _
    rw [(f.2.2.1 x (by unfold scTx; simp; omega)).2.2]
    show mm_P η x = _
    rw [(fk.2.2.1 x z3).2.2, (F.2.2.1 x (by unfold scRd; simp; omega)).2.2]
  have hn : mm_n μ ≤ mm_n ξ := Nat.le_of_eq FF.1.symm
  obtain ⟨oC, oY, oL⟩ := hJ.cls
  refine text_told hJ FF ?_ ?_ ?_ ?_ (fun j hj => ?_) (fun j hj => ?_) (fun j hj => ?_) (fun j hj => ?_) (fun j hj => ?_) ?_ ?_ ?_
  · rw [y1]; exact h5
  · rw [x0 73 (by decide) (by decide), (f.2.2.1 73 rfl).1]; exact q1
  · rw [y1, x0 74 (by decide) (by decide), e74]; exact h6
  · rw [y1, x0 75 (by decide) (by decide), e75]; exact h7
  · rw [x0 73 (by decide) (by decide), x0 74 (by decide) (by decide), x0 75 (by decide) (by decide), (f.2.2.1 73 rfl).1, (k4 j hj).1, (k4 j hj).2, (q4 j hj).1, (q4 j hj).2.1, (q4 j hj).2.2, ymr 73 (by decide) (by decide), ymr 74 (by decide) (by decide), ymr 75 (by decide) (by decide)]
    exact ⟨rfl, rfl, rfl⟩
  · rw [y76, if_neg (by omega)]
  · rw [g2 j (by omega), yk 77 (by omega)]
  · rw [x0 78 (by decide) (by decide), yk 78 (by omega)]
  · rw [x0 79 (by decide) (by decide), yk 79 (by omega)]
  · refine CCl.new hc2 hic hi hcl (by rw [y34, if_pos rfl]) (by rw [y76, if_pos rfl]) (fun e z1 z2 => ⟨hn, fun x w1 w2 => hE x (by omega) (by omega) (scR_f (by omega))⟩) hMx (fun j hj => by rw [g2 j hj, yk 77 (by omega)]) (tell0 hMx hi hC hW (cy.frm (fun x _ => rfl) (fun x hx => x2 _ (by omega) (by omega))) hRM g1)
  · exact oY.keep (by rw [y34, if_neg (by decide)]) (by rw [y76, if_neg (by decide)]) ⟨hn, fun x z1 z2 => hE x (by omega) (by omega) (scR_f (by omega))⟩ (by rw [x0 78 (by decide) (by decide), yk 78 (by omega)])
  · exact oL.keep (by rw [y34, if_neg (by decide)]) (by rw [y76, if_neg (by decide)]) ⟨hn, fun x z1 z2 => hE x (by omega) (by omega) (scR_f (by omega))⟩ (by rw [x0 79 (by decide) (by decide), yk 79 (by omega)])
theorem text_ok1 {k n c i : Nat} {u : Nat → Nat} {μ μ1 ν ξ : mm_M} (hJ : JJ k μ) (h : TxA 1 u n c i μ μ1) (hr : (rdF 1 u n).1 = 0) (f : Fr scTx (mx5 μ1 n) ν) (k4 : ∀ j, 1 ≤ j → mm_I ν 74 j = mm_I (mx5 μ1 n) 74 j ∧ mm_I ν 75 j = mm_I (mx5 μ1 n) 75 j) (e74 : mm_I ν 74 0 = nI (rdF 1 u n).1) (e75 : mm_I ν 75 0 = if (rdF 1 u n).1 = 0 then -1 else nI (rdF 1 u n).2.1) (hRM : RMs 1 (rdF 1 u n).2.2 ν) (hc2 : c ≤ 2) (hic : i ≤ c) (hi : i < 2) (hcl : ∀ e, e < c → YeR μ (1 + 18 + 4 * e) (242 * 0 + 121 * e)) (g : Fr (fun x => x == 78) (mm_sI ν 76 1 (nI (max c (i + 1)))) ξ) (g1 : ∀ j, j < 121 → mm_I ξ 78 (121 * i + j) = mm_I ν 80 j) (g2 : ∀ j, (j < 121 * i ∨ 121 * i + 121 ≤ j) → mm_I ξ 78 j = mm_I ν 78 j) : JJ (k + 1) ξ := by
  obtain ⟨μr, ⟨F, h5, h6, h7⟩, -, hb⟩ := h
  obtain ⟨hC, hW, hK⟩ := hb hr
  obtain ⟨η, fk, -, cy, rfl⟩ := hK.2.1 rfl
  obtain ⟨⟨q1, q2, q3, -⟩, q4⟩ := mx5_k (μ := mm_sI η 34 1 (nI (max c (i + 1)))) (n := n)
  have sx : ∀ a, scR (19 + 4 * i) 3 a = true → scV a = true := fun a z => by have := scR_o z; unfold scV; simp; omega
  have FF : Fr scV μ ξ := (((((F.sub (fun a z => by unfold scRd at z; unfold scV; simp at z ⊢; omega)).trans (fk.sub sx)).sI rfl).trans (mx5_fr rfl rfl rfl rfl)).trans (f.sub (fun a z => by unfold scTx at z; unfold scV; simp at z ⊢; omega))).trans ((Fr.rf.sI rfl).trans (g.sub (fun a z => by simp at z; subst z; rfl)))
  have hMx := FF.2.2.2 hJ.1
  have x0 : ∀ a, a ≠ 78 → a ≠ 76 → mm_I ξ a = mm_I ν a := fun a z1 z2 => by rw [(g.2.2.1 a (by simp; exact z1)).1, mm_sI_off z2]
  have x1 : ∀ a, a ≤ 70 → mm_I ξ a = mm_I (mm_sI η 34 1 (nI (max c (i + 1)))) a := fun a z => by rw [x0 a (by omega) (by omega), (f.2.2.1 a (by unfold scTx; simp; omega)).1, mx5_off (by omega) (by omega) (by omega) (by omega)]
  have x2 : ∀ a, a ≤ 70 → a ≠ 34 → mm_I ξ a = mm_I η a := fun a z z2 => by rw [x1 a z, mm_sI_off z2]
  have xc : ∀ a, (2 ≤ a ∧ a ≤ 33) → scR (19 + 4 * i) 3 a = false → mm_I ξ a = mm_I μ a := fun a z z2 => by rw [x2 a (by omega) (by omega), (fk.2.2.1 a z2).1, (F.2.2.1 a (by unfold scRd; simp; omega)).1]
  have y1 : mm_I ξ 1 = mm_I μr 1 := by rw [x2 1 (by decide) (by decide), (fk.2.2.1 1 (scR_f (by omega))).1]
  have y34 : ∀ j, mm_I ξ 34 j = if j = 1 then nI (max c (i + 1)) else mm_I μ 34 j := fun j => by
    rw [x1 34 (by decide), mm_I_sI]
    by_cases z : j = 1
    · rw [if_pos z, if_pos ⟨rfl, z⟩]
    · rw [if_neg z, if_neg (fun w => z w.2), (fk.2.2.1 34 (scR_f (by omega))).1, (F.2.2.1 34 rfl).1]
  have ymr : ∀ a, 72 ≤ a → a ≤ 79 → mm_I (mm_sI η 34 1 (nI (max c (i + 1)))) a = mm_I μ a := fun a z1 z2 => by rw [mm_sI_off (by omega), (fk.2.2.1 a (scR_f (by omega))).1, (F.2.2.1 a (by unfold scRd; simp; omega)).1]
  have yk : ∀ a, (a = 72 ∨ (76 ≤ a ∧ a ≤ 79)) → mm_I ν a = mm_I μ a := fun a z => by rw [(f.2.2.1 a (by unfold scTx; simp; omega)).1, mx5_off (by omega) (by omega) (by omega) (by omega), ymr a (by omega) (by omega)]
  have y76 : ∀ j, mm_I ξ 76 j = if j = 1 then nI (max c (i + 1)) else mm_I μ 76 j := fun j => by
    rw [(g.2.2.1 76 rfl).1, mm_I_sI]
    by_cases z : j = 1
    · rw [if_pos z, if_pos ⟨rfl, z⟩]
    · rw [if_neg z, if_neg (fun w => z w.2), yk 76 (by omega)]
  have hE : ∀ x, 2 ≤ x → x ≤ 33 → scR (19 + 4 * i) 3 x = false → mm_I ξ x = mm_I μ x ∧ mm_P ξ x = mm_P μ x ∧ mm_sh ξ x = mm_sh μ x := by
    intro x z1 z2 z3
    refine ⟨xc x ⟨z1, z2⟩ z3, ?_, by rw [FF.2.1]⟩
    rw [(g.2.2.1 x (by simp; omega)).2.2]
    show mm_P ν x = _
    rw [(f.2.2.1 x (by unfold scTx; simp; omega)).2.2]
    show mm_P η x = _
    rw [(fk.2.2.1 x z3).2.2, (F.2.2.1 x (by unfold scRd; simp; omega)).2.2]
  have hn : mm_n μ ≤ mm_n ξ := Nat.le_of_eq FF.1.symm
  obtain ⟨oC, oY, oL⟩ := hJ.cls
  refine text_told hJ FF ?_ ?_ ?_ ?_ (fun j hj => ?_) (fun j hj => ?_) (fun j hj => ?_) (fun j hj => ?_) (fun j hj => ?_) ?_ ?_ ?_
  · rw [y1]; exact h5
  · rw [x0 73 (by decide) (by decide), (f.2.2.1 73 rfl).1]; exact q1
  · rw [y1, x0 74 (by decide) (by decide), e74]; exact h6
  · rw [y1, x0 75 (by decide) (by decide), e75]; exact h7
  · rw [x0 73 (by decide) (by decide), x0 74 (by decide) (by decide), x0 75 (by decide) (by decide), (f.2.2.1 73 rfl).1, (k4 j hj).1, (k4 j hj).2, (q4 j hj).1, (q4 j hj).2.1, (q4 j hj).2.2, ymr 73 (by decide) (by decide), ymr 74 (by decide) (by decide), ymr 75 (by decide) (by decide)]
    exact ⟨rfl, rfl, rfl⟩
  · rw [y76, if_neg (by omega)]
  · rw [x0 77 (by decide) (by decide), yk 77 (by omega)]
  · rw [g2 j (by omega), yk 78 (by omega)]
  · rw [x0 79 (by decide) (by decide), yk 79 (by omega)]
  · exact oC.keep (by rw [y34, if_neg (by decide)]) (by rw [y76, if_neg (by decide)]) ⟨hn, fun x z1 z2 => hE x (by omega) (by omega) (scR_f (by omega))⟩ (by rw [x0 77 (by decide) (by decide), yk 77 (by omega)])
  · refine YCl.new hc2 hic hi hcl (by rw [y34, if_pos rfl]) (by rw [y76, if_pos rfl]) (fun e z1 z2 => ⟨hn, fun x w1 w2 => hE x (by omega) (by omega) (scR_f (by omega))⟩) hMx (fun j hj => by rw [g2 j hj, yk 78 (by omega)]) (tell1 hMx hi hC hW (cy.frm (fun x _ => rfl) (fun x hx => x2 _ (by omega) (by omega))) hRM g1)
  · exact oL.keep (by rw [y34, if_neg (by decide)]) (by rw [y76, if_neg (by decide)]) ⟨hn, fun x z1 z2 => hE x (by omega) (by omega) (scR_f (by omega))⟩ (by rw [x0 79 (by decide) (by decide), yk 79 (by omega)])
theorem text_ok2 {k n c i : Nat} {u : Nat → Nat} {μ μ1 ν ξ : mm_M} (hJ : JJ k μ) (h : TxA 2 u n c i μ μ1) (hr : (rdF 2 u n).1 = 0) (f : Fr scTx (mx5 μ1 n) ν) (k4 : ∀ j, 1 ≤ j → mm_I ν 74 j = mm_I (mx5 μ1 n) 74 j ∧ mm_I ν 75 j = mm_I (mx5 μ1 n) 75 j) (e74 : mm_I ν 74 0 = nI (rdF 2 u n).1) (e75 : mm_I ν 75 0 = if (rdF 2 u n).1 = 0 then -1 else nI (rdF 2 u n).2.1) (hRM : RMs 2 (rdF 2 u n).2.2 ν) (hc2 : c ≤ 2) (hic : i ≤ c) (hi : i < 2) (hcl : ∀ e, e < c → LoR μ (1 + 27 + 3 * e) (34 * 0 + 17 * e)) (g : Fr (fun x => x == 79) (mm_sI ν 76 2 (nI (max c (i + 1)))) ξ) (g1 : ∀ j, j < 17 → mm_I ξ 79 (17 * i + j) = mm_I ν 80 j) (g2 : ∀ j, (j < 17 * i ∨ 17 * i + 17 ≤ j) → mm_I ξ 79 j = mm_I ν 79 j) : JJ (k + 1) ξ := by
  obtain ⟨μr, ⟨F, h5, h6, h7⟩, -, hb⟩ := h
  obtain ⟨hC, hW, hK⟩ := hb hr
  obtain ⟨η, fk, -, cy, rfl⟩ := hK.2.2 rfl
  obtain ⟨⟨q1, q2, q3, -⟩, q4⟩ := mx5_k (μ := mm_sI η 34 2 (nI (max c (i + 1)))) (n := n)
  have sx : ∀ a, scR (28 + 3 * i) 2 a = true → scV a = true := fun a z => by have := scR_o z; unfold scV; simp; omega
  have FF : Fr scV μ ξ := (((((F.sub (fun a z => by unfold scRd at z; unfold scV; simp at z ⊢; omega)).trans (fk.sub sx)).sI rfl).trans (mx5_fr rfl rfl rfl rfl)).trans (f.sub (fun a z => by unfold scTx at z; unfold scV; simp at z ⊢; omega))).trans ((Fr.rf.sI rfl).trans (g.sub (fun a z => by simp at z; subst z; rfl)))
  have hMx := FF.2.2.2 hJ.1
  have x0 : ∀ a, a ≠ 79 → a ≠ 76 → mm_I ξ a = mm_I ν a := fun a z1 z2 => by rw [(g.2.2.1 a (by simp; exact z1)).1, mm_sI_off z2]
  have x1 : ∀ a, a ≤ 70 → mm_I ξ a = mm_I (mm_sI η 34 2 (nI (max c (i + 1)))) a := fun a z => by rw [x0 a (by omega) (by omega), (f.2.2.1 a (by unfold scTx; simp; omega)).1, mx5_off (by omega) (by omega) (by omega) (by omega)]
  have x2 : ∀ a, a ≤ 70 → a ≠ 34 → mm_I ξ a = mm_I η a := fun a z z2 => by rw [x1 a z, mm_sI_off z2]
  have xc : ∀ a, (2 ≤ a ∧ a ≤ 33) → scR (28 + 3 * i) 2 a = false → mm_I ξ a = mm_I μ a := fun a z z2 => by rw [x2 a (by omega) (by omega), (fk.2.2.1 a z2).1, (F.2.2.1 a (by unfold scRd; simp; omega)).1]
  have y1 : mm_I ξ 1 = mm_I μr 1 := by rw [x2 1 (by decide) (by decide), (fk.2.2.1 1 (scR_f (by omega))).1]
  have y34 : ∀ j, mm_I ξ 34 j = if j = 2 then nI (max c (i + 1)) else mm_I μ 34 j := fun j => by
    rw [x1 34 (by decide), mm_I_sI]
    by_cases z : j = 2
    · rw [if_pos z, if_pos ⟨rfl, z⟩]
    · rw [if_neg z, if_neg (fun w => z w.2), (fk.2.2.1 34 (scR_f (by omega))).1, (F.2.2.1 34 rfl).1]
  have ymr : ∀ a, 72 ≤ a → a ≤ 79 → mm_I (mm_sI η 34 2 (nI (max c (i + 1)))) a = mm_I μ a := fun a z1 z2 => by rw [mm_sI_off (by omega), (fk.2.2.1 a (scR_f (by omega))).1, (F.2.2.1 a (by unfold scRd; simp; omega)).1]
  have yk : ∀ a, (a = 72 ∨ (76 ≤ a ∧ a ≤ 79)) → mm_I ν a = mm_I μ a := fun a z => by rw [(f.2.2.1 a (by unfold scTx; simp; omega)).1, mx5_off (by omega) (by omega) (by omega) (by omega), ymr a (by omega) (by omega)]
  have y76 : ∀ j, mm_I ξ 76 j = if j = 2 then nI (max c (i + 1)) else mm_I μ 76 j := fun j => by
    rw [(g.2.2.1 76 rfl).1, mm_I_sI]
    by_cases z : j = 2
    · rw [if_pos z, if_pos ⟨rfl, z⟩]
    · rw [if_neg z, if_neg (fun w => z w.2), yk 76 (by omega)]
  have hE : ∀ x, 2 ≤ x → x ≤ 33 → scR (28 + 3 * i) 2 x = false → mm_I ξ x = mm_I μ x ∧ mm_P ξ x = mm_P μ x ∧ mm_sh ξ x = mm_sh μ x := by
    intro x z1 z2 z3
    refine ⟨xc x ⟨z1, z2⟩ z3, ?_, by rw [FF.2.1]⟩
    rw [(g.2.2.1 x (by simp; omega)).2.2]
    show mm_P ν x = _
    rw [(f.2.2.1 x (by unfold scTx; simp; omega)).2.2]
    show mm_P η x = _
    rw [(fk.2.2.1 x z3).2.2, (F.2.2.1 x (by unfold scRd; simp; omega)).2.2]
  have hn : mm_n μ ≤ mm_n ξ := Nat.le_of_eq FF.1.symm
  obtain ⟨oC, oY, oL⟩ := hJ.cls
  refine text_told hJ FF ?_ ?_ ?_ ?_ (fun j hj => ?_) (fun j hj => ?_) (fun j hj => ?_) (fun j hj => ?_) (fun j hj => ?_) ?_ ?_ ?_
  · rw [y1]; exact h5
  · rw [x0 73 (by decide) (by decide), (f.2.2.1 73 rfl).1]; exact q1
  · rw [y1, x0 74 (by decide) (by decide), e74]; exact h6
  · rw [y1, x0 75 (by decide) (by decide), e75]; exact h7
  · rw [x0 73 (by decide) (by decide), x0 74 (by decide) (by decide), x0 75 (by decide) (by decide), (f.2.2.1 73 rfl).1, (k4 j hj).1, (k4 j hj).2, (q4 j hj).1, (q4 j hj).2.1, (q4 j hj).2.2, ymr 73 (by decide) (by decide), ymr 74 (by decide) (by decide), ymr 75 (by decide) (by decide)]
    exact ⟨rfl, rfl, rfl⟩
  · rw [y76, if_neg (by omega)]
  · rw [x0 77 (by decide) (by decide), yk 77 (by omega)]
  · rw [x0 78 (by decide) (by decide), yk 78 (by omega)]
  · rw [g2 j (by omega), yk 79 (by omega)]
  · exact oC.keep (by rw [y34, if_neg (by decide)]) (by rw [y76, if_neg (by decide)]) ⟨hn, fun x z1 z2 => hE x (by omega) (by omega) (scR_f (by omega))⟩ (by rw [x0 77 (by decide) (by decide), yk 77 (by omega)])
  · exact oY.keep (by rw [y34, if_neg (by decide)]) (by rw [y76, if_neg (by decide)]) ⟨hn, fun x z1 z2 => hE x (by omega) (by omega) (scR_f (by omega))⟩ (by rw [x0 78 (by decide) (by decide), yk 78 (by omega)])
  · refine LCl.new hc2 hic hi hcl (by rw [y34, if_pos rfl]) (by rw [y76, if_pos rfl]) (fun e z1 z2 => ⟨hn, fun x w1 w2 => hE x (by omega) (by omega) (scR_f (by omega))⟩) hMx (fun j hj => by rw [g2 j hj, yk 79 (by omega)]) (tell2 hMx hi hC hW (cy.frm (fun x _ => rfl) (fun x hx => x2 _ (by omega) (by omega))) hRM g1)
