/-! texts: the model takes a number -/
def sc78 (a : Nat) : Bool := a == 71 || a == 81
def K2 (μ ν : mm_M) : Prop := Fr sc78 μ ν ∧ mm_P ν = mm_P μ ∧ ∀ j, (j < 9 ∨ j = 10 ∨ j = 18 ∨ j = 19 ∨ j = 20 ∨ 22 ≤ j) → mm_I ν 71 j = mm_I μ 71 j
theorem K2.rf {μ : mm_M} : K2 μ μ := ⟨Fr.rf, rfl, fun _ _ => rfl⟩
theorem K2.trans {μ ν ξ : mm_M} (h : K2 μ ν) (g : K2 ν ξ) : K2 μ ξ := ⟨h.1.trans g.1, g.2.1.trans h.2.1, fun j hj => (g.2.2 j hj).trans (h.2.2 j hj)⟩
theorem K2.sI {μ ν : mm_M} {j : Nat} {x : Int32} (h : K2 μ ν) (hj : j = 9 ∨ (11 ≤ j ∧ j ≤ 17) ∨ j = 21) : K2 μ (mm_sI ν 71 j x) := ⟨h.1.sI rfl, h.2.1, fun i hi => by rw [mm_I_sI, if_neg (by omega)]; exact h.2.2 i hi⟩
theorem K2.sR {μ ν : mm_M} {j : Nat} {x : Int32} (h : K2 μ ν) : K2 μ (mm_sI ν 81 j x) := ⟨h.1.sI rfl, h.2.1, fun i hi => by rw [mm_sI_off (by decide)]; exact h.2.2 i hi⟩
theorem Km.k2 {μ ν : mm_M} (h : Km μ ν) : K2 μ ν := ⟨h.1.sub (fun a z => by unfold sc71 at z; unfold sc78; simp at z ⊢; omega), h.2.1, fun j hj => h.2.2 j (by omega) (by omega) (by omega) (by omega)⟩
theorem Rm.k2 {u : Nat → Nat} {L : Nat} {μ ν : mm_M} (h : Rm u L μ) (k : K2 μ ν) : Rm u L ν := by
  obtain ⟨h1, h2, h3, h4⟩ := h
  exact ⟨k.1.2.2.2 h1, by rw [k.2.2 10 (by omega)]; exact h2, h3, by rw [(k.1.2.2.1 72 rfl).1]; exact h4⟩
theorem Tk2.cg {u : Nat → Nat} {L p : Nat} {μ ν : mm_M} (h : Tk2 u L p μ) (e : ∀ j, j = 9 ∨ (11 ≤ j ∧ j ≤ 13) → mm_I ν 71 j = mm_I μ 71 j) (eJ : mm_J ν 71 14 = mm_J μ 71 14) : Tk2 u L p ν := by
  obtain ⟨h1, h2, h3, h4, h5⟩ := h
  exact ⟨(e 9 (by omega)).trans h1, (e 11 (by omega)).trans h2, (e 12 (by omega)).trans h3, fun z => (e 13 (by omega)).trans (h4 z), fun z => eJ.trans (h5 z)⟩
/-- the model's fault so far: f at pl, ahead of x -/
def LF (f pl x : Nat) (ν : mm_M) : Prop := mm_I ν 71 16 = nI f ∧ f < 5 ∧ pl < 2 ^ 31 ∧ (f ≠ 0 → mm_I ν 71 17 = nI pl ∧ pl < x)
theorem LF.cg {f pl x y : Nat} {μ ν : mm_M} (h : LF f pl x μ) (hxy : x ≤ y) (e16 : mm_I ν 71 16 = mm_I μ 71 16) (e17 : mm_I ν 71 17 = mm_I μ 71 17) : LF f pl y ν := ⟨e16.trans h.1, h.2.1, h.2.2.1, fun z => ⟨e17.trans (h.2.2.2 z).1, Nat.lt_of_lt_of_le (h.2.2.2 z).2 hxy⟩⟩
theorem sp_M_fails {X : mm_X} {μ : mm_M} {q : Int32 → mm_M → Prop} {x : Nat} (hM : SK μ) (hx : mm_I μ 71 11 = nI x) (h : q (nI 0) (mm_sI μ 71 15 (nI x))) : mm_Ci X 0 0 0 k_M_fails [.ref 71] μ q := by
  show mm_T X 0 0 0 k_M_fails 0 [some (.ref 71)] [] μ _
  refine mm_aload d_M_fails_0 rfl ?_
  refine mm_aload d_M_fails_1 rfl ?_
  refine mm_getIN d_M_fails_2 rfl (sk_o_71 hM) hx ?_
  refine mm_putI d_M_fails_5 rfl (sk_o_71 hM) (Or.inl rfl) ?_
  refine mm_ciN 0 d_M_fails_8 rfl ?_
  exact mm_rz d_M_fails_9 h
/-- a fault g at x comes: it counts if there was none -/
theorem sp_M_later {X : mm_X} {μ : mm_M} {q : mm_M → Prop} {f pl x g : Nat} (hM : SK μ) (hF : LF f pl x μ) (hx : x ≤ 600) (hg : g < 5) (h0 : f = 0 → q (mm_sI (mm_sI μ 71 16 (nI g)) 71 17 (nI x))) (h1 : f ≠ 0 → q μ) : mm_Cv X 0 0 0 k_M_later [.ref 71, .int (nI g), .int (nI x)] μ q := by
  show mm_T X 0 0 0 k_M_later 0 [some (.ref 71), some (.int (nI g)), some (.int (nI x))] [] μ _
  obtain ⟨a1, a2, a3, a4⟩ := hF
  by_cases hf : f = 0
  · refine mm_aload d_M_later_0 rfl ?_
    refine mm_getIN d_M_later_1 rfl (sk_o_71 hM) a1 ?_
    refine mm_if_eqN d_M_later_4 (by first | omega | exact ite01_lt | exact bt8_lt31 _ _ | exact godB_lt31 _ _ _ | exact pop_lt31 _ | assumption | exact b31 (hW.gp (by omega)) | exact b31 (hW.ne (by omega)) | exact b31 (hW.op (by omega)) | exact and31 (hW.gp (by omega)) | exact and31 (hW.ne (by omega)) | exact and31 (hW.op (by omega)) | exact and31 (by assumption) | exact and31r (hW.ne (by omega)) | exact and31r (hW.gp (by omega)) | exact and31r (by decide)) (fun c_4 => ?_) (fun c_4 => False.elim (by omega))
    refine mm_aload d_M_later_31 rfl ?_
    refine mm_iload d_M_later_32 rfl ?_
    refine mm_putI d_M_later_33 rfl (sk_o_71 hM) (Or.inl rfl) ?_
    refine mm_aload d_M_later_36 rfl ?_
    refine mm_iload d_M_later_37 rfl ?_
    refine mm_putI d_M_later_38 rfl (sk_o_71 hM) (Or.inl rfl) ?_
    exact mm_rv d_M_later_41 (h0 hf)
  · obtain ⟨a5, a6⟩ := a4 hf
    refine mm_aload d_M_later_0 rfl ?_
    refine mm_getIN d_M_later_1 rfl (sk_o_71 hM) a1 ?_
    refine mm_if_eqN d_M_later_4 (by first | omega | exact ite01_lt | exact bt8_lt31 _ _ | exact godB_lt31 _ _ _ | exact pop_lt31 _ | assumption | exact b31 (hW.gp (by omega)) | exact b31 (hW.ne (by omega)) | exact b31 (hW.op (by omega)) | exact and31 (hW.gp (by omega)) | exact and31 (hW.ne (by omega)) | exact and31 (hW.op (by omega)) | exact and31 (by assumption) | exact and31r (hW.ne (by omega)) | exact and31r (hW.gp (by omega)) | exact and31r (by decide)) (fun c_4 => False.elim (by omega)) (fun c_4 => ?_)
    refine mm_iload d_M_later_7 rfl ?_
    refine mm_aload d_M_later_8 rfl ?_
    refine mm_getIN d_M_later_9 rfl (sk_o_71 hM) a5 ?_
    refine mm_icmp_ltN d_M_later_12 (by first | omega | exact ite01_lt | exact bt8_lt31 _ _ | exact godB_lt31 _ _ _ | exact pop_lt31 _ | assumption | exact b31 (hW.gp (by omega)) | exact b31 (hW.ne (by omega)) | exact b31 (hW.op (by omega)) | exact and31 (hW.gp (by omega)) | exact and31 (hW.ne (by omega)) | exact and31 (hW.op (by omega)) | exact and31 (by assumption) | exact and31r (hW.ne (by omega)) | exact and31r (hW.gp (by omega)) | exact and31r (by decide)) (by first | omega | exact ite01_lt | exact bt8_lt31 _ _ | exact godB_lt31 _ _ _ | exact pop_lt31 _ | assumption | exact b31 (hW.gp (by omega)) | exact b31 (hW.ne (by omega)) | exact b31 (hW.op (by omega)) | exact and31 (hW.gp (by omega)) | exact and31 (hW.ne (by omega)) | exact and31 (hW.op (by omega)) | exact and31 (by assumption) | exact and31r (hW.ne (by omega)) | exact and31r (hW.gp (by omega)) | exact and31r (by decide)) (fun c_12 => False.elim (by omega)) (fun c_12 => ?_)
    refine mm_iload d_M_later_15 rfl ?_
    refine mm_aload d_M_later_16 rfl ?_
    refine mm_getIN d_M_later_17 rfl (sk_o_71 hM) a5 ?_
    refine mm_icmp_neN d_M_later_20 (by first | omega | exact ite01_lt | exact bt8_lt31 _ _ | exact godB_lt31 _ _ _ | exact pop_lt31 _ | assumption | exact b31 (hW.gp (by omega)) | exact b31 (hW.ne (by omega)) | exact b31 (hW.op (by omega)) | exact and31 (hW.gp (by omega)) | exact and31 (hW.ne (by omega)) | exact and31 (hW.op (by omega)) | exact and31 (by assumption) | exact and31r (hW.ne (by omega)) | exact and31r (hW.gp (by omega)) | exact and31r (by decide)) (by first | omega | exact ite01_lt | exact bt8_lt31 _ _ | exact godB_lt31 _ _ _ | exact pop_lt31 _ | assumption | exact b31 (hW.gp (by omega)) | exact b31 (hW.ne (by omega)) | exact b31 (hW.op (by omega)) | exact and31 (hW.gp (by omega)) | exact and31 (hW.ne (by omega)) | exact and31 (hW.op (by omega)) | exact and31 (by assumption) | exact and31r (hW.ne (by omega)) | exact and31r (hW.gp (by omega)) | exact and31r (by decide)) (fun c_20 => ?_) (fun c_20 => False.elim (by omega))
    exact mm_rv d_M_later_41 (h1 hf)
/-- the fault behind a number at x that can be or not -/
def nf (c : Bool) (f : Nat) : Nat := if c = true then f else if f = 0 then 2 else f
def np (c : Bool) (f pl x : Nat) : Nat := if c = true then pl else if f = 0 then x else pl
def canT (v lo hi : Nat) (un : Nat) (k : Nat) (r : Nat → Nat) : Bool := decide (lo ≤ v ∧ v ≤ hi) && (decide (un = 0) || (List.range k).all (fun i => v != r i))
theorem canT_i {v lo hi un k : Nat} {r : Nat → Nat} : canT v lo hi un k r = true ↔ (lo ≤ v ∧ v ≤ hi) ∧ (un = 0 ∨ ∀ i, i < k → v ≠ r i) := by
  unfold canT
  simp
theorem sp_M_takeNew {X : mm_X} {μ : mm_M} {q : Int32 → mm_M → Prop} {u : Nat → Nat} {L x f pl k lo hi un gd : Nat} {r : Nat → Nat} (hR : Rm u L μ) (hT : Tk2 u L x μ) (hx : x ≤ L) (hF : LF f pl (tP u L x) μ) (hk : k < 3) (hlo : lo < 100) (hhi : hi < 100) (hun : un ≤ 1) (hr : un = 1 → ∀ i, i < k → mm_I μ 81 i = nI (r i) ∧ r i < 100) (hg : mm_I μ 71 21 = nI gd) (h0 : tK u L x ≠ 3 → ∀ ν, K2 μ ν → mm_I ν 71 15 = nI (tP u L x) → q (nI 0) ν) (h1 : tK u L x = 3 → ∀ ν, K2 μ ν → Tk2 u L (tN u L x) ν → LF (nf (canT (tV u L x) lo hi un k r) f) (np (canT (tV u L x) lo hi un k r) f pl (tP u L x)) (tP u L (tN u L x)) ν → mm_I ν 71 21 = nI (if canT (tV u L x) lo hi un k r = true then gd else 0) → (∀ j, mm_I ν 81 j = if j = k then nI (tV u L x) else mm_I μ 81 j) → q (nI 1) ν) : mm_Ci X 2 0 0 k_M_takeNew [.ref 71, .int (nI k), .int (nI lo), .int (nI hi), .int (nI un)] μ q := by
  show mm_T X 2 0 0 k_M_takeNew 0 [some (.ref 71), some (.int (nI k)), some (.int (nI lo)), some (.int (nI hi)), some (.int (nI un)), none, none] [] μ _
  have hM := hR.1
  have hL6 := hR.2.2.1
  have hk5 := tK_lt (u := u) (L := L) (p := x)
  have hmk : mK (tK u L x) < 5 := by unfold mK; split <;> (try split) <;> omega
  have hpx := tP_le (u := u) hx
  have hnx := tN_le (u := u) hx
  by_cases h3 : tK u L x = 3
  · have hv := tV_lt h3
    have e3 : mK (tK u L x) = 3 := by rw [h3]; rfl
    have e12 : mm_I μ 71 12 = nI 3 := by rw [hT.2.2.1, e3]
    have e13 := hT.2.2.2.1 h3
    have ord : tP u L x < tP u L (tN u L x) := Nat.lt_of_lt_of_le (tN_gt (by omega)).1 tP_ge
    have fin : ∀ l6 : Option Value, mm_T X 2 0 0 k_M_takeNew 70 [some (.ref 71), some (.int (nI k)), some (.int (nI lo)), some (.int (nI hi)), some (.int (nI un)), some (.int (nI (if canT (tV u L x) lo hi un k r = true then 1 else 0))), l6] [] μ (fun w μ' => ∃ z, w = some (.int z) ∧ q z μ') := by
      intro l6
      have kR : K2 μ (mm_sI μ 81 k (nI (tV u L x))) := K2.rf.sR
      have hR1 := hR.k2 kR
      by_cases hc : canT (tV u L x) lo hi un k r = true
      · rw [if_pos hc]
        refine mm_aload d_M_takeNew_70 rfl ?_
        refine mm_getP d_M_takeNew_71 rfl (sk_o_71 hM) (sk_p_71_19 hM) ?_
        refine mm_iload d_M_takeNew_74 rfl ?_
        refine mm_aload d_M_takeNew_75 rfl ?_
        refine mm_getIN d_M_takeNew_76 rfl (sk_o_71 hM) e13 ?_
        refine mm_iastX d_M_takeNew_79 (sk_a_81 hM) (by omega) (by decide) ?_
        refine mm_iload d_M_takeNew_80 rfl ?_
        refine mm_if_neN d_M_takeNew_82 (by first | omega | exact ite01_lt | exact bt8_lt31 _ _ | exact godB_lt31 _ _ _ | exact pop_lt31 _ | assumption | exact b31 (hW.gp (by omega)) | exact b31 (hW.ne (by omega)) | exact b31 (hW.op (by omega)) | exact and31 (hW.gp (by omega)) | exact and31 (hW.ne (by omega)) | exact and31 (hW.op (by omega)) | exact and31 (by assumption) | exact and31r (hW.ne (by omega)) | exact and31r (hW.gp (by omega)) | exact and31r (by decide)) (fun c_82 => ?_) (fun c_82 => False.elim (by omega))
        refine mm_aload d_M_takeNew_99 rfl ?_
        refine mm_v0v d_M_takeNew_100 (sk_o_71 hM) (sp_M_token hR1 (show mm_I μ 71 9 = _ from hT.1) hnx (fun ν km tk => ?_))
        refine mm_ciN 1 d_M_takeNew_103 rfl ?_
        exact mm_rz d_M_takeNew_104 (h1 h3 ν (kR.trans km.k2) tk (LF.cg (μ := μ) (x := tP u L x) (by rw [show nf (canT (tV u L x) lo hi un k r) f = f from if_pos hc, show np (canT (tV u L x) lo hi un k r) f pl (tP u L x) = pl from if_pos hc]; exact hF) (Nat.le_of_lt ord) (by rw [km.2.2 16 (by decide) (by decide) (by decide) (by decide)]; rfl) (by rw [km.2.2 17 (by decide) (by decide) (by decide) (by decide)]; rfl)) (by rw [km.2.2 21 (by decide) (by decide) (by decide) (by decide), if_pos hc]; exact hg) (fun j => by rw [(km.1.2.2.1 81 rfl).1, mm_I_sI]; by_cases z : j = k; rw [if_pos z, if_pos ⟨rfl, z⟩]; rw [if_neg z, if_neg (fun w => z w.2)]))
      · rw [if_neg hc]
        have done : ∀ ξ ν, K2 μ ξ → Km ξ ν → Tk2 u L (tN u L x) ν → LF (if f = 0 then 2 else f) (if f = 0 then tP u L x else pl) (tP u L (tN u L x)) ξ → mm_I ξ 71 21 = nI 0 → (∀ j, mm_I ξ 81 j = if j = k then nI (tV u L x) else mm_I μ 81 j) → q (nI 1) ν := by
          intro ξ ν kx km tk lf g21 e81
          refine h1 h3 ν (kx.trans km.k2) tk ?_ ?_ (fun j => by rw [(km.1.2.2.1 81 rfl).1]; exact e81 j)
          · rw [show nf (canT (tV u L x) lo hi un k r) f = (if f = 0 then 2 else f) from if_neg hc, show np (canT (tV u L x) lo hi un k r) f pl (tP u L x) = (if f = 0 then tP u L x else pl) from if_neg hc]; exact lf.cg (Nat.le_refl _) (km.2.2 16 (by decide) (by decide) (by decide) (by decide)) (km.2.2 17 (by decide) (by decide) (by decide) (by decide))
          · rw [km.2.2 21 (by decide) (by decide) (by decide) (by decide), if_neg hc]; exact g21
        have e81 : ∀ j, mm_I (mm_sI μ 81 k (nI (tV u L x))) 81 j = if j = k then nI (tV u L x) else mm_I μ 81 j := fun j => by
          rw [mm_I_sI]
          by_cases z : j = k
          · rw [if_pos z, if_pos ⟨rfl, z⟩]
          · rw [if_neg z, if_neg (fun w => z w.2)]
        refine mm_aload d_M_takeNew_70 rfl ?_
        refine mm_getP d_M_takeNew_71 rfl (sk_o_71 hM) (sk_p_71_19 hM) ?_
        refine mm_iload d_M_takeNew_74 rfl ?_
        refine mm_aload d_M_takeNew_75 rfl ?_
        refine mm_getIN d_M_takeNew_76 rfl (sk_o_71 hM) e13 ?_
        refine mm_iastX d_M_takeNew_79 (sk_a_81 hM) (by omega) (by decide) ?_
        refine mm_iload d_M_takeNew_80 rfl ?_
        refine mm_if_neN d_M_takeNew_82 (by first | omega | exact ite01_lt | exact bt8_lt31 _ _ | exact godB_lt31 _ _ _ | exact pop_lt31 _ | assumption | exact b31 (hW.gp (by omega)) | exact b31 (hW.ne (by omega)) | exact b31 (hW.op (by omega)) | exact and31 (hW.gp (by omega)) | exact and31 (hW.ne (by omega)) | exact and31 (hW.op (by omega)) | exact and31 (by assumption) | exact and31r (hW.ne (by omega)) | exact and31r (hW.gp (by omega)) | exact and31r (by decide)) (fun c_82 => False.elim (by omega)) (fun c_82 => ?_)
        refine mm_aload d_M_takeNew_85 rfl ?_
        refine mm_ciN 2 d_M_takeNew_86 rfl ?_
        refine mm_aload d_M_takeNew_87 rfl ?_
        refine mm_getIN d_M_takeNew_88 rfl (sk_o_71 hM) (by rw [mm_sI_off (by decide)]; exact hT.2.1) ?_
        refine mm_v2v d_M_takeNew_91 (sk_o_71 hM) (sp_M_later (x := tP u L x) hM (LF.cg hF (Nat.le_refl _) (by rw [mm_sI_off (by decide)]) (by rw [mm_sI_off (by decide)])) (by omega) (by decide) (fun f0 => ?_) (fun f0 => ?_))
        · have k3 : K2 μ (mm_sI (mm_sI (mm_sI (mm_sI μ 81 k (nI (tV u L x))) 71 16 (nI 2)) 71 17 (nI (tP u L x))) 71 21 (nI 0)) := ((kR.sI (by omega)).sI (by omega)).sI (by omega)
          refine mm_aload d_M_takeNew_94 rfl ?_
          refine mm_ciN 0 d_M_takeNew_95 rfl ?_
          refine mm_putZ d_M_takeNew_96 rfl (by decide) (sk_o_71 hM) (Or.inl rfl) ?_
          refine mm_aload d_M_takeNew_99 rfl ?_
          refine mm_v0v d_M_takeNew_100 (sk_o_71 hM) (sp_M_token (hR.k2 k3) (by rw [mm_I_sI, if_neg (by decide), mm_I_sI, if_neg (by decide), mm_I_sI, if_neg (by decide), mm_sI_off (by decide)]; exact hT.1) hnx (fun ν km tk => ?_))
          refine mm_ciN 1 d_M_takeNew_103 rfl ?_
          refine mm_rz d_M_takeNew_104 (done _ ν k3 km tk ⟨by rw [mm_I_sI, if_neg (by decide), mm_I_sI, if_neg (by decide), mm_I_sI, if_pos ⟨rfl, rfl⟩, if_pos f0], by rw [if_pos f0]; decide, by rw [if_pos f0]; omega, fun _ => ⟨by rw [mm_I_sI, if_neg (by decide), mm_I_sI, if_pos ⟨rfl, rfl⟩, if_pos f0], by rw [if_pos f0]; exact ord⟩⟩ (by rw [mm_I_sI, if_pos ⟨rfl, rfl⟩]) (fun j => by rw [mm_sI_off (by decide), mm_sI_off (by decide), mm_sI_off (by decide)]; exact e81 j))
        · have k3 : K2 μ (mm_sI (mm_sI μ 81 k (nI (tV u L x))) 71 21 (nI 0)) := kR.sI (by omega)
          refine mm_aload d_M_takeNew_94 rfl ?_
          refine mm_ciN 0 d_M_takeNew_95 rfl ?_
          refine mm_putZ d_M_takeNew_96 rfl (by decide) (sk_o_71 hM) (Or.inl rfl) ?_
          refine mm_aload d_M_takeNew_99 rfl ?_
          refine mm_v0v d_M_takeNew_100 (sk_o_71 hM) (sp_M_token (hR.k2 k3) (by rw [mm_I_sI, if_neg (by decide), mm_sI_off (by decide)]; exact hT.1) hnx (fun ν km tk => ?_))
          refine mm_ciN 1 d_M_takeNew_103 rfl ?_
          refine mm_rz d_M_takeNew_104 (done _ ν k3 km tk (LF.cg (μ := μ) (x := tP u L x) (by rw [if_neg f0, if_neg f0]; exact hF) (Nat.le_of_lt ord) (by rw [mm_I_sI, if_neg (by decide), mm_sI_off (by decide)]) (by rw [mm_I_sI, if_neg (by decide), mm_sI_off (by decide)])) (by rw [mm_I_sI, if_pos ⟨rfl, rfl⟩]) (fun j => by rw [mm_sI_off (by decide)]; exact e81 j))
    have loop : un = 1 → ∀ (m i : Nat) (c : Bool), k - i = m → i ≤ k → (c = true ↔ (lo ≤ tV u L x ∧ tV u L x ≤ hi) ∧ ∀ j, j < i → tV u L x ≠ r j) → mm_T X 2 0 0 k_M_takeNew 27 [some (.ref 71), some (.int (nI k)), some (.int (nI lo)), some (.int (nI hi)), some (.int (nI un)), some (.int (nI (if c = true then 1 else 0))), some (.int (nI i))] [] μ (fun w μ' => ∃ z, w = some (.int z) ∧ q z μ') := by
      intro hu m
      induction m with
      | zero =>
        intro i c hm hik hc
        obtain rfl : i = k := by omega
        have ec : c = canT (tV u L x) lo hi un i r := by
          apply Bool.eq_iff_iff.mpr
          rw [hc, canT_i]
          exact ⟨fun z => ⟨z.1, Or.inr z.2⟩, fun z => ⟨z.1, z.2.resolve_left (by omega)⟩⟩
        rw [ec]
        refine mm_iload d_M_takeNew_27 rfl ?_
        refine mm_iload d_M_takeNew_29 rfl ?_
        refine mm_icmp_geN d_M_takeNew_30 (by first | omega | exact ite01_lt | exact bt8_lt31 _ _ | exact godB_lt31 _ _ _ | exact pop_lt31 _ | assumption | exact b31 (hW.gp (by omega)) | exact b31 (hW.ne (by omega)) | exact b31 (hW.op (by omega)) | exact and31 (hW.gp (by omega)) | exact and31 (hW.ne (by omega)) | exact and31 (hW.op (by omega)) | exact and31 (by assumption) | exact and31r (hW.ne (by omega)) | exact and31r (hW.gp (by omega)) | exact and31r (by decide)) (by first | omega | exact ite01_lt | exact bt8_lt31 _ _ | exact godB_lt31 _ _ _ | exact pop_lt31 _ | assumption | exact b31 (hW.gp (by omega)) | exact b31 (hW.ne (by omega)) | exact b31 (hW.op (by omega)) | exact and31 (hW.gp (by omega)) | exact and31 (hW.ne (by omega)) | exact and31 (hW.op (by omega)) | exact and31 (by assumption) | exact and31r (hW.ne (by omega)) | exact and31r (hW.gp (by omega)) | exact and31r (by decide)) (fun c_30 => ?_) (fun c_30 => False.elim (by omega))
        exact fin _
      | succ m ih =>
        intro i c hm hik hc
        obtain ⟨ri, rb⟩ := hr hu i (by omega)
        have hc1 : (if c = true then 1 else 0 : Nat) ≤ 1 := by split <;> decide
        by_cases hcc : c = true
        · rw [hcc, if_pos rfl]
          by_cases hvr : tV u L x = r i
          · refine mm_iload d_M_takeNew_27 rfl ?_
            refine mm_iload d_M_takeNew_29 rfl ?_
            refine mm_icmp_geN d_M_takeNew_30 (by first | omega | exact ite01_lt | exact bt8_lt31 _ _ | exact godB_lt31 _ _ _ | exact pop_lt31 _ | assumption | exact b31 (hW.gp (by omega)) | exact b31 (hW.ne (by omega)) | exact b31 (hW.op (by omega)) | exact and31 (hW.gp (by omega)) | exact and31 (hW.ne (by omega)) | exact and31 (hW.op (by omega)) | exact and31 (by assumption) | exact and31r (hW.ne (by omega)) | exact and31r (hW.gp (by omega)) | exact and31r (by decide)) (by first | omega | exact ite01_lt | exact bt8_lt31 _ _ | exact godB_lt31 _ _ _ | exact pop_lt31 _ | assumption | exact b31 (hW.gp (by omega)) | exact b31 (hW.ne (by omega)) | exact b31 (hW.op (by omega)) | exact and31 (hW.gp (by omega)) | exact and31 (hW.ne (by omega)) | exact and31 (hW.op (by omega)) | exact and31 (by assumption) | exact and31r (hW.ne (by omega)) | exact and31r (hW.gp (by omega)) | exact and31r (by decide)) (fun c_30 => False.elim (by omega)) (fun c_30 => ?_)
            refine mm_iload d_M_takeNew_33 rfl ?_
            refine mm_if_eqN d_M_takeNew_35 (by first | omega | exact ite01_lt | exact bt8_lt31 _ _ | exact godB_lt31 _ _ _ | exact pop_lt31 _ | assumption | exact b31 (hW.gp (by omega)) | exact b31 (hW.ne (by omega)) | exact b31 (hW.op (by omega)) | exact and31 (hW.gp (by omega)) | exact and31 (hW.ne (by omega)) | exact and31 (hW.op (by omega)) | exact and31 (by assumption) | exact and31r (hW.ne (by omega)) | exact and31r (hW.gp (by omega)) | exact and31r (by decide)) (fun c_35 => False.elim (by omega)) (fun c_35 => ?_)
            refine mm_iload d_M_takeNew_38 rfl ?_
            refine mm_if_eqN d_M_takeNew_40 (by first | omega | exact ite01_lt | exact bt8_lt31 _ _ | exact godB_lt31 _ _ _ | exact pop_lt31 _ | assumption | exact b31 (hW.gp (by omega)) | exact b31 (hW.ne (by omega)) | exact b31 (hW.op (by omega)) | exact and31 (hW.gp (by omega)) | exact and31 (hW.ne (by omega)) | exact and31 (hW.op (by omega)) | exact and31 (by assumption) | exact and31r (hW.ne (by omega)) | exact and31r (hW.gp (by omega)) | exact and31r (by decide)) (fun c_40 => False.elim (by omega)) (fun c_40 => ?_)
            refine mm_aload d_M_takeNew_43 rfl ?_
            refine mm_getIN d_M_takeNew_44 rfl (sk_o_71 hM) e13 ?_
            refine mm_aload d_M_takeNew_47 rfl ?_
            refine mm_getP d_M_takeNew_48 rfl (sk_o_71 hM) (sk_p_71_19 hM) ?_
            refine mm_iload d_M_takeNew_51 rfl ?_
            refine mm_ialdN d_M_takeNew_53 (sk_a_81 hM) (by omega) (by decide) ri ?_
            refine mm_icmp_eqN d_M_takeNew_54 (by first | omega | exact ite01_lt | exact bt8_lt31 _ _ | exact godB_lt31 _ _ _ | exact pop_lt31 _ | assumption | exact b31 (hW.gp (by omega)) | exact b31 (hW.ne (by omega)) | exact b31 (hW.op (by omega)) | exact and31 (hW.gp (by omega)) | exact and31 (hW.ne (by omega)) | exact and31 (hW.op (by omega)) | exact and31 (by assumption) | exact and31r (hW.ne (by omega)) | exact and31r (hW.gp (by omega)) | exact and31r (by decide)) (by first | omega | exact ite01_lt | exact bt8_lt31 _ _ | exact godB_lt31 _ _ _ | exact pop_lt31 _ | assumption | exact b31 (hW.gp (by omega)) | exact b31 (hW.ne (by omega)) | exact b31 (hW.op (by omega)) | exact and31 (hW.gp (by omega)) | exact and31 (hW.ne (by omega)) | exact and31 (hW.op (by omega)) | exact and31 (by assumption) | exact and31r (hW.ne (by omega)) | exact and31r (hW.gp (by omega)) | exact and31r (by decide)) (fun c_54 => ?_) (fun c_54 => False.elim (by omega))
            refine mm_ciN 0 d_M_takeNew_61 rfl ?_
            refine mm_ist5 d_M_takeNew_62 ?_
            refine mm_inc6N d_M_takeNew_64 ?_
            refine mm_goto d_M_takeNew_67 ?_
            exact ih (i + 1) false (by omega) (by omega) ⟨fun z => absurd z (by decide), fun z => absurd hvr (z.2 i (by omega))⟩
          · refine mm_iload d_M_takeNew_27 rfl ?_
            refine mm_iload d_M_takeNew_29 rfl ?_
            refine mm_icmp_geN d_M_takeNew_30 (by first | omega | exact ite01_lt | exact bt8_lt31 _ _ | exact godB_lt31 _ _ _ | exact pop_lt31 _ | assumption | exact b31 (hW.gp (by omega)) | exact b31 (hW.ne (by omega)) | exact b31 (hW.op (by omega)) | exact and31 (hW.gp (by omega)) | exact and31 (hW.ne (by omega)) | exact and31 (hW.op (by omega)) | exact and31 (by assumption) | exact and31r (hW.ne (by omega)) | exact and31r (hW.gp (by omega)) | exact and31r (by decide)) (by first | omega | exact ite01_lt | exact bt8_lt31 _ _ | exact godB_lt31 _ _ _ | exact pop_lt31 _ | assumption | exact b31 (hW.gp (by omega)) | exact b31 (hW.ne (by omega)) | exact b31 (hW.op (by omega)) | exact and31 (hW.gp (by omega)) | exact and31 (hW.ne (by omega)) | exact and31 (hW.op (by omega)) | exact and31 (by assumption) | exact and31r (hW.ne (by omega)) | exact and31r (hW.gp (by omega)) | exact and31r (by decide)) (fun c_30 => False.elim (by omega)) (fun c_30 => ?_)
            refine mm_iload d_M_takeNew_33 rfl ?_
            refine mm_if_eqN d_M_takeNew_35 (by first | omega | exact ite01_lt | exact bt8_lt31 _ _ | exact godB_lt31 _ _ _ | exact pop_lt31 _ | assumption | exact b31 (hW.gp (by omega)) | exact b31 (hW.ne (by omega)) | exact b31 (hW.op (by omega)) | exact and31 (hW.gp (by omega)) | exact and31 (hW.ne (by omega)) | exact and31 (hW.op (by omega)) | exact and31 (by assumption) | exact and31r (hW.ne (by omega)) | exact and31r (hW.gp (by omega)) | exact and31r (by decide)) (fun c_35 => False.elim (by omega)) (fun c_35 => ?_)
            refine mm_iload d_M_takeNew_38 rfl ?_
            refine mm_if_eqN d_M_takeNew_40 (by first | omega | exact ite01_lt | exact bt8_lt31 _ _ | exact godB_lt31 _ _ _ | exact pop_lt31 _ | assumption | exact b31 (hW.gp (by omega)) | exact b31 (hW.ne (by omega)) | exact b31 (hW.op (by omega)) | exact and31 (hW.gp (by omega)) | exact and31 (hW.ne (by omega)) | exact and31 (hW.op (by omega)) | exact and31 (by assumption) | exact and31r (hW.ne (by omega)) | exact and31r (hW.gp (by omega)) | exact and31r (by decide)) (fun c_40 => False.elim (by omega)) (fun c_40 => ?_)
            refine mm_aload d_M_takeNew_43 rfl ?_
            refine mm_getIN d_M_takeNew_44 rfl (sk_o_71 hM) e13 ?_
            refine mm_aload d_M_takeNew_47 rfl ?_
            refine mm_getP d_M_takeNew_48 rfl (sk_o_71 hM) (sk_p_71_19 hM) ?_
            refine mm_iload d_M_takeNew_51 rfl ?_
            refine mm_ialdN d_M_takeNew_53 (sk_a_81 hM) (by omega) (by decide) ri ?_
            refine mm_icmp_eqN d_M_takeNew_54 (by first | omega | exact ite01_lt | exact bt8_lt31 _ _ | exact godB_lt31 _ _ _ | exact pop_lt31 _ | assumption | exact b31 (hW.gp (by omega)) | exact b31 (hW.ne (by omega)) | exact b31 (hW.op (by omega)) | exact and31 (hW.gp (by omega)) | exact and31 (hW.ne (by omega)) | exact and31 (hW.op (by omega)) | exact and31 (by assumption) | exact and31r (hW.ne (by omega)) | exact and31r (hW.gp (by omega)) | exact and31r (by decide)) (by first | omega | exact ite01_lt | exact bt8_lt31 _ _ | exact godB_lt31 _ _ _ | exact pop_lt31 _ | assumption | exact b31 (hW.gp (by omega)) | exact b31 (hW.ne (by omega)) | exact b31 (hW.op (by omega)) | exact and31 (hW.gp (by omega)) | exact and31 (hW.ne (by omega)) | exact and31 (hW.op (by omega)) | exact and31 (by assumption) | exact and31r (hW.ne (by omega)) | exact and31r (hW.gp (by omega)) | exact and31r (by decide)) (fun c_54 => False.elim (by omega)) (fun c_54 => ?_)
            refine mm_ciN 1 d_M_takeNew_57 rfl ?_
            refine mm_goto d_M_takeNew_58 ?_
            refine mm_ist5 d_M_takeNew_62 ?_
            refine mm_inc6N d_M_takeNew_64 ?_
            refine mm_goto d_M_takeNew_67 ?_
            exact ih (i + 1) true (by omega) (by omega) ⟨fun _ => ⟨(hc.mp hcc).1, fun j hj => by by_cases w : j < i; exact (hc.mp hcc).2 j w; rw [show j = i by omega]; exact hvr⟩, fun _ => rfl⟩
        · rw [if_neg hcc]
          refine mm_iload d_M_takeNew_27 rfl ?_
          refine mm_iload d_M_takeNew_29 rfl ?_
          refine mm_icmp_geN d_M_takeNew_30 (by first | omega | exact ite01_lt | exact bt8_lt31 _ _ | exact godB_lt31 _ _ _ | exact pop_lt31 _ | assumption | exact b31 (hW.gp (by omega)) | exact b31 (hW.ne (by omega)) | exact b31 (hW.op (by omega)) | exact and31 (hW.gp (by omega)) | exact and31 (hW.ne (by omega)) | exact and31 (hW.op (by omega)) | exact and31 (by assumption) | exact and31r (hW.ne (by omega)) | exact and31r (hW.gp (by omega)) | exact and31r (by decide)) (by first | omega | exact ite01_lt | exact bt8_lt31 _ _ | exact godB_lt31 _ _ _ | exact pop_lt31 _ | assumption | exact b31 (hW.gp (by omega)) | exact b31 (hW.ne (by omega)) | exact b31 (hW.op (by omega)) | exact and31 (hW.gp (by omega)) | exact and31 (hW.ne (by omega)) | exact and31 (hW.op (by omega)) | exact and31 (by assumption) | exact and31r (hW.ne (by omega)) | exact and31r (hW.gp (by omega)) | exact and31r (by decide)) (fun c_30 => False.elim (by omega)) (fun c_30 => ?_)
          refine mm_iload d_M_takeNew_33 rfl ?_
          refine mm_if_eqN d_M_takeNew_35 (by first | omega | exact ite01_lt | exact bt8_lt31 _ _ | exact godB_lt31 _ _ _ | exact pop_lt31 _ | assumption | exact b31 (hW.gp (by omega)) | exact b31 (hW.ne (by omega)) | exact b31 (hW.op (by omega)) | exact and31 (hW.gp (by omega)) | exact and31 (hW.ne (by omega)) | exact and31 (hW.op (by omega)) | exact and31 (by assumption) | exact and31r (hW.ne (by omega)) | exact and31r (hW.gp (by omega)) | exact and31r (by decide)) (fun c_35 => False.elim (by omega)) (fun c_35 => ?_)
          refine mm_iload d_M_takeNew_38 rfl ?_
          refine mm_if_eqN d_M_takeNew_40 (by first | omega | exact ite01_lt | exact bt8_lt31 _ _ | exact godB_lt31 _ _ _ | exact pop_lt31 _ | assumption | exact b31 (hW.gp (by omega)) | exact b31 (hW.ne (by omega)) | exact b31 (hW.op (by omega)) | exact and31 (hW.gp (by omega)) | exact and31 (hW.ne (by omega)) | exact and31 (hW.op (by omega)) | exact and31 (by assumption) | exact and31r (hW.ne (by omega)) | exact and31r (hW.gp (by omega)) | exact and31r (by decide)) (fun c_40 => ?_) (fun c_40 => False.elim (by omega))
          refine mm_ciN 0 d_M_takeNew_61 rfl ?_
          refine mm_ist5 d_M_takeNew_62 ?_
          refine mm_inc6N d_M_takeNew_64 ?_
          refine mm_goto d_M_takeNew_67 ?_
          exact ih (i + 1) false (by omega) (by omega) ⟨fun z => absurd z (by decide), fun z => absurd (hc.mpr ⟨z.1, fun j hj => z.2 j (by omega)⟩) hcc⟩
    have e0 : (if lo ≤ tV u L x ∧ tV u L x ≤ hi then 1 else 0 : Nat) = if decide (lo ≤ tV u L x ∧ tV u L x ≤ hi) = true then 1 else 0 := by
      by_cases z : lo ≤ tV u L x ∧ tV u L x ≤ hi
      · rw [if_pos z, if_pos (decide_eq_true z)]
      · rw [if_neg z, if_neg (by simp; omega)]
    have hun2 : un = 0 ∨ un = 1 := by omega
    rcases hun2 with hu | hu
    · have ec : decide (lo ≤ tV u L x ∧ tV u L x ≤ hi) = canT (tV u L x) lo hi un k r := by
        apply Bool.eq_iff_iff.mpr
        rw [decide_eq_true_iff, canT_i]
        exact ⟨fun z => ⟨z, Or.inl hu⟩, fun z => z.1⟩
      rw [ec] at e0
      by_cases hk0 : k = 0
      · refine mm_aload d_M_takeNew_0 rfl ?_
        refine mm_getIV d_M_takeNew_1 rfl (sk_o_71 hM) e12 ?_
        refine mm_ciN 3 d_M_takeNew_4 rfl ?_
        refine mm_icmp_eqN d_M_takeNew_5 (by first | omega | exact ite01_lt | exact bt8_lt31 _ _ | exact godB_lt31 _ _ _ | exact pop_lt31 _ | assumption | exact b31 (hW.gp (by omega)) | exact b31 (hW.ne (by omega)) | exact b31 (hW.op (by omega)) | exact and31 (hW.gp (by omega)) | exact and31 (hW.ne (by omega)) | exact and31 (hW.op (by omega)) | exact and31 (by assumption) | exact and31r (hW.ne (by omega)) | exact and31r (hW.gp (by omega)) | exact and31r (by decide)) (by first | omega | exact ite01_lt | exact bt8_lt31 _ _ | exact godB_lt31 _ _ _ | exact pop_lt31 _ | assumption | exact b31 (hW.gp (by omega)) | exact b31 (hW.ne (by omega)) | exact b31 (hW.op (by omega)) | exact and31 (hW.gp (by omega)) | exact and31 (hW.ne (by omega)) | exact and31 (hW.op (by omega)) | exact and31 (by assumption) | exact and31r (hW.ne (by omega)) | exact and31r (hW.gp (by omega)) | exact and31r (by decide)) (fun c_5 => ?_) (fun c_5 => False.elim (by omega))
        refine mm_aload d_M_takeNew_13 rfl ?_
        refine mm_getIN d_M_takeNew_14 rfl (sk_o_71 hM) e13 ?_
        refine mm_iload d_M_takeNew_17 rfl ?_
        refine mm_iload d_M_takeNew_18 rfl ?_
        refine mm_s3i d_M_takeNew_19 (sp_M_inN (by omega) (by omega) (by omega) ?_)
        rw [e0]
        refine mm_ist5 d_M_takeNew_22 ?_
        refine mm_ciN 0 d_M_takeNew_24 rfl ?_
        refine mm_ist6 d_M_takeNew_25 ?_
        refine mm_iload d_M_takeNew_27 rfl ?_
        refine mm_iload d_M_takeNew_29 rfl ?_
        refine mm_icmp_geN d_M_takeNew_30 (by first | omega | exact ite01_lt | exact bt8_lt31 _ _ | exact godB_lt31 _ _ _ | exact pop_lt31 _ | assumption | exact b31 (hW.gp (by omega)) | exact b31 (hW.ne (by omega)) | exact b31 (hW.op (by omega)) | exact and31 (hW.gp (by omega)) | exact and31 (hW.ne (by omega)) | exact and31 (hW.op (by omega)) | exact and31 (by assumption) | exact and31r (hW.ne (by omega)) | exact and31r (hW.gp (by omega)) | exact and31r (by decide)) (by first | omega | exact ite01_lt | exact bt8_lt31 _ _ | exact godB_lt31 _ _ _ | exact pop_lt31 _ | assumption | exact b31 (hW.gp (by omega)) | exact b31 (hW.ne (by omega)) | exact b31 (hW.op (by omega)) | exact and31 (hW.gp (by omega)) | exact and31 (hW.ne (by omega)) | exact and31 (hW.op (by omega)) | exact and31 (by assumption) | exact and31r (hW.ne (by omega)) | exact and31r (hW.gp (by omega)) | exact and31r (by decide)) (fun c_30 => ?_) (fun c_30 => False.elim (by omega))
        exact fin _
      · refine mm_aload d_M_takeNew_0 rfl ?_
        refine mm_getIV d_M_takeNew_1 rfl (sk_o_71 hM) e12 ?_
        refine mm_ciN 3 d_M_takeNew_4 rfl ?_
        refine mm_icmp_eqN d_M_takeNew_5 (by first | omega | exact ite01_lt | exact bt8_lt31 _ _ | exact godB_lt31 _ _ _ | exact pop_lt31 _ | assumption | exact b31 (hW.gp (by omega)) | exact b31 (hW.ne (by omega)) | exact b31 (hW.op (by omega)) | exact and31 (hW.gp (by omega)) | exact and31 (hW.ne (by omega)) | exact and31 (hW.op (by omega)) | exact and31 (by assumption) | exact and31r (hW.ne (by omega)) | exact and31r (hW.gp (by omega)) | exact and31r (by decide)) (by first | omega | exact ite01_lt | exact bt8_lt31 _ _ | exact godB_lt31 _ _ _ | exact pop_lt31 _ | assumption | exact b31 (hW.gp (by omega)) | exact b31 (hW.ne (by omega)) | exact b31 (hW.op (by omega)) | exact and31 (hW.gp (by omega)) | exact and31 (hW.ne (by omega)) | exact and31 (hW.op (by omega)) | exact and31 (by assumption) | exact and31r (hW.ne (by omega)) | exact and31r (hW.gp (by omega)) | exact and31r (by decide)) (fun c_5 => ?_) (fun c_5 => False.elim (by omega))
        refine mm_aload d_M_takeNew_13 rfl ?_
        refine mm_getIN d_M_takeNew_14 rfl (sk_o_71 hM) e13 ?_
        refine mm_iload d_M_takeNew_17 rfl ?_
        refine mm_iload d_M_takeNew_18 rfl ?_
        refine mm_s3i d_M_takeNew_19 (sp_M_inN (by omega) (by omega) (by omega) ?_)
        rw [e0]
        refine mm_ist5 d_M_takeNew_22 ?_
        refine mm_ciN 0 d_M_takeNew_24 rfl ?_
        refine mm_ist6 d_M_takeNew_25 ?_
        refine mm_iload d_M_takeNew_27 rfl ?_
        refine mm_iload d_M_takeNew_29 rfl ?_
        refine mm_icmp_geN d_M_takeNew_30 (by first | omega | exact ite01_lt | exact bt8_lt31 _ _ | exact godB_lt31 _ _ _ | exact pop_lt31 _ | assumption | exact b31 (hW.gp (by omega)) | exact b31 (hW.ne (by omega)) | exact b31 (hW.op (by omega)) | exact and31 (hW.gp (by omega)) | exact and31 (hW.ne (by omega)) | exact and31 (hW.op (by omega)) | exact and31 (by assumption) | exact and31r (hW.ne (by omega)) | exact and31r (hW.gp (by omega)) | exact and31r (by decide)) (by first | omega | exact ite01_lt | exact bt8_lt31 _ _ | exact godB_lt31 _ _ _ | exact pop_lt31 _ | assumption | exact b31 (hW.gp (by omega)) | exact b31 (hW.ne (by omega)) | exact b31 (hW.op (by omega)) | exact and31 (hW.gp (by omega)) | exact and31 (hW.ne (by omega)) | exact and31 (hW.op (by omega)) | exact and31 (by assumption) | exact and31r (hW.ne (by omega)) | exact and31r (hW.gp (by omega)) | exact and31r (by decide)) (fun c_30 => False.elim (by omega)) (fun c_30 => ?_)
        refine mm_iload d_M_takeNew_33 rfl ?_
        refine mm_if_eqN d_M_takeNew_35 (by first | omega | exact ite01_lt | exact bt8_lt31 _ _ | exact godB_lt31 _ _ _ | exact pop_lt31 _ | assumption | exact b31 (hW.gp (by omega)) | exact b31 (hW.ne (by omega)) | exact b31 (hW.op (by omega)) | exact and31 (hW.gp (by omega)) | exact and31 (hW.ne (by omega)) | exact and31 (hW.op (by omega)) | exact and31 (by assumption) | exact and31r (hW.ne (by omega)) | exact and31r (hW.gp (by omega)) | exact and31r (by decide)) (fun c_35 => ?_) (fun c_35 => False.elim (by omega))
        exact fin _
    · refine mm_aload d_M_takeNew_0 rfl ?_
      refine mm_getIV d_M_takeNew_1 rfl (sk_o_71 hM) e12 ?_
      refine mm_ciN 3 d_M_takeNew_4 rfl ?_
      refine mm_icmp_eqN d_M_takeNew_5 (by first | omega | exact ite01_lt | exact bt8_lt31 _ _ | exact godB_lt31 _ _ _ | exact pop_lt31 _ | assumption | exact b31 (hW.gp (by omega)) | exact b31 (hW.ne (by omega)) | exact b31 (hW.op (by omega)) | exact and31 (hW.gp (by omega)) | exact and31 (hW.ne (by omega)) | exact and31 (hW.op (by omega)) | exact and31 (by assumption) | exact and31r (hW.ne (by omega)) | exact and31r (hW.gp (by omega)) | exact and31r (by decide)) (by first | omega | exact ite01_lt | exact bt8_lt31 _ _ | exact godB_lt31 _ _ _ | exact pop_lt31 _ | assumption | exact b31 (hW.gp (by omega)) | exact b31 (hW.ne (by omega)) | exact b31 (hW.op (by omega)) | exact and31 (hW.gp (by omega)) | exact and31 (hW.ne (by omega)) | exact and31 (hW.op (by omega)) | exact and31 (by assumption) | exact and31r (hW.ne (by omega)) | exact and31r (hW.gp (by omega)) | exact and31r (by decide)) (fun c_5 => ?_) (fun c_5 => False.elim (by omega))
      refine mm_aload d_M_takeNew_13 rfl ?_
      refine mm_getIN d_M_takeNew_14 rfl (sk_o_71 hM) e13 ?_
      refine mm_iload d_M_takeNew_17 rfl ?_
      refine mm_iload d_M_takeNew_18 rfl ?_
      refine mm_s3i d_M_takeNew_19 (sp_M_inN (by omega) (by omega) (by omega) ?_)
      rw [e0]
      refine mm_ist5 d_M_takeNew_22 ?_
      refine mm_ciN 0 d_M_takeNew_24 rfl ?_
      refine mm_ist6 d_M_takeNew_25 ?_
      exact loop hu k 0 _ rfl (Nat.zero_le _) ⟨fun z => ⟨of_decide_eq_true z, fun j hj => absurd hj (Nat.not_lt_zero j)⟩, fun z => decide_eq_true z.1⟩
  · have e3 : mK (tK u L x) ≠ 3 := by unfold mK; split <;> (try split) <;> omega
    refine mm_aload d_M_takeNew_0 rfl ?_
    refine mm_getIN d_M_takeNew_1 rfl (sk_o_71 hM) hT.2.2.1 ?_
    refine mm_ciN 3 d_M_takeNew_4 rfl ?_
    refine mm_icmp_eqN d_M_takeNew_5 (by first | omega | exact ite01_lt | exact bt8_lt31 _ _ | exact godB_lt31 _ _ _ | exact pop_lt31 _ | assumption | exact b31 (hW.gp (by omega)) | exact b31 (hW.ne (by omega)) | exact b31 (hW.op (by omega)) | exact and31 (hW.gp (by omega)) | exact and31 (hW.ne (by omega)) | exact and31 (hW.op (by omega)) | exact and31 (by assumption) | exact and31r (hW.ne (by omega)) | exact and31r (hW.gp (by omega)) | exact and31r (by decide)) (by first | omega | exact ite01_lt | exact bt8_lt31 _ _ | exact godB_lt31 _ _ _ | exact pop_lt31 _ | assumption | exact b31 (hW.gp (by omega)) | exact b31 (hW.ne (by omega)) | exact b31 (hW.op (by omega)) | exact and31 (hW.gp (by omega)) | exact and31 (hW.ne (by omega)) | exact and31 (hW.op (by omega)) | exact and31 (by assumption) | exact and31r (hW.ne (by omega)) | exact and31r (hW.gp (by omega)) | exact and31r (by decide)) (fun c_5 => False.elim (by omega)) (fun c_5 => ?_)
    refine mm_aload d_M_takeNew_8 rfl ?_
    refine mm_v0i d_M_takeNew_9 (sk_o_71 hM) (sp_M_fails hM hT.2.1 ?_)
    exact mm_rz d_M_takeNew_12 (h0 h3 _ (K2.rf.sI (by omega)) (by rw [mm_I_sI, if_pos ⟨rfl, rfl⟩]))
