/-! texts: the model's year and log lines -/
theorem sp_LMe {X : mm_X} {μ ν : mm_M} {q : Int32 → mm_M → Prop} {u : Nat → Nat} {L p k f0 p0 i lo hi : Nat} (hl : LM k 1 u L p f0 p0 μ ν i) (hp : p ≤ L) (ho : 1 + i < 3) (hlo : lo < 100) (hhi : hi < 100) (hcb : canT (vv u L p i) lo hi 0 (1 + i) (vv u L p) = cb k (vv u L p) i) (h0 : tK u L (ps u L p i) ≠ 3 → ∀ ξ, K2 μ ξ → mm_I ξ 71 15 = nI (tP u L (ps u L p i)) → q (nI 0) ξ) (h1 : tK u L (ps u L p i) = 3 → ∀ ξ, LM k 1 u L p f0 p0 μ ξ (i + 1) → (∀ j, j ≠ 1 + i → mm_I ξ 81 j = mm_I ν 81 j) → q (nI 1) ξ) : mm_Ci X 2 0 0 k_M_takeNew [.ref 71, .int (nI (1 + i)), .int (nI lo), .int (nI hi), .int (nI 0)] ν q := by
  obtain ⟨a1, a2, a3, a4, a5, a6⟩ := hl
  refine sp_M_takeNew (r := vv u L p) a2 a3 (ps_le hp i) a4 ho hlo hhi (by decide) (fun hu j hj => absurd hu (by decide)) a5 (fun h3 ξ kx e => h0 h3 ξ (a1.trans kx) e) (fun h3 ξ kx tk lf g e81 => ?_)
  rw [show tV u L (ps u L p i) = vv u L p i from rfl] at *
  refine h1 h3 ξ ⟨a1.trans kx, a2.k2 kx, tk, ?_, ?_, fun j hj => ?_⟩ (fun j hj => by rw [e81, if_neg hj])
  · rw [hcb] at lf; exact lf
  · rw [hcb] at g; exact g
  · rw [e81]
    by_cases z : j = i
    · rw [z, if_pos rfl]; exact ⟨rfl, h3⟩
    · rw [if_neg (by omega)]; exact a6 j (by omega)
def RM1 (t : Nat → Nat) (ν : mm_M) : Prop := mm_I ν 80 0 = nI (t 0) ∧ ∀ j, j < t 0 → mm_I ν 80 (1 + 3 * j) = nI (t (1 + 3 * j)) ∧ mm_I ν 80 (1 + 3 * j + 1) = yv1 t j ∧ mm_I ν 80 (1 + 3 * j + 2) = yv2 t j
def RM2 (t : Nat → Nat) (ν : mm_M) : Prop := mm_I ν 80 0 = nI (t 0) ∧ ∀ j, j < t 0 → mm_I ν 80 (1 + 2 * j) = nI (t (1 + 2 * j)) ∧ mm_I ν 80 (1 + 2 * j + 1) = nI (t (1 + 2 * j + 1))
def MBn (m : Nat) (ν : mm_M) : Prop := ∃ c : Nat, c ≤ m ∧ mm_I ν 80 0 = nI c
/-- how a line ends, told, of the sort s -/
def EndG (RM : (Nat → Nat) → mm_M → Prop) (MB : mm_M → Prop) (s k : Nat) (u : Nat → Nat) (L p f0 p0 : Nat) (μ ξ : mm_M) : Prop := K5 μ ξ ∧ Tk2 u L (ps u L p (nu k)) ξ ∧ LF (ff k (vv u L p) f0 (nu k)) (pp k (vv u L p) (fun j => tP u L (ps u L p j)) f0 p0 (nu k)) (tP u L (ps u L p (nu k))) ξ ∧ (∀ j, j < nu k → tK u L (ps u L p j) = 3) ∧ MB ξ ∧ ∀ t, RM t μ → WfT s t → ¬ fu k t = true → (∀ j, j < nu k → cb k (vv u L p) j = true) → RM (stp k (vv u L p) t) ξ
def keepF (f r : Nat → Int32) (w c j : Nat) (i : Nat) : Int32 := if 1 + w * c ≤ j ∧ j < 1 + w * c + i then r (j - (1 + w * c)) else f j
theorem keepF_s {f r : Nat → Int32} {w c i j : Nat} : (if j = 1 + w * c + i then r i else keepF f r w c j i) = keepF f r w c j (i + 1) := by
  unfold keepF
  by_cases h : j = 1 + w * c + i
  · subst h
    rw [if_pos rfl, if_pos (by omega), show 1 + w * c + i - (1 + w * c) = i by omega]
  · rw [if_neg h]
    by_cases h2 : 1 + w * c ≤ j ∧ j < 1 + w * c + i
    · rw [if_pos h2, if_pos (by omega)]
    · rw [if_neg h2, if_neg (by omega)]
def sc80 (a : Nat) : Bool := a == 80
theorem sp_M_keepRow {X : mm_X} {μ : mm_M} {q : mm_M → Prop} {w m c : Nat} (hM : SK μ) (hw : w ≤ 3) (hc : mm_I μ 80 0 = nI c) (hcm : c ≤ m) (hwm : w * m ≤ 120) (hwc : c < m → w * c + w ≤ w * m) (hm : m < 100) (h0 : c = m → q μ) (h1 : c < m → ∀ ν, Fr sc80 μ ν → mm_P ν = mm_P μ → mm_J ν = mm_J μ → (∀ j, mm_I ν 80 j = if j = 0 then nI (c + 1) else keepF (mm_I μ 80) (mm_I μ 81) w c j w) → q ν) : mm_Cv X 0 0 0 k_M_keepRow [.ref 71, .int (nI w), .int (nI m)] μ q := by
  show mm_T X 0 0 0 k_M_keepRow 0 [some (.ref 71), some (.int (nI w)), some (.int (nI m)), none, none] [] μ _
  by_cases hcc : c = m
  · refine mm_aload d_M_keepRow_0 rfl ?_
    refine mm_getP d_M_keepRow_1 rfl (sk_o_71 hM) (sk_p_71_18 hM) ?_
    refine mm_ciN 0 d_M_keepRow_4 rfl ?_
    refine mm_ialdN d_M_keepRow_5 (sk_a_80 hM) (by omega) (by decide) hc ?_
    refine mm_ist3 d_M_keepRow_6 ?_
    refine mm_iload d_M_keepRow_7 rfl ?_
    refine mm_iload d_M_keepRow_8 rfl ?_
    refine mm_icmp_neN d_M_keepRow_9 (by first | omega | exact ite01_lt | exact bt8_lt31 _ _ | exact godB_lt31 _ _ _ | exact pop_lt31 _ | assumption | exact b31 (hW.gp (by omega)) | exact b31 (hW.ne (by omega)) | exact b31 (hW.op (by omega)) | exact and31 (hW.gp (by omega)) | exact and31 (hW.ne (by omega)) | exact and31 (hW.op (by omega)) | exact and31 (by assumption) | exact and31r (hW.ne (by omega)) | exact and31r (hW.gp (by omega)) | exact and31r (by decide)) (by first | omega | exact ite01_lt | exact bt8_lt31 _ _ | exact godB_lt31 _ _ _ | exact pop_lt31 _ | assumption | exact b31 (hW.gp (by omega)) | exact b31 (hW.ne (by omega)) | exact b31 (hW.op (by omega)) | exact and31 (hW.gp (by omega)) | exact and31 (hW.ne (by omega)) | exact and31 (hW.op (by omega)) | exact and31 (by assumption) | exact and31r (hW.ne (by omega)) | exact and31r (hW.gp (by omega)) | exact and31r (by decide)) (fun c_9 => False.elim (by omega)) (fun c_9 => ?_)
    exact mm_rv d_M_keepRow_12 (h0 hcc)
  · have hwc' := hwc (by omega)
    have loop : ∀ (n i : Nat) (ν : mm_M), w - i = n → i ≤ w → Fr sc80 μ ν → mm_P ν = mm_P μ → mm_J ν = mm_J μ → (∀ j, mm_I ν 80 j = keepF (mm_I μ 80) (mm_I μ 81) w c j i) → mm_T X 0 0 0 k_M_keepRow 16 [some (.ref 71), some (.int (nI w)), some (.int (nI m)), some (.int (nI c)), some (.int (nI i))] [] ν (fun z μ' => z = none ∧ q μ') := by
      intro n
      induction n with
      | zero =>
        intro i ν hn hi hf hP hJ e
        obtain rfl : i = w := by omega
        have hM := hf.2.2.2 hM
        have ec : mm_I ν 80 0 = nI c := by rw [e]; unfold keepF; rw [if_neg (by omega)]; exact hc
        refine mm_iload d_M_keepRow_16 rfl ?_
        refine mm_iload d_M_keepRow_18 rfl ?_
        refine mm_icmp_geN d_M_keepRow_19 (by first | omega | exact ite01_lt | exact bt8_lt31 _ _ | exact godB_lt31 _ _ _ | exact pop_lt31 _ | assumption | exact b31 (hW.gp (by omega)) | exact b31 (hW.ne (by omega)) | exact b31 (hW.op (by omega)) | exact and31 (hW.gp (by omega)) | exact and31 (hW.ne (by omega)) | exact and31 (hW.op (by omega)) | exact and31 (by assumption) | exact and31r (hW.ne (by omega)) | exact and31r (hW.gp (by omega)) | exact and31r (by decide)) (by first | omega | exact ite01_lt | exact bt8_lt31 _ _ | exact godB_lt31 _ _ _ | exact pop_lt31 _ | assumption | exact b31 (hW.gp (by omega)) | exact b31 (hW.ne (by omega)) | exact b31 (hW.op (by omega)) | exact and31 (hW.gp (by omega)) | exact and31 (hW.ne (by omega)) | exact and31 (hW.op (by omega)) | exact and31 (by assumption) | exact and31r (hW.ne (by omega)) | exact and31r (hW.gp (by omega)) | exact and31r (by decide)) (fun c_19 => ?_) (fun c_19 => False.elim (by omega))
        refine mm_aload d_M_keepRow_48 rfl ?_
        refine mm_getP d_M_keepRow_49 rfl (sk_o_71 hM) (sk_p_71_18 hM) ?_
        refine mm_ciN 0 d_M_keepRow_52 rfl ?_
        refine mm_dup2 d_M_keepRow_53 rfl rfl ?_
        refine mm_ialdN d_M_keepRow_54 (sk_a_80 hM) (by omega) (by decide) ec ?_
        refine mm_ciN 1 d_M_keepRow_55 rfl ?_
        refine mm_iaddN d_M_keepRow_56 ?_
        refine mm_iastX d_M_keepRow_57 (sk_a_80 hM) (by omega) (by decide) ?_
        exact mm_rv d_M_keepRow_58 (h1 (by omega) _ (hf.sI rfl) hP hJ (fun j => by rw [mm_I_sI]; by_cases z : j = 0; rw [if_pos z, if_pos ⟨rfl, z⟩]; rw [if_neg z, if_neg (fun y => z y.2)]; exact e j))
      | succ n ih =>
        intro i ν hn hi hf hP hJ e
        have hM := hf.2.2.2 hM
        have e81 : mm_I ν 81 = mm_I μ 81 := (hf.2.2.1 81 rfl).1
        refine mm_iload d_M_keepRow_16 rfl ?_
        refine mm_iload d_M_keepRow_18 rfl ?_
        refine mm_icmp_geN d_M_keepRow_19 (by first | omega | exact ite01_lt | exact bt8_lt31 _ _ | exact godB_lt31 _ _ _ | exact pop_lt31 _ | assumption | exact b31 (hW.gp (by omega)) | exact b31 (hW.ne (by omega)) | exact b31 (hW.op (by omega)) | exact and31 (hW.gp (by omega)) | exact and31 (hW.ne (by omega)) | exact and31 (hW.op (by omega)) | exact and31 (by assumption) | exact and31r (hW.ne (by omega)) | exact and31r (hW.gp (by omega)) | exact and31r (by decide)) (by first | omega | exact ite01_lt | exact bt8_lt31 _ _ | exact godB_lt31 _ _ _ | exact pop_lt31 _ | assumption | exact b31 (hW.gp (by omega)) | exact b31 (hW.ne (by omega)) | exact b31 (hW.op (by omega)) | exact and31 (hW.gp (by omega)) | exact and31 (hW.ne (by omega)) | exact and31 (hW.op (by omega)) | exact and31 (by assumption) | exact and31r (hW.ne (by omega)) | exact and31r (hW.gp (by omega)) | exact and31r (by decide)) (fun c_19 => False.elim (by omega)) (fun c_19 => ?_)
        refine mm_aload d_M_keepRow_22 rfl ?_
        refine mm_getP d_M_keepRow_23 rfl (sk_o_71 hM) (sk_p_71_18 hM) ?_
        refine mm_ciN 1 d_M_keepRow_26 rfl ?_
        refine mm_iload d_M_keepRow_27 rfl ?_
        refine mm_iload d_M_keepRow_28 rfl ?_
        refine mm_imulN d_M_keepRow_29 ?_
        refine mm_iaddN d_M_keepRow_30 ?_
        refine mm_iload d_M_keepRow_31 rfl ?_
        refine mm_iaddN d_M_keepRow_33 ?_
        refine mm_aload d_M_keepRow_34 rfl ?_
        refine mm_getP d_M_keepRow_35 rfl (sk_o_71 hM) (sk_p_71_19 hM) ?_
        refine mm_iload d_M_keepRow_38 rfl ?_
        refine mm_ialdV d_M_keepRow_40 (sk_a_81 hM) (by omega) (by decide) (show _ = mm_I μ 81 i by rw [e81]) ?_
        refine mm_iastX d_M_keepRow_41 (sk_a_80 hM) (by omega) (by decide) ?_
        refine mm_inc4N d_M_keepRow_42 ?_
        refine mm_goto d_M_keepRow_45 ?_
        exact ih (i + 1) _ (by omega) (by omega) (hf.sI rfl) hP hJ (fun j => by rw [mm_I_sI, ← keepF_s]; by_cases z : j = 1 + w * c + i; rw [if_pos z, if_pos ⟨rfl, z⟩]; rw [if_neg z, if_neg (fun y => z y.2)]; exact e j)
    refine mm_aload d_M_keepRow_0 rfl ?_
    refine mm_getP d_M_keepRow_1 rfl (sk_o_71 hM) (sk_p_71_18 hM) ?_
    refine mm_ciN 0 d_M_keepRow_4 rfl ?_
    refine mm_ialdN d_M_keepRow_5 (sk_a_80 hM) (by omega) (by decide) hc ?_
    refine mm_ist3 d_M_keepRow_6 ?_
    refine mm_iload d_M_keepRow_7 rfl ?_
    refine mm_iload d_M_keepRow_8 rfl ?_
    refine mm_icmp_neN d_M_keepRow_9 (by first | omega | exact ite01_lt | exact bt8_lt31 _ _ | exact godB_lt31 _ _ _ | exact pop_lt31 _ | assumption | exact b31 (hW.gp (by omega)) | exact b31 (hW.ne (by omega)) | exact b31 (hW.op (by omega)) | exact and31 (hW.gp (by omega)) | exact and31 (hW.ne (by omega)) | exact and31 (hW.op (by omega)) | exact and31 (by assumption) | exact and31r (hW.ne (by omega)) | exact and31r (hW.gp (by omega)) | exact and31r (by decide)) (by first | omega | exact ite01_lt | exact bt8_lt31 _ _ | exact godB_lt31 _ _ _ | exact pop_lt31 _ | assumption | exact b31 (hW.gp (by omega)) | exact b31 (hW.ne (by omega)) | exact b31 (hW.op (by omega)) | exact and31 (hW.gp (by omega)) | exact and31 (hW.ne (by omega)) | exact and31 (hW.op (by omega)) | exact and31 (by assumption) | exact and31r (hW.ne (by omega)) | exact and31r (hW.gp (by omega)) | exact and31r (by decide)) (fun c_9 => ?_) (fun c_9 => False.elim (by omega))
    refine mm_ciN 0 d_M_keepRow_13 rfl ?_
    refine mm_ist4 d_M_keepRow_14 ?_
    exact loop w 0 μ rfl (Nat.zero_le _) Fr.rf rfl rfl (fun j => by unfold keepF; rw [if_neg (by omega)])
theorem RM1_keep {μ ν : mm_M} {t : Nat → Nat} {kd a b c : Nat} (h : RM1 t μ) (hc : t 0 = c) (hr0 : mm_I μ 81 0 = nI kd) (hr1 : mm_I μ 81 1 = if kd < 4 then nI a else -1) (hr2 : mm_I μ 81 2 = if kd < 2 then nI b else -1) (e : ∀ j, mm_I ν 80 j = if j = 0 then nI (c + 1) else keepF (mm_I μ 80) (mm_I μ 81) 3 c j 3) : RM1 (up (up (up (up t (1 + 3 * t 0) kd) (1 + 3 * t 0 + 1) a) (1 + 3 * t 0 + 2) b) 0 (t 0 + 1)) ν := by
  subst hc
  refine ⟨by rw [e, if_pos rfl]; rfl, fun j hj => ?_⟩
  have hj' : j < t 0 + 1 := hj
  unfold yv1 yv2
  by_cases w : j = t 0
  · have e1 : (up (up (up (up t (1 + 3 * t 0) kd) (1 + 3 * t 0 + 1) a) (1 + 3 * t 0 + 2) b) 0 (t 0 + 1)) (1 + 3 * t 0) = kd := by unfold up; (repeat (first | rw [if_neg (by first | omega | (intro z; have := z.2; omega))] | rw [if_pos (by first | omega | trivial | (refine ⟨trivial, ?_⟩; first | trivial | omega))]))
    have e2 : (up (up (up (up t (1 + 3 * t 0) kd) (1 + 3 * t 0 + 1) a) (1 + 3 * t 0 + 2) b) 0 (t 0 + 1)) (1 + 3 * t 0 + 1) = a := by unfold up; (repeat (first | rw [if_neg (by first | omega | (intro z; have := z.2; omega))] | rw [if_pos (by first | omega | trivial | (refine ⟨trivial, ?_⟩; first | trivial | omega))]))
    have e3 : (up (up (up (up t (1 + 3 * t 0) kd) (1 + 3 * t 0 + 1) a) (1 + 3 * t 0 + 2) b) 0 (t 0 + 1)) (1 + 3 * t 0 + 2) = b := by unfold up; (repeat (first | rw [if_neg (by first | omega | (intro z; have := z.2; omega))] | rw [if_pos (by first | omega | trivial | (refine ⟨trivial, ?_⟩; first | trivial | omega))]))
    have k0 : mm_I ν 80 (1 + 3 * t 0) = mm_I μ 81 0 := by rw [e, if_neg (by omega)]; unfold keepF; rw [if_pos (by omega), show 1 + 3 * t 0 - (1 + 3 * t 0) = 0 by omega]
    have k1 : mm_I ν 80 (1 + 3 * t 0 + 1) = mm_I μ 81 1 := by rw [e, if_neg (by omega)]; unfold keepF; rw [if_pos (by omega), show 1 + 3 * t 0 + 1 - (1 + 3 * t 0) = 1 by omega]
    have k2 : mm_I ν 80 (1 + 3 * t 0 + 2) = mm_I μ 81 2 := by rw [e, if_neg (by omega)]; unfold keepF; rw [if_pos (by omega), show 1 + 3 * t 0 + 2 - (1 + 3 * t 0) = 2 by omega]
    rw [w, e1, e2, e3, k0, k1, k2]
    exact ⟨hr0, hr1, hr2⟩
  · have e1 : (up (up (up (up t (1 + 3 * t 0) kd) (1 + 3 * t 0 + 1) a) (1 + 3 * t 0 + 2) b) 0 (t 0 + 1)) (1 + 3 * j) = t (1 + 3 * j) := by unfold up; (repeat (first | rw [if_neg (by first | omega | (intro z; have := z.2; omega))] | rw [if_pos (by first | omega | trivial | (refine ⟨trivial, ?_⟩; first | trivial | omega))]))
    have e2 : (up (up (up (up t (1 + 3 * t 0) kd) (1 + 3 * t 0 + 1) a) (1 + 3 * t 0 + 2) b) 0 (t 0 + 1)) (1 + 3 * j + 1) = t (1 + 3 * j + 1) := by unfold up; (repeat (first | rw [if_neg (by first | omega | (intro z; have := z.2; omega))] | rw [if_pos (by first | omega | trivial | (refine ⟨trivial, ?_⟩; first | trivial | omega))]))
    have e3 : (up (up (up (up t (1 + 3 * t 0) kd) (1 + 3 * t 0 + 1) a) (1 + 3 * t 0 + 2) b) 0 (t 0 + 1)) (1 + 3 * j + 2) = t (1 + 3 * j + 2) := by unfold up; (repeat (first | rw [if_neg (by first | omega | (intro z; have := z.2; omega))] | rw [if_pos (by first | omega | trivial | (refine ⟨trivial, ?_⟩; first | trivial | omega))]))
    have ko : ∀ i, i < 3 → mm_I ν 80 (1 + 3 * j + i) = mm_I μ 80 (1 + 3 * j + i) := fun i hi => by rw [e, if_neg (by omega)]; unfold keepF; rw [if_neg (by omega)]
    rw [e1, e2, e3, show mm_I ν 80 (1 + 3 * j) = mm_I μ 80 (1 + 3 * j) from ko 0 (by decide), ko 1 (by decide), ko 2 (by decide)]
    exact h.2 j (by omega)
theorem RM2_keep {μ ν : mm_M} {t : Nat → Nat} {kd a c : Nat} (h : RM2 t μ) (hc : t 0 = c) (hr0 : mm_I μ 81 0 = nI kd) (hr1 : mm_I μ 81 1 = nI a) (e : ∀ j, mm_I ν 80 j = if j = 0 then nI (c + 1) else keepF (mm_I μ 80) (mm_I μ 81) 2 c j 2) : RM2 (up (up (up t (1 + 2 * t 0) kd) (1 + 2 * t 0 + 1) a) 0 (t 0 + 1)) ν := by
  subst hc
  refine ⟨by rw [e, if_pos rfl]; rfl, fun j hj => ?_⟩
  have hj' : j < t 0 + 1 := hj
  by_cases w : j = t 0
  · have e1 : (up (up (up t (1 + 2 * t 0) kd) (1 + 2 * t 0 + 1) a) 0 (t 0 + 1)) (1 + 2 * t 0) = kd := by unfold up; (repeat (first | rw [if_neg (by first | omega | (intro z; have := z.2; omega))] | rw [if_pos (by first | omega | trivial | (refine ⟨trivial, ?_⟩; first | trivial | omega))]))
    have e2 : (up (up (up t (1 + 2 * t 0) kd) (1 + 2 * t 0 + 1) a) 0 (t 0 + 1)) (1 + 2 * t 0 + 1) = a := by unfold up; (repeat (first | rw [if_neg (by first | omega | (intro z; have := z.2; omega))] | rw [if_pos (by first | omega | trivial | (refine ⟨trivial, ?_⟩; first | trivial | omega))]))
    have k0 : mm_I ν 80 (1 + 2 * t 0) = mm_I μ 81 0 := by rw [e, if_neg (by omega)]; unfold keepF; rw [if_pos (by omega), show 1 + 2 * t 0 - (1 + 2 * t 0) = 0 by omega]
    have k1 : mm_I ν 80 (1 + 2 * t 0 + 1) = mm_I μ 81 1 := by rw [e, if_neg (by omega)]; unfold keepF; rw [if_pos (by omega), show 1 + 2 * t 0 + 1 - (1 + 2 * t 0) = 1 by omega]
    rw [w, e1, e2, k0, k1]
    exact ⟨hr0, hr1⟩
  · have e1 : (up (up (up t (1 + 2 * t 0) kd) (1 + 2 * t 0 + 1) a) 0 (t 0 + 1)) (1 + 2 * j) = t (1 + 2 * j) := by unfold up; (repeat (first | rw [if_neg (by first | omega | (intro z; have := z.2; omega))] | rw [if_pos (by first | omega | trivial | (refine ⟨trivial, ?_⟩; first | trivial | omega))]))
    have e2 : (up (up (up t (1 + 2 * t 0) kd) (1 + 2 * t 0 + 1) a) 0 (t 0 + 1)) (1 + 2 * j + 1) = t (1 + 2 * j + 1) := by unfold up; (repeat (first | rw [if_neg (by first | omega | (intro z; have := z.2; omega))] | rw [if_pos (by first | omega | trivial | (refine ⟨trivial, ?_⟩; first | trivial | omega))]))
    have ko : ∀ i, i < 2 → mm_I ν 80 (1 + 2 * j + i) = mm_I μ 80 (1 + 2 * j + i) := fun i hi => by rw [e, if_neg (by omega)]; unfold keepF; rw [if_neg (by omega)]
    rw [e1, e2, show mm_I ν 80 (1 + 2 * j) = mm_I μ 80 (1 + 2 * j) from ko 0 (by decide), ko 1 (by decide)]
    exact h.2 j (by omega)
