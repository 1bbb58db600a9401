/-! the model's copies -/
theorem Fr.ar {S : Nat → Bool} {μ ν : mm_M} {a t k : Nat} (hf : Fr S μ ν) (h : mm_ar μ a t k) : mm_ar ν a t k := ⟨by rw [hf.1]; exact h.1, by rw [hf.2.1]; exact h.2.1, h.2.2⟩
theorem byte_fix {x : Int32} (h : fits .byte (.int x) = true) : vp_nar .byte x = x := by
  rw [vp_nar_byte]
  have h1 : (-128 : Int32).toInt = -128 := by decide
  have h2 : (127 : Int32).toInt = 127 := by decide
  simp only [fits, Bool.and_eq_true, decide_eq_true_eq, Int32.le_iff_toInt_le, h1, h2] at h
  apply Int32.toInt_inj.mp
  rw [Int8.toInt_toInt32, Int32.toInt_toInt8]
  exact Int.bmod_eq_of_le (by omega) (by omega)
def cpr (g : Nat → Int32) (n f t i j : Nat) : Int32 := if n * t ≤ j ∧ j < n * t + i then g (n * f + (j - n * t)) else g j
theorem cpr_0 {g : Nat → Int32} {n f t j : Nat} : g j = cpr g n f t 0 j := by unfold cpr; rw [if_neg (by omega)]
theorem cpr_s {g : Nat → Int32} {n f t i j : Nat} : (if j = n * t + i then g (n * f + i) else cpr g n f t i j) = cpr g n f t (i + 1) j := by
  unfold cpr
  by_cases h : j = n * t + i
  · subst h
    rw [if_pos rfl, if_pos (by omega), show n * t + i - n * t = i by omega]
  · rw [if_neg h]
    by_cases h2 : n * t ≤ j ∧ j < n * t + i
    · rw [if_pos h2, if_pos (by omega)]
    · rw [if_neg h2, if_neg (by omega)]
theorem cpr_f {g : Nat → Int32} {n f t i j : Nat} (h : n * f + n ≤ n * t ∨ n * t + n ≤ n * f) (hi : i ≤ n) (hj : j < n) : cpr g n f t i (n * f + j) = g (n * f + j) := by
  unfold cpr
  rw [if_neg (by omega)]
theorem cpr_in {g : Nat → Int32} {n f t j : Nat} (h : j < n) : cpr g n f t n (n * t + j) = g (n * f + j) := by
  unfold cpr
  rw [if_pos (by omega), show n * t + j - n * t = j by omega]
theorem cpr_out {g : Nat → Int32} {n f t e j : Nat} (h : n * e + n ≤ n * t ∨ n * t + n ≤ n * e) (hj : j < n) : cpr g n f t n (n * e + j) = g (n * e + j) := by
  unfold cpr
  rw [if_neg (by omega)]
theorem sp_M_copyRow {X : mm_X} {μ : mm_M} {q : mm_M → Prop} {r L n f t : Nat} (hr : mm_ar μ r 0 L) (hL : L < 2 ^ 31) (h1 : n * f + n ≤ L) (h2 : n * t + n ≤ L) (h3 : n * f + n ≤ n * t ∨ n * t + n ≤ n * f) (h : ∀ ν, Fr (fun x => x == r) μ ν → mm_I ν r = cpr (mm_I μ r) n f t n → q ν) : mm_Cv X 0 0 0 k_M_copyRow [.ref r, .int (nI n), .int (nI f), .int (nI t)] μ q := by
  show mm_T X 0 0 0 k_M_copyRow 0 [some (.ref r), some (.int (nI n)), some (.int (nI f)), some (.int (nI t)), none] [] μ _
  refine mm_ciN 0 d_M_copyRow_0 rfl ?_
  refine mm_ist4 d_M_copyRow_1 ?_
  refine mm_up (P := fun i => ∀ ν, (Fr (fun x => x == r) μ ν ∧ ∀ j, mm_I ν r j = cpr (mm_I μ r) n f t i j) → mm_T X _ 0 0 k_M_copyRow 3 [some (.ref r), some (.int (nI n)), some (.int (nI f)), some (.int (nI t)), some (.int (nI i))] [] ν _) (n) ?_ ?_ _ ⟨Fr.rf, fun j => cpr_0⟩
  · intro ν hI
    obtain ⟨hf, et⟩ := hI
    have ha := hf.ar hr
    refine mm_iload d_M_copyRow_3 rfl ?_
    refine mm_iload d_M_copyRow_5 rfl ?_
    refine mm_icmp_geN d_M_copyRow_6 (by first | omega | exact ite01_lt | exact bt8_lt31 _ _ | exact godB_lt31 _ _ _ | exact pop_lt31 _ | assumption | exact b31 (hW.gp (by omega)) | exact b31 (hW.ne (by omega)) | exact b31 (hW.op (by omega)) | exact and31 (hW.gp (by omega)) | exact and31 (hW.ne (by omega)) | exact and31 (hW.op (by omega)) | exact and31 (by assumption) | exact and31r (hW.ne (by omega)) | exact and31r (hW.gp (by omega)) | exact and31r (by decide)) (by first | omega | exact ite01_lt | exact bt8_lt31 _ _ | exact godB_lt31 _ _ _ | exact pop_lt31 _ | assumption | exact b31 (hW.gp (by omega)) | exact b31 (hW.ne (by omega)) | exact b31 (hW.op (by omega)) | exact and31 (hW.gp (by omega)) | exact and31 (hW.ne (by omega)) | exact and31 (hW.op (by omega)) | exact and31 (by assumption) | exact and31r (hW.ne (by omega)) | exact and31r (hW.gp (by omega)) | exact and31r (by decide)) (fun c_6 => ?_) (fun c_6 => False.elim (by omega))
    exact mm_rv d_M_copyRow_31 (h ν hf (funext et))
  · intro i hi ih ν hI
    obtain ⟨hf, et⟩ := hI
    have ha := hf.ar hr
    refine mm_iload d_M_copyRow_3 rfl ?_
    refine mm_iload d_M_copyRow_5 rfl ?_
    refine mm_icmp_geN d_M_copyRow_6 (by first | omega | exact ite01_lt | exact bt8_lt31 _ _ | exact godB_lt31 _ _ _ | exact pop_lt31 _ | assumption | exact b31 (hW.gp (by omega)) | exact b31 (hW.ne (by omega)) | exact b31 (hW.op (by omega)) | exact and31 (hW.gp (by omega)) | exact and31 (hW.ne (by omega)) | exact and31 (hW.op (by omega)) | exact and31 (by assumption) | exact and31r (hW.ne (by omega)) | exact and31r (hW.gp (by omega)) | exact and31r (by decide)) (by first | omega | exact ite01_lt | exact bt8_lt31 _ _ | exact godB_lt31 _ _ _ | exact pop_lt31 _ | assumption | exact b31 (hW.gp (by omega)) | exact b31 (hW.ne (by omega)) | exact b31 (hW.op (by omega)) | exact and31 (hW.gp (by omega)) | exact and31 (hW.ne (by omega)) | exact and31 (hW.op (by omega)) | exact and31 (by assumption) | exact and31r (hW.ne (by omega)) | exact and31r (hW.gp (by omega)) | exact and31r (by decide)) (fun c_6 => False.elim (by omega)) (fun c_6 => ?_)
    refine mm_aload d_M_copyRow_9 rfl ?_
    refine mm_iload d_M_copyRow_10 rfl ?_
    refine mm_iload d_M_copyRow_11 rfl ?_
    refine mm_imulN d_M_copyRow_12 ?_
    refine mm_iload d_M_copyRow_13 rfl ?_
    refine mm_iaddN d_M_copyRow_15 ?_
    refine mm_aload d_M_copyRow_16 rfl ?_
    refine mm_iload d_M_copyRow_17 rfl ?_
    refine mm_iload d_M_copyRow_18 rfl ?_
    refine mm_imulN d_M_copyRow_19 ?_
    refine mm_iload d_M_copyRow_20 rfl ?_
    refine mm_iaddN d_M_copyRow_22 ?_
    refine mm_ialdX d_M_copyRow_23 ha (by omega) hL ?_
    refine mm_iastX d_M_copyRow_24 ha (by omega) hL ?_
    refine mm_inc4N d_M_copyRow_25 ?_
    refine mm_goto d_M_copyRow_28 ?_
    refine ih _ ⟨hf.sI (beq_self_eq_true r), fun j => ?_⟩
    rw [mm_I_sI, et j, et (n * f + i), cpr_f h3 (by omega) hi, ← cpr_s]
    by_cases z : j = n * t + i
    · rw [if_pos z, if_pos ⟨rfl, z⟩]
    · rw [if_neg z, if_neg (fun w => z w.2)]
def scS (x : Nat) : Bool := 72 ≤ x && x ≤ 79
theorem scS_t {x : Nat} (h : 72 ≤ x ∧ x ≤ 79) : scS x = true := by unfold scS; simp; omega
theorem scS_e {r x : Nat} (h : 72 ≤ r ∧ r ≤ 79) (h2 : (x == r) = true) : scS x = true := by
  have : x = r := by simpa using h2
  subst this
  exact scS_t h
def cpb (g : Nat → Int32) (f t i j : Nat) : Int32 := if 600 * t ≤ j ∧ j < 600 * t + i then vp_nar .byte (g (600 * f + (j - 600 * t))) else g j
theorem cpb_s {g : Nat → Int32} {f t i j : Nat} : (if j = 600 * t + i then vp_nar .byte (g (600 * f + i)) else cpb g f t i j) = cpb g f t (i + 1) j := by
  unfold cpb
  by_cases h : j = 600 * t + i
  · subst h
    rw [if_pos rfl, if_pos (by omega), show 600 * t + i - 600 * t = i by omega]
  · rw [if_neg h]
    by_cases h2 : 600 * t ≤ j ∧ j < 600 * t + i
    · rw [if_pos h2, if_pos (by omega)]
    · rw [if_neg h2, if_neg (by omega)]
theorem sp_M_copyAll {X : mm_X} {μ : mm_M} {q : mm_M → Prop} {f t : Nat} (hM : SK μ) (hf4 : f < 4) (ht4 : t < 4) (hft : f ≠ t) (h : ∀ ν, Fr scS μ ν → Kp f t μ ν → (∀ e, e < 4 → e ≠ t → Kp e e μ ν) → q ν) : mm_Cv X 1 0 0 k_M_copyAll [.ref 71, .int (nI f), .int (nI t)] μ q := by
  show mm_T X 1 0 0 k_M_copyAll 0 [some (.ref 71), some (.int (nI f)), some (.int (nI t)), none] [] μ _
  refine mm_ciN 0 d_M_copyAll_0 rfl ?_
  refine mm_ist3 d_M_copyAll_1 ?_
  refine mm_up (P := fun i => ∀ ν, (Fr (fun x => x == 72) μ ν ∧ ∀ j, mm_I ν 72 j = cpb (mm_I μ 72) f t i j) → mm_T X _ 0 0 k_M_copyAll 2 [some (.ref 71), some (.int (nI f)), some (.int (nI t)), some (.int (nI i))] [] ν _) (600) ?_ ?_ _ ⟨Fr.rf, fun j => by unfold cpb; rw [if_neg (by omega)]⟩
  · intro ν hI
    obtain ⟨g0, et⟩ := hI
    replace hM := g0.2.2.2 hM
    refine mm_iload d_M_copyAll_2 rfl ?_
    refine mm_ciN 600 d_M_copyAll_3 rfl ?_
    refine mm_icmp_geN d_M_copyAll_6 (by first | omega | exact ite01_lt | exact bt8_lt31 _ _ | exact godB_lt31 _ _ _ | exact pop_lt31 _ | assumption | exact b31 (hW.gp (by omega)) | exact b31 (hW.ne (by omega)) | exact b31 (hW.op (by omega)) | exact and31 (hW.gp (by omega)) | exact and31 (hW.ne (by omega)) | exact and31 (hW.op (by omega)) | exact and31 (by assumption) | exact and31r (hW.ne (by omega)) | exact and31r (hW.gp (by omega)) | exact and31r (by decide)) (by first | omega | exact ite01_lt | exact bt8_lt31 _ _ | exact godB_lt31 _ _ _ | exact pop_lt31 _ | assumption | exact b31 (hW.gp (by omega)) | exact b31 (hW.ne (by omega)) | exact b31 (hW.op (by omega)) | exact and31 (hW.gp (by omega)) | exact and31 (hW.ne (by omega)) | exact and31 (hW.op (by omega)) | exact and31 (by assumption) | exact and31r (hW.ne (by omega)) | exact and31r (hW.gp (by omega)) | exact and31r (by decide)) (fun c_6 => ?_) (fun c_6 => False.elim (by omega))
    refine mm_aload d_M_copyAll_39 rfl ?_
    refine mm_getP d_M_copyAll_40 rfl (sk_o_71 hM) (sk_p_71_2 hM) ?_
    refine mm_ciN 1 d_M_copyAll_43 rfl ?_
    refine mm_iload d_M_copyAll_44 rfl ?_
    refine mm_iload d_M_copyAll_45 rfl ?_
    refine mm_s4v d_M_copyAll_46 (sp_M_copyRow (sk_a_73 hM) (by decide) (by omega) (by omega) (by omega) (fun ν1 g1 e1 => ?_))
    replace hM := g1.2.2.2 hM
    refine mm_aload d_M_copyAll_49 rfl ?_
    refine mm_getP d_M_copyAll_50 rfl (sk_o_71 hM) (sk_p_71_3 hM) ?_
    refine mm_ciN 1 d_M_copyAll_53 rfl ?_
    refine mm_iload d_M_copyAll_54 rfl ?_
    refine mm_iload d_M_copyAll_55 rfl ?_
    refine mm_s4v d_M_copyAll_56 (sp_M_copyRow (sk_a_74 hM) (by decide) (by omega) (by omega) (by omega) (fun ν2 g2 e2 => ?_))
    replace hM := g2.2.2.2 hM
    refine mm_aload d_M_copyAll_59 rfl ?_
    refine mm_getP d_M_copyAll_60 rfl (sk_o_71 hM) (sk_p_71_4 hM) ?_
    refine mm_ciN 1 d_M_copyAll_63 rfl ?_
    refine mm_iload d_M_copyAll_64 rfl ?_
    refine mm_iload d_M_copyAll_65 rfl ?_
    refine mm_s4v d_M_copyAll_66 (sp_M_copyRow (sk_a_75 hM) (by decide) (by omega) (by omega) (by omega) (fun ν3 g3 e3 => ?_))
    replace hM := g3.2.2.2 hM
    refine mm_aload d_M_copyAll_69 rfl ?_
    refine mm_getP d_M_copyAll_70 rfl (sk_o_71 hM) (sk_p_71_5 hM) ?_
    refine mm_ciN 3 d_M_copyAll_73 rfl ?_
    refine mm_iload d_M_copyAll_74 rfl ?_
    refine mm_iload d_M_copyAll_75 rfl ?_
    refine mm_s4v d_M_copyAll_76 (sp_M_copyRow (sk_a_76 hM) (by decide) (by omega) (by omega) (by omega) (fun ν4 g4 e4 => ?_))
    replace hM := g4.2.2.2 hM
    refine mm_aload d_M_copyAll_79 rfl ?_
    refine mm_getP d_M_copyAll_80 rfl (sk_o_71 hM) (sk_p_71_6 hM) ?_
    refine mm_ciN 88 d_M_copyAll_83 rfl ?_
    refine mm_iload d_M_copyAll_85 rfl ?_
    refine mm_iload d_M_copyAll_86 rfl ?_
    refine mm_s4v d_M_copyAll_87 (sp_M_copyRow (sk_a_77 hM) (by decide) (by omega) (by omega) (by omega) (fun ν5 g5 e5 => ?_))
    replace hM := g5.2.2.2 hM
    refine mm_aload d_M_copyAll_90 rfl ?_
    refine mm_getP d_M_copyAll_91 rfl (sk_o_71 hM) (sk_p_71_7 hM) ?_
    refine mm_ciN 242 d_M_copyAll_94 rfl ?_
    refine mm_iload d_M_copyAll_97 rfl ?_
    refine mm_iload d_M_copyAll_98 rfl ?_
    refine mm_s4v d_M_copyAll_99 (sp_M_copyRow (sk_a_78 hM) (by decide) (by omega) (by omega) (by omega) (fun ν6 g6 e6 => ?_))
    replace hM := g6.2.2.2 hM
    refine mm_aload d_M_copyAll_102 rfl ?_
    refine mm_getP d_M_copyAll_103 rfl (sk_o_71 hM) (sk_p_71_8 hM) ?_
    refine mm_ciN 34 d_M_copyAll_106 rfl ?_
    refine mm_iload d_M_copyAll_108 rfl ?_
    refine mm_iload d_M_copyAll_109 rfl ?_
    refine mm_s4v d_M_copyAll_110 (sp_M_copyRow (sk_a_79 hM) (by decide) (by omega) (by omega) (by omega) (fun ν7 g7 e7 => ?_))
    replace hM := g7.2.2.2 hM
    refine mm_rv d_M_copyAll_113 ?_
    have k0 : ∀ x, x ≠ 72 → mm_I ν x = mm_I μ x := fun x hx => (g0.2.2.1 x (beq_false_of_ne hx)).1
    have k1 : ∀ x, x ≠ 73 → mm_I ν1 x = mm_I ν x := fun x hx => (g1.2.2.1 x (beq_false_of_ne hx)).1
    have k2 : ∀ x, x ≠ 74 → mm_I ν2 x = mm_I ν1 x := fun x hx => (g2.2.2.1 x (beq_false_of_ne hx)).1
    have k3 : ∀ x, x ≠ 75 → mm_I ν3 x = mm_I ν2 x := fun x hx => (g3.2.2.1 x (beq_false_of_ne hx)).1
    have k4 : ∀ x, x ≠ 76 → mm_I ν4 x = mm_I ν3 x := fun x hx => (g4.2.2.1 x (beq_false_of_ne hx)).1
    have k5 : ∀ x, x ≠ 77 → mm_I ν5 x = mm_I ν4 x := fun x hx => (g5.2.2.1 x (beq_false_of_ne hx)).1
    have k6 : ∀ x, x ≠ 78 → mm_I ν6 x = mm_I ν5 x := fun x hx => (g6.2.2.1 x (beq_false_of_ne hx)).1
    have k7 : ∀ x, x ≠ 79 → mm_I ν7 x = mm_I ν6 x := fun x hx => (g7.2.2.1 x (beq_false_of_ne hx)).1
    have f72 : ∀ j, mm_I ν7 72 j = cpb (mm_I μ 72) f t 600 j := fun j => by rw [k7 72 (by decide), k6 72 (by decide), k5 72 (by decide), k4 72 (by decide), k3 72 (by decide), k2 72 (by decide), k1 72 (by decide)]; exact et j
    have f73 : mm_I ν7 73 = cpr (mm_I μ 73) 1 f t 1 := by rw [k7 73 (by decide), k6 73 (by decide), k5 73 (by decide), k4 73 (by decide), k3 73 (by decide), k2 73 (by decide), e1, k0 73 (by decide)]
    have f74 : mm_I ν7 74 = cpr (mm_I μ 74) 1 f t 1 := by rw [k7 74 (by decide), k6 74 (by decide), k5 74 (by decide), k4 74 (by decide), k3 74 (by decide), e2, k1 74 (by decide), k0 74 (by decide)]
    have f75 : mm_I ν7 75 = cpr (mm_I μ 75) 1 f t 1 := by rw [k7 75 (by decide), k6 75 (by decide), k5 75 (by decide), k4 75 (by decide), e3, k2 75 (by decide), k1 75 (by decide), k0 75 (by decide)]
    have f76 : mm_I ν7 76 = cpr (mm_I μ 76) 3 f t 3 := by rw [k7 76 (by decide), k6 76 (by decide), k5 76 (by decide), e4, k3 76 (by decide), k2 76 (by decide), k1 76 (by decide), k0 76 (by decide)]
    have f77 : mm_I ν7 77 = cpr (mm_I μ 77) 88 f t 88 := by rw [k7 77 (by decide), k6 77 (by decide), e5, k4 77 (by decide), k3 77 (by decide), k2 77 (by decide), k1 77 (by decide), k0 77 (by decide)]
    have f78 : mm_I ν7 78 = cpr (mm_I μ 78) 242 f t 242 := by rw [k7 78 (by decide), e6, k5 78 (by decide), k4 78 (by decide), k3 78 (by decide), k2 78 (by decide), k1 78 (by decide), k0 78 (by decide)]
    have f79 : mm_I ν7 79 = cpr (mm_I μ 79) 34 f t 34 := by rw [e7, k6 79 (by decide), k5 79 (by decide), k4 79 (by decide), k3 79 (by decide), k2 79 (by decide), k1 79 (by decide), k0 79 (by decide)]
    have G : Fr scS μ ν7 := (((((((g0.sub (fun x z => scS_e (by decide) z)).trans (g1.sub (fun x z => scS_e (by decide) z))).trans (g2.sub (fun x z => scS_e (by decide) z))).trans (g3.sub (fun x z => scS_e (by decide) z))).trans (g4.sub (fun x z => scS_e (by decide) z))).trans (g5.sub (fun x z => scS_e (by decide) z))).trans (g6.sub (fun x z => scS_e (by decide) z))).trans (g7.sub (fun x z => scS_e (by decide) z))
    have one : ∀ g : Nat → Int32, cpr g 1 f t 1 t = g f := fun g => by have := cpr_in (g := g) (n := 1) (f := f) (t := t) (j := 0) (by decide); rwa [Nat.one_mul, Nat.one_mul] at this
    have two : ∀ (g : Nat → Int32) (e : Nat), e ≠ t → cpr g 1 f t 1 e = g e := fun g e he => by have := cpr_out (g := g) (n := 1) (f := f) (t := t) (e := e) (j := 0) (by omega) (by decide); rwa [Nat.one_mul] at this
    refine h ν7 G ⟨fun j hj z => ?_, by rw [f73]; exact one _, by rw [f74]; exact one _, by rw [f75]; exact one _, fun j hj => by rw [f76]; exact cpr_in hj, fun j hj => by rw [f77]; exact cpr_in hj, fun j hj => by rw [f78]; exact cpr_in hj, fun j hj => by rw [f79]; exact cpr_in hj⟩ (fun e he het => ⟨fun j hj _ => ?_, by rw [f73]; exact two _ e het, by rw [f74]; exact two _ e het, by rw [f75]; exact two _ e het, fun j hj => by rw [f76]; exact cpr_out (by omega) hj, fun j hj => by rw [f77]; exact cpr_out (by omega) hj, fun j hj => by rw [f78]; exact cpr_out (by omega) hj, fun j hj => by rw [f79]; exact cpr_out (by omega) hj⟩)
    · rw [f72]; unfold cpb; rw [if_pos (by omega), show 600 * t + j - 600 * t = j by omega]; exact byte_fix z
    · rw [f72]; unfold cpb; rw [if_neg (by omega)]
  · intro i hi ih ν hI
    obtain ⟨g0, et⟩ := hI
    replace hM := g0.2.2.2 hM
    refine mm_iload d_M_copyAll_2 rfl ?_
    refine mm_ciN 600 d_M_copyAll_3 rfl ?_
    refine mm_icmp_geN d_M_copyAll_6 (by first | omega | exact ite01_lt | exact bt8_lt31 _ _ | exact godB_lt31 _ _ _ | exact pop_lt31 _ | assumption | exact b31 (hW.gp (by omega)) | exact b31 (hW.ne (by omega)) | exact b31 (hW.op (by omega)) | exact and31 (hW.gp (by omega)) | exact and31 (hW.ne (by omega)) | exact and31 (hW.op (by omega)) | exact and31 (by assumption) | exact and31r (hW.ne (by omega)) | exact and31r (hW.gp (by omega)) | exact and31r (by decide)) (by first | omega | exact ite01_lt | exact bt8_lt31 _ _ | exact godB_lt31 _ _ _ | exact pop_lt31 _ | assumption | exact b31 (hW.gp (by omega)) | exact b31 (hW.ne (by omega)) | exact b31 (hW.op (by omega)) | exact and31 (hW.gp (by omega)) | exact and31 (hW.ne (by omega)) | exact and31 (hW.op (by omega)) | exact and31 (by assumption) | exact and31r (hW.ne (by omega)) | exact and31r (hW.gp (by omega)) | exact and31r (by decide)) (fun c_6 => False.elim (by omega)) (fun c_6 => ?_)
    refine mm_aload d_M_copyAll_9 rfl ?_
    refine mm_getP d_M_copyAll_10 rfl (sk_o_71 hM) (sk_p_71_1 hM) ?_
    refine mm_ciN 600 d_M_copyAll_13 rfl ?_
    refine mm_iload d_M_copyAll_16 rfl ?_
    refine mm_imulN d_M_copyAll_17 ?_
    refine mm_iload d_M_copyAll_18 rfl ?_
    refine mm_iaddN d_M_copyAll_19 ?_
    refine mm_aload d_M_copyAll_20 rfl ?_
    refine mm_getP d_M_copyAll_21 rfl (sk_o_71 hM) (sk_p_71_1 hM) ?_
    refine mm_ciN 600 d_M_copyAll_24 rfl ?_
    refine mm_iload d_M_copyAll_27 rfl ?_
    refine mm_imulN d_M_copyAll_28 ?_
    refine mm_iload d_M_copyAll_29 rfl ?_
    refine mm_iaddN d_M_copyAll_30 ?_
    refine mm_baldX d_M_copyAll_31 (sk_a_72 hM) (by omega) (by decide) ?_
    refine mm_bastX d_M_copyAll_32 (sk_a_72 hM) (by omega) (by decide) ?_
    refine mm_inc3N d_M_copyAll_33 ?_
    refine mm_goto d_M_copyAll_36 ?_
    refine ih _ ⟨g0.sI rfl, fun j => ?_⟩
    rw [mm_I_sI, et j, et (600 * f + i), show cpb (mm_I μ 72) f t i (600 * f + i) = mm_I μ 72 (600 * f + i) by unfold cpb; rw [if_neg (by omega)], ← cpb_s]
    by_cases z : j = 600 * t + i
    · rw [if_pos z, if_pos ⟨rfl, z⟩]
    · rw [if_neg z, if_neg (fun w => z w.2)]
theorem CyT.frm {μ ν μ' ν' : mm_M} {a b : Nat} (c : CyT μ a ν b) (e1 : ∀ x, x ≤ 33 → mm_I μ' (a + x) = mm_I μ (a + x)) (e2 : ∀ x, x ≤ 33 → mm_I ν' (b + x) = mm_I ν (b + x)) : CyT μ' a ν' b := by
  obtain ⟨c1, c2, c3, c4, c5, c6⟩ := c
  refine ⟨?_, ?_, ?_, fun i hi => (c4 i hi).frm (fun x hx => ?_) (fun x hx => ?_), fun i hi => (c5 i hi).frm (fun x hx => ?_) (fun x hx => ?_), fun i hi => (c6 i hi).frm (fun x hx => ?_) (fun x hx => ?_)⟩
  · rw [show mm_I μ' a = mm_I μ a from e1 0 (by decide), show mm_I ν' b = mm_I ν b from e2 0 (by decide)]; exact c1
  · rw [e1 1 (by decide), e2 1 (by decide)]; exact c2
  · rw [e1 33 (by decide), e2 33 (by decide)]; exact c3
  · rw [show a + 3 + 7 * i + x = a + (3 + 7 * i + x) by omega]; exact e1 _ (by omega)
  · rw [show b + 3 + 7 * i + x = b + (3 + 7 * i + x) by omega]; exact e2 _ (by omega)
  · rw [show a + 18 + 4 * i + x = a + (18 + 4 * i + x) by omega]; exact e1 _ (by omega)
  · rw [show b + 18 + 4 * i + x = b + (18 + 4 * i + x) by omega]; exact e2 _ (by omega)
  · rw [show a + 27 + 3 * i + x = a + (27 + 3 * i + x) by omega]; exact e1 _ (by omega)
  · rw [show b + 27 + 3 * i + x = b + (27 + 3 * i + x) by omega]; exact e2 _ (by omega)
theorem Kp.frm {μ μ' ν ν' : mm_M} {k k' : Nat} (h : Kp k k' μ ν) (e1 : ∀ x, 72 ≤ x → x ≤ 79 → mm_I μ' x = mm_I μ x) (e2 : ∀ x, 72 ≤ x → x ≤ 79 → mm_I ν' x = mm_I ν x) : Kp k k' μ' ν' := by
  unfold Kp at *
  rw [e1 72 (by decide) (by decide), e1 73 (by decide) (by decide), e1 74 (by decide) (by decide), e1 75 (by decide) (by decide), e1 76 (by decide) (by decide), e1 77 (by decide) (by decide), e1 78 (by decide) (by decide), e1 79 (by decide) (by decide), e2 72 (by decide) (by decide), e2 73 (by decide) (by decide), e2 74 (by decide) (by decide), e2 75 (by decide) (by decide), e2 76 (by decide) (by decide), e2 77 (by decide) (by decide), e2 78 (by decide) (by decide), e2 79 (by decide) (by decide)]
  exact h
