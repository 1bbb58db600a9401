/-! the cells of a coast, a year, a log, a told; small methods of the class -/
def CoS (μ : mm_M) (a : Nat) : Prop := mm_ob μ a 2 ∧ (mm_P μ a 0 = some (a + 1) ∧ mm_ar μ (a + 1) 0 8) ∧ (mm_P μ a 1 = some (a + 2) ∧ mm_ar μ (a + 2) 0 8) ∧ (mm_P μ a 2 = some (a + 3) ∧ mm_ar μ (a + 3) 0 8) ∧ (mm_P μ a 3 = some (a + 4) ∧ mm_ar μ (a + 4) 0 6) ∧ (mm_P μ a 4 = some (a + 5) ∧ mm_ar μ (a + 5) 0 6) ∧ (mm_P μ a 5 = some (a + 6) ∧ mm_ar μ (a + 6) 0 6)
def YeS (μ : mm_M) (a : Nat) : Prop := mm_ob μ a 8 ∧ (mm_P μ a 0 = some (a + 1) ∧ mm_ar μ (a + 1) 0 40) ∧ (mm_P μ a 1 = some (a + 2) ∧ mm_ar μ (a + 2) 0 40) ∧ (mm_P μ a 2 = some (a + 3) ∧ mm_ar μ (a + 3) 0 40)
def LoS (μ : mm_M) (a : Nat) : Prop := mm_ob μ a 4 ∧ (mm_P μ a 0 = some (a + 1) ∧ mm_ar μ (a + 1) 0 8) ∧ (mm_P μ a 1 = some (a + 2) ∧ mm_ar μ (a + 2) 0 8)
def ToS (μ : mm_M) (t : Nat) : Prop := mm_ob μ t 7 ∧ (mm_P μ t 0 = some (t + 1) ∧ mm_ar μ (t + 1) 1 600) ∧
  (mm_P μ t 1 = some (t + 2) ∧ mm_ar μ (t + 2) 4 2 ∧ mm_P μ (t + 2) 0 = some (t + 3) ∧ mm_P μ (t + 2) 1 = some (t + 10) ∧ CoS μ (t + 3) ∧ CoS μ (t + 10)) ∧
  (mm_P μ t 2 = some (t + 17) ∧ mm_ar μ (t + 17) 5 2 ∧ mm_P μ (t + 17) 0 = some (t + 18) ∧ mm_P μ (t + 17) 1 = some (t + 22) ∧ YeS μ (t + 18) ∧ YeS μ (t + 22)) ∧
  (mm_P μ t 3 = some (t + 26) ∧ mm_ar μ (t + 26) 6 2 ∧ mm_P μ (t + 26) 0 = some (t + 27) ∧ mm_P μ (t + 26) 1 = some (t + 30) ∧ LoS μ (t + 27) ∧ LoS μ (t + 30)) ∧
  (mm_P μ t 4 = some (t + 33) ∧ mm_ar μ (t + 33) 0 3)
def hasF (b k : Int32) : Int32 := if (b >>> (k &&& 31)) &&& 1 = 0 then 0 else 1
theorem sp_G_has {X : mm_X} {μ : mm_M} {q : Int32 → mm_M → Prop} {b k : Int32} (h : q (hasF b k) μ) : mm_Ci X 0 0 0 k_G_has [.int b, .int k] μ q := by
  show mm_T X 0 0 0 k_G_has 0 [some (.int b), some (.int k)] [] μ _
  unfold hasF at h
  refine mm_iload d_G_has_0 rfl ?_
  refine mm_iload d_G_has_1 rfl ?_
  refine mm_ishr d_G_has_2 ?_
  refine mm_ci d_G_has_3 ?_
  refine mm_iand d_G_has_4 ?_
  refine mm_if_eq d_G_has_5 (fun c_5 => ?_) (fun c_5 => ?_)
  · refine mm_ci d_G_has_12 ?_
    exact mm_rz d_G_has_13 (by simpa [c_5] using h)
  · refine mm_ci d_G_has_8 ?_
    refine mm_goto d_G_has_9 ?_
    exact mm_rz d_G_has_13 (by simpa [c_5] using h)
def inF (x lo hi : Int32) : Int32 := if x < lo then 0 else if hi ≤ x then 0 else 1
theorem sp_G_isSort {X : mm_X} {μ : mm_M} {q : Int32 → mm_M → Prop} {x : Int32} (h : q (inF x 0 3) μ) : mm_Ci X 0 0 0 k_G_isSort [.int x] μ q := by
  show mm_T X 0 0 0 k_G_isSort 0 [some (.int x)] [] μ _
  unfold inF at h
  refine mm_iload d_G_isSort_0 rfl ?_
  refine mm_if_lt d_G_isSort_1 (fun c_1 => ?_) (fun c_1 => ?_)
  · refine mm_ci d_G_isSort_13 ?_
    exact mm_rz d_G_isSort_14 (by simpa [*] using h)
  · refine mm_iload d_G_isSort_4 rfl ?_
    refine mm_ci d_G_isSort_5 ?_
    refine mm_icmp_ge d_G_isSort_6 (fun c_6 => ?_) (fun c_6 => ?_)
    · refine mm_ci d_G_isSort_13 ?_
      exact mm_rz d_G_isSort_14 (by simpa [*] using h)
    · refine mm_ci d_G_isSort_9 ?_
      refine mm_goto d_G_isSort_10 ?_
      exact mm_rz d_G_isSort_14 (by simpa [*] using h)
theorem sp_G_isWeather {X : mm_X} {μ : mm_M} {q : Int32 → mm_M → Prop} {x : Int32} (h : q (inF x 0 8) μ) : mm_Ci X 0 0 0 k_G_isWeather [.int x] μ q := by
  show mm_T X 0 0 0 k_G_isWeather 0 [some (.int x)] [] μ _
  unfold inF at h
  refine mm_iload d_G_isWeather_0 rfl ?_
  refine mm_if_lt d_G_isWeather_1 (fun c_1 => ?_) (fun c_1 => ?_)
  · refine mm_ci d_G_isWeather_14 ?_
    exact mm_rz d_G_isWeather_15 (by simpa [*] using h)
  · refine mm_iload d_G_isWeather_4 rfl ?_
    refine mm_ci d_G_isWeather_5 ?_
    refine mm_icmp_ge d_G_isWeather_7 (fun c_7 => ?_) (fun c_7 => ?_)
    · refine mm_ci d_G_isWeather_14 ?_
      exact mm_rz d_G_isWeather_15 (by simpa [*] using h)
    · refine mm_ci d_G_isWeather_10 ?_
      refine mm_goto d_G_isWeather_11 ?_
      exact mm_rz d_G_isWeather_15 (by simpa [*] using h)
def inG (x lo hi : Int32) : Int32 := if x < lo then 0 else if hi < x then 0 else 1
theorem sp_G_isWeatherBits {X : mm_X} {μ : mm_M} {q : Int32 → mm_M → Prop} {x : Int32} (h : q (inG x 0 255) μ) : mm_Ci X 0 0 0 k_G_isWeatherBits [.int x] μ q := by
  show mm_T X 0 0 0 k_G_isWeatherBits 0 [some (.int x)] [] μ _
  unfold inG at h
  refine mm_iload d_G_isWeatherBits_0 rfl ?_
  refine mm_if_lt d_G_isWeatherBits_1 (fun c_1 => ?_) (fun c_1 => ?_)
  · refine mm_ci d_G_isWeatherBits_15 ?_
    exact mm_rz d_G_isWeatherBits_16 (by simpa [*] using h)
  · refine mm_iload d_G_isWeatherBits_4 rfl ?_
    refine mm_ci d_G_isWeatherBits_5 ?_
    refine mm_icmp_gt d_G_isWeatherBits_8 (fun c_8 => ?_) (fun c_8 => ?_)
    · refine mm_ci d_G_isWeatherBits_15 ?_
      exact mm_rz d_G_isWeatherBits_16 (by simpa [*] using h)
    · refine mm_ci d_G_isWeatherBits_11 ?_
      refine mm_goto d_G_isWeatherBits_12 ?_
      exact mm_rz d_G_isWeatherBits_16 (by simpa [*] using h)
theorem sp_Co_hasChild {X : mm_X} {μ : mm_M} {q : Int32 → mm_M → Prop} {a : Nat} {x : Int32} (hC : CoS μ a) (h : q (inF x 0 (mm_I μ a 6)) μ) : mm_Ci X 0 0 0 k_Co_hasChild [.ref a, .int x] μ q := by
  show mm_T X 0 0 0 k_Co_hasChild 0 [some (.ref a), some (.int x)] [] μ _
  unfold inF at h
  refine mm_iload d_Co_hasChild_0 rfl ?_
  refine mm_if_lt d_Co_hasChild_1 (fun c_1 => ?_) (fun c_1 => ?_)
  · refine mm_ci d_Co_hasChild_16 ?_
    exact mm_rz d_Co_hasChild_17 (by simpa [*] using h)
  · refine mm_iload d_Co_hasChild_4 rfl ?_
    refine mm_aload d_Co_hasChild_5 rfl ?_
    refine mm_getI d_Co_hasChild_6 rfl hC.1 ?_
    refine mm_icmp_ge d_Co_hasChild_9 (fun c_9 => ?_) (fun c_9 => ?_)
    · refine mm_ci d_Co_hasChild_16 ?_
      exact mm_rz d_Co_hasChild_17 (by simpa [*] using h)
    · refine mm_ci d_Co_hasChild_12 ?_
      refine mm_goto d_Co_hasChild_13 ?_
      exact mm_rz d_Co_hasChild_17 (by simpa [*] using h)
theorem sp_Co_hasWork {X : mm_X} {μ : mm_M} {q : Int32 → mm_M → Prop} {a : Nat} {x : Int32} (hC : CoS μ a) (h : q (inF x 0 (mm_I μ a 7)) μ) : mm_Ci X 0 0 0 k_Co_hasWork [.ref a, .int x] μ q := by
  show mm_T X 0 0 0 k_Co_hasWork 0 [some (.ref a), some (.int x)] [] μ _
  unfold inF at h
  refine mm_iload d_Co_hasWork_0 rfl ?_
  refine mm_if_lt d_Co_hasWork_1 (fun c_1 => ?_) (fun c_1 => ?_)
  · refine mm_ci d_Co_hasWork_16 ?_
    exact mm_rz d_Co_hasWork_17 (by simpa [*] using h)
  · refine mm_iload d_Co_hasWork_4 rfl ?_
    refine mm_aload d_Co_hasWork_5 rfl ?_
    refine mm_getI d_Co_hasWork_6 rfl hC.1 ?_
    refine mm_icmp_ge d_Co_hasWork_9 (fun c_9 => ?_) (fun c_9 => ?_)
    · refine mm_ci d_Co_hasWork_16 ?_
      exact mm_rz d_Co_hasWork_17 (by simpa [*] using h)
    · refine mm_ci d_Co_hasWork_12 ?_
      refine mm_goto d_Co_hasWork_13 ?_
      exact mm_rz d_Co_hasWork_17 (by simpa [*] using h)
theorem sp_Co_allChildren {X : mm_X} {μ : mm_M} {q : Int32 → mm_M → Prop} {a : Nat} (hC : CoS μ a) (h : q (1 <<< (mm_I μ a 6 &&& 31) - 1) μ) : mm_Ci X 0 0 0 k_Co_allChildren [.ref a] μ q := by
  show mm_T X 0 0 0 k_Co_allChildren 0 [some (.ref a)] [] μ _
  refine mm_ci d_Co_allChildren_0 ?_
  refine mm_aload d_Co_allChildren_1 rfl ?_
  refine mm_getI d_Co_allChildren_2 rfl hC.1 ?_
  refine mm_ishl d_Co_allChildren_5 ?_
  refine mm_ci d_Co_allChildren_6 ?_
  refine mm_isub d_Co_allChildren_7 ?_
  exact mm_ri d_Co_allChildren_8 h
theorem sp_Co_allWorks {X : mm_X} {μ : mm_M} {q : Int32 → mm_M → Prop} {a : Nat} (hC : CoS μ a) (h : q (1 <<< (mm_I μ a 7 &&& 31) - 1) μ) : mm_Ci X 0 0 0 k_Co_allWorks [.ref a] μ q := by
  show mm_T X 0 0 0 k_Co_allWorks 0 [some (.ref a)] [] μ _
  refine mm_ci d_Co_allWorks_0 ?_
  refine mm_aload d_Co_allWorks_1 rfl ?_
  refine mm_getI d_Co_allWorks_2 rfl hC.1 ?_
  refine mm_ishl d_Co_allWorks_5 ?_
  refine mm_ci d_Co_allWorks_6 ?_
  refine mm_isub d_Co_allWorks_7 ?_
  exact mm_ri d_Co_allWorks_8 h
/-- a place among c -/
def atF (c : Nat) (x : Int32) : Option Nat := if x < 0 then none else if nI c ≤ x then none else some x.toNatClampNeg
theorem atF_at {c : Nat} (hc : c < 2 ^ 31) {k : Nat} (hk : k < c) : atF c (nI k) = some k := by
  unfold atF
  rw [if_neg (nI_pos (by omega)), if_neg (nI_ge hk hc), nI_clamp (by omega)]
theorem sp_To_coastAt {X : mm_X} {μ : mm_M} {q : Option Nat → mm_M → Prop} {t c : Nat} {x : Int32} (hS : ToS μ t) (hc : mm_I μ (t + 33) 0 = nI c) (hc2 : c ≤ 2) (h : q ((atF c x).map fun k => t + 3 + 7 * k) μ) : mm_Cr X 0 0 0 k_To_coastAt [.ref t, .int x] μ q := by
  show mm_T X 0 0 0 k_To_coastAt 0 [some (.ref t), some (.int x)] [] μ _
  obtain ⟨ho, -, ⟨hp1, ha2, hp20, hp21, -, -⟩, -, -, ⟨hp4, ha4⟩⟩ := hS
  have hi0 : vp_in (0 : Int32) 3 := vp_in_nI (n := 0) (N := 3) (by decide) (by decide)
  refine mm_iload d_To_coastAt_0 rfl ?_
  refine mm_if_lt d_To_coastAt_1 (fun c_1 => ?_) (fun c_1 => ?_)
  · refine mm_null d_To_coastAt_23 ?_
    exact mm_rr d_To_coastAt_24 (r := none) (by unfold atF at h; simpa [*] using h)
  · refine mm_iload d_To_coastAt_4 rfl ?_
    refine mm_aload d_To_coastAt_5 rfl ?_
    refine mm_getP d_To_coastAt_6 rfl (by assumption) (by assumption) ?_
    refine mm_ci d_To_coastAt_9 ?_
    refine mm_iald d_To_coastAt_10 (by assumption) (by assumption) ?_
    rw [show (0 : Int32).toNatClampNeg = 0 from rfl, hc]
    refine mm_icmp_ge d_To_coastAt_11 (fun c_11 => ?_) (fun c_11 => ?_)
    · refine mm_null d_To_coastAt_23 ?_
      exact mm_rr d_To_coastAt_24 (r := none) (by unfold atF at h; simpa [*] using h)
    · refine mm_aload d_To_coastAt_14 rfl ?_
      refine mm_getP d_To_coastAt_15 rfl (by assumption) (by assumption) ?_
      refine mm_iload d_To_coastAt_18 rfl ?_
      obtain ⟨k, hk, rfl, -, hcl, -⟩ := pk_mu c_1 c_11 (by omega)
      rw [atF_at (by omega) hk] at h
      have hk2 : k = 0 ∨ k = 1 := by omega
      refine mm_aald (t := 0) (r := t + 3 + 7 * k) d_To_coastAt_19 ha2 (vp_in_nI (by omega) (by decide)) (by rw [nI_clamp (by omega)]; rcases hk2 with rfl | rfl; exact hp20; exact hp21) ?_
      refine mm_goto d_To_coastAt_20 ?_
      exact mm_rr (r := some (t + 3 + 7 * k)) d_To_coastAt_24 h
theorem sp_To_yearAt {X : mm_X} {μ : mm_M} {q : Option Nat → mm_M → Prop} {t c : Nat} {x : Int32} (hS : ToS μ t) (hc : mm_I μ (t + 33) 1 = nI c) (hc2 : c ≤ 2) (h : q ((atF c x).map fun k => t + 18 + 4 * k) μ) : mm_Cr X 0 0 0 k_To_yearAt [.ref t, .int x] μ q := by
  show mm_T X 0 0 0 k_To_yearAt 0 [some (.ref t), some (.int x)] [] μ _
  obtain ⟨ho, -, -, ⟨hp1, ha2, hp20, hp21, -, -⟩, -, ⟨hp4, ha4⟩⟩ := hS
  have hi0 : vp_in (1 : Int32) 3 := vp_in_nI (n := 1) (N := 3) (by decide) (by decide)
  refine mm_iload d_To_yearAt_0 rfl ?_
  refine mm_if_lt d_To_yearAt_1 (fun c_1 => ?_) (fun c_1 => ?_)
  · refine mm_null d_To_yearAt_23 ?_
    exact mm_rr d_To_yearAt_24 (r := none) (by unfold atF at h; simpa [*] using h)
  · refine mm_iload d_To_yearAt_4 rfl ?_
    refine mm_aload d_To_yearAt_5 rfl ?_
    refine mm_getP d_To_yearAt_6 rfl (by assumption) (by assumption) ?_
    refine mm_ci d_To_yearAt_9 ?_
    refine mm_iald d_To_yearAt_10 (by assumption) (by assumption) ?_
    rw [show (1 : Int32).toNatClampNeg = 1 from rfl, hc]
    refine mm_icmp_ge d_To_yearAt_11 (fun c_11 => ?_) (fun c_11 => ?_)
    · refine mm_null d_To_yearAt_23 ?_
      exact mm_rr d_To_yearAt_24 (r := none) (by unfold atF at h; simpa [*] using h)
    · refine mm_aload d_To_yearAt_14 rfl ?_
      refine mm_getP d_To_yearAt_15 rfl (by assumption) (by assumption) ?_
      refine mm_iload d_To_yearAt_18 rfl ?_
      obtain ⟨k, hk, rfl, -, hcl, -⟩ := pk_mu c_1 c_11 (by omega)
      rw [atF_at (by omega) hk] at h
      have hk2 : k = 0 ∨ k = 1 := by omega
      refine mm_aald (t := 1) (r := t + 18 + 4 * k) d_To_yearAt_19 ha2 (vp_in_nI (by omega) (by decide)) (by rw [nI_clamp (by omega)]; rcases hk2 with rfl | rfl; exact hp20; exact hp21) ?_
      refine mm_goto d_To_yearAt_20 ?_
      exact mm_rr (r := some (t + 18 + 4 * k)) d_To_yearAt_24 h
theorem sp_To_logAt {X : mm_X} {μ : mm_M} {q : Option Nat → mm_M → Prop} {t c : Nat} {x : Int32} (hS : ToS μ t) (hc : mm_I μ (t + 33) 2 = nI c) (hc2 : c ≤ 2) (h : q ((atF c x).map fun k => t + 27 + 3 * k) μ) : mm_Cr X 0 0 0 k_To_logAt [.ref t, .int x] μ q := by
  show mm_T X 0 0 0 k_To_logAt 0 [some (.ref t), some (.int x)] [] μ _
  obtain ⟨ho, -, -, -, ⟨hp1, ha2, hp20, hp21, -, -⟩, ⟨hp4, ha4⟩⟩ := hS
  have hi0 : vp_in (2 : Int32) 3 := vp_in_nI (n := 2) (N := 3) (by decide) (by decide)
  refine mm_iload d_To_logAt_0 rfl ?_
  refine mm_if_lt d_To_logAt_1 (fun c_1 => ?_) (fun c_1 => ?_)
  · refine mm_null d_To_logAt_23 ?_
    exact mm_rr d_To_logAt_24 (r := none) (by unfold atF at h; simpa [*] using h)
  · refine mm_iload d_To_logAt_4 rfl ?_
    refine mm_aload d_To_logAt_5 rfl ?_
    refine mm_getP d_To_logAt_6 rfl (by assumption) (by assumption) ?_
    refine mm_ci d_To_logAt_9 ?_
    refine mm_iald d_To_logAt_10 (by assumption) (by assumption) ?_
    rw [show (2 : Int32).toNatClampNeg = 2 from rfl, hc]
    refine mm_icmp_ge d_To_logAt_11 (fun c_11 => ?_) (fun c_11 => ?_)
    · refine mm_null d_To_logAt_23 ?_
      exact mm_rr d_To_logAt_24 (r := none) (by unfold atF at h; simpa [*] using h)
    · refine mm_aload d_To_logAt_14 rfl ?_
      refine mm_getP d_To_logAt_15 rfl (by assumption) (by assumption) ?_
      refine mm_iload d_To_logAt_18 rfl ?_
      obtain ⟨k, hk, rfl, -, hcl, -⟩ := pk_mu c_1 c_11 (by omega)
      rw [atF_at (by omega) hk] at h
      have hk2 : k = 0 ∨ k = 1 := by omega
      refine mm_aald (t := 2) (r := t + 27 + 3 * k) d_To_logAt_19 ha2 (vp_in_nI (by omega) (by decide)) (by rw [nI_clamp (by omega)]; rcases hk2 with rfl | rfl; exact hp20; exact hp21) ?_
      refine mm_goto d_To_logAt_20 ?_
      exact mm_rr (r := some (t + 27 + 3 * k)) d_To_logAt_24 h
