/-! pairs of calls that only ask -/
set_option maxRecDepth 100000 in
theorem mm_1z : ∀ a, a = 2 ∨ a = 62 → mm_I mm_1 a = fun _ => 0 := by
  intro a ha
  rcases ha with rfl | rfl <;> rfl
theorem JJ_0 : JJ 0 mm_1 := by
  have hz := mm_1z
  refine ⟨SK_1, ⟨sk_t SK_1, ⟨0, by decide, by decide +kernel, by decide +kernel, fun j hj => absurd hj (Nat.not_lt_zero j)⟩, fun j => ?_, by decide +kernel, by decide +kernel, ⟨0, by decide, by decide +kernel, by decide +kernel, fun j hj => absurd hj (Nat.not_lt_zero j)⟩, ⟨0, by decide, by decide +kernel, by decide +kernel, fun j hj => absurd hj (Nat.not_lt_zero j)⟩, ⟨0, by decide, by decide +kernel, by decide +kernel, fun j hj => absurd hj (Nat.not_lt_zero j)⟩⟩, ⟨0, by decide, SK_n1, fun e he => absurd he (Nat.not_lt_zero e), fun i hi => Or.inl ?_⟩, ⟨0, by decide, by decide +kernel, fun j _ => ⟨0, Nat.le_refl 0, ?_⟩⟩⟩
  · show fits .byte (.int (mm_I mm_1 2 j)) = true
    rw [hz 2 (Or.inl rfl)]
    rfl
  · match i, hi with
    | 0, _ => exact ⟨by decide +kernel, by decide +kernel⟩
    | 1, _ => exact ⟨by decide +kernel, by decide +kernel⟩
    | 2, _ => exact ⟨by decide +kernel, by decide +kernel⟩
    | i + 3, hi => exact absurd hi (by omega)
  · rw [hz 62 (Or.inr rfl)]
    rfl
def scA (a : Nat) : Bool := scM a || scC a
theorem scA_per : Per scA := by
  intro a ha
  unfold scA scM scC
  simp
  omega
theorem mm_Ci.lift {X : mm_X} {d : Nat} {K : mm_K} {av : List Value} {μ : mm_M} {q : Int32 → mm_M → Prop} (h : mm_Ci X d 0 0 K av μ q) (d' nc ns : Nat) (hd : d ≤ d') : mm_Ci X d' nc ns K av μ q := mm_T.deeper hd (mm_T.more (Nat.zero_le _) (Nat.zero_le _) h)
theorem mm_Cj.lift {X : mm_X} {d : Nat} {K : mm_K} {av : List Value} {μ : mm_M} {q : Int64 → mm_M → Prop} (h : mm_Cj X d 0 0 K av μ q) (d' nc ns : Nat) (hd : d ≤ d') : mm_Cj X d' nc ns K av μ q := mm_T.deeper hd (mm_T.more (Nat.zero_le _) (Nat.zero_le _) h)
theorem Wk.fr {S : Nat → Bool} {k : Nat} {μ μ' : mm_M} (h : Wk k μ) (hf : Fr S μ μ') (h1 : S 57 = false) (h2 : S 62 = false) : Wk k μ' := by
  obtain ⟨w, a, b, c⟩ := h
  exact ⟨w, a, by rw [(hf.2.2.1 57 h1).1]; exact b, by rw [(hf.2.2.1 62 h2).1]; exact c⟩
/-- the state behind a question: only scratch has changed -/
theorem JJ.asked {k : Nat} {μ μ1 μ2 : mm_M} (hJ : JJ k μ) (hf : Fr scC μ μ1) (hw : Wk (k + 1) μ1) (hg : Fr scM μ1 μ2) : JJ (k + 1) μ2 := hJ.fr ((hf.sub (fun a h => by unfold scA; rw [h, Bool.or_true])).trans (hg.sub (fun a h => by unfold scA; rw [h, Bool.true_or]))) scA_per (hw.fr hg rfl rfl)
theorem pairQ {X : mm_X} {k : Nat} {μ : mm_M} {kc km : mm_K} {as : List Value} {d d' : Nat} (R : Int32) (hJ : JJ k μ) (hd : d ≤ 30) (hd' : d' ≤ 30) (HC : mm_Ci X d 0 0 kc (.ref 0 :: as) μ (fun r μ1 => r = R ∧ Fr scC μ μ1 ∧ Wk (k + 1) μ1)) (HM : ∀ μ1, Fr scC μ μ1 → mm_Ci X d' 0 0 km (.ref 71 :: as) μ1 (fun r μ2 => r = R ∧ Fr scM μ1 μ2)) : PairI X (JJ (k + 1)) kc km as μ := by
  refine (HC.lift 30 40 1100 hd).imp (fun r μ1 h => ?_)
  obtain ⟨rfl, hf, hw⟩ := h
  refine ⟨hf.2.2.2 hJ.1, ((HM μ1 hf).lift 30 0 0 hd').imp (fun r' μ2 h => ?_)⟩
  obtain ⟨rfl, hg⟩ := h
  exact ⟨rfl, hJ.asked hf hw hg⟩
theorem pairQj {X : mm_X} {k : Nat} {μ : mm_M} {kc km : mm_K} {as : List Value} {d d' : Nat} (R : Int64) (hJ : JJ k μ) (hd : d ≤ 30) (hd' : d' ≤ 30) (HC : mm_Cj X d 0 0 kc (.ref 0 :: as) μ (fun r μ1 => r = R ∧ Fr scC μ μ1 ∧ Wk (k + 1) μ1)) (HM : ∀ μ1, Fr scC μ μ1 → mm_Cj X d' 0 0 km (.ref 71 :: as) μ1 (fun r μ2 => r = R ∧ Fr scM μ1 μ2)) : PairJ X (JJ (k + 1)) kc km as μ := by
  refine (HC.lift 30 40 1100 hd).imp (fun r μ1 h => ?_)
  obtain ⟨rfl, hf, hw⟩ := h
  refine ⟨hf.2.2.2 hJ.1, ((HM μ1 hf).lift 30 0 0 hd').imp (fun r' μ2 h => ?_)⟩
  obtain ⟨rfl, hg⟩ := h
  exact ⟨rfl, hJ.asked hf hw hg⟩
theorem KeM.fr {μ μ' : mm_M} (h : KeM μ μ') (hM : SK μ) : Fr scM μ μ' := ⟨h.1, h.2.1, fun a ha => ⟨h.2.2.2.2 a (fun e => by rw [e] at ha; cases ha), congrFun h.2.2.2.1 a, congrFun h.2.2.1 a⟩, fun _ => ⟨by rw [h.1]; exact hM.1, by rw [h.2.1]; exact hM.2.1, by rw [h.2.2.1]; exact hM.2.2⟩⟩
/-- a coast's number: none there, or its data on both sides -/
def Vw (μ : mm_M) (x : Int32) : Prop := ∃ c : Nat, c ≤ 2 ∧ mm_I μ 34 0 = nI c ∧ mm_I μ 76 0 = nI c ∧ (atF c x = none ∨ ∃ (i : Nat) (D : mm_D), i < c ∧ x = nI i ∧ WfD D ∧ CoD μ (4 + 7 * i) D ∧ CoM μ (44 * i) D)
theorem atF_or {c : Nat} (hc : c < 2 ^ 31) (x : Int32) : atF c x = none ∨ ∃ i, i < c ∧ x = nI i := by
  unfold atF
  by_cases h : x < 0
  · exact Or.inl (if_pos h)
  · by_cases h2 : nI c ≤ x
    · exact Or.inl (by rw [if_neg h, if_pos h2])
    · obtain ⟨j, h3, h4, -⟩ := pk_mu h h2 hc
      exact Or.inr ⟨j, h3, h4⟩
theorem JJ.coast {k : Nat} {μ : mm_M} (h : JJ k μ) (x : Int32) : Vw μ x := by
  obtain ⟨-, ⟨-, -, -, -, -, ⟨c, c1, c2, c3, c4⟩, -⟩, -⟩ := h
  refine ⟨c, c1, c2, c3, ?_⟩
  rcases atF_or (c := c) (by omega) x with z | ⟨i, hi, e⟩
  · exact Or.inl z
  · obtain ⟨D, d1, d2, d3⟩ := c4 i hi
    exact Or.inr ⟨i, D, hi, e, d1, by rw [show 4 + 7 * i = 1 + 3 + 7 * i by omega]; exact d2, by rw [show 44 * i = 88 * 0 + 44 * i by omega]; exact d3⟩
theorem CoM.frC {μ μ1 : mm_M} {b : Nat} {D : mm_D} (h : CoM μ b D) (hf : Fr scC μ μ1) : CoM μ1 b D := h.fr hf rfl
theorem inG_or {x : Int32} {n : Nat} (hn : n < 2 ^ 30) : inG x 0 (nI n) = 0 ∨ ∃ s, s ≤ n ∧ x = nI s ∧ inG x 0 (nI n) = 1 := by
  unfold inG
  by_cases h : x < 0
  · exact Or.inl (if_pos h)
  · by_cases h2 : nI n < x
    · exact Or.inl (by rw [if_neg h, if_pos h2])
    · obtain ⟨s, h3, h4⟩ := nI_of2 (M := nI n) (n := n) (nI_toInt (by omega)) h (Int32.not_lt.mp h2)
      exact Or.inr ⟨s, h3, h4, by rw [if_neg h, if_neg h2]⟩
theorem sp_Co_hasChildT {X : mm_X} {μ : mm_M} {q : Int32 → mm_M → Prop} {a j : Nat} {D : mm_D} (hCD : CoD μ a D) (hW : WfD D) (hj : j < dn D) (h : q (nI 1) μ) : mm_Ci X 0 0 0 k_Co_hasChild [.ref a, .int (nI j)] μ q := sp_Co_hasChildN hCD (by have := hW.1; omega) hW (by rw [if_pos hj]; exact h)
theorem sp_Co_hasWorkT {X : mm_X} {μ : mm_M} {q : Int32 → mm_M → Prop} {a j : Nat} {D : mm_D} (hCD : CoD μ a D) (hW : WfD D) (hj : j < dw D) (h : q (nI 1) μ) : mm_Ci X 0 0 0 k_Co_hasWork [.ref a, .int (nI j)] μ q := sp_Co_hasWorkN hCD (by have := hW.2.1; omega) hW (by rw [if_pos hj]; exact h)
theorem sp_Co_hasChildB {X : mm_X} {μ : mm_M} {q : Int32 → mm_M → Prop} {a : Nat} {y : Int32} {D : mm_D} (hCD : CoD μ a D) (hz : atF (dn D) y = none) (h : q (nI 0) μ) : mm_Ci X 0 0 0 k_Co_hasChild [.ref a, .int y] μ q := sp_Co_hasChild hCD.1 (by rw [hCD.n, inF_none hz]; exact h)
theorem sp_Co_hasWorkB {X : mm_X} {μ : mm_M} {q : Int32 → mm_M → Prop} {a : Nat} {y : Int32} {D : mm_D} (hCD : CoD μ a D) (hz : atF (dw D) y = none) (h : q (nI 0) μ) : mm_Ci X 0 0 0 k_Co_hasWork [.ref a, .int y] μ q := sp_Co_hasWork hCD.1 (by rw [hCD.w, inF_none hz]; exact h)
theorem sp_M_isChildT {X : mm_X} {μ : mm_M} {q : Int32 → mm_M → Prop} {k j : Nat} {D : mm_D} (hH : Hd μ k D) (hj : j < dn D) (h : q (nI 1) μ) : mm_Ci X 1 0 0 k_M_isChild [.ref 71, .int (nI j)] μ q := sp_M_isChildN hH (by have := hH.wf.1; omega) (by rw [if_pos hj]; exact h)
theorem sp_M_isWorkT {X : mm_X} {μ : mm_M} {q : Int32 → mm_M → Prop} {k j : Nat} {D : mm_D} (hH : Hd μ k D) (hj : j < dw D) (h : q (nI 1) μ) : mm_Ci X 1 0 0 k_M_isWork [.ref 71, .int (nI j)] μ q := sp_M_isWorkN hH (by have := hH.wf.2.1; omega) (by rw [if_pos hj]; exact h)
theorem sp_M_isChildB {X : mm_X} {μ : mm_M} {q : Int32 → mm_M → Prop} {k : Nat} {y : Int32} {D : mm_D} (hH : Hd μ k D) (hz : atF (dn D) y = none) (h : q (nI 0) μ) : mm_Ci X 1 0 0 k_M_isChild [.ref 71, .int y] μ q := sp_M_isChild hH (by rw [isF_none hz]; exact h)
theorem sp_M_isWorkB {X : mm_X} {μ : mm_M} {q : Int32 → mm_M → Prop} {k : Nat} {y : Int32} {D : mm_D} (hH : Hd μ k D) (hz : atF (dw D) y = none) (h : q (nI 0) μ) : mm_Ci X 1 0 0 k_M_isWork [.ref 71, .int y] μ q := sp_M_isWork hH (by rw [isF_none hz]; exact h)
theorem inG_nI {x a b : Nat} (hx : x < 2 ^ 31) (ha : a < 2 ^ 31) (hb : b < 2 ^ 31) : inG (nI x) (nI a) (nI b) = nI (if a ≤ x ∧ x ≤ b then 1 else 0) := by
  unfold inG
  by_cases h : x < a
  · rw [if_pos (nI_lt h ha), if_neg (by omega)]; rfl
  · rw [if_neg (nI_nlt (by omega) hx)]
    by_cases h2 : b < x
    · rw [if_pos (nI_lt h2 hx), if_neg (by omega)]; rfl
    · rw [if_neg (nI_nlt (by omega) hb), if_pos (by omega)]; rfl
theorem sp_M_inN {X : mm_X} {μ : mm_M} {q : Int32 → mm_M → Prop} {x a b : Nat} (hx : x < 2 ^ 31) (ha : a < 2 ^ 31) (hb : b < 2 ^ 31) (h : q (nI (if a ≤ x ∧ x ≤ b then 1 else 0)) μ) : mm_Ci X 0 0 0 k_M_in [.int (nI x), .int (nI a), .int (nI b)] μ q := sp_M_in (by rw [inG_nI hx ha hb]; exact h)
theorem sp_M_inT {X : mm_X} {μ : mm_M} {q : Int32 → mm_M → Prop} {x a b : Nat} (ha : a ≤ x) (hx : x ≤ b) (hb : b < 2 ^ 31) (h : q (nI 1) μ) : mm_Ci X 0 0 0 k_M_in [.int (nI x), .int (nI a), .int (nI b)] μ q := sp_M_inN (by omega) (by omega) hb (by rw [if_pos ⟨ha, hx⟩]; exact h)
theorem sp_M_inB {X : mm_X} {μ : mm_M} {q : Int32 → mm_M → Prop} {y : Int32} {a b : Nat} (hz : inG y (nI a) (nI b) = 0) (h : q (nI 0) μ) : mm_Ci X 0 0 0 k_M_in [.int y, .int (nI a), .int (nI b)] μ q := sp_M_in (by rw [hz]; exact h)
theorem sp_G_isWeatherBitsT {X : mm_X} {μ : mm_M} {q : Int32 → mm_M → Prop} {s : Nat} (hs : s ≤ 255) (h : q (nI 1) μ) : mm_Ci X 0 0 0 k_G_isWeatherBits [.int (nI s)] μ q := sp_G_isWeatherBits (by rw [show (0 : Int32) = nI 0 from rfl, show (255 : Int32) = nI 255 from rfl, inG_nI (by omega) (by decide) (by decide), if_pos ⟨Nat.zero_le _, hs⟩]; exact h)
theorem sp_G_isWeatherBitsB {X : mm_X} {μ : mm_M} {q : Int32 → mm_M → Prop} {y : Int32} (hz : inG y (nI 0) (nI 255) = 0) (h : q (nI 0) μ) : mm_Ci X 0 0 0 k_G_isWeatherBits [.int y] μ q := sp_G_isWeatherBits (by rw [show inG y 0 255 = 0 from hz]; exact h)
theorem sp_G_isWeatherN {X : mm_X} {μ : mm_M} {q : Int32 → mm_M → Prop} {w : Nat} (hw : w < 2 ^ 31) (h : q (nI (if w < 8 then 1 else 0)) μ) : mm_Ci X 0 0 0 k_G_isWeather [.int (nI w)] μ q := sp_G_isWeather (by rw [show (8 : Int32) = nI 8 from rfl, inF_nI hw (by decide), ite01]; exact h)
theorem sp_G_isWeatherT {X : mm_X} {μ : mm_M} {q : Int32 → mm_M → Prop} {w : Nat} (hw : w < 8) (h : q (nI 1) μ) : mm_Ci X 0 0 0 k_G_isWeather [.int (nI w)] μ q := sp_G_isWeatherN (by omega) (by rw [if_pos hw]; exact h)
theorem sp_G_isWeatherB {X : mm_X} {μ : mm_M} {q : Int32 → mm_M → Prop} {y : Int32} (hz : atF 8 y = none) (h : q (nI 0) μ) : mm_Ci X 0 0 0 k_G_isWeather [.int y] μ q := sp_G_isWeather (by rw [show (8 : Int32) = nI 8 from rfl, inF_none hz]; exact h)
theorem bits_or (y : Int32) : inG y (nI 0) (nI 255) = 0 ∨ ∃ s, s ≤ 255 ∧ y = nI s := by
  rcases inG_or (x := y) (n := 255) (by decide) with z | ⟨s, hs, e, -⟩
  · exact Or.inl z
  · exact Or.inr ⟨s, hs, e⟩
/-- a number between a and b, or none -/
theorem rng_or (y : Int32) {a b : Nat} (ha : a < 2 ^ 31) (hb : b < 2 ^ 31) : (inG y (nI a) (nI b) = 0 ∧ (y < nI a ∨ nI b < y)) ∨ ∃ s, a ≤ s ∧ s ≤ b ∧ y = nI s := by
  unfold inG
  by_cases h : y < nI a
  · exact Or.inl ⟨if_pos h, Or.inl h⟩
  · by_cases h2 : nI b < y
    · exact Or.inl ⟨by rw [if_neg h, if_pos h2], Or.inr h2⟩
    · have h0 : ¬ y < 0 := fun z => h (by rw [Int32.lt_iff_toInt_lt] at z ⊢; rw [nI_toInt ha]; simp at z; omega)
      obtain ⟨s, h3, h4⟩ := nI_of2 (M := nI b) (n := b) (nI_toInt hb) h0 (Int32.not_lt.mp h2)
      subst h4
      exact Or.inr ⟨s, Nat.not_lt.mp fun z => h (nI_lt z ha), h3, rfl⟩
theorem sp_M_handN {X : mm_X} {μ : mm_M} {q : Int32 → mm_M → Prop} {c k : Nat} {D : mm_D} (hM : SK μ) (hc : mm_I μ 76 0 = nI c) (hc2 : c ≤ 2) (hk : k < c) (hD : CoM μ (44 * k) D) (hW : WfD D) (h : ∀ μ', Fr scM μ μ' → Hd μ' k D → HdZ μ' → q (nI 1) μ') : mm_Ci X 2 0 0 k_M_hand [.ref 71, .int (nI k)] μ q := sp_M_hand hM hc hc2 hk hD hW h
theorem sp_Cr_shared {X : mm_X} {μ : mm_M} {q : Int32 → mm_M → Prop} {a c e : Nat} {D : mm_D} (hCD : CoD μ a D) (hW : WfD D) (hc : c < 6) (he : e < 6) (h : q (nI (pop (dgp D c &&& dgp D e))) μ) : mm_Ci X 1 0 0 k_Cr_shared [.ref a, .int (nI c), .int (nI e)] μ q := by
  show mm_T X 1 0 0 k_Cr_shared 0 [some (.ref a), some (.int (nI c)), some (.int (nI e))] [] μ _
  refine mm_aload d_Cr_shared_0 rfl ?_
  refine mm_getP d_Cr_shared_1 rfl hCD.1.1 (CoS_p3 hCD.1) ?_
  refine mm_iload d_Cr_shared_4 rfl ?_
  refine mm_ialdN d_Cr_shared_5 (CoS_a3 hCD.1) (by omega) (by decide) (hCD.f3 (by omega)) ?_
  refine mm_aload d_Cr_shared_6 rfl ?_
  refine mm_getP d_Cr_shared_7 rfl hCD.1.1 (CoS_p3 hCD.1) ?_
  refine mm_iload d_Cr_shared_10 rfl ?_
  refine mm_ialdN d_Cr_shared_11 (CoS_a3 hCD.1) (by omega) (by decide) (hCD.f3 (by omega)) ?_
  refine mm_iandN d_Cr_shared_12 ?_
  refine mm_s1i d_Cr_shared_13 (sp_Int_bitCount (by first | omega | assumption | exact hW.gp (by omega) | exact hW.ne (by omega) | exact hW.op (by omega) | exact and_lt256 (hW.gp (by omega)) | exact and_lt256 (hW.ne (by omega)) | exact and_lt256 (hW.op (by omega))) ?_)
  exact mm_ri d_Cr_shared_16 h
theorem sp_M_allGods {X : mm_X} {μ : mm_M} {q : Int32 → mm_M → Prop} {k s : Nat} {D : mm_D} (hH : Hd μ k D) (hs : s < 256) (h : q (nI (unionN D s)) μ) : mm_Ci X 2 0 0 k_M_allGods [.ref 71, .int (nI s)] μ q := by
  show mm_T X 2 0 0 k_M_allGods 0 [some (.ref 71), some (.int (nI s)), none, none] [] μ _
  have hM := hH.1
  have hW := hH.wf
  have hn6 := hW.1
  refine mm_ciN 0 d_M_allGods_0 rfl ?_
  refine mm_ist2 d_M_allGods_1 ?_
  refine mm_ciN 0 d_M_allGods_2 rfl ?_
  refine mm_ist3 d_M_allGods_3 ?_
  refine mm_up (P := fun i => mm_T X _ 0 0 k_M_allGods 4 [some (.ref 71), some (.int (nI s)), some (.int (nI (unionK D s i))), some (.int (nI i))] [] μ _) (dn D) ?_ (fun i hi ih => ?_)
  · refine mm_iload d_M_allGods_4 rfl ?_
    refine mm_aload d_M_allGods_5 rfl ?_
    refine mm_getIN d_M_allGods_6 rfl (sk_o_71 hM) hH.n ?_
    refine mm_icmp_geN d_M_allGods_9 (by first | omega | exact bt8_lt31 _ _ | exact godB_lt31 _ _ _ | exact pop_lt31 _ | assumption | exact b31 (hW.gp (by omega)) | exact b31 (hW.ne (by omega)) | exact b31 (hW.op (by omega)) | exact and31 (hW.gp (by omega)) | exact and31 (hW.ne (by omega)) | exact and31 (hW.op (by omega)) | exact and31 (by assumption)) (by first | omega | exact bt8_lt31 _ _ | exact godB_lt31 _ _ _ | exact pop_lt31 _ | assumption | exact b31 (hW.gp (by omega)) | exact b31 (hW.ne (by omega)) | exact b31 (hW.op (by omega)) | exact and31 (hW.gp (by omega)) | exact and31 (hW.ne (by omega)) | exact and31 (hW.op (by omega)) | exact and31 (by assumption)) (fun c_9 => ?_) (fun c_9 => False.elim (by omega))
    refine mm_iload d_M_allGods_38 rfl ?_
    exact mm_ri d_M_allGods_39 h
  · refine mm_iload d_M_allGods_4 rfl ?_
    refine mm_aload d_M_allGods_5 rfl ?_
    refine mm_getIN d_M_allGods_6 rfl (sk_o_71 hM) hH.n ?_
    refine mm_icmp_geN d_M_allGods_9 (by first | omega | exact bt8_lt31 _ _ | exact godB_lt31 _ _ _ | exact pop_lt31 _ | assumption | exact b31 (hW.gp (by omega)) | exact b31 (hW.ne (by omega)) | exact b31 (hW.op (by omega)) | exact and31 (hW.gp (by omega)) | exact and31 (hW.ne (by omega)) | exact and31 (hW.op (by omega)) | exact and31 (by assumption)) (by first | omega | exact bt8_lt31 _ _ | exact godB_lt31 _ _ _ | exact pop_lt31 _ | assumption | exact b31 (hW.gp (by omega)) | exact b31 (hW.ne (by omega)) | exact b31 (hW.op (by omega)) | exact and31 (hW.gp (by omega)) | exact and31 (hW.ne (by omega)) | exact and31 (hW.op (by omega)) | exact and31 (by assumption)) (fun c_9 => False.elim (by omega)) (fun c_9 => ?_)
    refine mm_iload d_M_allGods_12 rfl ?_
    refine mm_iload d_M_allGods_13 rfl ?_
    refine mm_iload d_M_allGods_14 rfl ?_
    refine mm_s2i d_M_allGods_15 (sp_M_has (by first | omega | assumption | exact hW.gp (by omega) | exact hW.ne (by omega) | exact hW.op (by omega) | exact and_lt256 (hW.gp (by omega)) | exact and_lt256 (hW.ne (by omega)) | exact and_lt256 (hW.op (by omega))) (by omega) ?_)
    refine mm_if_eqN d_M_allGods_18 (by first | omega | exact bt8_lt31 _ _ | exact godB_lt31 _ _ _ | exact pop_lt31 _ | assumption | exact b31 (hW.gp (by omega)) | exact b31 (hW.ne (by omega)) | exact b31 (hW.op (by omega)) | exact and31 (hW.gp (by omega)) | exact and31 (hW.ne (by omega)) | exact and31 (hW.op (by omega)) | exact and31 (by assumption)) (fun c_18 => ?_) (fun c_18 => ?_)
    · refine mm_ciN 0 d_M_allGods_29 rfl ?_
      refine mm_iorN d_M_allGods_30 ?_
      refine mm_ist2 d_M_allGods_31 ?_
      refine mm_inc3N d_M_allGods_32 ?_
      refine mm_goto d_M_allGods_35 ?_
      first
        | exact ih
        | (have z := ih; simp only [unionK, if_pos c_18] at z; exact z)
        | (have z := ih; simp only [unionK, if_pos c_18, Nat.or_zero, Nat.add_zero] at z; exact z)
        | (have z := ih; simp only [unionK, if_pos c_18, Nat.mul_one] at z; exact z)
        | (have z := ih; simp only [unionK, if_neg c_18] at z; exact z)
        | (have z := ih; simp only [unionK, if_neg c_18, Nat.or_zero, Nat.add_zero] at z; exact z)
        | (have z := ih; simp only [unionK, if_neg c_18, Nat.mul_one] at z; exact z)
    · refine mm_aload d_M_allGods_21 rfl ?_
      refine mm_iload d_M_allGods_22 rfl ?_
      refine mm_v1i d_M_allGods_23 (sk_o_71 hM) (sp_M_gods hH (by omega) ?_)
      refine mm_goto d_M_allGods_26 ?_
      refine mm_iorN d_M_allGods_30 ?_
      refine mm_ist2 d_M_allGods_31 ?_
      refine mm_inc3N d_M_allGods_32 ?_
      refine mm_goto d_M_allGods_35 ?_
      first
        | exact ih
        | (have z := ih; simp only [unionK, if_pos c_18] at z; exact z)
        | (have z := ih; simp only [unionK, if_pos c_18, Nat.or_zero, Nat.add_zero] at z; exact z)
        | (have z := ih; simp only [unionK, if_pos c_18, Nat.mul_one] at z; exact z)
        | (have z := ih; simp only [unionK, if_neg c_18] at z; exact z)
        | (have z := ih; simp only [unionK, if_neg c_18, Nat.or_zero, Nat.add_zero] at z; exact z)
        | (have z := ih; simp only [unionK, if_neg c_18, Nat.mul_one] at z; exact z)
theorem pair_ready {X : mm_X} {k : Nat} {μ : mm_M} (hJ : JJ k μ) (y1 y2 : Int32) : PairI X (JJ (k + 1)) k_G_ready k_M_ready [.int y1, .int y2] μ := by
  obtain ⟨c, h02, h0, m0, hv⟩ := hJ.coast y1
  have hM := hJ.1
  have hw := hJ.2.2.2.up
  rcases hv with hx | ⟨i, D, hi, rfl, hW, hCD, hDM⟩
  · exact pairQ (-1) hJ (d := 2) (d' := 4) (by decide) (by decide) (n_G_ready hM h0 h02 hx ⟨rfl, Fr.rf, hw⟩) (fun μ1 hf => n_M_ready (hf.2.2.2 hM) (by rw [(hf.2.2.1 76 rfl).1]; exact m0) h02 hx (fun μ' hk => ⟨rfl, hk.fr (hf.2.2.2 hM)⟩))
  have hn6 := hW.1
  have hw6 := hW.2.1
  rcases bits_or y2 with hz | ⟨s, hs, rfl⟩
  · refine pairQ (-1) hJ (d := 12) (d' := 12) (by decide) (by decide) ?_ (fun μ1 hf => ?_)
    · show mm_T X 12 0 0 k_G_ready 0 [some (.ref 0), some (.int (nI i)), some (.int y2), none] [] μ _
      refine mm_aload d_G_ready_0 rfl ?_
      refine mm_getP d_G_ready_1 rfl (sk_o_0 hM) (sk_p_0_0 hM) ?_
      refine mm_iload d_G_ready_4 rfl ?_
      refine mm_v1r d_G_ready_5 (sk_o_1 hM) (sp_To_coastAtI hM h0 h02 hi ?_)
      refine mm_ast3 d_G_ready_8 ?_
      refine mm_aload d_G_ready_9 rfl ?_
      refine mm_ifnull d_G_ready_10 ?_
      refine mm_iload d_G_ready_13 rfl ?_
      refine mm_s1i d_G_ready_14 (sp_G_isWeatherBitsB hz ?_)
      refine mm_if_neN d_G_ready_17 (by first | omega | exact bt8_lt31 _ _ | exact godB_lt31 _ _ _ | exact pop_lt31 _ | assumption | exact b31 (hW.gp (by omega)) | exact b31 (hW.ne (by omega)) | exact b31 (hW.op (by omega)) | exact and31 (hW.gp (by omega)) | exact and31 (hW.ne (by omega)) | exact and31 (hW.op (by omega)) | exact and31 (by assumption)) (fun c_17 => False.elim (by omega)) (fun c_17 => ?_)
      refine mm_ci d_G_ready_20 ?_
      exact mm_ri d_G_ready_21 ⟨rfl, Fr.rf, hw⟩
    · show mm_T X 12 0 0 k_M_ready 0 [some (.ref 71), some (.int (nI i)), some (.int y2)] [] μ1 _
      replace hM := hf.2.2.2 hM
      replace m0 : mm_I μ1 76 0 = nI c := by rw [(hf.2.2.1 76 rfl).1]; exact m0
      replace hDM := hDM.frC hf
      refine mm_aload d_M_ready_0 rfl ?_
      refine mm_ciN 0 d_M_ready_1 rfl ?_
      refine mm_putI d_M_ready_2 rfl (sk_o_71 hM) (Or.inl rfl) ?_
      refine mm_iload d_M_ready_5 rfl ?_
      refine mm_ciN 0 d_M_ready_6 rfl ?_
      refine mm_ciN 255 d_M_ready_7 rfl ?_
      refine mm_s3i d_M_ready_10 (sp_M_inB hz ?_)
      refine mm_if_eqN d_M_ready_13 (by first | omega | exact bt8_lt31 _ _ | exact godB_lt31 _ _ _ | exact pop_lt31 _ | assumption | exact b31 (hW.gp (by omega)) | exact b31 (hW.ne (by omega)) | exact b31 (hW.op (by omega)) | exact and31 (hW.gp (by omega)) | exact and31 (hW.ne (by omega)) | exact and31 (hW.op (by omega)) | exact and31 (by assumption)) (fun c_13 => ?_) (fun c_13 => False.elim (by omega))
      refine mm_ci d_M_ready_32 ?_
      exact mm_ri d_M_ready_33 ⟨rfl, Fr.rf.sI rfl⟩
  · refine pairQ (nI (readyN D s)) hJ (d := 12) (d' := 12) (by decide) (by decide) ?_ (fun μ1 hf => ?_)
    · show mm_T X 12 0 0 k_G_ready 0 [some (.ref 0), some (.int (nI i)), some (.int (nI s)), none] [] μ _
      refine mm_aload d_G_ready_0 rfl ?_
      refine mm_getP d_G_ready_1 rfl (sk_o_0 hM) (sk_p_0_0 hM) ?_
      refine mm_iload d_G_ready_4 rfl ?_
      refine mm_v1r d_G_ready_5 (sk_o_1 hM) (sp_To_coastAtI hM h0 h02 hi ?_)
      refine mm_ast3 d_G_ready_8 ?_
      refine mm_aload d_G_ready_9 rfl ?_
      refine mm_ifnull d_G_ready_10 ?_
      refine mm_iload d_G_ready_13 rfl ?_
      refine mm_s1i d_G_ready_14 (sp_G_isWeatherBitsT (by omega) ?_)
      refine mm_if_neN d_G_ready_17 (by first | omega | exact bt8_lt31 _ _ | exact godB_lt31 _ _ _ | exact pop_lt31 _ | assumption | exact b31 (hW.gp (by omega)) | exact b31 (hW.ne (by omega)) | exact b31 (hW.op (by omega)) | exact and31 (hW.gp (by omega)) | exact and31 (hW.ne (by omega)) | exact and31 (hW.op (by omega)) | exact and31 (by assumption)) (fun c_17 => ?_) (fun c_17 => False.elim (by omega))
      refine mm_aload d_G_ready_22 rfl ?_
      refine mm_iload d_G_ready_23 rfl ?_
      refine mm_v1i d_G_ready_24 hCD.1.1 (sp_Co_worksWith hCD hW ?_)
      exact mm_ri d_G_ready_27 ⟨rfl, Fr.rf, hw⟩
    · show mm_T X 12 0 0 k_M_ready 0 [some (.ref 71), some (.int (nI i)), some (.int (nI s))] [] μ1 _
      replace hM := hf.2.2.2 hM
      replace m0 : mm_I μ1 76 0 = nI c := by rw [(hf.2.2.1 76 rfl).1]; exact m0
      replace hDM := hDM.frC hf
      refine mm_aload d_M_ready_0 rfl ?_
      refine mm_ciN 0 d_M_ready_1 rfl ?_
      refine mm_putI d_M_ready_2 rfl (sk_o_71 hM) (Or.inl rfl) ?_
      refine mm_iload d_M_ready_5 rfl ?_
      refine mm_ciN 0 d_M_ready_6 rfl ?_
      refine mm_ciN 255 d_M_ready_7 rfl ?_
      refine mm_s3i d_M_ready_10 (sp_M_inT (by omega) (by omega) (by omega) ?_)
      refine mm_if_eqN d_M_ready_13 (by first | omega | exact bt8_lt31 _ _ | exact godB_lt31 _ _ _ | exact pop_lt31 _ | assumption | exact b31 (hW.gp (by omega)) | exact b31 (hW.ne (by omega)) | exact b31 (hW.op (by omega)) | exact and31 (hW.gp (by omega)) | exact and31 (hW.ne (by omega)) | exact and31 (hW.op (by omega)) | exact and31 (by assumption)) (fun c_13 => False.elim (by omega)) (fun c_13 => ?_)
      refine mm_aload d_M_ready_16 rfl ?_
      refine mm_iload d_M_ready_17 rfl ?_
      refine mm_v1i d_M_ready_18 (sk_o_71 hM) (sp_M_handN hM (by first | exact m0 | (rw [mm_sI_off (by decide)]; exact m0)) h02 hi (by first | exact hDM | exact hDM.eq (mm_sI_off (by decide))) hW (fun μ2 g1 hH hZ => ?_))
      replace hM := hH.1
      refine mm_if_eqN d_M_ready_21 (by first | omega | exact bt8_lt31 _ _ | exact godB_lt31 _ _ _ | exact pop_lt31 _ | assumption | exact b31 (hW.gp (by omega)) | exact b31 (hW.ne (by omega)) | exact b31 (hW.op (by omega)) | exact and31 (hW.gp (by omega)) | exact and31 (hW.ne (by omega)) | exact and31 (hW.op (by omega)) | exact and31 (by assumption)) (fun c_21 => False.elim (by omega)) (fun c_21 => ?_)
      refine mm_aload d_M_ready_24 rfl ?_
      refine mm_iload d_M_ready_25 rfl ?_
      refine mm_v1i d_M_ready_26 (sk_o_71 hM) (sp_M_readyBy hH ?_)
      refine mm_goto d_M_ready_29 ?_
      exact mm_ri d_M_ready_33 ⟨rfl, (Fr.rf.sI rfl).trans g1⟩
