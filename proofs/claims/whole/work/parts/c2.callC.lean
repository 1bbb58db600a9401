/-! call: who asks; the class -/
def lst (g : Nat → Bool) : Nat → Option Nat
  | 0 => none
  | k + 1 => match lst g k with
    | some c => some c
    | none => if g k = true then some k else none
theorem lst_n {g : Nat → Bool} : ∀ k, (∀ c, c < k → ¬ g c = true) → lst g k = none
  | 0, _ => rfl
  | k + 1, h => by
    unfold lst
    rw [lst_n k (fun c hc => h c (by omega))]
    exact if_neg (h k (by omega))
theorem lst_s {g : Nat → Bool} {c : Nat} (hg : g c = true) (hl : ∀ c', c' < c → ¬ g c' = true) : ∀ k, c < k → lst g k = some c
  | 0, h => absurd h (Nat.not_lt_zero c)
  | k + 1, h => by
    unfold lst
    by_cases e : c = k
    · subst e
      rw [lst_n c hl]
      exact if_pos hg
    · rw [lst_s hg hl k (by omega)]
theorem lst_i {g : Nat → Bool} : ∀ k, (lst g k = none ∧ ∀ c, c < k → ¬ g c = true) ∨ ∃ c, c < k ∧ lst g k = some c ∧ g c = true ∧ ∀ c', c' < c → ¬ g c' = true
  | 0 => Or.inl ⟨rfl, fun c hc => absurd hc (Nat.not_lt_zero c)⟩
  | k + 1 => by
    rcases lst_i (g := g) k with ⟨h1, h2⟩ | ⟨c, h1, h2, h3, h4⟩
    · by_cases e : g k = true
      · exact Or.inr ⟨k, by omega, lst_s e h2 _ (by omega), e, h2⟩
      · have : ∀ c, c < k + 1 → ¬ g c = true := fun c hc => by
          by_cases z : c = k
          · rw [z]; exact e
          · exact h2 c (by omega)
        exact Or.inl ⟨lst_n _ this, this⟩
    · exact Or.inr ⟨c, by omega, lst_s h3 h4 _ (by omega), h3, h4⟩
/-- can the child c ask the i-th weather of N, these having asked -/
def gd (D : mm_D) (N i had : Nat) (f : Nat → Bool) (c : Nat) : Bool := decide (bt8 had c = 0 ∧ godB D c (kthN N i) ≠ 0) && f (had ||| 2 ^ c)
def cn (D : mm_D) (N : Nat) : Nat → Nat → Nat → Bool
  | 0, _, _ => true
  | r + 1, i, had => (lst (gd D N i had (cn D N r (i + 1))) (dn D)).isSome
def fc (D : mm_D) (N r i had : Nat) : Nat := (lst (gd D N i had (cn D N r (i + 1))) (dn D)).getD 0
def rwC (D : mm_D) (N : Nat) : Nat → Nat → Nat → Nat → Nat
  | 0, _, _, _ => 0
  | r + 1, i, had, j => if j = i then fc D N r i had else rwC D N r (i + 1) (had ||| 2 ^ fc D N r i had) j
def remN (N : Nat) : Nat → Nat
  | 0 => N
  | k + 1 => remN N k &&& (2 ^ ntzN (remN N k) ^^^ 4294967295)
set_option maxRecDepth 100000 in
theorem rem_ok : ∀ N, N < 256 → ∀ k, k < 9 → remN N k < 256 ∧ (remN N k = 0 ↔ pop N ≤ k) ∧ (k < pop N → ntzN (remN N k) = kthN N k ∧ kthN N k < 8 ∧ bt8 N (kthN N k) = 1 ∧ popK N (kthN N k) = k) := by decide +kernel
def sc58 (a : Nat) : Bool := a == 58
def AsC (D : mm_D) (e : Nat) (ν : mm_M) : Prop := SK ν ∧ e < 2 ∧ mm_P ν 57 6 = some (4 + 7 * e) ∧ CoD ν (4 + 7 * e) D ∧ WfD D
theorem AsC.fr {D : mm_D} {e : Nat} {μ ν : mm_M} (h : AsC D e μ) (f : Fr sc58 μ ν) : AsC D e ν := ⟨f.2.2.2 h.1, h.2.1, by rw [(f.2.2.1 57 rfl).2.2]; exact h.2.2.1, h.2.2.2.1.frC (f.sub (fun a z => by unfold sc58 at z; unfold scC; simp at z ⊢; omega)) h.2.1, h.2.2.2.2⟩
theorem gd_f {D : mm_D} {N i had c : Nat} {f : Nat → Bool} (h : bt8 had c ≠ 0 ∨ godB D c (kthN N i) = 0 ∨ f (had ||| 2 ^ c) = false) : ¬ gd D N i had f c = true := by
  unfold gd
  rw [Bool.and_eq_true, decide_eq_true_iff]
  rintro ⟨⟨a, b⟩, c⟩
  rcases h with h | h | h
  · exact h a
  · exact b h
  · rw [h] at c; cases c
theorem gd_t {D : mm_D} {N i had c : Nat} {f : Nat → Bool} (h1 : bt8 had c = 0) (h2 : godB D c (kthN N i) ≠ 0) (h3 : f (had ||| 2 ^ c) = true) : gd D N i had f c = true := by
  unfold gd
  rw [Bool.and_eq_true, decide_eq_true_iff]
  exact ⟨⟨h1, h2⟩, h3⟩
theorem sp_As_assignFrom {X : mm_X} {D : mm_D} {e N : Nat} (hN : N < 256) : ∀ (r i had : Nat) (ν : mm_M) (q : Int32 → mm_M → Prop), r + i = pop N → had < 64 → AsC D e ν → (cn D N r i had = true → ∀ ν', Fr sc58 ν ν' → (∀ j, j < i → mm_I ν' 58 j = mm_I ν 58 j) → (∀ j, i ≤ j → j < pop N → mm_I ν' 58 j = nI (rwC D N r i had j)) → q (nI 1) ν') → (cn D N r i had = false → ∀ ν', Fr sc58 ν ν' → (∀ j, j < i → mm_I ν' 58 j = mm_I ν 58 j) → q (nI 0) ν') → mm_Ci X (r + 2) 0 0 k_As_assignFrom [.ref 57, .int (nI (remN N i)), .int (nI i), .int (nI had)] ν q := by
  intro r
  have hp8 := pop_le N
  induction r with
  | zero =>
    intro i had ν q hr hh hA h1 h0
    obtain ⟨m1, m2, m3⟩ := rem_ok N hN i (by omega)
    have z : remN N i = 0 := m2.mpr (by omega)
    show mm_T X (0 + 2) 0 0 k_As_assignFrom 0 [some (.ref 57), some (.int (nI (remN N i))), some (.int (nI i)), some (.int (nI had)), none, none] [] ν _
    rw [z]
    refine mm_iload d_As_assignFrom_0 rfl ?_
    refine mm_if_neN d_As_assignFrom_1 (by first | omega | exact ite01_lt | exact bt8_lt31 _ _ | exact godB_lt31 _ _ _ | exact pop_lt31 _ | assumption | exact b31 (hW.gp (by omega)) | exact b31 (hW.ne (by omega)) | exact b31 (hW.op (by omega)) | exact and31 (hW.gp (by omega)) | exact and31 (hW.ne (by omega)) | exact and31 (hW.op (by omega)) | exact and31 (by assumption) | exact and31r (hW.ne (by omega)) | exact and31r (hW.gp (by omega)) | exact and31r (by decide)) (fun c_1 => False.elim (by omega)) (fun c_1 => ?_)
    refine mm_ciN 1 d_As_assignFrom_4 rfl ?_
    exact mm_rz d_As_assignFrom_5 (h1 rfl ν Fr.rf (fun _ _ => rfl) (fun j a b => absurd b (by omega)))
  | succ r ih =>
    intro i had ν q hr hh hA h1 h0
    obtain ⟨m1, m2, m3⟩ := rem_ok N hN i (by omega)
    have z : remN N i ≠ 0 := fun y => by have := m2.mp y; omega
    obtain ⟨k1, k2, k3, k4⟩ := m3 (by omega)
    have hM := hA.1
    have hW := hA.2.2.2.2
    have hn6 := hW.1
    show mm_T X (r + 1 + 2) 0 0 k_As_assignFrom 0 [some (.ref 57), some (.int (nI (remN N i))), some (.int (nI i)), some (.int (nI had)), none, none] [] ν _
    have ecn : cn D N (r + 1) i had = (lst (gd D N i had (cn D N r (i + 1))) (dn D)).isSome := rfl
    refine mm_iload d_As_assignFrom_0 rfl ?_
    refine mm_if_neN d_As_assignFrom_1 (by first | omega | exact ite01_lt | exact bt8_lt31 _ _ | exact godB_lt31 _ _ _ | exact pop_lt31 _ | assumption | exact b31 (hW.gp (by omega)) | exact b31 (hW.ne (by omega)) | exact b31 (hW.op (by omega)) | exact and31 (hW.gp (by omega)) | exact and31 (hW.ne (by omega)) | exact and31 (hW.op (by omega)) | exact and31 (by assumption) | exact and31r (hW.ne (by omega)) | exact and31r (hW.gp (by omega)) | exact and31r (by decide)) (fun c_1 => ?_) (fun c_1 => False.elim (by omega))
    refine mm_iload d_As_assignFrom_6 rfl ?_
    refine mm_s1i d_As_assignFrom_7 (sp_Int_numberOfTrailingZeros m1 z ?_) (hdd := by omega)
    rw [k1]
    refine mm_ist4 d_As_assignFrom_10 ?_
    refine mm_ciN 0 d_As_assignFrom_12 rfl ?_
    refine mm_ist5 d_As_assignFrom_13 ?_
    refine mm_up (P := fun c => ∀ (ξ : mm_M), Fr sc58 ν ξ → (∀ j, j < i → mm_I ξ 58 j = mm_I ν 58 j) → (∀ c', c' < c → ¬ gd D N i had (cn D N r (i + 1)) c' = true) → mm_T X (r + 1 + 2) 0 0 k_As_assignFrom 15 [some (.ref 57), some (.int (nI (remN N i))), some (.int (nI i)), some (.int (nI had)), some (.int (nI (kthN N i))), some (.int (nI c))] [] ξ _) (dn D) ?_ ?_ ν Fr.rf (fun _ _ => rfl) (fun c' hc => absurd hc (Nat.not_lt_zero c'))
    · intro ξ f e1 hl
      have hA := hA.fr f
      have hM := hA.1
      have hCD := hA.2.2.2.1
      have hP := hA.2.2.1
      refine mm_iload d_As_assignFrom_15 rfl ?_
      refine mm_aload d_As_assignFrom_17 rfl ?_
      refine mm_getP d_As_assignFrom_18 rfl (sk_o_57 hM) hP ?_
      refine mm_getIN d_As_assignFrom_21 rfl hCD.1.1 hCD.n ?_
      refine mm_icmp_geN d_As_assignFrom_24 (by first | omega | exact ite01_lt | exact bt8_lt31 _ _ | exact godB_lt31 _ _ _ | exact pop_lt31 _ | assumption | exact b31 (hW.gp (by omega)) | exact b31 (hW.ne (by omega)) | exact b31 (hW.op (by omega)) | exact and31 (hW.gp (by omega)) | exact and31 (hW.ne (by omega)) | exact and31 (hW.op (by omega)) | exact and31 (by assumption) | exact and31r (hW.ne (by omega)) | exact and31r (hW.gp (by omega)) | exact and31r (by decide)) (by first | omega | exact ite01_lt | exact bt8_lt31 _ _ | exact godB_lt31 _ _ _ | exact pop_lt31 _ | assumption | exact b31 (hW.gp (by omega)) | exact b31 (hW.ne (by omega)) | exact b31 (hW.op (by omega)) | exact and31 (hW.gp (by omega)) | exact and31 (hW.ne (by omega)) | exact and31 (hW.op (by omega)) | exact and31 (by assumption) | exact and31r (hW.ne (by omega)) | exact and31r (hW.gp (by omega)) | exact and31r (by decide)) (fun c_24 => ?_) (fun c_24 => False.elim (by omega))
      refine mm_ciN 0 d_As_assignFrom_96 rfl ?_
      exact mm_rz d_As_assignFrom_97 (h0 (by rw [ecn, lst_n _ hl]; rfl) ξ f e1)
    · intro c hc IH ξ f e1 hl
      have hA0 := hA
      have hA := hA.fr f
      have hM := hA.1
      have hCD := hA.2.2.2.1
      have hP := hA.2.2.1
      have hhc : had ||| 2 ^ c < 64 := or_lt64 hh (p2_lt (by omega))
      have nx : (¬ gd D N i had (cn D N r (i + 1)) c = true) → ∀ c', c' < c + 1 → ¬ gd D N i had (cn D N r (i + 1)) c' = true := fun h c' hc' => by
        by_cases y : c' = c
        · rw [y]; exact h
        · exact hl c' (by omega)
      have er : remN N (i + 1) = remN N i &&& (2 ^ kthN N i ^^^ 4294967295) := by show remN N i &&& (2 ^ ntzN (remN N i) ^^^ 4294967295) = _; rw [k1]
      refine mm_iload d_As_assignFrom_15 rfl ?_
      refine mm_aload d_As_assignFrom_17 rfl ?_
      refine mm_getP d_As_assignFrom_18 rfl (sk_o_57 hM) hP ?_
      refine mm_getIN d_As_assignFrom_21 rfl hCD.1.1 hCD.n ?_
      refine mm_icmp_geN d_As_assignFrom_24 (by first | omega | exact ite01_lt | exact bt8_lt31 _ _ | exact godB_lt31 _ _ _ | exact pop_lt31 _ | assumption | exact b31 (hW.gp (by omega)) | exact b31 (hW.ne (by omega)) | exact b31 (hW.op (by omega)) | exact and31 (hW.gp (by omega)) | exact and31 (hW.ne (by omega)) | exact and31 (hW.op (by omega)) | exact and31 (by assumption) | exact and31r (hW.ne (by omega)) | exact and31r (hW.gp (by omega)) | exact and31r (by decide)) (by first | omega | exact ite01_lt | exact bt8_lt31 _ _ | exact godB_lt31 _ _ _ | exact pop_lt31 _ | assumption | exact b31 (hW.gp (by omega)) | exact b31 (hW.ne (by omega)) | exact b31 (hW.op (by omega)) | exact and31 (hW.gp (by omega)) | exact and31 (hW.ne (by omega)) | exact and31 (hW.op (by omega)) | exact and31 (by assumption) | exact and31r (hW.ne (by omega)) | exact and31r (hW.gp (by omega)) | exact and31r (by decide)) (fun c_24 => False.elim (by omega)) (fun c_24 => ?_)
      refine mm_iload d_As_assignFrom_27 rfl ?_
      refine mm_ciN 8 d_As_assignFrom_28 rfl ?_
      refine mm_icmp_geN d_As_assignFrom_30 (by first | omega | exact ite01_lt | exact bt8_lt31 _ _ | exact godB_lt31 _ _ _ | exact pop_lt31 _ | assumption | exact b31 (hW.gp (by omega)) | exact b31 (hW.ne (by omega)) | exact b31 (hW.op (by omega)) | exact and31 (hW.gp (by omega)) | exact and31 (hW.ne (by omega)) | exact and31 (hW.op (by omega)) | exact and31 (by assumption) | exact and31r (hW.ne (by omega)) | exact and31r (hW.gp (by omega)) | exact and31r (by decide)) (by first | omega | exact ite01_lt | exact bt8_lt31 _ _ | exact godB_lt31 _ _ _ | exact pop_lt31 _ | assumption | exact b31 (hW.gp (by omega)) | exact b31 (hW.ne (by omega)) | exact b31 (hW.op (by omega)) | exact and31 (hW.gp (by omega)) | exact and31 (hW.ne (by omega)) | exact and31 (hW.op (by omega)) | exact and31 (by assumption) | exact and31r (hW.ne (by omega)) | exact and31r (hW.gp (by omega)) | exact and31r (by decide)) (fun c_30 => False.elim (by omega)) (fun c_30 => ?_)
      refine mm_iload d_As_assignFrom_33 rfl ?_
      refine mm_iload d_As_assignFrom_34 rfl ?_
      refine mm_s2i d_As_assignFrom_36 (sp_has (by first | omega | assumption | exact hW.gp (by omega) | exact hW.ne (by omega) | exact hW.op (by omega) | exact and_lt256 (hW.gp (by omega)) | exact and_lt256 (hW.ne (by omega)) | exact and_lt256 (hW.op (by omega)) | exact and_lt256 (by assumption)) (by omega) ?_) (hdd := by omega)
      refine mm_if_neN d_As_assignFrom_39 (by first | omega | exact ite01_lt | exact bt8_lt31 _ _ | exact godB_lt31 _ _ _ | exact pop_lt31 _ | assumption | exact b31 (hW.gp (by omega)) | exact b31 (hW.ne (by omega)) | exact b31 (hW.op (by omega)) | exact and31 (hW.gp (by omega)) | exact and31 (hW.ne (by omega)) | exact and31 (hW.op (by omega)) | exact and31 (by assumption) | exact and31r (hW.ne (by omega)) | exact and31r (hW.gp (by omega)) | exact and31r (by decide)) (fun c_39 => ?_) (fun c_39 => ?_)
      · refine mm_inc5N d_As_assignFrom_90 ?_
        refine mm_goto d_As_assignFrom_93 ?_
        first | exact IH ξ f e1 (nx (gd_f (Or.inl c_39))) | exact IH ξ f e1 (nx (gd_f (Or.inr (Or.inl c_53))))
      · refine mm_aload d_As_assignFrom_42 rfl ?_
        refine mm_getP d_As_assignFrom_43 rfl (sk_o_57 hM) hP ?_
        refine mm_iload d_As_assignFrom_46 rfl ?_
        refine mm_iload d_As_assignFrom_48 rfl ?_
        refine mm_v2i d_As_assignFrom_50 hCD.1.1 (sp_Co_isGodparent hCD hW (by omega) (by omega) ?_) (hdd := by omega)
        refine mm_if_eqN d_As_assignFrom_53 (by first | omega | exact ite01_lt | exact bt8_lt31 _ _ | exact godB_lt31 _ _ _ | exact pop_lt31 _ | assumption | exact b31 (hW.gp (by omega)) | exact b31 (hW.ne (by omega)) | exact b31 (hW.op (by omega)) | exact and31 (hW.gp (by omega)) | exact and31 (hW.ne (by omega)) | exact and31 (hW.op (by omega)) | exact and31 (by assumption) | exact and31r (hW.ne (by omega)) | exact and31r (hW.gp (by omega)) | exact and31r (by decide)) (fun c_53 => ?_) (fun c_53 => ?_)
        · refine mm_inc5N d_As_assignFrom_90 ?_
          refine mm_goto d_As_assignFrom_93 ?_
          first | exact IH ξ f e1 (nx (gd_f (Or.inl c_39))) | exact IH ξ f e1 (nx (gd_f (Or.inr (Or.inl c_53))))
        · refine mm_aload d_As_assignFrom_56 rfl ?_
          refine mm_getP d_As_assignFrom_57 rfl (sk_o_57 hM) (sk_p_57_0 hM) ?_
          refine mm_iload d_As_assignFrom_60 rfl ?_
          refine mm_iload d_As_assignFrom_61 rfl ?_
          refine mm_iastX d_As_assignFrom_63 (sk_a_58 hM) (by omega) (by decide) ?_
          refine mm_aload d_As_assignFrom_64 rfl ?_
          refine mm_iload d_As_assignFrom_65 rfl ?_
          refine mm_ciN 1 d_As_assignFrom_66 rfl ?_
          refine mm_iload d_As_assignFrom_67 rfl ?_
          refine mm_ishl1N d_As_assignFrom_69 (by omega) ?_
          refine mm_ci d_As_assignFrom_70 ?_
          refine mm_inotN d_As_assignFrom_71 ?_
          refine mm_iandN d_As_assignFrom_72 ?_
          refine mm_iload d_As_assignFrom_73 rfl ?_
          refine mm_ciN 1 d_As_assignFrom_74 rfl ?_
          refine mm_iaddN d_As_assignFrom_75 ?_
          refine mm_iload d_As_assignFrom_76 rfl ?_
          refine mm_ciN 1 d_As_assignFrom_77 rfl ?_
          refine mm_iload d_As_assignFrom_78 rfl ?_
          refine mm_ishl1N d_As_assignFrom_80 (by omega) ?_
          refine mm_iorN d_As_assignFrom_81 ?_
          rw [← er]
          refine mm_v3i d_As_assignFrom_82 (sk_o_57 hM) (ih (i + 1) (had ||| 2 ^ c) (mm_sI ξ 58 i (nI c)) _ (by omega) hhc (hA.fr (Fr.rf.sI rfl)) (fun ct ν' f2 e2 e3 => ?_) (fun cf ν' f2 e2 => ?_)) (hdd := by omega)
          · refine mm_if_eqN d_As_assignFrom_85 (by decide) (fun y => absurd y (by decide)) (fun _ => ?_)
            refine mm_ciN 1 d_As_assignFrom_88 rfl ?_
            have hls : lst (gd D N i had (cn D N r (i + 1))) (dn D) = some c := lst_s (gd_t c_39 c_53 ct) hl _ hc
            have hfc : fc D N r i had = c := by unfold fc; rw [hls]; rfl
            refine mm_rz d_As_assignFrom_89 (h1 (by rw [ecn, hls]; rfl) ν' ((f.sI rfl).trans f2) (fun j hj => ?_) (fun j a b => ?_))
            · rw [e2 j (by omega), mm_I_sI, if_neg (by omega)]; exact e1 j hj
            · show _ = nI (if j = i then fc D N r i had else rwC D N r (i + 1) (had ||| 2 ^ fc D N r i had) j)
              rw [hfc]
              by_cases y : j = i
              · rw [if_pos y, e2 j (by omega), mm_I_sI, if_pos ⟨rfl, y⟩]
              · rw [if_neg y]; exact e3 j (by omega) b
          · refine mm_if_eqN d_As_assignFrom_85 (by decide) (fun _ => ?_) (fun y => absurd rfl y)
            refine mm_inc5N d_As_assignFrom_90 ?_
            refine mm_goto d_As_assignFrom_93 ?_
            exact IH ν' ((f.sI rfl).trans f2) (fun j hj => by rw [e2 j (by omega), mm_I_sI, if_neg (by omega)]; exact e1 j hj) (nx (gd_f (Or.inr (Or.inr cf))))
theorem sp_As_assign {X : mm_X} {μ : mm_M} {q : Int32 → mm_M → Prop} {D : mm_D} {e N : Nat} (hM : SK μ) (he : e < 2) (hC0 : CoD μ (4 + 7 * e) D) (hW : WfD D) (hN : N < 256) (h1 : cn D N (pop N) 0 0 = true → ∀ ν, Fr scC μ ν → mm_I ν 57 = mm_I μ 57 → mm_I ν 62 = mm_I μ 62 → (∀ j, j < pop N → mm_I ν 58 j = nI (rwC D N (pop N) 0 0 j)) → q (nI 1) ν) (h0 : cn D N (pop N) 0 0 = false → ∀ ν, Fr scC μ ν → mm_I ν 57 = mm_I μ 57 → mm_I ν 62 = mm_I μ 62 → q (nI 0) ν) : mm_Ci X 11 0 0 k_As_assign [.ref 57, .ref (4 + 7 * e), .int (nI N)] μ q := by
  show mm_T X 11 0 0 k_As_assign 0 [some (.ref 57), some (.ref (4 + 7 * e)), some (.int (nI N))] [] μ _
  have hp8 := pop_le N
  have f0 : Fr scC μ (mm_sP μ 57 6 (some (4 + 7 * e))) := Fr.rf.sP rfl (by decide)
  have hA : AsC D e (mm_sP μ 57 6 (some (4 + 7 * e))) := ⟨f0.2.2.2 hM, he, by rw [mm_P_sP, if_pos ⟨rfl, rfl⟩], hC0.frC f0 he, hW⟩
  have sx : ∀ a, sc58 a = true → scC a = true := fun a z => by unfold sc58 at z; unfold scC; simp at z ⊢; omega
  refine mm_aload d_As_assign_0 rfl ?_
  refine mm_aload d_As_assign_1 rfl ?_
  refine mm_putP d_As_assign_2 rfl (by decide) (sk_o_57 hM) (Or.inl rfl) ?_
  refine mm_aload d_As_assign_5 rfl ?_
  refine mm_iload d_As_assign_6 rfl ?_
  refine mm_ciN 0 d_As_assign_7 rfl ?_
  refine mm_ciN 0 d_As_assign_8 rfl ?_
  refine mm_v3i d_As_assign_9 (sk_o_57 hA.1) (sp_As_assignFrom hN (pop N) 0 0 _ _ (by omega) (by decide) hA (fun ct ν f e1 e2 => ?_) (fun cf ν f e1 => ?_)) (hdd := by omega)
  · exact mm_rz d_As_assign_12 (h1 ct ν (f0.trans (f.sub sx)) (f.2.2.1 57 rfl).1 (f.2.2.1 62 rfl).1 (fun j hj => e2 j (Nat.zero_le _) hj))
  · exact mm_rz d_As_assign_12 (h0 cf ν (f0.trans (f.sub sx)) (f.2.2.1 57 rfl).1 (f.2.2.1 62 rfl).1)
