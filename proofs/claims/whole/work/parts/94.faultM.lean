/-! texts: the model's faults along a line -/
def ff (k : Nat) (v : Nat → Nat) (f0 : Nat) : Nat → Nat
  | 0 => f0
  | i + 1 => nf (cb k v i) (ff k v f0 i)
def pp (k : Nat) (v x : Nat → Nat) (f0 p0 : Nat) : Nat → Nat
  | 0 => p0
  | i + 1 => np (cb k v i) (ff k v f0 i) (pp k v x f0 p0 i) (x i)
def gg (k : Nat) (v : Nat → Nat) : Nat → Nat
  | 0 => 1
  | i + 1 => if cb k v i = true then gg k v i else 0
theorem fb_snoc {k : Nat} {v : Nat → Nat} : ∀ n i, fb k v (n + 1) i = match fb k v n i with | some j => some j | none => if cb k v (i + n) = true then none else some (i + n)
  | 0, i => by
    show (if cb k v i = true then none else some i) = if cb k v (i + 0) = true then none else some (i + 0)
    rfl
  | n + 1, i => by
    rw [show fb k v (n + 1 + 1) i = if cb k v i = true then fb k v (n + 1) (i + 1) else some i from rfl, show fb k v (n + 1) i = if cb k v i = true then fb k v n (i + 1) else some i from rfl]
    by_cases h : cb k v i = true
    · rw [if_pos h, if_pos h, fb_snoc n (i + 1), show i + 1 + n = i + (n + 1) by omega]
    · rw [if_neg h, if_neg h]
theorem ff_ne {k : Nat} {v x : Nat → Nat} {f0 p0 : Nat} (h : f0 ≠ 0) : ∀ n, ff k v f0 n = f0 ∧ pp k v x f0 p0 n = p0
  | 0 => ⟨rfl, rfl⟩
  | n + 1 => by
    obtain ⟨h1, h2⟩ := ff_ne (k := k) (v := v) (x := x) (p0 := p0) h n
    show nf (cb k v n) (ff k v f0 n) = f0 ∧ np (cb k v n) (ff k v f0 n) (pp k v x f0 p0 n) (x n) = p0
    rw [h1, h2]
    unfold nf np
    by_cases hc : cb k v n = true
    · rw [if_pos hc, if_pos hc]; exact ⟨rfl, rfl⟩
    · rw [if_neg hc, if_neg hc, if_neg h, if_neg h]; exact ⟨rfl, rfl⟩
theorem ff_0 {k : Nat} {v x : Nat → Nat} {p0 : Nat} : ∀ n, (fb k v n 0 = none ∧ ff k v 0 n = 0 ∧ pp k v x 0 p0 n = p0 ∧ gg k v n = 1) ∨ ∃ i, i < n ∧ fb k v n 0 = some i ∧ ff k v 0 n = 2 ∧ pp k v x 0 p0 n = x i ∧ gg k v n = 0
  | 0 => Or.inl ⟨rfl, rfl, rfl, rfl⟩
  | n + 1 => by
    rw [fb_snoc n 0, Nat.zero_add]
    show (_ ∧ nf (cb k v n) (ff k v 0 n) = 0 ∧ np (cb k v n) (ff k v 0 n) (pp k v x 0 p0 n) (x n) = p0 ∧ (if cb k v n = true then gg k v n else 0) = 1) ∨ ∃ i, i < n + 1 ∧ _ ∧ nf (cb k v n) (ff k v 0 n) = 2 ∧ np (cb k v n) (ff k v 0 n) (pp k v x 0 p0 n) (x n) = x i ∧ (if cb k v n = true then gg k v n else 0) = 0
    unfold nf np
    rcases ff_0 (k := k) (v := v) (x := x) (p0 := p0) n with ⟨a1, a2, a3, a4⟩ | ⟨i, a0, a1, a2, a3, a4⟩
    · rw [a1, a2, a3, a4]
      by_cases hc : cb k v n = true
      · rw [if_pos hc, if_pos hc, if_pos hc]
        exact Or.inl ⟨rfl, rfl, rfl, if_pos hc⟩
      · rw [if_neg hc, if_neg hc, if_neg hc]
        exact Or.inr ⟨n, by omega, rfl, if_pos rfl, if_pos rfl, if_neg hc⟩
    · rw [a1, a2, a3, a4]
      refine Or.inr ⟨i, by omega, rfl, ?_, ?_, ?_⟩
      · split <;> rfl
      · split <;> rfl
      · split <;> rfl
theorem gg_01 {k : Nat} {v : Nat → Nat} : ∀ n, gg k v n = 1 ∧ (∀ j, j < n → cb k v j = true) ∨ gg k v n = 0 ∧ ¬ ∀ j, j < n → cb k v j = true
  | 0 => Or.inl ⟨rfl, fun j hj => absurd hj (Nat.not_lt_zero j)⟩
  | n + 1 => by
    show (if cb k v n = true then gg k v n else 0) = 1 ∧ _ ∨ (if cb k v n = true then gg k v n else 0) = 0 ∧ _
    by_cases hc : cb k v n = true
    · rw [if_pos hc]
      rcases gg_01 (k := k) (v := v) n with ⟨h1, h2⟩ | ⟨h1, h2⟩
      · exact Or.inl ⟨h1, fun j hj => by by_cases w : j < n; exact h2 j w; rw [show j = n by omega]; exact hc⟩
      · exact Or.inr ⟨h1, fun z => h2 (fun j hj => z j (by omega))⟩
    · rw [if_neg hc]
      exact Or.inr ⟨rfl, fun z => hc (z n (by omega))⟩
def jf (k : Nat) (t : Nat → Nat) (fl : Nat) : Nat := if fl ≠ 0 then fl else if fu k t = true then 3 else 0
def jp (k : Nat) (t : Nat → Nat) (fl pl x : Nat) : Nat := if fl ≠ 0 then pl else if fu k t = true then x else pl
theorem jg_ff {s : Nat} {u : Nat → Nat} {L p : Nat} {t : Nat → Nat} {fl pl : Nat} : (jg s u L p t fl pl).1 = ff (lnF s u L p) (vv u L p) (jf (lnF s u L p) t fl) (nu (lnF s u L p)) ∧ (jg s u L p t fl pl).2.1 = pp (lnF s u L p) (vv u L p) (fun i => tP u L (ps u L p i)) (jf (lnF s u L p) t fl) (jp (lnF s u L p) t fl pl (tP u L p)) (nu (lnF s u L p)) ∧ ((jg s u L p t fl pl).1 = 0 → fl = 0 ∧ ¬ fu (lnF s u L p) t = true ∧ (jg s u L p t fl pl).2.2 = stp (lnF s u L p) (vv u L p) t ∧ ∀ j, j < nu (lnF s u L p) → cb (lnF s u L p) (vv u L p) j = true) := by
  unfold jg jf jp
  by_cases h0 : fl ≠ 0
  · rw [if_pos h0, if_pos h0, if_pos h0]
    obtain ⟨a, b⟩ := ff_ne (k := lnF s u L p) (v := vv u L p) (x := fun i => tP u L (ps u L p i)) (p0 := pl) h0 (nu (lnF s u L p))
    exact ⟨a.symm, b.symm, fun z => absurd z h0⟩
  · rw [if_neg h0, if_neg h0, if_neg h0]
    by_cases h1 : fu (lnF s u L p) t = true
    · rw [if_pos h1, if_pos h1, if_pos h1]
      obtain ⟨a, b⟩ := ff_ne (k := lnF s u L p) (v := vv u L p) (x := fun i => tP u L (ps u L p i)) (f0 := 3) (p0 := tP u L p) (by decide) (nu (lnF s u L p))
      exact ⟨a.symm, b.symm, fun z => absurd (show (3 : Nat) = 0 from z) (by decide)⟩
    · rw [if_neg h1, if_neg h1, if_neg h1]
      rcases ff_0 (k := lnF s u L p) (v := vv u L p) (x := fun i => tP u L (ps u L p i)) (p0 := pl) (nu (lnF s u L p)) with ⟨a1, a2, a3, a4⟩ | ⟨i, a0, a1, a2, a3, a4⟩
      · rw [a1, a2, a3]
        exact ⟨rfl, rfl, fun _ => ⟨by omega, h1, rfl, fun j hj => fb_all a1 j hj⟩⟩
      · rw [a1, a2, a3]
        exact ⟨rfl, rfl, fun z => absurd (show (2 : Nat) = 0 from z) (by decide)⟩
theorem sp_M_take {X : mm_X} {μ : mm_M} {q : Int32 → mm_M → Prop} {k lo hi : Nat} (hM : SK μ) (h : mm_Ci X 2 0 0 k_M_takeNew [.ref 71, .int (nI k), .int (nI lo), .int (nI hi), .int (nI 0)] μ (fun r ν => (r = nI 0 ∨ r = nI 1) ∧ q r ν)) : mm_Ci X 3 0 0 k_M_take [.ref 71, .int (nI k), .int (nI lo), .int (nI hi)] μ q := by
  show mm_T X 3 0 0 k_M_take 0 [some (.ref 71), some (.int (nI k)), some (.int (nI lo)), some (.int (nI hi))] [] μ _
  refine mm_aload d_M_take_0 rfl ?_
  refine mm_iload d_M_take_1 rfl ?_
  refine mm_iload d_M_take_2 rfl ?_
  refine mm_iload d_M_take_3 rfl ?_
  refine mm_ciN 0 d_M_take_4 rfl ?_
  refine mm_v4i d_M_take_5 (sk_o_71 hM) (h.imp (fun r ν z => ?_))
  obtain ⟨z1, z2⟩ := z
  rcases z1 with rfl | rfl
  · exact mm_rz d_M_take_8 z2
  · exact mm_rz d_M_take_8 z2
/-- no room: a fault 3 at x -/
theorem sp_M_full {X : mm_X} {μ : mm_M} {q : mm_M → Prop} {f pl x c a m : Nat} (hM : SK μ) (hF : LF f pl x μ) (hx : x ≤ 600) (ha : a < 121) (hc : mm_I μ 80 a = nI c) (hc2 : c ≤ m) (hm : m < 100) (h : ∀ ν, Fr sc71 μ ν → mm_P ν = mm_P μ → (∀ j, j ≠ 16 → j ≠ 17 → mm_I ν 71 j = mm_I μ 71 j) → mm_J ν = mm_J μ → LF (if f ≠ 0 then f else if m ≤ c then 3 else 0) (if f ≠ 0 then pl else if m ≤ c then x else pl) (x + 1) ν → q ν) : mm_Cv X 1 0 0 k_M_full [.ref 71, .int (nI a), .int (nI m), .int (nI x)] μ q := by
  show mm_T X 1 0 0 k_M_full 0 [some (.ref 71), some (.int (nI a)), some (.int (nI m)), some (.int (nI x))] [] μ _
  have keep : (f ≠ 0 ∨ ¬ m ≤ c) → q μ := fun z => h μ Fr.rf rfl (fun _ _ _ => rfl) rfl (by
    by_cases h0 : f ≠ 0
    · rw [if_pos h0, if_pos h0]; exact hF.cg (by omega) rfl rfl
    · rw [if_neg h0, if_neg h0, if_neg (show ¬ m ≤ c by omega), if_neg (show ¬ m ≤ c by omega)]
      obtain ⟨a1, a2, a3, a4⟩ := hF
      exact ⟨by rw [a1]; congr 1; omega, by decide, a3, fun z => absurd rfl z⟩)
  by_cases hmc : m ≤ c
  · refine mm_aload d_M_full_0 rfl ?_
    refine mm_getP d_M_full_1 rfl (sk_o_71 hM) (sk_p_71_18 hM) ?_
    refine mm_iload d_M_full_4 rfl ?_
    refine mm_ialdN d_M_full_5 (sk_a_80 hM) (by omega) (by decide) hc ?_
    refine mm_iload d_M_full_6 rfl ?_
    refine mm_icmp_neN d_M_full_7 (by first | omega | exact ite01_lt | exact bt8_lt31 _ _ | exact godB_lt31 _ _ _ | exact pop_lt31 _ | assumption | exact b31 (hW.gp (by omega)) | exact b31 (hW.ne (by omega)) | exact b31 (hW.op (by omega)) | exact and31 (hW.gp (by omega)) | exact and31 (hW.ne (by omega)) | exact and31 (hW.op (by omega)) | exact and31 (by assumption) | exact and31r (hW.ne (by omega)) | exact and31r (hW.gp (by omega)) | exact and31r (by decide)) (by first | omega | exact ite01_lt | exact bt8_lt31 _ _ | exact godB_lt31 _ _ _ | exact pop_lt31 _ | assumption | exact b31 (hW.gp (by omega)) | exact b31 (hW.ne (by omega)) | exact b31 (hW.op (by omega)) | exact and31 (hW.gp (by omega)) | exact and31 (hW.ne (by omega)) | exact and31 (hW.op (by omega)) | exact and31 (by assumption) | exact and31r (hW.ne (by omega)) | exact and31r (hW.gp (by omega)) | exact and31r (by decide)) (fun c_7 => False.elim (by omega)) (fun c_7 => ?_)
    refine mm_aload d_M_full_10 rfl ?_
    refine mm_ciN 3 d_M_full_11 rfl ?_
    refine mm_iload d_M_full_12 rfl ?_
    refine mm_v2v d_M_full_13 (sk_o_71 hM) (sp_M_later hM hF hx (by decide) (fun f0 => ?_) (fun f0 => mm_rv d_M_full_16 (keep (Or.inl f0))))
    refine mm_rv d_M_full_16 (h _ ((Fr.rf.sI rfl).sI rfl) rfl (fun j h1 h2 => by rw [mm_I_sI, if_neg (by omega), mm_I_sI, if_neg (by omega)]) rfl ?_)
    rw [if_neg (show ¬ f ≠ 0 by omega), if_neg (show ¬ f ≠ 0 by omega), if_pos hmc, if_pos hmc]
    exact ⟨by rw [mm_I_sI, if_neg (by decide), mm_I_sI, if_pos ⟨rfl, rfl⟩], by decide, by omega, fun _ => ⟨by rw [mm_I_sI, if_pos ⟨rfl, rfl⟩], by omega⟩⟩
  · refine mm_aload d_M_full_0 rfl ?_
    refine mm_getP d_M_full_1 rfl (sk_o_71 hM) (sk_p_71_18 hM) ?_
    refine mm_iload d_M_full_4 rfl ?_
    refine mm_ialdN d_M_full_5 (sk_a_80 hM) (by omega) (by decide) hc ?_
    refine mm_iload d_M_full_6 rfl ?_
    refine mm_icmp_neN d_M_full_7 (by first | omega | exact ite01_lt | exact bt8_lt31 _ _ | exact godB_lt31 _ _ _ | exact pop_lt31 _ | assumption | exact b31 (hW.gp (by omega)) | exact b31 (hW.ne (by omega)) | exact b31 (hW.op (by omega)) | exact and31 (hW.gp (by omega)) | exact and31 (hW.ne (by omega)) | exact and31 (hW.op (by omega)) | exact and31 (by assumption) | exact and31r (hW.ne (by omega)) | exact and31r (hW.gp (by omega)) | exact and31r (by decide)) (by first | omega | exact ite01_lt | exact bt8_lt31 _ _ | exact godB_lt31 _ _ _ | exact pop_lt31 _ | assumption | exact b31 (hW.gp (by omega)) | exact b31 (hW.ne (by omega)) | exact b31 (hW.op (by omega)) | exact and31 (hW.gp (by omega)) | exact and31 (hW.ne (by omega)) | exact and31 (hW.op (by omega)) | exact and31 (by assumption) | exact and31r (hW.ne (by omega)) | exact and31r (hW.gp (by omega)) | exact and31r (by decide)) (fun c_7 => ?_) (fun c_7 => False.elim (by omega))
    exact mm_rv d_M_full_16 (keep (Or.inr hmc))
