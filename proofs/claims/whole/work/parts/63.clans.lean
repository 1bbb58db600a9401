/-! clan: trailing zeros, twins, clans -/
theorem mm_iushrN {X : mm_X} {d nc ns : Nat} {K : mm_K} {pc n : Nat} {ls : List (Option Value)} {st : List Value} {μ : mm_M} {Q : Option Value → mm_M → Prop} {a : Nat} {s : Int32} (k : Nat) (hd : mm_d K pc .iushr 1 n) (ha : a < 2 ^ 31) (hs : ((s.toUInt32 &&& Int32.toUInt32 31).toBitVec % 32).toNat = k) (h : mm_T X d nc ns K n ls (.int (nI (a / 2 ^ k)) :: st) μ Q) : mm_T X d nc ns K pc ls (.int s :: .int (nI a) :: st) μ Q := mm_iushr hd (by rw [pk_ushrN (by omega) s k hs]; exact h)
theorem mm_inc1K {X : mm_X} {d nc ns : Nat} {K : mm_K} {pc n : Nat} {st : List Value} {μ : mm_M} {Q : Option Value → mm_M → Prop} {a0 : Option Value} {tl : List (Option Value)} {x : Nat} {v : Int32} (k : Nat) (hd : mm_ii K pc 1 v n) (hv : v = nI k) (h : mm_T X d nc ns K n (a0 :: some (.int (nI (x + k))) :: tl) st μ Q) (hn : mm_nl (a0 :: some (.int (nI x)) :: tl) 1 = true := by rfl) : mm_T X d nc ns K pc (a0 :: some (.int (nI x)) :: tl) st μ Q := mm_inc1 hd (by rw [hv, nI_add]; exact h) hn
/-- trailing zeros of a set that is not empty -/
def ntz3 (n m : Nat) : Nat := n + m / 2
def ntz2 (n m : Nat) : Nat := if m ≤ 4 then ntz3 n m else ntz3 (n + 2) (m / 4)
def ntz1 (m : Nat) : Nat := if m ≤ 16 then ntz2 1 m else ntz2 (1 + 4) (m / 16)
def ntzN (s : Nat) : Nat := if (s ^^^ 4294967295) &&& (s - 1) = 0 then 0 else ntz1 ((s ^^^ 4294967295) &&& (s - 1))
theorem ntz_m : ∀ s, s < 256 → (s ^^^ 4294967295) &&& (s - 1) < 256 := by decide +kernel
theorem sp_Int_numberOfTrailingZeros {X : mm_X} {μ : mm_M} {q : Int32 → mm_M → Prop} {s : Nat} (hs : s < 256) (h0 : s ≠ 0) (h : q (nI (ntzN s)) μ) : mm_Ci X 0 0 0 k_Int_numberOfTrailingZeros [.int (nI s)] μ q := by
  show mm_T X 0 0 0 k_Int_numberOfTrailingZeros 0 [some (.int (nI s)), none] [] μ _
  have hm := ntz_m s hs
  unfold ntzN at h
  refine mm_iload d_Int_numberOfTrailingZeros_0 rfl ?_
  refine mm_ci d_Int_numberOfTrailingZeros_1 ?_
  refine mm_inotN d_Int_numberOfTrailingZeros_2 ?_
  refine mm_iload d_Int_numberOfTrailingZeros_3 rfl ?_
  refine mm_ciN 1 d_Int_numberOfTrailingZeros_4 rfl ?_
  refine mm_isubN d_Int_numberOfTrailingZeros_5 (by omega) ?_
  refine mm_iandN d_Int_numberOfTrailingZeros_6 ?_
  refine mm_ist0 d_Int_numberOfTrailingZeros_7 ?_
  refine mm_iload d_Int_numberOfTrailingZeros_8 rfl ?_
  refine mm_if_gtN d_Int_numberOfTrailingZeros_9 (by first | omega | exact ite01_lt | exact bt8_lt31 _ _ | exact godB_lt31 _ _ _ | exact pop_lt31 _ | assumption | exact b31 (hW.gp (by omega)) | exact b31 (hW.ne (by omega)) | exact b31 (hW.op (by omega)) | exact and31 (hW.gp (by omega)) | exact and31 (hW.ne (by omega)) | exact and31 (hW.op (by omega)) | exact and31 (by assumption) | exact and31r (hW.ne (by omega)) | exact and31r (hW.gp (by omega)) | exact and31r (by decide)) (fun c_9 => ?_) (fun c_9 => ?_)
  · refine mm_ciN 1 d_Int_numberOfTrailingZeros_17 rfl ?_
    refine mm_ist1 d_Int_numberOfTrailingZeros_18 ?_
    refine mm_iload d_Int_numberOfTrailingZeros_19 rfl ?_
    refine mm_ciN 65536 d_Int_numberOfTrailingZeros_20 rfl ?_
    refine mm_icmp_leN d_Int_numberOfTrailingZeros_23 (by first | omega | exact ite01_lt | exact bt8_lt31 _ _ | exact godB_lt31 _ _ _ | exact pop_lt31 _ | assumption | exact b31 (hW.gp (by omega)) | exact b31 (hW.ne (by omega)) | exact b31 (hW.op (by omega)) | exact and31 (hW.gp (by omega)) | exact and31 (hW.ne (by omega)) | exact and31 (hW.op (by omega)) | exact and31 (by assumption) | exact and31r (hW.ne (by omega)) | exact and31r (hW.gp (by omega)) | exact and31r (by decide)) (by first | omega | exact ite01_lt | exact bt8_lt31 _ _ | exact godB_lt31 _ _ _ | exact pop_lt31 _ | assumption | exact b31 (hW.gp (by omega)) | exact b31 (hW.ne (by omega)) | exact b31 (hW.op (by omega)) | exact and31 (hW.gp (by omega)) | exact and31 (hW.ne (by omega)) | exact and31 (hW.op (by omega)) | exact and31 (by assumption) | exact and31r (hW.ne (by omega)) | exact and31r (hW.gp (by omega)) | exact and31r (by decide)) (fun c_23 => ?_) (fun c_23 => False.elim (by omega))
    refine mm_iload d_Int_numberOfTrailingZeros_34 rfl ?_
    refine mm_ciN 256 d_Int_numberOfTrailingZeros_35 rfl ?_
    refine mm_icmp_leN d_Int_numberOfTrailingZeros_38 (by first | omega | exact ite01_lt | exact bt8_lt31 _ _ | exact godB_lt31 _ _ _ | exact pop_lt31 _ | assumption | exact b31 (hW.gp (by omega)) | exact b31 (hW.ne (by omega)) | exact b31 (hW.op (by omega)) | exact and31 (hW.gp (by omega)) | exact and31 (hW.ne (by omega)) | exact and31 (hW.op (by omega)) | exact and31 (by assumption) | exact and31r (hW.ne (by omega)) | exact and31r (hW.gp (by omega)) | exact and31r (by decide)) (by first | omega | exact ite01_lt | exact bt8_lt31 _ _ | exact godB_lt31 _ _ _ | exact pop_lt31 _ | assumption | exact b31 (hW.gp (by omega)) | exact b31 (hW.ne (by omega)) | exact b31 (hW.op (by omega)) | exact and31 (hW.gp (by omega)) | exact and31 (hW.ne (by omega)) | exact and31 (hW.op (by omega)) | exact and31 (by assumption) | exact and31r (hW.ne (by omega)) | exact and31r (hW.gp (by omega)) | exact and31r (by decide)) (fun c_38 => ?_) (fun c_38 => False.elim (by omega))
    refine mm_iload d_Int_numberOfTrailingZeros_49 rfl ?_
    refine mm_ciN 16 d_Int_numberOfTrailingZeros_50 rfl ?_
    refine mm_icmp_leN d_Int_numberOfTrailingZeros_52 (by first | omega | exact ite01_lt | exact bt8_lt31 _ _ | exact godB_lt31 _ _ _ | exact pop_lt31 _ | assumption | exact b31 (hW.gp (by omega)) | exact b31 (hW.ne (by omega)) | exact b31 (hW.op (by omega)) | exact and31 (hW.gp (by omega)) | exact and31 (hW.ne (by omega)) | exact and31 (hW.op (by omega)) | exact and31 (by assumption) | exact and31r (hW.ne (by omega)) | exact and31r (hW.gp (by omega)) | exact and31r (by decide)) (by first | omega | exact ite01_lt | exact bt8_lt31 _ _ | exact godB_lt31 _ _ _ | exact pop_lt31 _ | assumption | exact b31 (hW.gp (by omega)) | exact b31 (hW.ne (by omega)) | exact b31 (hW.op (by omega)) | exact and31 (hW.gp (by omega)) | exact and31 (hW.ne (by omega)) | exact and31 (hW.op (by omega)) | exact and31 (by assumption) | exact and31r (hW.ne (by omega)) | exact and31r (hW.gp (by omega)) | exact and31r (by decide)) (fun c_52 => ?_) (fun c_52 => ?_)
    · refine mm_iload d_Int_numberOfTrailingZeros_62 rfl ?_
      refine mm_ciN 4 d_Int_numberOfTrailingZeros_63 rfl ?_
      refine mm_icmp_leN d_Int_numberOfTrailingZeros_64 (by first | omega | exact ite01_lt | exact bt8_lt31 _ _ | exact godB_lt31 _ _ _ | exact pop_lt31 _ | assumption | exact b31 (hW.gp (by omega)) | exact b31 (hW.ne (by omega)) | exact b31 (hW.op (by omega)) | exact and31 (hW.gp (by omega)) | exact and31 (hW.ne (by omega)) | exact and31 (hW.op (by omega)) | exact and31 (by assumption) | exact and31r (hW.ne (by omega)) | exact and31r (hW.gp (by omega)) | exact and31r (by decide)) (by first | omega | exact ite01_lt | exact bt8_lt31 _ _ | exact godB_lt31 _ _ _ | exact pop_lt31 _ | assumption | exact b31 (hW.gp (by omega)) | exact b31 (hW.ne (by omega)) | exact b31 (hW.op (by omega)) | exact and31 (hW.gp (by omega)) | exact and31 (hW.ne (by omega)) | exact and31 (hW.op (by omega)) | exact and31 (by assumption) | exact and31r (hW.ne (by omega)) | exact and31r (hW.gp (by omega)) | exact and31r (by decide)) (fun c_64 => ?_) (fun c_64 => ?_)
      · refine mm_iload d_Int_numberOfTrailingZeros_74 rfl ?_
        refine mm_iload d_Int_numberOfTrailingZeros_75 rfl ?_
        refine mm_ciN 1 d_Int_numberOfTrailingZeros_76 rfl ?_
        refine mm_iushrN 1 d_Int_numberOfTrailingZeros_77 (by first | omega | exact ite01_lt | exact bt8_lt31 _ _ | exact godB_lt31 _ _ _ | exact pop_lt31 _ | assumption | exact b31 (hW.gp (by omega)) | exact b31 (hW.ne (by omega)) | exact b31 (hW.op (by omega)) | exact and31 (hW.gp (by omega)) | exact and31 (hW.ne (by omega)) | exact and31 (hW.op (by omega)) | exact and31 (by assumption) | exact and31r (hW.ne (by omega)) | exact and31r (hW.gp (by omega)) | exact and31r (by decide)) (by decide) ?_
        refine mm_iaddN d_Int_numberOfTrailingZeros_78 ?_
        exact mm_ri d_Int_numberOfTrailingZeros_79 (by first | (rw [if_pos c_9] at h; rw [c_9]; exact h) | (rw [if_neg (by omega)] at h; unfold ntz1 ntz2 ntz3 at h; first | (rw [if_pos c_52, if_pos c_64] at h; exact h) | (rw [if_pos c_52, if_neg (by omega)] at h; exact h) | (rw [if_neg (by omega), if_pos c_64] at h; exact h) | (rw [if_neg (by omega), if_neg (by omega)] at h; exact h)))
      · refine mm_inc1K 2 d_Int_numberOfTrailingZeros_67 rfl ?_
        refine mm_iload d_Int_numberOfTrailingZeros_70 rfl ?_
        refine mm_ciN 2 d_Int_numberOfTrailingZeros_71 rfl ?_
        refine mm_iushrN 2 d_Int_numberOfTrailingZeros_72 (by first | omega | exact ite01_lt | exact bt8_lt31 _ _ | exact godB_lt31 _ _ _ | exact pop_lt31 _ | assumption | exact b31 (hW.gp (by omega)) | exact b31 (hW.ne (by omega)) | exact b31 (hW.op (by omega)) | exact and31 (hW.gp (by omega)) | exact and31 (hW.ne (by omega)) | exact and31 (hW.op (by omega)) | exact and31 (by assumption) | exact and31r (hW.ne (by omega)) | exact and31r (hW.gp (by omega)) | exact and31r (by decide)) (by decide) ?_
        refine mm_ist0 d_Int_numberOfTrailingZeros_73 ?_
        refine mm_iload d_Int_numberOfTrailingZeros_74 rfl ?_
        refine mm_iload d_Int_numberOfTrailingZeros_75 rfl ?_
        refine mm_ciN 1 d_Int_numberOfTrailingZeros_76 rfl ?_
        refine mm_iushrN 1 d_Int_numberOfTrailingZeros_77 (by first | omega | exact ite01_lt | exact bt8_lt31 _ _ | exact godB_lt31 _ _ _ | exact pop_lt31 _ | assumption | exact b31 (hW.gp (by omega)) | exact b31 (hW.ne (by omega)) | exact b31 (hW.op (by omega)) | exact and31 (hW.gp (by omega)) | exact and31 (hW.ne (by omega)) | exact and31 (hW.op (by omega)) | exact and31 (by assumption) | exact and31r (hW.ne (by omega)) | exact and31r (hW.gp (by omega)) | exact and31r (by decide)) (by decide) ?_
        refine mm_iaddN d_Int_numberOfTrailingZeros_78 ?_
        exact mm_ri d_Int_numberOfTrailingZeros_79 (by first | (rw [if_pos c_9] at h; rw [c_9]; exact h) | (rw [if_neg (by omega)] at h; unfold ntz1 ntz2 ntz3 at h; first | (rw [if_pos c_52, if_pos c_64] at h; exact h) | (rw [if_pos c_52, if_neg (by omega)] at h; exact h) | (rw [if_neg (by omega), if_pos c_64] at h; exact h) | (rw [if_neg (by omega), if_neg (by omega)] at h; exact h)))
    · refine mm_inc1K 4 d_Int_numberOfTrailingZeros_55 rfl ?_
      refine mm_iload d_Int_numberOfTrailingZeros_58 rfl ?_
      refine mm_ciN 4 d_Int_numberOfTrailingZeros_59 rfl ?_
      refine mm_iushrN 4 d_Int_numberOfTrailingZeros_60 (by first | omega | exact ite01_lt | exact bt8_lt31 _ _ | exact godB_lt31 _ _ _ | exact pop_lt31 _ | assumption | exact b31 (hW.gp (by omega)) | exact b31 (hW.ne (by omega)) | exact b31 (hW.op (by omega)) | exact and31 (hW.gp (by omega)) | exact and31 (hW.ne (by omega)) | exact and31 (hW.op (by omega)) | exact and31 (by assumption) | exact and31r (hW.ne (by omega)) | exact and31r (hW.gp (by omega)) | exact and31r (by decide)) (by decide) ?_
      refine mm_ist0 d_Int_numberOfTrailingZeros_61 ?_
      refine mm_iload d_Int_numberOfTrailingZeros_62 rfl ?_
      refine mm_ciN 4 d_Int_numberOfTrailingZeros_63 rfl ?_
      refine mm_icmp_leN d_Int_numberOfTrailingZeros_64 (by first | omega | exact ite01_lt | exact bt8_lt31 _ _ | exact godB_lt31 _ _ _ | exact pop_lt31 _ | assumption | exact b31 (hW.gp (by omega)) | exact b31 (hW.ne (by omega)) | exact b31 (hW.op (by omega)) | exact and31 (hW.gp (by omega)) | exact and31 (hW.ne (by omega)) | exact and31 (hW.op (by omega)) | exact and31 (by assumption) | exact and31r (hW.ne (by omega)) | exact and31r (hW.gp (by omega)) | exact and31r (by decide)) (by first | omega | exact ite01_lt | exact bt8_lt31 _ _ | exact godB_lt31 _ _ _ | exact pop_lt31 _ | assumption | exact b31 (hW.gp (by omega)) | exact b31 (hW.ne (by omega)) | exact b31 (hW.op (by omega)) | exact and31 (hW.gp (by omega)) | exact and31 (hW.ne (by omega)) | exact and31 (hW.op (by omega)) | exact and31 (by assumption) | exact and31r (hW.ne (by omega)) | exact and31r (hW.gp (by omega)) | exact and31r (by decide)) (fun c_64 => ?_) (fun c_64 => ?_)
      · refine mm_iload d_Int_numberOfTrailingZeros_74 rfl ?_
        refine mm_iload d_Int_numberOfTrailingZeros_75 rfl ?_
        refine mm_ciN 1 d_Int_numberOfTrailingZeros_76 rfl ?_
        refine mm_iushrN 1 d_Int_numberOfTrailingZeros_77 (by first | omega | exact ite01_lt | exact bt8_lt31 _ _ | exact godB_lt31 _ _ _ | exact pop_lt31 _ | assumption | exact b31 (hW.gp (by omega)) | exact b31 (hW.ne (by omega)) | exact b31 (hW.op (by omega)) | exact and31 (hW.gp (by omega)) | exact and31 (hW.ne (by omega)) | exact and31 (hW.op (by omega)) | exact and31 (by assumption) | exact and31r (hW.ne (by omega)) | exact and31r (hW.gp (by omega)) | exact and31r (by decide)) (by decide) ?_
        refine mm_iaddN d_Int_numberOfTrailingZeros_78 ?_
        exact mm_ri d_Int_numberOfTrailingZeros_79 (by first | (rw [if_pos c_9] at h; rw [c_9]; exact h) | (rw [if_neg (by omega)] at h; unfold ntz1 ntz2 ntz3 at h; first | (rw [if_pos c_52, if_pos c_64] at h; exact h) | (rw [if_pos c_52, if_neg (by omega)] at h; exact h) | (rw [if_neg (by omega), if_pos c_64] at h; exact h) | (rw [if_neg (by omega), if_neg (by omega)] at h; exact h)))
      · refine mm_inc1K 2 d_Int_numberOfTrailingZeros_67 rfl ?_
        refine mm_iload d_Int_numberOfTrailingZeros_70 rfl ?_
        refine mm_ciN 2 d_Int_numberOfTrailingZeros_71 rfl ?_
        refine mm_iushrN 2 d_Int_numberOfTrailingZeros_72 (by first | omega | exact ite01_lt | exact bt8_lt31 _ _ | exact godB_lt31 _ _ _ | exact pop_lt31 _ | assumption | exact b31 (hW.gp (by omega)) | exact b31 (hW.ne (by omega)) | exact b31 (hW.op (by omega)) | exact and31 (hW.gp (by omega)) | exact and31 (hW.ne (by omega)) | exact and31 (hW.op (by omega)) | exact and31 (by assumption) | exact and31r (hW.ne (by omega)) | exact and31r (hW.gp (by omega)) | exact and31r (by decide)) (by decide) ?_
        refine mm_ist0 d_Int_numberOfTrailingZeros_73 ?_
        refine mm_iload d_Int_numberOfTrailingZeros_74 rfl ?_
        refine mm_iload d_Int_numberOfTrailingZeros_75 rfl ?_
        refine mm_ciN 1 d_Int_numberOfTrailingZeros_76 rfl ?_
        refine mm_iushrN 1 d_Int_numberOfTrailingZeros_77 (by first | omega | exact ite01_lt | exact bt8_lt31 _ _ | exact godB_lt31 _ _ _ | exact pop_lt31 _ | assumption | exact b31 (hW.gp (by omega)) | exact b31 (hW.ne (by omega)) | exact b31 (hW.op (by omega)) | exact and31 (hW.gp (by omega)) | exact and31 (hW.ne (by omega)) | exact and31 (hW.op (by omega)) | exact and31 (by assumption) | exact and31r (hW.ne (by omega)) | exact and31r (hW.gp (by omega)) | exact and31r (by decide)) (by decide) ?_
        refine mm_iaddN d_Int_numberOfTrailingZeros_78 ?_
        exact mm_ri d_Int_numberOfTrailingZeros_79 (by first | (rw [if_pos c_9] at h; rw [c_9]; exact h) | (rw [if_neg (by omega)] at h; unfold ntz1 ntz2 ntz3 at h; first | (rw [if_pos c_52, if_pos c_64] at h; exact h) | (rw [if_pos c_52, if_neg (by omega)] at h; exact h) | (rw [if_neg (by omega), if_pos c_64] at h; exact h) | (rw [if_neg (by omega), if_neg (by omega)] at h; exact h)))
  · refine mm_iload d_Int_numberOfTrailingZeros_12 rfl ?_
    refine mm_ciN 32 d_Int_numberOfTrailingZeros_13 rfl ?_
    refine mm_iandN d_Int_numberOfTrailingZeros_15 ?_
    exact mm_ri d_Int_numberOfTrailingZeros_16 (by first | (rw [if_pos c_9] at h; rw [c_9]; exact h) | (rw [if_neg (by omega)] at h; unfold ntz1 ntz2 ntz3 at h; first | (rw [if_pos c_52, if_pos c_64] at h; exact h) | (rw [if_pos c_52, if_neg (by omega)] at h; exact h) | (rw [if_neg (by omega), if_pos c_64] at h; exact h) | (rw [if_neg (by omega), if_neg (by omega)] at h; exact h)))
theorem tw_eq : ∀ x ∈ p3L 256, ∀ y ∈ p3L 256, (pop (x &&& y) = 3 ↔ x = y) := by decide +kernel
theorem mem_p3 {x : Nat} (h : x < 256) (h3 : pop x = 3) : x ∈ p3L 256 := List.mem_filter.mpr ⟨List.mem_range.mpr h, by simpa using h3⟩
theorem twin_iff {D : mm_D} (hW : WfD D) {a b : Nat} (ha : a < dn D) (hb : b < dn D) : pop (dgp D a &&& dgp D b) = 3 ↔ dgp D a = dgp D b := by
  have h6 := hW.1
  exact tw_eq _ (mem_p3 (hW.gp (by omega)) (hW.2.2.2.2.1 a ha)) _ (mem_p3 (hW.gp (by omega)) (hW.2.2.2.2.1 b hb))
def sumN (f : Nat → Nat) : Nat → Nat
  | 0 => 0
  | k + 1 => sumN f k + f k
theorem sumN_congr {f g : Nat → Nat} : ∀ k, (∀ i, i < k → f i = g i) → sumN f k = sumN g k
  | 0, _ => rfl
  | k + 1, h => by unfold sumN; rw [sumN_congr k (fun i hi => h i (by omega)), h k (by omega)]
theorem sumN_add {f g : Nat → Nat} : ∀ k, sumN (fun i => f i + g i) k = sumN f k + sumN g k
  | 0 => rfl
  | k + 1 => by unfold sumN; rw [sumN_add k]; omega
theorem sumN_zero {f : Nat → Nat} : ∀ k, (∀ i, i < k → f i = 0) → sumN f k = 0
  | 0, _ => rfl
  | k + 1, h => by unfold sumN; rw [sumN_zero k (fun i hi => h i (by omega)), h k (by omega)]
theorem sum_swap {t : Nat → Nat → Nat} (hs : ∀ a b, t a b = t b a) : ∀ m, sumN (fun a => sumN (fun b => if a < b then t a b else 0) m) m = sumN (fun a => sumN (t a) a) m
  | 0 => rfl
  | m + 1 => by
    have h := sum_swap hs m
    show sumN (fun a => sumN (fun b => if a < b then t a b else 0) m + (if a < m then t a m else 0)) m + (sumN (fun b => if m < b then t m b else 0) m + (if m < m then t m m else 0)) = sumN (fun a => sumN (t a) a) m + sumN (t m) m
    rw [sumN_add, h, sumN_zero (f := fun b => if m < b then t m b else 0) m (fun i hi => if_neg (by omega)), if_neg (Nat.lt_irrefl m), sumN_congr (f := fun a => if a < m then t a m else 0) (g := t m) m (fun i hi => by show (if i < m then _ else _) = _; rw [if_pos hi]; exact hs i m)]
    omega
def twT (D : mm_D) (a b : Nat) : Nat := if dgp D a = dgp D b then 1 else 0
theorem twT_comm (D : mm_D) (a b : Nat) : twT D a b = twT D b a := by
  unfold twT
  by_cases h : dgp D a = dgp D b
  · rw [if_pos h, if_pos h.symm]
  · rw [if_neg h, if_neg (fun e => h e.symm)]
theorem sp_Cr_twins {X : mm_X} {μ : mm_M} {q : Int32 → mm_M → Prop} {a : Nat} {D : mm_D} (hCD : CoD μ a D) (hW : WfD D) (h : q (nI (sumN (fun a => sumN (twT D a) a) (dn D))) μ) : mm_Ci X 2 0 0 k_Cr_twins [.ref a] μ q := by
  show mm_T X 2 0 0 k_Cr_twins 0 [some (.ref a), none, none, none] [] μ _
  have hn6 := hW.1
  rw [← sum_swap (twT_comm D) (dn D)] at h
  refine mm_ciN 0 d_Cr_twins_0 rfl ?_
  refine mm_ist1 d_Cr_twins_1 ?_
  refine mm_ciN 0 d_Cr_twins_2 rfl ?_
  refine mm_ist2 d_Cr_twins_3 ?_
  refine mm_up (P := fun x => ∀ l3 : Option Value, mm_T X _ 0 0 k_Cr_twins 4 [some (.ref a), some (.int (nI (sumN (fun a => sumN (fun b => if a < b then twT D a b else 0) (dn D)) x))), some (.int (nI x)), l3] [] μ _) (dn D) ?_ (fun x hx ih => ?_) none
  · intro l3
    refine mm_iload d_Cr_twins_4 rfl ?_
    refine mm_aload d_Cr_twins_5 rfl ?_
    refine mm_getIN d_Cr_twins_6 rfl hCD.1.1 hCD.n ?_
    refine mm_icmp_geN d_Cr_twins_9 (by first | omega | exact ite01_lt | exact bt8_lt31 _ _ | exact godB_lt31 _ _ _ | exact pop_lt31 _ | assumption | exact b31 (hW.gp (by omega)) | exact b31 (hW.ne (by omega)) | exact b31 (hW.op (by omega)) | exact and31 (hW.gp (by omega)) | exact and31 (hW.ne (by omega)) | exact and31 (hW.op (by omega)) | exact and31 (by assumption) | exact and31r (hW.ne (by omega)) | exact and31r (hW.gp (by omega)) | exact and31r (by decide)) (by first | omega | exact ite01_lt | exact bt8_lt31 _ _ | exact godB_lt31 _ _ _ | exact pop_lt31 _ | assumption | exact b31 (hW.gp (by omega)) | exact b31 (hW.ne (by omega)) | exact b31 (hW.op (by omega)) | exact and31 (hW.gp (by omega)) | exact and31 (hW.ne (by omega)) | exact and31 (hW.op (by omega)) | exact and31 (by assumption) | exact and31r (hW.ne (by omega)) | exact and31r (hW.gp (by omega)) | exact and31r (by decide)) (fun c_9 => ?_) (fun c_9 => False.elim (by omega))
    refine mm_iload d_Cr_twins_49 rfl ?_
    exact mm_ri d_Cr_twins_50 h
  · intro l3
    have hst : sumN (fun b => if x < b then twT D x b else 0) (x + 1) = 0 := sumN_zero _ (fun i hi => if_neg (by omega))
    replace ih : ∀ l3 : Option Value, mm_T X 2 0 0 k_Cr_twins 4 [some (.ref a), some (.int (nI (sumN (fun a => sumN (fun b => if a < b then twT D a b else 0) (dn D)) x + sumN (fun b => if x < b then twT D x b else 0) (dn D)))), some (.int (nI (x + 1))), l3] [] μ (fun v μ' => ∃ r, v = some (.int r) ∧ q r μ') := ih
    generalize sumN (fun a => sumN (fun b => if a < b then twT D a b else 0) (dn D)) x = B at *
    have main := mm_up (P := fun j => mm_T X 2 0 0 k_Cr_twins 16 [some (.ref a), some (.int (nI (B + sumN (fun b => if x < b then twT D x b else 0) (x + 1 + j)))), some (.int (nI x)), some (.int (nI (x + 1 + j)))] [] μ (fun v μ' => ∃ r, v = some (.int r) ∧ q r μ')) (dn D - (x + 1)) ?_ (fun j hj ih2 => ?_)
    · rw [Nat.add_zero, hst, Nat.add_zero] at main
      refine mm_iload d_Cr_twins_4 rfl ?_
      refine mm_aload d_Cr_twins_5 rfl ?_
      refine mm_getIN d_Cr_twins_6 rfl hCD.1.1 hCD.n ?_
      refine mm_icmp_geN d_Cr_twins_9 (by first | omega | exact ite01_lt | exact bt8_lt31 _ _ | exact godB_lt31 _ _ _ | exact pop_lt31 _ | assumption | exact b31 (hW.gp (by omega)) | exact b31 (hW.ne (by omega)) | exact b31 (hW.op (by omega)) | exact and31 (hW.gp (by omega)) | exact and31 (hW.ne (by omega)) | exact and31 (hW.op (by omega)) | exact and31 (by assumption) | exact and31r (hW.ne (by omega)) | exact and31r (hW.gp (by omega)) | exact and31r (by decide)) (by first | omega | exact ite01_lt | exact bt8_lt31 _ _ | exact godB_lt31 _ _ _ | exact pop_lt31 _ | assumption | exact b31 (hW.gp (by omega)) | exact b31 (hW.ne (by omega)) | exact b31 (hW.op (by omega)) | exact and31 (hW.gp (by omega)) | exact and31 (hW.ne (by omega)) | exact and31 (hW.op (by omega)) | exact and31 (by assumption) | exact and31r (hW.ne (by omega)) | exact and31r (hW.gp (by omega)) | exact and31r (by decide)) (fun c_9 => False.elim (by omega)) (fun c_9 => ?_)
      refine mm_iload d_Cr_twins_12 rfl ?_
      refine mm_ciN 1 d_Cr_twins_13 rfl ?_
      refine mm_iaddN d_Cr_twins_14 ?_
      refine mm_ist3 d_Cr_twins_15 ?_
      exact main
    · have e : x + 1 + (dn D - (x + 1)) = dn D := by omega
      rw [e]
      refine mm_iload d_Cr_twins_16 rfl ?_
      refine mm_aload d_Cr_twins_17 rfl ?_
      refine mm_getIN d_Cr_twins_18 rfl hCD.1.1 hCD.n ?_
      refine mm_icmp_geN d_Cr_twins_21 (by first | omega | exact ite01_lt | exact bt8_lt31 _ _ | exact godB_lt31 _ _ _ | exact pop_lt31 _ | assumption | exact b31 (hW.gp (by omega)) | exact b31 (hW.ne (by omega)) | exact b31 (hW.op (by omega)) | exact and31 (hW.gp (by omega)) | exact and31 (hW.ne (by omega)) | exact and31 (hW.op (by omega)) | exact and31 (by assumption) | exact and31r (hW.ne (by omega)) | exact and31r (hW.gp (by omega)) | exact and31r (by decide)) (by first | omega | exact ite01_lt | exact bt8_lt31 _ _ | exact godB_lt31 _ _ _ | exact pop_lt31 _ | assumption | exact b31 (hW.gp (by omega)) | exact b31 (hW.ne (by omega)) | exact b31 (hW.op (by omega)) | exact and31 (hW.gp (by omega)) | exact and31 (hW.ne (by omega)) | exact and31 (hW.op (by omega)) | exact and31 (by assumption) | exact and31r (hW.ne (by omega)) | exact and31r (hW.gp (by omega)) | exact and31r (by decide)) (fun c_21 => ?_) (fun c_21 => False.elim (by omega))
      refine mm_inc2N d_Cr_twins_43 ?_
      refine mm_goto d_Cr_twins_46 ?_
      exact ih _
    · have htw := twin_iff hW hx (show x + 1 + j < dn D by omega)
      have z := ih2
      rw [show sumN (fun b => if x < b then twT D x b else 0) (x + 1 + (j + 1)) = sumN (fun b => if x < b then twT D x b else 0) (x + 1 + j) + twT D x (x + 1 + j) by show sumN _ (x + 1 + j) + (if x < x + 1 + j then _ else _) = _; rw [if_pos (by omega)]; rfl] at z
      refine mm_iload d_Cr_twins_16 rfl ?_
      refine mm_aload d_Cr_twins_17 rfl ?_
      refine mm_getIN d_Cr_twins_18 rfl hCD.1.1 hCD.n ?_
      refine mm_icmp_geN d_Cr_twins_21 (by first | omega | exact ite01_lt | exact bt8_lt31 _ _ | exact godB_lt31 _ _ _ | exact pop_lt31 _ | assumption | exact b31 (hW.gp (by omega)) | exact b31 (hW.ne (by omega)) | exact b31 (hW.op (by omega)) | exact and31 (hW.gp (by omega)) | exact and31 (hW.ne (by omega)) | exact and31 (hW.op (by omega)) | exact and31 (by assumption) | exact and31r (hW.ne (by omega)) | exact and31r (hW.gp (by omega)) | exact and31r (by decide)) (by first | omega | exact ite01_lt | exact bt8_lt31 _ _ | exact godB_lt31 _ _ _ | exact pop_lt31 _ | assumption | exact b31 (hW.gp (by omega)) | exact b31 (hW.ne (by omega)) | exact b31 (hW.op (by omega)) | exact and31 (hW.gp (by omega)) | exact and31 (hW.ne (by omega)) | exact and31 (hW.op (by omega)) | exact and31 (by assumption) | exact and31r (hW.ne (by omega)) | exact and31r (hW.gp (by omega)) | exact and31r (by decide)) (fun c_21 => False.elim (by omega)) (fun c_21 => ?_)
      refine mm_aload d_Cr_twins_24 rfl ?_
      refine mm_iload d_Cr_twins_25 rfl ?_
      refine mm_iload d_Cr_twins_26 rfl ?_
      refine mm_s3i d_Cr_twins_27 (sp_Cr_shared hCD hW (by omega) (by omega) ?_)
      refine mm_ciN 3 d_Cr_twins_30 rfl ?_
      refine mm_icmp_neN d_Cr_twins_31 (by first | omega | exact ite01_lt | exact bt8_lt31 _ _ | exact godB_lt31 _ _ _ | exact pop_lt31 _ | assumption | exact b31 (hW.gp (by omega)) | exact b31 (hW.ne (by omega)) | exact b31 (hW.op (by omega)) | exact and31 (hW.gp (by omega)) | exact and31 (hW.ne (by omega)) | exact and31 (hW.op (by omega)) | exact and31 (by assumption) | exact and31r (hW.ne (by omega)) | exact and31r (hW.gp (by omega)) | exact and31r (by decide)) (by first | omega | exact ite01_lt | exact bt8_lt31 _ _ | exact godB_lt31 _ _ _ | exact pop_lt31 _ | assumption | exact b31 (hW.gp (by omega)) | exact b31 (hW.ne (by omega)) | exact b31 (hW.op (by omega)) | exact and31 (hW.gp (by omega)) | exact and31 (hW.ne (by omega)) | exact and31 (hW.op (by omega)) | exact and31 (by assumption) | exact and31r (hW.ne (by omega)) | exact and31r (hW.gp (by omega)) | exact and31r (by decide)) (fun c_31 => ?_) (fun c_31 => ?_)
      · refine mm_inc3N d_Cr_twins_37 ?_
        refine mm_goto d_Cr_twins_40 ?_
        first
          | (rw [show twT D x (x + 1 + j) = 0 from if_neg (fun e => c_31 (htw.mpr e)), Nat.add_zero] at z; exact z)
          | (rw [show twT D x (x + 1 + j) = 1 from if_pos (htw.mp c_31)] at z; exact z)
      · refine mm_inc1N d_Cr_twins_34 ?_
        refine mm_inc3N d_Cr_twins_37 ?_
        refine mm_goto d_Cr_twins_40 ?_
        first
          | (rw [show twT D x (x + 1 + j) = 0 from if_neg (fun e => c_31 (htw.mpr e)), Nat.add_zero] at z; exact z)
          | (rw [show twT D x (x + 1 + j) = 1 from if_pos (htw.mp c_31)] at z; exact z)
theorem sp_M_twins {X : mm_X} {μ : mm_M} {q : Int32 → mm_M → Prop} {k : Nat} {D : mm_D} (hH : Hd μ k D) (h : q (nI (sumN (fun a => sumN (twT D a) a) (dn D))) μ) : mm_Ci X 2 0 0 k_M_twins [.ref 71] μ q := by
  show mm_T X 2 0 0 k_M_twins 0 [some (.ref 71), none, none, none] [] μ _
  have hM := hH.1
  have hW := hH.wf
  have hn6 := hW.1
  refine mm_ciN 0 d_M_twins_0 rfl ?_
  refine mm_ist1 d_M_twins_1 ?_
  refine mm_ciN 0 d_M_twins_2 rfl ?_
  refine mm_ist2 d_M_twins_3 ?_
  refine mm_up (P := fun x => ∀ l3 : Option Value, mm_T X _ 0 0 k_M_twins 4 [some (.ref 71), some (.int (nI (sumN (fun a => sumN (twT D a) a) x))), some (.int (nI x)), l3] [] μ _) (dn D) ?_ (fun x hx ih => ?_) none
  · intro l3
    refine mm_iload d_M_twins_4 rfl ?_
    refine mm_aload d_M_twins_5 rfl ?_
    refine mm_getIN d_M_twins_6 rfl (sk_o_71 hM) hH.n ?_
    refine mm_icmp_geN d_M_twins_9 (by first | omega | exact ite01_lt | exact bt8_lt31 _ _ | exact godB_lt31 _ _ _ | exact pop_lt31 _ | assumption | exact b31 (hW.gp (by omega)) | exact b31 (hW.ne (by omega)) | exact b31 (hW.op (by omega)) | exact and31 (hW.gp (by omega)) | exact and31 (hW.ne (by omega)) | exact and31 (hW.op (by omega)) | exact and31 (by assumption) | exact and31r (hW.ne (by omega)) | exact and31r (hW.gp (by omega)) | exact and31r (by decide)) (by first | omega | exact ite01_lt | exact bt8_lt31 _ _ | exact godB_lt31 _ _ _ | exact pop_lt31 _ | assumption | exact b31 (hW.gp (by omega)) | exact b31 (hW.ne (by omega)) | exact b31 (hW.op (by omega)) | exact and31 (hW.gp (by omega)) | exact and31 (hW.ne (by omega)) | exact and31 (hW.op (by omega)) | exact and31 (by assumption) | exact and31r (hW.ne (by omega)) | exact and31r (hW.gp (by omega)) | exact and31r (by decide)) (fun c_9 => ?_) (fun c_9 => False.elim (by omega))
    refine mm_iload d_M_twins_52 rfl ?_
    exact mm_ri d_M_twins_53 h
  · intro l3
    replace ih : ∀ l3 : Option Value, mm_T X 2 0 0 k_M_twins 4 [some (.ref 71), some (.int (nI (sumN (fun a => sumN (twT D a) a) x + sumN (twT D x) x))), some (.int (nI (x + 1))), l3] [] μ (fun v μ' => ∃ r, v = some (.int r) ∧ q r μ') := ih
    generalize sumN (fun a => sumN (twT D a) a) x = B at *
    refine mm_iload d_M_twins_4 rfl ?_
    refine mm_aload d_M_twins_5 rfl ?_
    refine mm_getIN d_M_twins_6 rfl (sk_o_71 hM) hH.n ?_
    refine mm_icmp_geN d_M_twins_9 (by first | omega | exact ite01_lt | exact bt8_lt31 _ _ | exact godB_lt31 _ _ _ | exact pop_lt31 _ | assumption | exact b31 (hW.gp (by omega)) | exact b31 (hW.ne (by omega)) | exact b31 (hW.op (by omega)) | exact and31 (hW.gp (by omega)) | exact and31 (hW.ne (by omega)) | exact and31 (hW.op (by omega)) | exact and31 (by assumption) | exact and31r (hW.ne (by omega)) | exact and31r (hW.gp (by omega)) | exact and31r (by decide)) (by first | omega | exact ite01_lt | exact bt8_lt31 _ _ | exact godB_lt31 _ _ _ | exact pop_lt31 _ | assumption | exact b31 (hW.gp (by omega)) | exact b31 (hW.ne (by omega)) | exact b31 (hW.op (by omega)) | exact and31 (hW.gp (by omega)) | exact and31 (hW.ne (by omega)) | exact and31 (hW.op (by omega)) | exact and31 (by assumption) | exact and31r (hW.ne (by omega)) | exact and31r (hW.gp (by omega)) | exact and31r (by decide)) (fun c_9 => False.elim (by omega)) (fun c_9 => ?_)
    refine mm_ciN 0 d_M_twins_12 rfl ?_
    refine mm_ist3 d_M_twins_13 ?_
    refine mm_up (P := fun j => mm_T X 2 0 0 k_M_twins 14 [some (.ref 71), some (.int (nI (B + sumN (twT D x) j))), some (.int (nI x)), some (.int (nI j))] [] μ (fun v μ' => ∃ r, v = some (.int r) ∧ q r μ')) x ?_ (fun j hj ih2 => ?_)
    · refine mm_iload d_M_twins_14 rfl ?_
      refine mm_iload d_M_twins_15 rfl ?_
      refine mm_icmp_geN d_M_twins_16 (by first | omega | exact ite01_lt | exact bt8_lt31 _ _ | exact godB_lt31 _ _ _ | exact pop_lt31 _ | assumption | exact b31 (hW.gp (by omega)) | exact b31 (hW.ne (by omega)) | exact b31 (hW.op (by omega)) | exact and31 (hW.gp (by omega)) | exact and31 (hW.ne (by omega)) | exact and31 (hW.op (by omega)) | exact and31 (by assumption) | exact and31r (hW.ne (by omega)) | exact and31r (hW.gp (by omega)) | exact and31r (by decide)) (by first | omega | exact ite01_lt | exact bt8_lt31 _ _ | exact godB_lt31 _ _ _ | exact pop_lt31 _ | assumption | exact b31 (hW.gp (by omega)) | exact b31 (hW.ne (by omega)) | exact b31 (hW.op (by omega)) | exact and31 (hW.gp (by omega)) | exact and31 (hW.ne (by omega)) | exact and31 (hW.op (by omega)) | exact and31 (by assumption) | exact and31r (hW.ne (by omega)) | exact and31r (hW.gp (by omega)) | exact and31r (by decide)) (fun c_16 => ?_) (fun c_16 => False.elim (by omega))
      refine mm_inc2N d_M_twins_46 ?_
      refine mm_goto d_M_twins_49 ?_
      exact ih _
    · refine mm_iload d_M_twins_14 rfl ?_
      refine mm_iload d_M_twins_15 rfl ?_
      refine mm_icmp_geN d_M_twins_16 (by first | omega | exact ite01_lt | exact bt8_lt31 _ _ | exact godB_lt31 _ _ _ | exact pop_lt31 _ | assumption | exact b31 (hW.gp (by omega)) | exact b31 (hW.ne (by omega)) | exact b31 (hW.op (by omega)) | exact and31 (hW.gp (by omega)) | exact and31 (hW.ne (by omega)) | exact and31 (hW.op (by omega)) | exact and31 (by assumption) | exact and31r (hW.ne (by omega)) | exact and31r (hW.gp (by omega)) | exact and31r (by decide)) (by first | omega | exact ite01_lt | exact bt8_lt31 _ _ | exact godB_lt31 _ _ _ | exact pop_lt31 _ | assumption | exact b31 (hW.gp (by omega)) | exact b31 (hW.ne (by omega)) | exact b31 (hW.op (by omega)) | exact and31 (hW.gp (by omega)) | exact and31 (hW.ne (by omega)) | exact and31 (hW.op (by omega)) | exact and31 (by assumption) | exact and31r (hW.ne (by omega)) | exact and31r (hW.gp (by omega)) | exact and31r (by decide)) (fun c_16 => False.elim (by omega)) (fun c_16 => ?_)
      refine mm_iload d_M_twins_19 rfl ?_
      refine mm_aload d_M_twins_20 rfl ?_
      refine mm_iload d_M_twins_21 rfl ?_
      refine mm_v1i d_M_twins_22 (sk_o_71 hM) (sp_M_gods hH (by omega) ?_)
      refine mm_aload d_M_twins_25 rfl ?_
      refine mm_iload d_M_twins_26 rfl ?_
      refine mm_v1i d_M_twins_27 (sk_o_71 hM) (sp_M_gods hH (by omega) ?_)
      refine mm_icmp_neN d_M_twins_30 (by first | omega | exact ite01_lt | exact bt8_lt31 _ _ | exact godB_lt31 _ _ _ | exact pop_lt31 _ | assumption | exact b31 (hW.gp (by omega)) | exact b31 (hW.ne (by omega)) | exact b31 (hW.op (by omega)) | exact and31 (hW.gp (by omega)) | exact and31 (hW.ne (by omega)) | exact and31 (hW.op (by omega)) | exact and31 (by assumption) | exact and31r (hW.ne (by omega)) | exact and31r (hW.gp (by omega)) | exact and31r (by decide)) (by first | omega | exact ite01_lt | exact bt8_lt31 _ _ | exact godB_lt31 _ _ _ | exact pop_lt31 _ | assumption | exact b31 (hW.gp (by omega)) | exact b31 (hW.ne (by omega)) | exact b31 (hW.op (by omega)) | exact and31 (hW.gp (by omega)) | exact and31 (hW.ne (by omega)) | exact and31 (hW.op (by omega)) | exact and31 (by assumption) | exact and31r (hW.ne (by omega)) | exact and31r (hW.gp (by omega)) | exact and31r (by decide)) (fun c_30 => ?_) (fun c_30 => ?_)
      · refine mm_ciN 0 d_M_twins_37 rfl ?_
        refine mm_iaddN d_M_twins_38 ?_
        refine mm_ist1 d_M_twins_39 ?_
        refine mm_inc3N d_M_twins_40 ?_
        refine mm_goto d_M_twins_43 ?_
        first
          | (have z := ih2; rw [show sumN (twT D x) (j + 1) = sumN (twT D x) j + 0 by show sumN _ j + (if _ then _ else _) = _; rw [if_neg c_30]] at z; exact z)
          | (have z := ih2; rw [show sumN (twT D x) (j + 1) = sumN (twT D x) j + 1 by show sumN _ j + (if _ then _ else _) = _; rw [if_pos c_30]] at z; exact z)
      · refine mm_ciN 1 d_M_twins_33 rfl ?_
        refine mm_goto d_M_twins_34 ?_
        refine mm_iaddN d_M_twins_38 ?_
        refine mm_ist1 d_M_twins_39 ?_
        refine mm_inc3N d_M_twins_40 ?_
        refine mm_goto d_M_twins_43 ?_
        first
          | (have z := ih2; rw [show sumN (twT D x) (j + 1) = sumN (twT D x) j + 0 by show sumN _ j + (if _ then _ else _) = _; rw [if_neg c_30]] at z; exact z)
          | (have z := ih2; rw [show sumN (twT D x) (j + 1) = sumN (twT D x) j + 1 by show sumN _ j + (if _ then _ else _) = _; rw [if_pos c_30]] at z; exact z)
/-- a clan: round by round -/
def clI (D : mm_D) (u s : Nat) : Nat → Nat
  | 0 => s
  | k + 1 => clI D u s k ||| (if dgp D k &&& u = 0 then 0 else 2 ^ k)
def clR (D : mm_D) (s : Nat) : Nat → Nat
  | 0 => s
  | r + 1 => clI D (unionN D (clR D s r)) (clR D s r) (dn D)
theorem clI_lt (D : mm_D) (u : Nat) {s : Nat} (hs : s < 2 ^ 6) : ∀ k, k ≤ 6 → clI D u s k < 2 ^ 6
  | 0, _ => hs
  | k + 1, h => by
    unfold clI
    refine Nat.or_lt_two_pow (clI_lt D u hs k (by omega)) ?_
    split
    · decide
    · exact Nat.pow_lt_pow_right (by decide) (by omega)
theorem clR_lt {D : mm_D} (hW : WfD D) {s : Nat} (hs : s < 2 ^ 6) : ∀ r, clR D s r < 2 ^ 6
  | 0 => hs
  | r + 1 => clI_lt D _ (clR_lt hW hs r) _ hW.1
theorem sp_Cr_clanOf {X : mm_X} {μ : mm_M} {q : Int32 → mm_M → Prop} {a c : Nat} {D : mm_D} (hCD : CoD μ a D) (hW : WfD D) (hc : c < 6) (h : q (nI (clR D (2 ^ c) 6)) μ) : mm_Ci X 2 0 0 k_Cr_clanOf [.ref a, .int (nI c)] μ q := by
  show mm_T X 2 0 0 k_Cr_clanOf 0 [some (.ref a), some (.int (nI c)), none, none, none, none] [] μ _
  have hn6 := hW.1
  have hc6 : 2 ^ c < 2 ^ 6 := Nat.pow_lt_pow_right (by decide) hc
  refine mm_ciN 1 d_Cr_clanOf_0 rfl ?_
  refine mm_iload d_Cr_clanOf_1 rfl ?_
  refine mm_ishl1N d_Cr_clanOf_2 (by omega) ?_
  refine mm_ist2 d_Cr_clanOf_3 ?_
  refine mm_ciN 0 d_Cr_clanOf_4 rfl ?_
  refine mm_ist3 d_Cr_clanOf_5 ?_
  refine mm_up (P := fun r => ∀ l4 l5 : Option Value, mm_T X _ 0 0 k_Cr_clanOf 6 [some (.ref a), some (.int (nI c)), some (.int (nI (clR D (2 ^ c) r))), some (.int (nI r)), l4, l5] [] μ _) 6 ?_ (fun r hr ih => ?_) none none
  · intro l4 l5
    refine mm_iload d_Cr_clanOf_6 rfl ?_
    refine mm_ciN 6 d_Cr_clanOf_7 rfl ?_
    refine mm_icmp_geN d_Cr_clanOf_9 (by first | omega | exact ite01_lt | exact bt8_lt31 _ _ | exact godB_lt31 _ _ _ | exact pop_lt31 _ | assumption | exact b31 (hW.gp (by omega)) | exact b31 (hW.ne (by omega)) | exact b31 (hW.op (by omega)) | exact and31 (hW.gp (by omega)) | exact and31 (hW.ne (by omega)) | exact and31 (hW.op (by omega)) | exact and31 (by assumption) | exact and31r (hW.ne (by omega)) | exact and31r (hW.gp (by omega)) | exact and31r (by decide)) (by first | omega | exact ite01_lt | exact bt8_lt31 _ _ | exact godB_lt31 _ _ _ | exact pop_lt31 _ | assumption | exact b31 (hW.gp (by omega)) | exact b31 (hW.ne (by omega)) | exact b31 (hW.op (by omega)) | exact and31 (hW.gp (by omega)) | exact and31 (hW.ne (by omega)) | exact and31 (hW.op (by omega)) | exact and31 (by assumption) | exact and31r (hW.ne (by omega)) | exact and31r (hW.gp (by omega)) | exact and31r (by decide)) (fun c_9 => ?_) (fun c_9 => False.elim (by omega))
    refine mm_iload d_Cr_clanOf_63 rfl ?_
    exact mm_ri d_Cr_clanOf_64 h
  · intro l4 l5
    have hl := clR_lt hW hc6 r
    replace ih : ∀ l4 l5 : Option Value, mm_T X 2 0 0 k_Cr_clanOf 6 [some (.ref a), some (.int (nI c)), some (.int (nI (clI D (unionN D (clR D (2 ^ c) r)) (clR D (2 ^ c) r) (dn D)))), some (.int (nI (r + 1))), l4, l5] [] μ (fun v μ' => ∃ r, v = some (.int r) ∧ q r μ') := ih
    generalize clR D (2 ^ c) r = s at *
    have hu := unionN_lt hW s
    refine mm_iload d_Cr_clanOf_6 rfl ?_
    refine mm_ciN 6 d_Cr_clanOf_7 rfl ?_
    refine mm_icmp_geN d_Cr_clanOf_9 (by first | omega | exact ite01_lt | exact bt8_lt31 _ _ | exact godB_lt31 _ _ _ | exact pop_lt31 _ | assumption | exact b31 (hW.gp (by omega)) | exact b31 (hW.ne (by omega)) | exact b31 (hW.op (by omega)) | exact and31 (hW.gp (by omega)) | exact and31 (hW.ne (by omega)) | exact and31 (hW.op (by omega)) | exact and31 (by assumption) | exact and31r (hW.ne (by omega)) | exact and31r (hW.gp (by omega)) | exact and31r (by decide)) (by first | omega | exact ite01_lt | exact bt8_lt31 _ _ | exact godB_lt31 _ _ _ | exact pop_lt31 _ | assumption | exact b31 (hW.gp (by omega)) | exact b31 (hW.ne (by omega)) | exact b31 (hW.op (by omega)) | exact and31 (hW.gp (by omega)) | exact and31 (hW.ne (by omega)) | exact and31 (hW.op (by omega)) | exact and31 (by assumption) | exact and31r (hW.ne (by omega)) | exact and31r (hW.gp (by omega)) | exact and31r (by decide)) (fun c_9 => False.elim (by omega)) (fun c_9 => ?_)
    refine mm_aload d_Cr_clanOf_12 rfl ?_
    refine mm_iload d_Cr_clanOf_13 rfl ?_
    refine mm_s2i d_Cr_clanOf_14 (sp_Cr_weathersOf hCD hW (by first | omega | assumption | exact hW.gp (by omega) | exact hW.ne (by omega) | exact hW.op (by omega) | exact and_lt256 (hW.gp (by omega)) | exact and_lt256 (hW.ne (by omega)) | exact and_lt256 (hW.op (by omega)) | exact and_lt256 (by assumption)) ?_)
    refine mm_ist4 d_Cr_clanOf_17 ?_
    refine mm_ciN 0 d_Cr_clanOf_19 rfl ?_
    refine mm_ist5 d_Cr_clanOf_20 ?_
    refine mm_up (P := fun j => mm_T X _ 0 0 k_Cr_clanOf 22 [some (.ref a), some (.int (nI c)), some (.int (nI (clI D (unionN D s) s j))), some (.int (nI r)), some (.int (nI (unionN D s))), some (.int (nI j))] [] μ _) (dn D) ?_ (fun j hj ih2 => ?_)
    · refine mm_iload d_Cr_clanOf_22 rfl ?_
      refine mm_aload d_Cr_clanOf_24 rfl ?_
      refine mm_getIN d_Cr_clanOf_25 rfl hCD.1.1 hCD.n ?_
      refine mm_icmp_geN d_Cr_clanOf_28 (by first | omega | exact ite01_lt | exact bt8_lt31 _ _ | exact godB_lt31 _ _ _ | exact pop_lt31 _ | assumption | exact b31 (hW.gp (by omega)) | exact b31 (hW.ne (by omega)) | exact b31 (hW.op (by omega)) | exact and31 (hW.gp (by omega)) | exact and31 (hW.ne (by omega)) | exact and31 (hW.op (by omega)) | exact and31 (by assumption) | exact and31r (hW.ne (by omega)) | exact and31r (hW.gp (by omega)) | exact and31r (by decide)) (by first | omega | exact ite01_lt | exact bt8_lt31 _ _ | exact godB_lt31 _ _ _ | exact pop_lt31 _ | assumption | exact b31 (hW.gp (by omega)) | exact b31 (hW.ne (by omega)) | exact b31 (hW.op (by omega)) | exact and31 (hW.gp (by omega)) | exact and31 (hW.ne (by omega)) | exact and31 (hW.op (by omega)) | exact and31 (by assumption) | exact and31r (hW.ne (by omega)) | exact and31r (hW.gp (by omega)) | exact and31r (by decide)) (fun c_28 => ?_) (fun c_28 => False.elim (by omega))
      refine mm_inc3N d_Cr_clanOf_57 ?_
      refine mm_goto d_Cr_clanOf_60 ?_
      exact ih _ _
    · refine mm_iload d_Cr_clanOf_22 rfl ?_
      refine mm_aload d_Cr_clanOf_24 rfl ?_
      refine mm_getIN d_Cr_clanOf_25 rfl hCD.1.1 hCD.n ?_
      refine mm_icmp_geN d_Cr_clanOf_28 (by first | omega | exact ite01_lt | exact bt8_lt31 _ _ | exact godB_lt31 _ _ _ | exact pop_lt31 _ | assumption | exact b31 (hW.gp (by omega)) | exact b31 (hW.ne (by omega)) | exact b31 (hW.op (by omega)) | exact and31 (hW.gp (by omega)) | exact and31 (hW.ne (by omega)) | exact and31 (hW.op (by omega)) | exact and31 (by assumption) | exact and31r (hW.ne (by omega)) | exact and31r (hW.gp (by omega)) | exact and31r (by decide)) (by first | omega | exact ite01_lt | exact bt8_lt31 _ _ | exact godB_lt31 _ _ _ | exact pop_lt31 _ | assumption | exact b31 (hW.gp (by omega)) | exact b31 (hW.ne (by omega)) | exact b31 (hW.op (by omega)) | exact and31 (hW.gp (by omega)) | exact and31 (hW.ne (by omega)) | exact and31 (hW.op (by omega)) | exact and31 (by assumption) | exact and31r (hW.ne (by omega)) | exact and31r (hW.gp (by omega)) | exact and31r (by decide)) (fun c_28 => False.elim (by omega)) (fun c_28 => ?_)
      refine mm_aload d_Cr_clanOf_31 rfl ?_
      refine mm_getP d_Cr_clanOf_32 rfl hCD.1.1 (CoS_p3 hCD.1) ?_
      refine mm_iload d_Cr_clanOf_35 rfl ?_
      refine mm_ialdN d_Cr_clanOf_37 (CoS_a3 hCD.1) (by omega) (by decide) (hCD.f3 (by omega)) ?_
      refine mm_iload d_Cr_clanOf_38 rfl ?_
      refine mm_iandN d_Cr_clanOf_40 ?_
      refine mm_if_eqN d_Cr_clanOf_41 (by first | omega | exact ite01_lt | exact bt8_lt31 _ _ | exact godB_lt31 _ _ _ | exact pop_lt31 _ | assumption | exact b31 (hW.gp (by omega)) | exact b31 (hW.ne (by omega)) | exact b31 (hW.op (by omega)) | exact and31 (hW.gp (by omega)) | exact and31 (hW.ne (by omega)) | exact and31 (hW.op (by omega)) | exact and31 (by assumption) | exact and31r (hW.ne (by omega)) | exact and31r (hW.gp (by omega)) | exact and31r (by decide)) (fun c_41 => ?_) (fun c_41 => ?_)
      · refine mm_inc5N d_Cr_clanOf_51 ?_
        refine mm_goto d_Cr_clanOf_54 ?_
        first
          | (have z := ih2; simp only [clI, if_pos c_41, Nat.or_zero] at z; exact z)
          | (have z := ih2; simp only [clI, if_neg c_41] at z; exact z)
      · refine mm_iload d_Cr_clanOf_44 rfl ?_
        refine mm_ciN 1 d_Cr_clanOf_45 rfl ?_
        refine mm_iload d_Cr_clanOf_46 rfl ?_
        refine mm_ishl1N d_Cr_clanOf_48 (by omega) ?_
        refine mm_iorN d_Cr_clanOf_49 ?_
        refine mm_ist2 d_Cr_clanOf_50 ?_
        refine mm_inc5N d_Cr_clanOf_51 ?_
        refine mm_goto d_Cr_clanOf_54 ?_
        first
          | (have z := ih2; simp only [clI, if_pos c_41, Nat.or_zero] at z; exact z)
          | (have z := ih2; simp only [clI, if_neg c_41] at z; exact z)
theorem sp_M_clanOf {X : mm_X} {μ : mm_M} {q : Int32 → mm_M → Prop} {k c : Nat} {D : mm_D} (hH : Hd μ k D) (hc : c < 6) (h : q (nI (clR D (2 ^ c) 6)) μ) : mm_Ci X 3 0 0 k_M_clanOf [.ref 71, .int (nI c)] μ q := by
  show mm_T X 3 0 0 k_M_clanOf 0 [some (.ref 71), some (.int (nI c)), none, none, none, none] [] μ _
  have hM := hH.1
  have hW := hH.wf
  have hn6 := hW.1
  have hc6 : 2 ^ c < 2 ^ 6 := Nat.pow_lt_pow_right (by decide) hc
  refine mm_ciN 1 d_M_clanOf_0 rfl ?_
  refine mm_iload d_M_clanOf_1 rfl ?_
  refine mm_ishl1N d_M_clanOf_2 (by omega) ?_
  refine mm_ist2 d_M_clanOf_3 ?_
  refine mm_ciN 0 d_M_clanOf_4 rfl ?_
  refine mm_ist3 d_M_clanOf_5 ?_
  refine mm_up (P := fun r => ∀ l4 l5 : Option Value, mm_T X _ 0 0 k_M_clanOf 6 [some (.ref 71), some (.int (nI c)), some (.int (nI (clR D (2 ^ c) r))), some (.int (nI r)), l4, l5] [] μ _) 6 ?_ (fun r hr ih => ?_) none none
  · intro l4 l5
    refine mm_iload d_M_clanOf_6 rfl ?_
    refine mm_ciN 6 d_M_clanOf_7 rfl ?_
    refine mm_icmp_geN d_M_clanOf_9 (by first | omega | exact ite01_lt | exact bt8_lt31 _ _ | exact godB_lt31 _ _ _ | exact pop_lt31 _ | assumption | exact b31 (hW.gp (by omega)) | exact b31 (hW.ne (by omega)) | exact b31 (hW.op (by omega)) | exact and31 (hW.gp (by omega)) | exact and31 (hW.ne (by omega)) | exact and31 (hW.op (by omega)) | exact and31 (by assumption) | exact and31r (hW.ne (by omega)) | exact and31r (hW.gp (by omega)) | exact and31r (by decide)) (by first | omega | exact ite01_lt | exact bt8_lt31 _ _ | exact godB_lt31 _ _ _ | exact pop_lt31 _ | assumption | exact b31 (hW.gp (by omega)) | exact b31 (hW.ne (by omega)) | exact b31 (hW.op (by omega)) | exact and31 (hW.gp (by omega)) | exact and31 (hW.ne (by omega)) | exact and31 (hW.op (by omega)) | exact and31 (by assumption) | exact and31r (hW.ne (by omega)) | exact and31r (hW.gp (by omega)) | exact and31r (by decide)) (fun c_9 => ?_) (fun c_9 => False.elim (by omega))
    refine mm_iload d_M_clanOf_66 rfl ?_
    exact mm_ri d_M_clanOf_67 h
  · intro l4 l5
    have hl := clR_lt hW hc6 r
    replace ih : ∀ l4 l5 : Option Value, mm_T X 3 0 0 k_M_clanOf 6 [some (.ref 71), some (.int (nI c)), some (.int (nI (clI D (unionN D (clR D (2 ^ c) r)) (clR D (2 ^ c) r) (dn D)))), some (.int (nI (r + 1))), l4, l5] [] μ (fun v μ' => ∃ r, v = some (.int r) ∧ q r μ') := ih
    generalize clR D (2 ^ c) r = s at *
    have hu := unionN_lt hW s
    refine mm_iload d_M_clanOf_6 rfl ?_
    refine mm_ciN 6 d_M_clanOf_7 rfl ?_
    refine mm_icmp_geN d_M_clanOf_9 (by first | omega | exact ite01_lt | exact bt8_lt31 _ _ | exact godB_lt31 _ _ _ | exact pop_lt31 _ | assumption | exact b31 (hW.gp (by omega)) | exact b31 (hW.ne (by omega)) | exact b31 (hW.op (by omega)) | exact and31 (hW.gp (by omega)) | exact and31 (hW.ne (by omega)) | exact and31 (hW.op (by omega)) | exact and31 (by assumption) | exact and31r (hW.ne (by omega)) | exact and31r (hW.gp (by omega)) | exact and31r (by decide)) (by first | omega | exact ite01_lt | exact bt8_lt31 _ _ | exact godB_lt31 _ _ _ | exact pop_lt31 _ | assumption | exact b31 (hW.gp (by omega)) | exact b31 (hW.ne (by omega)) | exact b31 (hW.op (by omega)) | exact and31 (hW.gp (by omega)) | exact and31 (hW.ne (by omega)) | exact and31 (hW.op (by omega)) | exact and31 (by assumption) | exact and31r (hW.ne (by omega)) | exact and31r (hW.gp (by omega)) | exact and31r (by decide)) (fun c_9 => False.elim (by omega)) (fun c_9 => ?_)
    refine mm_aload d_M_clanOf_12 rfl ?_
    refine mm_iload d_M_clanOf_13 rfl ?_
    refine mm_v1i d_M_clanOf_14 (sk_o_71 hM) (sp_M_allGods hH (by first | omega | assumption | exact hW.gp (by omega) | exact hW.ne (by omega) | exact hW.op (by omega) | exact and_lt256 (hW.gp (by omega)) | exact and_lt256 (hW.ne (by omega)) | exact and_lt256 (hW.op (by omega)) | exact and_lt256 (by assumption)) ?_)
    refine mm_ist4 d_M_clanOf_17 ?_
    refine mm_ciN 0 d_M_clanOf_19 rfl ?_
    refine mm_ist5 d_M_clanOf_20 ?_
    refine mm_up (P := fun j => mm_T X _ 0 0 k_M_clanOf 22 [some (.ref 71), some (.int (nI c)), some (.int (nI (clI D (unionN D s) s j))), some (.int (nI r)), some (.int (nI (unionN D s))), some (.int (nI j))] [] μ _) (dn D) ?_ (fun j hj ih2 => ?_)
    · refine mm_iload d_M_clanOf_22 rfl ?_
      refine mm_aload d_M_clanOf_24 rfl ?_
      refine mm_getIN d_M_clanOf_25 rfl (sk_o_71 hM) hH.n ?_
      refine mm_icmp_geN d_M_clanOf_28 (by first | omega | exact ite01_lt | exact bt8_lt31 _ _ | exact godB_lt31 _ _ _ | exact pop_lt31 _ | assumption | exact b31 (hW.gp (by omega)) | exact b31 (hW.ne (by omega)) | exact b31 (hW.op (by omega)) | exact and31 (hW.gp (by omega)) | exact and31 (hW.ne (by omega)) | exact and31 (hW.op (by omega)) | exact and31 (by assumption) | exact and31r (hW.ne (by omega)) | exact and31r (hW.gp (by omega)) | exact and31r (by decide)) (by first | omega | exact ite01_lt | exact bt8_lt31 _ _ | exact godB_lt31 _ _ _ | exact pop_lt31 _ | assumption | exact b31 (hW.gp (by omega)) | exact b31 (hW.ne (by omega)) | exact b31 (hW.op (by omega)) | exact and31 (hW.gp (by omega)) | exact and31 (hW.ne (by omega)) | exact and31 (hW.op (by omega)) | exact and31 (by assumption) | exact and31r (hW.ne (by omega)) | exact and31r (hW.gp (by omega)) | exact and31r (by decide)) (fun c_28 => ?_) (fun c_28 => False.elim (by omega))
      refine mm_inc3N d_M_clanOf_60 ?_
      refine mm_goto d_M_clanOf_63 ?_
      exact ih _ _
    · refine mm_iload d_M_clanOf_22 rfl ?_
      refine mm_aload d_M_clanOf_24 rfl ?_
      refine mm_getIN d_M_clanOf_25 rfl (sk_o_71 hM) hH.n ?_
      refine mm_icmp_geN d_M_clanOf_28 (by first | omega | exact ite01_lt | exact bt8_lt31 _ _ | exact godB_lt31 _ _ _ | exact pop_lt31 _ | assumption | exact b31 (hW.gp (by omega)) | exact b31 (hW.ne (by omega)) | exact b31 (hW.op (by omega)) | exact and31 (hW.gp (by omega)) | exact and31 (hW.ne (by omega)) | exact and31 (hW.op (by omega)) | exact and31 (by assumption) | exact and31r (hW.ne (by omega)) | exact and31r (hW.gp (by omega)) | exact and31r (by decide)) (by first | omega | exact ite01_lt | exact bt8_lt31 _ _ | exact godB_lt31 _ _ _ | exact pop_lt31 _ | assumption | exact b31 (hW.gp (by omega)) | exact b31 (hW.ne (by omega)) | exact b31 (hW.op (by omega)) | exact and31 (hW.gp (by omega)) | exact and31 (hW.ne (by omega)) | exact and31 (hW.op (by omega)) | exact and31 (by assumption) | exact and31r (hW.ne (by omega)) | exact and31r (hW.gp (by omega)) | exact and31r (by decide)) (fun c_28 => False.elim (by omega)) (fun c_28 => ?_)
      refine mm_iload d_M_clanOf_31 rfl ?_
      refine mm_aload d_M_clanOf_32 rfl ?_
      refine mm_iload d_M_clanOf_33 rfl ?_
      refine mm_v1i d_M_clanOf_35 (sk_o_71 hM) (sp_M_gods hH (by omega) ?_)
      refine mm_iload d_M_clanOf_38 rfl ?_
      refine mm_iandN d_M_clanOf_40 ?_
      refine mm_if_eqN d_M_clanOf_41 (by first | omega | exact ite01_lt | exact bt8_lt31 _ _ | exact godB_lt31 _ _ _ | exact pop_lt31 _ | assumption | exact b31 (hW.gp (by omega)) | exact b31 (hW.ne (by omega)) | exact b31 (hW.op (by omega)) | exact and31 (hW.gp (by omega)) | exact and31 (hW.ne (by omega)) | exact and31 (hW.op (by omega)) | exact and31 (by assumption) | exact and31r (hW.ne (by omega)) | exact and31r (hW.gp (by omega)) | exact and31r (by decide)) (fun c_41 => ?_) (fun c_41 => ?_)
      · refine mm_ciN 0 d_M_clanOf_51 rfl ?_
        refine mm_iorN d_M_clanOf_52 ?_
        refine mm_ist2 d_M_clanOf_53 ?_
        refine mm_inc5N d_M_clanOf_54 ?_
        refine mm_goto d_M_clanOf_57 ?_
        first
          | (have z := ih2; simp only [clI, if_pos c_41] at z; exact z)
          | (have z := ih2; simp only [clI, if_neg c_41] at z; exact z)
      · refine mm_ciN 1 d_M_clanOf_44 rfl ?_
        refine mm_iload d_M_clanOf_45 rfl ?_
        refine mm_ishl1N d_M_clanOf_47 (by omega) ?_
        refine mm_goto d_M_clanOf_48 ?_
        refine mm_iorN d_M_clanOf_52 ?_
        refine mm_ist2 d_M_clanOf_53 ?_
        refine mm_inc5N d_M_clanOf_54 ?_
        refine mm_goto d_M_clanOf_57 ?_
        first
          | (have z := ih2; simp only [clI, if_pos c_41] at z; exact z)
          | (have z := ih2; simp only [clI, if_neg c_41] at z; exact z)
/-- the bit that a clan began with stays -/
theorem clI_bit {D : mm_D} {u s c : Nat} (hb : s.testBit c = true) : ∀ k, (clI D u s k).testBit c = true
  | 0 => hb
  | k + 1 => by
    unfold clI
    rw [Nat.testBit_or, clI_bit hb k]
    rfl
theorem clR_bit {D : mm_D} {s c : Nat} (hb : s.testBit c = true) : ∀ r, (clR D s r).testBit c = true
  | 0 => hb
  | r + 1 => clI_bit (clR_bit hb r) _
theorem ntz_iff : ∀ s, s < 64 → ∀ c, c < 6 → s.testBit c = true → (ntzN s = c ↔ s &&& (2 ^ c - 1) = 0) := by decide +kernel
theorem ntz_lt : ∀ s, s < 256 → ntzN s ≤ 8 := by decide +kernel
def clansK (D : mm_D) : Nat → Nat
  | 0 => 0
  | c + 1 => clansK D c + (if clR D (2 ^ c) 6 &&& (2 ^ c - 1) = 0 then 1 else 0)
theorem sp_Cr_howManyClans {X : mm_X} {μ : mm_M} {q : Int32 → mm_M → Prop} {a : Nat} {D : mm_D} (hCD : CoD μ a D) (hW : WfD D) (h : q (nI (clansK D (dn D))) μ) : mm_Ci X 3 0 0 k_Cr_howManyClans [.ref a] μ q := by
  show mm_T X 3 0 0 k_Cr_howManyClans 0 [some (.ref a), none, none] [] μ _
  have hn6 := hW.1
  refine mm_ciN 0 d_Cr_howManyClans_0 rfl ?_
  refine mm_ist1 d_Cr_howManyClans_1 ?_
  refine mm_ciN 0 d_Cr_howManyClans_2 rfl ?_
  refine mm_ist2 d_Cr_howManyClans_3 ?_
  refine mm_up (P := fun i => mm_T X _ 0 0 k_Cr_howManyClans 4 [some (.ref a), some (.int (nI (clansK D i))), some (.int (nI i))] [] μ _) (dn D) ?_ (fun i hi ih => ?_)
  · refine mm_iload d_Cr_howManyClans_4 rfl ?_
    refine mm_aload d_Cr_howManyClans_5 rfl ?_
    refine mm_getIN d_Cr_howManyClans_6 rfl hCD.1.1 hCD.n ?_
    refine mm_icmp_geN d_Cr_howManyClans_9 (by first | omega | exact ite01_lt | exact bt8_lt31 _ _ | exact godB_lt31 _ _ _ | exact pop_lt31 _ | assumption | exact b31 (hW.gp (by omega)) | exact b31 (hW.ne (by omega)) | exact b31 (hW.op (by omega)) | exact and31 (hW.gp (by omega)) | exact and31 (hW.ne (by omega)) | exact and31 (hW.op (by omega)) | exact and31 (by assumption) | exact and31r (hW.ne (by omega)) | exact and31r (hW.gp (by omega)) | exact and31r (by decide)) (by first | omega | exact ite01_lt | exact bt8_lt31 _ _ | exact godB_lt31 _ _ _ | exact pop_lt31 _ | assumption | exact b31 (hW.gp (by omega)) | exact b31 (hW.ne (by omega)) | exact b31 (hW.op (by omega)) | exact and31 (hW.gp (by omega)) | exact and31 (hW.ne (by omega)) | exact and31 (hW.op (by omega)) | exact and31 (by assumption) | exact and31r (hW.ne (by omega)) | exact and31r (hW.gp (by omega)) | exact and31r (by decide)) (fun c_9 => ?_) (fun c_9 => False.elim (by omega))
    refine mm_iload d_Cr_howManyClans_33 rfl ?_
    exact mm_ri d_Cr_howManyClans_34 h
  · refine mm_iload d_Cr_howManyClans_4 rfl ?_
    refine mm_aload d_Cr_howManyClans_5 rfl ?_
    refine mm_getIN d_Cr_howManyClans_6 rfl hCD.1.1 hCD.n ?_
    have hc6 : 2 ^ i < 2 ^ 6 := Nat.pow_lt_pow_right (by decide) (by omega)
    have hl := clR_lt hW hc6 6
    have hbit : (clR D (2 ^ i) 6).testBit i = true := clR_bit (Nat.testBit_two_pow_self) 6
    have hne : clR D (2 ^ i) 6 ≠ 0 := fun e => by rw [e, Nat.zero_testBit] at hbit; cases hbit
    have hiff := ntz_iff _ hl i (by omega) hbit
    have hnz := ntz_lt (clR D (2 ^ i) 6) (by omega)
    refine mm_icmp_geN d_Cr_howManyClans_9 (by first | omega | exact ite01_lt | exact bt8_lt31 _ _ | exact godB_lt31 _ _ _ | exact pop_lt31 _ | assumption | exact b31 (hW.gp (by omega)) | exact b31 (hW.ne (by omega)) | exact b31 (hW.op (by omega)) | exact and31 (hW.gp (by omega)) | exact and31 (hW.ne (by omega)) | exact and31 (hW.op (by omega)) | exact and31 (by assumption) | exact and31r (hW.ne (by omega)) | exact and31r (hW.gp (by omega)) | exact and31r (by decide)) (by first | omega | exact ite01_lt | exact bt8_lt31 _ _ | exact godB_lt31 _ _ _ | exact pop_lt31 _ | assumption | exact b31 (hW.gp (by omega)) | exact b31 (hW.ne (by omega)) | exact b31 (hW.op (by omega)) | exact and31 (hW.gp (by omega)) | exact and31 (hW.ne (by omega)) | exact and31 (hW.op (by omega)) | exact and31 (by assumption) | exact and31r (hW.ne (by omega)) | exact and31r (hW.gp (by omega)) | exact and31r (by decide)) (fun c_9 => False.elim (by omega)) (fun c_9 => ?_)
    refine mm_aload d_Cr_howManyClans_12 rfl ?_
    refine mm_iload d_Cr_howManyClans_13 rfl ?_
    refine mm_s2i d_Cr_howManyClans_14 (sp_Cr_clanOf hCD hW (by omega) ?_)
    refine mm_s1i d_Cr_howManyClans_17 (sp_Int_numberOfTrailingZeros (by omega) (by omega) ?_)
    refine mm_iload d_Cr_howManyClans_20 rfl ?_
    refine mm_icmp_neN d_Cr_howManyClans_21 (by first | omega | exact ite01_lt | exact bt8_lt31 _ _ | exact godB_lt31 _ _ _ | exact pop_lt31 _ | assumption | exact b31 (hW.gp (by omega)) | exact b31 (hW.ne (by omega)) | exact b31 (hW.op (by omega)) | exact and31 (hW.gp (by omega)) | exact and31 (hW.ne (by omega)) | exact and31 (hW.op (by omega)) | exact and31 (by assumption) | exact and31r (hW.ne (by omega)) | exact and31r (hW.gp (by omega)) | exact and31r (by decide)) (by first | omega | exact ite01_lt | exact bt8_lt31 _ _ | exact godB_lt31 _ _ _ | exact pop_lt31 _ | assumption | exact b31 (hW.gp (by omega)) | exact b31 (hW.ne (by omega)) | exact b31 (hW.op (by omega)) | exact and31 (hW.gp (by omega)) | exact and31 (hW.ne (by omega)) | exact and31 (hW.op (by omega)) | exact and31 (by assumption) | exact and31r (hW.ne (by omega)) | exact and31r (hW.gp (by omega)) | exact and31r (by decide)) (fun c_21 => ?_) (fun c_21 => ?_)
    · refine mm_inc2N d_Cr_howManyClans_27 ?_
      refine mm_goto d_Cr_howManyClans_30 ?_
      first
        | (have z := ih; simp only [clansK, if_neg (fun e => c_21 (hiff.mpr e)), Nat.add_zero] at z; exact z)
        | (have z := ih; simp only [clansK, if_pos (hiff.mp c_21)] at z; exact z)
    · refine mm_inc1N d_Cr_howManyClans_24 ?_
      refine mm_inc2N d_Cr_howManyClans_27 ?_
      refine mm_goto d_Cr_howManyClans_30 ?_
      first
        | (have z := ih; simp only [clansK, if_neg (fun e => c_21 (hiff.mpr e)), Nat.add_zero] at z; exact z)
        | (have z := ih; simp only [clansK, if_pos (hiff.mp c_21)] at z; exact z)
theorem sp_M_clans {X : mm_X} {μ : mm_M} {q : Int32 → mm_M → Prop} {k : Nat} {D : mm_D} (hH : Hd μ k D) (h : q (nI (clansK D (dn D))) μ) : mm_Ci X 4 0 0 k_M_clans [.ref 71] μ q := by
  show mm_T X 4 0 0 k_M_clans 0 [some (.ref 71), none, none] [] μ _
  have hM := hH.1
  have hW := hH.wf
  have hn6 := hW.1
  refine mm_ciN 0 d_M_clans_0 rfl ?_
  refine mm_ist1 d_M_clans_1 ?_
  refine mm_ciN 0 d_M_clans_2 rfl ?_
  refine mm_ist2 d_M_clans_3 ?_
  refine mm_up (P := fun i => mm_T X _ 0 0 k_M_clans 4 [some (.ref 71), some (.int (nI (clansK D i))), some (.int (nI i))] [] μ _) (dn D) ?_ (fun i hi ih => ?_)
  · refine mm_iload d_M_clans_4 rfl ?_
    refine mm_aload d_M_clans_5 rfl ?_
    refine mm_getIN d_M_clans_6 rfl (sk_o_71 hM) hH.n ?_
    refine mm_icmp_geN d_M_clans_9 (by first | omega | exact ite01_lt | exact bt8_lt31 _ _ | exact godB_lt31 _ _ _ | exact pop_lt31 _ | assumption | exact b31 (hW.gp (by omega)) | exact b31 (hW.ne (by omega)) | exact b31 (hW.op (by omega)) | exact and31 (hW.gp (by omega)) | exact and31 (hW.ne (by omega)) | exact and31 (hW.op (by omega)) | exact and31 (by assumption) | exact and31r (hW.ne (by omega)) | exact and31r (hW.gp (by omega)) | exact and31r (by decide)) (by first | omega | exact ite01_lt | exact bt8_lt31 _ _ | exact godB_lt31 _ _ _ | exact pop_lt31 _ | assumption | exact b31 (hW.gp (by omega)) | exact b31 (hW.ne (by omega)) | exact b31 (hW.op (by omega)) | exact and31 (hW.gp (by omega)) | exact and31 (hW.ne (by omega)) | exact and31 (hW.op (by omega)) | exact and31 (by assumption) | exact and31r (hW.ne (by omega)) | exact and31r (hW.gp (by omega)) | exact and31r (by decide)) (fun c_9 => ?_) (fun c_9 => False.elim (by omega))
    refine mm_iload d_M_clans_40 rfl ?_
    exact mm_ri d_M_clans_41 h
  · refine mm_iload d_M_clans_4 rfl ?_
    refine mm_aload d_M_clans_5 rfl ?_
    refine mm_getIN d_M_clans_6 rfl (sk_o_71 hM) hH.n ?_
    have hc6 : 2 ^ i < 2 ^ 6 := Nat.pow_lt_pow_right (by decide) (by omega)
    have hl : clR D (2 ^ i) 6 < 256 := Nat.lt_trans (clR_lt hW hc6 6) (by decide)
    have h1 := one_le_two_pow i
    refine mm_icmp_geN d_M_clans_9 (by first | omega | exact ite01_lt | exact bt8_lt31 _ _ | exact godB_lt31 _ _ _ | exact pop_lt31 _ | assumption | exact b31 (hW.gp (by omega)) | exact b31 (hW.ne (by omega)) | exact b31 (hW.op (by omega)) | exact and31 (hW.gp (by omega)) | exact and31 (hW.ne (by omega)) | exact and31 (hW.op (by omega)) | exact and31 (by assumption) | exact and31r (hW.ne (by omega)) | exact and31r (hW.gp (by omega)) | exact and31r (by decide)) (by first | omega | exact ite01_lt | exact bt8_lt31 _ _ | exact godB_lt31 _ _ _ | exact pop_lt31 _ | assumption | exact b31 (hW.gp (by omega)) | exact b31 (hW.ne (by omega)) | exact b31 (hW.op (by omega)) | exact and31 (hW.gp (by omega)) | exact and31 (hW.ne (by omega)) | exact and31 (hW.op (by omega)) | exact and31 (by assumption) | exact and31r (hW.ne (by omega)) | exact and31r (hW.gp (by omega)) | exact and31r (by decide)) (fun c_9 => False.elim (by omega)) (fun c_9 => ?_)
    refine mm_iload d_M_clans_12 rfl ?_
    refine mm_aload d_M_clans_13 rfl ?_
    refine mm_iload d_M_clans_14 rfl ?_
    refine mm_v1i d_M_clans_15 (sk_o_71 hM) (sp_M_clanOf hH (by omega) ?_)
    refine mm_ciN 1 d_M_clans_18 rfl ?_
    refine mm_iload d_M_clans_19 rfl ?_
    refine mm_ishl1N d_M_clans_20 (by omega) ?_
    refine mm_ciN 1 d_M_clans_21 rfl ?_
    refine mm_isubN d_M_clans_22 (by omega) ?_
    refine mm_iandN d_M_clans_23 ?_
    refine mm_if_neN d_M_clans_24 (by first | omega | exact ite01_lt | exact bt8_lt31 _ _ | exact godB_lt31 _ _ _ | exact pop_lt31 _ | assumption | exact b31 (hW.gp (by omega)) | exact b31 (hW.ne (by omega)) | exact b31 (hW.op (by omega)) | exact and31 (hW.gp (by omega)) | exact and31 (hW.ne (by omega)) | exact and31 (hW.op (by omega)) | exact and31 (by assumption) | exact and31r (hW.ne (by omega)) | exact and31r (hW.gp (by omega)) | exact and31r (by decide)) (fun c_24 => ?_) (fun c_24 => ?_)
    · refine mm_ciN 0 d_M_clans_31 rfl ?_
      refine mm_iaddN d_M_clans_32 ?_
      refine mm_ist1 d_M_clans_33 ?_
      refine mm_inc2N d_M_clans_34 ?_
      refine mm_goto d_M_clans_37 ?_
      first
        | (have z := ih; simp only [clansK, if_neg c_24] at z; exact z)
        | (have z := ih; simp only [clansK, if_pos c_24] at z; exact z)
    · refine mm_ciN 1 d_M_clans_27 rfl ?_
      refine mm_goto d_M_clans_28 ?_
      refine mm_iaddN d_M_clans_32 ?_
      refine mm_ist1 d_M_clans_33 ?_
      refine mm_inc2N d_M_clans_34 ?_
      refine mm_goto d_M_clans_37 ?_
      first
        | (have z := ih; simp only [clansK, if_neg c_24] at z; exact z)
        | (have z := ih; simp only [clansK, if_pos c_24] at z; exact z)
