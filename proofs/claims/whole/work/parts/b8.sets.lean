/-! plan: sets of sets as bits of a long -/
def lb (x : Int64) (t : Nat) : Bool := x.toBitVec.getLsbD t
theorem lb_or (x y : Int64) (t : Nat) : lb (x ||| y) t = (lb x t || lb y t) := by
  unfold lb
  rw [Int64.toBitVec_or, BitVec.getLsbD_or]
theorem lb_sh : ∀ s, s < 64 → ∀ t, t < 64 → lb (lN 1 <<< ((nI s).toInt64 &&& 63)) t = decide (t = s) := by decide +kernel
theorem lb_0 : ∀ t, t < 64 → lb (lN 0) t = false := by decide +kernel
theorem lb_1 : ∀ t, t < 64 → lb (lN 1) t = decide (t = 0) := by decide +kernel
theorem sh_amt : ∀ s, s < 64 → (((nI s).toInt64.toUInt64 &&& Int64.toUInt64 63).toBitVec % 64).toNat = s := by decide +kernel
theorem bit1 (y : BitVec 64) (s : Nat) : (y >>> s) &&& 1#64 = if y.getLsbD s = true then 1#64 else 0#64 := by
  apply BitVec.eq_of_getLsbD_eq
  intro i hi
  rw [BitVec.getLsbD_and, BitVec.getLsbD_ushiftRight]
  by_cases z : i = 0
  · subst z
    cases h : y.getLsbD s <;> simp [h]
  · have : (1#64).getLsbD i = false := by simp [z]
    rw [this, Bool.and_false]
    split
    · exact this.symm
    · simp
theorem tst {x : Int64} {s : Nat} (hs : s < 64) : ((x.toUInt64 >>> ((nI s).toInt64.toUInt64 &&& Int64.toUInt64 63)).toInt64 &&& lN 1) = lN (if lb x s = true then 1 else 0) := by
  apply Int64.toBitVec_inj.mp
  rw [Int64.toBitVec_and]
  show (x.toUInt64 >>> ((nI s).toInt64.toUInt64 &&& Int64.toUInt64 63)).toBitVec &&& (lN 1).toBitVec = _
  rw [UInt64.toBitVec_shiftRight, BitVec.ushiftRight_eq', sh_amt s hs]
  show (x.toBitVec >>> s) &&& 1#64 = _
  rw [bit1]
  unfold lb
  split <;> rfl
/-- the sets that d days can do, of the sets p of one day -/
def RdD (p : Nat → Bool) : Nat → Nat → Prop
  | 0, t => t = 0
  | d + 1, t => ∃ b s, b < 64 ∧ s < 64 ∧ RdD p d b ∧ p s = true ∧ b ||| s = t
def unF (p : Nat → Bool) : Nat → Nat
  | 0 => 0
  | s + 1 => if p s = true then unF p s ||| s else unF p s
theorem unF_t {p : Nat → Bool} {t : Nat} : ∀ k, (unF p k).testBit t = true ↔ ∃ s, s < k ∧ p s = true ∧ s.testBit t = true
  | 0 => by
    show (0 : Nat).testBit t = true ↔ _
    rw [Nat.zero_testBit]
    exact ⟨fun z => (by cases z), fun ⟨s, h, _⟩ => absurd h (Nat.not_lt_zero s)⟩
  | k + 1 => by
    have ih := unF_t (p := p) (t := t) k
    unfold unF
    by_cases c : p k = true
    · rw [if_pos c, Nat.testBit_or, Bool.or_eq_true, ih]
      constructor
      · rintro (⟨s, a, b⟩ | z)
        · exact ⟨s, by omega, b⟩
        · exact ⟨k, by omega, c, z⟩
      · rintro ⟨s, a, b, d⟩
        by_cases e : s = k
        · subst e; exact Or.inr d
        · exact Or.inl ⟨s, by omega, b, d⟩
    · rw [if_neg c, ih]
      constructor
      · rintro ⟨s, a, b⟩
        exact ⟨s, by omega, b⟩
      · rintro ⟨s, a, b, d⟩
        by_cases e : s = k
        · subst e; exact absurd b c
        · exact ⟨s, by omega, b, d⟩
theorem or_lt64 {a b : Nat} (ha : a < 64) (hb : b < 64) : a ||| b < 64 := Nat.or_lt_two_pow (n := 6) ha hb
theorem unF_lt {p : Nat → Bool} : ∀ k, k ≤ 64 → unF p k < 64
  | 0, _ => show (0 : Nat) < 64 by decide
  | k + 1, h => by
    have := unF_lt (p := p) k (by omega)
    unfold unF
    split
    · exact or_lt64 this (by omega)
    · exact this
theorem RdD_lt {p : Nat → Bool} : ∀ d t, RdD p d t → t < 64
  | 0, t, h => by rw [show t = 0 from h]; decide
  | d + 1, t, h => by
    obtain ⟨b, s, hb, hs, -, -, e⟩ := h
    rw [← e]
    exact or_lt64 hb hs
/-- six days do -/
theorem RdD_cov {p : Nat → Bool} (j : Nat) : ∃ c d, d ≤ j ∧ RdD p d c ∧ (∀ t, t < j → (unF p 64).testBit t = true → c.testBit t = true) ∧ ∀ t, c.testBit t = true → (unF p 64).testBit t = true := by
  induction j with
  | zero => exact ⟨0, 0, Nat.le_refl _, rfl, fun t ht => absurd ht (Nat.not_lt_zero t), fun t h => by rw [Nat.zero_testBit] at h; cases h⟩
  | succ j ih =>
    obtain ⟨c, d, h1, h2, h3, h4⟩ := ih
    by_cases hb : (unF p 64).testBit j = true
    · obtain ⟨s, s1, s2, s3⟩ := (unF_t 64).mp hb
      refine ⟨c ||| s, d + 1, by omega, ⟨c, s, RdD_lt d c h2, s1, h2, s2, rfl⟩, fun t ht hu => ?_, fun t ht => ?_⟩
      · rw [Nat.testBit_or, Bool.or_eq_true]
        by_cases e : t = j
        · subst e; exact Or.inr s3
        · exact Or.inl (h3 t (by omega) hu)
      · rw [Nat.testBit_or, Bool.or_eq_true] at ht
        rcases ht with z | z
        · exact h4 t z
        · exact (unF_t 64).mpr ⟨s, s1, s2, z⟩
    · refine ⟨c, d, by omega, h2, fun t ht hu => ?_, h4⟩
      by_cases e : t = j
      · subst e; exact absurd hu hb
      · exact h3 t (by omega) hu
theorem RdD_6 {p : Nat → Bool} : ∃ d, d ≤ 6 ∧ RdD p d (unF p 64) := by
  obtain ⟨c, d, h1, h2, h3, h4⟩ := RdD_cov (p := p) 6
  have e : c = unF p 64 := by
    apply Nat.eq_of_testBit_eq
    intro t
    by_cases ht : t < 6
    · cases a : c.testBit t with
      | true => rw [h4 t a]
      | false =>
        cases b : (unF p 64).testBit t with
        | true => rw [h3 t ht b] at a; cases a
        | false => rfl
    · have l1 := RdD_lt d c h2
      have l2 := unF_lt (p := p) 64 (Nat.le_refl _)
      have hp : 64 ≤ 2 ^ t := Nat.pow_le_pow_right (n := 2) (i := 6) (j := t) (by decide) (show 6 ≤ t by omega)
      rw [Nat.testBit_lt_two_pow (by omega), Nat.testBit_lt_two_pow (by omega)]
  rw [e] at h2
  exact ⟨d, h1, h2⟩
/-- the model's least numbers of days -/
def NdI (p : Nat → Bool) (h j : Nat) (f : Nat → Nat) : Prop := f 0 = 0 ∧ (∀ t, t < 64 → f t ≤ 1000000 ∧ (f t < 1000000 → RdD p (f t) t)) ∧ (∀ h', h' < h → ∀ s, s < 64 → p s = true → f (h' ||| s) ≤ f h' + 1) ∧ ∀ s, s < j → p s = true → f (h ||| s) ≤ f h + 1
theorem NdI_0 {p : Nat → Bool} : NdI p 0 0 (fun t => if t = 0 then 0 else 1000000) := by
  refine ⟨rfl, fun t ht => ?_, fun h' hh => absurd hh (Nat.not_lt_zero _), fun s hs => absurd hs (Nat.not_lt_zero _)⟩
  by_cases z : t = 0
  · subst z; exact ⟨by decide, fun _ => rfl⟩
  · simp only [if_neg z]; exact ⟨Nat.le_refl _, fun c => absurd c (Nat.lt_irrefl _)⟩
theorem NdI_row {p : Nat → Bool} {h : Nat} {f : Nat → Nat} (H : NdI p h 64 f) : NdI p (h + 1) 0 f := by
  obtain ⟨a, b, c, d⟩ := H
  refine ⟨a, b, fun h' hh s hs ps => ?_, fun s hs => absurd hs (Nat.not_lt_zero _)⟩
  by_cases e : h' = h
  · subst e; exact d s hs ps
  · exact c h' (by omega) s hs ps
theorem NdI_skip {p : Nat → Bool} {h j : Nat} {f : Nat → Nat} (H : NdI p h j f) (hp : ¬ p j = true) : NdI p h (j + 1) f := by
  obtain ⟨a, b, c, d⟩ := H
  refine ⟨a, b, c, fun s hs ps => ?_⟩
  by_cases e : s = j
  · subst e; exact absurd ps hp
  · exact d s (by omega) ps
theorem NdI_set {p : Nat → Bool} {h j : Nat} {f f' : Nat → Nat} (H : NdI p h j f) (hh : h < 64) (hj : j < 64) (hp : p j = true) (e : ∀ t, f' t = if t = h ||| j then min (f (h ||| j)) (f h + 1) else f t) : NdI p h (j + 1) f' := by
  obtain ⟨a, b, c, d⟩ := H
  have hge : h ≤ h ||| j := Nat.left_le_or
  have le : ∀ t, f' t ≤ f t := by
    intro t
    rw [e t]
    split
    · rename_i z; rw [z]; exact Nat.min_le_left _ _
    · exact Nat.le_refl _
  have eh : f' h = f h := by
    rw [e h]
    split
    · rename_i z; rw [← z]; omega
    · rfl
  have lo : ∀ h', h' < h → f' h' = f h' := fun h' z => by rw [e h', if_neg (by omega)]
  refine ⟨by have := le 0; omega, fun t ht => ?_, fun h' z s hs ps => ?_, fun s hs ps => ?_⟩
  · refine ⟨Nat.le_trans (le t) (b t ht).1, fun z => ?_⟩
    rw [e t] at z ⊢
    by_cases y : t = h ||| j
    · rw [if_pos y] at z ⊢
      by_cases x : f (h ||| j) ≤ f h + 1
      · rw [Nat.min_eq_left x] at z ⊢
        rw [y]
        exact (b _ (or_lt64 hh hj)).2 z
      · rw [Nat.min_eq_right (by omega)] at z ⊢
        exact ⟨h, j, hh, hj, (b h hh).2 (by omega), hp, y.symm⟩
    · rw [if_neg y] at z ⊢
      exact (b t ht).2 z
  · rw [lo h' z]; exact Nat.le_trans (le _) (c h' z s hs ps)
  · rw [eh]
    by_cases y : s = j
    · subst y
      rw [e, if_pos rfl]
      exact Nat.min_le_right _ _
    · exact Nat.le_trans (le _) (d s (by omega) ps)
theorem NdI_le {p : Nat → Bool} {f : Nat → Nat} (H : NdI p 64 0 f) : ∀ d t, RdD p d t → f t ≤ d
  | 0, t, h => by rw [show t = 0 from h, H.1]; exact Nat.le_refl 0
  | d + 1, t, h => by
    obtain ⟨b, s, hb, hs, hr, ps, e⟩ := h
    have h1 := NdI_le H d b hr
    have h2 := H.2.2.1 b hb s hs ps
    rw [← e]
    omega
/-- how many days the class counts is what the model has found -/
theorem days_eq {p : Nat → Bool} {f : Nat → Nat} (H : NdI p 64 0 f) {d : Nat} (hd : d ≤ 6) (hn : ∀ d', d' < d → ¬ RdD p d' (unF p 64)) (hy : d = 6 ∨ RdD p d (unF p 64)) : f (unF p 64) = d := by
  obtain ⟨d6, h6, r6⟩ := RdD_6 (p := p)
  have hu := unF_lt (p := p) 64 (Nat.le_refl _)
  have l6 := NdI_le H d6 _ r6
  have hr := (H.2.1 _ hu).2 (by omega)
  have hge : d ≤ f (unF p 64) := Nat.not_lt.mp fun z => hn _ z hr
  rcases hy with y | y
  · omega
  · have := NdI_le H d _ y
    omega
