/-! ladder: the longest rows of weathers -/
theorem fo_first {f : Nat → Nat} {b : Nat} : ∀ k s, (fo f b k).2 = some s → s < k ∧ f s = (fo f b k).1 ∧ b < f s ∧ ∀ s', s' < s → f s' < f s
  | 0, s, h => by cases h
  | k + 1, s, h => by
    unfold fo at h ⊢
    by_cases c : (fo f b k).1 < f k
    · rw [if_pos c] at h ⊢
      cases h
      have := fo_ge (f := f) (b := b) k
      exact ⟨Nat.lt_succ_self k, rfl, by omega, fun s' hs => Nat.lt_of_le_of_lt (fo_all k s' hs) c⟩
    · rw [if_neg c] at h ⊢
      obtain ⟨a1, a2, a3, a4⟩ := fo_first k s h
      exact ⟨by omega, a2, a3, a4⟩
theorem fo_uniq {f : Nat → Nat} {k M s : Nat} (h0 : 0 < M) (hs : s < k) (hM : f s = M) (hle : ∀ s', s' < k → f s' ≤ M) (hlt : ∀ s', s' < s → f s' < M) : fo f 0 k = (M, some s) := by
  rcases fo_o (f := f) (b := 0) k with ⟨a, b⟩ | ⟨u, u1, u2, u3, u4⟩
  · have := fo_all (f := f) (b := 0) k s hs
    omega
  · obtain ⟨c1, c2, c3, c4⟩ := fo_first k u u2
    have h1 := fo_all (f := f) (b := 0) k s hs
    have h2 := hle u u1
    have hu : u = s := by
      rcases Nat.lt_trichotomy u s with y | y | y
      · have := hlt u y; omega
      · exact y
      · have := c4 s y; omega
    subst hu
    apply Prod.ext
    · omega
    · exact u2
def rb (D : mm_D) (L : Nat → Nat → Nat) (h a w : Nat) : Nat := if bt8 h w = 0 ∧ (a = 8 ∨ bt8 (dop D a) w ≠ 0) then 1 + L w (h ||| 2 ^ w) else 0
def Lm (D : mm_D) : Nat → Nat → Nat → Nat
  | 0, _, _ => 0
  | f + 1, a, h => (fo (rb D (Lm D f) h a) 0 8).1
def Lg (D : mm_D) (a h : Nat) : Nat := Lm D (8 - pop h) a h
theorem pop_set : ∀ h, h < 256 → ∀ w, w < 8 → bt8 h w = 0 → pop (h ||| 2 ^ w) = pop h + 1 := by decide +kernel
theorem pop_255 : ∀ h, h < 256 → pop h = 8 → ∀ w, w < 8 → bt8 h w ≠ 0 := by decide +kernel
theorem or_set {h w : Nat} (hh : h < 256) (hw : w < 8) : h ||| 2 ^ w < 256 := Nat.or_lt_two_pow (n := 8) hh (p256 hw)
theorem Lg_rec {D : mm_D} {a h : Nat} (hh : h < 256) : Lg D a h = (fo (rb D (Lg D) h a) 0 8).1 := by
  have hp := pop_le h
  unfold Lg
  by_cases e : pop h = 8
  · rw [show 8 - pop h = 0 by omega]
    rw [fo_id (f := rb D (fun a h => Lm D (8 - pop h) a h) h a) 8 (fun w hw => by unfold rb; rw [if_neg (fun y => pop_255 h hh e w hw y.1)]; exact Nat.le_refl 0)]
    rfl
  · rw [show 8 - pop h = (8 - pop h - 1) + 1 by omega]
    show (fo (rb D (Lm D (8 - pop h - 1)) h a) 0 8).1 = _
    rw [fo_cg (g := rb D (fun a h => Lm D (8 - pop h) a h) h a) 8 (fun w hw => by
      unfold rb
      by_cases c : bt8 h w = 0 ∧ (a = 8 ∨ bt8 (dop D a) w ≠ 0)
      · rw [if_pos c, if_pos c]
        show 1 + Lm D (8 - pop h - 1) w (h ||| 2 ^ w) = 1 + Lm D (8 - pop (h ||| 2 ^ w)) w (h ||| 2 ^ w)
        rw [pop_set h hh w hw c.1, show 8 - (pop h + 1) = 8 - pop h - 1 by omega]
      · rw [if_neg c, if_neg c])]
theorem Lm_le {D : mm_D} : ∀ f a h, Lm D f a h ≤ f
  | 0, _, _ => Nat.le_refl 0
  | f + 1, a, h => by
    unfold Lm
    rcases fo_o (f := rb D (Lm D f) h a) (b := 0) 8 with ⟨-, e⟩ | ⟨s, -, -, e, -⟩
    · rw [e]; exact Nat.zero_le _
    · rw [e]
      unfold rb
      split
      · have := Lm_le (D := D) f s (h ||| 2 ^ s); omega
      · exact Nat.zero_le _
theorem Lg_le {D : mm_D} (a h : Nat) : Lg D a h + pop h ≤ 8 := by
  have h1 := Lm_le (D := D) (8 - pop h) a h
  have h2 := pop_le h
  unfold Lg
  omega
/-- how many weathers oppose any -/
def bnd (D : mm_D) : Nat → Nat
  | 0 => 0
  | w + 1 => bnd D w + (if dop D w = 0 then 0 else 1)
def NZ (D : mm_D) (h : Nat) : Prop := ∀ w, w < 8 → bt8 h w ≠ 0 → dop D w ≠ 0
theorem NZ_pop {D : mm_D} {h : Nat} (hz : NZ D h) : ∀ k, k ≤ 8 → popK h k ≤ bnd D k
  | 0, _ => Nat.le_refl 0
  | k + 1, hk => by
    have ih := NZ_pop hz k (by omega)
    have h01 := bt8_01 h k
    have hk8 := hz k (by omega)
    show popK h k + bt8 h k ≤ bnd D k + (if dop D k = 0 then 0 else 1)
    by_cases e : dop D k = 0
    · rw [if_pos e]
      have : bt8 h k = 0 := Decidable.byContradiction fun y => hk8 y e
      omega
    · rw [if_neg e]; omega
theorem dop_nz {D : mm_D} {a w : Nat} (h : bt8 (dop D a) w ≠ 0) : dop D a ≠ 0 := fun e => h (by rw [e]; exact bt8_0 w)
theorem NZ_set {D : mm_D} {h w : Nat} (hz : NZ D h) (hw : dop D w ≠ 0) : NZ D (h ||| 2 ^ w) := by
  intro x hx hb
  rw [bt8_orv] at hb
  by_cases e : x = w
  · rw [e]; exact hw
  · rw [if_neg e] at hb; exact hz x hx hb
theorem Lm_bnd {D : mm_D} (hW : WfD D) : ∀ f a h, a < 8 → h < 256 → NZ D h → Lm D f a h + pop h ≤ bnd D 8
  | 0, a, h, ha, hh, hz => by
    have := NZ_pop hz 8 (Nat.le_refl _)
    rw [popK_8] at this
    show 0 + pop h ≤ _
    omega
  | f + 1, a, h, ha, hh, hz => by
    have hb := NZ_pop hz 8 (Nat.le_refl _)
    rw [popK_8] at hb
    unfold Lm
    rcases fo_o (f := rb D (Lm D f) h a) (b := 0) 8 with ⟨-, e⟩ | ⟨s, hs, -, e, -⟩
    · rw [e]; omega
    · rw [e]
      unfold rb
      split
      · rename_i c
        have hop : bt8 (dop D a) s ≠ 0 := c.2.elim (fun y => absurd y (by omega)) (fun y => y)
        have hsym := (hW.2.2.2.2.2 a s ha hs).1
        have := Lm_bnd hW f s (h ||| 2 ^ s) hs (or_set hh hs) (NZ_set hz (dop_nz (w := a) (by rw [← hsym]; exact hop)))
        rw [pop_set h hh s hs c.1] at this
        omega
      · omega
theorem Lg_bnd {D : mm_D} (hW : WfD D) {a h : Nat} (ha : a < 8) (hh : h < 256) (hz : NZ D h) : Lg D a h + pop h ≤ bnd D 8 := Lm_bnd hW _ a h ha hh hz
def fw (D : mm_D) (a h : Nat) : Nat := ((fo (rb D (Lg D) h a) 0 8).2).getD 0
/-- the first longest row from a on, h being used: its i-th, what is used then -/
def itA (D : mm_D) (a h : Nat) : Nat → Nat × Nat
  | 0 => (a, h)
  | i + 1 => (fw D (itA D a h i).1 (itA D a h i).2, (itA D a h i).2 ||| 2 ^ fw D (itA D a h i).1 (itA D a h i).2)
theorem itA_sh {D : mm_D} {a h : Nat} : ∀ i, itA D a h (i + 1) = itA D (fw D a h) (h ||| 2 ^ fw D a h) i
  | 0 => rfl
  | i + 1 => by
    have ih := itA_sh (D := D) (a := a) (h := h) i
    show (fw D (itA D a h (i + 1)).1 (itA D a h (i + 1)).2, (itA D a h (i + 1)).2 ||| 2 ^ fw D (itA D a h (i + 1)).1 (itA D a h (i + 1)).2) = _
    rw [ih]
    rfl
theorem bt8_andn {x h w : Nat} (hw : w < 8) : bt8 (x &&& (h ^^^ 4294967295)) w ≠ 0 ↔ bt8 x w ≠ 0 ∧ bt8 h w = 0 := by
  have e : ∀ w, w < 8 → (4294967295).testBit w = true := by decide
  rw [bt8_tb1, bt8_tb1, bt8_tb, Nat.testBit_and, Nat.testBit_xor, e w hw]
  cases x.testBit w <;> cases h.testBit w <;> simp
theorem fo_1 {f : Nat → Nat} {b k : Nat} : (fo f b (k + 1)).1 = max (fo f b k).1 (f k) := by
  show (if (fo f b k).1 < f k then (f k, some k) else fo f b k).1 = _
  by_cases c : (fo f b k).1 < f k
  · rw [if_pos c]; show f k = _; omega
  · rw [if_neg c]; omega
