/-! couples: two ways to find how many there can be -/
theorem bt8_tb (s k : Nat) : bt8 s k = 0 ↔ s.testBit k = false := by
  rw [Nat.testBit_eq_decide_div_mod_eq]
  unfold bt8
  by_cases h : s / 2 ^ k % 2 = 1
  · simp [h]
  · simp [h]; omega
theorem bt8_tb1 (s k : Nat) : bt8 s k ≠ 0 ↔ s.testBit k = true := by
  rw [Ne, bt8_tb]
  cases s.testBit k <;> simp
theorem bt8_or2 (s o x : Nat) : bt8 (s ||| 2 ^ o) x = 0 ↔ bt8 s x = 0 ∧ x ≠ o := by
  rw [bt8_tb, bt8_tb, Nat.testBit_or, Nat.testBit_two_pow]
  by_cases e : o = x
  · subst e; simp
  · have e' : x ≠ o := fun z => e z.symm
    simp [e, e']
theorem bt8_min (s o x : Nat) (hx : x < 32) (ho : o < 32) : bt8 (s &&& (2 ^ o ^^^ 4294967295)) x ≠ 0 ↔ bt8 s x ≠ 0 ∧ x ≠ o := by
  rw [bt8_tb1, bt8_tb1, Nat.testBit_and, Nat.testBit_xor, Nat.testBit_two_pow, show (4294967295 : Nat) = 2 ^ 32 - 1 from rfl, Nat.testBit_two_pow_sub_one]
  by_cases e : o = x
  · subst e; simp [hx]
  · have e' : x ≠ o := fun z => e z.symm
    simp [e, e', hx]
def mt (A : Nat → Nat → Prop) (n : Nat) : Nat → (Nat → Prop) → Prop
  | 0, _ => True
  | k + 1, S => ∃ a b, b < a ∧ a < n ∧ S a ∧ S b ∧ A a b ∧ mt A n k (fun x => S x ∧ x ≠ a ∧ x ≠ b)
theorem mt_mono {A : Nat → Nat → Prop} {n : Nat} : ∀ {k : Nat} {S S' : Nat → Prop}, (∀ x, x < n → S x → S' x) → mt A n k S → mt A n k S'
  | 0, _, _, _, _ => trivial
  | k + 1, S, S', h, ⟨a, b, h1, h2, h3, h4, h5, h6⟩ => ⟨a, b, h1, h2, h a h2 h3, h b (by omega) h4, h5, mt_mono (fun x hx z => ⟨h x hx z.1, z.2⟩) h6⟩
theorem mt_ex {A : Nat → Nat → Prop} (hA : ∀ x y, A x y → A y x) {n c : Nat} : ∀ {k : Nat} {S : Nat → Prop}, mt A n k S → mt A n k (fun x => S x ∧ x ≠ c) ∨ (S c ∧ ∃ o, o ≠ c ∧ o < n ∧ c < n ∧ S o ∧ A c o ∧ ∃ k', k = k' + 1 ∧ mt A n k' (fun x => (S x ∧ x ≠ c) ∧ x ≠ o))
  | 0, _, _ => Or.inl trivial
  | k + 1, S, ⟨a, b, h1, h2, h3, h4, h5, h6⟩ => by
    by_cases ea : a = c
    · subst ea
      exact Or.inr ⟨h3, b, by omega, by omega, h2, h4, h5, k, rfl, mt_mono (fun x _ z => ⟨⟨z.1, z.2.1⟩, z.2.2⟩) h6⟩
    · by_cases eb : b = c
      · subst eb
        exact Or.inr ⟨h4, a, ea, h2, by omega, h3, hA _ _ h5, k, rfl, mt_mono (fun x _ z => ⟨⟨z.1, z.2.2⟩, z.2.1⟩) h6⟩
      · rcases mt_ex hA (c := c) h6 with z | ⟨z1, o, z2, z3, z4, z5, z6, k', rfl, z7⟩
        · exact Or.inl ⟨a, b, h1, h2, ⟨h3, ea⟩, ⟨h4, eb⟩, h5, mt_mono (fun x _ z => ⟨⟨z.1.1, z.2⟩, z.1.2⟩) z⟩
        · refine Or.inr ⟨z1.1, o, z2, z3, z4, z5.1, z6, k' + 1, rfl, a, b, h1, h2, ⟨⟨h3, ea⟩, fun e => z5.2.1 e.symm⟩, ⟨⟨h4, eb⟩, fun e => z5.2.2 e.symm⟩, h5, mt_mono (fun x _ z => ⟨⟨⟨z.1.1.1, z.1.2⟩, z.2⟩, z.1.1.2⟩) z7⟩
theorem mt_ex' {A : Nat → Nat → Prop} {n c : Nat} {k : Nat} {S : Nat → Prop} (hA : ∀ x y, A x y → A y x) (h : mt A n k (fun x => S x ∧ x ≠ c) ∨ (S c ∧ ∃ o, o ≠ c ∧ o < n ∧ c < n ∧ S o ∧ A c o ∧ ∃ k', k = k' + 1 ∧ mt A n k' (fun x => (S x ∧ x ≠ c) ∧ x ≠ o))) : mt A n k S := by
  rcases h with h | ⟨z1, o, z2, z3, z4, z5, z6, k', rfl, z7⟩
  · exact mt_mono (fun x _ z => z.1) h
  · by_cases e : o < c
    · exact ⟨c, o, e, z4, z1, z5, z6, mt_mono (fun x _ z => ⟨z.1.1, z.1.2, z.2⟩) z7⟩
    · exact ⟨o, c, by omega, z3, z5, z1, hA _ _ z6, mt_mono (fun x _ z => ⟨z.1.1, z.2, z.1.2⟩) z7⟩
/-- two children that share nothing -/
def adj (D : mm_D) (x y : Nat) : Prop := dgp D x &&& dgp D y = 0
theorem adj_comm (D : mm_D) (x y : Nat) (h : adj D x y) : adj D y x := by unfold adj at h ⊢; rw [Nat.and_comm]; exact h
theorem pop_z : ∀ s, s < 256 → (pop s = 0 ↔ s = 0) := by decide +kernel
def cfI (D : mm_D) (f : Nat → Nat) (c T m0 : Nat) : Nat → Nat
  | 0 => m0
  | j + 1 => if bt8 T c = 0 ∧ bt8 T (c + 1 + j) = 0 ∧ pop (dgp D c &&& dgp D (c + 1 + j)) = 0 then max (cfI D f c T m0 j) (1 + f (T ||| 2 ^ (c + 1 + j))) else cfI D f c T m0 j
def cf (D : mm_D) : Nat → Nat → Nat → Nat
  | 0, _, _ => 0
  | r + 1, c, T => if dn D ≤ c then 0 else cfI D (fun T' => cf D r (c + 1) T') c T (cf D r (c + 1) T) (dn D - (c + 1))
theorem cfI_le {D : mm_D} {f : Nat → Nat} {c T m0 r : Nat} (hm : m0 ≤ r) (hf : ∀ x, f x ≤ r) : ∀ j, cfI D f c T m0 j ≤ r + 1
  | 0 => by unfold cfI; omega
  | j + 1 => by
    have := cfI_le (D := D) (c := c) (T := T) hm hf j
    have := hf (T ||| 2 ^ (c + 1 + j))
    unfold cfI
    split <;> omega
theorem cf_le (D : mm_D) : ∀ r c T, cf D r c T ≤ r
  | 0, _, _ => Nat.le_refl 0
  | r + 1, c, T => by
    unfold cf
    split
    · omega
    · exact cfI_le (cf_le D r _ _) (fun x => cf_le D r _ x) _
theorem cfI_t {D : mm_D} {f : Nat → Nat} {c T m0 : Nat} (h : bt8 T c ≠ 0) : ∀ j, cfI D f c T m0 j = m0
  | 0 => rfl
  | j + 1 => by
    show (if _ then _ else _) = _
    rw [if_neg (fun z => h z.1)]
    exact cfI_t h j
theorem le_cfI {D : mm_D} {f : Nat → Nat} {c T m0 k : Nat} : ∀ J, k ≤ cfI D f c T m0 J ↔ k ≤ m0 ∨ ∃ j, j < J ∧ (bt8 T c = 0 ∧ bt8 T (c + 1 + j) = 0 ∧ pop (dgp D c &&& dgp D (c + 1 + j)) = 0) ∧ k ≤ 1 + f (T ||| 2 ^ (c + 1 + j))
  | 0 => ⟨fun h => Or.inl h, fun h => by rcases h with h | ⟨j, h, -⟩; exact h; exact absurd h (Nat.not_lt_zero j)⟩
  | J + 1 => by
    have ih := le_cfI (D := D) (f := f) (c := c) (T := T) (m0 := m0) (k := k) J
    unfold cfI
    by_cases hc : bt8 T c = 0 ∧ bt8 T (c + 1 + J) = 0 ∧ pop (dgp D c &&& dgp D (c + 1 + J)) = 0
    · rw [if_pos hc]
      constructor
      · intro h
        by_cases h2 : k ≤ cfI D f c T m0 J
        · rcases ih.mp h2 with z | ⟨j, z1, z2⟩
          · exact Or.inl z
          · exact Or.inr ⟨j, by omega, z2⟩
        · exact Or.inr ⟨J, by omega, hc, by omega⟩
      · intro h
        rcases h with z | ⟨j, z1, z2, z3⟩
        · have := ih.mpr (Or.inl z); omega
        · by_cases e : j = J
          · subst e; omega
          · have := ih.mpr (Or.inr ⟨j, by omega, z2, z3⟩); omega
    · rw [if_neg hc, ih]
      constructor
      · intro h
        rcases h with z | ⟨j, z1, z2⟩
        · exact Or.inl z
        · exact Or.inr ⟨j, by omega, z2⟩
      · intro h
        rcases h with z | ⟨j, z1, z2⟩
        · exact Or.inl z
        · by_cases e : j = J
          · subst e; exact absurd z2.1 hc
          · exact Or.inr ⟨j, by omega, z2⟩
theorem mt_none {A : Nat → Nat → Prop} {n k : Nat} {S : Nat → Prop} (h : ∀ x, x < n → ¬ S x) (h2 : mt A n k S) : k = 0 := by
  cases k with
  | zero => rfl
  | succ k =>
    obtain ⟨a, b, h1, h3, h4, -⟩ := h2
    exact absurd h4 (h a h3)
theorem le_cf {D : mm_D} (hW : WfD D) : ∀ r c T k, dn D ≤ c + r → (k ≤ cf D r c T ↔ mt (adj D) (dn D) k (fun x => c ≤ x ∧ bt8 T x = 0))
  | 0, c, T, k, h => ⟨fun z => by rw [show k = 0 from Nat.le_zero.mp z]; trivial, fun z => by rw [mt_none (fun x hx e => by omega) z]; exact Nat.zero_le _⟩
  | r + 1, c, T, k, h => by
    have h6 := hW.1
    by_cases hc : dn D ≤ c
    · rw [show cf D (r + 1) c T = 0 from if_pos hc]
      exact ⟨fun z => by rw [show k = 0 from Nat.le_zero.mp z]; trivial, fun z => by rw [mt_none (fun x hx e => by omega) z]; exact Nat.zero_le _⟩
    · rw [show cf D (r + 1) c T = cfI D (fun T' => cf D r (c + 1) T') c T (cf D r (c + 1) T) (dn D - (c + 1)) from if_neg hc, le_cfI]
      have ih := fun T k => le_cf hW r (c + 1) T k (by omega)
      constructor
      · intro hz
        refine mt_ex' (c := c) (adj_comm D) ?_
        rcases hz with z | ⟨j, z1, ⟨z2, z3, z4⟩, z5⟩
        · exact Or.inl (mt_mono (fun x _ e => ⟨⟨by omega, e.2⟩, by omega⟩) ((ih T k).mp z))
        · cases k with
          | zero => exact Or.inl trivial
          | succ k =>
            refine Or.inr ⟨⟨Nat.le_refl c, z2⟩, c + 1 + j, by omega, by omega, by omega, ⟨by omega, z3⟩, (pop_z _ (and_lt256 (hW.gp (by omega)))).mp z4, k, rfl, mt_mono (fun x _ e => ?_) ((ih (T ||| 2 ^ (c + 1 + j)) k).mp (by omega))⟩
            have e2 := (bt8_or2 T (c + 1 + j) x).mp e.2
            exact ⟨⟨⟨by omega, e2.1⟩, by omega⟩, e2.2⟩
      · intro hz
        rcases mt_ex (adj_comm D) (c := c) hz with z | ⟨z1, o, z2, z3, z4, z5, z6, k', rfl, z7⟩
        · exact Or.inl ((ih T k).mpr (mt_mono (fun x _ e => ⟨by omega, e.1.2⟩) z))
        · refine Or.inr ⟨o - (c + 1), by omega, ?_⟩
          rw [show c + 1 + (o - (c + 1)) = o by omega]
          refine ⟨⟨z1.2, z5.2, (pop_z _ (and_lt256 (hW.gp (by omega)))).mpr z6⟩, ?_⟩
          have := (ih (T ||| 2 ^ o) k').mpr (mt_mono (fun x _ e => ⟨by omega, (bt8_or2 T o x).mpr ⟨e.1.1.2, e.2⟩⟩) z7)
          show k' + 1 ≤ 1 + cf D r (c + 1) (T ||| 2 ^ o)
          omega
/-- the model's way -/
def mp (D : mm_D) (s : Nat) : Nat := cf D 6 0 (s ^^^ 255)
theorem bt8_x255 : ∀ s, s < 64 → ∀ x, x < 6 → (bt8 (s ^^^ 255) x = 0 ↔ bt8 s x ≠ 0) := by decide +kernel
theorem le_mp {D : mm_D} (hW : WfD D) {s k : Nat} (hs : s < 64) : k ≤ mp D s ↔ mt (adj D) (dn D) k (fun x => bt8 s x ≠ 0) := by
  have h6 := hW.1
  unfold mp
  rw [le_cf hW 6 0 _ k (by omega)]
  constructor
  · exact mt_mono (fun x hx e => (bt8_x255 s hs x (by omega)).mp e.2)
  · exact mt_mono (fun x hx e => ⟨Nat.zero_le x, (bt8_x255 s hs x (by omega)).mpr e⟩)
def dpB (D : mm_D) (s a m0 : Nat) : Nat → Nat
  | 0 => m0
  | b + 1 => if bt8 s a ≠ 0 ∧ bt8 s b ≠ 0 ∧ dgp D a &&& dgp D b = 0 then max (dpB D s a m0 b) (1 + mp D (s &&& (2 ^ a ^^^ 4294967295) &&& (2 ^ b ^^^ 4294967295))) else dpB D s a m0 b
def dpA (D : mm_D) (s : Nat) : Nat → Nat
  | 0 => 0
  | a + 1 => dpB D s a (dpA D s a) a
theorem le_dpB {D : mm_D} {s a m0 k : Nat} : ∀ B, k ≤ dpB D s a m0 B ↔ k ≤ m0 ∨ ∃ b, b < B ∧ (bt8 s a ≠ 0 ∧ bt8 s b ≠ 0 ∧ dgp D a &&& dgp D b = 0) ∧ k ≤ 1 + mp D (s &&& (2 ^ a ^^^ 4294967295) &&& (2 ^ b ^^^ 4294967295))
  | 0 => ⟨fun h => Or.inl h, fun h => by rcases h with h | ⟨j, h, -⟩; exact h; exact absurd h (Nat.not_lt_zero j)⟩
  | B + 1 => by
    have ih := le_dpB (D := D) (s := s) (a := a) (m0 := m0) (k := k) B
    unfold dpB
    by_cases hc : bt8 s a ≠ 0 ∧ bt8 s B ≠ 0 ∧ dgp D a &&& dgp D B = 0
    · rw [if_pos hc]
      constructor
      · intro h
        by_cases h2 : k ≤ dpB D s a m0 B
        · rcases ih.mp h2 with z | ⟨j, z1, z2⟩
          · exact Or.inl z
          · exact Or.inr ⟨j, by omega, z2⟩
        · exact Or.inr ⟨B, by omega, hc, by omega⟩
      · intro h
        rcases h with z | ⟨j, z1, z2, z3⟩
        · have := ih.mpr (Or.inl z); omega
        · by_cases e : j = B
          · subst e; omega
          · have := ih.mpr (Or.inr ⟨j, by omega, z2, z3⟩); omega
    · rw [if_neg hc, ih]
      constructor
      · intro h
        rcases h with z | ⟨j, z1, z2⟩
        · exact Or.inl z
        · exact Or.inr ⟨j, by omega, z2⟩
      · intro h
        rcases h with z | ⟨j, z1, z2⟩
        · exact Or.inl z
        · by_cases e : j = B
          · subst e; exact absurd z2.1 hc
          · exact Or.inr ⟨j, by omega, z2⟩
theorem le_dpA {D : mm_D} {s k : Nat} : ∀ A, k ≤ dpA D s A ↔ k = 0 ∨ ∃ a b, a < A ∧ b < a ∧ (bt8 s a ≠ 0 ∧ bt8 s b ≠ 0 ∧ dgp D a &&& dgp D b = 0) ∧ k ≤ 1 + mp D (s &&& (2 ^ a ^^^ 4294967295) &&& (2 ^ b ^^^ 4294967295))
  | 0 => ⟨fun h => Or.inl (Nat.le_zero.mp h), fun h => by rcases h with h | ⟨a, b, h, -⟩; rw [h]; exact Nat.zero_le _; exact absurd h (Nat.not_lt_zero a)⟩
  | A + 1 => by
    have ih := le_dpA (D := D) (s := s) (k := k) A
    unfold dpA
    rw [le_dpB, ih]
    constructor
    · intro h
      rcases h with (z | ⟨a, b, z1, z2⟩) | ⟨b, z1, z2⟩
      · exact Or.inl z
      · exact Or.inr ⟨a, b, by omega, z2⟩
      · exact Or.inr ⟨A, b, by omega, z1, z2⟩
    · intro h
      rcases h with z | ⟨a, b, z1, z2, z3⟩
      · exact Or.inl (Or.inl z)
      · by_cases e : a = A
        · subst e; exact Or.inr ⟨b, z2, z3⟩
        · exact Or.inl (Or.inr ⟨a, b, by omega, z2, z3⟩)
theorem dpA_mp {D : mm_D} (hW : WfD D) {s : Nat} (hs : s < 64) : dpA D s (dn D) = mp D s := by
  have h6 := hW.1
  have key : ∀ k, k ≤ dpA D s (dn D) ↔ k ≤ mp D s := by
    intro k
    rw [le_dpA, le_mp hW hs]
    cases k with
    | zero => exact ⟨fun _ => trivial, fun _ => Or.inl rfl⟩
    | succ k =>
      have hlt : ∀ a b, s &&& (2 ^ a ^^^ 4294967295) &&& (2 ^ b ^^^ 4294967295) < 64 := fun a b => Nat.lt_of_le_of_lt Nat.and_le_left (Nat.lt_of_le_of_lt Nat.and_le_left hs)
      constructor
      · intro h
        rcases h with z | ⟨a, b, z1, z2, z3, z4⟩
        · cases z
        · refine ⟨a, b, z2, z1, z3.1, z3.2.1, z3.2.2, mt_mono (fun x hx e => ?_) ((le_mp hW (hlt a b)).mp (show k ≤ _ by omega))⟩
          have e1 := (bt8_min _ b x (by omega) (by omega)).mp e
          have e2 := (bt8_min _ a x (by omega) (by omega)).mp e1.1
          exact ⟨e2.1, e2.2, e1.2⟩
      · intro h
        obtain ⟨a, b, h1, h2, h3, h4, h5, h7⟩ := h
        refine Or.inr ⟨a, b, h2, h1, ⟨h3, h4, h5⟩, ?_⟩
        have := (le_mp hW (hlt a b)).mpr (mt_mono (fun x hx e => (bt8_min _ b x (by omega) (by omega)).mpr ⟨(bt8_min _ a x (by omega) (by omega)).mpr ⟨e.1, e.2.1⟩, e.2.2⟩) h7)
        omega
  have h1 := (key (dpA D s (dn D))).mp (Nat.le_refl _)
  have h2 := (key (mp D s)).mpr (Nat.le_refl _)
  omega
theorem bt8_full : ∀ n, n ≤ 6 → ∀ x, x < n → bt8 (2 ^ n - 1) x ≠ 0 := by decide +kernel
theorem mp_full {D : mm_D} (hW : WfD D) : mp D (2 ^ dn D - 1) = cf D 6 0 0 := by
  have h6 := hW.1
  have h64 : 2 ^ dn D - 1 < 64 := by
    have h := Nat.pow_le_pow_right (n := 2) (by decide) hW.1
    have : 2 ^ 6 = 64 := rfl
    omega
  have key : ∀ k, k ≤ mp D (2 ^ dn D - 1) ↔ k ≤ cf D 6 0 0 := by
    intro k
    rw [le_mp hW h64, le_cf hW 6 0 0 k (by omega)]
    constructor
    · exact mt_mono (fun x hx e => ⟨Nat.zero_le x, by simp [bt8]⟩)
    · exact mt_mono (fun x hx e => bt8_full _ h6 x hx)
  have h1 := (key (mp D (2 ^ dn D - 1))).mp (Nat.le_refl _)
  have h2 := (key (cf D 6 0 0)).mpr (Nat.le_refl _)
  omega
