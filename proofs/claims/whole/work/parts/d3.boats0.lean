/-! boats: who sits where -/
def cB (f : Nat → Nat) (x : Nat) : Nat → Nat
  | 0 => 0
  | c + 1 => cB f x c + (if f c = x then 1 else 0)
def uB (D : mm_D) (f : Nat → Nat) (x : Nat) : Nat → Nat
  | 0 => 0
  | c + 1 => if f c = x then uB D f x c ||| dgp D c else uB D f x c
def Vl (D : mm_D) (R c : Nat) (f : Nat → Nat) : Prop := (∀ x, cB f x c ≤ R) ∧ ∀ a b, a < c → b < c → a ≠ b → f a = f b → dgp D a &&& dgp D b = 0
def Sl (D : mm_D) (R m c : Nat) (f : Nat → Nat) : Prop := ∃ g : Nat → Nat, (∀ b, b < c → g b = f b) ∧ (∀ b, b < dn D → g b < m) ∧ Vl D R (dn D) g
def Gr (D : mm_D) (R m c : Nat) (g : Nat → Nat) : Prop := (∀ b, b < dn D → g b < m) ∧ Vl D R (dn D) g ∧ ∀ c', c ≤ c' → c' < dn D → ∀ x, x < g c' → ¬ Sl D R m (c' + 1) (up g c' x)
theorem cB_cg {f g : Nat → Nat} {x : Nat} : ∀ c, (∀ b, b < c → f b = g b) → cB f x c = cB g x c
  | 0, _ => rfl
  | c + 1, h => by
    show cB f x c + _ = cB g x c + _
    rw [cB_cg c (fun b hb => h b (by omega)), h c (by omega)]
theorem uB_cg {D : mm_D} {f g : Nat → Nat} {x : Nat} : ∀ c, (∀ b, b < c → f b = g b) → uB D f x c = uB D g x c
  | 0, _ => rfl
  | c + 1, h => by
    show (if f c = x then uB D f x c ||| dgp D c else uB D f x c) = (if g c = x then uB D g x c ||| dgp D c else uB D g x c)
    rw [uB_cg c (fun b hb => h b (by omega)), h c (by omega)]
theorem cB_mono {f : Nat → Nat} {x c d : Nat} (h : c ≤ d) : cB f x c ≤ cB f x d := by
  induction d with
  | zero => rw [show c = 0 by omega]; exact Nat.le_refl _
  | succ d ih =>
    by_cases e : c = d + 1
    · rw [e]; exact Nat.le_refl _
    · exact Nat.le_trans (ih (by omega)) (Nat.le_add_right _ _)
theorem cB_le {f : Nat → Nat} {x : Nat} : ∀ c, cB f x c ≤ c
  | 0 => Nat.le_refl 0
  | c + 1 => by
    have := cB_le (f := f) (x := x) c
    show cB f x c + (if f c = x then 1 else 0) ≤ _
    split <;> omega
theorem cB_pos {f : Nat → Nat} {x : Nat} : ∀ c, cB f x c ≠ 0 → ∃ a, a < c ∧ f a = x
  | 0, h => absurd rfl h
  | c + 1, h => by
    by_cases e : f c = x
    · exact ⟨c, Nat.lt_succ_self c, e⟩
    · obtain ⟨a, a1, a2⟩ := cB_pos (f := f) (x := x) c (by
        have : cB f x (c + 1) = cB f x c + (if f c = x then 1 else 0) := rfl
        rw [if_neg e] at this
        omega)
      exact ⟨a, by omega, a2⟩
theorem Vl_cg {D : mm_D} {R c : Nat} {f g : Nat → Nat} (e : ∀ b, b < c → f b = g b) (h : Vl D R c f) : Vl D R c g := ⟨fun x => by rw [← cB_cg c e]; exact h.1 x, fun a b ha hb hn hab => h.2 a b ha hb hn (by rw [e a ha, e b hb]; exact hab)⟩
theorem Vl_pre {D : mm_D} {R c d : Nat} {f : Nat → Nat} (hcd : c ≤ d) (h : Vl D R d f) : Vl D R c f := ⟨fun x => Nat.le_trans (cB_mono hcd) (h.1 x), fun a b ha hb => h.2 a b (by omega) (by omega)⟩
theorem or_z {a b : Nat} : a ||| b = 0 ↔ a = 0 ∧ b = 0 := by
  constructor
  · intro h
    have h1 : a ≤ a ||| b := Nat.left_le_or
    have h2 : b ≤ a ||| b := Nat.right_le_or
    omega
  · rintro ⟨rfl, rfl⟩; rfl
theorem uB_and {D : mm_D} {f : Nat → Nat} {x w : Nat} : ∀ c, uB D f x c &&& w = 0 ↔ ∀ b, b < c → f b = x → dgp D b &&& w = 0
  | 0 => ⟨fun _ b hb => absurd hb (Nat.not_lt_zero b), fun _ => Nat.zero_and w⟩
  | c + 1 => by
    have ih := uB_and (D := D) (f := f) (x := x) (w := w) c
    show (if f c = x then uB D f x c ||| dgp D c else uB D f x c) &&& w = 0 ↔ _
    by_cases e : f c = x
    · rw [if_pos e, Nat.and_or_distrib_right, or_z, ih]
      constructor
      · rintro ⟨h1, h2⟩ b hb hf
        by_cases y : b = c
        · rw [y]; exact h2
        · exact h1 b (by omega) hf
      · intro h
        exact ⟨fun b hb hf => h b (by omega) hf, h c (by omega) e⟩
    · rw [if_neg e, ih]
      constructor
      · intro h b hb hf
        by_cases y : b = c
        · subst y; exact absurd hf e
        · exact h b (by omega) hf
      · intro h b hb hf
        exact h b (by omega) hf
theorem uB_lt {D : mm_D} (hW : WfD D) {f : Nat → Nat} {x : Nat} : ∀ c, c ≤ 6 → uB D f x c < 256
  | 0, _ => show (0 : Nat) < 256 by decide
  | c + 1, h => by
    have := uB_lt hW (f := f) (x := x) c (by omega)
    show (if f c = x then uB D f x c ||| dgp D c else uB D f x c) < 256
    split
    · exact Nat.or_lt_two_pow (n := 8) this (hW.gp (by omega))
    · exact this
theorem Vl_up {D : mm_D} {R c x : Nat} {f : Nat → Nat} (h : Vl D R c f) : Vl D R (c + 1) (up f c x) ↔ cB f x c < R ∧ uB D f x c &&& dgp D c = 0 := by
  have eb : ∀ b, b < c → up f c x b = f b := fun b hb => up_ne (by omega)
  have ec : up f c x c = x := up_at
  have es : ∀ y, cB (up f c x) y (c + 1) = cB f y c + (if x = y then 1 else 0) := by
    intro y
    show cB (up f c x) y c + (if up f c x c = y then 1 else 0) = _
    rw [cB_cg c eb, ec]
  constructor
  · intro H
    refine ⟨?_, (uB_and c).mpr fun b hb hf => ?_⟩
    · have := H.1 x
      rw [es x, if_pos rfl] at this
      omega
    · exact H.2 b c (by omega) (by omega) (by omega) (by rw [eb b hb, ec]; exact hf)
  · rintro ⟨h1, h2⟩
    refine ⟨fun y => ?_, fun a b ha hb hn hab => ?_⟩
    · rw [es y]
      by_cases e : x = y
      · rw [if_pos e, ← e]; omega
      · rw [if_neg e]; exact h.1 y
    · by_cases e1 : a = c
      · have e2 : b ≠ c := fun z => hn (by omega)
        rw [e1, ec, eb b (by omega)] at hab
        rw [e1, Nat.and_comm]
        exact (uB_and c).mp h2 b (by omega) hab.symm
      · by_cases e2 : b = c
        · rw [e2, ec, eb a (by omega)] at hab
          rw [e2]
          exact (uB_and c).mp h2 a (by omega) hab
        · rw [eb a (by omega), eb b (by omega)] at hab
          exact h.2 a b (by omega) (by omega) hn hab
theorem Sl_cg {D : mm_D} {R m c : Nat} {f g : Nat → Nat} (e : ∀ b, b < c → f b = g b) (h : Sl D R m c f) : Sl D R m c g := by
  obtain ⟨k, k1, k2⟩ := h
  exact ⟨k, fun b hb => (k1 b hb).trans (e b hb), k2⟩
theorem Sl_vl {D : mm_D} {R m c : Nat} {f : Nat → Nat} (hc : c ≤ dn D) (h : Sl D R m c f) : Vl D R c f := by
  obtain ⟨k, k1, -, k3⟩ := h
  exact Vl_cg k1 (Vl_pre hc k3)
theorem Sl_down {D : mm_D} {R m c : Nat} {f : Nat → Nat} (hc : c < dn D) (h : Sl D R m c f) : ∃ x, x < m ∧ Sl D R m (c + 1) (up f c x) := by
  obtain ⟨k, k1, k2, k3⟩ := h
  refine ⟨k c, k2 c hc, k, fun b hb => ?_, k2, k3⟩
  by_cases e : b = c
  · rw [e, up_at]
  · rw [up_ne e]; exact k1 b (by omega)
def sw (u x y : Nat) : Nat := if y = x then u else if y = u then x else y
theorem sw_sw (u x y : Nat) : sw u x (sw u x y) = y := by
  unfold sw
  by_cases h1 : y = x
  · rw [if_pos h1]
    by_cases h2 : u = x
    · rw [if_pos h2, h1, h2]
    · rw [if_neg h2, if_pos rfl, h1]
  · rw [if_neg h1]
    by_cases h2 : y = u
    · rw [if_pos h2, if_pos rfl, h2]
    · rw [if_neg h2, if_neg h1, if_neg h2]
theorem cB_sw {g : Nat → Nat} {u x y : Nat} : ∀ c, cB (fun b => sw u x (g b)) y c = cB g (sw u x y) c
  | 0 => rfl
  | c + 1 => by
    show cB (fun b => sw u x (g b)) y c + (if sw u x (g c) = y then 1 else 0) = cB g (sw u x y) c + (if g c = sw u x y then 1 else 0)
    rw [cB_sw c]
    by_cases e : g c = sw u x y
    · rw [if_pos e, if_pos (by rw [e, sw_sw])]
    · rw [if_neg e, if_neg (fun z => e (by rw [← z, sw_sw]))]
/-- of boats that nobody is in another is no better -/
theorem Sl_swap {D : mm_D} {R m c u x : Nat} {f : Nat → Nat} (hf : ∀ b, b < c → f b < u) (hu : u < m) (hx : x < m) (hux : u < x) (h : Sl D R m (c + 1) (up f c x)) : Sl D R m (c + 1) (up f c u) := by
  obtain ⟨g, g1, g2, g3⟩ := h
  refine ⟨fun b => sw u x (g b), fun b hb => ?_, fun b hb => ?_, fun y => ?_, fun a b ha hb hn hab => ?_⟩
  · show sw u x (g b) = _
    by_cases e : b = c
    · have := g1 b hb
      rw [e, up_at] at this
      rw [e, up_at, this]
      exact if_pos rfl
    · have := g1 b hb
      rw [up_ne e] at this
      have h2 := hf b (by omega)
      rw [up_ne e, this]
      unfold sw
      rw [if_neg (by omega), if_neg (by omega)]
  · have := g2 b hb
    show sw u x (g b) < m
    unfold sw
    split
    · exact hu
    · split
      · exact hx
      · exact this
  · rw [cB_sw]; exact g3.1 _
  · refine g3.2 a b ha hb hn ?_
    have : sw u x (sw u x (g a)) = sw u x (sw u x (g b)) := by rw [show sw u x (g a) = sw u x (g b) from hab]
    rw [sw_sw, sw_sw] at this
    exact this
theorem Gr_sl {D : mm_D} {R m c : Nat} {g : Nat → Nat} (h : Gr D R m c g) : Sl D R m c g := ⟨g, fun _ _ => rfl, h.1, h.2.1⟩
theorem Gr_uniq {D : mm_D} {R m : Nat} {g g' : Nat → Nat} (h : Gr D R m 0 g) (h' : Gr D R m 0 g') : ∀ c, c ≤ dn D → ∀ b, b < c → g b = g' b
  | 0, _, b, hb => absurd hb (Nat.not_lt_zero b)
  | c + 1, hc, b, hb => by
    have ih := Gr_uniq h h' c (by omega)
    by_cases e : b = c
    · subst e
      rcases Nat.lt_trichotomy (g b) (g' b) with y | y | y
      · refine absurd ⟨g, fun x hx => ?_, h.1, h.2.1⟩ (h'.2.2 b (Nat.zero_le _) (by omega) (g b) y)
        by_cases z : x = b
        · rw [z, up_at]
        · rw [up_ne z]; exact ih x (by omega)
      · exact y
      · refine absurd ⟨g', fun x hx => ?_, h'.1, h'.2.1⟩ (h.2.2 b (Nat.zero_le _) (by omega) (g' b) y)
        by_cases z : x = b
        · rw [z, up_at]
        · rw [up_ne z]; exact (ih x (by omega)).symm
    · exact ih b (by omega)
theorem cB_id {x : Nat} : ∀ c, cB (fun b => b) x c ≤ 1 ∧ (c ≤ x → cB (fun b => b) x c = 0)
  | 0 => ⟨Nat.zero_le _, fun _ => rfl⟩
  | c + 1 => by
    obtain ⟨h1, h2⟩ := cB_id (x := x) c
    have e : cB (fun b => b) x (c + 1) = cB (fun b => b) x c + (if c = x then 1 else 0) := rfl
    rw [e]
    by_cases y : c = x
    · rw [if_pos y, h2 (by omega)]; exact ⟨Nat.le_refl _, fun z => absurd z (by omega)⟩
    · rw [if_neg y]; exact ⟨h1, fun z => by rw [h2 (by omega)]⟩
/-- a boat for each will do -/
theorem Sl_all {D : mm_D} {R : Nat} (hR : 1 ≤ R) (f : Nat → Nat) : Sl D R (dn D) 0 f := ⟨fun b => b, fun b hb => absurd hb (Nat.not_lt_zero b), fun b hb => hb, fun x => Nat.le_trans (cB_id _).1 hR, fun a b _ _ hn hab => absurd hab hn⟩
theorem andn_or {a w : Nat} (ha : a < 256) (hw : w < 256) (h : a &&& w = 0) : (a ||| w) &&& (w ^^^ 4294967295) = a := by
  apply Nat.eq_of_testBit_eq
  intro i
  rw [Nat.testBit_and, Nat.testBit_or, Nat.testBit_xor]
  have hi : (a &&& w).testBit i = false := by rw [h]; exact Nat.zero_testBit i
  rw [Nat.testBit_and] at hi
  by_cases e : i < 8
  · have em : ∀ i, i < 8 → (4294967295).testBit i = true := by decide
    rw [em i e]
    cases h1 : a.testBit i <;> cases h2 : w.testBit i <;> simp [h1, h2] at hi ⊢
  · have hp : 256 ≤ 2 ^ i := Nat.pow_le_pow_right (n := 2) (i := 8) (j := i) (by decide) (by omega)
    rw [Nat.testBit_lt_two_pow (show a < 2 ^ i by omega), Nat.testBit_lt_two_pow (show w < 2 ^ i by omega)]
    simp
