/-! headland: two by turns -/
/-- x is better than y, for least (z is 0) or for most -/
def btr (z x y : Nat) : Bool := if z = 0 then decide (x < y) else decide (y < x)
def fB (z : Nat) (f : Nat → Option Nat) : Nat → Option Nat × Option Nat
  | 0 => (none, none)
  | v + 1 => match f v, (fB z f v).1 with
    | none, _ => fB z f v
    | some x, none => (some x, some v)
    | some x, some y => if btr z x y = true then (some x, some v) else fB z f v
theorem fB_n {z : Nat} {f : Nat → Option Nat} {v : Nat} (h : f v = none) : fB z f (v + 1) = fB z f v := by
  show (match f v, (fB z f v).1 with | none, _ => fB z f v | some x, none => (some x, some v) | some x, some y => if btr z x y = true then (some x, some v) else fB z f v) = _
  rw [h]
theorem fB_s {z : Nat} {f : Nat → Option Nat} {v x : Nat} (h : f v = some x) (h2 : (fB z f v).1 = none) : fB z f (v + 1) = (some x, some v) := by
  show (match f v, (fB z f v).1 with | none, _ => fB z f v | some x, none => (some x, some v) | some x, some y => if btr z x y = true then (some x, some v) else fB z f v) = _
  rw [h, h2]
theorem fB_c {z : Nat} {f : Nat → Option Nat} {v x y : Nat} (h : f v = some x) (h2 : (fB z f v).1 = some y) : fB z f (v + 1) = if btr z x y = true then (some x, some v) else fB z f v := by
  show (match f v, (fB z f v).1 with | none, _ => fB z f v | some x, none => (some x, some v) | some x, some y => if btr z x y = true then (some x, some v) else fB z f v) = _
  rw [h, h2]
theorem fB_ok {z : Nat} {f : Nat → Option Nat} : ∀ k, (fB z f k = (none, none) ∧ ∀ v, v < k → f v = none) ∨ ∃ x v, v < k ∧ fB z f k = (some x, some v) ∧ f v = some x ∧ (∀ u y, u < k → f u = some y → btr z y x = false) ∧ ∀ u y, u < v → f u = some y → btr z x y = true
  | 0 => Or.inl ⟨rfl, fun v hv => absurd hv (Nat.not_lt_zero v)⟩
  | k + 1 => by
    cases hf : f k with
    | none =>
      rw [fB_n hf]
      rcases fB_ok (z := z) (f := f) k with ⟨a, b⟩ | ⟨x, v, a, b, c, d, e⟩
      · exact Or.inl ⟨a, fun v hv => by by_cases y : v = k; (rw [y]; exact hf); exact b v (by omega)⟩
      · exact Or.inr ⟨x, v, by omega, b, c, fun u y hu hy => by (by_cases w : u = k; (subst w; rw [hf] at hy; cases hy); exact d u y (by omega) hy), e⟩
    | some x =>
      rcases fB_ok (z := z) (f := f) k with ⟨a, b⟩ | ⟨x', v, a, b, c, d, e⟩
      · rw [fB_s hf (by rw [a])]
        refine Or.inr ⟨x, k, by omega, rfl, hf, fun u y hu hy => ?_, fun u y hu hy => ?_⟩
        · by_cases w : u = k
          · subst w
            rw [hf] at hy
            cases hy
            unfold btr
            split <;> simp
          · rw [b u (by omega)] at hy; cases hy
        · rw [b u hu] at hy; cases hy
      · rw [fB_c hf (by rw [b])]
        by_cases w : btr z x x' = true
        · rw [if_pos w]
          refine Or.inr ⟨x, k, by omega, rfl, hf, fun u y hu hy => ?_, fun u y hu hy => ?_⟩
          · by_cases w2 : u = k
            · subst w2
              rw [hf] at hy
              cases hy
              unfold btr
              split <;> simp
            · have := d u y (by omega) hy
              unfold btr at *
              split at this
              · rw [if_pos (by assumption)] at w ⊢
                simp at *
                omega
              · rw [if_neg (by assumption)] at w ⊢
                simp at *
                omega
          · have := d u y (by omega) hy
            unfold btr at *
            split at this
            · rw [if_pos (by assumption)] at w ⊢
              simp at *
              omega
            · rw [if_neg (by assumption)] at w ⊢
              simp at *
              omega
        · rw [if_neg w]
          refine Or.inr ⟨x', v, by omega, b, c, fun u y hu hy => ?_, e⟩
          by_cases w2 : u = k
          · subst w2
            rw [hf] at hy
            cases hy
            exact Bool.eq_false_iff.mpr w
          · exact d u y (by omega) hy
/-- a choice of a turn -/
def stepv (D : mm_D) (had set v : Nat) : Option (Nat × Nat) := if v = 18 then some (had, set) else if dn D ≤ v / 3 ∨ bt8 had (v / 3) ≠ 0 then none else some (had ||| 2 ^ (v / 3), comesN D set (kthN (dgp D (v / 3)) (v % 3)))
def hsN (D : mm_D) : Nat → Nat → Option (Nat × Nat)
  | 0, _ => some (0, 0)
  | t + 1, k => match hsN D t (k / 19) with
    | none => none
    | some p => stepv D p.1 p.2 (k % 19)
def EV (D : mm_D) (g : Nat → Nat) (n : Nat) : Nat → Nat → Option Nat
  | 0, k => (hsN D n k).map (fun p => g p.2)
  | r + 1, k => (fB (1 - (n - (r + 1)) % 2) (fun v => EV D g n r (19 * k + v)) 19).1
def opt (z a b : Nat) : Nat := if z = 0 then min a b else max a b
def plI (D : mm_D) (tk z : Nat) (F : Nat → Nat → Nat) (c acc : Nat) : Nat → Nat
  | 0 => acc
  | w + 1 => if bt8 tk c = 0 ∧ godB D c w ≠ 0 then opt z (plI D tk z F c acc w) (F c w) else plI D tk z F c acc w
def plO (D : mm_D) (tk z : Nat) (F : Nat → Nat → Nat) (base : Nat) : Nat → Nat
  | 0 => base
  | c + 1 => plI D tk z F c (plO D tk z F base c) 8
def pl (D : mm_D) (g : Nat → Nat) : Nat → Nat → Nat → Nat → Nat
  | 0, _, h, _ => g h
  | r + 1, tk, h, z => plO D tk z (fun c w => pl D g r (tk ||| 2 ^ c) (comesN D h w) (1 - z)) (pl D g r tk h (1 - z)) (dn D)
theorem opt_or (z a b : Nat) : (opt z a b = a ∨ opt z a b = b) ∧ btr z a (opt z a b) = false ∧ btr z b (opt z a b) = false ∧ ∀ x, btr z x a = false → btr z x (opt z a b) = false := by
  unfold opt btr
  by_cases h : z = 0
  · simp only [if_pos h, decide_eq_false_iff_not]
    exact ⟨by omega, by omega, by omega, fun x hx => by omega⟩
  · simp only [if_neg h, decide_eq_false_iff_not]
    exact ⟨by omega, by omega, by omega, fun x hx => by omega⟩
theorem plI_ok {D : mm_D} {tk z c acc : Nat} {F : Nat → Nat → Nat} : ∀ w, (plI D tk z F c acc w = acc ∨ ∃ w', w' < w ∧ bt8 tk c = 0 ∧ godB D c w' ≠ 0 ∧ plI D tk z F c acc w = F c w') ∧ (∀ x, btr z x acc = false → btr z x (plI D tk z F c acc w) = false) ∧ ∀ w', w' < w → bt8 tk c = 0 → godB D c w' ≠ 0 → btr z (F c w') (plI D tk z F c acc w) = false
  | 0 => ⟨Or.inl rfl, fun x h => h, fun w' h => absurd h (Nat.not_lt_zero w')⟩
  | w + 1 => by
    obtain ⟨a, b, c'⟩ := plI_ok (D := D) (tk := tk) (z := z) (c := c) (acc := acc) (F := F) w
    unfold plI
    by_cases h : bt8 tk c = 0 ∧ godB D c w ≠ 0
    · rw [if_pos h]
      obtain ⟨o1, o2, o3, o4⟩ := opt_or z (plI D tk z F c acc w) (F c w)
      refine ⟨?_, fun x hx => o4 x (b x hx), fun w' hw h1 h2 => ?_⟩
      · rcases o1 with e | e
        · rw [e]
          rcases a with a | ⟨w', a1, a2⟩
          · exact Or.inl a
          · exact Or.inr ⟨w', by omega, a2⟩
        · exact Or.inr ⟨w, by omega, h.1, h.2, e⟩
      · by_cases e : w' = w
        · rw [e]; exact o3
        · exact o4 _ (c' w' (by omega) h1 h2)
    · rw [if_neg h]
      refine ⟨?_, b, fun w' hw h1 h2 => ?_⟩
      · rcases a with a | ⟨w', a1, a2⟩
        · exact Or.inl a
        · exact Or.inr ⟨w', by omega, a2⟩
      · by_cases e : w' = w
        · exact absurd ⟨h1, by rw [← e]; exact h2⟩ h
        · exact c' w' (by omega) h1 h2
theorem plO_ok {D : mm_D} {tk z base : Nat} {F : Nat → Nat → Nat} : ∀ c, (plO D tk z F base c = base ∨ ∃ c' w', c' < c ∧ w' < 8 ∧ bt8 tk c' = 0 ∧ godB D c' w' ≠ 0 ∧ plO D tk z F base c = F c' w') ∧ (∀ x, btr z x base = false → btr z x (plO D tk z F base c) = false) ∧ ∀ c' w', c' < c → w' < 8 → bt8 tk c' = 0 → godB D c' w' ≠ 0 → btr z (F c' w') (plO D tk z F base c) = false
  | 0 => ⟨Or.inl rfl, fun x h => h, fun c' w' h => absurd h (Nat.not_lt_zero c')⟩
  | c + 1 => by
    obtain ⟨a, b, d⟩ := plO_ok (D := D) (tk := tk) (z := z) (base := base) (F := F) c
    obtain ⟨e, f, g⟩ := plI_ok (D := D) (tk := tk) (z := z) (c := c) (acc := plO D tk z F base c) (F := F) 8
    show (plI D tk z F c (plO D tk z F base c) 8 = base ∨ ∃ c' w', c' < c + 1 ∧ w' < 8 ∧ bt8 tk c' = 0 ∧ godB D c' w' ≠ 0 ∧ plI D tk z F c (plO D tk z F base c) 8 = F c' w') ∧ (∀ x, btr z x base = false → btr z x (plI D tk z F c (plO D tk z F base c) 8) = false) ∧ ∀ c' w', c' < c + 1 → w' < 8 → bt8 tk c' = 0 → godB D c' w' ≠ 0 → btr z (F c' w') (plI D tk z F c (plO D tk z F base c) 8) = false
    refine ⟨?_, fun x hx => f x (b x hx), fun c' w' h1 h2 h3 h4 => ?_⟩
    · rcases e with e | ⟨w', e1, e2, e3, e4⟩
      · rw [e]
        rcases a with a | ⟨c', w', a1, a2⟩
        · exact Or.inl a
        · exact Or.inr ⟨c', w', by omega, a2⟩
      · exact Or.inr ⟨c, w', by omega, e1, e2, e3, e4⟩
    · by_cases y : c' = c
      · subst y; exact g w' h2 h3 h4
      · exact f _ (d c' w' (by omega) h2 h3 h4)
theorem btr_irr (z x : Nat) : btr z x x = false := by unfold btr; split <;> simp
theorem btr_anti {z x y : Nat} (h1 : btr z x y = false) (h2 : btr z y x = false) : x = y := by
  unfold btr at *
  by_cases h : z = 0
  · simp only [if_pos h, decide_eq_false_iff_not] at h1 h2; omega
  · simp only [if_neg h, decide_eq_false_iff_not] at h1 h2; omega
theorem pl_lt {D : mm_D} {g : Nat → Nat} {M : Nat} (hg : ∀ x, g x < M) : ∀ r tk h z, pl D g r tk h z < M
  | 0, _, h, _ => hg h
  | r + 1, tk, h, z => by
    obtain ⟨a, -⟩ := plO_ok (D := D) (tk := tk) (z := z) (base := pl D g r tk h (1 - z)) (F := fun c w => pl D g r (tk ||| 2 ^ c) (comesN D h w) (1 - z)) (dn D)
    show plO D tk z (fun c w => pl D g r (tk ||| 2 ^ c) (comesN D h w) (1 - z)) (pl D g r tk h (1 - z)) (dn D) < M
    rcases a with a | ⟨c', w', -, -, -, -, a⟩
    · rw [a]; exact pl_lt hg r _ _ _
    · rw [a]; exact pl_lt hg r _ _ _
/-- one more turn: the choices v, and those of the class -/
theorem turn {D : mm_D} (hW : WfD D) {g : Nat → Nat} {r tk h z : Nat} {f : Nat → Option Nat} (hf : ∀ v, v < 19 → f v = (stepv D tk h v).map (fun p => pl D g r p.1 p.2 (1 - z))) : ∃ v, v < 19 ∧ fB z f 19 = (some (pl D g (r + 1) tk h z), some v) ∧ f v = some (pl D g (r + 1) tk h z) ∧ ∀ u, u < v → f u ≠ some (pl D g (r + 1) tk h z) := by
  have hn6 := hW.1
  have f18 : f 18 = some (pl D g r tk h (1 - z)) := by rw [hf 18 (by decide)]; unfold stepv; rw [if_pos rfl]; rfl
  have fcw : ∀ c w, c < dn D → w < 8 → bt8 tk c = 0 → godB D c w ≠ 0 → ∃ v, v < 18 ∧ f v = some (pl D g r (tk ||| 2 ^ c) (comesN D h w) (1 - z)) := by
    intro c w hc hw hb hg
    have hg1 : bt8 (dgp D c) w = 1 := by
      have : godB D c w = bt8 (dgp D c) w := if_pos hc
      have := bt8_01 (dgp D c) w
      omega
    obtain ⟨k1, k2⟩ := kth_w _ (hW.gp (by omega)) (hW.2.2.2.2.1 c hc) w hw hg1
    refine ⟨3 * c + popK (dgp D c) w, by omega, ?_⟩
    have e1 : (3 * c + popK (dgp D c) w) / 3 = c := by omega
    have e2 : (3 * c + popK (dgp D c) w) % 3 = popK (dgp D c) w := by omega
    rw [hf _ (by omega)]
    unfold stepv
    rw [if_neg (by omega), e1, e2, if_neg (by rintro (y | y); omega; exact y hb), k1]
    rfl
  have inv : ∀ v y, v < 19 → f v = some y → y = pl D g r tk h (1 - z) ∨ ∃ c w, c < dn D ∧ w < 8 ∧ bt8 tk c = 0 ∧ godB D c w ≠ 0 ∧ y = pl D g r (tk ||| 2 ^ c) (comesN D h w) (1 - z) := by
    intro v y hv hy
    rw [hf v hv] at hy
    unfold stepv at hy
    by_cases e : v = 18
    · rw [if_pos e] at hy
      cases hy
      exact Or.inl rfl
    · rw [if_neg e] at hy
      by_cases e2 : dn D ≤ v / 3 ∨ bt8 tk (v / 3) ≠ 0
      · rw [if_pos e2] at hy; cases hy
      · rw [if_neg e2] at hy
        cases hy
        have hc : v / 3 < dn D := by omega
        have hk := kthN_ok _ (hW.gp (j := v / 3) (by omega)) (hW.2.2.2.2.1 _ hc) (v % 3) (by omega)
        exact Or.inr ⟨v / 3, kthN (dgp D (v / 3)) (v % 3), hc, hk.1, Decidable.not_not.mp (fun y => e2 (Or.inr y)), by (have : godB D (v / 3) (kthN (dgp D (v / 3)) (v % 3)) = bt8 (dgp D (v / 3)) (kthN (dgp D (v / 3)) (v % 3)) := if_pos hc); rw [this, hk.2.1]; decide, rfl⟩
  obtain ⟨p1, p2, p3⟩ := plO_ok (D := D) (tk := tk) (z := z) (base := pl D g r tk h (1 - z)) (F := fun c w => pl D g r (tk ||| 2 ^ c) (comesN D h w) (1 - z)) (dn D)
  have epl : pl D g (r + 1) tk h z = plO D tk z (fun c w => pl D g r (tk ||| 2 ^ c) (comesN D h w) (1 - z)) (pl D g r tk h (1 - z)) (dn D) := rfl
  rw [← epl] at p1 p2 p3
  rcases fB_ok (z := z) (f := f) 19 with ⟨-, b⟩ | ⟨x, v, a, b, c, d, e⟩
  · rw [b 18 (by decide)] at f18; cases f18
  · have h1 : btr z x (pl D g (r + 1) tk h z) = false := by
      rcases inv v x a c with y | ⟨c', w', y1, y2, y3, y4, y5⟩
      · rw [y]; exact p2 _ (btr_irr _ _)
      · rw [y5]; exact p3 c' w' y1 y2 y3 y4
    have h2 : btr z (pl D g (r + 1) tk h z) x = false := by
      rcases p1 with y | ⟨c', w', y1, y2, y3, y4, y5⟩
      · exact d 18 _ (by decide) (by rw [y]; exact f18)
      · obtain ⟨u, u1, u2⟩ := fcw c' w' y1 y2 y3 y4
        exact d u _ (by omega) (by rw [y5]; exact u2)
    have hx := btr_anti h1 h2
    rw [← hx]
    refine ⟨v, a, b, c, fun u hu y => ?_⟩
    have := e u x hu y
    rw [btr_irr] at this
    cases this
theorem hsN_s {D : mm_D} {t k v : Nat} (hv : v < 19) : hsN D (t + 1) (19 * k + v) = match hsN D t k with | none => none | some p => stepv D p.1 p.2 v := by
  show (match hsN D t ((19 * k + v) / 19) with | none => none | some p => stepv D p.1 p.2 ((19 * k + v) % 19)) = _
  rw [show (19 * k + v) / 19 = k by omega, show (19 * k + v) % 19 = v by omega]
/-- the model's folded value is the class's -/
theorem EV_pl {D : mm_D} (hW : WfD D) {g : Nat → Nat} {n : Nat} : ∀ r k t, r + t = n → (hsN D t k = none → EV D g n r k = none) ∧ ∀ p, hsN D t k = some p → EV D g n r k = some (pl D g r p.1 p.2 (1 - t % 2))
  | 0, k, t, h => by
    obtain rfl : t = n := by omega
    constructor
    · intro e
      unfold EV
      rw [e]
      rfl
    · intro p e
      unfold EV
      rw [e]
      rfl
  | r + 1, k, t, h => by
    have ih := fun v => EV_pl hW (g := g) (n := n) r (19 * k + v) (t + 1) (by omega)
    have et : n - (r + 1) = t := by omega
    have ez : 1 - (t + 1) % 2 = 1 - (1 - t % 2) := by omega
    have eE : EV D g n (r + 1) k = (fB (1 - t % 2) (fun v => EV D g n r (19 * k + v)) 19).1 := by show (fB (1 - (n - (r + 1)) % 2) _ 19).1 = _; rw [et]
    constructor
    · intro e
      rw [eE]
      rcases fB_ok (z := 1 - t % 2) (f := fun v => EV D g n r (19 * k + v)) 19 with ⟨a, b⟩ | ⟨x, v, a, b, c, d⟩
      · rw [a]
      · have := (ih v).1 (by rw [hsN_s a, e])
        rw [this] at c
        cases c
    · intro p e
      rw [eE]
      obtain ⟨v, -, b, -⟩ := turn hW (g := g) (r := r) (tk := p.1) (h := p.2) (z := 1 - t % 2) (f := fun v => EV D g n r (19 * k + v)) (fun v hv => by
        have e2 := hsN_s (D := D) (t := t) (k := k) hv
        rw [e] at e2
        show EV D g n r (19 * k + v) = _
        cases hs : stepv D p.1 p.2 v with
        | none => rw [(ih v).1 (e2.trans hs)]; rfl
        | some q => rw [(ih v).2 q (e2.trans hs), ez]; rfl)
      rw [b]
