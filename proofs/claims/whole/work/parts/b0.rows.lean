/-! asking: rows of choices, by their numbers; the first best of them -/
def hbF (D : mm_D) (ou : Nat → Nat) : Nat → Nat → Nat → Option Nat
  | 0, h, _ => some h
  | m + 1, h, s => if s / 4 ^ m % 4 = 3 then hbF D ou m h s else if ou (dn D - (m + 1)) = 0 then hbF D ou m (comesN D h (kthN (dgp D (dn D - (m + 1))) (s / 4 ^ m % 4))) s else none
theorem p4 (m : Nat) : 0 < 4 ^ m := Nat.pow_pos (by decide)
theorem hbF_per {D : mm_D} {ou : Nat → Nat} : ∀ m h s d, hbF D ou m h (d * 4 ^ m + s) = hbF D ou m h s
  | 0, _, _, _ => rfl
  | m + 1, h, s, d => by
    have e1 : (d * 4 ^ (m + 1) + s) / 4 ^ m % 4 = s / 4 ^ m % 4 := by
      rw [Nat.pow_succ, Nat.add_comm, Nat.mul_left_comm, Nat.add_mul_div_left _ _ (p4 m), Nat.add_mul_mod_self_right]
    have ih := fun h => hbF_per (D := D) (ou := ou) m h s (d * 4)
    rw [Nat.mul_assoc, Nat.mul_comm 4, ← Nat.pow_succ] at ih
    show (if (d * 4 ^ (m + 1) + s) / 4 ^ m % 4 = 3 then _ else _) = (if s / 4 ^ m % 4 = 3 then _ else _)
    rw [e1, ih, ih]
theorem dig_at {d s m : Nat} (hd : d < 4) (hs : s < 4 ^ m) : (d * 4 ^ m + s) / 4 ^ m % 4 = d := by
  rw [Nat.add_comm, Nat.mul_comm, Nat.add_mul_div_left _ _ (p4 m), Nat.div_eq_of_lt hs, Nat.zero_add, Nat.mod_eq_of_lt hd]
theorem hbF_d3 {D : mm_D} {ou : Nat → Nat} {m h s : Nat} (hs : s < 4 ^ m) : hbF D ou (m + 1) h (3 * 4 ^ m + s) = hbF D ou m h s := by
  show (if (3 * 4 ^ m + s) / 4 ^ m % 4 = 3 then _ else _) = _
  rw [dig_at (by decide) hs, if_pos rfl, hbF_per]
theorem hbF_d {D : mm_D} {ou : Nat → Nat} {m h s d : Nat} (hd : d < 3) (hs : s < 4 ^ m) (ho : ou (dn D - (m + 1)) = 0) : hbF D ou (m + 1) h (d * 4 ^ m + s) = hbF D ou m (comesN D h (kthN (dgp D (dn D - (m + 1))) d)) s := by
  show (if (d * 4 ^ m + s) / 4 ^ m % 4 = 3 then _ else _) = _
  rw [dig_at (by omega) hs, if_neg (by omega), if_pos ho, hbF_per]
theorem hbF_dn {D : mm_D} {ou : Nat → Nat} {m h s d : Nat} (hd : d < 3) (hs : s < 4 ^ m) (ho : ou (dn D - (m + 1)) ≠ 0) : hbF D ou (m + 1) h (d * 4 ^ m + s) = none := by
  show (if (d * 4 ^ m + s) / 4 ^ m % 4 = 3 then _ else _) = _
  rw [dig_at (by omega) hs, if_neg (by omega), if_neg ho]
theorem hbF_lt {D : mm_D} (hW : WfD D) {ou : Nat → Nat} : ∀ m h s x, m ≤ dn D → h < 256 → hbF D ou m h s = some x → x < 256
  | 0, h, s, x, _, hh, e => by cases e; exact hh
  | m + 1, h, s, x, hm, hh, e => by
    have hn6 := hW.1
    unfold hbF at e
    split at e
    · exact hbF_lt hW m h s x (by omega) hh e
    · rename_i c
      split at e
      · refine hbF_lt hW m _ s x (by omega) (comesN_lt hh ?_) e
        exact (kthN_ok _ (hW.gp (by omega)) (hW.2.2.2.2.1 _ (by omega)) _ (by have := Nat.mod_lt (s / 4 ^ m) (show 0 < 4 by decide); omega)).1
      · cases e
/-- the first best of the values f below k, ahead of which b was the best -/
def fo (f : Nat → Nat) (b : Nat) : Nat → Nat × Option Nat
  | 0 => (b, none)
  | k + 1 => if (fo f b k).1 < f k then (f k, some k) else fo f b k
theorem fo_ge {f : Nat → Nat} {b : Nat} : ∀ k, b ≤ (fo f b k).1
  | 0 => Nat.le_refl b
  | k + 1 => by
    have := fo_ge (f := f) (b := b) k
    unfold fo
    split
    · exact Nat.le_trans this (Nat.le_of_lt (by assumption))
    · exact this
theorem fo_all {f : Nat → Nat} {b : Nat} : ∀ k s, s < k → f s ≤ (fo f b k).1
  | 0, s, h => absurd h (Nat.not_lt_zero s)
  | k + 1, s, h => by
    unfold fo
    by_cases e : s = k
    · subst e
      split
      · exact Nat.le_refl _
      · omega
    · have := fo_all (f := f) (b := b) k s (by omega)
      split
      · exact Nat.le_trans this (Nat.le_of_lt (by assumption))
      · exact this
theorem fo_cg {f g : Nat → Nat} {b : Nat} : ∀ k, (∀ s, s < k → f s = g s) → fo f b k = fo g b k
  | 0, _ => rfl
  | k + 1, h => by
    have ih := fo_cg (b := b) k (fun s hs => h s (by omega))
    unfold fo
    rw [ih, h k (by omega)]
theorem fo_id {f : Nat → Nat} {b : Nat} : ∀ k, (∀ s, s < k → f s ≤ b) → fo f b k = (b, none)
  | 0, _ => rfl
  | k + 1, h => by
    have ih := fo_id (f := f) (b := b) k (fun s hs => h s (by omega))
    unfold fo
    rw [ih, if_neg (by have := h k (by omega); show ¬ b < f k; omega)]
def fj (o : Option Nat) (k : Nat) (r : Nat × Option Nat) : Nat × Option Nat := (r.1, match r.2 with | none => o | some s => some (k + s))
theorem fo_add {f : Nat → Nat} {b k : Nat} : ∀ l, fo f b (k + l) = fj (fo f b k).2 k (fo (fun s => f (k + s)) (fo f b k).1 l)
  | 0 => rfl
  | l + 1 => by
    have ih := fo_add (f := f) (b := b) (k := k) l
    have e1 : (fo f b (k + l)).1 = (fo (fun s => f (k + s)) (fo f b k).1 l).1 := by rw [ih]; rfl
    show (if (fo f b (k + l)).1 < f (k + l) then (f (k + l), some (k + l)) else fo f b (k + l)) = fj (fo f b k).2 k (if (fo (fun s => f (k + s)) (fo f b k).1 l).1 < f (k + l) then (f (k + l), some l) else fo (fun s => f (k + s)) (fo f b k).1 l)
    rw [e1]
    by_cases c : (fo (fun s => f (k + s)) (fo f b k).1 l).1 < f (k + l)
    · rw [if_pos c, if_pos c]; rfl
    · rw [if_neg c, if_neg c]; exact ih
theorem fo_o {f : Nat → Nat} {b : Nat} : ∀ k, ((fo f b k).2 = none ∧ (fo f b k).1 = b) ∨ ∃ s, s < k ∧ (fo f b k).2 = some s ∧ (fo f b k).1 = f s ∧ b < f s
  | 0 => Or.inl ⟨rfl, rfl⟩
  | k + 1 => by
    have ih := fo_o (f := f) (b := b) k
    have hg := fo_ge (f := f) (b := b) k
    unfold fo
    split
    · rename_i c
      exact Or.inr ⟨k, Nat.lt_succ_self k, rfl, rfl, by omega⟩
    · rcases ih with z | ⟨s, z1, z2⟩
      · exact Or.inl z
      · exact Or.inr ⟨s, by omega, z2⟩
theorem fo_le {f : Nat → Nat} {b M : Nat} (hb : b ≤ M) (hf : ∀ s, f s ≤ M) (k : Nat) : (fo f b k).1 ≤ M := by
  rcases fo_o (f := f) (b := b) k with z | ⟨s, -, -, z, -⟩
  · rw [z.2]; exact hb
  · rw [z]; exact hf s
def vG (g : Nat → Nat) : Option Nat → Nat
  | none => 0
  | some x => g x + 1
theorem vG_le {g : Nat → Nat} {M : Nat} (hg : ∀ x, g x < M) (o : Option Nat) : vG g o ≤ M := by
  cases o with
  | none => exact Nat.zero_le _
  | some x => exact hg x
/-- a best that may be none -/
def bI (b : Nat) : Int32 := if b = 0 then -1 else nI (b - 1)
theorem bI_s (b : Nat) : bI (b + 1) = nI b := if_neg (by omega)
theorem bI_0 : bI 0 = -1 := rfl
theorem bI_le {a b : Nat} (ha : a < 2 ^ 30) (hb : b < 2 ^ 30) : bI a ≤ bI b ↔ a ≤ b := by
  cases a with
  | zero =>
    cases b with
    | zero => exact ⟨fun _ => Nat.le_refl _, fun _ => Int32.le_refl _⟩
    | succ b => rw [bI_0, bI_s]; exact ⟨fun _ => by omega, fun _ => Int32.le_of_lt (neg_lt (by decide) (by omega))⟩
  | succ a =>
    cases b with
    | zero => rw [bI_0, bI_s]; exact ⟨fun c => absurd c (Int32.not_le.mpr (neg_lt (by decide) (by omega))), fun c => absurd c (by omega)⟩
    | succ b =>
      rw [bI_s, bI_s]
      constructor
      · intro c
        exact Nat.not_lt.mp fun z => nI_ge (show b < a by omega) (show a < 2 ^ 31 by omega) c
      · intro c
        exact nI_le (by omega) (by omega)
/-- whom the child j asks by the row S -/
def whN (D : mm_D) (S j : Nat) : Nat := if S / 4 ^ (dn D - 1 - j) % 4 = 3 then 8 else kthN (dgp D j) (S / 4 ^ (dn D - 1 - j) % 4)
theorem whN_up {D : mm_D} {P k m s j : Nat} (hk : k < 4) (hs : s < 4 ^ m) (hj : m + 1 + j < dn D) : whN D ((4 * P + k) * 4 ^ m + s) j = whN D (P * 4 ^ (m + 1)) j := by
  have e : dn D - 1 - j = m + 1 + (dn D - 1 - j - (m + 1)) := by omega
  have e1 : ((4 * P + k) * 4 ^ m + s) / 4 ^ (dn D - 1 - j) = P * 4 ^ (m + 1) / 4 ^ (dn D - 1 - j) := by
    rw [e, Nat.pow_add, ← Nat.div_div_eq_div_mul, ← Nat.div_div_eq_div_mul, Nat.mul_div_cancel _ (p4 (m + 1)), Nat.pow_succ, ← Nat.div_div_eq_div_mul, Nat.add_comm _ s, Nat.mul_comm _ (4 ^ m), Nat.add_mul_div_left _ _ (p4 m), Nat.div_eq_of_lt hs, Nat.zero_add]
    congr 1
    omega
  unfold whN
  rw [e1]
theorem whN_at {D : mm_D} {P k m s j : Nat} (hk : k < 4) (hs : s < 4 ^ m) (hj : m + 1 + j = dn D) : whN D ((4 * P + k) * 4 ^ m + s) j = if k = 3 then 8 else kthN (dgp D j) k := by
  have e : dn D - 1 - j = m := by omega
  have e1 : ((4 * P + k) * 4 ^ m + s) / 4 ^ m % 4 = k := by
    rw [Nat.add_comm, Nat.mul_comm _ (4 ^ m), Nat.add_mul_div_left _ _ (p4 m), Nat.div_eq_of_lt hs]
    omega
  unfold whN
  rw [e, e1]
theorem num_s {P k m s : Nat} : (4 * P + k) * 4 ^ m + s = P * 4 ^ (m + 1) + (k * 4 ^ m + s) := by
  rw [Nat.add_mul, Nat.pow_succ, Nat.add_assoc, Nat.mul_comm 4 P, Nat.mul_assoc, Nat.mul_comm 4]
theorem kth_w : ∀ s, s < 256 → pop s = 3 → ∀ w, w < 8 → bt8 s w = 1 → kthN s (popK s w) = w ∧ popK s w < 3 := by decide +kernel
theorem fo_step {f : Nat → Nat} {b k T : Nat} : fo f b ((k + 1) * T) = fj (fo f b (k * T)).2 (k * T) (fo (fun s => f (k * T + s)) (fo f b (k * T)).1 T) := by
  rw [Nat.succ_mul]
  exact fo_add T
