/-! texts: a line is read -/
def ps (u : Nat → Nat) (L p : Nat) : Nat → Nat
  | 0 => tN u L p
  | i + 1 => tN u L (ps u L p i)
def bd (u : Nat → Nat) (L : Nat) : Nat → Nat → Option Nat
  | 0, x => if tK u L x = 4 then none else some (tP u L x)
  | n + 1, x => if tK u L x = 3 then bd u L n (tN u L x) else some (tP u L x)
def lnX (s : Nat) (u : Nat → Nat) (L p : Nat) : Option Nat := if lnF s u L p = 13 then some (tP u L p) else bd u L (nu (lnF s u L p)) (tN u L p)
def vv (u : Nat → Nat) (L p i : Nat) : Nat := tV u L (ps u L p i)
def pE (s : Nat) (u : Nat → Nat) (L p : Nat) : Nat := ps u L p (nu (lnF s u L p) + 1)
def jg (s : Nat) (u : Nat → Nat) (L p : Nat) (t : Nat → Nat) (fl pl : Nat) : Nat × Nat × (Nat → Nat) :=
  if fl ≠ 0 then (fl, pl, t) else if fu (lnF s u L p) t = true then (3, tP u L p, t) else match fb (lnF s u L p) (vv u L p) (nu (lnF s u L p)) 0 with
    | some i => (2, tP u L (ps u L p i), t)
    | none => (0, pl, stp (lnF s u L p) (vv u L p) t)
theorem ps_le {u : Nat → Nat} {L p : Nat} (h : p ≤ L) : ∀ i, ps u L p i ≤ L
  | 0 => tN_le h
  | i + 1 => tN_le (ps_le h i)
theorem ps_ge {u : Nat → Nat} {L p : Nat} : ∀ i, tN u L p ≤ ps u L p i
  | 0 => Nat.le_refl _
  | i + 1 => Nat.le_trans (ps_ge i) (Nat.le_trans tP_ge tN_ge)
theorem ln0_or {u : Nat → Nat} {L p : Nat} : ln0 u L p = 13 ∨ (0 ≤ ln0 u L p ∧ ln0 u L p < 6) := by
  unfold ln0
  by_cases h0 : tkW u L p 0 = true
  · rw [if_pos h0]; exact Or.inr ⟨by decide, by decide⟩
  · rw [if_neg h0]
    by_cases h1 : tkW u L p 1 = true
    · rw [if_pos h1]; exact Or.inr ⟨by decide, by decide⟩
    · rw [if_neg h1]
      by_cases h2 : tkW u L p 2 = true
      · rw [if_pos h2]; exact Or.inr ⟨by decide, by decide⟩
      · rw [if_neg h2]
        by_cases h3 : tkW u L p 3 = true
        · rw [if_pos h3]; exact Or.inr ⟨by decide, by decide⟩
        · rw [if_neg h3]
          by_cases h4 : tkW u L p 4 = true
          · rw [if_pos h4]; exact Or.inr ⟨by decide, by decide⟩
          · rw [if_neg h4]
            by_cases h5 : tkW u L p 5 = true
            · rw [if_pos h5]; exact Or.inr ⟨by decide, by decide⟩
            · rw [if_neg h5]
              exact Or.inl rfl
theorem ln1_or {u : Nat → Nat} {L p : Nat} : ln1 u L p = 13 ∨ (6 ≤ ln1 u L p ∧ ln1 u L p < 11) := by
  unfold ln1
  by_cases h6 : tkW u L p 6 = true
  · rw [if_pos h6]; exact Or.inr ⟨by decide, by decide⟩
  · rw [if_neg h6]
    by_cases h7 : tkW u L p 7 = true
    · rw [if_pos h7]; exact Or.inr ⟨by decide, by decide⟩
    · rw [if_neg h7]
      by_cases h8 : tkW u L p 8 = true
      · rw [if_pos h8]; exact Or.inr ⟨by decide, by decide⟩
      · rw [if_neg h8]
        by_cases h9 : tkW u L p 9 = true
        · rw [if_pos h9]; exact Or.inr ⟨by decide, by decide⟩
        · rw [if_neg h9]
          by_cases h10 : tkW u L p 10 = true
          · rw [if_pos h10]; exact Or.inr ⟨by decide, by decide⟩
          · rw [if_neg h10]
            exact Or.inl rfl
theorem ln2_or {u : Nat → Nat} {L p : Nat} : ln2 u L p = 13 ∨ (11 ≤ ln2 u L p ∧ ln2 u L p < 13) := by
  unfold ln2
  by_cases h11 : tkW u L p 11 = true
  · rw [if_pos h11]; exact Or.inr ⟨by decide, by decide⟩
  · rw [if_neg h11]
    by_cases h12 : tkW u L p 12 = true
    · rw [if_pos h12]; exact Or.inr ⟨by decide, by decide⟩
    · rw [if_neg h12]
      exact Or.inl rfl
theorem lnF_or {s : Nat} {u : Nat → Nat} {L p : Nat} (hs : s < 3) : lnF s u L p = 13 ∨ (lnF s u L p < 13 ∧ srt (lnF s u L p) = s ∧ tK u L p = 2) := by
  unfold lnF
  by_cases h2 : tK u L p = 2
  · rw [if_pos h2]
    have h3 : s = 0 ∨ s = 1 ∨ s = 2 := by omega
    rcases h3 with rfl | rfl | rfl
    · rw [if_pos rfl]
      rcases ln0_or (u := u) (L := L) (p := p) with z | z
      · exact Or.inl z
      · exact Or.inr ⟨by omega, by unfold srt; rw [if_pos z.2], h2⟩
    · rw [if_neg (by decide), if_pos rfl]
      rcases ln1_or (u := u) (L := L) (p := p) with z | z
      · exact Or.inl z
      · exact Or.inr ⟨by omega, by unfold srt; rw [if_neg (by omega), if_pos z.2], h2⟩
    · rw [if_neg (by decide), if_neg (by decide)]
      rcases ln2_or (u := u) (L := L) (p := p) with z | z
      · exact Or.inl z
      · exact Or.inr ⟨by omega, by unfold srt; rw [if_neg (by omega), if_neg (by omega)], h2⟩
  · rw [if_neg h2]
    exact Or.inl rfl
theorem tV_lt {u : Nat → Nat} {L p : Nat} (hk : tK u L p = 3) : tV u L p < 100 := by
  have h1 : ¬ L ≤ tP u L p := fun z => by unfold tK at hk; rw [if_pos z] at hk; cases hk
  have h2 : ¬ isL (u (tP u L p)) = true := fun z => by unfold tK at hk; rw [if_neg h1, if_pos z] at hk; cases hk
  have h3 : isD (u (tP u L p)) = true := Decidable.byContradiction fun z => by
    unfold tK at hk
    rw [if_neg h1, if_neg h2, if_neg z] at hk
    split at hk <;> cases hk
  have h4 : scan isD u L (tP u L p) - tP u L p ≤ 2 := Decidable.byContradiction fun z => by
    unfold tK at hk
    rw [if_neg h1, if_neg h2, if_pos h3, if_neg z] at hk
    cases hk
  have eN : tN u L p = scan isD u L (tP u L p) := by unfold tN; rw [if_neg h1, if_neg h2, if_pos h3]
  have hd : ∀ i, i < scan isD u L (tP u L p) - tP u L p → u (tP u L p + i) ≤ 57 := fun i hi => (isD_i.mp (scn_in (c := isD) (u := u) (L := L) (L - tP u L p) (tP u L p) (tP u L p + i) (by omega) (by unfold scan at hi; omega))).2
  unfold tV
  rw [eN]
  generalize scan isD u L (tP u L p) - tP u L p = n at h4 hd
  have h5 : n = 0 ∨ n = 1 ∨ n = 2 := by omega
  rcases h5 with rfl | rfl | rfl
  · unfold vF; decide
  · have := hd 0 (by decide)
    show 0 * 10 + (u (tP u L p + 0) - 48) < 100
    omega
  · have := hd 0 (by decide)
    have := hd 1 (by decide)
    show (0 * 10 + (u (tP u L p + 0) - 48)) * 10 + (u (tP u L p + 1) - 48) < 100
    omega
theorem fb_cb {k : Nat} {v : Nat → Nat} : ∀ m i, fb k v m i = none → ∀ j, i ≤ j → j < i + m → cb k v j = true
  | 0, i, _, j, h1, h2 => by omega
  | m + 1, i, h, j, h1, h2 => by
    rw [show fb k v (m + 1) i = if cb k v i = true then fb k v m (i + 1) else some i from rfl] at h
    by_cases z : cb k v i = true
    · rw [if_pos z] at h
      by_cases w : j = i
      · rw [w]; exact z
      · exact fb_cb m (i + 1) h j (by omega) (by omega)
    · rw [if_neg z] at h
      cases h
theorem fb_all {k : Nat} {v : Nat → Nat} {n : Nat} (h : fb k v n 0 = none) (j : Nat) (hj : j < n) : cb k v j = true := fb_cb n 0 h j (Nat.zero_le _) (by omega)
theorem Rd.cg {u : Nat → Nat} {L : Nat} {μ ν : mm_M} (h : Rd u L μ) (hM : SK ν) (hP : mm_P ν = mm_P μ) (e8 : mm_I ν 36 8 = mm_I μ 36 8) (e2 : mm_I ν 2 = mm_I μ 2) : Rd u L ν := by
  obtain ⟨-, h2, h3, h4, h5⟩ := h
  exact ⟨hM, by rw [hP]; exact h2, by rw [e8]; exact h3, h4, by rw [e2]; exact h5⟩
theorem Tk1.cg {u : Nat → Nat} {L p : Nat} {μ ν : mm_M} (h : Tk1 u L p μ) (e : ∀ j, 11 ≤ j → j ≤ 14 → mm_I ν 36 j = mm_I μ 36 j) : Tk1 u L p ν := by
  obtain ⟨h1, h2, h3, h4⟩ := h
  exact ⟨(e 11 (by decide) (by decide)).trans h1, (e 12 (by decide) (by decide)).trans h2, (e 13 (by decide) (by decide)).trans h3, fun z => (e 14 (by decide) (by decide)).trans (h4 z)⟩
def ClS (s : Nat) (u : Nat → Nat) (L p : Nat) (t : Nat → Nat) (fl pl : Nat) (ν : mm_M) : Prop := Rd u L ν ∧ Tk1 u L p ν ∧ mm_I ν 36 9 = nI s ∧ mm_I ν 36 3 = nI fl ∧ (mm_I ν 36 4 = if fl = 0 then -1 else nI pl) ∧ (fl = 0 → RC s t ν ∧ WfT s t)
def LnC (u : Nat → Nat) (L p : Nat) (μ ν : mm_M) (i : Nat) : Prop := Fr scRe μ ν ∧ mm_P ν = mm_P μ ∧ (∀ j, j < 11 → mm_I ν 36 j = mm_I μ 36 j) ∧ (∀ a, 37 ≤ a → a ≤ 50 → mm_I ν a = mm_I μ a) ∧ Rd u L ν ∧ Tk1 u L (ps u L p i) ν ∧ ∀ j, j < i → mm_I ν 51 j = nI (vv u L p j) ∧ mm_I ν 52 j = nI (tP u L (ps u L p j)) ∧ tK u L (ps u L p j) = 3
theorem Kt.re {μ ν : mm_M} (h : Kt μ ν) : Fr scRe μ ν := h.1.sub (fun a z => by unfold sc36 at z; unfold scRe; simp at z ⊢; omega)
theorem LnC.tok {u : Nat → Nat} {L p i : Nat} {μ ν ξ : mm_M} {x y : Int32} (h : LnC u L p μ ν i) (h3 : tK u L (ps u L p i) = 3) (hx : x = nI (vv u L p i)) (hy : y = nI (tP u L (ps u L p i))) (k : Kt (mm_sI (mm_sI ν 51 i x) 52 i y) ξ) (ht : Tk1 u L (ps u L p (i + 1)) ξ) : LnC u L p μ ξ (i + 1) := by
  obtain ⟨a1, a2, a3, a4, a5, a6, a7⟩ := h
  refine ⟨((a1.sI rfl).sI rfl).trans k.re, k.2.1.trans a2, fun j hj => ?_, fun a h1 h2 => ?_, ?_, ht, fun j hj => ?_⟩
  · rw [k.2.2 j (by omega), mm_sI_off (by decide), mm_sI_off (by decide)]; exact a3 j hj
  · rw [(k.1.2.2.1 a (by unfold sc36; simp; omega)).1, mm_sI_off (by omega), mm_sI_off (by omega)]; exact a4 a h1 h2
  · have r2 : Rd u L (mm_sI (mm_sI ν 51 i x) 52 i y) := Rd.cg a5 a5.1 rfl (by rw [mm_sI_off (by decide), mm_sI_off (by decide)]) (by rw [mm_sI_off (by decide), mm_sI_off (by decide)])
    exact r2.kt k
  · rw [(k.1.2.2.1 51 rfl).1, (k.1.2.2.1 52 rfl).1]
    by_cases z : j = i
    · subst z
      refine ⟨?_, ?_, h3⟩
      · rw [mm_sI_off (by decide), mm_I_sI, if_pos ⟨rfl, rfl⟩]; exact hx
      · rw [mm_I_sI, if_pos ⟨rfl, rfl⟩]; exact hy
    · obtain ⟨b1, b2, b3⟩ := a7 j (by omega)
      refine ⟨?_, ?_, b3⟩
      · rw [mm_sI_off (by decide), mm_I_sI, if_neg (fun w => z w.2)]; exact b1
      · rw [mm_I_sI, if_neg (fun w => z w.2), mm_sI_off (by decide)]; exact b2
