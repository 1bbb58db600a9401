/-! asking: the class's walk -/
def Sn (W : Nat) (ν : mm_M) (c h : Nat) : Prop := mm_I ν 62 (256 * c + h) = nI W
def FF (D : mm_D) (g ou : Nat → Nat) (m h s : Nat) : Nat := vG g (hbF D ou m h s)
/-- what was seen from the child c on gives no more than b, and all its ends were seen -/
def SI (D : mm_D) (g ou : Nat → Nat) (W c b : Nat) (ν : mm_M) : Prop := ∀ c' h', c ≤ c' → c' ≤ dn D → h' < 256 → Sn W ν c' h' → ∀ s, s < 4 ^ (dn D - c') → FF D g ou (dn D - c') h' s ≤ b ∧ ∀ x, hbF D ou (dn D - c') h' s = some x → Sn W ν (dn D) x
def WkS (W : Nat) (ν : mm_M) : Prop := ∀ j, j < 1792 → ∃ z : Nat, z ≤ W ∧ mm_I ν 62 j = nI z
def brW (D : mm_D) (old : Nat → Int32) (base : Nat) (o : Option Nat) (j : Nat) : Int32 := match o with
  | none => old j
  | some s => nI (whN D (base + s) j)
def WI (D : mm_D) (g ou : Nat → Nat) (W m c P b : Nat) (ν : mm_M) : Prop := mm_I ν 57 8 = bI b ∧ (∀ j, j < c → mm_I ν 60 j = nI (whN D (P * 4 ^ m) j)) ∧ SI D g ou W c b ν ∧ WkS W ν
def WP (D : mm_D) (g ou : Nat → Nat) (W m c h P b : Nat) (ν ν' : mm_M) : Prop := Kw ν ν' ∧ mm_I ν' 57 8 = bI (fo (FF D g ou m h) b (4 ^ m)).1 ∧ (∀ j, j < dn D → mm_I ν' 59 j = brW D (mm_I ν 59) (P * 4 ^ m) (fo (FF D g ou m h) b (4 ^ m)).2 j) ∧ (∀ j, j < c → mm_I ν' 60 j = mm_I ν 60 j) ∧ SI D g ou W c (fo (FF D g ou m h) b (4 ^ m)).1 ν' ∧ WkS W ν' ∧ (∀ j, j < 256 * c → mm_I ν' 62 j = mm_I ν 62 j) ∧ (∀ j, mm_I ν 62 j = nI W → mm_I ν' 62 j = nI W) ∧ (∀ x, x < 256 → Sn W ν' (dn D) x → Sn W ν (dn D) x ∨ ∃ s, s < 4 ^ m ∧ hbF D ou m h s = some x) ∧ ∀ s, s < 4 ^ m → ∀ x, hbF D ou m h s = some x → Sn W ν' (dn D) x
/-- the walk at the child c, from here h: the first k of its four choices are done -/
def LW (D : mm_D) (g ou : Nat → Nat) (W m c h P b : Nat) (ν : mm_M) (k : Nat) (ξ : mm_M) : Prop := Kw ν ξ ∧ mm_I ξ 57 8 = bI (fo (FF D g ou (m + 1) h) b (k * 4 ^ m)).1 ∧ (∀ j, j < dn D → mm_I ξ 59 j = brW D (mm_I ν 59) (P * 4 ^ (m + 1)) (fo (FF D g ou (m + 1) h) b (k * 4 ^ m)).2 j) ∧ (∀ j, j < c → mm_I ξ 60 j = mm_I ν 60 j) ∧ SI D g ou W (c + 1) (fo (FF D g ou (m + 1) h) b (k * 4 ^ m)).1 ξ ∧ WkS W ξ ∧ (∀ j, j < 256 * (c + 1) → mm_I ξ 62 j = if j = 256 * c + h then nI W else mm_I ν 62 j) ∧ (∀ j, mm_I ν 62 j = nI W → mm_I ξ 62 j = nI W) ∧ (∀ x, x < 256 → Sn W ξ (dn D) x → Sn W ν (dn D) x ∨ ∃ s, s < k * 4 ^ m ∧ hbF D ou (m + 1) h s = some x) ∧ ∀ s, s < k * 4 ^ m → ∀ x, hbF D ou (m + 1) h s = some x → Sn W ξ (dn D) x
theorem SI.cg {D : mm_D} {g ou : Nat → Nat} {W c b : Nat} {ν ξ : mm_M} (h : SI D g ou W c b ν) (e : mm_I ξ 62 = mm_I ν 62) : SI D g ou W c b ξ := by
  unfold SI Sn at *
  rw [e]
  exact h
theorem WkS.s {W j : Nat} {ν : mm_M} (h : WkS W ν) : WkS W (mm_sI ν 62 j (nI W)) := by
  intro i hi
  rw [mm_I_sI]
  by_cases z : i = j
  · rw [if_pos ⟨rfl, z⟩]; exact ⟨W, Nat.le_refl _, rfl⟩
  · rw [if_neg (fun w => z w.2)]; exact h i hi
theorem LW.init {D : mm_D} {g ou : Nat → Nat} {W m c h P b : Nat} {ν : mm_M} (hn : dn D ≤ 6) (hm : m + 1 + c = dn D) (hh : h < 256) (hi : WI D g ou W (m + 1) c P b ν) : LW D g ou W m c h P b ν 0 (mm_sI ν 62 (256 * c + h) (nI W)) := by
  obtain ⟨i1, i2, i3, i4⟩ := hi
  have e0 : 0 * 4 ^ m = 0 := Nat.zero_mul _
  have far : ∀ c' x, c + 1 ≤ c' → mm_I (mm_sI ν 62 (256 * c + h) (nI W)) 62 (256 * c' + x) = mm_I ν 62 (256 * c' + x) := fun c' x hc => by rw [mm_I_sI, if_neg (by omega)]
  unfold LW
  rw [e0]
  refine ⟨Kw.rf.s (by omega), ?_, fun j hj => ?_, fun j hj => ?_, fun c' h' h1 h2 h3 h4 s hs => ?_, i4.s, fun j hj => ?_, fun j z => ?_, fun x hx z => Or.inl ?_, fun s hs => absurd hs (Nat.not_lt_zero s)⟩
  · rw [mm_sI_off (by decide)]; exact i1
  · rw [mm_sI_off (by decide)]; rfl
  · rw [mm_sI_off (by decide)]
  · have h4' : Sn W ν c' h' := by unfold Sn at h4 ⊢; rw [← far c' h' (by omega)]; exact h4
    obtain ⟨a1, a2⟩ := i3 c' h' (by omega) h2 h3 h4' s hs
    exact ⟨a1, fun x hx => by unfold Sn; rw [far _ x (by omega)]; exact a2 x hx⟩
  · rw [mm_I_sI]
    by_cases z : j = 256 * c + h
    · rw [if_pos z, if_pos ⟨rfl, z⟩]
    · rw [if_neg z, if_neg (fun w => z w.2)]
  · rw [mm_I_sI]
    by_cases y : j = 256 * c + h
    · rw [if_pos ⟨rfl, y⟩]
    · rw [if_neg (fun w => y w.2)]; exact z
  · unfold Sn at z ⊢; rw [far _ x (by omega)] at z; exact z
/-- a choice that can't be -/
theorem LW.skip {D : mm_D} {g ou : Nat → Nat} {W m c h P b k : Nat} {ν ξ : mm_M} (hl : LW D g ou W m c h P b ν k ξ) (hn : ∀ s, s < 4 ^ m → hbF D ou (m + 1) h (k * 4 ^ m + s) = none) : LW D g ou W m c h P b ν (k + 1) ξ := by
  have e : fo (FF D g ou (m + 1) h) b ((k + 1) * 4 ^ m) = fo (FF D g ou (m + 1) h) b (k * 4 ^ m) := by
    rw [fo_step, fo_id (f := fun s => FF D g ou (m + 1) h (k * 4 ^ m + s)) (4 ^ m) (fun s hs => by show vG g (hbF D ou (m + 1) h (k * 4 ^ m + s)) ≤ _; rw [hn s hs]; exact Nat.zero_le _)]
    rfl
  obtain ⟨a1, a2, a3, a4, a5, a6, a7, a8, a9, a10⟩ := hl
  have lt : k * 4 ^ m ≤ (k + 1) * 4 ^ m := Nat.mul_le_mul_right _ (Nat.le_succ k)
  unfold LW
  rw [e]
  refine ⟨a1, a2, a3, a4, a5, a6, a7, a8, fun x hx z => ?_, fun s hs x hx => ?_⟩
  · rcases a9 x hx z with y | ⟨s, y1, y2⟩
    · exact Or.inl y
    · exact Or.inr ⟨s, by omega, y2⟩
  · by_cases y : s < k * 4 ^ m
    · exact a10 s y x hx
    · have := hn (s - k * 4 ^ m) (by rw [Nat.succ_mul] at hs; omega)
      rw [show k * 4 ^ m + (s - k * 4 ^ m) = s by omega] at this
      rw [this] at hx
      cases hx
theorem LW.pre {D : mm_D} {g ou : Nat → Nat} {W m c h P b k : Nat} {ν ξ : mm_M} (hm : m + 1 + c = dn D) (hk : k < 4) (hr : ∀ j, j < c → mm_I ν 60 j = nI (whN D (P * 4 ^ (m + 1)) j)) (hl : LW D g ou W m c h P b ν k ξ) : WI D g ou W m (c + 1) (4 * P + k) (fo (FF D g ou (m + 1) h) b (k * 4 ^ m)).1 (mm_sI ξ 60 c (nI (if k = 3 then 8 else kthN (dgp D c) k))) := by
  obtain ⟨a1, a2, a3, a4, a5, a6, -⟩ := hl
  refine ⟨by rw [mm_sI_off (by decide)]; exact a2, fun j hj => ?_, a5.cg (mm_sI_off (by decide)), fun j hj => by rw [mm_sI_off (by decide)]; exact a6 j hj⟩
  have z0 := p4 m
  rw [mm_I_sI, show (4 * P + k) * 4 ^ m = (4 * P + k) * 4 ^ m + 0 by omega]
  by_cases y : j = c
  · rw [if_pos ⟨rfl, y⟩, y, whN_at hk z0 hm]
  · rw [if_neg (fun w => y w.2), whN_up hk z0 (by omega), a4 j (by omega)]
    exact hr j (by omega)
theorem LW.adv {D : mm_D} {g ou : Nat → Nat} {W m c h h' P b k : Nat} {ν ξ ξ' : mm_M} {y : Int32} (hn : dn D ≤ 6) (hm : m + 1 + c = dn D) (hl : LW D g ou W m c h P b ν k ξ) (hp : WP D g ou W m (c + 1) h' (4 * P + k) (fo (FF D g ou (m + 1) h) b (k * 4 ^ m)).1 (mm_sI ξ 60 c y) ξ') (hh : ∀ s, s < 4 ^ m → hbF D ou (m + 1) h (k * 4 ^ m + s) = hbF D ou m h' s) : LW D g ou W m c h P b ν (k + 1) ξ' := by
  have e : fo (FF D g ou (m + 1) h) b ((k + 1) * 4 ^ m) = fj (fo (FF D g ou (m + 1) h) b (k * 4 ^ m)).2 (k * 4 ^ m) (fo (FF D g ou m h') (fo (FF D g ou (m + 1) h) b (k * 4 ^ m)).1 (4 ^ m)) := by
    rw [fo_step, fo_cg (4 ^ m) (fun s hs => show FF D g ou (m + 1) h (k * 4 ^ m + s) = FF D g ou m h' s by unfold FF; rw [hh s hs])]
  obtain ⟨a1, a2, a3, a4, a5, a6, a7, a8, a9, a10⟩ := hl
  obtain ⟨b1, b2, b3, b4, b5, b6, b7, b8, b9, b10⟩ := hp
  have lt : (k + 1) * 4 ^ m = k * 4 ^ m + 4 ^ m := Nat.succ_mul _ _
  have e62 : mm_I (mm_sI ξ 60 c y) 62 = mm_I ξ 62 := mm_sI_off (by decide)
  unfold LW
  rw [e]
  refine ⟨a1.trans ((Kw.rf.s (by omega)).trans b1), b2, fun j hj => ?_, fun j hj => ?_, b5, b6, fun j hj => ?_, fun j z => ?_, fun x hx z => ?_, fun s hs x hx => ?_⟩
  · rw [b3 j hj]
    show brW D (mm_I (mm_sI ξ 60 c y) 59) ((4 * P + k) * 4 ^ m) (fo (FF D g ou m h') (fo (FF D g ou (m + 1) h) b (k * 4 ^ m)).1 (4 ^ m)).2 j = brW D (mm_I ν 59) (P * 4 ^ (m + 1)) (match (fo (FF D g ou m h') (fo (FF D g ou (m + 1) h) b (k * 4 ^ m)).1 (4 ^ m)).2 with | none => (fo (FF D g ou (m + 1) h) b (k * 4 ^ m)).2 | some s => some (k * 4 ^ m + s)) j
    cases (fo (FF D g ou m h') (fo (FF D g ou (m + 1) h) b (k * 4 ^ m)).1 (4 ^ m)).2 with
    | none =>
      show mm_I (mm_sI ξ 60 c y) 59 j = _
      rw [mm_sI_off (by decide)]
      exact a3 j hj
    | some s =>
      show nI (whN D ((4 * P + k) * 4 ^ m + s) j) = nI (whN D (P * 4 ^ (m + 1) + (k * 4 ^ m + s)) j)
      rw [num_s]
  · rw [b4 j (by omega), mm_I_sI, if_neg (by omega)]; exact a4 j hj
  · rw [b7 j hj, e62]; exact a7 j hj
  · exact b8 j (by rw [e62]; exact a8 j z)
  · rcases b9 x hx z with w | ⟨s, w1, w2⟩
    · unfold Sn at w
      rw [e62] at w
      rcases a9 x hx w with v | ⟨s, v1, v2⟩
      · exact Or.inl v
      · exact Or.inr ⟨s, Nat.lt_of_lt_of_le v1 (by rw [lt]; exact Nat.le_add_right _ _), v2⟩
    · exact Or.inr ⟨k * 4 ^ m + s, by rw [lt]; exact Nat.add_lt_add_left w1 _, by rw [hh s w1]; exact w2⟩
  · by_cases w : s < k * 4 ^ m
    · have := a10 s w x hx
      unfold Sn at this ⊢
      exact b8 _ (by rw [e62]; exact this)
    · have w2 : s - k * 4 ^ m < 4 ^ m := by omega
      have := hh (s - k * 4 ^ m) w2
      rw [show k * 4 ^ m + (s - k * 4 ^ m) = s by omega] at this
      rw [this] at hx
      exact b10 _ w2 x hx
theorem LW.fin {D : mm_D} {g ou : Nat → Nat} {W m c h P b : Nat} {ν ξ : mm_M} (hn : dn D ≤ 6) (hm : m + 1 + c = dn D) (hh : h < 256) (hs0 : SI D g ou W c b ν) (hl : LW D g ou W m c h P b ν 4 ξ) : WP D g ou W (m + 1) c h P b ν ξ := by
  obtain ⟨a1, a2, a3, a4, a5, a6, a7, a8, a9, a10⟩ := hl
  have e4 : 4 * 4 ^ m = 4 ^ (m + 1) := by rw [Nat.pow_succ, Nat.mul_comm]
  rw [e4] at a2 a3 a5 a9 a10
  refine ⟨a1, a2, a3, a4, fun c' h' h1 h2 h3 h4 s hs => ?_, a6, fun j hj => ?_, a8, a9, a10⟩
  · by_cases z : c + 1 ≤ c'
    · exact a5 c' h' z h2 h3 h4 s hs
    · obtain rfl : c' = c := by omega
      have e1 : dn D - c' = m + 1 := by omega
      rw [e1] at hs ⊢
      unfold Sn at h4
      rw [a7 _ (by omega)] at h4
      by_cases y : h' = h
      · subst y
        exact ⟨fo_all _ s hs, a10 s hs⟩
      · rw [if_neg (by omega)] at h4
        have := hs0 c' h' (Nat.le_refl _) h2 h3 h4 s (by rw [e1]; exact hs)
        rw [e1] at this
        exact ⟨Nat.le_trans this.1 (fo_ge _), fun x hx => a8 _ (this.2 x hx)⟩
  · rw [a7 j (by omega), if_neg (by omega)]
/-- nothing is done where one was before -/
theorem WP.seen {D : mm_D} {g ou : Nat → Nat} {W m c h P b : Nat} {ν : mm_M} (hm : m + c = dn D) (hh : h < 256) (hi : WI D g ou W m c P b ν) (hs : Sn W ν c h) : WP D g ou W m c h P b ν ν := by
  obtain ⟨i1, i2, i3, i4⟩ := hi
  have e1 : dn D - c = m := by omega
  have z := i3 c h (Nat.le_refl _) (by omega) hh hs
  rw [e1] at z
  have e : fo (FF D g ou m h) b (4 ^ m) = (b, none) := fo_id _ (fun s hs => (z s hs).1)
  unfold WP
  rw [e]
  exact ⟨Kw.rf, i1, fun j hj => rfl, fun j hj => rfl, i3, i4, fun j hj => rfl, fun j z => z, fun x hx z => Or.inl z, fun s hs => (z s hs).2⟩
/-- the row has come to its end -/
theorem WP.leaf {D : mm_D} {g ou : Nat → Nat} {W c h P b : Nat} {ν ν' : mm_M} (hn : dn D ≤ 6) (hm : c = dn D) (hh : h < 256) (hi : WI D g ou W 0 c P b ν) (h1 : b < g h + 1 → ν' = mm_cp (mm_sI (mm_sI ν 62 (256 * c + h) (nI W)) 57 8 (bI (g h + 1))) 60 59 0 0 6) (h0 : ¬ b < g h + 1 → ν' = mm_sI ν 62 (256 * c + h) (nI W)) : WP D g ou W 0 c h P b ν ν' := by
  obtain ⟨i1, i2, i3, i4⟩ := hi
  have e : fo (FF D g ou 0 h) b (4 ^ 0) = if b < g h + 1 then (g h + 1, some 0) else (b, none) := rfl
  have kk : Kw ν ν' := by
    by_cases c1 : b < g h + 1
    · rw [h1 c1]; exact ((Kw.rf.s (by omega)).s8).cp
    · rw [h0 c1]; exact Kw.rf.s (by omega)
  have e62 : ∀ j, mm_I ν' 62 j = if j = 256 * c + h then nI W else mm_I ν 62 j := by
    intro j
    have : mm_I ν' 62 j = mm_I (mm_sI ν 62 (256 * c + h) (nI W)) 62 j := by
      by_cases c1 : b < g h + 1
      · rw [h1 c1, mm_cp_off (by decide), mm_sI_off (by decide)]
      · rw [h0 c1]
    rw [this, mm_I_sI]
    by_cases z : j = 256 * c + h
    · rw [if_pos z, if_pos ⟨rfl, z⟩]
    · rw [if_neg z, if_neg (fun w => z w.2)]
  have fg : b ≤ (fo (FF D g ou 0 h) b (4 ^ 0)).1 := fo_ge _
  have fa : FF D g ou 0 h 0 ≤ (fo (FF D g ou 0 h) b (4 ^ 0)).1 := fo_all _ 0 (by decide)
  have mono : ∀ j, mm_I ν 62 j = nI W → mm_I ν' 62 j = nI W := by
    intro j z
    rw [e62 j]
    by_cases y : j = 256 * c + h
    · rw [if_pos y]
    · rw [if_neg y]; exact z
  have hb : ∀ s x, hbF D ou 0 h s = some x → x = h := fun s x z => (Option.some.inj z).symm
  refine ⟨kk, ?_, fun j hj => ?_, fun j hj => ?_, fun c' h' a1 a2 a3 a4 s hs => ?_, fun j hj => ?_, fun j hj => ?_, mono, fun x hx z => ?_, fun s hs x hx => ?_⟩
  · rw [e]
    by_cases c1 : b < g h + 1
    · rw [if_pos c1, h1 c1, mm_cp_off (by decide), mm_I_sI, if_pos ⟨rfl, rfl⟩]
    · rw [if_neg c1, h0 c1, mm_sI_off (by decide)]; exact i1
  · rw [e]
    by_cases c1 : b < g h + 1
    · rw [if_pos c1, h1 c1, mm_I_cp6, if_pos ⟨rfl, by omega⟩, mm_sI_off (by decide), mm_sI_off (by decide), i2 j (by omega)]
      rfl
    · rw [if_neg c1, h0 c1, mm_sI_off (by decide)]
      rfl
  · by_cases c1 : b < g h + 1
    · rw [h1 c1, mm_cp_off (by decide), mm_sI_off (by decide), mm_sI_off (by decide)]
    · rw [h0 c1, mm_sI_off (by decide)]
  · obtain rfl : c' = c := by omega
    have e1 : dn D - c' = 0 := by omega
    rw [e1] at hs ⊢
    obtain rfl : s = 0 := by have : s < 1 := hs; omega
    by_cases y : h' = h
    · subst y
      refine ⟨fa, fun x hx => ?_⟩
      rw [hb _ x hx, ← hm]
      exact a4
    · unfold Sn at a4
      rw [e62, if_neg (by omega)] at a4
      have := i3 c' h' (Nat.le_refl _) a2 a3 a4 0 (by rw [e1]; decide)
      rw [e1] at this
      exact ⟨Nat.le_trans this.1 fg, fun x hx => mono _ (this.2 x hx)⟩
  · rw [e62 j]
    by_cases y : j = 256 * c + h
    · rw [if_pos y]; exact ⟨W, Nat.le_refl _, rfl⟩
    · rw [if_neg y]; exact i4 j hj
  · rw [e62 j, if_neg (by omega)]
  · by_cases y : x = h
    · exact Or.inr ⟨0, by decide, by rw [y]; rfl⟩
    · unfold Sn at z ⊢
      rw [e62, if_neg (by omega)] at z
      exact Or.inl z
  · rw [hb _ x hx]
    unfold Sn
    rw [e62, if_pos (by rw [hm])]
