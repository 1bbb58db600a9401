/-! ladder: the class -/
def scL (a : Nat) : Bool := a == 67 || a == 68 || a == 69
theorem scL_C : ∀ a, scL a = true → scC a = true := fun a z => by unfold scL at z; unfold scC; simp at z ⊢; omega
def Kl (μ ν : mm_M) : Prop := Fr scL μ ν ∧ mm_P ν = mm_P μ ∧ ∀ j, j ≠ 4 → mm_I ν 67 j = mm_I μ 67 j
theorem Kl.rf {μ : mm_M} : Kl μ μ := ⟨Fr.rf, rfl, fun _ _ => rfl⟩
theorem Kl.trans {μ ν ξ : mm_M} (h : Kl μ ν) (g : Kl ν ξ) : Kl μ ξ := ⟨h.1.trans g.1, g.2.1.trans h.2.1, fun j hj => (g.2.2 j hj).trans (h.2.2 j hj)⟩
theorem Kl.s {μ ν : mm_M} {j : Nat} {x : Int32} (h : Kl μ ν) : Kl μ (mm_sI ν 69 j x) := ⟨h.1.sI rfl, h.2.1, fun i hi => by rw [mm_sI_off (by decide)]; exact h.2.2 i hi⟩
theorem Kl.s4 {μ ν : mm_M} {x : Int32} (h : Kl μ ν) : Kl μ (mm_sI ν 67 4 x) := ⟨h.1.sI rfl, h.2.1, fun i hi => by rw [mm_I_sI, if_neg (fun z => hi z.2)]; exact h.2.2 i hi⟩
theorem Kl.cp {μ ν : mm_M} (h : Kl μ ν) : Kl μ (mm_cp ν 69 68 0 0 8) := ⟨h.1.cp rfl, h.2.1, fun i hi => by rw [mm_cp_off (by decide)]; exact h.2.2 i hi⟩
def SkC (D : mm_D) (e : Nat) (ν : mm_M) : Prop := SK ν ∧ e < 2 ∧ mm_P ν 67 3 = some (4 + 7 * e) ∧ CoD ν (4 + 7 * e) D ∧ WfD D ∧ mm_I ν 67 5 = nI (bnd D 8)
theorem SkC.kl {D : mm_D} {e : Nat} {μ ν : mm_M} (h : SkC D e μ) (k : Kl μ ν) : SkC D e ν := ⟨k.1.2.2.2 h.1, h.2.1, by rw [k.2.1]; exact h.2.2.1, h.2.2.2.1.frC (k.1.sub scL_C) h.2.1, h.2.2.2.2.1, (k.2.2 5 (by decide)).trans h.2.2.2.2.2⟩
theorem bnd_le {D : mm_D} : ∀ k, bnd D k ≤ k
  | 0 => Nat.le_refl 0
  | k + 1 => by
    have := bnd_le (D := D) k
    show bnd D k + (if dop D k = 0 then 0 else 1) ≤ _
    split <;> omega
def CP (D : mm_D) (a h len b : Nat) (ν ν' : mm_M) : Prop := Kl ν ν' ∧ mm_I ν' 67 4 = nI (max b (len + Lg D a h)) ∧ (∀ j, j < max b (len + Lg D a h) → mm_I ν' 68 j = if b < len + Lg D a h then (if j + 1 < len then mm_I ν 69 j else nI (itA D a h (j + 1 - len)).1) else mm_I ν 68 j) ∧ ∀ j, j + 1 < len → mm_I ν' 69 j = mm_I ν 69 j
def rF (D : mm_D) (a h w : Nat) : Nat × Option Nat := fo (rb D (Lg D) h a) 0 w
def LC (D : mm_D) (a h len b : Nat) (ν : mm_M) (w : Nat) (ξ : mm_M) : Prop := Kl ν ξ ∧ mm_I ξ 67 4 = nI (max b (len + (rF D a h w).1)) ∧ (∀ j, j < max b (len + (rF D a h w).1) → mm_I ξ 68 j = if b < len + (rF D a h w).1 then (if j + 1 < len then mm_I ν 69 j else if j + 1 = len then nI a else nI (itA D ((rF D a h w).2.getD 0) (h ||| 2 ^ (rF D a h w).2.getD 0) (j - len)).1) else mm_I ν 68 j) ∧ ∀ j, j < len → mm_I ξ 69 j = if j + 1 = len then nI a else mm_I ν 69 j
theorem LC.fin {D : mm_D} {a h len b : Nat} {ν ξ : mm_M} (hh : h < 256) (hl : 1 ≤ len) (H : LC D a h len b ν 8 ξ) : CP D a h len b ν ξ := by
  obtain ⟨h1, h2, h3, h4⟩ := H
  have e : (rF D a h 8).1 = Lg D a h := (Lg_rec hh).symm
  have e2 : (rF D a h 8).2.getD 0 = fw D a h := rfl
  rw [e] at h2 h3
  rw [e2] at h3
  refine ⟨h1, h2, fun j hj => ?_, fun j hj => ?_⟩
  · rw [h3 j hj]
    by_cases c : b < len + Lg D a h
    · rw [if_pos c, if_pos c]
      by_cases c1 : j + 1 < len
      · rw [if_pos c1, if_pos c1]
      · rw [if_neg c1, if_neg c1]
        by_cases c2 : j + 1 = len
        · rw [if_pos c2, show j + 1 - len = 0 by omega]; rfl
        · rw [if_neg c2, show j + 1 - len = (j - len) + 1 by omega, itA_sh]
    · rw [if_neg c, if_neg c]
  · rw [h4 j (by omega), if_neg (by omega)]
theorem LC.skip {D : mm_D} {a h len b w : Nat} {ν ξ : mm_M} (hr : rb D (Lg D) h a w = 0) (H : LC D a h len b ν w ξ) : LC D a h len b ν (w + 1) ξ := by
  have e : rF D a h (w + 1) = rF D a h w := by
    show (if (fo (rb D (Lg D) h a) 0 w).1 < rb D (Lg D) h a w then _ else _) = _
    rw [hr, if_neg (Nat.not_lt_zero _)]
    rfl
  unfold LC
  rw [e]
  exact H
theorem LC.adv {D : mm_D} {a h len b w : Nat} {ν ξ ξ' : mm_M} (hr : rb D (Lg D) h a w = 1 + Lg D w (h ||| 2 ^ w)) (H : LC D a h len b ν w ξ) (hc : CP D w (h ||| 2 ^ w) (len + 1) (max b (len + (rF D a h w).1)) ξ ξ') : LC D a h len b ν (w + 1) ξ' := by
  obtain ⟨h1, h2, h3, h4⟩ := H
  obtain ⟨c1, c2, c3, c4⟩ := hc
  have e1 : (rF D a h (w + 1)).1 = max (rF D a h w).1 (1 + Lg D w (h ||| 2 ^ w)) := by show (fo _ 0 (w + 1)).1 = _; rw [fo_1, hr]; rfl
  have es : rF D a h (w + 1) = if (rF D a h w).1 < 1 + Lg D w (h ||| 2 ^ w) then (1 + Lg D w (h ||| 2 ^ w), some w) else rF D a h w := by
    show (if (fo (rb D (Lg D) h a) 0 w).1 < rb D (Lg D) h a w then (rb D (Lg D) h a w, some w) else _) = _
    rw [hr]
    rfl
  have em : max b (len + (rF D a h (w + 1)).1) = max (max b (len + (rF D a h w).1)) (len + 1 + Lg D w (h ||| 2 ^ w)) := by rw [e1]; omega
  refine ⟨h1.trans c1, by rw [em]; exact c2, fun j hj => ?_, fun j hj => ?_⟩
  · rw [em] at hj
    rw [c3 j hj]
    by_cases q : max b (len + (rF D a h w).1) < len + 1 + Lg D w (h ||| 2 ^ w)
    · have q1 : (rF D a h w).1 < 1 + Lg D w (h ||| 2 ^ w) := by omega
      rw [if_pos q1] at es
      rw [if_pos q, es, if_pos (show b < len + (1 + Lg D w (h ||| 2 ^ w)) by omega)]
      show _ = if j + 1 < len then mm_I ν 69 j else if j + 1 = len then nI a else nI (itA D w (h ||| 2 ^ w) (j - len)).1
      by_cases y : j + 1 < len + 1
      · rw [if_pos y, h4 j (by omega)]
        by_cases y2 : j + 1 = len
        · rw [if_pos y2, if_neg (by omega), if_pos y2]
        · rw [if_neg y2, if_pos (by omega)]
      · rw [if_neg y, if_neg (by omega), if_neg (by omega), show j + 1 - (len + 1) = j - len by omega]
    · rw [if_neg q]
      by_cases q1 : (rF D a h w).1 < 1 + Lg D w (h ||| 2 ^ w)
      · rw [if_neg (show ¬ b < len + (rF D a h (w + 1)).1 by omega), h3 j (by omega), if_neg (by omega)]
      · rw [if_neg q1] at es
        rw [es]
        exact h3 j (by omega)
  · rw [c4 j (by omega)]; exact h4 j hj
theorem mm_I_cp8 {μ : mm_M} {q j : Nat} : mm_I (mm_cp μ 69 68 0 0 8) q j = if q = 68 ∧ j < 8 then mm_I μ 69 j else mm_I μ q j := mm_I_cp
theorem LC.init {D : mm_D} {a h len b : Nat} {ν ξ : mm_M} (hl : 1 ≤ len) (hl8 : len ≤ 8) (hb : mm_I ν 67 4 = nI b) (h1 : b < len → ξ = mm_cp (mm_sI (mm_sI ν 69 (len - 1) (nI a)) 67 4 (nI len)) 69 68 0 0 8) (h0 : ¬ b < len → ξ = mm_sI ν 69 (len - 1) (nI a)) : LC D a h len b ν 0 ξ := by
  have e : rF D a h 0 = (0, none) := rfl
  have e69 : ∀ j, j < len → mm_I ξ 69 j = if j + 1 = len then nI a else mm_I ν 69 j := by
    intro j hj
    have : mm_I ξ 69 j = mm_I (mm_sI ν 69 (len - 1) (nI a)) 69 j := by
      by_cases c : b < len
      · rw [h1 c, mm_cp_off (by decide), mm_sI_off (by decide)]
      · rw [h0 c]
    rw [this, mm_I_sI]
    by_cases y : j + 1 = len
    · rw [if_pos y, if_pos ⟨rfl, by omega⟩]
    · rw [if_neg y, if_neg (by omega)]
  unfold LC
  rw [e]
  show Kl ν ξ ∧ mm_I ξ 67 4 = nI (max b (len + 0)) ∧ (∀ j, j < max b (len + 0) → mm_I ξ 68 j = if b < len + 0 then (if j + 1 < len then mm_I ν 69 j else if j + 1 = len then nI a else nI (itA D 0 (h ||| 2 ^ 0) (j - len)).1) else mm_I ν 68 j) ∧ _
  rw [Nat.add_zero]
  by_cases c : b < len
  · refine ⟨by rw [h1 c]; exact (Kl.rf.s.s4).cp, ?_, fun j hj => ?_, e69⟩
    · rw [h1 c, mm_cp_off (by decide), mm_I_sI, if_pos ⟨rfl, rfl⟩, Nat.max_eq_right (by omega)]
    · rw [if_pos c, h1 c, mm_I_cp8, if_pos ⟨rfl, by omega⟩, mm_sI_off (by decide), mm_I_sI]
      by_cases y : j + 1 < len
      · rw [if_pos y, if_neg (by omega)]
      · rw [if_neg y, if_pos (show j + 1 = len by omega), if_pos ⟨rfl, by omega⟩]
  · refine ⟨by rw [h0 c]; exact Kl.rf.s, ?_, fun j hj => ?_, e69⟩
    · rw [h0 c, mm_sI_off (by decide), hb, Nat.max_eq_left (by omega)]
    · rw [if_neg c, h0 c, mm_sI_off (by decide)]
theorem climb_body {X : mm_X} {D : mm_D} {e f len : Nat} (hf : f + len = 8) (hl : 1 ≤ len) (sub : ∀ (a' h' b' : Nat) (ν : mm_M) (q : mm_M → Prop), 1 ≤ f → a' < 8 → h' < 256 → pop h' = len + 1 → NZ D h' → b' ≤ 8 → SkC D e ν → mm_I ν 67 4 = nI b' → (∀ ν', CP D a' h' (len + 1) b' ν ν' → q ν') → mm_Cv X (f + 2) 0 0 k_Sk_climb [.ref 67, .int (nI a'), .int (nI h'), .int (nI (len + 1))] ν q) (a h b : Nat) (ν : mm_M) (q : mm_M → Prop) (ha : a < 8) (hh : h < 256) (hp : pop h = len) (hz : NZ D h) (hb : b ≤ 8) (hS : SkC D e ν) (hbv : mm_I ν 67 4 = nI b) (hq : ∀ ν', CP D a h len b ν ν' → q ν') : mm_Cv X (f + 3) 0 0 k_Sk_climb [.ref 67, .int (nI a), .int (nI h), .int (nI len)] ν q := by
  have hM := hS.1
  have hW := hS.2.2.2.2.1
  have hbn := hS.2.2.2.2.2
  have hb8 := bnd_le (D := D) 8
  have hT := Lg_bnd hW ha hh hz
  show mm_T X (f + 3) 0 0 k_Sk_climb 0 [some (.ref 67), some (.int (nI a)), some (.int (nI h)), some (.int (nI len)), none, none] [] ν _
  by_cases hbb : bnd D 8 ≤ b
  · have hcp : CP D a h len b ν ν := by
      refine ⟨Kl.rf, ?_, fun j hj => ?_, fun j hj => rfl⟩
      · rw [hbv, Nat.max_eq_left (by omega)]
      · rw [if_neg (by omega)]
    refine mm_iload d_Sk_climb_0 rfl ?_
    refine mm_ciN 8 d_Sk_climb_1 rfl ?_
    refine mm_icmp_gtN d_Sk_climb_3 (by first | omega | exact ite01_lt | exact bt8_lt31 _ _ | exact godB_lt31 _ _ _ | exact pop_lt31 _ | assumption | exact b31 (hW.gp (by omega)) | exact b31 (hW.ne (by omega)) | exact b31 (hW.op (by omega)) | exact and31 (hW.gp (by omega)) | exact and31 (hW.ne (by omega)) | exact and31 (hW.op (by omega)) | exact and31 (by assumption) | exact and31r (hW.ne (by omega)) | exact and31r (hW.gp (by omega)) | exact and31r (by decide)) (by first | omega | exact ite01_lt | exact bt8_lt31 _ _ | exact godB_lt31 _ _ _ | exact pop_lt31 _ | assumption | exact b31 (hW.gp (by omega)) | exact b31 (hW.ne (by omega)) | exact b31 (hW.op (by omega)) | exact and31 (hW.gp (by omega)) | exact and31 (hW.ne (by omega)) | exact and31 (hW.op (by omega)) | exact and31 (by assumption) | exact and31r (hW.ne (by omega)) | exact and31r (hW.gp (by omega)) | exact and31r (by decide)) (fun c_3 => False.elim (by omega)) (fun c_3 => ?_)
    refine mm_aload d_Sk_climb_6 rfl ?_
    refine mm_getIN d_Sk_climb_7 rfl (sk_o_67 hM) hbv ?_
    refine mm_aload d_Sk_climb_10 rfl ?_
    refine mm_getIN d_Sk_climb_11 rfl (sk_o_67 hM) hbn ?_
    refine mm_icmp_ltN d_Sk_climb_14 (by first | omega | exact ite01_lt | exact bt8_lt31 _ _ | exact godB_lt31 _ _ _ | exact pop_lt31 _ | assumption | exact b31 (hW.gp (by omega)) | exact b31 (hW.ne (by omega)) | exact b31 (hW.op (by omega)) | exact and31 (hW.gp (by omega)) | exact and31 (hW.ne (by omega)) | exact and31 (hW.op (by omega)) | exact and31 (by assumption) | exact and31r (hW.ne (by omega)) | exact and31r (hW.gp (by omega)) | exact and31r (by decide)) (by first | omega | exact ite01_lt | exact bt8_lt31 _ _ | exact godB_lt31 _ _ _ | exact pop_lt31 _ | assumption | exact b31 (hW.gp (by omega)) | exact b31 (hW.ne (by omega)) | exact b31 (hW.op (by omega)) | exact and31 (hW.gp (by omega)) | exact and31 (hW.ne (by omega)) | exact and31 (hW.op (by omega)) | exact and31 (by assumption) | exact and31r (hW.ne (by omega)) | exact and31r (hW.gp (by omega)) | exact and31r (by decide)) (fun c_14 => False.elim (by omega)) (fun c_14 => ?_)
    exact mm_rv d_Sk_climb_17 (hq ν hcp)
  · have loop : ∀ ξ, LC D a h len b ν 0 ξ → mm_T X (f + 3) 0 0 k_Sk_climb 55 [some (.ref 67), some (.int (nI a)), some (.int (nI h)), some (.int (nI len)), none, none] [] ξ (fun v μ' => v = none ∧ q μ') := by
      intro ξ hl0
      have hS0 := hS.kl hl0.1
      have hM := hS0.1
      have hCD := hS0.2.2.2.1
      have hP := hS0.2.2.1
      have hopl : dop D a &&& (h ^^^ 4294967295) < 256 := and_lt256 (hW.op ha)
      refine mm_aload d_Sk_climb_55 rfl ?_
      refine mm_getP d_Sk_climb_56 rfl (sk_o_67 hM) hP ?_
      refine mm_getP d_Sk_climb_59 rfl hCD.1.1 (CoS_p2 hCD.1) ?_
      refine mm_iload d_Sk_climb_62 rfl ?_
      refine mm_ialdN d_Sk_climb_63 (CoS_a2 hCD.1) (by omega) (by decide) (hCD.f2 (by omega)) ?_
      refine mm_iload d_Sk_climb_64 rfl ?_
      refine mm_ci d_Sk_climb_65 ?_
      refine mm_inotN d_Sk_climb_66 ?_
      refine mm_iandN d_Sk_climb_67 ?_
      refine mm_ist4 d_Sk_climb_68 ?_
      refine mm_ciN 0 d_Sk_climb_70 rfl ?_
      refine mm_ist5 d_Sk_climb_71 ?_
      refine mm_up (P := fun w => ∀ ξ, LC D a h len b ν w ξ → mm_T X (f + 3) 0 0 k_Sk_climb 73 [some (.ref 67), some (.int (nI a)), some (.int (nI h)), some (.int (nI len)), some (.int (nI (dop D a &&& (h ^^^ 4294967295)))), some (.int (nI w))] [] ξ (fun v μ' => v = none ∧ q μ')) 8 ?_ ?_ ξ hl0
      · intro ξ hl8
        refine mm_iload d_Sk_climb_73 rfl ?_
        refine mm_ciN 8 d_Sk_climb_75 rfl ?_
        refine mm_icmp_geN d_Sk_climb_77 (by first | omega | exact ite01_lt | exact bt8_lt31 _ _ | exact godB_lt31 _ _ _ | exact pop_lt31 _ | assumption | exact b31 (hW.gp (by omega)) | exact b31 (hW.ne (by omega)) | exact b31 (hW.op (by omega)) | exact and31 (hW.gp (by omega)) | exact and31 (hW.ne (by omega)) | exact and31 (hW.op (by omega)) | exact and31 (by assumption) | exact and31r (hW.ne (by omega)) | exact and31r (hW.gp (by omega)) | exact and31r (by decide)) (by first | omega | exact ite01_lt | exact bt8_lt31 _ _ | exact godB_lt31 _ _ _ | exact pop_lt31 _ | assumption | exact b31 (hW.gp (by omega)) | exact b31 (hW.ne (by omega)) | exact b31 (hW.op (by omega)) | exact and31 (hW.gp (by omega)) | exact and31 (hW.ne (by omega)) | exact and31 (hW.op (by omega)) | exact and31 (by assumption) | exact and31r (hW.ne (by omega)) | exact and31r (hW.gp (by omega)) | exact and31r (by decide)) (fun c_77 => ?_) (fun c_77 => False.elim (by omega))
        exact mm_rv d_Sk_climb_111 (hq ξ (LC.fin hh hl hl8))
      · intro w hw IH ξ hlw
        have hSw := hS.kl hlw.1
        have hM := hSw.1
        have hbit := bt8_andn (x := dop D a) (h := h) hw
        have hrl : (rF D a h w).1 ≤ Lg D a h := by
          rw [Lg_rec hh]
          rcases fo_o (f := rb D (Lg D) h a) (b := 0) w with ⟨-, y⟩ | ⟨s, s1, -, y, -⟩
          · show (fo _ 0 w).1 ≤ _; rw [y]; exact Nat.zero_le _
          · show (fo _ 0 w).1 ≤ _; rw [y]; exact fo_all 8 s (by omega)
        refine mm_iload d_Sk_climb_73 rfl ?_
        refine mm_ciN 8 d_Sk_climb_75 rfl ?_
        refine mm_icmp_geN d_Sk_climb_77 (by first | omega | exact ite01_lt | exact bt8_lt31 _ _ | exact godB_lt31 _ _ _ | exact pop_lt31 _ | assumption | exact b31 (hW.gp (by omega)) | exact b31 (hW.ne (by omega)) | exact b31 (hW.op (by omega)) | exact and31 (hW.gp (by omega)) | exact and31 (hW.ne (by omega)) | exact and31 (hW.op (by omega)) | exact and31 (by assumption) | exact and31r (hW.ne (by omega)) | exact and31r (hW.gp (by omega)) | exact and31r (by decide)) (by first | omega | exact ite01_lt | exact bt8_lt31 _ _ | exact godB_lt31 _ _ _ | exact pop_lt31 _ | assumption | exact b31 (hW.gp (by omega)) | exact b31 (hW.ne (by omega)) | exact b31 (hW.op (by omega)) | exact and31 (hW.gp (by omega)) | exact and31 (hW.ne (by omega)) | exact and31 (hW.op (by omega)) | exact and31 (by assumption) | exact and31r (hW.ne (by omega)) | exact and31r (hW.gp (by omega)) | exact and31r (by decide)) (fun c_77 => False.elim (by omega)) (fun c_77 => ?_)
        refine mm_iload d_Sk_climb_80 rfl ?_
        refine mm_iload d_Sk_climb_82 rfl ?_
        refine mm_s2i d_Sk_climb_84 (sp_has (by first | omega | assumption | exact hW.gp (by omega) | exact hW.ne (by omega) | exact hW.op (by omega) | exact and_lt256 (hW.gp (by omega)) | exact and_lt256 (hW.ne (by omega)) | exact and_lt256 (hW.op (by omega)) | exact and_lt256 (by assumption)) (by omega) ?_) (hdd := by omega)
        refine mm_if_eqN d_Sk_climb_87 (by first | omega | exact ite01_lt | exact bt8_lt31 _ _ | exact godB_lt31 _ _ _ | exact pop_lt31 _ | assumption | exact b31 (hW.gp (by omega)) | exact b31 (hW.ne (by omega)) | exact b31 (hW.op (by omega)) | exact and31 (hW.gp (by omega)) | exact and31 (hW.ne (by omega)) | exact and31 (hW.op (by omega)) | exact and31 (by assumption) | exact and31r (hW.ne (by omega)) | exact and31r (hW.gp (by omega)) | exact and31r (by decide)) (fun c_87 => ?_) (fun c_87 => ?_)
        · refine mm_inc5N d_Sk_climb_105 ?_
          refine mm_goto d_Sk_climb_108 ?_
          first | exact IH ν' (LC.adv hrb hlw hc) | exact IH ξ (LC.skip (if_neg (fun y => y.2.elim (fun z => absurd z (by omega)) (fun z => hbit.mpr ⟨z, y.1⟩ c_87))) hlw)
        · refine mm_aload d_Sk_climb_90 rfl ?_
          refine mm_iload d_Sk_climb_91 rfl ?_
          refine mm_iload d_Sk_climb_93 rfl ?_
          refine mm_ciN 1 d_Sk_climb_94 rfl ?_
          refine mm_iload d_Sk_climb_95 rfl ?_
          refine mm_ishl1N d_Sk_climb_97 (by omega) ?_
          refine mm_iorN d_Sk_climb_98 ?_
          refine mm_iload d_Sk_climb_99 rfl ?_
          refine mm_ciN 1 d_Sk_climb_100 rfl ?_
          refine mm_iaddN d_Sk_climb_101 ?_
          obtain ⟨v1, v2⟩ := hbit.mp c_87
          have hps := pop_set h hh w hw v2
          have hp8 := pop_le (h ||| 2 ^ w)
          have hrb : rb D (Lg D) h a w = 1 + Lg D w (h ||| 2 ^ w) := if_pos ⟨v2, Or.inr v1⟩
          have hsym := (hW.2.2.2.2.2 a w ha hw).1
          refine mm_v3v d_Sk_climb_102 (sk_o_67 hM) (sub w (h ||| 2 ^ w) (max b (len + (rF D a h w).1)) ξ _ (by omega) hw (or_set hh hw) (by omega) (NZ_set hz (dop_nz (w := a) (by rw [← hsym]; exact v1))) (by omega) hSw hlw.2.1 (fun ν' hc => ?_)) (hdd := by omega)
          refine mm_inc5N d_Sk_climb_105 ?_
          refine mm_goto d_Sk_climb_108 ?_
          first | exact IH ν' (LC.adv hrb hlw hc) | exact IH ξ (LC.skip (if_neg (fun y => y.2.elim (fun z => absurd z (by omega)) (fun z => hbit.mpr ⟨z, y.1⟩ c_87))) hlw)
    refine mm_iload d_Sk_climb_0 rfl ?_
    refine mm_ciN 8 d_Sk_climb_1 rfl ?_
    refine mm_icmp_gtN d_Sk_climb_3 (by first | omega | exact ite01_lt | exact bt8_lt31 _ _ | exact godB_lt31 _ _ _ | exact pop_lt31 _ | assumption | exact b31 (hW.gp (by omega)) | exact b31 (hW.ne (by omega)) | exact b31 (hW.op (by omega)) | exact and31 (hW.gp (by omega)) | exact and31 (hW.ne (by omega)) | exact and31 (hW.op (by omega)) | exact and31 (by assumption) | exact and31r (hW.ne (by omega)) | exact and31r (hW.gp (by omega)) | exact and31r (by decide)) (by first | omega | exact ite01_lt | exact bt8_lt31 _ _ | exact godB_lt31 _ _ _ | exact pop_lt31 _ | assumption | exact b31 (hW.gp (by omega)) | exact b31 (hW.ne (by omega)) | exact b31 (hW.op (by omega)) | exact and31 (hW.gp (by omega)) | exact and31 (hW.ne (by omega)) | exact and31 (hW.op (by omega)) | exact and31 (by assumption) | exact and31r (hW.ne (by omega)) | exact and31r (hW.gp (by omega)) | exact and31r (by decide)) (fun c_3 => False.elim (by omega)) (fun c_3 => ?_)
    refine mm_aload d_Sk_climb_6 rfl ?_
    refine mm_getIN d_Sk_climb_7 rfl (sk_o_67 hM) hbv ?_
    refine mm_aload d_Sk_climb_10 rfl ?_
    refine mm_getIN d_Sk_climb_11 rfl (sk_o_67 hM) hbn ?_
    refine mm_icmp_ltN d_Sk_climb_14 (by first | omega | exact ite01_lt | exact bt8_lt31 _ _ | exact godB_lt31 _ _ _ | exact pop_lt31 _ | assumption | exact b31 (hW.gp (by omega)) | exact b31 (hW.ne (by omega)) | exact b31 (hW.op (by omega)) | exact and31 (hW.gp (by omega)) | exact and31 (hW.ne (by omega)) | exact and31 (hW.op (by omega)) | exact and31 (by assumption) | exact and31r (hW.ne (by omega)) | exact and31r (hW.gp (by omega)) | exact and31r (by decide)) (by first | omega | exact ite01_lt | exact bt8_lt31 _ _ | exact godB_lt31 _ _ _ | exact pop_lt31 _ | assumption | exact b31 (hW.gp (by omega)) | exact b31 (hW.ne (by omega)) | exact b31 (hW.op (by omega)) | exact and31 (hW.gp (by omega)) | exact and31 (hW.ne (by omega)) | exact and31 (hW.op (by omega)) | exact and31 (by assumption) | exact and31r (hW.ne (by omega)) | exact and31r (hW.gp (by omega)) | exact and31r (by decide)) (fun c_14 => ?_) (fun c_14 => False.elim (by omega))
    refine mm_aload d_Sk_climb_18 rfl ?_
    refine mm_getP d_Sk_climb_19 rfl (sk_o_67 hM) (sk_p_67_1 hM) ?_
    refine mm_iload d_Sk_climb_22 rfl ?_
    refine mm_ciN 1 d_Sk_climb_23 rfl ?_
    refine mm_isubN d_Sk_climb_24 (by omega) ?_
    refine mm_iload d_Sk_climb_25 rfl ?_
    refine mm_iastX d_Sk_climb_26 (sk_a_69 hM) (by omega) (by decide) ?_
    refine mm_iload d_Sk_climb_27 rfl ?_
    refine mm_aload d_Sk_climb_28 rfl ?_
    refine mm_getIN d_Sk_climb_29 rfl (sk_o_67 hM) (show _ = nI b by rw [mm_sI_off (by decide)]; exact hbv) ?_
    refine mm_icmp_leN d_Sk_climb_32 (by first | omega | exact ite01_lt | exact bt8_lt31 _ _ | exact godB_lt31 _ _ _ | exact pop_lt31 _ | assumption | exact b31 (hW.gp (by omega)) | exact b31 (hW.ne (by omega)) | exact b31 (hW.op (by omega)) | exact and31 (hW.gp (by omega)) | exact and31 (hW.ne (by omega)) | exact and31 (hW.op (by omega)) | exact and31 (by assumption) | exact and31r (hW.ne (by omega)) | exact and31r (hW.gp (by omega)) | exact and31r (by decide)) (by first | omega | exact ite01_lt | exact bt8_lt31 _ _ | exact godB_lt31 _ _ _ | exact pop_lt31 _ | assumption | exact b31 (hW.gp (by omega)) | exact b31 (hW.ne (by omega)) | exact b31 (hW.op (by omega)) | exact and31 (hW.gp (by omega)) | exact and31 (hW.ne (by omega)) | exact and31 (hW.op (by omega)) | exact and31 (by assumption) | exact and31r (hW.ne (by omega)) | exact and31r (hW.gp (by omega)) | exact and31r (by decide)) (fun c_32 => ?_) (fun c_32 => ?_)
    · exact loop _ (LC.init hl (by omega) hbv (fun y => by first | rfl | exact absurd y (by omega)) (fun y => by first | rfl | exact absurd (by omega) y))
    · refine mm_aload d_Sk_climb_35 rfl ?_
      refine mm_iload d_Sk_climb_36 rfl ?_
      refine mm_putI d_Sk_climb_37 rfl (sk_o_67 hM) (Or.inl rfl) ?_
      refine mm_aload d_Sk_climb_40 rfl ?_
      refine mm_getP d_Sk_climb_41 rfl (sk_o_67 hM) (sk_p_67_1 hM) ?_
      refine mm_ciN 0 d_Sk_climb_44 rfl ?_
      refine mm_aload d_Sk_climb_45 rfl ?_
      refine mm_getP d_Sk_climb_46 rfl (sk_o_67 hM) (sk_p_67_0 hM) ?_
      refine mm_ciN 0 d_Sk_climb_49 rfl ?_
      refine mm_ciN 8 d_Sk_climb_50 rfl ?_
      refine mm_acopyN d_Sk_climb_52 (by decide) (sk_a_69 hM) (sk_a_68 hM) (by decide) (by decide) (by decide) (fun i _ => rfl) ?_
      exact loop _ (LC.init hl (by omega) hbv (fun y => by first | rfl | exact absurd y (by omega)) (fun y => by first | rfl | exact absurd (by omega) y))
theorem sp_Sk_climb {X : mm_X} {D : mm_D} {e : Nat} : ∀ (f len : Nat), f + len = 8 → 1 ≤ len → ∀ (a h b : Nat) (ν : mm_M) (q : mm_M → Prop), a < 8 → h < 256 → pop h = len → NZ D h → b ≤ 8 → SkC D e ν → mm_I ν 67 4 = nI b → (∀ ν', CP D a h len b ν ν' → q ν') → mm_Cv X (f + 3) 0 0 k_Sk_climb [.ref 67, .int (nI a), .int (nI h), .int (nI len)] ν q := by
  intro f
  induction f with
  | zero => exact fun len h1 h2 => climb_body h1 h2 (fun a' h' b' ν q y => absurd y (by omega))
  | succ f ih => exact fun len h1 h2 => climb_body h1 h2 (fun a' h' b' ν q _ => ih (len + 1) (by omega) (by omega) a' h' b' ν q)
