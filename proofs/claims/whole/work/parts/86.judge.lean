/-! texts: a line is judged and told -/
def nuL : List Nat := [3, 2, 2, 2, 2, 1, 2, 2, 1, 1, 0, 1, 1]
def hiL : List Nat := [7, 7, 7, 7, 10, 0, 7, 7, 0, 5, 7, 0, 7, 9, 0, 20, 0, 0, 5, 7, 0, 5, 7, 0, 7, 0, 0, 5, 0, 0, 0, 0, 0, 7, 0, 0, 7, 0, 0]
def nu (k : Nat) : Nat := nuL.getD k 0
def hi (j : Nat) : Nat := hiL.getD j 0
theorem nu_i : ∀ k, k < 13 → mm_num.getD k 0 = nI (nu k) ∧ nu k ≤ 3 := by decide
theorem hi_i : ∀ j, j < 39 → mm_hig.getD j 0 = nI (hi j) ∧ hi j ≤ 20 := by decide
theorem mm_knum {X : mm_X} {d nc ns : Nat} {K : mm_K} {pc n : Nat} {ls : List (Option Value)} {st : List Value} {μ : mm_M} {Q : Option Value → mm_M → Prop} {k : Nat} (hd : mm_d K pc .iaload 1 n) (hk : k < 13) (h : mm_T X d nc ns K n ls (.int (nI (nu k)) :: st) μ Q) : mm_T X d nc ns K pc ls (.int (nI k) :: .ref (2000000 + 1) :: st) μ Q := by
  refine mm_kald hd (q := 1) (by decide) (vp_in_nI (N := 13) hk (by decide)) ?_
  rw [nI_clamp (by omega)]
  show mm_T X d nc ns K n ls (.int (mm_num.getD k 0) :: st) μ Q
  rw [(nu_i k hk).1]
  exact h
theorem mm_khig {X : mm_X} {d nc ns : Nat} {K : mm_K} {pc n : Nat} {ls : List (Option Value)} {st : List Value} {μ : mm_M} {Q : Option Value → mm_M → Prop} {k : Nat} (hd : mm_d K pc .iaload 1 n) (hk : k < 39) (h : mm_T X d nc ns K n ls (.int (nI (hi k)) :: st) μ Q) : mm_T X d nc ns K pc ls (.int (nI k) :: .ref (2000000 + 2) :: st) μ Q := by
  refine mm_kald hd (q := 2) (by decide) (vp_in_nI (N := 39) hk (by decide)) ?_
  rw [nI_clamp (by omega)]
  show mm_T X d nc ns K n ls (.int (mm_hig.getD k 0) :: st) μ Q
  rw [(hi_i k hk).1]
  exact h
def up (t : Nat → Nat) (j x : Nat) : Nat → Nat := fun i => if i = j then x else t i
/-- what a line of the kind k tells -/
def stp (k : Nat) (v : Nat → Nat) (t : Nat → Nat) : Nat → Nat :=
  if k = 0 then up (up t (26 + t 0) (2 ^ v 0 ||| 2 ^ v 1 ||| 2 ^ v 2)) 0 (t 0 + 1)
  else if k = 1 then up t (2 + v 0) (v 1)
  else if k = 2 then up (up t (18 + v 0) (t (18 + v 0) ||| 2 ^ v 1)) (18 + v 1) (t (18 + v 1) ||| 2 ^ v 0)
  else if k = 3 then up (up t (38 + v 0) (t (38 + v 0) ||| 2 ^ v 1)) 44 (t 44 ||| 2 ^ v 0)
  else if k = 4 then up t (10 + v 0) (v 1)
  else if k = 5 then up (up t (32 + t 1) (v 0)) 1 (t 1 + 1)
  else if k < 11 then up (up (up (up t (1 + 3 * t 0) (k - 6)) (1 + 3 * t 0 + 1) (v 0)) (1 + 3 * t 0 + 2) (v 1)) 0 (t 0 + 1)
  else up (up (up t (1 + 2 * t 0) (k - 11)) (1 + 2 * t 0 + 1) (v 0)) 0 (t 0 + 1)
/-- is there no room for a line of the kind k -/
def fu (k : Nat) (t : Nat → Nat) : Bool := if k = 0 then decide (6 ≤ t 0) else if k = 5 then decide (6 ≤ t 1) else if k < 6 then false else if k < 11 then decide (40 ≤ t 0) else decide (8 ≤ t 0)
theorem fu_i {k : Nat} {t : Nat → Nat} : fu k t = true ↔ (k = 0 ∧ 6 ≤ t 0) ∨ (k = 5 ∧ 6 ≤ t 1) ∨ (6 ≤ k ∧ k < 11 ∧ 40 ≤ t 0) ∨ (11 ≤ k ∧ 8 ≤ t 0) := by
  unfold fu
  by_cases h0 : k = 0
  · rw [if_pos h0, decide_eq_true_iff]; omega
  · rw [if_neg h0]
    by_cases h5 : k = 5
    · rw [if_pos h5, decide_eq_true_iff]; omega
    · rw [if_neg h5]
      by_cases h6 : k < 6
      · rw [if_pos h6]
        exact ⟨fun z => absurd z (by decide), fun z => by omega⟩
      · rw [if_neg h6]
        by_cases h11 : k < 11
        · rw [if_pos h11, decide_eq_true_iff]; omega
        · rw [if_neg h11, decide_eq_true_iff]; omega
/-- can the number i of a line of the kind k be -/
def cb (k : Nat) (v : Nat → Nat) (i : Nat) : Bool := decide (v i ≤ hi (k * 3 + i)) && (!(k == 4 && i == 1) || decide (1 ≤ v i)) && (!(k == 0 || k == 2) || (List.range i).all (fun b => v b != v i))
theorem cb_i {k i : Nat} {v : Nat → Nat} : cb k v i = true ↔ v i ≤ hi (k * 3 + i) ∧ (k = 4 ∧ i = 1 → 1 ≤ v i) ∧ (k = 0 ∨ k = 2 → ∀ b, b < i → v b ≠ v i) := by
  unfold cb
  simp
  constructor
  · rintro ⟨⟨h1, h2⟩, h3⟩
    refine ⟨h1, fun a b => ?_, fun a b hb => ?_⟩
    · omega
    · rcases h3 with z | z
      · rcases a with a | a
        · exact absurd a z.1
        · exact absurd a z.2
      · exact z b hb
  · rintro ⟨h1, h2, h3⟩
    refine ⟨⟨h1, ?_⟩, ?_⟩
    · by_cases z : k = 4 ∧ i = 1
      · exact Or.inr (h2 z.1 z.2)
      · exact Or.inl (by omega)
    · by_cases z : k = 0 ∨ k = 2
      · exact Or.inr (fun b hb => h3 z b hb)
      · exact Or.inl ⟨fun a => z (Or.inl a), fun a => z (Or.inr a)⟩
def fb (k : Nat) (v : Nat → Nat) : Nat → Nat → Option Nat
  | 0, _ => none
  | m + 1, i => if cb k v i = true then fb k v m (i + 1) else some i
def DT (t : Nat → Nat) : mm_D := (t 0, t 1, fun j => t (2 + j), fun j => t (10 + j), fun j => t (18 + j), fun j => t (26 + j), fun j => t (32 + j), fun j => t (38 + j))
theorem CoD_mk {ν : mm_M} {t : Nat → Nat} (hM : SK ν) (h0 : mm_I ν 37 6 = nI (t 0)) (h1 : mm_I ν 37 7 = nI (t 1)) (ha : ∀ j, j < 8 → mm_I ν 38 j = nI (t (2 + j))) (hb : ∀ j, j < 8 → mm_I ν 39 j = nI (t (10 + j))) (hc : ∀ j, j < 8 → mm_I ν 40 j = nI (t (18 + j))) (hd : ∀ j, j < 6 → mm_I ν 41 j = nI (t (26 + j))) (he : ∀ j, j < 6 → mm_I ν 42 j = nI (t (32 + j))) (hf : ∀ j, j < 6 → mm_I ν 43 j = nI (t (38 + j))) : CoD ν 37 (DT t) := ⟨sk_c_37 hM, h0, h1, fun j hj => ⟨ha j hj, hb j hj, hc j hj⟩, fun j hj => ⟨hd j hj, he j hj, hf j hj⟩⟩
def yv1 (t : Nat → Nat) (j : Nat) : Int32 := if t (1 + 3 * j) < 4 then nI (t (1 + 3 * j + 1)) else -1
def yv2 (t : Nat → Nat) (j : Nat) : Int32 := if t (1 + 3 * j) < 2 then nI (t (1 + 3 * j + 2)) else -1
/-- the reader holds what t says -/
def RC (s : Nat) (t : Nat → Nat) (ν : mm_M) : Prop := (s = 0 → CoD ν 37 (DT t) ∧ mm_I ν 36 10 = nI (t 44)) ∧ (s = 1 → mm_I ν 44 3 = nI (t 0) ∧ ∀ j, j < t 0 → mm_I ν 45 j = nI (t (1 + 3 * j)) ∧ mm_I ν 46 j = yv1 t j ∧ mm_I ν 47 j = yv2 t j) ∧ (s = 2 → mm_I ν 48 2 = nI (t 0) ∧ ∀ j, j < t 0 → mm_I ν 49 j = nI (t (1 + 2 * j)) ∧ mm_I ν 50 j = nI (t (1 + 2 * j + 1))) ∧ (s ≠ 0 → mm_I ν 36 10 = nI 0 ∧ mm_I ν 37 7 = nI 0)
def WfT (s : Nat) (t : Nat → Nat) : Prop := (s = 0 → WfD (DT t) ∧ t 44 < 64) ∧ (s = 1 → t 0 ≤ 40 ∧ ∀ j, j < t 0 → t (1 + 3 * j) < 5 ∧ (t (1 + 3 * j) < 2 → t (1 + 3 * j + 1) < 6 ∧ t (1 + 3 * j + 2) < 8) ∧ (t (1 + 3 * j) = 2 → t (1 + 3 * j + 1) < 8) ∧ (t (1 + 3 * j) = 3 → t (1 + 3 * j + 1) < 6)) ∧ (s = 2 → t 0 ≤ 8 ∧ ∀ j, j < t 0 → t (1 + 2 * j) ≤ 1 ∧ t (1 + 2 * j + 1) < 8)
def srt (k : Nat) : Nat := if k < 6 then 0 else if k < 11 then 1 else 2
theorem WfT.b0 {t : Nat → Nat} (h : WfT 0 t) : t 0 ≤ 6 ∧ t 1 ≤ 6 ∧ t 44 < 64 := ⟨(h.1 rfl).1.1, (h.1 rfl).1.2.1, (h.1 rfl).2⟩
def scRe (a : Nat) : Bool := 36 ≤ a && a ≤ 52
/-- only the reader's cells have changed; what it is told of aside, its fields but the faults stand -/
def Kr (μ ν : mm_M) : Prop := Fr scRe μ ν ∧ mm_P ν = mm_P μ ∧ ∀ j, j ≠ 3 → j ≠ 4 → j ≠ 10 → mm_I ν 36 j = mm_I μ 36 j
theorem Kr.rf {μ : mm_M} : Kr μ μ := ⟨Fr.rf, rfl, fun _ _ _ _ => rfl⟩
theorem Kr.sI {μ ν : mm_M} {a j : Nat} {x : Int32} (h : Kr μ ν) (ha : 37 ≤ a ∧ a ≤ 52) : Kr μ (mm_sI ν a j x) := ⟨h.1.sI (by unfold scRe; simp; omega), h.2.1, fun i a1 a2 a3 => by rw [mm_sI_off (by omega)]; exact h.2.2 i a1 a2 a3⟩
theorem Kr.sF {μ ν : mm_M} {j : Nat} {x : Int32} (h : Kr μ ν) (hj : j = 3 ∨ j = 4 ∨ j = 10) : Kr μ (mm_sI ν 36 j x) := ⟨h.1.sI rfl, h.2.1, fun i a1 a2 a3 => by rw [mm_I_sI, if_neg (by omega)]; exact h.2.2 i a1 a2 a3⟩
theorem sp_Re_note {X : mm_X} {μ : mm_M} {q : mm_M → Prop} {x y : Int32} (hM : SK μ) (h : q (mm_sI (mm_sI μ 36 3 x) 36 4 y)) : mm_Cv X 0 0 0 k_Re_note [.ref 36, .int x, .int y] μ q := by
  show mm_T X 0 0 0 k_Re_note 0 [some (.ref 36), some (.int x), some (.int y)] [] μ _
  refine mm_aload d_Re_note_0 rfl ?_
  refine mm_iload d_Re_note_1 rfl ?_
  refine mm_putI d_Re_note_2 rfl (sk_o_36 hM) (Or.inl rfl) ?_
  refine mm_aload d_Re_note_5 rfl ?_
  refine mm_iload d_Re_note_6 rfl ?_
  refine mm_putI d_Re_note_7 rfl (sk_o_36 hM) (Or.inl rfl) ?_
  exact mm_rv d_Re_note_10 h
theorem sp_Re_getStuck {X : mm_X} {μ : mm_M} {q : mm_M → Prop} {x : Nat} (hM : SK μ) (hx : mm_I μ 36 13 = nI x) (h : q (mm_sI (mm_sI μ 36 3 (nI 1)) 36 4 (nI x))) : mm_Cv X 0 0 0 k_Re_getStuck [.ref 36] μ q := by
  show mm_T X 0 0 0 k_Re_getStuck 0 [some (.ref 36)] [] μ _
  refine mm_aload d_Re_getStuck_0 rfl ?_
  refine mm_ciN 1 d_Re_getStuck_1 rfl ?_
  refine mm_putI d_Re_getStuck_2 rfl (sk_o_36 hM) (Or.inl rfl) ?_
  refine mm_aload d_Re_getStuck_5 rfl ?_
  refine mm_aload d_Re_getStuck_6 rfl ?_
  refine mm_getIN d_Re_getStuck_7 rfl (sk_o_36 hM) (by rw [mm_I_sI, if_neg (by decide)]; exact hx) ?_
  refine mm_putI d_Re_getStuck_10 rfl (sk_o_36 hM) (Or.inl rfl) ?_
  exact mm_rv d_Re_getStuck_13 h
theorem sp_Re_isFull {X : mm_X} {μ : mm_M} {q : Int32 → mm_M → Prop} {k : Nat} {t : Nat → Nat} (hM : SK μ) (hk : k < 13) (hC : RC (srt k) t μ) (hW : WfT (srt k) t) (h : q (nI (if fu k t then 1 else 0)) μ) : mm_Ci X 0 0 0 k_Re_isFull [.ref 36, .int (nI k)] μ q := by
  show mm_T X 0 0 0 k_Re_isFull 0 [some (.ref 36), some (.int (nI k))] [] μ _
  by_cases k6 : k < 6
  · rw [show srt k = 0 from if_pos k6] at hC hW
    obtain ⟨b0, b1, b2⟩ := hW.b0
    obtain ⟨hCD, -⟩ := hC.1 rfl
    have e0 : mm_I μ 37 6 = nI (t 0) := hCD.n
    have e1 : mm_I μ 37 7 = nI (t 1) := hCD.w
    refine mm_iload d_Re_isFull_0 rfl ?_
    refine mm_ciN 11 d_Re_isFull_1 rfl ?_
    refine mm_icmp_ltN d_Re_isFull_3 (by first | omega | exact ite01_lt | exact bt8_lt31 _ _ | exact godB_lt31 _ _ _ | exact pop_lt31 _ | assumption | exact b31 (hW.gp (by omega)) | exact b31 (hW.ne (by omega)) | exact b31 (hW.op (by omega)) | exact and31 (hW.gp (by omega)) | exact and31 (hW.ne (by omega)) | exact and31 (hW.op (by omega)) | exact and31 (by assumption) | exact and31r (hW.ne (by omega)) | exact and31r (hW.gp (by omega)) | exact and31r (by decide)) (by first | omega | exact ite01_lt | exact bt8_lt31 _ _ | exact godB_lt31 _ _ _ | exact pop_lt31 _ | assumption | exact b31 (hW.gp (by omega)) | exact b31 (hW.ne (by omega)) | exact b31 (hW.op (by omega)) | exact and31 (hW.gp (by omega)) | exact and31 (hW.ne (by omega)) | exact and31 (hW.op (by omega)) | exact and31 (by assumption) | exact and31r (hW.ne (by omega)) | exact and31r (hW.gp (by omega)) | exact and31r (by decide)) (fun c_3 => ?_) (fun c_3 => False.elim (by omega))
    refine mm_iload d_Re_isFull_24 rfl ?_
    refine mm_ciN 6 d_Re_isFull_25 rfl ?_
    refine mm_icmp_ltN d_Re_isFull_27 (by first | omega | exact ite01_lt | exact bt8_lt31 _ _ | exact godB_lt31 _ _ _ | exact pop_lt31 _ | assumption | exact b31 (hW.gp (by omega)) | exact b31 (hW.ne (by omega)) | exact b31 (hW.op (by omega)) | exact and31 (hW.gp (by omega)) | exact and31 (hW.ne (by omega)) | exact and31 (hW.op (by omega)) | exact and31 (by assumption) | exact and31r (hW.ne (by omega)) | exact and31r (hW.gp (by omega)) | exact and31r (by decide)) (by first | omega | exact ite01_lt | exact bt8_lt31 _ _ | exact godB_lt31 _ _ _ | exact pop_lt31 _ | assumption | exact b31 (hW.gp (by omega)) | exact b31 (hW.ne (by omega)) | exact b31 (hW.op (by omega)) | exact and31 (hW.gp (by omega)) | exact and31 (hW.ne (by omega)) | exact and31 (hW.op (by omega)) | exact and31 (by assumption) | exact and31r (hW.ne (by omega)) | exact and31r (hW.gp (by omega)) | exact and31r (by decide)) (fun c_27 => ?_) (fun c_27 => False.elim (by omega))
    refine mm_iload d_Re_isFull_48 rfl ?_
    refine mm_if_neN d_Re_isFull_49 (by first | omega | exact ite01_lt | exact bt8_lt31 _ _ | exact godB_lt31 _ _ _ | exact pop_lt31 _ | assumption | exact b31 (hW.gp (by omega)) | exact b31 (hW.ne (by omega)) | exact b31 (hW.op (by omega)) | exact and31 (hW.gp (by omega)) | exact and31 (hW.ne (by omega)) | exact and31 (hW.op (by omega)) | exact and31 (by assumption) | exact and31r (hW.ne (by omega)) | exact and31r (hW.gp (by omega)) | exact and31r (by decide)) (fun c_49 => ?_) (fun c_49 => ?_)
    · refine mm_iload d_Re_isFull_64 rfl ?_
      refine mm_ciN 5 d_Re_isFull_65 rfl ?_
      refine mm_icmp_neN d_Re_isFull_66 (by first | omega | exact ite01_lt | exact bt8_lt31 _ _ | exact godB_lt31 _ _ _ | exact pop_lt31 _ | assumption | exact b31 (hW.gp (by omega)) | exact b31 (hW.ne (by omega)) | exact b31 (hW.op (by omega)) | exact and31 (hW.gp (by omega)) | exact and31 (hW.ne (by omega)) | exact and31 (hW.op (by omega)) | exact and31 (by assumption) | exact and31r (hW.ne (by omega)) | exact and31r (hW.gp (by omega)) | exact and31r (by decide)) (by first | omega | exact ite01_lt | exact bt8_lt31 _ _ | exact godB_lt31 _ _ _ | exact pop_lt31 _ | assumption | exact b31 (hW.gp (by omega)) | exact b31 (hW.ne (by omega)) | exact b31 (hW.op (by omega)) | exact and31 (hW.gp (by omega)) | exact and31 (hW.ne (by omega)) | exact and31 (hW.op (by omega)) | exact and31 (by assumption) | exact and31r (hW.ne (by omega)) | exact and31r (hW.gp (by omega)) | exact and31r (by decide)) (fun c_66 => ?_) (fun c_66 => ?_)
      · refine mm_ciN 0 d_Re_isFull_85 rfl ?_
        exact mm_rz d_Re_isFull_86 (by first | (rw [if_pos (fu_i.mpr (by omega))] at h; exact h) | (rw [if_neg (fun z => by have := fu_i.mp z; omega)] at h; exact h))
      · refine mm_aload d_Re_isFull_69 rfl ?_
        refine mm_getP d_Re_isFull_70 rfl (sk_o_36 hM) (sk_p_36_0 hM) ?_
        refine mm_getIN d_Re_isFull_73 rfl (sk_o_37 hM) e1 ?_
        refine mm_ciN 6 d_Re_isFull_76 rfl ?_
        refine mm_icmp_ltN d_Re_isFull_78 (by first | omega | exact ite01_lt | exact bt8_lt31 _ _ | exact godB_lt31 _ _ _ | exact pop_lt31 _ | assumption | exact b31 (hW.gp (by omega)) | exact b31 (hW.ne (by omega)) | exact b31 (hW.op (by omega)) | exact and31 (hW.gp (by omega)) | exact and31 (hW.ne (by omega)) | exact and31 (hW.op (by omega)) | exact and31 (by assumption) | exact and31r (hW.ne (by omega)) | exact and31r (hW.gp (by omega)) | exact and31r (by decide)) (by first | omega | exact ite01_lt | exact bt8_lt31 _ _ | exact godB_lt31 _ _ _ | exact pop_lt31 _ | assumption | exact b31 (hW.gp (by omega)) | exact b31 (hW.ne (by omega)) | exact b31 (hW.op (by omega)) | exact and31 (hW.gp (by omega)) | exact and31 (hW.ne (by omega)) | exact and31 (hW.op (by omega)) | exact and31 (by assumption) | exact and31r (hW.ne (by omega)) | exact and31r (hW.gp (by omega)) | exact and31r (by decide)) (fun c_78 => ?_) (fun c_78 => ?_)
        · refine mm_ciN 0 d_Re_isFull_85 rfl ?_
          exact mm_rz d_Re_isFull_86 (by first | (rw [if_pos (fu_i.mpr (by omega))] at h; exact h) | (rw [if_neg (fun z => by have := fu_i.mp z; omega)] at h; exact h))
        · refine mm_ciN 1 d_Re_isFull_81 rfl ?_
          refine mm_goto d_Re_isFull_82 ?_
          exact mm_rz d_Re_isFull_86 (by first | (rw [if_pos (fu_i.mpr (by omega))] at h; exact h) | (rw [if_neg (fun z => by have := fu_i.mp z; omega)] at h; exact h))
    · refine mm_aload d_Re_isFull_52 rfl ?_
      refine mm_getP d_Re_isFull_53 rfl (sk_o_36 hM) (sk_p_36_0 hM) ?_
      refine mm_getIN d_Re_isFull_56 rfl (sk_o_37 hM) e0 ?_
      refine mm_ciN 6 d_Re_isFull_59 rfl ?_
      refine mm_icmp_geN d_Re_isFull_61 (by first | omega | exact ite01_lt | exact bt8_lt31 _ _ | exact godB_lt31 _ _ _ | exact pop_lt31 _ | assumption | exact b31 (hW.gp (by omega)) | exact b31 (hW.ne (by omega)) | exact b31 (hW.op (by omega)) | exact and31 (hW.gp (by omega)) | exact and31 (hW.ne (by omega)) | exact and31 (hW.op (by omega)) | exact and31 (by assumption) | exact and31r (hW.ne (by omega)) | exact and31r (hW.gp (by omega)) | exact and31r (by decide)) (by first | omega | exact ite01_lt | exact bt8_lt31 _ _ | exact godB_lt31 _ _ _ | exact pop_lt31 _ | assumption | exact b31 (hW.gp (by omega)) | exact b31 (hW.ne (by omega)) | exact b31 (hW.op (by omega)) | exact and31 (hW.gp (by omega)) | exact and31 (hW.ne (by omega)) | exact and31 (hW.op (by omega)) | exact and31 (by assumption) | exact and31r (hW.ne (by omega)) | exact and31r (hW.gp (by omega)) | exact and31r (by decide)) (fun c_61 => ?_) (fun c_61 => ?_)
      · refine mm_ciN 1 d_Re_isFull_81 rfl ?_
        refine mm_goto d_Re_isFull_82 ?_
        exact mm_rz d_Re_isFull_86 (by first | (rw [if_pos (fu_i.mpr (by omega))] at h; exact h) | (rw [if_neg (fun z => by have := fu_i.mp z; omega)] at h; exact h))
      · refine mm_iload d_Re_isFull_64 rfl ?_
        refine mm_ciN 5 d_Re_isFull_65 rfl ?_
        refine mm_icmp_neN d_Re_isFull_66 (by first | omega | exact ite01_lt | exact bt8_lt31 _ _ | exact godB_lt31 _ _ _ | exact pop_lt31 _ | assumption | exact b31 (hW.gp (by omega)) | exact b31 (hW.ne (by omega)) | exact b31 (hW.op (by omega)) | exact and31 (hW.gp (by omega)) | exact and31 (hW.ne (by omega)) | exact and31 (hW.op (by omega)) | exact and31 (by assumption) | exact and31r (hW.ne (by omega)) | exact and31r (hW.gp (by omega)) | exact and31r (by decide)) (by first | omega | exact ite01_lt | exact bt8_lt31 _ _ | exact godB_lt31 _ _ _ | exact pop_lt31 _ | assumption | exact b31 (hW.gp (by omega)) | exact b31 (hW.ne (by omega)) | exact b31 (hW.op (by omega)) | exact and31 (hW.gp (by omega)) | exact and31 (hW.ne (by omega)) | exact and31 (hW.op (by omega)) | exact and31 (by assumption) | exact and31r (hW.ne (by omega)) | exact and31r (hW.gp (by omega)) | exact and31r (by decide)) (fun c_66 => ?_) (fun c_66 => ?_)
        · refine mm_ciN 0 d_Re_isFull_85 rfl ?_
          exact mm_rz d_Re_isFull_86 (by first | (rw [if_pos (fu_i.mpr (by omega))] at h; exact h) | (rw [if_neg (fun z => by have := fu_i.mp z; omega)] at h; exact h))
        · refine mm_aload d_Re_isFull_69 rfl ?_
          refine mm_getP d_Re_isFull_70 rfl (sk_o_36 hM) (sk_p_36_0 hM) ?_
          refine mm_getIN d_Re_isFull_73 rfl (sk_o_37 hM) e1 ?_
          refine mm_ciN 6 d_Re_isFull_76 rfl ?_
          refine mm_icmp_ltN d_Re_isFull_78 (by first | omega | exact ite01_lt | exact bt8_lt31 _ _ | exact godB_lt31 _ _ _ | exact pop_lt31 _ | assumption | exact b31 (hW.gp (by omega)) | exact b31 (hW.ne (by omega)) | exact b31 (hW.op (by omega)) | exact and31 (hW.gp (by omega)) | exact and31 (hW.ne (by omega)) | exact and31 (hW.op (by omega)) | exact and31 (by assumption) | exact and31r (hW.ne (by omega)) | exact and31r (hW.gp (by omega)) | exact and31r (by decide)) (by first | omega | exact ite01_lt | exact bt8_lt31 _ _ | exact godB_lt31 _ _ _ | exact pop_lt31 _ | assumption | exact b31 (hW.gp (by omega)) | exact b31 (hW.ne (by omega)) | exact b31 (hW.op (by omega)) | exact and31 (hW.gp (by omega)) | exact and31 (hW.ne (by omega)) | exact and31 (hW.op (by omega)) | exact and31 (by assumption) | exact and31r (hW.ne (by omega)) | exact and31r (hW.gp (by omega)) | exact and31r (by decide)) (fun c_78 => ?_) (fun c_78 => ?_)
          · refine mm_ciN 0 d_Re_isFull_85 rfl ?_
            exact mm_rz d_Re_isFull_86 (by first | (rw [if_pos (fu_i.mpr (by omega))] at h; exact h) | (rw [if_neg (fun z => by have := fu_i.mp z; omega)] at h; exact h))
          · refine mm_ciN 1 d_Re_isFull_81 rfl ?_
            refine mm_goto d_Re_isFull_82 ?_
            exact mm_rz d_Re_isFull_86 (by first | (rw [if_pos (fu_i.mpr (by omega))] at h; exact h) | (rw [if_neg (fun z => by have := fu_i.mp z; omega)] at h; exact h))
  · by_cases k11 : k < 11
    · rw [show srt k = 1 by unfold srt; rw [if_neg k6, if_pos k11]] at hC hW
      have b0 := (hW.2.1 rfl).1
      have e0 := (hC.2.1 rfl).1
      refine mm_iload d_Re_isFull_0 rfl ?_
      refine mm_ciN 11 d_Re_isFull_1 rfl ?_
      refine mm_icmp_ltN d_Re_isFull_3 (by first | omega | exact ite01_lt | exact bt8_lt31 _ _ | exact godB_lt31 _ _ _ | exact pop_lt31 _ | assumption | exact b31 (hW.gp (by omega)) | exact b31 (hW.ne (by omega)) | exact b31 (hW.op (by omega)) | exact and31 (hW.gp (by omega)) | exact and31 (hW.ne (by omega)) | exact and31 (hW.op (by omega)) | exact and31 (by assumption) | exact and31r (hW.ne (by omega)) | exact and31r (hW.gp (by omega)) | exact and31r (by decide)) (by first | omega | exact ite01_lt | exact bt8_lt31 _ _ | exact godB_lt31 _ _ _ | exact pop_lt31 _ | assumption | exact b31 (hW.gp (by omega)) | exact b31 (hW.ne (by omega)) | exact b31 (hW.op (by omega)) | exact and31 (hW.gp (by omega)) | exact and31 (hW.ne (by omega)) | exact and31 (hW.op (by omega)) | exact and31 (by assumption) | exact and31r (hW.ne (by omega)) | exact and31r (hW.gp (by omega)) | exact and31r (by decide)) (fun c_3 => ?_) (fun c_3 => False.elim (by omega))
      refine mm_iload d_Re_isFull_24 rfl ?_
      refine mm_ciN 6 d_Re_isFull_25 rfl ?_
      refine mm_icmp_ltN d_Re_isFull_27 (by first | omega | exact ite01_lt | exact bt8_lt31 _ _ | exact godB_lt31 _ _ _ | exact pop_lt31 _ | assumption | exact b31 (hW.gp (by omega)) | exact b31 (hW.ne (by omega)) | exact b31 (hW.op (by omega)) | exact and31 (hW.gp (by omega)) | exact and31 (hW.ne (by omega)) | exact and31 (hW.op (by omega)) | exact and31 (by assumption) | exact and31r (hW.ne (by omega)) | exact and31r (hW.gp (by omega)) | exact and31r (by decide)) (by first | omega | exact ite01_lt | exact bt8_lt31 _ _ | exact godB_lt31 _ _ _ | exact pop_lt31 _ | assumption | exact b31 (hW.gp (by omega)) | exact b31 (hW.ne (by omega)) | exact b31 (hW.op (by omega)) | exact and31 (hW.gp (by omega)) | exact and31 (hW.ne (by omega)) | exact and31 (hW.op (by omega)) | exact and31 (by assumption) | exact and31r (hW.ne (by omega)) | exact and31r (hW.gp (by omega)) | exact and31r (by decide)) (fun c_27 => False.elim (by omega)) (fun c_27 => ?_)
      refine mm_aload d_Re_isFull_30 rfl ?_
      refine mm_getP d_Re_isFull_31 rfl (sk_o_36 hM) (sk_p_36_1 hM) ?_
      refine mm_getIN d_Re_isFull_34 rfl (sk_o_44 hM) e0 ?_
      refine mm_ciN 40 d_Re_isFull_37 rfl ?_
      refine mm_icmp_ltN d_Re_isFull_39 (by first | omega | exact ite01_lt | exact bt8_lt31 _ _ | exact godB_lt31 _ _ _ | exact pop_lt31 _ | assumption | exact b31 (hW.gp (by omega)) | exact b31 (hW.ne (by omega)) | exact b31 (hW.op (by omega)) | exact and31 (hW.gp (by omega)) | exact and31 (hW.ne (by omega)) | exact and31 (hW.op (by omega)) | exact and31 (by assumption) | exact and31r (hW.ne (by omega)) | exact and31r (hW.gp (by omega)) | exact and31r (by decide)) (by first | omega | exact ite01_lt | exact bt8_lt31 _ _ | exact godB_lt31 _ _ _ | exact pop_lt31 _ | assumption | exact b31 (hW.gp (by omega)) | exact b31 (hW.ne (by omega)) | exact b31 (hW.op (by omega)) | exact and31 (hW.gp (by omega)) | exact and31 (hW.ne (by omega)) | exact and31 (hW.op (by omega)) | exact and31 (by assumption) | exact and31r (hW.ne (by omega)) | exact and31r (hW.gp (by omega)) | exact and31r (by decide)) (fun c_39 => ?_) (fun c_39 => ?_)
      · refine mm_ciN 0 d_Re_isFull_46 rfl ?_
        exact mm_rz d_Re_isFull_47 (by first | (rw [if_pos (fu_i.mpr (by omega))] at h; exact h) | (rw [if_neg (fun z => by have := fu_i.mp z; omega)] at h; exact h))
      · refine mm_ciN 1 d_Re_isFull_42 rfl ?_
        refine mm_goto d_Re_isFull_43 ?_
        exact mm_rz d_Re_isFull_47 (by first | (rw [if_pos (fu_i.mpr (by omega))] at h; exact h) | (rw [if_neg (fun z => by have := fu_i.mp z; omega)] at h; exact h))
    · rw [show srt k = 2 by unfold srt; rw [if_neg k6, if_neg k11]] at hC hW
      have b0 := (hW.2.2 rfl).1
      have e0 := (hC.2.2.1 rfl).1
      refine mm_iload d_Re_isFull_0 rfl ?_
      refine mm_ciN 11 d_Re_isFull_1 rfl ?_
      refine mm_icmp_ltN d_Re_isFull_3 (by first | omega | exact ite01_lt | exact bt8_lt31 _ _ | exact godB_lt31 _ _ _ | exact pop_lt31 _ | assumption | exact b31 (hW.gp (by omega)) | exact b31 (hW.ne (by omega)) | exact b31 (hW.op (by omega)) | exact and31 (hW.gp (by omega)) | exact and31 (hW.ne (by omega)) | exact and31 (hW.op (by omega)) | exact and31 (by assumption) | exact and31r (hW.ne (by omega)) | exact and31r (hW.gp (by omega)) | exact and31r (by decide)) (by first | omega | exact ite01_lt | exact bt8_lt31 _ _ | exact godB_lt31 _ _ _ | exact pop_lt31 _ | assumption | exact b31 (hW.gp (by omega)) | exact b31 (hW.ne (by omega)) | exact b31 (hW.op (by omega)) | exact and31 (hW.gp (by omega)) | exact and31 (hW.ne (by omega)) | exact and31 (hW.op (by omega)) | exact and31 (by assumption) | exact and31r (hW.ne (by omega)) | exact and31r (hW.gp (by omega)) | exact and31r (by decide)) (fun c_3 => False.elim (by omega)) (fun c_3 => ?_)
      refine mm_aload d_Re_isFull_6 rfl ?_
      refine mm_getP d_Re_isFull_7 rfl (sk_o_36 hM) (sk_p_36_2 hM) ?_
      refine mm_getIN d_Re_isFull_10 rfl (sk_o_48 hM) e0 ?_
      refine mm_ciN 8 d_Re_isFull_13 rfl ?_
      refine mm_icmp_ltN d_Re_isFull_15 (by first | omega | exact ite01_lt | exact bt8_lt31 _ _ | exact godB_lt31 _ _ _ | exact pop_lt31 _ | assumption | exact b31 (hW.gp (by omega)) | exact b31 (hW.ne (by omega)) | exact b31 (hW.op (by omega)) | exact and31 (hW.gp (by omega)) | exact and31 (hW.ne (by omega)) | exact and31 (hW.op (by omega)) | exact and31 (by assumption) | exact and31r (hW.ne (by omega)) | exact and31r (hW.gp (by omega)) | exact and31r (by decide)) (by first | omega | exact ite01_lt | exact bt8_lt31 _ _ | exact godB_lt31 _ _ _ | exact pop_lt31 _ | assumption | exact b31 (hW.gp (by omega)) | exact b31 (hW.ne (by omega)) | exact b31 (hW.op (by omega)) | exact and31 (hW.gp (by omega)) | exact and31 (hW.ne (by omega)) | exact and31 (hW.op (by omega)) | exact and31 (by assumption) | exact and31r (hW.ne (by omega)) | exact and31r (hW.gp (by omega)) | exact and31r (by decide)) (fun c_15 => ?_) (fun c_15 => ?_)
      · refine mm_ciN 0 d_Re_isFull_22 rfl ?_
        exact mm_rz d_Re_isFull_23 (by first | (rw [if_pos (fu_i.mpr (by omega))] at h; exact h) | (rw [if_neg (fun z => by have := fu_i.mp z; omega)] at h; exact h))
      · refine mm_ciN 1 d_Re_isFull_18 rfl ?_
        refine mm_goto d_Re_isFull_19 ?_
        exact mm_rz d_Re_isFull_23 (by first | (rw [if_pos (fu_i.mpr (by omega))] at h; exact h) | (rw [if_neg (fun z => by have := fu_i.mp z; omega)] at h; exact h))
theorem sp_Re_canBe {X : mm_X} {μ : mm_M} {q : Int32 → mm_M → Prop} {k i : Nat} {v : Nat → Nat} (hM : SK μ) (hk : k < 13) (hi3 : i < 3) (hv : ∀ j, j ≤ i → mm_I μ 51 j = nI (v j) ∧ v j < 100) (h : q (nI (if cb k v i then 1 else 0)) μ) : mm_Ci X 0 0 0 k_Re_canBe [.ref 36, .int (nI k), .int (nI i)] μ q := by
  show mm_T X 0 0 0 k_Re_canBe 0 [some (.ref 36), some (.int (nI k)), some (.int (nI i)), none] [] μ _
  have hvi := (hv i (Nat.le_refl i)).1
  have hvb := (hv i (Nat.le_refl i)).2
  have hh := (hi_i (k * 3 + i) (by omega)).2
  have loop : v i ≤ hi (k * 3 + i) → (k = 4 ∧ i = 1 → 1 ≤ v i) → (k = 0 ∨ k = 2) → ∀ (m b : Nat) (l3 : Option Value), i - b = m → b ≤ i → (∀ j, j < b → v j ≠ v i) → mm_T X 0 0 0 k_Re_canBe 57 [some (.ref 36), some (.int (nI k)), some (.int (nI i)), some (.int (nI b))] [] μ (fun w μ' => ∃ r, w = some (.int r) ∧ q r μ') := by
    intro z1 z2 z3 m
    induction m with
    | zero =>
      intro b l3 hm hb hj
      rw [if_pos (cb_i.mpr ⟨z1, z2, fun _ j hj' => hj j (by omega)⟩)] at h
      refine mm_iload d_Re_canBe_57 rfl ?_
      refine mm_iload d_Re_canBe_58 rfl ?_
      refine mm_icmp_geN d_Re_canBe_59 (by first | omega | exact ite01_lt | exact bt8_lt31 _ _ | exact godB_lt31 _ _ _ | exact pop_lt31 _ | assumption | exact b31 (hW.gp (by omega)) | exact b31 (hW.ne (by omega)) | exact b31 (hW.op (by omega)) | exact and31 (hW.gp (by omega)) | exact and31 (hW.ne (by omega)) | exact and31 (hW.op (by omega)) | exact and31 (by assumption) | exact and31r (hW.ne (by omega)) | exact and31r (hW.gp (by omega)) | exact and31r (by decide)) (by first | omega | exact ite01_lt | exact bt8_lt31 _ _ | exact godB_lt31 _ _ _ | exact pop_lt31 _ | assumption | exact b31 (hW.gp (by omega)) | exact b31 (hW.ne (by omega)) | exact b31 (hW.op (by omega)) | exact and31 (hW.gp (by omega)) | exact and31 (hW.ne (by omega)) | exact and31 (hW.op (by omega)) | exact and31 (by assumption) | exact and31r (hW.ne (by omega)) | exact and31r (hW.gp (by omega)) | exact and31r (by decide)) (fun c_59 => ?_) (fun c_59 => False.elim (by omega))
      refine mm_ciN 1 d_Re_canBe_85 rfl ?_
      exact mm_rz d_Re_canBe_86 h
    | succ m ih =>
      intro b l3 hm hb hj
      have hb3 := (hv b (by omega)).1
      have hb4 := (hv b (by omega)).2
      refine mm_iload d_Re_canBe_57 rfl ?_
      refine mm_iload d_Re_canBe_58 rfl ?_
      refine mm_icmp_geN d_Re_canBe_59 (by first | omega | exact ite01_lt | exact bt8_lt31 _ _ | exact godB_lt31 _ _ _ | exact pop_lt31 _ | assumption | exact b31 (hW.gp (by omega)) | exact b31 (hW.ne (by omega)) | exact b31 (hW.op (by omega)) | exact and31 (hW.gp (by omega)) | exact and31 (hW.ne (by omega)) | exact and31 (hW.op (by omega)) | exact and31 (by assumption) | exact and31r (hW.ne (by omega)) | exact and31r (hW.gp (by omega)) | exact and31r (by decide)) (by first | omega | exact ite01_lt | exact bt8_lt31 _ _ | exact godB_lt31 _ _ _ | exact pop_lt31 _ | assumption | exact b31 (hW.gp (by omega)) | exact b31 (hW.ne (by omega)) | exact b31 (hW.op (by omega)) | exact and31 (hW.gp (by omega)) | exact and31 (hW.ne (by omega)) | exact and31 (hW.op (by omega)) | exact and31 (by assumption) | exact and31r (hW.ne (by omega)) | exact and31r (hW.gp (by omega)) | exact and31r (by decide)) (fun c_59 => False.elim (by omega)) (fun c_59 => ?_)
      refine mm_aload d_Re_canBe_62 rfl ?_
      refine mm_getP d_Re_canBe_63 rfl (sk_o_36 hM) (sk_p_36_5 hM) ?_
      refine mm_iload d_Re_canBe_66 rfl ?_
      refine mm_ialdN d_Re_canBe_67 (sk_a_51 hM) (by omega) (by decide) hb3 ?_
      refine mm_aload d_Re_canBe_68 rfl ?_
      refine mm_getP d_Re_canBe_69 rfl (sk_o_36 hM) (sk_p_36_5 hM) ?_
      refine mm_iload d_Re_canBe_72 rfl ?_
      refine mm_ialdN d_Re_canBe_73 (sk_a_51 hM) (by omega) (by decide) hvi ?_
      refine mm_icmp_neN d_Re_canBe_74 (by first | omega | exact ite01_lt | exact bt8_lt31 _ _ | exact godB_lt31 _ _ _ | exact pop_lt31 _ | assumption | exact b31 (hW.gp (by omega)) | exact b31 (hW.ne (by omega)) | exact b31 (hW.op (by omega)) | exact and31 (hW.gp (by omega)) | exact and31 (hW.ne (by omega)) | exact and31 (hW.op (by omega)) | exact and31 (by assumption) | exact and31r (hW.ne (by omega)) | exact and31r (hW.gp (by omega)) | exact and31r (by decide)) (by first | omega | exact ite01_lt | exact bt8_lt31 _ _ | exact godB_lt31 _ _ _ | exact pop_lt31 _ | assumption | exact b31 (hW.gp (by omega)) | exact b31 (hW.ne (by omega)) | exact b31 (hW.op (by omega)) | exact and31 (hW.gp (by omega)) | exact and31 (hW.ne (by omega)) | exact and31 (hW.op (by omega)) | exact and31 (by assumption) | exact and31r (hW.ne (by omega)) | exact and31r (hW.gp (by omega)) | exact and31r (by decide)) (fun c_74 => ?_) (fun c_74 => ?_)
      · refine mm_inc3N d_Re_canBe_79 ?_
        refine mm_goto d_Re_canBe_82 ?_
        exact ih (b + 1) l3 (by omega) (by omega) (fun j hj' => by by_cases w : j < b; exact hj j w; rw [show j = b by omega]; exact c_74)
      · refine mm_ciN 0 d_Re_canBe_77 rfl ?_
        rw [if_neg (fun w => (cb_i.mp w).2.2 z3 b (by omega) c_74)] at h
        exact mm_rz d_Re_canBe_78 h
  refine mm_aload d_Re_canBe_0 rfl ?_
  refine mm_getP d_Re_canBe_1 rfl (sk_o_36 hM) (sk_p_36_5 hM) ?_
  refine mm_iload d_Re_canBe_4 rfl ?_
  refine mm_ialdN d_Re_canBe_5 (sk_a_51 hM) (by omega) (by decide) hvi ?_
  refine mm_gets d_Re_canBe_6 ?_
  refine mm_iload d_Re_canBe_9 rfl ?_
  refine mm_ciN 3 d_Re_canBe_10 rfl ?_
  refine mm_imulN d_Re_canBe_11 ?_
  refine mm_iload d_Re_canBe_12 rfl ?_
  refine mm_iaddN d_Re_canBe_13 ?_
  refine mm_khig d_Re_canBe_14 (by omega) ?_
  refine mm_icmp_leN d_Re_canBe_15 (by first | omega | exact ite01_lt | exact bt8_lt31 _ _ | exact godB_lt31 _ _ _ | exact pop_lt31 _ | assumption | exact b31 (hW.gp (by omega)) | exact b31 (hW.ne (by omega)) | exact b31 (hW.op (by omega)) | exact and31 (hW.gp (by omega)) | exact and31 (hW.ne (by omega)) | exact and31 (hW.op (by omega)) | exact and31 (by assumption) | exact and31r (hW.ne (by omega)) | exact and31r (hW.gp (by omega)) | exact and31r (by decide)) (by first | omega | exact ite01_lt | exact bt8_lt31 _ _ | exact godB_lt31 _ _ _ | exact pop_lt31 _ | assumption | exact b31 (hW.gp (by omega)) | exact b31 (hW.ne (by omega)) | exact b31 (hW.op (by omega)) | exact and31 (hW.gp (by omega)) | exact and31 (hW.ne (by omega)) | exact and31 (hW.op (by omega)) | exact and31 (by assumption) | exact and31r (hW.ne (by omega)) | exact and31r (hW.gp (by omega)) | exact and31r (by decide)) (fun c_15 => ?_) (fun c_15 => ?_)
  · refine mm_iload d_Re_canBe_20 rfl ?_
    refine mm_ciN 4 d_Re_canBe_21 rfl ?_
    refine mm_icmp_neN d_Re_canBe_22 (by first | omega | exact ite01_lt | exact bt8_lt31 _ _ | exact godB_lt31 _ _ _ | exact pop_lt31 _ | assumption | exact b31 (hW.gp (by omega)) | exact b31 (hW.ne (by omega)) | exact b31 (hW.op (by omega)) | exact and31 (hW.gp (by omega)) | exact and31 (hW.ne (by omega)) | exact and31 (hW.op (by omega)) | exact and31 (by assumption) | exact and31r (hW.ne (by omega)) | exact and31r (hW.gp (by omega)) | exact and31r (by decide)) (by first | omega | exact ite01_lt | exact bt8_lt31 _ _ | exact godB_lt31 _ _ _ | exact pop_lt31 _ | assumption | exact b31 (hW.gp (by omega)) | exact b31 (hW.ne (by omega)) | exact b31 (hW.op (by omega)) | exact and31 (hW.gp (by omega)) | exact and31 (hW.ne (by omega)) | exact and31 (hW.op (by omega)) | exact and31 (by assumption) | exact and31r (hW.ne (by omega)) | exact and31r (hW.gp (by omega)) | exact and31r (by decide)) (fun c_22 => ?_) (fun c_22 => ?_)
    · refine mm_iload d_Re_canBe_46 rfl ?_
      refine mm_if_eqN d_Re_canBe_47 (by first | omega | exact ite01_lt | exact bt8_lt31 _ _ | exact godB_lt31 _ _ _ | exact pop_lt31 _ | assumption | exact b31 (hW.gp (by omega)) | exact b31 (hW.ne (by omega)) | exact b31 (hW.op (by omega)) | exact and31 (hW.gp (by omega)) | exact and31 (hW.ne (by omega)) | exact and31 (hW.op (by omega)) | exact and31 (by assumption) | exact and31r (hW.ne (by omega)) | exact and31r (hW.gp (by omega)) | exact and31r (by decide)) (fun c_47 => ?_) (fun c_47 => ?_)
      · refine mm_ciN 0 d_Re_canBe_55 rfl ?_
        refine mm_ist3 d_Re_canBe_56 ?_
        exact loop c_15 (fun z => by omega) (by omega) i 0 none rfl (Nat.zero_le _) (fun j hj => absurd hj (Nat.not_lt_zero j))
      · refine mm_iload d_Re_canBe_50 rfl ?_
        refine mm_ciN 2 d_Re_canBe_51 rfl ?_
        refine mm_icmp_neN d_Re_canBe_52 (by first | omega | exact ite01_lt | exact bt8_lt31 _ _ | exact godB_lt31 _ _ _ | exact pop_lt31 _ | assumption | exact b31 (hW.gp (by omega)) | exact b31 (hW.ne (by omega)) | exact b31 (hW.op (by omega)) | exact and31 (hW.gp (by omega)) | exact and31 (hW.ne (by omega)) | exact and31 (hW.op (by omega)) | exact and31 (by assumption) | exact and31r (hW.ne (by omega)) | exact and31r (hW.gp (by omega)) | exact and31r (by decide)) (by first | omega | exact ite01_lt | exact bt8_lt31 _ _ | exact godB_lt31 _ _ _ | exact pop_lt31 _ | assumption | exact b31 (hW.gp (by omega)) | exact b31 (hW.ne (by omega)) | exact b31 (hW.op (by omega)) | exact and31 (hW.gp (by omega)) | exact and31 (hW.ne (by omega)) | exact and31 (hW.op (by omega)) | exact and31 (by assumption) | exact and31r (hW.ne (by omega)) | exact and31r (hW.gp (by omega)) | exact and31r (by decide)) (fun c_52 => ?_) (fun c_52 => ?_)
        · refine mm_ciN 1 d_Re_canBe_85 rfl ?_
          rw [if_pos (cb_i.mpr ⟨c_15, fun z => by omega, fun z => by omega⟩)] at h
          exact mm_rz d_Re_canBe_86 h
        · refine mm_ciN 0 d_Re_canBe_55 rfl ?_
          refine mm_ist3 d_Re_canBe_56 ?_
          exact loop c_15 (fun z => by omega) (by omega) i 0 none rfl (Nat.zero_le _) (fun j hj => absurd hj (Nat.not_lt_zero j))
    · refine mm_iload d_Re_canBe_25 rfl ?_
      refine mm_ciN 1 d_Re_canBe_26 rfl ?_
      refine mm_icmp_neN d_Re_canBe_27 (by first | omega | exact ite01_lt | exact bt8_lt31 _ _ | exact godB_lt31 _ _ _ | exact pop_lt31 _ | assumption | exact b31 (hW.gp (by omega)) | exact b31 (hW.ne (by omega)) | exact b31 (hW.op (by omega)) | exact and31 (hW.gp (by omega)) | exact and31 (hW.ne (by omega)) | exact and31 (hW.op (by omega)) | exact and31 (by assumption) | exact and31r (hW.ne (by omega)) | exact and31r (hW.gp (by omega)) | exact and31r (by decide)) (by first | omega | exact ite01_lt | exact bt8_lt31 _ _ | exact godB_lt31 _ _ _ | exact pop_lt31 _ | assumption | exact b31 (hW.gp (by omega)) | exact b31 (hW.ne (by omega)) | exact b31 (hW.op (by omega)) | exact and31 (hW.gp (by omega)) | exact and31 (hW.ne (by omega)) | exact and31 (hW.op (by omega)) | exact and31 (by assumption) | exact and31r (hW.ne (by omega)) | exact and31r (hW.gp (by omega)) | exact and31r (by decide)) (fun c_27 => ?_) (fun c_27 => ?_)
      · refine mm_iload d_Re_canBe_46 rfl ?_
        refine mm_if_eqN d_Re_canBe_47 (by first | omega | exact ite01_lt | exact bt8_lt31 _ _ | exact godB_lt31 _ _ _ | exact pop_lt31 _ | assumption | exact b31 (hW.gp (by omega)) | exact b31 (hW.ne (by omega)) | exact b31 (hW.op (by omega)) | exact and31 (hW.gp (by omega)) | exact and31 (hW.ne (by omega)) | exact and31 (hW.op (by omega)) | exact and31 (by assumption) | exact and31r (hW.ne (by omega)) | exact and31r (hW.gp (by omega)) | exact and31r (by decide)) (fun c_47 => ?_) (fun c_47 => ?_)
        · refine mm_ciN 0 d_Re_canBe_55 rfl ?_
          refine mm_ist3 d_Re_canBe_56 ?_
          exact loop c_15 (fun z => by omega) (by omega) i 0 none rfl (Nat.zero_le _) (fun j hj => absurd hj (Nat.not_lt_zero j))
        · refine mm_iload d_Re_canBe_50 rfl ?_
          refine mm_ciN 2 d_Re_canBe_51 rfl ?_
          refine mm_icmp_neN d_Re_canBe_52 (by first | omega | exact ite01_lt | exact bt8_lt31 _ _ | exact godB_lt31 _ _ _ | exact pop_lt31 _ | assumption | exact b31 (hW.gp (by omega)) | exact b31 (hW.ne (by omega)) | exact b31 (hW.op (by omega)) | exact and31 (hW.gp (by omega)) | exact and31 (hW.ne (by omega)) | exact and31 (hW.op (by omega)) | exact and31 (by assumption) | exact and31r (hW.ne (by omega)) | exact and31r (hW.gp (by omega)) | exact and31r (by decide)) (by first | omega | exact ite01_lt | exact bt8_lt31 _ _ | exact godB_lt31 _ _ _ | exact pop_lt31 _ | assumption | exact b31 (hW.gp (by omega)) | exact b31 (hW.ne (by omega)) | exact b31 (hW.op (by omega)) | exact and31 (hW.gp (by omega)) | exact and31 (hW.ne (by omega)) | exact and31 (hW.op (by omega)) | exact and31 (by assumption) | exact and31r (hW.ne (by omega)) | exact and31r (hW.gp (by omega)) | exact and31r (by decide)) (fun c_52 => ?_) (fun c_52 => ?_)
          · refine mm_ciN 1 d_Re_canBe_85 rfl ?_
            rw [if_pos (cb_i.mpr ⟨c_15, fun z => by omega, fun z => by omega⟩)] at h
            exact mm_rz d_Re_canBe_86 h
          · refine mm_ciN 0 d_Re_canBe_55 rfl ?_
            refine mm_ist3 d_Re_canBe_56 ?_
            exact loop c_15 (fun z => by omega) (by omega) i 0 none rfl (Nat.zero_le _) (fun j hj => absurd hj (Nat.not_lt_zero j))
      · refine mm_aload d_Re_canBe_30 rfl ?_
        refine mm_getP d_Re_canBe_31 rfl (sk_o_36 hM) (sk_p_36_5 hM) ?_
        refine mm_iload d_Re_canBe_34 rfl ?_
        refine mm_ialdN d_Re_canBe_35 (sk_a_51 hM) (by omega) (by decide) hvi ?_
        refine mm_ciN 1 d_Re_canBe_36 rfl ?_
        refine mm_icmp_ltN d_Re_canBe_37 (by first | omega | exact ite01_lt | exact bt8_lt31 _ _ | exact godB_lt31 _ _ _ | exact pop_lt31 _ | assumption | exact b31 (hW.gp (by omega)) | exact b31 (hW.ne (by omega)) | exact b31 (hW.op (by omega)) | exact and31 (hW.gp (by omega)) | exact and31 (hW.ne (by omega)) | exact and31 (hW.op (by omega)) | exact and31 (by assumption) | exact and31r (hW.ne (by omega)) | exact and31r (hW.gp (by omega)) | exact and31r (by decide)) (by first | omega | exact ite01_lt | exact bt8_lt31 _ _ | exact godB_lt31 _ _ _ | exact pop_lt31 _ | assumption | exact b31 (hW.gp (by omega)) | exact b31 (hW.ne (by omega)) | exact b31 (hW.op (by omega)) | exact and31 (hW.gp (by omega)) | exact and31 (hW.ne (by omega)) | exact and31 (hW.op (by omega)) | exact and31 (by assumption) | exact and31r (hW.ne (by omega)) | exact and31r (hW.gp (by omega)) | exact and31r (by decide)) (fun c_37 => ?_) (fun c_37 => ?_)
        · refine mm_ciN 0 d_Re_canBe_44 rfl ?_
          first
            | (rw [if_pos (cb_i.mpr ⟨c_15, fun _ => by omega, fun z => by omega⟩)] at h; exact mm_rz d_Re_canBe_45 h)
            | (rw [if_neg (fun w => absurd ((cb_i.mp w).2.1 ⟨by omega, by omega⟩) (by omega))] at h; exact mm_rz d_Re_canBe_45 h)
        · refine mm_ciN 1 d_Re_canBe_40 rfl ?_
          refine mm_goto d_Re_canBe_41 ?_
          first
            | (rw [if_pos (cb_i.mpr ⟨c_15, fun _ => by omega, fun z => by omega⟩)] at h; exact mm_rz d_Re_canBe_45 h)
            | (rw [if_neg (fun w => absurd ((cb_i.mp w).2.1 ⟨by omega, by omega⟩) (by omega))] at h; exact mm_rz d_Re_canBe_45 h)
  · refine mm_ciN 0 d_Re_canBe_18 rfl ?_
    rw [if_neg (fun w => absurd (cb_i.mp w).1 (by omega))] at h
    exact mm_rz d_Re_canBe_19 h
