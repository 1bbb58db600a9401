/-! the data of a coast, in the class and in the model; what stays -/
abbrev mm_D : Type := Nat × Nat × (Nat → Nat) × (Nat → Nat) × (Nat → Nat) × (Nat → Nat) × (Nat → Nat) × (Nat → Nat)
def dn (D : mm_D) : Nat := D.1
def dw (D : mm_D) : Nat := D.2.1
def dch (D : mm_D) : Nat → Nat := D.2.2.1
def dpa (D : mm_D) : Nat → Nat := D.2.2.2.1
def dop (D : mm_D) : Nat → Nat := D.2.2.2.2.1
def dgp (D : mm_D) : Nat → Nat := D.2.2.2.2.2.1
def dwo (D : mm_D) : Nat → Nat := D.2.2.2.2.2.2.1
def dne (D : mm_D) : Nat → Nat := D.2.2.2.2.2.2.2
def WfD (D : mm_D) : Prop := dn D ≤ 6 ∧ dw D ≤ 6 ∧ (∀ j, j < 8 → dch D j ≤ 10 ∧ 1 ≤ dpa D j ∧ dpa D j ≤ 9 ∧ dop D j < 256) ∧ (∀ j, j < 6 → dgp D j < 256 ∧ dwo D j ≤ 20 ∧ dne D j < 256) ∧ (∀ j, j < dn D → pop (dgp D j) = 3) ∧ ∀ i j, i < 8 → j < 8 → bt8 (dop D i) j = bt8 (dop D j) i ∧ bt8 (dop D i) i = 0
/-- a coast of the class at a, one of the model's at the place b of its row -/
def CoD (μ : mm_M) (a : Nat) (D : mm_D) : Prop := CoS μ a ∧ mm_I μ a 6 = nI (dn D) ∧ mm_I μ a 7 = nI (dw D) ∧ (∀ j, j < 8 → mm_I μ (a + 1) j = nI (dch D j) ∧ mm_I μ (a + 2) j = nI (dpa D j) ∧ mm_I μ (a + 3) j = nI (dop D j)) ∧ ∀ j, j < 6 → mm_I μ (a + 4) j = nI (dgp D j) ∧ mm_I μ (a + 5) j = nI (dwo D j) ∧ mm_I μ (a + 6) j = nI (dne D j)
def CoM (μ : mm_M) (b : Nat) (D : mm_D) : Prop := mm_I μ 77 b = nI (dn D) ∧ mm_I μ 77 (b + 1) = nI (dw D) ∧ (∀ j, j < 8 → mm_I μ 77 (b + (2 + j)) = nI (dch D j) ∧ mm_I μ 77 (b + (10 + j)) = nI (dpa D j) ∧ mm_I μ 77 (b + (18 + j)) = nI (dop D j)) ∧ ∀ j, j < 6 → mm_I μ 77 (b + (26 + j)) = nI (dgp D j) ∧ mm_I μ 77 (b + (32 + j)) = nI (dwo D j) ∧ mm_I μ 77 (b + (38 + j)) = nI (dne D j)
/-- only cells of S have changed, none is new, the skeleton stands -/
def Fr (S : Nat → Bool) (μ μ' : mm_M) : Prop := mm_n μ' = mm_n μ ∧ mm_sh μ' = mm_sh μ ∧ (∀ a, S a = false → mm_I μ' a = mm_I μ a ∧ mm_J μ' a = mm_J μ a ∧ mm_P μ' a = mm_P μ a) ∧ (SK μ → SK μ')
theorem Fr.rf {S : Nat → Bool} {μ : mm_M} : Fr S μ μ := ⟨rfl, rfl, fun _ _ => ⟨rfl, rfl, rfl⟩, fun h => h⟩
theorem Fr.trans {S : Nat → Bool} {μ μ' μ'' : mm_M} (h : Fr S μ μ') (h' : Fr S μ' μ'') : Fr S μ μ'' := ⟨h'.1.trans h.1, h'.2.1.trans h.2.1, fun a ha => ⟨(h'.2.2.1 a ha).1.trans (h.2.2.1 a ha).1, (h'.2.2.1 a ha).2.1.trans (h.2.2.1 a ha).2.1, (h'.2.2.1 a ha).2.2.trans (h.2.2.1 a ha).2.2⟩, fun z => h'.2.2.2 (h.2.2.2 z)⟩
theorem Fr.sI {S : Nat → Bool} {μ μ' : mm_M} {a j : Nat} {x : Int32} (h : Fr S μ μ') (ha : S a = true) : Fr S μ (mm_sI μ' a j x) := h.trans ⟨rfl, rfl, fun b hb => ⟨mm_sI_off (fun e => by rw [e, ha] at hb; cases hb), rfl, rfl⟩, fun z => z⟩
theorem Fr.sJ {S : Nat → Bool} {μ μ' : mm_M} {a j : Nat} {x : Int64} (h : Fr S μ μ') (ha : S a = true) : Fr S μ (mm_sJ μ' a j x) := h.trans ⟨rfl, rfl, fun b hb => ⟨rfl, mm_sJ_off (fun e => by rw [e, ha] at hb; cases hb), rfl⟩, fun z => z⟩
theorem Fr.sP {S : Nat → Bool} {μ μ' : mm_M} {a j : Nat} {x : Option Nat} (h : Fr S μ μ') (ha : S a = true) (hb : ∀ e ∈ sk_P, ¬ (e.1 = a ∧ e.2.1 = j)) : Fr S μ (mm_sP μ' a j x) := h.trans ⟨rfl, rfl, fun b hb => ⟨rfl, rfl, mm_sP_off (fun e => by rw [e, ha] at hb; cases hb)⟩, fun z => z.sP hb⟩
theorem Fr.cp {S : Nat → Bool} {μ μ' : mm_M} {a b sp dp k : Nat} (h : Fr S μ μ') (hb : S b = true) : Fr S μ (mm_cp μ' a b sp dp k) := h.trans ⟨rfl, rfl, fun q hq => ⟨mm_cp_off (fun e => by rw [e, hb] at hq; cases hq), rfl, rfl⟩, fun z => z⟩
theorem Fr.sub {S T : Nat → Bool} {μ μ' : mm_M} (h : Fr S μ μ') (hs : ∀ a, S a = true → T a = true) : Fr T μ μ' := ⟨h.1, h.2.1, fun a ha => h.2.2.1 a (by cases e : S a with | false => rfl | true => rw [hs a e] at ha; cases ha), h.2.2.2⟩
/-- the model's scratch: its own fields, its rows 80 to 93; the class's: 36 to 70 -/
def scM (a : Nat) : Bool := a == 71 || (80 ≤ a && a ≤ 93)
def scC (a : Nat) : Bool := 36 ≤ a && a ≤ 70
theorem CoM.fr {S : Nat → Bool} {μ μ' : mm_M} {b : Nat} {D : mm_D} (h : CoM μ b D) (hf : Fr S μ μ') (hs : S 77 = false) : CoM μ' b D := by
  have e := (hf.2.2.1 77 hs).1
  unfold CoM
  rw [e]
  exact h
/-! rows as wholes -/
def mm_row (μ : mm_M) (a : Nat) (f : Nat → Int32) : mm_M := (μ.1, μ.2.1, fun b => if b = a then f else μ.2.2.1 b, μ.2.2.2.1, μ.2.2.2.2)
theorem mm_row_at {μ : mm_M} {a : Nat} {f : Nat → Int32} : mm_I (mm_row μ a f) a = f := by simp [mm_I, mm_row]
theorem mm_row_off {μ : mm_M} {a b : Nat} {f : Nat → Int32} (h : b ≠ a) : mm_I (mm_row μ a f) b = mm_I μ b := by simp [mm_I, mm_row, h]
theorem mm_row_sI {μ : mm_M} {a j : Nat} {f : Nat → Int32} {x : Int32} : mm_sI (mm_row μ a f) a j x = mm_row μ a (upd f j x) := by
  unfold mm_sI mm_row
  simp only [if_true]
  congr 3
  funext b
  by_cases h : b = a <;> simp [h]
theorem mm_row_id {μ : mm_M} {a : Nat} : mm_row μ a (mm_I μ a) = μ := by
  obtain ⟨n, sh, I, J, P⟩ := μ
  unfold mm_row mm_I
  simp only
  congr 3
  funext b
  by_cases h : b = a <;> simp [h]
theorem Fr.row {S : Nat → Bool} {μ μ' : mm_M} {a : Nat} {f : Nat → Int32} (h : Fr S μ μ') (ha : S a = true) : Fr S μ (mm_row μ' a f) := h.trans ⟨rfl, rfl, fun b hb => ⟨mm_row_off (fun e => by rw [e, ha] at hb; cases hb), rfl, rfl⟩, fun z => z⟩
theorem upd_lt {i : Nat} {x : Int32} {g : Nat → Int32} : upd (fun j => if j < i then x else g j) i x = fun j => if j < i + 1 then x else g j := by
  funext j
  show (if j = i then x else if j < i then x else g j) = _
  by_cases e : j = i
  · rw [if_pos e, if_pos (by omega)]
  · by_cases e2 : j < i
    · rw [if_neg e, if_pos e2, if_pos (by omega)]
    · rw [if_neg e, if_neg e2, if_neg (by omega)]
/-- Arrays.fill of ints -/
theorem sp_Arr_fillI {X : mm_X} {μ : mm_M} {q : mm_M → Prop} {a k : Nat} {x : Int32} (ha : mm_ar μ a 0 k) (hk : k < 2 ^ 31) (h : q (mm_row μ a (fun j => if j < k then x else mm_I μ a j))) : mm_Cv X 0 0 0 k_Arr_fillI [.ref a, .int x] μ q := by
  show mm_T X 0 0 0 k_Arr_fillI 0 [some (.ref a), some (.int x), none, none] [] μ _
  refine mm_ci d_Arr_fillI_0 ?_
  refine mm_ist2 d_Arr_fillI_1 ?_
  refine mm_aload d_Arr_fillI_2 rfl ?_
  refine mm_alen d_Arr_fillI_3 ha ?_
  refine mm_ist3 d_Arr_fillI_4 ?_
  have h0 : μ = mm_row μ a (fun j => if j < 0 then x else mm_I μ a j) := by
    rw [show (fun j => if j < 0 then x else mm_I μ a j) = mm_I μ a from funext fun j => if_neg (Nat.not_lt_zero j)]
    exact mm_row_id.symm
  rw [h0]
  refine mm_up (P := fun i => mm_T X 0 0 0 k_Arr_fillI 5 [some (.ref a), some (.int x), some (.int (nI i)), some (.int (nI k))] [] (mm_row μ a (fun j => if j < i then x else mm_I μ a j)) _) k ?_ (fun i hi ih => ?_)
  · refine mm_iload d_Arr_fillI_5 rfl ?_
    refine mm_iload d_Arr_fillI_6 rfl ?_
    refine mm_icmp_ge d_Arr_fillI_7 (fun _ => ?_) (fun c => absurd (Int32.le_refl _) c)
    exact mm_rv d_Arr_fillI_20 h
  · refine mm_iload d_Arr_fillI_5 rfl ?_
    refine mm_iload d_Arr_fillI_6 rfl ?_
    refine mm_icmp_ge d_Arr_fillI_7 (fun c => absurd c (nI_ge hi hk)) (fun _ => ?_)
    refine mm_aload d_Arr_fillI_10 rfl ?_
    refine mm_iload d_Arr_fillI_11 rfl ?_
    refine mm_iload d_Arr_fillI_12 rfl ?_
    refine mm_iast d_Arr_fillI_13 ha (vp_in_nI hi hk) ?_
    rw [mm_row_sI, nI_clamp (by omega)]
    refine mm_inc2 d_Arr_fillI_14 ?_
    refine mm_goto d_Arr_fillI_17 ?_
    rw [nI_1, upd_lt]
    exact ih
