/-! constructors: the memory behind each -/
theorem mm_ob.new {μ : mm_M} {a c : Nat} {q : Nat × Nat} (h : mm_ob μ a c) : mm_ob (mm_new μ q) a c := ⟨Nat.lt_succ_of_lt h.1, by show (if a = μ.1 then q else μ.2.1 a) = (c, 0); rw [if_neg (show ¬ a = μ.1 from Nat.ne_of_lt h.1)]; exact h.2.1, h.2.2⟩
theorem mm_ar.new {μ : mm_M} {a t k : Nat} {q : Nat × Nat} (h : mm_ar μ a t k) : mm_ar (mm_new μ q) a t k := ⟨Nat.lt_succ_of_lt h.1, by show (if a = μ.1 then q else μ.2.1 a) = (20 + t, k); rw [if_neg (show ¬ a = μ.1 from Nat.ne_of_lt h.1)]; exact h.2.1, h.2.2⟩
theorem mm_ob.self {μ : mm_M} {a c : Nat} (ha : mm_n μ = a) (hc : c < 11) : mm_ob (mm_new μ (c, 0)) a c := by
  subst ha
  exact ⟨Nat.lt_succ_self _, by show (if μ.1 = μ.1 then (c, 0) else _) = (c, 0); rw [if_pos rfl], hc⟩
theorem mm_ar.self {μ : mm_M} {a t k : Nat} (ha : mm_n μ = a) (ht : t < 8) : mm_ar (mm_new μ (20 + t, k)) a t k := by
  subst ha
  exact ⟨Nat.lt_succ_self _, by show (if μ.1 = μ.1 then (20 + t, k) else _) = (20 + t, k); rw [if_pos rfl], ht⟩
theorem mm_ob.sP {μ : mm_M} {a c b j : Nat} {x : Option Nat} (h : mm_ob μ a c) : mm_ob (mm_sP μ b j x) a c := h
theorem mm_ar.sP {μ : mm_M} {a t k b j : Nat} {x : Option Nat} (h : mm_ar μ a t k) : mm_ar (mm_sP μ b j x) a t k := h
theorem mm_ob.sI {μ : mm_M} {a c b j : Nat} {x : Int32} (h : mm_ob μ a c) : mm_ob (mm_sI μ b j x) a c := h
theorem mm_ar.sI {μ : mm_M} {a t k b j : Nat} {x : Int32} (h : mm_ar μ a t k) : mm_ar (mm_sI μ b j x) a t k := h
theorem mm_P_at {μ : mm_M} {a j : Nat} {x : Option Nat} : mm_P (mm_sP μ a j x) a j = x := by rw [mm_sP_at]; exact if_pos rfl
theorem mm_P_here {μ : mm_M} {a c j : Nat} {x : Option Nat} (_h : mm_ob (mm_sP μ a j x) a c) : mm_P (mm_sP μ a j x) a j = x := mm_P_at
theorem mm_P_off {μ : mm_M} {a j i : Nat} {x r : Option Nat} (hij : i ≠ j) (h : mm_P μ a i = r) : mm_P (mm_sP μ a j x) a i = r := by rw [mm_sP_at, ← h]; exact if_neg hij
theorem mm_P_new {μ : mm_M} {a c i : Nat} {q : Nat × Nat} {r : Option Nat} (ho : mm_ob μ a c) (h : mm_P μ a i = r) : mm_P (mm_new μ q) a i = r := by rw [← h]; show (if a = μ.1 then _ else μ.2.2.2.2 a) i = _; rw [if_neg (show ¬ a = μ.1 from Nat.ne_of_lt ho.1)]; rfl
theorem mm_newO' {X : mm_X} {d nc ns : Nat} {K : mm_K} {pc n : Nat} {ls : List (Option Value)} {st : List Value} {μ : mm_M} {Q : Option Value → mm_M → Prop} {cl : Nat} (a : Nat) (hd : mm_nw K pc cl n) (ha : mm_n μ = a) (hn : a < 1000000) (h : mm_ob (mm_new μ (cl, 0)) a cl → mm_T X d nc ns K n ls (.ref a :: st) (mm_new μ (cl, 0)) Q) : mm_T X d (nc + 1) (ns + mm_nf cl) K pc ls st μ Q := by
  subst ha
  exact mm_newO hd hn (h (mm_ob.self rfl hd.2.2.1))
theorem mm_newA' {X : mm_X} {d nc ns : Nat} {K : mm_K} {pc n : Nat} {ls : List (Option Value)} {st : List Value} {μ : mm_M} {Q : Option Value → mm_M → Prop} {t : Nat} {x : Int32} (a k : Nat) (hd : mm_nr K pc t n) (ha : mm_n μ = a) (hn : a < 1000000) (hx : ¬ x < 0 ∧ x.toNatClampNeg = k ∧ k ≤ 10000) (h : mm_ar (mm_new μ (20 + t, k)) a t k → mm_T X d nc ns K n ls (.ref a :: st) (mm_new μ (20 + t, k)) Q) : mm_T X d (nc + 1) (ns + k) K pc ls (.int x :: st) μ Q := by
  subst ha
  exact mm_newA hd hx hn (h (mm_ar.self rfl (by have := hd.2.2.1; omega)))
theorem mm_newQ' {X : mm_X} {d nc ns : Nat} {K : mm_K} {pc n : Nat} {ls : List (Option Value)} {st : List Value} {μ : mm_M} {Q : Option Value → mm_M → Prop} {t : Nat} {x : Int32} (a k : Nat) (hd : mm_nq K pc t n) (ha : mm_n μ = a) (hn : a < 1000000) (hx : ¬ x < 0 ∧ x.toNatClampNeg = k ∧ k ≤ 10000) (h : mm_ar (mm_new μ (20 + (4 + t), k)) a (4 + t) k → mm_T X d nc ns K n ls (.ref a :: st) (mm_new μ (20 + (4 + t), k)) Q) : mm_T X d (nc + 1) (ns + k) K pc ls (.int x :: st) μ Q := by
  subst ha
  exact mm_newQ hd hx hn (h (mm_ar.self rfl (by have := hd.2.2; omega)))
theorem mm_i0w {X : mm_X} {d nc ns : Nat} {K : mm_K} {pc n : Nat} {ls : List (Option Value)} {μ : mm_M} {Q : Option Value → mm_M → Prop} {K' : mm_K} {d' r0 : Nat} {rest : List Value} (nc' ns' : Nat) (hd : mm_ci' K K' pc n 0) (hc : mm_Cv X d' nc' ns' K' [.ref r0] μ (fun μ' => mm_T X d nc ns K n ls rest μ' Q)) (hdd : d' + 1 ≤ d := by exact Nat.le_of_ble_eq_true rfl) (hav : (mm_as [.ref r0]).length ≤ K'.2.2.1 := by exact Nat.le_of_ble_eq_true rfl) (hcat : (rest.map fun v => v.category).sum ≤ 8 := by exact Nat.le_of_ble_eq_true rfl) : mm_T X d (nc + nc') (ns + ns') K pc ls (.ref r0 :: rest) μ Q := by
  rw [Nat.add_comm nc, Nat.add_comm ns]
  exact mm_i0v hd hc hdd hav hcat
def cCo (μ : mm_M) (a : Nat) : mm_M :=
  let μ1 := mm_new μ (20 + 0, 8)
  let μ2 := mm_sP μ1 a 0 (some (mm_n μ))
  let μ3 := mm_new μ2 (20 + 0, 8)
  let μ4 := mm_sP μ3 a 1 (some (mm_n μ + 1))
  let μ5 := mm_new μ4 (20 + 0, 8)
  let μ6 := mm_sP μ5 a 2 (some (mm_n μ + 2))
  let μ7 := mm_new μ6 (20 + 0, 6)
  let μ8 := mm_sP μ7 a 3 (some (mm_n μ + 3))
  let μ9 := mm_new μ8 (20 + 0, 6)
  let μ10 := mm_sP μ9 a 4 (some (mm_n μ + 4))
  let μ11 := mm_new μ10 (20 + 0, 6)
  let μ12 := mm_sP μ11 a 5 (some (mm_n μ + 5))
  μ12
theorem sp_Co_init {X : mm_X} {μ : mm_M} {q : mm_M → Prop} {a : Nat} (ho : mm_ob μ a 2) (hn : mm_n μ + 6 ≤ 1000000) (h : q (cCo μ a)) : mm_Cv X 1 6 42 k_Co_init [.ref a] μ q := by
  show mm_T X 1 6 42 k_Co_init 0 [some (.ref a)] [] μ _
  have h_a := ho
  refine mm_aload d_Co_init_0 rfl ?_
  refine mm_oinit d_Co_init_1 (Nat.le_of_ble_eq_true rfl) (Nat.le_of_ble_eq_true rfl) ?_
  refine mm_aload d_Co_init_4 rfl ?_
  refine mm_ci d_Co_init_5 ?_
  refine mm_newA' (mm_n μ) 8 d_Co_init_7 rfl (by omega) ⟨by decide, by decide, by decide⟩ (fun h_0 => ?_)
  have h_a := mm_ob.new (q := (20 + 0, 8)) h_a
  refine mm_putP d_Co_init_9 rfl (by decide) h_a (Or.inr ⟨rfl, rfl⟩) ?_
  have h_a := mm_ob.sP (b := a) (j := 0) (x := some (mm_n μ)) h_a
  refine mm_aload d_Co_init_12 rfl ?_
  refine mm_ci d_Co_init_13 ?_
  refine mm_newA' (mm_n μ + 1) 8 d_Co_init_15 rfl (by omega) ⟨by decide, by decide, by decide⟩ (fun h_1 => ?_)
  have h_a := mm_ob.new (q := (20 + 0, 8)) h_a
  refine mm_putP d_Co_init_17 rfl (by decide) h_a (Or.inr ⟨rfl, rfl⟩) ?_
  have h_a := mm_ob.sP (b := a) (j := 1) (x := some (mm_n μ + 1)) h_a
  refine mm_aload d_Co_init_20 rfl ?_
  refine mm_ci d_Co_init_21 ?_
  refine mm_newA' (mm_n μ + 2) 8 d_Co_init_23 rfl (by omega) ⟨by decide, by decide, by decide⟩ (fun h_2 => ?_)
  have h_a := mm_ob.new (q := (20 + 0, 8)) h_a
  refine mm_putP d_Co_init_25 rfl (by decide) h_a (Or.inr ⟨rfl, rfl⟩) ?_
  have h_a := mm_ob.sP (b := a) (j := 2) (x := some (mm_n μ + 2)) h_a
  refine mm_aload d_Co_init_28 rfl ?_
  refine mm_ci d_Co_init_29 ?_
  refine mm_newA' (mm_n μ + 3) 6 d_Co_init_31 rfl (by omega) ⟨by decide, by decide, by decide⟩ (fun h_3 => ?_)
  have h_a := mm_ob.new (q := (20 + 0, 6)) h_a
  refine mm_putP d_Co_init_33 rfl (by decide) h_a (Or.inr ⟨rfl, rfl⟩) ?_
  have h_a := mm_ob.sP (b := a) (j := 3) (x := some (mm_n μ + 3)) h_a
  refine mm_aload d_Co_init_36 rfl ?_
  refine mm_ci d_Co_init_37 ?_
  refine mm_newA' (mm_n μ + 4) 6 d_Co_init_39 rfl (by omega) ⟨by decide, by decide, by decide⟩ (fun h_4 => ?_)
  have h_a := mm_ob.new (q := (20 + 0, 6)) h_a
  refine mm_putP d_Co_init_41 rfl (by decide) h_a (Or.inr ⟨rfl, rfl⟩) ?_
  have h_a := mm_ob.sP (b := a) (j := 4) (x := some (mm_n μ + 4)) h_a
  refine mm_aload d_Co_init_44 rfl ?_
  refine mm_ci d_Co_init_45 ?_
  refine mm_newA' (mm_n μ + 5) 6 d_Co_init_47 rfl (by omega) ⟨by decide, by decide, by decide⟩ (fun h_5 => ?_)
  have h_a := mm_ob.new (q := (20 + 0, 6)) h_a
  refine mm_putP d_Co_init_49 rfl (by decide) h_a (Or.inr ⟨rfl, rfl⟩) ?_
  have h_a := mm_ob.sP (b := a) (j := 5) (x := some (mm_n μ + 5)) h_a
  exact mm_rv d_Co_init_52 h
theorem mm_ob.cCo {μ : mm_M} {a b : Nat} {c : Nat} (h : mm_ob μ a c) : mm_ob (cCo μ b) a c := mm_ob.sP (mm_ob.new (mm_ob.sP (mm_ob.new (mm_ob.sP (mm_ob.new (mm_ob.sP (mm_ob.new (mm_ob.sP (mm_ob.new (mm_ob.sP (mm_ob.new (h))))))))))))
theorem mm_ar.cCo {μ : mm_M} {a b : Nat} {t k : Nat} (h : mm_ar μ a t k) : mm_ar (cCo μ b) a t k := mm_ar.sP (mm_ar.new (mm_ar.sP (mm_ar.new (mm_ar.sP (mm_ar.new (mm_ar.sP (mm_ar.new (mm_ar.sP (mm_ar.new (mm_ar.sP (mm_ar.new (h))))))))))))
def cYe (μ : mm_M) (a : Nat) : mm_M :=
  let μ1 := mm_new μ (20 + 0, 40)
  let μ2 := mm_sP μ1 a 0 (some (mm_n μ))
  let μ3 := mm_new μ2 (20 + 0, 40)
  let μ4 := mm_sP μ3 a 1 (some (mm_n μ + 1))
  let μ5 := mm_new μ4 (20 + 0, 40)
  let μ6 := mm_sP μ5 a 2 (some (mm_n μ + 2))
  μ6
theorem sp_Ye_init {X : mm_X} {μ : mm_M} {q : mm_M → Prop} {a : Nat} (ho : mm_ob μ a 8) (hn : mm_n μ + 3 ≤ 1000000) (h : q (cYe μ a)) : mm_Cv X 1 3 120 k_Ye_init [.ref a] μ q := by
  show mm_T X 1 3 120 k_Ye_init 0 [some (.ref a)] [] μ _
  have h_a := ho
  refine mm_aload d_Ye_init_0 rfl ?_
  refine mm_oinit d_Ye_init_1 (Nat.le_of_ble_eq_true rfl) (Nat.le_of_ble_eq_true rfl) ?_
  refine mm_aload d_Ye_init_4 rfl ?_
  refine mm_ci d_Ye_init_5 ?_
  refine mm_newA' (mm_n μ) 40 d_Ye_init_7 rfl (by omega) ⟨by decide, by decide, by decide⟩ (fun h_0 => ?_)
  have h_a := mm_ob.new (q := (20 + 0, 40)) h_a
  refine mm_putP d_Ye_init_9 rfl (by decide) h_a (Or.inr ⟨rfl, rfl⟩) ?_
  have h_a := mm_ob.sP (b := a) (j := 0) (x := some (mm_n μ)) h_a
  refine mm_aload d_Ye_init_12 rfl ?_
  refine mm_ci d_Ye_init_13 ?_
  refine mm_newA' (mm_n μ + 1) 40 d_Ye_init_15 rfl (by omega) ⟨by decide, by decide, by decide⟩ (fun h_1 => ?_)
  have h_a := mm_ob.new (q := (20 + 0, 40)) h_a
  refine mm_putP d_Ye_init_17 rfl (by decide) h_a (Or.inr ⟨rfl, rfl⟩) ?_
  have h_a := mm_ob.sP (b := a) (j := 1) (x := some (mm_n μ + 1)) h_a
  refine mm_aload d_Ye_init_20 rfl ?_
  refine mm_ci d_Ye_init_21 ?_
  refine mm_newA' (mm_n μ + 2) 40 d_Ye_init_23 rfl (by omega) ⟨by decide, by decide, by decide⟩ (fun h_2 => ?_)
  have h_a := mm_ob.new (q := (20 + 0, 40)) h_a
  refine mm_putP d_Ye_init_25 rfl (by decide) h_a (Or.inr ⟨rfl, rfl⟩) ?_
  have h_a := mm_ob.sP (b := a) (j := 2) (x := some (mm_n μ + 2)) h_a
  exact mm_rv d_Ye_init_28 h
theorem mm_ob.cYe {μ : mm_M} {a b : Nat} {c : Nat} (h : mm_ob μ a c) : mm_ob (cYe μ b) a c := mm_ob.sP (mm_ob.new (mm_ob.sP (mm_ob.new (mm_ob.sP (mm_ob.new (h))))))
theorem mm_ar.cYe {μ : mm_M} {a b : Nat} {t k : Nat} (h : mm_ar μ a t k) : mm_ar (cYe μ b) a t k := mm_ar.sP (mm_ar.new (mm_ar.sP (mm_ar.new (mm_ar.sP (mm_ar.new (h))))))
def cLo (μ : mm_M) (a : Nat) : mm_M :=
  let μ1 := mm_new μ (20 + 0, 8)
  let μ2 := mm_sP μ1 a 0 (some (mm_n μ))
  let μ3 := mm_new μ2 (20 + 0, 8)
  let μ4 := mm_sP μ3 a 1 (some (mm_n μ + 1))
  μ4
theorem sp_Lo_init {X : mm_X} {μ : mm_M} {q : mm_M → Prop} {a : Nat} (ho : mm_ob μ a 4) (hn : mm_n μ + 2 ≤ 1000000) (h : q (cLo μ a)) : mm_Cv X 1 2 16 k_Lo_init [.ref a] μ q := by
  show mm_T X 1 2 16 k_Lo_init 0 [some (.ref a)] [] μ _
  have h_a := ho
  refine mm_aload d_Lo_init_0 rfl ?_
  refine mm_oinit d_Lo_init_1 (Nat.le_of_ble_eq_true rfl) (Nat.le_of_ble_eq_true rfl) ?_
  refine mm_aload d_Lo_init_4 rfl ?_
  refine mm_ci d_Lo_init_5 ?_
  refine mm_newA' (mm_n μ) 8 d_Lo_init_7 rfl (by omega) ⟨by decide, by decide, by decide⟩ (fun h_0 => ?_)
  have h_a := mm_ob.new (q := (20 + 0, 8)) h_a
  refine mm_putP d_Lo_init_9 rfl (by decide) h_a (Or.inr ⟨rfl, rfl⟩) ?_
  have h_a := mm_ob.sP (b := a) (j := 0) (x := some (mm_n μ)) h_a
  refine mm_aload d_Lo_init_12 rfl ?_
  refine mm_ci d_Lo_init_13 ?_
  refine mm_newA' (mm_n μ + 1) 8 d_Lo_init_15 rfl (by omega) ⟨by decide, by decide, by decide⟩ (fun h_1 => ?_)
  have h_a := mm_ob.new (q := (20 + 0, 8)) h_a
  refine mm_putP d_Lo_init_17 rfl (by decide) h_a (Or.inr ⟨rfl, rfl⟩) ?_
  have h_a := mm_ob.sP (b := a) (j := 1) (x := some (mm_n μ + 1)) h_a
  exact mm_rv d_Lo_init_20 h
theorem mm_ob.cLo {μ : mm_M} {a b : Nat} {c : Nat} (h : mm_ob μ a c) : mm_ob (cLo μ b) a c := mm_ob.sP (mm_ob.new (mm_ob.sP (mm_ob.new (h))))
theorem mm_ar.cLo {μ : mm_M} {a b : Nat} {t k : Nat} (h : mm_ar μ a t k) : mm_ar (cLo μ b) a t k := mm_ar.sP (mm_ar.new (mm_ar.sP (mm_ar.new (h))))
def cTo (μ : mm_M) (a : Nat) : mm_M :=
  let μ1 := mm_new μ (20 + 1, 600)
  let μ2 := mm_sP μ1 a 0 (some (mm_n μ))
  let μ3 := mm_new μ2 (20 + (4 + 0), 2)
  let μ4 := mm_new μ3 (2, 0)
  let μ5 := cCo μ4 (mm_n μ + 2)
  let μ6 := mm_sP μ5 (mm_n μ + 1) 0 (some (mm_n μ + 2))
  let μ7 := mm_new μ6 (2, 0)
  let μ8 := cCo μ7 (mm_n μ + 9)
  let μ9 := mm_sP μ8 (mm_n μ + 1) 1 (some (mm_n μ + 9))
  let μ10 := mm_sP μ9 a 1 (some (mm_n μ + 1))
  let μ11 := mm_new μ10 (20 + (4 + 1), 2)
  let μ12 := mm_new μ11 (8, 0)
  let μ13 := cYe μ12 (mm_n μ + 17)
  let μ14 := mm_sP μ13 (mm_n μ + 16) 0 (some (mm_n μ + 17))
  let μ15 := mm_new μ14 (8, 0)
  let μ16 := cYe μ15 (mm_n μ + 21)
  let μ17 := mm_sP μ16 (mm_n μ + 16) 1 (some (mm_n μ + 21))
  let μ18 := mm_sP μ17 a 2 (some (mm_n μ + 16))
  let μ19 := mm_new μ18 (20 + (4 + 2), 2)
  let μ20 := mm_new μ19 (4, 0)
  let μ21 := cLo μ20 (mm_n μ + 26)
  let μ22 := mm_sP μ21 (mm_n μ + 25) 0 (some (mm_n μ + 26))
  let μ23 := mm_new μ22 (4, 0)
  let μ24 := cLo μ23 (mm_n μ + 29)
  let μ25 := mm_sP μ24 (mm_n μ + 25) 1 (some (mm_n μ + 29))
  let μ26 := mm_sP μ25 a 3 (some (mm_n μ + 25))
  let μ27 := mm_new μ26 (20 + 0, 3)
  let μ28 := mm_sP μ27 a 4 (some (mm_n μ + 32))
  let μ29 := mm_sI μ28 a 7 (-1)
  μ29
theorem sp_To_init {X : mm_X} {μ : mm_M} {q : mm_M → Prop} {a : Nat} (ho : mm_ob μ a 7) (hn : mm_n μ + 33 ≤ 1000000) (h : q (cTo μ a)) : mm_Cv X 2 33 995 k_To_init [.ref a] μ q := by
  show mm_T X 2 33 995 k_To_init 0 [some (.ref a)] [] μ _
  have h_a := ho
  refine mm_aload d_To_init_0 rfl ?_
  refine mm_oinit d_To_init_1 (Nat.le_of_ble_eq_true rfl) (Nat.le_of_ble_eq_true rfl) ?_
  refine mm_aload d_To_init_4 rfl ?_
  refine mm_ci d_To_init_5 ?_
  refine mm_newA' (mm_n μ) 600 d_To_init_8 rfl (by omega) ⟨by decide, by decide, by decide⟩ (fun h_0 => ?_)
  have h_a := mm_ob.new (q := (20 + 1, 600)) h_a
  refine mm_putP d_To_init_10 rfl (by decide) h_a (Or.inr ⟨rfl, rfl⟩) ?_
  have h_a := mm_ob.sP (b := a) (j := 0) (x := some (mm_n μ)) h_a
  refine mm_aload d_To_init_13 rfl ?_
  refine mm_ci d_To_init_14 ?_
  refine mm_newQ' (mm_n μ + 1) 2 d_To_init_15 rfl (by omega) ⟨by decide, by decide, by decide⟩ (fun h_1 => ?_)
  have h_a := mm_ob.new (q := (20 + (4 + 0), 2)) h_a
  refine mm_dup d_To_init_18 rfl ?_
  refine mm_ci d_To_init_19 ?_
  refine mm_newO' (mm_n μ + 2) d_To_init_20 rfl (by omega) (fun h_2 => ?_)
  have h_1 := mm_ar.new (q := (2, 0)) h_1
  have h_a := mm_ob.new (q := (2, 0)) h_a
  refine mm_dup d_To_init_23 rfl ?_
  refine mm_i0w 6 42 d_To_init_24 (sp_Co_init h_2 (by show mm_n μ + 3 + 6 ≤ 1000000; omega) ?_)
  have h_1 := mm_ar.cCo (b := mm_n μ + 2) h_1
  have h_2 := mm_ob.cCo (b := mm_n μ + 2) h_2
  have h_a := mm_ob.cCo (b := mm_n μ + 2) h_a
  refine mm_aast (t := 0) d_To_init_27 h_1 (vp_in_nI (n := 0) (N := 2) (by decide) (by decide)) h_2 rfl ?_
  have h_1 := mm_ar.sP (b := mm_n μ + 1) (j := 0) (x := some (mm_n μ + 2)) h_1
  have h_a := mm_ob.sP (b := mm_n μ + 1) (j := 0) (x := some (mm_n μ + 2)) h_a
  refine mm_dup d_To_init_28 rfl ?_
  refine mm_ci d_To_init_29 ?_
  refine mm_newO' (mm_n μ + 9) d_To_init_30 rfl (by omega) (fun h_9 => ?_)
  have h_1 := mm_ar.new (q := (2, 0)) h_1
  have h_a := mm_ob.new (q := (2, 0)) h_a
  refine mm_dup d_To_init_33 rfl ?_
  refine mm_i0w 6 42 d_To_init_34 (sp_Co_init h_9 (by show mm_n μ + 10 + 6 ≤ 1000000; omega) ?_)
  have h_1 := mm_ar.cCo (b := mm_n μ + 9) h_1
  have h_9 := mm_ob.cCo (b := mm_n μ + 9) h_9
  have h_a := mm_ob.cCo (b := mm_n μ + 9) h_a
  refine mm_aast (t := 0) d_To_init_37 h_1 (vp_in_nI (n := 1) (N := 2) (by decide) (by decide)) h_9 rfl ?_
  have h_1 := mm_ar.sP (b := mm_n μ + 1) (j := 1) (x := some (mm_n μ + 9)) h_1
  have h_a := mm_ob.sP (b := mm_n μ + 1) (j := 1) (x := some (mm_n μ + 9)) h_a
  refine mm_putP d_To_init_38 rfl (by decide) h_a (Or.inr ⟨rfl, rfl⟩) ?_
  have h_a := mm_ob.sP (b := a) (j := 1) (x := some (mm_n μ + 1)) h_a
  refine mm_aload d_To_init_41 rfl ?_
  refine mm_ci d_To_init_42 ?_
  refine mm_newQ' (mm_n μ + 16) 2 d_To_init_43 rfl (by omega) ⟨by decide, by decide, by decide⟩ (fun h_16 => ?_)
  have h_a := mm_ob.new (q := (20 + (4 + 1), 2)) h_a
  refine mm_dup d_To_init_46 rfl ?_
  refine mm_ci d_To_init_47 ?_
  refine mm_newO' (mm_n μ + 17) d_To_init_48 rfl (by omega) (fun h_17 => ?_)
  have h_16 := mm_ar.new (q := (8, 0)) h_16
  have h_a := mm_ob.new (q := (8, 0)) h_a
  refine mm_dup d_To_init_51 rfl ?_
  refine mm_i0w 3 120 d_To_init_52 (sp_Ye_init h_17 (by show mm_n μ + 18 + 3 ≤ 1000000; omega) ?_)
  have h_16 := mm_ar.cYe (b := mm_n μ + 17) h_16
  have h_17 := mm_ob.cYe (b := mm_n μ + 17) h_17
  have h_a := mm_ob.cYe (b := mm_n μ + 17) h_a
  refine mm_aast (t := 1) d_To_init_55 h_16 (vp_in_nI (n := 0) (N := 2) (by decide) (by decide)) h_17 rfl ?_
  have h_16 := mm_ar.sP (b := mm_n μ + 16) (j := 0) (x := some (mm_n μ + 17)) h_16
  have h_a := mm_ob.sP (b := mm_n μ + 16) (j := 0) (x := some (mm_n μ + 17)) h_a
  refine mm_dup d_To_init_56 rfl ?_
  refine mm_ci d_To_init_57 ?_
  refine mm_newO' (mm_n μ + 21) d_To_init_58 rfl (by omega) (fun h_21 => ?_)
  have h_16 := mm_ar.new (q := (8, 0)) h_16
  have h_a := mm_ob.new (q := (8, 0)) h_a
  refine mm_dup d_To_init_61 rfl ?_
  refine mm_i0w 3 120 d_To_init_62 (sp_Ye_init h_21 (by show mm_n μ + 22 + 3 ≤ 1000000; omega) ?_)
  have h_16 := mm_ar.cYe (b := mm_n μ + 21) h_16
  have h_21 := mm_ob.cYe (b := mm_n μ + 21) h_21
  have h_a := mm_ob.cYe (b := mm_n μ + 21) h_a
  refine mm_aast (t := 1) d_To_init_65 h_16 (vp_in_nI (n := 1) (N := 2) (by decide) (by decide)) h_21 rfl ?_
  have h_16 := mm_ar.sP (b := mm_n μ + 16) (j := 1) (x := some (mm_n μ + 21)) h_16
  have h_a := mm_ob.sP (b := mm_n μ + 16) (j := 1) (x := some (mm_n μ + 21)) h_a
  refine mm_putP d_To_init_66 rfl (by decide) h_a (Or.inr ⟨rfl, rfl⟩) ?_
  have h_a := mm_ob.sP (b := a) (j := 2) (x := some (mm_n μ + 16)) h_a
  refine mm_aload d_To_init_69 rfl ?_
  refine mm_ci d_To_init_70 ?_
  refine mm_newQ' (mm_n μ + 25) 2 d_To_init_71 rfl (by omega) ⟨by decide, by decide, by decide⟩ (fun h_25 => ?_)
  have h_a := mm_ob.new (q := (20 + (4 + 2), 2)) h_a
  refine mm_dup d_To_init_74 rfl ?_
  refine mm_ci d_To_init_75 ?_
  refine mm_newO' (mm_n μ + 26) d_To_init_76 rfl (by omega) (fun h_26 => ?_)
  have h_25 := mm_ar.new (q := (4, 0)) h_25
  have h_a := mm_ob.new (q := (4, 0)) h_a
  refine mm_dup d_To_init_79 rfl ?_
  refine mm_i0w 2 16 d_To_init_80 (sp_Lo_init h_26 (by show mm_n μ + 27 + 2 ≤ 1000000; omega) ?_)
  have h_25 := mm_ar.cLo (b := mm_n μ + 26) h_25
  have h_26 := mm_ob.cLo (b := mm_n μ + 26) h_26
  have h_a := mm_ob.cLo (b := mm_n μ + 26) h_a
  refine mm_aast (t := 2) d_To_init_83 h_25 (vp_in_nI (n := 0) (N := 2) (by decide) (by decide)) h_26 rfl ?_
  have h_25 := mm_ar.sP (b := mm_n μ + 25) (j := 0) (x := some (mm_n μ + 26)) h_25
  have h_a := mm_ob.sP (b := mm_n μ + 25) (j := 0) (x := some (mm_n μ + 26)) h_a
  refine mm_dup d_To_init_84 rfl ?_
  refine mm_ci d_To_init_85 ?_
  refine mm_newO' (mm_n μ + 29) d_To_init_86 rfl (by omega) (fun h_29 => ?_)
  have h_25 := mm_ar.new (q := (4, 0)) h_25
  have h_a := mm_ob.new (q := (4, 0)) h_a
  refine mm_dup d_To_init_89 rfl ?_
  refine mm_i0w 2 16 d_To_init_90 (sp_Lo_init h_29 (by show mm_n μ + 30 + 2 ≤ 1000000; omega) ?_)
  have h_25 := mm_ar.cLo (b := mm_n μ + 29) h_25
  have h_29 := mm_ob.cLo (b := mm_n μ + 29) h_29
  have h_a := mm_ob.cLo (b := mm_n μ + 29) h_a
  refine mm_aast (t := 2) d_To_init_93 h_25 (vp_in_nI (n := 1) (N := 2) (by decide) (by decide)) h_29 rfl ?_
  have h_25 := mm_ar.sP (b := mm_n μ + 25) (j := 1) (x := some (mm_n μ + 29)) h_25
  have h_a := mm_ob.sP (b := mm_n μ + 25) (j := 1) (x := some (mm_n μ + 29)) h_a
  refine mm_putP d_To_init_94 rfl (by decide) h_a (Or.inr ⟨rfl, rfl⟩) ?_
  have h_a := mm_ob.sP (b := a) (j := 3) (x := some (mm_n μ + 25)) h_a
  refine mm_aload d_To_init_97 rfl ?_
  refine mm_ci d_To_init_98 ?_
  refine mm_newA' (mm_n μ + 32) 3 d_To_init_99 rfl (by omega) ⟨by decide, by decide, by decide⟩ (fun h_32 => ?_)
  have h_a := mm_ob.new (q := (20 + 0, 3)) h_a
  refine mm_putP d_To_init_101 rfl (by decide) h_a (Or.inr ⟨rfl, rfl⟩) ?_
  have h_a := mm_ob.sP (b := a) (j := 4) (x := some (mm_n μ + 32)) h_a
  refine mm_aload d_To_init_104 rfl ?_
  refine mm_ci d_To_init_105 ?_
  refine mm_putI d_To_init_106 rfl h_a (Or.inl rfl) ?_
  have h_a := mm_ob.sI (b := a) (j := 7) (x := -1) h_a
  exact mm_rv d_To_init_109 h
theorem mm_ob.cTo {μ : mm_M} {a b : Nat} {c : Nat} (h : mm_ob μ a c) : mm_ob (cTo μ b) a c := mm_ob.sI (mm_ob.sP (mm_ob.new (mm_ob.sP (mm_ob.sP (mm_ob.cLo (mm_ob.new (mm_ob.sP (mm_ob.cLo (mm_ob.new (mm_ob.new (mm_ob.sP (mm_ob.sP (mm_ob.cYe (mm_ob.new (mm_ob.sP (mm_ob.cYe (mm_ob.new (mm_ob.new (mm_ob.sP (mm_ob.sP (mm_ob.cCo (mm_ob.new (mm_ob.sP (mm_ob.cCo (mm_ob.new (mm_ob.new (mm_ob.sP (mm_ob.new (h)))))))))))))))))))))))))))))
theorem mm_ar.cTo {μ : mm_M} {a b : Nat} {t k : Nat} (h : mm_ar μ a t k) : mm_ar (cTo μ b) a t k := mm_ar.sI (mm_ar.sP (mm_ar.new (mm_ar.sP (mm_ar.sP (mm_ar.cLo (mm_ar.new (mm_ar.sP (mm_ar.cLo (mm_ar.new (mm_ar.new (mm_ar.sP (mm_ar.sP (mm_ar.cYe (mm_ar.new (mm_ar.sP (mm_ar.cYe (mm_ar.new (mm_ar.new (mm_ar.sP (mm_ar.sP (mm_ar.cCo (mm_ar.new (mm_ar.sP (mm_ar.cCo (mm_ar.new (mm_ar.new (mm_ar.sP (mm_ar.new (h)))))))))))))))))))))))))))))
def cRe (μ : mm_M) (a : Nat) : mm_M :=
  let μ1 := mm_new μ (2, 0)
  let μ2 := cCo μ1 (mm_n μ)
  let μ3 := mm_sP μ2 a 0 (some (mm_n μ))
  let μ4 := mm_new μ3 (8, 0)
  let μ5 := cYe μ4 (mm_n μ + 7)
  let μ6 := mm_sP μ5 a 1 (some (mm_n μ + 7))
  let μ7 := mm_new μ6 (4, 0)
  let μ8 := cLo μ7 (mm_n μ + 11)
  let μ9 := mm_sP μ8 a 2 (some (mm_n μ + 11))
  let μ10 := mm_new μ9 (20 + 0, 3)
  let μ11 := mm_sP μ10 a 5 (some (mm_n μ + 14))
  let μ12 := mm_new μ11 (20 + 0, 3)
  let μ13 := mm_sP μ12 a 6 (some (mm_n μ + 15))
  μ13
theorem sp_Re_init {X : mm_X} {μ : mm_M} {q : mm_M → Prop} {a : Nat} (ho : mm_ob μ a 5) (hn : mm_n μ + 16 ≤ 1000000) (h : q (cRe μ a)) : mm_Cv X 2 16 199 k_Re_init [.ref a] μ q := by
  show mm_T X 2 16 199 k_Re_init 0 [some (.ref a)] [] μ _
  have h_a := ho
  refine mm_aload d_Re_init_0 rfl ?_
  refine mm_oinit d_Re_init_1 (Nat.le_of_ble_eq_true rfl) (Nat.le_of_ble_eq_true rfl) ?_
  refine mm_aload d_Re_init_4 rfl ?_
  refine mm_newO' (mm_n μ) d_Re_init_5 rfl (by omega) (fun h_0 => ?_)
  have h_a := mm_ob.new (q := (2, 0)) h_a
  refine mm_dup d_Re_init_8 rfl ?_
  refine mm_i0w 6 42 d_Re_init_9 (sp_Co_init h_0 (by show mm_n μ + 1 + 6 ≤ 1000000; omega) ?_)
  have h_0 := mm_ob.cCo (b := mm_n μ) h_0
  have h_a := mm_ob.cCo (b := mm_n μ) h_a
  refine mm_putP d_Re_init_12 rfl (by decide) h_a (Or.inr ⟨rfl, rfl⟩) ?_
  have h_a := mm_ob.sP (b := a) (j := 0) (x := some (mm_n μ)) h_a
  refine mm_aload d_Re_init_15 rfl ?_
  refine mm_newO' (mm_n μ + 7) d_Re_init_16 rfl (by omega) (fun h_7 => ?_)
  have h_a := mm_ob.new (q := (8, 0)) h_a
  refine mm_dup d_Re_init_19 rfl ?_
  refine mm_i0w 3 120 d_Re_init_20 (sp_Ye_init h_7 (by show mm_n μ + 8 + 3 ≤ 1000000; omega) ?_)
  have h_7 := mm_ob.cYe (b := mm_n μ + 7) h_7
  have h_a := mm_ob.cYe (b := mm_n μ + 7) h_a
  refine mm_putP d_Re_init_23 rfl (by decide) h_a (Or.inr ⟨rfl, rfl⟩) ?_
  have h_a := mm_ob.sP (b := a) (j := 1) (x := some (mm_n μ + 7)) h_a
  refine mm_aload d_Re_init_26 rfl ?_
  refine mm_newO' (mm_n μ + 11) d_Re_init_27 rfl (by omega) (fun h_11 => ?_)
  have h_a := mm_ob.new (q := (4, 0)) h_a
  refine mm_dup d_Re_init_30 rfl ?_
  refine mm_i0w 2 16 d_Re_init_31 (sp_Lo_init h_11 (by show mm_n μ + 12 + 2 ≤ 1000000; omega) ?_)
  have h_11 := mm_ob.cLo (b := mm_n μ + 11) h_11
  have h_a := mm_ob.cLo (b := mm_n μ + 11) h_a
  refine mm_putP d_Re_init_34 rfl (by decide) h_a (Or.inr ⟨rfl, rfl⟩) ?_
  have h_a := mm_ob.sP (b := a) (j := 2) (x := some (mm_n μ + 11)) h_a
  refine mm_aload d_Re_init_37 rfl ?_
  refine mm_ci d_Re_init_38 ?_
  refine mm_newA' (mm_n μ + 14) 3 d_Re_init_39 rfl (by omega) ⟨by decide, by decide, by decide⟩ (fun h_14 => ?_)
  have h_a := mm_ob.new (q := (20 + 0, 3)) h_a
  refine mm_putP d_Re_init_41 rfl (by decide) h_a (Or.inr ⟨rfl, rfl⟩) ?_
  have h_a := mm_ob.sP (b := a) (j := 5) (x := some (mm_n μ + 14)) h_a
  refine mm_aload d_Re_init_44 rfl ?_
  refine mm_ci d_Re_init_45 ?_
  refine mm_newA' (mm_n μ + 15) 3 d_Re_init_46 rfl (by omega) ⟨by decide, by decide, by decide⟩ (fun h_15 => ?_)
  have h_a := mm_ob.new (q := (20 + 0, 3)) h_a
  refine mm_putP d_Re_init_48 rfl (by decide) h_a (Or.inr ⟨rfl, rfl⟩) ?_
  have h_a := mm_ob.sP (b := a) (j := 6) (x := some (mm_n μ + 15)) h_a
  exact mm_rv d_Re_init_51 h
theorem mm_ob.cRe {μ : mm_M} {a b : Nat} {c : Nat} (h : mm_ob μ a c) : mm_ob (cRe μ b) a c := mm_ob.sP (mm_ob.new (mm_ob.sP (mm_ob.new (mm_ob.sP (mm_ob.cLo (mm_ob.new (mm_ob.sP (mm_ob.cYe (mm_ob.new (mm_ob.sP (mm_ob.cCo (mm_ob.new (h)))))))))))))
theorem mm_ar.cRe {μ : mm_M} {a b : Nat} {t k : Nat} (h : mm_ar μ a t k) : mm_ar (cRe μ b) a t k := mm_ar.sP (mm_ar.new (mm_ar.sP (mm_ar.new (mm_ar.sP (mm_ar.cLo (mm_ar.new (mm_ar.sP (mm_ar.cYe (mm_ar.new (mm_ar.sP (mm_ar.cCo (mm_ar.new (h)))))))))))))
def cDa (μ : mm_M) (a : Nat) : mm_M :=
  let μ1 := mm_new μ (20 + 0, 6)
  let μ2 := mm_sP μ1 a 5 (some (mm_n μ))
  let μ3 := mm_new μ2 (20 + 0, 48)
  let μ4 := mm_sP μ3 a 6 (some (mm_n μ + 1))
  let μ5 := mm_new μ4 (20 + 0, 6)
  let μ6 := mm_sP μ5 a 7 (some (mm_n μ + 2))
  μ6
theorem sp_Da_init {X : mm_X} {μ : mm_M} {q : mm_M → Prop} {a : Nat} (ho : mm_ob μ a 3) (hn : mm_n μ + 3 ≤ 1000000) (h : q (cDa μ a)) : mm_Cv X 1 3 60 k_Da_init [.ref a] μ q := by
  show mm_T X 1 3 60 k_Da_init 0 [some (.ref a)] [] μ _
  have h_a := ho
  refine mm_aload d_Da_init_0 rfl ?_
  refine mm_oinit d_Da_init_1 (Nat.le_of_ble_eq_true rfl) (Nat.le_of_ble_eq_true rfl) ?_
  refine mm_aload d_Da_init_4 rfl ?_
  refine mm_ci d_Da_init_5 ?_
  refine mm_newA' (mm_n μ) 6 d_Da_init_7 rfl (by omega) ⟨by decide, by decide, by decide⟩ (fun h_0 => ?_)
  have h_a := mm_ob.new (q := (20 + 0, 6)) h_a
  refine mm_putP d_Da_init_9 rfl (by decide) h_a (Or.inr ⟨rfl, rfl⟩) ?_
  have h_a := mm_ob.sP (b := a) (j := 5) (x := some (mm_n μ)) h_a
  refine mm_aload d_Da_init_12 rfl ?_
  refine mm_ci d_Da_init_13 ?_
  refine mm_newA' (mm_n μ + 1) 48 d_Da_init_15 rfl (by omega) ⟨by decide, by decide, by decide⟩ (fun h_1 => ?_)
  have h_a := mm_ob.new (q := (20 + 0, 48)) h_a
  refine mm_putP d_Da_init_17 rfl (by decide) h_a (Or.inr ⟨rfl, rfl⟩) ?_
  have h_a := mm_ob.sP (b := a) (j := 6) (x := some (mm_n μ + 1)) h_a
  refine mm_aload d_Da_init_20 rfl ?_
  refine mm_ci d_Da_init_21 ?_
  refine mm_newA' (mm_n μ + 2) 6 d_Da_init_23 rfl (by omega) ⟨by decide, by decide, by decide⟩ (fun h_2 => ?_)
  have h_a := mm_ob.new (q := (20 + 0, 6)) h_a
  refine mm_putP d_Da_init_25 rfl (by decide) h_a (Or.inr ⟨rfl, rfl⟩) ?_
  have h_a := mm_ob.sP (b := a) (j := 7) (x := some (mm_n μ + 2)) h_a
  exact mm_rv d_Da_init_28 h
theorem mm_ob.cDa {μ : mm_M} {a b : Nat} {c : Nat} (h : mm_ob μ a c) : mm_ob (cDa μ b) a c := mm_ob.sP (mm_ob.new (mm_ob.sP (mm_ob.new (mm_ob.sP (mm_ob.new (h))))))
theorem mm_ar.cDa {μ : mm_M} {a b : Nat} {t k : Nat} (h : mm_ar μ a t k) : mm_ar (cDa μ b) a t k := mm_ar.sP (mm_ar.new (mm_ar.sP (mm_ar.new (mm_ar.sP (mm_ar.new (h))))))
def cAs (μ : mm_M) (a : Nat) : mm_M :=
  let μ1 := mm_new μ (20 + 0, 8)
  let μ2 := mm_sP μ1 a 0 (some (mm_n μ))
  let μ3 := mm_new μ2 (20 + 0, 6)
  let μ4 := mm_sP μ3 a 1 (some (mm_n μ + 1))
  let μ5 := mm_new μ4 (20 + 0, 6)
  let μ6 := mm_sP μ5 a 2 (some (mm_n μ + 2))
  let μ7 := mm_new μ6 (20 + 0, 256)
  let μ8 := mm_sP μ7 a 3 (some (mm_n μ + 3))
  let μ9 := mm_new μ8 (20 + 0, 1792)
  let μ10 := mm_sP μ9 a 4 (some (mm_n μ + 4))
  μ10
theorem sp_As_init {X : mm_X} {μ : mm_M} {q : mm_M → Prop} {a : Nat} (ho : mm_ob μ a 0) (hn : mm_n μ + 5 ≤ 1000000) (h : q (cAs μ a)) : mm_Cv X 1 5 2068 k_As_init [.ref a] μ q := by
  show mm_T X 1 5 2068 k_As_init 0 [some (.ref a)] [] μ _
  have h_a := ho
  refine mm_aload d_As_init_0 rfl ?_
  refine mm_oinit d_As_init_1 (Nat.le_of_ble_eq_true rfl) (Nat.le_of_ble_eq_true rfl) ?_
  refine mm_aload d_As_init_4 rfl ?_
  refine mm_ci d_As_init_5 ?_
  refine mm_newA' (mm_n μ) 8 d_As_init_7 rfl (by omega) ⟨by decide, by decide, by decide⟩ (fun h_0 => ?_)
  have h_a := mm_ob.new (q := (20 + 0, 8)) h_a
  refine mm_putP d_As_init_9 rfl (by decide) h_a (Or.inr ⟨rfl, rfl⟩) ?_
  have h_a := mm_ob.sP (b := a) (j := 0) (x := some (mm_n μ)) h_a
  refine mm_aload d_As_init_12 rfl ?_
  refine mm_ci d_As_init_13 ?_
  refine mm_newA' (mm_n μ + 1) 6 d_As_init_15 rfl (by omega) ⟨by decide, by decide, by decide⟩ (fun h_1 => ?_)
  have h_a := mm_ob.new (q := (20 + 0, 6)) h_a
  refine mm_putP d_As_init_17 rfl (by decide) h_a (Or.inr ⟨rfl, rfl⟩) ?_
  have h_a := mm_ob.sP (b := a) (j := 1) (x := some (mm_n μ + 1)) h_a
  refine mm_aload d_As_init_20 rfl ?_
  refine mm_ci d_As_init_21 ?_
  refine mm_newA' (mm_n μ + 2) 6 d_As_init_23 rfl (by omega) ⟨by decide, by decide, by decide⟩ (fun h_2 => ?_)
  have h_a := mm_ob.new (q := (20 + 0, 6)) h_a
  refine mm_putP d_As_init_25 rfl (by decide) h_a (Or.inr ⟨rfl, rfl⟩) ?_
  have h_a := mm_ob.sP (b := a) (j := 2) (x := some (mm_n μ + 2)) h_a
  refine mm_aload d_As_init_28 rfl ?_
  refine mm_ci d_As_init_29 ?_
  refine mm_newA' (mm_n μ + 3) 256 d_As_init_32 rfl (by omega) ⟨by decide, by decide, by decide⟩ (fun h_3 => ?_)
  have h_a := mm_ob.new (q := (20 + 0, 256)) h_a
  refine mm_putP d_As_init_34 rfl (by decide) h_a (Or.inr ⟨rfl, rfl⟩) ?_
  have h_a := mm_ob.sP (b := a) (j := 3) (x := some (mm_n μ + 3)) h_a
  refine mm_aload d_As_init_37 rfl ?_
  refine mm_ci d_As_init_38 ?_
  refine mm_newA' (mm_n μ + 4) 1792 d_As_init_41 rfl (by omega) ⟨by decide, by decide, by decide⟩ (fun h_4 => ?_)
  have h_a := mm_ob.new (q := (20 + 0, 1792)) h_a
  refine mm_putP d_As_init_43 rfl (by decide) h_a (Or.inr ⟨rfl, rfl⟩) ?_
  have h_a := mm_ob.sP (b := a) (j := 4) (x := some (mm_n μ + 4)) h_a
  exact mm_rv d_As_init_46 h
theorem mm_ob.cAs {μ : mm_M} {a b : Nat} {c : Nat} (h : mm_ob μ a c) : mm_ob (cAs μ b) a c := mm_ob.sP (mm_ob.new (mm_ob.sP (mm_ob.new (mm_ob.sP (mm_ob.new (mm_ob.sP (mm_ob.new (mm_ob.sP (mm_ob.new (h))))))))))
theorem mm_ar.cAs {μ : mm_M} {a b : Nat} {t k : Nat} (h : mm_ar μ a t k) : mm_ar (cAs μ b) a t k := mm_ar.sP (mm_ar.new (mm_ar.sP (mm_ar.new (mm_ar.sP (mm_ar.new (mm_ar.sP (mm_ar.new (mm_ar.sP (mm_ar.new (h))))))))))
def cBo (μ : mm_M) (a : Nat) : mm_M :=
  let μ1 := mm_new μ (20 + 0, 6)
  let μ2 := mm_sP μ1 a 0 (some (mm_n μ))
  let μ3 := mm_new μ2 (20 + 0, 6)
  let μ4 := mm_sP μ3 a 1 (some (mm_n μ + 1))
  let μ5 := mm_new μ4 (20 + 0, 6)
  let μ6 := mm_sP μ5 a 2 (some (mm_n μ + 2))
  μ6
theorem sp_Bo_init {X : mm_X} {μ : mm_M} {q : mm_M → Prop} {a : Nat} (ho : mm_ob μ a 1) (hn : mm_n μ + 3 ≤ 1000000) (h : q (cBo μ a)) : mm_Cv X 1 3 18 k_Bo_init [.ref a] μ q := by
  show mm_T X 1 3 18 k_Bo_init 0 [some (.ref a)] [] μ _
  have h_a := ho
  refine mm_aload d_Bo_init_0 rfl ?_
  refine mm_oinit d_Bo_init_1 (Nat.le_of_ble_eq_true rfl) (Nat.le_of_ble_eq_true rfl) ?_
  refine mm_aload d_Bo_init_4 rfl ?_
  refine mm_ci d_Bo_init_5 ?_
  refine mm_newA' (mm_n μ) 6 d_Bo_init_7 rfl (by omega) ⟨by decide, by decide, by decide⟩ (fun h_0 => ?_)
  have h_a := mm_ob.new (q := (20 + 0, 6)) h_a
  refine mm_putP d_Bo_init_9 rfl (by decide) h_a (Or.inr ⟨rfl, rfl⟩) ?_
  have h_a := mm_ob.sP (b := a) (j := 0) (x := some (mm_n μ)) h_a
  refine mm_aload d_Bo_init_12 rfl ?_
  refine mm_ci d_Bo_init_13 ?_
  refine mm_newA' (mm_n μ + 1) 6 d_Bo_init_15 rfl (by omega) ⟨by decide, by decide, by decide⟩ (fun h_1 => ?_)
  have h_a := mm_ob.new (q := (20 + 0, 6)) h_a
  refine mm_putP d_Bo_init_17 rfl (by decide) h_a (Or.inr ⟨rfl, rfl⟩) ?_
  have h_a := mm_ob.sP (b := a) (j := 1) (x := some (mm_n μ + 1)) h_a
  refine mm_aload d_Bo_init_20 rfl ?_
  refine mm_ci d_Bo_init_21 ?_
  refine mm_newA' (mm_n μ + 2) 6 d_Bo_init_23 rfl (by omega) ⟨by decide, by decide, by decide⟩ (fun h_2 => ?_)
  have h_a := mm_ob.new (q := (20 + 0, 6)) h_a
  refine mm_putP d_Bo_init_25 rfl (by decide) h_a (Or.inr ⟨rfl, rfl⟩) ?_
  have h_a := mm_ob.sP (b := a) (j := 2) (x := some (mm_n μ + 2)) h_a
  exact mm_rv d_Bo_init_28 h
theorem mm_ob.cBo {μ : mm_M} {a b : Nat} {c : Nat} (h : mm_ob μ a c) : mm_ob (cBo μ b) a c := mm_ob.sP (mm_ob.new (mm_ob.sP (mm_ob.new (mm_ob.sP (mm_ob.new (h))))))
theorem mm_ar.cBo {μ : mm_M} {a b : Nat} {t k : Nat} (h : mm_ar μ a t k) : mm_ar (cBo μ b) a t k := mm_ar.sP (mm_ar.new (mm_ar.sP (mm_ar.new (mm_ar.sP (mm_ar.new (h))))))
def cSk (μ : mm_M) (a : Nat) : mm_M :=
  let μ1 := mm_new μ (20 + 0, 8)
  let μ2 := mm_sP μ1 a 0 (some (mm_n μ))
  let μ3 := mm_new μ2 (20 + 0, 8)
  let μ4 := mm_sP μ3 a 1 (some (mm_n μ + 1))
  let μ5 := mm_new μ4 (20 + 3, 9)
  let μ6 := mm_sP μ5 a 2 (some (mm_n μ + 2))
  μ6
theorem sp_Sk_init {X : mm_X} {μ : mm_M} {q : mm_M → Prop} {a : Nat} (ho : mm_ob μ a 6) (hn : mm_n μ + 3 ≤ 1000000) (h : q (cSk μ a)) : mm_Cv X 1 3 25 k_Sk_init [.ref a] μ q := by
  show mm_T X 1 3 25 k_Sk_init 0 [some (.ref a)] [] μ _
  have h_a := ho
  refine mm_aload d_Sk_init_0 rfl ?_
  refine mm_oinit d_Sk_init_1 (Nat.le_of_ble_eq_true rfl) (Nat.le_of_ble_eq_true rfl) ?_
  refine mm_aload d_Sk_init_4 rfl ?_
  refine mm_ci d_Sk_init_5 ?_
  refine mm_newA' (mm_n μ) 8 d_Sk_init_7 rfl (by omega) ⟨by decide, by decide, by decide⟩ (fun h_0 => ?_)
  have h_a := mm_ob.new (q := (20 + 0, 8)) h_a
  refine mm_putP d_Sk_init_9 rfl (by decide) h_a (Or.inr ⟨rfl, rfl⟩) ?_
  have h_a := mm_ob.sP (b := a) (j := 0) (x := some (mm_n μ)) h_a
  refine mm_aload d_Sk_init_12 rfl ?_
  refine mm_ci d_Sk_init_13 ?_
  refine mm_newA' (mm_n μ + 1) 8 d_Sk_init_15 rfl (by omega) ⟨by decide, by decide, by decide⟩ (fun h_1 => ?_)
  have h_a := mm_ob.new (q := (20 + 0, 8)) h_a
  refine mm_putP d_Sk_init_17 rfl (by decide) h_a (Or.inr ⟨rfl, rfl⟩) ?_
  have h_a := mm_ob.sP (b := a) (j := 1) (x := some (mm_n μ + 1)) h_a
  refine mm_aload d_Sk_init_20 rfl ?_
  refine mm_ci d_Sk_init_21 ?_
  refine mm_newA' (mm_n μ + 2) 9 d_Sk_init_23 rfl (by omega) ⟨by decide, by decide, by decide⟩ (fun h_2 => ?_)
  have h_a := mm_ob.new (q := (20 + 3, 9)) h_a
  refine mm_putP d_Sk_init_25 rfl (by decide) h_a (Or.inr ⟨rfl, rfl⟩) ?_
  have h_a := mm_ob.sP (b := a) (j := 2) (x := some (mm_n μ + 2)) h_a
  exact mm_rv d_Sk_init_28 h
theorem mm_ob.cSk {μ : mm_M} {a b : Nat} {c : Nat} (h : mm_ob μ a c) : mm_ob (cSk μ b) a c := mm_ob.sP (mm_ob.new (mm_ob.sP (mm_ob.new (mm_ob.sP (mm_ob.new (h))))))
theorem mm_ar.cSk {μ : mm_M} {a b : Nat} {t k : Nat} (h : mm_ar μ a t k) : mm_ar (cSk μ b) a t k := mm_ar.sP (mm_ar.new (mm_ar.sP (mm_ar.new (mm_ar.sP (mm_ar.new (h))))))
def cG (μ : mm_M) (a : Nat) : mm_M :=
  let μ1 := mm_new μ (7, 0)
  let μ2 := cTo μ1 (mm_n μ)
  let μ3 := mm_sP μ2 a 0 (some (mm_n μ))
  let μ4 := mm_new μ3 (20 + (4 + 3), 3)
  let μ5 := mm_sP μ4 a 1 (some (mm_n μ + 34))
  let μ6 := mm_new μ5 (5, 0)
  let μ7 := cRe μ6 (mm_n μ + 35)
  let μ8 := mm_sP μ7 a 2 (some (mm_n μ + 35))
  let μ9 := mm_new μ8 (3, 0)
  let μ10 := cDa μ9 (mm_n μ + 52)
  let μ11 := mm_sP μ10 a 3 (some (mm_n μ + 52))
  let μ12 := mm_new μ11 (0, 0)
  let μ13 := cAs μ12 (mm_n μ + 56)
  let μ14 := mm_sP μ13 a 4 (some (mm_n μ + 56))
  let μ15 := mm_new μ14 (1, 0)
  let μ16 := cBo μ15 (mm_n μ + 62)
  let μ17 := mm_sP μ16 a 5 (some (mm_n μ + 62))
  let μ18 := mm_new μ17 (6, 0)
  let μ19 := cSk μ18 (mm_n μ + 66)
  let μ20 := mm_sP μ19 a 6 (some (mm_n μ + 66))
  μ20
theorem sp_G_init {X : mm_X} {μ : mm_M} {q : mm_M → Prop} {a : Nat} (ho : mm_ob μ a 9) (hn : mm_n μ + 70 ≤ 1000000) (h : q (cG μ a)) : mm_Cv X 3 70 3425 k_G_init [.ref a] μ q := by
  show mm_T X 3 70 3425 k_G_init 0 [some (.ref a)] [] μ _
  have h_a := ho
  refine mm_aload d_G_init_0 rfl ?_
  refine mm_oinit d_G_init_1 (Nat.le_of_ble_eq_true rfl) (Nat.le_of_ble_eq_true rfl) ?_
  refine mm_aload d_G_init_4 rfl ?_
  refine mm_newO' (mm_n μ) d_G_init_5 rfl (by omega) (fun h_0 => ?_)
  have h_a := mm_ob.new (q := (7, 0)) h_a
  refine mm_dup d_G_init_8 rfl ?_
  refine mm_i0w 33 995 d_G_init_9 (sp_To_init h_0 (by show mm_n μ + 1 + 33 ≤ 1000000; omega) ?_)
  have h_0 := mm_ob.cTo (b := mm_n μ) h_0
  have h_a := mm_ob.cTo (b := mm_n μ) h_a
  refine mm_putP d_G_init_12 rfl (by decide) h_a (Or.inr ⟨rfl, rfl⟩) ?_
  have h_a := mm_ob.sP (b := a) (j := 0) (x := some (mm_n μ)) h_a
  refine mm_aload d_G_init_15 rfl ?_
  refine mm_ci d_G_init_16 ?_
  refine mm_newQ' (mm_n μ + 34) 3 d_G_init_17 rfl (by omega) ⟨by decide, by decide, by decide⟩ (fun h_34 => ?_)
  have h_a := mm_ob.new (q := (20 + (4 + 3), 3)) h_a
  refine mm_putP d_G_init_20 rfl (by decide) h_a (Or.inr ⟨rfl, rfl⟩) ?_
  have h_a := mm_ob.sP (b := a) (j := 1) (x := some (mm_n μ + 34)) h_a
  refine mm_aload d_G_init_23 rfl ?_
  refine mm_newO' (mm_n μ + 35) d_G_init_24 rfl (by omega) (fun h_35 => ?_)
  have h_a := mm_ob.new (q := (5, 0)) h_a
  refine mm_dup d_G_init_27 rfl ?_
  refine mm_i0w 16 199 d_G_init_28 (sp_Re_init h_35 (by show mm_n μ + 36 + 16 ≤ 1000000; omega) ?_)
  have h_35 := mm_ob.cRe (b := mm_n μ + 35) h_35
  have h_a := mm_ob.cRe (b := mm_n μ + 35) h_a
  refine mm_putP d_G_init_31 rfl (by decide) h_a (Or.inr ⟨rfl, rfl⟩) ?_
  have h_a := mm_ob.sP (b := a) (j := 2) (x := some (mm_n μ + 35)) h_a
  refine mm_aload d_G_init_34 rfl ?_
  refine mm_newO' (mm_n μ + 52) d_G_init_35 rfl (by omega) (fun h_52 => ?_)
  have h_a := mm_ob.new (q := (3, 0)) h_a
  refine mm_dup d_G_init_38 rfl ?_
  refine mm_i0w 3 60 d_G_init_39 (sp_Da_init h_52 (by show mm_n μ + 53 + 3 ≤ 1000000; omega) ?_)
  have h_52 := mm_ob.cDa (b := mm_n μ + 52) h_52
  have h_a := mm_ob.cDa (b := mm_n μ + 52) h_a
  refine mm_putP d_G_init_42 rfl (by decide) h_a (Or.inr ⟨rfl, rfl⟩) ?_
  have h_a := mm_ob.sP (b := a) (j := 3) (x := some (mm_n μ + 52)) h_a
  refine mm_aload d_G_init_45 rfl ?_
  refine mm_newO' (mm_n μ + 56) d_G_init_46 rfl (by omega) (fun h_56 => ?_)
  have h_a := mm_ob.new (q := (0, 0)) h_a
  refine mm_dup d_G_init_49 rfl ?_
  refine mm_i0w 5 2068 d_G_init_50 (sp_As_init h_56 (by show mm_n μ + 57 + 5 ≤ 1000000; omega) ?_)
  have h_56 := mm_ob.cAs (b := mm_n μ + 56) h_56
  have h_a := mm_ob.cAs (b := mm_n μ + 56) h_a
  refine mm_putP d_G_init_53 rfl (by decide) h_a (Or.inr ⟨rfl, rfl⟩) ?_
  have h_a := mm_ob.sP (b := a) (j := 4) (x := some (mm_n μ + 56)) h_a
  refine mm_aload d_G_init_56 rfl ?_
  refine mm_newO' (mm_n μ + 62) d_G_init_57 rfl (by omega) (fun h_62 => ?_)
  have h_a := mm_ob.new (q := (1, 0)) h_a
  refine mm_dup d_G_init_60 rfl ?_
  refine mm_i0w 3 18 d_G_init_61 (sp_Bo_init h_62 (by show mm_n μ + 63 + 3 ≤ 1000000; omega) ?_)
  have h_62 := mm_ob.cBo (b := mm_n μ + 62) h_62
  have h_a := mm_ob.cBo (b := mm_n μ + 62) h_a
  refine mm_putP d_G_init_64 rfl (by decide) h_a (Or.inr ⟨rfl, rfl⟩) ?_
  have h_a := mm_ob.sP (b := a) (j := 5) (x := some (mm_n μ + 62)) h_a
  refine mm_aload d_G_init_67 rfl ?_
  refine mm_newO' (mm_n μ + 66) d_G_init_68 rfl (by omega) (fun h_66 => ?_)
  have h_a := mm_ob.new (q := (6, 0)) h_a
  refine mm_dup d_G_init_71 rfl ?_
  refine mm_i0w 3 25 d_G_init_72 (sp_Sk_init h_66 (by show mm_n μ + 67 + 3 ≤ 1000000; omega) ?_)
  have h_66 := mm_ob.cSk (b := mm_n μ + 66) h_66
  have h_a := mm_ob.cSk (b := mm_n μ + 66) h_a
  refine mm_putP d_G_init_75 rfl (by decide) h_a (Or.inr ⟨rfl, rfl⟩) ?_
  have h_a := mm_ob.sP (b := a) (j := 6) (x := some (mm_n μ + 66)) h_a
  exact mm_rv d_G_init_78 h
def cM (μ : mm_M) (a : Nat) : mm_M :=
  let μ1 := mm_new μ (20 + 1, 2400)
  let μ2 := mm_sP μ1 a 1 (some (mm_n μ))
  let μ3 := mm_new μ2 (20 + 0, 4)
  let μ4 := mm_sP μ3 a 2 (some (mm_n μ + 1))
  let μ5 := mm_new μ4 (20 + 0, 4)
  let μ6 := mm_sP μ5 a 3 (some (mm_n μ + 2))
  let μ7 := mm_new μ6 (20 + 0, 4)
  let μ8 := mm_sP μ7 a 4 (some (mm_n μ + 3))
  let μ9 := mm_new μ8 (20 + 0, 12)
  let μ10 := mm_sP μ9 a 5 (some (mm_n μ + 4))
  let μ11 := mm_new μ10 (20 + 0, 352)
  let μ12 := mm_sP μ11 a 6 (some (mm_n μ + 5))
  let μ13 := mm_new μ12 (20 + 0, 968)
  let μ14 := mm_sP μ13 a 7 (some (mm_n μ + 6))
  let μ15 := mm_new μ14 (20 + 0, 136)
  let μ16 := mm_sP μ15 a 8 (some (mm_n μ + 7))
  let μ17 := mm_new μ16 (20 + 0, 121)
  let μ18 := mm_sP μ17 a 18 (some (mm_n μ + 8))
  let μ19 := mm_new μ18 (20 + 0, 3)
  let μ20 := mm_sP μ19 a 19 (some (mm_n μ + 9))
  let μ21 := mm_new μ20 (20 + 0, 6)
  let μ22 := mm_sP μ21 a 30 (some (mm_n μ + 10))
  let μ23 := mm_new μ22 (20 + 0, 48)
  let μ24 := mm_sP μ23 a 31 (some (mm_n μ + 11))
  let μ25 := mm_new μ24 (20 + 0, 6)
  let μ26 := mm_sP μ25 a 32 (some (mm_n μ + 12))
  let μ27 := mm_new μ26 (20 + 2, 576)
  let μ28 := mm_sP μ27 a 34 (some (mm_n μ + 13))
  let μ29 := mm_new μ28 (20 + 0, 6)
  let μ30 := mm_sP μ29 a 38 (some (mm_n μ + 14))
  let μ31 := mm_new μ30 (20 + 0, 6859)
  let μ32 := mm_sP μ31 a 39 (some (mm_n μ + 15))
  let μ33 := mm_new μ32 (20 + 0, 56)
  let μ34 := mm_sP μ33 a 42 (some (mm_n μ + 16))
  let μ35 := mm_new μ34 (20 + 0, 64)
  let μ36 := mm_sP μ35 a 45 (some (mm_n μ + 17))
  let μ37 := mm_new μ36 (20 + 0, 2304)
  let μ38 := mm_sP μ37 a 46 (some (mm_n μ + 18))
  let μ39 := mm_new μ38 (20 + 3, 10)
  let μ40 := mm_sP μ39 a 47 (some (mm_n μ + 19))
  let μ41 := mm_new μ40 (20 + 2, 64)
  let μ42 := mm_sP μ41 a 48 (some (mm_n μ + 20))
  let μ43 := mm_new μ42 (20 + 0, 64)
  let μ44 := mm_sP μ43 a 49 (some (mm_n μ + 21))
  let μ45 := mm_new μ44 (20 + 2, 3)
  let μ46 := mm_sP μ45 a 50 (some (mm_n μ + 22))
  let μ47 := mm_sI μ46 (mm_n μ + 3) 0 (-1)
  μ47
theorem sp_M_init {X : mm_X} {μ : mm_M} {q : mm_M → Prop} {a : Nat} (ho : mm_ob μ a 10) (hn : mm_n μ + 23 ≤ 1000000) (h : q (cM μ a)) : mm_Cv X 1 23 14070 k_M_init [.ref a] μ q := by
  show mm_T X 1 23 14070 k_M_init 0 [some (.ref a)] [] μ _
  have h_a := ho
  refine mm_aload d_M_init_0 rfl ?_
  refine mm_oinit d_M_init_1 (Nat.le_of_ble_eq_true rfl) (Nat.le_of_ble_eq_true rfl) ?_
  refine mm_aload d_M_init_4 rfl ?_
  refine mm_ci d_M_init_5 ?_
  refine mm_newA' (mm_n μ) 2400 d_M_init_8 rfl (by omega) ⟨by decide, by decide, by decide⟩ (fun h_0 => ?_)
  have h_a := mm_ob.new (q := (20 + 1, 2400)) h_a
  refine mm_putP d_M_init_10 rfl (by decide) h_a (Or.inr ⟨rfl, rfl⟩) ?_
  have h_a := mm_ob.sP (b := a) (j := 1) (x := some (mm_n μ)) h_a
  refine mm_aload d_M_init_13 rfl ?_
  refine mm_ci d_M_init_14 ?_
  refine mm_newA' (mm_n μ + 1) 4 d_M_init_15 rfl (by omega) ⟨by decide, by decide, by decide⟩ (fun h_1 => ?_)
  have h_a := mm_ob.new (q := (20 + 0, 4)) h_a
  refine mm_putP d_M_init_17 rfl (by decide) h_a (Or.inr ⟨rfl, rfl⟩) ?_
  have h_a := mm_ob.sP (b := a) (j := 2) (x := some (mm_n μ + 1)) h_a
  refine mm_aload d_M_init_20 rfl ?_
  refine mm_ci d_M_init_21 ?_
  refine mm_newA' (mm_n μ + 2) 4 d_M_init_22 rfl (by omega) ⟨by decide, by decide, by decide⟩ (fun h_2 => ?_)
  have h_a := mm_ob.new (q := (20 + 0, 4)) h_a
  refine mm_putP d_M_init_24 rfl (by decide) h_a (Or.inr ⟨rfl, rfl⟩) ?_
  have h_a := mm_ob.sP (b := a) (j := 3) (x := some (mm_n μ + 2)) h_a
  refine mm_aload d_M_init_27 rfl ?_
  refine mm_ci d_M_init_28 ?_
  refine mm_newA' (mm_n μ + 3) 4 d_M_init_29 rfl (by omega) ⟨by decide, by decide, by decide⟩ (fun h_3 => ?_)
  have h_a := mm_ob.new (q := (20 + 0, 4)) h_a
  refine mm_putP d_M_init_31 rfl (by decide) h_a (Or.inr ⟨rfl, rfl⟩) ?_
  have h_3 := mm_ar.sP (b := a) (j := 4) (x := some (mm_n μ + 3)) h_3
  have h_a := mm_ob.sP (b := a) (j := 4) (x := some (mm_n μ + 3)) h_a
  have h_p := mm_P_here (j := 4) h_a
  refine mm_aload d_M_init_34 rfl ?_
  refine mm_ci d_M_init_35 ?_
  refine mm_newA' (mm_n μ + 4) 12 d_M_init_37 rfl (by omega) ⟨by decide, by decide, by decide⟩ (fun h_4 => ?_)
  have h_3 := mm_ar.new (q := (20 + 0, 12)) h_3
  have h_p := mm_P_new (q := (20 + 0, 12)) h_a h_p
  have h_a := mm_ob.new (q := (20 + 0, 12)) h_a
  refine mm_putP d_M_init_39 rfl (by decide) h_a (Or.inr ⟨rfl, rfl⟩) ?_
  have h_3 := mm_ar.sP (b := a) (j := 5) (x := some (mm_n μ + 4)) h_3
  have h_p := mm_P_off (j := 5) (x := some (mm_n μ + 4)) (by decide) h_p
  have h_a := mm_ob.sP (b := a) (j := 5) (x := some (mm_n μ + 4)) h_a
  refine mm_aload d_M_init_42 rfl ?_
  refine mm_ci d_M_init_43 ?_
  refine mm_newA' (mm_n μ + 5) 352 d_M_init_46 rfl (by omega) ⟨by decide, by decide, by decide⟩ (fun h_5 => ?_)
  have h_3 := mm_ar.new (q := (20 + 0, 352)) h_3
  have h_p := mm_P_new (q := (20 + 0, 352)) h_a h_p
  have h_a := mm_ob.new (q := (20 + 0, 352)) h_a
  refine mm_putP d_M_init_48 rfl (by decide) h_a (Or.inr ⟨rfl, rfl⟩) ?_
  have h_3 := mm_ar.sP (b := a) (j := 6) (x := some (mm_n μ + 5)) h_3
  have h_p := mm_P_off (j := 6) (x := some (mm_n μ + 5)) (by decide) h_p
  have h_a := mm_ob.sP (b := a) (j := 6) (x := some (mm_n μ + 5)) h_a
  refine mm_aload d_M_init_51 rfl ?_
  refine mm_ci d_M_init_52 ?_
  refine mm_newA' (mm_n μ + 6) 968 d_M_init_55 rfl (by omega) ⟨by decide, by decide, by decide⟩ (fun h_6 => ?_)
  have h_3 := mm_ar.new (q := (20 + 0, 968)) h_3
  have h_p := mm_P_new (q := (20 + 0, 968)) h_a h_p
  have h_a := mm_ob.new (q := (20 + 0, 968)) h_a
  refine mm_putP d_M_init_57 rfl (by decide) h_a (Or.inr ⟨rfl, rfl⟩) ?_
  have h_3 := mm_ar.sP (b := a) (j := 7) (x := some (mm_n μ + 6)) h_3
  have h_p := mm_P_off (j := 7) (x := some (mm_n μ + 6)) (by decide) h_p
  have h_a := mm_ob.sP (b := a) (j := 7) (x := some (mm_n μ + 6)) h_a
  refine mm_aload d_M_init_60 rfl ?_
  refine mm_ci d_M_init_61 ?_
  refine mm_newA' (mm_n μ + 7) 136 d_M_init_64 rfl (by omega) ⟨by decide, by decide, by decide⟩ (fun h_7 => ?_)
  have h_3 := mm_ar.new (q := (20 + 0, 136)) h_3
  have h_p := mm_P_new (q := (20 + 0, 136)) h_a h_p
  have h_a := mm_ob.new (q := (20 + 0, 136)) h_a
  refine mm_putP d_M_init_66 rfl (by decide) h_a (Or.inr ⟨rfl, rfl⟩) ?_
  have h_3 := mm_ar.sP (b := a) (j := 8) (x := some (mm_n μ + 7)) h_3
  have h_p := mm_P_off (j := 8) (x := some (mm_n μ + 7)) (by decide) h_p
  have h_a := mm_ob.sP (b := a) (j := 8) (x := some (mm_n μ + 7)) h_a
  refine mm_aload d_M_init_69 rfl ?_
  refine mm_ci d_M_init_70 ?_
  refine mm_newA' (mm_n μ + 8) 121 d_M_init_72 rfl (by omega) ⟨by decide, by decide, by decide⟩ (fun h_8 => ?_)
  have h_3 := mm_ar.new (q := (20 + 0, 121)) h_3
  have h_p := mm_P_new (q := (20 + 0, 121)) h_a h_p
  have h_a := mm_ob.new (q := (20 + 0, 121)) h_a
  refine mm_putP d_M_init_74 rfl (by decide) h_a (Or.inr ⟨rfl, rfl⟩) ?_
  have h_3 := mm_ar.sP (b := a) (j := 18) (x := some (mm_n μ + 8)) h_3
  have h_p := mm_P_off (j := 18) (x := some (mm_n μ + 8)) (by decide) h_p
  have h_a := mm_ob.sP (b := a) (j := 18) (x := some (mm_n μ + 8)) h_a
  refine mm_aload d_M_init_77 rfl ?_
  refine mm_ci d_M_init_78 ?_
  refine mm_newA' (mm_n μ + 9) 3 d_M_init_79 rfl (by omega) ⟨by decide, by decide, by decide⟩ (fun h_9 => ?_)
  have h_3 := mm_ar.new (q := (20 + 0, 3)) h_3
  have h_p := mm_P_new (q := (20 + 0, 3)) h_a h_p
  have h_a := mm_ob.new (q := (20 + 0, 3)) h_a
  refine mm_putP d_M_init_81 rfl (by decide) h_a (Or.inr ⟨rfl, rfl⟩) ?_
  have h_3 := mm_ar.sP (b := a) (j := 19) (x := some (mm_n μ + 9)) h_3
  have h_p := mm_P_off (j := 19) (x := some (mm_n μ + 9)) (by decide) h_p
  have h_a := mm_ob.sP (b := a) (j := 19) (x := some (mm_n μ + 9)) h_a
  refine mm_aload d_M_init_84 rfl ?_
  refine mm_ci d_M_init_85 ?_
  refine mm_newA' (mm_n μ + 10) 6 d_M_init_87 rfl (by omega) ⟨by decide, by decide, by decide⟩ (fun h_10 => ?_)
  have h_3 := mm_ar.new (q := (20 + 0, 6)) h_3
  have h_p := mm_P_new (q := (20 + 0, 6)) h_a h_p
  have h_a := mm_ob.new (q := (20 + 0, 6)) h_a
  refine mm_putP d_M_init_89 rfl (by decide) h_a (Or.inr ⟨rfl, rfl⟩) ?_
  have h_3 := mm_ar.sP (b := a) (j := 30) (x := some (mm_n μ + 10)) h_3
  have h_p := mm_P_off (j := 30) (x := some (mm_n μ + 10)) (by decide) h_p
  have h_a := mm_ob.sP (b := a) (j := 30) (x := some (mm_n μ + 10)) h_a
  refine mm_aload d_M_init_92 rfl ?_
  refine mm_ci d_M_init_93 ?_
  refine mm_newA' (mm_n μ + 11) 48 d_M_init_95 rfl (by omega) ⟨by decide, by decide, by decide⟩ (fun h_11 => ?_)
  have h_3 := mm_ar.new (q := (20 + 0, 48)) h_3
  have h_p := mm_P_new (q := (20 + 0, 48)) h_a h_p
  have h_a := mm_ob.new (q := (20 + 0, 48)) h_a
  refine mm_putP d_M_init_97 rfl (by decide) h_a (Or.inr ⟨rfl, rfl⟩) ?_
  have h_3 := mm_ar.sP (b := a) (j := 31) (x := some (mm_n μ + 11)) h_3
  have h_p := mm_P_off (j := 31) (x := some (mm_n μ + 11)) (by decide) h_p
  have h_a := mm_ob.sP (b := a) (j := 31) (x := some (mm_n μ + 11)) h_a
  refine mm_aload d_M_init_100 rfl ?_
  refine mm_ci d_M_init_101 ?_
  refine mm_newA' (mm_n μ + 12) 6 d_M_init_103 rfl (by omega) ⟨by decide, by decide, by decide⟩ (fun h_12 => ?_)
  have h_3 := mm_ar.new (q := (20 + 0, 6)) h_3
  have h_p := mm_P_new (q := (20 + 0, 6)) h_a h_p
  have h_a := mm_ob.new (q := (20 + 0, 6)) h_a
  refine mm_putP d_M_init_105 rfl (by decide) h_a (Or.inr ⟨rfl, rfl⟩) ?_
  have h_3 := mm_ar.sP (b := a) (j := 32) (x := some (mm_n μ + 12)) h_3
  have h_p := mm_P_off (j := 32) (x := some (mm_n μ + 12)) (by decide) h_p
  have h_a := mm_ob.sP (b := a) (j := 32) (x := some (mm_n μ + 12)) h_a
  refine mm_aload d_M_init_108 rfl ?_
  refine mm_ci d_M_init_109 ?_
  refine mm_newA' (mm_n μ + 13) 576 d_M_init_112 rfl (by omega) ⟨by decide, by decide, by decide⟩ (fun h_13 => ?_)
  have h_3 := mm_ar.new (q := (20 + 2, 576)) h_3
  have h_p := mm_P_new (q := (20 + 2, 576)) h_a h_p
  have h_a := mm_ob.new (q := (20 + 2, 576)) h_a
  refine mm_putP d_M_init_114 rfl (by decide) h_a (Or.inr ⟨rfl, rfl⟩) ?_
  have h_3 := mm_ar.sP (b := a) (j := 34) (x := some (mm_n μ + 13)) h_3
  have h_p := mm_P_off (j := 34) (x := some (mm_n μ + 13)) (by decide) h_p
  have h_a := mm_ob.sP (b := a) (j := 34) (x := some (mm_n μ + 13)) h_a
  refine mm_aload d_M_init_117 rfl ?_
  refine mm_ci d_M_init_118 ?_
  refine mm_newA' (mm_n μ + 14) 6 d_M_init_120 rfl (by omega) ⟨by decide, by decide, by decide⟩ (fun h_14 => ?_)
  have h_3 := mm_ar.new (q := (20 + 0, 6)) h_3
  have h_p := mm_P_new (q := (20 + 0, 6)) h_a h_p
  have h_a := mm_ob.new (q := (20 + 0, 6)) h_a
  refine mm_putP d_M_init_122 rfl (by decide) h_a (Or.inr ⟨rfl, rfl⟩) ?_
  have h_3 := mm_ar.sP (b := a) (j := 38) (x := some (mm_n μ + 14)) h_3
  have h_p := mm_P_off (j := 38) (x := some (mm_n μ + 14)) (by decide) h_p
  have h_a := mm_ob.sP (b := a) (j := 38) (x := some (mm_n μ + 14)) h_a
  refine mm_aload d_M_init_125 rfl ?_
  refine mm_ci d_M_init_126 ?_
  refine mm_newA' (mm_n μ + 15) 6859 d_M_init_129 rfl (by omega) ⟨by decide, by decide, by decide⟩ (fun h_15 => ?_)
  have h_3 := mm_ar.new (q := (20 + 0, 6859)) h_3
  have h_p := mm_P_new (q := (20 + 0, 6859)) h_a h_p
  have h_a := mm_ob.new (q := (20 + 0, 6859)) h_a
  refine mm_putP d_M_init_131 rfl (by decide) h_a (Or.inr ⟨rfl, rfl⟩) ?_
  have h_3 := mm_ar.sP (b := a) (j := 39) (x := some (mm_n μ + 15)) h_3
  have h_p := mm_P_off (j := 39) (x := some (mm_n μ + 15)) (by decide) h_p
  have h_a := mm_ob.sP (b := a) (j := 39) (x := some (mm_n μ + 15)) h_a
  refine mm_aload d_M_init_134 rfl ?_
  refine mm_ci d_M_init_135 ?_
  refine mm_newA' (mm_n μ + 16) 56 d_M_init_137 rfl (by omega) ⟨by decide, by decide, by decide⟩ (fun h_16 => ?_)
  have h_3 := mm_ar.new (q := (20 + 0, 56)) h_3
  have h_p := mm_P_new (q := (20 + 0, 56)) h_a h_p
  have h_a := mm_ob.new (q := (20 + 0, 56)) h_a
  refine mm_putP d_M_init_139 rfl (by decide) h_a (Or.inr ⟨rfl, rfl⟩) ?_
  have h_3 := mm_ar.sP (b := a) (j := 42) (x := some (mm_n μ + 16)) h_3
  have h_p := mm_P_off (j := 42) (x := some (mm_n μ + 16)) (by decide) h_p
  have h_a := mm_ob.sP (b := a) (j := 42) (x := some (mm_n μ + 16)) h_a
  refine mm_aload d_M_init_142 rfl ?_
  refine mm_ci d_M_init_143 ?_
  refine mm_newA' (mm_n μ + 17) 64 d_M_init_145 rfl (by omega) ⟨by decide, by decide, by decide⟩ (fun h_17 => ?_)
  have h_3 := mm_ar.new (q := (20 + 0, 64)) h_3
  have h_p := mm_P_new (q := (20 + 0, 64)) h_a h_p
  have h_a := mm_ob.new (q := (20 + 0, 64)) h_a
  refine mm_putP d_M_init_147 rfl (by decide) h_a (Or.inr ⟨rfl, rfl⟩) ?_
  have h_3 := mm_ar.sP (b := a) (j := 45) (x := some (mm_n μ + 17)) h_3
  have h_p := mm_P_off (j := 45) (x := some (mm_n μ + 17)) (by decide) h_p
  have h_a := mm_ob.sP (b := a) (j := 45) (x := some (mm_n μ + 17)) h_a
  refine mm_aload d_M_init_150 rfl ?_
  refine mm_ci d_M_init_151 ?_
  refine mm_newA' (mm_n μ + 18) 2304 d_M_init_154 rfl (by omega) ⟨by decide, by decide, by decide⟩ (fun h_18 => ?_)
  have h_3 := mm_ar.new (q := (20 + 0, 2304)) h_3
  have h_p := mm_P_new (q := (20 + 0, 2304)) h_a h_p
  have h_a := mm_ob.new (q := (20 + 0, 2304)) h_a
  refine mm_putP d_M_init_156 rfl (by decide) h_a (Or.inr ⟨rfl, rfl⟩) ?_
  have h_3 := mm_ar.sP (b := a) (j := 46) (x := some (mm_n μ + 18)) h_3
  have h_p := mm_P_off (j := 46) (x := some (mm_n μ + 18)) (by decide) h_p
  have h_a := mm_ob.sP (b := a) (j := 46) (x := some (mm_n μ + 18)) h_a
  refine mm_aload d_M_init_159 rfl ?_
  refine mm_ci d_M_init_160 ?_
  refine mm_newA' (mm_n μ + 19) 10 d_M_init_162 rfl (by omega) ⟨by decide, by decide, by decide⟩ (fun h_19 => ?_)
  have h_3 := mm_ar.new (q := (20 + 3, 10)) h_3
  have h_p := mm_P_new (q := (20 + 3, 10)) h_a h_p
  have h_a := mm_ob.new (q := (20 + 3, 10)) h_a
  refine mm_putP d_M_init_164 rfl (by decide) h_a (Or.inr ⟨rfl, rfl⟩) ?_
  have h_3 := mm_ar.sP (b := a) (j := 47) (x := some (mm_n μ + 19)) h_3
  have h_p := mm_P_off (j := 47) (x := some (mm_n μ + 19)) (by decide) h_p
  have h_a := mm_ob.sP (b := a) (j := 47) (x := some (mm_n μ + 19)) h_a
  refine mm_aload d_M_init_167 rfl ?_
  refine mm_ci d_M_init_168 ?_
  refine mm_newA' (mm_n μ + 20) 64 d_M_init_170 rfl (by omega) ⟨by decide, by decide, by decide⟩ (fun h_20 => ?_)
  have h_3 := mm_ar.new (q := (20 + 2, 64)) h_3
  have h_p := mm_P_new (q := (20 + 2, 64)) h_a h_p
  have h_a := mm_ob.new (q := (20 + 2, 64)) h_a
  refine mm_putP d_M_init_172 rfl (by decide) h_a (Or.inr ⟨rfl, rfl⟩) ?_
  have h_3 := mm_ar.sP (b := a) (j := 48) (x := some (mm_n μ + 20)) h_3
  have h_p := mm_P_off (j := 48) (x := some (mm_n μ + 20)) (by decide) h_p
  have h_a := mm_ob.sP (b := a) (j := 48) (x := some (mm_n μ + 20)) h_a
  refine mm_aload d_M_init_175 rfl ?_
  refine mm_ci d_M_init_176 ?_
  refine mm_newA' (mm_n μ + 21) 64 d_M_init_178 rfl (by omega) ⟨by decide, by decide, by decide⟩ (fun h_21 => ?_)
  have h_3 := mm_ar.new (q := (20 + 0, 64)) h_3
  have h_p := mm_P_new (q := (20 + 0, 64)) h_a h_p
  have h_a := mm_ob.new (q := (20 + 0, 64)) h_a
  refine mm_putP d_M_init_180 rfl (by decide) h_a (Or.inr ⟨rfl, rfl⟩) ?_
  have h_3 := mm_ar.sP (b := a) (j := 49) (x := some (mm_n μ + 21)) h_3
  have h_p := mm_P_off (j := 49) (x := some (mm_n μ + 21)) (by decide) h_p
  have h_a := mm_ob.sP (b := a) (j := 49) (x := some (mm_n μ + 21)) h_a
  refine mm_aload d_M_init_183 rfl ?_
  refine mm_ci d_M_init_184 ?_
  refine mm_newA' (mm_n μ + 22) 3 d_M_init_185 rfl (by omega) ⟨by decide, by decide, by decide⟩ (fun h_22 => ?_)
  have h_3 := mm_ar.new (q := (20 + 2, 3)) h_3
  have h_p := mm_P_new (q := (20 + 2, 3)) h_a h_p
  have h_a := mm_ob.new (q := (20 + 2, 3)) h_a
  refine mm_putP d_M_init_187 rfl (by decide) h_a (Or.inr ⟨rfl, rfl⟩) ?_
  have h_3 := mm_ar.sP (b := a) (j := 50) (x := some (mm_n μ + 22)) h_3
  have h_p := mm_P_off (j := 50) (x := some (mm_n μ + 22)) (by decide) h_p
  have h_a := mm_ob.sP (b := a) (j := 50) (x := some (mm_n μ + 22)) h_a
  refine mm_aload d_M_init_190 rfl ?_
  refine mm_getP (r := mm_n μ + 3) d_M_init_191 rfl h_a h_p ?_
  refine mm_ci d_M_init_194 ?_
  refine mm_ci d_M_init_195 ?_
  refine mm_iast d_M_init_196 h_3 (vp_in_nI (n := 0) (N := 4) (by decide) (by decide)) ?_
  exact mm_rv d_M_init_197 h
