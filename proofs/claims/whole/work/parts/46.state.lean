/-! what class and model have in common between the calls -/
def Per (S : Nat → Bool) : Prop := ∀ a, (a ≤ 35 ∨ (72 ≤ a ∧ a ≤ 79) ∨ 94 ≤ a) → S a = false
/-- equal in ints, refs, shapes, from a to b -/
def Eq2 (μ μ' : mm_M) (a b : Nat) : Prop := mm_n μ ≤ mm_n μ' ∧ ∀ x, a ≤ x → x ≤ b → mm_I μ' x = mm_I μ x ∧ mm_P μ' x = mm_P μ x ∧ mm_sh μ' x = mm_sh μ x
theorem Eq2.sub {μ μ' : mm_M} {a b c d : Nat} (h : Eq2 μ μ' a b) (h1 : a ≤ c) (h2 : d ≤ b) : Eq2 μ μ' c d := ⟨h.1, fun x hx hy => h.2 x (by omega) (by omega)⟩
theorem Fr.eq2 {S : Nat → Bool} {μ μ' : mm_M} (h : Fr S μ μ') {a b : Nat} (hs : ∀ x, a ≤ x → x ≤ b → S x = false) : Eq2 μ μ' a b := ⟨Nat.le_of_eq h.1.symm, fun x hx hy => ⟨(h.2.2.1 x (hs x hx hy)).1, (h.2.2.1 x (hs x hx hy)).2.2, by rw [h.2.1]⟩⟩
theorem Eq2.ob {μ μ' : mm_M} {a b x c : Nat} (h : Eq2 μ μ' a b) (h1 : a ≤ x) (h2 : x ≤ b) (ho : mm_ob μ x c) : mm_ob μ' x c := ⟨Nat.lt_of_lt_of_le ho.1 h.1, (h.2 x h1 h2).2.2.trans ho.2.1, ho.2.2⟩
theorem Eq2.ar {μ μ' : mm_M} {a b x t k : Nat} (h : Eq2 μ μ' a b) (h1 : a ≤ x) (h2 : x ≤ b) (ho : mm_ar μ x t k) : mm_ar μ' x t k := ⟨Nat.lt_of_lt_of_le ho.1 h.1, (h.2 x h1 h2).2.2.trans ho.2.1, ho.2.2⟩
theorem Eq2.p {μ μ' : mm_M} {a b x j : Nat} {r : Option Nat} (h : Eq2 μ μ' a b) (h1 : a ≤ x) (h2 : x ≤ b) (ho : mm_P μ x j = r) : mm_P μ' x j = r := by rw [(h.2 x h1 h2).2.1]; exact ho
theorem Eq2.i {μ μ' : mm_M} {a b x : Nat} (h : Eq2 μ μ' a b) (h1 : a ≤ x) (h2 : x ≤ b) : mm_I μ' x = mm_I μ x := (h.2 x h1 h2).1
theorem CoS.eq {μ μ' : mm_M} {a : Nat} (h : CoS μ a) (e : Eq2 μ μ' a (a + 6)) : CoS μ' a := by
  obtain ⟨h0, ⟨h1, k1⟩, ⟨h2, k2⟩, ⟨h3, k3⟩, ⟨h4, k4⟩, ⟨h5, k5⟩, ⟨h6, k6⟩⟩ := h
  exact ⟨e.ob (by omega) (by omega) h0, ⟨e.p (by omega) (by omega) h1, e.ar (by omega) (by omega) k1⟩, ⟨e.p (by omega) (by omega) h2, e.ar (by omega) (by omega) k2⟩, ⟨e.p (by omega) (by omega) h3, e.ar (by omega) (by omega) k3⟩, ⟨e.p (by omega) (by omega) h4, e.ar (by omega) (by omega) k4⟩, ⟨e.p (by omega) (by omega) h5, e.ar (by omega) (by omega) k5⟩, ⟨e.p (by omega) (by omega) h6, e.ar (by omega) (by omega) k6⟩⟩
theorem YeS.eq {μ μ' : mm_M} {a : Nat} (h : YeS μ a) (e : Eq2 μ μ' a (a + 3)) : YeS μ' a := by
  obtain ⟨h0, ⟨h1, k1⟩, ⟨h2, k2⟩, ⟨h3, k3⟩⟩ := h
  exact ⟨e.ob (by omega) (by omega) h0, ⟨e.p (by omega) (by omega) h1, e.ar (by omega) (by omega) k1⟩, ⟨e.p (by omega) (by omega) h2, e.ar (by omega) (by omega) k2⟩, ⟨e.p (by omega) (by omega) h3, e.ar (by omega) (by omega) k3⟩⟩
theorem LoS.eq {μ μ' : mm_M} {a : Nat} (h : LoS μ a) (e : Eq2 μ μ' a (a + 2)) : LoS μ' a := by
  obtain ⟨h0, ⟨h1, k1⟩, ⟨h2, k2⟩⟩ := h
  exact ⟨e.ob (by omega) (by omega) h0, ⟨e.p (by omega) (by omega) h1, e.ar (by omega) (by omega) k1⟩, ⟨e.p (by omega) (by omega) h2, e.ar (by omega) (by omega) k2⟩⟩
theorem ToS.eq {μ μ' : mm_M} {t : Nat} (h : ToS μ t) (e : Eq2 μ μ' t (t + 33)) : ToS μ' t := by
  obtain ⟨h0, ⟨h1, k1⟩, ⟨a1, a2, a3, a4, a5, a6⟩, ⟨b1, b2, b3, b4, b5, b6⟩, ⟨c1, c2, c3, c4, c5, c6⟩, ⟨d1, d2⟩⟩ := h
  exact ⟨e.ob (by omega) (by omega) h0, ⟨e.p (by omega) (by omega) h1, e.ar (by omega) (by omega) k1⟩,
    ⟨e.p (by omega) (by omega) a1, e.ar (by omega) (by omega) a2, e.p (by omega) (by omega) a3, e.p (by omega) (by omega) a4, a5.eq (e.sub (by omega) (by omega)), a6.eq (e.sub (by omega) (by omega))⟩,
    ⟨e.p (by omega) (by omega) b1, e.ar (by omega) (by omega) b2, e.p (by omega) (by omega) b3, e.p (by omega) (by omega) b4, b5.eq (e.sub (by omega) (by omega)), b6.eq (e.sub (by omega) (by omega))⟩,
    ⟨e.p (by omega) (by omega) c1, e.ar (by omega) (by omega) c2, e.p (by omega) (by omega) c3, e.p (by omega) (by omega) c4, c5.eq (e.sub (by omega) (by omega)), c6.eq (e.sub (by omega) (by omega))⟩,
    ⟨e.p (by omega) (by omega) d1, e.ar (by omega) (by omega) d2⟩⟩
theorem CoD.eq {μ μ' : mm_M} {a : Nat} {D : mm_D} (h : CoD μ a D) (e : Eq2 μ μ' a (a + 6)) : CoD μ' a D := by
  obtain ⟨h0, h1, h2, h3, h4⟩ := h
  refine ⟨h0.eq e, ?_, ?_, ?_, ?_⟩
  · rw [e.i (by omega) (by omega)]; exact h1
  · rw [e.i (by omega) (by omega)]; exact h2
  · rw [e.i (x := a + 1) (by omega) (by omega), e.i (x := a + 2) (by omega) (by omega), e.i (x := a + 3) (by omega) (by omega)]; exact h3
  · rw [e.i (x := a + 4) (by omega) (by omega), e.i (x := a + 5) (by omega) (by omega), e.i (x := a + 6) (by omega) (by omega)]; exact h4
theorem CoM.eq {μ μ' : mm_M} {b : Nat} {D : mm_D} (h : CoM μ b D) (e : mm_I μ' 77 = mm_I μ 77) : CoM μ' b D := by
  unfold CoM
  rw [e]
  exact h
def CoR (μ : mm_M) (a b : Nat) : Prop := ∃ D, WfD D ∧ CoD μ a D ∧ CoM μ b D
def WfY (kd x y : Int32) : Prop := ((kd = 0 ∨ kd = 1) ∧ ∃ c w : Nat, c < 6 ∧ w < 8 ∧ x = nI c ∧ y = nI w) ∨ (kd = 2 ∧ ∃ w : Nat, w < 8 ∧ x = nI w ∧ y = -1) ∨ (kd = 3 ∧ ∃ w : Nat, w < 6 ∧ x = nI w ∧ y = -1) ∨ (kd = 4 ∧ x = -1 ∧ y = -1)
def YeR (μ : mm_M) (a b : Nat) : Prop := YeS μ a ∧ ∃ n : Nat, n ≤ 40 ∧ mm_I μ a 3 = nI n ∧ mm_I μ 78 b = nI n ∧ ∀ j, j < n → mm_I μ (a + 1) j = mm_I μ 78 (b + (1 + 3 * j)) ∧ mm_I μ (a + 2) j = mm_I μ 78 (b + (1 + 3 * j + 1)) ∧ mm_I μ (a + 3) j = mm_I μ 78 (b + (1 + 3 * j + 2)) ∧ WfY (mm_I μ (a + 1) j) (mm_I μ (a + 2) j) (mm_I μ (a + 3) j)
def LoR (μ : mm_M) (a b : Nat) : Prop := LoS μ a ∧ ∃ n : Nat, n ≤ 8 ∧ mm_I μ a 2 = nI n ∧ mm_I μ 79 b = nI n ∧ ∀ j, j < n → mm_I μ (a + 1) j = mm_I μ 79 (b + (1 + 2 * j)) ∧ mm_I μ (a + 2) j = mm_I μ 79 (b + (1 + 2 * j + 1)) ∧ (∃ e : Nat, e ≤ 1 ∧ mm_I μ (a + 1) j = nI e) ∧ ∃ w : Nat, w < 8 ∧ mm_I μ (a + 2) j = nI w
theorem CoR.eq {μ μ' : mm_M} {a b : Nat} (h : CoR μ a b) (e : Eq2 μ μ' a (a + 6)) (e2 : mm_I μ' 77 = mm_I μ 77) : CoR μ' a b := by
  obtain ⟨D, h1, h2, h3⟩ := h
  exact ⟨D, h1, h2.eq e, h3.eq e2⟩
theorem YeR.eq {μ μ' : mm_M} {a b : Nat} (h : YeR μ a b) (e : Eq2 μ μ' a (a + 3)) (e2 : mm_I μ' 78 = mm_I μ 78) : YeR μ' a b := by
  obtain ⟨h0, n, h1, h2, h3, h4⟩ := h
  refine ⟨h0.eq e, n, h1, ?_, ?_, ?_⟩
  · rw [e.i (by omega) (by omega)]; exact h2
  · rw [e2]; exact h3
  · rw [e2, e.i (x := a + 1) (by omega) (by omega), e.i (x := a + 2) (by omega) (by omega), e.i (x := a + 3) (by omega) (by omega)]; exact h4
theorem LoR.eq {μ μ' : mm_M} {a b : Nat} (h : LoR μ a b) (e : Eq2 μ μ' a (a + 2)) (e2 : mm_I μ' 79 = mm_I μ 79) : LoR μ' a b := by
  obtain ⟨h0, n, h1, h2, h3, h4⟩ := h
  refine ⟨h0.eq e, n, h1, ?_, ?_, ?_⟩
  · rw [e.i (by omega) (by omega)]; exact h2
  · rw [e2]; exact h3
  · rw [e2, e.i (x := a + 1) (by omega) (by omega), e.i (x := a + 2) (by omega) (by omega)]; exact h4
/-- the class's told at t against the model's k-th -/
def TR (μ : mm_M) (t k : Nat) : Prop := ToS μ t ∧ (∃ n : Nat, n ≤ 600 ∧ mm_I μ t 5 = nI n ∧ mm_I μ 73 k = nI n ∧ ∀ j, j < n → mm_I μ (t + 1) j = mm_I μ 72 (600 * k + j)) ∧ (∀ j, fits .byte (.int (mm_I μ (t + 1) j)) = true) ∧ mm_I μ t 6 = mm_I μ 74 k ∧ mm_I μ t 7 = mm_I μ 75 k ∧
  (∃ c : Nat, c ≤ 2 ∧ mm_I μ (t + 33) 0 = nI c ∧ mm_I μ 76 (3 * k) = nI c ∧ ∀ i, i < c → CoR μ (t + 3 + 7 * i) (88 * k + 44 * i)) ∧
  (∃ c : Nat, c ≤ 2 ∧ mm_I μ (t + 33) 1 = nI c ∧ mm_I μ 76 (3 * k + 1) = nI c ∧ ∀ i, i < c → YeR μ (t + 18 + 4 * i) (242 * k + 121 * i)) ∧
  (∃ c : Nat, c ≤ 2 ∧ mm_I μ (t + 33) 2 = nI c ∧ mm_I μ 76 (3 * k + 2) = nI c ∧ ∀ i, i < c → LoR μ (t + 27 + 3 * i) (34 * k + 17 * i))
theorem TR.eq {μ μ' : mm_M} {t k : Nat} (h : TR μ t k) (e : Eq2 μ μ' t (t + 33)) (e2 : ∀ x, 72 ≤ x → x ≤ 79 → mm_I μ' x = mm_I μ x) : TR μ' t k := by
  obtain ⟨h0, ⟨n, n1, n2, n3, n4⟩, h2, h3, h4, ⟨c, c1, c2, c3, c4⟩, ⟨d, d1, d2, d3, d4⟩, ⟨f, f1, f2, f3, f4⟩⟩ := h
  have et := e.i (x := t) (by omega) (by omega)
  have et1 := e.i (x := t + 1) (by omega) (by omega)
  have et33 := e.i (x := t + 33) (by omega) (by omega)
  refine ⟨h0.eq e, ⟨n, n1, ?_, ?_, ?_⟩, ?_, ?_, ?_, ⟨c, c1, ?_, ?_, fun i hi => (c4 i hi).eq (e.sub (by omega) (by omega)) (e2 77 (by decide) (by decide))⟩, ⟨d, d1, ?_, ?_, fun i hi => (d4 i hi).eq (e.sub (by omega) (by omega)) (e2 78 (by decide) (by decide))⟩, ⟨f, f1, ?_, ?_, fun i hi => (f4 i hi).eq (e.sub (by omega) (by omega)) (e2 79 (by decide) (by decide))⟩⟩
  · rw [et]; exact n2
  · rw [e2 73 (by decide) (by decide)]; exact n3
  · rw [et1, e2 72 (by decide) (by decide)]; exact n4
  · rw [et1]; exact h2
  · rw [et, e2 74 (by decide) (by decide)]; exact h3
  · rw [et, e2 75 (by decide) (by decide)]; exact h4
  · rw [et33]; exact c2
  · rw [e2 76 (by decide) (by decide)]; exact c3
  · rw [et33]; exact d2
  · rw [e2 76 (by decide) (by decide)]; exact d3
  · rw [et33]; exact f2
  · rw [e2 76 (by decide) (by decide)]; exact f3
/-- the images -/
def Im (μ : mm_M) : Prop := ∃ m : Nat, m ≤ 3 ∧ mm_n μ = 95 + 34 * m ∧ (∀ e, e < m → ∃ i, i < 3 ∧ mm_P μ 35 i = some (95 + 34 * e)) ∧ ∀ i, i < 3 → (mm_P μ 35 i = none ∧ mm_I μ 94 i = 0) ∨ ∃ e, e < m ∧ mm_P μ 35 i = some (95 + 34 * e) ∧ mm_I μ 94 i = 1 ∧ TR μ (95 + 34 * e) (i + 1) ∧ ∀ i', i' < 3 → mm_P μ 35 i' = some (95 + 34 * e) → i' = i
/-- the walks that Asking has counted -/
def Wk (k : Nat) (μ : mm_M) : Prop := ∃ w : Nat, w ≤ 20 * k ∧ mm_I μ 57 5 = nI w ∧ ∀ j, j < 1792 → ∃ z : Nat, z ≤ w ∧ mm_I μ 62 j = nI z
def JJ (k : Nat) (μ : mm_M) : Prop := SK μ ∧ TR μ 1 0 ∧ Im μ ∧ Wk k μ
theorem Wk.up {k : Nat} {μ : mm_M} (h : Wk k μ) : Wk (k + 1) μ := by
  obtain ⟨w, h1, h2⟩ := h
  exact ⟨w, by omega, h2⟩
theorem JJ.fr {k : Nat} {μ μ' : mm_M} {S : Nat → Bool} (h : JJ k μ) (hf : Fr S μ μ') (hS : Per S) (hw : Wk (k + 1) μ') : JJ (k + 1) μ' := by
  obtain ⟨h1, h2, ⟨m, m1, m2, m3, m4⟩, -⟩ := h
  have e2 : ∀ x, 72 ≤ x → x ≤ 79 → mm_I μ' x = mm_I μ x := fun x hx hy => (hf.2.2.1 x (hS x (by omega))).1
  have p35 := (hf.2.2.1 35 (hS 35 (by omega))).2.2
  have i94 := (hf.2.2.1 94 (hS 94 (by omega))).1
  refine ⟨hf.2.2.2 h1, h2.eq (hf.eq2 (fun x hx hy => hS x (by omega))) e2, ⟨m, m1, hf.1.trans m2, by rw [p35]; exact m3, fun i hi => ?_⟩, hw⟩
  rw [p35, i94]
  rcases m4 i hi with z | ⟨e, e1, z2, z3, z4, z5⟩
  · exact Or.inl z
  · exact Or.inr ⟨e, e1, z2, z3, z4.eq (hf.eq2 (fun x hx hy => hS x (by omega))) e2, z5⟩
theorem JJ.same {k : Nat} {μ : mm_M} (h : JJ k μ) : JJ (k + 1) μ := ⟨h.1, h.2.1, h.2.2.1, h.2.2.2.up⟩
