/-! texts: words; the model takes a token -/
theorem pk8 {a b : Nat} (h : a * 256 + b < 18446744073709551616) (hb : b < 256) : (lN a <<< ((nI 8).toInt64 &&& 63)) ||| lN b = lN (a * 256 + b) := by
  apply Int64.toBitVec_inj.mp
  rw [Int64.toBitVec_or, Int64.toBitVec_shiftLeft]
  have e : (((nI 8).toInt64 &&& 63).toBitVec.smod 64) = BitVec.ofNat 64 8 := by decide
  rw [e]
  have h1 : (BitVec.ofNat 64 a <<< BitVec.ofNat 64 8).toNat = a * 256 := by
    rw [BitVec.shiftLeft_eq', BitVec.toNat_shiftLeft, Nat.shiftLeft_eq]
    show a % 18446744073709551616 * 256 % 18446744073709551616 = _
    omega
  have h2 : (BitVec.ofNat 64 b).toNat = b := by
    show b % 18446744073709551616 = _
    omega
  have h3 : (BitVec.ofNat 64 (a * 256 + b)).toNat = a * 256 + b := by
    show (a * 256 + b) % 18446744073709551616 = _
    omega
  show (BitVec.ofNat 64 a <<< BitVec.ofNat 64 8) ||| BitVec.ofNat 64 b = BitVec.ofNat 64 (a * 256 + b)
  apply BitVec.eq_of_toNat_eq
  rw [BitVec.toNat_or, h1, h2, h3]
  have h4 := Nat.shiftLeft_add_eq_or_of_lt (show b < 2 ^ 8 by omega) a
  rw [Nat.shiftLeft_eq] at h4
  exact h4.symm
def pkW (u : Nat → Nat) (q : Nat) : Nat → Nat
  | 0 => 0
  | n + 1 => pkW u q n * 256 + u (q + n)
def pkL : List Nat → Nat → Nat
  | [], a => a
  | x :: t, a => pkL t (a * 256 + x)
def wordIs (u : Nat → Nat) (q n : Nat) (l : List Nat) : Prop := n = l.length ∧ ∀ i, i < l.length → u (q + i) = l.getD i 0
theorem pkW_2 {u : Nat → Nat} {q : Nat} : ∀ n, (∀ i, i < n → u (q + i) < 123) → 2 * pkW u q n + 2 ≤ 256 ^ n ∨ n = 0
  | 0, _ => Or.inr rfl
  | n + 1, h => by
    have h1 := h n (by omega)
    rcases pkW_2 n (fun i hi => h i (by omega)) with z | z
    · refine Or.inl ?_
      unfold pkW
      rw [Nat.pow_succ]
      omega
    · subst z
      refine Or.inl ?_
      unfold pkW pkW
      rw [Nat.pow_succ]
      omega
theorem pkW_lt {u : Nat → Nat} {q n : Nat} (h : ∀ i, i < n → u (q + i) < 123) (hn : n ≤ 8) : pkW u q n < 2 ^ 63 := by
  rcases pkW_2 n h with z | z
  · have : 256 ^ n ≤ 256 ^ 8 := Nat.pow_le_pow_right (by decide) hn
    have e : 256 ^ 8 = 2 * 2 ^ 63 := by decide
    omega
  · subst z
    unfold pkW
    decide
theorem pkW_pos {u : Nat → Nat} {q n : Nat} (h : ∀ i, i < n → 97 ≤ u (q + i)) (hn : n ≠ 0) : pkW u q n ≠ 0 := by
  cases n with
  | zero => exact absurd rfl hn
  | succ n =>
    have := h n (by omega)
    unfold pkW
    omega
theorem gd_l {l : List Nat} {x i : Nat} (h : i < l.length) : (l ++ [x]).getD i 0 = l.getD i 0 := by
  rw [List.getD_eq_getElem?_getD, List.getD_eq_getElem?_getD, List.getElem?_append_left h]
theorem gd_r {l : List Nat} {x i : Nat} (h : i = l.length) : (l ++ [x]).getD i 0 = x := by
  subst h
  rw [List.getD_eq_getElem?_getD, List.getElem?_append_right (Nat.le_refl _), Nat.sub_self]
  rfl
/-- a word's number is a constant's just where its letters are -/
theorem pkW_snoc {u : Nat → Nat} {q n C x : Nat} {l : List Nat} (hn : n ≤ 8) (hu : ∀ i, i < n → 97 ≤ u (q + i) ∧ u (q + i) < 123) (hx : 97 ≤ x ∧ x < 123) (ih : ∀ m, m ≤ 8 → (∀ i, i < m → 97 ≤ u (q + i) ∧ u (q + i) < 123) → (pkW u q m = C ↔ wordIs u q m l)) : pkW u q n = C * 256 + x ↔ wordIs u q n (l ++ [x]) := by
  cases n with
  | zero =>
    unfold pkW wordIs
    rw [List.length_append, List.length_singleton]
    omega
  | succ n =>
    have h1 := hu n (by omega)
    have h2 := ih n (by omega) (fun i hi => hu i (by omega))
    unfold pkW
    unfold wordIs at *
    rw [List.length_append, List.length_singleton]
    constructor
    · intro h
      obtain ⟨e1, e2⟩ := h2.mp (by omega)
      refine ⟨by omega, fun i hi => ?_⟩
      by_cases z : i < l.length
      · rw [e2 i z, gd_l z]
      · have : i = n := by omega
        subst this
        rw [gd_r (by omega)]
        omega
    · rintro ⟨e1, e2⟩
      have e3 := h2.mpr ⟨by omega, fun i hi => by rw [e2 i (by omega), gd_l hi]⟩
      have e4 := e2 n (by omega)
      rw [gd_r (by omega)] at e4
      omega
theorem pkW_nil {u : Nat → Nat} {q n : Nat} (hu : ∀ i, i < n → 97 ≤ u (q + i) ∧ u (q + i) < 123) : pkW u q n = 0 ↔ wordIs u q n [] := by
  unfold wordIs
  constructor
  · intro h
    refine ⟨Decidable.byContradiction fun z => pkW_pos (fun i hi => (hu i hi).1) z h, fun i hi => absurd hi (Nat.not_lt_zero i)⟩
  · rintro ⟨e, -⟩
    have e' : n = 0 := e
    subst e'
    rfl
theorem pkW_all {u : Nat → Nat} {q : Nat} : ∀ (l : List Nat), (∀ x ∈ l, 97 ≤ x ∧ x < 123) → ∀ n, n ≤ 8 → (∀ i, i < n → 97 ≤ u (q + i) ∧ u (q + i) < 123) → (pkW u q n = pkL l.reverse.reverse 0 ↔ wordIs u q n l) := by
  intro l
  have key : ∀ r : List Nat, (∀ x ∈ r, 97 ≤ x ∧ x < 123) → ∀ n, n ≤ 8 → (∀ i, i < n → 97 ≤ u (q + i) ∧ u (q + i) < 123) → (pkW u q n = pkL r.reverse 0 ↔ wordIs u q n r.reverse) := by
    intro r
    induction r with
    | nil => intro _ n _ hu; exact pkW_nil hu
    | cons x t ih =>
      intro hx n hn hu
      have e : pkL (x :: t).reverse 0 = pkL t.reverse 0 * 256 + x := by
        have app : ∀ (l : List Nat) (a : Nat), pkL (l ++ [x]) a = pkL l a * 256 + x := by
          intro l
          induction l with
          | nil => intro a; rfl
          | cons y l ihl => intro a; exact ihl _
        rw [List.reverse_cons, app]
      rw [e, List.reverse_cons]
      exact pkW_snoc hn hu (hx x List.mem_cons_self) (fun m hm hum => ih (fun y hy => hx y (List.mem_cons_of_mem _ hy)) m hm hum)
  intro hl n hn hu
  have := key l.reverse (fun x hx => hl x (List.mem_reverse.mp hx)) n hn hu
  rw [List.reverse_reverse] at this ⊢
  exact this
/-- the model's tape -/
def Rm (u : Nat → Nat) (L : Nat) (ν : mm_M) : Prop := SK ν ∧ mm_I ν 71 10 = nI L ∧ L ≤ 600 ∧ ∀ j, j < L → mm_I ν 72 j &&& 255 = nI (u j) ∧ u j < 256
def sc71 (a : Nat) : Bool := a == 71
def Km (μ ν : mm_M) : Prop := Fr sc71 μ ν ∧ mm_P ν = mm_P μ ∧ ∀ j, j ≠ 9 → j ≠ 11 → j ≠ 12 → j ≠ 13 → mm_I ν 71 j = mm_I μ 71 j
theorem Km.rf {μ : mm_M} : Km μ μ := ⟨Fr.rf, rfl, fun _ _ _ _ _ => rfl⟩
theorem Km.trans {μ ν ξ : mm_M} (h : Km μ ν) (g : Km ν ξ) : Km μ ξ := ⟨h.1.trans g.1, g.2.1.trans h.2.1, fun j a b c d => (g.2.2 j a b c d).trans (h.2.2 j a b c d)⟩
theorem Km.sI {μ ν : mm_M} {j : Nat} {x : Int32} (h : Km μ ν) (h1 : j = 9 ∨ j = 11 ∨ j = 12 ∨ j = 13) : Km μ (mm_sI ν 71 j x) := ⟨h.1.sI rfl, h.2.1, fun i a b c d => by rw [mm_I_sI, if_neg (by omega)]; exact h.2.2 i a b c d⟩
theorem Km.sJ {μ ν : mm_M} {j : Nat} {x : Int64} (h : Km μ ν) : Km μ (mm_sJ ν 71 j x) := ⟨h.1.sJ rfl, h.2.1, h.2.2⟩
theorem Rm.km {u : Nat → Nat} {L : Nat} {μ ν : mm_M} (h : Rm u L μ) (k : Km μ ν) : Rm u L ν := by
  obtain ⟨h1, h2, h3, h4⟩ := h
  exact ⟨k.1.2.2.2 h1, by rw [k.2.2 10 (by decide) (by decide) (by decide) (by decide)]; exact h2, h3, by rw [(k.1.2.2.1 72 rfl).1]; exact h4⟩
theorem sp_M_seeT {X : mm_X} {μ : mm_M} {q : Int32 → mm_M → Prop} {u : Nat → Nat} {L p : Nat} (hR : Rm u L μ) (hr : mm_I μ 71 9 = nI p) (hp : p < L) (h : q (nI (u p)) μ) : mm_Ci X 0 0 0 k_M_see [.ref 71] μ q := by
  show mm_T X 0 0 0 k_M_see 0 [some (.ref 71)] [] μ _
  have hM := hR.1
  have hL6 := hR.2.2.1
  refine mm_aload d_M_see_0 rfl ?_
  refine mm_getIN d_M_see_1 rfl (sk_o_71 hM) hr ?_
  refine mm_aload d_M_see_4 rfl ?_
  refine mm_getIN d_M_see_5 rfl (sk_o_71 hM) hR.2.1 ?_
  refine mm_icmp_geN d_M_see_8 (by first | omega | exact ite01_lt | exact bt8_lt31 _ _ | exact godB_lt31 _ _ _ | exact pop_lt31 _ | assumption | exact b31 (hW.gp (by omega)) | exact b31 (hW.ne (by omega)) | exact b31 (hW.op (by omega)) | exact and31 (hW.gp (by omega)) | exact and31 (hW.ne (by omega)) | exact and31 (hW.op (by omega)) | exact and31 (by assumption) | exact and31r (hW.ne (by omega)) | exact and31r (hW.gp (by omega)) | exact and31r (by decide)) (by first | omega | exact ite01_lt | exact bt8_lt31 _ _ | exact godB_lt31 _ _ _ | exact pop_lt31 _ | assumption | exact b31 (hW.gp (by omega)) | exact b31 (hW.ne (by omega)) | exact b31 (hW.op (by omega)) | exact and31 (hW.gp (by omega)) | exact and31 (hW.ne (by omega)) | exact and31 (hW.op (by omega)) | exact and31 (by assumption) | exact and31r (hW.ne (by omega)) | exact and31r (hW.gp (by omega)) | exact and31r (by decide)) (fun c_8 => False.elim (by omega)) (fun c_8 => ?_)
  refine mm_aload d_M_see_11 rfl ?_
  refine mm_getP d_M_see_12 rfl (sk_o_71 hM) (sk_p_71_1 hM) ?_
  refine mm_aload d_M_see_15 rfl ?_
  refine mm_getIN d_M_see_16 rfl (sk_o_71 hM) hr ?_
  refine mm_baldX d_M_see_19 (sk_a_72 hM) (by omega) (by decide) ?_
  refine mm_ciN 255 d_M_see_20 rfl ?_
  refine mm_iand d_M_see_23 ?_
  rw [show nI 255 = (255 : Int32) from rfl, (hR.2.2.2 p hp).1]
  refine mm_goto d_M_see_24 ?_
  exact mm_ri d_M_see_28 h
theorem sp_M_seeB {X : mm_X} {μ : mm_M} {q : Int32 → mm_M → Prop} {u : Nat → Nat} {L p : Nat} (hR : Rm u L μ) (hr : mm_I μ 71 9 = nI p) (hp : L ≤ p) (hp2 : p ≤ 600) (h : q (-1) μ) : mm_Ci X 0 0 0 k_M_see [.ref 71] μ q := by
  show mm_T X 0 0 0 k_M_see 0 [some (.ref 71)] [] μ _
  have hM := hR.1
  have hL6 := hR.2.2.1
  refine mm_aload d_M_see_0 rfl ?_
  refine mm_getIN d_M_see_1 rfl (sk_o_71 hM) hr ?_
  refine mm_aload d_M_see_4 rfl ?_
  refine mm_getIN d_M_see_5 rfl (sk_o_71 hM) hR.2.1 ?_
  refine mm_icmp_geN d_M_see_8 (by first | omega | exact ite01_lt | exact bt8_lt31 _ _ | exact godB_lt31 _ _ _ | exact pop_lt31 _ | assumption | exact b31 (hW.gp (by omega)) | exact b31 (hW.ne (by omega)) | exact b31 (hW.op (by omega)) | exact and31 (hW.gp (by omega)) | exact and31 (hW.ne (by omega)) | exact and31 (hW.op (by omega)) | exact and31 (by assumption) | exact and31r (hW.ne (by omega)) | exact and31r (hW.gp (by omega)) | exact and31r (by decide)) (by first | omega | exact ite01_lt | exact bt8_lt31 _ _ | exact godB_lt31 _ _ _ | exact pop_lt31 _ | assumption | exact b31 (hW.gp (by omega)) | exact b31 (hW.ne (by omega)) | exact b31 (hW.op (by omega)) | exact and31 (hW.gp (by omega)) | exact and31 (hW.ne (by omega)) | exact and31 (hW.op (by omega)) | exact and31 (by assumption) | exact and31r (hW.ne (by omega)) | exact and31r (hW.gp (by omega)) | exact and31r (by decide)) (fun c_8 => ?_) (fun c_8 => False.elim (by omega))
  refine mm_ci d_M_see_27 ?_
  exact mm_ri d_M_see_28 h
def mK (k : Nat) : Nat := if k = 0 then 1 else if k = 1 then 0 else k
def tW (u : Nat → Nat) (L p : Nat) : Nat := if tN u L p - tP u L p ≤ 8 then pkW u (tP u L p) (tN u L p - tP u L p) else 0
def Tk2 (u : Nat → Nat) (L p : Nat) (ν : mm_M) : Prop := mm_I ν 71 9 = nI (tN u L p) ∧ mm_I ν 71 11 = nI (tP u L p) ∧ mm_I ν 71 12 = nI (mK (tK u L p)) ∧ (tK u L p = 3 → mm_I ν 71 13 = nI (tV u L p)) ∧ (tK u L p = 2 → mm_J ν 71 14 = lN (tW u L p))
theorem sp_M_inM1 {X : mm_X} {μ : mm_M} {q : Int32 → mm_M → Prop} {a b : Nat} (ha : a < 2 ^ 31) (h : q (nI 0) μ) : mm_Ci X 0 0 0 k_M_in [.int (-1), .int (nI a), .int (nI b)] μ q := sp_M_in (by unfold inG; rw [if_pos (neg_lt (by decide) ha)]; exact h)
theorem sp_M_token {X : mm_X} {μ : mm_M} {q : mm_M → Prop} {u : Nat → Nat} {L p : Nat} (hR : Rm u L μ) (hn : mm_I μ 71 9 = nI p) (hp : p ≤ L) (h : ∀ ν, Km μ ν → Tk2 u L p ν → q ν) : mm_Cv X 1 0 0 k_M_token [.ref 71] μ q := by
  show mm_T X 1 0 0 k_M_token 0 [some (.ref 71), none, none] [] μ _
  have hL6 := hR.2.2.1
  have hs1 := tP_le (u := u) hp
  unfold Tk2 at h
  have fin : ∀ (ν : mm_M), Km μ ν → mm_I ν 71 9 = nI (tP u L p) → mm_T X 1 0 0 k_M_token 31 [some (.ref 71), none, none] [] ν (fun v μ' => v = none ∧ q μ') := by
    intro ν k e1
    have hR' := hR.km k
    have hM := hR'.1
    have k1 : ∀ x, Km μ (mm_sI ν 71 11 x) := fun x => k.sI (by omega)
    have hR1 : Rm u L (mm_sI ν 71 11 (nI (tP u L p))) := hR.km (k1 _)
    have hR2 : ∀ x, Rm u L (mm_sJ (mm_sI ν 71 11 (nI (tP u L p))) 71 14 x) := fun x => hR.km (k1 _).sJ
    have e1' : mm_I (mm_sI ν 71 11 (nI (tP u L p))) 71 9 = nI (tP u L p) := by rw [mm_I_sI, if_neg (by decide)]; exact e1
    by_cases c1 : L ≤ tP u L p
    · have eN : tN u L p = tP u L p := by unfold tN; rw [if_pos c1]
      have eK : tK u L p = 1 := by unfold tK; rw [if_pos c1]
      refine mm_aload d_M_token_31 rfl ?_
      refine mm_aload d_M_token_32 rfl ?_
      refine mm_getIN d_M_token_33 rfl (sk_o_71 hM) e1 ?_
      refine mm_putI d_M_token_36 rfl (sk_o_71 hM) (Or.inl rfl) ?_
      refine mm_aload d_M_token_39 rfl ?_
      refine mm_v0i d_M_token_40 (sk_o_71 hM) (sp_M_seeB hR1 e1' c1 (by omega) ?_)
      refine mm_ist1 d_M_token_43 ?_
      refine mm_aload d_M_token_44 rfl ?_
      refine mm_lciN 0 d_M_token_45 rfl ?_
      refine mm_putJ d_M_token_46 rfl (sk_o_71 hM) (Or.inl rfl) ?_
      refine mm_ciN 0 d_M_token_49 rfl ?_
      refine mm_ist2 d_M_token_50 ?_
      refine mm_iload d_M_token_51 rfl ?_
      refine mm_if_ge d_M_token_52 (fun c_52 => False.elim (absurd c_52 (by decide))) (fun c_52 => ?_)
      refine mm_aload d_M_token_55 rfl ?_
      refine mm_ciN 0 d_M_token_56 rfl ?_
      refine mm_putI d_M_token_57 rfl (sk_o_71 hM) (Or.inl rfl) ?_
      refine mm_goto d_M_token_60 ?_
      exact mm_rv d_M_token_266 (h _ (((k1 _).sJ).sI (by omega)) ⟨by rw [mm_I_sI, if_neg (by decide), eN]; exact e1', by rw [mm_I_sI, if_neg (by decide)]; show mm_I (mm_sI ν 71 11 (nI (tP u L p))) 71 11 = _; rw [mm_I_sI, if_pos ⟨rfl, rfl⟩], by rw [mm_I_sI, if_pos ⟨rfl, rfl⟩, eK]; rfl, fun z => absurd z (by rw [eK]; decide), fun z => absurd z (by rw [eK]; decide)⟩)
    · have ub0 := (hR.2.2.2 (tP u L p) (by omega)).2
      have hwi : mm_I (mm_sI ν 71 11 (nI (tP u L p))) 71 11 = nI (tP u L p) := by rw [mm_I_sI, if_pos ⟨rfl, rfl⟩]
      by_cases c2 : isL (u (tP u L p)) = true
      · have eN : tN u L p = scan isL u L (tP u L p) := by unfold tN; rw [if_neg c1, if_pos c2]
        have eK : tK u L p = 2 := by unfold tK; rw [if_neg c1, if_pos c2]
        have c2' := isL_i.mp c2
        have hsl := scan_le (c := isL) (u := u) hs1
        have hsg := scan_ge (c := isL) (u := u) (L := L) (p := tP u L p)
        have endw : ∀ (i : Nat) (ξ : mm_M), Km μ ξ → tP u L p + i = scan isL u L (tP u L p) → mm_I ξ 71 9 = nI (tP u L p + i) → mm_I ξ 71 11 = nI (tP u L p) → (i ≤ 8 → mm_J ξ 71 14 = lN (pkW u (tP u L p) i)) → mm_T X 1 0 0 k_M_token 121 [some (.ref 71), some (.int (nI (u (tP u L p)))), some (.int (nI i))] [] ξ (fun v μ' => v = none ∧ q μ') := by
          intro i ξ kx hs x1 x2 x3
          have hM := (hR.km kx).1
          have hi6 : i ≤ 600 := by omega
          have e5 : tN u L p - tP u L p = i := by omega
          refine mm_aload d_M_token_121 rfl ?_
          refine mm_iload d_M_token_122 rfl ?_
          refine mm_ciN 8 d_M_token_123 rfl ?_
          refine mm_icmp_leN d_M_token_125 (by first | omega | exact ite01_lt | exact bt8_lt31 _ _ | exact godB_lt31 _ _ _ | exact pop_lt31 _ | assumption | exact b31 (hW.gp (by omega)) | exact b31 (hW.ne (by omega)) | exact b31 (hW.op (by omega)) | exact and31 (hW.gp (by omega)) | exact and31 (hW.ne (by omega)) | exact and31 (hW.op (by omega)) | exact and31 (by assumption) | exact and31r (hW.ne (by omega)) | exact and31r (hW.gp (by omega)) | exact and31r (by decide)) (by first | omega | exact ite01_lt | exact bt8_lt31 _ _ | exact godB_lt31 _ _ _ | exact pop_lt31 _ | assumption | exact b31 (hW.gp (by omega)) | exact b31 (hW.ne (by omega)) | exact b31 (hW.op (by omega)) | exact and31 (hW.gp (by omega)) | exact and31 (hW.ne (by omega)) | exact and31 (hW.op (by omega)) | exact and31 (by assumption) | exact and31r (hW.ne (by omega)) | exact and31r (hW.gp (by omega)) | exact and31r (by decide)) (fun c_125 => ?_) (fun c_125 => ?_)
          · refine mm_aload d_M_token_132 rfl ?_
            refine mm_getJ d_M_token_133 rfl (sk_o_71 hM) ?_
            refine mm_putJ d_M_token_136 rfl (sk_o_71 hM) (Or.inl rfl) ?_
            refine mm_aload d_M_token_139 rfl ?_
            refine mm_ciN 2 d_M_token_140 rfl ?_
            refine mm_putI d_M_token_141 rfl (sk_o_71 hM) (Or.inl rfl) ?_
            refine mm_goto d_M_token_144 ?_
            exact mm_rv d_M_token_266 (h _ (kx.sJ.sI (by omega)) ⟨by rw [mm_I_sI, if_neg (by decide), eN, ← hs]; exact x1, by rw [mm_I_sI, if_neg (by decide)]; exact x2, by rw [mm_I_sI, if_pos ⟨rfl, rfl⟩, eK]; rfl, fun z => absurd z (by rw [eK]; decide), fun _ => by unfold tW; rw [e5]; show mm_J (mm_sJ _ 71 14 _) 71 14 = _; rw [mm_J_sJ, if_pos ⟨rfl, rfl⟩]; first | rw [if_neg (by omega)] | (rw [if_pos c_125]; exact x3 c_125)⟩)
          · refine mm_lciN 0 d_M_token_128 rfl ?_
            refine mm_goto d_M_token_129 ?_
            refine mm_putJ d_M_token_136 rfl (sk_o_71 hM) (Or.inl rfl) ?_
            refine mm_aload d_M_token_139 rfl ?_
            refine mm_ciN 2 d_M_token_140 rfl ?_
            refine mm_putI d_M_token_141 rfl (sk_o_71 hM) (Or.inl rfl) ?_
            refine mm_goto d_M_token_144 ?_
            exact mm_rv d_M_token_266 (h _ (kx.sJ.sI (by omega)) ⟨by rw [mm_I_sI, if_neg (by decide), eN, ← hs]; exact x1, by rw [mm_I_sI, if_neg (by decide)]; exact x2, by rw [mm_I_sI, if_pos ⟨rfl, rfl⟩, eK]; rfl, fun z => absurd z (by rw [eK]; decide), fun _ => by unfold tW; rw [e5]; show mm_J (mm_sJ _ 71 14 _) 71 14 = _; rw [mm_J_sJ, if_pos ⟨rfl, rfl⟩]; first | rw [if_neg (by omega)] | (rw [if_pos c_125]; exact x3 c_125)⟩)
        have lp : ∀ (m i : Nat) (ξ : mm_M), L - (tP u L p + i) = m → tP u L p + i ≤ L → Km μ ξ → scan isL u L (tP u L p + i) = scan isL u L (tP u L p) → mm_I ξ 71 9 = nI (tP u L p + i) → mm_I ξ 71 11 = nI (tP u L p) → (∀ j, j < i → isL (u (tP u L p + j)) = true) → (i ≤ 8 → mm_J ξ 71 14 = lN (pkW u (tP u L p) i)) → mm_T X 1 0 0 k_M_token 74 [some (.ref 71), some (.int (nI (u (tP u L p)))), some (.int (nI i))] [] ξ (fun v μ' => v = none ∧ q μ') := by
          intro m
          induction m with
          | zero =>
            intro i ξ hm hp' kx hs x1 x2 xl x3
            have hRx := hR.km kx
            have hM := hRx.1
            rw [scan_stop (by omega)] at hs
            refine mm_aload d_M_token_74 rfl ?_
            refine mm_v0i d_M_token_75 (sk_o_71 hM) (sp_M_seeB hRx x1 (by omega) (by omega) ?_)
            refine mm_ciN 97 d_M_token_78 rfl ?_
            refine mm_ciN 122 d_M_token_80 rfl ?_
            refine mm_s3i d_M_token_82 (sp_M_inM1 (by decide) ?_)
            refine mm_if_eqN d_M_token_85 (by first | omega | exact ite01_lt | exact bt8_lt31 _ _ | exact godB_lt31 _ _ _ | exact pop_lt31 _ | assumption | exact b31 (hW.gp (by omega)) | exact b31 (hW.ne (by omega)) | exact b31 (hW.op (by omega)) | exact and31 (hW.gp (by omega)) | exact and31 (hW.ne (by omega)) | exact and31 (hW.op (by omega)) | exact and31 (by assumption) | exact and31r (hW.ne (by omega)) | exact and31r (hW.gp (by omega)) | exact and31r (by decide)) (fun c_85 => ?_) (fun c_85 => False.elim (by omega))
            exact endw i ξ kx hs x1 x2 x3
          | succ m ih =>
            intro i ξ hm hp' kx hs x1 x2 xl x3
            have hRx := hR.km kx
            have hM := hRx.1
            have ubi := (hR.2.2.2 (tP u L p + i) (by omega)).2
            refine mm_aload d_M_token_74 rfl ?_
            refine mm_v0i d_M_token_75 (sk_o_71 hM) (sp_M_seeT hRx x1 (by omega) ?_)
            refine mm_ciN 97 d_M_token_78 rfl ?_
            refine mm_ciN 122 d_M_token_80 rfl ?_
            refine mm_s3i d_M_token_82 (sp_M_inN (by omega) (by omega) (by omega) ?_)
            refine mm_if_eqN d_M_token_85 (by first | omega | exact ite01_lt | exact bt8_lt31 _ _ | exact godB_lt31 _ _ _ | exact pop_lt31 _ | assumption | exact b31 (hW.gp (by omega)) | exact b31 (hW.ne (by omega)) | exact b31 (hW.op (by omega)) | exact and31 (hW.gp (by omega)) | exact and31 (hW.ne (by omega)) | exact and31 (hW.op (by omega)) | exact and31 (by assumption) | exact and31r (hW.ne (by omega)) | exact and31r (hW.gp (by omega)) | exact and31r (by decide)) (fun c_85 => ?_) (fun c_85 => ?_)
            · exact endw i ξ kx (by rw [scan_stop (fun z => ite01_eq c_85 (isL_i.mp z.2))] at hs; exact hs) x1 x2 x3
            · refine mm_aload d_M_token_88 rfl ?_
              refine mm_aload d_M_token_89 rfl ?_
              refine mm_getJ d_M_token_90 rfl (sk_o_71 hM) ?_
              refine mm_ciN 8 d_M_token_93 rfl ?_
              refine mm_lshl d_M_token_95 ?_
              refine mm_aload d_M_token_96 rfl ?_
              refine mm_v0i d_M_token_97 (sk_o_71 hM) (sp_M_seeT hRx x1 (by omega) ?_)
              refine mm_i2lN d_M_token_100 (by first | omega | exact ite01_lt | exact bt8_lt31 _ _ | exact godB_lt31 _ _ _ | exact pop_lt31 _ | assumption | exact b31 (hW.gp (by omega)) | exact b31 (hW.ne (by omega)) | exact b31 (hW.op (by omega)) | exact and31 (hW.gp (by omega)) | exact and31 (hW.ne (by omega)) | exact and31 (hW.op (by omega)) | exact and31 (by assumption) | exact and31r (hW.ne (by omega)) | exact and31r (hW.gp (by omega)) | exact and31r (by decide)) ?_
              refine mm_lor d_M_token_101 ?_
              refine mm_putJ d_M_token_102 rfl (sk_o_71 hM) (Or.inl rfl) ?_
              refine mm_aload d_M_token_105 rfl ?_
              refine mm_dup d_M_token_106 rfl ?_
              refine mm_getIN d_M_token_107 rfl (sk_o_71 hM) (show _ = nI (tP u L p + i) from x1) ?_
              refine mm_ciN 1 d_M_token_110 rfl ?_
              refine mm_iaddN d_M_token_111 ?_
              refine mm_putI d_M_token_112 rfl (sk_o_71 hM) (Or.inl rfl) ?_
              refine mm_inc2N d_M_token_115 ?_
              refine mm_goto d_M_token_118 ?_
              have hl := ite01_ne c_85
              refine ih (i + 1) _ (by omega) (by omega) (kx.sJ.sI (by omega)) (by rw [← hs]; exact (scan_step (by omega) (isL_i.mpr hl)).symm) (by rw [mm_I_sI, if_pos ⟨rfl, rfl⟩]; rfl) (by rw [mm_I_sI, if_neg (by decide)]; exact x2) (fun j hj => ?_) (fun z => ?_)
              · by_cases w : j < i
                · exact xl j w
                · rw [show j = i by omega]; exact isL_i.mpr hl
              · show mm_J (mm_sJ _ 71 14 _) 71 14 = _
                rw [mm_J_sJ, if_pos ⟨rfl, rfl⟩, x3 (by omega)]
                have h63 := pkW_lt (u := u) (q := tP u L p) (n := i) (fun j hj => by have := isL_i.mp (xl j hj); omega) (by omega)
                have h64 := pkW_lt (u := u) (q := tP u L p) (n := i + 1) (fun j hj => by by_cases w : j < i; have := isL_i.mp (xl j w); omega; rw [show j = i by omega]; omega) z
                exact pk8 (show pkW u (tP u L p) (i + 1) < 18446744073709551616 by omega) (by omega)
        refine mm_aload d_M_token_31 rfl ?_
        refine mm_aload d_M_token_32 rfl ?_
        refine mm_getIN d_M_token_33 rfl (sk_o_71 hM) e1 ?_
        refine mm_putI d_M_token_36 rfl (sk_o_71 hM) (Or.inl rfl) ?_
        refine mm_aload d_M_token_39 rfl ?_
        refine mm_v0i d_M_token_40 (sk_o_71 hM) (sp_M_seeT hR1 e1' (by omega) ?_)
        refine mm_ist1 d_M_token_43 ?_
        refine mm_aload d_M_token_44 rfl ?_
        refine mm_lciN 0 d_M_token_45 rfl ?_
        refine mm_putJ d_M_token_46 rfl (sk_o_71 hM) (Or.inl rfl) ?_
        refine mm_ciN 0 d_M_token_49 rfl ?_
        refine mm_ist2 d_M_token_50 ?_
        refine mm_iload d_M_token_51 rfl ?_
        refine mm_if_geN d_M_token_52 (by first | omega | exact ite01_lt | exact bt8_lt31 _ _ | exact godB_lt31 _ _ _ | exact pop_lt31 _ | assumption | exact b31 (hW.gp (by omega)) | exact b31 (hW.ne (by omega)) | exact b31 (hW.op (by omega)) | exact and31 (hW.gp (by omega)) | exact and31 (hW.ne (by omega)) | exact and31 (hW.op (by omega)) | exact and31 (by assumption) | exact and31r (hW.ne (by omega)) | exact and31r (hW.gp (by omega)) | exact and31r (by decide)) ?_
        refine mm_iload d_M_token_63 rfl ?_
        refine mm_ciN 97 d_M_token_64 rfl ?_
        refine mm_ciN 122 d_M_token_66 rfl ?_
        refine mm_s3i d_M_token_68 (sp_M_inT (by omega) (by omega) (by decide) ?_)
        refine mm_if_eqN d_M_token_71 (by first | omega | exact ite01_lt | exact bt8_lt31 _ _ | exact godB_lt31 _ _ _ | exact pop_lt31 _ | assumption | exact b31 (hW.gp (by omega)) | exact b31 (hW.ne (by omega)) | exact b31 (hW.op (by omega)) | exact and31 (hW.gp (by omega)) | exact and31 (hW.ne (by omega)) | exact and31 (hW.op (by omega)) | exact and31 (by assumption) | exact and31r (hW.ne (by omega)) | exact and31r (hW.gp (by omega)) | exact and31r (by decide)) (fun c_71 => False.elim (by omega)) (fun c_71 => ?_)
        exact lp (L - tP u L p) 0 _ rfl hs1 (k1 _).sJ rfl e1' hwi (fun j hj => absurd hj (Nat.not_lt_zero j)) (fun _ => by rw [mm_J_sJ, if_pos ⟨rfl, rfl⟩]; rfl)
      · by_cases c3 : isD (u (tP u L p)) = true
        · have eN : tN u L p = scan isD u L (tP u L p) := by unfold tN; rw [if_neg c1, if_neg c2, if_pos c3]
          have eK : tK u L p = if scan isD u L (tP u L p) - tP u L p ≤ 2 then 3 else 0 := by unfold tK; rw [if_neg c1, if_neg c2, if_pos c3]
          have c3' := isD_i.mp c3
          have hsl := scan_le (c := isD) (u := u) hs1
          have hsg := scan_ge (c := isD) (u := u) (L := L) (p := tP u L p)
          have endw : ∀ (i : Nat) (ξ : mm_M), Km μ ξ → tP u L p + i = scan isD u L (tP u L p) → mm_I ξ 71 9 = nI (tP u L p + i) → mm_I ξ 71 11 = nI (tP u L p) → (i ≤ 2 → mm_I ξ 71 13 = nI (vF u (tP u L p) i)) → mm_T X 1 0 0 k_M_token 224 [some (.ref 71), some (.int (nI (u (tP u L p)))), some (.int (nI i))] [] ξ (fun v μ' => v = none ∧ q μ') := by
            intro i ξ kx hs x1 x2 x3
            have hM := (hR.km kx).1
            have hi6 : i ≤ 600 := by omega
            have e5 : tN u L p - tP u L p = i := by omega
            have e6 : scan isD u L (tP u L p) - tP u L p = i := by omega
            rw [e6] at eK
            refine mm_aload d_M_token_224 rfl ?_
            refine mm_iload d_M_token_225 rfl ?_
            refine mm_ciN 2 d_M_token_226 rfl ?_
            refine mm_icmp_leN d_M_token_227 (by first | omega | exact ite01_lt | exact bt8_lt31 _ _ | exact godB_lt31 _ _ _ | exact pop_lt31 _ | assumption | exact b31 (hW.gp (by omega)) | exact b31 (hW.ne (by omega)) | exact b31 (hW.op (by omega)) | exact and31 (hW.gp (by omega)) | exact and31 (hW.ne (by omega)) | exact and31 (hW.op (by omega)) | exact and31 (by assumption) | exact and31r (hW.ne (by omega)) | exact and31r (hW.gp (by omega)) | exact and31r (by decide)) (by first | omega | exact ite01_lt | exact bt8_lt31 _ _ | exact godB_lt31 _ _ _ | exact pop_lt31 _ | assumption | exact b31 (hW.gp (by omega)) | exact b31 (hW.ne (by omega)) | exact b31 (hW.op (by omega)) | exact and31 (hW.gp (by omega)) | exact and31 (hW.ne (by omega)) | exact and31 (hW.op (by omega)) | exact and31 (by assumption) | exact and31r (hW.ne (by omega)) | exact and31r (hW.gp (by omega)) | exact and31r (by decide)) (fun c_227 => ?_) (fun c_227 => ?_)
            · refine mm_ciN 3 d_M_token_234 rfl ?_
              refine mm_putI d_M_token_235 rfl (sk_o_71 hM) (Or.inl rfl) ?_
              refine mm_goto d_M_token_238 ?_
              exact mm_rv d_M_token_266 (h _ (kx.sI (by omega)) ⟨by rw [mm_I_sI, if_neg (by decide), eN, ← hs]; exact x1, by rw [mm_I_sI, if_neg (by decide)]; exact x2, by rw [mm_I_sI, if_pos ⟨rfl, rfl⟩, eK]; first | (rw [if_pos c_227]; rfl) | (rw [if_neg (by omega)]; rfl), fun z => by unfold tV; rw [e5, mm_I_sI, if_neg (by decide)]; refine x3 (Decidable.byContradiction fun w => ?_); rw [eK, if_neg w] at z; exact absurd z (by decide), fun z => absurd z (by rw [eK]; split <;> decide)⟩)
            · refine mm_ciN 1 d_M_token_230 rfl ?_
              refine mm_goto d_M_token_231 ?_
              refine mm_putI d_M_token_235 rfl (sk_o_71 hM) (Or.inl rfl) ?_
              refine mm_goto d_M_token_238 ?_
              exact mm_rv d_M_token_266 (h _ (kx.sI (by omega)) ⟨by rw [mm_I_sI, if_neg (by decide), eN, ← hs]; exact x1, by rw [mm_I_sI, if_neg (by decide)]; exact x2, by rw [mm_I_sI, if_pos ⟨rfl, rfl⟩, eK]; first | (rw [if_pos c_227]; rfl) | (rw [if_neg (by omega)]; rfl), fun z => by unfold tV; rw [e5, mm_I_sI, if_neg (by decide)]; refine x3 (Decidable.byContradiction fun w => ?_); rw [eK, if_neg w] at z; exact absurd z (by decide), fun z => absurd z (by rw [eK]; split <;> decide)⟩)
          have lp : ∀ (m i : Nat) (ξ : mm_M), L - (tP u L p + i) = m → tP u L p + i ≤ L → Km μ ξ → scan isD u L (tP u L p + i) = scan isD u L (tP u L p) → mm_I ξ 71 9 = nI (tP u L p + i) → mm_I ξ 71 11 = nI (tP u L p) → (i ≤ 2 → mm_I ξ 71 13 = nI (vF u (tP u L p) i)) → mm_T X 1 0 0 k_M_token 163 [some (.ref 71), some (.int (nI (u (tP u L p)))), some (.int (nI i))] [] ξ (fun v μ' => v = none ∧ q μ') := by
            intro m
            induction m with
            | zero =>
              intro i ξ hm hp' kx hs x1 x2 x3
              have hRx := hR.km kx
              have hM := hRx.1
              rw [scan_stop (by omega)] at hs
              refine mm_aload d_M_token_163 rfl ?_
              refine mm_v0i d_M_token_164 (sk_o_71 hM) (sp_M_seeB hRx x1 (by omega) (by omega) ?_)
              refine mm_ciN 48 d_M_token_167 rfl ?_
              refine mm_ciN 57 d_M_token_169 rfl ?_
              refine mm_s3i d_M_token_171 (sp_M_inM1 (by decide) ?_)
              refine mm_if_eqN d_M_token_174 (by first | omega | exact ite01_lt | exact bt8_lt31 _ _ | exact godB_lt31 _ _ _ | exact pop_lt31 _ | assumption | exact b31 (hW.gp (by omega)) | exact b31 (hW.ne (by omega)) | exact b31 (hW.op (by omega)) | exact and31 (hW.gp (by omega)) | exact and31 (hW.ne (by omega)) | exact and31 (hW.op (by omega)) | exact and31 (by assumption) | exact and31r (hW.ne (by omega)) | exact and31r (hW.gp (by omega)) | exact and31r (by decide)) (fun c_174 => ?_) (fun c_174 => False.elim (by omega))
              exact endw i ξ kx hs x1 x2 x3
            | succ m ih =>
              intro i ξ hm hp' kx hs x1 x2 x3
              have hRx := hR.km kx
              have hM := hRx.1
              have ubi := (hR.2.2.2 (tP u L p + i) (by omega)).2
              refine mm_aload d_M_token_163 rfl ?_
              refine mm_v0i d_M_token_164 (sk_o_71 hM) (sp_M_seeT hRx x1 (by omega) ?_)
              refine mm_ciN 48 d_M_token_167 rfl ?_
              refine mm_ciN 57 d_M_token_169 rfl ?_
              refine mm_s3i d_M_token_171 (sp_M_inN (by omega) (by omega) (by omega) ?_)
              refine mm_if_eqN d_M_token_174 (by first | omega | exact ite01_lt | exact bt8_lt31 _ _ | exact godB_lt31 _ _ _ | exact pop_lt31 _ | assumption | exact b31 (hW.gp (by omega)) | exact b31 (hW.ne (by omega)) | exact b31 (hW.op (by omega)) | exact and31 (hW.gp (by omega)) | exact and31 (hW.ne (by omega)) | exact and31 (hW.op (by omega)) | exact and31 (by assumption) | exact and31r (hW.ne (by omega)) | exact and31r (hW.gp (by omega)) | exact and31r (by decide)) (fun c_174 => ?_) (fun c_174 => ?_)
              · exact endw i ξ kx (by rw [scan_stop (fun z => ite01_eq c_174 (isD_i.mp z.2))] at hs; exact hs) x1 x2 x3
              · refine mm_aload d_M_token_177 rfl ?_
                refine mm_iload d_M_token_178 rfl ?_
                refine mm_ciN 2 d_M_token_179 rfl ?_
                have x3' := x3
                refine mm_icmp_geN d_M_token_180 (by first | omega | exact ite01_lt | exact bt8_lt31 _ _ | exact godB_lt31 _ _ _ | exact pop_lt31 _ | assumption | exact b31 (hW.gp (by omega)) | exact b31 (hW.ne (by omega)) | exact b31 (hW.op (by omega)) | exact and31 (hW.gp (by omega)) | exact and31 (hW.ne (by omega)) | exact and31 (hW.op (by omega)) | exact and31 (by assumption) | exact and31r (hW.ne (by omega)) | exact and31r (hW.gp (by omega)) | exact and31r (by decide)) (by first | omega | exact ite01_lt | exact bt8_lt31 _ _ | exact godB_lt31 _ _ _ | exact pop_lt31 _ | assumption | exact b31 (hW.gp (by omega)) | exact b31 (hW.ne (by omega)) | exact b31 (hW.op (by omega)) | exact and31 (hW.gp (by omega)) | exact and31 (hW.ne (by omega)) | exact and31 (hW.op (by omega)) | exact and31 (by assumption) | exact and31r (hW.ne (by omega)) | exact and31r (hW.gp (by omega)) | exact and31r (by decide)) (fun c_180 => ?_) (fun c_180 => ?_)
                · refine mm_aload d_M_token_201 rfl ?_
                  refine mm_getI d_M_token_202 rfl (sk_o_71 hM) ?_
                  refine mm_putI d_M_token_205 rfl (sk_o_71 hM) (Or.inl rfl) ?_
                  refine mm_aload d_M_token_208 rfl ?_
                  refine mm_dup d_M_token_209 rfl ?_
                  refine mm_getIN d_M_token_210 rfl (sk_o_71 hM) (show _ = nI (tP u L p + i) by rw [mm_I_sI, if_neg (by decide)]; exact x1) ?_
                  refine mm_ciN 1 d_M_token_213 rfl ?_
                  refine mm_iaddN d_M_token_214 ?_
                  refine mm_putI d_M_token_215 rfl (sk_o_71 hM) (Or.inl rfl) ?_
                  refine mm_inc2N d_M_token_218 ?_
                  refine mm_goto d_M_token_221 ?_
                  have hl := ite01_ne c_174
                  refine ih (i + 1) _ (by omega) (by omega) ((kx.sI (by omega)).sI (by omega)) (by rw [← hs]; exact (scan_step (by omega) (isD_i.mpr hl)).symm) (by rw [mm_I_sI, if_pos ⟨rfl, rfl⟩]; rfl) (by rw [mm_I_sI, if_neg (by decide), mm_I_sI, if_neg (by decide)]; exact x2) (fun z => ?_)
                  first
                    | (exfalso; omega)
                    | (rw [mm_I_sI, if_neg (by decide), mm_I_sI, if_pos ⟨rfl, rfl⟩]; show _ = nI (vF u (tP u L p) i * 10 + (u (tP u L p + i) - 48)); congr 1; omega)
                · refine mm_ciN 10 d_M_token_183 rfl ?_
                  refine mm_aload d_M_token_185 rfl ?_
                  refine mm_getIN d_M_token_186 rfl (sk_o_71 hM) (x3 (by omega)) ?_
                  refine mm_imulN d_M_token_189 ?_
                  refine mm_aload d_M_token_190 rfl ?_
                  refine mm_v0i d_M_token_191 (sk_o_71 hM) (sp_M_seeT hRx x1 (by omega) ?_)
                  refine mm_iaddN d_M_token_194 ?_
                  refine mm_ciN 48 d_M_token_195 rfl ?_
                  have hl := ite01_ne c_174
                  refine mm_isubN d_M_token_197 (by omega) ?_
                  refine mm_goto d_M_token_198 ?_
                  refine mm_putI d_M_token_205 rfl (sk_o_71 hM) (Or.inl rfl) ?_
                  refine mm_aload d_M_token_208 rfl ?_
                  refine mm_dup d_M_token_209 rfl ?_
                  refine mm_getIN d_M_token_210 rfl (sk_o_71 hM) (show _ = nI (tP u L p + i) by rw [mm_I_sI, if_neg (by decide)]; exact x1) ?_
                  refine mm_ciN 1 d_M_token_213 rfl ?_
                  refine mm_iaddN d_M_token_214 ?_
                  refine mm_putI d_M_token_215 rfl (sk_o_71 hM) (Or.inl rfl) ?_
                  refine mm_inc2N d_M_token_218 ?_
                  refine mm_goto d_M_token_221 ?_
                  have hl := ite01_ne c_174
                  refine ih (i + 1) _ (by omega) (by omega) ((kx.sI (by omega)).sI (by omega)) (by rw [← hs]; exact (scan_step (by omega) (isD_i.mpr hl)).symm) (by rw [mm_I_sI, if_pos ⟨rfl, rfl⟩]; rfl) (by rw [mm_I_sI, if_neg (by decide), mm_I_sI, if_neg (by decide)]; exact x2) (fun z => ?_)
                  first
                    | (exfalso; omega)
                    | (rw [mm_I_sI, if_neg (by decide), mm_I_sI, if_pos ⟨rfl, rfl⟩]; show _ = nI (vF u (tP u L p) i * 10 + (u (tP u L p + i) - 48)); congr 1; omega)
          refine mm_aload d_M_token_31 rfl ?_
          refine mm_aload d_M_token_32 rfl ?_
          refine mm_getIN d_M_token_33 rfl (sk_o_71 hM) e1 ?_
          refine mm_putI d_M_token_36 rfl (sk_o_71 hM) (Or.inl rfl) ?_
          refine mm_aload d_M_token_39 rfl ?_
          refine mm_v0i d_M_token_40 (sk_o_71 hM) (sp_M_seeT hR1 e1' (by omega) ?_)
          refine mm_ist1 d_M_token_43 ?_
          refine mm_aload d_M_token_44 rfl ?_
          refine mm_lciN 0 d_M_token_45 rfl ?_
          refine mm_putJ d_M_token_46 rfl (sk_o_71 hM) (Or.inl rfl) ?_
          refine mm_ciN 0 d_M_token_49 rfl ?_
          refine mm_ist2 d_M_token_50 ?_
          refine mm_iload d_M_token_51 rfl ?_
          refine mm_if_geN d_M_token_52 (by first | omega | exact ite01_lt | exact bt8_lt31 _ _ | exact godB_lt31 _ _ _ | exact pop_lt31 _ | assumption | exact b31 (hW.gp (by omega)) | exact b31 (hW.ne (by omega)) | exact b31 (hW.op (by omega)) | exact and31 (hW.gp (by omega)) | exact and31 (hW.ne (by omega)) | exact and31 (hW.op (by omega)) | exact and31 (by assumption) | exact and31r (hW.ne (by omega)) | exact and31r (hW.gp (by omega)) | exact and31r (by decide)) ?_
          refine mm_iload d_M_token_63 rfl ?_
          refine mm_ciN 97 d_M_token_64 rfl ?_
          refine mm_ciN 122 d_M_token_66 rfl ?_
          refine mm_s3i d_M_token_68 (sp_M_inN (by omega) (by decide) (by decide) ?_)
          rw [if_neg (fun z => c2 (isL_i.mpr z))]
          refine mm_if_eqN d_M_token_71 (by first | omega | exact ite01_lt | exact bt8_lt31 _ _ | exact godB_lt31 _ _ _ | exact pop_lt31 _ | assumption | exact b31 (hW.gp (by omega)) | exact b31 (hW.ne (by omega)) | exact b31 (hW.op (by omega)) | exact and31 (hW.gp (by omega)) | exact and31 (hW.ne (by omega)) | exact and31 (hW.op (by omega)) | exact and31 (by assumption) | exact and31r (hW.ne (by omega)) | exact and31r (hW.gp (by omega)) | exact and31r (by decide)) (fun c_71 => ?_) (fun c_71 => False.elim (by omega))
          refine mm_iload d_M_token_147 rfl ?_
          refine mm_ciN 48 d_M_token_148 rfl ?_
          refine mm_ciN 57 d_M_token_150 rfl ?_
          refine mm_s3i d_M_token_152 (sp_M_inT (by omega) (by omega) (by decide) ?_)
          refine mm_if_eqN d_M_token_155 (by first | omega | exact ite01_lt | exact bt8_lt31 _ _ | exact godB_lt31 _ _ _ | exact pop_lt31 _ | assumption | exact b31 (hW.gp (by omega)) | exact b31 (hW.ne (by omega)) | exact b31 (hW.op (by omega)) | exact and31 (hW.gp (by omega)) | exact and31 (hW.ne (by omega)) | exact and31 (hW.op (by omega)) | exact and31 (by assumption) | exact and31r (hW.ne (by omega)) | exact and31r (hW.gp (by omega)) | exact and31r (by decide)) (fun c_155 => False.elim (by omega)) (fun c_155 => ?_)
          refine mm_aload d_M_token_158 rfl ?_
          refine mm_ciN 0 d_M_token_159 rfl ?_
          refine mm_putI d_M_token_160 rfl (sk_o_71 hM) (Or.inl rfl) ?_
          exact lp (L - tP u L p) 0 _ rfl hs1 ((k1 _).sJ.sI (by omega)) rfl (by rw [mm_I_sI, if_neg (by decide)]; exact e1') (by rw [mm_I_sI, if_neg (by decide)]; exact hwi) (fun _ => by rw [mm_I_sI, if_pos ⟨rfl, rfl⟩]; rfl)
        · have eN : tN u L p = tP u L p + 1 := by unfold tN; rw [if_neg c1, if_neg c2, if_neg c3]
          have eK : tK u L p = if u (tP u L p) = 59 then 4 else 0 := by unfold tK; rw [if_neg c1, if_neg c2, if_neg c3]
          have t03 : tK u L p ≠ 3 := by rw [eK]; split <;> decide
          have t02 : tK u L p ≠ 2 := by rw [eK]; split <;> decide
          refine mm_aload d_M_token_31 rfl ?_
          refine mm_aload d_M_token_32 rfl ?_
          refine mm_getIN d_M_token_33 rfl (sk_o_71 hM) e1 ?_
          refine mm_putI d_M_token_36 rfl (sk_o_71 hM) (Or.inl rfl) ?_
          refine mm_aload d_M_token_39 rfl ?_
          refine mm_v0i d_M_token_40 (sk_o_71 hM) (sp_M_seeT hR1 e1' (by omega) ?_)
          refine mm_ist1 d_M_token_43 ?_
          refine mm_aload d_M_token_44 rfl ?_
          refine mm_lciN 0 d_M_token_45 rfl ?_
          refine mm_putJ d_M_token_46 rfl (sk_o_71 hM) (Or.inl rfl) ?_
          refine mm_ciN 0 d_M_token_49 rfl ?_
          refine mm_ist2 d_M_token_50 ?_
          refine mm_iload d_M_token_51 rfl ?_
          refine mm_if_geN d_M_token_52 (by first | omega | exact ite01_lt | exact bt8_lt31 _ _ | exact godB_lt31 _ _ _ | exact pop_lt31 _ | assumption | exact b31 (hW.gp (by omega)) | exact b31 (hW.ne (by omega)) | exact b31 (hW.op (by omega)) | exact and31 (hW.gp (by omega)) | exact and31 (hW.ne (by omega)) | exact and31 (hW.op (by omega)) | exact and31 (by assumption) | exact and31r (hW.ne (by omega)) | exact and31r (hW.gp (by omega)) | exact and31r (by decide)) ?_
          refine mm_iload d_M_token_63 rfl ?_
          refine mm_ciN 97 d_M_token_64 rfl ?_
          refine mm_ciN 122 d_M_token_66 rfl ?_
          refine mm_s3i d_M_token_68 (sp_M_inN (by omega) (by decide) (by decide) ?_)
          rw [if_neg (fun z => c2 (isL_i.mpr z))]
          refine mm_if_eqN d_M_token_71 (by first | omega | exact ite01_lt | exact bt8_lt31 _ _ | exact godB_lt31 _ _ _ | exact pop_lt31 _ | assumption | exact b31 (hW.gp (by omega)) | exact b31 (hW.ne (by omega)) | exact b31 (hW.op (by omega)) | exact and31 (hW.gp (by omega)) | exact and31 (hW.ne (by omega)) | exact and31 (hW.op (by omega)) | exact and31 (by assumption) | exact and31r (hW.ne (by omega)) | exact and31r (hW.gp (by omega)) | exact and31r (by decide)) (fun c_71 => ?_) (fun c_71 => False.elim (by omega))
          refine mm_iload d_M_token_147 rfl ?_
          refine mm_ciN 48 d_M_token_148 rfl ?_
          refine mm_ciN 57 d_M_token_150 rfl ?_
          refine mm_s3i d_M_token_152 (sp_M_inN (by omega) (by decide) (by decide) ?_)
          rw [if_neg (fun z => c3 (isD_i.mpr z))]
          refine mm_if_eqN d_M_token_155 (by first | omega | exact ite01_lt | exact bt8_lt31 _ _ | exact godB_lt31 _ _ _ | exact pop_lt31 _ | assumption | exact b31 (hW.gp (by omega)) | exact b31 (hW.ne (by omega)) | exact b31 (hW.op (by omega)) | exact and31 (hW.gp (by omega)) | exact and31 (hW.ne (by omega)) | exact and31 (hW.op (by omega)) | exact and31 (by assumption) | exact and31r (hW.ne (by omega)) | exact and31r (hW.gp (by omega)) | exact and31r (by decide)) (fun c_155 => ?_) (fun c_155 => False.elim (by omega))
          refine mm_aload d_M_token_241 rfl ?_
          refine mm_dup d_M_token_242 rfl ?_
          refine mm_getIN d_M_token_243 rfl (sk_o_71 hM) (show _ = nI (tP u L p) from e1') ?_
          refine mm_ciN 1 d_M_token_246 rfl ?_
          refine mm_iaddN d_M_token_247 ?_
          refine mm_putI d_M_token_248 rfl (sk_o_71 hM) (Or.inl rfl) ?_
          refine mm_aload d_M_token_251 rfl ?_
          refine mm_iload d_M_token_252 rfl ?_
          refine mm_ciN 59 d_M_token_253 rfl ?_
          refine mm_icmp_neN d_M_token_255 (by first | omega | exact ite01_lt | exact bt8_lt31 _ _ | exact godB_lt31 _ _ _ | exact pop_lt31 _ | assumption | exact b31 (hW.gp (by omega)) | exact b31 (hW.ne (by omega)) | exact b31 (hW.op (by omega)) | exact and31 (hW.gp (by omega)) | exact and31 (hW.ne (by omega)) | exact and31 (hW.op (by omega)) | exact and31 (by assumption) | exact and31r (hW.ne (by omega)) | exact and31r (hW.gp (by omega)) | exact and31r (by decide)) (by first | omega | exact ite01_lt | exact bt8_lt31 _ _ | exact godB_lt31 _ _ _ | exact pop_lt31 _ | assumption | exact b31 (hW.gp (by omega)) | exact b31 (hW.ne (by omega)) | exact b31 (hW.op (by omega)) | exact and31 (hW.gp (by omega)) | exact and31 (hW.ne (by omega)) | exact and31 (hW.op (by omega)) | exact and31 (by assumption) | exact and31r (hW.ne (by omega)) | exact and31r (hW.gp (by omega)) | exact and31r (by decide)) (fun c_255 => ?_) (fun c_255 => ?_)
          · refine mm_ciN 1 d_M_token_262 rfl ?_
            refine mm_putI d_M_token_263 rfl (sk_o_71 hM) (Or.inl rfl) ?_
            exact mm_rv d_M_token_266 (h _ (((k1 _).sJ.sI (by omega)).sI (by omega)) ⟨by rw [mm_I_sI, if_neg (by decide), mm_I_sI, if_pos ⟨rfl, rfl⟩, eN], by rw [mm_I_sI, if_neg (by decide), mm_I_sI, if_neg (by decide)]; exact hwi, by rw [mm_I_sI, if_pos ⟨rfl, rfl⟩, eK]; first | (rw [if_pos c_255]; rfl) | (rw [if_neg c_255]; rfl), fun z => absurd z t03, fun z => absurd z t02⟩)
          · refine mm_ciN 4 d_M_token_258 rfl ?_
            refine mm_goto d_M_token_259 ?_
            refine mm_putI d_M_token_263 rfl (sk_o_71 hM) (Or.inl rfl) ?_
            exact mm_rv d_M_token_266 (h _ (((k1 _).sJ.sI (by omega)).sI (by omega)) ⟨by rw [mm_I_sI, if_neg (by decide), mm_I_sI, if_pos ⟨rfl, rfl⟩, eN], by rw [mm_I_sI, if_neg (by decide), mm_I_sI, if_neg (by decide)]; exact hwi, by rw [mm_I_sI, if_pos ⟨rfl, rfl⟩, eK]; first | (rw [if_pos c_255]; rfl) | (rw [if_neg c_255]; rfl), fun z => absurd z t03, fun z => absurd z t02⟩)
  have loop : ∀ (m p' : Nat) (ν : mm_M), L - p' = m → p' ≤ L → tP u L p' = tP u L p → Km μ ν → mm_I ν 71 9 = nI p' → mm_T X 1 0 0 k_M_token 0 [some (.ref 71), none, none] [] ν (fun v μ' => v = none ∧ q μ') := by
    intro m
    induction m with
    | zero =>
      intro p' ν hm hp' hs k e1
      have hR' := hR.km k
      have hM := hR'.1
      unfold tP at hs
      rw [scan_stop (by omega)] at hs
      refine mm_aload d_M_token_0 rfl ?_
      refine mm_v0i d_M_token_1 (sk_o_71 hM) (sp_M_seeB hR' e1 (by omega) (by omega) ?_)
      refine mm_ciN 10 d_M_token_4 rfl ?_
      refine mm_icmp_eqN1 d_M_token_6 (by first | omega | exact ite01_lt | exact bt8_lt31 _ _ | exact godB_lt31 _ _ _ | exact pop_lt31 _ | assumption | exact b31 (hW.gp (by omega)) | exact b31 (hW.ne (by omega)) | exact b31 (hW.op (by omega)) | exact and31 (hW.gp (by omega)) | exact and31 (hW.ne (by omega)) | exact and31 (hW.op (by omega)) | exact and31 (by assumption) | exact and31r (hW.ne (by omega)) | exact and31r (hW.gp (by omega)) | exact and31r (by decide)) ?_
      refine mm_aload d_M_token_9 rfl ?_
      refine mm_v0i d_M_token_10 (sk_o_71 hM) (sp_M_seeB hR' e1 (by omega) (by omega) ?_)
      refine mm_ciN 32 d_M_token_13 rfl ?_
      refine mm_icmp_neN1 d_M_token_15 (by first | omega | exact ite01_lt | exact bt8_lt31 _ _ | exact godB_lt31 _ _ _ | exact pop_lt31 _ | assumption | exact b31 (hW.gp (by omega)) | exact b31 (hW.ne (by omega)) | exact b31 (hW.op (by omega)) | exact and31 (hW.gp (by omega)) | exact and31 (hW.ne (by omega)) | exact and31 (hW.op (by omega)) | exact and31 (by assumption) | exact and31r (hW.ne (by omega)) | exact and31r (hW.gp (by omega)) | exact and31r (by decide)) ?_
      exact fin ν k (by rw [e1, hs]; rfl)
    | succ m ih =>
      intro p' ν hm hp' hs k e1
      have hR' := hR.km k
      have hM := hR'.1
      have ubi := (hR.2.2.2 p' (by omega)).2
      unfold tP at hs
      refine mm_aload d_M_token_0 rfl ?_
      refine mm_v0i d_M_token_1 (sk_o_71 hM) (sp_M_seeT hR' e1 (by omega) ?_)
      refine mm_ciN 10 d_M_token_4 rfl ?_
      refine mm_icmp_eqN d_M_token_6 (by first | omega | exact ite01_lt | exact bt8_lt31 _ _ | exact godB_lt31 _ _ _ | exact pop_lt31 _ | assumption | exact b31 (hW.gp (by omega)) | exact b31 (hW.ne (by omega)) | exact b31 (hW.op (by omega)) | exact and31 (hW.gp (by omega)) | exact and31 (hW.ne (by omega)) | exact and31 (hW.op (by omega)) | exact and31 (by assumption) | exact and31r (hW.ne (by omega)) | exact and31r (hW.gp (by omega)) | exact and31r (by decide)) (by first | omega | exact ite01_lt | exact bt8_lt31 _ _ | exact godB_lt31 _ _ _ | exact pop_lt31 _ | assumption | exact b31 (hW.gp (by omega)) | exact b31 (hW.ne (by omega)) | exact b31 (hW.op (by omega)) | exact and31 (hW.gp (by omega)) | exact and31 (hW.ne (by omega)) | exact and31 (hW.op (by omega)) | exact and31 (by assumption) | exact and31r (hW.ne (by omega)) | exact and31r (hW.gp (by omega)) | exact and31r (by decide)) (fun c_6 => ?_) (fun c_6 => ?_)
      · refine mm_aload d_M_token_18 rfl ?_
        refine mm_dup d_M_token_19 rfl ?_
        refine mm_getIN d_M_token_20 rfl (sk_o_71 hM) e1 ?_
        refine mm_ciN 1 d_M_token_23 rfl ?_
        refine mm_iaddN d_M_token_24 ?_
        refine mm_putI d_M_token_25 rfl (sk_o_71 hM) (Or.inl rfl) ?_
        refine mm_goto d_M_token_28 ?_
        exact ih (p' + 1) _ (by omega) (by omega) (by unfold tP; rw [← hs]; exact (scan_step (by omega) (isW_i.mpr (by omega))).symm) (k.sI (by omega)) (by rw [mm_I_sI, if_pos ⟨rfl, rfl⟩])
      · refine mm_aload d_M_token_9 rfl ?_
        refine mm_v0i d_M_token_10 (sk_o_71 hM) (sp_M_seeT hR' e1 (by omega) ?_)
        refine mm_ciN 32 d_M_token_13 rfl ?_
        refine mm_icmp_neN d_M_token_15 (by first | omega | exact ite01_lt | exact bt8_lt31 _ _ | exact godB_lt31 _ _ _ | exact pop_lt31 _ | assumption | exact b31 (hW.gp (by omega)) | exact b31 (hW.ne (by omega)) | exact b31 (hW.op (by omega)) | exact and31 (hW.gp (by omega)) | exact and31 (hW.ne (by omega)) | exact and31 (hW.op (by omega)) | exact and31 (by assumption) | exact and31r (hW.ne (by omega)) | exact and31r (hW.gp (by omega)) | exact and31r (by decide)) (by first | omega | exact ite01_lt | exact bt8_lt31 _ _ | exact godB_lt31 _ _ _ | exact pop_lt31 _ | assumption | exact b31 (hW.gp (by omega)) | exact b31 (hW.ne (by omega)) | exact b31 (hW.op (by omega)) | exact and31 (hW.gp (by omega)) | exact and31 (hW.ne (by omega)) | exact and31 (hW.op (by omega)) | exact and31 (by assumption) | exact and31r (hW.ne (by omega)) | exact and31r (hW.gp (by omega)) | exact and31r (by decide)) (fun c_15 => ?_) (fun c_15 => ?_)
        · exact fin ν k (by rw [e1]; unfold tP; rw [← hs, scan_stop (fun z => by have := isW_i.mp z.2; omega)])
        · refine mm_aload d_M_token_18 rfl ?_
          refine mm_dup d_M_token_19 rfl ?_
          refine mm_getIN d_M_token_20 rfl (sk_o_71 hM) e1 ?_
          refine mm_ciN 1 d_M_token_23 rfl ?_
          refine mm_iaddN d_M_token_24 ?_
          refine mm_putI d_M_token_25 rfl (sk_o_71 hM) (Or.inl rfl) ?_
          refine mm_goto d_M_token_28 ?_
          exact ih (p' + 1) _ (by omega) (by omega) (by unfold tP; rw [← hs]; exact (scan_step (by omega) (isW_i.mpr (by omega))).symm) (k.sI (by omega)) (by rw [mm_I_sI, if_pos ⟨rfl, rfl⟩])
  exact loop (L - p) p μ rfl hp rfl Km.rf hn
