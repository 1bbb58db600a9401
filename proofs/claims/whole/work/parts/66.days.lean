/-! a year as it goes on: its state on both sides -/
abbrev mm_S : Type := Nat × Nat × Nat × Nat × Nat × (Nat → Nat) × (Nat → Nat) × (Nat → Nat)
def sH (σ : mm_S) : Nat := σ.1
def sD (σ : mm_S) : Nat := σ.2.1
def sA (σ : mm_S) : Nat := σ.2.2.1
def sB (σ : mm_S) : Nat := σ.2.2.2.1
def sY (σ : mm_S) : Nat := σ.2.2.2.2.1
def sC (σ : mm_S) : Nat → Nat := σ.2.2.2.2.2.1
def sL (σ : mm_S) : Nat → Nat := σ.2.2.2.2.2.2.1
def sK (σ : mm_S) : Nat → Nat := σ.2.2.2.2.2.2.2
def upN (f : Nat → Nat) (p v : Nat) : Nat → Nat := fun j => if j = p then v else f j
def wH (σ : mm_S) (v : Nat) : mm_S := (v, sD σ, sA σ, sB σ, sY σ, sC σ, sL σ, sK σ)
def wD (σ : mm_S) (v : Nat) : mm_S := (sH σ, v, sA σ, sB σ, sY σ, sC σ, sL σ, sK σ)
def wA (σ : mm_S) (v : Nat) : mm_S := (sH σ, sD σ, v, sB σ, sY σ, sC σ, sL σ, sK σ)
def wB (σ : mm_S) (v : Nat) : mm_S := (sH σ, sD σ, sA σ, v, sY σ, sC σ, sL σ, sK σ)
def wY (σ : mm_S) (v : Nat) : mm_S := (sH σ, sD σ, sA σ, sB σ, v, sC σ, sL σ, sK σ)
def wC (σ : mm_S) (p v : Nat) : mm_S := (sH σ, sD σ, sA σ, sB σ, sY σ, upN (sC σ) p v, sL σ, sK σ)
def wL (σ : mm_S) (p v : Nat) : mm_S := (sH σ, sD σ, sA σ, sB σ, sY σ, sC σ, upN (sL σ) p v, sK σ)
def wK (σ : mm_S) (p v : Nat) : mm_S := (sH σ, sD σ, sA σ, sB σ, sY σ, sC σ, sL σ, upN (sK σ) p v)
/-- what the class counts beside it: offence, whom, most here, thanks, seed -/
abbrev mm_Xi : Type := Option Nat × Option Nat × Nat × Nat × Int32
def xO (ξ : mm_Xi) : Option Nat := ξ.1
def xW (ξ : mm_Xi) : Option Nat := ξ.2.1
def xM (ξ : mm_Xi) : Nat := ξ.2.2.1
def xT (ξ : mm_Xi) : Nat := ξ.2.2.2.1
def xS (ξ : mm_Xi) : Int32 := ξ.2.2.2.2
def DaF (I : Nat → Nat → Int32) (σ : mm_S) (ξ : mm_Xi) : Prop := I 53 10 = nI (sH σ) ∧ I 53 0 = nI (sD σ) ∧ I 53 11 = nI (sA σ) ∧ I 53 12 = nI (sB σ) ∧ I 53 9 = nI (sY σ) ∧ (∀ j, j < 6 → I 54 j = nI (sC σ j)) ∧ (∀ j, j < 48 → I 55 j = nI (sL σ j)) ∧ (∀ j, j < 6 → I 56 j = nI (sK σ j)) ∧ I 53 1 = oI (xO ξ) ∧ I 53 2 = oI (xW ξ) ∧ I 53 3 = nI (xM ξ) ∧ I 53 4 = nI (xT ξ) ∧ I 53 13 = xS ξ
def MoF (I : Nat → Nat → Int32) (σ : mm_S) : Prop := I 71 25 = nI (sH σ) ∧ I 71 26 = nI (sD σ) ∧ I 71 27 = nI (sA σ) ∧ I 71 28 = nI (sB σ) ∧ I 71 29 = nI (sY σ) ∧ (∀ j, j < 6 → I 82 j = nI (sC σ j)) ∧ (∀ j, j < 48 → I 83 j = nI (sL σ j)) ∧ (∀ j, j < 6 → I 84 j = nI (sK σ j))
theorem DaF.wH {I I' : Nat → Nat → Int32} {σ : mm_S} {ξ : mm_Xi} {v : Nat} (h : DaF I σ ξ) (e : ∀ b i, I' b i = if b = 53 ∧ i = 10 then nI v else I b i) : DaF I' (wH σ v) ξ := by
  obtain ⟨h1, h2, h3, h4, h5, h6, h7, h8, h9, h10, h11, h12, h13⟩ := h
  exact ⟨by rw [e, if_pos ⟨rfl, rfl⟩]; rfl, by rw [e, if_neg (by decide)]; exact h2, by rw [e, if_neg (by decide)]; exact h3, by rw [e, if_neg (by decide)]; exact h4, by rw [e, if_neg (by decide)]; exact h5, fun j hj => by rw [e, if_neg (by omega)]; exact h6 j hj, fun j hj => by rw [e, if_neg (by omega)]; exact h7 j hj, fun j hj => by rw [e, if_neg (by omega)]; exact h8 j hj, by rw [e, if_neg (by decide)]; exact h9, by rw [e, if_neg (by decide)]; exact h10, by rw [e, if_neg (by decide)]; exact h11, by rw [e, if_neg (by decide)]; exact h12, by rw [e, if_neg (by decide)]; exact h13⟩
theorem DaF.wD {I I' : Nat → Nat → Int32} {σ : mm_S} {ξ : mm_Xi} {v : Nat} (h : DaF I σ ξ) (e : ∀ b i, I' b i = if b = 53 ∧ i = 0 then nI v else I b i) : DaF I' (wD σ v) ξ := by
  obtain ⟨h1, h2, h3, h4, h5, h6, h7, h8, h9, h10, h11, h12, h13⟩ := h
  exact ⟨by rw [e, if_neg (by decide)]; exact h1, by rw [e, if_pos ⟨rfl, rfl⟩]; rfl, by rw [e, if_neg (by decide)]; exact h3, by rw [e, if_neg (by decide)]; exact h4, by rw [e, if_neg (by decide)]; exact h5, fun j hj => by rw [e, if_neg (by omega)]; exact h6 j hj, fun j hj => by rw [e, if_neg (by omega)]; exact h7 j hj, fun j hj => by rw [e, if_neg (by omega)]; exact h8 j hj, by rw [e, if_neg (by decide)]; exact h9, by rw [e, if_neg (by decide)]; exact h10, by rw [e, if_neg (by decide)]; exact h11, by rw [e, if_neg (by decide)]; exact h12, by rw [e, if_neg (by decide)]; exact h13⟩
theorem DaF.wA {I I' : Nat → Nat → Int32} {σ : mm_S} {ξ : mm_Xi} {v : Nat} (h : DaF I σ ξ) (e : ∀ b i, I' b i = if b = 53 ∧ i = 11 then nI v else I b i) : DaF I' (wA σ v) ξ := by
  obtain ⟨h1, h2, h3, h4, h5, h6, h7, h8, h9, h10, h11, h12, h13⟩ := h
  exact ⟨by rw [e, if_neg (by decide)]; exact h1, by rw [e, if_neg (by decide)]; exact h2, by rw [e, if_pos ⟨rfl, rfl⟩]; rfl, by rw [e, if_neg (by decide)]; exact h4, by rw [e, if_neg (by decide)]; exact h5, fun j hj => by rw [e, if_neg (by omega)]; exact h6 j hj, fun j hj => by rw [e, if_neg (by omega)]; exact h7 j hj, fun j hj => by rw [e, if_neg (by omega)]; exact h8 j hj, by rw [e, if_neg (by decide)]; exact h9, by rw [e, if_neg (by decide)]; exact h10, by rw [e, if_neg (by decide)]; exact h11, by rw [e, if_neg (by decide)]; exact h12, by rw [e, if_neg (by decide)]; exact h13⟩
theorem DaF.wB {I I' : Nat → Nat → Int32} {σ : mm_S} {ξ : mm_Xi} {v : Nat} (h : DaF I σ ξ) (e : ∀ b i, I' b i = if b = 53 ∧ i = 12 then nI v else I b i) : DaF I' (wB σ v) ξ := by
  obtain ⟨h1, h2, h3, h4, h5, h6, h7, h8, h9, h10, h11, h12, h13⟩ := h
  exact ⟨by rw [e, if_neg (by decide)]; exact h1, by rw [e, if_neg (by decide)]; exact h2, by rw [e, if_neg (by decide)]; exact h3, by rw [e, if_pos ⟨rfl, rfl⟩]; rfl, by rw [e, if_neg (by decide)]; exact h5, fun j hj => by rw [e, if_neg (by omega)]; exact h6 j hj, fun j hj => by rw [e, if_neg (by omega)]; exact h7 j hj, fun j hj => by rw [e, if_neg (by omega)]; exact h8 j hj, by rw [e, if_neg (by decide)]; exact h9, by rw [e, if_neg (by decide)]; exact h10, by rw [e, if_neg (by decide)]; exact h11, by rw [e, if_neg (by decide)]; exact h12, by rw [e, if_neg (by decide)]; exact h13⟩
theorem DaF.wY {I I' : Nat → Nat → Int32} {σ : mm_S} {ξ : mm_Xi} {v : Nat} (h : DaF I σ ξ) (e : ∀ b i, I' b i = if b = 53 ∧ i = 9 then nI v else I b i) : DaF I' (wY σ v) ξ := by
  obtain ⟨h1, h2, h3, h4, h5, h6, h7, h8, h9, h10, h11, h12, h13⟩ := h
  exact ⟨by rw [e, if_neg (by decide)]; exact h1, by rw [e, if_neg (by decide)]; exact h2, by rw [e, if_neg (by decide)]; exact h3, by rw [e, if_neg (by decide)]; exact h4, by rw [e, if_pos ⟨rfl, rfl⟩]; rfl, fun j hj => by rw [e, if_neg (by omega)]; exact h6 j hj, fun j hj => by rw [e, if_neg (by omega)]; exact h7 j hj, fun j hj => by rw [e, if_neg (by omega)]; exact h8 j hj, by rw [e, if_neg (by decide)]; exact h9, by rw [e, if_neg (by decide)]; exact h10, by rw [e, if_neg (by decide)]; exact h11, by rw [e, if_neg (by decide)]; exact h12, by rw [e, if_neg (by decide)]; exact h13⟩
theorem DaF.wC {I I' : Nat → Nat → Int32} {σ : mm_S} {ξ : mm_Xi} {p v : Nat} (h : DaF I σ ξ) (e : ∀ b i, I' b i = if b = 54 ∧ i = p then nI v else I b i) : DaF I' (wC σ p v) ξ := by
  obtain ⟨h1, h2, h3, h4, h5, h6, h7, h8, h9, h10, h11, h12, h13⟩ := h
  exact ⟨by rw [e, if_neg (by omega)]; exact h1, by rw [e, if_neg (by omega)]; exact h2, by rw [e, if_neg (by omega)]; exact h3, by rw [e, if_neg (by omega)]; exact h4, by rw [e, if_neg (by omega)]; exact h5, fun j hj => by rw [e]; by_cases z : j = p; rw [if_pos ⟨rfl, z⟩]; show nI v = nI (if j = p then v else _); rw [if_pos z]; rw [if_neg (fun y => z y.2), h6 j hj]; show nI _ = nI (if j = p then v else _); rw [if_neg z], fun j hj => by rw [e, if_neg (by omega)]; exact h7 j hj, fun j hj => by rw [e, if_neg (by omega)]; exact h8 j hj, by rw [e, if_neg (by omega)]; exact h9, by rw [e, if_neg (by omega)]; exact h10, by rw [e, if_neg (by omega)]; exact h11, by rw [e, if_neg (by omega)]; exact h12, by rw [e, if_neg (by omega)]; exact h13⟩
theorem DaF.wL {I I' : Nat → Nat → Int32} {σ : mm_S} {ξ : mm_Xi} {p v : Nat} (h : DaF I σ ξ) (e : ∀ b i, I' b i = if b = 55 ∧ i = p then nI v else I b i) : DaF I' (wL σ p v) ξ := by
  obtain ⟨h1, h2, h3, h4, h5, h6, h7, h8, h9, h10, h11, h12, h13⟩ := h
  exact ⟨by rw [e, if_neg (by omega)]; exact h1, by rw [e, if_neg (by omega)]; exact h2, by rw [e, if_neg (by omega)]; exact h3, by rw [e, if_neg (by omega)]; exact h4, by rw [e, if_neg (by omega)]; exact h5, fun j hj => by rw [e, if_neg (by omega)]; exact h6 j hj, fun j hj => by rw [e]; by_cases z : j = p; rw [if_pos ⟨rfl, z⟩]; show nI v = nI (if j = p then v else _); rw [if_pos z]; rw [if_neg (fun y => z y.2), h7 j hj]; show nI _ = nI (if j = p then v else _); rw [if_neg z], fun j hj => by rw [e, if_neg (by omega)]; exact h8 j hj, by rw [e, if_neg (by omega)]; exact h9, by rw [e, if_neg (by omega)]; exact h10, by rw [e, if_neg (by omega)]; exact h11, by rw [e, if_neg (by omega)]; exact h12, by rw [e, if_neg (by omega)]; exact h13⟩
theorem DaF.wK {I I' : Nat → Nat → Int32} {σ : mm_S} {ξ : mm_Xi} {p v : Nat} (h : DaF I σ ξ) (e : ∀ b i, I' b i = if b = 56 ∧ i = p then nI v else I b i) : DaF I' (wK σ p v) ξ := by
  obtain ⟨h1, h2, h3, h4, h5, h6, h7, h8, h9, h10, h11, h12, h13⟩ := h
  exact ⟨by rw [e, if_neg (by omega)]; exact h1, by rw [e, if_neg (by omega)]; exact h2, by rw [e, if_neg (by omega)]; exact h3, by rw [e, if_neg (by omega)]; exact h4, by rw [e, if_neg (by omega)]; exact h5, fun j hj => by rw [e, if_neg (by omega)]; exact h6 j hj, fun j hj => by rw [e, if_neg (by omega)]; exact h7 j hj, fun j hj => by rw [e]; by_cases z : j = p; rw [if_pos ⟨rfl, z⟩]; show nI v = nI (if j = p then v else _); rw [if_pos z]; rw [if_neg (fun y => z y.2), h8 j hj]; show nI _ = nI (if j = p then v else _); rw [if_neg z], by rw [e, if_neg (by omega)]; exact h9, by rw [e, if_neg (by omega)]; exact h10, by rw [e, if_neg (by omega)]; exact h11, by rw [e, if_neg (by omega)]; exact h12, by rw [e, if_neg (by omega)]; exact h13⟩
theorem DaF.zO {I I' : Nat → Nat → Int32} {σ : mm_S} {ξ : mm_Xi} {v : Option Nat} (h : DaF I σ ξ) (e : ∀ b i, I' b i = if b = 53 ∧ i = 1 then oI v else I b i) : DaF I' σ (v, xW ξ, xM ξ, xT ξ, xS ξ) := by
  obtain ⟨h1, h2, h3, h4, h5, h6, h7, h8, h9, h10, h11, h12, h13⟩ := h
  exact ⟨by rw [e, if_neg (by decide)]; exact h1, by rw [e, if_neg (by decide)]; exact h2, by rw [e, if_neg (by decide)]; exact h3, by rw [e, if_neg (by decide)]; exact h4, by rw [e, if_neg (by decide)]; exact h5, fun j hj => by rw [e, if_neg (by omega)]; exact h6 j hj, fun j hj => by rw [e, if_neg (by omega)]; exact h7 j hj, fun j hj => by rw [e, if_neg (by omega)]; exact h8 j hj, by rw [e, if_pos ⟨rfl, rfl⟩]; rfl, by rw [e, if_neg (by decide)]; exact h10, by rw [e, if_neg (by decide)]; exact h11, by rw [e, if_neg (by decide)]; exact h12, by rw [e, if_neg (by decide)]; exact h13⟩
theorem DaF.zW {I I' : Nat → Nat → Int32} {σ : mm_S} {ξ : mm_Xi} {v : Option Nat} (h : DaF I σ ξ) (e : ∀ b i, I' b i = if b = 53 ∧ i = 2 then oI v else I b i) : DaF I' σ (xO ξ, v, xM ξ, xT ξ, xS ξ) := by
  obtain ⟨h1, h2, h3, h4, h5, h6, h7, h8, h9, h10, h11, h12, h13⟩ := h
  exact ⟨by rw [e, if_neg (by decide)]; exact h1, by rw [e, if_neg (by decide)]; exact h2, by rw [e, if_neg (by decide)]; exact h3, by rw [e, if_neg (by decide)]; exact h4, by rw [e, if_neg (by decide)]; exact h5, fun j hj => by rw [e, if_neg (by omega)]; exact h6 j hj, fun j hj => by rw [e, if_neg (by omega)]; exact h7 j hj, fun j hj => by rw [e, if_neg (by omega)]; exact h8 j hj, by rw [e, if_neg (by decide)]; exact h9, by rw [e, if_pos ⟨rfl, rfl⟩]; rfl, by rw [e, if_neg (by decide)]; exact h11, by rw [e, if_neg (by decide)]; exact h12, by rw [e, if_neg (by decide)]; exact h13⟩
theorem DaF.zM {I I' : Nat → Nat → Int32} {σ : mm_S} {ξ : mm_Xi} {v : Nat} (h : DaF I σ ξ) (e : ∀ b i, I' b i = if b = 53 ∧ i = 3 then nI v else I b i) : DaF I' σ (xO ξ, xW ξ, v, xT ξ, xS ξ) := by
  obtain ⟨h1, h2, h3, h4, h5, h6, h7, h8, h9, h10, h11, h12, h13⟩ := h
  exact ⟨by rw [e, if_neg (by decide)]; exact h1, by rw [e, if_neg (by decide)]; exact h2, by rw [e, if_neg (by decide)]; exact h3, by rw [e, if_neg (by decide)]; exact h4, by rw [e, if_neg (by decide)]; exact h5, fun j hj => by rw [e, if_neg (by omega)]; exact h6 j hj, fun j hj => by rw [e, if_neg (by omega)]; exact h7 j hj, fun j hj => by rw [e, if_neg (by omega)]; exact h8 j hj, by rw [e, if_neg (by decide)]; exact h9, by rw [e, if_neg (by decide)]; exact h10, by rw [e, if_pos ⟨rfl, rfl⟩]; rfl, by rw [e, if_neg (by decide)]; exact h12, by rw [e, if_neg (by decide)]; exact h13⟩
theorem DaF.zT {I I' : Nat → Nat → Int32} {σ : mm_S} {ξ : mm_Xi} {v : Nat} (h : DaF I σ ξ) (e : ∀ b i, I' b i = if b = 53 ∧ i = 4 then nI v else I b i) : DaF I' σ (xO ξ, xW ξ, xM ξ, v, xS ξ) := by
  obtain ⟨h1, h2, h3, h4, h5, h6, h7, h8, h9, h10, h11, h12, h13⟩ := h
  exact ⟨by rw [e, if_neg (by decide)]; exact h1, by rw [e, if_neg (by decide)]; exact h2, by rw [e, if_neg (by decide)]; exact h3, by rw [e, if_neg (by decide)]; exact h4, by rw [e, if_neg (by decide)]; exact h5, fun j hj => by rw [e, if_neg (by omega)]; exact h6 j hj, fun j hj => by rw [e, if_neg (by omega)]; exact h7 j hj, fun j hj => by rw [e, if_neg (by omega)]; exact h8 j hj, by rw [e, if_neg (by decide)]; exact h9, by rw [e, if_neg (by decide)]; exact h10, by rw [e, if_neg (by decide)]; exact h11, by rw [e, if_pos ⟨rfl, rfl⟩]; rfl, by rw [e, if_neg (by decide)]; exact h13⟩
theorem DaF.zS {I I' : Nat → Nat → Int32} {σ : mm_S} {ξ : mm_Xi} {v : Int32} (h : DaF I σ ξ) (e : ∀ b i, I' b i = if b = 53 ∧ i = 13 then v else I b i) : DaF I' σ (xO ξ, xW ξ, xM ξ, xT ξ, v) := by
  obtain ⟨h1, h2, h3, h4, h5, h6, h7, h8, h9, h10, h11, h12, h13⟩ := h
  exact ⟨by rw [e, if_neg (by decide)]; exact h1, by rw [e, if_neg (by decide)]; exact h2, by rw [e, if_neg (by decide)]; exact h3, by rw [e, if_neg (by decide)]; exact h4, by rw [e, if_neg (by decide)]; exact h5, fun j hj => by rw [e, if_neg (by omega)]; exact h6 j hj, fun j hj => by rw [e, if_neg (by omega)]; exact h7 j hj, fun j hj => by rw [e, if_neg (by omega)]; exact h8 j hj, by rw [e, if_neg (by decide)]; exact h9, by rw [e, if_neg (by decide)]; exact h10, by rw [e, if_neg (by decide)]; exact h11, by rw [e, if_neg (by decide)]; exact h12, by rw [e, if_pos ⟨rfl, rfl⟩]; rfl⟩
theorem DaF.H {I : Nat → Nat → Int32} {σ : mm_S} {ξ : mm_Xi} (h : DaF I σ ξ) : I 53 10 = nI (sH σ) := h.1
theorem DaF.D {I : Nat → Nat → Int32} {σ : mm_S} {ξ : mm_Xi} (h : DaF I σ ξ) : I 53 0 = nI (sD σ) := h.2.1
theorem DaF.A {I : Nat → Nat → Int32} {σ : mm_S} {ξ : mm_Xi} (h : DaF I σ ξ) : I 53 11 = nI (sA σ) := h.2.2.1
theorem DaF.B {I : Nat → Nat → Int32} {σ : mm_S} {ξ : mm_Xi} (h : DaF I σ ξ) : I 53 12 = nI (sB σ) := h.2.2.2.1
theorem DaF.Y {I : Nat → Nat → Int32} {σ : mm_S} {ξ : mm_Xi} (h : DaF I σ ξ) : I 53 9 = nI (sY σ) := h.2.2.2.2.1
theorem DaF.C {I : Nat → Nat → Int32} {σ : mm_S} {ξ : mm_Xi} (h : DaF I σ ξ) {j : Nat} (hj : j < 6) : I 54 j = nI (sC σ j) := (h.2.2.2.2.2.1) j hj
theorem DaF.L {I : Nat → Nat → Int32} {σ : mm_S} {ξ : mm_Xi} (h : DaF I σ ξ) {j : Nat} (hj : j < 48) : I 55 j = nI (sL σ j) := (h.2.2.2.2.2.2.1) j hj
theorem DaF.K {I : Nat → Nat → Int32} {σ : mm_S} {ξ : mm_Xi} (h : DaF I σ ξ) {j : Nat} (hj : j < 6) : I 56 j = nI (sK σ j) := (h.2.2.2.2.2.2.2.1) j hj
theorem DaF.vO {I : Nat → Nat → Int32} {σ : mm_S} {ξ : mm_Xi} (h : DaF I σ ξ) : I 53 1 = oI (xO ξ) := h.2.2.2.2.2.2.2.2.1
theorem DaF.vW {I : Nat → Nat → Int32} {σ : mm_S} {ξ : mm_Xi} (h : DaF I σ ξ) : I 53 2 = oI (xW ξ) := h.2.2.2.2.2.2.2.2.2.1
theorem DaF.vM {I : Nat → Nat → Int32} {σ : mm_S} {ξ : mm_Xi} (h : DaF I σ ξ) : I 53 3 = nI (xM ξ) := h.2.2.2.2.2.2.2.2.2.2.1
theorem DaF.vT {I : Nat → Nat → Int32} {σ : mm_S} {ξ : mm_Xi} (h : DaF I σ ξ) : I 53 4 = nI (xT ξ) := h.2.2.2.2.2.2.2.2.2.2.2.1
theorem DaF.vS {I : Nat → Nat → Int32} {σ : mm_S} {ξ : mm_Xi} (h : DaF I σ ξ) : I 53 13 = xS ξ := h.2.2.2.2.2.2.2.2.2.2.2.2
theorem MoF.wH {I I' : Nat → Nat → Int32} {σ : mm_S} {v : Nat} (h : MoF I σ) (e : ∀ b i, I' b i = if b = 71 ∧ i = 25 then nI v else I b i) : MoF I' (wH σ v) := by
  obtain ⟨h1, h2, h3, h4, h5, h6, h7, h8⟩ := h
  exact ⟨by rw [e, if_pos ⟨rfl, rfl⟩]; rfl, by rw [e, if_neg (by decide)]; exact h2, by rw [e, if_neg (by decide)]; exact h3, by rw [e, if_neg (by decide)]; exact h4, by rw [e, if_neg (by decide)]; exact h5, fun j hj => by rw [e, if_neg (by omega)]; exact h6 j hj, fun j hj => by rw [e, if_neg (by omega)]; exact h7 j hj, fun j hj => by rw [e, if_neg (by omega)]; exact h8 j hj⟩
theorem MoF.wD {I I' : Nat → Nat → Int32} {σ : mm_S} {v : Nat} (h : MoF I σ) (e : ∀ b i, I' b i = if b = 71 ∧ i = 26 then nI v else I b i) : MoF I' (wD σ v) := by
  obtain ⟨h1, h2, h3, h4, h5, h6, h7, h8⟩ := h
  exact ⟨by rw [e, if_neg (by decide)]; exact h1, by rw [e, if_pos ⟨rfl, rfl⟩]; rfl, by rw [e, if_neg (by decide)]; exact h3, by rw [e, if_neg (by decide)]; exact h4, by rw [e, if_neg (by decide)]; exact h5, fun j hj => by rw [e, if_neg (by omega)]; exact h6 j hj, fun j hj => by rw [e, if_neg (by omega)]; exact h7 j hj, fun j hj => by rw [e, if_neg (by omega)]; exact h8 j hj⟩
theorem MoF.wA {I I' : Nat → Nat → Int32} {σ : mm_S} {v : Nat} (h : MoF I σ) (e : ∀ b i, I' b i = if b = 71 ∧ i = 27 then nI v else I b i) : MoF I' (wA σ v) := by
  obtain ⟨h1, h2, h3, h4, h5, h6, h7, h8⟩ := h
  exact ⟨by rw [e, if_neg (by decide)]; exact h1, by rw [e, if_neg (by decide)]; exact h2, by rw [e, if_pos ⟨rfl, rfl⟩]; rfl, by rw [e, if_neg (by decide)]; exact h4, by rw [e, if_neg (by decide)]; exact h5, fun j hj => by rw [e, if_neg (by omega)]; exact h6 j hj, fun j hj => by rw [e, if_neg (by omega)]; exact h7 j hj, fun j hj => by rw [e, if_neg (by omega)]; exact h8 j hj⟩
theorem MoF.wB {I I' : Nat → Nat → Int32} {σ : mm_S} {v : Nat} (h : MoF I σ) (e : ∀ b i, I' b i = if b = 71 ∧ i = 28 then nI v else I b i) : MoF I' (wB σ v) := by
  obtain ⟨h1, h2, h3, h4, h5, h6, h7, h8⟩ := h
  exact ⟨by rw [e, if_neg (by decide)]; exact h1, by rw [e, if_neg (by decide)]; exact h2, by rw [e, if_neg (by decide)]; exact h3, by rw [e, if_pos ⟨rfl, rfl⟩]; rfl, by rw [e, if_neg (by decide)]; exact h5, fun j hj => by rw [e, if_neg (by omega)]; exact h6 j hj, fun j hj => by rw [e, if_neg (by omega)]; exact h7 j hj, fun j hj => by rw [e, if_neg (by omega)]; exact h8 j hj⟩
theorem MoF.wY {I I' : Nat → Nat → Int32} {σ : mm_S} {v : Nat} (h : MoF I σ) (e : ∀ b i, I' b i = if b = 71 ∧ i = 29 then nI v else I b i) : MoF I' (wY σ v) := by
  obtain ⟨h1, h2, h3, h4, h5, h6, h7, h8⟩ := h
  exact ⟨by rw [e, if_neg (by decide)]; exact h1, by rw [e, if_neg (by decide)]; exact h2, by rw [e, if_neg (by decide)]; exact h3, by rw [e, if_neg (by decide)]; exact h4, by rw [e, if_pos ⟨rfl, rfl⟩]; rfl, fun j hj => by rw [e, if_neg (by omega)]; exact h6 j hj, fun j hj => by rw [e, if_neg (by omega)]; exact h7 j hj, fun j hj => by rw [e, if_neg (by omega)]; exact h8 j hj⟩
theorem MoF.wC {I I' : Nat → Nat → Int32} {σ : mm_S} {p v : Nat} (h : MoF I σ) (e : ∀ b i, I' b i = if b = 82 ∧ i = p then nI v else I b i) : MoF I' (wC σ p v) := by
  obtain ⟨h1, h2, h3, h4, h5, h6, h7, h8⟩ := h
  exact ⟨by rw [e, if_neg (by omega)]; exact h1, by rw [e, if_neg (by omega)]; exact h2, by rw [e, if_neg (by omega)]; exact h3, by rw [e, if_neg (by omega)]; exact h4, by rw [e, if_neg (by omega)]; exact h5, fun j hj => by rw [e]; by_cases z : j = p; rw [if_pos ⟨rfl, z⟩]; show nI v = nI (if j = p then v else _); rw [if_pos z]; rw [if_neg (fun y => z y.2), h6 j hj]; show nI _ = nI (if j = p then v else _); rw [if_neg z], fun j hj => by rw [e, if_neg (by omega)]; exact h7 j hj, fun j hj => by rw [e, if_neg (by omega)]; exact h8 j hj⟩
theorem MoF.wL {I I' : Nat → Nat → Int32} {σ : mm_S} {p v : Nat} (h : MoF I σ) (e : ∀ b i, I' b i = if b = 83 ∧ i = p then nI v else I b i) : MoF I' (wL σ p v) := by
  obtain ⟨h1, h2, h3, h4, h5, h6, h7, h8⟩ := h
  exact ⟨by rw [e, if_neg (by omega)]; exact h1, by rw [e, if_neg (by omega)]; exact h2, by rw [e, if_neg (by omega)]; exact h3, by rw [e, if_neg (by omega)]; exact h4, by rw [e, if_neg (by omega)]; exact h5, fun j hj => by rw [e, if_neg (by omega)]; exact h6 j hj, fun j hj => by rw [e]; by_cases z : j = p; rw [if_pos ⟨rfl, z⟩]; show nI v = nI (if j = p then v else _); rw [if_pos z]; rw [if_neg (fun y => z y.2), h7 j hj]; show nI _ = nI (if j = p then v else _); rw [if_neg z], fun j hj => by rw [e, if_neg (by omega)]; exact h8 j hj⟩
theorem MoF.wK {I I' : Nat → Nat → Int32} {σ : mm_S} {p v : Nat} (h : MoF I σ) (e : ∀ b i, I' b i = if b = 84 ∧ i = p then nI v else I b i) : MoF I' (wK σ p v) := by
  obtain ⟨h1, h2, h3, h4, h5, h6, h7, h8⟩ := h
  exact ⟨by rw [e, if_neg (by omega)]; exact h1, by rw [e, if_neg (by omega)]; exact h2, by rw [e, if_neg (by omega)]; exact h3, by rw [e, if_neg (by omega)]; exact h4, by rw [e, if_neg (by omega)]; exact h5, fun j hj => by rw [e, if_neg (by omega)]; exact h6 j hj, fun j hj => by rw [e, if_neg (by omega)]; exact h7 j hj, fun j hj => by rw [e]; by_cases z : j = p; rw [if_pos ⟨rfl, z⟩]; show nI v = nI (if j = p then v else _); rw [if_pos z]; rw [if_neg (fun y => z y.2), h8 j hj]; show nI _ = nI (if j = p then v else _); rw [if_neg z]⟩
theorem MoF.H {I : Nat → Nat → Int32} {σ : mm_S} (h : MoF I σ) : I 71 25 = nI (sH σ) := h.1
theorem MoF.D {I : Nat → Nat → Int32} {σ : mm_S} (h : MoF I σ) : I 71 26 = nI (sD σ) := h.2.1
theorem MoF.A {I : Nat → Nat → Int32} {σ : mm_S} (h : MoF I σ) : I 71 27 = nI (sA σ) := h.2.2.1
theorem MoF.B {I : Nat → Nat → Int32} {σ : mm_S} (h : MoF I σ) : I 71 28 = nI (sB σ) := h.2.2.2.1
theorem MoF.Y {I : Nat → Nat → Int32} {σ : mm_S} (h : MoF I σ) : I 71 29 = nI (sY σ) := h.2.2.2.2.1
theorem MoF.C {I : Nat → Nat → Int32} {σ : mm_S} (h : MoF I σ) {j : Nat} (hj : j < 6) : I 82 j = nI (sC σ j) := (h.2.2.2.2.2.1) j hj
theorem MoF.L {I : Nat → Nat → Int32} {σ : mm_S} (h : MoF I σ) {j : Nat} (hj : j < 48) : I 83 j = nI (sL σ j) := (h.2.2.2.2.2.2.1) j hj
theorem MoF.K {I : Nat → Nat → Int32} {σ : mm_S} (h : MoF I σ) {j : Nat} (hj : j < 6) : I 84 j = nI (sK σ j) := (h.2.2.2.2.2.2.2) j hj
def scD (a : Nat) : Bool := 53 ≤ a && a ≤ 56
theorem scD_C : ∀ a, scD a = true → scC a = true := fun a h => by unfold scD at h; unfold scC; simp at h ⊢; omega
def DaS (μ : mm_M) (i : Nat) (D : mm_D) (σ : mm_S) (ξ : mm_Xi) : Prop := SK μ ∧ i < 2 ∧ CoD μ (4 + 7 * i) D ∧ mm_P μ 53 8 = some (4 + 7 * i) ∧ DaF (mm_I μ) σ ξ
def MoS (μ : mm_M) (k : Nat) (D : mm_D) (σ : mm_S) : Prop := Hd μ k D ∧ MoF (mm_I μ) σ
theorem CoD.frD {μ μ' : mm_M} {i : Nat} {D : mm_D} (h : CoD μ (4 + 7 * i) D) (hf : Fr scD μ μ') (hi : i < 2) : CoD μ' (4 + 7 * i) D := h.frC (hf.sub scD_C) hi
/-- only the state changed, and nothing of the rest of the model -/
def Mk (μ ν : mm_M) : Prop := Fr scM μ ν ∧ ∀ j, 29 < j → mm_I ν 71 j = mm_I μ 71 j
theorem Mk.rf {μ : mm_M} : Mk μ μ := ⟨Fr.rf, fun _ _ => rfl⟩
theorem Mk.trans {μ ν κ : mm_M} (h : Mk μ ν) (h' : Mk ν κ) : Mk μ κ := ⟨h.1.trans h'.1, fun j hj => (h'.2 j hj).trans (h.2 j hj)⟩
theorem Mk.sI {μ ν : mm_M} {a j : Nat} {x : Int32} (h : Mk μ ν) (ha : scM a = true) (hj : a = 71 → j ≤ 29) : Mk μ (mm_sI ν a j x) := ⟨h.1.sI ha, fun p hp => by rw [mm_I_sI, if_neg (fun z => by have := hj z.1.symm; omega)]; exact h.2 p hp⟩
theorem Hd.mk' {μ ν : mm_M} {k : Nat} {D : mm_D} (h : Hd μ k D) (hm : Fr scM μ ν) (e : mm_I ν 71 22 = mm_I μ 71 22 ∧ mm_I ν 71 23 = mm_I μ 71 23 ∧ mm_I ν 71 24 = mm_I μ 71 24) : Hd ν k D := hm.hd h rfl e
theorem Hd.s71 {ν : mm_M} {k : Nat} {D : mm_D} {j : Nat} {x : Int32} (h : Hd ν k D) (hj : 24 < j) : Hd (mm_sI ν 71 j x) k D := (Fr.rf.sI (S := scM) rfl).hd h rfl ⟨by rw [mm_I_sI, if_neg (by omega)], by rw [mm_I_sI, if_neg (by omega)], by rw [mm_I_sI, if_neg (by omega)]⟩
/-- the state stays in its bounds -/
def WfS (σ : mm_S) : Prop := sH σ < 256 ∧ sD σ < 64 ∧ sA σ < 64 ∧ (∀ c, c < 6 → sC σ c < 256) ∧ ∀ j, j < 48 → sL σ j ≤ 10
/-- one deed: whether it can be, and the state behind it -/
def askC (D : mm_D) (σ : mm_S) (c w : Nat) : Prop := c < dn D ∧ bt8 (dgp D c) w ≠ 0 ∧ bt8 (sA σ) c = 0 ∧ bt8 (sC σ c) w = 0
def askS (D : mm_D) (σ : mm_S) (c w : Nat) : mm_S := (comesN D (sH σ) w, sD σ, sA σ ||| 2 ^ c, sB σ, sY σ, sC σ, upN (sL σ) (8 * c + w) 0, upN (sK σ) c (sK σ c + 1))
def thaC (D : mm_D) (c w : Nat) : Prop := c < dn D ∧ bt8 (dgp D c) w ≠ 0
def thaS (σ : mm_S) (c w : Nat) : mm_S := (sH σ, sD σ, sA σ, sB σ, sY σ, upN (sC σ) c (sC σ c &&& (2 ^ w ^^^ 4294967295)), upN (sL σ) (8 * c + w) 0, sK σ)
def comS (D : mm_D) (σ : mm_S) (w : Nat) : mm_S := (comesN D (sH σ) w, sD σ, sA σ, sB σ, sY σ, sC σ, sL σ, sK σ)
def doC (D : mm_D) (σ : mm_S) (k : Nat) : Prop := k < dw D ∧ bt8 (sD σ) k = 0 ∧ dne D k &&& (sH σ ^^^ 4294967295) = 0
def doS (σ : mm_S) (k : Nat) : mm_S := (sH σ, sD σ ||| 2 ^ k, sA σ, sB σ, sY σ, sC σ, sL σ, sK σ)
def dyS (D : mm_D) (σ : mm_S) (i : Nat) : mm_S := if bt8 (dgp D (i / 8)) (i % 8) ≠ 0 ∧ bt8 (sC σ (i / 8)) (i % 8) = 0 then (if dpa D (i % 8) < sL σ i + 1 then (sH σ, sD σ, sA σ, sB σ + 1, sY σ, upN (sC σ) (i / 8) (sC σ (i / 8) ||| 2 ^ (i % 8)), upN (sL σ) i (sL σ i + 1), sK σ) else (sH σ, sD σ, sA σ, sB σ, sY σ, sC σ, upN (sL σ) i (sL σ i + 1), sK σ)) else σ
def dyK (D : mm_D) (σ : mm_S) : Nat → mm_S
  | 0 => σ
  | i + 1 => dyS D (dyK D σ i) i
def dyE (σ : mm_S) : mm_S := (0, sD σ, 0, sB σ, sY σ + 1, sC σ, sL σ, sK σ)
theorem comesN_lt {D : mm_D} {s w : Nat} (hs : s < 256) (hw : w < 8) : comesN D s w < 256 := or_lt256 (and_lt256 hs) (Nat.pow_lt_pow_right (a := 2) (by decide) hw)
theorem two_lt256 {w : Nat} (h : w < 8) : 2 ^ w < 256 := Nat.pow_lt_pow_right (a := 2) (by decide) h
theorem upN_le {f : Nat → Nat} {p v m n : Nat} (h : ∀ j, j < m → f j ≤ n) (hv : v ≤ n) : ∀ j, j < m → upN f p v j ≤ n := fun j hj => by unfold upN; split; exact hv; exact h j hj
theorem upN_lt {f : Nat → Nat} {p v m n : Nat} (h : ∀ j, j < m → f j < n) (hv : v < n) : ∀ j, j < m → upN f p v j < n := fun j hj => by unfold upN; split; exact hv; exact h j hj
theorem WfS.ask {D : mm_D} {σ : mm_S} {c w : Nat} (h : WfS σ) (hc : c < 6) (hw : w < 8) : WfS (askS D σ c w) := ⟨comesN_lt h.1 hw, h.2.1, or64 h.2.2.1 (two_lt64 hc), h.2.2.2.1, upN_le h.2.2.2.2 (Nat.zero_le _)⟩
theorem WfS.tha {σ : mm_S} {c w : Nat} (h : WfS σ) (hc : c < 6) : WfS (thaS σ c w) := ⟨h.1, h.2.1, h.2.2.1, upN_lt h.2.2.2.1 (and_lt256 (h.2.2.2.1 c hc)), upN_le h.2.2.2.2 (Nat.zero_le _)⟩
theorem WfS.com {D : mm_D} {σ : mm_S} {w : Nat} (h : WfS σ) (hw : w < 8) : WfS (comS D σ w) := ⟨comesN_lt h.1 hw, h.2⟩
theorem WfS.do {σ : mm_S} {k : Nat} (h : WfS σ) (hk : k < 6) : WfS (doS σ k) := ⟨h.1, or64 h.2.1 (two_lt64 hk), h.2.2⟩
theorem WfS.dyE {σ : mm_S} (h : WfS σ) : WfS (dyE σ) := ⟨by show 0 < 256; decide, h.2.1, by show 0 < 64; decide, h.2.2.2⟩
/-- who is not offended has not waited too long -/
def WfL (D : mm_D) (σ : mm_S) : Prop := ∀ j, j < 48 → bt8 (sC σ (j / 8)) (j % 8) = 0 → sL σ j ≤ dpa D (j % 8)

