/-! the machine of this claim over one memory: virtual addresses 0, 1, 2 .. in the order of their making, the cell a lies at B + a -/
abbrev mm_K : Type := MethodName × ByteArray × Nat × Option FieldType
abbrev mm_M : Type := Nat × (Nat → Nat × Nat) × (Nat → Nat → Int32) × (Nat → Nat → Int64) × (Nat → Nat → Option Nat)
abbrev mm_G : Type := va_G × (Nat → ClassId) × Nat × (Nat → Nat)
abbrev mm_X : Type := Nat × (Nat → Int32)
def mm_n (μ : mm_M) : Nat := μ.1
def mm_sh (μ : mm_M) : Nat → Nat × Nat := μ.2.1
def mm_I (μ : mm_M) : Nat → Nat → Int32 := μ.2.2.1
def mm_J (μ : mm_M) : Nat → Nat → Int64 := μ.2.2.2.1
def mm_P (μ : mm_M) : Nat → Nat → Option Nat := μ.2.2.2.2
def mm_ty : Nat → FieldType
  | 0 => .int
  | 1 => .byte
  | 2 => .boolean
  | 3 => .long
  | 4 => .object "GodWeathers$Coast"
  | 5 => .object "GodWeathers$Year"
  | 6 => .object "GodWeathers$Log"
  | _ => .object "GodWeathers$Told"
def mm_tys (aC : Nat → ClassId) : List (ClassId × FieldType) := (List.range 8).map (fun t => (aC t, mm_ty t))
theorem mm_tyq (aC : Nat → ClassId) {t : Nat} (h : t < 8) : (mm_tys aC)[t]? = some (aC t, mm_ty t) := by simp [mm_tys, h]
def mm_fk : FieldType → Nat
  | .int => 0
  | .boolean => 0
  | .long => 1
  | _ => 2
def mm_v (β : Nat → Nat) : Value → Value
  | .ref a => .ref (β a)
  | v => v
theorem mm_v_cat (β : Nat → Nat) (v : Value) : (mm_v β v).category = v.category := by cases v <;> rfl
def mm_rf : Option Nat → Value
  | none => .null
  | some a => .ref a
theorem mm_v_rf (β : Nat → Nat) (r : Option Nat) : mm_v β (mm_rf r) = va_rf (r.map β) := by cases r <;> rfl
def mm_fv (β : Nat → Nat) (μ : mm_M) (ty : FieldType) (a j : Nat) : Value := match mm_fk ty with
  | 0 => .int (mm_I μ a j)
  | 1 => .long (mm_J μ a j)
  | _ => va_rf ((mm_P μ a j).map β)
def mm_ac (G : mm_G) (μ : mm_M) (a : Nat) : Nat → (Nat → Int32) ⊕ (Nat → Int64) ⊕ (Nat → UInt32) ⊕ (Nat → UInt64) ⊕ (Nat → Option Nat)
  | 0 => .inl (mm_I μ a)
  | 1 => .inl (mm_I μ a)
  | 2 => .inl (mm_I μ a)
  | 3 => .inr (.inl (mm_J μ a))
  | _ => .inr (.inr (.inr (.inr (fun i => (mm_P μ a i).map G.2.2.2))))
def mm_ce (G : mm_G) (μ : mm_M) (a : Nat) : va_E :=
  if (mm_sh μ a).1 < 20 then .inr ((mm_sh μ a).1, (List.range (mm_nf (mm_sh μ a).1)).map (fun j => mm_fv G.2.2.2 μ (mm_ft (mm_sh μ a).1 j) a j))
  else .inl (G.2.1 ((mm_sh μ a).1 - 20), (mm_sh μ a).2, mm_ac G μ a ((mm_sh μ a).1 - 20))
def mm_W (G : mm_G) (μ : mm_M) : va_W := (List.range (mm_n μ)).map (fun a => (G.2.2.1 + a, mm_ce G μ a))
/-- an object of the class c, an array of the kind t and of the length k -/
def mm_ob (μ : mm_M) (a c : Nat) : Prop := a < mm_n μ ∧ mm_sh μ a = (c, 0) ∧ c < 11
def mm_ar (μ : mm_M) (a t k : Nat) : Prop := a < mm_n μ ∧ mm_sh μ a = (20 + t, k) ∧ t < 8
theorem mm_Wq {G : mm_G} {μ : mm_M} {a : Nat} (h : a < mm_n μ) : (mm_W G μ)[a]? = some (G.2.2.1 + a, mm_ce G μ a) := by
  simp [mm_W, h]
theorem mm_Wn {G : mm_G} {μ : mm_M} : (mm_W G μ).length = mm_n μ := by simp [mm_W]
theorem mm_ce_ob {G : mm_G} {μ : mm_M} {a c : Nat} (h : mm_ob μ a c) : mm_ce G μ a = .inr (c, (List.range (mm_nf c)).map (fun j => mm_fv G.2.2.2 μ (mm_ft c j) a j)) := by
  obtain ⟨-, h2, h3⟩ := h
  unfold mm_ce
  rw [h2]
  exact if_pos (by show c < 20; omega)
theorem mm_ce_ar {G : mm_G} {μ : mm_M} {a t k : Nat} (h : mm_ar μ a t k) : mm_ce G μ a = .inl (G.2.1 t, k, mm_ac G μ a t) := by
  obtain ⟨-, h2, h3⟩ := h
  unfold mm_ce
  rw [h2, if_neg (by show ¬ 20 + t < 20; omega)]
  show Sum.inl (G.2.1 (20 + t - 20), k, mm_ac G μ a (20 + t - 20)) = _
  rw [Nat.add_sub_cancel_left]
theorem mm_Wset {G : mm_G} {μ μ' : mm_M} {a : Nat} (hn : mm_n μ' = mm_n μ) (ho : ∀ b, b ≠ a → mm_ce G μ' b = mm_ce G μ b) : mm_W G μ' = (mm_W G μ).set a (G.2.2.1 + a, mm_ce G μ' a) := by
  apply List.ext_getElem?
  intro i
  by_cases hi : i < mm_n μ
  · rw [mm_Wq (by rw [hn]; exact hi), List.getElem?_set]
    by_cases ha : a = i
    · subst ha
      rw [if_pos rfl, if_pos (by rw [mm_Wn]; exact hi)]
    · rw [if_neg ha, mm_Wq hi, ho i (fun h => ha h.symm)]
  · rw [List.getElem?_eq_none (by rw [mm_Wn, hn]; omega), List.getElem?_eq_none (by rw [List.length_set, mm_Wn]; omega)]
/-! stores -/
def mm_sI (μ : mm_M) (a j : Nat) (x : Int32) : mm_M := (μ.1, μ.2.1, fun b => if b = a then upd (μ.2.2.1 a) j x else μ.2.2.1 b, μ.2.2.2.1, μ.2.2.2.2)
def mm_sJ (μ : mm_M) (a j : Nat) (x : Int64) : mm_M := (μ.1, μ.2.1, μ.2.2.1, fun b => if b = a then vp_updL (μ.2.2.2.1 a) j x else μ.2.2.2.1 b, μ.2.2.2.2)
def mm_sP (μ : mm_M) (a j : Nat) (x : Option Nat) : mm_M := (μ.1, μ.2.1, μ.2.2.1, μ.2.2.2.1, fun b => if b = a then va_up (μ.2.2.2.2 a) j x else μ.2.2.2.2 b)
def mm_new (μ : mm_M) (q : Nat × Nat) : mm_M := (μ.1 + 1, fun b => if b = μ.1 then q else μ.2.1 b, fun b => if b = μ.1 then fun _ => 0 else μ.2.2.1 b, fun b => if b = μ.1 then fun _ => 0 else μ.2.2.2.1 b, fun b => if b = μ.1 then fun _ => none else μ.2.2.2.2 b)
theorem mm_fv_int {β : Nat → Nat} {μ : mm_M} {ty : FieldType} {a j : Nat} (h : mm_fk ty = 0) : mm_fv β μ ty a j = .int (mm_I μ a j) := by unfold mm_fv; rw [h]; rfl
theorem mm_fv_long {β : Nat → Nat} {μ : mm_M} {ty : FieldType} {a j : Nat} (h : mm_fk ty = 1) : mm_fv β μ ty a j = .long (mm_J μ a j) := by unfold mm_fv; rw [h]; rfl
theorem mm_fv_ref {β : Nat → Nat} {μ : mm_M} {ty : FieldType} {a j : Nat} (h : mm_fk ty = 2) : mm_fv β μ ty a j = va_rf ((mm_P μ a j).map β) := by unfold mm_fv; rw [h]; rfl
theorem mm_set_range {n j : Nat} {f g : Nat → Value} {v : Value} (hj : g j = v) (ho : ∀ i, i ≠ j → g i = f i) : ((List.range n).map f).set j v = (List.range n).map g := by
  apply List.ext_getElem?
  intro i
  rw [List.getElem?_set]
  by_cases hi : i < n
  · by_cases h : j = i
    · subst h
      simp [hi, hj]
    · simp [h, hi, ho i (fun e => h e.symm)]
  · by_cases h : j = i
    · subst h
      simp [hi]
    · simp [h, hi]
theorem mm_ce_off {G : mm_G} {μ μ' : mm_M} {b : Nat} (hs : mm_sh μ' b = mm_sh μ b) (hI : mm_I μ' b = mm_I μ b) (hJ : mm_J μ' b = mm_J μ b) (hP : mm_P μ' b = mm_P μ b) : mm_ce G μ' b = mm_ce G μ b := by
  unfold mm_ce
  rw [hs]
  have e1 : ∀ c, (fun j => mm_fv G.2.2.2 μ' (mm_ft c j) b j) = fun j => mm_fv G.2.2.2 μ (mm_ft c j) b j := by
    intro c
    funext j
    unfold mm_fv
    rw [hI, hJ, hP]
  have e2 : ∀ t, mm_ac G μ' b t = mm_ac G μ b t := by
    intro t
    unfold mm_ac
    rw [hI, hJ, hP]
  rw [e1, e2]
theorem mm_sI_at {μ : mm_M} {a j : Nat} {x : Int32} : mm_I (mm_sI μ a j x) a = upd (mm_I μ a) j x := by simp [mm_I, mm_sI]
theorem mm_sI_off {μ : mm_M} {a j b : Nat} {x : Int32} (h : b ≠ a) : mm_I (mm_sI μ a j x) b = mm_I μ b := by simp [mm_I, mm_sI, h]
theorem mm_sJ_at {μ : mm_M} {a j : Nat} {x : Int64} : mm_J (mm_sJ μ a j x) a = vp_updL (mm_J μ a) j x := by simp [mm_J, mm_sJ]
theorem mm_sJ_off {μ : mm_M} {a j b : Nat} {x : Int64} (h : b ≠ a) : mm_J (mm_sJ μ a j x) b = mm_J μ b := by simp [mm_J, mm_sJ, h]
theorem mm_sP_at {μ : mm_M} {a j : Nat} {x : Option Nat} : mm_P (mm_sP μ a j x) a = va_up (mm_P μ a) j x := by simp [mm_P, mm_sP]
theorem mm_sP_off {μ : mm_M} {a j b : Nat} {x : Option Nat} (h : b ≠ a) : mm_P (mm_sP μ a j x) b = mm_P μ b := by simp [mm_P, mm_sP, h]
theorem mm_ce_sI {G : mm_G} {μ : mm_M} {a j b : Nat} {x : Int32} (h : b ≠ a) : mm_ce G (mm_sI μ a j x) b = mm_ce G μ b := mm_ce_off rfl (mm_sI_off h) rfl rfl
theorem mm_ce_sJ {G : mm_G} {μ : mm_M} {a j b : Nat} {x : Int64} (h : b ≠ a) : mm_ce G (mm_sJ μ a j x) b = mm_ce G μ b := mm_ce_off rfl rfl (mm_sJ_off h) rfl
theorem mm_ce_sP {G : mm_G} {μ : mm_M} {a j b : Nat} {x : Option Nat} (h : b ≠ a) : mm_ce G (mm_sP μ a j x) b = mm_ce G μ b := mm_ce_off rfl rfl rfl (mm_sP_off h)
theorem mm_ce_new {G : mm_G} {μ : mm_M} {q : Nat × Nat} {b : Nat} (h : b ≠ mm_n μ) : mm_ce G (mm_new μ q) b = mm_ce G μ b :=
  mm_ce_off (by simp [mm_sh, mm_new]; exact fun e => absurd e h) (by simp [mm_I, mm_new]; exact fun e => absurd e h) (by simp [mm_J, mm_new]; exact fun e => absurd e h) (by simp [mm_P, mm_new]; exact fun e => absurd e h)
theorem mm_Wnew {G : mm_G} {μ : mm_M} {q : Nat × Nat} : mm_W G (mm_new μ q) = mm_W G μ ++ [(G.2.2.1 + mm_n μ, mm_ce G (mm_new μ q) (mm_n μ))] := by
  show (List.range (mm_n μ + 1)).map _ = _
  rw [List.range_succ, List.map_append]
  congr 1
  refine List.map_congr_left fun b hb => ?_
  rw [mm_ce_new (Nat.ne_of_lt (List.mem_range.mp hb))]
/-! constants: strings at 1000000 + k, their bytes at 1000100 + k, the script at 2000000, static rows at 2000001, 2000002 -/
def mm_num : List Int32 := [3, 2, 2, 2, 2, 1, 2, 2, 1, 1, 0, 1, 1]
def mm_hig : List Int32 := [7, 7, 7, 7, 10, 0, 7, 7, 0, 5, 7, 0, 7, 9, 0, 20, 0, 0, 5, 7, 0, 5, 7, 0, 7, 0, 0, 5, 0, 0, 0, 0, 0, 7, 0, 0, 7, 0, 0]
def mm_sl : List Nat := [5, 7, 6, 5, 8, 4, 3, 5, 4, 2, 3, 5, 4]
def mm_sb : List (List Int32) := [[99, 104, 105, 108, 100], [119, 101, 97, 116, 104, 101, 114], [111, 112, 112, 111, 115, 101], [110, 101, 101, 100, 115], [112, 97, 116, 105, 101, 110, 99, 101], [119, 111, 114, 107], [97, 115, 107], [116, 104, 97, 110, 107], [99, 111, 109, 101], [100, 111], [100, 97, 121], [104, 101, 97, 114, 100], [100, 101, 97, 102]]
def mm_sx : Nat → Nat
  | 0 => 164
  | 1 => 170
  | 2 => 172
  | 3 => 174
  | 4 => 176
  | 5 => 177
  | 6 => 179
  | 7 => 181
  | 8 => 183
  | 9 => 185
  | 10 => 187
  | 11 => 189
  | _ => 191
def mm_tx : Nat → String
  | 0 => "child"
  | 1 => "weather"
  | 2 => "oppose"
  | 3 => "needs"
  | 4 => "patience"
  | 5 => "work"
  | 6 => "ask"
  | 7 => "thank"
  | 8 => "come"
  | 9 => "do"
  | 10 => "day"
  | 11 => "heard"
  | _ => "deaf"
def mm_Z (X : mm_X) (G : mm_G) (A : Nat → Prop) (s : State) : Prop :=
  va_T .int (G.2.2.2 2000000) X.1 (fun j => .int (X.2 j)) A s s.heap ∧ va_T .int (G.2.2.2 2000001) 13 (fun j => .int (mm_num.getD j 0)) A s s.heap ∧ va_T .int (G.2.2.2 2000002) 39 (fun j => .int (mm_hig.getD j 0)) A s s.heap ∧
  va_Z "GodWeathers$Reader" "NUMBERS_OF" "[I" (.ref (G.2.2.2 2000001)) A s s.heap ∧ va_Z "GodWeathers$Reader" "HIGHEST" "[I" (.ref (G.2.2.2 2000002)) A s s.heap ∧
  va_Z "java/lang/String" "COMPACT_STRINGS" "Z" (.int 1) A s s.heap ∧ va_Zq "jdk/internal/util/Preconditions" "SIOOBE_FORMATTER" "Ljava/util/function/BiFunction;" A s s.heap ∧
  vk_S 13 mm_sl mm_sb (fun k => G.2.2.2 (1000000 + k)) (fun k => G.2.2.2 (1000100 + k)) A s s.heap ∧ ∀ k, k < 13 → vk_R "GodWeathers$Reader" (mm_sx k) (mm_tx k) (G.2.2.2 (1000000 + k)) s
theorem mm_Z.to {X : mm_X} {G : mm_G} {A B : Nat → Prop} {s U : State} (h : mm_Z X G A s) (hW : s.WarmedH U.vm) (hq : ∀ a : Nat, a < s.heap.size → ¬ A a → U.heap[a]? = s.heap[a]?) (hAB : ∀ q, B q → A q) : mm_Z X G B U := by
  obtain ⟨h1, h2, h3, h4, h5, h6, h7, h8, h9⟩ := h
  have hv := hW.alike
  exact ⟨((h1.kept hq).narrow hAB).moved hv, ((h2.kept hq).narrow hAB).moved hv, ((h3.kept hq).narrow hAB).moved hv, ((h4.kept hq).narrow hAB).moved hv, ((h5.kept hq).narrow hAB).moved hv, ((h6.kept hq).narrow hAB).moved hv, ((h7.kept hq).narrow hAB).moved hv, ((h8.kept hq).narrow hAB).moved hv, fun k hk => (h9 k hk).warm hW⟩
theorem mm_Z.same {X : mm_X} {G : mm_G} {A : Nat → Prop} {s U : State} (h : mm_Z X G A s) (hv : U.vm = s.vm) (hh : U.heap = s.heap) : mm_Z X G A U := by
  obtain ⟨h1, h2, h3, h4, h5, h6, h7, h8, h9⟩ := h
  have ha : s.vm.Alike U.vm := by rw [hv]; exact Vm.Alike.refl s.vm
  unfold mm_Z
  rw [hh]
  exact ⟨h1.moved ha, h2.moved ha, h3.moved ha, h4.moved ha, h5.moved ha, h6.moved ha, h7.moved ha, h8.moved ha, fun k hk => (h9 k hk).same hv⟩
def mm_rc : List String := ["GodWeathers$Coast", "GodWeathers$Year", "GodWeathers$Log", "GodWeathers$Told"]
def mm_N (s : State) : Prop := (∀ w ∈ mm_nest, va_Nw w s) ∧ ∀ C ∈ mm_rc, va_AO C s
theorem mm_N.to {s U : State} (h : mm_N s) (hW : s.WarmedH U.vm) : mm_N U := by
  refine ⟨fun w hw => ?_, fun C hC => (h.2 C hC).moved hW.alike⟩
  have h1 := h.1 w hw
  have h2 := (List.mem_filter.mp hw).2
  cases w <;> first | (simp [mm_isN] at h2; done) | exact va_Nw.warmM hW h1
theorem mm_N.same {s U : State} (h : mm_N s) (hv : U.vm = s.vm) : mm_N U := by
  refine ⟨fun w hw => ?_, fun C hC => (h.2 C hC).moved (by rw [hv]; exact Vm.Alike.refl s.vm)⟩
  have h2 := (List.mem_filter.mp hw).2
  exact va_Nw.same (by cases w <;> first | (simp [mm_isN] at h2; done) | rfl) hv.symm (h.1 w hw)
/-! locals -/
def mm_Lo (β : Nat → Nat) (lsA : Array Slot) (nL : Nat) (ls : List (Option Value)) : Prop := lsA.size = nL ∧ lv_wf lsA ∧ ∀ (i : Nat) (v : Value), ls[i]? = some (some v) → lsA[i]? = some (.val (mm_v β v))
def mm_al (β : Nat → Nat) : Nat → List (Option Value) → List (Nat × Value)
  | _, [] => []
  | k, none :: t => mm_al β (k + 1) t
  | k, some v :: t => (k, mm_v β v) :: mm_al β (k + 1) t
theorem mm_al_mem {β : Nat → Nat} : ∀ (ls : List (Option Value)) (k i : Nat) (v : Value), ls[i]? = some (some v) → (k + i, mm_v β v) ∈ mm_al β k ls
  | [], _, _, _, h => by simp at h
  | none :: t, k, i, v, h => by
    cases i with
    | zero => simp at h
    | succ i =>
      have := mm_al_mem (β := β) t (k + 1) i v (by simpa using h)
      rw [show k + 1 + i = k + (i + 1) by omega] at this
      exact this
  | some w :: t, k, i, v, h => by
    cases i with
    | zero =>
      simp at h
      subst h
      exact List.mem_cons_self
    | succ i =>
      have := mm_al_mem (β := β) t (k + 1) i v (by simpa using h)
      rw [show k + 1 + i = k + (i + 1) by omega] at this
      exact List.mem_cons_of_mem _ this
theorem mm_al_of {β : Nat → Nat} : ∀ (ls : List (Option Value)) (k : Nat) (q : Nat × Value), q ∈ mm_al β k ls → ∃ (i : Nat) (v : Value), ls[i]? = some (some v) ∧ q = (k + i, mm_v β v)
  | [], _, _, h => by simp [mm_al] at h
  | none :: t, k, q, h => by
    obtain ⟨i, v, h1, h2⟩ := mm_al_of t (k + 1) q h
    exact ⟨i + 1, v, by simpa using h1, by rw [h2]; congr 1; omega⟩
  | some w :: t, k, q, h => by
    rcases List.mem_cons.mp h with rfl | h
    · exact ⟨0, w, rfl, rfl⟩
    · obtain ⟨i, v, h1, h2⟩ := mm_al_of t (k + 1) q h
      exact ⟨i + 1, v, by simpa using h1, by rw [h2]; congr 1; omega⟩
theorem mm_Lo.has {β : Nat → Nat} {lsA : Array Slot} {nL : Nat} {ls : List (Option Value)} (h : mm_Lo β lsA nL ls) : lv_has lsA nL (mm_al β 0 ls) := by
  refine ⟨h.1, h.2.1, fun q hq => ?_⟩
  obtain ⟨i, v, h1, rfl⟩ := mm_al_of ls 0 q hq
  show lsA[0 + i]? = _
  rw [Nat.zero_add]
  exact h.2.2 i v h1
/-- no long ends at i -/
def mm_nl (ls : List (Option Value)) : Nat → Bool
  | 0 => true
  | j + 1 => match ls[j]? with
    | some (some v) => v.category == 1
    | _ => true
theorem mm_Lo.st1 {β : Nat → Nat} {lsA : Array Slot} {nL i : Nat} {ls : List (Option Value)} {v : Value} (hn : mm_nl ls i = true) (h : lv_has lsA nL ((i, mm_v β v) :: (mm_al β 0 ls).filter (fun q => !(q.1 == i) && !(q.1 + 1 == i && q.2.category == 2)))) : mm_Lo β lsA nL (ls.set i (some v)) := by
  refine ⟨h.1, h.2.1, fun j w hj => ?_⟩
  rw [List.getElem?_set] at hj
  by_cases hji : i = j
  · subst hji
    rw [if_pos rfl] at hj
    split at hj
    · have := Option.some.inj (Option.some.inj hj)
      subst this
      exact h.2.2 _ List.mem_cons_self
    · cases hj
  · rw [if_neg hji] at hj
    have hm := mm_al_mem (β := β) ls 0 j w hj
    rw [Nat.zero_add] at hm
    refine h.2.2 (j, mm_v β w) (List.mem_cons_of_mem _ (List.mem_filter.mpr ⟨hm, ?_⟩))
    have h1 : ¬ j = i := fun e => hji e.symm
    simp only [mm_v_cat, Bool.and_eq_true, Bool.not_eq_true', beq_eq_false_iff_ne, ne_eq, h1, not_false_eq_true, true_and, Bool.and_eq_false_iff]
    by_cases h2 : j + 1 = i
    · subst h2
      right
      have : (w.category == 1) = true := by
        have := hn
        simp only [mm_nl, hj] at this
        exact this
      have := beq_iff_eq.mp this
      omega
    · exact Or.inl h2
theorem mm_Lo.st2 {β : Nat → Nat} {lsA : Array Slot} {nL i : Nat} {ls : List (Option Value)} {v : Value} (hn : mm_nl ls i = true) (h : lv_has lsA nL ((i, mm_v β v) :: (mm_al β 0 ls).filter (fun q => !(q.1 == i) && (!(q.1 == i + 1) && !(q.1 + 1 == i && q.2.category == 2))))) : mm_Lo β lsA nL ((ls.set i (some v)).set (i + 1) none) := by
  refine ⟨h.1, h.2.1, fun j w hj => ?_⟩
  rw [List.getElem?_set] at hj
  by_cases hj2 : i + 1 = j
  · rw [if_pos hj2] at hj
    split at hj
    · cases Option.some.inj hj
    · cases hj
  rw [if_neg hj2, List.getElem?_set] at hj
  by_cases hji : i = j
  · subst hji
    rw [if_pos rfl] at hj
    split at hj
    · have := Option.some.inj (Option.some.inj hj)
      subst this
      exact h.2.2 _ List.mem_cons_self
    · cases hj
  · rw [if_neg hji] at hj
    have hm := mm_al_mem (β := β) ls 0 j w hj
    rw [Nat.zero_add] at hm
    refine h.2.2 (j, mm_v β w) (List.mem_cons_of_mem _ (List.mem_filter.mpr ⟨hm, ?_⟩))
    have h1 : ¬ j = i := fun e => hji e.symm
    have h3 : ¬ j = i + 1 := fun e => hj2 e.symm
    simp only [mm_v_cat, Bool.and_eq_true, Bool.not_eq_true', beq_eq_false_iff_ne, ne_eq, h1, h3, not_false_eq_true, true_and, Bool.and_eq_false_iff]
    by_cases h2 : j + 1 = i
    · subst h2
      right
      have : (w.category == 1) = true := by
        have := hn
        simp only [mm_nl, hj] at this
        exact this
      have := beq_iff_eq.mp this
      omega
    · exact Or.inl h2
/-- the locals with which a method begins -/
def mm_as : List Value → List (Option Value)
  | [] => []
  | v :: t => some v :: (match v.category with
    | 2 => none :: mm_as t
    | _ => mm_as t)
def mm_en (n : Nat) (av : List Value) : List (Option Value) := mm_as av ++ List.replicate (n - (mm_as av).length) none
theorem mm_as_in {β : Nat → Nat} : ∀ (av : List Value) (k i : Nat) (v : Value), (mm_as av)[i]? = some (some v) → (k + i, mm_v β v) ∈ lv_args k (av.map (mm_v β))
  | [], _, _, _, h => by simp [mm_as] at h
  | w :: t, k, 0, v, h => by
    simp [mm_as] at h
    subst h
    exact List.mem_cons_self
  | w :: t, k, i + 1, v, h => by
    show (k + (i + 1), mm_v β v) ∈ (k, mm_v β w) :: lv_args (if (mm_v β w).category = 2 then k + 2 else k + 1) (t.map (mm_v β))
    refine List.mem_cons_of_mem _ ?_
    rw [mm_v_cat]
    rcases lv_cat w with hc | hc
    · rw [if_neg (by omega)]
      have h' : (mm_as t)[i]? = some (some v) := by
        have := h
        simp only [mm_as, hc, List.getElem?_cons_succ] at this
        exact this
      have := mm_as_in (β := β) t (k + 1) i v h'
      rw [show k + 1 + i = k + (i + 1) by omega] at this
      exact this
    · rw [if_pos hc]
      have h' : (none :: mm_as t)[i]? = some (some v) := by
        have := h
        simp only [mm_as, hc, List.getElem?_cons_succ] at this
        exact this
      cases i with
      | zero => simp at h'
      | succ i =>
        have := mm_as_in (β := β) t (k + 2) i v (by simpa using h')
        rw [show k + 2 + i = k + (i + 1 + 1) by omega] at this
        exact this
theorem mm_as_len {β : Nat → Nat} : ∀ (av : List Value), (lg_sl (av.map (mm_v β))).length = (mm_as av).length
  | [] => rfl
  | w :: t => by
    have ih := mm_as_len (β := β) t
    rcases lv_cat w with hc | hc
    · have hc' : (mm_v β w).category = 1 := by rw [mm_v_cat]; exact hc
      simp [lg_sl, mm_as, hc, hc'] at ih ⊢
      exact ih
    · have hc' : (mm_v β w).category = 2 := by rw [mm_v_cat]; exact hc
      simp [lg_sl, mm_as, hc, hc'] at ih ⊢
      omega
theorem mm_Lo.entry {β : Nat → Nat} (av : List Value) {n : Nat} (h : (mm_as av).length ≤ n) : mm_Lo β ((lg_sl (av.map (mm_v β)) ++ List.replicate (n - (lg_sl (av.map (mm_v β))).length) Slot.unset).toArray) n (mm_en n av) := by
  have hh := lv_entry (av.map (mm_v β)) (n := n) (by rw [mm_as_len]; exact h)
  refine ⟨hh.1, hh.2.1, fun i v hi => ?_⟩
  have hlt : i < (mm_as av).length := by
    rcases Nat.lt_or_ge i (mm_as av).length with h1 | h1
    · exact h1
    · unfold mm_en at hi
      rw [List.getElem?_append_right h1, List.getElem?_replicate] at hi
      split at hi <;> simp at hi
  unfold mm_en at hi
  rw [List.getElem?_append_left hlt] at hi
  have := hh.2.2 _ (mm_as_in (β := β) av 0 i v hi)
  simp only [Nat.zero_add] at this
  exact this
