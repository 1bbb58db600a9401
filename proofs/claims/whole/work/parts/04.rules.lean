/-! the judgement: from here the method comes to its end, with Q of its answer and of the memory -/
def mm_Cx (p : Program) (s : State) (m : MethodId) (args : Array Value) (meth : Method) (c : Code) (K : mm_K) : Prop :=
  p.tables.exec = Jvm.exec ∧ c.code = K.2.1 ∧ c.maxLocals = K.2.2.1 ∧ meth.sig.returnType = K.2.2.2 ∧ meth.locks = false ∧ (K.1.name = "<init>" → meth.name = "<init>") ∧ s.vm.findClass K.1.cls = some m.cls ∧ ∀ w ∈ mm_ws, w.before args s = true
def mm_Wo (X : mm_X) (G : mm_G) (A : Nat → Prop) (s : State) : Prop := va_K G.1 mm_cl (mm_tys G.2.1) s ∧ mm_N s ∧ mm_Z X G A s ∧ (∀ q, s.heap.size ≤ q → A q) ∧ (∀ a, a < 1000000 → G.2.2.2 a = G.2.2.1 + a)
def mm_Rm (R : Room) (d mc ms : Nat) : Prop := d ≤ R.frames ∧ 60 * d ≤ R.locals ∧ mc ≤ R.cells ∧ ms ≤ R.slots
def mm_Re (G : mm_G) (A : Nat → Prop) (μ : mm_M) (H : Heap) : Prop := H.size = G.2.2.1 + mm_n μ ∧ mm_n μ ≤ 1000000 ∧ va_P G.1 mm_cl (mm_W G μ) H ∧ va_D A (mm_W G μ)
def mm_Q (G : mm_G) (Q : Option Value → mm_M → Prop) (A : Nat → Prop) : Array Value → State → Outcome → State → Prop := fun _ st o t =>
  (∃ (v : Option Value) (μ' : mm_M), o = .returned (v.map (mm_v G.2.2.2)) ∧ Q v μ' ∧ mm_Re G A μ' t.heap) ∧ va_F A st t
def mm_T (X : mm_X) (d nc ns : Nat) (K : mm_K) (pc : Nat) (ls : List (Option Value)) (st : List Value) (μ : mm_M) (Q : Option Value → mm_M → Prop) : Prop :=
  ∀ (p : Program) (l : Launch) (e : Env) (R : Room) (s : State) (m : MethodId) (args : Array Value) (below : List Frame) (meth : Method) (c : Code) (G : mm_G) (A : Nat → Prop) (H : Heap) (locs : List Loc) (cells slots mc ms : Nat) (lsA : Array Slot),
    mm_Cx p s m args meth c K → mm_Wo X G A s → mm_Rm R d mc ms → cells + nc ≤ mc → slots + ns ≤ ms → va_S A s.heap H locs → mm_Re G A μ H → mm_Lo G.2.2.2 lsA K.2.2.1 ls →
    W p l e R s m args below meth c H locs cells slots (MQ below (mm_Q G Q A) args s mc ms A) (F0 m pc lsA (st.map (mm_v G.2.2.2)))
/-- a method by its arguments -/
def mm_C (X : mm_X) (d nc ns : Nat) (K : mm_K) (av : List Value) (μ : mm_M) (Q : Option Value → mm_M → Prop) : Prop := mm_T X d nc ns K 0 (mm_en K.2.2.1 av) [] μ Q
theorem mm_T.deeper {X : mm_X} {d nc ns : Nat} {K : mm_K} {pc : Nat} {ls : List (Option Value)} {st : List Value} {μ : mm_M} {Q : Option Value → mm_M → Prop} {d' : Nat} (hd : d ≤ d') (h : mm_T X d nc ns K pc ls st μ Q) : mm_T X d' nc ns K pc ls st μ Q := by
  intro p l e R s m args below meth c G A H locs cells slots mc ms lsA hC hW hR h1 h2 hS hH hL
  exact h p l e R s m args below meth c G A H locs cells slots mc ms lsA hC hW ⟨Nat.le_trans hd hR.1, Nat.le_trans (Nat.mul_le_mul_left 60 hd) hR.2.1, hR.2.2⟩ h1 h2 hS hH hL
theorem mm_T.more {X : mm_X} {d nc ns : Nat} {K : mm_K} {pc : Nat} {ls : List (Option Value)} {st : List Value} {μ : mm_M} {Q : Option Value → mm_M → Prop} {nc' ns' : Nat} (hc : nc ≤ nc') (hs : ns ≤ ns') (h : mm_T X d nc ns K pc ls st μ Q) : mm_T X d nc' ns' K pc ls st μ Q := by
  intro p l e R s m args below meth c G A H locs cells slots mc ms lsA hC hW hR h1 h2 hS hH hL
  exact h p l e R s m args below meth c G A H locs cells slots mc ms lsA hC hW hR (Nat.le_trans (Nat.add_le_add_left hc _) h1) (Nat.le_trans (Nat.add_le_add_left hs _) h2) hS hH hL
theorem mm_T.post {X : mm_X} {d nc ns : Nat} {K : mm_K} {pc : Nat} {ls : List (Option Value)} {st : List Value} {μ : mm_M} {Q : Option Value → mm_M → Prop} {Q' : Option Value → mm_M → Prop} (hq : ∀ v μ', Q v μ' → Q' v μ') (h : mm_T X d nc ns K pc ls st μ Q) : mm_T X d nc ns K pc ls st μ Q' := by
  intro p l e R s m args below meth c G A H locs cells slots mc ms lsA hC hW hR h1 h2 hS hH hL
  intro T hT Y
  obtain ⟨t, a1, o, b1, b2, ⟨⟨v, μ', c1, c2, c3⟩, c4⟩, b4⟩ := h p l e R s m args below meth c G A H locs cells slots mc ms lsA hC hW hR h1 h2 hS hH hL T hT Y
  exact ⟨t, a1, o, b1, b2, ⟨⟨v, μ', c1, hq _ _ c2, c3⟩, c4⟩, b4⟩
/-! rows of the code -/
def mm_d (K : mm_K) (pc : Nat) (i : Instr) (len n : Nat) : Prop := decode K.2.1 pc = .ok (i, len) ∧ pc + len = n
def mm_b (K : mm_K) (pc : Nat) (i : Instr) (off : Int) (n t : Nat) : Prop := decode K.2.1 pc = .ok (i, 3) ∧ pc + 3 = n ∧ (pc : Int) + off = (t : Int)
def mm_ic (K : mm_K) (pc : Nat) (v : Int32) (n : Nat) : Prop :=
  (∃ k : Int, decode K.2.1 pc = .ok (.iconst k, 1) ∧ Int32.ofInt k = v ∧ pc + 1 = n) ∨ (∃ k : Int, decode K.2.1 pc = .ok (.bipush k, 2) ∧ (Int8.ofInt k).toInt32 = v ∧ pc + 2 = n) ∨ (∃ k : Int, decode K.2.1 pc = .ok (.sipush k, 3) ∧ (Int16.ofInt k).toInt32 = v ∧ pc + 3 = n) ∨
  (∃ k : Nat, decode K.2.1 pc = .ok (.ldc k, 2) ∧ Cond.constant K.1.cls k v ∈ mm_ws ∧ pc + 2 = n) ∨ (∃ k : Nat, decode K.2.1 pc = .ok (.ldc_w k, 3) ∧ Cond.constant K.1.cls k v ∈ mm_ws ∧ pc + 3 = n)
def mm_lc (K : mm_K) (pc : Nat) (v : Int64) (n : Nat) : Prop :=
  (∃ k : Fin 2, decode K.2.1 pc = .ok (.lconst k, 1) ∧ Int64.ofNat (k : Nat) = v ∧ pc + 1 = n) ∨ (∃ k : Nat, decode K.2.1 pc = .ok (.ldc2_w k, 3) ∧ Cond.constantLong K.1.cls k v ∈ mm_ws ∧ pc + 3 = n)
def mm_il (K : mm_K) (pc i n : Nat) : Prop := (∃ k : Fin 4, decode K.2.1 pc = .ok (.iload_n k, 1) ∧ (k : Nat) = i ∧ pc + 1 = n) ∨ (decode K.2.1 pc = .ok (.iload i, 2) ∧ pc + 2 = n)
def mm_ll (K : mm_K) (pc i n : Nat) : Prop := (∃ k : Fin 4, decode K.2.1 pc = .ok (.lload_n k, 1) ∧ (k : Nat) = i ∧ pc + 1 = n) ∨ (decode K.2.1 pc = .ok (.lload i, 2) ∧ pc + 2 = n)
def mm_al' (K : mm_K) (pc i n : Nat) : Prop := (∃ k : Fin 4, decode K.2.1 pc = .ok (.aload_n k, 1) ∧ (k : Nat) = i ∧ pc + 1 = n) ∨ (decode K.2.1 pc = .ok (.aload i, 2) ∧ pc + 2 = n)
def mm_is (K : mm_K) (pc i n : Nat) : Prop := ((∃ k : Fin 4, decode K.2.1 pc = .ok (.istore_n k, 1) ∧ (k : Nat) = i ∧ pc + 1 = n) ∨ (decode K.2.1 pc = .ok (.istore i, 2) ∧ pc + 2 = n)) ∧ i < K.2.2.1
def mm_ls (K : mm_K) (pc i n : Nat) : Prop := ((∃ k : Fin 4, decode K.2.1 pc = .ok (.lstore_n k, 1) ∧ (k : Nat) = i ∧ pc + 1 = n) ∨ (decode K.2.1 pc = .ok (.lstore i, 2) ∧ pc + 2 = n)) ∧ i + 1 < K.2.2.1
def mm_at' (K : mm_K) (pc i n : Nat) : Prop := ((∃ k : Fin 4, decode K.2.1 pc = .ok (.astore_n k, 1) ∧ (k : Nat) = i ∧ pc + 1 = n) ∨ (decode K.2.1 pc = .ok (.astore i, 2) ∧ pc + 2 = n)) ∧ i < K.2.2.1
def mm_ii (K : mm_K) (pc i : Nat) (v : Int32) (n : Nat) : Prop := (∃ k : Int, decode K.2.1 pc = .ok (.iinc i k, 3) ∧ Int32.ofInt k = v) ∧ pc + 3 = n ∧ i < K.2.2.1
/-! rules: constants and locals -/
theorem mm_ci {X : mm_X} {d nc ns : Nat} {K : mm_K} {pc n : Nat} {ls : List (Option Value)} {st : List Value} {μ : mm_M} {Q : Option Value → mm_M → Prop} {v : Int32} (hd : mm_ic K pc v n) (h : mm_T X d nc ns K n ls (.int v :: st) μ Q) : mm_T X d nc ns K pc ls st μ Q := by
  intro p l e R s m args below meth c G A H locs cells slots mc ms lsA hC hW hR h1 h2 hS hH hL
  have k := h p l e R s m args below meth c G A H locs cells slots mc ms lsA hC hW hR h1 h2 hS hH hL
  obtain ⟨hx, hb, -, -, -, -, ho, ht⟩ := hC
  rcases hd with ⟨k, h3, h4, rfl⟩ | ⟨k, h3, h4, rfl⟩ | ⟨k, h3, h4, rfl⟩ | ⟨k, h3, h4, rfl⟩ | ⟨k, h3, h4, rfl⟩
  · exact lv_iconst hx hb h3 h4 k
  · exact lv_bipush hx hb h3 h4 k
  · exact lv_sipush hx hb h3 h4 k
  · exact lv_ldc hx hb ho (ht _ h4) h3 k
  · exact lv_ldcw hx hb ho (ht _ h4) h3 k
theorem mm_lci {X : mm_X} {d nc ns : Nat} {K : mm_K} {pc n : Nat} {ls : List (Option Value)} {st : List Value} {μ : mm_M} {Q : Option Value → mm_M → Prop} {v : Int64} (hd : mm_lc K pc v n) (h : mm_T X d nc ns K n ls (.long v :: st) μ Q) : mm_T X d nc ns K pc ls st μ Q := by
  intro p l e R s m args below meth c G A H locs cells slots mc ms lsA hC hW hR h1 h2 hS hH hL
  have k := h p l e R s m args below meth c G A H locs cells slots mc ms lsA hC hW hR h1 h2 hS hH hL
  obtain ⟨hx, hb, -, -, -, -, ho, ht⟩ := hC
  rcases hd with ⟨k, h3, h4, rfl⟩ | ⟨k, h3, h4, rfl⟩
  · exact lv_lconst hx hb h3 h4 k
  · exact lv_ldc2 hx hb ho (ht _ h4) h3 k
theorem mm_iload {X : mm_X} {d nc ns : Nat} {K : mm_K} {pc n : Nat} {ls : List (Option Value)} {st : List Value} {μ : mm_M} {Q : Option Value → mm_M → Prop} {i : Nat} {x : Int32} (hd : mm_il K pc i n) (hl : ls[i]? = some (some (.int x))) (h : mm_T X d nc ns K n ls (.int x :: st) μ Q) : mm_T X d nc ns K pc ls st μ Q := by
  intro p l e R s m args below meth c G A H locs cells slots mc ms lsA hC hW hR h1 h2 hS hH hL
  have k := h p l e R s m args below meth c G A H locs cells slots mc ms lsA hC hW hR h1 h2 hS hH hL
  obtain ⟨hx, hb, -⟩ := hC
  rcases hd with ⟨k, h3, h4, rfl⟩ | ⟨h3, rfl⟩
  · exact lv_iload_n hx hb h3 h4 (hL.2.2 i _ hl) k
  · exact lv_iload hx hb h3 (hL.2.2 i _ hl) k
theorem mm_lload {X : mm_X} {d nc ns : Nat} {K : mm_K} {pc n : Nat} {ls : List (Option Value)} {st : List Value} {μ : mm_M} {Q : Option Value → mm_M → Prop} {i : Nat} {x : Int64} (hd : mm_ll K pc i n) (hl : ls[i]? = some (some (.long x))) (h : mm_T X d nc ns K n ls (.long x :: st) μ Q) : mm_T X d nc ns K pc ls st μ Q := by
  intro p l e R s m args below meth c G A H locs cells slots mc ms lsA hC hW hR h1 h2 hS hH hL
  have k := h p l e R s m args below meth c G A H locs cells slots mc ms lsA hC hW hR h1 h2 hS hH hL
  obtain ⟨hx, hb, -⟩ := hC
  rcases hd with ⟨k, h3, h4, rfl⟩ | ⟨h3, rfl⟩
  · exact lv_lload_n hx hb h3 h4 (hL.2.2 i _ hl) k
  · exact lv_lload hx hb h3 (hL.2.2 i _ hl) k
theorem mm_aload {X : mm_X} {d nc ns : Nat} {K : mm_K} {pc n : Nat} {ls : List (Option Value)} {st : List Value} {μ : mm_M} {Q : Option Value → mm_M → Prop} {i : Nat} {x : Nat} (hd : mm_al' K pc i n) (hl : ls[i]? = some (some (.ref x))) (h : mm_T X d nc ns K n ls (.ref x :: st) μ Q) : mm_T X d nc ns K pc ls st μ Q := by
  intro p l e R s m args below meth c G A H locs cells slots mc ms lsA hC hW hR h1 h2 hS hH hL
  have k := h p l e R s m args below meth c G A H locs cells slots mc ms lsA hC hW hR h1 h2 hS hH hL
  obtain ⟨hx, hb, -⟩ := hC
  rcases hd with ⟨k, h3, h4, rfl⟩ | ⟨h3, rfl⟩
  · exact lv_aload_n hx hb h3 h4 (hL.2.2 i _ hl) k
  · exact lv_aload hx hb h3 (hL.2.2 i _ hl) k
theorem mm_aloadN {X : mm_X} {d nc ns : Nat} {K : mm_K} {pc n : Nat} {ls : List (Option Value)} {st : List Value} {μ : mm_M} {Q : Option Value → mm_M → Prop} {i : Nat} (hd : mm_al' K pc i n) (hl : ls[i]? = some (some .null)) (h : mm_T X d nc ns K n ls (.null :: st) μ Q) : mm_T X d nc ns K pc ls st μ Q := by
  intro p l e R s m args below meth c G A H locs cells slots mc ms lsA hC hW hR h1 h2 hS hH hL
  have k := h p l e R s m args below meth c G A H locs cells slots mc ms lsA hC hW hR h1 h2 hS hH hL
  obtain ⟨hx, hb, -⟩ := hC
  rcases hd with ⟨k, h3, h4, rfl⟩ | ⟨h3, rfl⟩
  · exact lv_aload_nN hx hb h3 h4 (hL.2.2 i _ hl) k
  · exact lv_aloadN hx hb h3 (hL.2.2 i _ hl) k
theorem mm_istore {X : mm_X} {d nc ns : Nat} {K : mm_K} {pc n : Nat} {ls : List (Option Value)} {st : List Value} {μ : mm_M} {Q : Option Value → mm_M → Prop} {i : Nat} {x : Int32} (hd : mm_is K pc i n) (hn : mm_nl ls i = true) (h : mm_T X d nc ns K n (ls.set i (some (.int x))) st μ Q) : mm_T X d nc ns K pc ls (.int x :: st) μ Q := by
  intro p l e R s m args below meth c G A H locs cells slots mc ms lsA hC hW hR h1 h2 hS hH hL
  have k := fun lsB hl => h p l e R s m args below meth c G A H locs cells slots mc ms lsB hC hW hR h1 h2 hS hH hl
  obtain ⟨hx, hb, -⟩ := hC
  rcases hd with ⟨⟨k, h3, h4, rfl⟩ | ⟨h3, rfl⟩, hi⟩
  · exact lv_istore_n hx hb h3 h4 hL.has hi rfl (fun lsB hl => k lsB (mm_Lo.st1 (v := .int x) hn hl))
  · exact lv_istore hx hb h3 hL.has hi rfl (fun lsB hl => k lsB (mm_Lo.st1 (v := .int x) hn hl))
theorem mm_astore {X : mm_X} {d nc ns : Nat} {K : mm_K} {pc n : Nat} {ls : List (Option Value)} {st : List Value} {μ : mm_M} {Q : Option Value → mm_M → Prop} {i : Nat} {x : Nat} (hd : mm_at' K pc i n) (hn : mm_nl ls i = true) (h : mm_T X d nc ns K n (ls.set i (some (.ref x))) st μ Q) : mm_T X d nc ns K pc ls (.ref x :: st) μ Q := by
  intro p l e R s m args below meth c G A H locs cells slots mc ms lsA hC hW hR h1 h2 hS hH hL
  have k := fun lsB hl => h p l e R s m args below meth c G A H locs cells slots mc ms lsB hC hW hR h1 h2 hS hH hl
  obtain ⟨hx, hb, -⟩ := hC
  rcases hd with ⟨⟨k, h3, h4, rfl⟩ | ⟨h3, rfl⟩, hi⟩
  · exact lv_astore_n hx hb h3 h4 hL.has hi rfl (fun lsB hl => k lsB (mm_Lo.st1 (v := .ref x) hn hl))
  · exact lv_astore hx hb h3 hL.has hi rfl (fun lsB hl => k lsB (mm_Lo.st1 (v := .ref x) hn hl))
theorem mm_lstore {X : mm_X} {d nc ns : Nat} {K : mm_K} {pc n : Nat} {ls : List (Option Value)} {st : List Value} {μ : mm_M} {Q : Option Value → mm_M → Prop} {i : Nat} {x : Int64} (hd : mm_ls K pc i n) (hn : mm_nl ls i = true) (h : mm_T X d nc ns K n ((ls.set i (some (.long x))).set (i + 1) none) st μ Q) : mm_T X d nc ns K pc ls (.long x :: st) μ Q := by
  intro p l e R s m args below meth c G A H locs cells slots mc ms lsA hC hW hR h1 h2 hS hH hL
  have k := fun lsB hl => h p l e R s m args below meth c G A H locs cells slots mc ms lsB hC hW hR h1 h2 hS hH hl
  obtain ⟨hx, hb, -⟩ := hC
  rcases hd with ⟨⟨k, h3, h4, rfl⟩ | ⟨h3, rfl⟩, hi⟩
  · exact lv_lstore_n hx hb h3 h4 hL.has hi rfl (fun lsB hl => k lsB (mm_Lo.st2 (v := .long x) hn hl))
  · exact lv_lstore hx hb h3 hL.has hi rfl (fun lsB hl => k lsB (mm_Lo.st2 (v := .long x) hn hl))
theorem mm_astoreN {X : mm_X} {d nc ns : Nat} {K : mm_K} {pc n : Nat} {ls : List (Option Value)} {st : List Value} {μ : mm_M} {Q : Option Value → mm_M → Prop} {i : Nat} (hd : mm_at' K pc i n) (hn : mm_nl ls i = true) (h : mm_T X d nc ns K n (ls.set i (some .null)) st μ Q) : mm_T X d nc ns K pc ls (.null :: st) μ Q := by
  intro p l e R s m args below meth c G A H locs cells slots mc ms lsA hC hW hR h1 h2 hS hH hL
  have k := fun lsB hl => h p l e R s m args below meth c G A H locs cells slots mc ms lsB hC hW hR h1 h2 hS hH hl
  obtain ⟨hx, hb, -⟩ := hC
  rcases hd with ⟨⟨k, h3, h4, rfl⟩ | ⟨h3, rfl⟩, hi⟩
  · exact lv_astore_nN hx hb h3 h4 hL.has hi rfl (fun lsB hl => k lsB (mm_Lo.st1 (v := .null) hn hl))
  · exact lv_astoreN hx hb h3 hL.has hi rfl (fun lsB hl => k lsB (mm_Lo.st1 (v := .null) hn hl))
theorem mm_iinc {X : mm_X} {d nc ns : Nat} {K : mm_K} {pc n : Nat} {ls : List (Option Value)} {st : List Value} {μ : mm_M} {Q : Option Value → mm_M → Prop} {i : Nat} {x v : Int32} (hd : mm_ii K pc i v n) (hl : ls[i]? = some (some (.int x))) (hn : mm_nl ls i = true) (h : mm_T X d nc ns K n (ls.set i (some (.int (x + v)))) st μ Q) : mm_T X d nc ns K pc ls st μ Q := by
  intro p l e R s m args below meth c G A H locs cells slots mc ms lsA hC hW hR h1 h2 hS hH hL
  have k := fun lsB hl => h p l e R s m args below meth c G A H locs cells slots mc ms lsB hC hW hR h1 h2 hS hH hl
  obtain ⟨hx, hb, -⟩ := hC
  obtain ⟨⟨k9, h3, rfl⟩, rfl, hi⟩ := hd
  have hm := mm_al_mem (β := G.2.2.2) ls 0 i _ hl
  rw [Nat.zero_add] at hm
  obtain ⟨k0, hk0⟩ := List.getElem?_of_mem hm
  exact lv_iinc hx hb h3 hL.has hk0 rfl hi rfl (fun lsB hl => k lsB (mm_Lo.st1 (v := .int (x + Int32.ofInt k9)) hn hl))
/-! rules: the stack -/
theorem mm_iadd {X : mm_X} {d nc ns : Nat} {K : mm_K} {pc n : Nat} {ls : List (Option Value)} {st : List Value} {μ : mm_M} {Q : Option Value → mm_M → Prop} {x y : Int32} (hd : mm_d K pc .iadd 1 n) (h : mm_T X d nc ns K n ls (.int (x + y) :: st) μ Q) : mm_T X d nc ns K pc ls (.int y :: .int x :: st) μ Q := by
  intro p l e R s m args below meth c G A H locs cells slots mc ms lsA hC hW hR h1 h2 hS hH hL
  have k := h p l e R s m args below meth c G A H locs cells slots mc ms lsA hC hW hR h1 h2 hS hH hL
  obtain ⟨hx, hb, -⟩ := hC
  obtain ⟨h3, rfl⟩ := hd
  exact lv_iadd hx hb h3 k
theorem mm_isub {X : mm_X} {d nc ns : Nat} {K : mm_K} {pc n : Nat} {ls : List (Option Value)} {st : List Value} {μ : mm_M} {Q : Option Value → mm_M → Prop} {x y : Int32} (hd : mm_d K pc .isub 1 n) (h : mm_T X d nc ns K n ls (.int (x - y) :: st) μ Q) : mm_T X d nc ns K pc ls (.int y :: .int x :: st) μ Q := by
  intro p l e R s m args below meth c G A H locs cells slots mc ms lsA hC hW hR h1 h2 hS hH hL
  have k := h p l e R s m args below meth c G A H locs cells slots mc ms lsA hC hW hR h1 h2 hS hH hL
  obtain ⟨hx, hb, -⟩ := hC
  obtain ⟨h3, rfl⟩ := hd
  exact lv_isub hx hb h3 k
theorem mm_imul {X : mm_X} {d nc ns : Nat} {K : mm_K} {pc n : Nat} {ls : List (Option Value)} {st : List Value} {μ : mm_M} {Q : Option Value → mm_M → Prop} {x y : Int32} (hd : mm_d K pc .imul 1 n) (h : mm_T X d nc ns K n ls (.int (x * y) :: st) μ Q) : mm_T X d nc ns K pc ls (.int y :: .int x :: st) μ Q := by
  intro p l e R s m args below meth c G A H locs cells slots mc ms lsA hC hW hR h1 h2 hS hH hL
  have k := h p l e R s m args below meth c G A H locs cells slots mc ms lsA hC hW hR h1 h2 hS hH hL
  obtain ⟨hx, hb, -⟩ := hC
  obtain ⟨h3, rfl⟩ := hd
  exact lv_imul hx hb h3 k
theorem mm_iand {X : mm_X} {d nc ns : Nat} {K : mm_K} {pc n : Nat} {ls : List (Option Value)} {st : List Value} {μ : mm_M} {Q : Option Value → mm_M → Prop} {x y : Int32} (hd : mm_d K pc .iand 1 n) (h : mm_T X d nc ns K n ls (.int (x &&& y) :: st) μ Q) : mm_T X d nc ns K pc ls (.int y :: .int x :: st) μ Q := by
  intro p l e R s m args below meth c G A H locs cells slots mc ms lsA hC hW hR h1 h2 hS hH hL
  have k := h p l e R s m args below meth c G A H locs cells slots mc ms lsA hC hW hR h1 h2 hS hH hL
  obtain ⟨hx, hb, -⟩ := hC
  obtain ⟨h3, rfl⟩ := hd
  exact lv_iand hx hb h3 k
theorem mm_ior {X : mm_X} {d nc ns : Nat} {K : mm_K} {pc n : Nat} {ls : List (Option Value)} {st : List Value} {μ : mm_M} {Q : Option Value → mm_M → Prop} {x y : Int32} (hd : mm_d K pc .ior 1 n) (h : mm_T X d nc ns K n ls (.int (x ||| y) :: st) μ Q) : mm_T X d nc ns K pc ls (.int y :: .int x :: st) μ Q := by
  intro p l e R s m args below meth c G A H locs cells slots mc ms lsA hC hW hR h1 h2 hS hH hL
  have k := h p l e R s m args below meth c G A H locs cells slots mc ms lsA hC hW hR h1 h2 hS hH hL
  obtain ⟨hx, hb, -⟩ := hC
  obtain ⟨h3, rfl⟩ := hd
  exact lv_ior hx hb h3 k
theorem mm_ixor {X : mm_X} {d nc ns : Nat} {K : mm_K} {pc n : Nat} {ls : List (Option Value)} {st : List Value} {μ : mm_M} {Q : Option Value → mm_M → Prop} {x y : Int32} (hd : mm_d K pc .ixor 1 n) (h : mm_T X d nc ns K n ls (.int (x ^^^ y) :: st) μ Q) : mm_T X d nc ns K pc ls (.int y :: .int x :: st) μ Q := by
  intro p l e R s m args below meth c G A H locs cells slots mc ms lsA hC hW hR h1 h2 hS hH hL
  have k := h p l e R s m args below meth c G A H locs cells slots mc ms lsA hC hW hR h1 h2 hS hH hL
  obtain ⟨hx, hb, -⟩ := hC
  obtain ⟨h3, rfl⟩ := hd
  exact lv_ixor hx hb h3 k
theorem mm_ishl {X : mm_X} {d nc ns : Nat} {K : mm_K} {pc n : Nat} {ls : List (Option Value)} {st : List Value} {μ : mm_M} {Q : Option Value → mm_M → Prop} {x y : Int32} (hd : mm_d K pc .ishl 1 n) (h : mm_T X d nc ns K n ls (.int (x <<< (y &&& 31)) :: st) μ Q) : mm_T X d nc ns K pc ls (.int y :: .int x :: st) μ Q := by
  intro p l e R s m args below meth c G A H locs cells slots mc ms lsA hC hW hR h1 h2 hS hH hL
  have k := h p l e R s m args below meth c G A H locs cells slots mc ms lsA hC hW hR h1 h2 hS hH hL
  obtain ⟨hx, hb, -⟩ := hC
  obtain ⟨h3, rfl⟩ := hd
  exact lv_ishl hx hb h3 k
theorem mm_ishr {X : mm_X} {d nc ns : Nat} {K : mm_K} {pc n : Nat} {ls : List (Option Value)} {st : List Value} {μ : mm_M} {Q : Option Value → mm_M → Prop} {x y : Int32} (hd : mm_d K pc .ishr 1 n) (h : mm_T X d nc ns K n ls (.int (x >>> (y &&& 31)) :: st) μ Q) : mm_T X d nc ns K pc ls (.int y :: .int x :: st) μ Q := by
  intro p l e R s m args below meth c G A H locs cells slots mc ms lsA hC hW hR h1 h2 hS hH hL
  have k := h p l e R s m args below meth c G A H locs cells slots mc ms lsA hC hW hR h1 h2 hS hH hL
  obtain ⟨hx, hb, -⟩ := hC
  obtain ⟨h3, rfl⟩ := hd
  exact lv_ishr hx hb h3 k
theorem mm_iushr {X : mm_X} {d nc ns : Nat} {K : mm_K} {pc n : Nat} {ls : List (Option Value)} {st : List Value} {μ : mm_M} {Q : Option Value → mm_M → Prop} {x y : Int32} (hd : mm_d K pc .iushr 1 n) (h : mm_T X d nc ns K n ls (.int (x.toUInt32 >>> (y.toUInt32 &&& Int32.toUInt32 31)).toInt32 :: st) μ Q) : mm_T X d nc ns K pc ls (.int y :: .int x :: st) μ Q := by
  intro p l e R s m args below meth c G A H locs cells slots mc ms lsA hC hW hR h1 h2 hS hH hL
  have k := h p l e R s m args below meth c G A H locs cells slots mc ms lsA hC hW hR h1 h2 hS hH hL
  obtain ⟨hx, hb, -⟩ := hC
  obtain ⟨h3, rfl⟩ := hd
  exact lv_iushr hx hb h3 rfl k
theorem mm_idiv {X : mm_X} {d nc ns : Nat} {K : mm_K} {pc n : Nat} {ls : List (Option Value)} {st : List Value} {μ : mm_M} {Q : Option Value → mm_M → Prop} {x y : Int32} (hd : mm_d K pc .idiv 1 n) (hne : ¬ y = 0) (h : mm_T X d nc ns K n ls (.int (x / y) :: st) μ Q) : mm_T X d nc ns K pc ls (.int y :: .int x :: st) μ Q := by
  intro p l e R s m args below meth c G A H locs cells slots mc ms lsA hC hW hR h1 h2 hS hH hL
  have k := h p l e R s m args below meth c G A H locs cells slots mc ms lsA hC hW hR h1 h2 hS hH hL
  obtain ⟨hx, hb, -⟩ := hC
  obtain ⟨h3, rfl⟩ := hd
  exact lv_idiv hx hb h3 hne k
theorem mm_irem {X : mm_X} {d nc ns : Nat} {K : mm_K} {pc n : Nat} {ls : List (Option Value)} {st : List Value} {μ : mm_M} {Q : Option Value → mm_M → Prop} {x y : Int32} (hd : mm_d K pc .irem 1 n) (hne : ¬ y = 0) (h : mm_T X d nc ns K n ls (.int (x - x / y * y) :: st) μ Q) : mm_T X d nc ns K pc ls (.int y :: .int x :: st) μ Q := by
  intro p l e R s m args below meth c G A H locs cells slots mc ms lsA hC hW hR h1 h2 hS hH hL
  have k := h p l e R s m args below meth c G A H locs cells slots mc ms lsA hC hW hR h1 h2 hS hH hL
  obtain ⟨hx, hb, -⟩ := hC
  obtain ⟨h3, rfl⟩ := hd
  exact lv_irem hx hb h3 hne k
theorem mm_ladd {X : mm_X} {d nc ns : Nat} {K : mm_K} {pc n : Nat} {ls : List (Option Value)} {st : List Value} {μ : mm_M} {Q : Option Value → mm_M → Prop} {x y : Int64} (hd : mm_d K pc .ladd 1 n) (h : mm_T X d nc ns K n ls (.long (x + y) :: st) μ Q) : mm_T X d nc ns K pc ls (.long y :: .long x :: st) μ Q := by
  intro p l e R s m args below meth c G A H locs cells slots mc ms lsA hC hW hR h1 h2 hS hH hL
  have k := h p l e R s m args below meth c G A H locs cells slots mc ms lsA hC hW hR h1 h2 hS hH hL
  obtain ⟨hx, hb, -⟩ := hC
  obtain ⟨h3, rfl⟩ := hd
  exact lv_ladd hx hb h3 k
theorem mm_lsub {X : mm_X} {d nc ns : Nat} {K : mm_K} {pc n : Nat} {ls : List (Option Value)} {st : List Value} {μ : mm_M} {Q : Option Value → mm_M → Prop} {x y : Int64} (hd : mm_d K pc .lsub 1 n) (h : mm_T X d nc ns K n ls (.long (x - y) :: st) μ Q) : mm_T X d nc ns K pc ls (.long y :: .long x :: st) μ Q := by
  intro p l e R s m args below meth c G A H locs cells slots mc ms lsA hC hW hR h1 h2 hS hH hL
  have k := h p l e R s m args below meth c G A H locs cells slots mc ms lsA hC hW hR h1 h2 hS hH hL
  obtain ⟨hx, hb, -⟩ := hC
  obtain ⟨h3, rfl⟩ := hd
  exact lv_lsub hx hb h3 k
theorem mm_lmul {X : mm_X} {d nc ns : Nat} {K : mm_K} {pc n : Nat} {ls : List (Option Value)} {st : List Value} {μ : mm_M} {Q : Option Value → mm_M → Prop} {x y : Int64} (hd : mm_d K pc .lmul 1 n) (h : mm_T X d nc ns K n ls (.long (x * y) :: st) μ Q) : mm_T X d nc ns K pc ls (.long y :: .long x :: st) μ Q := by
  intro p l e R s m args below meth c G A H locs cells slots mc ms lsA hC hW hR h1 h2 hS hH hL
  have k := h p l e R s m args below meth c G A H locs cells slots mc ms lsA hC hW hR h1 h2 hS hH hL
  obtain ⟨hx, hb, -⟩ := hC
  obtain ⟨h3, rfl⟩ := hd
  exact lv_lmul hx hb h3 k
theorem mm_land {X : mm_X} {d nc ns : Nat} {K : mm_K} {pc n : Nat} {ls : List (Option Value)} {st : List Value} {μ : mm_M} {Q : Option Value → mm_M → Prop} {x y : Int64} (hd : mm_d K pc .land 1 n) (h : mm_T X d nc ns K n ls (.long (x &&& y) :: st) μ Q) : mm_T X d nc ns K pc ls (.long y :: .long x :: st) μ Q := by
  intro p l e R s m args below meth c G A H locs cells slots mc ms lsA hC hW hR h1 h2 hS hH hL
  have k := h p l e R s m args below meth c G A H locs cells slots mc ms lsA hC hW hR h1 h2 hS hH hL
  obtain ⟨hx, hb, -⟩ := hC
  obtain ⟨h3, rfl⟩ := hd
  exact lv_land hx hb h3 k
theorem mm_lor {X : mm_X} {d nc ns : Nat} {K : mm_K} {pc n : Nat} {ls : List (Option Value)} {st : List Value} {μ : mm_M} {Q : Option Value → mm_M → Prop} {x y : Int64} (hd : mm_d K pc .lor 1 n) (h : mm_T X d nc ns K n ls (.long (x ||| y) :: st) μ Q) : mm_T X d nc ns K pc ls (.long y :: .long x :: st) μ Q := by
  intro p l e R s m args below meth c G A H locs cells slots mc ms lsA hC hW hR h1 h2 hS hH hL
  have k := h p l e R s m args below meth c G A H locs cells slots mc ms lsA hC hW hR h1 h2 hS hH hL
  obtain ⟨hx, hb, -⟩ := hC
  obtain ⟨h3, rfl⟩ := hd
  exact lv_lor hx hb h3 k
theorem mm_ldiv {X : mm_X} {d nc ns : Nat} {K : mm_K} {pc n : Nat} {ls : List (Option Value)} {st : List Value} {μ : mm_M} {Q : Option Value → mm_M → Prop} {x y : Int64} (hd : mm_d K pc .ldiv 1 n) (hne : ¬ y = 0) (h : mm_T X d nc ns K n ls (.long (x / y) :: st) μ Q) : mm_T X d nc ns K pc ls (.long y :: .long x :: st) μ Q := by
  intro p l e R s m args below meth c G A H locs cells slots mc ms lsA hC hW hR h1 h2 hS hH hL
  have k := h p l e R s m args below meth c G A H locs cells slots mc ms lsA hC hW hR h1 h2 hS hH hL
  obtain ⟨hx, hb, -⟩ := hC
  obtain ⟨h3, rfl⟩ := hd
  exact lv_ldiv hx hb h3 hne k
theorem mm_lrem {X : mm_X} {d nc ns : Nat} {K : mm_K} {pc n : Nat} {ls : List (Option Value)} {st : List Value} {μ : mm_M} {Q : Option Value → mm_M → Prop} {x y : Int64} (hd : mm_d K pc .lrem 1 n) (hne : ¬ y = 0) (h : mm_T X d nc ns K n ls (.long (x - x / y * y) :: st) μ Q) : mm_T X d nc ns K pc ls (.long y :: .long x :: st) μ Q := by
  intro p l e R s m args below meth c G A H locs cells slots mc ms lsA hC hW hR h1 h2 hS hH hL
  have k := h p l e R s m args below meth c G A H locs cells slots mc ms lsA hC hW hR h1 h2 hS hH hL
  obtain ⟨hx, hb, -⟩ := hC
  obtain ⟨h3, rfl⟩ := hd
  exact lv_lrem hx hb h3 hne k
theorem mm_lshl {X : mm_X} {d nc ns : Nat} {K : mm_K} {pc n : Nat} {ls : List (Option Value)} {st : List Value} {μ : mm_M} {Q : Option Value → mm_M → Prop} {x : Int64} {y : Int32} (hd : mm_d K pc .lshl 1 n) (h : mm_T X d nc ns K n ls (.long (x <<< (y.toInt64 &&& 63)) :: st) μ Q) : mm_T X d nc ns K pc ls (.int y :: .long x :: st) μ Q := by
  intro p l e R s m args below meth c G A H locs cells slots mc ms lsA hC hW hR h1 h2 hS hH hL
  have k := h p l e R s m args below meth c G A H locs cells slots mc ms lsA hC hW hR h1 h2 hS hH hL
  obtain ⟨hx, hb, -⟩ := hC
  obtain ⟨h3, rfl⟩ := hd
  exact lv_lshl hx hb h3 rfl k
theorem mm_lushr {X : mm_X} {d nc ns : Nat} {K : mm_K} {pc n : Nat} {ls : List (Option Value)} {st : List Value} {μ : mm_M} {Q : Option Value → mm_M → Prop} {x : Int64} {y : Int32} (hd : mm_d K pc .lushr 1 n) (h : mm_T X d nc ns K n ls (.long (x.toUInt64 >>> (y.toInt64.toUInt64 &&& Int64.toUInt64 63)).toInt64 :: st) μ Q) : mm_T X d nc ns K pc ls (.int y :: .long x :: st) μ Q := by
  intro p l e R s m args below meth c G A H locs cells slots mc ms lsA hC hW hR h1 h2 hS hH hL
  have k := h p l e R s m args below meth c G A H locs cells slots mc ms lsA hC hW hR h1 h2 hS hH hL
  obtain ⟨hx, hb, -⟩ := hC
  obtain ⟨h3, rfl⟩ := hd
  exact lv_lushr hx hb h3 rfl k
theorem mm_lcmp {X : mm_X} {d nc ns : Nat} {K : mm_K} {pc n : Nat} {ls : List (Option Value)} {st : List Value} {μ : mm_M} {Q : Option Value → mm_M → Prop} {x y : Int64} (hd : mm_d K pc .lcmp 1 n) (h : mm_T X d nc ns K n ls (.int (lg_cmp x y) :: st) μ Q) : mm_T X d nc ns K pc ls (.long y :: .long x :: st) μ Q := by
  intro p l e R s m args below meth c G A H locs cells slots mc ms lsA hC hW hR h1 h2 hS hH hL
  have k := h p l e R s m args below meth c G A H locs cells slots mc ms lsA hC hW hR h1 h2 hS hH hL
  obtain ⟨hx, hb, -⟩ := hC
  obtain ⟨h3, rfl⟩ := hd
  exact W.lcmp hx hb h3 k
theorem mm_i2l {X : mm_X} {d nc ns : Nat} {K : mm_K} {pc n : Nat} {ls : List (Option Value)} {st : List Value} {μ : mm_M} {Q : Option Value → mm_M → Prop} {x : Int32} (hd : mm_d K pc .i2l 1 n) (h : mm_T X d nc ns K n ls (.long x.toInt64 :: st) μ Q) : mm_T X d nc ns K pc ls (.int x :: st) μ Q := by
  intro p l e R s m args below meth c G A H locs cells slots mc ms lsA hC hW hR h1 h2 hS hH hL
  have k := h p l e R s m args below meth c G A H locs cells slots mc ms lsA hC hW hR h1 h2 hS hH hL
  obtain ⟨hx, hb, -⟩ := hC
  obtain ⟨h3, rfl⟩ := hd
  exact lv_i2l hx hb h3 rfl k
theorem mm_i2b {X : mm_X} {d nc ns : Nat} {K : mm_K} {pc n : Nat} {ls : List (Option Value)} {st : List Value} {μ : mm_M} {Q : Option Value → mm_M → Prop} {x : Int32} (hd : mm_d K pc .i2b 1 n) (h : mm_T X d nc ns K n ls (.int x.toInt8.toInt32 :: st) μ Q) : mm_T X d nc ns K pc ls (.int x :: st) μ Q := by
  intro p l e R s m args below meth c G A H locs cells slots mc ms lsA hC hW hR h1 h2 hS hH hL
  have k := h p l e R s m args below meth c G A H locs cells slots mc ms lsA hC hW hR h1 h2 hS hH hL
  obtain ⟨hx, hb, -⟩ := hC
  obtain ⟨h3, rfl⟩ := hd
  exact lv_i2b hx hb h3 rfl k
theorem mm_i2c {X : mm_X} {d nc ns : Nat} {K : mm_K} {pc n : Nat} {ls : List (Option Value)} {st : List Value} {μ : mm_M} {Q : Option Value → mm_M → Prop} {x : Int32} (hd : mm_d K pc .i2c 1 n) (h : mm_T X d nc ns K n ls (.int (x.toUInt32 % 65536).toInt32 :: st) μ Q) : mm_T X d nc ns K pc ls (.int x :: st) μ Q := by
  intro p l e R s m args below meth c G A H locs cells slots mc ms lsA hC hW hR h1 h2 hS hH hL
  have k := h p l e R s m args below meth c G A H locs cells slots mc ms lsA hC hW hR h1 h2 hS hH hL
  obtain ⟨hx, hb, -⟩ := hC
  obtain ⟨h3, rfl⟩ := hd
  exact lv_i2c hx hb h3 rfl k
theorem mm_dup {X : mm_X} {d nc ns : Nat} {K : mm_K} {pc n : Nat} {ls : List (Option Value)} {st : List Value} {μ : mm_M} {Q : Option Value → mm_M → Prop} {v : Value} (hd : mm_d K pc .dup 1 n) (hv : v.category = 1) (h : mm_T X d nc ns K n ls (v :: v :: st) μ Q) : mm_T X d nc ns K pc ls (v :: st) μ Q := by
  intro p l e R s m args below meth c G A H locs cells slots mc ms lsA hC hW hR h1 h2 hS hH hL
  have k := h p l e R s m args below meth c G A H locs cells slots mc ms lsA hC hW hR h1 h2 hS hH hL
  obtain ⟨hx, hb, -⟩ := hC
  obtain ⟨h3, rfl⟩ := hd
  exact lv_dup hx hb h3 (by rw [mm_v_cat]; exact hv) k
theorem mm_pop {X : mm_X} {d nc ns : Nat} {K : mm_K} {pc n : Nat} {ls : List (Option Value)} {st : List Value} {μ : mm_M} {Q : Option Value → mm_M → Prop} {v : Value} (hd : mm_d K pc .pop 1 n) (hv : v.category = 1) (h : mm_T X d nc ns K n ls ( st) μ Q) : mm_T X d nc ns K pc ls (v :: st) μ Q := by
  intro p l e R s m args below meth c G A H locs cells slots mc ms lsA hC hW hR h1 h2 hS hH hL
  have k := h p l e R s m args below meth c G A H locs cells slots mc ms lsA hC hW hR h1 h2 hS hH hL
  obtain ⟨hx, hb, -⟩ := hC
  obtain ⟨h3, rfl⟩ := hd
  exact lv_pop hx hb h3 (by rw [mm_v_cat]; exact hv) k
theorem mm_dup2 {X : mm_X} {d nc ns : Nat} {K : mm_K} {pc n : Nat} {ls : List (Option Value)} {st : List Value} {μ : mm_M} {Q : Option Value → mm_M → Prop} {v u : Value} (hd : mm_d K pc .dup2 1 n) (hv : v.category = 1) (hu : u.category = 1) (h : mm_T X d nc ns K n ls (v :: u :: v :: u :: st) μ Q) : mm_T X d nc ns K pc ls (v :: u :: st) μ Q := by
  intro p l e R s m args below meth c G A H locs cells slots mc ms lsA hC hW hR h1 h2 hS hH hL
  have k := h p l e R s m args below meth c G A H locs cells slots mc ms lsA hC hW hR h1 h2 hS hH hL
  obtain ⟨hx, hb, -⟩ := hC
  obtain ⟨h3, rfl⟩ := hd
  exact lv_dup2_11 hx hb h3 (by rw [mm_v_cat]; exact hv) (by rw [mm_v_cat]; exact hu) k
theorem mm_null {X : mm_X} {d nc ns : Nat} {K : mm_K} {pc n : Nat} {ls : List (Option Value)} {st : List Value} {μ : mm_M} {Q : Option Value → mm_M → Prop}  (hd : mm_d K pc .aconst_null 1 n) (h : mm_T X d nc ns K n ls (.null :: st) μ Q) : mm_T X d nc ns K pc ls ( st) μ Q := by
  intro p l e R s m args below meth c G A H locs cells slots mc ms lsA hC hW hR h1 h2 hS hH hL
  have k := h p l e R s m args below meth c G A H locs cells slots mc ms lsA hC hW hR h1 h2 hS hH hL
  obtain ⟨hx, hb, -⟩ := hC
  obtain ⟨h3, rfl⟩ := hd
  exact lv_null hx hb h3 k
/-! rules: branches -/
theorem mm_if_eq {X : mm_X} {d nc ns : Nat} {K : mm_K} {pc n : Nat} {ls : List (Option Value)} {st : List Value} {μ : mm_M} {Q : Option Value → mm_M → Prop} {x : Int32} {off : Int} {t : Nat} (hd : mm_b K pc (.ifCond .eq off) off n t) (ht : x = 0 → mm_T X d nc ns K t ls st μ Q) (hf : ¬ (x = 0) → mm_T X d nc ns K n ls st μ Q) : mm_T X d nc ns K pc ls (.int x :: st) μ Q := by
  intro p l e R s m args below meth c G A H locs cells slots mc ms lsA hC hW hR h1 h2 hS hH hL
  obtain ⟨h3, rfl, h4⟩ := hd
  refine lv_if_eq hC.1 hC.2.1 h3 h4 (fun z => ?_) (fun z => ?_)
  · first | exact ht z p l e R s m args below meth c G A H locs cells slots mc ms lsA hC hW hR h1 h2 hS hH hL | exact ht (by simpa using z) p l e R s m args below meth c G A H locs cells slots mc ms lsA hC hW hR h1 h2 hS hH hL
  · first | exact hf z p l e R s m args below meth c G A H locs cells slots mc ms lsA hC hW hR h1 h2 hS hH hL | exact hf (by simpa using z) p l e R s m args below meth c G A H locs cells slots mc ms lsA hC hW hR h1 h2 hS hH hL
theorem mm_icmp_eq {X : mm_X} {d nc ns : Nat} {K : mm_K} {pc n : Nat} {ls : List (Option Value)} {st : List Value} {μ : mm_M} {Q : Option Value → mm_M → Prop} {x y : Int32} {off : Int} {t : Nat} (hd : mm_b K pc (.if_icmp .eq off) off n t) (ht : x = y → mm_T X d nc ns K t ls st μ Q) (hf : ¬ (x = y) → mm_T X d nc ns K n ls st μ Q) : mm_T X d nc ns K pc ls (.int y :: .int x :: st) μ Q := by
  intro p l e R s m args below meth c G A H locs cells slots mc ms lsA hC hW hR h1 h2 hS hH hL
  obtain ⟨h3, rfl, h4⟩ := hd
  refine lv_icmp_eq hC.1 hC.2.1 h3 h4 (fun z => ?_) (fun z => ?_)
  · first | exact ht z p l e R s m args below meth c G A H locs cells slots mc ms lsA hC hW hR h1 h2 hS hH hL | exact ht (by simpa using z) p l e R s m args below meth c G A H locs cells slots mc ms lsA hC hW hR h1 h2 hS hH hL
  · first | exact hf z p l e R s m args below meth c G A H locs cells slots mc ms lsA hC hW hR h1 h2 hS hH hL | exact hf (by simpa using z) p l e R s m args below meth c G A H locs cells slots mc ms lsA hC hW hR h1 h2 hS hH hL
theorem mm_if_ne {X : mm_X} {d nc ns : Nat} {K : mm_K} {pc n : Nat} {ls : List (Option Value)} {st : List Value} {μ : mm_M} {Q : Option Value → mm_M → Prop} {x : Int32} {off : Int} {t : Nat} (hd : mm_b K pc (.ifCond .ne off) off n t) (ht : ¬ x = 0 → mm_T X d nc ns K t ls st μ Q) (hf : ¬ (¬ x = 0) → mm_T X d nc ns K n ls st μ Q) : mm_T X d nc ns K pc ls (.int x :: st) μ Q := by
  intro p l e R s m args below meth c G A H locs cells slots mc ms lsA hC hW hR h1 h2 hS hH hL
  obtain ⟨h3, rfl, h4⟩ := hd
  refine lv_if_ne hC.1 hC.2.1 h3 h4 (fun z => ?_) (fun z => ?_)
  · first | exact ht z p l e R s m args below meth c G A H locs cells slots mc ms lsA hC hW hR h1 h2 hS hH hL | exact ht (by simpa using z) p l e R s m args below meth c G A H locs cells slots mc ms lsA hC hW hR h1 h2 hS hH hL
  · first | exact hf z p l e R s m args below meth c G A H locs cells slots mc ms lsA hC hW hR h1 h2 hS hH hL | exact hf (by simpa using z) p l e R s m args below meth c G A H locs cells slots mc ms lsA hC hW hR h1 h2 hS hH hL
theorem mm_icmp_ne {X : mm_X} {d nc ns : Nat} {K : mm_K} {pc n : Nat} {ls : List (Option Value)} {st : List Value} {μ : mm_M} {Q : Option Value → mm_M → Prop} {x y : Int32} {off : Int} {t : Nat} (hd : mm_b K pc (.if_icmp .ne off) off n t) (ht : ¬ x = y → mm_T X d nc ns K t ls st μ Q) (hf : ¬ (¬ x = y) → mm_T X d nc ns K n ls st μ Q) : mm_T X d nc ns K pc ls (.int y :: .int x :: st) μ Q := by
  intro p l e R s m args below meth c G A H locs cells slots mc ms lsA hC hW hR h1 h2 hS hH hL
  obtain ⟨h3, rfl, h4⟩ := hd
  refine lv_icmp_ne hC.1 hC.2.1 h3 h4 (fun z => ?_) (fun z => ?_)
  · first | exact ht z p l e R s m args below meth c G A H locs cells slots mc ms lsA hC hW hR h1 h2 hS hH hL | exact ht (by simpa using z) p l e R s m args below meth c G A H locs cells slots mc ms lsA hC hW hR h1 h2 hS hH hL
  · first | exact hf z p l e R s m args below meth c G A H locs cells slots mc ms lsA hC hW hR h1 h2 hS hH hL | exact hf (by simpa using z) p l e R s m args below meth c G A H locs cells slots mc ms lsA hC hW hR h1 h2 hS hH hL
theorem mm_if_lt {X : mm_X} {d nc ns : Nat} {K : mm_K} {pc n : Nat} {ls : List (Option Value)} {st : List Value} {μ : mm_M} {Q : Option Value → mm_M → Prop} {x : Int32} {off : Int} {t : Nat} (hd : mm_b K pc (.ifCond .lt off) off n t) (ht : x < 0 → mm_T X d nc ns K t ls st μ Q) (hf : ¬ (x < 0) → mm_T X d nc ns K n ls st μ Q) : mm_T X d nc ns K pc ls (.int x :: st) μ Q := by
  intro p l e R s m args below meth c G A H locs cells slots mc ms lsA hC hW hR h1 h2 hS hH hL
  obtain ⟨h3, rfl, h4⟩ := hd
  refine lv_if_lt hC.1 hC.2.1 h3 h4 (fun z => ?_) (fun z => ?_)
  · first | exact ht z p l e R s m args below meth c G A H locs cells slots mc ms lsA hC hW hR h1 h2 hS hH hL | exact ht (by simpa using z) p l e R s m args below meth c G A H locs cells slots mc ms lsA hC hW hR h1 h2 hS hH hL
  · first | exact hf z p l e R s m args below meth c G A H locs cells slots mc ms lsA hC hW hR h1 h2 hS hH hL | exact hf (by simpa using z) p l e R s m args below meth c G A H locs cells slots mc ms lsA hC hW hR h1 h2 hS hH hL
theorem mm_icmp_lt {X : mm_X} {d nc ns : Nat} {K : mm_K} {pc n : Nat} {ls : List (Option Value)} {st : List Value} {μ : mm_M} {Q : Option Value → mm_M → Prop} {x y : Int32} {off : Int} {t : Nat} (hd : mm_b K pc (.if_icmp .lt off) off n t) (ht : x < y → mm_T X d nc ns K t ls st μ Q) (hf : ¬ (x < y) → mm_T X d nc ns K n ls st μ Q) : mm_T X d nc ns K pc ls (.int y :: .int x :: st) μ Q := by
  intro p l e R s m args below meth c G A H locs cells slots mc ms lsA hC hW hR h1 h2 hS hH hL
  obtain ⟨h3, rfl, h4⟩ := hd
  refine lv_icmp_lt hC.1 hC.2.1 h3 h4 (fun z => ?_) (fun z => ?_)
  · first | exact ht z p l e R s m args below meth c G A H locs cells slots mc ms lsA hC hW hR h1 h2 hS hH hL | exact ht (by simpa using z) p l e R s m args below meth c G A H locs cells slots mc ms lsA hC hW hR h1 h2 hS hH hL
  · first | exact hf z p l e R s m args below meth c G A H locs cells slots mc ms lsA hC hW hR h1 h2 hS hH hL | exact hf (by simpa using z) p l e R s m args below meth c G A H locs cells slots mc ms lsA hC hW hR h1 h2 hS hH hL
theorem mm_if_ge {X : mm_X} {d nc ns : Nat} {K : mm_K} {pc n : Nat} {ls : List (Option Value)} {st : List Value} {μ : mm_M} {Q : Option Value → mm_M → Prop} {x : Int32} {off : Int} {t : Nat} (hd : mm_b K pc (.ifCond .ge off) off n t) (ht : 0 ≤ x → mm_T X d nc ns K t ls st μ Q) (hf : ¬ (0 ≤ x) → mm_T X d nc ns K n ls st μ Q) : mm_T X d nc ns K pc ls (.int x :: st) μ Q := by
  intro p l e R s m args below meth c G A H locs cells slots mc ms lsA hC hW hR h1 h2 hS hH hL
  obtain ⟨h3, rfl, h4⟩ := hd
  refine lv_if_ge hC.1 hC.2.1 h3 h4 (fun z => ?_) (fun z => ?_)
  · first | exact ht z p l e R s m args below meth c G A H locs cells slots mc ms lsA hC hW hR h1 h2 hS hH hL | exact ht (by simpa using z) p l e R s m args below meth c G A H locs cells slots mc ms lsA hC hW hR h1 h2 hS hH hL
  · first | exact hf z p l e R s m args below meth c G A H locs cells slots mc ms lsA hC hW hR h1 h2 hS hH hL | exact hf (by simpa using z) p l e R s m args below meth c G A H locs cells slots mc ms lsA hC hW hR h1 h2 hS hH hL
theorem mm_icmp_ge {X : mm_X} {d nc ns : Nat} {K : mm_K} {pc n : Nat} {ls : List (Option Value)} {st : List Value} {μ : mm_M} {Q : Option Value → mm_M → Prop} {x y : Int32} {off : Int} {t : Nat} (hd : mm_b K pc (.if_icmp .ge off) off n t) (ht : y ≤ x → mm_T X d nc ns K t ls st μ Q) (hf : ¬ (y ≤ x) → mm_T X d nc ns K n ls st μ Q) : mm_T X d nc ns K pc ls (.int y :: .int x :: st) μ Q := by
  intro p l e R s m args below meth c G A H locs cells slots mc ms lsA hC hW hR h1 h2 hS hH hL
  obtain ⟨h3, rfl, h4⟩ := hd
  refine lv_icmp_ge hC.1 hC.2.1 h3 h4 (fun z => ?_) (fun z => ?_)
  · first | exact ht z p l e R s m args below meth c G A H locs cells slots mc ms lsA hC hW hR h1 h2 hS hH hL | exact ht (by simpa using z) p l e R s m args below meth c G A H locs cells slots mc ms lsA hC hW hR h1 h2 hS hH hL
  · first | exact hf z p l e R s m args below meth c G A H locs cells slots mc ms lsA hC hW hR h1 h2 hS hH hL | exact hf (by simpa using z) p l e R s m args below meth c G A H locs cells slots mc ms lsA hC hW hR h1 h2 hS hH hL
theorem mm_if_gt {X : mm_X} {d nc ns : Nat} {K : mm_K} {pc n : Nat} {ls : List (Option Value)} {st : List Value} {μ : mm_M} {Q : Option Value → mm_M → Prop} {x : Int32} {off : Int} {t : Nat} (hd : mm_b K pc (.ifCond .gt off) off n t) (ht : 0 < x → mm_T X d nc ns K t ls st μ Q) (hf : ¬ (0 < x) → mm_T X d nc ns K n ls st μ Q) : mm_T X d nc ns K pc ls (.int x :: st) μ Q := by
  intro p l e R s m args below meth c G A H locs cells slots mc ms lsA hC hW hR h1 h2 hS hH hL
  obtain ⟨h3, rfl, h4⟩ := hd
  refine lv_if_gt hC.1 hC.2.1 h3 h4 (fun z => ?_) (fun z => ?_)
  · first | exact ht z p l e R s m args below meth c G A H locs cells slots mc ms lsA hC hW hR h1 h2 hS hH hL | exact ht (by simpa using z) p l e R s m args below meth c G A H locs cells slots mc ms lsA hC hW hR h1 h2 hS hH hL
  · first | exact hf z p l e R s m args below meth c G A H locs cells slots mc ms lsA hC hW hR h1 h2 hS hH hL | exact hf (by simpa using z) p l e R s m args below meth c G A H locs cells slots mc ms lsA hC hW hR h1 h2 hS hH hL
theorem mm_icmp_gt {X : mm_X} {d nc ns : Nat} {K : mm_K} {pc n : Nat} {ls : List (Option Value)} {st : List Value} {μ : mm_M} {Q : Option Value → mm_M → Prop} {x y : Int32} {off : Int} {t : Nat} (hd : mm_b K pc (.if_icmp .gt off) off n t) (ht : y < x → mm_T X d nc ns K t ls st μ Q) (hf : ¬ (y < x) → mm_T X d nc ns K n ls st μ Q) : mm_T X d nc ns K pc ls (.int y :: .int x :: st) μ Q := by
  intro p l e R s m args below meth c G A H locs cells slots mc ms lsA hC hW hR h1 h2 hS hH hL
  obtain ⟨h3, rfl, h4⟩ := hd
  refine lv_icmp_gt hC.1 hC.2.1 h3 h4 (fun z => ?_) (fun z => ?_)
  · first | exact ht z p l e R s m args below meth c G A H locs cells slots mc ms lsA hC hW hR h1 h2 hS hH hL | exact ht (by simpa using z) p l e R s m args below meth c G A H locs cells slots mc ms lsA hC hW hR h1 h2 hS hH hL
  · first | exact hf z p l e R s m args below meth c G A H locs cells slots mc ms lsA hC hW hR h1 h2 hS hH hL | exact hf (by simpa using z) p l e R s m args below meth c G A H locs cells slots mc ms lsA hC hW hR h1 h2 hS hH hL
theorem mm_if_le {X : mm_X} {d nc ns : Nat} {K : mm_K} {pc n : Nat} {ls : List (Option Value)} {st : List Value} {μ : mm_M} {Q : Option Value → mm_M → Prop} {x : Int32} {off : Int} {t : Nat} (hd : mm_b K pc (.ifCond .le off) off n t) (ht : x ≤ 0 → mm_T X d nc ns K t ls st μ Q) (hf : ¬ (x ≤ 0) → mm_T X d nc ns K n ls st μ Q) : mm_T X d nc ns K pc ls (.int x :: st) μ Q := by
  intro p l e R s m args below meth c G A H locs cells slots mc ms lsA hC hW hR h1 h2 hS hH hL
  obtain ⟨h3, rfl, h4⟩ := hd
  refine lv_if_le hC.1 hC.2.1 h3 h4 (fun z => ?_) (fun z => ?_)
  · first | exact ht z p l e R s m args below meth c G A H locs cells slots mc ms lsA hC hW hR h1 h2 hS hH hL | exact ht (by simpa using z) p l e R s m args below meth c G A H locs cells slots mc ms lsA hC hW hR h1 h2 hS hH hL
  · first | exact hf z p l e R s m args below meth c G A H locs cells slots mc ms lsA hC hW hR h1 h2 hS hH hL | exact hf (by simpa using z) p l e R s m args below meth c G A H locs cells slots mc ms lsA hC hW hR h1 h2 hS hH hL
theorem mm_icmp_le {X : mm_X} {d nc ns : Nat} {K : mm_K} {pc n : Nat} {ls : List (Option Value)} {st : List Value} {μ : mm_M} {Q : Option Value → mm_M → Prop} {x y : Int32} {off : Int} {t : Nat} (hd : mm_b K pc (.if_icmp .le off) off n t) (ht : x ≤ y → mm_T X d nc ns K t ls st μ Q) (hf : ¬ (x ≤ y) → mm_T X d nc ns K n ls st μ Q) : mm_T X d nc ns K pc ls (.int y :: .int x :: st) μ Q := by
  intro p l e R s m args below meth c G A H locs cells slots mc ms lsA hC hW hR h1 h2 hS hH hL
  obtain ⟨h3, rfl, h4⟩ := hd
  refine lv_icmp_le hC.1 hC.2.1 h3 h4 (fun z => ?_) (fun z => ?_)
  · first | exact ht z p l e R s m args below meth c G A H locs cells slots mc ms lsA hC hW hR h1 h2 hS hH hL | exact ht (by simpa using z) p l e R s m args below meth c G A H locs cells slots mc ms lsA hC hW hR h1 h2 hS hH hL
  · first | exact hf z p l e R s m args below meth c G A H locs cells slots mc ms lsA hC hW hR h1 h2 hS hH hL | exact hf (by simpa using z) p l e R s m args below meth c G A H locs cells slots mc ms lsA hC hW hR h1 h2 hS hH hL
theorem mm_goto {X : mm_X} {d nc ns : Nat} {K : mm_K} {pc n : Nat} {ls : List (Option Value)} {st : List Value} {μ : mm_M} {Q : Option Value → mm_M → Prop} {off : Int} {t : Nat} (hd : mm_b K pc (.goto off) off n t) (h : mm_T X d nc ns K t ls st μ Q) : mm_T X d nc ns K pc ls st μ Q := by
  intro p l e R s m args below meth c G A H locs cells slots mc ms lsA hC hW hR h1 h2 hS hH hL
  obtain ⟨h3, -, h4⟩ := hd
  exact lv_goto hC.1 hC.2.1 h3 h4 (h p l e R s m args below meth c G A H locs cells slots mc ms lsA hC hW hR h1 h2 hS hH hL)
theorem mm_ifnull {X : mm_X} {d nc ns : Nat} {K : mm_K} {pc n : Nat} {ls : List (Option Value)} {st : List Value} {μ : mm_M} {Q : Option Value → mm_M → Prop} {x : Nat} {off : Int} {t : Nat} (hd : mm_b K pc (.ifnull off) off n t) (h : mm_T X d nc ns K n ls st μ Q) : mm_T X d nc ns K pc ls (.ref x :: st) μ Q := by
  intro p l e R s m args below meth c G A H locs cells slots mc ms lsA hC hW hR h1 h2 hS hH hL
  obtain ⟨h3, rfl, h4⟩ := hd
  exact lv_ifnull hC.1 hC.2.1 h3 (h p l e R s m args below meth c G A H locs cells slots mc ms lsA hC hW hR h1 h2 hS hH hL)
theorem mm_ifnonnull {X : mm_X} {d nc ns : Nat} {K : mm_K} {pc n : Nat} {ls : List (Option Value)} {st : List Value} {μ : mm_M} {Q : Option Value → mm_M → Prop} {x : Nat} {off : Int} {t : Nat} (hd : mm_b K pc (.ifnonnull off) off n t) (h : mm_T X d nc ns K t ls st μ Q) : mm_T X d nc ns K pc ls (.ref x :: st) μ Q := by
  intro p l e R s m args below meth c G A H locs cells slots mc ms lsA hC hW hR h1 h2 hS hH hL
  obtain ⟨h3, rfl, h4⟩ := hd
  exact lv_ifnonnull hC.1 hC.2.1 h3 h4 (h p l e R s m args below meth c G A H locs cells slots mc ms lsA hC hW hR h1 h2 hS hH hL)
theorem mm_ifnullN {X : mm_X} {d nc ns : Nat} {K : mm_K} {pc n : Nat} {ls : List (Option Value)} {st : List Value} {μ : mm_M} {Q : Option Value → mm_M → Prop} {off : Int} {t : Nat} (hd : mm_b K pc (.ifnull off) off n t) (h : mm_T X d nc ns K t ls st μ Q) : mm_T X d nc ns K pc ls (.null :: st) μ Q := by
  intro p l e R s m args below meth c G A H locs cells slots mc ms lsA hC hW hR h1 h2 hS hH hL
  obtain ⟨h3, rfl, h4⟩ := hd
  exact lv_ifnullN hC.1 hC.2.1 h3 h4 (h p l e R s m args below meth c G A H locs cells slots mc ms lsA hC hW hR h1 h2 hS hH hL)
theorem mm_ifnonnullN {X : mm_X} {d nc ns : Nat} {K : mm_K} {pc n : Nat} {ls : List (Option Value)} {st : List Value} {μ : mm_M} {Q : Option Value → mm_M → Prop} {off : Int} {t : Nat} (hd : mm_b K pc (.ifnonnull off) off n t) (h : mm_T X d nc ns K n ls st μ Q) : mm_T X d nc ns K pc ls (.null :: st) μ Q := by
  intro p l e R s m args below meth c G A H locs cells slots mc ms lsA hC hW hR h1 h2 hS hH hL
  obtain ⟨h3, rfl, h4⟩ := hd
  exact lv_ifnonnullN hC.1 hC.2.1 h3 (h p l e R s m args below meth c G A H locs cells slots mc ms lsA hC hW hR h1 h2 hS hH hL)
def mm_sw (K : mm_K) (pc : Nat) (lo hi : Int) (tg : List Nat) (dt : Nat) : Prop := ∃ (dflt : Int) (offs : Array Int) (len : Nat), decode K.2.1 pc = .ok (.tableswitch dflt lo hi offs, len) ∧ (pc : Int) + dflt = (dt : Int) ∧ offs.toList.map (fun o => (pc : Int) + o) = tg.map (fun t : Nat => (t : Int))
theorem mm_switchIn {X : mm_X} {d nc ns : Nat} {K : mm_K} {pc n : Nat} {ls : List (Option Value)} {st : List Value} {μ : mm_M} {Q : Option Value → mm_M → Prop} {x : Int32} {lo hi : Int} {tg : List Nat} {dt t : Nat} (hd : mm_sw K pc lo hi tg dt) (k : Nat) (hx : x.toInt = lo + k) (hk : lo + k ≤ hi) (ht : tg[k]? = some t) (h : mm_T X d nc ns K t ls st μ Q) : mm_T X d nc ns K pc ls (.int x :: st) μ Q := by
  intro p l e R s m args below meth c G A H locs cells slots mc ms lsA hC hW hR h1 h2 hS hH hL
  obtain ⟨dflt, offs, len, h3, -, h5⟩ := hd
  have h6 : (offs.toList.map (fun o => (pc : Int) + o))[k]? = some (t : Int) := by rw [h5, List.getElem?_map, ht]; rfl
  rw [List.getElem?_map] at h6
  cases ho : offs.toList[k]? with
  | none => rw [ho] at h6; cases h6
  | some off =>
    rw [ho] at h6
    refine lv_tableIn hC.1 hC.2.1 h3 (by omega) (by omega) (off := off) ?_ (Option.some.inj h6) (h p l e R s m args below meth c G A H locs cells slots mc ms lsA hC hW hR h1 h2 hS hH hL)
    rw [show (x.toInt - lo).toNat = k by omega, ← Array.getElem?_toList]
    exact ho
theorem mm_switchOut {X : mm_X} {d nc ns : Nat} {K : mm_K} {pc n : Nat} {ls : List (Option Value)} {st : List Value} {μ : mm_M} {Q : Option Value → mm_M → Prop} {x : Int32} {lo hi : Int} {tg : List Nat} {dt : Nat} (hd : mm_sw K pc lo hi tg dt) (hx : x.toInt < lo ∨ hi < x.toInt) (h : mm_T X d nc ns K dt ls st μ Q) : mm_T X d nc ns K pc ls (.int x :: st) μ Q := by
  intro p l e R s m args below meth c G A H locs cells slots mc ms lsA hC hW hR h1 h2 hS hH hL
  obtain ⟨dflt, offs, len, h3, h4, -⟩ := hd
  exact lv_tableOut hC.1 hC.2.1 h3 hx h4 (h p l e R s m args below meth c G A H locs cells slots mc ms lsA hC hW hR h1 h2 hS hH hL)
/-! rules: the end -/
theorem mm_ireturn {X : mm_X} {d nc ns : Nat} {K : mm_K} {pc n : Nat} {ls : List (Option Value)} {μ : mm_M} {Q : Option Value → mm_M → Prop} {x : Int32} (hd : mm_d K pc .ireturn 1 n) (hr : K.2.2.2 = some .int) (h : Q (some (.int x)) μ) : mm_T X d nc ns K pc ls [.int x] μ Q := by
  intro p l e R s m args below meth c G A H locs cells slots mc ms lsA hC hW hR h1 h2 hS hH hL
  obtain ⟨h3, -⟩ := hd
  refine W.widen (k := mc) (n := ms) (by omega) (by omega) ?_
  exact W.iret hC.1 hC.2.1 (hC.2.2.2.1.trans hr) (fun t ht _ => ⟨⟨some (.int x), μ, rfl, h, by rw [ht]; exact hH⟩, hS.F ht⟩) hS.2.2 h3 hC.2.2.2.2.1
theorem mm_zreturn {X : mm_X} {d nc ns : Nat} {K : mm_K} {pc n : Nat} {ls : List (Option Value)} {μ : mm_M} {Q : Option Value → mm_M → Prop} {x : Int32} {ty : FieldType} (hd : mm_d K pc .ireturn 1 n) (hr : K.2.2.2 = some ty) (hn : narrow ty (.int x) = .int x) (h : Q (some (.int x)) μ) : mm_T X d nc ns K pc ls [.int x] μ Q := by
  intro p l e R s m args below meth c G A H locs cells slots mc ms lsA hC hW hR h1 h2 hS hH hL
  obtain ⟨h3, -⟩ := hd
  refine W.widen (k := mc) (n := ms) (by omega) (by omega) ?_
  exact W.zret hC.1 hC.2.1 (hC.2.2.2.1.trans hr) hn (fun t ht _ => ⟨⟨some (.int x), μ, rfl, h, by rw [ht]; exact hH⟩, hS.F ht⟩) hS.2.2 h3 hC.2.2.2.2.1
theorem mm_lreturn {X : mm_X} {d nc ns : Nat} {K : mm_K} {pc n : Nat} {ls : List (Option Value)} {μ : mm_M} {Q : Option Value → mm_M → Prop} {x : Int64} (hd : mm_d K pc .lreturn 1 n) (hr : K.2.2.2 = some .long) (h : Q (some (.long x)) μ) : mm_T X d nc ns K pc ls [.long x] μ Q := by
  intro p l e R s m args below meth c G A H locs cells slots mc ms lsA hC hW hR h1 h2 hS hH hL
  obtain ⟨h3, -⟩ := hd
  refine W.widen (k := mc) (n := ms) (by omega) (by omega) ?_
  exact W.lret hC.1 hC.2.1 (hC.2.2.2.1.trans hr) (fun t ht _ => ⟨⟨some (.long x), μ, rfl, h, by rw [ht]; exact hH⟩, hS.F ht⟩) hS.2.2 h3 hC.2.2.2.2.1
theorem mm_return {X : mm_X} {d nc ns : Nat} {K : mm_K} {pc n : Nat} {ls : List (Option Value)} {μ : mm_M} {Q : Option Value → mm_M → Prop} (hd : mm_d K pc .return_ 1 n) (hr : K.2.2.2 = none) (h : Q none μ) : mm_T X d nc ns K pc ls [] μ Q := by
  intro p l e R s m args below meth c G A H locs cells slots mc ms lsA hC hW hR h1 h2 hS hH hL
  obtain ⟨h3, -⟩ := hd
  refine W.widen (k := mc) (n := ms) (by omega) (by omega) ?_
  exact W.vret hC.1 hC.2.1 (hC.2.2.2.1.trans hr) (fun t ht _ => ⟨⟨none, μ, rfl, h, by rw [ht]; exact hH⟩, hS.F ht⟩) hS.2.2 h3 hC.2.2.2.2.1
theorem mm_areturn {X : mm_X} {d nc ns : Nat} {K : mm_K} {pc n : Nat} {ls : List (Option Value)} {μ : mm_M} {Q : Option Value → mm_M → Prop} {r : Option Nat} {C : String} (hd : mm_d K pc .areturn 1 n) (hr : K.2.2.2 = some (.object C)) (h : Q (some (mm_rf r)) μ) : mm_T X d nc ns K pc ls [mm_rf r] μ Q := by
  intro p l e R s m args below meth c G A H locs cells slots mc ms lsA hC hW hR h1 h2 hS hH hL
  obtain ⟨h3, -⟩ := hd
  refine W.widen (k := mc) (n := ms) (by omega) (by omega) ?_
  exact W.aret (v := mm_v G.2.2.2 (mm_rf r)) hC.1 hC.2.1 (hC.2.2.2.1.trans hr) (Or.inl ⟨_, rfl⟩) (by cases r; exact Or.inl rfl; exact Or.inr ⟨_, rfl⟩) (fun t ht _ => ⟨⟨some (mm_rf r), μ, rfl, h, by rw [ht]; exact hH⟩, hS.F ht⟩) hS.2.2 h3 hC.2.2.2.2.1
