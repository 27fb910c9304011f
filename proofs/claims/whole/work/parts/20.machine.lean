/-! ===== the abstract machine: a memory of numbered cells, states of a method, rows ===== -/
abbrev aC : Type := (Nat × (Nat → Int32)) ⊕ ((Nat × Nat × (Nat → Option Nat)) ⊕ (Nat × List Value))
abbrev aI (n : Nat) (f : Nat → Int32) : aC := .inl (n, f)
abbrev aR (t n : Nat) (f : Nat → Option Nat) : aC := .inr (.inl (t, n, f))
abbrev aO (ci : Nat) (fs : List Value) : aC := .inr (.inr (ci, fs))
/-- D, the first address, the array classes, the addresses of what lay there before (1000 and on) -/
abbrev aG : Type := va_G × Nat × (Nat → ClassId) × (Nat → Nat)
abbrev aM : Type := MethodName × ByteArray × Nat × Option FieldType × Room × Nat × Nat
def a_ad (Γ : aG) (i : Nat) : Nat := if i < 1000 then Γ.2.1 + i else Γ.2.2.2 i
def a_v (Γ : aG) (v : Value) : Value := match v with
  | .ref i => .ref (a_ad Γ i)
  | w => w
def a_e (Γ : aG) (x : aC) : va_E := match x with
  | .inl (n, f) => .inl (Γ.2.2.1 0, n, .inl f)
  | .inr (.inl (t, n, f)) => .inl (Γ.2.2.1 t, n, .inr (.inr (.inr (.inr (fun j => (f j).map (a_ad Γ))))))
  | .inr (.inr (ci, fs)) => .inr (ci, fs.map (a_v Γ))
def a_w (Γ : aG) (n : Nat) (M : Nat → aC) : va_W := (List.range n).map (fun i => (Γ.2.1 + i, a_e Γ (M i)))
def a_A (Γ : aG) : Nat → Prop := fun q => Γ.2.1 ≤ q
def a_up (M : Nat → aC) (i : Nat) (x : aC) : Nat → aC := fun j => if j = i then x else M j
abbrev a_ty (Γ : aG) : List (ClassId × FieldType) := [(Γ.2.2.1 0, .int), (Γ.2.2.1 1, .array .int), (Γ.2.2.1 2, .object "java/lang/String")]
abbrev a_L (Γ : aG) (L : List (Nat × Value)) : List (Nat × Value) := L.map (fun q => (q.1, a_v Γ q.2))
theorem a_v_cat (Γ : aG) (v : Value) : (a_v Γ v).category = v.category := by cases v <;> rfl
theorem a_ad_lt {Γ : aG} {i : Nat} (h : i < 1000) : a_ad Γ i = Γ.2.1 + i := if_pos h
theorem a_w_at {Γ : aG} {n i : Nat} {M : Nat → aC} (h : i < n) : (a_w Γ n M)[i]? = some (Γ.2.1 + i, a_e Γ (M i)) := by
  unfold a_w
  rw [List.getElem?_map, List.getElem?_range h]
  rfl
theorem a_w_of {Γ : aG} {n k : Nat} {M : Nat → aC} {q : Nat × va_E} (h : (a_w Γ n M)[k]? = some q) : k < n ∧ q = (Γ.2.1 + k, a_e Γ (M k)) := by
  have hk : k < n := by
    have := (List.getElem?_eq_some_iff.mp h).1
    simpa [a_w] using this
  rw [a_w_at hk] at h
  exact ⟨hk, (Option.some.inj h).symm⟩
theorem a_w_D {Γ : aG} {n : Nat} {M : Nat → aC} : va_D (a_A Γ) (a_w Γ n M) := by
  refine ⟨fun i j p q hi hj h => ?_, fun k q hk => ?_⟩
  · obtain ⟨-, rfl⟩ := a_w_of hi
    obtain ⟨-, rfl⟩ := a_w_of hj
    exact Nat.add_left_cancel h
  · obtain ⟨-, rfl⟩ := a_w_of hk
    exact Nat.le_add_right _ _
theorem a_w_set {Γ : aG} {n i : Nat} {M : Nat → aC} {x : aC} : (a_w Γ n M).set i (Γ.2.1 + i, a_e Γ x) = a_w Γ n (a_up M i x) := by
  apply List.ext_getElem?
  intro k
  by_cases hk : k < n
  · rw [a_w_at hk]
    by_cases e : k = i
    · subst e
      rw [List.getElem?_set_self (by simpa [a_w] using hk)]
      simp [a_up]
    · rw [List.getElem?_set_ne (Ne.symm e), a_w_at hk]
      simp [a_up, e]
  · rw [List.getElem?_eq_none (by simpa [a_w] using Nat.not_lt.mp hk), List.getElem?_eq_none (by simpa [a_w] using Nat.not_lt.mp hk)]
theorem a_w_push {Γ : aG} {n : Nat} {M : Nat → aC} {x : aC} : a_w Γ n M ++ [(Γ.2.1 + n, a_e Γ x)] = a_w Γ (n + 1) (a_up M n x) := by
  unfold a_w
  rw [List.range_succ, List.map_append]
  congr 1
  · apply List.map_congr_left
    intro a ha
    have := List.mem_range.mp ha
    simp [a_up, Nat.ne_of_lt this]
  · simp [a_up]
/-! statics and strings: what lay there before -/
abbrev a_sA : List (String × String × List Int32) := [("LacedHouse", "GREATEST_SETTING", [999, 9999, 1]), ("LacedHouse", "LEAST_TRAIT", [0, 0, 1, 0, 0, 0]), ("LacedHouse", "GREATEST_TRAIT", [6, 15, 40, 15, 9999, 1]), ("LacedHouse$Kinds", "ABOVE", [-1, 0, 0, 2, 3, 0, 1])]
def a_sa (k : Nat) : String × String × List Int32 := a_sA.getD k ("", "", [])
abbrev a_sS : List (String × Nat × String × List Int32) := [("LacedHouse$Tape", 110, "cook", [99, 111, 111, 107]), ("LacedHouse$Tape", 112, "boy", [98, 111, 121]), ("LacedHouse$Tape", 114, "maid", [109, 97, 105, 100]), ("LacedHouse$Tape", 116, "nurse", [110, 117, 114, 115, 101]), ("LacedHouse$Tape", 118, "dog", [100, 111, 103]), ("LacedHouse$Tape", 120, "explorer", [101, 120, 112, 108, 111, 114, 101, 114]), ("LacedHouse$Tape", 122, "guest", [103, 117, 101, 115, 116]), ("LacedHouse$Tape", 85, "at", [97, 116]), ("LacedHouse$Tape", 91, "size", [115, 105, 122, 101]), ("LacedHouse$Tape", 99, "to", [116, 111]), ("LacedHouse$Tape", 48, "cell", [99, 101, 108, 108]), ("LacedHouse$Tape", 63, "measure", [109, 101, 97, 115, 117, 114, 101]), ("LacedHouse$Tape", 68, "cord", [99, 111, 114, 100]), ("LacedHouseModel", 27, "guest", [103, 117, 101, 115, 116]), ("LacedHouseModel", 29, "cook", [99, 111, 111, 107]), ("LacedHouseModel", 31, "boy", [98, 111, 121]), ("LacedHouseModel", 33, "maid", [109, 97, 105, 100]), ("LacedHouseModel", 35, "nurse", [110, 117, 114, 115, 101]), ("LacedHouseModel", 37, "dog", [100, 111, 103]), ("LacedHouseModel", 39, "explorer", [101, 120, 112, 108, 111, 114, 101, 114]), ("LacedHouseModel", 265, "at", [97, 116]), ("LacedHouseModel", 273, "size", [115, 105, 122, 101]), ("LacedHouseModel", 275, "to", [116, 111]), ("LacedHouseModel", 284, "cell", [99, 101, 108, 108]), ("LacedHouseModel", 286, "measure", [109, 101, 97, 115, 117, 114, 101]), ("LacedHouseModel", 288, "cord", [99, 111, 114, 100])]
def a_ss (k : Nat) : String × Nat × String × List Int32 := a_sS.getD k ("", 0, "", [])
/-- what the method's start gives of what lay there before -/
def a_S (Γ : aG) (U : State) : Prop :=
  (∀ k : Nat, k < 4 → va_Z (a_sa k).1 (a_sa k).2.1 "[I" (.ref (Γ.2.2.2 (1000 + k))) (a_A Γ) U U.heap ∧ va_T .int (Γ.2.2.2 (1000 + k)) (a_sa k).2.2.length (fun j => .int ((a_sa k).2.2.getD j 0)) (a_A Γ) U U.heap) ∧
  (∀ k : Nat, k < 26 → vk_R (a_ss k).1 (a_ss k).2.1 (a_ss k).2.2.1 (Γ.2.2.2 (2000 + k)) U ∧ va_O "java/lang/String" (Γ.2.2.2 (2000 + k)) (a_A Γ) U U.heap ∧ va_OF "java/lang/String" "coder" "B" (.int 0) (Γ.2.2.2 (2000 + k)) (a_A Γ) U U.heap ∧ va_OF "java/lang/String" "value" "[B" (.ref (Γ.2.2.2 (3000 + k))) (Γ.2.2.2 (2000 + k)) (a_A Γ) U U.heap ∧ va_T .byte (Γ.2.2.2 (3000 + k)) (a_ss k).2.2.2.length (fun j => .int ((a_ss k).2.2.2.getD j 0)) (a_A Γ) U U.heap) ∧
  (va_Z "java/lang/String" "COMPACT_STRINGS" "Z" (.int 1) (a_A Γ) U U.heap ∧ va_T .int (Γ.2.2.2 5000) (Γ.2.2.2 6000) (fun j => .int (nI (Γ.2.2.2 (7000 + j)))) (a_A Γ) U U.heap) ∧
  (va_Z "jdk/internal/util/Preconditions" "SIOOBE_FORMATTER" "Ljava/util/function/BiFunction;" .null (a_A Γ) U U.heap ∨ va_Z "jdk/internal/util/Preconditions" "SIOOBE_FORMATTER" "Ljava/util/function/BiFunction;" (.ref (Γ.2.2.2 4000)) (a_A Γ) U U.heap) ∧
  (∀ w ∈ a_nw, va_Nw w U) ∧ va_AO "java/lang/String" U ∧ (Cond.arrayOver (.array .int)).before #[] U = true ∧ va_K Γ.1 vwCl (a_ty Γ) U ∧ Γ.2.1 ≤ U.heap.size
theorem a_fi {v v' : Vm} (h : v.Alike v') (f : Class → Bool) (hf : ∀ k : Class, f k.bare = f k) : v'.classes.findIdx? f = v.classes.findIdx? f := by
  have e : ∀ z : Vm, z.bare.classes.findIdx? f = z.classes.findIdx? f := fun z => by
    simp only [Vm.bare, Array.findIdx?_map]
    congr 1
    funext k
    exact hf k
  rw [← e v', ← e v, h.bare_eq]
theorem a_AO {s U : State} (h : s.vm.Alike U.vm) (ty : FieldType) : (Cond.arrayOver ty).before #[] U = (Cond.arrayOver ty).before #[] s := by
  simp only [Cond.before, Cond.holds, Cond.value, h.findClass]
  congr 1
  congr 1
  funext comp
  rw [a_fi h _ (fun k => rfl)]
  congr 1
  funext c
  exact h.class_map _ (fun k r _ _ => rfl) c
theorem a_S.same {Γ : aG} {u U : State} (hv : U.vm = u.vm) (hh : U.heap = u.heap) (h : a_S Γ u) : a_S Γ U := by
  have ha : u.vm.Alike U.vm := by rw [hv]; exact Vm.Alike.refl _
  obtain ⟨h1, h2, h3, h4, h5, h6, h7, h8, h9⟩ := h
  unfold a_S
  rw [hh]
  refine ⟨fun k hk => ⟨(h1 k hk).1.moved ha, (h1 k hk).2.moved ha⟩, fun k hk => ⟨vk_R.same hv (h2 k hk).1, va_O.moved ha (h2 k hk).2.1, va_OF.moved ha (h2 k hk).2.2.1, va_OF.moved ha (h2 k hk).2.2.2.1, va_T.moved ha (h2 k hk).2.2.2.2⟩, ⟨h3.1.moved ha, h3.2.moved ha⟩, h4.imp (va_Z.moved ha) (va_Z.moved ha), fun w hw => ?_, ?_, ?_, va_K.moved ha h8, h9⟩
  · have hc : w = Cond.methodLinkNest "LacedHouse" 28 ⟨"LacedHouse$Sheets", "<init>", "()V"⟩ "LacedHouse" ∨ w = Cond.methodLinkNest "LacedHouse" 35 ⟨"LacedHouse$Tape", "<init>", "()V"⟩ "LacedHouse" ∨ w = Cond.fieldLinkNest "LacedHouse$Tape" 70 "LacedHouse" "GREATEST_SETTING" "[I" "LacedHouse" := by simpa [a_nw] using hw
    refine va_Nw.same ?_ hv.symm (h5 w hw)
    rcases hc with rfl | rfl | rfl <;> rfl
  · exact va_AO.moved ha h6
  · exact (a_AO ha _).trans h7
theorem a_S.next {Γ : aG} {s U : State} {H : Heap} {locs : List Loc} (hW : s.WarmedH U.vm) (hU : U.heap = H) (hS : va_S (a_A Γ) s.heap H locs) (h : a_S Γ s) : a_S Γ U := by
  have ha : s.vm.Alike U.vm := hW.alike
  have hq : ∀ a : Nat, a < s.heap.size → ¬ a_A Γ a → U.heap[a]? = s.heap[a]? := fun a g1 g2 => by rw [hU]; exact hS.2.1 a g1 g2
  obtain ⟨h1, h2, h3, h4, h5, h6, h7, h8, h9⟩ := h
  refine ⟨fun k hk => ⟨((h1 k hk).1.kept hq).moved ha, ((h1 k hk).2.kept hq).moved ha⟩, fun k hk => ⟨vk_R.warm hW (h2 k hk).1, va_O.moved ha ((h2 k hk).2.1.kept hq), va_OF.moved ha ((h2 k hk).2.2.1.kept hq), va_OF.moved ha ((h2 k hk).2.2.2.1.kept hq), va_T.moved ha ((h2 k hk).2.2.2.2.kept hq)⟩, ⟨(h3.1.kept hq).moved ha, (h3.2.kept hq).moved ha⟩, h4.imp (fun z => (z.kept hq).moved ha) (fun z => (z.kept hq).moved ha), fun w hw => ?_, ?_, ?_, va_K.moved ha h8, by rw [hU]; exact Nat.le_trans h9 hS.1⟩
  · have hc : w = Cond.methodLinkNest "LacedHouse" 28 ⟨"LacedHouse$Sheets", "<init>", "()V"⟩ "LacedHouse" ∨ w = Cond.methodLinkNest "LacedHouse" 35 ⟨"LacedHouse$Tape", "<init>", "()V"⟩ "LacedHouse" ∨ w = Cond.fieldLinkNest "LacedHouse$Tape" 70 "LacedHouse" "GREATEST_SETTING" "[I" "LacedHouse" := by simpa [a_nw] using hw
    have h0 := h5 w hw
    rcases hc with rfl | rfl | rfl
    · exact va_Nw.warmM hW h0
    · exact va_Nw.warmM hW h0
    · exact va_Nw.warmF hW h0
  · exact va_AO.moved ha h6
  · exact (a_AO ha _).trans h7
/-! a method's state -/
def a_X (Γ : aG) (μ : aM) (p : Program) (s : State) (m : MethodId) (args : Array Value) (meth : Method) (c : Code) : Prop :=
  p.tables.exec = Jvm.exec ∧ c.code = μ.2.1 ∧ meth.sig.returnType = μ.2.2.2.1 ∧ c.maxLocals = μ.2.2.1 ∧ s.vm.findClass μ.1.cls = some m.cls ∧ (∀ w ∈ tG, w.before args s = true) ∧ meth.locks = false ∧ meth.name = μ.1.name ∧ a_S Γ s
def a_W (Γ : aG) (s : State) (n k1 : Nat) (M : Nat → aC) (H : Heap) (locs : List Loc) : Prop :=
  va_P Γ.1 vwCl (a_w Γ n M) H ∧ s.heap.size + k1 = Γ.2.1 + n ∧ va_S (a_A Γ) s.heap H locs ∧ n ≤ 1000
def a_Q (Γ : aG) (r : Option Value) (n : Nat) (M : Nat → aC) : Array Value → State → Outcome → State → Prop := fun _ st oc t =>
  oc = .returned (r.map (a_v Γ)) ∧ va_P Γ.1 vwCl (a_w Γ n M) t.heap ∧ n ≤ 1000 ∧ va_F (a_A Γ) st t
/-- at pc, with these locals, this stack, this memory of n cells, k1 cells of k2 slots new: the method comes to its end with r, n', M' -/
def Fr (Γ : aG) (l : Launch) (μ : aM) (pc : Nat) (L : List (Nat × Value)) (st : List Value) (n k1 k2 : Nat) (M : Nat → aC) (r : Option Value) (n' : Nat) (M' : Nat → aC) : Prop :=
  ∀ (p : Program) (e : Env) (s : State) (m : MethodId) (args : Array Value) (below : List Frame) (meth : Method) (c : Code) (H : Heap) (locs : List Loc) (ls : Array Slot),
    a_X Γ μ p s m args meth c → a_W Γ s n k1 M H locs → lv_has ls μ.2.2.1 (a_L Γ L) →
    W p l e μ.2.2.2.2.1 s m args below meth c H locs k1 k2 (MQ below (a_Q Γ r n' M') args s μ.2.2.2.2.2.1 μ.2.2.2.2.2.2 (a_A Γ)) (F0 m pc ls (st.map (a_v Γ)))
def a_P (Γ : aG) (as : List Value) (n : Nat) (M : Nat → aC) : Array Value → State → Prop := fun v U =>
  v = (as.map (a_v Γ)).toArray ∧ a_S Γ U ∧ va_P Γ.1 vwCl (a_w Γ n M) U.heap ∧ U.heap.size = Γ.2.1 + n ∧ n ≤ 1000
/-- the method, called with these, answers so -/
def Ev (Γ : aG) (l : Launch) (μ : aM) (as : List Value) (n : Nat) (M : Nat → aC) (r : Option Value) (n' : Nat) (M' : Nat → aC) : Prop :=
  Met l μ.1 (.code μ.1 μ.2.1 μ.2.2.1 μ.2.2.2.1 :: tG) μ.2.2.2.2.1 (a_P Γ as n M) (a_Q Γ r n' M') μ.2.2.2.2.2.1 μ.2.2.2.2.2.2 (a_A Γ)
theorem a_blind {Γ : aG} {as : List Value} {n : Nat} {M : Nat → aC} : FrameBlind (a_P Γ as n M) := fun a U g mk q => ⟨q.1, a_S.same (u := U) rfl rfl q.2.1, q.2.2⟩
theorem a_lk : ∀ {L : List (Nat × Value)} {i : Nat} {v : Value}, L.lookup i = some v → (i, v) ∈ L
  | [], _, _, h => by simp at h
  | (j, w) :: L, i, v, h => by
    rw [List.lookup_cons] at h
    by_cases e : (i == j) = true
    · rw [e] at h
      have : i = j := by simpa using e
      cases h
      rw [this]
      exact List.mem_cons_self
    · have e' : (i == j) = false := by simpa using e
      rw [e'] at h
      exact List.mem_cons_of_mem _ (a_lk h)
theorem a_at {Γ : aG} {ls : Array Slot} {nL : Nat} {L : List (Nat × Value)} {i : Nat} {v : Value} (hl : lv_has ls nL (a_L Γ L)) (h : L.lookup i = some v) : ls[i]? = some (.val (a_v Γ v)) :=
  hl.2.2 (i, a_v Γ v) (List.mem_map.mpr ⟨(i, v), a_lk h, rfl⟩)
theorem Ev.of {Γ : aG} {l : Launch} {y : MethodName} {cc : ByteArray} {nL : Nat} {ret : Option FieldType} {R : Room} {mc ms : Nat} {as : List Value} {n : Nat} {M : Nat → aC} {r : Option Value} {n' : Nat} {M' : Nat → aC} (L : List (Nat × Value))
    (hy : plainName y.cls = true) (hlen : (lg_sl (as.map (a_v Γ))).length ≤ nL) (hL : lv_args 0 (as.map (a_v Γ)) = a_L Γ L)
    (k : Fr Γ l (y, cc, nL, ret, R, mc, ms) 0 L [] n 0 0 M r n' M') : Ev Γ l (y, cc, nL, ret, R, mc, ms) as n M r n' M' := by
  refine Met.ofW (cc := cc) (maxL := nL) (ret := ret) hy rfl ?_
  intro p e s m args below meth c s₁ B hml hv
  obtain ⟨rfl, hS, hP, hz, hn⟩ := hv
  have hts := atoms_spec (ws := .code y cc nL ret :: tG) B.pre
  rw [lg_entry_eq]
  exact k p e s m _ below meth c s.heap [] _ ⟨B.exec, B.bytes, B.returns, hml, findClass_of_methodNamed B.named, fun w h => hts w (List.mem_cons_of_mem _ h), B.notSynchronized, (name_of_methodNamed B.named B.method).1, hS⟩ ⟨hP, hz, va_S.rf, hn⟩ (by rw [← hL]; exact lv_entry _ hlen)
section A1
variable {Γ : aG} {l : Launch} {y : MethodName} {cc : ByteArray} {nL : Nat} {ret : Option FieldType} {R : Room} {mc ms : Nat} {pc : Nat} {L : List (Nat × Value)} {st : List Value} {n k1 k2 : Nat} {M : Nat → aC} {r : Option Value} {n' : Nat} {M' : Nat → aC}
theorem fr_iconst {z : Int} {v : Int32} (hv : Int32.ofInt z = v) (hd : decode cc pc = .ok (.iconst z, 1)) (k : Fr Γ l (y, cc, nL, ret, R, mc, ms) (pc + 1) L (.int v :: st) n k1 k2 M r n' M') : Fr Γ l (y, cc, nL, ret, R, mc, ms) pc L st n k1 k2 M r n' M' := by
  intro p e s m args below meth c H locs ls C w hl
  exact lv_iconst C.1 C.2.1 hd hv (k p e s m args below meth c H locs ls C w hl)
theorem fr_bipush {z : Int} {v : Int32} (hv : (Int8.ofInt z).toInt32 = v) (hd : decode cc pc = .ok (.bipush z, 2)) (k : Fr Γ l (y, cc, nL, ret, R, mc, ms) (pc + 2) L (.int v :: st) n k1 k2 M r n' M') : Fr Γ l (y, cc, nL, ret, R, mc, ms) pc L st n k1 k2 M r n' M' := by
  intro p e s m args below meth c H locs ls C w hl
  exact lv_bipush C.1 C.2.1 hd hv (k p e s m args below meth c H locs ls C w hl)
theorem fr_sipush {z : Int} {v : Int32} (hv : (Int16.ofInt z).toInt32 = v) (hd : decode cc pc = .ok (.sipush z, 3)) (k : Fr Γ l (y, cc, nL, ret, R, mc, ms) (pc + 3) L (.int v :: st) n k1 k2 M r n' M') : Fr Γ l (y, cc, nL, ret, R, mc, ms) pc L st n k1 k2 M r n' M' := by
  intro p e s m args below meth c H locs ls C w hl
  exact lv_sipush C.1 C.2.1 hd hv (k p e s m args below meth c H locs ls C w hl)
theorem fr_lconst {z : Fin 2} {v : Int64} (hv : Int64.ofNat (z : Nat) = v) (hd : decode cc pc = .ok (.lconst z, 1)) (k : Fr Γ l (y, cc, nL, ret, R, mc, ms) (pc + 1) L (.long v :: st) n k1 k2 M r n' M') : Fr Γ l (y, cc, nL, ret, R, mc, ms) pc L st n k1 k2 M r n' M' := by
  intro p e s m args below meth c H locs ls C w hl
  exact lv_lconst C.1 C.2.1 hd hv (k p e s m args below meth c H locs ls C w hl)
theorem fr_iload_n {j : Fin 4} {x : Int32} (h : L.lookup (j : Nat) = some (.int x)) (hd : decode cc pc = .ok (.iload_n j, 1)) (k : Fr Γ l (y, cc, nL, ret, R, mc, ms) (pc + 1) L (.int x :: st) n k1 k2 M r n' M') : Fr Γ l (y, cc, nL, ret, R, mc, ms) pc L st n k1 k2 M r n' M' := by
  intro p e s m args below meth c H locs ls C w hl
  exact lv_iload_n C.1 C.2.1 hd rfl (a_at hl h) (k p e s m args below meth c H locs ls C w hl)
theorem fr_iload {i : Nat} {x : Int32} (h : L.lookup i = some (.int x)) (hd : decode cc pc = .ok (.iload i, 2)) (k : Fr Γ l (y, cc, nL, ret, R, mc, ms) (pc + 2) L (.int x :: st) n k1 k2 M r n' M') : Fr Γ l (y, cc, nL, ret, R, mc, ms) pc L st n k1 k2 M r n' M' := by
  intro p e s m args below meth c H locs ls C w hl
  exact lv_iload C.1 C.2.1 hd (a_at hl h) (k p e s m args below meth c H locs ls C w hl)
theorem fr_lload {i : Nat} {x : Int64} (h : L.lookup i = some (.long x)) (hd : decode cc pc = .ok (.lload i, 2)) (k : Fr Γ l (y, cc, nL, ret, R, mc, ms) (pc + 2) L (.long x :: st) n k1 k2 M r n' M') : Fr Γ l (y, cc, nL, ret, R, mc, ms) pc L st n k1 k2 M r n' M' := by
  intro p e s m args below meth c H locs ls C w hl
  exact lv_lload C.1 C.2.1 hd (a_at hl h) (k p e s m args below meth c H locs ls C w hl)
theorem fr_aload_n {j : Fin 4} {x : Nat} (h : L.lookup (j : Nat) = some (.ref x)) (hd : decode cc pc = .ok (.aload_n j, 1)) (k : Fr Γ l (y, cc, nL, ret, R, mc, ms) (pc + 1) L (.ref x :: st) n k1 k2 M r n' M') : Fr Γ l (y, cc, nL, ret, R, mc, ms) pc L st n k1 k2 M r n' M' := by
  intro p e s m args below meth c H locs ls C w hl
  exact lv_aload_n C.1 C.2.1 hd rfl (a_at hl h) (k p e s m args below meth c H locs ls C w hl)
theorem fr_aload {i : Nat} {x : Nat} (h : L.lookup i = some (.ref x)) (hd : decode cc pc = .ok (.aload i, 2)) (k : Fr Γ l (y, cc, nL, ret, R, mc, ms) (pc + 2) L (.ref x :: st) n k1 k2 M r n' M') : Fr Γ l (y, cc, nL, ret, R, mc, ms) pc L st n k1 k2 M r n' M' := by
  intro p e s m args below meth c H locs ls C w hl
  exact lv_aload C.1 C.2.1 hd (a_at hl h) (k p e s m args below meth c H locs ls C w hl)
theorem fr_iadd {x z : Int32} (hd : decode cc pc = .ok (.iadd, 1)) (k : Fr Γ l (y, cc, nL, ret, R, mc, ms) (pc + 1) L (.int (x + z) :: st) n k1 k2 M r n' M') : Fr Γ l (y, cc, nL, ret, R, mc, ms) pc L (.int z :: .int x :: st) n k1 k2 M r n' M' := by
  intro p e s m args below meth c H locs ls C w hl
  exact lv_iadd C.1 C.2.1 hd (k p e s m args below meth c H locs ls C w hl)
theorem fr_isub {x z : Int32} (hd : decode cc pc = .ok (.isub, 1)) (k : Fr Γ l (y, cc, nL, ret, R, mc, ms) (pc + 1) L (.int (x - z) :: st) n k1 k2 M r n' M') : Fr Γ l (y, cc, nL, ret, R, mc, ms) pc L (.int z :: .int x :: st) n k1 k2 M r n' M' := by
  intro p e s m args below meth c H locs ls C w hl
  exact lv_isub C.1 C.2.1 hd (k p e s m args below meth c H locs ls C w hl)
theorem fr_imul {x z : Int32} (hd : decode cc pc = .ok (.imul, 1)) (k : Fr Γ l (y, cc, nL, ret, R, mc, ms) (pc + 1) L (.int (x * z) :: st) n k1 k2 M r n' M') : Fr Γ l (y, cc, nL, ret, R, mc, ms) pc L (.int z :: .int x :: st) n k1 k2 M r n' M' := by
  intro p e s m args below meth c H locs ls C w hl
  exact lv_imul C.1 C.2.1 hd (k p e s m args below meth c H locs ls C w hl)
theorem fr_iand {x z : Int32} (hd : decode cc pc = .ok (.iand, 1)) (k : Fr Γ l (y, cc, nL, ret, R, mc, ms) (pc + 1) L (.int (x &&& z) :: st) n k1 k2 M r n' M') : Fr Γ l (y, cc, nL, ret, R, mc, ms) pc L (.int z :: .int x :: st) n k1 k2 M r n' M' := by
  intro p e s m args below meth c H locs ls C w hl
  exact lv_iand C.1 C.2.1 hd (k p e s m args below meth c H locs ls C w hl)
theorem fr_ior {x z : Int32} (hd : decode cc pc = .ok (.ior, 1)) (k : Fr Γ l (y, cc, nL, ret, R, mc, ms) (pc + 1) L (.int (x ||| z) :: st) n k1 k2 M r n' M') : Fr Γ l (y, cc, nL, ret, R, mc, ms) pc L (.int z :: .int x :: st) n k1 k2 M r n' M' := by
  intro p e s m args below meth c H locs ls C w hl
  exact lv_ior C.1 C.2.1 hd (k p e s m args below meth c H locs ls C w hl)
theorem fr_idiv {x z : Int32} (h : ¬ z = 0) (hd : decode cc pc = .ok (.idiv, 1)) (k : Fr Γ l (y, cc, nL, ret, R, mc, ms) (pc + 1) L (.int (x / z) :: st) n k1 k2 M r n' M') : Fr Γ l (y, cc, nL, ret, R, mc, ms) pc L (.int z :: .int x :: st) n k1 k2 M r n' M' := by
  intro p e s m args below meth c H locs ls C w hl
  exact lv_idiv C.1 C.2.1 hd h (k p e s m args below meth c H locs ls C w hl)
theorem fr_irem {x z : Int32} (h : ¬ z = 0) (hd : decode cc pc = .ok (.irem, 1)) (k : Fr Γ l (y, cc, nL, ret, R, mc, ms) (pc + 1) L (.int (x % z) :: st) n k1 k2 M r n' M') : Fr Γ l (y, cc, nL, ret, R, mc, ms) pc L (.int z :: .int x :: st) n k1 k2 M r n' M' := by
  intro p e s m args below meth c H locs ls C w hl
  refine lv_irem C.1 C.2.1 hd h ?_
  rw [irem_eq_mod]
  exact k p e s m args below meth c H locs ls C w hl
theorem fr_ishl {x z : Int32} (hd : decode cc pc = .ok (.ishl, 1)) (k : Fr Γ l (y, cc, nL, ret, R, mc, ms) (pc + 1) L (.int (x <<< (z &&& 31)) :: st) n k1 k2 M r n' M') : Fr Γ l (y, cc, nL, ret, R, mc, ms) pc L (.int z :: .int x :: st) n k1 k2 M r n' M' := by
  intro p e s m args below meth c H locs ls C w hl
  exact lv_ishl C.1 C.2.1 hd (k p e s m args below meth c H locs ls C w hl)
theorem fr_ishr {x z : Int32} (hd : decode cc pc = .ok (.ishr, 1)) (k : Fr Γ l (y, cc, nL, ret, R, mc, ms) (pc + 1) L (.int (x >>> (z &&& 31)) :: st) n k1 k2 M r n' M') : Fr Γ l (y, cc, nL, ret, R, mc, ms) pc L (.int z :: .int x :: st) n k1 k2 M r n' M' := by
  intro p e s m args below meth c H locs ls C w hl
  exact lv_ishr C.1 C.2.1 hd (k p e s m args below meth c H locs ls C w hl)
theorem fr_iushr {x z : Int32} (hd : decode cc pc = .ok (.iushr, 1)) (k : Fr Γ l (y, cc, nL, ret, R, mc, ms) (pc + 1) L (.int ((x.toUInt32 >>> (z.toUInt32 &&& Int32.toUInt32 31)).toInt32) :: st) n k1 k2 M r n' M') : Fr Γ l (y, cc, nL, ret, R, mc, ms) pc L (.int z :: .int x :: st) n k1 k2 M r n' M' := by
  intro p e s m args below meth c H locs ls C w hl
  exact lv_iushr C.1 C.2.1 hd rfl (k p e s m args below meth c H locs ls C w hl)
theorem fr_ladd {x z : Int64} (hd : decode cc pc = .ok (.ladd, 1)) (k : Fr Γ l (y, cc, nL, ret, R, mc, ms) (pc + 1) L (.long (x + z) :: st) n k1 k2 M r n' M') : Fr Γ l (y, cc, nL, ret, R, mc, ms) pc L (.long z :: .long x :: st) n k1 k2 M r n' M' := by
  intro p e s m args below meth c H locs ls C w hl
  exact lv_ladd C.1 C.2.1 hd (k p e s m args below meth c H locs ls C w hl)
theorem fr_lmul {x z : Int64} (hd : decode cc pc = .ok (.lmul, 1)) (k : Fr Γ l (y, cc, nL, ret, R, mc, ms) (pc + 1) L (.long (x * z) :: st) n k1 k2 M r n' M') : Fr Γ l (y, cc, nL, ret, R, mc, ms) pc L (.long z :: .long x :: st) n k1 k2 M r n' M' := by
  intro p e s m args below meth c H locs ls C w hl
  exact lv_lmul C.1 C.2.1 hd (k p e s m args below meth c H locs ls C w hl)
theorem fr_lcmp {x z : Int64} (hd : decode cc pc = .ok (.lcmp, 1)) (k : Fr Γ l (y, cc, nL, ret, R, mc, ms) (pc + 1) L (.int (lg_cmp x z) :: st) n k1 k2 M r n' M') : Fr Γ l (y, cc, nL, ret, R, mc, ms) pc L (.long z :: .long x :: st) n k1 k2 M r n' M' := by
  intro p e s m args below meth c H locs ls C w hl
  exact W.lcmp C.1 C.2.1 hd (k p e s m args below meth c H locs ls C w hl)
theorem fr_i2l {x : Int32} (hd : decode cc pc = .ok (.i2l, 1)) (k : Fr Γ l (y, cc, nL, ret, R, mc, ms) (pc + 1) L (.long x.toInt64 :: st) n k1 k2 M r n' M') : Fr Γ l (y, cc, nL, ret, R, mc, ms) pc L (.int x :: st) n k1 k2 M r n' M' := by
  intro p e s m args below meth c H locs ls C w hl
  exact lv_i2l C.1 C.2.1 hd rfl (k p e s m args below meth c H locs ls C w hl)
theorem fr_i2b {x : Int32} (hd : decode cc pc = .ok (.i2b, 1)) (k : Fr Γ l (y, cc, nL, ret, R, mc, ms) (pc + 1) L (.int x.toInt8.toInt32 :: st) n k1 k2 M r n' M') : Fr Γ l (y, cc, nL, ret, R, mc, ms) pc L (.int x :: st) n k1 k2 M r n' M' := by
  intro p e s m args below meth c H locs ls C w hl
  exact lv_i2b C.1 C.2.1 hd rfl (k p e s m args below meth c H locs ls C w hl)
theorem fr_i2s {x : Int32} (hd : decode cc pc = .ok (.i2s, 1)) (k : Fr Γ l (y, cc, nL, ret, R, mc, ms) (pc + 1) L (.int x.toInt16.toInt32 :: st) n k1 k2 M r n' M') : Fr Γ l (y, cc, nL, ret, R, mc, ms) pc L (.int x :: st) n k1 k2 M r n' M' := by
  intro p e s m args below meth c H locs ls C w hl
  exact lv_i2s C.1 C.2.1 hd rfl (k p e s m args below meth c H locs ls C w hl)
theorem fr_i2c {x : Int32} (hd : decode cc pc = .ok (.i2c, 1)) (k : Fr Γ l (y, cc, nL, ret, R, mc, ms) (pc + 1) L (.int (x.toUInt32 % 65536).toInt32 :: st) n k1 k2 M r n' M') : Fr Γ l (y, cc, nL, ret, R, mc, ms) pc L (.int x :: st) n k1 k2 M r n' M' := by
  intro p e s m args below meth c H locs ls C w hl
  exact lv_i2c C.1 C.2.1 hd rfl (k p e s m args below meth c H locs ls C w hl)
theorem fr_dup {v : Value} (h : v.category = 1) (hd : decode cc pc = .ok (.dup, 1)) (k : Fr Γ l (y, cc, nL, ret, R, mc, ms) (pc + 1) L (v :: v :: st) n k1 k2 M r n' M') : Fr Γ l (y, cc, nL, ret, R, mc, ms) pc L (v :: st) n k1 k2 M r n' M' := by
  intro p e s m args below meth c H locs ls C w hl
  exact lv_dup C.1 C.2.1 hd ((a_v_cat Γ v).trans h) (k p e s m args below meth c H locs ls C w hl)
theorem fr_pop {v : Value} (h : v.category = 1) (hd : decode cc pc = .ok (.pop, 1)) (k : Fr Γ l (y, cc, nL, ret, R, mc, ms) (pc + 1) L st n k1 k2 M r n' M') : Fr Γ l (y, cc, nL, ret, R, mc, ms) pc L (v :: st) n k1 k2 M r n' M' := by
  intro p e s m args below meth c H locs ls C w hl
  exact lv_pop C.1 C.2.1 hd ((a_v_cat Γ v).trans h) (k p e s m args below meth c H locs ls C w hl)
theorem fr_dup2 {v u : Value} (h : v.category = 1) (g : u.category = 1) (hd : decode cc pc = .ok (.dup2, 1)) (k : Fr Γ l (y, cc, nL, ret, R, mc, ms) (pc + 1) L (v :: u :: v :: u :: st) n k1 k2 M r n' M') : Fr Γ l (y, cc, nL, ret, R, mc, ms) pc L (v :: u :: st) n k1 k2 M r n' M' := by
  intro p e s m args below meth c H locs ls C w hl
  exact lv_dup2_11 C.1 C.2.1 hd ((a_v_cat Γ v).trans h) ((a_v_cat Γ u).trans g) (k p e s m args below meth c H locs ls C w hl)
theorem a_flt (Γ : aG) (x : Nat × Value) (f : Nat × Value → Bool) {g : Nat × Value → Bool} {L : List (Nat × Value)} (h : ∀ q : Nat × Value, g (q.1, a_v Γ q.2) = f q) : (x.1, a_v Γ x.2) :: (a_L Γ L).filter g = a_L Γ (x :: L.filter f) := by
  show _ = (x.1, a_v Γ x.2) :: (L.filter f).map _
  congr 1
  unfold a_L
  rw [List.filter_map]
  congr 1
  apply List.filter_congr
  intro q _
  exact h q
theorem fr_istore_n {j : Fin 4} {x : Int32} (L1 : List (Nat × Value)) (hn : (j : Nat) < nL) (hL : ((j : Nat), .int x) :: L.filter (fun q => !(q.1 == (j : Nat)) && !(q.1 + 1 == (j : Nat) && q.2.category == 2)) = L1) (hd : decode cc pc = .ok (.istore_n j, 1)) (k : Fr Γ l (y, cc, nL, ret, R, mc, ms) (pc + 1) L1 st n k1 k2 M r n' M') : Fr Γ l (y, cc, nL, ret, R, mc, ms) pc L (.int x :: st) n k1 k2 M r n' M' := by
  intro p e s m args below meth c H locs ls C w hl
  exact lv_istore_n C.1 C.2.1 hd rfl hl hn (lv' := a_L Γ L1) (by rw [← hL]; refine a_flt Γ ((j : Nat), .int x) _ ?_; intro q; simp only [a_v_cat]) (fun ls hl => k p e s m args below meth c H locs ls C w hl)
theorem fr_istore {i : Nat} {x : Int32} (L1 : List (Nat × Value)) (hn : i < nL) (hL : (i, .int x) :: L.filter (fun q => !(q.1 == i) && !(q.1 + 1 == i && q.2.category == 2)) = L1) (hd : decode cc pc = .ok (.istore i, 2)) (k : Fr Γ l (y, cc, nL, ret, R, mc, ms) (pc + 2) L1 st n k1 k2 M r n' M') : Fr Γ l (y, cc, nL, ret, R, mc, ms) pc L (.int x :: st) n k1 k2 M r n' M' := by
  intro p e s m args below meth c H locs ls C w hl
  exact lv_istore C.1 C.2.1 hd hl hn (lv' := a_L Γ L1) (by rw [← hL]; refine a_flt Γ (i, .int x) _ ?_; intro q; simp only [a_v_cat]) (fun ls hl => k p e s m args below meth c H locs ls C w hl)
theorem fr_astore_n {j : Fin 4} {x : Nat} (L1 : List (Nat × Value)) (hn : (j : Nat) < nL) (hL : ((j : Nat), .ref x) :: L.filter (fun q => !(q.1 == (j : Nat)) && !(q.1 + 1 == (j : Nat) && q.2.category == 2)) = L1) (hd : decode cc pc = .ok (.astore_n j, 1)) (k : Fr Γ l (y, cc, nL, ret, R, mc, ms) (pc + 1) L1 st n k1 k2 M r n' M') : Fr Γ l (y, cc, nL, ret, R, mc, ms) pc L (.ref x :: st) n k1 k2 M r n' M' := by
  intro p e s m args below meth c H locs ls C w hl
  exact lv_astore_n C.1 C.2.1 hd rfl hl hn (lv' := a_L Γ L1) (by rw [← hL]; refine a_flt Γ ((j : Nat), .ref x) _ ?_; intro q; simp only [a_v_cat]) (fun ls hl => k p e s m args below meth c H locs ls C w hl)
theorem fr_astore {i : Nat} {x : Nat} (L1 : List (Nat × Value)) (hn : i < nL) (hL : (i, .ref x) :: L.filter (fun q => !(q.1 == i) && !(q.1 + 1 == i && q.2.category == 2)) = L1) (hd : decode cc pc = .ok (.astore i, 2)) (k : Fr Γ l (y, cc, nL, ret, R, mc, ms) (pc + 2) L1 st n k1 k2 M r n' M') : Fr Γ l (y, cc, nL, ret, R, mc, ms) pc L (.ref x :: st) n k1 k2 M r n' M' := by
  intro p e s m args below meth c H locs ls C w hl
  exact lv_astore C.1 C.2.1 hd hl hn (lv' := a_L Γ L1) (by rw [← hL]; refine a_flt Γ (i, .ref x) _ ?_; intro q; simp only [a_v_cat]) (fun ls hl => k p e s m args below meth c H locs ls C w hl)
theorem fr_lstore {i : Nat} {x : Int64} (L1 : List (Nat × Value)) (hn : i + 1 < nL) (hL : (i, .long x) :: L.filter (fun q => !(q.1 == i) && (!(q.1 == i + 1) && !(q.1 + 1 == i && q.2.category == 2))) = L1) (hd : decode cc pc = .ok (.lstore i, 2)) (k : Fr Γ l (y, cc, nL, ret, R, mc, ms) (pc + 2) L1 st n k1 k2 M r n' M') : Fr Γ l (y, cc, nL, ret, R, mc, ms) pc L (.long x :: st) n k1 k2 M r n' M' := by
  intro p e s m args below meth c H locs ls C w hl
  exact lv_lstore C.1 C.2.1 hd hl hn (lv' := a_L Γ L1) (by rw [← hL]; refine a_flt Γ (i, .long x) _ ?_; intro q; simp only [a_v_cat]) (fun ls hl => k p e s m args below meth c H locs ls C w hl)
theorem fr_iinc {i : Nat} {z : Int} {x v : Int32} (L1 : List (Nat × Value)) (h : L.lookup i = some (.int x)) (hv : x + Int32.ofInt z = v) (hn : i < nL) (hL : (i, .int v) :: L.filter (fun q => !(q.1 == i) && !(q.1 + 1 == i && q.2.category == 2)) = L1) (hd : decode cc pc = .ok (.iinc i z, 3)) (k : Fr Γ l (y, cc, nL, ret, R, mc, ms) (pc + 3) L1 st n k1 k2 M r n' M') : Fr Γ l (y, cc, nL, ret, R, mc, ms) pc L st n k1 k2 M r n' M' := by
  intro p e s m args below meth c H locs ls C w hl
  obtain ⟨j, hj⟩ := List.getElem?_of_mem (List.mem_map.mpr ⟨(i, .int x), a_lk h, rfl⟩ : (i, a_v Γ (.int x)) ∈ a_L Γ L)
  exact lv_iinc C.1 C.2.1 hd hl hj hv hn (lv' := a_L Γ L1) (by rw [← hL]; refine a_flt Γ (i, .int v) _ ?_; intro q; simp only [a_v_cat]) (fun ls hl => k p e s m args below meth c H locs ls C w hl)
theorem a_pick {Γ : aG} {L : List (Nat × Value)} {ks : List Nat} : lv_pick (a_L Γ L) ks = a_L Γ (lv_pick L ks) := by
  unfold lv_pick a_L
  rw [List.map_filterMap]
  congr 1
  funext k
  rw [List.getElem?_map]
theorem fr_sub (ks : List Nat) {L1 : List (Nat × Value)} (hL : lv_pick L ks = L1) (k : Fr Γ l (y, cc, nL, ret, R, mc, ms) pc L1 st n k1 k2 M r n' M') : Fr Γ l (y, cc, nL, ret, R, mc, ms) pc L st n k1 k2 M r n' M' := by
  intro p e s m args below meth c H locs ls C w hl
  exact k p e s m args below meth c H locs ls C w (lv_sub hl ks (by rw [← hL]; exact a_pick))
theorem fr_nm {x : Int32} (k : ∀ z : Int32, z = x → Fr Γ l (y, cc, nL, ret, R, mc, ms) pc L (.int z :: st) n k1 k2 M r n' M') : Fr Γ l (y, cc, nL, ret, R, mc, ms) pc L (.int x :: st) n k1 k2 M r n' M' := k x rfl
theorem fr_eq {x z : Int32} (h : x = z) (k : Fr Γ l (y, cc, nL, ret, R, mc, ms) pc L (.int z :: st) n k1 k2 M r n' M') : Fr Γ l (y, cc, nL, ret, R, mc, ms) pc L (.int x :: st) n k1 k2 M r n' M' := h ▸ k
theorem fr_mem {M1 : Nat → aC} (h : M = M1) (k : Fr Γ l (y, cc, nL, ret, R, mc, ms) pc L st n k1 k2 M1 r n' M') : Fr Γ l (y, cc, nL, ret, R, mc, ms) pc L st n k1 k2 M r n' M' := h ▸ k
theorem fr_if_eq {x : Int32} {off : Int} (tgt : Nat) (ht : (pc : Int) + off = (tgt : Int)) (hd : decode cc pc = .ok (.ifCond .eq off, 3)) (kt : x = 0 → Fr Γ l (y, cc, nL, ret, R, mc, ms) tgt L st n k1 k2 M r n' M') (kf : ¬ x = 0 → Fr Γ l (y, cc, nL, ret, R, mc, ms) (pc + 3) L st n k1 k2 M r n' M') : Fr Γ l (y, cc, nL, ret, R, mc, ms) pc L (.int x :: st) n k1 k2 M r n' M' := by
  intro p e s m args below meth c H locs ls C w hl
  exact lv_if_eq C.1 C.2.1 hd ht (fun q => kt q p e s m args below meth c H locs ls C w hl) (fun q => kf q p e s m args below meth c H locs ls C w hl)
theorem fr_icmp_eq {x z : Int32} {off : Int} (tgt : Nat) (ht : (pc : Int) + off = (tgt : Int)) (hd : decode cc pc = .ok (.if_icmp .eq off, 3)) (kt : x = z → Fr Γ l (y, cc, nL, ret, R, mc, ms) tgt L st n k1 k2 M r n' M') (kf : ¬ x = z → Fr Γ l (y, cc, nL, ret, R, mc, ms) (pc + 3) L st n k1 k2 M r n' M') : Fr Γ l (y, cc, nL, ret, R, mc, ms) pc L (.int z :: .int x :: st) n k1 k2 M r n' M' := by
  intro p e s m args below meth c H locs ls C w hl
  exact lv_icmp_eq C.1 C.2.1 hd ht (fun q => kt q p e s m args below meth c H locs ls C w hl) (fun q => kf q p e s m args below meth c H locs ls C w hl)
theorem fr_if_ne {x : Int32} {off : Int} (tgt : Nat) (ht : (pc : Int) + off = (tgt : Int)) (hd : decode cc pc = .ok (.ifCond .ne off, 3)) (kt : ¬ x = 0 → Fr Γ l (y, cc, nL, ret, R, mc, ms) tgt L st n k1 k2 M r n' M') (kf : x = 0 → Fr Γ l (y, cc, nL, ret, R, mc, ms) (pc + 3) L st n k1 k2 M r n' M') : Fr Γ l (y, cc, nL, ret, R, mc, ms) pc L (.int x :: st) n k1 k2 M r n' M' := by
  intro p e s m args below meth c H locs ls C w hl
  exact lv_if_ne C.1 C.2.1 hd ht (fun q => kt q p e s m args below meth c H locs ls C w hl) (fun q => kf q p e s m args below meth c H locs ls C w hl)
theorem fr_icmp_ne {x z : Int32} {off : Int} (tgt : Nat) (ht : (pc : Int) + off = (tgt : Int)) (hd : decode cc pc = .ok (.if_icmp .ne off, 3)) (kt : ¬ x = z → Fr Γ l (y, cc, nL, ret, R, mc, ms) tgt L st n k1 k2 M r n' M') (kf : x = z → Fr Γ l (y, cc, nL, ret, R, mc, ms) (pc + 3) L st n k1 k2 M r n' M') : Fr Γ l (y, cc, nL, ret, R, mc, ms) pc L (.int z :: .int x :: st) n k1 k2 M r n' M' := by
  intro p e s m args below meth c H locs ls C w hl
  exact lv_icmp_ne C.1 C.2.1 hd ht (fun q => kt q p e s m args below meth c H locs ls C w hl) (fun q => kf q p e s m args below meth c H locs ls C w hl)
theorem fr_if_lt {x : Int32} {off : Int} (tgt : Nat) (ht : (pc : Int) + off = (tgt : Int)) (hd : decode cc pc = .ok (.ifCond .lt off, 3)) (kt : x < 0 → Fr Γ l (y, cc, nL, ret, R, mc, ms) tgt L st n k1 k2 M r n' M') (kf : ¬ x < 0 → Fr Γ l (y, cc, nL, ret, R, mc, ms) (pc + 3) L st n k1 k2 M r n' M') : Fr Γ l (y, cc, nL, ret, R, mc, ms) pc L (.int x :: st) n k1 k2 M r n' M' := by
  intro p e s m args below meth c H locs ls C w hl
  exact lv_if_lt C.1 C.2.1 hd ht (fun q => kt q p e s m args below meth c H locs ls C w hl) (fun q => kf q p e s m args below meth c H locs ls C w hl)
theorem fr_icmp_lt {x z : Int32} {off : Int} (tgt : Nat) (ht : (pc : Int) + off = (tgt : Int)) (hd : decode cc pc = .ok (.if_icmp .lt off, 3)) (kt : x < z → Fr Γ l (y, cc, nL, ret, R, mc, ms) tgt L st n k1 k2 M r n' M') (kf : ¬ x < z → Fr Γ l (y, cc, nL, ret, R, mc, ms) (pc + 3) L st n k1 k2 M r n' M') : Fr Γ l (y, cc, nL, ret, R, mc, ms) pc L (.int z :: .int x :: st) n k1 k2 M r n' M' := by
  intro p e s m args below meth c H locs ls C w hl
  exact lv_icmp_lt C.1 C.2.1 hd ht (fun q => kt q p e s m args below meth c H locs ls C w hl) (fun q => kf q p e s m args below meth c H locs ls C w hl)
theorem fr_if_ge {x : Int32} {off : Int} (tgt : Nat) (ht : (pc : Int) + off = (tgt : Int)) (hd : decode cc pc = .ok (.ifCond .ge off, 3)) (kt : 0 ≤ x → Fr Γ l (y, cc, nL, ret, R, mc, ms) tgt L st n k1 k2 M r n' M') (kf : ¬ 0 ≤ x → Fr Γ l (y, cc, nL, ret, R, mc, ms) (pc + 3) L st n k1 k2 M r n' M') : Fr Γ l (y, cc, nL, ret, R, mc, ms) pc L (.int x :: st) n k1 k2 M r n' M' := by
  intro p e s m args below meth c H locs ls C w hl
  exact lv_if_ge C.1 C.2.1 hd ht (fun q => kt q p e s m args below meth c H locs ls C w hl) (fun q => kf q p e s m args below meth c H locs ls C w hl)
theorem fr_icmp_ge {x z : Int32} {off : Int} (tgt : Nat) (ht : (pc : Int) + off = (tgt : Int)) (hd : decode cc pc = .ok (.if_icmp .ge off, 3)) (kt : z ≤ x → Fr Γ l (y, cc, nL, ret, R, mc, ms) tgt L st n k1 k2 M r n' M') (kf : ¬ z ≤ x → Fr Γ l (y, cc, nL, ret, R, mc, ms) (pc + 3) L st n k1 k2 M r n' M') : Fr Γ l (y, cc, nL, ret, R, mc, ms) pc L (.int z :: .int x :: st) n k1 k2 M r n' M' := by
  intro p e s m args below meth c H locs ls C w hl
  exact lv_icmp_ge C.1 C.2.1 hd ht (fun q => kt q p e s m args below meth c H locs ls C w hl) (fun q => kf q p e s m args below meth c H locs ls C w hl)
theorem fr_if_gt {x : Int32} {off : Int} (tgt : Nat) (ht : (pc : Int) + off = (tgt : Int)) (hd : decode cc pc = .ok (.ifCond .gt off, 3)) (kt : 0 < x → Fr Γ l (y, cc, nL, ret, R, mc, ms) tgt L st n k1 k2 M r n' M') (kf : ¬ 0 < x → Fr Γ l (y, cc, nL, ret, R, mc, ms) (pc + 3) L st n k1 k2 M r n' M') : Fr Γ l (y, cc, nL, ret, R, mc, ms) pc L (.int x :: st) n k1 k2 M r n' M' := by
  intro p e s m args below meth c H locs ls C w hl
  exact lv_if_gt C.1 C.2.1 hd ht (fun q => kt q p e s m args below meth c H locs ls C w hl) (fun q => kf q p e s m args below meth c H locs ls C w hl)
theorem fr_icmp_gt {x z : Int32} {off : Int} (tgt : Nat) (ht : (pc : Int) + off = (tgt : Int)) (hd : decode cc pc = .ok (.if_icmp .gt off, 3)) (kt : z < x → Fr Γ l (y, cc, nL, ret, R, mc, ms) tgt L st n k1 k2 M r n' M') (kf : ¬ z < x → Fr Γ l (y, cc, nL, ret, R, mc, ms) (pc + 3) L st n k1 k2 M r n' M') : Fr Γ l (y, cc, nL, ret, R, mc, ms) pc L (.int z :: .int x :: st) n k1 k2 M r n' M' := by
  intro p e s m args below meth c H locs ls C w hl
  exact lv_icmp_gt C.1 C.2.1 hd ht (fun q => kt q p e s m args below meth c H locs ls C w hl) (fun q => kf q p e s m args below meth c H locs ls C w hl)
theorem fr_if_le {x : Int32} {off : Int} (tgt : Nat) (ht : (pc : Int) + off = (tgt : Int)) (hd : decode cc pc = .ok (.ifCond .le off, 3)) (kt : x ≤ 0 → Fr Γ l (y, cc, nL, ret, R, mc, ms) tgt L st n k1 k2 M r n' M') (kf : ¬ x ≤ 0 → Fr Γ l (y, cc, nL, ret, R, mc, ms) (pc + 3) L st n k1 k2 M r n' M') : Fr Γ l (y, cc, nL, ret, R, mc, ms) pc L (.int x :: st) n k1 k2 M r n' M' := by
  intro p e s m args below meth c H locs ls C w hl
  exact lv_if_le C.1 C.2.1 hd ht (fun q => kt q p e s m args below meth c H locs ls C w hl) (fun q => kf q p e s m args below meth c H locs ls C w hl)
theorem fr_icmp_le {x z : Int32} {off : Int} (tgt : Nat) (ht : (pc : Int) + off = (tgt : Int)) (hd : decode cc pc = .ok (.if_icmp .le off, 3)) (kt : x ≤ z → Fr Γ l (y, cc, nL, ret, R, mc, ms) tgt L st n k1 k2 M r n' M') (kf : ¬ x ≤ z → Fr Γ l (y, cc, nL, ret, R, mc, ms) (pc + 3) L st n k1 k2 M r n' M') : Fr Γ l (y, cc, nL, ret, R, mc, ms) pc L (.int z :: .int x :: st) n k1 k2 M r n' M' := by
  intro p e s m args below meth c H locs ls C w hl
  exact lv_icmp_le C.1 C.2.1 hd ht (fun q => kt q p e s m args below meth c H locs ls C w hl) (fun q => kf q p e s m args below meth c H locs ls C w hl)
theorem fr_goto {off : Int} (tgt : Nat) (ht : (pc : Int) + off = (tgt : Int)) (hd : decode cc pc = .ok (.goto off, 3)) (k : Fr Γ l (y, cc, nL, ret, R, mc, ms) tgt L st n k1 k2 M r n' M') : Fr Γ l (y, cc, nL, ret, R, mc, ms) pc L st n k1 k2 M r n' M' := by
  intro p e s m args below meth c H locs ls C w hl
  exact lv_goto C.1 C.2.1 hd ht (k p e s m args below meth c H locs ls C w hl)
theorem fr_tOut {x : Int32} {dflt lo hi : Int} {offs : Array Int} {len : Nat} (tgt : Nat) (h : x.toInt < lo ∨ hi < x.toInt) (ht : (pc : Int) + dflt = (tgt : Int)) (hd : decode cc pc = .ok (.tableswitch dflt lo hi offs, len)) (k : Fr Γ l (y, cc, nL, ret, R, mc, ms) tgt L st n k1 k2 M r n' M') : Fr Γ l (y, cc, nL, ret, R, mc, ms) pc L (.int x :: st) n k1 k2 M r n' M' := by
  intro p e s m args below meth c H locs ls C w hl
  exact lv_tableOut C.1 C.2.1 hd h ht (k p e s m args below meth c H locs ls C w hl)
theorem fr_tIn {x : Int32} {dflt lo hi : Int} {offs : Array Int} {len : Nat} {off : Int} (tgt : Nat) (h1 : ¬ x.toInt < lo) (h2 : ¬ hi < x.toInt) (ho : offs[(x.toInt - lo).toNat]? = some off) (ht : (pc : Int) + off = (tgt : Int)) (hd : decode cc pc = .ok (.tableswitch dflt lo hi offs, len)) (k : Fr Γ l (y, cc, nL, ret, R, mc, ms) tgt L st n k1 k2 M r n' M') : Fr Γ l (y, cc, nL, ret, R, mc, ms) pc L (.int x :: st) n k1 k2 M r n' M' := by
  intro p e s m args below meth c H locs ls C w hl
  exact lv_tableIn C.1 C.2.1 hd h1 h2 ho ht (k p e s m args below meth c H locs ls C w hl)
theorem fr_ldc {i : Nat} {v : Int32} (hw : Cond.constant y.cls i v ∈ tG) (hd : decode cc pc = .ok (.ldc i, 2)) (k : Fr Γ l (y, cc, nL, ret, R, mc, ms) (pc + 2) L (.int v :: st) n k1 k2 M r n' M') : Fr Γ l (y, cc, nL, ret, R, mc, ms) pc L st n k1 k2 M r n' M' := by
  intro p e s m args below meth c H locs ls C w hl
  exact lv_ldc C.1 C.2.1 C.2.2.2.2.1 (C.2.2.2.2.2.1 _ hw) hd (k p e s m args below meth c H locs ls C w hl)
theorem fr_ldcw {i : Nat} {v : Int32} (hw : Cond.constant y.cls i v ∈ tG) (hd : decode cc pc = .ok (.ldc_w i, 3)) (k : Fr Γ l (y, cc, nL, ret, R, mc, ms) (pc + 3) L (.int v :: st) n k1 k2 M r n' M') : Fr Γ l (y, cc, nL, ret, R, mc, ms) pc L st n k1 k2 M r n' M' := by
  intro p e s m args below meth c H locs ls C w hl
  exact lv_ldcw C.1 C.2.1 C.2.2.2.2.1 (C.2.2.2.2.2.1 _ hw) hd (k p e s m args below meth c H locs ls C w hl)
theorem a_fin {Γ : aG} {s t : State} {H : Heap} {locs : List Loc} {n k1 : Nat} {M : Nat → aC} {r : Option Value} {a : Array Value} (w : a_W Γ s n k1 M H locs) (ht : t.heap = H) : a_Q Γ r n M a s (.returned (r.map (a_v Γ))) t :=
  ⟨rfl, by rw [ht]; exact w.1, w.2.2.2, w.2.2.1.F ht⟩
theorem fr_ireturn {x z : Int32} {ty : FieldType} (hr : ret = some ty) (hz : x = z) (hm : M = M') (hn : narrow ty (.int x) = .int x) (hd : decode cc pc = .ok (.ireturn, 1)) : Fr Γ l (y, cc, nL, ret, R, k1, k2) pc L [.int x] n k1 k2 M (some (.int z)) n M' := by
  intro p e s m args below meth c H locs ls C w hl
  subst hr hz hm
  exact W.zret C.1 C.2.1 C.2.2.1 hn (fun t ht hW => a_fin w ht) w.2.2.1.2.2 hd C.2.2.2.2.2.2.1
theorem fr_lreturn {x z : Int64} (hr : ret = some .long) (hz : x = z) (hm : M = M') (hd : decode cc pc = .ok (.lreturn, 1)) : Fr Γ l (y, cc, nL, ret, R, k1, k2) pc L [.long x] n k1 k2 M (some (.long z)) n M' := by
  intro p e s m args below meth c H locs ls C w hl
  subst hr hz hm
  exact W.lret C.1 C.2.1 C.2.2.1 (fun t ht hW => a_fin w ht) w.2.2.1.2.2 hd C.2.2.2.2.2.2.1
theorem fr_return (hr : ret = none) (hm : M = M') (hd : decode cc pc = .ok (.return_, 1)) : Fr Γ l (y, cc, nL, ret, R, k1, k2) pc L [] n k1 k2 M none n M' := by
  intro p e s m args below meth c H locs ls C w hl
  subst hr hm
  exact W.vret C.1 C.2.1 C.2.2.1 (fun t ht hW => a_fin w ht) w.2.2.1.2.2 hd C.2.2.2.2.2.2.1
theorem fr_areturn {x : Nat} {rt : FieldType} (hr : ret = some rt) (hrt : (∃ n, rt = .object n) ∨ ∃ t, rt = .array t) (hm : M = M') (hd : decode cc pc = .ok (.areturn, 1)) : Fr Γ l (y, cc, nL, ret, R, k1, k2) pc L [.ref x] n k1 k2 M (some (.ref x)) n M' := by
  intro p e s m args below meth c H locs ls C w hl
  subst hr hm
  exact W.aret C.1 C.2.1 C.2.2.1 hrt (Or.inr ⟨_, rfl⟩) (fun t ht hW => a_fin w ht) w.2.2.1.2.2 hd C.2.2.2.2.2.2.1
theorem fr_get {i ci ix k0 N : Nat} {T : u_T} {fs : List Value} {Cn : String} {v : Value} (hc : vwCl[ci]? = some (Cn, T, N)) (hin : ∀ w ∈ u_ws Cn T N, w ∈ tG) (hk : k0 < N) (hw : Cond.fieldLink y.cls ix (T k0).1 (T k0).2.1 (T k0).2.2.1 ∈ tG) (hi : i < n) (hM : M i = aO ci fs) (hv : fs[k0]? = some v) (hd : decode cc pc = .ok (.getfield ix, 3)) (k : Fr Γ l (y, cc, nL, ret, R, mc, ms) (pc + 3) L (v :: st) n k1 k2 M r n' M') : Fr Γ l (y, cc, nL, ret, R, mc, ms) pc L (.ref i :: st) n k1 k2 M r n' M' := by
  intro p e s m args below meth c H locs ls C w hl
  have h1 : (a_w Γ n M)[i]? = some (Γ.2.1 + i, .inr (ci, fs.map (a_v Γ))) := by rw [a_w_at hi, hM]; rfl
  have h2 := va_get (rest := st.map (a_v Γ)) (v := a_v Γ v) C.1 C.2.1 C.2.2.2.2.2.1 hin C.2.2.2.2.1 C.2.2.2.2.2.2.2.2.2.2.2.2.2.2.2.1 w.1 i h1 hc k0 hk (C.2.2.2.2.2.1 _ hw) (fun _ h => h) (by rw [List.getElem?_map, hv]; rfl) hd (k p e s m args below meth c H locs ls C w hl)
  rw [← a_ad_lt (Γ := Γ) (Nat.lt_of_lt_of_le hi w.2.2.2)] at h2
  exact h2
theorem fr_put {i ci ix k0 N : Nat} {T : u_T} {fs : List Value} {Cn : String} {v : Value} {ty : FieldType} (ty0 : Nat → FieldType) (hty : ∀ k, k < N → parseFieldDescriptor (T k).2.2.1 = some (ty0 k)) (hnm : ∀ a, a < N → ∀ b, b < N → a ≠ b → (T a).2.1 ≠ (T b).2.1) (hc : vwCl[ci]? = some (Cn, T, N)) (hin : ∀ w ∈ u_ws Cn T N, w ∈ tG) (hk : k0 < N) (hw : Cond.fieldLink y.cls ix (T k0).1 (T k0).2.1 (T k0).2.2.1 ∈ tG) (hfin : (T k0).2.2.2 = false) (hdp : parseFieldDescriptor (T k0).2.2.1 = some ty) (hnr : narrow ty (a_v Γ v) = a_v Γ v) (hft : fits ty (a_v Γ v) = true) (hl0 : k0 < fs.length) (hi : i < n) (hM : M i = aO ci fs) (hd : decode cc pc = .ok (.putfield ix, 3)) (k : Fr Γ l (y, cc, nL, ret, R, mc, ms) (pc + 3) L st n k1 k2 (a_up M i (aO ci (fs.set k0 v))) r n' M') : Fr Γ l (y, cc, nL, ret, R, mc, ms) pc L (v :: .ref i :: st) n k1 k2 M r n' M' := by
  intro p e s m args below meth c H locs ls C w hl
  have h1 : (a_w Γ n M)[i]? = some (a_ad Γ i, .inr (ci, fs.map (a_v Γ))) := by rw [a_w_at hi, hM, a_ad_lt (Nat.lt_of_lt_of_le hi w.2.2.2)]; rfl
  refine va_put C.1 C.2.1 C.2.2.2.2.2.1 hin ty0 hty hnm C.2.2.2.2.1 C.2.2.2.2.2.2.2.2.2.2.2.2.2.2.2.1 w.1 a_w_D w.2.2.1 i h1 hc k0 hk (C.2.2.2.2.2.1 _ hw) (fun _ h => h) hfin hdp hnr hft (by rw [List.length_map]; exact hl0) hd (fun H1 locs1 q1 _ q3 => ?_)
  have e1 : (a_w Γ n M).set i (a_ad Γ i, .inr (ci, (fs.map (a_v Γ)).set k0 (a_v Γ v))) = a_w Γ n (a_up M i (aO ci (fs.set k0 v))) := by
    rw [← a_w_set, ← List.map_set, a_ad_lt (Nat.lt_of_lt_of_le hi w.2.2.2)]
    rfl
  rw [e1] at q1
  exact k p e s m args below meth c H1 locs1 ls C ⟨q1, w.2.1, q3, w.2.2.2⟩ hl
theorem fr_putF {i ci ix k0 N : Nat} {T : u_T} {fs : List Value} {Cn : String} {v : Value} {ty : FieldType} (ty0 : Nat → FieldType) (hty : ∀ k, k < N → parseFieldDescriptor (T k).2.2.1 = some (ty0 k)) (hnm : ∀ a, a < N → ∀ b, b < N → a ≠ b → (T a).2.1 ≠ (T b).2.1) (hc : vwCl[ci]? = some (Cn, T, N)) (hin : ∀ w ∈ u_ws Cn T N, w ∈ tG) (hk : k0 < N) (hw : Cond.fieldLink y.cls ix (T k0).1 (T k0).2.1 (T k0).2.2.1 ∈ tG) (hfin : (T k0).2.2.2 = true) (hin2 : y.name = "<init>") (hdecl : (T k0).1 = y.cls) (hdp : parseFieldDescriptor (T k0).2.2.1 = some ty) (hnr : narrow ty (a_v Γ v) = a_v Γ v) (hft : fits ty (a_v Γ v) = true) (hl0 : k0 < fs.length) (hi : i < n) (hM : M i = aO ci fs) (hd : decode cc pc = .ok (.putfield ix, 3)) (k : Fr Γ l (y, cc, nL, ret, R, mc, ms) (pc + 3) L st n k1 k2 (a_up M i (aO ci (fs.set k0 v))) r n' M') : Fr Γ l (y, cc, nL, ret, R, mc, ms) pc L (v :: .ref i :: st) n k1 k2 M r n' M' := by
  intro p e s m args below meth c H locs ls C w hl
  have h1 : (a_w Γ n M)[i]? = some (a_ad Γ i, .inr (ci, fs.map (a_v Γ))) := by rw [a_w_at hi, hM, a_ad_lt (Nat.lt_of_lt_of_le hi w.2.2.2)]; rfl
  refine va_putF C.1 C.2.1 C.2.2.2.2.2.1 hin ty0 hty hnm C.2.2.2.2.1 C.2.2.2.2.2.2.2.2.2.2.2.2.2.2.2.1 w.1 a_w_D w.2.2.1 i h1 hc k0 hk (C.2.2.2.2.2.1 _ hw) (fun _ h => h) hfin (C.2.2.2.2.2.2.2.1.trans hin2) hdecl hdp hnr hft (by rw [List.length_map]; exact hl0) hd (fun H1 locs1 q1 _ q3 => ?_)
  have e1 : (a_w Γ n M).set i (a_ad Γ i, .inr (ci, (fs.map (a_v Γ)).set k0 (a_v Γ v))) = a_w Γ n (a_up M i (aO ci (fs.set k0 v))) := by
    rw [← a_w_set, ← List.map_set, a_ad_lt (Nat.lt_of_lt_of_le hi w.2.2.2)]
    rfl
  rw [e1] at q1
  exact k p e s m args below meth c H1 locs1 ls C ⟨q1, w.2.1, q3, w.2.2.2⟩ hl
theorem fr_iald {i N : Nat} {f : Nat → Int32} {x : Int32} (j : Nat) (hx : x = nI j) (hi : i < n) (hM : M i = aI N f) (hj : j < N) (hN : N < 2 ^ 31) (hd : decode cc pc = .ok (.iaload, 1)) (k : Fr Γ l (y, cc, nL, ret, R, mc, ms) (pc + 1) L (.int (f j) :: st) n k1 k2 M r n' M') : Fr Γ l (y, cc, nL, ret, R, mc, ms) pc L (.int x :: .ref i :: st) n k1 k2 M r n' M' := by
  intro p e s m args below meth c H locs ls C w hl
  subst hx
  have h1 : (a_w Γ n M)[i]? = some (a_ad Γ i, .inl (Γ.2.2.1 0, N, .inl f)) := by rw [a_w_at hi, hM, a_ad_lt (Nat.lt_of_lt_of_le hi w.2.2.2)]; rfl
  refine va_iald C.1 C.2.1 C.2.2.2.2.2.2.2.2.2.2.2.2.2.2.2.1 w.1 i 0 h1 rfl (vp_in_nI hj hN) hd ?_
  rw [nI_clamp (Nat.lt_trans hj hN)]
  exact k p e s m args below meth c H locs ls C w hl
theorem fr_iast {i N : Nat} {f : Nat → Int32} {x z : Int32} (j : Nat) (hz : z = nI j) (hi : i < n) (hM : M i = aI N f) (hj : j < N) (hN : N < 2 ^ 31) (hd : decode cc pc = .ok (.iastore, 1)) (k : Fr Γ l (y, cc, nL, ret, R, mc, ms) (pc + 1) L st n k1 k2 (a_up M i (aI N (upd f j x))) r n' M') : Fr Γ l (y, cc, nL, ret, R, mc, ms) pc L (.int x :: .int z :: .ref i :: st) n k1 k2 M r n' M' := by
  intro p e s m args below meth c H locs ls C w hl
  subst hz
  have h1 : (a_w Γ n M)[i]? = some (a_ad Γ i, .inl (Γ.2.2.1 0, N, .inl f)) := by rw [a_w_at hi, hM, a_ad_lt (Nat.lt_of_lt_of_le hi w.2.2.2)]; rfl
  refine va_iast C.1 C.2.1 C.2.2.2.2.2.2.2.2.2.2.2.2.2.2.2.1 w.1 a_w_D w.2.2.1 i 0 h1 rfl (vp_in_nI hj hN) hd (fun H1 locs1 q1 _ q3 => ?_)
  rw [nI_clamp (Nat.lt_trans hj hN)] at q1
  have e1 : (a_w Γ n M).set i (a_ad Γ i, .inl (Γ.2.2.1 0, N, .inl (upd f j x))) = a_w Γ n (a_up M i (aI N (upd f j x))) := by
    rw [← a_w_set, a_ad_lt (Nat.lt_of_lt_of_le hi w.2.2.2)]
    rfl
  rw [e1] at q1
  exact k p e s m args below meth c H1 locs1 ls C ⟨q1, w.2.1, q3, w.2.2.2⟩ hl
theorem fr_alen {i N : Nat} {f : Nat → Int32} (hi : i < n) (hM : M i = aI N f) (hd : decode cc pc = .ok (.arraylength, 1)) (k : Fr Γ l (y, cc, nL, ret, R, mc, ms) (pc + 1) L (.int (nI N) :: st) n k1 k2 M r n' M') : Fr Γ l (y, cc, nL, ret, R, mc, ms) pc L (.ref i :: st) n k1 k2 M r n' M' := by
  intro p e s m args below meth c H locs ls C w hl
  have h1 : (a_w Γ n M)[i]? = some (a_ad Γ i, .inl (Γ.2.2.1 0, N, .inl f)) := by rw [a_w_at hi, hM, a_ad_lt (Nat.lt_of_lt_of_le hi w.2.2.2)]; rfl
  exact va_alen C.1 C.2.1 C.2.2.2.2.2.2.2.2.2.2.2.2.2.2.2.1 w.1 i 0 h1 rfl rfl hd (k p e s m args below meth c H locs ls C w hl)
theorem fr_alenR {i N t0 : Nat} {f : Nat → Option Nat} (hi : i < n) (hM : M i = aR 2 N f) (hd : decode cc pc = .ok (.arraylength, 1)) (k : Fr Γ l (y, cc, nL, ret, R, mc, ms) (pc + 1) L (.int (nI N) :: st) n k1 k2 M r n' M') : Fr Γ l (y, cc, nL, ret, R, mc, ms) pc L (.ref i :: st) n k1 k2 M r n' M' := by
  intro p e s m args below meth c H locs ls C w hl
  have h1 : (a_w Γ n M)[i]? = some (a_ad Γ i, .inl (Γ.2.2.1 2, N, .inr (.inr (.inr (.inr (fun j => (f j).map (a_ad Γ))))))) := by rw [a_w_at hi, hM, a_ad_lt (Nat.lt_of_lt_of_le hi w.2.2.2)]; rfl
  exact va_alen C.1 C.2.1 C.2.2.2.2.2.2.2.2.2.2.2.2.2.2.2.1 w.1 i 2 h1 rfl rfl hd (k p e s m args below meth c H locs ls C w hl)
theorem fr_aald {i N : Nat} {f : Nat → Option Nat} {v : Nat} {x : Int32} (j : Nat) (hx : x = nI j) (hi : i < n) (hM : M i = aR 2 N f) (hj : j < N) (hN : N < 2 ^ 31) (hv : f j = some v) (hd : decode cc pc = .ok (.aaload, 1)) (k : Fr Γ l (y, cc, nL, ret, R, mc, ms) (pc + 1) L (.ref v :: st) n k1 k2 M r n' M') : Fr Γ l (y, cc, nL, ret, R, mc, ms) pc L (.int x :: .ref i :: st) n k1 k2 M r n' M' := by
  intro p e s m args below meth c H locs ls C w hl
  subst hx
  have h1 : (a_w Γ n M)[i]? = some (a_ad Γ i, .inl (Γ.2.2.1 2, N, .inr (.inr (.inr (.inr (fun j => (f j).map (a_ad Γ))))))) := by rw [a_w_at hi, hM, a_ad_lt (Nat.lt_of_lt_of_le hi w.2.2.2)]; rfl
  refine va_aldq C.1 C.2.1 C.2.2.2.2.2.2.2.2.2.2.2.2.2.2.2.1 w.1 i 2 h1 rfl (vp_in_nI hj hN) hd ?_
  rw [nI_clamp (Nat.lt_trans hj hN), hv]
  exact k p e s m args below meth c H locs ls C w hl
theorem a_sz {Γ : aG} {p : Program} {l : Launch} {e : Env} {R : Room} {s : State} {m : MethodId} {args : Array Value} {below : List Frame} {meth : Method} {c : Code} {H : Heap} {locs : List Loc} {n k1 k2 : Nat} {M : Nat → aC} {Q : State → Prop} {g : JFrame} (hg : Γ.2.1 ≤ s.heap.size) (w : a_W Γ s n k1 M H locs) (kk : H.size = Γ.2.1 + n → W p l e R s m args below meth c H locs k1 k2 Q g) : W p l e R s m args below meth c H locs k1 k2 Q g := by
  intro T hT X
  refine kk ?_ T hT X
  have h1 := X.heapSize
  rw [hT, w.2.1] at h1
  cases n with
  | zero =>
    have := w.2.2.1.1
    omega
  | succ j =>
    have h2 := (w.1 j _ (a_w_at (Nat.lt_succ_self j))).lt
    have h3 : Γ.2.1 + j < H.size := h2
    omega
theorem a_call {Γ : aG} {p : Program} {l : Launch} {e : Env} {R : Room} {s : State} {m : MethodId} {args : Array Value} {below : List Frame} {meth : Method} {c : Code} {H : Heap} {locs : List Loc} {cells slots mc ms n' pc : Nat} {M' : Nat → aC} {Q : State → Prop} {ls : Array Slot} {st0 rest : List Value} {v : Option Value} {a : Array Value} (hr : va_Run p l e R s m args below meth c H locs cells slots mc ms (F0 m pc ls st0) rest (a_Q Γ v n' M' a) (a_A Γ)) (hS : va_S (a_A Γ) s.heap H locs)
    (kk : ∀ (H1 : Heap) (locs1 : List Loc), va_P Γ.1 vwCl (a_w Γ n' M') H1 → n' ≤ 1000 → va_S (a_A Γ) s.heap H1 locs1 → W p l e R s m args below meth c H1 locs1 (cells + mc) (slots + ms) Q (F0 m (pc + 3) ls ((v.map (a_v Γ)).toList ++ rest))) : W p l e R s m args below meth c H locs cells slots Q (F0 m pc ls st0) := by
  intro T hT X
  obtain ⟨v1, st₀, t, T', L, h0, X', hL, e1, e2, ⟨hv, hP, hn, hz, hk⟩, st⟩ := hr T hT X
  cases hv
  rw [h0] at hz hk
  obtain ⟨t2, a1, b1⟩ := kk T'.heap (locs ++ L) (by rw [e1]; exact hP) hn
    ⟨Nat.le_trans hS.1 (by rw [e1]; exact hz), fun q h1 h2 => by rw [e1, hk q (Nat.lt_of_lt_of_le h1 hS.1) h2]; exact hS.2.1 q h1 h2, fun q hq => by
      rcases List.mem_append.mp hq with h | h
      · exact hS.2.2 q h
      · exact hL q h⟩ T' rfl X'
  exact ⟨t2, st t2 a1, b1⟩
theorem a_pre {Γ : aG} {s : State} {H : Heap} {locs : List Loc} {n k1 : Nat} {M : Nat → aC} {As : List Value} (hs : a_S Γ s) (w : a_W Γ s n k1 M H locs) (hz : H.size = Γ.2.1 + n) : ∀ U : State, U.heap = H → s.WarmedH U.vm → a_P Γ As n M (As.map (a_v Γ)).toArray U :=
  fun U hU hW => ⟨rfl, a_S.next hW hU w.2.2.1 hs, by rw [hU]; exact w.1, by rw [hU]; exact hz, w.2.2.2⟩
theorem fr_callS {ix a : Nat} {x : MethodName} {b : ByteArray} {nL1 : Nat} {rt : Option FieldType} {R1 : Room} {mc1 ms1 : Nat} {v : Option Value} {n1 : Nat} {M1 : Nat → aC} (As : List Value) (rest : List Value) (hE : Ev Γ l (x, b, nL1, rt, R1, mc1, ms1) As n M v n1 M1) (g : g_S y.cls ix x b nL1 rt a) (hst : st = As.reverse ++ rest) (ha : As.length = a) (hR : R1.cells = mc1 ∧ R1.slots = ms1 ∧ R1.frames + 1 ≤ R.frames ∧ 8 + (nL1 + 11) + R1.locals ≤ R.locals ∧ k1 + mc1 ≤ R.cells ∧ k2 + ms1 ≤ R.slots) (hw8 : (rest.map fun v => v.category).sum ≤ 8) (hn1 : n1 = n + mc1) (hd : decode cc pc = .ok (.invokestatic ix, 3)) (k : Fr Γ l (y, cc, nL, ret, R, mc, ms) (pc + 3) L (v.toList ++ rest) (n + mc1) (k1 + mc1) (k2 + ms1) M1 r n' M') : Fr Γ l (y, cc, nL, ret, R, mc, ms) pc L st n k1 k2 M r n' M' := by
  intro p e s m args below meth c H locs ls C w hl
  refine a_sz C.2.2.2.2.2.2.2.2.2.2.2.2.2.2.2.2 w (fun hz => ?_)
  have hcat : 2 * (F0 m pc ls (st.map (a_v Γ))).monitorRoom + ((rest.map (a_v Γ)).map fun v => v.category).sum ≤ 8 := by
    have e1 : ((rest.map (a_v Γ)).map fun v => v.category) = rest.map fun v => v.category := by
      rw [List.map_map]
      exact List.map_congr_left (fun v _ => a_v_cat Γ v)
    rw [e1]
    show 2 * 0 + _ ≤ 8
    rw [Nat.mul_zero, Nat.zero_add]
    exact hw8
  have cb := callB_of (s := s) (args := args) (own := y.cls) (index := ix) (y := x) (bytes := b) (maxL := nL1) (ret := rt) (ws := .code x b nL1 rt :: tG) (ws' := tG) (rm := R1) (mc := mc1) (ms := ms1) (R := R) a C.2.2.2.2.2.1 (tG_good g.2.2.2.1 (fun w h => h)) rfl hR.1 hR.2.1 (C.2.2.2.2.2.1 _ g.2.2.1) (C.2.2.2.2.2.1 _ g.1) ⟨g.2.2.2.2.1, g.2.2.2.2.2.1, g.2.2.2.2.2.2⟩ ⟨hR.2.2.1, hR.2.2.2.1⟩
  refine a_call (va_runS (As := As.map (a_v Γ)) (rest := rest.map (a_v Γ)) ⟨C.1, C.2.1, C.2.2.2.1, C.2.2.2.2.1, C.2.2.2.2.2.1⟩ hE ⟨cb, C.2.2.2.2.2.1 _ g.2.1⟩ ⟨a_blind, a_pre C.2.2.2.2.2.2.2.2 w hz⟩ rfl (by rw [List.length_map]; exact ha) hl.1 (by show st.map (a_v Γ) = _; rw [hst, List.map_append, List.map_reverse]) hcat hd ⟨hR.2.2.2.2.1, hR.2.2.2.2.2⟩) w.2.2.1 (fun H1 locs1 q1 q2 q3 => ?_)
  subst hn1
  have e2 : (v.map (a_v Γ)).toList ++ rest.map (a_v Γ) = (v.toList ++ rest).map (a_v Γ) := by cases v <;> rfl
  rw [e2]
  exact k p e s m args below meth c H1 locs1 ls C ⟨q1, by have := w.2.1; omega, q3, q2⟩ hl
theorem fr_callV {ix a : Nat} {x : MethodName} {b : ByteArray} {nL1 : Nat} {rt : Option FieldType} {R1 : Room} {mc1 ms1 : Nat} {v : Option Value} {n1 : Nat} {M1 : Nat → aC} {i ci N : Nat} {T : u_T} {fs : List Value} (As : List Value) (rest : List Value) (hE : Ev Γ l (x, b, nL1, rt, R1, mc1, ms1) (.ref i :: As) n M v n1 M1) (g : g_V y.cls ix x b nL1 rt a) (hst : st = As.reverse ++ .ref i :: rest) (ha : As.length = a) (hR : R1.cells = mc1 ∧ R1.slots = ms1 ∧ R1.frames + 1 ≤ R.frames ∧ 8 + (nL1 + 11) + R1.locals ≤ R.locals ∧ k1 + mc1 ≤ R.cells ∧ k2 + ms1 ≤ R.slots) (hw8 : (rest.map fun v => v.category).sum ≤ 8) (hn1 : n1 = n + mc1) (hc : vwCl[ci]? = some (x.cls, T, N)) (hi : i < n) (hM : M i = aO ci fs) (hd : decode cc pc = .ok (.invokevirtual ix, 3)) (k : Fr Γ l (y, cc, nL, ret, R, mc, ms) (pc + 3) L (v.toList ++ rest) (n + mc1) (k1 + mc1) (k2 + ms1) M1 r n' M') : Fr Γ l (y, cc, nL, ret, R, mc, ms) pc L st n k1 k2 M r n' M' := by
  intro p e s m args below meth c H locs ls C w hl
  refine a_sz C.2.2.2.2.2.2.2.2.2.2.2.2.2.2.2.2 w (fun hz => ?_)
  have hcat : 2 * (F0 m pc ls (st.map (a_v Γ))).monitorRoom + ((rest.map (a_v Γ)).map fun v => v.category).sum ≤ 8 := by
    have e1 : ((rest.map (a_v Γ)).map fun v => v.category) = rest.map fun v => v.category := by
      rw [List.map_map]
      exact List.map_congr_left (fun v _ => a_v_cat Γ v)
    rw [e1]
    show 2 * 0 + _ ≤ 8
    rw [Nat.mul_zero, Nat.zero_add]
    exact hw8
  have cb := callB_of (s := s) (args := args) (own := y.cls) (index := ix) (y := x) (bytes := b) (maxL := nL1) (ret := rt) (ws := .code x b nL1 rt :: tG) (ws' := tG) (rm := R1) (mc := mc1) (ms := ms1) (R := R) a C.2.2.2.2.2.1 (tG_good g.2.2.2.2.1 (fun w h => h)) rfl hR.1 hR.2.1 (C.2.2.2.2.2.1 _ g.2.2.2.1) (C.2.2.2.2.2.1 _ g.1) ⟨g.2.2.2.2.2.1, g.2.2.2.2.2.2.1, g.2.2.2.2.2.2.2⟩ ⟨hR.2.2.1, hR.2.2.2.1⟩
  have h1 : (a_w Γ n M)[i]? = some (a_ad Γ i, .inr (ci, fs.map (a_v Γ))) := by rw [a_w_at hi, hM, a_ad_lt (Nat.lt_of_lt_of_le hi w.2.2.2)]; rfl
  refine a_call (va_runV (b := a_ad Γ i) (C := x.cls) (As := As.map (a_v Γ)) (rest := rest.map (a_v Γ)) ⟨C.1, C.2.1, C.2.2.2.1, C.2.2.2.2.1, C.2.2.2.2.2.1⟩ hE ⟨cb, C.2.2.2.2.2.1 _ g.2.1, C.2.2.2.2.2.1 _ g.2.2.1⟩ ⟨a_blind, va_recv C.2.2.2.2.2.2.2.2.2.2.2.2.2.2.2.1 w.1 hc h1, a_pre C.2.2.2.2.2.2.2.2 w hz⟩ rfl (by rw [List.length_map]; exact ha) hl.1 (by show st.map (a_v Γ) = _; rw [hst, List.map_append, List.map_reverse]; rfl) hcat hd ⟨hR.2.2.2.2.1, hR.2.2.2.2.2⟩) w.2.2.1 (fun H1 locs1 q1 q2 q3 => ?_)
  subst hn1
  have e2 : (v.map (a_v Γ)).toList ++ rest.map (a_v Γ) = (v.toList ++ rest).map (a_v Γ) := by cases v <;> rfl
  rw [e2]
  exact k p e s m args below meth c H1 locs1 ls C ⟨q1, by have := w.2.1; omega, q3, q2⟩ hl
theorem fr_callI {ix a : Nat} {x : MethodName} {b : ByteArray} {nL1 : Nat} {R1 : Room} {mc1 ms1 : Nat} {v : Option Value} {n1 : Nat} {M1 : Nat → aC} {i : Nat} (As : List Value) (rest : List Value) (hE : Ev Γ l (x, b, nL1, none, R1, mc1, ms1) (.ref i :: As) n M v n1 M1) (g : g_I y.cls ix x b nL1 a) (hst : st = As.reverse ++ .ref i :: rest) (ha : As.length = a) (hR : R1.cells = mc1 ∧ R1.slots = ms1 ∧ R1.frames + 1 ≤ R.frames ∧ 8 + (nL1 + 11) + R1.locals ≤ R.locals ∧ k1 + mc1 ≤ R.cells ∧ k2 + ms1 ≤ R.slots) (hw8 : (rest.map fun v => v.category).sum ≤ 8) (hn1 : n1 = n + mc1) (hd : decode cc pc = .ok (.invokespecial ix, 3)) (k : Fr Γ l (y, cc, nL, ret, R, mc, ms) (pc + 3) L (v.toList ++ rest) (n + mc1) (k1 + mc1) (k2 + ms1) M1 r n' M') : Fr Γ l (y, cc, nL, ret, R, mc, ms) pc L st n k1 k2 M r n' M' := by
  intro p e s m args below meth c H locs ls C w hl
  refine a_sz C.2.2.2.2.2.2.2.2.2.2.2.2.2.2.2.2 w (fun hz => ?_)
  have hcat : 2 * (F0 m pc ls (st.map (a_v Γ))).monitorRoom + ((rest.map (a_v Γ)).map fun v => v.category).sum ≤ 8 := by
    have e1 : ((rest.map (a_v Γ)).map fun v => v.category) = rest.map fun v => v.category := by
      rw [List.map_map]
      exact List.map_congr_left (fun v _ => a_v_cat Γ v)
    rw [e1]
    show 2 * 0 + _ ≤ 8
    rw [Nat.mul_zero, Nat.zero_add]
    exact hw8
  have cb := callB_of (s := s) (args := args) (own := y.cls) (index := ix) (y := x) (bytes := b) (maxL := nL1) (ret := none) (ws := .code x b nL1 none :: tG) (ws' := tG) (rm := R1) (mc := mc1) (ms := ms1) (R := R) a C.2.2.2.2.2.1 (tG_good g.2.2.2.1 (fun w h => h)) rfl hR.1 hR.2.1 (C.2.2.2.2.2.1 _ g.2.2.1) (C.2.2.2.2.2.1 _ g.1) ⟨g.2.2.2.2.1, g.2.2.2.2.2.1, g.2.2.2.2.2.2.2⟩ ⟨hR.2.2.1, hR.2.2.2.1⟩
  refine a_call (va_runI (b := a_ad Γ i) (As := As.map (a_v Γ)) (rest := rest.map (a_v Γ)) ⟨C.1, C.2.1, C.2.2.2.1, C.2.2.2.2.1, C.2.2.2.2.2.1⟩ hE ⟨cb, g.2.2.2.2.2.2.1, C.2.2.2.2.2.1 _ g.2.1⟩ ⟨a_blind, a_pre C.2.2.2.2.2.2.2.2 w hz⟩ rfl (by rw [List.length_map]; exact ha) hl.1 (by show st.map (a_v Γ) = _; rw [hst, List.map_append, List.map_reverse]; rfl) hcat hd ⟨hR.2.2.2.2.1, hR.2.2.2.2.2⟩) w.2.2.1 (fun H1 locs1 q1 q2 q3 => ?_)
  subst hn1
  have e2 : (v.map (a_v Γ)).toList ++ rest.map (a_v Γ) = (v.toList ++ rest).map (a_v Γ) := by cases v <;> rfl
  rw [e2]
  exact k p e s m args below meth c H1 locs1 ls C ⟨q1, by have := w.2.1; omega, q3, q2⟩ hl
theorem fr_callN {ix a : Nat} {x : MethodName} {b : ByteArray} {nL1 : Nat} {R1 : Room} {mc1 ms1 : Nat} {v : Option Value} {n1 : Nat} {M1 : Nat → aC} {i : Nat} {host : String} (As : List Value) (rest : List Value) (hE : Ev Γ l (x, b, nL1, none, R1, mc1, ms1) (.ref i :: As) n M v n1 M1) (g : g_N y.cls ix x host b nL1 a) (hst : st = As.reverse ++ .ref i :: rest) (ha : As.length = a) (hR : R1.cells = mc1 ∧ R1.slots = ms1 ∧ R1.frames + 1 ≤ R.frames ∧ 8 + (nL1 + 11) + R1.locals ≤ R.locals ∧ k1 + mc1 ≤ R.cells ∧ k2 + ms1 ≤ R.slots) (hw8 : (rest.map fun v => v.category).sum ≤ 8) (hn1 : n1 = n + mc1) (hd : decode cc pc = .ok (.invokespecial ix, 3)) (k : Fr Γ l (y, cc, nL, ret, R, mc, ms) (pc + 3) L (v.toList ++ rest) (n + mc1) (k1 + mc1) (k2 + ms1) M1 r n' M') : Fr Γ l (y, cc, nL, ret, R, mc, ms) pc L st n k1 k2 M r n' M' := by
  intro p e s m args below meth c H locs ls C w hl
  refine a_sz C.2.2.2.2.2.2.2.2.2.2.2.2.2.2.2.2 w (fun hz => ?_)
  have hcat : 2 * (F0 m pc ls (st.map (a_v Γ))).monitorRoom + ((rest.map (a_v Γ)).map fun v => v.category).sum ≤ 8 := by
    have e1 : ((rest.map (a_v Γ)).map fun v => v.category) = rest.map fun v => v.category := by
      rw [List.map_map]
      exact List.map_congr_left (fun v _ => a_v_cat Γ v)
    rw [e1]
    show 2 * 0 + _ ≤ 8
    rw [Nat.mul_zero, Nat.zero_add]
    exact hw8
  have cb := va_cnB (s := s) (args := args) (own := y.cls) (host := host) (index := ix) (y := x) (bytes := b) (maxL := nL1) (ret := none) (ws := .code x b nL1 none :: tG) (ws' := tG) (rm := R1) (mc := mc1) (ms := ms1) (R := R) a C.2.2.2.2.2.1 (tG_good g.2.2.2.1 (fun w h => h)) rfl hR.1 hR.2.1 (C.2.2.2.2.2.2.2.2.2.2.2.2.1 _ g.1) (C.2.2.2.2.2.1 _ g.2.2.1) ⟨g.2.2.2.2.1, g.2.2.2.2.2.1, g.2.2.2.2.2.2.2⟩ ⟨hR.2.2.1, hR.2.2.2.1⟩
  refine a_call (va_runIN (b := a_ad Γ i) (As := As.map (a_v Γ)) (rest := rest.map (a_v Γ)) ⟨C.1, C.2.1, C.2.2.2.1, C.2.2.2.2.1, C.2.2.2.2.2.1⟩ hE ⟨cb, g.2.2.2.2.2.2.1, C.2.2.2.2.2.1 _ g.2.1⟩ ⟨a_blind, a_pre C.2.2.2.2.2.2.2.2 w hz⟩ rfl (by rw [List.length_map]; exact ha) hl.1 (by show st.map (a_v Γ) = _; rw [hst, List.map_append, List.map_reverse]; rfl) hcat hd ⟨hR.2.2.2.2.1, hR.2.2.2.2.2⟩) w.2.2.1 (fun H1 locs1 q1 q2 q3 => ?_)
  subst hn1
  have e2 : (v.map (a_v Γ)).toList ++ rest.map (a_v Γ) = (v.toList ++ rest).map (a_v Γ) := by cases v <;> rfl
  rw [e2]
  exact k p e s m args below meth c H1 locs1 ls C ⟨q1, by have := w.2.1; omega, q3, q2⟩ hl
theorem fr_mmax {ix : Nat} {x z : Int32} (h1 : Cond.methodLink y.cls ix Lib.Math.max.name ∈ tG) (h2 : Cond.static Lib.Math.max.name ∈ tG) (h3 : Cond.initialized "java/lang/Math" ∈ tG) (h4 : Cond.code Lib.Math.max.name Lib.Math.max.code 2 (some .int) ∈ tG) (hR : 1 ≤ R.frames ∧ 21 ≤ R.locals ∧ k1 ≤ R.cells ∧ k2 ≤ R.slots) (hw8 : (st.map fun v => v.category).sum ≤ 8) (hd : decode cc pc = .ok (.invokestatic ix, 3)) (k : Fr Γ l (y, cc, nL, ret, R, mc, ms) (pc + 3) L (.int (if x < z then z else x) :: st) n k1 k2 M r n' M') : Fr Γ l (y, cc, nL, ret, R, mc, ms) pc L (.int z :: .int x :: st) n k1 k2 M r n' M' := by
  intro p e s m args below meth c H locs ls C w hl
  have e1 : ((st.map (a_v Γ)).map fun v => v.category) = st.map fun v => v.category := by
    rw [List.map_map]
    exact List.map_congr_left (fun v _ => a_v_cat Γ v)
  refine va_mmax C.1 C.2.1 (C.2.2.2.1.trans hl.1.symm) C.2.2.2.2.1 (C.2.2.2.2.2.1 _ h1) (C.2.2.2.2.2.1 _ h2) (C.2.2.2.2.2.1 _ h3) (C.2.2.2.2.2.1 _ h4) hR.1 (by rw [e1]; show _ ≤ R.locals; have := hR.2.1; omega) hR.2.2.1 hR.2.2.2 hd ?_
  exact k p e s m args below meth c H locs ls C w hl
theorem fr_mmin {ix : Nat} {x z : Int32} (h1 : Cond.methodLink y.cls ix Lib.Math.min.name ∈ tG) (h2 : Cond.static Lib.Math.min.name ∈ tG) (h3 : Cond.initialized "java/lang/Math" ∈ tG) (h4 : Cond.code Lib.Math.min.name Lib.Math.min.code 2 (some .int) ∈ tG) (hR : 1 ≤ R.frames ∧ 21 ≤ R.locals ∧ k1 ≤ R.cells ∧ k2 ≤ R.slots) (hw8 : (st.map fun v => v.category).sum ≤ 8) (hd : decode cc pc = .ok (.invokestatic ix, 3)) (k : Fr Γ l (y, cc, nL, ret, R, mc, ms) (pc + 3) L (.int (if z < x then z else x) :: st) n k1 k2 M r n' M') : Fr Γ l (y, cc, nL, ret, R, mc, ms) pc L (.int z :: .int x :: st) n k1 k2 M r n' M' := by
  intro p e s m args below meth c H locs ls C w hl
  have e1 : ((st.map (a_v Γ)).map fun v => v.category) = st.map fun v => v.category := by
    rw [List.map_map]
    exact List.map_congr_left (fun v _ => a_v_cat Γ v)
  refine va_mmin C.1 C.2.1 (C.2.2.2.1.trans hl.1.symm) C.2.2.2.2.1 (C.2.2.2.2.2.1 _ h1) (C.2.2.2.2.2.1 _ h2) (C.2.2.2.2.2.1 _ h3) (C.2.2.2.2.2.1 _ h4) hR.1 (by rw [e1]; show _ ≤ R.locals; have := hR.2.1; omega) hR.2.2.1 hR.2.2.2 hd ?_
  exact k p e s m args below meth c H locs ls C w hl
theorem fr_acopy {ix i0 i1 N0 N1 sp dp q : Nat} {f g : Nat → Int32} (h1 : Cond.methodLink y.cls ix arraycopyName ∈ tG) (h2 : Cond.native arraycopyName ∈ tG) (h3 : Cond.static arraycopyName ∈ tG) (h4 : Cond.initialized "java/lang/System" ∈ tG) (hR : 1 ≤ R.frames ∧ 8 + (nativeFrameWords "java/lang/System" "arraycopy" 5 + 11) ≤ R.locals) (hw8 : (st.map fun v => v.category).sum ≤ 8) (hi0 : i0 < n) (hi1 : i1 < n) (hM0 : M i0 = aI N0 f) (hM1 : M i1 = aI N1 g) (hb0 : sp + q ≤ N0) (hb1 : dp + q ≤ N1) (hN0 : N0 < 2 ^ 31) (hN1 : N1 < 2 ^ 31) (hd : decode cc pc = .ok (.invokestatic ix, 3)) (k : Fr Γ l (y, cc, nL, ret, R, mc, ms) (pc + 3) L st n k1 k2 (a_up M i1 (aI N1 (va_cpy f g sp dp q))) r n' M') : Fr Γ l (y, cc, nL, ret, R, mc, ms) pc L (.int (nI q) :: .int (nI dp) :: .ref i1 :: .int (nI sp) :: .ref i0 :: st) n k1 k2 M r n' M' := by
  intro p e s m args below meth c H locs ls C w hl
  have e1 : ((st.map (a_v Γ)).map fun v => v.category) = st.map fun v => v.category := by
    rw [List.map_map]
    exact List.map_congr_left (fun v _ => a_v_cat Γ v)
  have g0 : (a_w Γ n M)[i0]? = some (a_ad Γ i0, .inl (Γ.2.2.1 0, N0, .inl f)) := by rw [a_w_at hi0, hM0, a_ad_lt (Nat.lt_of_lt_of_le hi0 w.2.2.2)]; rfl
  have g1 : (a_w Γ n M)[i1]? = some (a_ad Γ i1, .inl (Γ.2.2.1 0, N1, .inl g)) := by rw [a_w_at hi1, hM1, a_ad_lt (Nat.lt_of_lt_of_le hi1 w.2.2.2)]; rfl
  have c1 : (nI sp).toNatClampNeg = sp := nI_clamp (by omega)
  have c2 : (nI dp).toNatClampNeg = dp := nI_clamp (by omega)
  have c3 : (nI q).toNatClampNeg = q := nI_clamp (by omega)
  refine va_copyi C.1 C.2.1 (C.2.2.2.1.trans hl.1.symm) C.2.2.2.2.1 (C.2.2.2.2.2.1 _ h1) (C.2.2.2.2.2.1 _ h2) (C.2.2.2.2.2.1 _ h3) (C.2.2.2.2.2.1 _ h4) C.2.2.2.2.2.2.2.2.2.2.2.2.2.2.2.1 w.1 a_w_D w.2.2.1 i0 i1 0 0 g0 g1 rfl rfl rfl (nI_pos (by omega)) (nI_pos (by omega)) (nI_pos (by omega)) (by rw [c1, c3]; exact hb0) (by rw [c2, c3]; exact hb1) (fun i _ => rfl) hR.1 (by rw [e1]; show _ ≤ R.locals; have := hR.2; omega) hd (fun H1 locs1 q1 _ q3 => ?_)
  rw [c1, c2, c3] at q1
  have e2 : (a_w Γ n M).set i1 (a_ad Γ i1, .inl (Γ.2.2.1 0, N1, .inl (va_cpy f g sp dp q))) = a_w Γ n (a_up M i1 (aI N1 (va_cpy f g sp dp q))) := by
    rw [← a_w_set, a_ad_lt (Nat.lt_of_lt_of_le hi1 w.2.2.2)]
    rfl
  rw [e2] at q1
  exact k p e s m args below meth c H1 locs1 ls C ⟨q1, w.2.1, q3, w.2.2.2⟩ hl
theorem fr_objInit {ix i : Nat} (h1 : Cond.methodLink y.cls ix Lib.objectInit ∈ tG) (h2 : Cond.instanceMethod Lib.objectInit ∈ tG) (h3 : Cond.code Lib.objectInit ⟨#[0xb1]⟩ 1 none ∈ tG) (hR : 1 ≤ R.frames ∧ 20 ≤ R.locals) (hw8 : (st.map fun v => v.category).sum ≤ 8) (hd : decode cc pc = .ok (.invokespecial ix, 3)) (k : Fr Γ l (y, cc, nL, ret, R, mc, ms) (pc + 3) L st n k1 k2 M r n' M') : Fr Γ l (y, cc, nL, ret, R, mc, ms) pc L (.ref i :: st) n k1 k2 M r n' M' := by
  intro p e s m args below meth c H locs ls C w hl
  have e1 : ((st.map (a_v Γ)).map fun v => v.category) = st.map fun v => v.category := by
    rw [List.map_map]
    exact List.map_congr_left (fun v _ => a_v_cat Γ v)
  refine W.objInit C.1 C.2.1 C.2.2.2.2.1 (C.2.2.2.2.2.1 _ h1) (C.2.2.2.2.2.1 _ h2) (C.2.2.2.2.2.1 _ h3) rfl (hl.1.trans C.2.2.2.1.symm) (a := a_ad Γ i) (rest := st.map (a_v Γ)) rfl hd hR.1 (by rw [e1]; show 2 * 0 + _ + 12 ≤ R.locals; have := hR.2; omega) ?_
  exact k p e s m args below meth c H locs ls C w hl
theorem fr_new {ix ci N : Nat} {T : u_T} {Cn : String} (fs : List Value) (ty : Nat → FieldType) (hty : ∀ k, k < N → parseFieldDescriptor (T k).2.2.1 = some (ty k)) (hc : vwCl[ci]? = some (Cn, T, N)) (hin : ∀ w ∈ u_ws Cn T N, w ∈ tG) (h1 : Cond.classLink y.cls ix Cn ∈ tG) (h2 : Cond.instantiable Cn N ∈ tG) (h3 : Cond.initialized Cn ∈ tG) (hfs : ∀ j, j < N → defaultValue (ty j) = vp_V (fs.map (a_v Γ)) j) (hR : k1 + 1 ≤ R.cells ∧ k2 + N ≤ R.slots) (hn : n + 1 ≤ 1000) (hd : decode cc pc = .ok (.new ix, 3)) (k : Fr Γ l (y, cc, nL, ret, R, mc, ms) (pc + 3) L (.ref n :: st) (n + 1) (k1 + 1) (k2 + N) (a_up M n (aO ci fs)) r n' M') : Fr Γ l (y, cc, nL, ret, R, mc, ms) pc L st n k1 k2 M r n' M' := by
  intro p e s m args below meth c H locs ls C w hl
  refine a_sz C.2.2.2.2.2.2.2.2.2.2.2.2.2.2.2.2 w (fun hz => ?_)
  have hKn := C.2.2.2.2.2.2.2.2.2.2.2.2.2.2.2.1.1 ci _ hc
  refine W.newcK C.1 C.2.1 C.2.2.2.2.1 (C.2.2.2.2.2.1 _ h1) (C.2.2.2.2.2.1 _ h2) (C.2.2.2.2.2.1 _ h3) rfl hd hR.1 hR.2 hKn.2.1 hz fun H1 kC hkC e1 z1 o1 => ?_
  rw [← a_ad_lt (Γ := Γ) (show n < 1000 by omega)] at e1
  have hk : ∀ (k : Nat) (x : Nat × va_E), (a_w Γ n M)[k]? = some x → H1[x.1]? = H[x.1]? := fun k x hx => o1 x.1 (by rw [← hz]; exact (w.1 k x hx).lt)
  have hP : va_P Γ.1 vwCl (a_w Γ (n + 1) (a_up M n (aO ci fs))) H1 := by
    rw [← a_w_push]
    refine (w.1.kept hk).app (fun k x hx => ?_)
    have hz : k < 1 := (List.getElem?_eq_some_iff.mp hx).1
    rw [show k = 0 by omega] at hx
    cases hx
    rw [a_ad_lt (Γ := Γ) (show n < 1000 by omega)] at e1
    exact ⟨_, hc, (u_born ty C.2.2.2.2.2.1 hin hKn hkC e1 hty).to hfs⟩
  have hS : va_S (a_A Γ) s.heap H1 locs := ⟨Nat.le_trans w.2.2.1.1 (by omega), fun x g1 g2 => (o1 x (by rw [← hz]; exact Nat.lt_of_lt_of_le g1 w.2.2.1.1)).trans (w.2.2.1.2.1 x g1 g2), w.2.2.1.2.2⟩
  rw [← a_ad_lt (Γ := Γ) (show n < 1000 by omega)]
  exact k p e s m args below meth c H1 locs ls C ⟨hP, by have := w.2.1; omega, hS, hn⟩ hl
theorem fr_newa {N : Nat} (h1 : Cond.arrayClass .int ∈ tG) (hN : N < 2 ^ 20) (hR : k1 + 1 ≤ R.cells ∧ k2 + N ≤ R.slots) (hn : n + 1 ≤ 1000) (hd : decode cc pc = .ok (.newarray .int, 2)) (k : Fr Γ l (y, cc, nL, ret, R, mc, ms) (pc + 2) L (.ref n :: st) (n + 1) (k1 + 1) (k2 + N) (a_up M n (aI N (fun _ => 0))) r n' M') : Fr Γ l (y, cc, nL, ret, R, mc, ms) pc L (.int (nI N) :: st) n k1 k2 M r n' M' := by
  intro p e s m args below meth c H locs ls C w hl
  refine a_sz C.2.2.2.2.2.2.2.2.2.2.2.2.2.2.2.2 w (fun hz => ?_)
  have hb4 : N * componentBytes (newarray.typeOf .int) ≤ 536870912 := by show N * 4 ≤ _; omega
  refine va_newaK (atype := .int) C.1 C.2.1 (C.2.2.2.2.2.1 _ h1) rfl hd (n := nI N) (N := N) rfl (nI_pos (by omega)) (nI_clamp (by omega)) hb4 hR.1 hR.2 hz fun H1 cA e1 z1 o1 hAr hNm => ?_
  have hcA : cA = Γ.2.2.1 0 := by
    have h9 := (C.2.2.2.2.2.2.2.2.2.2.2.2.2.2.2.1.2 0 _ rfl).2
    exact Option.some.inj (hNm.symm.trans h9)
  have hk : ∀ (k : Nat) (x : Nat × va_E), (a_w Γ n M)[k]? = some x → H1[x.1]? = H[x.1]? := fun k x hx => o1 x.1 (by rw [← hz]; exact (w.1 k x hx).lt)
  have hP : va_P Γ.1 vwCl (a_w Γ (n + 1) (a_up M n (aI N (fun _ => 0)))) H1 := by
    rw [← a_w_push]
    refine (w.1.kept hk).app (fun k x hx => ?_)
    have hz : k < 1 := (List.getElem?_eq_some_iff.mp hx).1
    rw [show k = 0 by omega] at hx
    cases hx
    show H1[Γ.2.1 + n]? = some (vp_cell (Γ.2.2.1 0) (N, .inl (fun _ => 0)))
    rw [vp_cell_i, ← hcA]
    exact e1
  have hS : va_S (a_A Γ) s.heap H1 locs := ⟨Nat.le_trans w.2.2.1.1 (by omega), fun x g1 g2 => (o1 x (by rw [← hz]; exact Nat.lt_of_lt_of_le g1 w.2.2.1.1)).trans (w.2.2.1.2.1 x g1 g2), w.2.2.1.2.2⟩
  rw [← a_ad_lt (Γ := Γ) (show n < 1000 by omega)]
  exact k p e s m args below meth c H1 locs ls C ⟨hP, by have := w.2.1; omega, hS, hn⟩ hl
theorem fr_gsA {ix k0 : Nat} (hk : k0 < 4) (hw : Cond.fieldLink y.cls ix (a_sa k0).1 (a_sa k0).2.1 "[I" ∈ tG) (hd : decode cc pc = .ok (.getstatic ix, 3)) (k : Fr Γ l (y, cc, nL, ret, R, mc, ms) (pc + 3) L (.ref (1000 + k0) :: st) n k1 k2 M r n' M') : Fr Γ l (y, cc, nL, ret, R, mc, ms) pc L st n k1 k2 M r n' M' := by
  intro p e s m args below meth c H locs ls C w hl
  have e1 : a_ad Γ (1000 + k0) = Γ.2.2.2 (1000 + k0) := if_neg (by omega)
  have k2 := k p e s m args below meth c H locs ls C w hl
  rw [show ((Value.ref (1000 + k0) :: st).map (a_v Γ)) = .ref (a_ad Γ (1000 + k0)) :: st.map (a_v Γ) from rfl, e1] at k2
  exact va_gets C.1 C.2.1 (C.2.2.2.2.2.2.2.2.1 k0 hk).1 w.2.2.1 C.2.2.2.2.1 (C.2.2.2.2.2.1 _ hw) (fun _ h => h) hd k2
theorem fr_gsN {ix k0 : Nat} {host : String} (hk : k0 < 4) (hw : Cond.fieldLinkNest y.cls ix (a_sa k0).1 (a_sa k0).2.1 "[I" host ∈ a_nw) (hd : decode cc pc = .ok (.getstatic ix, 3)) (k : Fr Γ l (y, cc, nL, ret, R, mc, ms) (pc + 3) L (.ref (1000 + k0) :: st) n k1 k2 M r n' M') : Fr Γ l (y, cc, nL, ret, R, mc, ms) pc L st n k1 k2 M r n' M' := by
  intro p e s m args below meth c H locs ls C w hl
  have e1 : a_ad Γ (1000 + k0) = Γ.2.2.2 (1000 + k0) := if_neg (by omega)
  have k2 := k p e s m args below meth c H locs ls C w hl
  rw [show ((Value.ref (1000 + k0) :: st).map (a_v Γ)) = .ref (a_ad Γ (1000 + k0)) :: st.map (a_v Γ) from rfl, e1] at k2
  exact va_getsN C.1 C.2.1 (C.2.2.2.2.2.2.2.2.1 k0 hk).1 w.2.2.1 C.2.2.2.2.1 (va_Nw.use rfl (C.2.2.2.2.2.2.2.2.2.2.2.2.1 _ hw)) (fun _ h => h) hd k2
theorem fr_ialdS {k0 : Nat} {x : Int32} (j : Nat) (hx : x = nI j) (hk : k0 < 4) (hj : j < (a_sa k0).2.2.length) (hJ : j < 100) (hd : decode cc pc = .ok (.iaload, 1)) (k : Fr Γ l (y, cc, nL, ret, R, mc, ms) (pc + 1) L (.int ((a_sa k0).2.2.getD j 0) :: st) n k1 k2 M r n' M') : Fr Γ l (y, cc, nL, ret, R, mc, ms) pc L (.int x :: .ref (1000 + k0) :: st) n k1 k2 M r n' M' := by
  intro p e s m args below meth c H locs ls C w hl
  subst hx
  have e1 : a_ad Γ (1000 + k0) = Γ.2.2.2 (1000 + k0) := if_neg (by omega)
  have hc : (nI j).toNatClampNeg = j := nI_clamp (by omega)
  rw [show ((Value.int (nI j) :: Value.ref (1000 + k0) :: st).map (a_v Γ)) = .int (nI j) :: .ref (a_ad Γ (1000 + k0)) :: st.map (a_v Γ) from rfl, e1]
  refine va_ti C.1 C.2.1 (C.2.2.2.2.2.2.2.2.1 k0 hk).2 w.2.2.1 (v := .int ((a_sa k0).2.2.getD j 0)) (fun q => ?_) (by rw [hc]) hd (k p e s m args below meth c H locs ls C w hl)
  rcases q with q | q
  · exact nI_pos (by omega) q
  · rw [hc] at q; omega
end A1
