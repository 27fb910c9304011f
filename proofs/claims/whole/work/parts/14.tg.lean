def a_nw : List Cond := [Cond.methodLinkNest "LacedHouse" 28 ⟨"LacedHouse$Sheets", "<init>", "()V"⟩ "LacedHouse", Cond.methodLinkNest "LacedHouse" 35 ⟨"LacedHouse$Tape", "<init>", "()V"⟩ "LacedHouse", Cond.fieldLinkNest "LacedHouse$Tape" 70 "LacedHouse" "GREATEST_SETTING" "[I" "LacedHouse"]
def tG : List Cond := lw_tbl.filter goodWord
theorem tG_in {w : Cond} (h : w ∈ lw_tbl) (hg : goodWord w = true) : w ∈ tG := List.mem_filter.mpr ⟨h, hg⟩
theorem tG_good {c : Cond} (hc : c ∈ tG) {big : List Cond} (hb : ∀ w ∈ tG, w ∈ big) : GoodIn big (c :: tG) := by
  have h0 : ∀ w ∈ tG, w ∈ big ∧ ((w.onTables && w.keeps) = true ∨ ∃ ty, w = .arrayClass ty) := fun w hw => ⟨hb w hw, good_of_word (List.mem_filter.mp hw).2⟩
  intro w hw
  rcases List.mem_cons.mp hw with rfl | hw
  · exact h0 _ hc
  · exact h0 _ hw
def g_S (own : String) (ix : Nat) (x : MethodName) (b : ByteArray) (nL : Nat) (rt : Option FieldType) (a : Nat) : Prop :=
  Cond.methodLink own ix x ∈ tG ∧ Cond.static x ∈ tG ∧ Cond.initialized x.cls ∈ tG ∧ Cond.code x b nL rt ∈ tG ∧ x.cls ≠ "java/lang/invoke/MethodHandle" ∧ x.cls ≠ "java/lang/invoke/VarHandle" ∧ (parseMethodDescriptor x.desc).map (fun d => d.parameters.length) = some a
def g_V (own : String) (ix : Nat) (x : MethodName) (b : ByteArray) (nL : Nat) (rt : Option FieldType) (a : Nat) : Prop :=
  Cond.methodLink own ix x ∈ tG ∧ Cond.instanceMethod x ∈ tG ∧ Cond.selects x.cls x x ∈ tG ∧ Cond.initialized x.cls ∈ tG ∧ Cond.code x b nL rt ∈ tG ∧ x.cls ≠ "java/lang/invoke/MethodHandle" ∧ x.cls ≠ "java/lang/invoke/VarHandle" ∧ (parseMethodDescriptor x.desc).map (fun d => d.parameters.length) = some a
def g_I (own : String) (ix : Nat) (x : MethodName) (b : ByteArray) (nL : Nat) (a : Nat) : Prop :=
  Cond.methodLink own ix x ∈ tG ∧ Cond.instanceMethod x ∈ tG ∧ Cond.initialized x.cls ∈ tG ∧ Cond.code x b nL none ∈ tG ∧ x.cls ≠ "java/lang/invoke/MethodHandle" ∧ x.cls ≠ "java/lang/invoke/VarHandle" ∧ x.name = "<init>" ∧ (parseMethodDescriptor x.desc).map (fun d => d.parameters.length) = some a
def g_N (own : String) (ix : Nat) (x : MethodName) (host : String) (b : ByteArray) (nL : Nat) (a : Nat) : Prop :=
  Cond.methodLinkNest own ix x host ∈ a_nw ∧ Cond.instanceMethod x ∈ tG ∧ Cond.initialized x.cls ∈ tG ∧ Cond.code x b nL none ∈ tG ∧ x.cls ≠ "java/lang/invoke/MethodHandle" ∧ x.cls ≠ "java/lang/invoke/VarHandle" ∧ x.name = "<init>" ∧ (parseMethodDescriptor x.desc).map (fun d => d.parameters.length) = some a
