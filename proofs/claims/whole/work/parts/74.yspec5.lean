/-! ===== texts, as the reference reads them ===== -/
def byt (b : Nat → Int32) (L p : Nat) : Int32 := if p < L then b p else -1
def mE (T : tk) : Nat := if T.2.2.1 = 4 then T.2.1 + 1 else T.2.1
def mS (T : tk) : Nat := if T.2.2.1 = 4 then 3 else T.2.2.1
/-- the bytes of the tape are no less than 0 -/
def wb (b : Nat → Int32) (L : Nat) : Prop := ∀ p, p < L → ¬ b p < 0
theorem mS_1 {T : tk} (h : T.2.2.1 < 5) {k : Nat} (hk : k < 3) : nI (mS T) = nI k ↔ T.2.2.1 = k := by
  unfold mS
  split
  · rename_i e
    rw [nI_eq (by decide) (by omega)]
    omega
  · rw [nI_eq (by omega) (by omega)]
theorem mS_lt {T : tk} (h : T.2.2.1 < 5) : mS T < 4 := by
  unfold mS
  split <;> omega
theorem mE_n {T : tk} (h : ¬ T.2.2.1 = 4) : mE T = T.2.1 := if_neg h
theorem is_1 {b : Nat → Int32} {T : tk} {w : List Int32} (h : tk_is b T w = true) : T.2.2.1 = 1 ∧ T.2.1 - T.1 = w.length := by
  unfold tk_is at h
  split at h
  · assumption
  · cases h
theorem eq_ch {b : Nat → Int32} {s : Nat} {w : List Int32} : ∀ (k i : Nat), tk_eq b s w k i = true → ∀ j, i ≤ j → j < i + k → b (s + j) = w.getD j 0 := by
  intro k
  induction k with
  | zero => intro i _ j h1 h2; omega
  | succ k ih =>
    intro i h j h1 h2
    rw [tk_eq] at h
    split at h
    · rename_i e
      rcases Nat.eq_or_lt_of_le h1 with e2 | e2
      · rw [← e2]; exact e
      · exact ih (i + 1) h j e2 (by omega)
    · cases h
theorem is_ch {b : Nat → Int32} {T : tk} {w w' : List Int32} (h : tk_is b T w = true) (h' : tk_is b T w' = true) : w = w' := by
  have h1 := is_1 h
  have h2 := is_1 h'
  have e : w.length = w'.length := h1.2.symm.trans h2.2
  have c1 : tk_eq b T.1 w w.length 0 = true := by
    unfold tk_is at h
    rw [if_pos h1] at h
    exact h
  have c2 : tk_eq b T.1 w' w'.length 0 = true := by
    unfold tk_is at h'
    rw [if_pos h2] at h'
    exact h'
  refine List.ext_getElem e (fun i a1 a2 => ?_)
  have d1 := eq_ch _ 0 c1 i (Nat.zero_le _) (by omega)
  have d2 := eq_ch _ 0 c2 i (Nat.zero_le _) (by omega)
  rw [List.getD_eq_getElem?_getD, List.getElem?_eq_getElem a1, Option.getD_some] at d1
  rw [List.getD_eq_getElem?_getD, List.getElem?_eq_getElem a2, Option.getD_some] at d2
  rw [← d1, ← d2]
theorem wd_inj : ∀ a : Nat, a < 7 → ∀ c : Nat, c < 7 → wd a = wd c → a = c := by decide +kernel
theorem wd_m : ∀ a : Nat, a < 7 → (a_ss (13 + a)).2.2.2 = wd a := by decide +kernel
/-- the last of the kinds that are told, as the reference looks for it -/
def m_kt (b : Nat → Int32) (T : tk) : Nat → Nat → Int32 → Int32
  | 0, _, x => x
  | j + 1, k, x => m_kt b T j (k + 1) (if tk_is b T (wd k) = true then nI k else x)
theorem mkt_no {b : Nat → Int32} {T : tk} {x : Int32} : ∀ (j k : Nat), (∀ i, k ≤ i → i < k + j → ¬ tk_is b T (wd i) = true) → m_kt b T j k x = x := by
  intro j
  induction j with
  | zero => intro k _; rfl
  | succ j ih =>
    intro k h
    rw [m_kt, if_neg (h k (Nat.le_refl _) (by omega))]
    exact ih (k + 1) (fun i h1 h2 => h i (by omega) (by omega))
theorem mkt_eq {b : Nat → Int32} {T : tk} : ∀ (j k : Nat), k + j = 7 → m_kt b T j k (-1) = s_kt b T j k := by
  intro j
  induction j with
  | zero => intro k _; rfl
  | succ j ih =>
    intro k hk
    rw [m_kt, s_kt]
    by_cases h : tk_is b T (wd k) = true
    · rw [if_pos h, if_pos h]
      refine mkt_no j (k + 1) (fun i h1 h2 h3 => ?_)
      have := wd_inj k (by omega) i (by omega) (is_ch h h3)
      omega
    · rw [if_neg h, if_neg h]
      exact ih (k + 1) (by omega)
