/-! ===== sets that are sent home ===== -/
theorem bt_all : ∀ s : Nat, s < 256 → s = 0 ∨ ((nI s &&& (nI s - 1)) = nI (s &&& (s - 1)) ∧ (s &&& (s - 1)) < s ∧ pcnt (s &&& (s - 1)) + 1 = pcnt s) := by decide +kernel
/-- the best of the sets from j on below N -/
def isB (q : Nat → Bool) (N j : Nat) (x : Int32) : Prop :=
  (x = -1 ∧ ∀ s, j ≤ s → s < N → ¬ q s = true) ∨ ∃ s, x = nI s ∧ j ≤ s ∧ s < N ∧ q s = true ∧ ∀ s', j ≤ s' → s' < N → q s' = true → pcnt s < pcnt s' ∨ (pcnt s = pcnt s' ∧ s ≤ s')
theorem isB_u {q : Nat → Bool} {N j : Nat} {x z : Int32} (hx : isB q N j x) (hz : isB q N j z) : x = z := by
  rcases hx with ⟨e1, h1⟩ | ⟨s1, e1, a1, b1, c1, d1⟩
  · rcases hz with ⟨e2, h2⟩ | ⟨s2, e2, a2, b2, c2, d2⟩
    · rw [e1, e2]
    · exact absurd c2 (h1 s2 a2 b2)
  · rcases hz with ⟨e2, h2⟩ | ⟨s2, e2, a2, b2, c2, d2⟩
    · exact absurd c1 (h2 s1 a1 b1)
    · have h1 := d1 s2 a2 b2 c2
      have h2 := d2 s1 a1 b1 c1
      rw [e1, e2, show s1 = s2 by omega]
theorem isB_n {q : Nat → Bool} {N j : Nat} {x : Int32} (h : isB q N (j + 1) x) (hq : ¬ q j = true) : isB q N j x := by
  rcases h with ⟨e1, h1⟩ | ⟨s1, e1, a1, b1, c1, d1⟩
  · refine Or.inl ⟨e1, fun s hs hN => ?_⟩
    rcases Nat.eq_or_lt_of_le hs with e | e
    · rw [← e]; exact hq
    · exact h1 s e hN
  · refine Or.inr ⟨s1, e1, by omega, b1, c1, fun s' hs hN hq' => ?_⟩
    rcases Nat.eq_or_lt_of_le hs with e | e
    · rw [← e] at hq'; exact absurd hq' hq
    · exact d1 s' e hN hq'
theorem isB_y {q : Nat → Bool} {N j : Nat} {x : Int32} (h : isB q N (j + 1) x) (hj : j < N) (hq : q j = true) (hb : x < 0 ∨ ∃ s, s < 1000 ∧ x = nI s ∧ pcnt j ≤ pcnt s) (hN : N < 1000) : isB q N j (nI j) := by
  refine Or.inr ⟨j, rfl, Nat.le_refl _, hj, hq, fun s' hs hN' hq' => ?_⟩
  rcases Nat.eq_or_lt_of_le hs with e | e
  · rw [← e]; exact Or.inr ⟨rfl, Nat.le_refl _⟩
  · rcases h with ⟨e1, h1⟩ | ⟨s1, e1, a1, b1, c1, d1⟩
    · exact absurd hq' (h1 s' e hN')
    · rcases hb with hb | ⟨s, hs1, hb, hp⟩
      · rw [e1] at hb; exact absurd hb (nI_pos (by omega))
      · have e3 : s1 = s := (nI_eq (by omega) (by omega)).mp (e1.symm.trans hb)
        have := d1 s' e hN' hq'
        rw [e3] at this
        omega
theorem isB_w {q : Nat → Bool} {N j : Nat} {x : Int32} (h : isB q N (j + 1) x) {s : Nat} (hx : x = nI s) (hs : s < 1000) (hp : pcnt s < pcnt j) (hN : N < 1000) : isB q N j x := by
  rcases h with ⟨e1, h1⟩ | ⟨s1, e1, a1, b1, c1, d1⟩
  · rw [e1] at hx
    exact absurd (show (-1 : Int32) < 0 by decide) (by rw [hx]; exact nI_pos (by omega))
  · have e3 : s1 = s := (nI_eq (by omega) (by omega)).mp (e1.symm.trans hx)
    refine Or.inr ⟨s1, e1, by omega, b1, c1, fun s' hs' hN' hq' => ?_⟩
    rcases Nat.eq_or_lt_of_le hs' with e | e
    · rw [← e]; left; rw [e3]; exact hp
    · exact d1 s' e hN' hq'
theorem in1_ch {q : Nat → Bool} {many : Nat} : ∀ (k s : Nat), (s_in1 q many k s = -1 ∧ ∀ i, s ≤ i → i < s + k → ¬ (pcnt i = many ∧ q i = true)) ∨ ∃ i, s_in1 q many k s = nI i ∧ s ≤ i ∧ i < s + k ∧ pcnt i = many ∧ q i = true ∧ ∀ i', s ≤ i' → i' < i → ¬ (pcnt i' = many ∧ q i' = true) := by
  intro k
  induction k with
  | zero => intro s; exact Or.inl ⟨rfl, fun i h1 h2 => by omega⟩
  | succ k ih =>
    intro s
    rw [s_in1]
    by_cases h : pcnt s = many ∧ q s = true
    · rw [if_pos h]
      exact Or.inr ⟨s, rfl, Nat.le_refl _, by omega, h.1, h.2, fun i' h1 h2 => by omega⟩
    · rw [if_neg h]
      rcases ih (s + 1) with ⟨e, h1⟩ | ⟨i, e, a1, a2, a3, a4, a5⟩
      · refine Or.inl ⟨e, fun i h2 h3 => ?_⟩
        rcases Nat.eq_or_lt_of_le h2 with e | e
        · rw [← e]; exact h
        · exact h1 i e (by omega)
      · refine Or.inr ⟨i, e, by omega, by omega, a3, a4, fun i' h1 h2 => ?_⟩
        rcases Nat.eq_or_lt_of_le h1 with e | e
        · rw [← e]; exact h
        · exact a5 i' e h2
theorem out_ch {q : Nat → Bool} {N : Nat} (hN : N < 1000) : ∀ (j many : Nat), (∀ s, s < N → q s = true → many ≤ pcnt s) → (∀ s, s < N → pcnt s < many + j) → isB q N 0 (s_out q N j many) := by
  intro j
  induction j with
  | zero => intro many h1 h2; exact Or.inl ⟨rfl, fun s _ hs hq => by have := h1 s hs hq; have := h2 s hs; omega⟩
  | succ j ih =>
    intro many h1 h2
    rw [s_out]
    rcases in1_ch (q := q) (many := many) N 0 with ⟨e, h3⟩ | ⟨i, e, a1, a2, a3, a4, a5⟩
    · rw [if_pos (by rw [e]; decide)]
      refine ih (many + 1) (fun s hs hq => ?_) (fun s hs => by have := h2 s hs; omega)
      have := h1 s hs hq
      rcases Nat.eq_or_lt_of_le this with e2 | e2
      · exact absurd ⟨e2.symm, hq⟩ (h3 s (Nat.zero_le _) (by omega))
      · exact e2
    · rw [e, if_neg (nI_pos (by omega))]
      refine Or.inr ⟨i, rfl, Nat.zero_le _, by omega, a4, fun s' _ hs' hq' => ?_⟩
      have := h1 s' hs' hq'
      rcases Nat.eq_or_lt_of_le this with e2 | e2
      · refine Or.inr ⟨by omega, ?_⟩
        rcases Nat.lt_or_ge s' i with e3 | e3
        · exact absurd ⟨e2.symm, hq'⟩ (a5 s' (Nat.zero_le _) e3)
        · exact e3
      · left; omega
theorem pc_all : ∀ c : Nat, c < 9 → ∀ s : Nat, s < 2 ^ c → pcnt s ≤ c := by decide +kernel
