/-! ===== where class and reference go different ways to the same ===== -/
theorem wi_cc (x c : Int32) : wi x c c = decide (x = c) := by
  unfold wi
  refine decide_eq_decide.mpr ⟨fun h => ?_, fun h => by rw [h]; exact ⟨fun z => Int32.lt_irrefl z, fun z => Int32.lt_irrefl z⟩⟩
  refine Int32.toInt_inj.mp ?_
  have h1 := h.1
  have h2 := h.2
  rw [lt_i] at h1 h2
  omega
theorem find_c {P P' : rT → Bool} (h : ∀ t, wf t → P t = P' t) : ∀ (k n : Nat) (t : rT), wf t → s_find P k n t = s_find P' k n t := by
  intro k
  induction k with
  | zero => intro n t _; rfl
  | succ k ih =>
    intro n t w
    rw [s_find, s_find, h t w, ih (n + 1) _ (wf_hour w)]
theorem okv_le {x v : Int32} (h : okv x 10000) : wi x v 9999 = decide (¬ x < v) := by
  unfold wi
  refine decide_eq_decide.mpr ⟨fun h => h.1, fun q => ⟨q, ?_⟩⟩
  rw [h.1]
  exact nI_nlt (a := 9999) (by have := h.2; omega) (by decide)
theorem hour_95 {r : rT} (w : wf r) (h : ¬ r 9 5 = 0) : s_hour r 9 5 = r 9 5 := by
  have h9 := (wf_wl (m := s_meas r) (cnt r) 0 r w (by have := w.ctl; omega)).2
  show s_hf (s_meas r) _ 9 5 = _
  have e : s_wl (s_meas r) (cnt r) 0 r 9 5 = r 9 5 := congrFun h9 5
  show s_h2 (s_meas r) (s_wl (s_meas r) (cnt r) 0 r) 9 5 = _
  unfold s_h2
  rw [if_neg (by rw [e]; exact h)]
  exact e
theorem hours_95 : ∀ (n : Nat) (r : rT), wf r → ¬ r 9 5 = 0 → s_hours n r 9 5 = r 9 5 := by
  intro n
  induction n with
  | zero => intro r _ _; rfl
  | succ n ih =>
    intro r w h
    have e := hour_95 w h
    rw [s_hours, ih _ (wf_hour w) (by rw [e]; exact h), e]
theorem hold_hours : ∀ (n : Nat) (r : rT), wf r → (s_hold n r 9 5 = 0 ↔ s_hours n r 9 5 = 0) := by
  intro n
  induction n with
  | zero => intro r _; exact Iff.rfl
  | succ n ih =>
    intro r w
    by_cases h : r 9 5 = 0
    · rw [show s_hold (n + 1) r = s_hold n (s_hour r) from if_pos h]
      exact ih _ (wf_hour w)
    · rw [show s_hold (n + 1) r = r from if_neg h, hours_95 (n + 1) r w h]
theorem wl_5 {m : Int32} : ∀ (n g : Nat) (r : rT), s_wl m n g r 5 = r 5 := by
  intro n
  induction n with
  | zero => intro g r; rfl
  | succ n ih =>
    intro g r
    rw [s_wl, ih]
    split <;> rfl
theorem hour_5 (r : rT) : s_hour r 5 = r 5 := by
  show s_hf _ (s_wl (s_meas r) (cnt r) 0 r) 5 = r 5
  have e := wl_5 (m := s_meas r) (cnt r) 0 r
  generalize s_wl (s_meas r) (cnt r) 0 r = t at e ⊢
  rw [← e]
  show s_h2 (s_meas r) t 5 = t 5
  unfold s_h2
  split
  · unfold s_pull s_pf
    split <;> rfl
  · rfl
theorem hours_5 : ∀ (n : Nat) (r : rT), s_hours n r 5 = r 5 := by
  intro n
  induction n with
  | zero => intro r; rfl
  | succ n ih => intro r; rw [s_hours, ih, hour_5]
theorem first_pos {q : Nat → Bool} : ∀ (k m : Nat), m + k < 1000 → s_first q k m = -1 ∨ ∃ j, j < 1000 ∧ s_first q k m = nI j := by
  intro k
  induction k with
  | zero => intro m _; exact Or.inl rfl
  | succ k ih =>
    intro m h
    rw [s_first]
    split
    · exact Or.inr ⟨m, by omega, rfl⟩
    · exact ih (m + 1) (by omega)
theorem first_sn {q : Nat → Bool} : ∀ (k m : Nat), m + k + 1 < 1000 → s_first q (k + 1) m = if s_first q k m < 0 then (if q (m + k) = true then nI (m + k) else -1) else s_first q k m := by
  intro k
  induction k with
  | zero => intro m _; rfl
  | succ k ih =>
    intro m h
    rw [s_first]
    by_cases hq : q m = true
    · rw [if_pos hq, show s_first q (k + 1) m = nI m from if_pos hq, if_neg (nI_pos (by omega))]
    · rw [if_neg hq, show s_first q (k + 1) m = s_first q k (m + 1) from if_neg hq, ih (m + 1) (by omega), show m + 1 + k = m + (k + 1) by omega]
/-- the least of those from m on (j of them), else what was best -/
def s_fb (q : Nat → Bool) (j m : Nat) (best : Int32) : Int32 := if s_first q j m < 0 then best else s_first q j m
theorem fb_sn {q : Nat → Bool} {j m : Nat} {best : Int32} (h : m + j + 1 < 1000) : s_fb q (j + 1) m best = s_fb q j m (if q (m + j) = true then nI (m + j) else best) := by
  unfold s_fb
  rw [first_sn j m h]
  by_cases h0 : s_first q j m < 0
  · rw [if_pos h0, if_pos h0]
    by_cases hq : q (m + j) = true
    · rw [if_pos hq, if_pos hq, if_neg (nI_pos (by omega))]
    · rw [if_neg hq, if_neg hq, if_pos (by decide)]
  · rw [if_neg h0, if_neg h0, if_neg h0]
theorem fb_first {q : Nat → Bool} {j m : Nat} (h : m + j < 1000) : s_fb q j m (-1) = s_first q j m := by
  unfold s_fb
  rcases first_pos (q := q) j m h with e | ⟨i, hi, e⟩
  · rw [e]; rfl
  · rw [e, if_neg (nI_pos (by omega))]
