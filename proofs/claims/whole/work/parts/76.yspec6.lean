/-! ===== items, as the reference keeps them ===== -/
theorem num_w {T : tk} {lo hi : Int32} (h : tk_num T lo hi = true) : wi T.2.2.2 lo hi = true := by
  unfold tk_num at h
  split at h
  · exact h
  · cases h
theorem num_mk {T : tk} {lo hi : Int32} (h : T.2.2.1 = 2) (h2 : wi T.2.2.2 lo hi = true) : tk_num T lo hi = true := (if_pos h).trans h2
theorem twM {b : Nat → Int32} {L : Nat} {T : tk} (h : tw L T) : tw L (nxM b L T) := (tw_n h.2.1).1
def add4 (it : Nat → Int32) (n : Nat) (x a z c : Int32) : Nat → Int32 := upd (upd (upd (upd it (4 * n) x) (4 * n + 1) a) (4 * n + 2) z) (4 * n + 3) c
theorem add4_0 {it : Nat → Int32} {n : Nat} {x a z c : Int32} : add4 it n x a z c (4 * n) = x := by
  unfold add4 upd
  rw [if_neg (by omega), if_neg (by omega), if_neg (by omega), if_pos rfl]
theorem add4_1 {it : Nat → Int32} {n : Nat} {x a z c : Int32} : add4 it n x a z c (4 * n + 1) = a := by
  unfold add4 upd
  rw [if_neg (by omega), if_neg (by omega), if_pos rfl]
theorem add4_2 {it : Nat → Int32} {n : Nat} {x a z c : Int32} : add4 it n x a z c (4 * n + 2) = z := by
  unfold add4 upd
  rw [if_neg (by omega), if_pos rfl]
theorem add4_3 {it : Nat → Int32} {n : Nat} {x a z c : Int32} : add4 it n x a z c (4 * n + 3) = c := by
  unfold add4 upd
  rw [if_pos rfl]
theorem add4_lt {it : Nat → Int32} {n p : Nat} {x a z c : Int32} (h : p < 4 * n) : add4 it n x a z c p = it p := by
  unfold add4 upd
  rw [if_neg (by omega), if_neg (by omega), if_neg (by omega), if_neg (by omega)]
/-- a guest told -/
def itm (t : rT) (k a sz c : Int32) : rT := u2 (u2 (s_add t k a) 4 (cnt t) sz) 5 (cnt t) c
def ap1 (it : Nat → Int32) (n : Nat) (t : rT) : rT := if it (4 * n) = 10 then u2 t 0 (it (4 * n + 1)).toNatClampNeg (it (4 * n + 2)) else if it (4 * n) = 11 then u2 t 1 (it (4 * n + 1)).toNatClampNeg (it (4 * n + 2)) else if it (4 * n) = 12 then u2 t 9 3 (it (4 * n + 1)) else itm t (it (4 * n)) (it (4 * n + 1)) (it (4 * n + 2)) (it (4 * n + 3))
def ap (it : Nat → Int32) (r : rT) : Nat → rT
  | 0 => r
  | n + 1 => ap1 it n (ap it r n)
def okI (it : Nat → Int32) (k : Nat) (t : rT) : Prop := (it (4 * k) = 10 ∧ okv (it (4 * k + 1)) 16) ∨ (it (4 * k) = 11 ∧ okv (it (4 * k + 1)) 6) ∨ it (4 * k) = 12 ∨ (¬ it (4 * k) = 10 ∧ ¬ it (4 * k) = 11 ∧ ¬ it (4 * k) = 12 ∧ wf t ∧ cnt t < 8)
theorem ap1_x {it it' : Nat → Int32} {n : Nat} {t : rT} (h : ∀ p, p < 4 * (n + 1) → it p = it' p) : ap1 it n t = ap1 it' n t := by
  unfold ap1
  rw [h (4 * n) (by omega), h (4 * n + 1) (by omega), h (4 * n + 2) (by omega), h (4 * n + 3) (by omega)]
theorem ap_x {it it' : Nat → Int32} {r : rT} : ∀ n : Nat, (∀ p, p < 4 * n → it p = it' p) → ap it r n = ap it' r n := by
  intro n
  induction n with
  | zero => intro _; rfl
  | succ n ih =>
    intro h
    rw [ap, ap, ih (fun p hp => h p (by omega)), ap1_x h]
theorem okI_x {it it' : Nat → Int32} {k : Nat} {t : rT} (h : ∀ p, p < 4 * (k + 1) → it p = it' p) (ho : okI it k t) : okI it' k t := by
  unfold okI at ho ⊢
  rw [← h (4 * k) (by omega), ← h (4 * k + 1) (by omega)]
  exact ho
/-- what stands after n items: the house t, and all may be done -/
def iS (it : Nat → Int32) (r : rT) (n : Nat) (t : rT) : Prop := ap it r n = t ∧ ∀ k, k < n → okI it k (ap it r k)
theorem iS_add {it : Nat → Int32} {r t : rT} {n : Nat} {x a z c : Int32} (h : iS it r n t) (ho : okI (add4 it n x a z c) n t) : iS (add4 it n x a z c) r (n + 1) (ap1 (add4 it n x a z c) n t) := by
  have e : ∀ k, k ≤ n → ap (add4 it n x a z c) r k = ap it r k := fun k hk => ap_x k (fun p hp => add4_lt (by omega))
  refine ⟨?_, fun k hk => ?_⟩
  · rw [ap, e n (Nat.le_refl _), h.1]
  · rw [e k (by omega)]
    rcases Nat.eq_or_lt_of_le (Nat.le_of_lt_succ hk) with q | q
    · rw [q, h.1]; exact ho
    · exact okI_x (fun p hp => (add4_lt (by omega)).symm) (h.2 k q)
theorem iS_g {it : Nat → Int32} {r t : rT} {n : Nat} {k a z c : Int32} (h : iS it r n t) (w : wf t) (hc : cnt t < 8) (hk : okv k 7) : iS (add4 it n k a z c) r (n + 1) (itm t k a z c) := by
  have k10 : ¬ k = 10 ∧ ¬ k = 11 ∧ ¬ k = 12 := by
    obtain ⟨e, hl⟩ := hk
    rw [e]
    refine ⟨?_, ?_, ?_⟩
    · intro q; exact absurd ((nI_eq (b := 10) (by omega) (by decide)).mp q) (by omega)
    · intro q; exact absurd ((nI_eq (b := 11) (by omega) (by decide)).mp q) (by omega)
    · intro q; exact absurd ((nI_eq (b := 12) (by omega) (by decide)).mp q) (by omega)
  have h1 := iS_add (x := k) (a := a) (z := z) (c := c) h (Or.inr (Or.inr (Or.inr (by rw [add4_0]; exact ⟨k10.1, k10.2.1, k10.2.2, w, hc⟩))))
  rw [show ap1 (add4 it n k a z c) n t = itm t k a z c from by unfold ap1; rw [add4_0, add4_1, add4_2, add4_3, if_neg k10.1, if_neg k10.2.1, if_neg k10.2.2]] at h1
  exact h1
theorem iS_c {it : Nat → Int32} {r t : rT} {n : Nat} {a z c : Int32} (h : iS it r n t) (ha : okv a 16) : iS (add4 it n 10 a z c) r (n + 1) (u2 t 0 a.toNatClampNeg z) := by
  have h1 := iS_add (x := 10) (a := a) (z := z) (c := c) h (Or.inl (by rw [add4_0, add4_1]; exact ⟨rfl, ha⟩))
  rw [show ap1 (add4 it n 10 a z c) n t = u2 t 0 a.toNatClampNeg z from by unfold ap1; rw [add4_0, add4_1, add4_2, if_pos rfl]] at h1
  exact h1
theorem iS_m {it : Nat → Int32} {r t : rT} {n : Nat} {a z c : Int32} (h : iS it r n t) (ha : okv a 6) : iS (add4 it n 11 a z c) r (n + 1) (u2 t 1 a.toNatClampNeg z) := by
  have h1 := iS_add (x := 11) (a := a) (z := z) (c := c) h (Or.inr (Or.inl (by rw [add4_0, add4_1]; exact ⟨rfl, ha⟩)))
  rw [show ap1 (add4 it n 11 a z c) n t = u2 t 1 a.toNatClampNeg z from by unfold ap1; rw [add4_0, add4_1, add4_2, if_neg (by decide), if_pos rfl]] at h1
  exact h1
theorem iS_k {it : Nat → Int32} {r t : rT} {n : Nat} {a z c : Int32} (h : iS it r n t) : iS (add4 it n 12 a z c) r (n + 1) (u2 t 9 3 a) := by
  have h1 := iS_add (x := 12) (a := a) (z := z) (c := c) h (Or.inr (Or.inr (Or.inl add4_0)))
  rw [show ap1 (add4 it n 12 a z c) n t = u2 t 9 3 a from by unfold ap1; rw [add4_0, add4_1, if_neg (by decide), if_neg (by decide), if_pos rfl]] at h1
  exact h1
theorem it_10 {t : rT} {k a : Int32} : itm t k a 10 a = s_add t k a := by
  unfold itm
  have e1 : u2 (s_add t k a) 4 (cnt t) 10 = s_add t k a := u2_self (by
    unfold s_add
    rw [u2_f (by omega), u2_f (by omega), u2_f (by omega), u2_f (by omega)]
    exact u2_s)
  rw [e1]
  exact u2_self (by
    unfold s_add
    rw [u2_f (by omega), u2_f (by omega), u2_f (by omega)]
    exact u2_s)
theorem it_sz {t : rT} {k a z : Int32} : u2 (s_add t k a) 4 (cnt t) z = itm t k a z a := by
  rw [← it_10]
  unfold itm
  funext x y
  simp only [u2_at]
  by_cases h1 : x = 4 ∧ y = cnt t
  · rw [if_pos h1, if_neg (by omega), if_pos h1]
  · rw [if_neg h1]
    by_cases h2 : x = 5 ∧ y = cnt t
    · rw [if_pos h2, if_pos h2]
    · rw [if_neg h2, if_neg h1, if_neg h2, if_neg h1]
theorem it_am {t : rT} {k a z c : Int32} : u2 (itm t k a z a) 5 (cnt t) c = itm t k a z c := u2_u2
