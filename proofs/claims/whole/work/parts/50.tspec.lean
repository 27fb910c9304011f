/-! ===== tokens and texts ===== -/
abbrev tk : Type := Nat × Nat × Nat × Int32
def isL (x : Int32) : Bool := wi x 97 122
def isD (x : Int32) : Bool := wi x 48 57
def tk_sk (b : Nat → Int32) : Nat → Nat → Nat
  | 0, p => p
  | k + 1, p => if b p = 32 then tk_sk b k (p + 1) else p
def tk_wd (b : Nat → Int32) : Nat → Nat → Nat
  | 0, p => p
  | k + 1, p => if isL (b p) = true then tk_wd b k (p + 1) else p
def tk_nm (b : Nat → Int32) : Nat → Nat → Int32 → Nat × Int32
  | 0, p, v => (p, v)
  | k + 1, p, v => if isD (b p) = true then tk_nm b k (p + 1) (s_min (10 * v + b p - 48) 10000) else (p, v)
/-- the token that begins at q: its begin, its end, its sort (0 end, 1 word, 2 number, 3 sign, 4 none), the number's register -/
def tk_at (b : Nat → Int32) (L q : Nat) (n : Int32) : tk :=
  if q < L then (if isL (b q) = true then (q, tk_wd b (L - q) q, 1, n) else if isD (b q) = true then (q, (tk_nm b (L - q) q 0).1, 2, (tk_nm b (L - q) q 0).2) else if b q = 59 then (q, q + 1, 3, n) else (q, q, 4, n)) else (q, q, 0, n)
def tkn (b : Nat → Int32) (L p : Nat) (n : Int32) : tk := tk_at b L (tk_sk b (L - p) p) n
theorem sk_le {b : Nat → Int32} : ∀ (k p : Nat), p ≤ tk_sk b k p ∧ tk_sk b k p ≤ p + k := by
  intro k
  induction k with
  | zero => intro p; exact ⟨Nat.le_refl _, Nat.le_refl _⟩
  | succ k ih =>
    intro p
    rw [tk_sk]
    split
    · have := ih (p + 1); omega
    · omega
theorem wd_le {b : Nat → Int32} : ∀ (k p : Nat), p ≤ tk_wd b k p ∧ tk_wd b k p ≤ p + k := by
  intro k
  induction k with
  | zero => intro p; exact ⟨Nat.le_refl _, Nat.le_refl _⟩
  | succ k ih =>
    intro p
    rw [tk_wd]
    split
    · have := ih (p + 1); omega
    · omega
theorem nm_le {b : Nat → Int32} : ∀ (k p : Nat) (v : Int32), p ≤ (tk_nm b k p v).1 ∧ (tk_nm b k p v).1 ≤ p + k := by
  intro k
  induction k with
  | zero => intro p v; exact ⟨Nat.le_refl _, Nat.le_refl _⟩
  | succ k ih =>
    intro p v
    rw [tk_nm]
    split
    · have := ih (p + 1) (s_min (10 * v + b p - 48) 10000); omega
    · show p ≤ p ∧ p ≤ p + (k + 1); omega
/-- a token in its place -/
def tw (L : Nat) (T : tk) : Prop := T.1 ≤ T.2.1 ∧ T.2.1 ≤ L ∧ T.2.2.1 < 5
theorem tw_at {b : Nat → Int32} {L q : Nat} {n : Int32} (h : q ≤ L) : tw L (tk_at b L q n) ∧ q ≤ (tk_at b L q n).1 := by
  unfold tk_at tw
  split
  · split
    · have := wd_le (b := b) (L - q) q
      exact ⟨⟨this.1, by show tk_wd b (L - q) q ≤ L; omega, by show 1 < 5; decide⟩, Nat.le_refl _⟩
    · split
      · have := nm_le (b := b) (L - q) q 0
        exact ⟨⟨this.1, by show (tk_nm b (L - q) q 0).1 ≤ L; omega, by show 2 < 5; decide⟩, Nat.le_refl _⟩
      · split
        · exact ⟨⟨by show q ≤ q + 1; omega, by show q + 1 ≤ L; omega, by show 3 < 5; decide⟩, Nat.le_refl _⟩
        · exact ⟨⟨Nat.le_refl _, h, by show 4 < 5; decide⟩, Nat.le_refl _⟩
  · exact ⟨⟨Nat.le_refl _, h, by show 0 < 5; decide⟩, Nat.le_refl _⟩
theorem tw_n {b : Nat → Int32} {L p : Nat} {n : Int32} (h : p ≤ L) : tw L (tkn b L p n) ∧ p ≤ (tkn b L p n).1 := by
  have h1 := sk_le (b := b) (L - p) p
  have h2 := tw_at (b := b) (L := L) (q := tk_sk b (L - p) p) (n := n) (by omega)
  exact ⟨h2.1, Nat.le_trans h1.1 h2.2⟩
def tJ (T : tk) : Int32 × Int32 × Int32 × Int32 := (nI T.2.1, nI T.2.2.1, nI T.1, T.2.2.2)
def tk_eq (b : Nat → Int32) (st : Nat) (w : List Int32) : Nat → Nat → Bool
  | 0, _ => true
  | k + 1, i => if b (st + i) = w.getD i 0 then tk_eq b st w k (i + 1) else false
def tk_is (b : Nat → Int32) (T : tk) (w : List Int32) : Bool := if T.2.2.1 = 1 ∧ T.2.1 - T.1 = w.length then tk_eq b T.1 w w.length 0 else false
def tk_num (T : tk) (lo hi : Int32) : Bool := if T.2.2.1 = 2 then wi T.2.2.2 lo hi else false
def wk (k : Nat) : Nat := if k = 0 then 6 else k - 1
def wd (k : Nat) : List Int32 := (a_ss (wk k)).2.2.2
def s_kt (b : Nat → Int32) (T : tk) : Nat → Nat → Int32
  | 0, _ => -1
  | j + 1, k => if tk_is b T (wd k) = true then nI k else s_kt b T j (k + 1)
section NX
variable (b : Nat → Int32) (nx : tk → tk)
def p_pair (q N : Nat) (lo hi : Int32) (T : tk) (t : rT) : Bool × tk × rT :=
  if tk_num (nx T) 0 (nI N - 1) = true then (if tk_num (nx (nx T)) lo hi = true then (true, nx (nx (nx T)), u2 t q (nx T).2.2.2.toNatClampNeg (nx (nx T)).2.2.2) else (false, nx (nx T), t)) else (false, nx T, t)
def p_trait (w : List Int32) (q g : Nat) (lo hi : Int32) (T : tk) (t : rT) : Bool × tk × rT :=
  if tk_is b T w = true then (if tk_num (nx T) lo hi = true then (true, nx (nx T), u2 t q g (nx T).2.2.2) else (false, nx T, t)) else (true, T, t)
def p_g3 (g : Nat) (P : Bool × tk × rT) : Bool × tk × rT := if P.1 = true then p_trait b nx (a_ss 9).2.2.2 5 g 0 15 P.2.1 P.2.2 else (false, P.2.1, P.2.2)
def p_g2 (k at_ : Int32) (T : tk) (t : rT) : Bool × tk × rT := p_g3 b nx (cnt t) (p_trait b nx (a_ss 8).2.2.2 4 (cnt t) 1 40 T (s_add t k at_))
def p_guest (k : Int32) (T : tk) (t : rT) : Bool × tk × rT :=
  if t 9 1 < 8 then (if tk_is b (nx T) (a_ss 7).2.2.2 = true then (if tk_num (nx (nx T)) 0 15 = true then p_g2 b nx k (nx (nx T)).2.2.2 (nx (nx (nx T))) t else (false, nx (nx T), t)) else p_g2 b nx k 0 (nx T) t) else (false, T, t)
def p_item (T : tk) (t : rT) : Bool × tk × rT :=
  if s_kt b T 7 0 < 0 then (if tk_is b T (a_ss 10).2.2.2 = true then p_pair nx 0 16 0 40 T t else if tk_is b T (a_ss 11).2.2.2 = true then p_pair nx 1 6 16 36 T t else if tk_is b T (a_ss 12).2.2.2 = true then (if tk_num (nx T) 0 999 = true then (true, nx (nx T), u2 t 9 3 (nx T).2.2.2) else (false, nx T, t)) else (false, T, t)) else p_guest b nx (s_kt b T 7 0) T t
def p_read : Nat → Nat → tk → rT → Int32 × tk × rT
  | 0, _, T, t => (-1 - nI T.1, T, t)
  | f + 1, i, T, t => if (p_item b nx T t).1 = true then (if (p_item b nx T t).2.1.2.2.1 = 0 then (nI i, (p_item b nx T t).2) else if (p_item b nx T t).2.1.2.2.1 = 3 then p_read f (i + 1) (nx (p_item b nx T t).2.1) (p_item b nx T t).2.2 else (-1 - nI (p_item b nx T t).2.1.1, (p_item b nx T t).2)) else (-1 - nI (p_item b nx T t).2.1.1, (p_item b nx T t).2)
end NX
def nxC (b : Nat → Int32) (L : Nat) (T : tk) : tk := tkn b L T.2.1 T.2.2.2
def nxM (b : Nat → Int32) (L : Nat) (T : tk) : tk := tkn b L T.2.1 0
