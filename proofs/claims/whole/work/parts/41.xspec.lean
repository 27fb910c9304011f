/-! ===== what the calls answer, and what is then ===== -/
def wi (v a b : Int32) : Bool := decide (¬ v < a ∧ ¬ b < v)
theorem wi_nI {x M : Int32} {N : Nat} (h : wi x 0 M = true) (hM : M.toInt = N) : ∃ j : Nat, j ≤ N ∧ x = nI j := by
  unfold wi at h
  have h := of_decide_eq_true h
  exact nI_of2 hM h.1 (Int32.not_lt.mp h.2)
abbrev sS : Type := rT × rT × Int32 × sT × (Nat → Int32) × Int32 × (Nat → Int32)
/-- a finding is told -/
def fb (σ : sS) (k : Nat) : Int32 × sS := (-1000001 - nI k, (σ.1, σ.2.1, σ.2.2.1, σ.2.2.2.1, σ.2.2.2.2.1, σ.2.2.2.2.2.1, upd σ.2.2.2.2.2.2 k (σ.2.2.2.2.2.2 k + 1)))
def sr (σ : sS) (r : rT) : sS := (r, σ.2)
def sG (σ : sS) (g : Int32) : Bool := wi g 0 (σ.1 9 1 - 1)
def gs (w : Int32) : Int32 := if w = 0 then 999 else if w = 1 then 9999 else 1
def sp_set (σ : sS) (w v : Int32) : Int32 × sS :=
  if wi w 0 2 = true ∧ wi v 0 (gs w) = true then (if w = 0 then (σ.1 9 3, sr σ (u2 σ.1 9 3 v)) else if w = 1 then (σ.1 9 4, sr σ (u2 σ.1 9 4 v)) else (σ.1 9 5, sr σ (u2 σ.1 9 5 v))) else fb σ 0
def sp_cell (σ : sS) (c v : Int32) : Int32 × sS := if wi c 0 15 = true ∧ wi v 0 40 = true then (σ.1 0 c.toNatClampNeg, sr σ (u2 σ.1 0 c.toNatClampNeg v)) else fb σ 0
def sp_measure (σ : sS) (i v : Int32) : Int32 × sS := if wi i 0 5 = true ∧ wi v 16 36 = true then (σ.1 1 i.toNatClampNeg, sr σ (u2 σ.1 1 i.toNatClampNeg v)) else fb σ 0
def sp_listed (σ : sS) (i : Int32) : Int32 × sS := if wi i 0 5 = true then (σ.1 1 i.toNatClampNeg, σ) else fb σ 0
def sp_wide (σ : sS) (c m : Int32) : Int32 × sS := if wi c 0 15 = true ∧ wi m 16 36 = true then (s_width σ.1 c.toNatClampNeg m, σ) else fb σ 0
def sp_guest (σ : sS) (k c : Int32) : Int32 × sS := if wi k 0 6 = true ∧ wi c 0 15 = true then (if σ.1 9 1 < 8 then (nI (cnt σ.1), sr σ (s_add σ.1 k c)) else fb σ 1) else fb σ 0
def sp_seed (σ : sS) (v : Int32) : Int32 × sS := (σ.1 9 2, sr σ (u2 σ.1 9 2 v))
def sp_go (σ : sS) (n : Int32) : Int32 × sS := if wi n 1 60 = true then (if 99999 < σ.1 9 0 + n then fb σ 4 else (s_hours n.toNatClampNeg σ.1 9 4, sr σ (s_hours n.toNatClampNeg σ.1))) else fb σ 0
def sp_strain (σ : sS) (n : Int32) : Int32 × sS := if wi n 0 100 = true then (s_hours n.toNatClampNeg σ.1 9 4, σ) else fb σ 0
def sp_reach (σ : sS) (g m : Int32) : Int32 × sS := if sG σ g = true ∧ wi m 16 36 = true then (s_reach σ.1 g.toNatClampNeg m, σ) else fb σ 0
