/-! ===== what the calls answer, and what is then ===== -/
def wi (v a b : Int32) : Bool := decide (¬ v < a ∧ ¬ b < v)
theorem wi_nI {x M : Int32} {N : Nat} (h : wi x 0 M = true) (hM : M.toInt = N) : ∃ j : Nat, j ≤ N ∧ x = nI j := by
  unfold wi at h
  have h := of_decide_eq_true h
  exact nI_of2 hM h.1 (Int32.not_lt.mp h.2)
abbrev sS : Type := rT × rT × Int32 × sT × (Nat → Int32) × Int32 × (Nat → Int32)
/-- a finding is told -/
def fb (σ : sS) (k : Nat) : Int32 × sS := (-1000001 - nI k, (σ.1, σ.2.1, σ.2.2.1, σ.2.2.2.1, σ.2.2.2.2.1, σ.2.2.2.2.2.1, upd σ.2.2.2.2.2.2 k (σ.2.2.2.2.2.2 k + 1)))
def sr (σ : sS) (r : rT) : sS := (r, σ.2)
def sG (σ : sS) (g : Int32) : Bool := wi g 0 (σ.1 9 1 - 1)
def gs (w : Int32) : Int32 := if w = 0 then 999 else if w = 1 then 9999 else 1
def sp_set (σ : sS) (w v : Int32) : Int32 × sS :=
  if wi w 0 2 = true ∧ wi v 0 (gs w) = true then (if w = 0 then (σ.1 9 3, sr σ (u2 σ.1 9 3 v)) else if w = 1 then (σ.1 9 4, sr σ (u2 σ.1 9 4 v)) else (σ.1 9 5, sr σ (u2 σ.1 9 5 v))) else fb σ 0
def sp_cell (σ : sS) (c v : Int32) : Int32 × sS := if wi c 0 15 = true ∧ wi v 0 40 = true then (σ.1 0 c.toNatClampNeg, sr σ (u2 σ.1 0 c.toNatClampNeg v)) else fb σ 0
def sp_measure (σ : sS) (i v : Int32) : Int32 × sS := if wi i 0 5 = true ∧ wi v 16 36 = true then (σ.1 1 i.toNatClampNeg, sr σ (u2 σ.1 1 i.toNatClampNeg v)) else fb σ 0
def sp_listed (σ : sS) (i : Int32) : Int32 × sS := if wi i 0 5 = true then (σ.1 1 i.toNatClampNeg, σ) else fb σ 0
def sp_wide (σ : sS) (c m : Int32) : Int32 × sS := if wi c 0 15 = true ∧ wi m 16 36 = true then (s_width σ.1 c.toNatClampNeg m, σ) else fb σ 0
def sp_guest (σ : sS) (k c : Int32) : Int32 × sS := if wi k 0 6 = true ∧ wi c 0 15 = true then (if σ.1 9 1 < 8 then (nI (cnt σ.1), sr σ (s_add σ.1 k c)) else fb σ 1) else fb σ 0
def sp_seed (σ : sS) (v : Int32) : Int32 × sS := (σ.1 9 2, sr σ (u2 σ.1 9 2 v))
def sp_go (σ : sS) (n : Int32) : Int32 × sS := if wi n 1 60 = true then (if 99999 < σ.1 9 0 + n then fb σ 4 else (s_hours n.toNatClampNeg σ.1 9 4, sr σ (s_hours n.toNatClampNeg σ.1))) else fb σ 0
def sp_strain (σ : sS) (n : Int32) : Int32 × sS := if wi n 0 100 = true then (s_hours n.toNatClampNeg σ.1 9 4, σ) else fb σ 0
def sp_reach (σ : sS) (g m : Int32) : Int32 × sS := if sG σ g = true ∧ wi m 16 36 = true then (s_reach σ.1 g.toNatClampNeg m, σ) else fb σ 0
theorem sG_nI {r : rT} (w : wf r) {g : Int32} (h : wi g 0 (r 9 1 - 1) = true) : ∃ i : Nat, i < cnt r ∧ g = nI i := by
  unfold wi at h
  have h := of_decide_eq_true h
  rw [w.ct] at h
  have hl := w.ctl
  cases hc : cnt r with
  | zero =>
    rw [hc] at h
    exact absurd (Int32.lt_of_lt_of_le (show nI 0 - 1 < 0 by decide) (Int32.not_lt.mp h.1)) h.2
  | succ n =>
    rw [hc, nI_pred] at h
    obtain ⟨j, hj, rfl⟩ := nI_of h.1
    exact ⟨j, by
      rcases Nat.lt_or_ge j (n + 1) with q | q
      · exact q
      · exact absurd (nI_lt (show n < j by omega) (by omega)) h.2, rfl⟩
def s_told (r : rT) (g : Nat) (w : Int32) : Int32 := if w = 6 then s_needs r g else if w = 7 then k_steps (r 2 g) else if w = 8 then k_laughs (r 2 g) (r 9 0) else if w = 9 then k_laces (r 2 g) else r (2 + w.toNatClampNeg) g
def sp_of (σ : sS) (g w : Int32) : Int32 × sS := if sG σ g = true ∧ wi w 0 9 = true then (s_told σ.1 g.toNatClampNeg w, σ) else fb σ 0
def sL (w : Int32) : Int32 := (a_sa 1).2.2.getD w.toNatClampNeg 0
def sU (w : Int32) : Int32 := (a_sa 2).2.2.getD w.toNatClampNeg 0
def sp_change (σ : sS) (g w v : Int32) : Int32 × sS := if sG σ g = true ∧ wi w 0 5 = true ∧ wi v (sL w) (sU w) = true then (σ.1 (2 + w.toNatClampNeg) g.toNatClampNeg, sr σ (u2 σ.1 (2 + w.toNatClampNeg) g.toNatClampNeg v)) else fb σ 0
def c_ahead (σ : sS) (g w n : Int32) : Prop := sG σ g = true ∧ (w = 1 ∨ w = 4 ∨ w = 6) ∧ wi n 0 100 = true
def sp_ahead (σ : sS) (g w n : Int32) : Int32 × sS := if sG σ g = true ∧ (w = 1 ∨ w = 4 ∨ w = 6) ∧ wi n 0 100 = true then (if w = 6 then s_needs (s_hours n.toNatClampNeg σ.1) g.toNatClampNeg else s_hours n.toNatClampNeg σ.1 (2 + w.toNatClampNeg) g.toNatClampNeg, σ) else fb σ 0
def sp_now (σ : sS) (w : Int32) : Int32 × sS := if w = 0 then (σ.1 9 0, σ) else if w = 1 then (s_meas σ.1, σ) else if w = 2 then (σ.1 9 4, σ) else if w = 3 then (σ.1 9 5, σ) else if w = 4 then (s_set (fun g => decide (0 < σ.1 6 g)) (cnt σ.1) 0 0, σ) else if w = 5 then (s_set (fun g => decide (σ.1 3 g = σ.1 5 g)) (cnt σ.1) 0 0, σ) else if w = 6 then (s_set (fun g => decide (σ.1 3 g = 0 ∧ σ.1 7 g = 0)) (cnt σ.1) 0 0, σ) else if w = 7 then (s_set (fun c => decide (s_width σ.1 c (s_meas σ.1) = 0)) 16 0 0, σ) else fb σ 0
def sp_count (σ : sS) (w : Int32) : Int32 × sS := if w = 0 then (σ.1 9 0, σ) else if w = 1 then (σ.1 9 1, σ) else if w = 2 then (σ.1 9 4, σ) else if w = 3 then (σ.1 9 5, σ) else if w = 4 then (s_sum (σ.1 7) (cnt σ.1) 0 0, σ) else if w = 5 then (σ.2.2.2.2.2.1, σ) else if w = 6 then (σ.1 9 2, σ) else if w = 7 then (s_sum (fun i => if σ.1 8 i = -1 then 0 else 1) 10 0 0, σ) else fb σ 0
def sp_hold (σ : sS) (s g : Int32) : Int32 × sS := if wi s 0 9 = true ∧ (g = -1 ∨ sG σ g = true) then (1, sr σ (u2 σ.1 8 s.toNatClampNeg g)) else fb σ 0
def s_und (w : Int32) : Nat → Int32 → Bool
  | 0, _ => false
  | n + 1, k => if k < 0 then false else if ¬ k < 7 then false else if k = w then true else s_und w n ((a_sa 3).2.2.getD k.toNatClampNeg 0)
def sp_as (σ : sS) (s k : Int32) : Int32 × sS := if wi s 0 9 = true ∧ wi k 0 6 = true then (if sG σ (σ.1 8 s.toNatClampNeg) = true then (if s_und k 7 (σ.1 2 (nat σ.1 8 s.toNatClampNeg)) = true then (σ.1 8 s.toNatClampNeg, σ) else fb σ 2) else fb σ 5) else fb σ 0
def sp_image (σ : sS) : Int32 × sS := (1, (σ.1, σ.1, 1, σ.2.2.2))
def sp_undo (σ : sS) : Int32 × sS := if σ.2.2.1 = 0 then fb σ 3 else (σ.2.1 9 0, sr σ σ.2.1)
def sp_tear (σ : sS) : Int32 × sS := (if σ.2.2.1 = 0 then 0 else 1, (σ.1, σ.2.1, 0, σ.2.2.2))
def sp_wipe (σ : sS) : Int32 × sS := (σ.2.2.2.2.2.1, (σ.1, σ.2.1, σ.2.2.1, σ.2.2.2.1, σ.2.2.2.2.1, 0, σ.2.2.2.2.2.2))
def sp_status (σ : sS) (w : Int32) : Int32 × sS := if wi w (-1) 6 = true then (if w < 0 then (s_sum σ.2.2.2.2.2.2 7 0 0, σ) else (σ.2.2.2.2.2.2 w.toNatClampNeg, σ)) else fb σ 0
/-! ===== sheets ===== -/
def sb (b : Int32) : Bool := decide (b = 0 ∨ b = 8 ∨ b = 16 ∨ b = 32)
def wS (S : sT) : Prop := (∀ s, s < 4 → okv (S.2.2 s) 41) ∧ ∀ s, s < 4 → (S.2.1 s = 0 ∨ S.2.1 s = 8 ∨ S.2.1 s = 16 ∨ S.2.1 s = 32)
def s_clr (f : Nat → Int32) : Nat → Int32 := fun k => if k < 40 then 0 else f k
def s_cut (v b : Int32) : Int32 := (v <<< ((32 - b) &&& 31)) >>> ((32 - b) &&& 31)
def sR (S : sT) (s : Nat) (f n : Int32) : Bool := decide (¬ f < 0 ∧ ¬ n < 0 ∧ ¬ S.2.2 s < n ∧ ¬ S.2.2 s - n < f)
def sS4 (σ : sS) (S : sT) : sS := (σ.1, σ.2.1, σ.2.2.1, S, σ.2.2.2.2)
def sp_sheet (σ : sS) (s b n : Int32) : Int32 × sS := if wi s 0 3 = true ∧ sb b = true then (if n < 0 then fb σ 6 else if 40 < n then fb σ 0 else (if b = 0 then 0 else n, sS4 σ (v2 σ.2.2.2.1.1 s.toNatClampNeg (s_clr (σ.2.2.2.1.1 s.toNatClampNeg)), upd σ.2.2.2.1.2.1 s.toNatClampNeg b, upd σ.2.2.2.1.2.2 s.toNatClampNeg (if b = 0 then 0 else n)))) else fb σ 0
def sp_write (σ : sS) (s i v : Int32) : Int32 × sS := if wi s 0 3 = true then (if σ.2.2.2.1.2.1 s.toNatClampNeg = 0 then fb σ 5 else if wi i 0 (σ.2.2.2.1.2.2 s.toNatClampNeg - 1) = true then (1, sS4 σ (u2 σ.2.2.2.1.1 s.toNatClampNeg i.toNatClampNeg (s_cut v (σ.2.2.2.1.2.1 s.toNatClampNeg)), σ.2.2.2.1.2)) else fb σ 0) else fb σ 0
def sp_copy (σ : sS) (s f t g n : Int32) : Int32 × sS := if wi s 0 3 = true ∧ wi t 0 3 = true then (if σ.2.2.2.1.2.1 s.toNatClampNeg = 0 ∨ σ.2.2.2.1.2.1 t.toNatClampNeg = 0 then fb σ 5 else if σ.2.2.2.1.2.1 s.toNatClampNeg = σ.2.2.2.1.2.1 t.toNatClampNeg then (if sR σ.2.2.2.1 s.toNatClampNeg f n = true ∧ sR σ.2.2.2.1 t.toNatClampNeg g n = true then (n, sS4 σ (v2 σ.2.2.2.1.1 t.toNatClampNeg (va_cpy (σ.2.2.2.1.1 s.toNatClampNeg) (σ.2.2.2.1.1 t.toNatClampNeg) f.toNatClampNeg g.toNatClampNeg n.toNatClampNeg), σ.2.2.2.1.2)) else fb σ 0) else fb σ 2) else fb σ 0
/-- numbers of a row that become bases: k left, from place c on -/
def s_load (f : Nat → Int32) : Nat → Nat → rT → Nat × rT
  | 0, c, r => (c, r)
  | k + 1, c, r => if wi (f c) 0 40 = true then s_load f k (c + 1) (u2 r 0 c (f c)) else (c, r)
def s_lmost (S : sT) (s : Nat) : Nat := min (S.2.2 s).toNatClampNeg 16
def sp_load (σ : sS) (s : Int32) : Int32 × sS := if wi s 0 3 = true then (if σ.2.2.2.1.2.1 s.toNatClampNeg = 0 then fb σ 5 else (nI (s_load (σ.2.2.2.1.1 s.toNatClampNeg) (s_lmost σ.2.2.2.1 s.toNatClampNeg) 0 σ.1).1, sr σ (s_load (σ.2.2.2.1.1 s.toNatClampNeg) (s_lmost σ.2.2.2.1 s.toNatClampNeg) 0 σ.1).2)) else fb σ 0
def s_judge (r : rT) (f : Nat → Int32) : Nat → Nat → Int32
  | 0, _ => 0
  | k + 1, i => if wi (nI i) 0 (r 9 1 - 1) = true ∧ r 3 i = f i then s_judge r f k (i + 1) else 1 + nI i
def sp_judge (σ : sS) (s : Int32) : Int32 × sS := if wi s 0 3 = true then (if σ.2.2.2.1.2.1 s.toNatClampNeg = 0 then fb σ 5 else (s_judge σ.1 (σ.2.2.2.1.1 s.toNatClampNeg) (σ.2.2.2.1.2.2 s.toNatClampNeg).toNatClampNeg 0, σ)) else fb σ 0
def s_feed (x : Int32) : Nat → (Nat → Int32) → Int32 → (Nat → Int32) × Int32
  | 0, b, ln => (b, ln)
  | k + 1, b, ln => s_feed x k (upd b ln.toNatClampNeg ((x.toUInt32 >>> ((8 * nI k).toUInt32 &&& Int32.toUInt32 31)).toInt32 &&& 255)) (ln + 1)
def sp_feed (σ : sS) (x n : Int32) : Int32 × sS := if wi n 1 4 = true then (if 120 - σ.2.2.2.2.2.1 < n then fb σ 1 else ((s_feed x n.toNatClampNeg σ.2.2.2.2.1 σ.2.2.2.2.2.1).2, (σ.1, σ.2.1, σ.2.2.1, σ.2.2.2.1, (s_feed x n.toNatClampNeg σ.2.2.2.2.1 σ.2.2.2.2.2.1).1, (s_feed x n.toNatClampNeg σ.2.2.2.2.1 σ.2.2.2.2.2.1).2, σ.2.2.2.2.2.2))) else fb σ 0
/-! ===== searches ===== -/
def orN (σ : sS) (v : Int32) : Int32 × sS := if v < 0 then fb σ 3 else (v, σ)
def s_find (p : rT → Bool) : Nat → Nat → rT → Int32
  | 0, _, _ => -1
  | k + 1, n, t => if p t = true then nI n else s_find p k (n + 1) (s_hour t)
def s_first (q : Nat → Bool) : Nat → Nat → Int32
  | 0, _ => -1
  | k + 1, m => if q m = true then nI m else s_first q k (m + 1)
def s_firstD (q : Nat → Bool) : Nat → Int32
  | 0 => -1
  | k + 1 => if q (k + 1) = true then nI (k + 1) else s_firstD q k
def sp_snaps (σ : sS) : Int32 × sS := orN σ (s_find (fun t => decide (t 9 5 = 1)) 201 0 σ.1)
def sp_comes (σ : sS) (g c : Int32) : Int32 × sS := if sG σ g = true ∧ wi c 0 15 = true then orN σ (s_find (fun t => decide (t 3 g.toNatClampNeg = c)) 201 0 σ.1) else fb σ 0
def sp_stuck (σ : sS) (g v : Int32) : Int32 × sS := if sG σ g = true ∧ wi v 0 9999 = true then orN σ (s_find (fun t => decide (¬ t 6 g.toNatClampNeg < v)) 201 0 σ.1) else fb σ 0
def q_tight (r : rT) (i n m : Nat) : Bool := decide (s_hold n (u2 r 1 i (nI m)) 9 5 = 0)
def sp_tight (σ : sS) (i n : Int32) : Int32 × sS := if wi i 0 5 = true ∧ wi n 0 60 = true then orN σ (s_first (q_tight σ.1 i.toNatClampNeg n.toNatClampNeg) 21 16) else fb σ 0
def q_mf (r : rT) (g c m : Nat) : Bool := decide (s_reach r g (nI m) >>> (nI c &&& 31) &&& 1 = 1)
def sp_measureFor (σ : sS) (g c : Int32) : Int32 × sS := if sG σ g = true ∧ wi c 0 15 = true then orN σ (s_first (q_mf σ.1 g.toNatClampNeg c.toNatClampNeg) 21 16) else fb σ 0
def q_sz (r : rT) (g n v : Nat) : Bool := decide (s_hours n (u2 r 4 g (nI v)) 3 g = s_hours n (u2 r 4 g (nI v)) 5 g)
def sp_sizeFor (σ : sS) (g n : Int32) : Int32 × sS := if sG σ g = true ∧ wi n 0 60 = true then orN σ (s_firstD (q_sz σ.1 g.toNatClampNeg n.toNatClampNeg) 40) else fb σ 0
def s_kf (r : rT) (g n : Nat) : Nat → Nat → Int32 → Int32 → Int32
  | 0, _, b, _ => b
  | j + 1, k, b, le => if s_hours n (u2 r 2 g (nI k)) 9 4 < le then s_kf r g n j (k + 1) (nI k) (s_hours n (u2 r 2 g (nI k)) 9 4) else s_kf r g n j (k + 1) b le
def sp_kindFor (σ : sS) (g n : Int32) : Int32 × sS := if sG σ g = true ∧ wi n 0 60 = true then (s_kf σ.1 g.toNatClampNeg n.toNatClampNeg 7 0 0 10000, σ) else fb σ 0
def s_prt : Nat → rT → rT
  | 0, r => r
  | n + 1, r => s_prt n (s_party r)
def sp_party (σ : sS) (n : Int32) : Int32 × sS := if wi n 1 20 = true then (if 99999 < σ.1 9 0 + n then fb σ 4 else (s_prt n.toNatClampNeg σ.1 9 4, sr σ (s_prt n.toNatClampNeg σ.1))) else fb σ 0
/-- the told places of a sheet: k left, from place i on -/
def s_as (f : Nat → Int32) (g : Nat) : Nat → Nat → rT → Bool
  | 0, _, _ => true
  | k + 1, i, t => if f i = -1 ∨ f i = s_hour t 3 g then s_as f g k (i + 1) (s_hour t) else false
def q_fit (σ : sS) (s g m : Nat) : Int32 := if s_as (σ.2.2.2.1.1 s) g (σ.2.2.2.1.2.2 s).toNatClampNeg 0 (u2 σ.1 1 (s_place σ.1) (nI m)) = true then 1 else 0
def q_knd (σ : sS) (s g k : Nat) : Bool := s_as (σ.2.2.2.1.1 s) g (σ.2.2.2.1.2.2 s).toNatClampNeg 0 (u2 σ.1 2 g (nI k))
def sp_fits (σ : sS) (s g : Int32) : Int32 × sS := if wi s 0 3 = true then (if σ.2.2.2.1.2.1 s.toNatClampNeg = 0 then fb σ 5 else if sG σ g = true then (s_sum (q_fit σ s.toNatClampNeg g.toNatClampNeg) 21 16 0, σ) else fb σ 0) else fb σ 0
def sp_kinds (σ : sS) (s g : Int32) : Int32 × sS := if wi s 0 3 = true then (if σ.2.2.2.1.2.1 s.toNatClampNeg = 0 then fb σ 5 else if sG σ g = true then (s_set (q_knd σ s.toNatClampNeg g.toNatClampNeg) 7 0 0, σ) else fb σ 0) else fb σ 0
def pcnt (s : Nat) : Nat := s % 2 + s / 2 % 2 + s / 4 % 2 + s / 8 % 2 + s / 16 % 2 + s / 32 % 2 + s / 64 % 2 + s / 128 % 2
def q_snd (r : rT) (n s : Nat) : Bool := decide (s_hold n (s_send (nI s) (cnt r) 0 r) 9 5 = 0)
def s_in1 (q : Nat → Bool) (many : Nat) : Nat → Nat → Int32
  | 0, _ => -1
  | k + 1, s => if pcnt s = many ∧ q s = true then nI s else s_in1 q many k (s + 1)
def s_out (q : Nat → Bool) (N : Nat) : Nat → Nat → Int32
  | 0, _ => -1
  | j + 1, many => if s_in1 q many N 0 < 0 then s_out q N j (many + 1) else s_in1 q many N 0
def sp_send (σ : sS) (n : Int32) : Int32 × sS := if wi n 0 20 = true then orN σ (s_out (q_snd σ.1 n.toNatClampNeg) (2 ^ cnt σ.1) (cnt σ.1 + 1) 0) else fb σ 0
/-- the common divisor: k turns left -/
def s_gcd : Nat → Int32 → Int32 → Int32
  | 0, _, d => d
  | k + 1, r, d => if r = 0 then d else s_gcd k (d % r) r
def s_pow (b : Int64) : Nat → Int64 → Int64
  | 0, a => a
  | k + 1, a => s_pow b k (a * b)
def s_good (r : rT) (g : Nat) : Int32 := s_sum (s_mta r g) 21 16 0
def sp_odds (σ : sS) (g n w : Int32) : Int64 × sS := if sG σ g = true ∧ wi n 0 13 = true ∧ wi w 0 1 = true then (s_pow (((if w = 0 then s_good σ.1 g.toNatClampNeg else 21) / s_gcd 32 (s_good σ.1 g.toNatClampNeg) 21).toInt64) n.toNatClampNeg 1, σ) else ((fb σ 0).1.toInt64, (fb σ 0).2)
