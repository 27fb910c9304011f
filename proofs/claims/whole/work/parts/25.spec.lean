/-! ===== what the kinds need and do ===== -/
def k_cook (size stuck : Int32) : Int32 := s_max 0 (size + 4 - (if stuck < 3 then 0 else 8))
def k_needs (k size stuck hour : Int32) : Int32 :=
  if k = 1 then k_cook size stuck else if k = 2 then size / 2 else if k = 3 then size / 2 + 3 else if k = 4 then size / 2 + 3 + hour % 2 else if k = 5 then 4 else if k = 6 then k_cook size stuck + 6 else size
def k_steps (k : Int32) : Int32 := if k = 1 then 1 else if k = 2 then 4 else if k = 3 then 3 else if k = 5 then 5 else if k = 6 then 1 else 2
def k_laughs (k hour : Int32) : Int32 := if k = 1 then 5 else if k = 2 then 3 + hour % 3 else if k = 3 then 0 else if k = 4 then 1 else if k = 5 then 2 else if k = 6 then 50 else 3
def k_laces (k : Int32) : Int32 := if k = 3 then 4 else if k = 4 then 8 else 0
/-! ===== a house ===== -/
def hr (r : rT) : Nat := (r 9 0).toNatClampNeg
def cnt (r : rT) : Nat := (r 9 1).toNatClampNeg
def nat (r : rT) (q i : Nat) : Nat := (r q i).toNatClampNeg
/-- a number from 0 on, below N -/
def okv (x : Int32) (N : Nat) : Prop := x = nI x.toNatClampNeg ∧ x.toNatClampNeg < N
/-- numbers in their ranges -/
def wf (r : rT) : Prop := okv (r 9 0) 100000 ∧ okv (r 9 1) 9 ∧ (∀ g, g < 8 → okv (r 2 g) 7) ∧ (∀ g, g < 8 → okv (r 3 g) 16) ∧ (∀ g, g < 8 → okv (r 5 g) 16) ∧ (∀ g, g < 8 → okv (r 6 g) 10000) ∧ (∀ i, i < 10 → r 8 i = -1 ∨ okv (r 8 i) (cnt r))
theorem okv_nI {a N : Nat} (h : a < N) (hN : N < 2 ^ 31) : okv (nI a) N := by
  unfold okv
  rw [nI_clamp (by omega)]
  exact ⟨rfl, h⟩
theorem okv.mono {x : Int32} {N N' : Nat} (h : okv x N) (hN : N ≤ N') : okv x N' := ⟨h.1, Nat.lt_of_lt_of_le h.2 hN⟩
theorem wf.h0 {r : rT} (w : wf r) : r 9 0 = nI (hr r) := w.1.1
theorem wf.h1 {r : rT} (w : wf r) : hr r < 100000 := w.1.2
theorem wf.ct {r : rT} (w : wf r) : r 9 1 = nI (cnt r) := w.2.1.1
theorem wf.ctl {r : rT} (w : wf r) : cnt r < 9 := w.2.1.2
theorem wf.kd {r : rT} (w : wf r) {g : Nat} (h : g < 8) : r 2 g = nI (nat r 2 g) ∧ nat r 2 g < 7 := w.2.2.1 g h
theorem wf.at {r : rT} (w : wf r) {g : Nat} (h : g < 8) : r 3 g = nI (nat r 3 g) ∧ nat r 3 g < 16 := w.2.2.2.1 g h
theorem wf.am {r : rT} (w : wf r) {g : Nat} (h : g < 8) : r 5 g = nI (nat r 5 g) ∧ nat r 5 g < 16 := w.2.2.2.2.1 g h
theorem wf.sk {r : rT} (w : wf r) {g : Nat} (h : g < 8) : r 6 g = nI (nat r 6 g) ∧ nat r 6 g < 10000 := w.2.2.2.2.2.1 g h
theorem wf_u2 {r : rT} {q i : Nat} {v : Int32} (w : wf r) (h0 : q = 9 → i = 0 → okv v 100000) (h1 : q = 9 → ¬ i = 1) (h2 : q = 2 → okv v 7) (h3 : q = 3 → okv v 16) (h5 : q = 5 → okv v 16) (h6 : q = 6 → okv v 10000) (h8 : q = 8 → v = -1 ∨ okv v (cnt r)) : wf (u2 r q i v) := by
  have hc : u2 r q i v 9 1 = r 9 1 := by
    rw [u2_at]
    exact if_neg fun h => h1 h.1.symm h.2.symm
  have hcn : cnt (u2 r q i v) = cnt r := by unfold cnt; rw [hc]
  refine ⟨?_, ?_, fun g hg => ?_, fun g hg => ?_, fun g hg => ?_, fun g hg => ?_, fun g hg => ?_⟩
  · rw [u2_at]
    split
    · rename_i h; exact h0 h.1.symm h.2.symm
    · exact w.1
  · rw [hc]; exact w.2.1
  · rw [u2_at]
    split
    · rename_i h; exact h2 h.1.symm
    · exact w.2.2.1 g hg
  · rw [u2_at]
    split
    · rename_i h; exact h3 h.1.symm
    · exact w.2.2.2.1 g hg
  · rw [u2_at]
    split
    · rename_i h; exact h5 h.1.symm
    · exact w.2.2.2.2.1 g hg
  · rw [u2_at]
    split
    · rename_i h; exact h6 h.1.symm
    · exact w.2.2.2.2.2.1 g hg
  · rw [hcn, u2_at]
    split
    · rename_i h; exact h8 h.1.symm
    · exact w.2.2.2.2.2.2 g hg
def s_needs (r : rT) (g : Nat) : Int32 := k_needs (r 2 g) (r 4 g) (r 6 g) (r 9 0)
def s_place (r : rT) : Nat := hr r % 6
def s_meas (r : rT) : Int32 := if r 9 5 = 1 then 36 else r 1 (s_place r)
def s_width (r : rT) (c : Nat) (m : Int32) : Int32 := s_max 0 (r 0 c + m - 26)
def s_trait (what : Int32) : Nat := if what = 0 then 0 else if what = 1 then 1 else if what = 2 then 2 else if what = 3 then 3 else if what = 4 then 4 else 5
def s_add (r : rT) (k c : Int32) : rT := u2 (u2 (u2 (u2 (u2 (u2 (u2 r 2 (cnt r) k) 3 (cnt r) c) 4 (cnt r) 10) 5 (cnt r) c) 6 (cnt r) 0) 7 (cnt r) 0) 9 1 (r 9 1 + 1)
def s_z (r : rT) : Int32 := r 9 2 * 1103515245 + 12345
def s_zd (z : Int32) : Int32 := (z.toUInt32 >>> ((8 : Int32).toUInt32 &&& Int32.toUInt32 31)).toInt32
/-! ===== an hour ===== -/
def s_nx (up : Bool) (a : Nat) : Nat := if up then a + 1 else a - 1
def s_on (up : Bool) : Int32 := if up then 1 else -1
def s_in (up : Bool) (a aim : Nat) : Prop := (up = true ∧ a ≤ aim) ∨ (up = false ∧ aim ≤ a)
def s_go (r : rT) (m need : Int32) (up : Bool) (aim : Nat) : Nat → Nat → Nat → Nat × Nat
  | 0, a, k => (a, k)
  | n + 1, a, k => if a = aim then (a, k) else if s_width r (s_nx up a) m < need then (a, k) else s_go r m need up aim n (s_nx up a) (k + 1)
def s_gq (r : rT) (g : Nat) (m : Int32) : Nat × Nat := s_go r m (s_needs r g) (decide (nat r 3 g < nat r 5 g)) (nat r 5 g) (k_steps (r 2 g)).toNatClampNeg (nat r 3 g) 0
def s_wf (r : rT) (g : Nat) (q : Nat × Nat) : rT := u2 (u2 r 3 g (nI q.1)) 6 g (if q.2 = 0 then s_min (r 6 g + 1) 9999 else 0)
def s_walk (r : rT) (g : Nat) (m : Int32) : rT := s_wf r g (s_gq r g m)
def s_wl (m : Int32) : Nat → Nat → rT → rT
  | 0, _, r => r
  | n + 1, g, r => s_wl m n (g + 1) (if r 7 g = 0 ∧ ¬ r 3 g = r 5 g then s_walk r g m else r)
/-- what a guest laughs and laces in an hour -/
def s_lg (r : rT) (g : Nat) : Int32 := if r 7 g = 0 then (if r 3 g = 0 then k_laughs (r 2 g) (r 9 0) else 0) else 0
def s_lc (r : rT) (g : Nat) : Int32 := if r 7 g = 0 then k_laces (r 2 g) else 0
def s_sum (f : Nat → Int32) : Nat → Nat → Int32 → Int32
  | 0, _, a => a
  | n + 1, g, a => s_sum f n (g + 1) (a + f g)
def s_pst (r : rT) (mo le : Int32) : Int32 := s_min (s_max (r 9 4 + mo - le) 0) 9999
def s_pf (r : rT) (mo le : Int32) : rT := if r 9 3 < s_pst r mo le then u2 (u2 r 9 4 (s_pst r mo le)) 9 5 1 else u2 r 9 4 (s_pst r mo le)
def s_pull (r : rT) (m : Int32) : rT := s_pf r (s_sum (s_lg r) (cnt r) 0 (36 - m)) (s_sum (s_lc r) (cnt r) 0 0)
def s_h2 (m : Int32) (r : rT) : rT := if r 9 5 = 0 then s_pull r m else r
def s_hf (m : Int32) (r : rT) : rT := u2 (s_h2 m r) 9 0 (s_min (s_h2 m r 9 0 + 1) 99999)
def s_hour (r : rT) : rT := s_hf (s_meas r) (s_wl (s_meas r) (cnt r) 0 r)
def s_hours : Nat → rT → rT
  | 0, r => r
  | n + 1, r => s_hours n (s_hour r)
def s_hold : Nat → rT → rT
  | 0, r => r
  | n + 1, r => if r 9 5 = 0 then s_hold n (s_hour r) else r
def zn (z : Int32) : Nat := (s_zd z).toNatClampNeg
def s_p1 (r : rT) : rT := u2 (u2 r 9 2 (s_z r)) 1 (s_place r) (16 + s_zd (s_z r) % 21)
def s_p2 (r : rT) : rT := if zn (s_z r) % 8 < cnt r then u2 (u2 r 9 2 (s_z r)) 5 (zn (s_z r) % 8) ((r 5 (zn (s_z r) % 8) + 1) % 16) else u2 r 9 2 (s_z r)
def s_party (r : rT) : rT := s_hour (s_p2 (s_p1 r))
def s_set (f : Nat → Bool) : Nat → Nat → Int32 → Int32
  | 0, _, a => a
  | n + 1, g, a => s_set f n (g + 1) (a ||| (if f g then 1 <<< (nI g &&& 31) else 0))
def s_up (r : rT) (m need : Int32) : Nat → Nat → Int32 → Int32
  | 0, _, s => s
  | n + 1, c, s => if s_width r c m < need then s else s_up r m need n (c + 1) (s ||| 1 <<< (nI c &&& 31))
def s_dn (r : rT) (m need : Int32) : Nat → Int32 → Int32
  | 0, s => s
  | k + 1, s => if s_width r k m < need then s else s_dn r m need k (s ||| 1 <<< (nI k &&& 31))
def s_reach (r : rT) (g : Nat) (m : Int32) : Int32 := s_dn r m (s_needs r g) (nat r 3 g) (s_up r m (s_needs r g) (15 - nat r 3 g) (nat r 3 g + 1) (1 <<< (nI (nat r 3 g) &&& 31)))
def s_can (r : rT) (g c : Nat) (m : Int32) : Prop := s_reach r g m >>> (nI c &&& 31) &&& 1 = 1
def s_send (set : Int32) : Nat → Nat → rT → rT
  | 0, _, r => r
  | n + 1, g, r => s_send set n (g + 1) (if set >>> (nI g &&& 31) &&& 1 = 1 then u2 r 7 g 1 else r)
def s_mta (r : rT) (g : Nat) (m : Nat) : Int32 := if s_reach r g (nI m) >>> (nI (nat r 5 g) &&& 31) &&& 1 = 1 then 1 else 0
theorem pl_lt {r : rT} : s_place r < 6 := Nat.mod_lt _ (by decide)
theorem pl_eq {r : rT} (w : wf r) : r 9 0 % 6 = nI (s_place r) := by
  have h := pk_rem (a := hr r) (d := 6) (by have := w.h1; omega) (by decide) (by decide)
  rw [w.h0]
  rw [irem_eq_mod] at h
  exact h
