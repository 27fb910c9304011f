abbrev s_max (x z : Int32) : Int32 := if x < z then z else x
abbrev s_min (x z : Int32) : Int32 := if z < x then z else x
def bI (p : Prop) [Decidable p] : Int32 := if p then 1 else 0
theorem bI_0 {p : Prop} [Decidable p] : bI p = 0 ↔ ¬ p := by unfold bI; split <;> simp_all
theorem bI_1 {p : Prop} [Decidable p] : bI p = 1 ↔ p := by unfold bI; split <;> simp_all
theorem bI_n0 {p : Prop} [Decidable p] (h : ¬ bI p = 0) : p := Decidable.byContradiction fun q => h (if_neg q)
theorem bI_t {p : Prop} [Decidable p] (h : p) : bI p = 1 := if_pos h
theorem bI_f {p : Prop} [Decidable p] (h : ¬ p) : bI p = 0 := if_neg h
theorem bI_nar {p : Prop} [Decidable p] : narrow .boolean (.int (bI p)) = .int (bI p) := by unfold bI; split <;> rfl
theorem bI_c {p q : Prop} [Decidable p] [Decidable q] (h : p ↔ q) : bI p = bI q := by unfold bI; by_cases hp : p <;> simp_all
def blk (M : Nat → aC) (j n : Nat) (f : Nat → aC) : Nat → aC := fun i => if i < j then M i else if i < j + n then f (i - j) else M i
theorem blk_at {M : Nat → aC} {j n k : Nat} {f : Nat → aC} (h : k < n) : blk M j n f (j + k) = f k := by
  unfold blk
  rw [if_neg (by omega), if_pos (by omega)]
  congr 1
  omega
theorem blk_up {M : Nat → aC} {j n k : Nat} {f : Nat → aC} {x : aC} (h : k < n) : a_up (blk M j n f) (j + k) x = blk M j n (a_up f k x) := by
  funext i
  dsimp only [a_up, blk]
  by_cases e : i = j + k
  · subst e
    rw [if_pos rfl, if_neg (by omega), if_pos (by omega), if_pos (by omega)]
  · rw [if_neg e]
    by_cases h1 : i < j
    · rw [if_pos h1, if_pos h1]
    · rw [if_neg h1, if_neg h1]
      by_cases h2 : i < j + n
      · rw [if_pos h2, if_pos h2, if_neg (by omega)]
      · rw [if_neg h2, if_neg h2]
theorem blk_out {M : Nat → aC} {j n i : Nat} {f : Nat → aC} (h : i < j ∨ j + n ≤ i) : blk M j n f i = M i := by
  unfold blk
  rcases h with h | h
  · rw [if_pos h]
  · rw [if_neg (by omega), if_neg (by omega)]
theorem blk_upo {M : Nat → aC} {j n i : Nat} {f : Nat → aC} {x : aC} (h : i < j ∨ j + n ≤ i) : a_up (blk M j n f) i x = blk (a_up M i x) j n f := by
  funext q
  dsimp only [a_up, blk]
  by_cases e : q = i
  · subst e
    rw [if_pos rfl]
    rcases h with h | h
    · rw [if_pos h, if_pos rfl]
    · rw [if_neg (by omega), if_neg (by omega), if_pos rfl]
  · rw [if_neg e, if_neg e]
theorem blk_blk {M : Nat → aC} {j n : Nat} {f g : Nat → aC} : blk (blk M j n f) j n g = blk M j n g := by
  funext i
  dsimp only [blk]
  by_cases h1 : i < j <;> by_cases h2 : i < j + n <;> simp only [h1, h2, if_true, if_false]
theorem blk_comm {M : Nat → aC} {j n j' n' : Nat} {f g : Nat → aC} (h : j + n ≤ j' ∨ j' + n' ≤ j) : blk (blk M j n f) j' n' g = blk (blk M j' n' g) j n f := by
  funext i
  unfold blk
  by_cases h1 : i < j <;> by_cases h2 : i < j + n <;> by_cases h3 : i < j' <;> by_cases h4 : i < j' + n' <;> simp only [h1, h2, h3, h4, if_true, if_false] <;> omega
theorem blk_self {M : Nat → aC} {j n : Nat} {f : Nat → aC} (h : ∀ k, k < n → M (j + k) = f k) : blk M j n f = M := by
  funext i
  unfold blk
  by_cases h1 : i < j
  · rw [if_pos h1]
  · rw [if_neg h1]
    by_cases h2 : i < j + n
    · rw [if_pos h2, ← h (i - j) (by omega)]
      congr 1
      omega
    · rw [if_neg h2]
/-- a house: what stands in row q (0 bases, 1 the list, 2 kind, 3 at, 4 size, 5 aim, 6 stuck, 7 home, 8 spots, 9 numbers: hour, guests, z, cord, strain, snapped), place i -/
abbrev rT : Type := Nat → Nat → Int32
def u2 (r : rT) (q i : Nat) (v : Int32) : rT := fun a => if a = q then upd (r q) i v else r a
abbrev hO (j : Nat) (r : rT) : List Value := [.ref (j + 1), .ref (j + 2), .int (r 9 3), .int (r 9 4), .int (r 9 5), .int (r 9 0), .int (r 9 1), .ref (j + 3), .ref (j + 4), .ref (j + 5), .ref (j + 6), .ref (j + 7), .ref (j + 8), .int (r 9 2), .ref (j + 9)]
def hc (j : Nat) (r : rT) (k : Nat) : aC :=
  if k = 0 then aO 0 (hO j r) else if k = 1 then aI 16 (r 0) else if k = 2 then aI 6 (r 1) else if k = 3 then aI 8 (r 2) else if k = 4 then aI 8 (r 3) else if k = 5 then aI 8 (r 4) else if k = 6 then aI 8 (r 5) else if k = 7 then aI 8 (r 6) else if k = 8 then aI 8 (r 7) else if k = 9 then aI 10 (r 8) else aI 0 (fun _ => 0)
def putH (M : Nat → aC) (j : Nat) (r : rT) : Nat → aC := blk M j 10 (hc j r)
theorem putH_0 {M : Nat → aC} {j : Nat} {r : rT} : putH M j r j = aO 0 (hO j r) := blk_at (k := 0) (by decide)
theorem putH_putH {M : Nat → aC} {j : Nat} {r r' : rT} : putH (putH M j r) j r' = putH M j r' := blk_blk
theorem putH_comm {M : Nat → aC} {i j : Nat} {r r' : rT} (h : i + 10 ≤ j ∨ j + 10 ≤ i) : putH (putH M i r) j r' = putH (putH M j r') i r := blk_comm h
theorem putH_1 {M : Nat → aC} {j : Nat} {r : rT} : putH M j r (j + 1) = aI 16 (r 0) := blk_at (k := 1) (by decide)
theorem putH_a0 {M : Nat → aC} {j : Nat} {r : rT} {i : Nat} {v : Int32} : a_up (putH M j r) (j + 1) (aI 16 (upd (r 0) i v)) = putH M j (u2 r 0 i v) := by
  unfold putH
  rw [blk_up (by decide)]
  congr 1
  funext k
  unfold a_up hc
  by_cases e : k = 1
  · subst e; rfl
  · rw [if_neg e]
    simp only [u2, e, if_false]
    rfl
theorem putH_2 {M : Nat → aC} {j : Nat} {r : rT} : putH M j r (j + 2) = aI 6 (r 1) := blk_at (k := 2) (by decide)
theorem putH_a1 {M : Nat → aC} {j : Nat} {r : rT} {i : Nat} {v : Int32} : a_up (putH M j r) (j + 2) (aI 6 (upd (r 1) i v)) = putH M j (u2 r 1 i v) := by
  unfold putH
  rw [blk_up (by decide)]
  congr 1
  funext k
  unfold a_up hc
  by_cases e : k = 2
  · subst e; rfl
  · rw [if_neg e]
    simp only [u2, e, if_false]
    rfl
theorem putH_3 {M : Nat → aC} {j : Nat} {r : rT} : putH M j r (j + 3) = aI 8 (r 2) := blk_at (k := 3) (by decide)
theorem putH_a2 {M : Nat → aC} {j : Nat} {r : rT} {i : Nat} {v : Int32} : a_up (putH M j r) (j + 3) (aI 8 (upd (r 2) i v)) = putH M j (u2 r 2 i v) := by
  unfold putH
  rw [blk_up (by decide)]
  congr 1
  funext k
  unfold a_up hc
  by_cases e : k = 3
  · subst e; rfl
  · rw [if_neg e]
    simp only [u2, e, if_false]
    rfl
theorem putH_4 {M : Nat → aC} {j : Nat} {r : rT} : putH M j r (j + 4) = aI 8 (r 3) := blk_at (k := 4) (by decide)
theorem putH_a3 {M : Nat → aC} {j : Nat} {r : rT} {i : Nat} {v : Int32} : a_up (putH M j r) (j + 4) (aI 8 (upd (r 3) i v)) = putH M j (u2 r 3 i v) := by
  unfold putH
  rw [blk_up (by decide)]
  congr 1
  funext k
  unfold a_up hc
  by_cases e : k = 4
  · subst e; rfl
  · rw [if_neg e]
    simp only [u2, e, if_false]
    rfl
theorem putH_5 {M : Nat → aC} {j : Nat} {r : rT} : putH M j r (j + 5) = aI 8 (r 4) := blk_at (k := 5) (by decide)
theorem putH_a4 {M : Nat → aC} {j : Nat} {r : rT} {i : Nat} {v : Int32} : a_up (putH M j r) (j + 5) (aI 8 (upd (r 4) i v)) = putH M j (u2 r 4 i v) := by
  unfold putH
  rw [blk_up (by decide)]
  congr 1
  funext k
  unfold a_up hc
  by_cases e : k = 5
  · subst e; rfl
  · rw [if_neg e]
    simp only [u2, e, if_false]
    rfl
theorem putH_6 {M : Nat → aC} {j : Nat} {r : rT} : putH M j r (j + 6) = aI 8 (r 5) := blk_at (k := 6) (by decide)
theorem putH_a5 {M : Nat → aC} {j : Nat} {r : rT} {i : Nat} {v : Int32} : a_up (putH M j r) (j + 6) (aI 8 (upd (r 5) i v)) = putH M j (u2 r 5 i v) := by
  unfold putH
  rw [blk_up (by decide)]
  congr 1
  funext k
  unfold a_up hc
  by_cases e : k = 6
  · subst e; rfl
  · rw [if_neg e]
    simp only [u2, e, if_false]
    rfl
theorem putH_7 {M : Nat → aC} {j : Nat} {r : rT} : putH M j r (j + 7) = aI 8 (r 6) := blk_at (k := 7) (by decide)
theorem putH_a6 {M : Nat → aC} {j : Nat} {r : rT} {i : Nat} {v : Int32} : a_up (putH M j r) (j + 7) (aI 8 (upd (r 6) i v)) = putH M j (u2 r 6 i v) := by
  unfold putH
  rw [blk_up (by decide)]
  congr 1
  funext k
  unfold a_up hc
  by_cases e : k = 7
  · subst e; rfl
  · rw [if_neg e]
    simp only [u2, e, if_false]
    rfl
theorem putH_8 {M : Nat → aC} {j : Nat} {r : rT} : putH M j r (j + 8) = aI 8 (r 7) := blk_at (k := 8) (by decide)
theorem putH_a7 {M : Nat → aC} {j : Nat} {r : rT} {i : Nat} {v : Int32} : a_up (putH M j r) (j + 8) (aI 8 (upd (r 7) i v)) = putH M j (u2 r 7 i v) := by
  unfold putH
  rw [blk_up (by decide)]
  congr 1
  funext k
  unfold a_up hc
  by_cases e : k = 8
  · subst e; rfl
  · rw [if_neg e]
    simp only [u2, e, if_false]
    rfl
theorem putH_9 {M : Nat → aC} {j : Nat} {r : rT} : putH M j r (j + 9) = aI 10 (r 8) := blk_at (k := 9) (by decide)
theorem putH_a8 {M : Nat → aC} {j : Nat} {r : rT} {i : Nat} {v : Int32} : a_up (putH M j r) (j + 9) (aI 10 (upd (r 8) i v)) = putH M j (u2 r 8 i v) := by
  unfold putH
  rw [blk_up (by decide)]
  congr 1
  funext k
  unfold a_up hc
  by_cases e : k = 9
  · subst e; rfl
  · rw [if_neg e]
    simp only [u2, e, if_false]
    rfl
theorem putH_f3 {M : Nat → aC} {j : Nat} {r : rT} {v : Int32} : a_up (putH M j r) j (aO 0 ((hO j r).set 2 (.int v))) = putH M j (u2 r 9 3 v) := by
  unfold putH
  rw [show a_up (blk M j 10 (hc j r)) j _ = _ from blk_up (k := 0) (by decide)]
  congr 1
  funext k
  unfold a_up hc
  by_cases e : k = 0
  · subst e; rfl
  · rw [if_neg e]
    simp only [e, if_false]
    rfl
theorem putH_f4 {M : Nat → aC} {j : Nat} {r : rT} {v : Int32} : a_up (putH M j r) j (aO 0 ((hO j r).set 3 (.int v))) = putH M j (u2 r 9 4 v) := by
  unfold putH
  rw [show a_up (blk M j 10 (hc j r)) j _ = _ from blk_up (k := 0) (by decide)]
  congr 1
  funext k
  unfold a_up hc
  by_cases e : k = 0
  · subst e; rfl
  · rw [if_neg e]
    simp only [e, if_false]
    rfl
theorem putH_f5 {M : Nat → aC} {j : Nat} {r : rT} {v : Int32} : a_up (putH M j r) j (aO 0 ((hO j r).set 4 (.int v))) = putH M j (u2 r 9 5 v) := by
  unfold putH
  rw [show a_up (blk M j 10 (hc j r)) j _ = _ from blk_up (k := 0) (by decide)]
  congr 1
  funext k
  unfold a_up hc
  by_cases e : k = 0
  · subst e; rfl
  · rw [if_neg e]
    simp only [e, if_false]
    rfl
theorem putH_f0 {M : Nat → aC} {j : Nat} {r : rT} {v : Int32} : a_up (putH M j r) j (aO 0 ((hO j r).set 5 (.int v))) = putH M j (u2 r 9 0 v) := by
  unfold putH
  rw [show a_up (blk M j 10 (hc j r)) j _ = _ from blk_up (k := 0) (by decide)]
  congr 1
  funext k
  unfold a_up hc
  by_cases e : k = 0
  · subst e; rfl
  · rw [if_neg e]
    simp only [e, if_false]
    rfl
theorem putH_f1 {M : Nat → aC} {j : Nat} {r : rT} {v : Int32} : a_up (putH M j r) j (aO 0 ((hO j r).set 6 (.int v))) = putH M j (u2 r 9 1 v) := by
  unfold putH
  rw [show a_up (blk M j 10 (hc j r)) j _ = _ from blk_up (k := 0) (by decide)]
  congr 1
  funext k
  unfold a_up hc
  by_cases e : k = 0
  · subst e; rfl
  · rw [if_neg e]
    simp only [e, if_false]
    rfl
theorem putH_f2 {M : Nat → aC} {j : Nat} {r : rT} {v : Int32} : a_up (putH M j r) j (aO 0 ((hO j r).set 13 (.int v))) = putH M j (u2 r 9 2 v) := by
  unfold putH
  rw [show a_up (blk M j 10 (hc j r)) j _ = _ from blk_up (k := 0) (by decide)]
  congr 1
  funext k
  unfold a_up hc
  by_cases e : k = 0
  · subst e; rfl
  · rw [if_neg e]
    simp only [e, if_false]
    rfl
theorem u2_s {r : rT} {q i : Nat} {v : Int32} : u2 r q i v q i = v := by simp [u2, upd]
theorem u2_q {r : rT} {q q' i : Nat} {v : Int32} (h : q' ≠ q) : u2 r q i v q' = r q' := by simp [u2, h]
theorem u2_i {r : rT} {q i i' : Nat} {v : Int32} (h : i' ≠ i) : u2 r q i v q i' = r q i' := by simp [u2, upd, h]
theorem u2_f {r : rT} {q i q' i' : Nat} {v : Int32} (h : ¬ (q' = q ∧ i' = i)) : u2 r q i v q' i' = r q' i' := by
  unfold u2 upd
  by_cases h1 : q' = q <;> by_cases h2 : i' = i <;> simp_all
theorem u2_u2 {r : rT} {q i : Nat} {v z : Int32} : u2 (u2 r q i v) q i z = u2 r q i z := by
  funext a b
  unfold u2 upd
  by_cases h : a = q <;> by_cases h2 : b = i <;> simp [h, h2]
theorem u2_at {r : rT} {q i q' i' : Nat} {v : Int32} : u2 r q i v q' i' = if q' = q ∧ i' = i then v else r q' i' := by
  unfold u2 upd
  by_cases h : q' = q <;> by_cases h2 : i' = i <;> simp [h, h2]
theorem sw_1_6 {x : Int32} (h1 : ¬ x = 1) (h2 : ¬ x = 2) (h3 : ¬ x = 3) (h4 : ¬ x = 4) (h5 : ¬ x = 5) (h6 : ¬ x = 6) : x.toInt < 1 ∨ 6 < x.toInt := by
  have g1 : ¬ x.toInt = 1 := fun h => h1 (Int32.toInt_inj.mp (by rw [h]; rfl))
  have g2 : ¬ x.toInt = 2 := fun h => h2 (Int32.toInt_inj.mp (by rw [h]; rfl))
  have g3 : ¬ x.toInt = 3 := fun h => h3 (Int32.toInt_inj.mp (by rw [h]; rfl))
  have g4 : ¬ x.toInt = 4 := fun h => h4 (Int32.toInt_inj.mp (by rw [h]; rfl))
  have g5 : ¬ x.toInt = 5 := fun h => h5 (Int32.toInt_inj.mp (by rw [h]; rfl))
  have g6 : ¬ x.toInt = 6 := fun h => h6 (Int32.toInt_inj.mp (by rw [h]; rfl))
  omega
theorem sw_0_40 {x : Int32} (h0 : ¬ x = 0) (h1 : ¬ x = 1) (h2 : ¬ x = 2) (h3 : ¬ x = 3) (h4 : ¬ x = 4) (h5 : ¬ x = 5) (h6 : ¬ x = 6) (h7 : ¬ x = 7) (h8 : ¬ x = 8) (h9 : ¬ x = 9) (h10 : ¬ x = 10) (h11 : ¬ x = 11) (h12 : ¬ x = 12) (h13 : ¬ x = 13) (h14 : ¬ x = 14) (h15 : ¬ x = 15) (h16 : ¬ x = 16) (h17 : ¬ x = 17) (h18 : ¬ x = 18) (h19 : ¬ x = 19) (h20 : ¬ x = 20) (h21 : ¬ x = 21) (h22 : ¬ x = 22) (h23 : ¬ x = 23) (h24 : ¬ x = 24) (h25 : ¬ x = 25) (h26 : ¬ x = 26) (h27 : ¬ x = 27) (h28 : ¬ x = 28) (h29 : ¬ x = 29) (h30 : ¬ x = 30) (h31 : ¬ x = 31) (h32 : ¬ x = 32) (h33 : ¬ x = 33) (h34 : ¬ x = 34) (h35 : ¬ x = 35) (h36 : ¬ x = 36) (h37 : ¬ x = 37) (h38 : ¬ x = 38) (h39 : ¬ x = 39) (h40 : ¬ x = 40) : x.toInt < 0 ∨ 40 < x.toInt := by
  have g0 : ¬ x.toInt = 0 := fun h => h0 (Int32.toInt_inj.mp (by rw [h]; rfl))
  have g1 : ¬ x.toInt = 1 := fun h => h1 (Int32.toInt_inj.mp (by rw [h]; rfl))
  have g2 : ¬ x.toInt = 2 := fun h => h2 (Int32.toInt_inj.mp (by rw [h]; rfl))
  have g3 : ¬ x.toInt = 3 := fun h => h3 (Int32.toInt_inj.mp (by rw [h]; rfl))
  have g4 : ¬ x.toInt = 4 := fun h => h4 (Int32.toInt_inj.mp (by rw [h]; rfl))
  have g5 : ¬ x.toInt = 5 := fun h => h5 (Int32.toInt_inj.mp (by rw [h]; rfl))
  have g6 : ¬ x.toInt = 6 := fun h => h6 (Int32.toInt_inj.mp (by rw [h]; rfl))
  have g7 : ¬ x.toInt = 7 := fun h => h7 (Int32.toInt_inj.mp (by rw [h]; rfl))
  have g8 : ¬ x.toInt = 8 := fun h => h8 (Int32.toInt_inj.mp (by rw [h]; rfl))
  have g9 : ¬ x.toInt = 9 := fun h => h9 (Int32.toInt_inj.mp (by rw [h]; rfl))
  have g10 : ¬ x.toInt = 10 := fun h => h10 (Int32.toInt_inj.mp (by rw [h]; rfl))
  have g11 : ¬ x.toInt = 11 := fun h => h11 (Int32.toInt_inj.mp (by rw [h]; rfl))
  have g12 : ¬ x.toInt = 12 := fun h => h12 (Int32.toInt_inj.mp (by rw [h]; rfl))
  have g13 : ¬ x.toInt = 13 := fun h => h13 (Int32.toInt_inj.mp (by rw [h]; rfl))
  have g14 : ¬ x.toInt = 14 := fun h => h14 (Int32.toInt_inj.mp (by rw [h]; rfl))
  have g15 : ¬ x.toInt = 15 := fun h => h15 (Int32.toInt_inj.mp (by rw [h]; rfl))
  have g16 : ¬ x.toInt = 16 := fun h => h16 (Int32.toInt_inj.mp (by rw [h]; rfl))
  have g17 : ¬ x.toInt = 17 := fun h => h17 (Int32.toInt_inj.mp (by rw [h]; rfl))
  have g18 : ¬ x.toInt = 18 := fun h => h18 (Int32.toInt_inj.mp (by rw [h]; rfl))
  have g19 : ¬ x.toInt = 19 := fun h => h19 (Int32.toInt_inj.mp (by rw [h]; rfl))
  have g20 : ¬ x.toInt = 20 := fun h => h20 (Int32.toInt_inj.mp (by rw [h]; rfl))
  have g21 : ¬ x.toInt = 21 := fun h => h21 (Int32.toInt_inj.mp (by rw [h]; rfl))
  have g22 : ¬ x.toInt = 22 := fun h => h22 (Int32.toInt_inj.mp (by rw [h]; rfl))
  have g23 : ¬ x.toInt = 23 := fun h => h23 (Int32.toInt_inj.mp (by rw [h]; rfl))
  have g24 : ¬ x.toInt = 24 := fun h => h24 (Int32.toInt_inj.mp (by rw [h]; rfl))
  have g25 : ¬ x.toInt = 25 := fun h => h25 (Int32.toInt_inj.mp (by rw [h]; rfl))
  have g26 : ¬ x.toInt = 26 := fun h => h26 (Int32.toInt_inj.mp (by rw [h]; rfl))
  have g27 : ¬ x.toInt = 27 := fun h => h27 (Int32.toInt_inj.mp (by rw [h]; rfl))
  have g28 : ¬ x.toInt = 28 := fun h => h28 (Int32.toInt_inj.mp (by rw [h]; rfl))
  have g29 : ¬ x.toInt = 29 := fun h => h29 (Int32.toInt_inj.mp (by rw [h]; rfl))
  have g30 : ¬ x.toInt = 30 := fun h => h30 (Int32.toInt_inj.mp (by rw [h]; rfl))
  have g31 : ¬ x.toInt = 31 := fun h => h31 (Int32.toInt_inj.mp (by rw [h]; rfl))
  have g32 : ¬ x.toInt = 32 := fun h => h32 (Int32.toInt_inj.mp (by rw [h]; rfl))
  have g33 : ¬ x.toInt = 33 := fun h => h33 (Int32.toInt_inj.mp (by rw [h]; rfl))
  have g34 : ¬ x.toInt = 34 := fun h => h34 (Int32.toInt_inj.mp (by rw [h]; rfl))
  have g35 : ¬ x.toInt = 35 := fun h => h35 (Int32.toInt_inj.mp (by rw [h]; rfl))
  have g36 : ¬ x.toInt = 36 := fun h => h36 (Int32.toInt_inj.mp (by rw [h]; rfl))
  have g37 : ¬ x.toInt = 37 := fun h => h37 (Int32.toInt_inj.mp (by rw [h]; rfl))
  have g38 : ¬ x.toInt = 38 := fun h => h38 (Int32.toInt_inj.mp (by rw [h]; rfl))
  have g39 : ¬ x.toInt = 39 := fun h => h39 (Int32.toInt_inj.mp (by rw [h]; rfl))
  have g40 : ¬ x.toInt = 40 := fun h => h40 (Int32.toInt_inj.mp (by rw [h]; rfl))
  omega
theorem sw_0_5 {x : Int32} (h0 : ¬ x = 0) (h1 : ¬ x = 1) (h2 : ¬ x = 2) (h3 : ¬ x = 3) (h4 : ¬ x = 4) (h5 : ¬ x = 5) : x.toInt < 0 ∨ 5 < x.toInt := by
  have g0 : ¬ x.toInt = 0 := fun h => h0 (Int32.toInt_inj.mp (by rw [h]; rfl))
  have g1 : ¬ x.toInt = 1 := fun h => h1 (Int32.toInt_inj.mp (by rw [h]; rfl))
  have g2 : ¬ x.toInt = 2 := fun h => h2 (Int32.toInt_inj.mp (by rw [h]; rfl))
  have g3 : ¬ x.toInt = 3 := fun h => h3 (Int32.toInt_inj.mp (by rw [h]; rfl))
  have g4 : ¬ x.toInt = 4 := fun h => h4 (Int32.toInt_inj.mp (by rw [h]; rfl))
  have g5 : ¬ x.toInt = 5 := fun h => h5 (Int32.toInt_inj.mp (by rw [h]; rfl))
  omega
theorem sw_10_12 {x : Int32} (h10 : ¬ x = 10) (h11 : ¬ x = 11) (h12 : ¬ x = 12) : x.toInt < 10 ∨ 12 < x.toInt := by
  have g10 : ¬ x.toInt = 10 := fun h => h10 (Int32.toInt_inj.mp (by rw [h]; rfl))
  have g11 : ¬ x.toInt = 11 := fun h => h11 (Int32.toInt_inj.mp (by rw [h]; rfl))
  have g12 : ¬ x.toInt = 12 := fun h => h12 (Int32.toInt_inj.mp (by rw [h]; rfl))
  omega
theorem sw_0_4 {x : Int32} (h0 : ¬ x = 0) (h1 : ¬ x = 1) (h2 : ¬ x = 2) (h3 : ¬ x = 3) (h4 : ¬ x = 4) : x.toInt < 0 ∨ 4 < x.toInt := by
  have g0 : ¬ x.toInt = 0 := fun h => h0 (Int32.toInt_inj.mp (by rw [h]; rfl))
  have g1 : ¬ x.toInt = 1 := fun h => h1 (Int32.toInt_inj.mp (by rw [h]; rfl))
  have g2 : ¬ x.toInt = 2 := fun h => h2 (Int32.toInt_inj.mp (by rw [h]; rfl))
  have g3 : ¬ x.toInt = 3 := fun h => h3 (Int32.toInt_inj.mp (by rw [h]; rfl))
  have g4 : ¬ x.toInt = 4 := fun h => h4 (Int32.toInt_inj.mp (by rw [h]; rfl))
  omega
theorem sw_0_7 {x : Int32} (h0 : ¬ x = 0) (h1 : ¬ x = 1) (h2 : ¬ x = 2) (h3 : ¬ x = 3) (h4 : ¬ x = 4) (h5 : ¬ x = 5) (h6 : ¬ x = 6) (h7 : ¬ x = 7) : x.toInt < 0 ∨ 7 < x.toInt := by
  have g0 : ¬ x.toInt = 0 := fun h => h0 (Int32.toInt_inj.mp (by rw [h]; rfl))
  have g1 : ¬ x.toInt = 1 := fun h => h1 (Int32.toInt_inj.mp (by rw [h]; rfl))
  have g2 : ¬ x.toInt = 2 := fun h => h2 (Int32.toInt_inj.mp (by rw [h]; rfl))
  have g3 : ¬ x.toInt = 3 := fun h => h3 (Int32.toInt_inj.mp (by rw [h]; rfl))
  have g4 : ¬ x.toInt = 4 := fun h => h4 (Int32.toInt_inj.mp (by rw [h]; rfl))
  have g5 : ¬ x.toInt = 5 := fun h => h5 (Int32.toInt_inj.mp (by rw [h]; rfl))
  have g6 : ¬ x.toInt = 6 := fun h => h6 (Int32.toInt_inj.mp (by rw [h]; rfl))
  have g7 : ¬ x.toInt = 7 := fun h => h7 (Int32.toInt_inj.mp (by rw [h]; rfl))
  omega
theorem sw_6_9 {x : Int32} (h6 : ¬ x = 6) (h7 : ¬ x = 7) (h8 : ¬ x = 8) (h9 : ¬ x = 9) : x.toInt < 6 ∨ 9 < x.toInt := by
  have g6 : ¬ x.toInt = 6 := fun h => h6 (Int32.toInt_inj.mp (by rw [h]; rfl))
  have g7 : ¬ x.toInt = 7 := fun h => h7 (Int32.toInt_inj.mp (by rw [h]; rfl))
  have g8 : ¬ x.toInt = 8 := fun h => h8 (Int32.toInt_inj.mp (by rw [h]; rfl))
  have g9 : ¬ x.toInt = 9 := fun h => h9 (Int32.toInt_inj.mp (by rw [h]; rfl))
  omega
section A2
variable {Γ : aG} {l : Launch} {y : MethodName} {cc : ByteArray} {nL : Nat} {ret : Option FieldType} {R : Room} {mc ms : Nat} {pc : Nat} {L : List (Nat × Value)} {st : List Value} {n k1 k2 : Nat} {M : Nat → aC} {r : Option Value} {n' : Nat} {M' : Nat → aC}
theorem fr_callS0 {ix a : Nat} {x : MethodName} {b : ByteArray} {nL1 : Nat} {rt : Option FieldType} {R1 : Room} {v : Option Value} {M1 : Nat → aC} (As : List Value) (rest : List Value) (hE : Ev Γ l (x, b, nL1, rt, R1, 0, 0) As n M v n M1) (g : g_S y.cls ix x b nL1 rt a) (hst : st = As.reverse ++ rest) (ha : As.length = a) (hR : R1.cells = 0 ∧ R1.slots = 0 ∧ R1.frames + 1 ≤ R.frames ∧ 8 + (nL1 + 11) + R1.locals ≤ R.locals) (hw8 : (rest.map fun v => v.category).sum ≤ 8) (hk : k1 ≤ R.cells ∧ k2 ≤ R.slots) (hd : decode cc pc = .ok (.invokestatic ix, 3)) (k : Fr Γ l (y, cc, nL, ret, R, mc, ms) (pc + 3) L (v.toList ++ rest) n k1 k2 M1 r n' M') : Fr Γ l (y, cc, nL, ret, R, mc, ms) pc L st n k1 k2 M r n' M' :=
  fr_callS As rest hE g hst ha ⟨hR.1, hR.2.1, hR.2.2.1, hR.2.2.2, hk.1, hk.2⟩ hw8 rfl hd k
theorem fr_callV0 {ix a : Nat} {x : MethodName} {b : ByteArray} {nL1 : Nat} {rt : Option FieldType} {R1 : Room} {v : Option Value} {M1 : Nat → aC} {i ci N : Nat} {T : u_T} {fs : List Value} (As : List Value) (rest : List Value) (hE : Ev Γ l (x, b, nL1, rt, R1, 0, 0) (.ref i :: As) n M v n M1) (g : g_V y.cls ix x b nL1 rt a) (hst : st = As.reverse ++ .ref i :: rest) (ha : As.length = a) (hR : R1.cells = 0 ∧ R1.slots = 0 ∧ R1.frames + 1 ≤ R.frames ∧ 8 + (nL1 + 11) + R1.locals ≤ R.locals) (hw8 : (rest.map fun v => v.category).sum ≤ 8) (hc : vwCl[ci]? = some (x.cls, T, N)) (hi : i < n) (hM : M i = aO ci fs) (hk : k1 ≤ R.cells ∧ k2 ≤ R.slots) (hd : decode cc pc = .ok (.invokevirtual ix, 3)) (k : Fr Γ l (y, cc, nL, ret, R, mc, ms) (pc + 3) L (v.toList ++ rest) n k1 k2 M1 r n' M') : Fr Γ l (y, cc, nL, ret, R, mc, ms) pc L st n k1 k2 M r n' M' :=
  fr_callV As rest hE g hst ha ⟨hR.1, hR.2.1, hR.2.2.1, hR.2.2.2, hk.1, hk.2⟩ hw8 rfl hc hi hM hd k
theorem a_xt {c : ClassId} {N : Nat} {f g : Nat → Int32} (h : ∀ k, k < N → f k = g k) : vp_cell c (N, .inl f) = vp_cell c (N, .inl g) := by
  rw [vp_cell_i, vp_cell_i]
  unfold arrV
  congr 2
  funext j
  exact congrArg Value.int (h j.1 j.2)
/-- an array may be told by other words outside its length -/
theorem fr_ext {i N : Nat} {f : Nat → Int32} (g : Nat → Int32) (hM : M i = aI N f) (h : ∀ k, k < N → f k = g k) (k : Fr Γ l (y, cc, nL, ret, R, mc, ms) pc L st n k1 k2 (a_up M i (aI N g)) r n' M') : Fr Γ l (y, cc, nL, ret, R, mc, ms) pc L st n k1 k2 M r n' M' := by
  intro p e s m args below meth c H locs ls C w hl
  refine k p e s m args below meth c H locs ls C ⟨fun q x hx => ?_, w.2⟩ hl
  obtain ⟨hq, rfl⟩ := a_w_of hx
  have h1 := w.1 q _ (a_w_at hq)
  by_cases e : q = i
  · subst e
    show va_at Γ.1 vwCl (Γ.2.1 + q, a_e Γ (a_up M q (aI N g) q)) H
    rw [show a_up M q (aI N g) q = aI N g from if_pos rfl]
    rw [hM] at h1
    show H[Γ.2.1 + q]? = some (vp_cell _ (N, .inl g))
    rw [← a_xt h]
    exact h1
  · show va_at Γ.1 vwCl (Γ.2.1 + q, a_e Γ (a_up M i (aI N g) q)) H
    rw [show a_up M i (aI N g) q = M q from if_neg e]
    exact h1
end A2
theorem a_upup {M : Nat → aC} {i : Nat} {x z : aC} : a_up (a_up M i x) i z = a_up M i z := by
  funext j
  unfold a_up
  by_cases h : j = i <;> simp [h]
theorem a_us {M : Nat → aC} {i : Nat} {x : aC} : a_up M i x i = x := if_pos rfl
def v2 (r : rT) (q : Nat) (f : Nat → Int32) : rT := fun a => if a = q then f else r a
theorem putH_r0 {M : Nat → aC} {j : Nat} {r : rT} {f : Nat → Int32} : a_up (putH M j r) (j + 1) (aI 16 f) = putH M j (v2 r 0 f) := by
  unfold putH
  rw [blk_up (by decide)]
  congr 1
  funext k
  unfold a_up hc
  by_cases e : k = 1
  · subst e; rfl
  · rw [if_neg e]
    simp only [v2, e, if_false]
    rfl
theorem putH_r1 {M : Nat → aC} {j : Nat} {r : rT} {f : Nat → Int32} : a_up (putH M j r) (j + 2) (aI 6 f) = putH M j (v2 r 1 f) := by
  unfold putH
  rw [blk_up (by decide)]
  congr 1
  funext k
  unfold a_up hc
  by_cases e : k = 2
  · subst e; rfl
  · rw [if_neg e]
    simp only [v2, e, if_false]
    rfl
theorem putH_r2 {M : Nat → aC} {j : Nat} {r : rT} {f : Nat → Int32} : a_up (putH M j r) (j + 3) (aI 8 f) = putH M j (v2 r 2 f) := by
  unfold putH
  rw [blk_up (by decide)]
  congr 1
  funext k
  unfold a_up hc
  by_cases e : k = 3
  · subst e; rfl
  · rw [if_neg e]
    simp only [v2, e, if_false]
    rfl
theorem putH_r3 {M : Nat → aC} {j : Nat} {r : rT} {f : Nat → Int32} : a_up (putH M j r) (j + 4) (aI 8 f) = putH M j (v2 r 3 f) := by
  unfold putH
  rw [blk_up (by decide)]
  congr 1
  funext k
  unfold a_up hc
  by_cases e : k = 4
  · subst e; rfl
  · rw [if_neg e]
    simp only [v2, e, if_false]
    rfl
theorem putH_r4 {M : Nat → aC} {j : Nat} {r : rT} {f : Nat → Int32} : a_up (putH M j r) (j + 5) (aI 8 f) = putH M j (v2 r 4 f) := by
  unfold putH
  rw [blk_up (by decide)]
  congr 1
  funext k
  unfold a_up hc
  by_cases e : k = 5
  · subst e; rfl
  · rw [if_neg e]
    simp only [v2, e, if_false]
    rfl
theorem putH_r5 {M : Nat → aC} {j : Nat} {r : rT} {f : Nat → Int32} : a_up (putH M j r) (j + 6) (aI 8 f) = putH M j (v2 r 5 f) := by
  unfold putH
  rw [blk_up (by decide)]
  congr 1
  funext k
  unfold a_up hc
  by_cases e : k = 6
  · subst e; rfl
  · rw [if_neg e]
    simp only [v2, e, if_false]
    rfl
theorem putH_r6 {M : Nat → aC} {j : Nat} {r : rT} {f : Nat → Int32} : a_up (putH M j r) (j + 7) (aI 8 f) = putH M j (v2 r 6 f) := by
  unfold putH
  rw [blk_up (by decide)]
  congr 1
  funext k
  unfold a_up hc
  by_cases e : k = 7
  · subst e; rfl
  · rw [if_neg e]
    simp only [v2, e, if_false]
    rfl
theorem putH_r7 {M : Nat → aC} {j : Nat} {r : rT} {f : Nat → Int32} : a_up (putH M j r) (j + 8) (aI 8 f) = putH M j (v2 r 7 f) := by
  unfold putH
  rw [blk_up (by decide)]
  congr 1
  funext k
  unfold a_up hc
  by_cases e : k = 8
  · subst e; rfl
  · rw [if_neg e]
    simp only [v2, e, if_false]
    rfl
theorem putH_r8 {M : Nat → aC} {j : Nat} {r : rT} {f : Nat → Int32} : a_up (putH M j r) (j + 9) (aI 10 f) = putH M j (v2 r 8 f) := by
  unfold putH
  rw [blk_up (by decide)]
  congr 1
  funext k
  unfold a_up hc
  by_cases e : k = 9
  · subst e; rfl
  · rw [if_neg e]
    simp only [v2, e, if_false]
    rfl
abbrev mX0_init : aM := (yX0_init, cX0_init, 1, (none : Option Jvm.ClassFile.FieldType), ({ frames := 1, cells := 0, slots := 0, locals := 23 } : Room), 0, 0)
abbrev mX0_become : aM := (yX0_become, cX0_become, 2, (none : Option Jvm.ClassFile.FieldType), ({ frames := 1, cells := 0, slots := 0, locals := 26 } : Room), 0, 0)
abbrev mX0_isFull : aM := (yX0_isFull, cX0_isFull, 1, (some .boolean), ({ frames := 0, cells := 0, slots := 0, locals := 0 } : Room), 0, 0)
abbrev mX0_add : aM := (yX0_add, cX0_add, 3, (some .int), ({ frames := 1, cells := 0, slots := 0, locals := 20 } : Room), 0, 0)
abbrev mX0_sendHome : aM := (yX0_sendHome, cX0_sendHome, 3, (none : Option Jvm.ClassFile.FieldType), ({ frames := 0, cells := 0, slots := 0, locals := 0 } : Room), 0, 0)
abbrev mX0_trait : aM := (yX0_trait, cX0_trait, 2, (some (.array .int)), ({ frames := 0, cells := 0, slots := 0, locals := 0 } : Room), 0, 0)
abbrev mX0_needs : aM := (yX0_needs, cX0_needs, 2, (some .int), ({ frames := 2, cells := 0, slots := 0, locals := 46 } : Room), 0, 0)
abbrev mX0_placeNow : aM := (yX0_placeNow, cX0_placeNow, 1, (some .int), ({ frames := 0, cells := 0, slots := 0, locals := 0 } : Room), 0, 0)
abbrev mX0_measureNow : aM := (yX0_measureNow, cX0_measureNow, 1, (some .int), ({ frames := 1, cells := 0, slots := 0, locals := 20 } : Room), 0, 0)
abbrev mX0_width : aM := (yX0_width, cX0_width, 3, (some .int), ({ frames := 1, cells := 0, slots := 0, locals := 21 } : Room), 0, 0)
abbrev mX0_reachable : aM := (yX0_reachable, cX0_reachable, 6, (some .int), ({ frames := 3, cells := 0, slots := 0, locals := 67 } : Room), 0, 0)
abbrev mX0_canReach : aM := (yX0_canReach, cX0_canReach, 4, (some .boolean), ({ frames := 4, cells := 0, slots := 0, locals := 92 } : Room), 0, 0)
abbrev mX0_measuresToAim : aM := (yX0_measuresToAim, cX0_measuresToAim, 4, (some .int), ({ frames := 5, cells := 0, slots := 0, locals := 115 } : Room), 0, 0)
abbrev mX0_passHours : aM := (yX0_passHours, cX0_passHours, 3, (none : Option Jvm.ClassFile.FieldType), ({ frames := 5, cells := 0, slots := 0, locals := 115 } : Room), 0, 0)
abbrev mX0_holdsFor : aM := (yX0_holdsFor, cX0_holdsFor, 3, (some .boolean), ({ frames := 5, cells := 0, slots := 0, locals := 115 } : Room), 0, 0)
abbrev mX0_passHour : aM := (yX0_passHour, cX0_passHour, 3, (none : Option Jvm.ClassFile.FieldType), ({ frames := 4, cells := 0, slots := 0, locals := 93 } : Room), 0, 0)
abbrev mX0_walk : aM := (yX0_walk, cX0_walk, 7, (none : Option Jvm.ClassFile.FieldType), ({ frames := 3, cells := 0, slots := 0, locals := 67 } : Room), 0, 0)
abbrev mX0_pull : aM := (yX0_pull, cX0_pull, 5, (none : Option Jvm.ClassFile.FieldType), ({ frames := 1, cells := 0, slots := 0, locals := 21 } : Room), 0, 0)
abbrev mX0_draw : aM := (yX0_draw, cX0_draw, 1, (some .int), ({ frames := 0, cells := 0, slots := 0, locals := 0 } : Room), 0, 0)
abbrev mX0_passPartyHour : aM := (yX0_passPartyHour, cX0_passPartyHour, 2, (none : Option Jvm.ClassFile.FieldType), ({ frames := 5, cells := 0, slots := 0, locals := 115 } : Room), 0, 0)
abbrev mX0_thoseStuck : aM := (yX0_thoseStuck, cX0_thoseStuck, 3, (some .int), ({ frames := 0, cells := 0, slots := 0, locals := 0 } : Room), 0, 0)
abbrev mX0_thoseAtAim : aM := (yX0_thoseAtAim, cX0_thoseAtAim, 3, (some .int), ({ frames := 0, cells := 0, slots := 0, locals := 0 } : Room), 0, 0)
abbrev mX0_thoseInHall : aM := (yX0_thoseInHall, cX0_thoseInHall, 3, (some .int), ({ frames := 0, cells := 0, slots := 0, locals := 0 } : Room), 0, 0)
abbrev mX0_closedCells : aM := (yX0_closedCells, cX0_closedCells, 4, (some .int), ({ frames := 2, cells := 0, slots := 0, locals := 43 } : Room), 0, 0)
abbrev mX0_howManyHome : aM := (yX0_howManyHome, cX0_howManyHome, 3, (some .int), ({ frames := 0, cells := 0, slots := 0, locals := 0 } : Room), 0, 0)
abbrev mX0_howManyHeld : aM := (yX0_howManyHeld, cX0_howManyHeld, 3, (some .int), ({ frames := 0, cells := 0, slots := 0, locals := 0 } : Room), 0, 0)
abbrev mX1_needs : aM := (yX1_needs, cX1_needs, 6, (some .int), ({ frames := 1, cells := 0, slots := 0, locals := 21 } : Room), 0, 0)
abbrev mX1_steps : aM := (yX1_steps, cX1_steps, 1, (some .int), ({ frames := 0, cells := 0, slots := 0, locals := 0 } : Room), 0, 0)
abbrev mX1_laughs : aM := (yX1_laughs, cX1_laughs, 2, (some .int), ({ frames := 0, cells := 0, slots := 0, locals := 0 } : Room), 0, 0)
abbrev mX1_laces : aM := (yX1_laces, cX1_laces, 1, (some .int), ({ frames := 0, cells := 0, slots := 0, locals := 0 } : Room), 0, 0)
abbrev mX1_isUnder : aM := (yX1_isUnder, cX1_isUnder, 4, (some .boolean), ({ frames := 0, cells := 0, slots := 0, locals := 0 } : Room), 0, 0)
abbrev mX2_init : aM := (yX2_init, cX2_init, 1, (none : Option Jvm.ClassFile.FieldType), ({ frames := 1, cells := 0, slots := 0, locals := 20 } : Room), 0, 0)
abbrev mX2_isSheet : aM := (yX2_isSheet, cX2_isSheet, 1, (some .boolean), ({ frames := 0, cells := 0, slots := 0, locals := 0 } : Room), 0, 0)
abbrev mX2_areBits : aM := (yX2_areBits, cX2_areBits, 1, (some .boolean), ({ frames := 0, cells := 0, slots := 0, locals := 0 } : Room), 0, 0)
abbrev mX2_isMissing : aM := (yX2_isMissing, cX2_isMissing, 2, (some .boolean), ({ frames := 0, cells := 0, slots := 0, locals := 0 } : Room), 0, 0)
abbrev mX2_make : aM := (yX2_make, cX2_make, 4, (some .int), ({ frames := 1, cells := 0, slots := 0, locals := 23 } : Room), 0, 0)
abbrev mX2_put : aM := (yX2_put, cX2_put, 5, (none : Option Jvm.ClassFile.FieldType), ({ frames := 0, cells := 0, slots := 0, locals := 0 } : Room), 0, 0)
abbrev mX2_hasRange : aM := (yX2_hasRange, cX2_hasRange, 4, (some .boolean), ({ frames := 0, cells := 0, slots := 0, locals := 0 } : Room), 0, 0)
abbrev mX3_init : aM := (yX3_init, cX3_init, 1, (none : Option Jvm.ClassFile.FieldType), ({ frames := 1, cells := 0, slots := 0, locals := 20 } : Room), 0, 0)
abbrev mX3_hasRoomFor : aM := (yX3_hasRoomFor, cX3_hasRoomFor, 2, (some .boolean), ({ frames := 0, cells := 0, slots := 0, locals := 0 } : Room), 0, 0)
abbrev mX3_add : aM := (yX3_add, cX3_add, 2, (none : Option Jvm.ClassFile.FieldType), ({ frames := 1, cells := 0, slots := 0, locals := 21 } : Room), 0, 0)
abbrev mX3_read : aM := (yX3_read, cX3_read, 3, (some .int), ({ frames := 8, cells := 0, slots := 0, locals := 178 } : Room), 0, 0)
abbrev mX3_readItem : aM := (yX3_readItem, cX3_readItem, 3, (some .boolean), ({ frames := 7, cells := 0, slots := 0, locals := 156 } : Room), 0, 0)
abbrev mX3_readGuest : aM := (yX3_readGuest, cX3_readGuest, 5, (some .boolean), ({ frames := 6, cells := 0, slots := 0, locals := 132 } : Room), 0, 0)
abbrev mX3_readTrait : aM := (yX3_readTrait, cX3_readTrait, 6, (some .boolean), ({ frames := 5, cells := 0, slots := 0, locals := 107 } : Room), 0, 0)
abbrev mX3_readPair : aM := (yX3_readPair, cX3_readPair, 5, (some .boolean), ({ frames := 2, cells := 0, slots := 0, locals := 41 } : Room), 0, 0)
abbrev mX3_takeNumber : aM := (yX3_takeNumber, cX3_takeNumber, 3, (some .boolean), ({ frames := 0, cells := 0, slots := 0, locals := 0 } : Room), 0, 0)
abbrev mX3_kindTold : aM := (yX3_kindTold, cX3_kindTold, 2, (some .int), ({ frames := 5, cells := 0, slots := 0, locals := 107 } : Room), 0, 0)
abbrev mX3_wordOf : aM := (yX3_wordOf, cX3_wordOf, 1, (some (.object "java/lang/String")), ({ frames := 0, cells := 0, slots := 0, locals := 0 } : Room), 0, 0)
abbrev mX3_isWord : aM := (yX3_isWord, cX3_isWord, 3, (some .boolean), ({ frames := 4, cells := 0, slots := 0, locals := 85 } : Room), 0, 0)
abbrev mX3_next : aM := (yX3_next, cX3_next, 1, (none : Option Jvm.ClassFile.FieldType), ({ frames := 1, cells := 0, slots := 0, locals := 21 } : Room), 0, 0)
abbrev mX3_isLetter : aM := (yX3_isLetter, cX3_isLetter, 1, (some .boolean), ({ frames := 0, cells := 0, slots := 0, locals := 0 } : Room), 0, 0)
abbrev mX3_isDigit : aM := (yX3_isDigit, cX3_isDigit, 1, (some .boolean), ({ frames := 0, cells := 0, slots := 0, locals := 0 } : Room), 0, 0)
abbrev mX4_init : aM := (yX4_init, cX4_init, 1, (none : Option Jvm.ClassFile.FieldType), ({ frames := 2, cells := 0, slots := 0, locals := 43 } : Room), 0, 0)
abbrev mX4_set : aM := (yX4_set, cX4_set, 4, (some .int), ({ frames := 2, cells := 0, slots := 0, locals := 43 } : Room), 0, 0)
abbrev mX4_cell : aM := (yX4_cell, cX4_cell, 4, (some .int), ({ frames := 2, cells := 0, slots := 0, locals := 43 } : Room), 0, 0)
abbrev mX4_measure : aM := (yX4_measure, cX4_measure, 4, (some .int), ({ frames := 2, cells := 0, slots := 0, locals := 43 } : Room), 0, 0)
abbrev mX4_listed : aM := (yX4_listed, cX4_listed, 2, (some .int), ({ frames := 2, cells := 0, slots := 0, locals := 43 } : Room), 0, 0)
abbrev mX4_wide : aM := (yX4_wide, cX4_wide, 3, (some .int), ({ frames := 2, cells := 0, slots := 0, locals := 43 } : Room), 0, 0)
abbrev mX4_guest : aM := (yX4_guest, cX4_guest, 3, (some .int), ({ frames := 2, cells := 0, slots := 0, locals := 43 } : Room), 0, 0)
abbrev mX4_of : aM := (yX4_of, cX4_of, 3, (some .int), ({ frames := 3, cells := 0, slots := 0, locals := 67 } : Room), 0, 0)
abbrev mX4_change : aM := (yX4_change, cX4_change, 6, (some .int), ({ frames := 2, cells := 0, slots := 0, locals := 43 } : Room), 0, 0)
abbrev mX4_reach : aM := (yX4_reach, cX4_reach, 3, (some .int), ({ frames := 4, cells := 0, slots := 0, locals := 92 } : Room), 0, 0)
abbrev mX4_go : aM := (yX4_go, cX4_go, 2, (some .int), ({ frames := 6, cells := 0, slots := 0, locals := 137 } : Room), 0, 0)
abbrev mX4_now : aM := (yX4_now, cX4_now, 2, (some .int), ({ frames := 3, cells := 0, slots := 0, locals := 66 } : Room), 0, 0)
abbrev mX4_ahead : aM := (yX4_ahead, cX4_ahead, 4, (some .int), ({ frames := 6, cells := 0, slots := 0, locals := 137 } : Room), 0, 0)
abbrev mX4_strain : aM := (yX4_strain, cX4_strain, 2, (some .int), ({ frames := 6, cells := 0, slots := 0, locals := 137 } : Room), 0, 0)
abbrev mX4_snaps : aM := (yX4_snaps, cX4_snaps, 2, (some .int), ({ frames := 5, cells := 0, slots := 0, locals := 115 } : Room), 0, 0)
abbrev mX4_comes : aM := (yX4_comes, cX4_comes, 4, (some .int), ({ frames := 5, cells := 0, slots := 0, locals := 115 } : Room), 0, 0)
abbrev mX4_stuck : aM := (yX4_stuck, cX4_stuck, 4, (some .int), ({ frames := 5, cells := 0, slots := 0, locals := 115 } : Room), 0, 0)
abbrev mX4_tight : aM := (yX4_tight, cX4_tight, 4, (some .int), ({ frames := 6, cells := 0, slots := 0, locals := 137 } : Room), 0, 0)
abbrev mX4_measureFor : aM := (yX4_measureFor, cX4_measureFor, 4, (some .int), ({ frames := 5, cells := 0, slots := 0, locals := 115 } : Room), 0, 0)
abbrev mX4_kindFor : aM := (yX4_kindFor, cX4_kindFor, 6, (some .int), ({ frames := 6, cells := 0, slots := 0, locals := 137 } : Room), 0, 0)
abbrev mX4_sizeFor : aM := (yX4_sizeFor, cX4_sizeFor, 4, (some .int), ({ frames := 6, cells := 0, slots := 0, locals := 137 } : Room), 0, 0)
abbrev mX4_send : aM := (yX4_send, cX4_send, 5, (some .int), ({ frames := 6, cells := 0, slots := 0, locals := 137 } : Room), 0, 0)
abbrev mX4_fits : aM := (yX4_fits, cX4_fits, 6, (some .int), ({ frames := 6, cells := 0, slots := 0, locals := 139 } : Room), 0, 0)
abbrev mX4_kinds : aM := (yX4_kinds, cX4_kinds, 6, (some .int), ({ frames := 6, cells := 0, slots := 0, locals := 139 } : Room), 0, 0)
abbrev mX4_party : aM := (yX4_party, cX4_party, 3, (some .int), ({ frames := 6, cells := 0, slots := 0, locals := 136 } : Room), 0, 0)
abbrev mX4_odds : aM := (yX4_odds, cX4_odds, 11, (some .long), ({ frames := 6, cells := 0, slots := 0, locals := 138 } : Room), 0, 0)
abbrev mX4_seed : aM := (yX4_seed, cX4_seed, 3, (some .int), ({ frames := 0, cells := 0, slots := 0, locals := 0 } : Room), 0, 0)
abbrev mX4_feed : aM := (yX4_feed, cX4_feed, 4, (some .int), ({ frames := 2, cells := 0, slots := 0, locals := 43 } : Room), 0, 0)
abbrev mX4_wipe : aM := (yX4_wipe, cX4_wipe, 2, (some .int), ({ frames := 0, cells := 0, slots := 0, locals := 0 } : Room), 0, 0)
abbrev mX4_text : aM := (yX4_text, cX4_text, 2, (some .int), ({ frames := 9, cells := 0, slots := 0, locals := 200 } : Room), 0, 0)
abbrev mX4_hold : aM := (yX4_hold, cX4_hold, 3, (some .int), ({ frames := 2, cells := 0, slots := 0, locals := 43 } : Room), 0, 0)
abbrev mX4_as : aM := (yX4_as, cX4_as, 4, (some .int), ({ frames := 2, cells := 0, slots := 0, locals := 43 } : Room), 0, 0)
abbrev mX4_sheet : aM := (yX4_sheet, cX4_sheet, 4, (some .int), ({ frames := 2, cells := 0, slots := 0, locals := 46 } : Room), 0, 0)
abbrev mX4_write : aM := (yX4_write, cX4_write, 5, (some .int), ({ frames := 2, cells := 0, slots := 0, locals := 43 } : Room), 0, 0)
abbrev mX4_copy : aM := (yX4_copy, cX4_copy, 6, (some .int), ({ frames := 2, cells := 0, slots := 0, locals := 43 } : Room), 0, 0)
abbrev mX4_load : aM := (yX4_load, cX4_load, 5, (some .int), ({ frames := 2, cells := 0, slots := 0, locals := 43 } : Room), 0, 0)
abbrev mX4_judge : aM := (yX4_judge, cX4_judge, 4, (some .int), ({ frames := 2, cells := 0, slots := 0, locals := 43 } : Room), 0, 0)
abbrev mX4_image : aM := (yX4_image, cX4_image, 1, (some .int), ({ frames := 2, cells := 0, slots := 0, locals := 47 } : Room), 0, 0)
abbrev mX4_undo : aM := (yX4_undo, cX4_undo, 1, (some .int), ({ frames := 2, cells := 0, slots := 0, locals := 47 } : Room), 0, 0)
abbrev mX4_tear : aM := (yX4_tear, cX4_tear, 2, (some .int), ({ frames := 0, cells := 0, slots := 0, locals := 0 } : Room), 0, 0)
abbrev mX4_count : aM := (yX4_count, cX4_count, 2, (some .int), ({ frames := 2, cells := 0, slots := 0, locals := 43 } : Room), 0, 0)
abbrev mX4_status : aM := (yX4_status, cX4_status, 4, (some .int), ({ frames := 2, cells := 0, slots := 0, locals := 43 } : Room), 0, 0)
abbrev mX4_found : aM := (yX4_found, cX4_found, 2, (some .int), ({ frames := 1, cells := 0, slots := 0, locals := 22 } : Room), 0, 0)
abbrev mX4_within : aM := (yX4_within, cX4_within, 3, (some .boolean), ({ frames := 0, cells := 0, slots := 0, locals := 0 } : Room), 0, 0)
abbrev mX4_isCell : aM := (yX4_isCell, cX4_isCell, 1, (some .boolean), ({ frames := 1, cells := 0, slots := 0, locals := 22 } : Room), 0, 0)
abbrev mX4_isListed : aM := (yX4_isListed, cX4_isListed, 1, (some .boolean), ({ frames := 1, cells := 0, slots := 0, locals := 22 } : Room), 0, 0)
abbrev mX4_isMeasure : aM := (yX4_isMeasure, cX4_isMeasure, 1, (some .boolean), ({ frames := 1, cells := 0, slots := 0, locals := 22 } : Room), 0, 0)
abbrev mX4_isKind : aM := (yX4_isKind, cX4_isKind, 1, (some .boolean), ({ frames := 1, cells := 0, slots := 0, locals := 22 } : Room), 0, 0)
abbrev mX4_isSpot : aM := (yX4_isSpot, cX4_isSpot, 1, (some .boolean), ({ frames := 1, cells := 0, slots := 0, locals := 22 } : Room), 0, 0)
abbrev mX4_isGuest : aM := (yX4_isGuest, cX4_isGuest, 2, (some .boolean), ({ frames := 1, cells := 0, slots := 0, locals := 22 } : Room), 0, 0)
abbrev mX4_startTrial : aM := (yX4_startTrial, cX4_startTrial, 1, (none : Option Jvm.ClassFile.FieldType), ({ frames := 2, cells := 0, slots := 0, locals := 47 } : Room), 0, 0)
abbrev mX4_lackOfSheet : aM := (yX4_lackOfSheet, cX4_lackOfSheet, 2, (some .int), ({ frames := 1, cells := 0, slots := 0, locals := 21 } : Room), 0, 0)
abbrev mX4_lackOfTold : aM := (yX4_lackOfTold, cX4_lackOfTold, 4, (some .int), ({ frames := 2, cells := 0, slots := 0, locals := 43 } : Room), 0, 0)
abbrev mX4_trialGoesAsTold : aM := (yX4_trialGoesAsTold, cX4_trialGoesAsTold, 5, (some .boolean), ({ frames := 5, cells := 0, slots := 0, locals := 115 } : Room), 0, 0)
abbrev mX4_commonDivisor : aM := (yX4_commonDivisor, cX4_commonDivisor, 6, (some .int), ({ frames := 0, cells := 0, slots := 0, locals := 0 } : Room), 0, 0)
abbrev mX5_init : aM := (yX5_init, cX5_init, 2, (none : Option Jvm.ClassFile.FieldType), ({ frames := 1, cells := 0, slots := 0, locals := 20 } : Room), 0, 0)
abbrev mX5_finding : aM := (yX5_finding, cX5_finding, 2, (some .int), ({ frames := 0, cells := 0, slots := 0, locals := 0 } : Room), 0, 0)
abbrev mX5_within : aM := (yX5_within, cX5_within, 3, (some .boolean), ({ frames := 0, cells := 0, slots := 0, locals := 0 } : Room), 0, 0)
abbrev mX5_become : aM := (yX5_become, cX5_become, 4, (some .int), ({ frames := 0, cells := 0, slots := 0, locals := 0 } : Room), 0, 0)
abbrev mX5_copyRow : aM := (yX5_copyRow, cX5_copyRow, 3, (none : Option Jvm.ClassFile.FieldType), ({ frames := 0, cells := 0, slots := 0, locals := 0 } : Room), 0, 0)
abbrev mX5_putBack : aM := (yX5_putBack, cX5_putBack, 2, (some .int), ({ frames := 1, cells := 0, slots := 0, locals := 22 } : Room), 0, 0)
abbrev mX5_orNone : aM := (yX5_orNone, cX5_orNone, 2, (some .int), ({ frames := 1, cells := 0, slots := 0, locals := 21 } : Room), 0, 0)
abbrev mX5_bits : aM := (yX5_bits, cX5_bits, 3, (some .int), ({ frames := 0, cells := 0, slots := 0, locals := 0 } : Room), 0, 0)
abbrev mX5_isCell : aM := (yX5_isCell, cX5_isCell, 1, (some .boolean), ({ frames := 1, cells := 0, slots := 0, locals := 22 } : Room), 0, 0)
abbrev mX5_isMeasure : aM := (yX5_isMeasure, cX5_isMeasure, 1, (some .boolean), ({ frames := 1, cells := 0, slots := 0, locals := 22 } : Room), 0, 0)
abbrev mX5_isOften : aM := (yX5_isOften, cX5_isOften, 1, (some .boolean), ({ frames := 1, cells := 0, slots := 0, locals := 22 } : Room), 0, 0)
abbrev mX5_isBase : aM := (yX5_isBase, cX5_isBase, 1, (some .boolean), ({ frames := 1, cells := 0, slots := 0, locals := 22 } : Room), 0, 0)
abbrev mX5_set : aM := (yX5_set, cX5_set, 4, (some .int), ({ frames := 2, cells := 0, slots := 0, locals := 42 } : Room), 0, 0)
abbrev mX5_cell : aM := (yX5_cell, cX5_cell, 3, (some .int), ({ frames := 2, cells := 0, slots := 0, locals := 42 } : Room), 0, 0)
abbrev mX5_isPlace : aM := (yX5_isPlace, cX5_isPlace, 1, (some .boolean), ({ frames := 1, cells := 0, slots := 0, locals := 22 } : Room), 0, 0)
abbrev mX5_measure : aM := (yX5_measure, cX5_measure, 3, (some .int), ({ frames := 2, cells := 0, slots := 0, locals := 42 } : Room), 0, 0)
abbrev mX5_listed : aM := (yX5_listed, cX5_listed, 2, (some .int), ({ frames := 2, cells := 0, slots := 0, locals := 42 } : Room), 0, 0)
abbrev mX5_placeNow : aM := (yX5_placeNow, cX5_placeNow, 1, (some .int), ({ frames := 0, cells := 0, slots := 0, locals := 0 } : Room), 0, 0)
abbrev mX5_measureNow : aM := (yX5_measureNow, cX5_measureNow, 1, (some .int), ({ frames := 1, cells := 0, slots := 0, locals := 20 } : Room), 0, 0)
abbrev mX5_wideAt : aM := (yX5_wideAt, cX5_wideAt, 3, (some .int), ({ frames := 1, cells := 0, slots := 0, locals := 21 } : Room), 0, 0)
abbrev mX5_wide : aM := (yX5_wide, cX5_wide, 3, (some .int), ({ frames := 2, cells := 0, slots := 0, locals := 43 } : Room), 0, 0)
abbrev mX5_guestAt : aM := (yX5_guestAt, cX5_guestAt, 2, (some .int), ({ frames := 0, cells := 0, slots := 0, locals := 0 } : Room), 0, 0)
abbrev mX5_guestIs : aM := (yX5_guestIs, cX5_guestIs, 3, (some .int), ({ frames := 1, cells := 0, slots := 0, locals := 21 } : Room), 0, 0)
abbrev mX5_isGuest : aM := (yX5_isGuest, cX5_isGuest, 2, (some .boolean), ({ frames := 1, cells := 0, slots := 0, locals := 22 } : Room), 0, 0)
abbrev mX5_isKind : aM := (yX5_isKind, cX5_isKind, 1, (some .boolean), ({ frames := 1, cells := 0, slots := 0, locals := 22 } : Room), 0, 0)
abbrev mX5_comesIn : aM := (yX5_comesIn, cX5_comesIn, 4, (some .int), ({ frames := 1, cells := 0, slots := 0, locals := 21 } : Room), 0, 0)
abbrev mX5_guest : aM := (yX5_guest, cX5_guest, 3, (some .int), ({ frames := 2, cells := 0, slots := 0, locals := 44 } : Room), 0, 0)
abbrev mX5_needs : aM := (yX5_needs, cX5_needs, 4, (some .int), ({ frames := 2, cells := 0, slots := 0, locals := 43 } : Room), 0, 0)
abbrev mX5_steps : aM := (yX5_steps, cX5_steps, 2, (some .int), ({ frames := 2, cells := 0, slots := 0, locals := 43 } : Room), 0, 0)
abbrev mX5_laughs : aM := (yX5_laughs, cX5_laughs, 2, (some .int), ({ frames := 2, cells := 0, slots := 0, locals := 43 } : Room), 0, 0)
abbrev mX5_laces : aM := (yX5_laces, cX5_laces, 3, (some .int), ({ frames := 2, cells := 0, slots := 0, locals := 43 } : Room), 0, 0)
abbrev mX5_told : aM := (yX5_told, cX5_told, 3, (some .int), ({ frames := 3, cells := 0, slots := 0, locals := 66 } : Room), 0, 0)
abbrev mX5_of : aM := (yX5_of, cX5_of, 3, (some .int), ({ frames := 4, cells := 0, slots := 0, locals := 88 } : Room), 0, 0)
abbrev mX5_isField : aM := (yX5_isField, cX5_isField, 2, (some .boolean), ({ frames := 2, cells := 0, slots := 0, locals := 42 } : Room), 0, 0)
abbrev mX5_change : aM := (yX5_change, cX5_change, 4, (some .int), ({ frames := 3, cells := 0, slots := 0, locals := 63 } : Room), 0, 0)
abbrev mX5_reachOf : aM := (yX5_reachOf, cX5_reachOf, 7, (some .int), ({ frames := 3, cells := 0, slots := 0, locals := 66 } : Room), 0, 0)
abbrev mX5_reach : aM := (yX5_reach, cX5_reach, 3, (some .int), ({ frames := 4, cells := 0, slots := 0, locals := 92 } : Room), 0, 0)
abbrev mX5_goes : aM := (yX5_goes, cX5_goes, 8, (none : Option Jvm.ClassFile.FieldType), ({ frames := 3, cells := 0, slots := 0, locals := 66 } : Room), 0, 0)
abbrev mX5_isIn : aM := (yX5_isIn, cX5_isIn, 2, (some .boolean), ({ frames := 2, cells := 0, slots := 0, locals := 43 } : Room), 0, 0)
abbrev mX5_strains : aM := (yX5_strains, cX5_strains, 4, (none : Option Jvm.ClassFile.FieldType), ({ frames := 3, cells := 0, slots := 0, locals := 65 } : Room), 0, 0)
abbrev mX5_hour : aM := (yX5_hour, cX5_hour, 3, (none : Option Jvm.ClassFile.FieldType), ({ frames := 4, cells := 0, slots := 0, locals := 93 } : Room), 0, 0)
abbrev mX5_hoursGo : aM := (yX5_hoursGo, cX5_hoursGo, 3, (none : Option Jvm.ClassFile.FieldType), ({ frames := 5, cells := 0, slots := 0, locals := 115 } : Room), 0, 0)
abbrev mX5_go : aM := (yX5_go, cX5_go, 2, (some .int), ({ frames := 6, cells := 0, slots := 0, locals := 137 } : Room), 0, 0)
abbrev mX5_stuckOnes : aM := (yX5_stuckOnes, cX5_stuckOnes, 3, (some .int), ({ frames := 2, cells := 0, slots := 0, locals := 43 } : Room), 0, 0)
abbrev mX5_arrived : aM := (yX5_arrived, cX5_arrived, 3, (some .int), ({ frames := 2, cells := 0, slots := 0, locals := 43 } : Room), 0, 0)
abbrev mX5_inTheHall : aM := (yX5_inTheHall, cX5_inTheHall, 3, (some .int), ({ frames := 3, cells := 0, slots := 0, locals := 64 } : Room), 0, 0)
abbrev mX5_shutCells : aM := (yX5_shutCells, cX5_shutCells, 3, (some .int), ({ frames := 2, cells := 0, slots := 0, locals := 43 } : Room), 0, 0)
abbrev mX5_now : aM := (yX5_now, cX5_now, 2, (some .int), ({ frames := 4, cells := 0, slots := 0, locals := 86 } : Room), 0, 0)
abbrev mX5_behind : aM := (yX5_behind, cX5_behind, 3, (some .int), ({ frames := 6, cells := 0, slots := 0, locals := 137 } : Room), 0, 0)
abbrev mX5_ahead : aM := (yX5_ahead, cX5_ahead, 5, (some .int), ({ frames := 6, cells := 0, slots := 0, locals := 137 } : Room), 0, 0)
abbrev mX5_strain : aM := (yX5_strain, cX5_strain, 2, (some .int), ({ frames := 7, cells := 0, slots := 0, locals := 159 } : Room), 0, 0)
abbrev mX5_hoursTo : aM := (yX5_hoursTo, cX5_hoursTo, 5, (some .int), ({ frames := 5, cells := 0, slots := 0, locals := 115 } : Room), 0, 0)
abbrev mX5_snaps : aM := (yX5_snaps, cX5_snaps, 1, (some .int), ({ frames := 6, cells := 0, slots := 0, locals := 139 } : Room), 0, 0)
abbrev mX5_comes : aM := (yX5_comes, cX5_comes, 3, (some .int), ({ frames := 6, cells := 0, slots := 0, locals := 139 } : Room), 0, 0)
abbrev mX5_stuck : aM := (yX5_stuck, cX5_stuck, 3, (some .int), ({ frames := 6, cells := 0, slots := 0, locals := 139 } : Room), 0, 0)
abbrev mX5_isThought : aM := (yX5_isThought, cX5_isThought, 1, (some .boolean), ({ frames := 1, cells := 0, slots := 0, locals := 22 } : Room), 0, 0)
abbrev mX5_tight : aM := (yX5_tight, cX5_tight, 6, (some .int), ({ frames := 7, cells := 0, slots := 0, locals := 159 } : Room), 0, 0)
abbrev mX5_measureFor : aM := (yX5_measureFor, cX5_measureFor, 5, (some .int), ({ frames := 4, cells := 0, slots := 0, locals := 92 } : Room), 0, 0)
abbrev mX5_kindFor : aM := (yX5_kindFor, cX5_kindFor, 9, (some .int), ({ frames := 7, cells := 0, slots := 0, locals := 159 } : Room), 0, 0)
abbrev mX5_sizeFor : aM := (yX5_sizeFor, cX5_sizeFor, 7, (some .int), ({ frames := 7, cells := 0, slots := 0, locals := 159 } : Room), 0, 0)
abbrev mX5_holds : aM := (yX5_holds, cX5_holds, 4, (some .boolean), ({ frames := 6, cells := 0, slots := 0, locals := 137 } : Room), 0, 0)
abbrev mX5_send : aM := (yX5_send, cX5_send, 4, (some .int), ({ frames := 7, cells := 0, slots := 0, locals := 160 } : Room), 0, 0)
abbrev mX5_lacks : aM := (yX5_lacks, cX5_lacks, 3, (some .int), ({ frames := 2, cells := 0, slots := 0, locals := 42 } : Room), 0, 0)
abbrev mX5_isSo : aM := (yX5_isSo, cX5_isSo, 6, (some .boolean), ({ frames := 5, cells := 0, slots := 0, locals := 115 } : Room), 0, 0)
abbrev mX5_fits : aM := (yX5_fits, cX5_fits, 8, (some .int), ({ frames := 6, cells := 0, slots := 0, locals := 140 } : Room), 0, 0)
abbrev mX5_kinds : aM := (yX5_kinds, cX5_kinds, 8, (some .int), ({ frames := 6, cells := 0, slots := 0, locals := 140 } : Room), 0, 0)
abbrev mX5_drawn : aM := (yX5_drawn, cX5_drawn, 1, (some .int), ({ frames := 0, cells := 0, slots := 0, locals := 0 } : Room), 0, 0)
abbrev mX5_party : aM := (yX5_party, cX5_party, 5, (some .int), ({ frames := 5, cells := 0, slots := 0, locals := 115 } : Room), 0, 0)
abbrev mX5_odds : aM := (yX5_odds, cX5_odds, 11, (some .long), ({ frames := 4, cells := 0, slots := 0, locals := 92 } : Room), 0, 0)
abbrev mX5_seed : aM := (yX5_seed, cX5_seed, 2, (some .int), ({ frames := 1, cells := 0, slots := 0, locals := 23 } : Room), 0, 0)
abbrev mX5_feed : aM := (yX5_feed, cX5_feed, 4, (some .int), ({ frames := 1, cells := 0, slots := 0, locals := 22 } : Room), 0, 0)
abbrev mX5_wipe : aM := (yX5_wipe, cX5_wipe, 2, (some .int), ({ frames := 0, cells := 0, slots := 0, locals := 0 } : Room), 0, 0)
abbrev mX5_byteAt : aM := (yX5_byteAt, cX5_byteAt, 2, (some .int), ({ frames := 0, cells := 0, slots := 0, locals := 0 } : Room), 0, 0)
abbrev mX5_token : aM := (yX5_token, cX5_token, 2, (none : Option Jvm.ClassFile.FieldType), ({ frames := 1, cells := 0, slots := 0, locals := 22 } : Room), 0, 0)
abbrev mX5_isWord : aM := (yX5_isWord, cX5_isWord, 4, (some .boolean), ({ frames := 4, cells := 0, slots := 0, locals := 85 } : Room), 0, 0)
abbrev mX5_must : aM := (yX5_must, cX5_must, 2, (none : Option Jvm.ClassFile.FieldType), ({ frames := 2, cells := 0, slots := 0, locals := 43 } : Room), 0, 0)
abbrev mX5_number : aM := (yX5_number, cX5_number, 4, (some .int), ({ frames := 3, cells := 0, slots := 0, locals := 64 } : Room), 0, 0)
abbrev mX5_addItem : aM := (yX5_addItem, cX5_addItem, 6, (none : Option Jvm.ClassFile.FieldType), ({ frames := 0, cells := 0, slots := 0, locals := 0 } : Room), 0, 0)
abbrev mX5_takesWord : aM := (yX5_takesWord, cX5_takesWord, 3, (some .boolean), ({ frames := 5, cells := 0, slots := 0, locals := 108 } : Room), 0, 0)
abbrev mX5_readGuest : aM := (yX5_readGuest, cX5_readGuest, 4, (none : Option Jvm.ClassFile.FieldType), ({ frames := 6, cells := 0, slots := 0, locals := 130 } : Room), 0, 0)
abbrev mX5_readItem : aM := (yX5_readItem, cX5_readItem, 3, (none : Option Jvm.ClassFile.FieldType), ({ frames := 7, cells := 0, slots := 0, locals := 153 } : Room), 0, 0)
abbrev mX5_isToldSo : aM := (yX5_isToldSo, cX5_isToldSo, 5, (none : Option Jvm.ClassFile.FieldType), ({ frames := 2, cells := 0, slots := 0, locals := 44 } : Room), 0, 0)
abbrev mX5_text : aM := (yX5_text, cX5_text, 2, (some .int), ({ frames := 8, cells := 0, slots := 0, locals := 175 } : Room), 0, 0)
abbrev mX5_isSpot : aM := (yX5_isSpot, cX5_isSpot, 1, (some .boolean), ({ frames := 1, cells := 0, slots := 0, locals := 22 } : Room), 0, 0)
abbrev mX5_hold : aM := (yX5_hold, cX5_hold, 3, (some .int), ({ frames := 2, cells := 0, slots := 0, locals := 43 } : Room), 0, 0)
abbrev mX5_as : aM := (yX5_as, cX5_as, 4, (some .int), ({ frames := 2, cells := 0, slots := 0, locals := 43 } : Room), 0, 0)
abbrev mX5_isSheet : aM := (yX5_isSheet, cX5_isSheet, 1, (some .boolean), ({ frames := 1, cells := 0, slots := 0, locals := 22 } : Room), 0, 0)
abbrev mX5_cutTo : aM := (yX5_cutTo, cX5_cutTo, 2, (some .int), ({ frames := 0, cells := 0, slots := 0, locals := 0 } : Room), 0, 0)
abbrev mX5_sheet : aM := (yX5_sheet, cX5_sheet, 5, (some .int), ({ frames := 2, cells := 0, slots := 0, locals := 42 } : Room), 0, 0)
abbrev mX5_write : aM := (yX5_write, cX5_write, 4, (some .int), ({ frames := 2, cells := 0, slots := 0, locals := 42 } : Room), 0, 0)
abbrev mX5_copy : aM := (yX5_copy, cX5_copy, 7, (some .int), ({ frames := 2, cells := 0, slots := 0, locals := 42 } : Room), 0, 0)
abbrev mX5_above : aM := (yX5_above, cX5_above, 1, (some .int), ({ frames := 0, cells := 0, slots := 0, locals := 0 } : Room), 0, 0)
abbrev mX5_isUnder : aM := (yX5_isUnder, cX5_isUnder, 3, (some .boolean), ({ frames := 1, cells := 0, slots := 0, locals := 20 } : Room), 0, 0)
abbrev mX5_load : aM := (yX5_load, cX5_load, 3, (some .int), ({ frames := 3, cells := 0, slots := 0, locals := 64 } : Room), 0, 0)
abbrev mX5_judge : aM := (yX5_judge, cX5_judge, 3, (some .int), ({ frames := 3, cells := 0, slots := 0, locals := 64 } : Room), 0, 0)
abbrev mX5_image : aM := (yX5_image, cX5_image, 1, (some .int), ({ frames := 1, cells := 0, slots := 0, locals := 22 } : Room), 0, 0)
abbrev mX5_undo : aM := (yX5_undo, cX5_undo, 1, (some .int), ({ frames := 1, cells := 0, slots := 0, locals := 22 } : Room), 0, 0)
abbrev mX5_tear : aM := (yX5_tear, cX5_tear, 2, (some .int), ({ frames := 0, cells := 0, slots := 0, locals := 0 } : Room), 0, 0)
abbrev mX5_count : aM := (yX5_count, cX5_count, 4, (some .int), ({ frames := 2, cells := 0, slots := 0, locals := 43 } : Room), 0, 0)
abbrev mX5_status : aM := (yX5_status, cX5_status, 2, (some .int), ({ frames := 1, cells := 0, slots := 0, locals := 22 } : Room), 0, 0)
abbrev mJ6_bitCount_0f7a4 : aM := (yJ6_bitCount_0f7a4, cJ6_bitCount_0f7a4, 1, (some .int), ({ frames := 0, cells := 0, slots := 0, locals := 0 } : Room), 0, 0)
abbrev mJ9_max_7cf53 : aM := (yJ9_max_7cf53, cJ9_max_7cf53, 2, (some .int), ({ frames := 0, cells := 0, slots := 0, locals := 0 } : Room), 0, 0)
abbrev mJ9_min_7cf53 : aM := (yJ9_min_7cf53, cJ9_min_7cf53, 2, (some .int), ({ frames := 0, cells := 0, slots := 0, locals := 0 } : Room), 0, 0)
abbrev mJ0_length_8abf5 : aM := (yJ0_length_8abf5, cJ0_length_8abf5, 1, (some .int), ({ frames := 1, cells := 0, slots := 0, locals := 20 } : Room), 0, 0)
abbrev mJ0_charAt_5068e : aM := (yJ0_charAt_5068e, cJ0_charAt_5068e, 2, (some .char), ({ frames := 3, cells := 0, slots := 0, locals := 64 } : Room), 0, 0)
abbrev mJ0_coder_7d493 : aM := (yJ0_coder_7d493, cJ0_coder_7d493, 1, (some .byte), ({ frames := 0, cells := 0, slots := 0, locals := 0 } : Room), 0, 0)
abbrev mJ0_isLatin1_aae02 : aM := (yJ0_isLatin1_aae02, cJ0_isLatin1_aae02, 1, (some .boolean), ({ frames := 0, cells := 0, slots := 0, locals := 0 } : Room), 0, 0)
abbrev mJ0_checkIndex_df160 : aM := (yJ0_checkIndex_df160, cJ0_checkIndex_df160, 2, (none : Option Jvm.ClassFile.FieldType), ({ frames := 1, cells := 0, slots := 0, locals := 22 } : Room), 0, 0)
abbrev mJ1_charAt_3b067 : aM := (yJ1_charAt_3b067, cJ1_charAt_3b067, 2, (some .char), ({ frames := 2, cells := 0, slots := 0, locals := 43 } : Room), 0, 0)
abbrev mJ7_fill_53178 : aM := (yJ7_fill_53178, cJ7_fill_53178, 4, (none : Option Jvm.ClassFile.FieldType), ({ frames := 0, cells := 0, slots := 0, locals := 0 } : Room), 0, 0)
abbrev mJ3_checkIndex_8e157 : aM := (yJ3_checkIndex_8e157, cJ3_checkIndex_8e157, 3, (some .int), ({ frames := 0, cells := 0, slots := 0, locals := 0 } : Room), 0, 0)
