/-! ===== the reference's cells ===== -/
theorem i_alc (a b c : Int32) : a + (b + c) = b + (a + c) := by rw [← Int32.add_assoc, Int32.add_comm a b, Int32.add_assoc]
/-- what a place of the row tells: row and place of a house -/
def ph (p : Nat) : Nat × Nat := if p < 6 then (9, p) else if p < 12 then (1, p - 6) else if p < 28 then (0, p - 12) else if p < 38 then (8, p - 28) else (2 + (p - 38) % 6, (p - 38) / 6)
def row (r : rT) (p : Nat) : Int32 := r (ph p).1 (ph p).2
theorem ph_l {i : Nat} (h : i < 6) : ph i = (9, i) := if_pos h
theorem ph_m {i : Nat} (h : i < 6) : ph (6 + i) = (1, i) := by
  unfold ph
  rw [if_neg (by omega), if_pos (by omega), Nat.add_sub_cancel_left]
theorem ph_b {i : Nat} (h : i < 16) : ph (12 + i) = (0, i) := by
  unfold ph
  rw [if_neg (by omega), if_neg (by omega), if_pos (by omega), Nat.add_sub_cancel_left]
theorem ph_s {i : Nat} (h : i < 10) : ph (28 + i) = (8, i) := by
  unfold ph
  rw [if_neg (by omega), if_neg (by omega), if_neg (by omega), if_pos (by omega), Nat.add_sub_cancel_left]
theorem ph_g {g k : Nat} (h : k < 6) : ph (38 + 6 * g + k) = (2 + k, g) := by
  unfold ph
  rw [if_neg (by omega), if_neg (by omega), if_neg (by omega), if_neg (by omega), show (38 + 6 * g + k - 38) % 6 = k by omega, show (38 + 6 * g + k - 38) / 6 = g by omega]
theorem ph_inj {p q : Nat} (h : ph p = ph q) : p = q := by
  unfold ph at h
  split at h <;> split at h <;> (try split at h) <;> (try split at h) <;> (try split at h) <;> (try split at h) <;> (try split at h) <;> (try split at h) <;> simp only [Prod.mk.injEq] at h <;> omega
theorem row_at {r : rT} {p q i : Nat} (h : ph p = (q, i)) : row r p = r q i := by unfold row; rw [h]
theorem row_up {r : rT} {p q i : Nat} {v : Int32} (h : ph p = (q, i)) : upd (row r) p v = row (u2 r q i v) := by
  funext k
  unfold row upd
  rw [u2_at]
  by_cases e : k = p
  · subst e
    rw [if_pos rfl, h, if_pos ⟨rfl, rfl⟩]
  · rw [if_neg e, if_neg]
    intro z
    refine e (ph_inj ?_)
    rw [h]
    exact Prod.ext z.1 z.2
def fo (fi : Nat → Int32) (p : Nat) : Int32 := if p = 0 then s_sum fi 7 0 0 else fi (p - 1)
def nf (nu : Nat → Nat → Int32) (p : Nat) : Int32 := nu (p / 40) (p % 40)
theorem nf_at {nu : Nat → Nat → Int32} {s i : Nat} (h : i < 40) : nf nu (40 * s + i) = nu s i := by
  unfold nf
  rw [show (40 * s + i) / 40 = s by omega, show (40 * s + i) % 40 = i by omega]
theorem nf_up {nu : Nat → Nat → Int32} {s i : Nat} {v : Int32} (h : i < 40) : upd (nf nu) (40 * s + i) v = nf (u2 nu s i v) := by
  funext k
  unfold nf upd
  rw [u2_at]
  by_cases e : k = 40 * s + i
  · rw [if_pos e, if_pos (by omega)]
  · rw [if_neg e, if_neg (by omega)]
abbrev yQ : Type := Int32 × Int32 × Int32 × Int32 × Int32 × Int32 × Int32
abbrev yO (ik ln : Int32) (Q : yQ) : List Value := [.ref 43, .ref 44, .ref 45, .int ik, .ref 46, .ref 47, .int ln, .int Q.1, .int Q.2.1, .int Q.2.2.1, .int Q.2.2.2.1, .int Q.2.2.2.2.1, .ref 48, .ref 49, .int Q.2.2.2.2.2.1, .int Q.2.2.2.2.2.2, .ref 50, .ref 51, .ref 52, .ref 53]
def yc (r : rT) (kr ar : Nat → Int32) (ik : Int32) (fi b : Nat → Int32) (ln : Int32) (S : sT) (it mv : Nat → Int32) (Q : yQ) (k : Nat) : aC :=
  if k = 0 then aO 4 (yO ik ln Q) else if k = 1 then aI 86 (row r) else if k = 2 then aI 86 kr else if k = 3 then aI 86 ar else if k = 4 then aI 8 (fo fi) else if k = 5 then aI 120 b else if k = 6 then aR 2 7 (fun i => some (2013 + i)) else if k = 7 then aI 480 it else if k = 8 then aI 4 S.2.1 else if k = 9 then aI 4 S.2.2 else if k = 10 then aI 160 (nf S.1) else if k = 11 then aI 40 mv else aI 0 (fun _ => 0)
def yM (M : Nat → aC) (r : rT) (kr ar : Nat → Int32) (ik : Int32) (fi b : Nat → Int32) (ln : Int32) (S : sT) (it mv : Nat → Int32) (Q : yQ) : Nat → aC := blk M 42 12 (yc r kr ar ik fi b ln S it mv Q)
section YM
variable {M : Nat → aC} {r : rT} {kr ar : Nat → Int32} {ik : Int32} {fi b : Nat → Int32} {ln : Int32} {S : sT} {it mv : Nat → Int32} {Q : yQ}
theorem y_42 : yM M r kr ar ik fi b ln S it mv Q 42 = aO 4 (yO ik ln Q) := blk_at (k := 0) (by decide)
theorem y_43 : yM M r kr ar ik fi b ln S it mv Q 43 = aI 86 (row r) := blk_at (k := 1) (by decide)
theorem y_44 : yM M r kr ar ik fi b ln S it mv Q 44 = aI 86 kr := blk_at (k := 2) (by decide)
theorem y_45 : yM M r kr ar ik fi b ln S it mv Q 45 = aI 86 ar := blk_at (k := 3) (by decide)
theorem y_46 : yM M r kr ar ik fi b ln S it mv Q 46 = aI 8 (fo fi) := blk_at (k := 4) (by decide)
theorem y_47 : yM M r kr ar ik fi b ln S it mv Q 47 = aI 120 b := blk_at (k := 5) (by decide)
theorem y_48 : yM M r kr ar ik fi b ln S it mv Q 48 = aR 2 7 (fun i => some (2013 + i)) := blk_at (k := 6) (by decide)
theorem y_49 : yM M r kr ar ik fi b ln S it mv Q 49 = aI 480 it := blk_at (k := 7) (by decide)
theorem y_50 : yM M r kr ar ik fi b ln S it mv Q 50 = aI 4 S.2.1 := blk_at (k := 8) (by decide)
theorem y_51 : yM M r kr ar ik fi b ln S it mv Q 51 = aI 4 S.2.2 := blk_at (k := 9) (by decide)
theorem y_52 : yM M r kr ar ik fi b ln S it mv Q 52 = aI 160 (nf S.1) := blk_at (k := 10) (by decide)
theorem y_53 : yM M r kr ar ik fi b ln S it mv Q 53 = aI 40 mv := blk_at (k := 11) (by decide)
theorem y_r43 {r' : rT} : a_up (yM M r kr ar ik fi b ln S it mv Q) 43 (aI 86 (row r')) = yM M r' kr ar ik fi b ln S it mv Q := by
  unfold yM
  rw [show a_up (blk M 42 12 (yc r kr ar ik fi b ln S it mv Q)) 43 _ = _ from blk_up (k := 1) (by decide)]
  congr 1
  funext k
  unfold a_up yc
  by_cases e : k = 1
  · subst e; rfl
  · rw [if_neg e]
    simp only [e, if_false]
theorem y_u43 {p q i : Nat} {v : Int32} (h : ph p = (q, i)) : a_up (yM M r kr ar ik fi b ln S it mv Q) 43 (aI 86 (upd (row r) p v)) = yM M (u2 r q i v) kr ar ik fi b ln S it mv Q := by
  rw [row_up h]
  exact y_r43
theorem y_r44 {f : Nat → Int32} : a_up (yM M r kr ar ik fi b ln S it mv Q) 44 (aI 86 f) = yM M r f ar ik fi b ln S it mv Q := by
  unfold yM
  rw [show a_up (blk M 42 12 (yc r kr ar ik fi b ln S it mv Q)) 44 _ = _ from blk_up (k := 2) (by decide)]
  congr 1
  funext k
  unfold a_up yc
  by_cases e : k = 2
  · subst e; rfl
  · rw [if_neg e]
    simp only [e, if_false]
    try (repeat' split) <;> first | rfl | omega
theorem y_u44 {i : Nat} {v : Int32} : a_up (yM M r kr ar ik fi b ln S it mv Q) 44 (aI 86 (upd kr i v)) = yM M r (upd kr i v) ar ik fi b ln S it mv Q := y_r44
theorem y_r45 {f : Nat → Int32} : a_up (yM M r kr ar ik fi b ln S it mv Q) 45 (aI 86 f) = yM M r kr f ik fi b ln S it mv Q := by
  unfold yM
  rw [show a_up (blk M 42 12 (yc r kr ar ik fi b ln S it mv Q)) 45 _ = _ from blk_up (k := 3) (by decide)]
  congr 1
  funext k
  unfold a_up yc
  by_cases e : k = 3
  · subst e; rfl
  · rw [if_neg e]
    simp only [e, if_false]
    try (repeat' split) <;> first | rfl | omega
theorem y_u45 {i : Nat} {v : Int32} : a_up (yM M r kr ar ik fi b ln S it mv Q) 45 (aI 86 (upd ar i v)) = yM M r kr (upd ar i v) ik fi b ln S it mv Q := y_r45
theorem y_r47 {f : Nat → Int32} : a_up (yM M r kr ar ik fi b ln S it mv Q) 47 (aI 120 f) = yM M r kr ar ik fi f ln S it mv Q := by
  unfold yM
  rw [show a_up (blk M 42 12 (yc r kr ar ik fi b ln S it mv Q)) 47 _ = _ from blk_up (k := 5) (by decide)]
  congr 1
  funext k
  unfold a_up yc
  by_cases e : k = 5
  · subst e; rfl
  · rw [if_neg e]
    simp only [e, if_false]
    try (repeat' split) <;> first | rfl | omega
theorem y_u47 {i : Nat} {v : Int32} : a_up (yM M r kr ar ik fi b ln S it mv Q) 47 (aI 120 (upd b i v)) = yM M r kr ar ik fi (upd b i v) ln S it mv Q := y_r47
theorem y_r49 {f : Nat → Int32} : a_up (yM M r kr ar ik fi b ln S it mv Q) 49 (aI 480 f) = yM M r kr ar ik fi b ln S f mv Q := by
  unfold yM
  rw [show a_up (blk M 42 12 (yc r kr ar ik fi b ln S it mv Q)) 49 _ = _ from blk_up (k := 7) (by decide)]
  congr 1
  funext k
  unfold a_up yc
  by_cases e : k = 7
  · subst e; rfl
  · rw [if_neg e]
    simp only [e, if_false]
    try (repeat' split) <;> first | rfl | omega
theorem y_u49 {i : Nat} {v : Int32} : a_up (yM M r kr ar ik fi b ln S it mv Q) 49 (aI 480 (upd it i v)) = yM M r kr ar ik fi b ln S (upd it i v) mv Q := y_r49
theorem y_r53 {f : Nat → Int32} : a_up (yM M r kr ar ik fi b ln S it mv Q) 53 (aI 40 f) = yM M r kr ar ik fi b ln S it f Q := by
  unfold yM
  rw [show a_up (blk M 42 12 (yc r kr ar ik fi b ln S it mv Q)) 53 _ = _ from blk_up (k := 11) (by decide)]
  congr 1
  funext k
  unfold a_up yc
  by_cases e : k = 11
  · subst e; rfl
  · rw [if_neg e]
    simp only [e, if_false]
    try (repeat' split) <;> first | rfl | omega
theorem y_u53 {i : Nat} {v : Int32} : a_up (yM M r kr ar ik fi b ln S it mv Q) 53 (aI 40 (upd mv i v)) = yM M r kr ar ik fi b ln S it (upd mv i v) Q := y_r53
theorem y_r46 {fi' : Nat → Int32} : a_up (yM M r kr ar ik fi b ln S it mv Q) 46 (aI 8 (fo fi')) = yM M r kr ar ik fi' b ln S it mv Q := by
  unfold yM
  rw [show a_up (blk M 42 12 (yc r kr ar ik fi b ln S it mv Q)) 46 _ = _ from blk_up (k := 4) (by decide)]
  congr 1
  funext k
  unfold a_up yc
  by_cases e : k = 4
  · subst e; rfl
  · rw [if_neg e]
    simp only [e, if_false]
    try (repeat' split) <;> first | rfl | omega
theorem y_u50 {i : Nat} {v : Int32} : a_up (yM M r kr ar ik fi b ln S it mv Q) 50 (aI 4 (upd S.2.1 i v)) = yM M r kr ar ik fi b ln (S.1, upd S.2.1 i v, S.2.2) it mv Q := by
  unfold yM
  rw [show a_up (blk M 42 12 (yc r kr ar ik fi b ln S it mv Q)) 50 _ = _ from blk_up (k := 8) (by decide)]
  congr 1
  funext k
  unfold a_up yc
  by_cases e : k = 8
  · subst e; rfl
  · rw [if_neg e]
    simp only [e, if_false]
    try (repeat' split) <;> first | rfl | omega
theorem y_u51 {i : Nat} {v : Int32} : a_up (yM M r kr ar ik fi b ln S it mv Q) 51 (aI 4 (upd S.2.2 i v)) = yM M r kr ar ik fi b ln (S.1, S.2.1, upd S.2.2 i v) it mv Q := by
  unfold yM
  rw [show a_up (blk M 42 12 (yc r kr ar ik fi b ln S it mv Q)) 51 _ = _ from blk_up (k := 9) (by decide)]
  congr 1
  funext k
  unfold a_up yc
  by_cases e : k = 9
  · subst e; rfl
  · rw [if_neg e]
    simp only [e, if_false]
    try (repeat' split) <;> first | rfl | omega
theorem y_r52 {nu : Nat → Nat → Int32} : a_up (yM M r kr ar ik fi b ln S it mv Q) 52 (aI 160 (nf nu)) = yM M r kr ar ik fi b ln (nu, S.2) it mv Q := by
  unfold yM
  rw [show a_up (blk M 42 12 (yc r kr ar ik fi b ln S it mv Q)) 52 _ = _ from blk_up (k := 10) (by decide)]
  congr 1
  funext k
  unfold a_up yc
  by_cases e : k = 10
  · subst e; rfl
  · rw [if_neg e]
    simp only [e, if_false]
    try (repeat' split) <;> first | rfl | omega
theorem y_u52 {s i : Nat} {v : Int32} (h : i < 40) : a_up (yM M r kr ar ik fi b ln S it mv Q) 52 (aI 160 (upd (nf S.1) (40 * s + i) v)) = yM M r kr ar ik fi b ln (u2 S.1 s i v, S.2) it mv Q := by
  rw [nf_up h]
  exact y_r52
theorem y_u3 {v : Int32} : a_up (yM M r kr ar ik fi b ln S it mv Q) 42 (aO 4 ((yO ik ln Q).set 3 (.int v))) = yM M r kr ar v fi b ln S it mv Q := by
  unfold yM
  rw [show a_up (blk M 42 12 (yc r kr ar ik fi b ln S it mv Q)) 42 _ = _ from blk_up (k := 0) (by decide)]
  congr 1
  funext k
  unfold a_up yc
  by_cases e : k = 0
  · subst e; rfl
  · rw [if_neg e]
    simp only [e, if_false]
    try (repeat' split) <;> first | rfl | omega
theorem y_u6 {v : Int32} : a_up (yM M r kr ar ik fi b ln S it mv Q) 42 (aO 4 ((yO ik ln Q).set 6 (.int v))) = yM M r kr ar ik fi b v S it mv Q := by
  unfold yM
  rw [show a_up (blk M 42 12 (yc r kr ar ik fi b ln S it mv Q)) 42 _ = _ from blk_up (k := 0) (by decide)]
  congr 1
  funext k
  unfold a_up yc
  by_cases e : k = 0
  · subst e; rfl
  · rw [if_neg e]
    simp only [e, if_false]
    try (repeat' split) <;> first | rfl | omega
theorem y_uq0 {v : Int32} : a_up (yM M r kr ar ik fi b ln S it mv Q) 42 (aO 4 ((yO ik ln Q).set 7 (.int v))) = yM M r kr ar ik fi b ln S it mv (v, Q.2.1, Q.2.2.1, Q.2.2.2.1, Q.2.2.2.2.1, Q.2.2.2.2.2.1, Q.2.2.2.2.2.2) := by
  unfold yM
  rw [show a_up (blk M 42 12 (yc r kr ar ik fi b ln S it mv Q)) 42 _ = _ from blk_up (k := 0) (by decide)]
  congr 1
  funext k
  unfold a_up yc
  by_cases e : k = 0
  · subst e; rfl
  · rw [if_neg e]
    simp only [e, if_false]
    try (repeat' split) <;> first | rfl | omega
theorem y_uq1 {v : Int32} : a_up (yM M r kr ar ik fi b ln S it mv Q) 42 (aO 4 ((yO ik ln Q).set 8 (.int v))) = yM M r kr ar ik fi b ln S it mv (Q.1, v, Q.2.2.1, Q.2.2.2.1, Q.2.2.2.2.1, Q.2.2.2.2.2.1, Q.2.2.2.2.2.2) := by
  unfold yM
  rw [show a_up (blk M 42 12 (yc r kr ar ik fi b ln S it mv Q)) 42 _ = _ from blk_up (k := 0) (by decide)]
  congr 1
  funext k
  unfold a_up yc
  by_cases e : k = 0
  · subst e; rfl
  · rw [if_neg e]
    simp only [e, if_false]
    try (repeat' split) <;> first | rfl | omega
theorem y_uq2 {v : Int32} : a_up (yM M r kr ar ik fi b ln S it mv Q) 42 (aO 4 ((yO ik ln Q).set 9 (.int v))) = yM M r kr ar ik fi b ln S it mv (Q.1, Q.2.1, v, Q.2.2.2.1, Q.2.2.2.2.1, Q.2.2.2.2.2.1, Q.2.2.2.2.2.2) := by
  unfold yM
  rw [show a_up (blk M 42 12 (yc r kr ar ik fi b ln S it mv Q)) 42 _ = _ from blk_up (k := 0) (by decide)]
  congr 1
  funext k
  unfold a_up yc
  by_cases e : k = 0
  · subst e; rfl
  · rw [if_neg e]
    simp only [e, if_false]
    try (repeat' split) <;> first | rfl | omega
theorem y_uq3 {v : Int32} : a_up (yM M r kr ar ik fi b ln S it mv Q) 42 (aO 4 ((yO ik ln Q).set 10 (.int v))) = yM M r kr ar ik fi b ln S it mv (Q.1, Q.2.1, Q.2.2.1, v, Q.2.2.2.2.1, Q.2.2.2.2.2.1, Q.2.2.2.2.2.2) := by
  unfold yM
  rw [show a_up (blk M 42 12 (yc r kr ar ik fi b ln S it mv Q)) 42 _ = _ from blk_up (k := 0) (by decide)]
  congr 1
  funext k
  unfold a_up yc
  by_cases e : k = 0
  · subst e; rfl
  · rw [if_neg e]
    simp only [e, if_false]
    try (repeat' split) <;> first | rfl | omega
theorem y_uq4 {v : Int32} : a_up (yM M r kr ar ik fi b ln S it mv Q) 42 (aO 4 ((yO ik ln Q).set 11 (.int v))) = yM M r kr ar ik fi b ln S it mv (Q.1, Q.2.1, Q.2.2.1, Q.2.2.2.1, v, Q.2.2.2.2.2.1, Q.2.2.2.2.2.2) := by
  unfold yM
  rw [show a_up (blk M 42 12 (yc r kr ar ik fi b ln S it mv Q)) 42 _ = _ from blk_up (k := 0) (by decide)]
  congr 1
  funext k
  unfold a_up yc
  by_cases e : k = 0
  · subst e; rfl
  · rw [if_neg e]
    simp only [e, if_false]
    try (repeat' split) <;> first | rfl | omega
theorem y_uq5 {v : Int32} : a_up (yM M r kr ar ik fi b ln S it mv Q) 42 (aO 4 ((yO ik ln Q).set 14 (.int v))) = yM M r kr ar ik fi b ln S it mv (Q.1, Q.2.1, Q.2.2.1, Q.2.2.2.1, Q.2.2.2.2.1, v, Q.2.2.2.2.2.2) := by
  unfold yM
  rw [show a_up (blk M 42 12 (yc r kr ar ik fi b ln S it mv Q)) 42 _ = _ from blk_up (k := 0) (by decide)]
  congr 1
  funext k
  unfold a_up yc
  by_cases e : k = 0
  · subst e; rfl
  · rw [if_neg e]
    simp only [e, if_false]
    try (repeat' split) <;> first | rfl | omega
theorem y_uq6 {v : Int32} : a_up (yM M r kr ar ik fi b ln S it mv Q) 42 (aO 4 ((yO ik ln Q).set 15 (.int v))) = yM M r kr ar ik fi b ln S it mv (Q.1, Q.2.1, Q.2.2.1, Q.2.2.2.1, Q.2.2.2.2.1, Q.2.2.2.2.2.1, v) := by
  unfold yM
  rw [show a_up (blk M 42 12 (yc r kr ar ik fi b ln S it mv Q)) 42 _ = _ from blk_up (k := 0) (by decide)]
  congr 1
  funext k
  unfold a_up yc
  by_cases e : k = 0
  · subst e; rfl
  · rw [if_neg e]
    simp only [e, if_false]
    try (repeat' split) <;> first | rfl | omega
theorem y_hi {i : Nat} (h : i < 42 ∨ 54 ≤ i) : yM M r kr ar ik fi b ln S it mv Q i = M i := blk_out (by omega)
end YM
theorem fo_up {fi : Nat → Int32} {k : Nat} (hk : k < 7) : upd (upd (fo fi) (k + 1) (fo fi (k + 1) + 1)) 0 (upd (fo fi) (k + 1) (fo fi (k + 1) + 1) 0 + 1) = fo (upd fi k (fi k + 1)) := by
  funext p
  cases p with
  | zero =>
    show s_sum fi 7 0 0 + 1 = s_sum (upd fi k (fi k + 1)) 7 0 0
    rcases (show k = 0 ∨ k = 1 ∨ k = 2 ∨ k = 3 ∨ k = 4 ∨ k = 5 ∨ k = 6 by omega) with rfl | rfl | rfl | rfl | rfl | rfl | rfl
    · show 0 + fi 0 + fi 1 + fi 2 + fi 3 + fi 4 + fi 5 + fi 6 + 1 = 0 + (fi 0 + 1) + fi 1 + fi 2 + fi 3 + fi 4 + fi 5 + fi 6
      simp only [Int32.add_assoc, Int32.add_comm, i_alc]
    · show 0 + fi 0 + fi 1 + fi 2 + fi 3 + fi 4 + fi 5 + fi 6 + 1 = 0 + fi 0 + (fi 1 + 1) + fi 2 + fi 3 + fi 4 + fi 5 + fi 6
      simp only [Int32.add_assoc, Int32.add_comm, i_alc]
    · show 0 + fi 0 + fi 1 + fi 2 + fi 3 + fi 4 + fi 5 + fi 6 + 1 = 0 + fi 0 + fi 1 + (fi 2 + 1) + fi 3 + fi 4 + fi 5 + fi 6
      simp only [Int32.add_assoc, Int32.add_comm, i_alc]
    · show 0 + fi 0 + fi 1 + fi 2 + fi 3 + fi 4 + fi 5 + fi 6 + 1 = 0 + fi 0 + fi 1 + fi 2 + (fi 3 + 1) + fi 4 + fi 5 + fi 6
      simp only [Int32.add_assoc, Int32.add_comm, i_alc]
    · show 0 + fi 0 + fi 1 + fi 2 + fi 3 + fi 4 + fi 5 + fi 6 + 1 = 0 + fi 0 + fi 1 + fi 2 + fi 3 + (fi 4 + 1) + fi 5 + fi 6
      simp only [Int32.add_assoc, Int32.add_comm, i_alc]
    · show 0 + fi 0 + fi 1 + fi 2 + fi 3 + fi 4 + fi 5 + fi 6 + 1 = 0 + fi 0 + fi 1 + fi 2 + fi 3 + fi 4 + (fi 5 + 1) + fi 6
      simp only [Int32.add_assoc, Int32.add_comm, i_alc]
    · show 0 + fi 0 + fi 1 + fi 2 + fi 3 + fi 4 + fi 5 + fi 6 + 1 = 0 + fi 0 + fi 1 + fi 2 + fi 3 + fi 4 + fi 5 + (fi 6 + 1)
      simp only [Int32.add_assoc, Int32.add_comm, i_alc]
  | succ p =>
    show upd (fo fi) (k + 1) (fo fi (k + 1) + 1) (p + 1) = upd fi k (fi k + 1) p
    unfold upd
    by_cases e : p = k
    · subst e; rw [if_pos rfl, if_pos rfl]; rfl
    · rw [if_neg e, if_neg (by omega)]; rfl
