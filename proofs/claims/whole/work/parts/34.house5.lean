section A3
variable {Γ : aG} {l : Launch} {y : MethodName} {cc : ByteArray} {nL : Nat} {ret : Option FieldType} {R : Room} {mc ms : Nat} {pc : Nat} {L : List (Nat × Value)} {n k1 k2 : Nat} {M : Nat → aC} {M' : Nat → aC}
theorem fr_areturnE {x z : Nat} {rt : FieldType} (hr : ret = some rt) (hrt : (∃ n, rt = .object n) ∨ ∃ t, rt = .array t) (hz : x = z) (hm : M = M') (hd : decode cc pc = .ok (.areturn, 1)) : Fr Γ l (y, cc, nL, ret, R, k1, k2) pc L [.ref x] n k1 k2 M (some (.ref z)) n M' := hz ▸ fr_areturn hr hrt hm hd
end A3
theorem putH_o {M : Nat → aC} {j j2 k : Nat} {r r2 : rT} (hd : j2 + 10 ≤ j ∨ j + 10 ≤ j2) (hk : k < 10) : putH (putH M j2 r2) j r (j2 + k) = hc j2 r2 k := by
  unfold putH
  rw [blk_out (by omega), blk_at hk]
theorem putH_t {M : Nat → aC} {j t : Nat} {r : rT} (h : t < 6) : putH M j r (j + (3 + t)) = aI 8 (r (2 + t)) := by
  rcases (show t = 0 ∨ t = 1 ∨ t = 2 ∨ t = 3 ∨ t = 4 ∨ t = 5 by omega) with rfl | rfl | rfl | rfl | rfl | rfl
  · exact putH_3
  · exact putH_4
  · exact putH_5
  · exact putH_6
  · exact putH_7
  · exact putH_8
theorem putH_at {M : Nat → aC} {j t : Nat} {r : rT} {i : Nat} {v : Int32} (h : t < 6) : a_up (putH M j r) (j + (3 + t)) (aI 8 (upd (r (2 + t)) i v)) = putH M j (u2 r (2 + t) i v) := by
  rcases (show t = 0 ∨ t = 1 ∨ t = 2 ∨ t = 3 ∨ t = 4 ∨ t = 5 by omega) with rfl | rfl | rfl | rfl | rfl | rfl
  · exact putH_a2
  · exact putH_a3
  · exact putH_a4
  · exact putH_a5
  · exact putH_a6
  · exact putH_a7
theorem wf_send {set : Int32} : ∀ (n g : Nat) (r : rT), wf r → wf (s_send set n g r) ∧ s_send set n g r 9 = r 9 := by
  intro n
  induction n with
  | zero => intro g r w; exact ⟨w, rfl⟩
  | succ n ih =>
    intro g r w
    rw [s_send]
    split
    · have w1 : wf (u2 r 7 g 1) := by
        refine wf_u2 w ?_ ?_ ?_ ?_ ?_ ?_ ?_ <;> (intro h; try omega) <;> (intro h; omega)
      exact ⟨(ih _ _ w1).1, (ih _ _ w1).2.trans rfl⟩
    · exact ih _ _ w
set_option maxRecDepth 100000 in
theorem cc_loop {Γ : aG} {l : Launch} {M : Nat → aC} {j : Nat} {r : rT} (hj : j + 10 ≤ 54) {m : Int32} : ∀ (n c : Nat) (a : Int32), c + n = 16 → Fr Γ l mX0_closedCells 9 [(0, .ref j), (1, .int m), (2, .int a), (3, .int (nI c))] [] 54 0 0 (putH M j r) (some (.int (s_set (fun c => decide (s_width r c m = 0)) n c a))) 54 (putH M j r) := by
  intro n
  induction n with
  | zero =>
    intro c a hn
    refine fr_iload_n (pc := 9) rfl dX0_closedCells_9 ?_
    refine fr_bipush (pc := 10) (v := 16) rfl dX0_closedCells_10 ?_
    refine fr_icmp_ge (pc := 12) 40 (by decide) dX0_closedCells_12 (fun h12 => ?_) (fun h12 => ?_)
    · refine fr_iload_n (pc := 40) rfl dX0_closedCells_40 ?_
      exact fr_ireturn (pc := 41) rfl rfl rfl rfl dX0_closedCells_41
    · exact absurd (nI_le (a := 16) (b := c) (by omega) (by omega)) h12
  | succ n ih =>
    intro c a hn
    refine fr_iload_n (pc := 9) rfl dX0_closedCells_9 ?_
    refine fr_bipush (pc := 10) (v := 16) rfl dX0_closedCells_10 ?_
    refine fr_icmp_ge (pc := 12) 40 (by decide) dX0_closedCells_12 (fun h12 => ?_) (fun h12 => ?_)
    · exact absurd h12 (nI_ge (a := c) (b := 16) (by omega) (by omega))
    · refine fr_iload_n (pc := 15) rfl dX0_closedCells_15 ?_
      refine fr_aload_n (pc := 16) rfl dX0_closedCells_16 ?_
      refine fr_iload_n (pc := 17) rfl dX0_closedCells_17 ?_
      refine fr_iload_n (pc := 18) rfl dX0_closedCells_18 ?_
      refine fr_callV0 (pc := 19) (ci := 0) (T := TX0) (N := 15) [.int (nI c), .int m] [.int a] (c_X0_width (by omega) (by first | assumption | omega)) gc_X0_91 rfl rfl ⟨rfl, rfl, by decide, by decide⟩ (Nat.le_of_ble_eq_true rfl) rfl (by omega) putH_0 ⟨by decide, by decide⟩ dX0_closedCells_19 ?_
      refine fr_if_ne (pc := 22) 31 (by decide) dX0_closedCells_22 (fun h22 => ?_) (fun h22 => ?_)
      · refine fr_iconst (pc := 31) (v := 0) rfl dX0_closedCells_31 ?_
        refine fr_ior (pc := 32) dX0_closedCells_32 ?_
        refine fr_nm (fun x2_33 e_x2_33 => ?_)
        refine fr_istore_n (pc := 33) [(2, .int x2_33), (0, .ref j), (1, .int m), (3, .int (nI c))] (by decide) rfl dX0_closedCells_33 ?_
        refine fr_iinc (pc := 34) (v := nI (c + 1)) [(3, .int (nI (c + 1))), (2, .int x2_33), (0, .ref j), (1, .int m)] rfl (nI_1 c) (by decide) rfl dX0_closedCells_34 ?_
        refine fr_goto (pc := 37) 9 (by decide) dX0_closedCells_37 ?_
        rw [s_set, show (a ||| (if (fun c => decide (s_width r c m = 0)) c = true then 1 <<< (nI c &&& 31) else 0)) = x2_33 from by rw [e_x2_33]; rw [if_neg (by simpa using h22)]]
        exact fr_sub [2, 3, 1, 0] rfl (ih (c + 1) x2_33 (by omega))
      · refine fr_iconst (pc := 25) (v := 1) rfl dX0_closedCells_25 ?_
        refine fr_iload_n (pc := 26) rfl dX0_closedCells_26 ?_
        refine fr_ishl (pc := 27) dX0_closedCells_27 ?_
        refine fr_goto (pc := 28) 32 (by decide) dX0_closedCells_28 ?_
        refine fr_ior (pc := 32) dX0_closedCells_32 ?_
        refine fr_nm (fun x2_33 e_x2_33 => ?_)
        refine fr_istore_n (pc := 33) [(2, .int x2_33), (0, .ref j), (1, .int m), (3, .int (nI c))] (by decide) rfl dX0_closedCells_33 ?_
        refine fr_iinc (pc := 34) (v := nI (c + 1)) [(3, .int (nI (c + 1))), (2, .int x2_33), (0, .ref j), (1, .int m)] rfl (nI_1 c) (by decide) rfl dX0_closedCells_34 ?_
        refine fr_goto (pc := 37) 9 (by decide) dX0_closedCells_37 ?_
        rw [s_set, show (a ||| (if (fun c => decide (s_width r c m = 0)) c = true then 1 <<< (nI c &&& 31) else 0)) = x2_33 from by rw [e_x2_33]; rw [if_pos (by simpa using h22)]]
        exact fr_sub [2, 3, 1, 0] rfl (ih (c + 1) x2_33 (by omega))
set_option maxRecDepth 100000 in
theorem c_X0_closedCells {Γ : aG} {l : Launch} {M : Nat → aC} {j : Nat} {r : rT} (hj : j + 10 ≤ 54) (w : wf r)  : Ev Γ l mX0_closedCells [.ref j] 54 (putH M j r) (some (.int (s_set (fun c => decide (s_width r c (s_meas r) = 0)) 16 0 0))) 54 (putH M j r) := by
  refine Ev.of [(0, .ref j)] (by decide) (Nat.le_of_ble_eq_true rfl) rfl ?_
  refine fr_aload_n (pc := 0) rfl dX0_closedCells_0 ?_
  refine fr_callV0 (pc := 1) (ci := 0) (T := TX0) (N := 15) [] [] (c_X0_measureNow (by omega) (by assumption)) gc_X0_104 rfl rfl ⟨rfl, rfl, by decide, by decide⟩ (Nat.le_of_ble_eq_true rfl) rfl (by omega) putH_0 ⟨by decide, by decide⟩ dX0_closedCells_1 ?_
  refine fr_nm (fun x1_4 e_x1_4 => ?_)
  refine fr_istore_n (pc := 4) [(1, .int x1_4), (0, .ref j)] (by decide) rfl dX0_closedCells_4 ?_
  refine fr_iconst (pc := 5) (v := 0) rfl dX0_closedCells_5 ?_
  refine fr_istore_n (pc := 6) [(2, .int 0), (1, .int x1_4), (0, .ref j)] (by decide) rfl dX0_closedCells_6 ?_
  refine fr_iconst (pc := 7) (v := 0) rfl dX0_closedCells_7 ?_
  refine fr_istore_n (pc := 8) [(3, .int 0), (2, .int 0), (1, .int x1_4), (0, .ref j)] (by decide) rfl dX0_closedCells_8 ?_
  rw [← e_x1_4]
  exact fr_sub [3, 2, 1, 0] rfl (cc_loop hj 16 0 0 rfl)
set_option maxRecDepth 100000 in
theorem hh_loop {Γ : aG} {l : Launch} {M : Nat → aC} {j : Nat} {r : rT} (hj : j + 10 ≤ 54) (w : wf r) : ∀ (n g : Nat) (a : Int32), g + n = cnt r → Fr Γ l mX0_howManyHome 4 [(0, .ref j), (1, .int a), (2, .int (nI g))] [] 54 0 0 (putH M j r) (some (.int (s_sum (r 7) n g a))) 54 (putH M j r) := by
  have hcl := w.ctl
  intro n
  induction n with
  | zero =>
    intro g a hn
    refine fr_iload_n (pc := 4) rfl dX0_howManyHome_4 ?_
    refine fr_aload_n (pc := 5) rfl dX0_howManyHome_5 ?_
    refine fr_get (pc := 6) (ci := 0) (T := TX0) (k0 := 6) rfl hin_X0 (by decide) fl_X0_29 (by omega) putH_0 rfl dX0_howManyHome_6 ?_
    refine fr_icmp_ge (pc := 9) 27 (by decide) dX0_howManyHome_9 (fun h9 => ?_) (fun h9 => ?_)
    · refine fr_iload_n (pc := 27) rfl dX0_howManyHome_27 ?_
      exact fr_ireturn (pc := 28) rfl rfl rfl rfl dX0_howManyHome_28
    · exact absurd (by rw [w.ct, ← hn]; exact Int32.le_refl _) h9
  | succ n ih =>
    intro g a hn
    refine fr_iload_n (pc := 4) rfl dX0_howManyHome_4 ?_
    refine fr_aload_n (pc := 5) rfl dX0_howManyHome_5 ?_
    refine fr_get (pc := 6) (ci := 0) (T := TX0) (k0 := 6) rfl hin_X0 (by decide) fl_X0_29 (by omega) putH_0 rfl dX0_howManyHome_6 ?_
    refine fr_icmp_ge (pc := 9) 27 (by decide) dX0_howManyHome_9 (fun h9 => ?_) (fun h9 => ?_)
    · exact absurd h9 (by rw [w.ct, ← hn]; exact nI_ge (by omega) (by omega))
    · refine fr_iload_n (pc := 12) rfl dX0_howManyHome_12 ?_
      refine fr_aload_n (pc := 13) rfl dX0_howManyHome_13 ?_
      refine fr_get (pc := 14) (ci := 0) (T := TX0) (k0 := 12) rfl hin_X0 (by decide) fl_X0_47 (by omega) putH_0 rfl dX0_howManyHome_14 ?_
      refine fr_iload_n (pc := 17) rfl dX0_howManyHome_17 ?_
      refine fr_iald (pc := 18) g rfl (by omega) putH_8 (by first | assumption | omega) (by decide) dX0_howManyHome_18 ?_
      refine fr_iadd (pc := 19) dX0_howManyHome_19 ?_
      refine fr_nm (fun x1_20 e_x1_20 => ?_)
      refine fr_istore_n (pc := 20) [(1, .int x1_20), (0, .ref j), (2, .int (nI g))] (by decide) rfl dX0_howManyHome_20 ?_
      refine fr_iinc (pc := 21) (v := nI (g + 1)) [(2, .int (nI (g + 1))), (1, .int x1_20), (0, .ref j)] rfl (nI_1 g) (by decide) rfl dX0_howManyHome_21 ?_
      refine fr_goto (pc := 24) 4 (by decide) dX0_howManyHome_24 ?_
      rw [s_sum, ← e_x1_20]
      exact fr_sub [2, 1, 0] rfl (ih (g + 1) x1_20 (by omega))
set_option maxRecDepth 100000 in
theorem c_X0_howManyHome {Γ : aG} {l : Launch} {M : Nat → aC} {j : Nat} {r : rT} (hj : j + 10 ≤ 54) (w : wf r)  : Ev Γ l mX0_howManyHome [.ref j] 54 (putH M j r) (some (.int (s_sum (r 7) (cnt r) 0 0))) 54 (putH M j r) := by
  refine Ev.of [(0, .ref j)] (by decide) (Nat.le_of_ble_eq_true rfl) rfl ?_
  refine fr_iconst (pc := 0) (v := 0) rfl dX0_howManyHome_0 ?_
  refine fr_istore_n (pc := 1) [(1, .int 0), (0, .ref j)] (by decide) rfl dX0_howManyHome_1 ?_
  refine fr_iconst (pc := 2) (v := 0) rfl dX0_howManyHome_2 ?_
  refine fr_istore_n (pc := 3) [(2, .int 0), (1, .int 0), (0, .ref j)] (by decide) rfl dX0_howManyHome_3 ?_
  exact fr_sub [2, 1, 0] rfl (hh_loop hj w (cnt r) 0 0 (by omega))
set_option maxRecDepth 100000 in
theorem hd_loop {Γ : aG} {l : Launch} {M : Nat → aC} {j : Nat} {r : rT} (hj : j + 10 ≤ 54) : ∀ (n g : Nat) (a : Int32), g + n = 10 → Fr Γ l mX0_howManyHeld 4 [(0, .ref j), (1, .int a), (2, .int (nI g))] [] 54 0 0 (putH M j r) (some (.int (s_sum (fun i => if r 8 i = -1 then 0 else 1) n g a))) 54 (putH M j r) := by
  intro n
  induction n with
  | zero =>
    intro g a hn
    refine fr_iload_n (pc := 4) rfl dX0_howManyHeld_4 ?_
    refine fr_bipush (pc := 5) (v := 10) rfl dX0_howManyHeld_5 ?_
    refine fr_icmp_ge (pc := 7) 34 (by decide) dX0_howManyHeld_7 (fun h7 => ?_) (fun h7 => ?_)
    · refine fr_iload_n (pc := 34) rfl dX0_howManyHeld_34 ?_
      exact fr_ireturn (pc := 35) rfl rfl rfl rfl dX0_howManyHeld_35
    · exact absurd (nI_le (a := 10) (b := g) (by omega) (by omega)) h7
  | succ n ih =>
    intro g a hn
    refine fr_iload_n (pc := 4) rfl dX0_howManyHeld_4 ?_
    refine fr_bipush (pc := 5) (v := 10) rfl dX0_howManyHeld_5 ?_
    refine fr_icmp_ge (pc := 7) 34 (by decide) dX0_howManyHeld_7 (fun h7 => ?_) (fun h7 => ?_)
    · exact absurd h7 (nI_ge (a := g) (b := 10) (by omega) (by omega))
    · refine fr_iload_n (pc := 10) rfl dX0_howManyHeld_10 ?_
      refine fr_aload_n (pc := 11) rfl dX0_howManyHeld_11 ?_
      refine fr_get (pc := 12) (ci := 0) (T := TX0) (k0 := 14) rfl hin_X0 (by decide) fl_X0_53 (by omega) putH_0 rfl dX0_howManyHeld_12 ?_
      refine fr_iload_n (pc := 15) rfl dX0_howManyHeld_15 ?_
      refine fr_iald (pc := 16) g rfl (by omega) putH_9 (by first | assumption | omega) (by decide) dX0_howManyHeld_16 ?_
      refine fr_iconst (pc := 17) (v := (-1)) rfl dX0_howManyHeld_17 ?_
      refine fr_icmp_ne (pc := 18) 25 (by decide) dX0_howManyHeld_18 (fun h18 => ?_) (fun h18 => ?_)
      · refine fr_iconst (pc := 25) (v := 1) rfl dX0_howManyHeld_25 ?_
        refine fr_iadd (pc := 26) dX0_howManyHeld_26 ?_
        refine fr_nm (fun x1_27 e_x1_27 => ?_)
        refine fr_istore_n (pc := 27) [(1, .int x1_27), (0, .ref j), (2, .int (nI g))] (by decide) rfl dX0_howManyHeld_27 ?_
        refine fr_iinc (pc := 28) (v := nI (g + 1)) [(2, .int (nI (g + 1))), (1, .int x1_27), (0, .ref j)] rfl (nI_1 g) (by decide) rfl dX0_howManyHeld_28 ?_
        refine fr_goto (pc := 31) 4 (by decide) dX0_howManyHeld_31 ?_
        rw [s_sum, show a + (fun i => if r 8 i = -1 then 0 else 1) g = x1_27 from by rw [e_x1_27]; dsimp only; rw [if_neg h18]]
        exact fr_sub [2, 1, 0] rfl (ih (g + 1) x1_27 (by omega))
      · refine fr_iconst (pc := 21) (v := 0) rfl dX0_howManyHeld_21 ?_
        refine fr_goto (pc := 22) 26 (by decide) dX0_howManyHeld_22 ?_
        refine fr_iadd (pc := 26) dX0_howManyHeld_26 ?_
        refine fr_nm (fun x1_27 e_x1_27 => ?_)
        refine fr_istore_n (pc := 27) [(1, .int x1_27), (0, .ref j), (2, .int (nI g))] (by decide) rfl dX0_howManyHeld_27 ?_
        refine fr_iinc (pc := 28) (v := nI (g + 1)) [(2, .int (nI (g + 1))), (1, .int x1_27), (0, .ref j)] rfl (nI_1 g) (by decide) rfl dX0_howManyHeld_28 ?_
        refine fr_goto (pc := 31) 4 (by decide) dX0_howManyHeld_31 ?_
        rw [s_sum, show a + (fun i => if r 8 i = -1 then 0 else 1) g = x1_27 from by rw [e_x1_27]; dsimp only; rw [if_pos h18]]
        exact fr_sub [2, 1, 0] rfl (ih (g + 1) x1_27 (by omega))
set_option maxRecDepth 100000 in
theorem c_X0_howManyHeld {Γ : aG} {l : Launch} {M : Nat → aC} {j : Nat} {r : rT} (hj : j + 10 ≤ 54)  : Ev Γ l mX0_howManyHeld [.ref j] 54 (putH M j r) (some (.int (s_sum (fun i => if r 8 i = -1 then 0 else 1) 10 0 0))) 54 (putH M j r) := by
  refine Ev.of [(0, .ref j)] (by decide) (Nat.le_of_ble_eq_true rfl) rfl ?_
  refine fr_iconst (pc := 0) (v := 0) rfl dX0_howManyHeld_0 ?_
  refine fr_istore_n (pc := 1) [(1, .int 0), (0, .ref j)] (by decide) rfl dX0_howManyHeld_1 ?_
  refine fr_iconst (pc := 2) (v := 0) rfl dX0_howManyHeld_2 ?_
  refine fr_istore_n (pc := 3) [(2, .int 0), (1, .int 0), (0, .ref j)] (by decide) rfl dX0_howManyHeld_3 ?_
  exact fr_sub [2, 1, 0] rfl (hd_loop hj 10 0 0 rfl)
set_option maxRecDepth 100000 in
theorem rd_loop {Γ : aG} {l : Launch} {M : Nat → aC} {j g : Nat} {r : rT} {m need : Int32} (hj : j + 10 ≤ 54) (hg : g < 8) : ∀ (k : Nat) (s x : Int32), x = nI k - 1 → k ≤ 16 → Fr Γ l mX0_reachable 69 [(0, .ref j), (1, .int (nI g)), (2, .int m), (3, .int need), (4, .int s), (5, .int x)] [] 54 0 0 (putH M j r) (some (.int (s_dn r m need k s))) 54 (putH M j r) := by
  intro k
  induction k with
  | zero =>
    intro s x hx hk
    refine fr_iload (pc := 69) rfl dX0_reachable_69 ?_
    refine fr_if_lt (pc := 71) 100 (by decide) dX0_reachable_71 (fun h71 => ?_) (fun h71 => ?_)
    · refine fr_iload (pc := 100) rfl dX0_reachable_100 ?_
      exact fr_ireturn (pc := 102) rfl rfl rfl rfl dX0_reachable_102
    · exact absurd (by rw [hx]; decide) h71
  | succ k ih =>
    intro s x hx hk
    rw [nI_pred] at hx
    subst hx
    refine fr_iload (pc := 69) rfl dX0_reachable_69 ?_
    refine fr_if_lt (pc := 71) 100 (by decide) dX0_reachable_71 (fun h71 => ?_) (fun h71 => ?_)
    · exact absurd h71 (nI_pos (by omega))
    · refine fr_aload_n (pc := 74) rfl dX0_reachable_74 ?_
      refine fr_iload (pc := 75) rfl dX0_reachable_75 ?_
      refine fr_iload_n (pc := 77) rfl dX0_reachable_77 ?_
      refine fr_callV0 (pc := 78) (ci := 0) (T := TX0) (N := 15) [.int (nI k), .int m] [] (c_X0_width (by omega) (by first | assumption | omega)) gc_X0_91 rfl rfl ⟨rfl, rfl, by decide, by decide⟩ (Nat.le_of_ble_eq_true rfl) rfl (by omega) putH_0 ⟨by decide, by decide⟩ dX0_reachable_78 ?_
      refine fr_iload_n (pc := 81) rfl dX0_reachable_81 ?_
      refine fr_icmp_lt (pc := 82) 100 (by decide) dX0_reachable_82 (fun h82 => ?_) (fun h82 => ?_)
      · rw [show s_dn r m need (k + 1) s = s from if_pos h82]
        refine fr_iload (pc := 100) rfl dX0_reachable_100 ?_
        exact fr_ireturn (pc := 102) rfl rfl rfl rfl dX0_reachable_102
      · refine fr_iload (pc := 85) rfl dX0_reachable_85 ?_
        refine fr_iconst (pc := 87) (v := 1) rfl dX0_reachable_87 ?_
        refine fr_iload (pc := 88) rfl dX0_reachable_88 ?_
        refine fr_ishl (pc := 90) dX0_reachable_90 ?_
        refine fr_ior (pc := 91) dX0_reachable_91 ?_
        refine fr_nm (fun x4_92 e_x4_92 => ?_)
        refine fr_istore (pc := 92) [(4, .int x4_92), (0, .ref j), (1, .int (nI g)), (2, .int m), (3, .int need), (5, .int (nI k))] (by decide) rfl dX0_reachable_92 ?_
        refine fr_iinc (pc := 94) (v := nI k - 1) [(5, .int (nI k - 1)), (4, .int x4_92), (0, .ref j), (1, .int (nI g)), (2, .int m), (3, .int need)] rfl (by rw [show Int32.ofInt (-1) = (-1 : Int32) from by decide]; exact (Int32.sub_eq_add_neg _ _).symm) (by decide) rfl dX0_reachable_94 ?_
        refine fr_goto (pc := 97) 69 (by decide) dX0_reachable_97 ?_
        rw [show s_dn r m need (k + 1) s = s_dn r m need k (s ||| 1 <<< (nI k &&& 31)) from if_neg h82, ← e_x4_92]
        exact fr_sub [2, 3, 4, 5, 1, 0] rfl (ih x4_92 _ rfl (by omega))
set_option maxRecDepth 100000 in
theorem ru_loop {Γ : aG} {l : Launch} {M : Nat → aC} {j g : Nat} {r : rT} {m need : Int32} (hj : j + 10 ≤ 54) (hg : g < 8) (w : wf r) : ∀ (n c : Nat) (s : Int32), c + n = 16 → Fr Γ l mX0_reachable 26 [(0, .ref j), (1, .int (nI g)), (2, .int m), (3, .int need), (4, .int s), (5, .int (nI c))] [] 54 0 0 (putH M j r) (some (.int (s_dn r m need (nat r 3 g) (s_up r m need n c s)))) 54 (putH M j r) := by
  have hat := w.at hg
  intro n
  induction n with
  | zero =>
    intro c s hn
    refine fr_iload (pc := 26) rfl dX0_reachable_26 ?_
    refine fr_bipush (pc := 28) (v := 16) rfl dX0_reachable_28 ?_
    refine fr_icmp_ge (pc := 30) 59 (by decide) dX0_reachable_30 (fun h30 => ?_) (fun h30 => ?_)
    · refine fr_aload_n (pc := 59) rfl dX0_reachable_59 ?_
      refine fr_get (pc := 60) (ci := 0) (T := TX0) (k0 := 8) rfl hin_X0 (by decide) fl_X0_35 (by omega) putH_0 rfl dX0_reachable_60 ?_
      refine fr_iload_n (pc := 63) rfl dX0_reachable_63 ?_
      refine fr_iald (pc := 64) g rfl (by omega) putH_4 (by first | assumption | omega) (by decide) dX0_reachable_64 ?_
      refine fr_eq (z := nI (nat r 3 g)) hat.1 ?_
      refine fr_iconst (pc := 65) (v := 1) rfl dX0_reachable_65 ?_
      refine fr_isub (pc := 66) dX0_reachable_66 ?_
      refine fr_nm (fun x5_67 e_x5_67 => ?_)
      refine fr_istore (pc := 67) [(5, .int x5_67), (0, .ref j), (1, .int (nI g)), (2, .int m), (3, .int need), (4, .int s)] (by decide) rfl dX0_reachable_67 ?_
      exact fr_sub [1, 2, 3, 4, 5, 0] rfl (rd_loop hj hg (nat r 3 g) s _ e_x5_67 (by omega))
    · exact absurd (nI_le (a := 16) (b := c) (by omega) (by omega)) h30
  | succ n ih =>
    intro c s hn
    refine fr_iload (pc := 26) rfl dX0_reachable_26 ?_
    refine fr_bipush (pc := 28) (v := 16) rfl dX0_reachable_28 ?_
    refine fr_icmp_ge (pc := 30) 59 (by decide) dX0_reachable_30 (fun h30 => ?_) (fun h30 => ?_)
    · exact absurd h30 (nI_ge (a := c) (b := 16) (by omega) (by omega))
    · refine fr_aload_n (pc := 33) rfl dX0_reachable_33 ?_
      refine fr_iload (pc := 34) rfl dX0_reachable_34 ?_
      refine fr_iload_n (pc := 36) rfl dX0_reachable_36 ?_
      refine fr_callV0 (pc := 37) (ci := 0) (T := TX0) (N := 15) [.int (nI c), .int m] [] (c_X0_width (by omega) (by first | assumption | omega)) gc_X0_91 rfl rfl ⟨rfl, rfl, by decide, by decide⟩ (Nat.le_of_ble_eq_true rfl) rfl (by omega) putH_0 ⟨by decide, by decide⟩ dX0_reachable_37 ?_
      refine fr_iload_n (pc := 40) rfl dX0_reachable_40 ?_
      refine fr_icmp_lt (pc := 41) 59 (by decide) dX0_reachable_41 (fun h41 => ?_) (fun h41 => ?_)
      · rw [show s_up r m need (n + 1) c s = s from if_pos h41]
        refine fr_aload_n (pc := 59) rfl dX0_reachable_59 ?_
        refine fr_get (pc := 60) (ci := 0) (T := TX0) (k0 := 8) rfl hin_X0 (by decide) fl_X0_35 (by omega) putH_0 rfl dX0_reachable_60 ?_
        refine fr_iload_n (pc := 63) rfl dX0_reachable_63 ?_
        refine fr_iald (pc := 64) g rfl (by omega) putH_4 (by first | assumption | omega) (by decide) dX0_reachable_64 ?_
        refine fr_eq (z := nI (nat r 3 g)) hat.1 ?_
        refine fr_iconst (pc := 65) (v := 1) rfl dX0_reachable_65 ?_
        refine fr_isub (pc := 66) dX0_reachable_66 ?_
        refine fr_nm (fun x5_67 e_x5_67 => ?_)
        refine fr_istore (pc := 67) [(5, .int x5_67), (0, .ref j), (1, .int (nI g)), (2, .int m), (3, .int need), (4, .int s)] (by decide) rfl dX0_reachable_67 ?_
        exact fr_sub [1, 2, 3, 4, 5, 0] rfl (rd_loop hj hg (nat r 3 g) s _ e_x5_67 (by omega))
      · refine fr_iload (pc := 44) rfl dX0_reachable_44 ?_
        refine fr_iconst (pc := 46) (v := 1) rfl dX0_reachable_46 ?_
        refine fr_iload (pc := 47) rfl dX0_reachable_47 ?_
        refine fr_ishl (pc := 49) dX0_reachable_49 ?_
        refine fr_ior (pc := 50) dX0_reachable_50 ?_
        refine fr_nm (fun x4_51 e_x4_51 => ?_)
        refine fr_istore (pc := 51) [(4, .int x4_51), (0, .ref j), (1, .int (nI g)), (2, .int m), (3, .int need), (5, .int (nI c))] (by decide) rfl dX0_reachable_51 ?_
        refine fr_iinc (pc := 53) (v := nI (c + 1)) [(5, .int (nI (c + 1))), (4, .int x4_51), (0, .ref j), (1, .int (nI g)), (2, .int m), (3, .int need)] rfl (nI_1 c) (by decide) rfl dX0_reachable_53 ?_
        refine fr_goto (pc := 56) 26 (by decide) dX0_reachable_56 ?_
        rw [show s_up r m need (n + 1) c s = s_up r m need n (c + 1) (s ||| 1 <<< (nI c &&& 31)) from if_neg h41, ← e_x4_51]
        exact fr_sub [2, 3, 4, 5, 1, 0] rfl (ih (c + 1) x4_51 (by omega))
set_option maxRecDepth 100000 in
theorem c_X0_reachable {Γ : aG} {l : Launch} {M : Nat → aC} {j : Nat} {r : rT} (hj : j + 10 ≤ 54) {g : Nat} {m : Int32} (hg : g < 8) (w : wf r)  : Ev Γ l mX0_reachable [.ref j, .int (nI g), .int m] 54 (putH M j r) (some (.int (s_reach r g m))) 54 (putH M j r) := by
  have hat := w.at hg
  refine Ev.of [(0, .ref j), (1, .int (nI g)), (2, .int m)] (by decide) (Nat.le_of_ble_eq_true rfl) rfl ?_
  refine fr_aload_n (pc := 0) rfl dX0_reachable_0 ?_
  refine fr_iload_n (pc := 1) rfl dX0_reachable_1 ?_
  refine fr_callV0 (pc := 2) (ci := 0) (T := TX0) (N := 15) [.int (nI g)] [] (c_X0_needs (by omega) (by first | assumption | omega)) gc_X0_88 rfl rfl ⟨rfl, rfl, by decide, by decide⟩ (Nat.le_of_ble_eq_true rfl) rfl (by omega) putH_0 ⟨by decide, by decide⟩ dX0_reachable_2 ?_
  refine fr_nm (fun need e_need => ?_)
  refine fr_istore_n (pc := 5) [(3, .int need), (0, .ref j), (1, .int (nI g)), (2, .int m)] (by decide) rfl dX0_reachable_5 ?_
  refine fr_iconst (pc := 6) (v := 1) rfl dX0_reachable_6 ?_
  refine fr_aload_n (pc := 7) rfl dX0_reachable_7 ?_
  refine fr_get (pc := 8) (ci := 0) (T := TX0) (k0 := 8) rfl hin_X0 (by decide) fl_X0_35 (by omega) putH_0 rfl dX0_reachable_8 ?_
  refine fr_iload_n (pc := 11) rfl dX0_reachable_11 ?_
  refine fr_iald (pc := 12) g rfl (by omega) putH_4 (by first | assumption | omega) (by decide) dX0_reachable_12 ?_
  refine fr_eq (z := nI (nat r 3 g)) hat.1 ?_
  refine fr_ishl (pc := 13) dX0_reachable_13 ?_
  refine fr_nm (fun x4_14 e_x4_14 => ?_)
  refine fr_istore (pc := 14) [(4, .int x4_14), (3, .int need), (0, .ref j), (1, .int (nI g)), (2, .int m)] (by decide) rfl dX0_reachable_14 ?_
  refine fr_aload_n (pc := 16) rfl dX0_reachable_16 ?_
  refine fr_get (pc := 17) (ci := 0) (T := TX0) (k0 := 8) rfl hin_X0 (by decide) fl_X0_35 (by omega) putH_0 rfl dX0_reachable_17 ?_
  refine fr_iload_n (pc := 20) rfl dX0_reachable_20 ?_
  refine fr_iald (pc := 21) g rfl (by omega) putH_4 (by first | assumption | omega) (by decide) dX0_reachable_21 ?_
  refine fr_eq (z := nI (nat r 3 g)) hat.1 ?_
  refine fr_iconst (pc := 22) (v := 1) rfl dX0_reachable_22 ?_
  refine fr_iadd (pc := 23) dX0_reachable_23 ?_
  refine fr_eq (z := nI (nat r 3 g + 1)) (nI_1 _) ?_
  refine fr_istore (pc := 24) [(5, .int (nI (nat r 3 g + 1))), (4, .int x4_14), (3, .int need), (0, .ref j), (1, .int (nI g)), (2, .int m)] (by decide) rfl dX0_reachable_24 ?_
  rw [show s_reach r g m = s_dn r m need (nat r 3 g) (s_up r m need (15 - nat r 3 g) (nat r 3 g + 1) x4_14) from by rw [e_need, e_x4_14]; rfl]
  exact fr_sub [3, 4, 5, 2, 1, 0] rfl (ru_loop hj hg w (15 - nat r 3 g) (nat r 3 g + 1) x4_14 (by omega))
set_option maxRecDepth 100000 in
theorem c_X0_canReach {Γ : aG} {l : Launch} {M : Nat → aC} {j : Nat} {r : rT} (hj : j + 10 ≤ 54) {g c : Nat} {m : Int32} (hg : g < 8) (w : wf r)  : Ev Γ l mX0_canReach [.ref j, .int (nI g), .int (nI c), .int m] 54 (putH M j r) (some (.int (bI (s_reach r g m >>> (nI c &&& 31) &&& 1 = 1)))) 54 (putH M j r) := by
  refine Ev.of [(0, .ref j), (1, .int (nI g)), (2, .int (nI c)), (3, .int m)] (by decide) (Nat.le_of_ble_eq_true rfl) rfl ?_
  refine fr_aload_n (pc := 0) rfl dX0_canReach_0 ?_
  refine fr_iload_n (pc := 1) rfl dX0_canReach_1 ?_
  refine fr_iload_n (pc := 2) rfl dX0_canReach_2 ?_
  refine fr_callV0 (pc := 3) (ci := 0) (T := TX0) (N := 15) [.int (nI g), .int m] [] (c_X0_reachable (by omega) (by omega) (by assumption)) gc_X0_94 rfl rfl ⟨rfl, rfl, by decide, by decide⟩ (Nat.le_of_ble_eq_true rfl) rfl (by omega) putH_0 ⟨by decide, by decide⟩ dX0_canReach_3 ?_
  refine fr_iload_n (pc := 6) rfl dX0_canReach_6 ?_
  refine fr_ishr (pc := 7) dX0_canReach_7 ?_
  refine fr_iconst (pc := 8) (v := 1) rfl dX0_canReach_8 ?_
  refine fr_iand (pc := 9) dX0_canReach_9 ?_
  refine fr_iconst (pc := 10) (v := 1) rfl dX0_canReach_10 ?_
  refine fr_icmp_ne (pc := 11) 18 (by decide) dX0_canReach_11 (fun h11 => ?_) (fun h11 => ?_)
  · refine fr_iconst (pc := 18) (v := 0) rfl dX0_canReach_18 ?_
    exact fr_ireturn (pc := 19) rfl (by first | exact (bI_f h11).symm | exact (bI_t h11).symm) rfl rfl dX0_canReach_19
  · refine fr_iconst (pc := 14) (v := 1) rfl dX0_canReach_14 ?_
    refine fr_goto (pc := 15) 19 (by decide) dX0_canReach_15 ?_
    exact fr_ireturn (pc := 19) rfl (by first | exact (bI_f h11).symm | exact (bI_t h11).symm) rfl rfl dX0_canReach_19
set_option maxRecDepth 100000 in
theorem mt_loop {Γ : aG} {l : Launch} {M : Nat → aC} {j g : Nat} {r : rT} (hj : j + 10 ≤ 54) (hg : g < 8) (w : wf r) : ∀ (n m : Nat) (a : Int32), m + n = 37 → Fr Γ l mX0_measuresToAim 5 [(0, .ref j), (1, .int (nI g)), (2, .int a), (3, .int (nI m))] [] 54 0 0 (putH M j r) (some (.int (s_sum (s_mta r g) n m a))) 54 (putH M j r) := by
  have ham := w.am hg
  intro n
  induction n with
  | zero =>
    intro m a hn
    refine fr_iload_n (pc := 5) rfl dX0_measuresToAim_5 ?_
    refine fr_bipush (pc := 6) (v := 36) rfl dX0_measuresToAim_6 ?_
    refine fr_icmp_gt (pc := 8) 35 (by decide) dX0_measuresToAim_8 (fun h8 => ?_) (fun h8 => ?_)
    · refine fr_iload_n (pc := 35) rfl dX0_measuresToAim_35 ?_
      exact fr_ireturn (pc := 36) rfl rfl rfl rfl dX0_measuresToAim_36
    · exact absurd (nI_lt (a := 36) (b := m) (by omega) (by omega)) h8
  | succ n ih =>
    intro m a hn
    refine fr_iload_n (pc := 5) rfl dX0_measuresToAim_5 ?_
    refine fr_bipush (pc := 6) (v := 36) rfl dX0_measuresToAim_6 ?_
    refine fr_icmp_gt (pc := 8) 35 (by decide) dX0_measuresToAim_8 (fun h8 => ?_) (fun h8 => ?_)
    · exact absurd h8 (nI_nlt (a := 36) (b := m) (by omega) (by omega))
    · refine fr_aload_n (pc := 11) rfl dX0_measuresToAim_11 ?_
      refine fr_iload_n (pc := 12) rfl dX0_measuresToAim_12 ?_
      refine fr_aload_n (pc := 13) rfl dX0_measuresToAim_13 ?_
      refine fr_get (pc := 14) (ci := 0) (T := TX0) (k0 := 10) rfl hin_X0 (by decide) fl_X0_41 (by omega) putH_0 rfl dX0_measuresToAim_14 ?_
      refine fr_iload_n (pc := 17) rfl dX0_measuresToAim_17 ?_
      refine fr_iald (pc := 18) g rfl (by omega) putH_6 (by first | assumption | omega) (by decide) dX0_measuresToAim_18 ?_
      refine fr_eq (z := nI (nat r 5 g)) ham.1 ?_
      refine fr_iload_n (pc := 19) rfl dX0_measuresToAim_19 ?_
      refine fr_callV0 (pc := 20) (ci := 0) (T := TX0) (N := 15) [.int (nI g), .int (nI (nat r 5 g)), .int (nI m)] [] (c_X0_canReach (by omega) (by omega) (by assumption)) gc_X0_97 rfl rfl ⟨rfl, rfl, by decide, by decide⟩ (Nat.le_of_ble_eq_true rfl) rfl (by omega) putH_0 ⟨by decide, by decide⟩ dX0_measuresToAim_20 ?_
      refine fr_if_eq (pc := 23) 29 (by decide) dX0_measuresToAim_23 (fun h23 => ?_) (fun h23 => ?_)
      · have g23 := bI_0.mp h23
        refine fr_iinc (pc := 29) (v := nI (m + 1)) [(3, .int (nI (m + 1))), (0, .ref j), (1, .int (nI g)), (2, .int a)] rfl (nI_1 m) (by decide) rfl dX0_measuresToAim_29 ?_
        refine fr_goto (pc := 32) 5 (by decide) dX0_measuresToAim_32 ?_
        have q1 : s_mta r g m = 0 := if_neg (bI_0.mp h23)
        rw [s_sum, q1, Int32.add_zero]
        exact fr_sub [1, 2, 3, 0] rfl (ih (m + 1) a (by omega))
      · have g23 := bI_n0 h23
        refine fr_iinc (pc := 26) (v := (a + 1)) [(2, .int (a + 1)), (0, .ref j), (1, .int (nI g)), (3, .int (nI m))] rfl rfl (by decide) rfl dX0_measuresToAim_26 ?_
        refine fr_iinc (pc := 29) (v := nI (m + 1)) [(3, .int (nI (m + 1))), (2, .int (a + 1)), (0, .ref j), (1, .int (nI g))] rfl (nI_1 m) (by decide) rfl dX0_measuresToAim_29 ?_
        refine fr_goto (pc := 32) 5 (by decide) dX0_measuresToAim_32 ?_
        have q1 : s_mta r g m = 1 := if_pos (Decidable.byContradiction fun q => h23 (bI_f q))
        rw [s_sum, q1]
        exact fr_sub [2, 3, 1, 0] rfl (ih (m + 1) (a + 1) (by omega))
set_option maxRecDepth 100000 in
theorem c_X0_measuresToAim {Γ : aG} {l : Launch} {M : Nat → aC} {j : Nat} {r : rT} (hj : j + 10 ≤ 54) {g : Nat} (hg : g < 8) (w : wf r)  : Ev Γ l mX0_measuresToAim [.ref j, .int (nI g)] 54 (putH M j r) (some (.int (s_sum (s_mta r g) 21 16 0))) 54 (putH M j r) := by
  refine Ev.of [(0, .ref j), (1, .int (nI g))] (by decide) (Nat.le_of_ble_eq_true rfl) rfl ?_
  refine fr_iconst (pc := 0) (v := 0) rfl dX0_measuresToAim_0 ?_
  refine fr_istore_n (pc := 1) [(2, .int 0), (0, .ref j), (1, .int (nI g))] (by decide) rfl dX0_measuresToAim_1 ?_
  refine fr_bipush (pc := 2) (v := 16) rfl dX0_measuresToAim_2 ?_
  refine fr_istore_n (pc := 4) [(3, .int 16), (2, .int 0), (0, .ref j), (1, .int (nI g))] (by decide) rfl dX0_measuresToAim_4 ?_
  exact fr_sub [2, 3, 1, 0] rfl (mt_loop hj hg w 21 16 0 rfl)
set_option maxRecDepth 100000 in
theorem sn_loop {Γ : aG} {l : Launch} {M : Nat → aC} {j : Nat} {set : Int32} (hj : j + 10 ≤ 54) : ∀ (n g : Nat) (r : rT), wf r → g + n = cnt r → Fr Γ l mX0_sendHome 2 [(0, .ref j), (1, .int set), (2, .int (nI g))] [] 54 0 0 (putH M j r) none 54 (putH M j (s_send set n g r)) := by
  intro n
  induction n with
  | zero =>
    intro g r w hn
    have hcl := w.ctl
    refine fr_iload_n (pc := 2) rfl dX0_sendHome_2 ?_
    refine fr_aload_n (pc := 3) rfl dX0_sendHome_3 ?_
    refine fr_get (pc := 4) (ci := 0) (T := TX0) (k0 := 6) rfl hin_X0 (by decide) fl_X0_29 (by omega) putH_0 rfl dX0_sendHome_4 ?_
    refine fr_icmp_ge (pc := 7) 32 (by decide) dX0_sendHome_7 (fun h7 => ?_) (fun h7 => ?_)
    · exact fr_return (pc := 32) rfl rfl dX0_sendHome_32
    · exact absurd (by rw [w.ct, ← hn]; exact Int32.le_refl _) h7
  | succ n ih =>
    intro g r w hn
    have hcl := w.ctl
    refine fr_iload_n (pc := 2) rfl dX0_sendHome_2 ?_
    refine fr_aload_n (pc := 3) rfl dX0_sendHome_3 ?_
    refine fr_get (pc := 4) (ci := 0) (T := TX0) (k0 := 6) rfl hin_X0 (by decide) fl_X0_29 (by omega) putH_0 rfl dX0_sendHome_4 ?_
    refine fr_icmp_ge (pc := 7) 32 (by decide) dX0_sendHome_7 (fun h7 => ?_) (fun h7 => ?_)
    · exact absurd h7 (by rw [w.ct, ← hn]; exact nI_ge (by omega) (by omega))
    · refine fr_iload_n (pc := 10) rfl dX0_sendHome_10 ?_
      refine fr_iload_n (pc := 11) rfl dX0_sendHome_11 ?_
      refine fr_ishr (pc := 12) dX0_sendHome_12 ?_
      refine fr_iconst (pc := 13) (v := 1) rfl dX0_sendHome_13 ?_
      refine fr_iand (pc := 14) dX0_sendHome_14 ?_
      refine fr_iconst (pc := 15) (v := 1) rfl dX0_sendHome_15 ?_
      refine fr_icmp_ne (pc := 16) 26 (by decide) dX0_sendHome_16 (fun h16 => ?_) (fun h16 => ?_)
      · refine fr_iinc (pc := 26) (v := nI (g + 1)) [(2, .int (nI (g + 1))), (0, .ref j), (1, .int set)] rfl (nI_1 g) (by decide) rfl dX0_sendHome_26 ?_
        refine fr_goto (pc := 29) 2 (by decide) dX0_sendHome_29 ?_
        rw [s_send, if_neg h16]
        exact fr_sub [1, 2, 0] rfl (ih (g + 1) r w (by omega))
      · refine fr_aload_n (pc := 19) rfl dX0_sendHome_19 ?_
        refine fr_get (pc := 20) (ci := 0) (T := TX0) (k0 := 12) rfl hin_X0 (by decide) fl_X0_47 (by omega) putH_0 rfl dX0_sendHome_20 ?_
        refine fr_iload_n (pc := 23) rfl dX0_sendHome_23 ?_
        refine fr_iconst (pc := 24) (v := 1) rfl dX0_sendHome_24 ?_
        refine fr_iast (pc := 25) g rfl (by omega) putH_8 (by first | assumption | omega) (by decide) dX0_sendHome_25 ?_
        refine fr_mem putH_a7 ?_
        refine fr_iinc (pc := 26) (v := nI (g + 1)) [(2, .int (nI (g + 1))), (0, .ref j), (1, .int set)] rfl (nI_1 g) (by decide) rfl dX0_sendHome_26 ?_
        refine fr_goto (pc := 29) 2 (by decide) dX0_sendHome_29 ?_
        rw [s_send, if_pos h16]
        have w1 : wf (u2 r 7 g 1) := by
          refine wf_u2 w ?_ ?_ ?_ ?_ ?_ ?_ ?_ <;> (intro h; try omega) <;> (intro h; omega)
        exact fr_sub [1, 2, 0] rfl (ih (g + 1) (u2 r 7 g 1) w1 (by show _ = cnt r; omega))
set_option maxRecDepth 100000 in
theorem c_X0_sendHome {Γ : aG} {l : Launch} {M : Nat → aC} {j : Nat} {r : rT} (hj : j + 10 ≤ 54) {set : Int32} (w : wf r)  : Ev Γ l mX0_sendHome [.ref j, .int set] 54 (putH M j r) none 54 (putH M j (s_send set (cnt r) 0 r)) := by
  refine Ev.of [(0, .ref j), (1, .int set)] (by decide) (Nat.le_of_ble_eq_true rfl) rfl ?_
  refine fr_iconst (pc := 0) (v := 0) rfl dX0_sendHome_0 ?_
  refine fr_istore_n (pc := 1) [(2, .int 0), (0, .ref j), (1, .int set)] (by decide) rfl dX0_sendHome_1 ?_
  exact fr_sub [1, 2, 0] rfl (sn_loop hj (cnt r) 0 r w (by omega))
theorem tr_k {j t : Nat} (ht : t < 6) (c : Nat) (hc : c < 6) (h : nI t = nI c) : j + (3 + c) = j + (3 + t) := by
  have e : t = c := (nI_eq (by omega) (by omega)).mp h
  rw [e]
theorem tr_5 {j t : Nat} (ht : t < 6) (h0 : ¬ nI t = 0) (h1 : ¬ nI t = 1) (h2 : ¬ nI t = 2) (h3 : ¬ nI t = 3) (h4 : ¬ nI t = 4) : j + 8 = j + (3 + t) := by
  rcases (show t = 0 ∨ t = 1 ∨ t = 2 ∨ t = 3 ∨ t = 4 ∨ t = 5 by omega) with rfl | rfl | rfl | rfl | rfl | rfl
  · exact absurd rfl h0
  · exact absurd rfl h1
  · exact absurd rfl h2
  · exact absurd rfl h3
  · exact absurd rfl h4
  · rfl
set_option maxRecDepth 100000 in
theorem c_X0_trait {Γ : aG} {l : Launch} {M : Nat → aC} {j : Nat} {r : rT} (hj : j + 10 ≤ 54) {t : Nat} (ht : t < 6)  : Ev Γ l mX0_trait [.ref j, .int (nI t)] 54 (putH M j r) (some (.ref (j + (3 + t)))) 54 (putH M j r) := by
  refine Ev.of [(0, .ref j), (1, .int (nI t))] (by decide) (Nat.le_of_ble_eq_true rfl) rfl ?_
  refine fr_iload_n (pc := 0) rfl dX0_trait_0 ?_
  by_cases hk1_0 : (nI t) = 0
  · refine fr_tIn (pc := 1) 36 (by rw [hk1_0]; decide) (by rw [hk1_0]; decide) (by rw [hk1_0]; rfl) (by decide) dX0_trait_1 ?_
    refine fr_aload_n (pc := 36) rfl dX0_trait_36 ?_
    refine fr_get (pc := 37) (ci := 0) (T := TX0) (k0 := 7) rfl hin_X0 (by decide) fl_X0_32 (by omega) putH_0 rfl dX0_trait_37 ?_
    exact fr_areturnE (pc := 40) rfl (Or.inr ⟨_, rfl⟩) (tr_k ht 0 (by decide) hk1_0) rfl dX0_trait_40
  by_cases hk1_1 : (nI t) = 1
  · refine fr_tIn (pc := 1) 41 (by rw [hk1_1]; decide) (by rw [hk1_1]; decide) (by rw [hk1_1]; rfl) (by decide) dX0_trait_1 ?_
    refine fr_aload_n (pc := 41) rfl dX0_trait_41 ?_
    refine fr_get (pc := 42) (ci := 0) (T := TX0) (k0 := 8) rfl hin_X0 (by decide) fl_X0_35 (by omega) putH_0 rfl dX0_trait_42 ?_
    exact fr_areturnE (pc := 45) rfl (Or.inr ⟨_, rfl⟩) (tr_k ht 1 (by decide) hk1_1) rfl dX0_trait_45
  by_cases hk1_2 : (nI t) = 2
  · refine fr_tIn (pc := 1) 46 (by rw [hk1_2]; decide) (by rw [hk1_2]; decide) (by rw [hk1_2]; rfl) (by decide) dX0_trait_1 ?_
    refine fr_aload_n (pc := 46) rfl dX0_trait_46 ?_
    refine fr_get (pc := 47) (ci := 0) (T := TX0) (k0 := 9) rfl hin_X0 (by decide) fl_X0_38 (by omega) putH_0 rfl dX0_trait_47 ?_
    exact fr_areturnE (pc := 50) rfl (Or.inr ⟨_, rfl⟩) (tr_k ht 2 (by decide) hk1_2) rfl dX0_trait_50
  by_cases hk1_3 : (nI t) = 3
  · refine fr_tIn (pc := 1) 51 (by rw [hk1_3]; decide) (by rw [hk1_3]; decide) (by rw [hk1_3]; rfl) (by decide) dX0_trait_1 ?_
    refine fr_aload_n (pc := 51) rfl dX0_trait_51 ?_
    refine fr_get (pc := 52) (ci := 0) (T := TX0) (k0 := 10) rfl hin_X0 (by decide) fl_X0_41 (by omega) putH_0 rfl dX0_trait_52 ?_
    exact fr_areturnE (pc := 55) rfl (Or.inr ⟨_, rfl⟩) (tr_k ht 3 (by decide) hk1_3) rfl dX0_trait_55
  by_cases hk1_4 : (nI t) = 4
  · refine fr_tIn (pc := 1) 56 (by rw [hk1_4]; decide) (by rw [hk1_4]; decide) (by rw [hk1_4]; rfl) (by decide) dX0_trait_1 ?_
    refine fr_aload_n (pc := 56) rfl dX0_trait_56 ?_
    refine fr_get (pc := 57) (ci := 0) (T := TX0) (k0 := 11) rfl hin_X0 (by decide) fl_X0_44 (by omega) putH_0 rfl dX0_trait_57 ?_
    exact fr_areturnE (pc := 60) rfl (Or.inr ⟨_, rfl⟩) (tr_k ht 4 (by decide) hk1_4) rfl dX0_trait_60
  refine fr_tOut (pc := 1) 61 (sw_0_4 hk1_0 hk1_1 hk1_2 hk1_3 hk1_4) (by decide) dX0_trait_1 ?_
  refine fr_aload_n (pc := 61) rfl dX0_trait_61 ?_
  refine fr_get (pc := 62) (ci := 0) (T := TX0) (k0 := 12) rfl hin_X0 (by decide) fl_X0_47 (by omega) putH_0 rfl dX0_trait_62 ?_
  exact fr_areturnE (pc := 65) rfl (Or.inr ⟨_, rfl⟩) (tr_5 ht hk1_0 hk1_1 hk1_2 hk1_3 hk1_4) rfl dX0_trait_65
set_option maxRecDepth 100000 in
theorem c_X0_add {Γ : aG} {l : Launch} {M : Nat → aC} {j : Nat} {r : rT} (hj : j + 10 ≤ 54) {k c : Int32} (w : wf r) (hc : cnt r < 8)  : Ev Γ l mX0_add [.ref j, .int k, .int c] 54 (putH M j r) (some (.int (nI (cnt r)))) 54 (putH M j (s_add r k c)) := by
  refine Ev.of [(0, .ref j), (1, .int k), (2, .int c)] (by decide) (Nat.le_of_ble_eq_true rfl) rfl ?_
  refine fr_aload_n (pc := 0) rfl dX0_add_0 ?_
  refine fr_callV0 (pc := 1) (ci := 0) (T := TX0) (N := 15) [] [] (c_X0_isFull (by omega)) gc_X0_68 rfl rfl ⟨rfl, rfl, by decide, by decide⟩ (Nat.le_of_ble_eq_true rfl) rfl (by omega) putH_0 ⟨by decide, by decide⟩ dX0_add_1 ?_
  refine fr_if_eq (pc := 4) 9 (by decide) dX0_add_4 (fun h4 => ?_) (fun h4 => ?_)
  · have g4 := bI_0.mp h4
    refine fr_aload_n (pc := 9) rfl dX0_add_9 ?_
    refine fr_get (pc := 10) (ci := 0) (T := TX0) (k0 := 7) rfl hin_X0 (by decide) fl_X0_32 (by omega) putH_0 rfl dX0_add_10 ?_
    refine fr_aload_n (pc := 13) rfl dX0_add_13 ?_
    refine fr_get (pc := 14) (ci := 0) (T := TX0) (k0 := 6) rfl hin_X0 (by decide) fl_X0_29 (by omega) putH_0 rfl dX0_add_14 ?_
    refine fr_iload_n (pc := 17) rfl dX0_add_17 ?_
    refine fr_iast (pc := 18) (cnt r) w.ct (by omega) putH_3 hc (by decide) dX0_add_18 ?_
    refine fr_mem putH_a2 ?_
    refine fr_aload_n (pc := 19) rfl dX0_add_19 ?_
    refine fr_get (pc := 20) (ci := 0) (T := TX0) (k0 := 8) rfl hin_X0 (by decide) fl_X0_35 (by omega) putH_0 rfl dX0_add_20 ?_
    refine fr_aload_n (pc := 23) rfl dX0_add_23 ?_
    refine fr_get (pc := 24) (ci := 0) (T := TX0) (k0 := 6) rfl hin_X0 (by decide) fl_X0_29 (by omega) putH_0 rfl dX0_add_24 ?_
    refine fr_iload_n (pc := 27) rfl dX0_add_27 ?_
    refine fr_iast (pc := 28) (cnt r) w.ct (by omega) putH_4 hc (by decide) dX0_add_28 ?_
    refine fr_mem putH_a3 ?_
    refine fr_aload_n (pc := 29) rfl dX0_add_29 ?_
    refine fr_get (pc := 30) (ci := 0) (T := TX0) (k0 := 9) rfl hin_X0 (by decide) fl_X0_38 (by omega) putH_0 rfl dX0_add_30 ?_
    refine fr_aload_n (pc := 33) rfl dX0_add_33 ?_
    refine fr_get (pc := 34) (ci := 0) (T := TX0) (k0 := 6) rfl hin_X0 (by decide) fl_X0_29 (by omega) putH_0 rfl dX0_add_34 ?_
    refine fr_bipush (pc := 37) (v := 10) rfl dX0_add_37 ?_
    refine fr_iast (pc := 39) (cnt r) w.ct (by omega) putH_5 hc (by decide) dX0_add_39 ?_
    refine fr_mem putH_a4 ?_
    refine fr_aload_n (pc := 40) rfl dX0_add_40 ?_
    refine fr_get (pc := 41) (ci := 0) (T := TX0) (k0 := 10) rfl hin_X0 (by decide) fl_X0_41 (by omega) putH_0 rfl dX0_add_41 ?_
    refine fr_aload_n (pc := 44) rfl dX0_add_44 ?_
    refine fr_get (pc := 45) (ci := 0) (T := TX0) (k0 := 6) rfl hin_X0 (by decide) fl_X0_29 (by omega) putH_0 rfl dX0_add_45 ?_
    refine fr_iload_n (pc := 48) rfl dX0_add_48 ?_
    refine fr_iast (pc := 49) (cnt r) w.ct (by omega) putH_6 hc (by decide) dX0_add_49 ?_
    refine fr_mem putH_a5 ?_
    refine fr_aload_n (pc := 50) rfl dX0_add_50 ?_
    refine fr_get (pc := 51) (ci := 0) (T := TX0) (k0 := 11) rfl hin_X0 (by decide) fl_X0_44 (by omega) putH_0 rfl dX0_add_51 ?_
    refine fr_aload_n (pc := 54) rfl dX0_add_54 ?_
    refine fr_get (pc := 55) (ci := 0) (T := TX0) (k0 := 6) rfl hin_X0 (by decide) fl_X0_29 (by omega) putH_0 rfl dX0_add_55 ?_
    refine fr_iconst (pc := 58) (v := 0) rfl dX0_add_58 ?_
    refine fr_iast (pc := 59) (cnt r) w.ct (by omega) putH_7 hc (by decide) dX0_add_59 ?_
    refine fr_mem putH_a6 ?_
    refine fr_aload_n (pc := 60) rfl dX0_add_60 ?_
    refine fr_get (pc := 61) (ci := 0) (T := TX0) (k0 := 12) rfl hin_X0 (by decide) fl_X0_47 (by omega) putH_0 rfl dX0_add_61 ?_
    refine fr_aload_n (pc := 64) rfl dX0_add_64 ?_
    refine fr_get (pc := 65) (ci := 0) (T := TX0) (k0 := 6) rfl hin_X0 (by decide) fl_X0_29 (by omega) putH_0 rfl dX0_add_65 ?_
    refine fr_iconst (pc := 68) (v := 0) rfl dX0_add_68 ?_
    refine fr_iast (pc := 69) (cnt r) w.ct (by omega) putH_8 hc (by decide) dX0_add_69 ?_
    refine fr_mem putH_a7 ?_
    refine fr_aload_n (pc := 70) rfl dX0_add_70 ?_
    refine fr_dup (pc := 71) rfl dX0_add_71 ?_
    refine fr_get (pc := 72) (ci := 0) (T := TX0) (k0 := 6) rfl hin_X0 (by decide) fl_X0_29 (by omega) putH_0 rfl dX0_add_72 ?_
    refine fr_iconst (pc := 75) (v := 1) rfl dX0_add_75 ?_
    refine fr_iadd (pc := 76) dX0_add_76 ?_
    refine fr_put (pc := 77) (ci := 0) (T := TX0) (k0 := 6) (ty := .int) tyX0 tyX0_ok nmX0 rfl hin_X0 (by decide) fl_X0_29 rfl (by decide +kernel) rfl rfl (Nat.le_of_ble_eq_true rfl) (by omega) putH_0 dX0_add_77 ?_
    refine fr_mem putH_f1 ?_
    refine fr_aload_n (pc := 80) rfl dX0_add_80 ?_
    refine fr_get (pc := 81) (ci := 0) (T := TX0) (k0 := 6) rfl hin_X0 (by decide) fl_X0_29 (by omega) putH_0 rfl dX0_add_81 ?_
    refine fr_iconst (pc := 84) (v := 1) rfl dX0_add_84 ?_
    refine fr_isub (pc := 85) dX0_add_85 ?_
    exact fr_ireturn (pc := 86) rfl (show r 9 1 + 1 - 1 = _ from by rw [w.ct, nI_1, nI_pred]) rfl rfl dX0_add_86
  · have g4 := bI_n0 h4
    exact absurd (bI_f (by rw [w.ct]; exact fun q => q (nI_lt (b := 8) hc (by omega)))) h4
set_option maxRecDepth 100000 in
theorem c_X0_become {Γ : aG} {l : Launch} {M : Nat → aC} {j j2 : Nat} {r r2 : rT} (hj : j + 10 ≤ 54) (hj2 : j2 + 10 ≤ 54) (hd : j2 + 10 ≤ j ∨ j + 10 ≤ j2)  : Ev Γ l mX0_become [.ref j, .ref j2] 54 (putH (putH M j2 r2) j r) none 54 (putH (putH M j2 r2) j r2) := by
  refine Ev.of [(0, .ref j), (1, .ref j2)] (by decide) (Nat.le_of_ble_eq_true rfl) rfl ?_
  refine fr_aload_n (pc := 0) rfl dX0_become_0 ?_
  refine fr_get (pc := 1) (ci := 0) (T := TX0) (k0 := 0) rfl hin_X0 (by decide) fl_X0_9 (by omega) (putH_o (k := 0) hd (by decide)) rfl dX0_become_1 ?_
  refine fr_iconst (pc := 4) (v := 0) rfl dX0_become_4 ?_
  refine fr_aload_n (pc := 5) rfl dX0_become_5 ?_
  refine fr_get (pc := 6) (ci := 0) (T := TX0) (k0 := 0) rfl hin_X0 (by decide) fl_X0_9 (by omega) putH_0 rfl dX0_become_6 ?_
  refine fr_iconst (pc := 9) (v := 0) rfl dX0_become_9 ?_
  refine fr_bipush (pc := 10) (v := 16) rfl dX0_become_10 ?_
  refine fr_acopy (pc := 12) (sp := 0) (dp := 0) (q := 16) gm_X0_62 wAC_n wAC_s wAC_i ⟨by decide, by decide⟩ (Nat.le_of_ble_eq_true rfl) (by omega) (by omega) (putH_o (k := 1) hd (by decide)) putH_1 (by decide) (by decide) (by decide) (by decide) dX0_become_12 ?_
  refine fr_ext (i := (j + 1)) (r2 0) a_us (fun k hk => (pk_cpy_in (Nat.zero_le _) (by omega)).trans (congrArg _ (by omega))) ?_
  refine fr_mem (a_upup.trans putH_r0) ?_
  refine fr_aload_n (pc := 15) rfl dX0_become_15 ?_
  refine fr_get (pc := 16) (ci := 0) (T := TX0) (k0 := 1) rfl hin_X0 (by decide) fl_X0_13 (by omega) (putH_o (k := 0) hd (by decide)) rfl dX0_become_16 ?_
  refine fr_iconst (pc := 19) (v := 0) rfl dX0_become_19 ?_
  refine fr_aload_n (pc := 20) rfl dX0_become_20 ?_
  refine fr_get (pc := 21) (ci := 0) (T := TX0) (k0 := 1) rfl hin_X0 (by decide) fl_X0_13 (by omega) putH_0 rfl dX0_become_21 ?_
  refine fr_iconst (pc := 24) (v := 0) rfl dX0_become_24 ?_
  refine fr_bipush (pc := 25) (v := 6) rfl dX0_become_25 ?_
  refine fr_acopy (pc := 27) (sp := 0) (dp := 0) (q := 6) gm_X0_62 wAC_n wAC_s wAC_i ⟨by decide, by decide⟩ (Nat.le_of_ble_eq_true rfl) (by omega) (by omega) (putH_o (k := 2) hd (by decide)) putH_2 (by decide) (by decide) (by decide) (by decide) dX0_become_27 ?_
  refine fr_ext (i := (j + 2)) (r2 1) a_us (fun k hk => (pk_cpy_in (Nat.zero_le _) (by omega)).trans (congrArg _ (by omega))) ?_
  refine fr_mem (a_upup.trans putH_r1) ?_
  refine fr_aload_n (pc := 30) rfl dX0_become_30 ?_
  refine fr_aload_n (pc := 31) rfl dX0_become_31 ?_
  refine fr_get (pc := 32) (ci := 0) (T := TX0) (k0 := 2) rfl hin_X0 (by decide) fl_X0_16 (by omega) (putH_o (k := 0) hd (by decide)) rfl dX0_become_32 ?_
  refine fr_put (pc := 35) (ci := 0) (T := TX0) (k0 := 2) (ty := .int) tyX0 tyX0_ok nmX0 rfl hin_X0 (by decide) fl_X0_16 rfl (by decide +kernel) rfl rfl (Nat.le_of_ble_eq_true rfl) (by omega) putH_0 dX0_become_35 ?_
  refine fr_mem putH_f3 ?_
  refine fr_aload_n (pc := 38) rfl dX0_become_38 ?_
  refine fr_aload_n (pc := 39) rfl dX0_become_39 ?_
  refine fr_get (pc := 40) (ci := 0) (T := TX0) (k0 := 3) rfl hin_X0 (by decide) fl_X0_20 (by omega) (putH_o (k := 0) hd (by decide)) rfl dX0_become_40 ?_
  refine fr_put (pc := 43) (ci := 0) (T := TX0) (k0 := 3) (ty := .int) tyX0 tyX0_ok nmX0 rfl hin_X0 (by decide) fl_X0_20 rfl (by decide +kernel) rfl rfl (Nat.le_of_ble_eq_true rfl) (by omega) putH_0 dX0_become_43 ?_
  refine fr_mem putH_f4 ?_
  refine fr_aload_n (pc := 46) rfl dX0_become_46 ?_
  refine fr_aload_n (pc := 47) rfl dX0_become_47 ?_
  refine fr_get (pc := 48) (ci := 0) (T := TX0) (k0 := 4) rfl hin_X0 (by decide) fl_X0_23 (by omega) (putH_o (k := 0) hd (by decide)) rfl dX0_become_48 ?_
  refine fr_put (pc := 51) (ci := 0) (T := TX0) (k0 := 4) (ty := .int) tyX0 tyX0_ok nmX0 rfl hin_X0 (by decide) fl_X0_23 rfl (by decide +kernel) rfl rfl (Nat.le_of_ble_eq_true rfl) (by omega) putH_0 dX0_become_51 ?_
  refine fr_mem putH_f5 ?_
  refine fr_aload_n (pc := 54) rfl dX0_become_54 ?_
  refine fr_aload_n (pc := 55) rfl dX0_become_55 ?_
  refine fr_get (pc := 56) (ci := 0) (T := TX0) (k0 := 5) rfl hin_X0 (by decide) fl_X0_26 (by omega) (putH_o (k := 0) hd (by decide)) rfl dX0_become_56 ?_
  refine fr_put (pc := 59) (ci := 0) (T := TX0) (k0 := 5) (ty := .int) tyX0 tyX0_ok nmX0 rfl hin_X0 (by decide) fl_X0_26 rfl (by decide +kernel) rfl rfl (Nat.le_of_ble_eq_true rfl) (by omega) putH_0 dX0_become_59 ?_
  refine fr_mem putH_f0 ?_
  refine fr_aload_n (pc := 62) rfl dX0_become_62 ?_
  refine fr_aload_n (pc := 63) rfl dX0_become_63 ?_
  refine fr_get (pc := 64) (ci := 0) (T := TX0) (k0 := 6) rfl hin_X0 (by decide) fl_X0_29 (by omega) (putH_o (k := 0) hd (by decide)) rfl dX0_become_64 ?_
  refine fr_put (pc := 67) (ci := 0) (T := TX0) (k0 := 6) (ty := .int) tyX0 tyX0_ok nmX0 rfl hin_X0 (by decide) fl_X0_29 rfl (by decide +kernel) rfl rfl (Nat.le_of_ble_eq_true rfl) (by omega) putH_0 dX0_become_67 ?_
  refine fr_mem putH_f1 ?_
  refine fr_aload_n (pc := 70) rfl dX0_become_70 ?_
  refine fr_get (pc := 71) (ci := 0) (T := TX0) (k0 := 7) rfl hin_X0 (by decide) fl_X0_32 (by omega) (putH_o (k := 0) hd (by decide)) rfl dX0_become_71 ?_
  refine fr_iconst (pc := 74) (v := 0) rfl dX0_become_74 ?_
  refine fr_aload_n (pc := 75) rfl dX0_become_75 ?_
  refine fr_get (pc := 76) (ci := 0) (T := TX0) (k0 := 7) rfl hin_X0 (by decide) fl_X0_32 (by omega) putH_0 rfl dX0_become_76 ?_
  refine fr_iconst (pc := 79) (v := 0) rfl dX0_become_79 ?_
  refine fr_bipush (pc := 80) (v := 8) rfl dX0_become_80 ?_
  refine fr_acopy (pc := 82) (sp := 0) (dp := 0) (q := 8) gm_X0_62 wAC_n wAC_s wAC_i ⟨by decide, by decide⟩ (Nat.le_of_ble_eq_true rfl) (by omega) (by omega) (putH_o (k := 3) hd (by decide)) putH_3 (by decide) (by decide) (by decide) (by decide) dX0_become_82 ?_
  refine fr_ext (i := (j + 3)) (r2 2) a_us (fun k hk => (pk_cpy_in (Nat.zero_le _) (by omega)).trans (congrArg _ (by omega))) ?_
  refine fr_mem (a_upup.trans putH_r2) ?_
  refine fr_aload_n (pc := 85) rfl dX0_become_85 ?_
  refine fr_get (pc := 86) (ci := 0) (T := TX0) (k0 := 8) rfl hin_X0 (by decide) fl_X0_35 (by omega) (putH_o (k := 0) hd (by decide)) rfl dX0_become_86 ?_
  refine fr_iconst (pc := 89) (v := 0) rfl dX0_become_89 ?_
  refine fr_aload_n (pc := 90) rfl dX0_become_90 ?_
  refine fr_get (pc := 91) (ci := 0) (T := TX0) (k0 := 8) rfl hin_X0 (by decide) fl_X0_35 (by omega) putH_0 rfl dX0_become_91 ?_
  refine fr_iconst (pc := 94) (v := 0) rfl dX0_become_94 ?_
  refine fr_bipush (pc := 95) (v := 8) rfl dX0_become_95 ?_
  refine fr_acopy (pc := 97) (sp := 0) (dp := 0) (q := 8) gm_X0_62 wAC_n wAC_s wAC_i ⟨by decide, by decide⟩ (Nat.le_of_ble_eq_true rfl) (by omega) (by omega) (putH_o (k := 4) hd (by decide)) putH_4 (by decide) (by decide) (by decide) (by decide) dX0_become_97 ?_
  refine fr_ext (i := (j + 4)) (r2 3) a_us (fun k hk => (pk_cpy_in (Nat.zero_le _) (by omega)).trans (congrArg _ (by omega))) ?_
  refine fr_mem (a_upup.trans putH_r3) ?_
  refine fr_aload_n (pc := 100) rfl dX0_become_100 ?_
  refine fr_get (pc := 101) (ci := 0) (T := TX0) (k0 := 9) rfl hin_X0 (by decide) fl_X0_38 (by omega) (putH_o (k := 0) hd (by decide)) rfl dX0_become_101 ?_
  refine fr_iconst (pc := 104) (v := 0) rfl dX0_become_104 ?_
  refine fr_aload_n (pc := 105) rfl dX0_become_105 ?_
  refine fr_get (pc := 106) (ci := 0) (T := TX0) (k0 := 9) rfl hin_X0 (by decide) fl_X0_38 (by omega) putH_0 rfl dX0_become_106 ?_
  refine fr_iconst (pc := 109) (v := 0) rfl dX0_become_109 ?_
  refine fr_bipush (pc := 110) (v := 8) rfl dX0_become_110 ?_
  refine fr_acopy (pc := 112) (sp := 0) (dp := 0) (q := 8) gm_X0_62 wAC_n wAC_s wAC_i ⟨by decide, by decide⟩ (Nat.le_of_ble_eq_true rfl) (by omega) (by omega) (putH_o (k := 5) hd (by decide)) putH_5 (by decide) (by decide) (by decide) (by decide) dX0_become_112 ?_
  refine fr_ext (i := (j + 5)) (r2 4) a_us (fun k hk => (pk_cpy_in (Nat.zero_le _) (by omega)).trans (congrArg _ (by omega))) ?_
  refine fr_mem (a_upup.trans putH_r4) ?_
  refine fr_aload_n (pc := 115) rfl dX0_become_115 ?_
  refine fr_get (pc := 116) (ci := 0) (T := TX0) (k0 := 10) rfl hin_X0 (by decide) fl_X0_41 (by omega) (putH_o (k := 0) hd (by decide)) rfl dX0_become_116 ?_
  refine fr_iconst (pc := 119) (v := 0) rfl dX0_become_119 ?_
  refine fr_aload_n (pc := 120) rfl dX0_become_120 ?_
  refine fr_get (pc := 121) (ci := 0) (T := TX0) (k0 := 10) rfl hin_X0 (by decide) fl_X0_41 (by omega) putH_0 rfl dX0_become_121 ?_
  refine fr_iconst (pc := 124) (v := 0) rfl dX0_become_124 ?_
  refine fr_bipush (pc := 125) (v := 8) rfl dX0_become_125 ?_
  refine fr_acopy (pc := 127) (sp := 0) (dp := 0) (q := 8) gm_X0_62 wAC_n wAC_s wAC_i ⟨by decide, by decide⟩ (Nat.le_of_ble_eq_true rfl) (by omega) (by omega) (putH_o (k := 6) hd (by decide)) putH_6 (by decide) (by decide) (by decide) (by decide) dX0_become_127 ?_
  refine fr_ext (i := (j + 6)) (r2 5) a_us (fun k hk => (pk_cpy_in (Nat.zero_le _) (by omega)).trans (congrArg _ (by omega))) ?_
  refine fr_mem (a_upup.trans putH_r5) ?_
  refine fr_aload_n (pc := 130) rfl dX0_become_130 ?_
  refine fr_get (pc := 131) (ci := 0) (T := TX0) (k0 := 11) rfl hin_X0 (by decide) fl_X0_44 (by omega) (putH_o (k := 0) hd (by decide)) rfl dX0_become_131 ?_
  refine fr_iconst (pc := 134) (v := 0) rfl dX0_become_134 ?_
  refine fr_aload_n (pc := 135) rfl dX0_become_135 ?_
  refine fr_get (pc := 136) (ci := 0) (T := TX0) (k0 := 11) rfl hin_X0 (by decide) fl_X0_44 (by omega) putH_0 rfl dX0_become_136 ?_
  refine fr_iconst (pc := 139) (v := 0) rfl dX0_become_139 ?_
  refine fr_bipush (pc := 140) (v := 8) rfl dX0_become_140 ?_
  refine fr_acopy (pc := 142) (sp := 0) (dp := 0) (q := 8) gm_X0_62 wAC_n wAC_s wAC_i ⟨by decide, by decide⟩ (Nat.le_of_ble_eq_true rfl) (by omega) (by omega) (putH_o (k := 7) hd (by decide)) putH_7 (by decide) (by decide) (by decide) (by decide) dX0_become_142 ?_
  refine fr_ext (i := (j + 7)) (r2 6) a_us (fun k hk => (pk_cpy_in (Nat.zero_le _) (by omega)).trans (congrArg _ (by omega))) ?_
  refine fr_mem (a_upup.trans putH_r6) ?_
  refine fr_aload_n (pc := 145) rfl dX0_become_145 ?_
  refine fr_get (pc := 146) (ci := 0) (T := TX0) (k0 := 12) rfl hin_X0 (by decide) fl_X0_47 (by omega) (putH_o (k := 0) hd (by decide)) rfl dX0_become_146 ?_
  refine fr_iconst (pc := 149) (v := 0) rfl dX0_become_149 ?_
  refine fr_aload_n (pc := 150) rfl dX0_become_150 ?_
  refine fr_get (pc := 151) (ci := 0) (T := TX0) (k0 := 12) rfl hin_X0 (by decide) fl_X0_47 (by omega) putH_0 rfl dX0_become_151 ?_
  refine fr_iconst (pc := 154) (v := 0) rfl dX0_become_154 ?_
  refine fr_bipush (pc := 155) (v := 8) rfl dX0_become_155 ?_
  refine fr_acopy (pc := 157) (sp := 0) (dp := 0) (q := 8) gm_X0_62 wAC_n wAC_s wAC_i ⟨by decide, by decide⟩ (Nat.le_of_ble_eq_true rfl) (by omega) (by omega) (putH_o (k := 8) hd (by decide)) putH_8 (by decide) (by decide) (by decide) (by decide) dX0_become_157 ?_
  refine fr_ext (i := (j + 8)) (r2 7) a_us (fun k hk => (pk_cpy_in (Nat.zero_le _) (by omega)).trans (congrArg _ (by omega))) ?_
  refine fr_mem (a_upup.trans putH_r7) ?_
  refine fr_aload_n (pc := 160) rfl dX0_become_160 ?_
  refine fr_aload_n (pc := 161) rfl dX0_become_161 ?_
  refine fr_get (pc := 162) (ci := 0) (T := TX0) (k0 := 13) rfl hin_X0 (by decide) fl_X0_50 (by omega) (putH_o (k := 0) hd (by decide)) rfl dX0_become_162 ?_
  refine fr_put (pc := 165) (ci := 0) (T := TX0) (k0 := 13) (ty := .int) tyX0 tyX0_ok nmX0 rfl hin_X0 (by decide) fl_X0_50 rfl (by decide +kernel) rfl rfl (Nat.le_of_ble_eq_true rfl) (by omega) putH_0 dX0_become_165 ?_
  refine fr_mem putH_f2 ?_
  refine fr_aload_n (pc := 168) rfl dX0_become_168 ?_
  refine fr_get (pc := 169) (ci := 0) (T := TX0) (k0 := 14) rfl hin_X0 (by decide) fl_X0_53 (by omega) (putH_o (k := 0) hd (by decide)) rfl dX0_become_169 ?_
  refine fr_iconst (pc := 172) (v := 0) rfl dX0_become_172 ?_
  refine fr_aload_n (pc := 173) rfl dX0_become_173 ?_
  refine fr_get (pc := 174) (ci := 0) (T := TX0) (k0 := 14) rfl hin_X0 (by decide) fl_X0_53 (by omega) putH_0 rfl dX0_become_174 ?_
  refine fr_iconst (pc := 177) (v := 0) rfl dX0_become_177 ?_
  refine fr_bipush (pc := 178) (v := 10) rfl dX0_become_178 ?_
  refine fr_acopy (pc := 180) (sp := 0) (dp := 0) (q := 10) gm_X0_62 wAC_n wAC_s wAC_i ⟨by decide, by decide⟩ (Nat.le_of_ble_eq_true rfl) (by omega) (by omega) (putH_o (k := 9) hd (by decide)) putH_9 (by decide) (by decide) (by decide) (by decide) dX0_become_180 ?_
  refine fr_ext (i := (j + 9)) (r2 8) a_us (fun k hk => (pk_cpy_in (Nat.zero_le _) (by omega)).trans (congrArg _ (by omega))) ?_
  refine fr_mem (a_upup.trans putH_r8) ?_
  exact fr_return (pc := 183) rfl (by unfold putH; congr 1) dX0_become_183
