set_option maxRecDepth 100000 in
theorem c_X4_within {Γ : aG} {l : Launch} {M : Nat → aC} {v a b : Int32} : Ev Γ l mX4_within [.int v, .int a, .int b] 54 M (some (.int (bI (wi v a b = true)))) 54 M := by
  refine Ev.of [(0, .int v), (1, .int a), (2, .int b)] (by decide) (Nat.le_of_ble_eq_true rfl) rfl ?_
  refine fr_iload_n (pc := 0) rfl dX4_within_0 ?_
  refine fr_iload_n (pc := 1) rfl dX4_within_1 ?_
  refine fr_icmp_lt (pc := 2) 14 (by decide) dX4_within_2 (fun h2 => ?_) (fun h2 => ?_)
  · refine fr_iconst (pc := 14) (v := 0) rfl dX4_within_14 ?_
    exact fr_ireturn (pc := 15) rfl (by unfold wi; first | exact (bI_f (by simp only [decide_eq_true_eq]; exact fun q => q.1 h2)).symm | exact (bI_f (by simp only [decide_eq_true_eq]; exact fun q => q.2 h7)).symm | exact (bI_t (by simp only [decide_eq_true_eq]; exact ⟨h2, h7⟩)).symm) rfl rfl dX4_within_15
  · refine fr_iload_n (pc := 5) rfl dX4_within_5 ?_
    refine fr_iload_n (pc := 6) rfl dX4_within_6 ?_
    refine fr_icmp_gt (pc := 7) 14 (by decide) dX4_within_7 (fun h7 => ?_) (fun h7 => ?_)
    · refine fr_iconst (pc := 14) (v := 0) rfl dX4_within_14 ?_
      exact fr_ireturn (pc := 15) rfl (by unfold wi; first | exact (bI_f (by simp only [decide_eq_true_eq]; exact fun q => q.1 h2)).symm | exact (bI_f (by simp only [decide_eq_true_eq]; exact fun q => q.2 h7)).symm | exact (bI_t (by simp only [decide_eq_true_eq]; exact ⟨h2, h7⟩)).symm) rfl rfl dX4_within_15
    · refine fr_iconst (pc := 10) (v := 1) rfl dX4_within_10 ?_
      refine fr_goto (pc := 11) 15 (by decide) dX4_within_11 ?_
      exact fr_ireturn (pc := 15) rfl (by unfold wi; first | exact (bI_f (by simp only [decide_eq_true_eq]; exact fun q => q.1 h2)).symm | exact (bI_f (by simp only [decide_eq_true_eq]; exact fun q => q.2 h7)).symm | exact (bI_t (by simp only [decide_eq_true_eq]; exact ⟨h2, h7⟩)).symm) rfl rfl dX4_within_15
set_option maxRecDepth 100000 in
theorem c_X4_isCell {Γ : aG} {l : Launch} {M : Nat → aC} {v : Int32} : Ev Γ l mX4_isCell [.int v] 54 M (some (.int (bI (wi v 0 15 = true)))) 54 M := by
  refine Ev.of [(0, .int v)] (by decide) (Nat.le_of_ble_eq_true rfl) rfl ?_
  refine fr_iload_n (pc := 0) rfl dX4_isCell_0 ?_
  refine fr_iconst (pc := 1) (v := 0) rfl dX4_isCell_1 ?_
  refine fr_bipush (pc := 2) (v := 15) rfl dX4_isCell_2 ?_
  refine fr_callS0 (pc := 4) [.int v, .int 0, .int 15] [] (c_X4_within) gc_X4_44 rfl rfl ⟨rfl, rfl, by decide, by decide⟩ (Nat.le_of_ble_eq_true rfl) ⟨by decide, by decide⟩ dX4_isCell_4 ?_
  exact fr_ireturn (pc := 7) rfl rfl rfl bI_nar dX4_isCell_7
set_option maxRecDepth 100000 in
theorem c_X4_isListed {Γ : aG} {l : Launch} {M : Nat → aC} {v : Int32} : Ev Γ l mX4_isListed [.int v] 54 M (some (.int (bI (wi v 0 5 = true)))) 54 M := by
  refine Ev.of [(0, .int v)] (by decide) (Nat.le_of_ble_eq_true rfl) rfl ?_
  refine fr_iload_n (pc := 0) rfl dX4_isListed_0 ?_
  refine fr_iconst (pc := 1) (v := 0) rfl dX4_isListed_1 ?_
  refine fr_iconst (pc := 2) (v := 5) rfl dX4_isListed_2 ?_
  refine fr_callS0 (pc := 3) [.int v, .int 0, .int 5] [] (c_X4_within) gc_X4_44 rfl rfl ⟨rfl, rfl, by decide, by decide⟩ (Nat.le_of_ble_eq_true rfl) ⟨by decide, by decide⟩ dX4_isListed_3 ?_
  exact fr_ireturn (pc := 6) rfl rfl rfl bI_nar dX4_isListed_6
set_option maxRecDepth 100000 in
theorem c_X4_isMeasure {Γ : aG} {l : Launch} {M : Nat → aC} {v : Int32} : Ev Γ l mX4_isMeasure [.int v] 54 M (some (.int (bI (wi v 16 36 = true)))) 54 M := by
  refine Ev.of [(0, .int v)] (by decide) (Nat.le_of_ble_eq_true rfl) rfl ?_
  refine fr_iload_n (pc := 0) rfl dX4_isMeasure_0 ?_
  refine fr_bipush (pc := 1) (v := 16) rfl dX4_isMeasure_1 ?_
  refine fr_bipush (pc := 3) (v := 36) rfl dX4_isMeasure_3 ?_
  refine fr_callS0 (pc := 5) [.int v, .int 16, .int 36] [] (c_X4_within) gc_X4_44 rfl rfl ⟨rfl, rfl, by decide, by decide⟩ (Nat.le_of_ble_eq_true rfl) ⟨by decide, by decide⟩ dX4_isMeasure_5 ?_
  exact fr_ireturn (pc := 8) rfl rfl rfl bI_nar dX4_isMeasure_8
set_option maxRecDepth 100000 in
theorem c_X4_isKind {Γ : aG} {l : Launch} {M : Nat → aC} {v : Int32} : Ev Γ l mX4_isKind [.int v] 54 M (some (.int (bI (wi v 0 6 = true)))) 54 M := by
  refine Ev.of [(0, .int v)] (by decide) (Nat.le_of_ble_eq_true rfl) rfl ?_
  refine fr_iload_n (pc := 0) rfl dX4_isKind_0 ?_
  refine fr_iconst (pc := 1) (v := 0) rfl dX4_isKind_1 ?_
  refine fr_bipush (pc := 2) (v := 6) rfl dX4_isKind_2 ?_
  refine fr_callS0 (pc := 4) [.int v, .int 0, .int 6] [] (c_X4_within) gc_X4_44 rfl rfl ⟨rfl, rfl, by decide, by decide⟩ (Nat.le_of_ble_eq_true rfl) ⟨by decide, by decide⟩ dX4_isKind_4 ?_
  exact fr_ireturn (pc := 7) rfl rfl rfl bI_nar dX4_isKind_7
set_option maxRecDepth 100000 in
theorem c_X4_isSpot {Γ : aG} {l : Launch} {M : Nat → aC} {v : Int32} : Ev Γ l mX4_isSpot [.int v] 54 M (some (.int (bI (wi v 0 9 = true)))) 54 M := by
  refine Ev.of [(0, .int v)] (by decide) (Nat.le_of_ble_eq_true rfl) rfl ?_
  refine fr_iload_n (pc := 0) rfl dX4_isSpot_0 ?_
  refine fr_iconst (pc := 1) (v := 0) rfl dX4_isSpot_1 ?_
  refine fr_bipush (pc := 2) (v := 9) rfl dX4_isSpot_2 ?_
  refine fr_callS0 (pc := 4) [.int v, .int 0, .int 9] [] (c_X4_within) gc_X4_44 rfl rfl ⟨rfl, rfl, by decide, by decide⟩ (Nat.le_of_ble_eq_true rfl) ⟨by decide, by decide⟩ dX4_isSpot_4 ?_
  exact fr_ireturn (pc := 7) rfl rfl rfl bI_nar dX4_isSpot_7
set_option maxRecDepth 100000 in
theorem c_X4_found {Γ : aG} {l : Launch} {M : Nat → aC} {r rk t : rT} {ik : Int32} {S : sT} {T : tT} {fi : Nat → Int32} {k : Nat} (hk : k < 7)  : Ev Γ l mX4_found [.ref 0, .int (nI k)] 54 (xM M r rk t ik S T fi) (some (.int (-1000001 - nI k))) 54 (xM M r rk t ik S T (upd fi k (fi k + 1))) := by
  refine Ev.of [(0, .ref 0), (1, .int (nI k))] (by decide) (Nat.le_of_ble_eq_true rfl) rfl ?_
  refine fr_iload_n (pc := 0) rfl dX4_found_0 ?_
  refine fr_iconst (pc := 1) (v := 0) rfl dX4_found_1 ?_
  refine fr_bipush (pc := 2) (v := 6) rfl dX4_found_2 ?_
  refine fr_callS0 (pc := 4) [.int (nI k), .int 0, .int 6] [] (c_X4_within) gc_X4_44 rfl rfl ⟨rfl, rfl, by decide, by decide⟩ (Nat.le_of_ble_eq_true rfl) ⟨by decide, by decide⟩ dX4_found_4 ?_
  refine fr_if_eq (pc := 7) 20 (by decide) dX4_found_7 (fun h7 => ?_) (fun h7 => ?_)
  · have g7 := bI_0.mp h7
    exact absurd (decide_eq_true (p := ¬ nI k < 0 ∧ ¬ 6 < nI k) ⟨nI_pos (by omega), nI_nlt (a := 6) (b := k) (by omega) (by omega)⟩) g7
  · have g7 := bI_n0 h7
    refine fr_aload_n (pc := 10) rfl dX4_found_10 ?_
    refine fr_get (pc := 11) (ci := 3) (T := TX4) (k0 := 6) rfl hin_X4 (by decide) fl_X4_40 (by decide) x_0 rfl dX4_found_11 ?_
    refine fr_iload_n (pc := 14) rfl dX4_found_14 ?_
    refine fr_dup2 (pc := 15) rfl rfl dX4_found_15 ?_
    refine fr_iald (pc := 16) k rfl (by decide) x_41 (by first | assumption | omega) (by decide) dX4_found_16 ?_
    refine fr_iconst (pc := 17) (v := 1) rfl dX4_found_17 ?_
    refine fr_iadd (pc := 18) dX4_found_18 ?_
    refine fr_iast (pc := 19) k rfl (by decide) x_41 (by first | assumption | omega) (by decide) dX4_found_19 ?_
    refine fr_mem x_u41 ?_
    refine fr_ldcw (pc := 20) kc_X4_283 dX4_found_20 ?_
    refine fr_iload_n (pc := 23) rfl dX4_found_23 ?_
    refine fr_isub (pc := 24) dX4_found_24 ?_
    exact fr_ireturn (pc := 25) rfl rfl rfl rfl dX4_found_25
set_option maxRecDepth 100000 in
theorem c_X4_isGuest {Γ : aG} {l : Launch} {M : Nat → aC} {r rk t : rT} {ik : Int32} {S : sT} {T : tT} {fi : Nat → Int32} {g : Int32}  : Ev Γ l mX4_isGuest [.ref 0, .int g] 54 (xM M r rk t ik S T fi) (some (.int (bI (wi g 0 (r 9 1 - 1) = true)))) 54 (xM M r rk t ik S T fi) := by
  refine Ev.of [(0, .ref 0), (1, .int g)] (by decide) (Nat.le_of_ble_eq_true rfl) rfl ?_
  refine fr_iload_n (pc := 0) rfl dX4_isGuest_0 ?_
  refine fr_iconst (pc := 1) (v := 0) rfl dX4_isGuest_1 ?_
  refine fr_aload_n (pc := 2) rfl dX4_isGuest_2 ?_
  refine fr_get (pc := 3) (ci := 3) (T := TX4) (k0 := 0) rfl hin_X4 (by decide) fl_X4_10 (by decide) x_0 rfl dX4_isGuest_3 ?_
  refine fr_get (pc := 6) (ci := 0) (T := TX0) (k0 := 6) rfl hin_X0 (by decide) fl_X4_176 (by decide) x_1 rfl dX4_isGuest_6 ?_
  refine fr_iconst (pc := 9) (v := 1) rfl dX4_isGuest_9 ?_
  refine fr_isub (pc := 10) dX4_isGuest_10 ?_
  refine fr_callS0 (pc := 11) [.int g, .int 0, .int ((r 9 1) - 1)] [] (c_X4_within) gc_X4_44 rfl rfl ⟨rfl, rfl, by decide, by decide⟩ (Nat.le_of_ble_eq_true rfl) ⟨by decide, by decide⟩ dX4_isGuest_11 ?_
  exact fr_ireturn (pc := 14) rfl rfl rfl bI_nar dX4_isGuest_14
set_option maxRecDepth 100000 in
theorem c_X4_startTrial {Γ : aG} {l : Launch} {M : Nat → aC} {r rk t : rT} {ik : Int32} {S : sT} {T : tT} {fi : Nat → Int32}  : Ev Γ l mX4_startTrial [.ref 0] 54 (xM M r rk t ik S T fi) none 54 (xM M r rk r ik S T fi) := by
  refine Ev.of [(0, .ref 0)] (by decide) (Nat.le_of_ble_eq_true rfl) rfl ?_
  refine fr_aload_n (pc := 0) rfl dX4_startTrial_0 ?_
  refine fr_get (pc := 1) (ci := 3) (T := TX4) (k0 := 2) rfl hin_X4 (by decide) fl_X4_19 (by decide) x_0 rfl dX4_startTrial_1 ?_
  refine fr_aload_n (pc := 4) rfl dX4_startTrial_4 ?_
  refine fr_get (pc := 5) (ci := 3) (T := TX4) (k0 := 0) rfl hin_X4 (by decide) fl_X4_10 (by decide) x_0 rfl dX4_startTrial_5 ?_
  refine fr_callV0 (pc := 8) (ci := 0) (T := TX0) (N := 15) [.ref 1] [] (ev_HT (fun _ => c_X0_become (by decide) (by decide) (by decide))) gc_X4_221 rfl rfl ⟨rfl, rfl, by decide, by decide⟩ (Nat.le_of_ble_eq_true rfl) rfl (by decide) x_21 ⟨by decide, by decide⟩ dX4_startTrial_8 ?_
  exact fr_return (pc := 11) rfl rfl dX4_startTrial_11
