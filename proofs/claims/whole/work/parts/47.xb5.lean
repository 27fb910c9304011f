set_option maxRecDepth 100000 in
theorem sn_find {Γ : aG} {l : Launch} {M : Nat → aC} {r rk : rT} {ik : Int32} {S : sT} {b : Nat → Int32} {ln : Int32} {J : Int32 × Int32 × Int32 × Int32} {fi : Nat → Int32} : ∀ (k n : Nat) (t : rT), wf t → n + k = 201 → ∃ t' : rT, Fr Γ l mX4_snaps 6 [(0, .ref 0), (1, .int (nI n))] [] 54 0 0 (xM M r rk t ik S (b, ln, J) fi) (some (.int (orN (r, rk, ik, S, b, ln, fi) (s_find (fun t => decide (t 9 5 = 1)) k n t)).1)) 54 (xF M t' J (orN (r, rk, ik, S, b, ln, fi) (s_find (fun t => decide (t 9 5 = 1)) k n t)).2) := by
  intro k
  induction k with
  | zero =>
    intro n t w hn
    refine ⟨t, ?_⟩
    rw [show s_find (fun t => decide (t 9 5 = 1)) 0 n t = -1 from rfl, show orN (r, rk, ik, S, b, ln, fi) (-1) = fb (r, rk, ik, S, b, ln, fi) 3 from if_pos (by decide)]
    refine fr_iload_n (pc := 6) rfl dX4_snaps_6 ?_
    refine fr_sipush (pc := 7) (v := 200) rfl dX4_snaps_7 ?_
    refine fr_icmp_gt (pc := 10) 39 (by decide) dX4_snaps_10 (fun h10 => ?_) (fun h10 => ?_)
    · refine fr_aload_n (pc := 39) rfl dX4_snaps_39 ?_
      refine fr_iconst (pc := 40) (v := 3) rfl dX4_snaps_40 ?_
      refine fr_callV0 (pc := 41) (ci := 3) (T := TX4) (N := 7) [.int 3] [] (c_X4_found (k := 3) (by decide)) gc_X4_51 rfl rfl ⟨rfl, rfl, by decide, by decide⟩ (Nat.le_of_ble_eq_true rfl) rfl (by decide) x_0 ⟨by decide, by decide⟩ dX4_snaps_41 ?_
      exact fr_ireturn (pc := 44) rfl rfl rfl rfl dX4_snaps_44
    · exact absurd (nI_lt (a := 200) (b := n) (by omega) (by omega)) h10
  | succ k ih =>
    intro n t w hn
    by_cases hp : (fun t => decide (t 9 5 = 1)) t = true
    · refine ⟨t, ?_⟩
      rw [show s_find (fun t => decide (t 9 5 = 1)) (k + 1) n t = nI n from if_pos hp, show orN (r, rk, ik, S, b, ln, fi) (nI n) = (nI n, (r, rk, ik, S, b, ln, fi)) from if_neg (nI_pos (by omega))]
      refine fr_iload_n (pc := 6) rfl dX4_snaps_6 ?_
      refine fr_sipush (pc := 7) (v := 200) rfl dX4_snaps_7 ?_
      refine fr_icmp_gt (pc := 10) 39 (by decide) dX4_snaps_10 (fun h10 => ?_) (fun h10 => ?_)
      · exact absurd h10 (nI_nlt (a := 200) (b := n) (by omega) (by omega))
      · refine fr_aload_n (pc := 13) rfl dX4_snaps_13 ?_
        refine fr_get (pc := 14) (ci := 3) (T := TX4) (k0 := 2) rfl hin_X4 (by decide) fl_X4_19 (by decide) x_0 rfl dX4_snaps_14 ?_
        refine fr_get (pc := 17) (ci := 0) (T := TX0) (k0 := 4) rfl hin_X0 (by decide) fl_X4_62 (by decide) x_21 rfl dX4_snaps_17 ?_
        refine fr_iconst (pc := 20) (v := 1) rfl dX4_snaps_20 ?_
        refine fr_icmp_ne (pc := 21) 26 (by decide) dX4_snaps_21 (fun h21 => ?_) (fun h21 => ?_)
        · exact absurd (of_decide_eq_true hp) h21
        · refine fr_iload_n (pc := 24) rfl dX4_snaps_24 ?_
          exact fr_ireturn (pc := 25) rfl rfl rfl rfl dX4_snaps_25
    · obtain ⟨t', ht⟩ := ih (n + 1) (s_hour t) (wf_hour w) (by omega)
      refine ⟨t', ?_⟩
      rw [show s_find (fun t => decide (t 9 5 = 1)) (k + 1) n t = s_find (fun t => decide (t 9 5 = 1)) k (n + 1) (s_hour t) from if_neg hp]
      refine fr_iload_n (pc := 6) rfl dX4_snaps_6 ?_
      refine fr_sipush (pc := 7) (v := 200) rfl dX4_snaps_7 ?_
      refine fr_icmp_gt (pc := 10) 39 (by decide) dX4_snaps_10 (fun h10 => ?_) (fun h10 => ?_)
      · exact absurd h10 (nI_nlt (a := 200) (b := n) (by omega) (by omega))
      · refine fr_aload_n (pc := 13) rfl dX4_snaps_13 ?_
        refine fr_get (pc := 14) (ci := 3) (T := TX4) (k0 := 2) rfl hin_X4 (by decide) fl_X4_19 (by decide) x_0 rfl dX4_snaps_14 ?_
        refine fr_get (pc := 17) (ci := 0) (T := TX0) (k0 := 4) rfl hin_X0 (by decide) fl_X4_62 (by decide) x_21 rfl dX4_snaps_17 ?_
        refine fr_iconst (pc := 20) (v := 1) rfl dX4_snaps_20 ?_
        refine fr_icmp_ne (pc := 21) 26 (by decide) dX4_snaps_21 (fun h21 => ?_) (fun h21 => ?_)
        · refine fr_aload_n (pc := 26) rfl dX4_snaps_26 ?_
          refine fr_get (pc := 27) (ci := 3) (T := TX4) (k0 := 2) rfl hin_X4 (by decide) fl_X4_19 (by decide) x_0 rfl dX4_snaps_27 ?_
          refine fr_callV0 (pc := 30) (ci := 0) (T := TX0) (N := 15) [] [] (ev_T (fun _ => c_X0_passHour (by omega) (by assumption))) gc_X4_155 rfl rfl ⟨rfl, rfl, by decide, by decide⟩ (Nat.le_of_ble_eq_true rfl) rfl (by decide) x_21 ⟨by decide, by decide⟩ dX4_snaps_30 ?_
          refine fr_iinc (pc := 33) (v := nI (n + 1)) [(1, .int (nI (n + 1))), (0, .ref 0)] rfl (nI_1 n) (by decide) rfl dX4_snaps_33 ?_
          refine fr_goto (pc := 36) 6 (by decide) dX4_snaps_36 ?_
          exact fr_sub [1, 0] rfl (ht)
        · exact absurd (decide_eq_true h21) hp
set_option maxRecDepth 100000 in
theorem cm_find {Γ : aG} {l : Launch} {M : Nat → aC} {r rk : rT} {ik : Int32} {S : sT} {b : Nat → Int32} {ln : Int32} {J : Int32 × Int32 × Int32 × Int32} {fi : Nat → Int32} {g : Nat} {c : Int32} (hg : g < 8) : ∀ (k n : Nat) (t : rT), wf t → n + k = 201 → ∃ t' : rT, Fr Γ l mX4_comes 27 [(0, .ref 0), (1, .int (nI g)), (2, .int c), (3, .int (nI n))] [] 54 0 0 (xM M r rk t ik S (b, ln, J) fi) (some (.int (orN (r, rk, ik, S, b, ln, fi) (s_find (fun t => decide (t 3 g = c)) k n t)).1)) 54 (xF M t' J (orN (r, rk, ik, S, b, ln, fi) (s_find (fun t => decide (t 3 g = c)) k n t)).2) := by
  intro k
  induction k with
  | zero =>
    intro n t w hn
    refine ⟨t, ?_⟩
    rw [show s_find (fun t => decide (t 3 g = c)) 0 n t = -1 from rfl, show orN (r, rk, ik, S, b, ln, fi) (-1) = fb (r, rk, ik, S, b, ln, fi) 3 from if_pos (by decide)]
    refine fr_iload_n (pc := 27) rfl dX4_comes_27 ?_
    refine fr_sipush (pc := 28) (v := 200) rfl dX4_comes_28 ?_
    refine fr_icmp_gt (pc := 31) 62 (by decide) dX4_comes_31 (fun h31 => ?_) (fun h31 => ?_)
    · refine fr_aload_n (pc := 62) rfl dX4_comes_62 ?_
      refine fr_iconst (pc := 63) (v := 3) rfl dX4_comes_63 ?_
      refine fr_callV0 (pc := 64) (ci := 3) (T := TX4) (N := 7) [.int 3] [] (c_X4_found (k := 3) (by decide)) gc_X4_51 rfl rfl ⟨rfl, rfl, by decide, by decide⟩ (Nat.le_of_ble_eq_true rfl) rfl (by decide) x_0 ⟨by decide, by decide⟩ dX4_comes_64 ?_
      exact fr_ireturn (pc := 67) rfl rfl rfl rfl dX4_comes_67
    · exact absurd (nI_lt (a := 200) (b := n) (by omega) (by omega)) h31
  | succ k ih =>
    intro n t w hn
    by_cases hp : (fun t => decide (t 3 g = c)) t = true
    · refine ⟨t, ?_⟩
      rw [show s_find (fun t => decide (t 3 g = c)) (k + 1) n t = nI n from if_pos hp, show orN (r, rk, ik, S, b, ln, fi) (nI n) = (nI n, (r, rk, ik, S, b, ln, fi)) from if_neg (nI_pos (by omega))]
      refine fr_iload_n (pc := 27) rfl dX4_comes_27 ?_
      refine fr_sipush (pc := 28) (v := 200) rfl dX4_comes_28 ?_
      refine fr_icmp_gt (pc := 31) 62 (by decide) dX4_comes_31 (fun h31 => ?_) (fun h31 => ?_)
      · exact absurd h31 (nI_nlt (a := 200) (b := n) (by omega) (by omega))
      · refine fr_aload_n (pc := 34) rfl dX4_comes_34 ?_
        refine fr_get (pc := 35) (ci := 3) (T := TX4) (k0 := 2) rfl hin_X4 (by decide) fl_X4_19 (by decide) x_0 rfl dX4_comes_35 ?_
        refine fr_get (pc := 38) (ci := 0) (T := TX0) (k0 := 8) rfl hin_X0 (by decide) fl_X4_158 (by decide) x_21 rfl dX4_comes_38 ?_
        refine fr_iload_n (pc := 41) rfl dX4_comes_41 ?_
        refine fr_iald (pc := 42) g rfl (by decide) x_t4 (by first | assumption | omega) (by decide) dX4_comes_42 ?_
        refine fr_iload_n (pc := 43) rfl dX4_comes_43 ?_
        refine fr_icmp_ne (pc := 44) 49 (by decide) dX4_comes_44 (fun h44 => ?_) (fun h44 => ?_)
        · exact absurd (of_decide_eq_true hp) h44
        · refine fr_iload_n (pc := 47) rfl dX4_comes_47 ?_
          exact fr_ireturn (pc := 48) rfl rfl rfl rfl dX4_comes_48
    · obtain ⟨t', ht⟩ := ih (n + 1) (s_hour t) (wf_hour w) (by omega)
      refine ⟨t', ?_⟩
      rw [show s_find (fun t => decide (t 3 g = c)) (k + 1) n t = s_find (fun t => decide (t 3 g = c)) k (n + 1) (s_hour t) from if_neg hp]
      refine fr_iload_n (pc := 27) rfl dX4_comes_27 ?_
      refine fr_sipush (pc := 28) (v := 200) rfl dX4_comes_28 ?_
      refine fr_icmp_gt (pc := 31) 62 (by decide) dX4_comes_31 (fun h31 => ?_) (fun h31 => ?_)
      · exact absurd h31 (nI_nlt (a := 200) (b := n) (by omega) (by omega))
      · refine fr_aload_n (pc := 34) rfl dX4_comes_34 ?_
        refine fr_get (pc := 35) (ci := 3) (T := TX4) (k0 := 2) rfl hin_X4 (by decide) fl_X4_19 (by decide) x_0 rfl dX4_comes_35 ?_
        refine fr_get (pc := 38) (ci := 0) (T := TX0) (k0 := 8) rfl hin_X0 (by decide) fl_X4_158 (by decide) x_21 rfl dX4_comes_38 ?_
        refine fr_iload_n (pc := 41) rfl dX4_comes_41 ?_
        refine fr_iald (pc := 42) g rfl (by decide) x_t4 (by first | assumption | omega) (by decide) dX4_comes_42 ?_
        refine fr_iload_n (pc := 43) rfl dX4_comes_43 ?_
        refine fr_icmp_ne (pc := 44) 49 (by decide) dX4_comes_44 (fun h44 => ?_) (fun h44 => ?_)
        · refine fr_aload_n (pc := 49) rfl dX4_comes_49 ?_
          refine fr_get (pc := 50) (ci := 3) (T := TX4) (k0 := 2) rfl hin_X4 (by decide) fl_X4_19 (by decide) x_0 rfl dX4_comes_50 ?_
          refine fr_callV0 (pc := 53) (ci := 0) (T := TX0) (N := 15) [] [] (ev_T (fun _ => c_X0_passHour (by omega) (by assumption))) gc_X4_155 rfl rfl ⟨rfl, rfl, by decide, by decide⟩ (Nat.le_of_ble_eq_true rfl) rfl (by decide) x_21 ⟨by decide, by decide⟩ dX4_comes_53 ?_
          refine fr_iinc (pc := 56) (v := nI (n + 1)) [(3, .int (nI (n + 1))), (0, .ref 0), (1, .int (nI g)), (2, .int c)] rfl (nI_1 n) (by decide) rfl dX4_comes_56 ?_
          refine fr_goto (pc := 59) 27 (by decide) dX4_comes_59 ?_
          exact fr_sub [1, 2, 3, 0] rfl (ht)
        · exact absurd (decide_eq_true h44) hp
set_option maxRecDepth 100000 in
theorem sk_find {Γ : aG} {l : Launch} {M : Nat → aC} {r rk : rT} {ik : Int32} {S : sT} {b : Nat → Int32} {ln : Int32} {J : Int32 × Int32 × Int32 × Int32} {fi : Nat → Int32} {g : Nat} {q : Int32} (hg : g < 8) : ∀ (k n : Nat) (t : rT), wf t → n + k = 201 → ∃ t' : rT, Fr Γ l mX4_stuck 31 [(0, .ref 0), (1, .int (nI g)), (2, .int q), (3, .int (nI n))] [] 54 0 0 (xM M r rk t ik S (b, ln, J) fi) (some (.int (orN (r, rk, ik, S, b, ln, fi) (s_find (fun t => decide (¬ t 6 g < q)) k n t)).1)) 54 (xF M t' J (orN (r, rk, ik, S, b, ln, fi) (s_find (fun t => decide (¬ t 6 g < q)) k n t)).2) := by
  intro k
  induction k with
  | zero =>
    intro n t w hn
    refine ⟨t, ?_⟩
    rw [show s_find (fun t => decide (¬ t 6 g < q)) 0 n t = -1 from rfl, show orN (r, rk, ik, S, b, ln, fi) (-1) = fb (r, rk, ik, S, b, ln, fi) 3 from if_pos (by decide)]
    refine fr_iload_n (pc := 31) rfl dX4_stuck_31 ?_
    refine fr_sipush (pc := 32) (v := 200) rfl dX4_stuck_32 ?_
    refine fr_icmp_gt (pc := 35) 66 (by decide) dX4_stuck_35 (fun h35 => ?_) (fun h35 => ?_)
    · refine fr_aload_n (pc := 66) rfl dX4_stuck_66 ?_
      refine fr_iconst (pc := 67) (v := 3) rfl dX4_stuck_67 ?_
      refine fr_callV0 (pc := 68) (ci := 3) (T := TX4) (N := 7) [.int 3] [] (c_X4_found (k := 3) (by decide)) gc_X4_51 rfl rfl ⟨rfl, rfl, by decide, by decide⟩ (Nat.le_of_ble_eq_true rfl) rfl (by decide) x_0 ⟨by decide, by decide⟩ dX4_stuck_68 ?_
      exact fr_ireturn (pc := 71) rfl rfl rfl rfl dX4_stuck_71
    · exact absurd (nI_lt (a := 200) (b := n) (by omega) (by omega)) h35
  | succ k ih =>
    intro n t w hn
    by_cases hp : (fun t => decide (¬ t 6 g < q)) t = true
    · refine ⟨t, ?_⟩
      rw [show s_find (fun t => decide (¬ t 6 g < q)) (k + 1) n t = nI n from if_pos hp, show orN (r, rk, ik, S, b, ln, fi) (nI n) = (nI n, (r, rk, ik, S, b, ln, fi)) from if_neg (nI_pos (by omega))]
      refine fr_iload_n (pc := 31) rfl dX4_stuck_31 ?_
      refine fr_sipush (pc := 32) (v := 200) rfl dX4_stuck_32 ?_
      refine fr_icmp_gt (pc := 35) 66 (by decide) dX4_stuck_35 (fun h35 => ?_) (fun h35 => ?_)
      · exact absurd h35 (nI_nlt (a := 200) (b := n) (by omega) (by omega))
      · refine fr_aload_n (pc := 38) rfl dX4_stuck_38 ?_
        refine fr_get (pc := 39) (ci := 3) (T := TX4) (k0 := 2) rfl hin_X4 (by decide) fl_X4_19 (by decide) x_0 rfl dX4_stuck_39 ?_
        refine fr_get (pc := 42) (ci := 0) (T := TX0) (k0 := 11) rfl hin_X0 (by decide) fl_X4_161 (by decide) x_21 rfl dX4_stuck_42 ?_
        refine fr_iload_n (pc := 45) rfl dX4_stuck_45 ?_
        refine fr_iald (pc := 46) g rfl (by decide) x_t7 (by first | assumption | omega) (by decide) dX4_stuck_46 ?_
        refine fr_iload_n (pc := 47) rfl dX4_stuck_47 ?_
        refine fr_icmp_lt (pc := 48) 53 (by decide) dX4_stuck_48 (fun h48 => ?_) (fun h48 => ?_)
        · exact absurd (of_decide_eq_true hp) (fun z => z h48)
        · refine fr_iload_n (pc := 51) rfl dX4_stuck_51 ?_
          exact fr_ireturn (pc := 52) rfl rfl rfl rfl dX4_stuck_52
    · obtain ⟨t', ht⟩ := ih (n + 1) (s_hour t) (wf_hour w) (by omega)
      refine ⟨t', ?_⟩
      rw [show s_find (fun t => decide (¬ t 6 g < q)) (k + 1) n t = s_find (fun t => decide (¬ t 6 g < q)) k (n + 1) (s_hour t) from if_neg hp]
      refine fr_iload_n (pc := 31) rfl dX4_stuck_31 ?_
      refine fr_sipush (pc := 32) (v := 200) rfl dX4_stuck_32 ?_
      refine fr_icmp_gt (pc := 35) 66 (by decide) dX4_stuck_35 (fun h35 => ?_) (fun h35 => ?_)
      · exact absurd h35 (nI_nlt (a := 200) (b := n) (by omega) (by omega))
      · refine fr_aload_n (pc := 38) rfl dX4_stuck_38 ?_
        refine fr_get (pc := 39) (ci := 3) (T := TX4) (k0 := 2) rfl hin_X4 (by decide) fl_X4_19 (by decide) x_0 rfl dX4_stuck_39 ?_
        refine fr_get (pc := 42) (ci := 0) (T := TX0) (k0 := 11) rfl hin_X0 (by decide) fl_X4_161 (by decide) x_21 rfl dX4_stuck_42 ?_
        refine fr_iload_n (pc := 45) rfl dX4_stuck_45 ?_
        refine fr_iald (pc := 46) g rfl (by decide) x_t7 (by first | assumption | omega) (by decide) dX4_stuck_46 ?_
        refine fr_iload_n (pc := 47) rfl dX4_stuck_47 ?_
        refine fr_icmp_lt (pc := 48) 53 (by decide) dX4_stuck_48 (fun h48 => ?_) (fun h48 => ?_)
        · refine fr_aload_n (pc := 53) rfl dX4_stuck_53 ?_
          refine fr_get (pc := 54) (ci := 3) (T := TX4) (k0 := 2) rfl hin_X4 (by decide) fl_X4_19 (by decide) x_0 rfl dX4_stuck_54 ?_
          refine fr_callV0 (pc := 57) (ci := 0) (T := TX0) (N := 15) [] [] (ev_T (fun _ => c_X0_passHour (by omega) (by assumption))) gc_X4_155 rfl rfl ⟨rfl, rfl, by decide, by decide⟩ (Nat.le_of_ble_eq_true rfl) rfl (by decide) x_21 ⟨by decide, by decide⟩ dX4_stuck_57 ?_
          refine fr_iinc (pc := 60) (v := nI (n + 1)) [(3, .int (nI (n + 1))), (0, .ref 0), (1, .int (nI g)), (2, .int q)] rfl (nI_1 n) (by decide) rfl dX4_stuck_60 ?_
          refine fr_goto (pc := 63) 31 (by decide) dX4_stuck_63 ?_
          exact fr_sub [1, 2, 3, 0] rfl (ht)
        · exact absurd (decide_eq_true h48) hp
set_option maxRecDepth 100000 in
theorem x_snaps {Γ : aG} {l : Launch} {M : Nat → aC} {r rk t : rT} {ik : Int32} {S : sT} {b : Nat → Int32} {ln : Int32} {J : Int32 × Int32 × Int32 × Int32} {fi : Nat → Int32} (w : wf r)  : ∃ t' : rT, Ev Γ l mX4_snaps [.ref 0] 54 (xM M r rk t ik S (b, ln, J) fi) (some (.int (sp_snaps (r, rk, ik, S, b, ln, fi)).1)) 54 (xF M t' J (sp_snaps (r, rk, ik, S, b, ln, fi)).2) := by
  obtain ⟨t', ht⟩ := sn_find (Γ := Γ) (l := l) (M := M) (r := r) (rk := rk) (ik := ik) (S := S) (b := b) (ln := ln) (J := J) (fi := fi) 201 0 r w rfl
  refine ⟨t', ?_⟩
  refine Ev.of [(0, .ref 0)] (by decide) (Nat.le_of_ble_eq_true rfl) rfl ?_
  refine fr_aload_n (pc := 0) rfl dX4_snaps_0 ?_
  refine fr_callV0 (pc := 1) (ci := 3) (T := TX4) (N := 7) [] [] (c_X4_startTrial) gc_X4_152 rfl rfl ⟨rfl, rfl, by decide, by decide⟩ (Nat.le_of_ble_eq_true rfl) rfl (by decide) x_0 ⟨by decide, by decide⟩ dX4_snaps_1 ?_
  refine fr_iconst (pc := 4) (v := 0) rfl dX4_snaps_4 ?_
  refine fr_istore_n (pc := 5) [(1, .int 0), (0, .ref 0)] (by decide) rfl dX4_snaps_5 ?_
  exact fr_sub [1, 0] rfl (ht)
set_option maxRecDepth 100000 in
theorem x_comes {Γ : aG} {l : Launch} {M : Nat → aC} {r rk t : rT} {ik : Int32} {S : sT} {b : Nat → Int32} {ln : Int32} {J : Int32 × Int32 × Int32 × Int32} {fi : Nat → Int32} {g c : Int32} (w : wf r)  : ∃ t' : rT, Ev Γ l mX4_comes [.ref 0, .int g, .int c] 54 (xM M r rk t ik S (b, ln, J) fi) (some (.int (sp_comes (r, rk, ik, S, b, ln, fi) g c).1)) 54 (xF M t' J (sp_comes (r, rk, ik, S, b, ln, fi) g c).2) := by
  by_cases hc : wi g 0 (r 9 1 - 1) = true ∧ wi c 0 15 = true
  · obtain ⟨i1, hi1, rfl⟩ := sG_nI w hc.1
    have ei1 : (nI i1).toNatClampNeg = i1 := nI_clamp (by have := w.ctl; omega)
    have li1 : i1 < 8 := by have := w.ctl; omega
    obtain ⟨t', ht⟩ := cm_find (Γ := Γ) (l := l) (M := M) (r := r) (rk := rk) (ik := ik) (S := S) (b := b) (ln := ln) (J := J) (fi := fi) (g := i1) (c := c) li1 201 0 r w rfl
    refine ⟨t', ?_⟩
    rw [show sp_comes (r, rk, ik, S, b, ln, fi) (nI i1) c = orN (r, rk, ik, S, b, ln, fi) (s_find (fun t => decide (t 3 i1 = c)) 201 0 r) from by unfold sp_comes; rw [ei1]; exact if_pos hc]
    refine Ev.of [(0, .ref 0), (1, .int (nI i1)), (2, .int c)] (by decide) (Nat.le_of_ble_eq_true rfl) rfl ?_
    refine fr_aload_n (pc := 0) rfl dX4_comes_0 ?_
    refine fr_iload_n (pc := 1) rfl dX4_comes_1 ?_
    refine fr_callV0 (pc := 2) (ci := 3) (T := TX4) (N := 7) [.int (nI i1)] [] (c_X4_isGuest) gc_X4_95 rfl rfl ⟨rfl, rfl, by decide, by decide⟩ (Nat.le_of_ble_eq_true rfl) rfl (by decide) x_0 ⟨by decide, by decide⟩ dX4_comes_2 ?_
    refine fr_if_eq (pc := 5) 15 (by decide) dX4_comes_5 (fun h5 => ?_) (fun h5 => ?_)
    · have g5 := bI_0.mp h5
      exact absurd hc.1 g5
    · have g5 := bI_n0 h5
      refine fr_iload_n (pc := 8) rfl dX4_comes_8 ?_
      refine fr_callS0 (pc := 9) [.int c] [] (c_X4_isCell) gc_X4_65 rfl rfl ⟨rfl, rfl, by decide, by decide⟩ (Nat.le_of_ble_eq_true rfl) ⟨by decide, by decide⟩ dX4_comes_9 ?_
      refine fr_if_ne (pc := 12) 21 (by decide) dX4_comes_12 (fun h12 => ?_) (fun h12 => ?_)
      · have g12 := bI_n0 h12
        refine fr_aload_n (pc := 21) rfl dX4_comes_21 ?_
        refine fr_callV0 (pc := 22) (ci := 3) (T := TX4) (N := 7) [] [] (c_X4_startTrial) gc_X4_152 rfl rfl ⟨rfl, rfl, by decide, by decide⟩ (Nat.le_of_ble_eq_true rfl) rfl (by decide) x_0 ⟨by decide, by decide⟩ dX4_comes_22 ?_
        refine fr_iconst (pc := 25) (v := 0) rfl dX4_comes_25 ?_
        refine fr_istore_n (pc := 26) [(3, .int 0), (0, .ref 0), (1, .int (nI i1)), (2, .int c)] (by decide) rfl dX4_comes_26 ?_
        exact fr_sub [1, 2, 3, 0] rfl (ht)
      · have g12 := bI_0.mp h12
        exact absurd hc.2 g12
  · refine ⟨t, ?_⟩
    rw [show sp_comes (r, rk, ik, S, b, ln, fi) g c = fb (r, rk, ik, S, b, ln, fi) 0 from if_neg hc]
    refine Ev.of [(0, .ref 0), (1, .int g), (2, .int c)] (by decide) (Nat.le_of_ble_eq_true rfl) rfl ?_
    refine fr_aload_n (pc := 0) rfl dX4_comes_0 ?_
    refine fr_iload_n (pc := 1) rfl dX4_comes_1 ?_
    refine fr_callV0 (pc := 2) (ci := 3) (T := TX4) (N := 7) [.int g] [] (c_X4_isGuest) gc_X4_95 rfl rfl ⟨rfl, rfl, by decide, by decide⟩ (Nat.le_of_ble_eq_true rfl) rfl (by decide) x_0 ⟨by decide, by decide⟩ dX4_comes_2 ?_
    refine fr_if_eq (pc := 5) 15 (by decide) dX4_comes_5 (fun h5 => ?_) (fun h5 => ?_)
    · have g5 := bI_0.mp h5
      refine fr_aload_n (pc := 15) rfl dX4_comes_15 ?_
      refine fr_iconst (pc := 16) (v := 0) rfl dX4_comes_16 ?_
      refine fr_callV0 (pc := 17) (ci := 3) (T := TX4) (N := 7) [.int 0] [] (c_X4_found (k := 0) (by decide)) gc_X4_51 rfl rfl ⟨rfl, rfl, by decide, by decide⟩ (Nat.le_of_ble_eq_true rfl) rfl (by decide) x_0 ⟨by decide, by decide⟩ dX4_comes_17 ?_
      exact fr_ireturn (pc := 20) rfl rfl rfl rfl dX4_comes_20
    · have g5 := bI_n0 h5
      refine fr_iload_n (pc := 8) rfl dX4_comes_8 ?_
      refine fr_callS0 (pc := 9) [.int c] [] (c_X4_isCell) gc_X4_65 rfl rfl ⟨rfl, rfl, by decide, by decide⟩ (Nat.le_of_ble_eq_true rfl) ⟨by decide, by decide⟩ dX4_comes_9 ?_
      refine fr_if_ne (pc := 12) 21 (by decide) dX4_comes_12 (fun h12 => ?_) (fun h12 => ?_)
      · have g12 := bI_n0 h12
        exact absurd ⟨g5, g12⟩ hc
      · have g12 := bI_0.mp h12
        refine fr_aload_n (pc := 15) rfl dX4_comes_15 ?_
        refine fr_iconst (pc := 16) (v := 0) rfl dX4_comes_16 ?_
        refine fr_callV0 (pc := 17) (ci := 3) (T := TX4) (N := 7) [.int 0] [] (c_X4_found (k := 0) (by decide)) gc_X4_51 rfl rfl ⟨rfl, rfl, by decide, by decide⟩ (Nat.le_of_ble_eq_true rfl) rfl (by decide) x_0 ⟨by decide, by decide⟩ dX4_comes_17 ?_
        exact fr_ireturn (pc := 20) rfl rfl rfl rfl dX4_comes_20
set_option maxRecDepth 100000 in
theorem x_stuck {Γ : aG} {l : Launch} {M : Nat → aC} {r rk t : rT} {ik : Int32} {S : sT} {b : Nat → Int32} {ln : Int32} {J : Int32 × Int32 × Int32 × Int32} {fi : Nat → Int32} {g q : Int32} (w : wf r)  : ∃ t' : rT, Ev Γ l mX4_stuck [.ref 0, .int g, .int q] 54 (xM M r rk t ik S (b, ln, J) fi) (some (.int (sp_stuck (r, rk, ik, S, b, ln, fi) g q).1)) 54 (xF M t' J (sp_stuck (r, rk, ik, S, b, ln, fi) g q).2) := by
  by_cases hc : wi g 0 (r 9 1 - 1) = true ∧ wi q 0 9999 = true
  · obtain ⟨i1, hi1, rfl⟩ := sG_nI w hc.1
    have ei1 : (nI i1).toNatClampNeg = i1 := nI_clamp (by have := w.ctl; omega)
    have li1 : i1 < 8 := by have := w.ctl; omega
    obtain ⟨t', ht⟩ := sk_find (Γ := Γ) (l := l) (M := M) (r := r) (rk := rk) (ik := ik) (S := S) (b := b) (ln := ln) (J := J) (fi := fi) (g := i1) (q := q) li1 201 0 r w rfl
    refine ⟨t', ?_⟩
    rw [show sp_stuck (r, rk, ik, S, b, ln, fi) (nI i1) q = orN (r, rk, ik, S, b, ln, fi) (s_find (fun t => decide (¬ t 6 i1 < q)) 201 0 r) from by unfold sp_stuck; rw [ei1]; exact if_pos hc]
    refine Ev.of [(0, .ref 0), (1, .int (nI i1)), (2, .int q)] (by decide) (Nat.le_of_ble_eq_true rfl) rfl ?_
    refine fr_aload_n (pc := 0) rfl dX4_stuck_0 ?_
    refine fr_iload_n (pc := 1) rfl dX4_stuck_1 ?_
    refine fr_callV0 (pc := 2) (ci := 3) (T := TX4) (N := 7) [.int (nI i1)] [] (c_X4_isGuest) gc_X4_95 rfl rfl ⟨rfl, rfl, by decide, by decide⟩ (Nat.le_of_ble_eq_true rfl) rfl (by decide) x_0 ⟨by decide, by decide⟩ dX4_stuck_2 ?_
    refine fr_if_eq (pc := 5) 19 (by decide) dX4_stuck_5 (fun h5 => ?_) (fun h5 => ?_)
    · have g5 := bI_0.mp h5
      exact absurd hc.1 g5
    · have g5 := bI_n0 h5
      refine fr_iload_n (pc := 8) rfl dX4_stuck_8 ?_
      refine fr_iconst (pc := 9) (v := 0) rfl dX4_stuck_9 ?_
      refine fr_sipush (pc := 10) (v := 9999) rfl dX4_stuck_10 ?_
      refine fr_callS0 (pc := 13) [.int q, .int 0, .int 9999] [] (c_X4_within) gc_X4_44 rfl rfl ⟨rfl, rfl, by decide, by decide⟩ (Nat.le_of_ble_eq_true rfl) ⟨by decide, by decide⟩ dX4_stuck_13 ?_
      refine fr_if_ne (pc := 16) 25 (by decide) dX4_stuck_16 (fun h16 => ?_) (fun h16 => ?_)
      · have g16 := bI_n0 h16
        refine fr_aload_n (pc := 25) rfl dX4_stuck_25 ?_
        refine fr_callV0 (pc := 26) (ci := 3) (T := TX4) (N := 7) [] [] (c_X4_startTrial) gc_X4_152 rfl rfl ⟨rfl, rfl, by decide, by decide⟩ (Nat.le_of_ble_eq_true rfl) rfl (by decide) x_0 ⟨by decide, by decide⟩ dX4_stuck_26 ?_
        refine fr_iconst (pc := 29) (v := 0) rfl dX4_stuck_29 ?_
        refine fr_istore_n (pc := 30) [(3, .int 0), (0, .ref 0), (1, .int (nI i1)), (2, .int q)] (by decide) rfl dX4_stuck_30 ?_
        exact fr_sub [1, 2, 3, 0] rfl (ht)
      · have g16 := bI_0.mp h16
        exact absurd hc.2 g16
  · refine ⟨t, ?_⟩
    rw [show sp_stuck (r, rk, ik, S, b, ln, fi) g q = fb (r, rk, ik, S, b, ln, fi) 0 from if_neg hc]
    refine Ev.of [(0, .ref 0), (1, .int g), (2, .int q)] (by decide) (Nat.le_of_ble_eq_true rfl) rfl ?_
    refine fr_aload_n (pc := 0) rfl dX4_stuck_0 ?_
    refine fr_iload_n (pc := 1) rfl dX4_stuck_1 ?_
    refine fr_callV0 (pc := 2) (ci := 3) (T := TX4) (N := 7) [.int g] [] (c_X4_isGuest) gc_X4_95 rfl rfl ⟨rfl, rfl, by decide, by decide⟩ (Nat.le_of_ble_eq_true rfl) rfl (by decide) x_0 ⟨by decide, by decide⟩ dX4_stuck_2 ?_
    refine fr_if_eq (pc := 5) 19 (by decide) dX4_stuck_5 (fun h5 => ?_) (fun h5 => ?_)
    · have g5 := bI_0.mp h5
      refine fr_aload_n (pc := 19) rfl dX4_stuck_19 ?_
      refine fr_iconst (pc := 20) (v := 0) rfl dX4_stuck_20 ?_
      refine fr_callV0 (pc := 21) (ci := 3) (T := TX4) (N := 7) [.int 0] [] (c_X4_found (k := 0) (by decide)) gc_X4_51 rfl rfl ⟨rfl, rfl, by decide, by decide⟩ (Nat.le_of_ble_eq_true rfl) rfl (by decide) x_0 ⟨by decide, by decide⟩ dX4_stuck_21 ?_
      exact fr_ireturn (pc := 24) rfl rfl rfl rfl dX4_stuck_24
    · have g5 := bI_n0 h5
      refine fr_iload_n (pc := 8) rfl dX4_stuck_8 ?_
      refine fr_iconst (pc := 9) (v := 0) rfl dX4_stuck_9 ?_
      refine fr_sipush (pc := 10) (v := 9999) rfl dX4_stuck_10 ?_
      refine fr_callS0 (pc := 13) [.int q, .int 0, .int 9999] [] (c_X4_within) gc_X4_44 rfl rfl ⟨rfl, rfl, by decide, by decide⟩ (Nat.le_of_ble_eq_true rfl) ⟨by decide, by decide⟩ dX4_stuck_13 ?_
      refine fr_if_ne (pc := 16) 25 (by decide) dX4_stuck_16 (fun h16 => ?_) (fun h16 => ?_)
      · have g16 := bI_n0 h16
        exact absurd ⟨g5, g16⟩ hc
      · have g16 := bI_0.mp h16
        refine fr_aload_n (pc := 19) rfl dX4_stuck_19 ?_
        refine fr_iconst (pc := 20) (v := 0) rfl dX4_stuck_20 ?_
        refine fr_callV0 (pc := 21) (ci := 3) (T := TX4) (N := 7) [.int 0] [] (c_X4_found (k := 0) (by decide)) gc_X4_51 rfl rfl ⟨rfl, rfl, by decide, by decide⟩ (Nat.le_of_ble_eq_true rfl) rfl (by decide) x_0 ⟨by decide, by decide⟩ dX4_stuck_21 ?_
        exact fr_ireturn (pc := 24) rfl rfl rfl rfl dX4_stuck_24
set_option maxRecDepth 100000 in
theorem tg_first {Γ : aG} {l : Launch} {M : Nat → aC} {r rk : rT} {ik : Int32} {S : sT} {b : Nat → Int32} {ln : Int32} {J : Int32 × Int32 × Int32 × Int32} {fi : Nat → Int32} (w : wf r) {i n : Nat} (hi : i < 6) (hn2 : n < 1000) : ∀ (k m : Nat) (t : rT), m + k = 37 → ∃ t' : rT, Fr Γ l mX4_tight 26 [(0, .ref 0), (1, .int (nI i)), (2, .int (nI n)), (3, .int (nI m))] [] 54 0 0 (xM M r rk t ik S (b, ln, J) fi) (some (.int (orN (r, rk, ik, S, b, ln, fi) (s_first (q_tight r i n) k m)).1)) 54 (xF M t' J (orN (r, rk, ik, S, b, ln, fi) (s_first (q_tight r i n) k m)).2) := by
  intro k
  induction k with
  | zero =>
    intro m t hn
    refine ⟨t, ?_⟩
    rw [show s_first (q_tight r i n) 0 m = -1 from rfl, show orN (r, rk, ik, S, b, ln, fi) (-1) = fb (r, rk, ik, S, b, ln, fi) 3 from if_pos (by decide)]
    refine fr_iload_n (pc := 26) rfl dX4_tight_26 ?_
    refine fr_bipush (pc := 27) (v := 36) rfl dX4_tight_27 ?_
    refine fr_icmp_gt (pc := 29) 65 (by decide) dX4_tight_29 (fun h29 => ?_) (fun h29 => ?_)
    · refine fr_aload_n (pc := 65) rfl dX4_tight_65 ?_
      refine fr_iconst (pc := 66) (v := 3) rfl dX4_tight_66 ?_
      refine fr_callV0 (pc := 67) (ci := 3) (T := TX4) (N := 7) [.int 3] [] (c_X4_found (k := 3) (by decide)) gc_X4_51 rfl rfl ⟨rfl, rfl, by decide, by decide⟩ (Nat.le_of_ble_eq_true rfl) rfl (by decide) x_0 ⟨by decide, by decide⟩ dX4_tight_67 ?_
      exact fr_ireturn (pc := 70) rfl rfl rfl rfl dX4_tight_70
    · exact absurd (nI_lt (a := 36) (b := m) (by omega) (by omega)) h29
  | succ k ih =>
    intro m t hn
    by_cases hp : (q_tight r i n) m = true
    · refine ⟨s_hold n (u2 r 1 i (nI m)), ?_⟩
      have w1 : wf (u2 r 1 i (nI m)) := by
        refine wf_u2 w ?_ ?_ ?_ ?_ ?_ ?_ ?_ <;> (intro h; try omega)
      rw [show s_first (q_tight r i n) (k + 1) m = nI m from if_pos hp, show orN (r, rk, ik, S, b, ln, fi) (nI m) = (nI m, (r, rk, ik, S, b, ln, fi)) from if_neg (nI_pos (by omega))]
      refine fr_iload_n (pc := 26) rfl dX4_tight_26 ?_
      refine fr_bipush (pc := 27) (v := 36) rfl dX4_tight_27 ?_
      refine fr_icmp_gt (pc := 29) 65 (by decide) dX4_tight_29 (fun h29 => ?_) (fun h29 => ?_)
      · exact absurd h29 (nI_nlt (a := 36) (b := m) (by omega) (by omega))
      · refine fr_aload_n (pc := 32) rfl dX4_tight_32 ?_
        refine fr_callV0 (pc := 33) (ci := 3) (T := TX4) (N := 7) [] [] (c_X4_startTrial) gc_X4_152 rfl rfl ⟨rfl, rfl, by decide, by decide⟩ (Nat.le_of_ble_eq_true rfl) rfl (by decide) x_0 ⟨by decide, by decide⟩ dX4_tight_33 ?_
        refine fr_aload_n (pc := 36) rfl dX4_tight_36 ?_
        refine fr_get (pc := 37) (ci := 3) (T := TX4) (k0 := 2) rfl hin_X4 (by decide) fl_X4_19 (by decide) x_0 rfl dX4_tight_37 ?_
        refine fr_get (pc := 40) (ci := 0) (T := TX0) (k0 := 1) rfl hin_X0 (by decide) fl_X4_78 (by decide) x_21 rfl dX4_tight_40 ?_
        refine fr_iload_n (pc := 43) rfl dX4_tight_43 ?_
        refine fr_iload_n (pc := 44) rfl dX4_tight_44 ?_
        refine fr_iast (pc := 45) i rfl (by decide) x_t2 (by first | assumption | omega) (by decide) dX4_tight_45 ?_
        refine fr_mem x_ta1 ?_
        refine fr_aload_n (pc := 46) rfl dX4_tight_46 ?_
        refine fr_get (pc := 47) (ci := 3) (T := TX4) (k0 := 2) rfl hin_X4 (by decide) fl_X4_19 (by decide) x_0 rfl dX4_tight_47 ?_
        refine fr_iload_n (pc := 50) rfl dX4_tight_50 ?_
        refine fr_callV0 (pc := 51) (ci := 0) (T := TX0) (N := 15) [.int (nI n)] [] (ev_T (fun _ => c_X0_holdsFor (by omega) (by assumption) (by omega))) gc_X4_164 rfl rfl ⟨rfl, rfl, by decide, by decide⟩ (Nat.le_of_ble_eq_true rfl) rfl (by decide) x_21 ⟨by decide, by decide⟩ dX4_tight_51 ?_
        refine fr_if_eq (pc := 54) 59 (by decide) dX4_tight_54 (fun h54 => ?_) (fun h54 => ?_)
        · have g54 := bI_0.mp h54
          exact absurd (of_decide_eq_true hp) g54
        · have g54 := bI_n0 h54
          refine fr_iload_n (pc := 57) rfl dX4_tight_57 ?_
          exact fr_ireturn (pc := 58) rfl rfl rfl rfl dX4_tight_58
    · obtain ⟨t', ht⟩ := ih (m + 1) (s_hold n (u2 r 1 i (nI m))) (by omega)
      refine ⟨t', ?_⟩
      have w1 : wf (u2 r 1 i (nI m)) := by
        refine wf_u2 w ?_ ?_ ?_ ?_ ?_ ?_ ?_ <;> (intro h; try omega)
      rw [show s_first (q_tight r i n) (k + 1) m = s_first (q_tight r i n) k (m + 1) from if_neg hp]
      refine fr_iload_n (pc := 26) rfl dX4_tight_26 ?_
      refine fr_bipush (pc := 27) (v := 36) rfl dX4_tight_27 ?_
      refine fr_icmp_gt (pc := 29) 65 (by decide) dX4_tight_29 (fun h29 => ?_) (fun h29 => ?_)
      · exact absurd h29 (nI_nlt (a := 36) (b := m) (by omega) (by omega))
      · refine fr_aload_n (pc := 32) rfl dX4_tight_32 ?_
        refine fr_callV0 (pc := 33) (ci := 3) (T := TX4) (N := 7) [] [] (c_X4_startTrial) gc_X4_152 rfl rfl ⟨rfl, rfl, by decide, by decide⟩ (Nat.le_of_ble_eq_true rfl) rfl (by decide) x_0 ⟨by decide, by decide⟩ dX4_tight_33 ?_
        refine fr_aload_n (pc := 36) rfl dX4_tight_36 ?_
        refine fr_get (pc := 37) (ci := 3) (T := TX4) (k0 := 2) rfl hin_X4 (by decide) fl_X4_19 (by decide) x_0 rfl dX4_tight_37 ?_
        refine fr_get (pc := 40) (ci := 0) (T := TX0) (k0 := 1) rfl hin_X0 (by decide) fl_X4_78 (by decide) x_21 rfl dX4_tight_40 ?_
        refine fr_iload_n (pc := 43) rfl dX4_tight_43 ?_
        refine fr_iload_n (pc := 44) rfl dX4_tight_44 ?_
        refine fr_iast (pc := 45) i rfl (by decide) x_t2 (by first | assumption | omega) (by decide) dX4_tight_45 ?_
        refine fr_mem x_ta1 ?_
        refine fr_aload_n (pc := 46) rfl dX4_tight_46 ?_
        refine fr_get (pc := 47) (ci := 3) (T := TX4) (k0 := 2) rfl hin_X4 (by decide) fl_X4_19 (by decide) x_0 rfl dX4_tight_47 ?_
        refine fr_iload_n (pc := 50) rfl dX4_tight_50 ?_
        refine fr_callV0 (pc := 51) (ci := 0) (T := TX0) (N := 15) [.int (nI n)] [] (ev_T (fun _ => c_X0_holdsFor (by omega) (by assumption) (by omega))) gc_X4_164 rfl rfl ⟨rfl, rfl, by decide, by decide⟩ (Nat.le_of_ble_eq_true rfl) rfl (by decide) x_21 ⟨by decide, by decide⟩ dX4_tight_51 ?_
        refine fr_if_eq (pc := 54) 59 (by decide) dX4_tight_54 (fun h54 => ?_) (fun h54 => ?_)
        · have g54 := bI_0.mp h54
          refine fr_iinc (pc := 59) (v := nI (m + 1)) [(3, .int (nI (m + 1))), (0, .ref 0), (1, .int (nI i)), (2, .int (nI n))] rfl (nI_1 m) (by decide) rfl dX4_tight_59 ?_
          refine fr_goto (pc := 62) 26 (by decide) dX4_tight_62 ?_
          exact fr_sub [1, 2, 3, 0] rfl (ht)
        · have g54 := bI_n0 h54
          exact absurd (decide_eq_true g54) hp
set_option maxRecDepth 100000 in
theorem mf_first {Γ : aG} {l : Launch} {M : Nat → aC} {r rk : rT} {ik : Int32} {S : sT} {b : Nat → Int32} {ln : Int32} {J : Int32 × Int32 × Int32 × Int32} {fi : Nat → Int32} (w : wf r) {g c : Nat} (hg : g < 8) : ∀ (k m : Nat) (t : rT), m + k = 37 → ∃ t' : rT, Fr Γ l mX4_measureFor 24 [(0, .ref 0), (1, .int (nI g)), (2, .int (nI c)), (3, .int (nI m))] [] 54 0 0 (xM M r rk t ik S (b, ln, J) fi) (some (.int (orN (r, rk, ik, S, b, ln, fi) (s_first (q_mf r g c) k m)).1)) 54 (xF M t' J (orN (r, rk, ik, S, b, ln, fi) (s_first (q_mf r g c) k m)).2) := by
  intro k
  induction k with
  | zero =>
    intro m t hn
    refine ⟨t, ?_⟩
    rw [show s_first (q_mf r g c) 0 m = -1 from rfl, show orN (r, rk, ik, S, b, ln, fi) (-1) = fb (r, rk, ik, S, b, ln, fi) 3 from if_pos (by decide)]
    refine fr_iload_n (pc := 24) rfl dX4_measureFor_24 ?_
    refine fr_bipush (pc := 25) (v := 36) rfl dX4_measureFor_25 ?_
    refine fr_icmp_gt (pc := 27) 51 (by decide) dX4_measureFor_27 (fun h27 => ?_) (fun h27 => ?_)
    · refine fr_aload_n (pc := 51) rfl dX4_measureFor_51 ?_
      refine fr_iconst (pc := 52) (v := 3) rfl dX4_measureFor_52 ?_
      refine fr_callV0 (pc := 53) (ci := 3) (T := TX4) (N := 7) [.int 3] [] (c_X4_found (k := 3) (by decide)) gc_X4_51 rfl rfl ⟨rfl, rfl, by decide, by decide⟩ (Nat.le_of_ble_eq_true rfl) rfl (by decide) x_0 ⟨by decide, by decide⟩ dX4_measureFor_53 ?_
      exact fr_ireturn (pc := 56) rfl rfl rfl rfl dX4_measureFor_56
    · exact absurd (nI_lt (a := 36) (b := m) (by omega) (by omega)) h27
  | succ k ih =>
    intro m t hn
    by_cases hp : (q_mf r g c) m = true
    · refine ⟨t, ?_⟩
      rw [show s_first (q_mf r g c) (k + 1) m = nI m from if_pos hp, show orN (r, rk, ik, S, b, ln, fi) (nI m) = (nI m, (r, rk, ik, S, b, ln, fi)) from if_neg (nI_pos (by omega))]
      refine fr_iload_n (pc := 24) rfl dX4_measureFor_24 ?_
      refine fr_bipush (pc := 25) (v := 36) rfl dX4_measureFor_25 ?_
      refine fr_icmp_gt (pc := 27) 51 (by decide) dX4_measureFor_27 (fun h27 => ?_) (fun h27 => ?_)
      · exact absurd h27 (nI_nlt (a := 36) (b := m) (by omega) (by omega))
      · refine fr_aload_n (pc := 30) rfl dX4_measureFor_30 ?_
        refine fr_get (pc := 31) (ci := 3) (T := TX4) (k0 := 0) rfl hin_X4 (by decide) fl_X4_10 (by decide) x_0 rfl dX4_measureFor_31 ?_
        refine fr_iload_n (pc := 34) rfl dX4_measureFor_34 ?_
        refine fr_iload_n (pc := 35) rfl dX4_measureFor_35 ?_
        refine fr_iload_n (pc := 36) rfl dX4_measureFor_36 ?_
        refine fr_callV0 (pc := 37) (ci := 0) (T := TX0) (N := 15) [.int (nI g), .int (nI c), .int (nI m)] [] (ev_H (fun _ => c_X0_canReach (by omega) (by omega) (by assumption))) gc_X4_167 rfl rfl ⟨rfl, rfl, by decide, by decide⟩ (Nat.le_of_ble_eq_true rfl) rfl (by decide) x_1 ⟨by decide, by decide⟩ dX4_measureFor_37 ?_
        refine fr_if_eq (pc := 40) 45 (by decide) dX4_measureFor_40 (fun h40 => ?_) (fun h40 => ?_)
        · have g40 := bI_0.mp h40
          exact absurd (of_decide_eq_true hp) g40
        · have g40 := bI_n0 h40
          refine fr_iload_n (pc := 43) rfl dX4_measureFor_43 ?_
          exact fr_ireturn (pc := 44) rfl rfl rfl rfl dX4_measureFor_44
    · obtain ⟨t', ht⟩ := ih (m + 1) t (by omega)
      refine ⟨t', ?_⟩
      rw [show s_first (q_mf r g c) (k + 1) m = s_first (q_mf r g c) k (m + 1) from if_neg hp]
      refine fr_iload_n (pc := 24) rfl dX4_measureFor_24 ?_
      refine fr_bipush (pc := 25) (v := 36) rfl dX4_measureFor_25 ?_
      refine fr_icmp_gt (pc := 27) 51 (by decide) dX4_measureFor_27 (fun h27 => ?_) (fun h27 => ?_)
      · exact absurd h27 (nI_nlt (a := 36) (b := m) (by omega) (by omega))
      · refine fr_aload_n (pc := 30) rfl dX4_measureFor_30 ?_
        refine fr_get (pc := 31) (ci := 3) (T := TX4) (k0 := 0) rfl hin_X4 (by decide) fl_X4_10 (by decide) x_0 rfl dX4_measureFor_31 ?_
        refine fr_iload_n (pc := 34) rfl dX4_measureFor_34 ?_
        refine fr_iload_n (pc := 35) rfl dX4_measureFor_35 ?_
        refine fr_iload_n (pc := 36) rfl dX4_measureFor_36 ?_
        refine fr_callV0 (pc := 37) (ci := 0) (T := TX0) (N := 15) [.int (nI g), .int (nI c), .int (nI m)] [] (ev_H (fun _ => c_X0_canReach (by omega) (by omega) (by assumption))) gc_X4_167 rfl rfl ⟨rfl, rfl, by decide, by decide⟩ (Nat.le_of_ble_eq_true rfl) rfl (by decide) x_1 ⟨by decide, by decide⟩ dX4_measureFor_37 ?_
        refine fr_if_eq (pc := 40) 45 (by decide) dX4_measureFor_40 (fun h40 => ?_) (fun h40 => ?_)
        · have g40 := bI_0.mp h40
          refine fr_iinc (pc := 45) (v := nI (m + 1)) [(3, .int (nI (m + 1))), (0, .ref 0), (1, .int (nI g)), (2, .int (nI c))] rfl (nI_1 m) (by decide) rfl dX4_measureFor_45 ?_
          refine fr_goto (pc := 48) 24 (by decide) dX4_measureFor_48 ?_
          exact fr_sub [1, 2, 3, 0] rfl (ht)
        · have g40 := bI_n0 h40
          exact absurd (decide_eq_true g40) hp
set_option maxRecDepth 100000 in
theorem sz_first {Γ : aG} {l : Launch} {M : Nat → aC} {r rk : rT} {ik : Int32} {S : sT} {b : Nat → Int32} {ln : Int32} {J : Int32 × Int32 × Int32 × Int32} {fi : Nat → Int32} (w : wf r) {g n : Nat} (hg : g < 8) (hn2 : n < 1000) : ∀ (k : Nat) (t : rT), k ≤ 40 → ∃ t' : rT, Fr Γ l mX4_sizeFor 27 [(0, .ref 0), (1, .int (nI g)), (2, .int (nI n)), (3, .int (nI k))] [] 54 0 0 (xM M r rk t ik S (b, ln, J) fi) (some (.int (orN (r, rk, ik, S, b, ln, fi) (s_firstD (q_sz r g n) k)).1)) 54 (xF M t' J (orN (r, rk, ik, S, b, ln, fi) (s_firstD (q_sz r g n) k)).2) := by
  intro k
  induction k with
  | zero =>
    intro t hn
    refine ⟨t, ?_⟩
    rw [show s_firstD (q_sz r g n) 0 = -1 from rfl, show orN (r, rk, ik, S, b, ln, fi) (-1) = fb (r, rk, ik, S, b, ln, fi) 3 from if_pos (by decide)]
    refine fr_iload_n (pc := 27) rfl dX4_sizeFor_27 ?_
    refine fr_iconst (pc := 28) (v := 1) rfl dX4_sizeFor_28 ?_
    refine fr_icmp_lt (pc := 29) 83 (by decide) dX4_sizeFor_29 (fun h29 => ?_) (fun h29 => ?_)
    · refine fr_aload_n (pc := 83) rfl dX4_sizeFor_83 ?_
      refine fr_iconst (pc := 84) (v := 3) rfl dX4_sizeFor_84 ?_
      refine fr_callV0 (pc := 85) (ci := 3) (T := TX4) (N := 7) [.int 3] [] (c_X4_found (k := 3) (by decide)) gc_X4_51 rfl rfl ⟨rfl, rfl, by decide, by decide⟩ (Nat.le_of_ble_eq_true rfl) rfl (by decide) x_0 ⟨by decide, by decide⟩ dX4_sizeFor_85 ?_
      exact fr_ireturn (pc := 88) rfl rfl rfl rfl dX4_sizeFor_88
    · exact absurd (by decide) h29
  | succ k ih =>
    intro t hn
    by_cases hp : (q_sz r g n) (k + 1) = true
    · refine ⟨s_hours n (u2 r 4 g (nI (k + 1))), ?_⟩
      have w1 : wf (u2 r 4 g (nI (k + 1))) := by
        refine wf_u2 w ?_ ?_ ?_ ?_ ?_ ?_ ?_ <;> (intro h; try omega)
      rw [show s_firstD (q_sz r g n) (k + 1) = nI (k + 1) from if_pos hp, show orN (r, rk, ik, S, b, ln, fi) (nI (k + 1)) = (nI (k + 1), (r, rk, ik, S, b, ln, fi)) from if_neg (nI_pos (by omega))]
      refine fr_iload_n (pc := 27) rfl dX4_sizeFor_27 ?_
      refine fr_iconst (pc := 28) (v := 1) rfl dX4_sizeFor_28 ?_
      refine fr_icmp_lt (pc := 29) 83 (by decide) dX4_sizeFor_29 (fun h29 => ?_) (fun h29 => ?_)
      · exact absurd h29 (nI_nlt (a := k + 1) (b := 1) (by omega) (by omega))
      · refine fr_aload_n (pc := 32) rfl dX4_sizeFor_32 ?_
        refine fr_callV0 (pc := 33) (ci := 3) (T := TX4) (N := 7) [] [] (c_X4_startTrial) gc_X4_152 rfl rfl ⟨rfl, rfl, by decide, by decide⟩ (Nat.le_of_ble_eq_true rfl) rfl (by decide) x_0 ⟨by decide, by decide⟩ dX4_sizeFor_33 ?_
        refine fr_aload_n (pc := 36) rfl dX4_sizeFor_36 ?_
        refine fr_get (pc := 37) (ci := 3) (T := TX4) (k0 := 2) rfl hin_X4 (by decide) fl_X4_19 (by decide) x_0 rfl dX4_sizeFor_37 ?_
        refine fr_get (pc := 40) (ci := 0) (T := TX0) (k0 := 9) rfl hin_X0 (by decide) fl_X4_170 (by decide) x_21 rfl dX4_sizeFor_40 ?_
        refine fr_iload_n (pc := 43) rfl dX4_sizeFor_43 ?_
        refine fr_iload_n (pc := 44) rfl dX4_sizeFor_44 ?_
        refine fr_iast (pc := 45) g rfl (by decide) x_t5 (by first | assumption | omega) (by decide) dX4_sizeFor_45 ?_
        refine fr_mem x_ta4 ?_
        refine fr_aload_n (pc := 46) rfl dX4_sizeFor_46 ?_
        refine fr_get (pc := 47) (ci := 3) (T := TX4) (k0 := 2) rfl hin_X4 (by decide) fl_X4_19 (by decide) x_0 rfl dX4_sizeFor_47 ?_
        refine fr_iload_n (pc := 50) rfl dX4_sizeFor_50 ?_
        refine fr_callV0 (pc := 51) (ci := 0) (T := TX0) (N := 15) [.int (nI n)] [] (ev_T (fun _ => c_X0_passHours (by omega) (by assumption) (by omega))) gc_X4_132 rfl rfl ⟨rfl, rfl, by decide, by decide⟩ (Nat.le_of_ble_eq_true rfl) rfl (by decide) x_21 ⟨by decide, by decide⟩ dX4_sizeFor_51 ?_
        refine fr_aload_n (pc := 54) rfl dX4_sizeFor_54 ?_
        refine fr_get (pc := 55) (ci := 3) (T := TX4) (k0 := 2) rfl hin_X4 (by decide) fl_X4_19 (by decide) x_0 rfl dX4_sizeFor_55 ?_
        refine fr_get (pc := 58) (ci := 0) (T := TX0) (k0 := 8) rfl hin_X0 (by decide) fl_X4_158 (by decide) x_21 rfl dX4_sizeFor_58 ?_
        refine fr_iload_n (pc := 61) rfl dX4_sizeFor_61 ?_
        refine fr_iald (pc := 62) g rfl (by decide) x_t4 (by first | assumption | omega) (by decide) dX4_sizeFor_62 ?_
        refine fr_aload_n (pc := 63) rfl dX4_sizeFor_63 ?_
        refine fr_get (pc := 64) (ci := 3) (T := TX4) (k0 := 2) rfl hin_X4 (by decide) fl_X4_19 (by decide) x_0 rfl dX4_sizeFor_64 ?_
        refine fr_get (pc := 67) (ci := 0) (T := TX0) (k0 := 10) rfl hin_X0 (by decide) fl_X4_173 (by decide) x_21 rfl dX4_sizeFor_67 ?_
        refine fr_iload_n (pc := 70) rfl dX4_sizeFor_70 ?_
        refine fr_iald (pc := 71) g rfl (by decide) x_t6 (by first | assumption | omega) (by decide) dX4_sizeFor_71 ?_
        refine fr_icmp_ne (pc := 72) 77 (by decide) dX4_sizeFor_72 (fun h72 => ?_) (fun h72 => ?_)
        · exact absurd (of_decide_eq_true hp) h72
        · refine fr_iload_n (pc := 75) rfl dX4_sizeFor_75 ?_
          exact fr_ireturn (pc := 76) rfl rfl rfl rfl dX4_sizeFor_76
    · obtain ⟨t', ht⟩ := ih (s_hours n (u2 r 4 g (nI (k + 1)))) (by omega)
      refine ⟨t', ?_⟩
      have w1 : wf (u2 r 4 g (nI (k + 1))) := by
        refine wf_u2 w ?_ ?_ ?_ ?_ ?_ ?_ ?_ <;> (intro h; try omega)
      rw [show s_firstD (q_sz r g n) (k + 1) = s_firstD (q_sz r g n) k from if_neg hp]
      refine fr_iload_n (pc := 27) rfl dX4_sizeFor_27 ?_
      refine fr_iconst (pc := 28) (v := 1) rfl dX4_sizeFor_28 ?_
      refine fr_icmp_lt (pc := 29) 83 (by decide) dX4_sizeFor_29 (fun h29 => ?_) (fun h29 => ?_)
      · exact absurd h29 (nI_nlt (a := k + 1) (b := 1) (by omega) (by omega))
      · refine fr_aload_n (pc := 32) rfl dX4_sizeFor_32 ?_
        refine fr_callV0 (pc := 33) (ci := 3) (T := TX4) (N := 7) [] [] (c_X4_startTrial) gc_X4_152 rfl rfl ⟨rfl, rfl, by decide, by decide⟩ (Nat.le_of_ble_eq_true rfl) rfl (by decide) x_0 ⟨by decide, by decide⟩ dX4_sizeFor_33 ?_
        refine fr_aload_n (pc := 36) rfl dX4_sizeFor_36 ?_
        refine fr_get (pc := 37) (ci := 3) (T := TX4) (k0 := 2) rfl hin_X4 (by decide) fl_X4_19 (by decide) x_0 rfl dX4_sizeFor_37 ?_
        refine fr_get (pc := 40) (ci := 0) (T := TX0) (k0 := 9) rfl hin_X0 (by decide) fl_X4_170 (by decide) x_21 rfl dX4_sizeFor_40 ?_
        refine fr_iload_n (pc := 43) rfl dX4_sizeFor_43 ?_
        refine fr_iload_n (pc := 44) rfl dX4_sizeFor_44 ?_
        refine fr_iast (pc := 45) g rfl (by decide) x_t5 (by first | assumption | omega) (by decide) dX4_sizeFor_45 ?_
        refine fr_mem x_ta4 ?_
        refine fr_aload_n (pc := 46) rfl dX4_sizeFor_46 ?_
        refine fr_get (pc := 47) (ci := 3) (T := TX4) (k0 := 2) rfl hin_X4 (by decide) fl_X4_19 (by decide) x_0 rfl dX4_sizeFor_47 ?_
        refine fr_iload_n (pc := 50) rfl dX4_sizeFor_50 ?_
        refine fr_callV0 (pc := 51) (ci := 0) (T := TX0) (N := 15) [.int (nI n)] [] (ev_T (fun _ => c_X0_passHours (by omega) (by assumption) (by omega))) gc_X4_132 rfl rfl ⟨rfl, rfl, by decide, by decide⟩ (Nat.le_of_ble_eq_true rfl) rfl (by decide) x_21 ⟨by decide, by decide⟩ dX4_sizeFor_51 ?_
        refine fr_aload_n (pc := 54) rfl dX4_sizeFor_54 ?_
        refine fr_get (pc := 55) (ci := 3) (T := TX4) (k0 := 2) rfl hin_X4 (by decide) fl_X4_19 (by decide) x_0 rfl dX4_sizeFor_55 ?_
        refine fr_get (pc := 58) (ci := 0) (T := TX0) (k0 := 8) rfl hin_X0 (by decide) fl_X4_158 (by decide) x_21 rfl dX4_sizeFor_58 ?_
        refine fr_iload_n (pc := 61) rfl dX4_sizeFor_61 ?_
        refine fr_iald (pc := 62) g rfl (by decide) x_t4 (by first | assumption | omega) (by decide) dX4_sizeFor_62 ?_
        refine fr_aload_n (pc := 63) rfl dX4_sizeFor_63 ?_
        refine fr_get (pc := 64) (ci := 3) (T := TX4) (k0 := 2) rfl hin_X4 (by decide) fl_X4_19 (by decide) x_0 rfl dX4_sizeFor_64 ?_
        refine fr_get (pc := 67) (ci := 0) (T := TX0) (k0 := 10) rfl hin_X0 (by decide) fl_X4_173 (by decide) x_21 rfl dX4_sizeFor_67 ?_
        refine fr_iload_n (pc := 70) rfl dX4_sizeFor_70 ?_
        refine fr_iald (pc := 71) g rfl (by decide) x_t6 (by first | assumption | omega) (by decide) dX4_sizeFor_71 ?_
        refine fr_icmp_ne (pc := 72) 77 (by decide) dX4_sizeFor_72 (fun h72 => ?_) (fun h72 => ?_)
        · refine fr_iinc (pc := 77) (v := nI k) [(3, .int (nI k)), (0, .ref 0), (1, .int (nI g)), (2, .int (nI n))] rfl (by rw [show Int32.ofInt (-1) = (-1 : Int32) from by decide]; exact pk_m1 k) (by decide) rfl dX4_sizeFor_77 ?_
          refine fr_goto (pc := 80) 27 (by decide) dX4_sizeFor_80 ?_
          exact fr_sub [1, 2, 3, 0] rfl (ht)
        · exact absurd (decide_eq_true h72) hp
set_option maxRecDepth 100000 in
theorem x_tight {Γ : aG} {l : Launch} {M : Nat → aC} {r rk t : rT} {ik : Int32} {S : sT} {b : Nat → Int32} {ln : Int32} {J : Int32 × Int32 × Int32 × Int32} {fi : Nat → Int32} {i n : Int32} (w : wf r)  : ∃ t' : rT, Ev Γ l mX4_tight [.ref 0, .int i, .int n] 54 (xM M r rk t ik S (b, ln, J) fi) (some (.int (sp_tight (r, rk, ik, S, b, ln, fi) i n).1)) 54 (xF M t' J (sp_tight (r, rk, ik, S, b, ln, fi) i n).2) := by
  by_cases hc : wi i 0 5 = true ∧ wi n 0 60 = true
  · obtain ⟨i1, hi1, rfl⟩ := wi_nI (N := 5) hc.1 rfl
    have ei1 : (nI i1).toNatClampNeg = i1 := nI_clamp (by omega)
    obtain ⟨i2, hi2, rfl⟩ := wi_nI (N := 60) hc.2 rfl
    have ei2 : (nI i2).toNatClampNeg = i2 := nI_clamp (by omega)
    obtain ⟨t', ht⟩ := tg_first (Γ := Γ) (l := l) (M := M) (r := r) (rk := rk) (ik := ik) (S := S) (b := b) (ln := ln) (J := J) (fi := fi) w (i := i1) (n := i2) (by omega) (by omega) 21 16 t rfl
    refine ⟨t', ?_⟩
    rw [show sp_tight (r, rk, ik, S, b, ln, fi) (nI i1) (nI i2) = orN (r, rk, ik, S, b, ln, fi) (s_first (q_tight r i1 i2) 21 16) from by unfold sp_tight; rw [ei1, ei2]; exact if_pos hc]
    refine Ev.of [(0, .ref 0), (1, .int (nI i1)), (2, .int (nI i2))] (by decide) (Nat.le_of_ble_eq_true rfl) rfl ?_
    refine fr_iload_n (pc := 0) rfl dX4_tight_0 ?_
    refine fr_callS0 (pc := 1) [.int (nI i1)] [] (c_X4_isListed) gc_X4_72 rfl rfl ⟨rfl, rfl, by decide, by decide⟩ (Nat.le_of_ble_eq_true rfl) ⟨by decide, by decide⟩ dX4_tight_1 ?_
    refine fr_if_eq (pc := 4) 17 (by decide) dX4_tight_4 (fun h4 => ?_) (fun h4 => ?_)
    · have g4 := bI_0.mp h4
      exact absurd hc.1 g4
    · have g4 := bI_n0 h4
      refine fr_iload_n (pc := 7) rfl dX4_tight_7 ?_
      refine fr_iconst (pc := 8) (v := 0) rfl dX4_tight_8 ?_
      refine fr_bipush (pc := 9) (v := 60) rfl dX4_tight_9 ?_
      refine fr_callS0 (pc := 11) [.int (nI i2), .int 0, .int 60] [] (c_X4_within) gc_X4_44 rfl rfl ⟨rfl, rfl, by decide, by decide⟩ (Nat.le_of_ble_eq_true rfl) ⟨by decide, by decide⟩ dX4_tight_11 ?_
      refine fr_if_ne (pc := 14) 23 (by decide) dX4_tight_14 (fun h14 => ?_) (fun h14 => ?_)
      · have g14 := bI_n0 h14
        refine fr_bipush (pc := 23) (v := 16) rfl dX4_tight_23 ?_
        refine fr_istore_n (pc := 25) [(3, .int 16), (0, .ref 0), (1, .int (nI i1)), (2, .int (nI i2))] (by decide) rfl dX4_tight_25 ?_
        exact fr_sub [1, 2, 3, 0] rfl (ht)
      · have g14 := bI_0.mp h14
        exact absurd hc.2 g14
  · refine ⟨t, ?_⟩
    rw [show sp_tight (r, rk, ik, S, b, ln, fi) i n = fb (r, rk, ik, S, b, ln, fi) 0 from if_neg hc]
    refine Ev.of [(0, .ref 0), (1, .int i), (2, .int n)] (by decide) (Nat.le_of_ble_eq_true rfl) rfl ?_
    refine fr_iload_n (pc := 0) rfl dX4_tight_0 ?_
    refine fr_callS0 (pc := 1) [.int i] [] (c_X4_isListed) gc_X4_72 rfl rfl ⟨rfl, rfl, by decide, by decide⟩ (Nat.le_of_ble_eq_true rfl) ⟨by decide, by decide⟩ dX4_tight_1 ?_
    refine fr_if_eq (pc := 4) 17 (by decide) dX4_tight_4 (fun h4 => ?_) (fun h4 => ?_)
    · have g4 := bI_0.mp h4
      refine fr_aload_n (pc := 17) rfl dX4_tight_17 ?_
      refine fr_iconst (pc := 18) (v := 0) rfl dX4_tight_18 ?_
      refine fr_callV0 (pc := 19) (ci := 3) (T := TX4) (N := 7) [.int 0] [] (c_X4_found (k := 0) (by decide)) gc_X4_51 rfl rfl ⟨rfl, rfl, by decide, by decide⟩ (Nat.le_of_ble_eq_true rfl) rfl (by decide) x_0 ⟨by decide, by decide⟩ dX4_tight_19 ?_
      exact fr_ireturn (pc := 22) rfl rfl rfl rfl dX4_tight_22
    · have g4 := bI_n0 h4
      refine fr_iload_n (pc := 7) rfl dX4_tight_7 ?_
      refine fr_iconst (pc := 8) (v := 0) rfl dX4_tight_8 ?_
      refine fr_bipush (pc := 9) (v := 60) rfl dX4_tight_9 ?_
      refine fr_callS0 (pc := 11) [.int n, .int 0, .int 60] [] (c_X4_within) gc_X4_44 rfl rfl ⟨rfl, rfl, by decide, by decide⟩ (Nat.le_of_ble_eq_true rfl) ⟨by decide, by decide⟩ dX4_tight_11 ?_
      refine fr_if_ne (pc := 14) 23 (by decide) dX4_tight_14 (fun h14 => ?_) (fun h14 => ?_)
      · have g14 := bI_n0 h14
        exact absurd ⟨g4, g14⟩ hc
      · have g14 := bI_0.mp h14
        refine fr_aload_n (pc := 17) rfl dX4_tight_17 ?_
        refine fr_iconst (pc := 18) (v := 0) rfl dX4_tight_18 ?_
        refine fr_callV0 (pc := 19) (ci := 3) (T := TX4) (N := 7) [.int 0] [] (c_X4_found (k := 0) (by decide)) gc_X4_51 rfl rfl ⟨rfl, rfl, by decide, by decide⟩ (Nat.le_of_ble_eq_true rfl) rfl (by decide) x_0 ⟨by decide, by decide⟩ dX4_tight_19 ?_
        exact fr_ireturn (pc := 22) rfl rfl rfl rfl dX4_tight_22
set_option maxRecDepth 100000 in
theorem x_measureFor {Γ : aG} {l : Launch} {M : Nat → aC} {r rk t : rT} {ik : Int32} {S : sT} {b : Nat → Int32} {ln : Int32} {J : Int32 × Int32 × Int32 × Int32} {fi : Nat → Int32} {g c : Int32} (w : wf r)  : ∃ t' : rT, Ev Γ l mX4_measureFor [.ref 0, .int g, .int c] 54 (xM M r rk t ik S (b, ln, J) fi) (some (.int (sp_measureFor (r, rk, ik, S, b, ln, fi) g c).1)) 54 (xF M t' J (sp_measureFor (r, rk, ik, S, b, ln, fi) g c).2) := by
  by_cases hc : wi g 0 (r 9 1 - 1) = true ∧ wi c 0 15 = true
  · obtain ⟨i1, hi1, rfl⟩ := sG_nI w hc.1
    have ei1 : (nI i1).toNatClampNeg = i1 := nI_clamp (by have := w.ctl; omega)
    have li1 : i1 < 8 := by have := w.ctl; omega
    obtain ⟨i2, hi2, rfl⟩ := wi_nI (N := 15) hc.2 rfl
    have ei2 : (nI i2).toNatClampNeg = i2 := nI_clamp (by omega)
    obtain ⟨t', ht⟩ := mf_first (Γ := Γ) (l := l) (M := M) (r := r) (rk := rk) (ik := ik) (S := S) (b := b) (ln := ln) (J := J) (fi := fi) w (g := i1) (c := i2) (by omega) 21 16 t rfl
    refine ⟨t', ?_⟩
    rw [show sp_measureFor (r, rk, ik, S, b, ln, fi) (nI i1) (nI i2) = orN (r, rk, ik, S, b, ln, fi) (s_first (q_mf r i1 i2) 21 16) from by unfold sp_measureFor; rw [ei1, ei2]; exact if_pos hc]
    refine Ev.of [(0, .ref 0), (1, .int (nI i1)), (2, .int (nI i2))] (by decide) (Nat.le_of_ble_eq_true rfl) rfl ?_
    refine fr_aload_n (pc := 0) rfl dX4_measureFor_0 ?_
    refine fr_iload_n (pc := 1) rfl dX4_measureFor_1 ?_
    refine fr_callV0 (pc := 2) (ci := 3) (T := TX4) (N := 7) [.int (nI i1)] [] (c_X4_isGuest) gc_X4_95 rfl rfl ⟨rfl, rfl, by decide, by decide⟩ (Nat.le_of_ble_eq_true rfl) rfl (by decide) x_0 ⟨by decide, by decide⟩ dX4_measureFor_2 ?_
    refine fr_if_eq (pc := 5) 15 (by decide) dX4_measureFor_5 (fun h5 => ?_) (fun h5 => ?_)
    · have g5 := bI_0.mp h5
      exact absurd hc.1 g5
    · have g5 := bI_n0 h5
      refine fr_iload_n (pc := 8) rfl dX4_measureFor_8 ?_
      refine fr_callS0 (pc := 9) [.int (nI i2)] [] (c_X4_isCell) gc_X4_65 rfl rfl ⟨rfl, rfl, by decide, by decide⟩ (Nat.le_of_ble_eq_true rfl) ⟨by decide, by decide⟩ dX4_measureFor_9 ?_
      refine fr_if_ne (pc := 12) 21 (by decide) dX4_measureFor_12 (fun h12 => ?_) (fun h12 => ?_)
      · have g12 := bI_n0 h12
        refine fr_bipush (pc := 21) (v := 16) rfl dX4_measureFor_21 ?_
        refine fr_istore_n (pc := 23) [(3, .int 16), (0, .ref 0), (1, .int (nI i1)), (2, .int (nI i2))] (by decide) rfl dX4_measureFor_23 ?_
        exact fr_sub [1, 2, 3, 0] rfl (ht)
      · have g12 := bI_0.mp h12
        exact absurd hc.2 g12
  · refine ⟨t, ?_⟩
    rw [show sp_measureFor (r, rk, ik, S, b, ln, fi) g c = fb (r, rk, ik, S, b, ln, fi) 0 from if_neg hc]
    refine Ev.of [(0, .ref 0), (1, .int g), (2, .int c)] (by decide) (Nat.le_of_ble_eq_true rfl) rfl ?_
    refine fr_aload_n (pc := 0) rfl dX4_measureFor_0 ?_
    refine fr_iload_n (pc := 1) rfl dX4_measureFor_1 ?_
    refine fr_callV0 (pc := 2) (ci := 3) (T := TX4) (N := 7) [.int g] [] (c_X4_isGuest) gc_X4_95 rfl rfl ⟨rfl, rfl, by decide, by decide⟩ (Nat.le_of_ble_eq_true rfl) rfl (by decide) x_0 ⟨by decide, by decide⟩ dX4_measureFor_2 ?_
    refine fr_if_eq (pc := 5) 15 (by decide) dX4_measureFor_5 (fun h5 => ?_) (fun h5 => ?_)
    · have g5 := bI_0.mp h5
      refine fr_aload_n (pc := 15) rfl dX4_measureFor_15 ?_
      refine fr_iconst (pc := 16) (v := 0) rfl dX4_measureFor_16 ?_
      refine fr_callV0 (pc := 17) (ci := 3) (T := TX4) (N := 7) [.int 0] [] (c_X4_found (k := 0) (by decide)) gc_X4_51 rfl rfl ⟨rfl, rfl, by decide, by decide⟩ (Nat.le_of_ble_eq_true rfl) rfl (by decide) x_0 ⟨by decide, by decide⟩ dX4_measureFor_17 ?_
      exact fr_ireturn (pc := 20) rfl rfl rfl rfl dX4_measureFor_20
    · have g5 := bI_n0 h5
      refine fr_iload_n (pc := 8) rfl dX4_measureFor_8 ?_
      refine fr_callS0 (pc := 9) [.int c] [] (c_X4_isCell) gc_X4_65 rfl rfl ⟨rfl, rfl, by decide, by decide⟩ (Nat.le_of_ble_eq_true rfl) ⟨by decide, by decide⟩ dX4_measureFor_9 ?_
      refine fr_if_ne (pc := 12) 21 (by decide) dX4_measureFor_12 (fun h12 => ?_) (fun h12 => ?_)
      · have g12 := bI_n0 h12
        exact absurd ⟨g5, g12⟩ hc
      · have g12 := bI_0.mp h12
        refine fr_aload_n (pc := 15) rfl dX4_measureFor_15 ?_
        refine fr_iconst (pc := 16) (v := 0) rfl dX4_measureFor_16 ?_
        refine fr_callV0 (pc := 17) (ci := 3) (T := TX4) (N := 7) [.int 0] [] (c_X4_found (k := 0) (by decide)) gc_X4_51 rfl rfl ⟨rfl, rfl, by decide, by decide⟩ (Nat.le_of_ble_eq_true rfl) rfl (by decide) x_0 ⟨by decide, by decide⟩ dX4_measureFor_17 ?_
        exact fr_ireturn (pc := 20) rfl rfl rfl rfl dX4_measureFor_20
set_option maxRecDepth 100000 in
theorem x_sizeFor {Γ : aG} {l : Launch} {M : Nat → aC} {r rk t : rT} {ik : Int32} {S : sT} {b : Nat → Int32} {ln : Int32} {J : Int32 × Int32 × Int32 × Int32} {fi : Nat → Int32} {g n : Int32} (w : wf r)  : ∃ t' : rT, Ev Γ l mX4_sizeFor [.ref 0, .int g, .int n] 54 (xM M r rk t ik S (b, ln, J) fi) (some (.int (sp_sizeFor (r, rk, ik, S, b, ln, fi) g n).1)) 54 (xF M t' J (sp_sizeFor (r, rk, ik, S, b, ln, fi) g n).2) := by
  by_cases hc : wi g 0 (r 9 1 - 1) = true ∧ wi n 0 60 = true
  · obtain ⟨i1, hi1, rfl⟩ := sG_nI w hc.1
    have ei1 : (nI i1).toNatClampNeg = i1 := nI_clamp (by have := w.ctl; omega)
    have li1 : i1 < 8 := by have := w.ctl; omega
    obtain ⟨i2, hi2, rfl⟩ := wi_nI (N := 60) hc.2 rfl
    have ei2 : (nI i2).toNatClampNeg = i2 := nI_clamp (by omega)
    obtain ⟨t', ht⟩ := sz_first (Γ := Γ) (l := l) (M := M) (r := r) (rk := rk) (ik := ik) (S := S) (b := b) (ln := ln) (J := J) (fi := fi) w (g := i1) (n := i2) (by omega) (by omega) 40 t (by omega)
    refine ⟨t', ?_⟩
    rw [show sp_sizeFor (r, rk, ik, S, b, ln, fi) (nI i1) (nI i2) = orN (r, rk, ik, S, b, ln, fi) (s_firstD (q_sz r i1 i2) 40) from by unfold sp_sizeFor; rw [ei1, ei2]; exact if_pos hc]
    refine Ev.of [(0, .ref 0), (1, .int (nI i1)), (2, .int (nI i2))] (by decide) (Nat.le_of_ble_eq_true rfl) rfl ?_
    refine fr_aload_n (pc := 0) rfl dX4_sizeFor_0 ?_
    refine fr_iload_n (pc := 1) rfl dX4_sizeFor_1 ?_
    refine fr_callV0 (pc := 2) (ci := 3) (T := TX4) (N := 7) [.int (nI i1)] [] (c_X4_isGuest) gc_X4_95 rfl rfl ⟨rfl, rfl, by decide, by decide⟩ (Nat.le_of_ble_eq_true rfl) rfl (by decide) x_0 ⟨by decide, by decide⟩ dX4_sizeFor_2 ?_
    refine fr_if_eq (pc := 5) 18 (by decide) dX4_sizeFor_5 (fun h5 => ?_) (fun h5 => ?_)
    · have g5 := bI_0.mp h5
      exact absurd hc.1 g5
    · have g5 := bI_n0 h5
      refine fr_iload_n (pc := 8) rfl dX4_sizeFor_8 ?_
      refine fr_iconst (pc := 9) (v := 0) rfl dX4_sizeFor_9 ?_
      refine fr_bipush (pc := 10) (v := 60) rfl dX4_sizeFor_10 ?_
      refine fr_callS0 (pc := 12) [.int (nI i2), .int 0, .int 60] [] (c_X4_within) gc_X4_44 rfl rfl ⟨rfl, rfl, by decide, by decide⟩ (Nat.le_of_ble_eq_true rfl) ⟨by decide, by decide⟩ dX4_sizeFor_12 ?_
      refine fr_if_ne (pc := 15) 24 (by decide) dX4_sizeFor_15 (fun h15 => ?_) (fun h15 => ?_)
      · have g15 := bI_n0 h15
        refine fr_bipush (pc := 24) (v := 40) rfl dX4_sizeFor_24 ?_
        refine fr_istore_n (pc := 26) [(3, .int 40), (0, .ref 0), (1, .int (nI i1)), (2, .int (nI i2))] (by decide) rfl dX4_sizeFor_26 ?_
        exact fr_sub [1, 2, 3, 0] rfl (ht)
      · have g15 := bI_0.mp h15
        exact absurd hc.2 g15
  · refine ⟨t, ?_⟩
    rw [show sp_sizeFor (r, rk, ik, S, b, ln, fi) g n = fb (r, rk, ik, S, b, ln, fi) 0 from if_neg hc]
    refine Ev.of [(0, .ref 0), (1, .int g), (2, .int n)] (by decide) (Nat.le_of_ble_eq_true rfl) rfl ?_
    refine fr_aload_n (pc := 0) rfl dX4_sizeFor_0 ?_
    refine fr_iload_n (pc := 1) rfl dX4_sizeFor_1 ?_
    refine fr_callV0 (pc := 2) (ci := 3) (T := TX4) (N := 7) [.int g] [] (c_X4_isGuest) gc_X4_95 rfl rfl ⟨rfl, rfl, by decide, by decide⟩ (Nat.le_of_ble_eq_true rfl) rfl (by decide) x_0 ⟨by decide, by decide⟩ dX4_sizeFor_2 ?_
    refine fr_if_eq (pc := 5) 18 (by decide) dX4_sizeFor_5 (fun h5 => ?_) (fun h5 => ?_)
    · have g5 := bI_0.mp h5
      refine fr_aload_n (pc := 18) rfl dX4_sizeFor_18 ?_
      refine fr_iconst (pc := 19) (v := 0) rfl dX4_sizeFor_19 ?_
      refine fr_callV0 (pc := 20) (ci := 3) (T := TX4) (N := 7) [.int 0] [] (c_X4_found (k := 0) (by decide)) gc_X4_51 rfl rfl ⟨rfl, rfl, by decide, by decide⟩ (Nat.le_of_ble_eq_true rfl) rfl (by decide) x_0 ⟨by decide, by decide⟩ dX4_sizeFor_20 ?_
      exact fr_ireturn (pc := 23) rfl rfl rfl rfl dX4_sizeFor_23
    · have g5 := bI_n0 h5
      refine fr_iload_n (pc := 8) rfl dX4_sizeFor_8 ?_
      refine fr_iconst (pc := 9) (v := 0) rfl dX4_sizeFor_9 ?_
      refine fr_bipush (pc := 10) (v := 60) rfl dX4_sizeFor_10 ?_
      refine fr_callS0 (pc := 12) [.int n, .int 0, .int 60] [] (c_X4_within) gc_X4_44 rfl rfl ⟨rfl, rfl, by decide, by decide⟩ (Nat.le_of_ble_eq_true rfl) ⟨by decide, by decide⟩ dX4_sizeFor_12 ?_
      refine fr_if_ne (pc := 15) 24 (by decide) dX4_sizeFor_15 (fun h15 => ?_) (fun h15 => ?_)
      · have g15 := bI_n0 h15
        exact absurd ⟨g5, g15⟩ hc
      · have g15 := bI_0.mp h15
        refine fr_aload_n (pc := 18) rfl dX4_sizeFor_18 ?_
        refine fr_iconst (pc := 19) (v := 0) rfl dX4_sizeFor_19 ?_
        refine fr_callV0 (pc := 20) (ci := 3) (T := TX4) (N := 7) [.int 0] [] (c_X4_found (k := 0) (by decide)) gc_X4_51 rfl rfl ⟨rfl, rfl, by decide, by decide⟩ (Nat.le_of_ble_eq_true rfl) rfl (by decide) x_0 ⟨by decide, by decide⟩ dX4_sizeFor_20 ?_
        exact fr_ireturn (pc := 23) rfl rfl rfl rfl dX4_sizeFor_23
