set_option maxRecDepth 100000 in
theorem ht_tail {Γ : aG} {l : Launch} {M : Nat → aC} {r0 : rT} {kr : Nat → Int32} {ik : Int32} {fi b : Nat → Int32} {ln : Int32} {S : sT} {it mv : Nat → Int32} {Q : yQ} {p q i : Nat} {lo hi : Int32} (h : ph p = (q, i)) (hp : p < 86) {n : Nat} {r : rT} : Fr Γ l mX5_hoursTo 46 [(0, .ref 42), (1, .int (nI p)), (2, .int lo), (3, .int hi), (4, .int (nI n))] [] 54 0 0 (yM M r kr (row r0) ik fi b ln S it mv Q) (some (.int (if wi (r q i) lo hi = true then nI n else -1))) 54 (yM M r0 kr (row r0) ik fi b ln S it mv Q) := by
  refine fr_aload_n (pc := 46) rfl dX5_hoursTo_46 ?_
  refine fr_aload_n (pc := 47) rfl dX5_hoursTo_47 ?_
  refine fr_get (pc := 48) (ci := 4) (T := TX5) (k0 := 0) rfl hin_X5 (by decide) fl_X5_9 (by decide) y_42 rfl dX5_hoursTo_48 ?_
  refine fr_iload_n (pc := 51) rfl dX5_hoursTo_51 ?_
  refine fr_iald (pc := 52) p rfl (by decide) y_43 (by first | assumption | omega) (by decide) dX5_hoursTo_52 ?_
  refine fr_eq (z := r q i) (row_at h) ?_
  refine fr_iload_n (pc := 53) rfl dX5_hoursTo_53 ?_
  refine fr_iload_n (pc := 54) rfl dX5_hoursTo_54 ?_
  refine fr_callS0 (pc := 55) [.int (r q i), .int lo, .int hi] [.ref 42] (c_X5_within) gc_X5_70 rfl rfl ⟨rfl, rfl, by decide, by decide⟩ (Nat.le_of_ble_eq_true rfl) ⟨by decide, by decide⟩ dX5_hoursTo_55 ?_
  refine fr_if_eq (pc := 58) 66 (by decide) dX5_hoursTo_58 (fun h58 => ?_) (fun h58 => ?_)
  · have g58 := bI_0.mp h58
    refine fr_iconst (pc := 66) (v := (-1)) rfl dX5_hoursTo_66 ?_
    refine fr_callV0 (pc := 67) (ci := 4) (T := TX5) (N := 20) [.int (-1)] [] (c_X5_putBack) gc_X5_181 rfl rfl ⟨rfl, rfl, by decide, by decide⟩ (Nat.le_of_ble_eq_true rfl) rfl (by decide) y_42 ⟨by decide, by decide⟩ dX5_hoursTo_67 ?_
    exact fr_ireturn (pc := 70) rfl (if_neg g58).symm rfl rfl dX5_hoursTo_70
  · have g58 := bI_n0 h58
    refine fr_iload (pc := 61) rfl dX5_hoursTo_61 ?_
    refine fr_goto (pc := 63) 67 (by decide) dX5_hoursTo_63 ?_
    refine fr_callV0 (pc := 67) (ci := 4) (T := TX5) (N := 20) [.int (nI n)] [] (c_X5_putBack) gc_X5_181 rfl rfl ⟨rfl, rfl, by decide, by decide⟩ (Nat.le_of_ble_eq_true rfl) rfl (by decide) y_42 ⟨by decide, by decide⟩ dX5_hoursTo_67 ?_
    exact fr_ireturn (pc := 70) rfl (if_pos g58).symm rfl rfl dX5_hoursTo_70
set_option maxRecDepth 100000 in
theorem ht_loop {Γ : aG} {l : Launch} {M : Nat → aC} {r0 : rT} {kr : Nat → Int32} {ik : Int32} {fi b : Nat → Int32} {ln : Int32} {S : sT} {it mv : Nat → Int32} {Q : yQ} {p q i : Nat} {lo hi : Int32} (h : ph p = (q, i)) (hp : p < 86) : ∀ (k n : Nat) (r : rT), wf r → n + k = 200 → Fr Γ l mX5_hoursTo 14 [(0, .ref 42), (1, .int (nI p)), (2, .int lo), (3, .int hi), (4, .int (nI n))] [] 54 0 0 (yM M r kr (row r0) ik fi b ln S it mv Q) (some (.int (s_find (fun t : rT => wi (t q i) lo hi) (k + 1) n r))) 54 (yM M r0 kr (row r0) ik fi b ln S it mv Q) := by
  intro k
  induction k with
  | zero =>
    intro n r w hn
    refine fr_iload (pc := 14) rfl dX5_hoursTo_14 ?_
    refine fr_sipush (pc := 16) (v := 200) rfl dX5_hoursTo_16 ?_
    refine fr_icmp_ge (pc := 19) 46 (by decide) dX5_hoursTo_19 (fun h19 => ?_) (fun h19 => ?_)
    · exact fr_sub [0, 1, 2, 3, 4] rfl (ht_tail h hp)
    · exact absurd (nI_le (a := 200) (b := n) (by omega) (by omega)) h19
  | succ k ih =>
    intro n r w hn
    refine fr_iload (pc := 14) rfl dX5_hoursTo_14 ?_
    refine fr_sipush (pc := 16) (v := 200) rfl dX5_hoursTo_16 ?_
    refine fr_icmp_ge (pc := 19) 46 (by decide) dX5_hoursTo_19 (fun h19 => ?_) (fun h19 => ?_)
    · exact absurd h19 (nI_ge (a := n) (b := 200) (by omega) (by omega))
    · refine fr_aload_n (pc := 22) rfl dX5_hoursTo_22 ?_
      refine fr_get (pc := 23) (ci := 4) (T := TX5) (k0 := 0) rfl hin_X5 (by decide) fl_X5_9 (by decide) y_42 rfl dX5_hoursTo_23 ?_
      refine fr_iload_n (pc := 26) rfl dX5_hoursTo_26 ?_
      refine fr_iald (pc := 27) p rfl (by decide) y_43 (by first | assumption | omega) (by decide) dX5_hoursTo_27 ?_
      refine fr_eq (z := r q i) (row_at h) ?_
      refine fr_iload_n (pc := 28) rfl dX5_hoursTo_28 ?_
      refine fr_iload_n (pc := 29) rfl dX5_hoursTo_29 ?_
      refine fr_callS0 (pc := 30) [.int (r q i), .int lo, .int hi] [] (c_X5_within) gc_X5_70 rfl rfl ⟨rfl, rfl, by decide, by decide⟩ (Nat.le_of_ble_eq_true rfl) ⟨by decide, by decide⟩ dX5_hoursTo_30 ?_
      refine fr_if_ne (pc := 33) 46 (by decide) dX5_hoursTo_33 (fun h33 => ?_) (fun h33 => ?_)
      · have g33 := bI_n0 h33
        rw [show s_find (fun t : rT => wi (t q i) lo hi) (k + 1 + 1) n r = (if wi (r q i) lo hi = true then nI n else -1) from (if_pos g33).trans (if_pos g33).symm]
        exact fr_sub [0, 1, 2, 3, 4] rfl (ht_tail h hp)
      · have g33 := bI_0.mp h33
        refine fr_aload_n (pc := 36) rfl dX5_hoursTo_36 ?_
        refine fr_callV0 (pc := 37) (ci := 4) (T := TX5) (N := 20) [] [] (c_X5_hour (by assumption)) gc_X5_162 rfl rfl ⟨rfl, rfl, by decide, by decide⟩ (Nat.le_of_ble_eq_true rfl) rfl (by decide) y_42 ⟨by decide, by decide⟩ dX5_hoursTo_37 ?_
        refine fr_iinc (pc := 40) (v := nI (n + 1)) [(4, .int (nI (n + 1))), (0, .ref 42), (1, .int (nI p)), (2, .int lo), (3, .int hi)] rfl (nI_1 n) (by decide) rfl dX5_hoursTo_40 ?_
        refine fr_goto (pc := 43) 14 (by decide) dX5_hoursTo_43 ?_
        rw [show s_find (fun t : rT => wi (t q i) lo hi) (k + 1 + 1) n r = s_find (fun t : rT => wi (t q i) lo hi) (k + 1) (n + 1) (s_hour r) from if_neg g33]
        exact fr_sub [1, 2, 3, 4, 0] rfl (ih (n + 1) (s_hour r) (wf_hour w) (by omega))
set_option maxRecDepth 100000 in
theorem c_X5_hoursTo {Γ : aG} {l : Launch} {M : Nat → aC} {r : rT} {kr ar : Nat → Int32} {ik : Int32} {fi b : Nat → Int32} {ln : Int32} {S : sT} {it mv : Nat → Int32} {Q : yQ} {p q i : Nat} {lo hi : Int32} (h : ph p = (q, i)) (hp : p < 86) (w : wf r)  : Ev Γ l mX5_hoursTo [.ref 42, .int (nI p), .int lo, .int hi] 54 (yM M r kr ar ik fi b ln S it mv Q) (some (.int (s_find (fun t : rT => wi (t q i) lo hi) 201 0 r))) 54 (yM M r kr (row r) ik fi b ln S it mv Q) := by
  refine Ev.of [(0, .ref 42), (1, .int (nI p)), (2, .int lo), (3, .int hi)] (by decide) (Nat.le_of_ble_eq_true rfl) rfl ?_
  refine fr_aload_n (pc := 0) rfl dX5_hoursTo_0 ?_
  refine fr_get (pc := 1) (ci := 4) (T := TX5) (k0 := 0) rfl hin_X5 (by decide) fl_X5_9 (by decide) y_42 rfl dX5_hoursTo_1 ?_
  refine fr_aload_n (pc := 4) rfl dX5_hoursTo_4 ?_
  refine fr_get (pc := 5) (ci := 4) (T := TX5) (k0 := 2) rfl hin_X5 (by decide) fl_X5_16 (by decide) y_42 rfl dX5_hoursTo_5 ?_
  refine fr_callS0 (pc := 8) [.ref 43, .ref 45] [] (c_cp_na) gc_X5_61 rfl rfl ⟨rfl, rfl, by decide, by decide⟩ (Nat.le_of_ble_eq_true rfl) ⟨by decide, by decide⟩ dX5_hoursTo_8 ?_
  refine fr_iconst (pc := 11) (v := 0) rfl dX5_hoursTo_11 ?_
  refine fr_istore (pc := 12) [(4, .int 0), (0, .ref 42), (1, .int (nI p)), (2, .int lo), (3, .int hi)] (by decide) rfl dX5_hoursTo_12 ?_
  exact fr_sub [1, 2, 3, 4, 0] rfl (ht_loop h hp 200 0 r w (by omega))
set_option maxRecDepth 100000 in
theorem y_snaps {Γ : aG} {l : Launch} {M : Nat → aC} {r : rT} {kr ar : Nat → Int32} {rk : rT} {ik : Int32} {fi b : Nat → Int32} {ln : Int32} {S : sT} {it mv : Nat → Int32} {Q : yQ} (w : wf r) : ∃ ar' : Nat → Int32, Ev Γ l mX5_snaps [.ref 42] 54 (yM M r kr ar ik fi b ln S it mv Q) (some (.int (sp_snaps (r, rk, ik, S, b, ln, fi)).1)) 54 (yF M kr ar' it mv Q (sp_snaps (r, rk, ik, S, b, ln, fi)).2) := by
  refine ⟨row r, ?_⟩
  rw [show sp_snaps (r, rk, ik, S, b, ln, fi) = orN (r, rk, ik, S, b, ln, fi) (s_find (fun t : rT => wi (t 9 5) 1 1) 201 0 r) from by unfold sp_snaps; rw [find_c (fun t _ => (wi_cc (t 9 5) 1).symm) 201 0 r w]]
  refine Ev.of [(0, .ref 42)] (by decide) (Nat.le_of_ble_eq_true rfl) rfl ?_
  refine fr_aload_n (pc := 0) rfl dX5_snaps_0 ?_
  refine fr_aload_n (pc := 1) rfl dX5_snaps_1 ?_
  refine fr_iconst (pc := 2) (v := 5) rfl dX5_snaps_2 ?_
  refine fr_iconst (pc := 3) (v := 1) rfl dX5_snaps_3 ?_
  refine fr_iconst (pc := 4) (v := 1) rfl dX5_snaps_4 ?_
  refine fr_callV0 (pc := 5) (ci := 4) (T := TX5) (N := 20) [.int 5, .int 1, .int 1] [.ref 42] (c_X5_hoursTo (p := 5) (ph_l (by decide)) (by first | decide | omega) (by assumption)) gc_X5_187 rfl rfl ⟨rfl, rfl, by decide, by decide⟩ (Nat.le_of_ble_eq_true rfl) rfl (by decide) y_42 ⟨by decide, by decide⟩ dX5_snaps_5 ?_
  refine fr_callV0 (pc := 8) (ci := 4) (T := TX5) (N := 20) [.int (s_find (fun t : rT => wi (t 9 5) 1 1) 201 0 r)] [] (c_X5_orNone (rk := rk)) gc_X5_191 rfl rfl ⟨rfl, rfl, by decide, by decide⟩ (Nat.le_of_ble_eq_true rfl) rfl (by decide) y_42 ⟨by decide, by decide⟩ dX5_snaps_8 ?_
  exact fr_ireturn (pc := 11) rfl rfl rfl rfl dX5_snaps_11
set_option maxRecDepth 100000 in
theorem y_comes {Γ : aG} {l : Launch} {M : Nat → aC} {r : rT} {kr ar : Nat → Int32} {rk : rT} {ik : Int32} {fi b : Nat → Int32} {ln : Int32} {S : sT} {it mv : Nat → Int32} {Q : yQ} {g c : Int32} (w : wf r) : ∃ ar' : Nat → Int32, Ev Γ l mX5_comes [.ref 42, .int g, .int c] 54 (yM M r kr ar ik fi b ln S it mv Q) (some (.int (sp_comes (r, rk, ik, S, b, ln, fi) g c).1)) 54 (yF M kr ar' it mv Q (sp_comes (r, rk, ik, S, b, ln, fi) g c).2) := by
  by_cases hc : sG (r, rk, ik, S, b, ln, fi) g = true ∧ wi c 0 15 = true
  · obtain ⟨i1, hi1, rfl⟩ := sG_nI w hc.1
    have ei1 : (nI i1).toNatClampNeg = i1 := nI_clamp (by have := w.ctl; omega)
    have li1 : i1 < 8 := by have := w.ctl; omega
    rw [show sp_comes (r, rk, ik, S, b, ln, fi) (nI i1) c = orN (r, rk, ik, S, b, ln, fi) (s_find (fun t : rT => wi (t 3 i1) c c) 201 0 r) from by unfold sp_comes; rw [if_pos hc, ei1, find_c (fun t _ => (wi_cc (t 3 i1) c).symm) 201 0 r w]]
    refine ⟨row r, ?_⟩
    refine Ev.of [(0, .ref 42), (1, .int (nI i1)), (2, .int c)] (by decide) (Nat.le_of_ble_eq_true rfl) rfl ?_
    refine fr_aload_n (pc := 0) rfl dX5_comes_0 ?_
    refine fr_iload_n (pc := 1) rfl dX5_comes_1 ?_
    refine fr_callV0 (pc := 2) (ci := 4) (T := TX5) (N := 20) [.int (nI i1)] [] (c_X5_isGuest ) gc_X5_131 rfl rfl ⟨rfl, rfl, by decide, by decide⟩ (Nat.le_of_ble_eq_true rfl) rfl (by decide) y_42 ⟨by decide, by decide⟩ dX5_comes_2 ?_
    refine fr_if_eq (pc := 5) 33 (by decide) dX5_comes_5 (fun h5 => ?_) (fun h5 => ?_)
    · have g5 := bI_0.mp h5
      exact absurd hc.1 g5
    · have g5 := bI_n0 h5
      refine fr_iload_n (pc := 8) rfl dX5_comes_8 ?_
      refine fr_callS0 (pc := 9) [.int c] [] (c_X5_isCell) gc_X5_82 rfl rfl ⟨rfl, rfl, by decide, by decide⟩ (Nat.le_of_ble_eq_true rfl) ⟨by decide, by decide⟩ dX5_comes_9 ?_
      refine fr_if_eq (pc := 12) 33 (by decide) dX5_comes_12 (fun h12 => ?_) (fun h12 => ?_)
      · have g12 := bI_0.mp h12
        exact absurd hc.2 g12
      · have g12 := bI_n0 h12
        refine fr_aload_n (pc := 15) rfl dX5_comes_15 ?_
        refine fr_aload_n (pc := 16) rfl dX5_comes_16 ?_
        refine fr_iload_n (pc := 17) rfl dX5_comes_17 ?_
        refine fr_iconst (pc := 18) (v := 1) rfl dX5_comes_18 ?_
        refine fr_callS0 (pc := 19) [.int (nI i1), .int 1] [.ref 42, .ref 42] (c_X5_guestAt (g := i1) (k := 1)) gc_X5_106 rfl rfl ⟨rfl, rfl, by decide, by decide⟩ (Nat.le_of_ble_eq_true rfl) ⟨by decide, by decide⟩ dX5_comes_19 ?_
        refine fr_iload_n (pc := 22) rfl dX5_comes_22 ?_
        refine fr_iload_n (pc := 23) rfl dX5_comes_23 ?_
        refine fr_callV0 (pc := 24) (ci := 4) (T := TX5) (N := 20) [.int (nI (38 + 6 * i1 + 1)), .int c, .int c] [.ref 42] (c_X5_hoursTo (p := (38 + 6 * i1 + 1)) (ph_g (k := 1) (by first | decide | assumption | omega)) (by first | decide | omega) (by assumption)) gc_X5_187 rfl rfl ⟨rfl, rfl, by decide, by decide⟩ (Nat.le_of_ble_eq_true rfl) rfl (by decide) y_42 ⟨by decide, by decide⟩ dX5_comes_24 ?_
        refine fr_callV0 (pc := 27) (ci := 4) (T := TX5) (N := 20) [.int (s_find (fun t : rT => wi (t 3 i1) c c) 201 0 r)] [] (c_X5_orNone (rk := rk)) gc_X5_191 rfl rfl ⟨rfl, rfl, by decide, by decide⟩ (Nat.le_of_ble_eq_true rfl) rfl (by decide) y_42 ⟨by decide, by decide⟩ dX5_comes_27 ?_
        refine fr_goto (pc := 30) 39 (by decide) dX5_comes_30 ?_
        exact fr_ireturn (pc := 39) rfl rfl rfl rfl dX5_comes_39
  · rw [show sp_comes (r, rk, ik, S, b, ln, fi) g c = fb (r, rk, ik, S, b, ln, fi) 0 from if_neg hc]
    refine ⟨ar, ?_⟩
    refine Ev.of [(0, .ref 42), (1, .int g), (2, .int c)] (by decide) (Nat.le_of_ble_eq_true rfl) rfl ?_
    refine fr_aload_n (pc := 0) rfl dX5_comes_0 ?_
    refine fr_iload_n (pc := 1) rfl dX5_comes_1 ?_
    refine fr_callV0 (pc := 2) (ci := 4) (T := TX5) (N := 20) [.int g] [] (c_X5_isGuest ) gc_X5_131 rfl rfl ⟨rfl, rfl, by decide, by decide⟩ (Nat.le_of_ble_eq_true rfl) rfl (by decide) y_42 ⟨by decide, by decide⟩ dX5_comes_2 ?_
    refine fr_if_eq (pc := 5) 33 (by decide) dX5_comes_5 (fun h5 => ?_) (fun h5 => ?_)
    · have g5 := bI_0.mp h5
      refine fr_aload_n (pc := 33) rfl dX5_comes_33 ?_
      refine fr_ldc (pc := 34) kc_X5_60 dX5_comes_34 ?_
      refine fr_callV0 (pc := 36) (ci := 4) (T := TX5) (N := 20) [.int (-1000001)] [] (c_fnd0) gc_X5_66 rfl rfl ⟨rfl, rfl, by decide, by decide⟩ (Nat.le_of_ble_eq_true rfl) rfl (by decide) y_42 ⟨by decide, by decide⟩ dX5_comes_36 ?_
      exact fr_ireturn (pc := 39) rfl rfl rfl rfl dX5_comes_39
    · have g5 := bI_n0 h5
      refine fr_iload_n (pc := 8) rfl dX5_comes_8 ?_
      refine fr_callS0 (pc := 9) [.int c] [] (c_X5_isCell) gc_X5_82 rfl rfl ⟨rfl, rfl, by decide, by decide⟩ (Nat.le_of_ble_eq_true rfl) ⟨by decide, by decide⟩ dX5_comes_9 ?_
      refine fr_if_eq (pc := 12) 33 (by decide) dX5_comes_12 (fun h12 => ?_) (fun h12 => ?_)
      · have g12 := bI_0.mp h12
        refine fr_aload_n (pc := 33) rfl dX5_comes_33 ?_
        refine fr_ldc (pc := 34) kc_X5_60 dX5_comes_34 ?_
        refine fr_callV0 (pc := 36) (ci := 4) (T := TX5) (N := 20) [.int (-1000001)] [] (c_fnd0) gc_X5_66 rfl rfl ⟨rfl, rfl, by decide, by decide⟩ (Nat.le_of_ble_eq_true rfl) rfl (by decide) y_42 ⟨by decide, by decide⟩ dX5_comes_36 ?_
        exact fr_ireturn (pc := 39) rfl rfl rfl rfl dX5_comes_39
      · have g12 := bI_n0 h12
        exact absurd ⟨g5, g12⟩ hc
set_option maxRecDepth 100000 in
theorem y_stuck {Γ : aG} {l : Launch} {M : Nat → aC} {r : rT} {kr ar : Nat → Int32} {rk : rT} {ik : Int32} {fi b : Nat → Int32} {ln : Int32} {S : sT} {it mv : Nat → Int32} {Q : yQ} {g v : Int32} (w : wf r) : ∃ ar' : Nat → Int32, Ev Γ l mX5_stuck [.ref 42, .int g, .int v] 54 (yM M r kr ar ik fi b ln S it mv Q) (some (.int (sp_stuck (r, rk, ik, S, b, ln, fi) g v).1)) 54 (yF M kr ar' it mv Q (sp_stuck (r, rk, ik, S, b, ln, fi) g v).2) := by
  by_cases hc : sG (r, rk, ik, S, b, ln, fi) g = true ∧ wi v 0 9999 = true
  · obtain ⟨i1, hi1, rfl⟩ := sG_nI w hc.1
    have ei1 : (nI i1).toNatClampNeg = i1 := nI_clamp (by have := w.ctl; omega)
    have li1 : i1 < 8 := by have := w.ctl; omega
    rw [show sp_stuck (r, rk, ik, S, b, ln, fi) (nI i1) v = orN (r, rk, ik, S, b, ln, fi) (s_find (fun t : rT => wi (t 6 i1) v 9999) 201 0 r) from by unfold sp_stuck; rw [if_pos hc, ei1, find_c (fun t wt => (okv_le (wt.2.2.2.2.2.1 i1 li1)).symm) 201 0 r w]]
    refine ⟨row r, ?_⟩
    refine Ev.of [(0, .ref 42), (1, .int (nI i1)), (2, .int v)] (by decide) (Nat.le_of_ble_eq_true rfl) rfl ?_
    refine fr_aload_n (pc := 0) rfl dX5_stuck_0 ?_
    refine fr_iload_n (pc := 1) rfl dX5_stuck_1 ?_
    refine fr_callV0 (pc := 2) (ci := 4) (T := TX5) (N := 20) [.int (nI i1)] [] (c_X5_isGuest ) gc_X5_131 rfl rfl ⟨rfl, rfl, by decide, by decide⟩ (Nat.le_of_ble_eq_true rfl) rfl (by decide) y_42 ⟨by decide, by decide⟩ dX5_stuck_2 ?_
    refine fr_if_eq (pc := 5) 35 (by decide) dX5_stuck_5 (fun h5 => ?_) (fun h5 => ?_)
    · have g5 := bI_0.mp h5
      exact absurd hc.1 g5
    · have g5 := bI_n0 h5
      refine fr_iload_n (pc := 8) rfl dX5_stuck_8 ?_
      refine fr_callS0 (pc := 9) [.int v] [] (c_X5_isOften) gc_X5_74 rfl rfl ⟨rfl, rfl, by decide, by decide⟩ (Nat.le_of_ble_eq_true rfl) ⟨by decide, by decide⟩ dX5_stuck_9 ?_
      refine fr_if_eq (pc := 12) 35 (by decide) dX5_stuck_12 (fun h12 => ?_) (fun h12 => ?_)
      · have g12 := bI_0.mp h12
        exact absurd hc.2 g12
      · have g12 := bI_n0 h12
        refine fr_aload_n (pc := 15) rfl dX5_stuck_15 ?_
        refine fr_aload_n (pc := 16) rfl dX5_stuck_16 ?_
        refine fr_iload_n (pc := 17) rfl dX5_stuck_17 ?_
        refine fr_iconst (pc := 18) (v := 4) rfl dX5_stuck_18 ?_
        refine fr_callS0 (pc := 19) [.int (nI i1), .int 4] [.ref 42, .ref 42] (c_X5_guestAt (g := i1) (k := 4)) gc_X5_106 rfl rfl ⟨rfl, rfl, by decide, by decide⟩ (Nat.le_of_ble_eq_true rfl) ⟨by decide, by decide⟩ dX5_stuck_19 ?_
        refine fr_iload_n (pc := 22) rfl dX5_stuck_22 ?_
        refine fr_sipush (pc := 23) (v := 9999) rfl dX5_stuck_23 ?_
        refine fr_callV0 (pc := 26) (ci := 4) (T := TX5) (N := 20) [.int (nI (38 + 6 * i1 + 4)), .int v, .int 9999] [.ref 42] (c_X5_hoursTo (p := (38 + 6 * i1 + 4)) (ph_g (k := 4) (by first | decide | assumption | omega)) (by first | decide | omega) (by assumption)) gc_X5_187 rfl rfl ⟨rfl, rfl, by decide, by decide⟩ (Nat.le_of_ble_eq_true rfl) rfl (by decide) y_42 ⟨by decide, by decide⟩ dX5_stuck_26 ?_
        refine fr_callV0 (pc := 29) (ci := 4) (T := TX5) (N := 20) [.int (s_find (fun t : rT => wi (t 6 i1) v 9999) 201 0 r)] [] (c_X5_orNone (rk := rk)) gc_X5_191 rfl rfl ⟨rfl, rfl, by decide, by decide⟩ (Nat.le_of_ble_eq_true rfl) rfl (by decide) y_42 ⟨by decide, by decide⟩ dX5_stuck_29 ?_
        refine fr_goto (pc := 32) 41 (by decide) dX5_stuck_32 ?_
        exact fr_ireturn (pc := 41) rfl rfl rfl rfl dX5_stuck_41
  · rw [show sp_stuck (r, rk, ik, S, b, ln, fi) g v = fb (r, rk, ik, S, b, ln, fi) 0 from if_neg hc]
    refine ⟨ar, ?_⟩
    refine Ev.of [(0, .ref 42), (1, .int g), (2, .int v)] (by decide) (Nat.le_of_ble_eq_true rfl) rfl ?_
    refine fr_aload_n (pc := 0) rfl dX5_stuck_0 ?_
    refine fr_iload_n (pc := 1) rfl dX5_stuck_1 ?_
    refine fr_callV0 (pc := 2) (ci := 4) (T := TX5) (N := 20) [.int g] [] (c_X5_isGuest ) gc_X5_131 rfl rfl ⟨rfl, rfl, by decide, by decide⟩ (Nat.le_of_ble_eq_true rfl) rfl (by decide) y_42 ⟨by decide, by decide⟩ dX5_stuck_2 ?_
    refine fr_if_eq (pc := 5) 35 (by decide) dX5_stuck_5 (fun h5 => ?_) (fun h5 => ?_)
    · have g5 := bI_0.mp h5
      refine fr_aload_n (pc := 35) rfl dX5_stuck_35 ?_
      refine fr_ldc (pc := 36) kc_X5_60 dX5_stuck_36 ?_
      refine fr_callV0 (pc := 38) (ci := 4) (T := TX5) (N := 20) [.int (-1000001)] [] (c_fnd0) gc_X5_66 rfl rfl ⟨rfl, rfl, by decide, by decide⟩ (Nat.le_of_ble_eq_true rfl) rfl (by decide) y_42 ⟨by decide, by decide⟩ dX5_stuck_38 ?_
      exact fr_ireturn (pc := 41) rfl rfl rfl rfl dX5_stuck_41
    · have g5 := bI_n0 h5
      refine fr_iload_n (pc := 8) rfl dX5_stuck_8 ?_
      refine fr_callS0 (pc := 9) [.int v] [] (c_X5_isOften) gc_X5_74 rfl rfl ⟨rfl, rfl, by decide, by decide⟩ (Nat.le_of_ble_eq_true rfl) ⟨by decide, by decide⟩ dX5_stuck_9 ?_
      refine fr_if_eq (pc := 12) 35 (by decide) dX5_stuck_12 (fun h12 => ?_) (fun h12 => ?_)
      · have g12 := bI_0.mp h12
        refine fr_aload_n (pc := 35) rfl dX5_stuck_35 ?_
        refine fr_ldc (pc := 36) kc_X5_60 dX5_stuck_36 ?_
        refine fr_callV0 (pc := 38) (ci := 4) (T := TX5) (N := 20) [.int (-1000001)] [] (c_fnd0) gc_X5_66 rfl rfl ⟨rfl, rfl, by decide, by decide⟩ (Nat.le_of_ble_eq_true rfl) rfl (by decide) y_42 ⟨by decide, by decide⟩ dX5_stuck_38 ?_
        exact fr_ireturn (pc := 41) rfl rfl rfl rfl dX5_stuck_41
      · have g12 := bI_n0 h12
        exact absurd ⟨g5, g12⟩ hc
set_option maxRecDepth 100000 in
theorem ym_end {Γ : aG} {l : Launch} {M : Nat → aC} {r : rT} {kr ar : Nat → Int32} {rk : rT} {ik : Int32} {fi b : Nat → Int32} {ln : Int32} {S : sT} {it mv : Nat → Int32} {Q : yQ} {g c m m0 : Nat} (hm : m0 < 100) : Fr Γ l mX5_measureFor 28 [(0, .ref 42), (1, .int (nI g)), (2, .int (nI c)), (3, .int (nI m0)), (4, .int (nI m))] [] 54 0 0 (yM M r kr ar ik fi b ln S it mv Q) (some (.int (orN (r, rk, ik, S, b, ln, fi) (nI m0)).1)) 54 (yF M kr ar it mv Q (orN (r, rk, ik, S, b, ln, fi) (nI m0)).2) := by
  refine fr_iload (pc := 28) rfl dX5_measureFor_28 ?_
  refine fr_bipush (pc := 30) (v := 36) rfl dX5_measureFor_30 ?_
  refine fr_icmp_gt (pc := 32) 67 (by decide) dX5_measureFor_32 (fun h32 => ?_) (fun h32 => ?_)
  · refine fr_aload_n (pc := 67) rfl dX5_measureFor_67 ?_
    refine fr_iload_n (pc := 68) rfl dX5_measureFor_68 ?_
    refine fr_callV0 (pc := 69) (ci := 4) (T := TX5) (N := 20) [.int (nI m0)] [] (c_X5_orNone (rk := rk)) gc_X5_191 rfl rfl ⟨rfl, rfl, by decide, by decide⟩ (Nat.le_of_ble_eq_true rfl) rfl (by decide) y_42 ⟨by decide, by decide⟩ dX5_measureFor_69 ?_
    exact fr_ireturn (pc := 72) rfl rfl rfl rfl dX5_measureFor_72
  · refine fr_iload_n (pc := 35) rfl dX5_measureFor_35 ?_
    refine fr_if_ge (pc := 36) 67 (by decide) dX5_measureFor_36 (fun h36 => ?_) (fun h36 => ?_)
    · refine fr_aload_n (pc := 67) rfl dX5_measureFor_67 ?_
      refine fr_iload_n (pc := 68) rfl dX5_measureFor_68 ?_
      refine fr_callV0 (pc := 69) (ci := 4) (T := TX5) (N := 20) [.int (nI m0)] [] (c_X5_orNone (rk := rk)) gc_X5_191 rfl rfl ⟨rfl, rfl, by decide, by decide⟩ (Nat.le_of_ble_eq_true rfl) rfl (by decide) y_42 ⟨by decide, by decide⟩ dX5_measureFor_69 ?_
      exact fr_ireturn (pc := 72) rfl rfl rfl rfl dX5_measureFor_72
    · exact absurd (nI_pos' (by omega)) h36
set_option maxRecDepth 100000 in
theorem ym_loop {Γ : aG} {l : Launch} {M : Nat → aC} {r : rT} {kr ar : Nat → Int32} {rk : rT} {ik : Int32} {fi b : Nat → Int32} {ln : Int32} {S : sT} {it mv : Nat → Int32} {Q : yQ} {g c : Nat} (hg : g < 8) (w : wf r) : ∀ (k m : Nat), m + k = 37 → Fr Γ l mX5_measureFor 28 [(0, .ref 42), (1, .int (nI g)), (2, .int (nI c)), (3, .int (-1)), (4, .int (nI m))] [] 54 0 0 (yM M r kr ar ik fi b ln S it mv Q) (some (.int (orN (r, rk, ik, S, b, ln, fi) (s_first (q_mf r g c) k m)).1)) 54 (yF M kr ar it mv Q (orN (r, rk, ik, S, b, ln, fi) (s_first (q_mf r g c) k m)).2) := by
  intro k
  induction k with
  | zero =>
    intro m hm
    refine fr_iload (pc := 28) rfl dX5_measureFor_28 ?_
    refine fr_bipush (pc := 30) (v := 36) rfl dX5_measureFor_30 ?_
    refine fr_icmp_gt (pc := 32) 67 (by decide) dX5_measureFor_32 (fun h32 => ?_) (fun h32 => ?_)
    · refine fr_aload_n (pc := 67) rfl dX5_measureFor_67 ?_
      refine fr_iload_n (pc := 68) rfl dX5_measureFor_68 ?_
      refine fr_callV0 (pc := 69) (ci := 4) (T := TX5) (N := 20) [.int (-1)] [] (c_X5_orNone (rk := rk)) gc_X5_191 rfl rfl ⟨rfl, rfl, by decide, by decide⟩ (Nat.le_of_ble_eq_true rfl) rfl (by decide) y_42 ⟨by decide, by decide⟩ dX5_measureFor_69 ?_
      exact fr_ireturn (pc := 72) rfl rfl rfl rfl dX5_measureFor_72
    · exact absurd (nI_lt (a := 36) (b := m) (by omega) (by omega)) h32
  | succ k ih =>
    intro m hm
    refine fr_iload (pc := 28) rfl dX5_measureFor_28 ?_
    refine fr_bipush (pc := 30) (v := 36) rfl dX5_measureFor_30 ?_
    refine fr_icmp_gt (pc := 32) 67 (by decide) dX5_measureFor_32 (fun h32 => ?_) (fun h32 => ?_)
    · exact absurd h32 (nI_nlt (a := 36) (b := m) (by omega) (by omega))
    · refine fr_iload_n (pc := 35) rfl dX5_measureFor_35 ?_
      refine fr_if_ge (pc := 36) 67 (by decide) dX5_measureFor_36 (fun h36 => ?_) (fun h36 => ?_)
      · exact absurd h36 (by decide)
      · refine fr_aload_n (pc := 39) rfl dX5_measureFor_39 ?_
        refine fr_iload_n (pc := 40) rfl dX5_measureFor_40 ?_
        refine fr_iload (pc := 41) rfl dX5_measureFor_41 ?_
        refine fr_callV0 (pc := 43) (ci := 4) (T := TX5) (N := 20) [.int (nI g), .int (nI m)] [] (c_X5_reachOf (by first | assumption | omega) (by assumption)) gc_X5_141 rfl rfl ⟨rfl, rfl, by decide, by decide⟩ (Nat.le_of_ble_eq_true rfl) rfl (by decide) y_42 ⟨by decide, by decide⟩ dX5_measureFor_43 ?_
        refine fr_iload_n (pc := 46) rfl dX5_measureFor_46 ?_
        refine fr_ishr (pc := 47) dX5_measureFor_47 ?_
        refine fr_iconst (pc := 48) (v := 1) rfl dX5_measureFor_48 ?_
        refine fr_iand (pc := 49) dX5_measureFor_49 ?_
        refine fr_iconst (pc := 50) (v := 1) rfl dX5_measureFor_50 ?_
        refine fr_icmp_ne (pc := 51) 59 (by decide) dX5_measureFor_51 (fun h51 => ?_) (fun h51 => ?_)
        · refine fr_iconst (pc := 59) (v := (-1)) rfl dX5_measureFor_59 ?_
          refine fr_istore_n (pc := 60) [(3, .int (-1)), (0, .ref 42), (1, .int (nI g)), (2, .int (nI c)), (4, .int (nI m))] (by decide) rfl dX5_measureFor_60 ?_
          refine fr_iinc (pc := 61) (v := nI (m + 1)) [(4, .int (nI (m + 1))), (3, .int (-1)), (0, .ref 42), (1, .int (nI g)), (2, .int (nI c))] rfl (nI_1 m) (by decide) rfl dX5_measureFor_61 ?_
          refine fr_goto (pc := 64) 28 (by decide) dX5_measureFor_64 ?_
          rw [show s_first (q_mf r g c) (k + 1) m = s_first (q_mf r g c) k (m + 1) from if_neg (fun z => h51 (of_decide_eq_true z))]
          exact fr_sub [2, 3, 4, 1, 0] rfl (ih (m + 1) (by omega))
        · refine fr_iload (pc := 54) rfl dX5_measureFor_54 ?_
          refine fr_goto (pc := 56) 60 (by decide) dX5_measureFor_56 ?_
          refine fr_istore_n (pc := 60) [(3, .int (nI m)), (0, .ref 42), (1, .int (nI g)), (2, .int (nI c)), (4, .int (nI m))] (by decide) rfl dX5_measureFor_60 ?_
          refine fr_iinc (pc := 61) (v := nI (m + 1)) [(4, .int (nI (m + 1))), (3, .int (nI m)), (0, .ref 42), (1, .int (nI g)), (2, .int (nI c))] rfl (nI_1 m) (by decide) rfl dX5_measureFor_61 ?_
          refine fr_goto (pc := 64) 28 (by decide) dX5_measureFor_64 ?_
          rw [show s_first (q_mf r g c) (k + 1) m = nI m from if_pos (decide_eq_true h51)]
          exact fr_sub [2, 3, 4, 1, 0] rfl (ym_end (by omega))
set_option maxRecDepth 100000 in
theorem y_measureFor {Γ : aG} {l : Launch} {M : Nat → aC} {r : rT} {kr ar : Nat → Int32} {rk : rT} {ik : Int32} {fi b : Nat → Int32} {ln : Int32} {S : sT} {it mv : Nat → Int32} {Q : yQ} {g c : Int32} (w : wf r) : ∃ ar' : Nat → Int32, Ev Γ l mX5_measureFor [.ref 42, .int g, .int c] 54 (yM M r kr ar ik fi b ln S it mv Q) (some (.int (sp_measureFor (r, rk, ik, S, b, ln, fi) g c).1)) 54 (yF M kr ar' it mv Q (sp_measureFor (r, rk, ik, S, b, ln, fi) g c).2) := by
  by_cases hc : sG (r, rk, ik, S, b, ln, fi) g = true ∧ wi c 0 15 = true
  · obtain ⟨i1, hi1, rfl⟩ := sG_nI w hc.1
    have ei1 : (nI i1).toNatClampNeg = i1 := nI_clamp (by have := w.ctl; omega)
    have li1 : i1 < 8 := by have := w.ctl; omega
    obtain ⟨i2, hi2, rfl⟩ := wi_nI (N := 15) hc.2 rfl
    have ei2 : (nI i2).toNatClampNeg = i2 := nI_clamp (by omega)
    rw [show sp_measureFor (r, rk, ik, S, b, ln, fi) (nI i1) (nI i2) = orN (r, rk, ik, S, b, ln, fi) (s_first (q_mf r i1 i2) 21 16) from by unfold sp_measureFor; rw [if_pos hc, ei1, ei2]]
    refine ⟨ar, ?_⟩
    refine Ev.of [(0, .ref 42), (1, .int (nI i1)), (2, .int (nI i2))] (by decide) (Nat.le_of_ble_eq_true rfl) rfl ?_
    refine fr_aload_n (pc := 0) rfl dX5_measureFor_0 ?_
    refine fr_iload_n (pc := 1) rfl dX5_measureFor_1 ?_
    refine fr_callV0 (pc := 2) (ci := 4) (T := TX5) (N := 20) [.int (nI i1)] [] (c_X5_isGuest ) gc_X5_131 rfl rfl ⟨rfl, rfl, by decide, by decide⟩ (Nat.le_of_ble_eq_true rfl) rfl (by decide) y_42 ⟨by decide, by decide⟩ dX5_measureFor_2 ?_
    refine fr_if_eq (pc := 5) 15 (by decide) dX5_measureFor_5 (fun h5 => ?_) (fun h5 => ?_)
    · have g5 := bI_0.mp h5
      exact absurd hc.1 g5
    · have g5 := bI_n0 h5
      refine fr_iload_n (pc := 8) rfl dX5_measureFor_8 ?_
      refine fr_callS0 (pc := 9) [.int (nI i2)] [] (c_X5_isCell) gc_X5_82 rfl rfl ⟨rfl, rfl, by decide, by decide⟩ (Nat.le_of_ble_eq_true rfl) ⟨by decide, by decide⟩ dX5_measureFor_9 ?_
      refine fr_if_ne (pc := 12) 22 (by decide) dX5_measureFor_12 (fun h12 => ?_) (fun h12 => ?_)
      · have g12 := bI_n0 h12
        refine fr_iconst (pc := 22) (v := (-1)) rfl dX5_measureFor_22 ?_
        refine fr_istore_n (pc := 23) [(3, .int (-1)), (0, .ref 42), (1, .int (nI i1)), (2, .int (nI i2))] (by decide) rfl dX5_measureFor_23 ?_
        refine fr_bipush (pc := 24) (v := 16) rfl dX5_measureFor_24 ?_
        refine fr_istore (pc := 26) [(4, .int 16), (3, .int (-1)), (0, .ref 42), (1, .int (nI i1)), (2, .int (nI i2))] (by decide) rfl dX5_measureFor_26 ?_
        exact fr_sub [2, 3, 4, 1, 0] rfl (ym_loop li1 w 21 16 rfl)
      · have g12 := bI_0.mp h12
        exact absurd hc.2 g12
  · rw [show sp_measureFor (r, rk, ik, S, b, ln, fi) g c = fb (r, rk, ik, S, b, ln, fi) 0 from if_neg hc]
    refine ⟨ar, ?_⟩
    refine Ev.of [(0, .ref 42), (1, .int g), (2, .int c)] (by decide) (Nat.le_of_ble_eq_true rfl) rfl ?_
    refine fr_aload_n (pc := 0) rfl dX5_measureFor_0 ?_
    refine fr_iload_n (pc := 1) rfl dX5_measureFor_1 ?_
    refine fr_callV0 (pc := 2) (ci := 4) (T := TX5) (N := 20) [.int g] [] (c_X5_isGuest ) gc_X5_131 rfl rfl ⟨rfl, rfl, by decide, by decide⟩ (Nat.le_of_ble_eq_true rfl) rfl (by decide) y_42 ⟨by decide, by decide⟩ dX5_measureFor_2 ?_
    refine fr_if_eq (pc := 5) 15 (by decide) dX5_measureFor_5 (fun h5 => ?_) (fun h5 => ?_)
    · have g5 := bI_0.mp h5
      refine fr_aload_n (pc := 15) rfl dX5_measureFor_15 ?_
      refine fr_ldc (pc := 16) kc_X5_60 dX5_measureFor_16 ?_
      refine fr_callV0 (pc := 18) (ci := 4) (T := TX5) (N := 20) [.int (-1000001)] [] (c_fnd0) gc_X5_66 rfl rfl ⟨rfl, rfl, by decide, by decide⟩ (Nat.le_of_ble_eq_true rfl) rfl (by decide) y_42 ⟨by decide, by decide⟩ dX5_measureFor_18 ?_
      exact fr_ireturn (pc := 21) rfl rfl rfl rfl dX5_measureFor_21
    · have g5 := bI_n0 h5
      refine fr_iload_n (pc := 8) rfl dX5_measureFor_8 ?_
      refine fr_callS0 (pc := 9) [.int c] [] (c_X5_isCell) gc_X5_82 rfl rfl ⟨rfl, rfl, by decide, by decide⟩ (Nat.le_of_ble_eq_true rfl) ⟨by decide, by decide⟩ dX5_measureFor_9 ?_
      refine fr_if_ne (pc := 12) 22 (by decide) dX5_measureFor_12 (fun h12 => ?_) (fun h12 => ?_)
      · have g12 := bI_n0 h12
        exact absurd ⟨g5, g12⟩ hc
      · have g12 := bI_0.mp h12
        refine fr_aload_n (pc := 15) rfl dX5_measureFor_15 ?_
        refine fr_ldc (pc := 16) kc_X5_60 dX5_measureFor_16 ?_
        refine fr_callV0 (pc := 18) (ci := 4) (T := TX5) (N := 20) [.int (-1000001)] [] (c_fnd0) gc_X5_66 rfl rfl ⟨rfl, rfl, by decide, by decide⟩ (Nat.le_of_ble_eq_true rfl) rfl (by decide) y_42 ⟨by decide, by decide⟩ dX5_measureFor_18 ?_
        exact fr_ireturn (pc := 21) rfl rfl rfl rfl dX5_measureFor_21
set_option maxRecDepth 100000 in
theorem yt_loop {Γ : aG} {l : Launch} {M : Nat → aC} {r : rT} {kr : Nat → Int32} {rk : rT} {ik : Int32} {fi b : Nat → Int32} {ln : Int32} {S : sT} {it mv : Nat → Int32} {Q : yQ} {i n : Nat} (hi : i < 6) (hn : n < 1000) (w : wf r) : ∀ (j : Nat) (x best v : Int32) (ar : Nat → Int32), x = nI (16 + j) - 1 → j ≤ 21 → ∃ ar' : Nat → Int32, Fr Γ l mX5_tight 38 [(0, .ref 42), (1, .int (nI i)), (2, .int (nI n)), (3, .int (r 1 i)), (4, .int best), (5, .int x)] [] 54 0 0 (yM M (u2 r 1 i v) kr ar ik fi b ln S it mv Q) (some (.int (orN (r, rk, ik, S, b, ln, fi) (s_fb (q_tight r i n) j 16 best)).1)) 54 (yF M kr ar' it mv Q (orN (r, rk, ik, S, b, ln, fi) (s_fb (q_tight r i n) j 16 best)).2) := by
  intro j
  induction j with
  | zero =>
    intro x best v ar hx hj
    refine ⟨ar, ?_⟩
    refine fr_iload (pc := 38) rfl dX5_tight_38 ?_
    refine fr_bipush (pc := 40) (v := 16) rfl dX5_tight_40 ?_
    refine fr_icmp_lt (pc := 42) 80 (by decide) dX5_tight_42 (fun h42 => ?_) (fun h42 => ?_)
    · refine fr_aload_n (pc := 80) rfl dX5_tight_80 ?_
      refine fr_get (pc := 81) (ci := 4) (T := TX5) (k0 := 0) rfl hin_X5 (by decide) fl_X5_9 (by decide) y_42 rfl dX5_tight_81 ?_
      refine fr_bipush (pc := 84) (v := 6) rfl dX5_tight_84 ?_
      refine fr_iload_n (pc := 86) rfl dX5_tight_86 ?_
      refine fr_iadd (pc := 87) dX5_tight_87 ?_
      refine fr_eq (z := nI (6 + i)) (nI_add 6 i) ?_
      refine fr_iload_n (pc := 88) rfl dX5_tight_88 ?_
      refine fr_iast (pc := 89) (6 + i) rfl (by decide) y_43 (by first | assumption | omega) (by decide) dX5_tight_89 ?_
      refine fr_mem (y_u43 (ph_m (by first | assumption | omega))) ?_
      refine fr_mem (M1 := (yM M r kr ar ik fi b ln S it mv Q)) (by rw [u2_u2, u2_self rfl]) ?_
      refine fr_aload_n (pc := 90) rfl dX5_tight_90 ?_
      refine fr_iload (pc := 91) rfl dX5_tight_91 ?_
      refine fr_callV0 (pc := 93) (ci := 4) (T := TX5) (N := 20) [.int best] [] (c_X5_orNone (rk := rk)) gc_X5_191 rfl rfl ⟨rfl, rfl, by decide, by decide⟩ (Nat.le_of_ble_eq_true rfl) rfl (by decide) y_42 ⟨by decide, by decide⟩ dX5_tight_93 ?_
      exact fr_ireturn (pc := 96) rfl rfl rfl rfl dX5_tight_96
    · exact absurd (by rw [hx]; decide) h42
  | succ j ih =>
    intro x best v ar hx hj
    rw [show 16 + (j + 1) = 16 + j + 1 by omega, nI_pred] at hx
    subst hx
    have w1 : wf (u2 r 1 i (nI (16 + j))) := wf_u w (fun z => by omega) (fun z => by omega) (fun z => by omega) (fun z => by omega) (fun z => by omega) (by decide)
    have hq : q_tight r i n (16 + j) = decide (s_hours n (u2 r 1 i (nI (16 + j))) 9 5 = 0) := decide_eq_decide.mpr (hold_hours n _ w1)
    rw [fb_sn (by omega), hq]
    by_cases hs : s_hours n (u2 r 1 i (nI (16 + j))) 9 5 = 0
    · rw [if_pos (by simpa using hs)]
      obtain ⟨ar', ht⟩ := ih (nI (16 + j) - 1) (nI (16 + j)) (nI (16 + j)) (row (u2 r 1 i (nI (16 + j)))) rfl (by omega)
      refine ⟨ar', ?_⟩
      refine fr_iload (pc := 38) rfl dX5_tight_38 ?_
      refine fr_bipush (pc := 40) (v := 16) rfl dX5_tight_40 ?_
      refine fr_icmp_lt (pc := 42) 80 (by decide) dX5_tight_42 (fun h42 => ?_) (fun h42 => ?_)
      · exact absurd h42 (nI_nlt (a := 16 + j) (b := 16) (by omega) (by omega))
      · refine fr_aload_n (pc := 45) rfl dX5_tight_45 ?_
        refine fr_get (pc := 46) (ci := 4) (T := TX5) (k0 := 0) rfl hin_X5 (by decide) fl_X5_9 (by decide) y_42 rfl dX5_tight_46 ?_
        refine fr_bipush (pc := 49) (v := 6) rfl dX5_tight_49 ?_
        refine fr_iload_n (pc := 51) rfl dX5_tight_51 ?_
        refine fr_iadd (pc := 52) dX5_tight_52 ?_
        refine fr_eq (z := nI (6 + i)) (nI_add 6 i) ?_
        refine fr_iload (pc := 53) rfl dX5_tight_53 ?_
        refine fr_iast (pc := 55) (6 + i) rfl (by decide) y_43 (by first | assumption | omega) (by decide) dX5_tight_55 ?_
        refine fr_mem (y_u43 (ph_m (by first | assumption | omega))) ?_
        refine fr_mem (M1 := (yM M (u2 r 1 i (nI (16 + j))) kr ar ik fi b ln S it mv Q)) (by rw [u2_u2]) ?_
        refine fr_aload_n (pc := 56) rfl dX5_tight_56 ?_
        refine fr_iconst (pc := 57) (v := 5) rfl dX5_tight_57 ?_
        refine fr_iload_n (pc := 58) rfl dX5_tight_58 ?_
        refine fr_callV0 (pc := 59) (ci := 4) (T := TX5) (N := 20) [.int 5, .int (nI n)] [] (c_X5_behind (ph_l (by decide)) (by first | decide | omega) (by assumption) (by omega)) gc_X5_184 rfl rfl ⟨rfl, rfl, by decide, by decide⟩ (Nat.le_of_ble_eq_true rfl) rfl (by decide) y_42 ⟨by decide, by decide⟩ dX5_tight_59 ?_
        refine fr_if_ne (pc := 62) 70 (by decide) dX5_tight_62 (fun h62 => ?_) (fun h62 => ?_)
        · exact absurd hs h62
        · refine fr_iload (pc := 65) rfl dX5_tight_65 ?_
          refine fr_goto (pc := 67) 72 (by decide) dX5_tight_67 ?_
          refine fr_istore (pc := 72) [(4, .int (nI (16 + j))), (0, .ref 42), (1, .int (nI i)), (2, .int (nI n)), (3, .int (r 1 i)), (5, .int (nI (16 + j)))] (by decide) rfl dX5_tight_72 ?_
          refine fr_iinc (pc := 74) (v := nI (16 + j) - 1) [(5, .int (nI (16 + j) - 1)), (4, .int (nI (16 + j))), (0, .ref 42), (1, .int (nI i)), (2, .int (nI n)), (3, .int (r 1 i))] rfl (by rw [show Int32.ofInt (-1) = (-1 : Int32) from by decide]; exact (Int32.sub_eq_add_neg _ _).symm) (by decide) rfl dX5_tight_74 ?_
          refine fr_goto (pc := 77) 38 (by decide) dX5_tight_77 ?_
          exact fr_sub [2, 3, 4, 5, 1, 0] rfl (ht)
    · rw [if_neg (by simpa using hs)]
      obtain ⟨ar', ht⟩ := ih (nI (16 + j) - 1) best (nI (16 + j)) (row (u2 r 1 i (nI (16 + j)))) rfl (by omega)
      refine ⟨ar', ?_⟩
      refine fr_iload (pc := 38) rfl dX5_tight_38 ?_
      refine fr_bipush (pc := 40) (v := 16) rfl dX5_tight_40 ?_
      refine fr_icmp_lt (pc := 42) 80 (by decide) dX5_tight_42 (fun h42 => ?_) (fun h42 => ?_)
      · exact absurd h42 (nI_nlt (a := 16 + j) (b := 16) (by omega) (by omega))
      · refine fr_aload_n (pc := 45) rfl dX5_tight_45 ?_
        refine fr_get (pc := 46) (ci := 4) (T := TX5) (k0 := 0) rfl hin_X5 (by decide) fl_X5_9 (by decide) y_42 rfl dX5_tight_46 ?_
        refine fr_bipush (pc := 49) (v := 6) rfl dX5_tight_49 ?_
        refine fr_iload_n (pc := 51) rfl dX5_tight_51 ?_
        refine fr_iadd (pc := 52) dX5_tight_52 ?_
        refine fr_eq (z := nI (6 + i)) (nI_add 6 i) ?_
        refine fr_iload (pc := 53) rfl dX5_tight_53 ?_
        refine fr_iast (pc := 55) (6 + i) rfl (by decide) y_43 (by first | assumption | omega) (by decide) dX5_tight_55 ?_
        refine fr_mem (y_u43 (ph_m (by first | assumption | omega))) ?_
        refine fr_mem (M1 := (yM M (u2 r 1 i (nI (16 + j))) kr ar ik fi b ln S it mv Q)) (by rw [u2_u2]) ?_
        refine fr_aload_n (pc := 56) rfl dX5_tight_56 ?_
        refine fr_iconst (pc := 57) (v := 5) rfl dX5_tight_57 ?_
        refine fr_iload_n (pc := 58) rfl dX5_tight_58 ?_
        refine fr_callV0 (pc := 59) (ci := 4) (T := TX5) (N := 20) [.int 5, .int (nI n)] [] (c_X5_behind (ph_l (by decide)) (by first | decide | omega) (by assumption) (by omega)) gc_X5_184 rfl rfl ⟨rfl, rfl, by decide, by decide⟩ (Nat.le_of_ble_eq_true rfl) rfl (by decide) y_42 ⟨by decide, by decide⟩ dX5_tight_59 ?_
        refine fr_if_ne (pc := 62) 70 (by decide) dX5_tight_62 (fun h62 => ?_) (fun h62 => ?_)
        · refine fr_iload (pc := 70) rfl dX5_tight_70 ?_
          refine fr_istore (pc := 72) [(4, .int best), (0, .ref 42), (1, .int (nI i)), (2, .int (nI n)), (3, .int (r 1 i)), (5, .int (nI (16 + j)))] (by decide) rfl dX5_tight_72 ?_
          refine fr_iinc (pc := 74) (v := nI (16 + j) - 1) [(5, .int (nI (16 + j) - 1)), (4, .int best), (0, .ref 42), (1, .int (nI i)), (2, .int (nI n)), (3, .int (r 1 i))] rfl (by rw [show Int32.ofInt (-1) = (-1 : Int32) from by decide]; exact (Int32.sub_eq_add_neg _ _).symm) (by decide) rfl dX5_tight_74 ?_
          refine fr_goto (pc := 77) 38 (by decide) dX5_tight_77 ?_
          exact fr_sub [2, 3, 4, 5, 1, 0] rfl (ht)
        · exact absurd h62 hs
set_option maxRecDepth 100000 in
theorem y_tight {Γ : aG} {l : Launch} {M : Nat → aC} {r : rT} {kr ar : Nat → Int32} {rk : rT} {ik : Int32} {fi b : Nat → Int32} {ln : Int32} {S : sT} {it mv : Nat → Int32} {Q : yQ} {i n : Int32} (w : wf r) : ∃ ar' : Nat → Int32, Ev Γ l mX5_tight [.ref 42, .int i, .int n] 54 (yM M r kr ar ik fi b ln S it mv Q) (some (.int (sp_tight (r, rk, ik, S, b, ln, fi) i n).1)) 54 (yF M kr ar' it mv Q (sp_tight (r, rk, ik, S, b, ln, fi) i n).2) := by
  by_cases hc : wi i 0 5 = true ∧ wi n 0 60 = true
  · obtain ⟨i1, hi1, rfl⟩ := wi_nI (N := 5) hc.1 rfl
    have ei1 : (nI i1).toNatClampNeg = i1 := nI_clamp (by omega)
    obtain ⟨i2, hi2, rfl⟩ := wi_nI (N := 60) hc.2 rfl
    have ei2 : (nI i2).toNatClampNeg = i2 := nI_clamp (by omega)
    rw [show sp_tight (r, rk, ik, S, b, ln, fi) (nI i1) (nI i2) = orN (r, rk, ik, S, b, ln, fi) (s_fb (q_tight r i1 i2) 21 16 (-1)) from by unfold sp_tight; rw [if_pos hc, ei1, ei2, fb_first (by decide)]]
    obtain ⟨ar', ht⟩ := yt_loop (Γ := Γ) (l := l) (M := M) (kr := kr) (rk := rk) (ik := ik) (fi := fi) (b := b) (ln := ln) (S := S) (it := it) (mv := mv) (Q := Q) (i := i1) (n := i2) (by omega) (by omega) w 21 36 (-1) (r 1 i1) ar (by decide) (by decide)
    refine ⟨ar', ?_⟩
    refine Ev.of [(0, .ref 42), (1, .int (nI i1)), (2, .int (nI i2))] (by decide) (Nat.le_of_ble_eq_true rfl) rfl ?_
    refine fr_iload_n (pc := 0) rfl dX5_tight_0 ?_
    refine fr_callS0 (pc := 1) [.int (nI i1)] [] (c_X5_isPlace) gc_X5_88 rfl rfl ⟨rfl, rfl, by decide, by decide⟩ (Nat.le_of_ble_eq_true rfl) ⟨by decide, by decide⟩ dX5_tight_1 ?_
    refine fr_if_eq (pc := 4) 14 (by decide) dX5_tight_4 (fun h4 => ?_) (fun h4 => ?_)
    · have g4 := bI_0.mp h4
      exact absurd hc.1 g4
    · have g4 := bI_n0 h4
      refine fr_iload_n (pc := 7) rfl dX5_tight_7 ?_
      refine fr_callS0 (pc := 8) [.int (nI i2)] [] (c_X5_isThought) gc_X5_194 rfl rfl ⟨rfl, rfl, by decide, by decide⟩ (Nat.le_of_ble_eq_true rfl) ⟨by decide, by decide⟩ dX5_tight_8 ?_
      refine fr_if_ne (pc := 11) 21 (by decide) dX5_tight_11 (fun h11 => ?_) (fun h11 => ?_)
      · have g11 := bI_n0 h11
        refine fr_aload_n (pc := 21) rfl dX5_tight_21 ?_
        refine fr_get (pc := 22) (ci := 4) (T := TX5) (k0 := 0) rfl hin_X5 (by decide) fl_X5_9 (by decide) y_42 rfl dX5_tight_22 ?_
        refine fr_bipush (pc := 25) (v := 6) rfl dX5_tight_25 ?_
        refine fr_iload_n (pc := 27) rfl dX5_tight_27 ?_
        refine fr_iadd (pc := 28) dX5_tight_28 ?_
        refine fr_eq (z := nI (6 + i1)) (nI_add 6 i1) ?_
        refine fr_iald (pc := 29) (6 + i1) rfl (by decide) y_43 (by first | assumption | omega) (by decide) dX5_tight_29 ?_
        refine fr_eq (z := r 1 i1) (row_at (ph_m (by first | assumption | omega))) ?_
        skip
        refine fr_nm (fun x3_30 e_x3_30 => ?_)
        refine fr_istore_n (pc := 30) [(3, .int x3_30), (0, .ref 42), (1, .int (nI i1)), (2, .int (nI i2))] (by decide) rfl dX5_tight_30 ?_
        refine fr_iconst (pc := 31) (v := (-1)) rfl dX5_tight_31 ?_
        refine fr_istore (pc := 32) [(4, .int (-1)), (3, .int x3_30), (0, .ref 42), (1, .int (nI i1)), (2, .int (nI i2))] (by decide) rfl dX5_tight_32 ?_
        refine fr_bipush (pc := 34) (v := 36) rfl dX5_tight_34 ?_
        refine fr_istore (pc := 36) [(5, .int 36), (4, .int (-1)), (3, .int x3_30), (0, .ref 42), (1, .int (nI i1)), (2, .int (nI i2))] (by decide) rfl dX5_tight_36 ?_
        refine fr_mem (M1 := (yM M (u2 r 1 i1 (r 1 i1)) kr ar ik fi b ln S it mv Q)) (by rw [u2_self rfl]) ?_
        subst e_x3_30
        exact fr_sub [3, 4, 5, 2, 1, 0] rfl (ht)
      · have g11 := bI_0.mp h11
        exact absurd hc.2 g11
  · rw [show sp_tight (r, rk, ik, S, b, ln, fi) i n = fb (r, rk, ik, S, b, ln, fi) 0 from if_neg hc]
    refine ⟨ar, ?_⟩
    refine Ev.of [(0, .ref 42), (1, .int i), (2, .int n)] (by decide) (Nat.le_of_ble_eq_true rfl) rfl ?_
    refine fr_iload_n (pc := 0) rfl dX5_tight_0 ?_
    refine fr_callS0 (pc := 1) [.int i] [] (c_X5_isPlace) gc_X5_88 rfl rfl ⟨rfl, rfl, by decide, by decide⟩ (Nat.le_of_ble_eq_true rfl) ⟨by decide, by decide⟩ dX5_tight_1 ?_
    refine fr_if_eq (pc := 4) 14 (by decide) dX5_tight_4 (fun h4 => ?_) (fun h4 => ?_)
    · have g4 := bI_0.mp h4
      refine fr_aload_n (pc := 14) rfl dX5_tight_14 ?_
      refine fr_ldc (pc := 15) kc_X5_60 dX5_tight_15 ?_
      refine fr_callV0 (pc := 17) (ci := 4) (T := TX5) (N := 20) [.int (-1000001)] [] (c_fnd0) gc_X5_66 rfl rfl ⟨rfl, rfl, by decide, by decide⟩ (Nat.le_of_ble_eq_true rfl) rfl (by decide) y_42 ⟨by decide, by decide⟩ dX5_tight_17 ?_
      exact fr_ireturn (pc := 20) rfl rfl rfl rfl dX5_tight_20
    · have g4 := bI_n0 h4
      refine fr_iload_n (pc := 7) rfl dX5_tight_7 ?_
      refine fr_callS0 (pc := 8) [.int n] [] (c_X5_isThought) gc_X5_194 rfl rfl ⟨rfl, rfl, by decide, by decide⟩ (Nat.le_of_ble_eq_true rfl) ⟨by decide, by decide⟩ dX5_tight_8 ?_
      refine fr_if_ne (pc := 11) 21 (by decide) dX5_tight_11 (fun h11 => ?_) (fun h11 => ?_)
      · have g11 := bI_n0 h11
        exact absurd ⟨g4, g11⟩ hc
      · have g11 := bI_0.mp h11
        refine fr_aload_n (pc := 14) rfl dX5_tight_14 ?_
        refine fr_ldc (pc := 15) kc_X5_60 dX5_tight_15 ?_
        refine fr_callV0 (pc := 17) (ci := 4) (T := TX5) (N := 20) [.int (-1000001)] [] (c_fnd0) gc_X5_66 rfl rfl ⟨rfl, rfl, by decide, by decide⟩ (Nat.le_of_ble_eq_true rfl) rfl (by decide) y_42 ⟨by decide, by decide⟩ dX5_tight_17 ?_
        exact fr_ireturn (pc := 20) rfl rfl rfl rfl dX5_tight_20
