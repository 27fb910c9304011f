theorem s_min_le {x : Int32} {a : Nat} (h : x = nI a) (ha : a < 10000) : okv (s_min (x + 1) 9999) 10000 := by
  unfold s_min
  split
  · exact okv_nI (a := 9999) (by decide) (by decide)
  · rename_i hn
    rw [h, nI_1] at hn ⊢
    rcases Nat.lt_or_ge (a + 1) 10000 with q | q
    · exact okv_nI q (by decide)
    · exact absurd (nI_lt (a := 9999) (b := a + 1) (by omega) (by omega)) hn
theorem s_min_le5 {x : Int32} {a : Nat} (h : x = nI a) (ha : a < 100000) : okv (s_min (x + 1) 99999) 100000 := by
  unfold s_min
  split
  · exact okv_nI (a := 99999) (by decide) (by decide)
  · rename_i hn
    rw [h, nI_1] at hn ⊢
    rcases Nat.lt_or_ge (a + 1) 100000 with q | q
    · exact okv_nI q (by decide)
    · exact absurd (nI_lt (a := 99999) (b := a + 1) (by omega) (by omega)) hn
theorem s_go_lt {r : rT} {m need : Int32} {up : Bool} {aim : Nat} (hm : aim < 16) : ∀ (n a k : Nat), a < 16 → s_in up a aim → (s_go r m need up aim n a k).1 < 16 := by
  intro n
  induction n with
  | zero => intro a k ha _; exact ha
  | succ n ih =>
    intro a k ha hin
    rw [s_go]
    split
    · exact ha
    · rename_i hne
      split
      · exact ha
      · obtain ⟨-, e2, e3⟩ := on_nx hin hne ha hm
        exact ih _ _ e2 e3
theorem s_gq_lt {r : rT} {g : Nat} {m : Int32} (w : wf r) (hg : g < 8) : (s_gq r g m).1 < 16 := by
  unfold s_gq
  refine s_go_lt (w.am hg).2 _ _ _ (w.at hg).2 ?_
  by_cases h : nat r 3 g < nat r 5 g
  · exact Or.inl ⟨decide_eq_true h, by omega⟩
  · exact Or.inr ⟨decide_eq_false h, by omega⟩
theorem wf_walk {r : rT} {g : Nat} {m : Int32} (w : wf r) (hg : g < 8) : wf (s_walk r g m) := by
  unfold s_walk s_wf
  have w1 : wf (u2 r 3 g (nI (s_gq r g m).1)) := wf_u2 w (by intro h; omega) (by intro h; omega) (by intro h; omega) (fun _ => okv_nI (s_gq_lt w hg) (by decide)) (by intro h; omega) (by intro h; omega) (by intro h; omega)
  refine wf_u2 w1 (by intro h; omega) (by intro h; omega) (by intro h; omega) (by intro h; omega) (by intro h; omega) (fun _ => ?_) (by intro h; omega)
  split
  · exact s_min_le (w.sk hg).1 (w.sk hg).2
  · exact okv_nI (a := 0) (by decide) (by decide)
theorem walk_9 {r : rT} {g : Nat} {m : Int32} : s_walk r g m 9 = r 9 := rfl
theorem wf_wl {m : Int32} : ∀ (n g : Nat) (r : rT), wf r → g + n ≤ 8 → wf (s_wl m n g r) ∧ s_wl m n g r 9 = r 9 := by
  intro n
  induction n with
  | zero => intro g r w _; exact ⟨w, rfl⟩
  | succ n ih =>
    intro g r w hn
    rw [s_wl]
    split
    · have := ih (g + 1) _ (wf_walk (m := m) w (show g < 8 by omega)) (by omega)
      exact ⟨this.1, this.2.trans walk_9⟩
    · exact ih (g + 1) r w (by omega)
theorem wf_pf {r : rT} {mo le : Int32} (w : wf r) : wf (s_pf r mo le) := by
  have w1 : ∀ v, wf (u2 r 9 4 v) := fun v => wf_u2 w (by intro _ h; omega) (by intro _ h; omega) (by intro h; omega) (by intro h; omega) (by intro h; omega) (by intro h; omega) (by intro h; omega)
  unfold s_pf
  split
  · exact wf_u2 (w1 _) (by intro _ h; omega) (by intro _ h; omega) (by intro h; omega) (by intro h; omega) (by intro h; omega) (by intro h; omega) (by intro h; omega)
  · exact w1 _
theorem pf_90 {r : rT} {mo le : Int32} : s_pf r mo le 9 0 = r 9 0 ∧ s_pf r mo le 9 1 = r 9 1 := by
  unfold s_pf
  split <;> exact ⟨rfl, rfl⟩
theorem wf_h2 {m : Int32} {r : rT} (w : wf r) : wf (s_h2 m r) := by
  unfold s_h2
  split
  · exact wf_pf w
  · exact w
theorem wf_hf {m : Int32} {r : rT} (w : wf r) : wf (s_hf m r) := by
  unfold s_hf
  refine wf_u2 (wf_h2 w) (fun _ _ => ?_) (by intro _ h; omega) (by intro h; omega) (by intro h; omega) (by intro h; omega) (by intro h; omega) (by intro h; omega)
  exact s_min_le5 (wf_h2 w).h0 (wf_h2 w).h1
theorem wf_hour {r : rT} (w : wf r) : wf (s_hour r) := wf_hf (wf_wl _ _ r w (by have := w.ctl; omega)).1
theorem wf_hours : ∀ (n : Nat) (r : rT), wf r → wf (s_hours n r) := by
  intro n
  induction n with
  | zero => intro r w; exact w
  | succ n ih => intro r w; exact ih _ (wf_hour w)
theorem hf_91 {m : Int32} {r : rT} : s_hf m r 9 1 = r 9 1 := by
  show s_h2 m r 9 1 = r 9 1
  unfold s_h2
  split
  · exact pf_90.2
  · rfl
theorem hour_91 {r : rT} (w : wf r) : s_hour r 9 1 = r 9 1 := hf_91.trans (congrFun (wf_wl _ _ r w (by have := w.ctl; omega)).2 1)
set_option maxRecDepth 100000 in
theorem pl_tail {Γ : aG} {l : Launch} {M : Nat → aC} {j : Nat} {r : rT} (hj : j + 10 ≤ 54) {m mo le : Int32} {g : Nat} : Fr Γ l mX0_pull 79 [(0, .ref j), (1, .int m), (2, .int mo), (3, .int le), (4, .int (nI g))] [] 54 0 0 (putH M j r) none 54 (putH M j (s_pf r mo le)) := by
  refine fr_aload_n (pc := 79) rfl dX0_pull_79 ?_
  refine fr_aload_n (pc := 80) rfl dX0_pull_80 ?_
  refine fr_get (pc := 81) (ci := 0) (T := TX0) (k0 := 3) rfl hin_X0 (by decide) fl_X0_20 (by omega) putH_0 rfl dX0_pull_81 ?_
  refine fr_iload_n (pc := 84) rfl dX0_pull_84 ?_
  refine fr_iadd (pc := 85) dX0_pull_85 ?_
  refine fr_iload_n (pc := 86) rfl dX0_pull_86 ?_
  refine fr_isub (pc := 87) dX0_pull_87 ?_
  refine fr_iconst (pc := 88) (v := 0) rfl dX0_pull_88 ?_
  refine fr_mmax (pc := 89) gm_X0_82 wM_s_max wM_i wM_c_max ⟨by decide, by decide, by decide, by decide⟩ (Nat.le_of_ble_eq_true rfl) dX0_pull_89 ?_
  refine fr_sipush (pc := 92) (v := 9999) rfl dX0_pull_92 ?_
  refine fr_mmin (pc := 95) gm_X0_116 wM_s_min wM_i wM_c_min ⟨by decide, by decide, by decide, by decide⟩ (Nat.le_of_ble_eq_true rfl) dX0_pull_95 ?_
  refine fr_eq (z := s_pst r mo le) rfl ?_
  refine fr_put (pc := 98) (ci := 0) (T := TX0) (k0 := 3) (ty := .int) tyX0 tyX0_ok nmX0 rfl hin_X0 (by decide) fl_X0_20 rfl (by decide +kernel) rfl rfl (Nat.le_of_ble_eq_true rfl) (by omega) putH_0 dX0_pull_98 ?_
  refine fr_mem putH_f4 ?_
  refine fr_aload_n (pc := 101) rfl dX0_pull_101 ?_
  refine fr_get (pc := 102) (ci := 0) (T := TX0) (k0 := 3) rfl hin_X0 (by decide) fl_X0_20 (by omega) putH_0 rfl dX0_pull_102 ?_
  refine fr_aload_n (pc := 105) rfl dX0_pull_105 ?_
  refine fr_get (pc := 106) (ci := 0) (T := TX0) (k0 := 2) rfl hin_X0 (by decide) fl_X0_16 (by omega) putH_0 rfl dX0_pull_106 ?_
  refine fr_icmp_le (pc := 109) 117 (by decide) dX0_pull_109 (fun h109 => ?_) (fun h109 => ?_)
  · exact fr_return (pc := 117) rfl (by unfold s_pf; rw [if_neg (show ¬ r 9 3 < s_pst r mo le from Int32.not_lt.mpr h109)]) dX0_pull_117
  · refine fr_aload_n (pc := 112) rfl dX0_pull_112 ?_
    refine fr_iconst (pc := 113) (v := 1) rfl dX0_pull_113 ?_
    refine fr_put (pc := 114) (ci := 0) (T := TX0) (k0 := 4) (ty := .int) tyX0 tyX0_ok nmX0 rfl hin_X0 (by decide) fl_X0_23 rfl (by decide +kernel) rfl rfl (Nat.le_of_ble_eq_true rfl) (by omega) putH_0 dX0_pull_114 ?_
    refine fr_mem putH_f5 ?_
    exact fr_return (pc := 117) rfl (by unfold s_pf; rw [if_pos (show r 9 3 < s_pst r mo le from Int32.not_le.mp h109)]) dX0_pull_117
set_option maxRecDepth 100000 in
theorem pl_loop {Γ : aG} {l : Launch} {M : Nat → aC} {j : Nat} {r : rT} (hj : j + 10 ≤ 54) (w : wf r) {m : Int32} : ∀ (n g : Nat) (mo le : Int32), g + n = cnt r → Fr Γ l mX0_pull 10 [(0, .ref j), (1, .int m), (2, .int mo), (3, .int le), (4, .int (nI g))] [] 54 0 0 (putH M j r) none 54 (putH M j (s_pf r (s_sum (s_lg r) n g mo) (s_sum (s_lc r) n g le))) := by
  have hcl := w.ctl
  intro n
  induction n with
  | zero =>
    intro g mo le hn
    refine fr_iload (pc := 10) rfl dX0_pull_10 ?_
    refine fr_aload_n (pc := 12) rfl dX0_pull_12 ?_
    refine fr_get (pc := 13) (ci := 0) (T := TX0) (k0 := 6) rfl hin_X0 (by decide) fl_X0_29 (by omega) putH_0 rfl dX0_pull_13 ?_
    refine fr_icmp_ge (pc := 16) 79 (by decide) dX0_pull_16 (fun h16 => ?_) (fun h16 => ?_)
    · exact pl_tail hj
    · exact absurd (by rw [w.ct, ← hn]; exact Int32.le_refl _) h16
  | succ n ih =>
    intro g mo le hn
    refine fr_iload (pc := 10) rfl dX0_pull_10 ?_
    refine fr_aload_n (pc := 12) rfl dX0_pull_12 ?_
    refine fr_get (pc := 13) (ci := 0) (T := TX0) (k0 := 6) rfl hin_X0 (by decide) fl_X0_29 (by omega) putH_0 rfl dX0_pull_13 ?_
    refine fr_icmp_ge (pc := 16) 79 (by decide) dX0_pull_16 (fun h16 => ?_) (fun h16 => ?_)
    · exact absurd h16 (by rw [w.ct, ← hn]; exact nI_ge (by omega) (by omega))
    · refine fr_aload_n (pc := 19) rfl dX0_pull_19 ?_
      refine fr_get (pc := 20) (ci := 0) (T := TX0) (k0 := 12) rfl hin_X0 (by decide) fl_X0_47 (by omega) putH_0 rfl dX0_pull_20 ?_
      refine fr_iload (pc := 23) rfl dX0_pull_23 ?_
      refine fr_iald (pc := 25) g rfl (by omega) putH_8 (by first | assumption | omega) (by decide) dX0_pull_25 ?_
      refine fr_if_ne (pc := 26) 73 (by decide) dX0_pull_26 (fun h26 => ?_) (fun h26 => ?_)
      · refine fr_iinc (pc := 73) (v := nI (g + 1)) [(4, .int (nI (g + 1))), (0, .ref j), (1, .int m), (2, .int mo), (3, .int le)] rfl (nI_1 g) (by decide) rfl dX0_pull_73 ?_
        refine fr_goto (pc := 76) 10 (by decide) dX0_pull_76 ?_
        have q1 : mo + s_lg r g = mo := by rw [s_lg, if_neg h26, Int32.add_zero]
        have q2 : le + s_lc r g = le := by rw [s_lc, if_neg h26, Int32.add_zero]
        rw [s_sum, s_sum, q1, q2]
        exact fr_sub [1, 2, 3, 4, 0] rfl (ih (g + 1) mo le (by omega))
      · refine fr_iload_n (pc := 29) rfl dX0_pull_29 ?_
        refine fr_aload_n (pc := 30) rfl dX0_pull_30 ?_
        refine fr_get (pc := 31) (ci := 0) (T := TX0) (k0 := 8) rfl hin_X0 (by decide) fl_X0_35 (by omega) putH_0 rfl dX0_pull_31 ?_
        refine fr_iload (pc := 34) rfl dX0_pull_34 ?_
        refine fr_iald (pc := 36) g rfl (by omega) putH_4 (by first | assumption | omega) (by decide) dX0_pull_36 ?_
        refine fr_if_ne (pc := 37) 57 (by decide) dX0_pull_37 (fun h37 => ?_) (fun h37 => ?_)
        · refine fr_iconst (pc := 57) (v := 0) rfl dX0_pull_57 ?_
          refine fr_iadd (pc := 58) dX0_pull_58 ?_
          refine fr_nm (fun x2_59 e_x2_59 => ?_)
          refine fr_istore_n (pc := 59) [(2, .int x2_59), (0, .ref j), (1, .int m), (3, .int le), (4, .int (nI g))] (by decide) rfl dX0_pull_59 ?_
          refine fr_iload_n (pc := 60) rfl dX0_pull_60 ?_
          refine fr_aload_n (pc := 61) rfl dX0_pull_61 ?_
          refine fr_get (pc := 62) (ci := 0) (T := TX0) (k0 := 7) rfl hin_X0 (by decide) fl_X0_32 (by omega) putH_0 rfl dX0_pull_62 ?_
          refine fr_iload (pc := 65) rfl dX0_pull_65 ?_
          refine fr_iald (pc := 67) g rfl (by omega) putH_3 (by first | assumption | omega) (by decide) dX0_pull_67 ?_
          refine fr_callS0 (pc := 68) [.int (r 2 g)] [.int le] (c_X1_laces) gc_X0_125 rfl rfl ⟨rfl, rfl, by decide, by decide⟩ (Nat.le_of_ble_eq_true rfl) ⟨by decide, by decide⟩ dX0_pull_68 ?_
          refine fr_iadd (pc := 71) dX0_pull_71 ?_
          refine fr_nm (fun x3_72 e_x3_72 => ?_)
          refine fr_istore_n (pc := 72) [(3, .int x3_72), (2, .int x2_59), (0, .ref j), (1, .int m), (4, .int (nI g))] (by decide) rfl dX0_pull_72 ?_
          refine fr_iinc (pc := 73) (v := nI (g + 1)) [(4, .int (nI (g + 1))), (3, .int x3_72), (2, .int x2_59), (0, .ref j), (1, .int m)] rfl (nI_1 g) (by decide) rfl dX0_pull_73 ?_
          refine fr_goto (pc := 76) 10 (by decide) dX0_pull_76 ?_
          have q1 : x2_59 = mo + s_lg r g := by rw [e_x2_59, s_lg, if_pos h26, if_neg h37]
          have q2 : x3_72 = le + s_lc r g := by rw [e_x3_72, s_lc, if_pos h26]
          rw [s_sum, s_sum, ← q1, ← q2]
          exact fr_sub [3, 4, 2, 1, 0] rfl (ih (g + 1) x2_59 x3_72 (by omega))
        · refine fr_aload_n (pc := 40) rfl dX0_pull_40 ?_
          refine fr_get (pc := 41) (ci := 0) (T := TX0) (k0 := 7) rfl hin_X0 (by decide) fl_X0_32 (by omega) putH_0 rfl dX0_pull_41 ?_
          refine fr_iload (pc := 44) rfl dX0_pull_44 ?_
          refine fr_iald (pc := 46) g rfl (by omega) putH_3 (by first | assumption | omega) (by decide) dX0_pull_46 ?_
          refine fr_aload_n (pc := 47) rfl dX0_pull_47 ?_
          refine fr_get (pc := 48) (ci := 0) (T := TX0) (k0 := 5) rfl hin_X0 (by decide) fl_X0_26 (by omega) putH_0 rfl dX0_pull_48 ?_
          refine fr_callS0 (pc := 51) [.int (r 2 g), .int (r 9 0)] [.int mo] (c_X1_laughs) gc_X0_122 rfl rfl ⟨rfl, rfl, by decide, by decide⟩ (Nat.le_of_ble_eq_true rfl) ⟨by decide, by decide⟩ dX0_pull_51 ?_
          refine fr_goto (pc := 54) 58 (by decide) dX0_pull_54 ?_
          refine fr_iadd (pc := 58) dX0_pull_58 ?_
          refine fr_nm (fun x2_59 e_x2_59 => ?_)
          refine fr_istore_n (pc := 59) [(2, .int x2_59), (0, .ref j), (1, .int m), (3, .int le), (4, .int (nI g))] (by decide) rfl dX0_pull_59 ?_
          refine fr_iload_n (pc := 60) rfl dX0_pull_60 ?_
          refine fr_aload_n (pc := 61) rfl dX0_pull_61 ?_
          refine fr_get (pc := 62) (ci := 0) (T := TX0) (k0 := 7) rfl hin_X0 (by decide) fl_X0_32 (by omega) putH_0 rfl dX0_pull_62 ?_
          refine fr_iload (pc := 65) rfl dX0_pull_65 ?_
          refine fr_iald (pc := 67) g rfl (by omega) putH_3 (by first | assumption | omega) (by decide) dX0_pull_67 ?_
          refine fr_callS0 (pc := 68) [.int (r 2 g)] [.int le] (c_X1_laces) gc_X0_125 rfl rfl ⟨rfl, rfl, by decide, by decide⟩ (Nat.le_of_ble_eq_true rfl) ⟨by decide, by decide⟩ dX0_pull_68 ?_
          refine fr_iadd (pc := 71) dX0_pull_71 ?_
          refine fr_nm (fun x3_72 e_x3_72 => ?_)
          refine fr_istore_n (pc := 72) [(3, .int x3_72), (2, .int x2_59), (0, .ref j), (1, .int m), (4, .int (nI g))] (by decide) rfl dX0_pull_72 ?_
          refine fr_iinc (pc := 73) (v := nI (g + 1)) [(4, .int (nI (g + 1))), (3, .int x3_72), (2, .int x2_59), (0, .ref j), (1, .int m)] rfl (nI_1 g) (by decide) rfl dX0_pull_73 ?_
          refine fr_goto (pc := 76) 10 (by decide) dX0_pull_76 ?_
          have q1 : x2_59 = mo + s_lg r g := by rw [e_x2_59, s_lg, if_pos h26, if_pos h37]
          have q2 : x3_72 = le + s_lc r g := by rw [e_x3_72, s_lc, if_pos h26]
          rw [s_sum, s_sum, ← q1, ← q2]
          exact fr_sub [3, 4, 2, 1, 0] rfl (ih (g + 1) x2_59 x3_72 (by omega))
set_option maxRecDepth 100000 in
theorem c_X0_pull {Γ : aG} {l : Launch} {M : Nat → aC} {j : Nat} {r : rT} (hj : j + 10 ≤ 54) {m : Int32} (w : wf r)  : Ev Γ l mX0_pull [.ref j, .int m] 54 (putH M j r) none 54 (putH M j (s_pull r m)) := by
  refine Ev.of [(0, .ref j), (1, .int m)] (by decide) (Nat.le_of_ble_eq_true rfl) rfl ?_
  refine fr_bipush (pc := 0) (v := 36) rfl dX0_pull_0 ?_
  refine fr_iload_n (pc := 2) rfl dX0_pull_2 ?_
  refine fr_isub (pc := 3) dX0_pull_3 ?_
  refine fr_nm (fun x2_4 e_x2_4 => ?_)
  refine fr_istore_n (pc := 4) [(2, .int x2_4), (0, .ref j), (1, .int m)] (by decide) rfl dX0_pull_4 ?_
  refine fr_iconst (pc := 5) (v := 0) rfl dX0_pull_5 ?_
  refine fr_istore_n (pc := 6) [(3, .int 0), (2, .int x2_4), (0, .ref j), (1, .int m)] (by decide) rfl dX0_pull_6 ?_
  refine fr_iconst (pc := 7) (v := 0) rfl dX0_pull_7 ?_
  refine fr_istore (pc := 8) [(4, .int 0), (3, .int 0), (2, .int x2_4), (0, .ref j), (1, .int m)] (by decide) rfl dX0_pull_8 ?_
  rw [show s_pull r m = s_pf r (s_sum (s_lg r) (cnt r) 0 x2_4) (s_sum (s_lc r) (cnt r) 0 0) from by rw [e_x2_4]; rfl]
  exact fr_sub [3, 4, 2, 1, 0] rfl (pl_loop (m := m) hj w (cnt r) 0 x2_4 0 (by omega))
set_option maxRecDepth 100000 in
theorem ph_tail {Γ : aG} {l : Launch} {M : Nat → aC} {j : Nat} {r : rT} (hj : j + 10 ≤ 54) (w : wf r) {m : Int32} {g : Nat} : Fr Γ l mX0_passHour 51 [(0, .ref j), (1, .int m), (2, .int (nI g))] [] 54 0 0 (putH M j r) none 54 (putH M j (s_hf m r)) := by
  refine fr_aload_n (pc := 51) rfl dX0_passHour_51 ?_
  refine fr_get (pc := 52) (ci := 0) (T := TX0) (k0 := 4) rfl hin_X0 (by decide) fl_X0_23 (by omega) putH_0 rfl dX0_passHour_52 ?_
  refine fr_if_ne (pc := 55) 63 (by decide) dX0_passHour_55 (fun h55 => ?_) (fun h55 => ?_)
  · refine fr_aload_n (pc := 63) rfl dX0_passHour_63 ?_
    refine fr_aload_n (pc := 64) rfl dX0_passHour_64 ?_
    refine fr_get (pc := 65) (ci := 0) (T := TX0) (k0 := 5) rfl hin_X0 (by decide) fl_X0_26 (by omega) putH_0 rfl dX0_passHour_65 ?_
    refine fr_iconst (pc := 68) (v := 1) rfl dX0_passHour_68 ?_
    refine fr_iadd (pc := 69) dX0_passHour_69 ?_
    refine fr_ldc (pc := 70) kc_X0_115 dX0_passHour_70 ?_
    refine fr_mmin (pc := 72) gm_X0_116 wM_s_min wM_i wM_c_min ⟨by decide, by decide, by decide, by decide⟩ (Nat.le_of_ble_eq_true rfl) dX0_passHour_72 ?_
    refine fr_put (pc := 75) (ci := 0) (T := TX0) (k0 := 5) (ty := .int) tyX0 tyX0_ok nmX0 rfl hin_X0 (by decide) fl_X0_26 rfl (by decide +kernel) rfl rfl (Nat.le_of_ble_eq_true rfl) (by omega) putH_0 dX0_passHour_75 ?_
    refine fr_mem putH_f0 ?_
    exact fr_return (pc := 78) rfl (by unfold s_hf; rw [show s_h2 m r = r from if_neg h55]) dX0_passHour_78
  · refine fr_aload_n (pc := 58) rfl dX0_passHour_58 ?_
    refine fr_iload_n (pc := 59) rfl dX0_passHour_59 ?_
    refine fr_callV0 (pc := 60) (ci := 0) (T := TX0) (N := 15) [.int m] [] (c_X0_pull (by omega) (by assumption)) gc_X0_111 rfl rfl ⟨rfl, rfl, by decide, by decide⟩ (Nat.le_of_ble_eq_true rfl) rfl (by omega) putH_0 ⟨by decide, by decide⟩ dX0_passHour_60 ?_
    refine fr_aload_n (pc := 63) rfl dX0_passHour_63 ?_
    refine fr_aload_n (pc := 64) rfl dX0_passHour_64 ?_
    refine fr_get (pc := 65) (ci := 0) (T := TX0) (k0 := 5) rfl hin_X0 (by decide) fl_X0_26 (by omega) putH_0 rfl dX0_passHour_65 ?_
    refine fr_iconst (pc := 68) (v := 1) rfl dX0_passHour_68 ?_
    refine fr_iadd (pc := 69) dX0_passHour_69 ?_
    refine fr_ldc (pc := 70) kc_X0_115 dX0_passHour_70 ?_
    refine fr_mmin (pc := 72) gm_X0_116 wM_s_min wM_i wM_c_min ⟨by decide, by decide, by decide, by decide⟩ (Nat.le_of_ble_eq_true rfl) dX0_passHour_72 ?_
    refine fr_put (pc := 75) (ci := 0) (T := TX0) (k0 := 5) (ty := .int) tyX0 tyX0_ok nmX0 rfl hin_X0 (by decide) fl_X0_26 rfl (by decide +kernel) rfl rfl (Nat.le_of_ble_eq_true rfl) (by omega) putH_0 dX0_passHour_75 ?_
    refine fr_mem putH_f0 ?_
    exact fr_return (pc := 78) rfl (by unfold s_hf; rw [show s_h2 m r = s_pull r m from if_pos h55]) dX0_passHour_78
set_option maxRecDepth 100000 in
theorem ph_loop {Γ : aG} {l : Launch} {M : Nat → aC} {j : Nat} (hj : j + 10 ≤ 54) {m : Int32} : ∀ (n g : Nat) (r : rT), wf r → g + n = cnt r → Fr Γ l mX0_passHour 7 [(0, .ref j), (1, .int m), (2, .int (nI g))] [] 54 0 0 (putH M j r) none 54 (putH M j (s_hf m (s_wl m n g r))) := by
  intro n
  induction n with
  | zero =>
    intro g r w hn
    have hcl := w.ctl
    refine fr_iload_n (pc := 7) rfl dX0_passHour_7 ?_
    refine fr_aload_n (pc := 8) rfl dX0_passHour_8 ?_
    refine fr_get (pc := 9) (ci := 0) (T := TX0) (k0 := 6) rfl hin_X0 (by decide) fl_X0_29 (by omega) putH_0 rfl dX0_passHour_9 ?_
    refine fr_icmp_ge (pc := 12) 51 (by decide) dX0_passHour_12 (fun h12 => ?_) (fun h12 => ?_)
    · exact ph_tail hj w
    · exact absurd (by rw [w.ct, ← hn]; exact Int32.le_refl _) h12
  | succ n ih =>
    intro g r w hn
    have hcl := w.ctl
    refine fr_iload_n (pc := 7) rfl dX0_passHour_7 ?_
    refine fr_aload_n (pc := 8) rfl dX0_passHour_8 ?_
    refine fr_get (pc := 9) (ci := 0) (T := TX0) (k0 := 6) rfl hin_X0 (by decide) fl_X0_29 (by omega) putH_0 rfl dX0_passHour_9 ?_
    refine fr_icmp_ge (pc := 12) 51 (by decide) dX0_passHour_12 (fun h12 => ?_) (fun h12 => ?_)
    · exact absurd h12 (by rw [w.ct, ← hn]; exact nI_ge (by omega) (by omega))
    · refine fr_aload_n (pc := 15) rfl dX0_passHour_15 ?_
      refine fr_get (pc := 16) (ci := 0) (T := TX0) (k0 := 12) rfl hin_X0 (by decide) fl_X0_47 (by omega) putH_0 rfl dX0_passHour_16 ?_
      refine fr_iload_n (pc := 19) rfl dX0_passHour_19 ?_
      refine fr_iald (pc := 20) g rfl (by omega) putH_8 (by first | assumption | omega) (by decide) dX0_passHour_20 ?_
      refine fr_if_ne (pc := 21) 45 (by decide) dX0_passHour_21 (fun h21 => ?_) (fun h21 => ?_)
      · refine fr_iinc (pc := 45) (v := nI (g + 1)) [(2, .int (nI (g + 1))), (0, .ref j), (1, .int m)] rfl (nI_1 g) (by decide) rfl dX0_passHour_45 ?_
        refine fr_goto (pc := 48) 7 (by decide) dX0_passHour_48 ?_
        rw [s_wl, if_neg (fun h => h21 h.1)]
        exact fr_sub [1, 2, 0] rfl (ih (g + 1) r w (by omega))
      · refine fr_aload_n (pc := 24) rfl dX0_passHour_24 ?_
        refine fr_get (pc := 25) (ci := 0) (T := TX0) (k0 := 8) rfl hin_X0 (by decide) fl_X0_35 (by omega) putH_0 rfl dX0_passHour_25 ?_
        refine fr_iload_n (pc := 28) rfl dX0_passHour_28 ?_
        refine fr_iald (pc := 29) g rfl (by omega) putH_4 (by first | assumption | omega) (by decide) dX0_passHour_29 ?_
        refine fr_aload_n (pc := 30) rfl dX0_passHour_30 ?_
        refine fr_get (pc := 31) (ci := 0) (T := TX0) (k0 := 10) rfl hin_X0 (by decide) fl_X0_41 (by omega) putH_0 rfl dX0_passHour_31 ?_
        refine fr_iload_n (pc := 34) rfl dX0_passHour_34 ?_
        refine fr_iald (pc := 35) g rfl (by omega) putH_6 (by first | assumption | omega) (by decide) dX0_passHour_35 ?_
        refine fr_icmp_eq (pc := 36) 45 (by decide) dX0_passHour_36 (fun h36 => ?_) (fun h36 => ?_)
        · refine fr_iinc (pc := 45) (v := nI (g + 1)) [(2, .int (nI (g + 1))), (0, .ref j), (1, .int m)] rfl (nI_1 g) (by decide) rfl dX0_passHour_45 ?_
          refine fr_goto (pc := 48) 7 (by decide) dX0_passHour_48 ?_
          rw [s_wl, if_neg (fun h => h.2 h36)]
          exact fr_sub [1, 2, 0] rfl (ih (g + 1) r w (by omega))
        · refine fr_aload_n (pc := 39) rfl dX0_passHour_39 ?_
          refine fr_iload_n (pc := 40) rfl dX0_passHour_40 ?_
          refine fr_iload_n (pc := 41) rfl dX0_passHour_41 ?_
          refine fr_callV0 (pc := 42) (ci := 0) (T := TX0) (N := 15) [.int (nI g), .int m] [] (c_X0_walk (by omega) (by omega) (by assumption)) gc_X0_107 rfl rfl ⟨rfl, rfl, by decide, by decide⟩ (Nat.le_of_ble_eq_true rfl) rfl (by omega) putH_0 ⟨by decide, by decide⟩ dX0_passHour_42 ?_
          refine fr_iinc (pc := 45) (v := nI (g + 1)) [(2, .int (nI (g + 1))), (0, .ref j), (1, .int m)] rfl (nI_1 g) (by decide) rfl dX0_passHour_45 ?_
          refine fr_goto (pc := 48) 7 (by decide) dX0_passHour_48 ?_
          rw [s_wl, if_pos ⟨h21, h36⟩]
          exact fr_sub [1, 2, 0] rfl (ih (g + 1) (s_walk r g m) (wf_walk w (by omega)) (by show _ = cnt r; omega))
set_option maxRecDepth 100000 in
theorem c_X0_passHour {Γ : aG} {l : Launch} {M : Nat → aC} {j : Nat} {r : rT} (hj : j + 10 ≤ 54) (w : wf r)  : Ev Γ l mX0_passHour [.ref j] 54 (putH M j r) none 54 (putH M j (s_hour r)) := by
  refine Ev.of [(0, .ref j)] (by decide) (Nat.le_of_ble_eq_true rfl) rfl ?_
  refine fr_aload_n (pc := 0) rfl dX0_passHour_0 ?_
  refine fr_callV0 (pc := 1) (ci := 0) (T := TX0) (N := 15) [] [] (c_X0_measureNow (by omega) (by assumption)) gc_X0_104 rfl rfl ⟨rfl, rfl, by decide, by decide⟩ (Nat.le_of_ble_eq_true rfl) rfl (by omega) putH_0 ⟨by decide, by decide⟩ dX0_passHour_1 ?_
  refine fr_nm (fun x1_4 e_x1_4 => ?_)
  refine fr_istore_n (pc := 4) [(1, .int x1_4), (0, .ref j)] (by decide) rfl dX0_passHour_4 ?_
  refine fr_iconst (pc := 5) (v := 0) rfl dX0_passHour_5 ?_
  refine fr_istore_n (pc := 6) [(2, .int 0), (1, .int x1_4), (0, .ref j)] (by decide) rfl dX0_passHour_6 ?_
  rw [show s_hour r = s_hf x1_4 (s_wl x1_4 (cnt r) 0 r) from by rw [e_x1_4]; rfl]
  exact fr_sub [2, 1, 0] rfl (ph_loop hj (cnt r) 0 r w (by omega))
