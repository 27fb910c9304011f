theorem on_nx {up : Bool} {a aim : Nat} (h : s_in up a aim) (hne : ¬ a = aim) (ha : a < 16) (hm : aim < 16) : nI a + s_on up = nI (s_nx up a) ∧ s_nx up a < 16 ∧ s_in up (s_nx up a) aim := by
  rcases h with ⟨rfl, h⟩ | ⟨rfl, h⟩
  · exact ⟨nI_1 a, by show a + 1 < 16; omega, Or.inl ⟨rfl, by show a + 1 ≤ aim; omega⟩⟩
  · cases a with
    | zero => omega
    | succ b => exact ⟨pk_m1 b, by show b + 1 - 1 < 16; omega, Or.inr ⟨rfl, by show aim ≤ b + 1 - 1; omega⟩⟩
theorem ks_nI (k : Int32) : k_steps k = nI (k_steps k).toNatClampNeg ∧ (k_steps k).toNatClampNeg ≤ 5 := by
  unfold k_steps
  repeat' split
  all_goals exact ⟨by decide, by decide⟩
theorem u2_self {r : rT} {q i : Nat} {v : Int32} (h : r q i = v) : u2 r q i v = r := by
  funext a b
  rw [u2_at]
  by_cases e : a = q ∧ b = i
  · rw [if_pos e, e.1, e.2, h]
  · rw [if_neg e]
set_option maxRecDepth 100000 in
theorem wk_tail {Γ : aG} {l : Launch} {M : Nat → aC} {j g : Nat} {r : rT} {m need st : Int32} {up : Bool} (hj : j + 10 ≤ 54) (hg : g < 8) {a k : Nat} (hk : k < 100) : Fr Γ l mX0_walk 99 [(0, .ref j), (1, .int (nI g)), (2, .int m), (3, .int need), (4, .int st), (5, .int (s_on up)), (6, .int (nI k))] [] 54 0 0 (putH M j (u2 r 3 g (nI a))) none 54 (putH M j (s_wf r g (a, k))) := by
  refine fr_aload_n (pc := 99) rfl dX0_walk_99 ?_
  refine fr_get (pc := 100) (ci := 0) (T := TX0) (k0 := 11) rfl hin_X0 (by decide) fl_X0_44 (by omega) putH_0 rfl dX0_walk_100 ?_
  refine fr_iload_n (pc := 103) rfl dX0_walk_103 ?_
  refine fr_iload (pc := 104) rfl dX0_walk_104 ?_
  refine fr_if_le (pc := 106) 113 (by decide) dX0_walk_106 (fun h106 => ?_) (fun h106 => ?_)
  · have hk0 : k = 0 := by
      rcases Nat.eq_zero_or_pos k with q | q
      · exact q
      · exact absurd h106 (nI_nle q (by omega))
    subst hk0
    refine fr_aload_n (pc := 113) rfl dX0_walk_113 ?_
    refine fr_get (pc := 114) (ci := 0) (T := TX0) (k0 := 11) rfl hin_X0 (by decide) fl_X0_44 (by omega) putH_0 rfl dX0_walk_114 ?_
    refine fr_iload_n (pc := 117) rfl dX0_walk_117 ?_
    refine fr_iald (pc := 118) g rfl (by omega) putH_7 (by first | assumption | omega) (by decide) dX0_walk_118 ?_
    refine fr_iconst (pc := 119) (v := 1) rfl dX0_walk_119 ?_
    refine fr_iadd (pc := 120) dX0_walk_120 ?_
    refine fr_sipush (pc := 121) (v := 9999) rfl dX0_walk_121 ?_
    refine fr_mmin (pc := 124) gm_X0_116 wM_s_min wM_i wM_c_min ⟨by decide, by decide, by decide, by decide⟩ (Nat.le_of_ble_eq_true rfl) dX0_walk_124 ?_
    refine fr_iast (pc := 127) g rfl (by omega) putH_7 (by first | assumption | omega) (by decide) dX0_walk_127 ?_
    refine fr_mem putH_a6 ?_
    exact fr_return (pc := 128) rfl rfl dX0_walk_128
  · have hk0 : ¬ k = 0 := fun q => h106 (by subst q; decide)
    refine fr_iconst (pc := 109) (v := 0) rfl dX0_walk_109 ?_
    refine fr_goto (pc := 110) 127 (by decide) dX0_walk_110 ?_
    refine fr_iast (pc := 127) g rfl (by omega) putH_7 (by first | assumption | omega) (by decide) dX0_walk_127 ?_
    refine fr_mem putH_a6 ?_
    exact fr_return (pc := 128) rfl (by unfold s_wf; rw [if_neg hk0]) dX0_walk_128
set_option maxRecDepth 100000 in
theorem wk_loop {Γ : aG} {l : Launch} {M : Nat → aC} {j g : Nat} {r : rT} {m need st : Int32} {up : Bool} (hj : j + 10 ≤ 54) (hg : g < 8) (w : wf r) : ∀ (n a k : Nat), a < 16 → s_in up a (nat r 5 g) → st = nI (k + n) → k + n < 100 → Fr Γ l mX0_walk 42 [(0, .ref j), (1, .int (nI g)), (2, .int m), (3, .int need), (4, .int st), (5, .int (s_on up)), (6, .int (nI k))] [] 54 0 0 (putH M j (u2 r 3 g (nI a))) none 54 (putH M j (s_wf r g (s_go r m need up (nat r 5 g) n a k))) := by
  have haim : r 5 g = nI (nat r 5 g) ∧ nat r 5 g < 16 := w.am hg
  intro n
  induction n with
  | zero =>
    intro a k ha hin hst hlt
    refine fr_iload (pc := 42) rfl dX0_walk_42 ?_
    refine fr_iload (pc := 44) rfl dX0_walk_44 ?_
    refine fr_icmp_ge (pc := 46) 99 (by decide) dX0_walk_46 (fun h46 => ?_) (fun h46 => ?_)
    · exact wk_tail hj hg (by omega)
    · exact absurd (by rw [hst]; exact Int32.le_refl _) h46
  | succ n ih =>
    intro a k ha hin hst hlt
    refine fr_iload (pc := 42) rfl dX0_walk_42 ?_
    refine fr_iload (pc := 44) rfl dX0_walk_44 ?_
    refine fr_icmp_ge (pc := 46) 99 (by decide) dX0_walk_46 (fun h46 => ?_) (fun h46 => ?_)
    · exact absurd h46 (by rw [hst]; exact nI_ge (by omega) (by omega))
    · refine fr_aload_n (pc := 49) rfl dX0_walk_49 ?_
      refine fr_get (pc := 50) (ci := 0) (T := TX0) (k0 := 8) rfl hin_X0 (by decide) fl_X0_35 (by omega) putH_0 rfl dX0_walk_50 ?_
      refine fr_iload_n (pc := 53) rfl dX0_walk_53 ?_
      refine fr_iald (pc := 54) g rfl (by omega) putH_4 (by first | assumption | omega) (by decide) dX0_walk_54 ?_
      refine fr_eq (z := (nI a)) u2_s ?_
      refine fr_aload_n (pc := 55) rfl dX0_walk_55 ?_
      refine fr_get (pc := 56) (ci := 0) (T := TX0) (k0 := 10) rfl hin_X0 (by decide) fl_X0_41 (by omega) putH_0 rfl dX0_walk_56 ?_
      refine fr_iload_n (pc := 59) rfl dX0_walk_59 ?_
      refine fr_iald (pc := 60) g rfl (by omega) putH_6 (by first | assumption | omega) (by decide) dX0_walk_60 ?_
      refine fr_eq (z := (nI (nat r 5 g))) ((congrFun (u2_q (by decide)) g).trans haim.1) ?_
      refine fr_icmp_eq (pc := 61) 99 (by decide) dX0_walk_61 (fun h61 => ?_) (fun h61 => ?_)
      · have ha5 : a = nat r 5 g := (nI_eq (by omega) (by omega)).mp h61
        rw [show s_go r m need up (nat r 5 g) (n + 1) a k = (a, k) from if_pos ha5]
        exact wk_tail hj hg (by omega)
      · have ha5 : ¬ a = nat r 5 g := fun q => h61 (by rw [← q])
        obtain ⟨e1, e2, e3⟩ := on_nx hin ha5 ha haim.2
        refine fr_aload_n (pc := 64) rfl dX0_walk_64 ?_
        refine fr_aload_n (pc := 65) rfl dX0_walk_65 ?_
        refine fr_get (pc := 66) (ci := 0) (T := TX0) (k0 := 8) rfl hin_X0 (by decide) fl_X0_35 (by omega) putH_0 rfl dX0_walk_66 ?_
        refine fr_iload_n (pc := 69) rfl dX0_walk_69 ?_
        refine fr_iald (pc := 70) g rfl (by omega) putH_4 (by first | assumption | omega) (by decide) dX0_walk_70 ?_
        refine fr_eq (z := (nI a)) u2_s ?_
        refine fr_iload (pc := 71) rfl dX0_walk_71 ?_
        refine fr_iadd (pc := 73) dX0_walk_73 ?_
        refine fr_eq (z := (nI (s_nx up a))) e1 ?_
        refine fr_iload_n (pc := 74) rfl dX0_walk_74 ?_
        refine fr_callV0 (pc := 75) (ci := 0) (T := TX0) (N := 15) [.int (nI (s_nx up a)), .int m] [] (c_X0_width (by omega) (by first | assumption | omega)) gc_X0_91 rfl rfl ⟨rfl, rfl, by decide, by decide⟩ (Nat.le_of_ble_eq_true rfl) rfl (by omega) putH_0 ⟨by decide, by decide⟩ dX0_walk_75 ?_
        refine fr_iload_n (pc := 78) rfl dX0_walk_78 ?_
        refine fr_icmp_lt (pc := 79) 99 (by decide) dX0_walk_79 (fun h79 => ?_) (fun h79 => ?_)
        · rw [show s_go r m need up (nat r 5 g) (n + 1) a k = (a, k) from by rw [s_go, if_neg ha5, if_pos (show s_width r (s_nx up a) m < need from h79)]]
          exact wk_tail hj hg (by omega)
        · refine fr_aload_n (pc := 82) rfl dX0_walk_82 ?_
          refine fr_get (pc := 83) (ci := 0) (T := TX0) (k0 := 8) rfl hin_X0 (by decide) fl_X0_35 (by omega) putH_0 rfl dX0_walk_83 ?_
          refine fr_iload_n (pc := 86) rfl dX0_walk_86 ?_
          refine fr_dup2 (pc := 87) rfl rfl dX0_walk_87 ?_
          refine fr_iald (pc := 88) g rfl (by omega) putH_4 (by first | assumption | omega) (by decide) dX0_walk_88 ?_
          refine fr_eq (z := (nI a)) u2_s ?_
          refine fr_iload (pc := 89) rfl dX0_walk_89 ?_
          refine fr_iadd (pc := 91) dX0_walk_91 ?_
          refine fr_eq (z := (nI (s_nx up a))) e1 ?_
          refine fr_iast (pc := 92) g rfl (by omega) putH_4 (by first | assumption | omega) (by decide) dX0_walk_92 ?_
          refine fr_mem putH_a3 ?_
          refine fr_mem (M1 := (putH M j (u2 r 3 g (nI (s_nx up a))))) (congrArg (putH M j) u2_u2) ?_
          refine fr_iinc (pc := 93) (v := nI (k + 1)) [(6, .int (nI (k + 1))), (0, .ref j), (1, .int (nI g)), (2, .int m), (3, .int need), (4, .int st), (5, .int (s_on up))] rfl (nI_1 k) (by decide) rfl dX0_walk_93 ?_
          refine fr_goto (pc := 96) 42 (by decide) dX0_walk_96 ?_
          rw [show s_go r m need up (nat r 5 g) (n + 1) a k = _ from by rw [s_go, if_neg ha5, if_neg (show ¬ s_width r (s_nx up a) m < need from h79)]]
          exact fr_sub [1, 2, 3, 4, 5, 6, 0] rfl (ih (s_nx up a) (k + 1) e2 e3 (by rw [hst]; congr 1; omega) (by omega))
set_option maxRecDepth 100000 in
theorem c_X0_walk {Γ : aG} {l : Launch} {M : Nat → aC} {j : Nat} {r : rT} (hj : j + 10 ≤ 54) {g : Nat} {m : Int32} (hg : g < 8) (w : wf r)  : Ev Γ l mX0_walk [.ref j, .int (nI g), .int m] 54 (putH M j r) none 54 (putH M j (s_walk r g m)) := by
  have haim : r 5 g = nI (nat r 5 g) ∧ nat r 5 g < 16 := w.am hg
  have hat : r 3 g = nI (nat r 3 g) ∧ nat r 3 g < 16 := w.at hg
  refine Ev.of [(0, .ref j), (1, .int (nI g)), (2, .int m)] (by decide) (Nat.le_of_ble_eq_true rfl) rfl ?_
  refine fr_aload_n (pc := 0) rfl dX0_walk_0 ?_
  refine fr_iload_n (pc := 1) rfl dX0_walk_1 ?_
  refine fr_callV0 (pc := 2) (ci := 0) (T := TX0) (N := 15) [.int (nI g)] [] (c_X0_needs (by omega) (by first | assumption | omega)) gc_X0_88 rfl rfl ⟨rfl, rfl, by decide, by decide⟩ (Nat.le_of_ble_eq_true rfl) rfl (by omega) putH_0 ⟨by decide, by decide⟩ dX0_walk_2 ?_
  refine fr_nm (fun need e_need => ?_)
  refine fr_istore_n (pc := 5) [(3, .int need), (0, .ref j), (1, .int (nI g)), (2, .int m)] (by decide) rfl dX0_walk_5 ?_
  refine fr_aload_n (pc := 6) rfl dX0_walk_6 ?_
  refine fr_get (pc := 7) (ci := 0) (T := TX0) (k0 := 7) rfl hin_X0 (by decide) fl_X0_32 (by omega) putH_0 rfl dX0_walk_7 ?_
  refine fr_iload_n (pc := 10) rfl dX0_walk_10 ?_
  refine fr_iald (pc := 11) g rfl (by omega) putH_3 (by first | assumption | omega) (by decide) dX0_walk_11 ?_
  refine fr_callS0 (pc := 12) [.int (r 2 g)] [] (c_X1_steps) gc_X0_119 rfl rfl ⟨rfl, rfl, by decide, by decide⟩ (Nat.le_of_ble_eq_true rfl) ⟨by decide, by decide⟩ dX0_walk_12 ?_
  refine fr_nm (fun st e_st => ?_)
  refine fr_istore (pc := 15) [(4, .int st), (3, .int need), (0, .ref j), (1, .int (nI g)), (2, .int m)] (by decide) rfl dX0_walk_15 ?_
  refine fr_aload_n (pc := 17) rfl dX0_walk_17 ?_
  refine fr_get (pc := 18) (ci := 0) (T := TX0) (k0 := 10) rfl hin_X0 (by decide) fl_X0_41 (by omega) putH_0 rfl dX0_walk_18 ?_
  refine fr_iload_n (pc := 21) rfl dX0_walk_21 ?_
  refine fr_iald (pc := 22) g rfl (by omega) putH_6 (by first | assumption | omega) (by decide) dX0_walk_22 ?_
  refine fr_eq (z := (nI (nat r 5 g))) haim.1 ?_
  refine fr_aload_n (pc := 23) rfl dX0_walk_23 ?_
  refine fr_get (pc := 24) (ci := 0) (T := TX0) (k0 := 8) rfl hin_X0 (by decide) fl_X0_35 (by omega) putH_0 rfl dX0_walk_24 ?_
  refine fr_iload_n (pc := 27) rfl dX0_walk_27 ?_
  refine fr_iald (pc := 28) g rfl (by omega) putH_4 (by first | assumption | omega) (by decide) dX0_walk_28 ?_
  refine fr_eq (z := (nI (nat r 3 g))) hat.1 ?_
  refine fr_icmp_le (pc := 29) 36 (by decide) dX0_walk_29 (fun h29 => ?_) (fun h29 => ?_)
  · have hup : ¬ nat r 3 g < nat r 5 g := fun q => absurd h29 (nI_ge q (by omega))
    refine fr_iconst (pc := 36) (v := (-1)) rfl dX0_walk_36 ?_
    refine fr_istore (pc := 37) [(5, .int (-1)), (4, .int st), (3, .int need), (0, .ref j), (1, .int (nI g)), (2, .int m)] (by decide) rfl dX0_walk_37 ?_
    refine fr_iconst (pc := 39) (v := 0) rfl dX0_walk_39 ?_
    refine fr_istore (pc := 40) [(6, .int 0), (5, .int (-1)), (4, .int st), (3, .int need), (0, .ref j), (1, .int (nI g)), (2, .int m)] (by decide) rfl dX0_walk_40 ?_
    rw [show s_walk r g m = s_wf r g (s_go r m need false (nat r 5 g) (k_steps (r 2 g)).toNatClampNeg (nat r 3 g) 0) from by unfold s_walk s_gq; rw [e_need, decide_eq_false hup]]
    refine fr_mem (M1 := putH M j (u2 r 3 g (nI (nat r 3 g)))) (by rw [u2_self hat.1]) ?_
    exact fr_sub [4, 5, 6, 3, 2, 1, 0] rfl (wk_loop (st := st) (up := false) hj hg w (k_steps (r 2 g)).toNatClampNeg (nat r 3 g) 0 hat.2 (Or.inr ⟨rfl, by omega⟩) (by rw [e_st, Nat.zero_add]; exact (ks_nI _).1) (by have := (ks_nI (r 2 g)).2; omega))
  · have hup : nat r 3 g < nat r 5 g := Nat.lt_of_not_le fun q => h29 (nI_le q (by omega))
    refine fr_iconst (pc := 32) (v := 1) rfl dX0_walk_32 ?_
    refine fr_goto (pc := 33) 37 (by decide) dX0_walk_33 ?_
    refine fr_istore (pc := 37) [(5, .int 1), (4, .int st), (3, .int need), (0, .ref j), (1, .int (nI g)), (2, .int m)] (by decide) rfl dX0_walk_37 ?_
    refine fr_iconst (pc := 39) (v := 0) rfl dX0_walk_39 ?_
    refine fr_istore (pc := 40) [(6, .int 0), (5, .int 1), (4, .int st), (3, .int need), (0, .ref j), (1, .int (nI g)), (2, .int m)] (by decide) rfl dX0_walk_40 ?_
    rw [show s_walk r g m = s_wf r g (s_go r m need true (nat r 5 g) (k_steps (r 2 g)).toNatClampNeg (nat r 3 g) 0) from by unfold s_walk s_gq; rw [e_need, decide_eq_true hup]]
    refine fr_mem (M1 := putH M j (u2 r 3 g (nI (nat r 3 g)))) (by rw [u2_self hat.1]) ?_
    exact fr_sub [4, 5, 6, 3, 2, 1, 0] rfl (wk_loop (st := st) (up := true) hj hg w (k_steps (r 2 g)).toNatClampNeg (nat r 3 g) 0 hat.2 (Or.inl ⟨rfl, by omega⟩) (by rw [e_st, Nat.zero_add]; exact (ks_nI _).1) (by have := (ks_nI (r 2 g)).2; omega))
