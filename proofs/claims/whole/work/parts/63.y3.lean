theorem lt_i {a b : Int32} : a < b ↔ a.toInt < b.toInt := Int32.lt_iff_toInt_lt
theorem smin_c (c x : Int32) : s_min c x = s_min x c := by
  show (if x < c then x else c) = (if c < x then c else x)
  by_cases h1 : x < c
  · rw [if_pos h1, if_neg (fun h2 => by rw [lt_i] at h1 h2; omega)]
  · rw [if_neg h1]
    by_cases h2 : c < x
    · rw [if_pos h2]
    · rw [if_neg h2]
      refine Int32.toInt_inj.mp ?_
      rw [lt_i] at h1 h2
      omega
theorem clamp_c (x : Int32) : s_max 0 (s_min 9999 x) = s_min (s_max x 0) 9999 := by
  show (if 0 < (if x < 9999 then x else 9999) then (if x < 9999 then x else 9999) else 0) = (if 9999 < (if x < 0 then 0 else x) then 9999 else (if x < 0 then 0 else x))
  have z9 : (9999 : Int32).toInt = 9999 := by decide
  have z0 : (0 : Int32).toInt = 0 := by decide
  by_cases h1 : x < 9999
  · rw [if_pos h1]
    by_cases h0 : x < 0
    · rw [if_pos h0, if_neg (show ¬ 0 < x from fun h => by rw [lt_i, z0] at h h0; omega), if_neg (by decide)]
    · rw [if_neg h0, if_neg (show ¬ 9999 < x from fun h => by rw [lt_i, z9] at h h1; omega)]
      by_cases h2 : 0 < x
      · rw [if_pos h2]
      · rw [if_neg h2]
        refine Int32.toInt_inj.mp ?_
        rw [lt_i, z0] at h0 h2
        omega
  · rw [if_neg h1, if_pos (by decide)]
    have h0 : ¬ x < 0 := fun h => by rw [lt_i, z0] at h; rw [lt_i, z9] at h1; omega
    rw [if_neg h0]
    by_cases h2 : 9999 < x
    · rw [if_pos h2]
    · rw [if_neg h2]
      refine Int32.toInt_inj.mp ?_
      rw [lt_i, z9] at h1 h2
      omega
theorem i_r1 (a b c x y : Int32) : a + b - c + x - y = a + (b + x) - (c + y) := by
  simp only [Int32.sub_eq_add_neg, Int32.neg_add, Int32.add_assoc, Int32.add_comm, i_alc]
theorem i_r2 (a m : Int32) : a + 36 - m = a + (36 - m) - 0 := by
  rw [Int32.sub_zero, Int32.sub_eq_add_neg, Int32.sub_eq_add_neg, Int32.add_assoc]
set_option maxRecDepth 100000 in
theorem yw_tail {Γ : aG} {l : Launch} {M : Nat → aC} {r : rT} {kr ar : Nat → Int32} {ik : Int32} {fi b : Nat → Int32} {ln : Int32} {S : sT} {it mv : Nat → Int32} {Q : yQ} {g aim : Nat} {m need : Int32} {up : Bool} (hg : g < 8) {a k : Nat} (hk : k < 100) : Fr Γ l mX5_goes 82 [(0, .ref 42), (1, .int (nI g)), (2, .int m), (3, .int (nI aim)), (4, .int (nI a)), (5, .int (s_on up)), (6, .int need), (7, .int (nI k))] [] 54 0 0 (yM M r kr ar ik fi b ln S it mv Q) none 54 (yM M (s_wf r g (a, k)) kr ar ik fi b ln S it mv Q) := by
  refine fr_aload_n (pc := 82) rfl dX5_goes_82 ?_
  refine fr_get (pc := 83) (ci := 4) (T := TX5) (k0 := 0) rfl hin_X5 (by decide) fl_X5_9 (by decide) y_42 rfl dX5_goes_83 ?_
  refine fr_iload_n (pc := 86) rfl dX5_goes_86 ?_
  refine fr_iconst (pc := 87) (v := 1) rfl dX5_goes_87 ?_
  refine fr_callS0 (pc := 88) [.int (nI g), .int 1] [.ref 43] (c_X5_guestAt (g := g) (k := 1)) gc_X5_106 rfl rfl ⟨rfl, rfl, by decide, by decide⟩ (Nat.le_of_ble_eq_true rfl) ⟨by decide, by decide⟩ dX5_goes_88 ?_
  refine fr_iload (pc := 91) rfl dX5_goes_91 ?_
  refine fr_iast (pc := 93) (38 + 6 * g + 1) rfl (by decide) y_43 (by first | assumption | omega) (by decide) dX5_goes_93 ?_
  refine fr_mem (y_u43 (ph_g (k := 1) (by first | decide | assumption | omega))) ?_
  refine fr_aload_n (pc := 94) rfl dX5_goes_94 ?_
  refine fr_get (pc := 95) (ci := 4) (T := TX5) (k0 := 0) rfl hin_X5 (by decide) fl_X5_9 (by decide) y_42 rfl dX5_goes_95 ?_
  refine fr_iload_n (pc := 98) rfl dX5_goes_98 ?_
  refine fr_iconst (pc := 99) (v := 4) rfl dX5_goes_99 ?_
  refine fr_callS0 (pc := 100) [.int (nI g), .int 4] [.ref 43] (c_X5_guestAt (g := g) (k := 4)) gc_X5_106 rfl rfl ⟨rfl, rfl, by decide, by decide⟩ (Nat.le_of_ble_eq_true rfl) ⟨by decide, by decide⟩ dX5_goes_100 ?_
  refine fr_iload (pc := 103) rfl dX5_goes_103 ?_
  refine fr_if_ne (pc := 105) 125 (by decide) dX5_goes_105 (fun h105 => ?_) (fun h105 => ?_)
  · have hk0 : ¬ k = 0 := fun q => h105 (by subst q; rfl)
    refine fr_iconst (pc := 125) (v := 0) rfl dX5_goes_125 ?_
    refine fr_iast (pc := 126) (38 + 6 * g + 4) rfl (by decide) y_43 (by first | assumption | omega) (by decide) dX5_goes_126 ?_
    refine fr_mem (y_u43 (ph_g (k := 4) (by first | decide | assumption | omega))) ?_
    exact fr_return (pc := 127) rfl (by unfold s_wf; rw [if_neg hk0]) dX5_goes_127
  · have hk0 : k = 0 := (nI_eq (b := 0) (by omega) (by decide)).mp h105
    refine fr_sipush (pc := 108) (v := 9999) rfl dX5_goes_108 ?_
    refine fr_aload_n (pc := 111) rfl dX5_goes_111 ?_
    refine fr_iload_n (pc := 112) rfl dX5_goes_112 ?_
    refine fr_iconst (pc := 113) (v := 4) rfl dX5_goes_113 ?_
    refine fr_callV0 (pc := 114) (ci := 4) (T := TX5) (N := 20) [.int (nI g), .int 4] [.int 9999, .int (nI (38 + 6 * g + 4)), .ref 43] (c_X5_guestIs (k := 4) (by first | assumption | omega) (by first | decide | assumption | omega)) gc_X5_116 rfl rfl ⟨rfl, rfl, by decide, by decide⟩ (Nat.le_of_ble_eq_true rfl) rfl (by decide) y_42 ⟨by decide, by decide⟩ dX5_goes_114 ?_
    refine fr_iconst (pc := 117) (v := 1) rfl dX5_goes_117 ?_
    refine fr_iadd (pc := 118) dX5_goes_118 ?_
    refine fr_mmin (pc := 119) gm_X5_144 wM_s_min wM_i wM_c_min ⟨by decide, by decide, by decide, by decide⟩ (Nat.le_of_ble_eq_true rfl) dX5_goes_119 ?_
    refine fr_eq (z := s_min (r 6 g + 1) 9999) (by rw [u2_f (fun z => absurd z.1 (by decide))]; exact smin_c _ _) ?_
    refine fr_goto (pc := 122) 126 (by decide) dX5_goes_122 ?_
    refine fr_iast (pc := 126) (38 + 6 * g + 4) rfl (by decide) y_43 (by first | assumption | omega) (by decide) dX5_goes_126 ?_
    refine fr_mem (y_u43 (ph_g (k := 4) (by first | decide | assumption | omega))) ?_
    exact fr_return (pc := 127) rfl (by unfold s_wf; rw [if_pos hk0]) dX5_goes_127
set_option maxRecDepth 100000 in
theorem yw_loop {Γ : aG} {l : Launch} {M : Nat → aC} {r : rT} {kr ar : Nat → Int32} {ik : Int32} {fi b : Nat → Int32} {ln : Int32} {S : sT} {it mv : Nat → Int32} {Q : yQ} {g aim : Nat} {m need : Int32} {up : Bool} (hg : g < 8) (haim : aim < 16) : ∀ (n a k : Nat), a < 16 → s_in up a aim → k_steps (r 2 g) = nI (k + n) → k + n < 100 → Fr Γ l mX5_goes 38 [(0, .ref 42), (1, .int (nI g)), (2, .int m), (3, .int (nI aim)), (4, .int (nI a)), (5, .int (s_on up)), (6, .int need), (7, .int (nI k))] [] 54 0 0 (yM M r kr ar ik fi b ln S it mv Q) none 54 (yM M (s_wf r g (s_go r m need up aim n a k)) kr ar ik fi b ln S it mv Q) := by
  intro n
  induction n with
  | zero =>
    intro a k ha hin hst hlt
    refine fr_iload (pc := 38) rfl dX5_goes_38 ?_
    refine fr_aload_n (pc := 40) rfl dX5_goes_40 ?_
    refine fr_iload_n (pc := 41) rfl dX5_goes_41 ?_
    refine fr_callV0 (pc := 42) (ci := 4) (T := TX5) (N := 20) [.int (nI g)] [.int (nI k)] (c_X5_steps (by first | assumption | omega)) gc_X5_122 rfl rfl ⟨rfl, rfl, by decide, by decide⟩ (Nat.le_of_ble_eq_true rfl) rfl (by decide) y_42 ⟨by decide, by decide⟩ dX5_goes_42 ?_
    refine fr_icmp_ge (pc := 45) 82 (by decide) dX5_goes_45 (fun h45 => ?_) (fun h45 => ?_)
    · exact yw_tail hg (by omega)
    · exact absurd (by rw [hst]; exact Int32.le_refl _) h45
  | succ n ih =>
    intro a k ha hin hst hlt
    refine fr_iload (pc := 38) rfl dX5_goes_38 ?_
    refine fr_aload_n (pc := 40) rfl dX5_goes_40 ?_
    refine fr_iload_n (pc := 41) rfl dX5_goes_41 ?_
    refine fr_callV0 (pc := 42) (ci := 4) (T := TX5) (N := 20) [.int (nI g)] [.int (nI k)] (c_X5_steps (by first | assumption | omega)) gc_X5_122 rfl rfl ⟨rfl, rfl, by decide, by decide⟩ (Nat.le_of_ble_eq_true rfl) rfl (by decide) y_42 ⟨by decide, by decide⟩ dX5_goes_42 ?_
    refine fr_icmp_ge (pc := 45) 82 (by decide) dX5_goes_45 (fun h45 => ?_) (fun h45 => ?_)
    · exact absurd h45 (by rw [hst]; exact nI_ge (by omega) (by omega))
    · refine fr_iload (pc := 48) rfl dX5_goes_48 ?_
      refine fr_iload_n (pc := 50) rfl dX5_goes_50 ?_
      refine fr_icmp_eq (pc := 51) 82 (by decide) dX5_goes_51 (fun h51 => ?_) (fun h51 => ?_)
      · have ha5 : a = aim := (nI_eq (by omega) (by omega)).mp h51
        rw [show s_go r m need up aim (n + 1) a k = (a, k) from if_pos ha5]
        exact yw_tail hg (by omega)
      · have ha5 : ¬ a = aim := fun q => h51 (by rw [← q])
        obtain ⟨e1, e2, e3⟩ := on_nx hin ha5 ha haim
        refine fr_aload_n (pc := 54) rfl dX5_goes_54 ?_
        refine fr_iload (pc := 55) rfl dX5_goes_55 ?_
        refine fr_iload (pc := 57) rfl dX5_goes_57 ?_
        refine fr_iadd (pc := 59) dX5_goes_59 ?_
        refine fr_eq (z := (nI (s_nx up a))) e1 ?_
        refine fr_iload_n (pc := 60) rfl dX5_goes_60 ?_
        refine fr_callV0 (pc := 61) (ci := 4) (T := TX5) (N := 20) [.int (nI (s_nx up a)), .int m] [] (c_X5_wideAt (by first | assumption | omega)) gc_X5_103 rfl rfl ⟨rfl, rfl, by decide, by decide⟩ (Nat.le_of_ble_eq_true rfl) rfl (by decide) y_42 ⟨by decide, by decide⟩ dX5_goes_61 ?_
        refine fr_iload (pc := 64) rfl dX5_goes_64 ?_
        refine fr_icmp_lt (pc := 66) 82 (by decide) dX5_goes_66 (fun h66 => ?_) (fun h66 => ?_)
        · rw [show s_go r m need up aim (n + 1) a k = (a, k) from by rw [s_go, if_neg ha5, if_pos (show s_width r (s_nx up a) m < need from h66)]]
          exact yw_tail hg (by omega)
        · refine fr_iload (pc := 69) rfl dX5_goes_69 ?_
          refine fr_iload (pc := 71) rfl dX5_goes_71 ?_
          refine fr_iadd (pc := 73) dX5_goes_73 ?_
          refine fr_eq (z := (nI (s_nx up a))) e1 ?_
          refine fr_istore (pc := 74) [(4, .int (nI (s_nx up a))), (0, .ref 42), (1, .int (nI g)), (2, .int m), (3, .int (nI aim)), (5, .int (s_on up)), (6, .int need), (7, .int (nI k))] (by decide) rfl dX5_goes_74 ?_
          refine fr_iinc (pc := 76) (v := nI (k + 1)) [(7, .int (nI (k + 1))), (4, .int (nI (s_nx up a))), (0, .ref 42), (1, .int (nI g)), (2, .int m), (3, .int (nI aim)), (5, .int (s_on up)), (6, .int need)] rfl (nI_1 k) (by decide) rfl dX5_goes_76 ?_
          refine fr_goto (pc := 79) 38 (by decide) dX5_goes_79 ?_
          rw [show s_go r m need up aim (n + 1) a k = _ from by rw [s_go, if_neg ha5, if_neg (show ¬ s_width r (s_nx up a) m < need from h66)]]
          exact fr_sub [2, 3, 4, 5, 1, 6, 7, 0] rfl (ih (s_nx up a) (k + 1) e2 e3 (by rw [hst]; congr 1; omega) (by omega))
set_option maxRecDepth 100000 in
theorem c_X5_goes {Γ : aG} {l : Launch} {M : Nat → aC} {r : rT} {kr ar : Nat → Int32} {ik : Int32} {fi b : Nat → Int32} {ln : Int32} {S : sT} {it mv : Nat → Int32} {Q : yQ} {g : Nat} {m : Int32} (hg : g < 8) (w : wf r)  : Ev Γ l mX5_goes [.ref 42, .int (nI g), .int m] 54 (yM M r kr ar ik fi b ln S it mv Q) none 54 (yM M (s_walk r g m) kr ar ik fi b ln S it mv Q) := by
  have haim := w.am hg
  have hat := w.at hg
  refine Ev.of [(0, .ref 42), (1, .int (nI g)), (2, .int m)] (by decide) (Nat.le_of_ble_eq_true rfl) rfl ?_
  refine fr_aload_n (pc := 0) rfl dX5_goes_0 ?_
  refine fr_iload_n (pc := 1) rfl dX5_goes_1 ?_
  refine fr_iconst (pc := 2) (v := 3) rfl dX5_goes_2 ?_
  refine fr_callV0 (pc := 3) (ci := 4) (T := TX5) (N := 20) [.int (nI g), .int 3] [] (c_X5_guestIs (k := 3) (by first | assumption | omega) (by first | decide | assumption | omega)) gc_X5_116 rfl rfl ⟨rfl, rfl, by decide, by decide⟩ (Nat.le_of_ble_eq_true rfl) rfl (by decide) y_42 ⟨by decide, by decide⟩ dX5_goes_3 ?_
  refine fr_eq (z := (nI (nat r 5 g))) haim.1 ?_
  refine fr_istore_n (pc := 6) [(3, .int (nI (nat r 5 g))), (0, .ref 42), (1, .int (nI g)), (2, .int m)] (by decide) rfl dX5_goes_6 ?_
  refine fr_aload_n (pc := 7) rfl dX5_goes_7 ?_
  refine fr_iload_n (pc := 8) rfl dX5_goes_8 ?_
  refine fr_iconst (pc := 9) (v := 1) rfl dX5_goes_9 ?_
  refine fr_callV0 (pc := 10) (ci := 4) (T := TX5) (N := 20) [.int (nI g), .int 1] [] (c_X5_guestIs (k := 1) (by first | assumption | omega) (by first | decide | assumption | omega)) gc_X5_116 rfl rfl ⟨rfl, rfl, by decide, by decide⟩ (Nat.le_of_ble_eq_true rfl) rfl (by decide) y_42 ⟨by decide, by decide⟩ dX5_goes_10 ?_
  refine fr_eq (z := (nI (nat r 3 g))) hat.1 ?_
  refine fr_istore (pc := 13) [(4, .int (nI (nat r 3 g))), (3, .int (nI (nat r 5 g))), (0, .ref 42), (1, .int (nI g)), (2, .int m)] (by decide) rfl dX5_goes_13 ?_
  refine fr_iload_n (pc := 15) rfl dX5_goes_15 ?_
  refine fr_iload (pc := 16) rfl dX5_goes_16 ?_
  refine fr_icmp_le (pc := 18) 25 (by decide) dX5_goes_18 (fun h18 => ?_) (fun h18 => ?_)
  · have hup : ¬ nat r 3 g < nat r 5 g := fun q => absurd h18 (nI_ge q (by omega))
    refine fr_iconst (pc := 25) (v := (-1)) rfl dX5_goes_25 ?_
    refine fr_istore (pc := 26) [(5, .int (-1)), (4, .int (nI (nat r 3 g))), (3, .int (nI (nat r 5 g))), (0, .ref 42), (1, .int (nI g)), (2, .int m)] (by decide) rfl dX5_goes_26 ?_
    refine fr_aload_n (pc := 28) rfl dX5_goes_28 ?_
    refine fr_iload_n (pc := 29) rfl dX5_goes_29 ?_
    refine fr_callV0 (pc := 30) (ci := 4) (T := TX5) (N := 20) [.int (nI g)] [] (c_X5_needs (by first | assumption | omega)) gc_X5_119 rfl rfl ⟨rfl, rfl, by decide, by decide⟩ (Nat.le_of_ble_eq_true rfl) rfl (by decide) y_42 ⟨by decide, by decide⟩ dX5_goes_30 ?_
    refine fr_nm (fun need e_need => ?_)
    refine fr_istore (pc := 33) [(6, .int need), (5, .int (-1)), (4, .int (nI (nat r 3 g))), (3, .int (nI (nat r 5 g))), (0, .ref 42), (1, .int (nI g)), (2, .int m)] (by decide) rfl dX5_goes_33 ?_
    refine fr_iconst (pc := 35) (v := 0) rfl dX5_goes_35 ?_
    refine fr_istore (pc := 36) [(7, .int 0), (6, .int need), (5, .int (-1)), (4, .int (nI (nat r 3 g))), (3, .int (nI (nat r 5 g))), (0, .ref 42), (1, .int (nI g)), (2, .int m)] (by decide) rfl dX5_goes_36 ?_
    rw [show s_walk r g m = s_wf r g (s_go r m need false (nat r 5 g) (k_steps (r 2 g)).toNatClampNeg (nat r 3 g) 0) from by unfold s_walk s_gq; rw [e_need, decide_eq_false hup]]
    exact fr_sub [5, 6, 7, 4, 3, 2, 1, 0] rfl (yw_loop (up := false) hg haim.2 (k_steps (r 2 g)).toNatClampNeg (nat r 3 g) 0 hat.2 (Or.inr ⟨rfl, by omega⟩) (by rw [Nat.zero_add]; exact (ks_nI _).1) (by have := (ks_nI (r 2 g)).2; omega))
  · have hup : nat r 3 g < nat r 5 g := Nat.lt_of_not_le fun q => h18 (nI_le q (by omega))
    refine fr_iconst (pc := 21) (v := 1) rfl dX5_goes_21 ?_
    refine fr_goto (pc := 22) 26 (by decide) dX5_goes_22 ?_
    refine fr_istore (pc := 26) [(5, .int 1), (4, .int (nI (nat r 3 g))), (3, .int (nI (nat r 5 g))), (0, .ref 42), (1, .int (nI g)), (2, .int m)] (by decide) rfl dX5_goes_26 ?_
    refine fr_aload_n (pc := 28) rfl dX5_goes_28 ?_
    refine fr_iload_n (pc := 29) rfl dX5_goes_29 ?_
    refine fr_callV0 (pc := 30) (ci := 4) (T := TX5) (N := 20) [.int (nI g)] [] (c_X5_needs (by first | assumption | omega)) gc_X5_119 rfl rfl ⟨rfl, rfl, by decide, by decide⟩ (Nat.le_of_ble_eq_true rfl) rfl (by decide) y_42 ⟨by decide, by decide⟩ dX5_goes_30 ?_
    refine fr_nm (fun need e_need => ?_)
    refine fr_istore (pc := 33) [(6, .int need), (5, .int 1), (4, .int (nI (nat r 3 g))), (3, .int (nI (nat r 5 g))), (0, .ref 42), (1, .int (nI g)), (2, .int m)] (by decide) rfl dX5_goes_33 ?_
    refine fr_iconst (pc := 35) (v := 0) rfl dX5_goes_35 ?_
    refine fr_istore (pc := 36) [(7, .int 0), (6, .int need), (5, .int 1), (4, .int (nI (nat r 3 g))), (3, .int (nI (nat r 5 g))), (0, .ref 42), (1, .int (nI g)), (2, .int m)] (by decide) rfl dX5_goes_36 ?_
    rw [show s_walk r g m = s_wf r g (s_go r m need true (nat r 5 g) (k_steps (r 2 g)).toNatClampNeg (nat r 3 g) 0) from by unfold s_walk s_gq; rw [e_need, decide_eq_true hup]]
    exact fr_sub [5, 6, 7, 4, 3, 2, 1, 0] rfl (yw_loop (up := true) hg haim.2 (k_steps (r 2 g)).toNatClampNeg (nat r 3 g) 0 hat.2 (Or.inl ⟨rfl, by omega⟩) (by rw [Nat.zero_add]; exact (ks_nI _).1) (by have := (ks_nI (r 2 g)).2; omega))
set_option maxRecDepth 100000 in
theorem ys_tail {Γ : aG} {l : Launch} {M : Nat → aC} {r : rT} {kr ar : Nat → Int32} {ik : Int32} {fi b : Nat → Int32} {ln : Int32} {S : sT} {it mv : Nat → Int32} {Q : yQ} {m : Int32} {v mo le : Int32} {g : Nat} (hv : v = r 9 4 + mo - le) : Fr Γ l mX5_strains 79 [(0, .ref 42), (1, .int m), (2, .int v), (3, .int (nI g))] [] 54 0 0 (yM M r kr ar ik fi b ln S it mv Q) none 54 (yM M (s_pf r mo le) kr ar ik fi b ln S it mv Q) := by
  refine fr_aload_n (pc := 79) rfl dX5_strains_79 ?_
  refine fr_get (pc := 80) (ci := 4) (T := TX5) (k0 := 0) rfl hin_X5 (by decide) fl_X5_9 (by decide) y_42 rfl dX5_strains_80 ?_
  refine fr_iconst (pc := 83) (v := 4) rfl dX5_strains_83 ?_
  refine fr_iconst (pc := 84) (v := 0) rfl dX5_strains_84 ?_
  refine fr_sipush (pc := 85) (v := 9999) rfl dX5_strains_85 ?_
  refine fr_iload_n (pc := 88) rfl dX5_strains_88 ?_
  refine fr_mmin (pc := 89) gm_X5_144 wM_s_min wM_i wM_c_min ⟨by decide, by decide, by decide, by decide⟩ (Nat.le_of_ble_eq_true rfl) dX5_strains_89 ?_
  refine fr_mmax (pc := 92) gm_X5_98 wM_s_max wM_i wM_c_max ⟨by decide, by decide, by decide, by decide⟩ (Nat.le_of_ble_eq_true rfl) dX5_strains_92 ?_
  refine fr_eq (z := s_pst r mo le) (by rw [hv]; exact clamp_c _) ?_
  refine fr_iast (pc := 95) 4 rfl (by decide) y_43 (by decide) (by decide) dX5_strains_95 ?_
  refine fr_mem (y_u43 (ph_l (by decide))) ?_
  refine fr_aload_n (pc := 96) rfl dX5_strains_96 ?_
  refine fr_get (pc := 97) (ci := 4) (T := TX5) (k0 := 0) rfl hin_X5 (by decide) fl_X5_9 (by decide) y_42 rfl dX5_strains_97 ?_
  refine fr_iconst (pc := 100) (v := 4) rfl dX5_strains_100 ?_
  refine fr_iald (pc := 101) 4 rfl (by decide) y_43 (by decide) (by decide) dX5_strains_101 ?_
  refine fr_eq (z := (u2 r 9 4 (s_pst r mo le)) 9 4) (row_at (ph_l (by decide))) ?_
  refine fr_aload_n (pc := 102) rfl dX5_strains_102 ?_
  refine fr_get (pc := 103) (ci := 4) (T := TX5) (k0 := 0) rfl hin_X5 (by decide) fl_X5_9 (by decide) y_42 rfl dX5_strains_103 ?_
  refine fr_iconst (pc := 106) (v := 3) rfl dX5_strains_106 ?_
  refine fr_iald (pc := 107) 3 rfl (by decide) y_43 (by decide) (by decide) dX5_strains_107 ?_
  refine fr_eq (z := (u2 r 9 4 (s_pst r mo le)) 9 3) (row_at (ph_l (by decide))) ?_
  refine fr_icmp_le (pc := 108) 118 (by decide) dX5_strains_108 (fun h108 => ?_) (fun h108 => ?_)
  · exact fr_return (pc := 118) rfl (by unfold s_pf; rw [if_neg (show ¬ r 9 3 < s_pst r mo le from Int32.not_lt.mpr h108)]) dX5_strains_118
  · refine fr_aload_n (pc := 111) rfl dX5_strains_111 ?_
    refine fr_get (pc := 112) (ci := 4) (T := TX5) (k0 := 0) rfl hin_X5 (by decide) fl_X5_9 (by decide) y_42 rfl dX5_strains_112 ?_
    refine fr_iconst (pc := 115) (v := 5) rfl dX5_strains_115 ?_
    refine fr_iconst (pc := 116) (v := 1) rfl dX5_strains_116 ?_
    refine fr_iast (pc := 117) 5 rfl (by decide) y_43 (by decide) (by decide) dX5_strains_117 ?_
    refine fr_mem (y_u43 (ph_l (by decide))) ?_
    exact fr_return (pc := 118) rfl (by unfold s_pf; rw [if_pos (show r 9 3 < s_pst r mo le from Int32.not_le.mp h108)]) dX5_strains_118
set_option maxRecDepth 100000 in
theorem ys_loop {Γ : aG} {l : Launch} {M : Nat → aC} {r : rT} {kr ar : Nat → Int32} {ik : Int32} {fi b : Nat → Int32} {ln : Int32} {S : sT} {it mv : Nat → Int32} {Q : yQ} {m : Int32} (w : wf r) : ∀ (n g : Nat) (v mo le : Int32), v = r 9 4 + mo - le → g + n = cnt r → Fr Γ l mX5_strains 14 [(0, .ref 42), (1, .int m), (2, .int v), (3, .int (nI g))] [] 54 0 0 (yM M r kr ar ik fi b ln S it mv Q) none 54 (yM M (s_pf r (s_sum (s_lg r) n g mo) (s_sum (s_lc r) n g le)) kr ar ik fi b ln S it mv Q) := by
  have hcl := w.ctl
  intro n
  induction n with
  | zero =>
    intro g v mo le hv hn
    refine fr_iload_n (pc := 14) rfl dX5_strains_14 ?_
    refine fr_aload_n (pc := 15) rfl dX5_strains_15 ?_
    refine fr_get (pc := 16) (ci := 4) (T := TX5) (k0 := 0) rfl hin_X5 (by decide) fl_X5_9 (by decide) y_42 rfl dX5_strains_16 ?_
    refine fr_iconst (pc := 19) (v := 1) rfl dX5_strains_19 ?_
    refine fr_iald (pc := 20) 1 rfl (by decide) y_43 (by decide) (by decide) dX5_strains_20 ?_
    refine fr_eq (z := r 9 1) (row_at (ph_l (by decide))) ?_
    refine fr_icmp_ge (pc := 21) 79 (by decide) dX5_strains_21 (fun h21 => ?_) (fun h21 => ?_)
    · exact ys_tail hv
    · exact absurd (by rw [w.ct, ← hn]; exact Int32.le_refl _) h21
  | succ n ih =>
    intro g v mo le hv hn
    refine fr_iload_n (pc := 14) rfl dX5_strains_14 ?_
    refine fr_aload_n (pc := 15) rfl dX5_strains_15 ?_
    refine fr_get (pc := 16) (ci := 4) (T := TX5) (k0 := 0) rfl hin_X5 (by decide) fl_X5_9 (by decide) y_42 rfl dX5_strains_16 ?_
    refine fr_iconst (pc := 19) (v := 1) rfl dX5_strains_19 ?_
    refine fr_iald (pc := 20) 1 rfl (by decide) y_43 (by decide) (by decide) dX5_strains_20 ?_
    refine fr_eq (z := r 9 1) (row_at (ph_l (by decide))) ?_
    refine fr_icmp_ge (pc := 21) 79 (by decide) dX5_strains_21 (fun h21 => ?_) (fun h21 => ?_)
    · exact absurd h21 (by rw [w.ct, ← hn]; exact nI_ge (by omega) (by omega))
    · refine fr_iload_n (pc := 24) rfl dX5_strains_24 ?_
      refine fr_aload_n (pc := 25) rfl dX5_strains_25 ?_
      refine fr_iload_n (pc := 26) rfl dX5_strains_26 ?_
      refine fr_callV0 (pc := 27) (ci := 4) (T := TX5) (N := 20) [.int (nI g)] [.int v] (c_X5_isIn (by first | assumption | omega)) gc_X5_147 rfl rfl ⟨rfl, rfl, by decide, by decide⟩ (Nat.le_of_ble_eq_true rfl) rfl (by decide) y_42 ⟨by decide, by decide⟩ dX5_strains_27 ?_
      refine fr_if_eq (pc := 30) 50 (by decide) dX5_strains_30 (fun h30 => ?_) (fun h30 => ?_)
      · have g30 := bI_0.mp h30
        refine fr_iconst (pc := 50) (v := 0) rfl dX5_strains_50 ?_
        refine fr_iadd (pc := 51) dX5_strains_51 ?_
        refine fr_nm (fun x2_52 e_x2_52 => ?_)
        refine fr_istore_n (pc := 52) [(2, .int x2_52), (0, .ref 42), (1, .int m), (3, .int (nI g))] (by decide) rfl dX5_strains_52 ?_
        refine fr_iload_n (pc := 53) rfl dX5_strains_53 ?_
        refine fr_aload_n (pc := 54) rfl dX5_strains_54 ?_
        refine fr_iload_n (pc := 55) rfl dX5_strains_55 ?_
        refine fr_callV0 (pc := 56) (ci := 4) (T := TX5) (N := 20) [.int (nI g)] [.int x2_52] (c_X5_isIn (by first | assumption | omega)) gc_X5_147 rfl rfl ⟨rfl, rfl, by decide, by decide⟩ (Nat.le_of_ble_eq_true rfl) rfl (by decide) y_42 ⟨by decide, by decide⟩ dX5_strains_56 ?_
        refine fr_if_eq (pc := 59) 70 (by decide) dX5_strains_59 (fun h59 => ?_) (fun h59 => ?_)
        · have g59 := bI_0.mp h59
          refine fr_iconst (pc := 70) (v := 0) rfl dX5_strains_70 ?_
          refine fr_isub (pc := 71) dX5_strains_71 ?_
          refine fr_nm (fun x2_72 e_x2_72 => ?_)
          refine fr_istore_n (pc := 72) [(2, .int x2_72), (0, .ref 42), (1, .int m), (3, .int (nI g))] (by decide) rfl dX5_strains_72 ?_
          refine fr_iinc (pc := 73) (v := nI (g + 1)) [(3, .int (nI (g + 1))), (2, .int x2_72), (0, .ref 42), (1, .int m)] rfl (nI_1 g) (by decide) rfl dX5_strains_73 ?_
          refine fr_goto (pc := 76) 14 (by decide) dX5_strains_76 ?_
          have q1 : x2_52 = v + s_lg r g := by rw [e_x2_52, s_lg, if_neg g30]
          have q2 : x2_72 = x2_52 - s_lc r g := by rw [e_x2_72, s_lc, if_neg g59]
          rw [s_sum, s_sum]
          exact fr_sub [2, 3, 1, 0] rfl (ih (g + 1) x2_72 (mo + s_lg r g) (le + s_lc r g) (by rw [q2, q1, hv]; exact i_r1 _ _ _ _ _) (by omega))
        · have g59 := bI_n0 h59
          refine fr_aload_n (pc := 62) rfl dX5_strains_62 ?_
          refine fr_iload_n (pc := 63) rfl dX5_strains_63 ?_
          refine fr_callV0 (pc := 64) (ci := 4) (T := TX5) (N := 20) [.int (nI g)] [.int x2_52] (c_X5_laces (by first | assumption | omega)) gc_X5_128 rfl rfl ⟨rfl, rfl, by decide, by decide⟩ (Nat.le_of_ble_eq_true rfl) rfl (by decide) y_42 ⟨by decide, by decide⟩ dX5_strains_64 ?_
          refine fr_goto (pc := 67) 71 (by decide) dX5_strains_67 ?_
          refine fr_isub (pc := 71) dX5_strains_71 ?_
          refine fr_nm (fun x2_72 e_x2_72 => ?_)
          refine fr_istore_n (pc := 72) [(2, .int x2_72), (0, .ref 42), (1, .int m), (3, .int (nI g))] (by decide) rfl dX5_strains_72 ?_
          refine fr_iinc (pc := 73) (v := nI (g + 1)) [(3, .int (nI (g + 1))), (2, .int x2_72), (0, .ref 42), (1, .int m)] rfl (nI_1 g) (by decide) rfl dX5_strains_73 ?_
          refine fr_goto (pc := 76) 14 (by decide) dX5_strains_76 ?_
          have q1 : x2_52 = v + s_lg r g := by rw [e_x2_52, s_lg, if_neg g30]
          have q2 : x2_72 = x2_52 - s_lc r g := by rw [e_x2_72, s_lc, if_pos g59]
          rw [s_sum, s_sum]
          exact fr_sub [2, 3, 1, 0] rfl (ih (g + 1) x2_72 (mo + s_lg r g) (le + s_lc r g) (by rw [q2, q1, hv]; exact i_r1 _ _ _ _ _) (by omega))
      · have g30 := bI_n0 h30
        refine fr_aload_n (pc := 33) rfl dX5_strains_33 ?_
        refine fr_iload_n (pc := 34) rfl dX5_strains_34 ?_
        refine fr_iconst (pc := 35) (v := 1) rfl dX5_strains_35 ?_
        refine fr_callV0 (pc := 36) (ci := 4) (T := TX5) (N := 20) [.int (nI g), .int 1] [.int v] (c_X5_guestIs (k := 1) (by first | assumption | omega) (by first | decide | assumption | omega)) gc_X5_116 rfl rfl ⟨rfl, rfl, by decide, by decide⟩ (Nat.le_of_ble_eq_true rfl) rfl (by decide) y_42 ⟨by decide, by decide⟩ dX5_strains_36 ?_
        refine fr_if_ne (pc := 39) 50 (by decide) dX5_strains_39 (fun h39 => ?_) (fun h39 => ?_)
        · refine fr_iconst (pc := 50) (v := 0) rfl dX5_strains_50 ?_
          refine fr_iadd (pc := 51) dX5_strains_51 ?_
          refine fr_nm (fun x2_52 e_x2_52 => ?_)
          refine fr_istore_n (pc := 52) [(2, .int x2_52), (0, .ref 42), (1, .int m), (3, .int (nI g))] (by decide) rfl dX5_strains_52 ?_
          refine fr_iload_n (pc := 53) rfl dX5_strains_53 ?_
          refine fr_aload_n (pc := 54) rfl dX5_strains_54 ?_
          refine fr_iload_n (pc := 55) rfl dX5_strains_55 ?_
          refine fr_callV0 (pc := 56) (ci := 4) (T := TX5) (N := 20) [.int (nI g)] [.int x2_52] (c_X5_isIn (by first | assumption | omega)) gc_X5_147 rfl rfl ⟨rfl, rfl, by decide, by decide⟩ (Nat.le_of_ble_eq_true rfl) rfl (by decide) y_42 ⟨by decide, by decide⟩ dX5_strains_56 ?_
          refine fr_if_eq (pc := 59) 70 (by decide) dX5_strains_59 (fun h59 => ?_) (fun h59 => ?_)
          · have g59 := bI_0.mp h59
            refine fr_iconst (pc := 70) (v := 0) rfl dX5_strains_70 ?_
            refine fr_isub (pc := 71) dX5_strains_71 ?_
            refine fr_nm (fun x2_72 e_x2_72 => ?_)
            refine fr_istore_n (pc := 72) [(2, .int x2_72), (0, .ref 42), (1, .int m), (3, .int (nI g))] (by decide) rfl dX5_strains_72 ?_
            refine fr_iinc (pc := 73) (v := nI (g + 1)) [(3, .int (nI (g + 1))), (2, .int x2_72), (0, .ref 42), (1, .int m)] rfl (nI_1 g) (by decide) rfl dX5_strains_73 ?_
            refine fr_goto (pc := 76) 14 (by decide) dX5_strains_76 ?_
            have q1 : x2_52 = v + s_lg r g := by rw [e_x2_52, s_lg, if_pos g30, if_neg h39]
            have q2 : x2_72 = x2_52 - s_lc r g := by rw [e_x2_72, s_lc, if_neg g59]
            rw [s_sum, s_sum]
            exact fr_sub [2, 3, 1, 0] rfl (ih (g + 1) x2_72 (mo + s_lg r g) (le + s_lc r g) (by rw [q2, q1, hv]; exact i_r1 _ _ _ _ _) (by omega))
          · have g59 := bI_n0 h59
            refine fr_aload_n (pc := 62) rfl dX5_strains_62 ?_
            refine fr_iload_n (pc := 63) rfl dX5_strains_63 ?_
            refine fr_callV0 (pc := 64) (ci := 4) (T := TX5) (N := 20) [.int (nI g)] [.int x2_52] (c_X5_laces (by first | assumption | omega)) gc_X5_128 rfl rfl ⟨rfl, rfl, by decide, by decide⟩ (Nat.le_of_ble_eq_true rfl) rfl (by decide) y_42 ⟨by decide, by decide⟩ dX5_strains_64 ?_
            refine fr_goto (pc := 67) 71 (by decide) dX5_strains_67 ?_
            refine fr_isub (pc := 71) dX5_strains_71 ?_
            refine fr_nm (fun x2_72 e_x2_72 => ?_)
            refine fr_istore_n (pc := 72) [(2, .int x2_72), (0, .ref 42), (1, .int m), (3, .int (nI g))] (by decide) rfl dX5_strains_72 ?_
            refine fr_iinc (pc := 73) (v := nI (g + 1)) [(3, .int (nI (g + 1))), (2, .int x2_72), (0, .ref 42), (1, .int m)] rfl (nI_1 g) (by decide) rfl dX5_strains_73 ?_
            refine fr_goto (pc := 76) 14 (by decide) dX5_strains_76 ?_
            have q1 : x2_52 = v + s_lg r g := by rw [e_x2_52, s_lg, if_pos g30, if_neg h39]
            have q2 : x2_72 = x2_52 - s_lc r g := by rw [e_x2_72, s_lc, if_pos g59]
            rw [s_sum, s_sum]
            exact fr_sub [2, 3, 1, 0] rfl (ih (g + 1) x2_72 (mo + s_lg r g) (le + s_lc r g) (by rw [q2, q1, hv]; exact i_r1 _ _ _ _ _) (by omega))
        · refine fr_aload_n (pc := 42) rfl dX5_strains_42 ?_
          refine fr_iload_n (pc := 43) rfl dX5_strains_43 ?_
          refine fr_callV0 (pc := 44) (ci := 4) (T := TX5) (N := 20) [.int (nI g)] [.int v] (c_X5_laughs (by first | assumption | omega)) gc_X5_125 rfl rfl ⟨rfl, rfl, by decide, by decide⟩ (Nat.le_of_ble_eq_true rfl) rfl (by decide) y_42 ⟨by decide, by decide⟩ dX5_strains_44 ?_
          refine fr_goto (pc := 47) 51 (by decide) dX5_strains_47 ?_
          refine fr_iadd (pc := 51) dX5_strains_51 ?_
          refine fr_nm (fun x2_52 e_x2_52 => ?_)
          refine fr_istore_n (pc := 52) [(2, .int x2_52), (0, .ref 42), (1, .int m), (3, .int (nI g))] (by decide) rfl dX5_strains_52 ?_
          refine fr_iload_n (pc := 53) rfl dX5_strains_53 ?_
          refine fr_aload_n (pc := 54) rfl dX5_strains_54 ?_
          refine fr_iload_n (pc := 55) rfl dX5_strains_55 ?_
          refine fr_callV0 (pc := 56) (ci := 4) (T := TX5) (N := 20) [.int (nI g)] [.int x2_52] (c_X5_isIn (by first | assumption | omega)) gc_X5_147 rfl rfl ⟨rfl, rfl, by decide, by decide⟩ (Nat.le_of_ble_eq_true rfl) rfl (by decide) y_42 ⟨by decide, by decide⟩ dX5_strains_56 ?_
          refine fr_if_eq (pc := 59) 70 (by decide) dX5_strains_59 (fun h59 => ?_) (fun h59 => ?_)
          · have g59 := bI_0.mp h59
            refine fr_iconst (pc := 70) (v := 0) rfl dX5_strains_70 ?_
            refine fr_isub (pc := 71) dX5_strains_71 ?_
            refine fr_nm (fun x2_72 e_x2_72 => ?_)
            refine fr_istore_n (pc := 72) [(2, .int x2_72), (0, .ref 42), (1, .int m), (3, .int (nI g))] (by decide) rfl dX5_strains_72 ?_
            refine fr_iinc (pc := 73) (v := nI (g + 1)) [(3, .int (nI (g + 1))), (2, .int x2_72), (0, .ref 42), (1, .int m)] rfl (nI_1 g) (by decide) rfl dX5_strains_73 ?_
            refine fr_goto (pc := 76) 14 (by decide) dX5_strains_76 ?_
            have q1 : x2_52 = v + s_lg r g := by rw [e_x2_52, s_lg, if_pos g30, if_pos h39]
            have q2 : x2_72 = x2_52 - s_lc r g := by rw [e_x2_72, s_lc, if_neg g59]
            rw [s_sum, s_sum]
            exact fr_sub [2, 3, 1, 0] rfl (ih (g + 1) x2_72 (mo + s_lg r g) (le + s_lc r g) (by rw [q2, q1, hv]; exact i_r1 _ _ _ _ _) (by omega))
          · have g59 := bI_n0 h59
            refine fr_aload_n (pc := 62) rfl dX5_strains_62 ?_
            refine fr_iload_n (pc := 63) rfl dX5_strains_63 ?_
            refine fr_callV0 (pc := 64) (ci := 4) (T := TX5) (N := 20) [.int (nI g)] [.int x2_52] (c_X5_laces (by first | assumption | omega)) gc_X5_128 rfl rfl ⟨rfl, rfl, by decide, by decide⟩ (Nat.le_of_ble_eq_true rfl) rfl (by decide) y_42 ⟨by decide, by decide⟩ dX5_strains_64 ?_
            refine fr_goto (pc := 67) 71 (by decide) dX5_strains_67 ?_
            refine fr_isub (pc := 71) dX5_strains_71 ?_
            refine fr_nm (fun x2_72 e_x2_72 => ?_)
            refine fr_istore_n (pc := 72) [(2, .int x2_72), (0, .ref 42), (1, .int m), (3, .int (nI g))] (by decide) rfl dX5_strains_72 ?_
            refine fr_iinc (pc := 73) (v := nI (g + 1)) [(3, .int (nI (g + 1))), (2, .int x2_72), (0, .ref 42), (1, .int m)] rfl (nI_1 g) (by decide) rfl dX5_strains_73 ?_
            refine fr_goto (pc := 76) 14 (by decide) dX5_strains_76 ?_
            have q1 : x2_52 = v + s_lg r g := by rw [e_x2_52, s_lg, if_pos g30, if_pos h39]
            have q2 : x2_72 = x2_52 - s_lc r g := by rw [e_x2_72, s_lc, if_pos g59]
            rw [s_sum, s_sum]
            exact fr_sub [2, 3, 1, 0] rfl (ih (g + 1) x2_72 (mo + s_lg r g) (le + s_lc r g) (by rw [q2, q1, hv]; exact i_r1 _ _ _ _ _) (by omega))
set_option maxRecDepth 100000 in
theorem c_X5_strains {Γ : aG} {l : Launch} {M : Nat → aC} {r : rT} {kr ar : Nat → Int32} {ik : Int32} {fi b : Nat → Int32} {ln : Int32} {S : sT} {it mv : Nat → Int32} {Q : yQ} {m : Int32} (w : wf r)  : Ev Γ l mX5_strains [.ref 42, .int m] 54 (yM M r kr ar ik fi b ln S it mv Q) none 54 (yM M (s_pull r m) kr ar ik fi b ln S it mv Q) := by
  refine Ev.of [(0, .ref 42), (1, .int m)] (by decide) (Nat.le_of_ble_eq_true rfl) rfl ?_
  refine fr_aload_n (pc := 0) rfl dX5_strains_0 ?_
  refine fr_get (pc := 1) (ci := 4) (T := TX5) (k0 := 0) rfl hin_X5 (by decide) fl_X5_9 (by decide) y_42 rfl dX5_strains_1 ?_
  refine fr_iconst (pc := 4) (v := 4) rfl dX5_strains_4 ?_
  refine fr_iald (pc := 5) 4 rfl (by decide) y_43 (by decide) (by decide) dX5_strains_5 ?_
  refine fr_eq (z := r 9 4) (row_at (ph_l (by decide))) ?_
  refine fr_bipush (pc := 6) (v := 36) rfl dX5_strains_6 ?_
  refine fr_iadd (pc := 8) dX5_strains_8 ?_
  refine fr_iload_n (pc := 9) rfl dX5_strains_9 ?_
  refine fr_isub (pc := 10) dX5_strains_10 ?_
  refine fr_nm (fun x2_11 e_x2_11 => ?_)
  refine fr_istore_n (pc := 11) [(2, .int x2_11), (0, .ref 42), (1, .int m)] (by decide) rfl dX5_strains_11 ?_
  refine fr_iconst (pc := 12) (v := 0) rfl dX5_strains_12 ?_
  refine fr_istore_n (pc := 13) [(3, .int 0), (2, .int x2_11), (0, .ref 42), (1, .int m)] (by decide) rfl dX5_strains_13 ?_
  exact fr_sub [2, 3, 1, 0] rfl (ys_loop w (cnt r) 0 x2_11 (36 - m) 0 (by rw [e_x2_11]; exact i_r2 _ _) (by omega))
set_option maxRecDepth 100000 in
theorem yh_tail {Γ : aG} {l : Launch} {M : Nat → aC} {r : rT} {kr ar : Nat → Int32} {ik : Int32} {fi b : Nat → Int32} {ln : Int32} {S : sT} {it mv : Nat → Int32} {Q : yQ} {m : Int32} (w : wf r) {g : Nat} : Fr Γ l mX5_hour 52 [(0, .ref 42), (1, .int m), (2, .int (nI g))] [] 54 0 0 (yM M r kr ar ik fi b ln S it mv Q) none 54 (yM M (s_hf m r) kr ar ik fi b ln S it mv Q) := by
  refine fr_aload_n (pc := 52) rfl dX5_hour_52 ?_
  refine fr_get (pc := 53) (ci := 4) (T := TX5) (k0 := 0) rfl hin_X5 (by decide) fl_X5_9 (by decide) y_42 rfl dX5_hour_53 ?_
  refine fr_iconst (pc := 56) (v := 5) rfl dX5_hour_56 ?_
  refine fr_iald (pc := 57) 5 rfl (by decide) y_43 (by decide) (by decide) dX5_hour_57 ?_
  refine fr_eq (z := r 9 5) (row_at (ph_l (by decide))) ?_
  refine fr_if_ne (pc := 58) 66 (by decide) dX5_hour_58 (fun h58 => ?_) (fun h58 => ?_)
  · refine fr_aload_n (pc := 66) rfl dX5_hour_66 ?_
    refine fr_get (pc := 67) (ci := 4) (T := TX5) (k0 := 0) rfl hin_X5 (by decide) fl_X5_9 (by decide) y_42 rfl dX5_hour_67 ?_
    refine fr_iconst (pc := 70) (v := 0) rfl dX5_hour_70 ?_
    refine fr_ldc (pc := 71) kc_X5_161 dX5_hour_71 ?_
    refine fr_aload_n (pc := 73) rfl dX5_hour_73 ?_
    refine fr_get (pc := 74) (ci := 4) (T := TX5) (k0 := 0) rfl hin_X5 (by decide) fl_X5_9 (by decide) y_42 rfl dX5_hour_74 ?_
    refine fr_iconst (pc := 77) (v := 0) rfl dX5_hour_77 ?_
    refine fr_iald (pc := 78) 0 rfl (by decide) y_43 (by decide) (by decide) dX5_hour_78 ?_
    refine fr_eq (z := r 9 0) (row_at (ph_l (by decide))) ?_
    refine fr_iconst (pc := 79) (v := 1) rfl dX5_hour_79 ?_
    refine fr_iadd (pc := 80) dX5_hour_80 ?_
    refine fr_mmin (pc := 81) gm_X5_144 wM_s_min wM_i wM_c_min ⟨by decide, by decide, by decide, by decide⟩ (Nat.le_of_ble_eq_true rfl) dX5_hour_81 ?_
    refine fr_eq (z := s_min (r 9 0 + 1) 99999) (smin_c _ _) ?_
    refine fr_iast (pc := 84) 0 rfl (by decide) y_43 (by decide) (by decide) dX5_hour_84 ?_
    refine fr_mem (y_u43 (ph_l (by decide))) ?_
    exact fr_return (pc := 85) rfl (by unfold s_hf; rw [show s_h2 m r = r from if_neg h58]) dX5_hour_85
  · refine fr_aload_n (pc := 61) rfl dX5_hour_61 ?_
    refine fr_iload_n (pc := 62) rfl dX5_hour_62 ?_
    refine fr_callV0 (pc := 63) (ci := 4) (T := TX5) (N := 20) [.int m] [] (c_X5_strains (by assumption)) gc_X5_157 rfl rfl ⟨rfl, rfl, by decide, by decide⟩ (Nat.le_of_ble_eq_true rfl) rfl (by decide) y_42 ⟨by decide, by decide⟩ dX5_hour_63 ?_
    refine fr_aload_n (pc := 66) rfl dX5_hour_66 ?_
    refine fr_get (pc := 67) (ci := 4) (T := TX5) (k0 := 0) rfl hin_X5 (by decide) fl_X5_9 (by decide) y_42 rfl dX5_hour_67 ?_
    refine fr_iconst (pc := 70) (v := 0) rfl dX5_hour_70 ?_
    refine fr_ldc (pc := 71) kc_X5_161 dX5_hour_71 ?_
    refine fr_aload_n (pc := 73) rfl dX5_hour_73 ?_
    refine fr_get (pc := 74) (ci := 4) (T := TX5) (k0 := 0) rfl hin_X5 (by decide) fl_X5_9 (by decide) y_42 rfl dX5_hour_74 ?_
    refine fr_iconst (pc := 77) (v := 0) rfl dX5_hour_77 ?_
    refine fr_iald (pc := 78) 0 rfl (by decide) y_43 (by decide) (by decide) dX5_hour_78 ?_
    refine fr_eq (z := (s_pull r m) 9 0) (row_at (ph_l (by decide))) ?_
    refine fr_iconst (pc := 79) (v := 1) rfl dX5_hour_79 ?_
    refine fr_iadd (pc := 80) dX5_hour_80 ?_
    refine fr_mmin (pc := 81) gm_X5_144 wM_s_min wM_i wM_c_min ⟨by decide, by decide, by decide, by decide⟩ (Nat.le_of_ble_eq_true rfl) dX5_hour_81 ?_
    refine fr_eq (z := s_min ((s_pull r m) 9 0 + 1) 99999) (smin_c _ _) ?_
    refine fr_iast (pc := 84) 0 rfl (by decide) y_43 (by decide) (by decide) dX5_hour_84 ?_
    refine fr_mem (y_u43 (ph_l (by decide))) ?_
    exact fr_return (pc := 85) rfl (by unfold s_hf; rw [show s_h2 m r = s_pull r m from if_pos h58]) dX5_hour_85
set_option maxRecDepth 100000 in
theorem yh_loop {Γ : aG} {l : Launch} {M : Nat → aC} {kr ar : Nat → Int32} {ik : Int32} {fi b : Nat → Int32} {ln : Int32} {S : sT} {it mv : Nat → Int32} {Q : yQ} {m : Int32} : ∀ (n g : Nat) (r : rT), wf r → g + n = cnt r → Fr Γ l mX5_hour 7 [(0, .ref 42), (1, .int m), (2, .int (nI g))] [] 54 0 0 (yM M r kr ar ik fi b ln S it mv Q) none 54 (yM M (s_hf m (s_wl m n g r)) kr ar ik fi b ln S it mv Q) := by
  intro n
  induction n with
  | zero =>
    intro g r w hn
    have hcl := w.ctl
    refine fr_iload_n (pc := 7) rfl dX5_hour_7 ?_
    refine fr_aload_n (pc := 8) rfl dX5_hour_8 ?_
    refine fr_get (pc := 9) (ci := 4) (T := TX5) (k0 := 0) rfl hin_X5 (by decide) fl_X5_9 (by decide) y_42 rfl dX5_hour_9 ?_
    refine fr_iconst (pc := 12) (v := 1) rfl dX5_hour_12 ?_
    refine fr_iald (pc := 13) 1 rfl (by decide) y_43 (by decide) (by decide) dX5_hour_13 ?_
    refine fr_eq (z := r 9 1) (row_at (ph_l (by decide))) ?_
    refine fr_icmp_ge (pc := 14) 52 (by decide) dX5_hour_14 (fun h14 => ?_) (fun h14 => ?_)
    · exact yh_tail w
    · exact absurd (by rw [w.ct, ← hn]; exact Int32.le_refl _) h14
  | succ n ih =>
    intro g r w hn
    have hcl := w.ctl
    refine fr_iload_n (pc := 7) rfl dX5_hour_7 ?_
    refine fr_aload_n (pc := 8) rfl dX5_hour_8 ?_
    refine fr_get (pc := 9) (ci := 4) (T := TX5) (k0 := 0) rfl hin_X5 (by decide) fl_X5_9 (by decide) y_42 rfl dX5_hour_9 ?_
    refine fr_iconst (pc := 12) (v := 1) rfl dX5_hour_12 ?_
    refine fr_iald (pc := 13) 1 rfl (by decide) y_43 (by decide) (by decide) dX5_hour_13 ?_
    refine fr_eq (z := r 9 1) (row_at (ph_l (by decide))) ?_
    refine fr_icmp_ge (pc := 14) 52 (by decide) dX5_hour_14 (fun h14 => ?_) (fun h14 => ?_)
    · exact absurd h14 (by rw [w.ct, ← hn]; exact nI_ge (by omega) (by omega))
    · refine fr_aload_n (pc := 17) rfl dX5_hour_17 ?_
      refine fr_iload_n (pc := 18) rfl dX5_hour_18 ?_
      refine fr_callV0 (pc := 19) (ci := 4) (T := TX5) (N := 20) [.int (nI g)] [] (c_X5_isIn (by first | assumption | omega)) gc_X5_147 rfl rfl ⟨rfl, rfl, by decide, by decide⟩ (Nat.le_of_ble_eq_true rfl) rfl (by decide) y_42 ⟨by decide, by decide⟩ dX5_hour_19 ?_
      refine fr_if_eq (pc := 22) 46 (by decide) dX5_hour_22 (fun h22 => ?_) (fun h22 => ?_)
      · have g22 := bI_0.mp h22
        refine fr_iinc (pc := 46) (v := nI (g + 1)) [(2, .int (nI (g + 1))), (0, .ref 42), (1, .int m)] rfl (nI_1 g) (by decide) rfl dX5_hour_46 ?_
        refine fr_goto (pc := 49) 7 (by decide) dX5_hour_49 ?_
        rw [s_wl, if_neg (fun h => g22 h.1)]
        exact fr_sub [1, 2, 0] rfl (ih (g + 1) r w (by omega))
      · have g22 := bI_n0 h22
        refine fr_aload_n (pc := 25) rfl dX5_hour_25 ?_
        refine fr_iload_n (pc := 26) rfl dX5_hour_26 ?_
        refine fr_iconst (pc := 27) (v := 1) rfl dX5_hour_27 ?_
        refine fr_callV0 (pc := 28) (ci := 4) (T := TX5) (N := 20) [.int (nI g), .int 1] [] (c_X5_guestIs (k := 1) (by first | assumption | omega) (by first | decide | assumption | omega)) gc_X5_116 rfl rfl ⟨rfl, rfl, by decide, by decide⟩ (Nat.le_of_ble_eq_true rfl) rfl (by decide) y_42 ⟨by decide, by decide⟩ dX5_hour_28 ?_
        refine fr_aload_n (pc := 31) rfl dX5_hour_31 ?_
        refine fr_iload_n (pc := 32) rfl dX5_hour_32 ?_
        refine fr_iconst (pc := 33) (v := 3) rfl dX5_hour_33 ?_
        refine fr_callV0 (pc := 34) (ci := 4) (T := TX5) (N := 20) [.int (nI g), .int 3] [.int (r 3 g)] (c_X5_guestIs (k := 3) (by first | assumption | omega) (by first | decide | assumption | omega)) gc_X5_116 rfl rfl ⟨rfl, rfl, by decide, by decide⟩ (Nat.le_of_ble_eq_true rfl) rfl (by decide) y_42 ⟨by decide, by decide⟩ dX5_hour_34 ?_
        refine fr_icmp_eq (pc := 37) 46 (by decide) dX5_hour_37 (fun h37 => ?_) (fun h37 => ?_)
        · refine fr_iinc (pc := 46) (v := nI (g + 1)) [(2, .int (nI (g + 1))), (0, .ref 42), (1, .int m)] rfl (nI_1 g) (by decide) rfl dX5_hour_46 ?_
          refine fr_goto (pc := 49) 7 (by decide) dX5_hour_49 ?_
          rw [s_wl, if_neg (fun h => h.2 h37)]
          exact fr_sub [1, 2, 0] rfl (ih (g + 1) r w (by omega))
        · refine fr_aload_n (pc := 40) rfl dX5_hour_40 ?_
          refine fr_iload_n (pc := 41) rfl dX5_hour_41 ?_
          refine fr_iload_n (pc := 42) rfl dX5_hour_42 ?_
          refine fr_callV0 (pc := 43) (ci := 4) (T := TX5) (N := 20) [.int (nI g), .int m] [] (c_X5_goes (by first | assumption | omega) (by assumption)) gc_X5_153 rfl rfl ⟨rfl, rfl, by decide, by decide⟩ (Nat.le_of_ble_eq_true rfl) rfl (by decide) y_42 ⟨by decide, by decide⟩ dX5_hour_43 ?_
          refine fr_iinc (pc := 46) (v := nI (g + 1)) [(2, .int (nI (g + 1))), (0, .ref 42), (1, .int m)] rfl (nI_1 g) (by decide) rfl dX5_hour_46 ?_
          refine fr_goto (pc := 49) 7 (by decide) dX5_hour_49 ?_
          rw [s_wl, if_pos ⟨g22, h37⟩]
          exact fr_sub [1, 2, 0] rfl (ih (g + 1) (s_walk r g m) (wf_walk w (by omega)) (by show _ = cnt r; omega))
set_option maxRecDepth 100000 in
theorem c_X5_hour {Γ : aG} {l : Launch} {M : Nat → aC} {r : rT} {kr ar : Nat → Int32} {ik : Int32} {fi b : Nat → Int32} {ln : Int32} {S : sT} {it mv : Nat → Int32} {Q : yQ} (w : wf r)  : Ev Γ l mX5_hour [.ref 42] 54 (yM M r kr ar ik fi b ln S it mv Q) none 54 (yM M (s_hour r) kr ar ik fi b ln S it mv Q) := by
  refine Ev.of [(0, .ref 42)] (by decide) (Nat.le_of_ble_eq_true rfl) rfl ?_
  refine fr_aload_n (pc := 0) rfl dX5_hour_0 ?_
  refine fr_callV0 (pc := 1) (ci := 4) (T := TX5) (N := 20) [] [] (c_X5_measureNow (by assumption)) gc_X5_150 rfl rfl ⟨rfl, rfl, by decide, by decide⟩ (Nat.le_of_ble_eq_true rfl) rfl (by decide) y_42 ⟨by decide, by decide⟩ dX5_hour_1 ?_
  refine fr_nm (fun x1_4 e_x1_4 => ?_)
  refine fr_istore_n (pc := 4) [(1, .int x1_4), (0, .ref 42)] (by decide) rfl dX5_hour_4 ?_
  refine fr_iconst (pc := 5) (v := 0) rfl dX5_hour_5 ?_
  refine fr_istore_n (pc := 6) [(2, .int 0), (1, .int x1_4), (0, .ref 42)] (by decide) rfl dX5_hour_6 ?_
  rw [show s_hour r = s_hf x1_4 (s_wl x1_4 (cnt r) 0 r) from by rw [e_x1_4]; rfl]
  exact fr_sub [2, 1, 0] rfl (yh_loop (cnt r) 0 r w (by omega))
set_option maxRecDepth 100000 in
theorem yhs_loop {Γ : aG} {l : Launch} {M : Nat → aC} {kr ar : Nat → Int32} {ik : Int32} {fi b : Nat → Int32} {ln : Int32} {S : sT} {it mv : Nat → Int32} {Q : yQ} {N : Nat} (hN : N < 1000) : ∀ (n i : Nat) (r : rT), wf r → i + n = N → Fr Γ l mX5_hoursGo 2 [(0, .ref 42), (1, .int (nI N)), (2, .int (nI i))] [] 54 0 0 (yM M r kr ar ik fi b ln S it mv Q) none 54 (yM M (s_hours n r) kr ar ik fi b ln S it mv Q) := by
  intro n
  induction n with
  | zero =>
    intro i r w hn
    refine fr_iload_n (pc := 2) rfl dX5_hoursGo_2 ?_
    refine fr_iload_n (pc := 3) rfl dX5_hoursGo_3 ?_
    refine fr_icmp_ge (pc := 4) 17 (by decide) dX5_hoursGo_4 (fun h4 => ?_) (fun h4 => ?_)
    · exact fr_return (pc := 17) rfl rfl dX5_hoursGo_17
    · exact absurd (by rw [← hn]; exact Int32.le_refl _) h4
  | succ n ih =>
    intro i r w hn
    refine fr_iload_n (pc := 2) rfl dX5_hoursGo_2 ?_
    refine fr_iload_n (pc := 3) rfl dX5_hoursGo_3 ?_
    refine fr_icmp_ge (pc := 4) 17 (by decide) dX5_hoursGo_4 (fun h4 => ?_) (fun h4 => ?_)
    · exact absurd h4 (nI_ge (by omega) (by omega))
    · refine fr_aload_n (pc := 7) rfl dX5_hoursGo_7 ?_
      refine fr_callV0 (pc := 8) (ci := 4) (T := TX5) (N := 20) [] [] (c_X5_hour (by assumption)) gc_X5_162 rfl rfl ⟨rfl, rfl, by decide, by decide⟩ (Nat.le_of_ble_eq_true rfl) rfl (by decide) y_42 ⟨by decide, by decide⟩ dX5_hoursGo_8 ?_
      refine fr_iinc (pc := 11) (v := nI (i + 1)) [(2, .int (nI (i + 1))), (0, .ref 42), (1, .int (nI N))] rfl (nI_1 i) (by decide) rfl dX5_hoursGo_11 ?_
      refine fr_goto (pc := 14) 2 (by decide) dX5_hoursGo_14 ?_
      exact fr_sub [1, 2, 0] rfl (ih (i + 1) (s_hour r) (wf_hour w) (by omega))
set_option maxRecDepth 100000 in
theorem c_X5_hoursGo {Γ : aG} {l : Launch} {M : Nat → aC} {r : rT} {kr ar : Nat → Int32} {ik : Int32} {fi b : Nat → Int32} {ln : Int32} {S : sT} {it mv : Nat → Int32} {Q : yQ} {N : Nat} (w : wf r) (hN : N < 1000)  : Ev Γ l mX5_hoursGo [.ref 42, .int (nI N)] 54 (yM M r kr ar ik fi b ln S it mv Q) none 54 (yM M (s_hours N r) kr ar ik fi b ln S it mv Q) := by
  refine Ev.of [(0, .ref 42), (1, .int (nI N))] (by decide) (Nat.le_of_ble_eq_true rfl) rfl ?_
  refine fr_iconst (pc := 0) (v := 0) rfl dX5_hoursGo_0 ?_
  refine fr_istore_n (pc := 1) [(2, .int 0), (0, .ref 42), (1, .int (nI N))] (by decide) rfl dX5_hoursGo_1 ?_
  exact fr_sub [1, 2, 0] rfl (yhs_loop hN N 0 r w (by omega))
set_option maxRecDepth 100000 in
theorem yl_stuckOnes {Γ : aG} {l : Launch} {M : Nat → aC} {r : rT} {kr ar : Nat → Int32} {ik : Int32} {fi b : Nat → Int32} {ln : Int32} {S : sT} {it mv : Nat → Int32} {Q : yQ} (w : wf r) : ∀ (n g : Nat) (a : Int32), g + n = cnt r → Fr Γ l mX5_stuckOnes 4 [(0, .ref 42), (1, .int a), (2, .int (nI g))] [] 54 0 0 (yM M r kr ar ik fi b ln S it mv Q) (some (.int (s_set (fun g => decide (0 < r 6 g)) n g a))) 54 (yM M r kr ar ik fi b ln S it mv Q) := by
  have hcl := w.ctl
  intro n
  induction n with
  | zero =>
    intro g a hn
    refine fr_iload_n (pc := 4) rfl dX5_stuckOnes_4 ?_
    refine fr_aload_n (pc := 5) rfl dX5_stuckOnes_5 ?_
    refine fr_get (pc := 6) (ci := 4) (T := TX5) (k0 := 0) rfl hin_X5 (by decide) fl_X5_9 (by decide) y_42 rfl dX5_stuckOnes_6 ?_
    refine fr_iconst (pc := 9) (v := 1) rfl dX5_stuckOnes_9 ?_
    refine fr_iald (pc := 10) 1 rfl (by decide) y_43 (by decide) (by decide) dX5_stuckOnes_10 ?_
    refine fr_eq (z := r 9 1) (row_at (ph_l (by decide))) ?_
    refine fr_icmp_ge (pc := 11) 39 (by decide) dX5_stuckOnes_11 (fun h11 => ?_) (fun h11 => ?_)
    · refine fr_iload_n (pc := 39) rfl dX5_stuckOnes_39 ?_
      exact fr_ireturn (pc := 40) rfl rfl rfl rfl dX5_stuckOnes_40
    · exact absurd (by rw [w.ct, ← hn]; exact Int32.le_refl _) h11
  | succ n ih =>
    intro g a hn
    refine fr_iload_n (pc := 4) rfl dX5_stuckOnes_4 ?_
    refine fr_aload_n (pc := 5) rfl dX5_stuckOnes_5 ?_
    refine fr_get (pc := 6) (ci := 4) (T := TX5) (k0 := 0) rfl hin_X5 (by decide) fl_X5_9 (by decide) y_42 rfl dX5_stuckOnes_6 ?_
    refine fr_iconst (pc := 9) (v := 1) rfl dX5_stuckOnes_9 ?_
    refine fr_iald (pc := 10) 1 rfl (by decide) y_43 (by decide) (by decide) dX5_stuckOnes_10 ?_
    refine fr_eq (z := r 9 1) (row_at (ph_l (by decide))) ?_
    refine fr_icmp_ge (pc := 11) 39 (by decide) dX5_stuckOnes_11 (fun h11 => ?_) (fun h11 => ?_)
    · exact absurd h11 (by rw [w.ct, ← hn]; exact nI_ge (by omega) (by omega))
    · refine fr_iload_n (pc := 14) rfl dX5_stuckOnes_14 ?_
      refine fr_aload_n (pc := 15) rfl dX5_stuckOnes_15 ?_
      refine fr_iload_n (pc := 16) rfl dX5_stuckOnes_16 ?_
      refine fr_iconst (pc := 17) (v := 4) rfl dX5_stuckOnes_17 ?_
      refine fr_callV0 (pc := 18) (ci := 4) (T := TX5) (N := 20) [.int (nI g), .int 4] [.int a] (c_X5_guestIs (k := 4) (by first | assumption | omega) (by first | decide | assumption | omega)) gc_X5_116 rfl rfl ⟨rfl, rfl, by decide, by decide⟩ (Nat.le_of_ble_eq_true rfl) rfl (by decide) y_42 ⟨by decide, by decide⟩ dX5_stuckOnes_18 ?_
      refine fr_if_le (pc := 21) 30 (by decide) dX5_stuckOnes_21 (fun h21 => ?_) (fun h21 => ?_)
      · refine fr_iconst (pc := 30) (v := 0) rfl dX5_stuckOnes_30 ?_
        refine fr_ior (pc := 31) dX5_stuckOnes_31 ?_
        refine fr_nm (fun x1_32 e_x1_32 => ?_)
        refine fr_istore_n (pc := 32) [(1, .int x1_32), (0, .ref 42), (2, .int (nI g))] (by decide) rfl dX5_stuckOnes_32 ?_
        refine fr_iinc (pc := 33) (v := nI (g + 1)) [(2, .int (nI (g + 1))), (1, .int x1_32), (0, .ref 42)] rfl (nI_1 g) (by decide) rfl dX5_stuckOnes_33 ?_
        refine fr_goto (pc := 36) 4 (by decide) dX5_stuckOnes_36 ?_
        rw [s_set, show (a ||| (if (fun g => decide (0 < r 6 g)) g = true then 1 <<< (nI g &&& 31) else 0)) = x1_32 from by rw [e_x1_32]; rw [if_neg (by simpa using h21)]]
        exact fr_sub [2, 1, 0] rfl (ih (g + 1) x1_32 (by omega))
      · refine fr_iconst (pc := 24) (v := 1) rfl dX5_stuckOnes_24 ?_
        refine fr_iload_n (pc := 25) rfl dX5_stuckOnes_25 ?_
        refine fr_ishl (pc := 26) dX5_stuckOnes_26 ?_
        refine fr_goto (pc := 27) 31 (by decide) dX5_stuckOnes_27 ?_
        refine fr_ior (pc := 31) dX5_stuckOnes_31 ?_
        refine fr_nm (fun x1_32 e_x1_32 => ?_)
        refine fr_istore_n (pc := 32) [(1, .int x1_32), (0, .ref 42), (2, .int (nI g))] (by decide) rfl dX5_stuckOnes_32 ?_
        refine fr_iinc (pc := 33) (v := nI (g + 1)) [(2, .int (nI (g + 1))), (1, .int x1_32), (0, .ref 42)] rfl (nI_1 g) (by decide) rfl dX5_stuckOnes_33 ?_
        refine fr_goto (pc := 36) 4 (by decide) dX5_stuckOnes_36 ?_
        rw [s_set, show (a ||| (if (fun g => decide (0 < r 6 g)) g = true then 1 <<< (nI g &&& 31) else 0)) = x1_32 from by rw [e_x1_32]; rw [if_pos (by simpa using Int32.not_le.mp h21)]]
        exact fr_sub [2, 1, 0] rfl (ih (g + 1) x1_32 (by omega))
set_option maxRecDepth 100000 in
theorem c_X5_stuckOnes {Γ : aG} {l : Launch} {M : Nat → aC} {r : rT} {kr ar : Nat → Int32} {ik : Int32} {fi b : Nat → Int32} {ln : Int32} {S : sT} {it mv : Nat → Int32} {Q : yQ} (w : wf r)  : Ev Γ l mX5_stuckOnes [.ref 42] 54 (yM M r kr ar ik fi b ln S it mv Q) (some (.int (s_set (fun g => decide (0 < r 6 g)) (cnt r) 0 0))) 54 (yM M r kr ar ik fi b ln S it mv Q) := by
  refine Ev.of [(0, .ref 42)] (by decide) (Nat.le_of_ble_eq_true rfl) rfl ?_
  refine fr_iconst (pc := 0) (v := 0) rfl dX5_stuckOnes_0 ?_
  refine fr_istore_n (pc := 1) [(1, .int 0), (0, .ref 42)] (by decide) rfl dX5_stuckOnes_1 ?_
  refine fr_iconst (pc := 2) (v := 0) rfl dX5_stuckOnes_2 ?_
  refine fr_istore_n (pc := 3) [(2, .int 0), (1, .int 0), (0, .ref 42)] (by decide) rfl dX5_stuckOnes_3 ?_
  exact fr_sub [2, 1, 0] rfl (yl_stuckOnes w (cnt r) 0 0 (by omega))
set_option maxRecDepth 100000 in
theorem yl_arrived {Γ : aG} {l : Launch} {M : Nat → aC} {r : rT} {kr ar : Nat → Int32} {ik : Int32} {fi b : Nat → Int32} {ln : Int32} {S : sT} {it mv : Nat → Int32} {Q : yQ} (w : wf r) : ∀ (n g : Nat) (a : Int32), g + n = cnt r → Fr Γ l mX5_arrived 4 [(0, .ref 42), (1, .int a), (2, .int (nI g))] [] 54 0 0 (yM M r kr ar ik fi b ln S it mv Q) (some (.int (s_set (fun g => decide (r 3 g = r 5 g)) n g a))) 54 (yM M r kr ar ik fi b ln S it mv Q) := by
  have hcl := w.ctl
  intro n
  induction n with
  | zero =>
    intro g a hn
    refine fr_iload_n (pc := 4) rfl dX5_arrived_4 ?_
    refine fr_aload_n (pc := 5) rfl dX5_arrived_5 ?_
    refine fr_get (pc := 6) (ci := 4) (T := TX5) (k0 := 0) rfl hin_X5 (by decide) fl_X5_9 (by decide) y_42 rfl dX5_arrived_6 ?_
    refine fr_iconst (pc := 9) (v := 1) rfl dX5_arrived_9 ?_
    refine fr_iald (pc := 10) 1 rfl (by decide) y_43 (by decide) (by decide) dX5_arrived_10 ?_
    refine fr_eq (z := r 9 1) (row_at (ph_l (by decide))) ?_
    refine fr_icmp_ge (pc := 11) 45 (by decide) dX5_arrived_11 (fun h11 => ?_) (fun h11 => ?_)
    · refine fr_iload_n (pc := 45) rfl dX5_arrived_45 ?_
      exact fr_ireturn (pc := 46) rfl rfl rfl rfl dX5_arrived_46
    · exact absurd (by rw [w.ct, ← hn]; exact Int32.le_refl _) h11
  | succ n ih =>
    intro g a hn
    refine fr_iload_n (pc := 4) rfl dX5_arrived_4 ?_
    refine fr_aload_n (pc := 5) rfl dX5_arrived_5 ?_
    refine fr_get (pc := 6) (ci := 4) (T := TX5) (k0 := 0) rfl hin_X5 (by decide) fl_X5_9 (by decide) y_42 rfl dX5_arrived_6 ?_
    refine fr_iconst (pc := 9) (v := 1) rfl dX5_arrived_9 ?_
    refine fr_iald (pc := 10) 1 rfl (by decide) y_43 (by decide) (by decide) dX5_arrived_10 ?_
    refine fr_eq (z := r 9 1) (row_at (ph_l (by decide))) ?_
    refine fr_icmp_ge (pc := 11) 45 (by decide) dX5_arrived_11 (fun h11 => ?_) (fun h11 => ?_)
    · exact absurd h11 (by rw [w.ct, ← hn]; exact nI_ge (by omega) (by omega))
    · refine fr_iload_n (pc := 14) rfl dX5_arrived_14 ?_
      refine fr_aload_n (pc := 15) rfl dX5_arrived_15 ?_
      refine fr_iload_n (pc := 16) rfl dX5_arrived_16 ?_
      refine fr_iconst (pc := 17) (v := 1) rfl dX5_arrived_17 ?_
      refine fr_callV0 (pc := 18) (ci := 4) (T := TX5) (N := 20) [.int (nI g), .int 1] [.int a] (c_X5_guestIs (k := 1) (by first | assumption | omega) (by first | decide | assumption | omega)) gc_X5_116 rfl rfl ⟨rfl, rfl, by decide, by decide⟩ (Nat.le_of_ble_eq_true rfl) rfl (by decide) y_42 ⟨by decide, by decide⟩ dX5_arrived_18 ?_
      refine fr_aload_n (pc := 21) rfl dX5_arrived_21 ?_
      refine fr_iload_n (pc := 22) rfl dX5_arrived_22 ?_
      refine fr_iconst (pc := 23) (v := 3) rfl dX5_arrived_23 ?_
      refine fr_callV0 (pc := 24) (ci := 4) (T := TX5) (N := 20) [.int (nI g), .int 3] [.int (r 3 g), .int a] (c_X5_guestIs (k := 3) (by first | assumption | omega) (by first | decide | assumption | omega)) gc_X5_116 rfl rfl ⟨rfl, rfl, by decide, by decide⟩ (Nat.le_of_ble_eq_true rfl) rfl (by decide) y_42 ⟨by decide, by decide⟩ dX5_arrived_24 ?_
      refine fr_icmp_ne (pc := 27) 36 (by decide) dX5_arrived_27 (fun h27 => ?_) (fun h27 => ?_)
      · refine fr_iconst (pc := 36) (v := 0) rfl dX5_arrived_36 ?_
        refine fr_ior (pc := 37) dX5_arrived_37 ?_
        refine fr_nm (fun x1_38 e_x1_38 => ?_)
        refine fr_istore_n (pc := 38) [(1, .int x1_38), (0, .ref 42), (2, .int (nI g))] (by decide) rfl dX5_arrived_38 ?_
        refine fr_iinc (pc := 39) (v := nI (g + 1)) [(2, .int (nI (g + 1))), (1, .int x1_38), (0, .ref 42)] rfl (nI_1 g) (by decide) rfl dX5_arrived_39 ?_
        refine fr_goto (pc := 42) 4 (by decide) dX5_arrived_42 ?_
        rw [s_set, show (a ||| (if (fun g => decide (r 3 g = r 5 g)) g = true then 1 <<< (nI g &&& 31) else 0)) = x1_38 from by rw [e_x1_38]; rw [if_neg (by simpa using h27)]]
        exact fr_sub [2, 1, 0] rfl (ih (g + 1) x1_38 (by omega))
      · refine fr_iconst (pc := 30) (v := 1) rfl dX5_arrived_30 ?_
        refine fr_iload_n (pc := 31) rfl dX5_arrived_31 ?_
        refine fr_ishl (pc := 32) dX5_arrived_32 ?_
        refine fr_goto (pc := 33) 37 (by decide) dX5_arrived_33 ?_
        refine fr_ior (pc := 37) dX5_arrived_37 ?_
        refine fr_nm (fun x1_38 e_x1_38 => ?_)
        refine fr_istore_n (pc := 38) [(1, .int x1_38), (0, .ref 42), (2, .int (nI g))] (by decide) rfl dX5_arrived_38 ?_
        refine fr_iinc (pc := 39) (v := nI (g + 1)) [(2, .int (nI (g + 1))), (1, .int x1_38), (0, .ref 42)] rfl (nI_1 g) (by decide) rfl dX5_arrived_39 ?_
        refine fr_goto (pc := 42) 4 (by decide) dX5_arrived_42 ?_
        rw [s_set, show (a ||| (if (fun g => decide (r 3 g = r 5 g)) g = true then 1 <<< (nI g &&& 31) else 0)) = x1_38 from by rw [e_x1_38]; rw [if_pos (by simpa using h27)]]
        exact fr_sub [2, 1, 0] rfl (ih (g + 1) x1_38 (by omega))
set_option maxRecDepth 100000 in
theorem c_X5_arrived {Γ : aG} {l : Launch} {M : Nat → aC} {r : rT} {kr ar : Nat → Int32} {ik : Int32} {fi b : Nat → Int32} {ln : Int32} {S : sT} {it mv : Nat → Int32} {Q : yQ} (w : wf r)  : Ev Γ l mX5_arrived [.ref 42] 54 (yM M r kr ar ik fi b ln S it mv Q) (some (.int (s_set (fun g => decide (r 3 g = r 5 g)) (cnt r) 0 0))) 54 (yM M r kr ar ik fi b ln S it mv Q) := by
  refine Ev.of [(0, .ref 42)] (by decide) (Nat.le_of_ble_eq_true rfl) rfl ?_
  refine fr_iconst (pc := 0) (v := 0) rfl dX5_arrived_0 ?_
  refine fr_istore_n (pc := 1) [(1, .int 0), (0, .ref 42)] (by decide) rfl dX5_arrived_1 ?_
  refine fr_iconst (pc := 2) (v := 0) rfl dX5_arrived_2 ?_
  refine fr_istore_n (pc := 3) [(2, .int 0), (1, .int 0), (0, .ref 42)] (by decide) rfl dX5_arrived_3 ?_
  exact fr_sub [2, 1, 0] rfl (yl_arrived w (cnt r) 0 0 (by omega))
set_option maxRecDepth 100000 in
theorem yl_inTheHall {Γ : aG} {l : Launch} {M : Nat → aC} {r : rT} {kr ar : Nat → Int32} {ik : Int32} {fi b : Nat → Int32} {ln : Int32} {S : sT} {it mv : Nat → Int32} {Q : yQ} (w : wf r) : ∀ (n g : Nat) (a : Int32), g + n = cnt r → Fr Γ l mX5_inTheHall 4 [(0, .ref 42), (1, .int a), (2, .int (nI g))] [] 54 0 0 (yM M r kr ar ik fi b ln S it mv Q) (some (.int (s_set (fun g => decide (r 3 g = 0 ∧ r 7 g = 0)) n g a))) 54 (yM M r kr ar ik fi b ln S it mv Q) := by
  have hcl := w.ctl
  intro n
  induction n with
  | zero =>
    intro g a hn
    refine fr_iload_n (pc := 4) rfl dX5_inTheHall_4 ?_
    refine fr_aload_n (pc := 5) rfl dX5_inTheHall_5 ?_
    refine fr_get (pc := 6) (ci := 4) (T := TX5) (k0 := 0) rfl hin_X5 (by decide) fl_X5_9 (by decide) y_42 rfl dX5_inTheHall_6 ?_
    refine fr_iconst (pc := 9) (v := 1) rfl dX5_inTheHall_9 ?_
    refine fr_iald (pc := 10) 1 rfl (by decide) y_43 (by decide) (by decide) dX5_inTheHall_10 ?_
    refine fr_eq (z := r 9 1) (row_at (ph_l (by decide))) ?_
    refine fr_icmp_ge (pc := 11) 47 (by decide) dX5_inTheHall_11 (fun h11 => ?_) (fun h11 => ?_)
    · refine fr_iload_n (pc := 47) rfl dX5_inTheHall_47 ?_
      exact fr_ireturn (pc := 48) rfl rfl rfl rfl dX5_inTheHall_48
    · exact absurd (by rw [w.ct, ← hn]; exact Int32.le_refl _) h11
  | succ n ih =>
    intro g a hn
    refine fr_iload_n (pc := 4) rfl dX5_inTheHall_4 ?_
    refine fr_aload_n (pc := 5) rfl dX5_inTheHall_5 ?_
    refine fr_get (pc := 6) (ci := 4) (T := TX5) (k0 := 0) rfl hin_X5 (by decide) fl_X5_9 (by decide) y_42 rfl dX5_inTheHall_6 ?_
    refine fr_iconst (pc := 9) (v := 1) rfl dX5_inTheHall_9 ?_
    refine fr_iald (pc := 10) 1 rfl (by decide) y_43 (by decide) (by decide) dX5_inTheHall_10 ?_
    refine fr_eq (z := r 9 1) (row_at (ph_l (by decide))) ?_
    refine fr_icmp_ge (pc := 11) 47 (by decide) dX5_inTheHall_11 (fun h11 => ?_) (fun h11 => ?_)
    · exact absurd h11 (by rw [w.ct, ← hn]; exact nI_ge (by omega) (by omega))
    · refine fr_iload_n (pc := 14) rfl dX5_inTheHall_14 ?_
      refine fr_aload_n (pc := 15) rfl dX5_inTheHall_15 ?_
      refine fr_iload_n (pc := 16) rfl dX5_inTheHall_16 ?_
      refine fr_callV0 (pc := 17) (ci := 4) (T := TX5) (N := 20) [.int (nI g)] [.int a] (c_X5_isIn (by first | assumption | omega)) gc_X5_147 rfl rfl ⟨rfl, rfl, by decide, by decide⟩ (Nat.le_of_ble_eq_true rfl) rfl (by decide) y_42 ⟨by decide, by decide⟩ dX5_inTheHall_17 ?_
      refine fr_if_eq (pc := 20) 38 (by decide) dX5_inTheHall_20 (fun h20 => ?_) (fun h20 => ?_)
      · have g20 := bI_0.mp h20
        refine fr_iconst (pc := 38) (v := 0) rfl dX5_inTheHall_38 ?_
        refine fr_ior (pc := 39) dX5_inTheHall_39 ?_
        refine fr_nm (fun x1_40 e_x1_40 => ?_)
        refine fr_istore_n (pc := 40) [(1, .int x1_40), (0, .ref 42), (2, .int (nI g))] (by decide) rfl dX5_inTheHall_40 ?_
        refine fr_iinc (pc := 41) (v := nI (g + 1)) [(2, .int (nI (g + 1))), (1, .int x1_40), (0, .ref 42)] rfl (nI_1 g) (by decide) rfl dX5_inTheHall_41 ?_
        refine fr_goto (pc := 44) 4 (by decide) dX5_inTheHall_44 ?_
        rw [s_set, show (a ||| (if (fun g => decide (r 3 g = 0 ∧ r 7 g = 0)) g = true then 1 <<< (nI g &&& 31) else 0)) = x1_40 from by rw [e_x1_40]; rw [if_neg (by simp [g20])]]
        exact fr_sub [2, 1, 0] rfl (ih (g + 1) x1_40 (by omega))
      · have g20 := bI_n0 h20
        refine fr_aload_n (pc := 23) rfl dX5_inTheHall_23 ?_
        refine fr_iload_n (pc := 24) rfl dX5_inTheHall_24 ?_
        refine fr_iconst (pc := 25) (v := 1) rfl dX5_inTheHall_25 ?_
        refine fr_callV0 (pc := 26) (ci := 4) (T := TX5) (N := 20) [.int (nI g), .int 1] [.int a] (c_X5_guestIs (k := 1) (by first | assumption | omega) (by first | decide | assumption | omega)) gc_X5_116 rfl rfl ⟨rfl, rfl, by decide, by decide⟩ (Nat.le_of_ble_eq_true rfl) rfl (by decide) y_42 ⟨by decide, by decide⟩ dX5_inTheHall_26 ?_
        refine fr_if_ne (pc := 29) 38 (by decide) dX5_inTheHall_29 (fun h29 => ?_) (fun h29 => ?_)
        · refine fr_iconst (pc := 38) (v := 0) rfl dX5_inTheHall_38 ?_
          refine fr_ior (pc := 39) dX5_inTheHall_39 ?_
          refine fr_nm (fun x1_40 e_x1_40 => ?_)
          refine fr_istore_n (pc := 40) [(1, .int x1_40), (0, .ref 42), (2, .int (nI g))] (by decide) rfl dX5_inTheHall_40 ?_
          refine fr_iinc (pc := 41) (v := nI (g + 1)) [(2, .int (nI (g + 1))), (1, .int x1_40), (0, .ref 42)] rfl (nI_1 g) (by decide) rfl dX5_inTheHall_41 ?_
          refine fr_goto (pc := 44) 4 (by decide) dX5_inTheHall_44 ?_
          rw [s_set, show (a ||| (if (fun g => decide (r 3 g = 0 ∧ r 7 g = 0)) g = true then 1 <<< (nI g &&& 31) else 0)) = x1_40 from by rw [e_x1_40]; rw [if_neg (by simp [h29])]]
          exact fr_sub [2, 1, 0] rfl (ih (g + 1) x1_40 (by omega))
        · refine fr_iconst (pc := 32) (v := 1) rfl dX5_inTheHall_32 ?_
          refine fr_iload_n (pc := 33) rfl dX5_inTheHall_33 ?_
          refine fr_ishl (pc := 34) dX5_inTheHall_34 ?_
          refine fr_goto (pc := 35) 39 (by decide) dX5_inTheHall_35 ?_
          refine fr_ior (pc := 39) dX5_inTheHall_39 ?_
          refine fr_nm (fun x1_40 e_x1_40 => ?_)
          refine fr_istore_n (pc := 40) [(1, .int x1_40), (0, .ref 42), (2, .int (nI g))] (by decide) rfl dX5_inTheHall_40 ?_
          refine fr_iinc (pc := 41) (v := nI (g + 1)) [(2, .int (nI (g + 1))), (1, .int x1_40), (0, .ref 42)] rfl (nI_1 g) (by decide) rfl dX5_inTheHall_41 ?_
          refine fr_goto (pc := 44) 4 (by decide) dX5_inTheHall_44 ?_
          rw [s_set, show (a ||| (if (fun g => decide (r 3 g = 0 ∧ r 7 g = 0)) g = true then 1 <<< (nI g &&& 31) else 0)) = x1_40 from by rw [e_x1_40]; rw [if_pos (by simp [g20, h29])]]
          exact fr_sub [2, 1, 0] rfl (ih (g + 1) x1_40 (by omega))
set_option maxRecDepth 100000 in
theorem c_X5_inTheHall {Γ : aG} {l : Launch} {M : Nat → aC} {r : rT} {kr ar : Nat → Int32} {ik : Int32} {fi b : Nat → Int32} {ln : Int32} {S : sT} {it mv : Nat → Int32} {Q : yQ} (w : wf r)  : Ev Γ l mX5_inTheHall [.ref 42] 54 (yM M r kr ar ik fi b ln S it mv Q) (some (.int (s_set (fun g => decide (r 3 g = 0 ∧ r 7 g = 0)) (cnt r) 0 0))) 54 (yM M r kr ar ik fi b ln S it mv Q) := by
  refine Ev.of [(0, .ref 42)] (by decide) (Nat.le_of_ble_eq_true rfl) rfl ?_
  refine fr_iconst (pc := 0) (v := 0) rfl dX5_inTheHall_0 ?_
  refine fr_istore_n (pc := 1) [(1, .int 0), (0, .ref 42)] (by decide) rfl dX5_inTheHall_1 ?_
  refine fr_iconst (pc := 2) (v := 0) rfl dX5_inTheHall_2 ?_
  refine fr_istore_n (pc := 3) [(2, .int 0), (1, .int 0), (0, .ref 42)] (by decide) rfl dX5_inTheHall_3 ?_
  exact fr_sub [2, 1, 0] rfl (yl_inTheHall w (cnt r) 0 0 (by omega))
set_option maxRecDepth 100000 in
theorem yl_shutCells {Γ : aG} {l : Launch} {M : Nat → aC} {r : rT} {kr ar : Nat → Int32} {ik : Int32} {fi b : Nat → Int32} {ln : Int32} {S : sT} {it mv : Nat → Int32} {Q : yQ} (w : wf r) : ∀ (n g : Nat) (a : Int32), g + n = 16 → Fr Γ l mX5_shutCells 4 [(0, .ref 42), (1, .int a), (2, .int (nI g))] [] 54 0 0 (yM M r kr ar ik fi b ln S it mv Q) (some (.int (s_set (fun c => decide (s_width r c (s_meas r) = 0)) n g a))) 54 (yM M r kr ar ik fi b ln S it mv Q) := by
  have hcl := w.ctl
  intro n
  induction n with
  | zero =>
    intro g a hn
    refine fr_iload_n (pc := 4) rfl dX5_shutCells_4 ?_
    refine fr_bipush (pc := 5) (v := 16) rfl dX5_shutCells_5 ?_
    refine fr_icmp_ge (pc := 7) 38 (by decide) dX5_shutCells_7 (fun h7 => ?_) (fun h7 => ?_)
    · refine fr_iload_n (pc := 38) rfl dX5_shutCells_38 ?_
      exact fr_ireturn (pc := 39) rfl rfl rfl rfl dX5_shutCells_39
    · exact absurd (nI_le (a := 16) (b := g) (by omega) (by omega)) h7
  | succ n ih =>
    intro g a hn
    refine fr_iload_n (pc := 4) rfl dX5_shutCells_4 ?_
    refine fr_bipush (pc := 5) (v := 16) rfl dX5_shutCells_5 ?_
    refine fr_icmp_ge (pc := 7) 38 (by decide) dX5_shutCells_7 (fun h7 => ?_) (fun h7 => ?_)
    · exact absurd h7 (nI_ge (a := g) (b := 16) (by omega) (by omega))
    · refine fr_iload_n (pc := 10) rfl dX5_shutCells_10 ?_
      refine fr_aload_n (pc := 11) rfl dX5_shutCells_11 ?_
      refine fr_iload_n (pc := 12) rfl dX5_shutCells_12 ?_
      refine fr_aload_n (pc := 13) rfl dX5_shutCells_13 ?_
      refine fr_callV0 (pc := 14) (ci := 4) (T := TX5) (N := 20) [] [.int (nI g), .ref 42, .int a] (c_X5_measureNow (by assumption)) gc_X5_150 rfl rfl ⟨rfl, rfl, by decide, by decide⟩ (Nat.le_of_ble_eq_true rfl) rfl (by decide) y_42 ⟨by decide, by decide⟩ dX5_shutCells_14 ?_
      refine fr_callV0 (pc := 17) (ci := 4) (T := TX5) (N := 20) [.int (nI g), .int (s_meas r)] [.int a] (c_X5_wideAt (by first | assumption | omega)) gc_X5_103 rfl rfl ⟨rfl, rfl, by decide, by decide⟩ (Nat.le_of_ble_eq_true rfl) rfl (by decide) y_42 ⟨by decide, by decide⟩ dX5_shutCells_17 ?_
      refine fr_if_ne (pc := 20) 29 (by decide) dX5_shutCells_20 (fun h20 => ?_) (fun h20 => ?_)
      · refine fr_iconst (pc := 29) (v := 0) rfl dX5_shutCells_29 ?_
        refine fr_ior (pc := 30) dX5_shutCells_30 ?_
        refine fr_nm (fun x1_31 e_x1_31 => ?_)
        refine fr_istore_n (pc := 31) [(1, .int x1_31), (0, .ref 42), (2, .int (nI g))] (by decide) rfl dX5_shutCells_31 ?_
        refine fr_iinc (pc := 32) (v := nI (g + 1)) [(2, .int (nI (g + 1))), (1, .int x1_31), (0, .ref 42)] rfl (nI_1 g) (by decide) rfl dX5_shutCells_32 ?_
        refine fr_goto (pc := 35) 4 (by decide) dX5_shutCells_35 ?_
        rw [s_set, show (a ||| (if (fun c => decide (s_width r c (s_meas r) = 0)) g = true then 1 <<< (nI g &&& 31) else 0)) = x1_31 from by rw [e_x1_31]; rw [if_neg (by simpa using h20)]]
        exact fr_sub [2, 1, 0] rfl (ih (g + 1) x1_31 (by omega))
      · refine fr_iconst (pc := 23) (v := 1) rfl dX5_shutCells_23 ?_
        refine fr_iload_n (pc := 24) rfl dX5_shutCells_24 ?_
        refine fr_ishl (pc := 25) dX5_shutCells_25 ?_
        refine fr_goto (pc := 26) 30 (by decide) dX5_shutCells_26 ?_
        refine fr_ior (pc := 30) dX5_shutCells_30 ?_
        refine fr_nm (fun x1_31 e_x1_31 => ?_)
        refine fr_istore_n (pc := 31) [(1, .int x1_31), (0, .ref 42), (2, .int (nI g))] (by decide) rfl dX5_shutCells_31 ?_
        refine fr_iinc (pc := 32) (v := nI (g + 1)) [(2, .int (nI (g + 1))), (1, .int x1_31), (0, .ref 42)] rfl (nI_1 g) (by decide) rfl dX5_shutCells_32 ?_
        refine fr_goto (pc := 35) 4 (by decide) dX5_shutCells_35 ?_
        rw [s_set, show (a ||| (if (fun c => decide (s_width r c (s_meas r) = 0)) g = true then 1 <<< (nI g &&& 31) else 0)) = x1_31 from by rw [e_x1_31]; rw [if_pos (by simpa using h20)]]
        exact fr_sub [2, 1, 0] rfl (ih (g + 1) x1_31 (by omega))
set_option maxRecDepth 100000 in
theorem c_X5_shutCells {Γ : aG} {l : Launch} {M : Nat → aC} {r : rT} {kr ar : Nat → Int32} {ik : Int32} {fi b : Nat → Int32} {ln : Int32} {S : sT} {it mv : Nat → Int32} {Q : yQ} (w : wf r)  : Ev Γ l mX5_shutCells [.ref 42] 54 (yM M r kr ar ik fi b ln S it mv Q) (some (.int (s_set (fun c => decide (s_width r c (s_meas r) = 0)) (16) 0 0))) 54 (yM M r kr ar ik fi b ln S it mv Q) := by
  refine Ev.of [(0, .ref 42)] (by decide) (Nat.le_of_ble_eq_true rfl) rfl ?_
  refine fr_iconst (pc := 0) (v := 0) rfl dX5_shutCells_0 ?_
  refine fr_istore_n (pc := 1) [(1, .int 0), (0, .ref 42)] (by decide) rfl dX5_shutCells_1 ?_
  refine fr_iconst (pc := 2) (v := 0) rfl dX5_shutCells_2 ?_
  refine fr_istore_n (pc := 3) [(2, .int 0), (1, .int 0), (0, .ref 42)] (by decide) rfl dX5_shutCells_3 ?_
  exact fr_sub [2, 1, 0] rfl (yl_shutCells w (16) 0 0 (by omega))
theorem td_lt {k : Nat} (hk : k < 10) (h6 : ¬ nI k = 6) (h7 : ¬ nI k = 7) (h8 : ¬ nI k = 8) (h9 : ¬ nI k = 9) : k < 6 := by
  rcases Nat.lt_or_ge k 6 with q | q
  · exact q
  · rcases (show k = 6 ∨ k = 7 ∨ k = 8 ∨ k = 9 by omega) with rfl | rfl | rfl | rfl
    · exact absurd rfl h6
    · exact absurd rfl h7
    · exact absurd rfl h8
    · exact absurd rfl h9
theorem td_d {r : rT} {g k : Nat} (hk : k < 10) (h6 : ¬ nI k = 6) (h7 : ¬ nI k = 7) (h8 : ¬ nI k = 8) (h9 : ¬ nI k = 9) : r (2 + k) g = s_told r g (nI k) := by
  unfold s_told
  rw [if_neg h6, if_neg h7, if_neg h8, if_neg h9, nI_clamp (by omega)]
set_option maxRecDepth 100000 in
theorem c_X5_told {Γ : aG} {l : Launch} {M : Nat → aC} {r : rT} {kr ar : Nat → Int32} {ik : Int32} {fi b : Nat → Int32} {ln : Int32} {S : sT} {it mv : Nat → Int32} {Q : yQ} {g k : Nat} (hg : g < 8) (hk : k < 10)  : Ev Γ l mX5_told [.ref 42, .int (nI g), .int (nI k)] 54 (yM M r kr ar ik fi b ln S it mv Q) (some (.int (s_told r g (nI k)))) 54 (yM M r kr ar ik fi b ln S it mv Q) := by
  refine Ev.of [(0, .ref 42), (1, .int (nI g)), (2, .int (nI k))] (by decide) (Nat.le_of_ble_eq_true rfl) rfl ?_
  refine fr_iload_n (pc := 0) rfl dX5_told_0 ?_
  by_cases hk1_6 : (nI k) = 6
  · refine fr_tIn (pc := 1) 32 (by rw [hk1_6]; decide) (by rw [hk1_6]; decide) (by rw [hk1_6]; rfl) (by decide) dX5_told_1 ?_
    refine fr_aload_n (pc := 32) rfl dX5_told_32 ?_
    refine fr_iload_n (pc := 33) rfl dX5_told_33 ?_
    refine fr_callV0 (pc := 34) (ci := 4) (T := TX5) (N := 20) [.int (nI g)] [] (c_X5_needs (by first | assumption | omega)) gc_X5_119 rfl rfl ⟨rfl, rfl, by decide, by decide⟩ (Nat.le_of_ble_eq_true rfl) rfl (by decide) y_42 ⟨by decide, by decide⟩ dX5_told_34 ?_
    exact fr_ireturn (pc := 37) rfl (by unfold s_told; rw [if_pos hk1_6]) rfl rfl dX5_told_37
  by_cases hk1_7 : (nI k) = 7
  · refine fr_tIn (pc := 1) 38 (by rw [hk1_7]; decide) (by rw [hk1_7]; decide) (by rw [hk1_7]; rfl) (by decide) dX5_told_1 ?_
    refine fr_aload_n (pc := 38) rfl dX5_told_38 ?_
    refine fr_iload_n (pc := 39) rfl dX5_told_39 ?_
    refine fr_callV0 (pc := 40) (ci := 4) (T := TX5) (N := 20) [.int (nI g)] [] (c_X5_steps (by first | assumption | omega)) gc_X5_122 rfl rfl ⟨rfl, rfl, by decide, by decide⟩ (Nat.le_of_ble_eq_true rfl) rfl (by decide) y_42 ⟨by decide, by decide⟩ dX5_told_40 ?_
    exact fr_ireturn (pc := 43) rfl (by unfold s_told; rw [if_neg hk1_6, if_pos hk1_7]) rfl rfl dX5_told_43
  by_cases hk1_8 : (nI k) = 8
  · refine fr_tIn (pc := 1) 44 (by rw [hk1_8]; decide) (by rw [hk1_8]; decide) (by rw [hk1_8]; rfl) (by decide) dX5_told_1 ?_
    refine fr_aload_n (pc := 44) rfl dX5_told_44 ?_
    refine fr_iload_n (pc := 45) rfl dX5_told_45 ?_
    refine fr_callV0 (pc := 46) (ci := 4) (T := TX5) (N := 20) [.int (nI g)] [] (c_X5_laughs (by first | assumption | omega)) gc_X5_125 rfl rfl ⟨rfl, rfl, by decide, by decide⟩ (Nat.le_of_ble_eq_true rfl) rfl (by decide) y_42 ⟨by decide, by decide⟩ dX5_told_46 ?_
    exact fr_ireturn (pc := 49) rfl (by unfold s_told; rw [if_neg hk1_6, if_neg hk1_7, if_pos hk1_8]) rfl rfl dX5_told_49
  by_cases hk1_9 : (nI k) = 9
  · refine fr_tIn (pc := 1) 50 (by rw [hk1_9]; decide) (by rw [hk1_9]; decide) (by rw [hk1_9]; rfl) (by decide) dX5_told_1 ?_
    refine fr_aload_n (pc := 50) rfl dX5_told_50 ?_
    refine fr_iload_n (pc := 51) rfl dX5_told_51 ?_
    refine fr_callV0 (pc := 52) (ci := 4) (T := TX5) (N := 20) [.int (nI g)] [] (c_X5_laces (by first | assumption | omega)) gc_X5_128 rfl rfl ⟨rfl, rfl, by decide, by decide⟩ (Nat.le_of_ble_eq_true rfl) rfl (by decide) y_42 ⟨by decide, by decide⟩ dX5_told_52 ?_
    exact fr_ireturn (pc := 55) rfl (by unfold s_told; rw [if_neg hk1_6, if_neg hk1_7, if_neg hk1_8, if_pos hk1_9]) rfl rfl dX5_told_55
  refine fr_tOut (pc := 1) 56 (sw_6_9 hk1_6 hk1_7 hk1_8 hk1_9) (by decide) dX5_told_1 ?_
  have hk6 := td_lt hk hk1_6 hk1_7 hk1_8 hk1_9
  refine fr_aload_n (pc := 56) rfl dX5_told_56 ?_
  refine fr_iload_n (pc := 57) rfl dX5_told_57 ?_
  refine fr_iload_n (pc := 58) rfl dX5_told_58 ?_
  refine fr_callV0 (pc := 59) (ci := 4) (T := TX5) (N := 20) [.int (nI g), .int (nI k)] [] (c_X5_guestIs (k := k) (by first | assumption | omega) (by first | decide | assumption | omega)) gc_X5_116 rfl rfl ⟨rfl, rfl, by decide, by decide⟩ (Nat.le_of_ble_eq_true rfl) rfl (by decide) y_42 ⟨by decide, by decide⟩ dX5_told_59 ?_
  exact fr_ireturn (pc := 62) rfl (td_d hk hk1_6 hk1_7 hk1_8 hk1_9) rfl rfl dX5_told_62
theorem if_out {x : Int32} (h : wi x 0 5 = true) (h0 : ¬ x = 0) (h1 : ¬ x = 1) (h2 : ¬ x = 2) (h3 : ¬ x = 3) (h4 : ¬ x = 4) (h5 : ¬ x = 5) : False := by
  obtain ⟨j, hj, rfl⟩ := wi_nI (N := 5) h rfl
  rcases (show j = 0 ∨ j = 1 ∨ j = 2 ∨ j = 3 ∨ j = 4 ∨ j = 5 by omega) with rfl | rfl | rfl | rfl | rfl | rfl
  · exact h0 rfl
  · exact h1 rfl
  · exact h2 rfl
  · exact h3 rfl
  · exact h4 rfl
  · exact h5 rfl
set_option maxRecDepth 100000 in
theorem c_X5_isField {Γ : aG} {l : Launch} {M : Nat → aC} {x v : Int32} : Ev Γ l mX5_isField [.int x, .int v] 54 M (some (.int (bI (wi x 0 5 = true ∧ wi v (sL x) (sU x) = true)))) 54 M := by
  refine Ev.of [(0, .int x), (1, .int v)] (by decide) (Nat.le_of_ble_eq_true rfl) rfl ?_
  refine fr_iload_n (pc := 0) rfl dX5_isField_0 ?_
  by_cases hk1_0 : x = 0
  · refine fr_tIn (pc := 1) 40 (by rw [hk1_0]; decide) (by rw [hk1_0]; decide) (by rw [hk1_0]; rfl) (by decide) dX5_isField_1 ?_
    refine fr_iload_n (pc := 40) rfl dX5_isField_40 ?_
    refine fr_callS0 (pc := 41) [.int v] [] (c_X5_isKind) gc_X5_109 rfl rfl ⟨rfl, rfl, by decide, by decide⟩ (Nat.le_of_ble_eq_true rfl) ⟨by decide, by decide⟩ dX5_isField_41 ?_
    exact fr_ireturn (pc := 44) rfl (by rw [hk1_0]; exact bI_c ⟨fun h => ⟨by decide, h⟩, fun h => h.2⟩) rfl bI_nar dX5_isField_44
  by_cases hk1_1 : x = 1
  · refine fr_tIn (pc := 1) 45 (by rw [hk1_1]; decide) (by rw [hk1_1]; decide) (by rw [hk1_1]; rfl) (by decide) dX5_isField_1 ?_
    refine fr_iload_n (pc := 45) rfl dX5_isField_45 ?_
    refine fr_callS0 (pc := 46) [.int v] [] (c_X5_isCell) gc_X5_82 rfl rfl ⟨rfl, rfl, by decide, by decide⟩ (Nat.le_of_ble_eq_true rfl) ⟨by decide, by decide⟩ dX5_isField_46 ?_
    exact fr_ireturn (pc := 49) rfl (by rw [hk1_1]; exact bI_c ⟨fun h => ⟨by decide, h⟩, fun h => h.2⟩) rfl bI_nar dX5_isField_49
  by_cases hk1_2 : x = 2
  · refine fr_tIn (pc := 1) 50 (by rw [hk1_2]; decide) (by rw [hk1_2]; decide) (by rw [hk1_2]; rfl) (by decide) dX5_isField_1 ?_
    refine fr_iload_n (pc := 50) rfl dX5_isField_50 ?_
    refine fr_iconst (pc := 51) (v := 1) rfl dX5_isField_51 ?_
    refine fr_bipush (pc := 52) (v := 40) rfl dX5_isField_52 ?_
    refine fr_callS0 (pc := 54) [.int v, .int 1, .int 40] [] (c_X5_within) gc_X5_70 rfl rfl ⟨rfl, rfl, by decide, by decide⟩ (Nat.le_of_ble_eq_true rfl) ⟨by decide, by decide⟩ dX5_isField_54 ?_
    exact fr_ireturn (pc := 57) rfl (by rw [hk1_2]; exact bI_c ⟨fun h => ⟨by decide, h⟩, fun h => h.2⟩) rfl bI_nar dX5_isField_57
  by_cases hk1_3 : x = 3
  · refine fr_tIn (pc := 1) 45 (by rw [hk1_3]; decide) (by rw [hk1_3]; decide) (by rw [hk1_3]; rfl) (by decide) dX5_isField_1 ?_
    refine fr_iload_n (pc := 45) rfl dX5_isField_45 ?_
    refine fr_callS0 (pc := 46) [.int v] [] (c_X5_isCell) gc_X5_82 rfl rfl ⟨rfl, rfl, by decide, by decide⟩ (Nat.le_of_ble_eq_true rfl) ⟨by decide, by decide⟩ dX5_isField_46 ?_
    exact fr_ireturn (pc := 49) rfl (by rw [hk1_3]; exact bI_c ⟨fun h => ⟨by decide, h⟩, fun h => h.2⟩) rfl bI_nar dX5_isField_49
  by_cases hk1_4 : x = 4
  · refine fr_tIn (pc := 1) 58 (by rw [hk1_4]; decide) (by rw [hk1_4]; decide) (by rw [hk1_4]; rfl) (by decide) dX5_isField_1 ?_
    refine fr_iload_n (pc := 58) rfl dX5_isField_58 ?_
    refine fr_callS0 (pc := 59) [.int v] [] (c_X5_isOften) gc_X5_74 rfl rfl ⟨rfl, rfl, by decide, by decide⟩ (Nat.le_of_ble_eq_true rfl) ⟨by decide, by decide⟩ dX5_isField_59 ?_
    exact fr_ireturn (pc := 62) rfl (by rw [hk1_4]; exact bI_c ⟨fun h => ⟨by decide, h⟩, fun h => h.2⟩) rfl bI_nar dX5_isField_62
  by_cases hk1_5 : x = 5
  · refine fr_tIn (pc := 1) 63 (by rw [hk1_5]; decide) (by rw [hk1_5]; decide) (by rw [hk1_5]; rfl) (by decide) dX5_isField_1 ?_
    refine fr_iload_n (pc := 63) rfl dX5_isField_63 ?_
    refine fr_iconst (pc := 64) (v := 0) rfl dX5_isField_64 ?_
    refine fr_iconst (pc := 65) (v := 1) rfl dX5_isField_65 ?_
    refine fr_callS0 (pc := 66) [.int v, .int 0, .int 1] [] (c_X5_within) gc_X5_70 rfl rfl ⟨rfl, rfl, by decide, by decide⟩ (Nat.le_of_ble_eq_true rfl) ⟨by decide, by decide⟩ dX5_isField_66 ?_
    exact fr_ireturn (pc := 69) rfl (by rw [hk1_5]; exact bI_c ⟨fun h => ⟨by decide, h⟩, fun h => h.2⟩) rfl bI_nar dX5_isField_69
  refine fr_tOut (pc := 1) 70 (sw_0_5 hk1_0 hk1_1 hk1_2 hk1_3 hk1_4 hk1_5) (by decide) dX5_isField_1 ?_
  refine fr_iconst (pc := 70) (v := 0) rfl dX5_isField_70 ?_
  exact fr_ireturn (pc := 71) rfl (bI_f (fun h => if_out h.1 hk1_0 hk1_1 hk1_2 hk1_3 hk1_4 hk1_5)).symm rfl rfl dX5_isField_71
