set_option maxRecDepth 100000 in
theorem yk_loop {Γ : aG} {l : Launch} {M : Nat → aC} {r : rT} {kr : Nat → Int32} {ik : Int32} {fi b : Nat → Int32} {ln : Int32} {S : sT} {it mv : Nat → Int32} {Q : yQ} {g n : Nat} (hg : g < 8) (hn : n < 1000) (w : wf r) : ∀ (j k : Nat) (best least v : Int32) (ar : Nat → Int32), k + j = 7 → ∃ ar' : Nat → Int32, Fr Γ l mX5_kindFor 47 [(0, .ref 42), (1, .int (nI g)), (2, .int (nI n)), (3, .int (nI (38 + 6 * g + 0))), (4, .int (r 2 g)), (5, .int best), (6, .int least), (7, .int (nI k))] [] 54 0 0 (yM M (u2 r 2 g v) kr ar ik fi b ln S it mv Q) (some (.int (s_kf r g n j k best least))) 54 (yM M r kr ar' ik fi b ln S it mv Q) := by
  intro j
  induction j with
  | zero =>
    intro k best least v ar hk
    refine ⟨ar, ?_⟩
    refine fr_iload (pc := 47) rfl dX5_kindFor_47 ?_
    refine fr_bipush (pc := 49) (v := 6) rfl dX5_kindFor_49 ?_
    refine fr_icmp_gt (pc := 51) 91 (by decide) dX5_kindFor_51 (fun h51 => ?_) (fun h51 => ?_)
    · refine fr_aload_n (pc := 91) rfl dX5_kindFor_91 ?_
      refine fr_get (pc := 92) (ci := 4) (T := TX5) (k0 := 0) rfl hin_X5 (by decide) fl_X5_9 (by decide) y_42 rfl dX5_kindFor_92 ?_
      refine fr_iload_n (pc := 95) rfl dX5_kindFor_95 ?_
      refine fr_iload (pc := 96) rfl dX5_kindFor_96 ?_
      refine fr_iast (pc := 98) (38 + 6 * g + 0) rfl (by decide) y_43 (by first | assumption | omega) (by decide) dX5_kindFor_98 ?_
      refine fr_mem (y_u43 (ph_g (k := 0) (by first | decide | assumption | omega))) ?_
      refine fr_mem (M1 := (yM M r kr ar ik fi b ln S it mv Q)) (by rw [u2_u2, u2_self rfl]) ?_
      refine fr_iload (pc := 99) rfl dX5_kindFor_99 ?_
      exact fr_ireturn (pc := 101) rfl rfl rfl rfl dX5_kindFor_101
    · exact absurd (nI_lt (a := 6) (b := k) (by omega) (by omega)) h51
  | succ j ih =>
    intro k best least v ar hk
    have w1 : wf (u2 r 2 g (nI k)) := wf_u w (fun z => by omega) (fun z => okv_nI (by omega) (by decide)) (fun z => by omega) (fun z => by omega) (fun z => by omega) (by decide)
    by_cases hs : s_hours n (u2 r 2 g (nI k)) 9 4 < least
    · rw [show s_kf r g n (j + 1) k best least = s_kf r g n j (k + 1) (nI k) (s_hours n (u2 r 2 g (nI k)) 9 4) from if_pos hs]
      obtain ⟨ar', ht⟩ := ih (k + 1) (nI k) (s_hours n (u2 r 2 g (nI k)) 9 4) (nI k) (row (u2 r 2 g (nI k))) (by omega)
      refine ⟨ar', ?_⟩
      refine fr_iload (pc := 47) rfl dX5_kindFor_47 ?_
      refine fr_bipush (pc := 49) (v := 6) rfl dX5_kindFor_49 ?_
      refine fr_icmp_gt (pc := 51) 91 (by decide) dX5_kindFor_51 (fun h51 => ?_) (fun h51 => ?_)
      · exact absurd h51 (nI_nlt (a := 6) (b := k) (by omega) (by omega))
      · refine fr_aload_n (pc := 54) rfl dX5_kindFor_54 ?_
        refine fr_get (pc := 55) (ci := 4) (T := TX5) (k0 := 0) rfl hin_X5 (by decide) fl_X5_9 (by decide) y_42 rfl dX5_kindFor_55 ?_
        refine fr_iload_n (pc := 58) rfl dX5_kindFor_58 ?_
        refine fr_iload (pc := 59) rfl dX5_kindFor_59 ?_
        refine fr_iast (pc := 61) (38 + 6 * g + 0) rfl (by decide) y_43 (by first | assumption | omega) (by decide) dX5_kindFor_61 ?_
        refine fr_mem (y_u43 (ph_g (k := 0) (by first | decide | assumption | omega))) ?_
        refine fr_mem (M1 := (yM M (u2 r 2 g (nI k)) kr ar ik fi b ln S it mv Q)) (by rw [u2_u2]) ?_
        refine fr_aload_n (pc := 62) rfl dX5_kindFor_62 ?_
        refine fr_iconst (pc := 63) (v := 4) rfl dX5_kindFor_63 ?_
        refine fr_iload_n (pc := 64) rfl dX5_kindFor_64 ?_
        refine fr_callV0 (pc := 65) (ci := 4) (T := TX5) (N := 20) [.int 4, .int (nI n)] [] (c_X5_behind (ph_l (by decide)) (by first | decide | omega) (by assumption) (by omega)) gc_X5_184 rfl rfl ⟨rfl, rfl, by decide, by decide⟩ (Nat.le_of_ble_eq_true rfl) rfl (by decide) y_42 ⟨by decide, by decide⟩ dX5_kindFor_65 ?_
        refine fr_nm (fun x8_68 e_x8_68 => ?_)
        refine fr_istore (pc := 68) [(8, .int x8_68), (0, .ref 42), (1, .int (nI g)), (2, .int (nI n)), (3, .int (nI (38 + 6 * g + 0))), (4, .int (r 2 g)), (5, .int best), (6, .int least), (7, .int (nI k))] (by decide) rfl dX5_kindFor_68 ?_
        subst e_x8_68
        refine fr_iload (pc := 70) rfl dX5_kindFor_70 ?_
        refine fr_iload (pc := 72) rfl dX5_kindFor_72 ?_
        refine fr_icmp_ge (pc := 74) 85 (by decide) dX5_kindFor_74 (fun h74 => ?_) (fun h74 => ?_)
        · exact absurd hs (Int32.not_lt.mpr h74)
        · refine fr_iload (pc := 77) rfl dX5_kindFor_77 ?_
          refine fr_istore (pc := 79) [(5, .int (nI k)), (8, .int (s_hours n (u2 r 2 g (nI k)) 9 4)), (0, .ref 42), (1, .int (nI g)), (2, .int (nI n)), (3, .int (nI (38 + 6 * g + 0))), (4, .int (r 2 g)), (6, .int least), (7, .int (nI k))] (by decide) rfl dX5_kindFor_79 ?_
          refine fr_iload (pc := 81) rfl dX5_kindFor_81 ?_
          refine fr_nm (fun x6_83 e_x6_83 => ?_)
          refine fr_istore (pc := 83) [(6, .int x6_83), (5, .int (nI k)), (8, .int (s_hours n (u2 r 2 g (nI k)) 9 4)), (0, .ref 42), (1, .int (nI g)), (2, .int (nI n)), (3, .int (nI (38 + 6 * g + 0))), (4, .int (r 2 g)), (7, .int (nI k))] (by decide) rfl dX5_kindFor_83 ?_
          refine fr_iinc (pc := 85) (v := nI (k + 1)) [(7, .int (nI (k + 1))), (6, .int x6_83), (5, .int (nI k)), (8, .int (s_hours n (u2 r 2 g (nI k)) 9 4)), (0, .ref 42), (1, .int (nI g)), (2, .int (nI n)), (3, .int (nI (38 + 6 * g + 0))), (4, .int (r 2 g))] rfl (nI_1 k) (by decide) rfl dX5_kindFor_85 ?_
          refine fr_goto (pc := 88) 47 (by decide) dX5_kindFor_88 ?_
          subst e_x6_83
          exact fr_sub [4, 5, 6, 7, 8, 2, 1, 0] rfl (ht)
    · rw [show s_kf r g n (j + 1) k best least = s_kf r g n j (k + 1) best least from if_neg hs]
      obtain ⟨ar', ht⟩ := ih (k + 1) best least (nI k) (row (u2 r 2 g (nI k))) (by omega)
      refine ⟨ar', ?_⟩
      refine fr_iload (pc := 47) rfl dX5_kindFor_47 ?_
      refine fr_bipush (pc := 49) (v := 6) rfl dX5_kindFor_49 ?_
      refine fr_icmp_gt (pc := 51) 91 (by decide) dX5_kindFor_51 (fun h51 => ?_) (fun h51 => ?_)
      · exact absurd h51 (nI_nlt (a := 6) (b := k) (by omega) (by omega))
      · refine fr_aload_n (pc := 54) rfl dX5_kindFor_54 ?_
        refine fr_get (pc := 55) (ci := 4) (T := TX5) (k0 := 0) rfl hin_X5 (by decide) fl_X5_9 (by decide) y_42 rfl dX5_kindFor_55 ?_
        refine fr_iload_n (pc := 58) rfl dX5_kindFor_58 ?_
        refine fr_iload (pc := 59) rfl dX5_kindFor_59 ?_
        refine fr_iast (pc := 61) (38 + 6 * g + 0) rfl (by decide) y_43 (by first | assumption | omega) (by decide) dX5_kindFor_61 ?_
        refine fr_mem (y_u43 (ph_g (k := 0) (by first | decide | assumption | omega))) ?_
        refine fr_mem (M1 := (yM M (u2 r 2 g (nI k)) kr ar ik fi b ln S it mv Q)) (by rw [u2_u2]) ?_
        refine fr_aload_n (pc := 62) rfl dX5_kindFor_62 ?_
        refine fr_iconst (pc := 63) (v := 4) rfl dX5_kindFor_63 ?_
        refine fr_iload_n (pc := 64) rfl dX5_kindFor_64 ?_
        refine fr_callV0 (pc := 65) (ci := 4) (T := TX5) (N := 20) [.int 4, .int (nI n)] [] (c_X5_behind (ph_l (by decide)) (by first | decide | omega) (by assumption) (by omega)) gc_X5_184 rfl rfl ⟨rfl, rfl, by decide, by decide⟩ (Nat.le_of_ble_eq_true rfl) rfl (by decide) y_42 ⟨by decide, by decide⟩ dX5_kindFor_65 ?_
        refine fr_nm (fun x8_68 e_x8_68 => ?_)
        refine fr_istore (pc := 68) [(8, .int x8_68), (0, .ref 42), (1, .int (nI g)), (2, .int (nI n)), (3, .int (nI (38 + 6 * g + 0))), (4, .int (r 2 g)), (5, .int best), (6, .int least), (7, .int (nI k))] (by decide) rfl dX5_kindFor_68 ?_
        subst e_x8_68
        refine fr_iload (pc := 70) rfl dX5_kindFor_70 ?_
        refine fr_iload (pc := 72) rfl dX5_kindFor_72 ?_
        refine fr_icmp_ge (pc := 74) 85 (by decide) dX5_kindFor_74 (fun h74 => ?_) (fun h74 => ?_)
        · refine fr_iinc (pc := 85) (v := nI (k + 1)) [(7, .int (nI (k + 1))), (8, .int (s_hours n (u2 r 2 g (nI k)) 9 4)), (0, .ref 42), (1, .int (nI g)), (2, .int (nI n)), (3, .int (nI (38 + 6 * g + 0))), (4, .int (r 2 g)), (5, .int best), (6, .int least)] rfl (nI_1 k) (by decide) rfl dX5_kindFor_85 ?_
          refine fr_goto (pc := 88) 47 (by decide) dX5_kindFor_88 ?_
          exact fr_sub [2, 3, 4, 5, 6, 7, 8, 0] rfl (ht)
        · exact absurd (Int32.not_le.mp h74) hs
set_option maxRecDepth 100000 in
theorem y_kindFor {Γ : aG} {l : Launch} {M : Nat → aC} {r : rT} {kr ar : Nat → Int32} {rk : rT} {ik : Int32} {fi b : Nat → Int32} {ln : Int32} {S : sT} {it mv : Nat → Int32} {Q : yQ} {g n : Int32} (w : wf r) : ∃ ar' : Nat → Int32, Ev Γ l mX5_kindFor [.ref 42, .int g, .int n] 54 (yM M r kr ar ik fi b ln S it mv Q) (some (.int (sp_kindFor (r, rk, ik, S, b, ln, fi) g n).1)) 54 (yF M kr ar' it mv Q (sp_kindFor (r, rk, ik, S, b, ln, fi) g n).2) := by
  by_cases hc : sG (r, rk, ik, S, b, ln, fi) g = true ∧ wi n 0 60 = true
  · obtain ⟨i1, hi1, rfl⟩ := sG_nI w hc.1
    have ei1 : (nI i1).toNatClampNeg = i1 := nI_clamp (by have := w.ctl; omega)
    have li1 : i1 < 8 := by have := w.ctl; omega
    obtain ⟨i2, hi2, rfl⟩ := wi_nI (N := 60) hc.2 rfl
    have ei2 : (nI i2).toNatClampNeg = i2 := nI_clamp (by omega)
    rw [show sp_kindFor (r, rk, ik, S, b, ln, fi) (nI i1) (nI i2) = (s_kf r i1 i2 7 0 0 10000, (r, rk, ik, S, b, ln, fi)) from by unfold sp_kindFor; rw [if_pos hc, ei1, ei2]]
    obtain ⟨ar', ht⟩ := yk_loop (Γ := Γ) (l := l) (M := M) (kr := kr) (ik := ik) (fi := fi) (b := b) (ln := ln) (S := S) (it := it) (mv := mv) (Q := Q) (g := i1) (n := i2) li1 (by omega) w 7 0 0 10000 (r 2 i1) ar rfl
    refine ⟨ar', ?_⟩
    refine Ev.of [(0, .ref 42), (1, .int (nI i1)), (2, .int (nI i2))] (by decide) (Nat.le_of_ble_eq_true rfl) rfl ?_
    refine fr_aload_n (pc := 0) rfl dX5_kindFor_0 ?_
    refine fr_iload_n (pc := 1) rfl dX5_kindFor_1 ?_
    refine fr_callV0 (pc := 2) (ci := 4) (T := TX5) (N := 20) [.int (nI i1)] [] (c_X5_isGuest ) gc_X5_131 rfl rfl ⟨rfl, rfl, by decide, by decide⟩ (Nat.le_of_ble_eq_true rfl) rfl (by decide) y_42 ⟨by decide, by decide⟩ dX5_kindFor_2 ?_
    refine fr_if_eq (pc := 5) 15 (by decide) dX5_kindFor_5 (fun h5 => ?_) (fun h5 => ?_)
    · have g5 := bI_0.mp h5
      exact absurd hc.1 g5
    · have g5 := bI_n0 h5
      refine fr_iload_n (pc := 8) rfl dX5_kindFor_8 ?_
      refine fr_callS0 (pc := 9) [.int (nI i2)] [] (c_X5_isThought) gc_X5_194 rfl rfl ⟨rfl, rfl, by decide, by decide⟩ (Nat.le_of_ble_eq_true rfl) ⟨by decide, by decide⟩ dX5_kindFor_9 ?_
      refine fr_if_ne (pc := 12) 22 (by decide) dX5_kindFor_12 (fun h12 => ?_) (fun h12 => ?_)
      · have g12 := bI_n0 h12
        refine fr_iload_n (pc := 22) rfl dX5_kindFor_22 ?_
        refine fr_iconst (pc := 23) (v := 0) rfl dX5_kindFor_23 ?_
        refine fr_callS0 (pc := 24) [.int (nI i1), .int 0] [] (c_X5_guestAt (g := i1) (k := 0)) gc_X5_106 rfl rfl ⟨rfl, rfl, by decide, by decide⟩ (Nat.le_of_ble_eq_true rfl) ⟨by decide, by decide⟩ dX5_kindFor_24 ?_
        refine fr_istore_n (pc := 27) [(3, .int (nI (38 + 6 * i1 + 0))), (0, .ref 42), (1, .int (nI i1)), (2, .int (nI i2))] (by decide) rfl dX5_kindFor_27 ?_
        refine fr_aload_n (pc := 28) rfl dX5_kindFor_28 ?_
        refine fr_get (pc := 29) (ci := 4) (T := TX5) (k0 := 0) rfl hin_X5 (by decide) fl_X5_9 (by decide) y_42 rfl dX5_kindFor_29 ?_
        refine fr_iload_n (pc := 32) rfl dX5_kindFor_32 ?_
        refine fr_iald (pc := 33) (38 + 6 * i1 + 0) rfl (by decide) y_43 (by first | assumption | omega) (by decide) dX5_kindFor_33 ?_
        refine fr_eq (z := r 2 i1) (row_at (ph_g (k := 0) (by first | decide | assumption | omega))) ?_
        refine fr_nm (fun x4_34 e_x4_34 => ?_)
        refine fr_istore (pc := 34) [(4, .int x4_34), (3, .int (nI (38 + 6 * i1 + 0))), (0, .ref 42), (1, .int (nI i1)), (2, .int (nI i2))] (by decide) rfl dX5_kindFor_34 ?_
        refine fr_iconst (pc := 36) (v := 0) rfl dX5_kindFor_36 ?_
        refine fr_istore (pc := 37) [(5, .int 0), (4, .int x4_34), (3, .int (nI (38 + 6 * i1 + 0))), (0, .ref 42), (1, .int (nI i1)), (2, .int (nI i2))] (by decide) rfl dX5_kindFor_37 ?_
        refine fr_sipush (pc := 39) (v := 10000) rfl dX5_kindFor_39 ?_
        refine fr_istore (pc := 42) [(6, .int 10000), (5, .int 0), (4, .int x4_34), (3, .int (nI (38 + 6 * i1 + 0))), (0, .ref 42), (1, .int (nI i1)), (2, .int (nI i2))] (by decide) rfl dX5_kindFor_42 ?_
        refine fr_iconst (pc := 44) (v := 0) rfl dX5_kindFor_44 ?_
        refine fr_istore (pc := 45) [(7, .int 0), (6, .int 10000), (5, .int 0), (4, .int x4_34), (3, .int (nI (38 + 6 * i1 + 0))), (0, .ref 42), (1, .int (nI i1)), (2, .int (nI i2))] (by decide) rfl dX5_kindFor_45 ?_
        refine fr_mem (M1 := (yM M (u2 r 2 i1 (r 2 i1)) kr ar ik fi b ln S it mv Q)) (by rw [u2_self rfl]) ?_
        subst e_x4_34
        exact fr_sub [5, 6, 7, 4, 3, 2, 1, 0] rfl (ht)
      · have g12 := bI_0.mp h12
        exact absurd hc.2 g12
  · rw [show sp_kindFor (r, rk, ik, S, b, ln, fi) g n = fb (r, rk, ik, S, b, ln, fi) 0 from if_neg hc]
    refine ⟨ar, ?_⟩
    refine Ev.of [(0, .ref 42), (1, .int g), (2, .int n)] (by decide) (Nat.le_of_ble_eq_true rfl) rfl ?_
    refine fr_aload_n (pc := 0) rfl dX5_kindFor_0 ?_
    refine fr_iload_n (pc := 1) rfl dX5_kindFor_1 ?_
    refine fr_callV0 (pc := 2) (ci := 4) (T := TX5) (N := 20) [.int g] [] (c_X5_isGuest ) gc_X5_131 rfl rfl ⟨rfl, rfl, by decide, by decide⟩ (Nat.le_of_ble_eq_true rfl) rfl (by decide) y_42 ⟨by decide, by decide⟩ dX5_kindFor_2 ?_
    refine fr_if_eq (pc := 5) 15 (by decide) dX5_kindFor_5 (fun h5 => ?_) (fun h5 => ?_)
    · have g5 := bI_0.mp h5
      refine fr_aload_n (pc := 15) rfl dX5_kindFor_15 ?_
      refine fr_ldc (pc := 16) kc_X5_60 dX5_kindFor_16 ?_
      refine fr_callV0 (pc := 18) (ci := 4) (T := TX5) (N := 20) [.int (-1000001)] [] (c_fnd0) gc_X5_66 rfl rfl ⟨rfl, rfl, by decide, by decide⟩ (Nat.le_of_ble_eq_true rfl) rfl (by decide) y_42 ⟨by decide, by decide⟩ dX5_kindFor_18 ?_
      exact fr_ireturn (pc := 21) rfl rfl rfl rfl dX5_kindFor_21
    · have g5 := bI_n0 h5
      refine fr_iload_n (pc := 8) rfl dX5_kindFor_8 ?_
      refine fr_callS0 (pc := 9) [.int n] [] (c_X5_isThought) gc_X5_194 rfl rfl ⟨rfl, rfl, by decide, by decide⟩ (Nat.le_of_ble_eq_true rfl) ⟨by decide, by decide⟩ dX5_kindFor_9 ?_
      refine fr_if_ne (pc := 12) 22 (by decide) dX5_kindFor_12 (fun h12 => ?_) (fun h12 => ?_)
      · have g12 := bI_n0 h12
        exact absurd ⟨g5, g12⟩ hc
      · have g12 := bI_0.mp h12
        refine fr_aload_n (pc := 15) rfl dX5_kindFor_15 ?_
        refine fr_ldc (pc := 16) kc_X5_60 dX5_kindFor_16 ?_
        refine fr_callV0 (pc := 18) (ci := 4) (T := TX5) (N := 20) [.int (-1000001)] [] (c_fnd0) gc_X5_66 rfl rfl ⟨rfl, rfl, by decide, by decide⟩ (Nat.le_of_ble_eq_true rfl) rfl (by decide) y_42 ⟨by decide, by decide⟩ dX5_kindFor_18 ?_
        exact fr_ireturn (pc := 21) rfl rfl rfl rfl dX5_kindFor_21
set_option maxRecDepth 100000 in
theorem yz_loop {Γ : aG} {l : Launch} {M : Nat → aC} {r : rT} {kr : Nat → Int32} {rk : rT} {ik : Int32} {fi b : Nat → Int32} {ln : Int32} {S : sT} {it mv : Nat → Int32} {Q : yQ} {g n : Nat} (hg : g < 8) (hn : n < 1000) (w : wf r) : ∀ (j k : Nat) (v : Int32) (ar : Nat → Int32), k + j = 40 → ∃ ar' : Nat → Int32, Fr Γ l mX5_sizeFor 42 [(0, .ref 42), (1, .int (nI g)), (2, .int (nI n)), (3, .int (nI (38 + 6 * g + 2))), (4, .int (r 4 g)), (5, .int (s_firstD (q_sz r g n) k)), (6, .int (nI (k + 1)))] [] 54 0 0 (yM M (u2 r 4 g v) kr ar ik fi b ln S it mv Q) (some (.int (orN (r, rk, ik, S, b, ln, fi) (s_firstD (q_sz r g n) 40)).1)) 54 (yF M kr ar' it mv Q (orN (r, rk, ik, S, b, ln, fi) (s_firstD (q_sz r g n) 40)).2) := by
  intro j
  induction j with
  | zero =>
    intro k v ar hk
    refine ⟨ar, ?_⟩
    rw [show k = 40 by omega]
    refine fr_iload (pc := 42) rfl dX5_sizeFor_42 ?_
    refine fr_bipush (pc := 44) (v := 40) rfl dX5_sizeFor_44 ?_
    refine fr_icmp_gt (pc := 46) 91 (by decide) dX5_sizeFor_46 (fun h46 => ?_) (fun h46 => ?_)
    · refine fr_aload_n (pc := 91) rfl dX5_sizeFor_91 ?_
      refine fr_get (pc := 92) (ci := 4) (T := TX5) (k0 := 0) rfl hin_X5 (by decide) fl_X5_9 (by decide) y_42 rfl dX5_sizeFor_92 ?_
      refine fr_iload_n (pc := 95) rfl dX5_sizeFor_95 ?_
      refine fr_iload (pc := 96) rfl dX5_sizeFor_96 ?_
      refine fr_iast (pc := 98) (38 + 6 * g + 2) rfl (by decide) y_43 (by first | assumption | omega) (by decide) dX5_sizeFor_98 ?_
      refine fr_mem (y_u43 (ph_g (k := 2) (by first | decide | assumption | omega))) ?_
      refine fr_mem (M1 := (yM M r kr ar ik fi b ln S it mv Q)) (by rw [u2_u2, u2_self rfl]) ?_
      refine fr_aload_n (pc := 99) rfl dX5_sizeFor_99 ?_
      refine fr_iload (pc := 100) rfl dX5_sizeFor_100 ?_
      refine fr_callV0 (pc := 102) (ci := 4) (T := TX5) (N := 20) [.int (s_firstD (q_sz r g n) 40)] [] (c_X5_orNone (rk := rk)) gc_X5_191 rfl rfl ⟨rfl, rfl, by decide, by decide⟩ (Nat.le_of_ble_eq_true rfl) rfl (by decide) y_42 ⟨by decide, by decide⟩ dX5_sizeFor_102 ?_
      exact fr_ireturn (pc := 105) rfl rfl rfl rfl dX5_sizeFor_105
    · exact absurd (by decide) h46
  | succ j ih =>
    intro k v ar hk
    have w1 : wf (u2 r 4 g (nI (k + 1))) := wf_u w (fun z => by omega) (fun z => by omega) (fun z => by omega) (fun z => by omega) (fun z => by omega) (by decide)
    have hq : q_sz r g n (k + 1) = true ↔ s_hours n (u2 r 4 g (nI (k + 1))) 3 g = u2 r 4 g (nI (k + 1)) 5 g := by
      unfold q_sz
      rw [decide_eq_true_eq, hours_5]
    obtain ⟨ar', ht⟩ := ih (k + 1) (nI (k + 1)) (row (u2 r 4 g (nI (k + 1)))) (by omega)
    refine ⟨ar', ?_⟩
    refine fr_iload (pc := 42) rfl dX5_sizeFor_42 ?_
    refine fr_bipush (pc := 44) (v := 40) rfl dX5_sizeFor_44 ?_
    refine fr_icmp_gt (pc := 46) 91 (by decide) dX5_sizeFor_46 (fun h46 => ?_) (fun h46 => ?_)
    · exact absurd h46 (nI_nlt (a := 40) (b := k + 1) (by omega) (by omega))
    · refine fr_aload_n (pc := 49) rfl dX5_sizeFor_49 ?_
      refine fr_get (pc := 50) (ci := 4) (T := TX5) (k0 := 0) rfl hin_X5 (by decide) fl_X5_9 (by decide) y_42 rfl dX5_sizeFor_50 ?_
      refine fr_iload_n (pc := 53) rfl dX5_sizeFor_53 ?_
      refine fr_iload (pc := 54) rfl dX5_sizeFor_54 ?_
      refine fr_iast (pc := 56) (38 + 6 * g + 2) rfl (by decide) y_43 (by first | assumption | omega) (by decide) dX5_sizeFor_56 ?_
      refine fr_mem (y_u43 (ph_g (k := 2) (by first | decide | assumption | omega))) ?_
      refine fr_mem (M1 := (yM M (u2 r 4 g (nI (k + 1))) kr ar ik fi b ln S it mv Q)) (by rw [u2_u2]) ?_
      refine fr_aload_n (pc := 57) rfl dX5_sizeFor_57 ?_
      refine fr_iload_n (pc := 58) rfl dX5_sizeFor_58 ?_
      refine fr_iconst (pc := 59) (v := 1) rfl dX5_sizeFor_59 ?_
      refine fr_callS0 (pc := 60) [.int (nI g), .int 1] [.ref 42] (c_X5_guestAt (g := g) (k := 1)) gc_X5_106 rfl rfl ⟨rfl, rfl, by decide, by decide⟩ (Nat.le_of_ble_eq_true rfl) ⟨by decide, by decide⟩ dX5_sizeFor_60 ?_
      refine fr_iload_n (pc := 63) rfl dX5_sizeFor_63 ?_
      refine fr_callV0 (pc := 64) (ci := 4) (T := TX5) (N := 20) [.int (nI (38 + 6 * g + 1)), .int (nI n)] [] (c_X5_behind (ph_g (k := 1) (by first | decide | assumption | omega)) (by first | decide | omega) (by assumption) (by omega)) gc_X5_184 rfl rfl ⟨rfl, rfl, by decide, by decide⟩ (Nat.le_of_ble_eq_true rfl) rfl (by decide) y_42 ⟨by decide, by decide⟩ dX5_sizeFor_64 ?_
      refine fr_aload_n (pc := 67) rfl dX5_sizeFor_67 ?_
      refine fr_iload_n (pc := 68) rfl dX5_sizeFor_68 ?_
      refine fr_iconst (pc := 69) (v := 3) rfl dX5_sizeFor_69 ?_
      refine fr_callV0 (pc := 70) (ci := 4) (T := TX5) (N := 20) [.int (nI g), .int 3] [.int (s_hours n (u2 r 4 g (nI (k + 1))) 3 g)] (c_X5_guestIs (k := 3) (by first | assumption | omega) (by first | decide | assumption | omega)) gc_X5_116 rfl rfl ⟨rfl, rfl, by decide, by decide⟩ (Nat.le_of_ble_eq_true rfl) rfl (by decide) y_42 ⟨by decide, by decide⟩ dX5_sizeFor_70 ?_
      refine fr_icmp_ne (pc := 73) 81 (by decide) dX5_sizeFor_73 (fun h73 => ?_) (fun h73 => ?_)
      · refine fr_iload (pc := 81) rfl dX5_sizeFor_81 ?_
        refine fr_eq (z := (s_firstD (q_sz r g n) (k + 1))) (if_neg (fun z => h73 (hq.mp z))).symm ?_
        refine fr_nm (fun x5_83 e_x5_83 => ?_)
        refine fr_istore (pc := 83) [(5, .int x5_83), (0, .ref 42), (1, .int (nI g)), (2, .int (nI n)), (3, .int (nI (38 + 6 * g + 2))), (4, .int (r 4 g)), (6, .int (nI (k + 1)))] (by decide) rfl dX5_sizeFor_83 ?_
        refine fr_iinc (pc := 85) (v := nI (k + 1 + 1)) [(6, .int (nI (k + 1 + 1))), (5, .int x5_83), (0, .ref 42), (1, .int (nI g)), (2, .int (nI n)), (3, .int (nI (38 + 6 * g + 2))), (4, .int (r 4 g))] rfl (nI_1 (k + 1)) (by decide) rfl dX5_sizeFor_85 ?_
        refine fr_goto (pc := 88) 42 (by decide) dX5_sizeFor_88 ?_
        subst e_x5_83
        exact fr_sub [2, 3, 4, 5, 6, 1, 0] rfl (ht)
      · refine fr_iload (pc := 76) rfl dX5_sizeFor_76 ?_
        refine fr_goto (pc := 78) 83 (by decide) dX5_sizeFor_78 ?_
        refine fr_eq (z := (s_firstD (q_sz r g n) (k + 1))) (if_pos (hq.mpr h73)).symm ?_
        refine fr_nm (fun x5_83 e_x5_83 => ?_)
        refine fr_istore (pc := 83) [(5, .int x5_83), (0, .ref 42), (1, .int (nI g)), (2, .int (nI n)), (3, .int (nI (38 + 6 * g + 2))), (4, .int (r 4 g)), (6, .int (nI (k + 1)))] (by decide) rfl dX5_sizeFor_83 ?_
        refine fr_iinc (pc := 85) (v := nI (k + 1 + 1)) [(6, .int (nI (k + 1 + 1))), (5, .int x5_83), (0, .ref 42), (1, .int (nI g)), (2, .int (nI n)), (3, .int (nI (38 + 6 * g + 2))), (4, .int (r 4 g))] rfl (nI_1 (k + 1)) (by decide) rfl dX5_sizeFor_85 ?_
        refine fr_goto (pc := 88) 42 (by decide) dX5_sizeFor_88 ?_
        subst e_x5_83
        exact fr_sub [2, 3, 4, 5, 6, 1, 0] rfl (ht)
set_option maxRecDepth 100000 in
theorem y_sizeFor {Γ : aG} {l : Launch} {M : Nat → aC} {r : rT} {kr ar : Nat → Int32} {rk : rT} {ik : Int32} {fi b : Nat → Int32} {ln : Int32} {S : sT} {it mv : Nat → Int32} {Q : yQ} {g n : Int32} (w : wf r) : ∃ ar' : Nat → Int32, Ev Γ l mX5_sizeFor [.ref 42, .int g, .int n] 54 (yM M r kr ar ik fi b ln S it mv Q) (some (.int (sp_sizeFor (r, rk, ik, S, b, ln, fi) g n).1)) 54 (yF M kr ar' it mv Q (sp_sizeFor (r, rk, ik, S, b, ln, fi) g n).2) := by
  by_cases hc : sG (r, rk, ik, S, b, ln, fi) g = true ∧ wi n 0 60 = true
  · obtain ⟨i1, hi1, rfl⟩ := sG_nI w hc.1
    have ei1 : (nI i1).toNatClampNeg = i1 := nI_clamp (by have := w.ctl; omega)
    have li1 : i1 < 8 := by have := w.ctl; omega
    obtain ⟨i2, hi2, rfl⟩ := wi_nI (N := 60) hc.2 rfl
    have ei2 : (nI i2).toNatClampNeg = i2 := nI_clamp (by omega)
    rw [show sp_sizeFor (r, rk, ik, S, b, ln, fi) (nI i1) (nI i2) = orN (r, rk, ik, S, b, ln, fi) (s_firstD (q_sz r i1 i2) 40) from by unfold sp_sizeFor; rw [if_pos hc, ei1, ei2]]
    obtain ⟨ar', ht⟩ := yz_loop (Γ := Γ) (l := l) (M := M) (kr := kr) (ik := ik) (fi := fi) (b := b) (ln := ln) (S := S) (it := it) (mv := mv) (Q := Q) (rk := rk) (g := i1) (n := i2) li1 (by omega) w 40 0 (r 4 i1) ar rfl
    refine ⟨ar', ?_⟩
    refine Ev.of [(0, .ref 42), (1, .int (nI i1)), (2, .int (nI i2))] (by decide) (Nat.le_of_ble_eq_true rfl) rfl ?_
    refine fr_aload_n (pc := 0) rfl dX5_sizeFor_0 ?_
    refine fr_iload_n (pc := 1) rfl dX5_sizeFor_1 ?_
    refine fr_callV0 (pc := 2) (ci := 4) (T := TX5) (N := 20) [.int (nI i1)] [] (c_X5_isGuest ) gc_X5_131 rfl rfl ⟨rfl, rfl, by decide, by decide⟩ (Nat.le_of_ble_eq_true rfl) rfl (by decide) y_42 ⟨by decide, by decide⟩ dX5_sizeFor_2 ?_
    refine fr_if_eq (pc := 5) 15 (by decide) dX5_sizeFor_5 (fun h5 => ?_) (fun h5 => ?_)
    · have g5 := bI_0.mp h5
      exact absurd hc.1 g5
    · have g5 := bI_n0 h5
      refine fr_iload_n (pc := 8) rfl dX5_sizeFor_8 ?_
      refine fr_callS0 (pc := 9) [.int (nI i2)] [] (c_X5_isThought) gc_X5_194 rfl rfl ⟨rfl, rfl, by decide, by decide⟩ (Nat.le_of_ble_eq_true rfl) ⟨by decide, by decide⟩ dX5_sizeFor_9 ?_
      refine fr_if_ne (pc := 12) 22 (by decide) dX5_sizeFor_12 (fun h12 => ?_) (fun h12 => ?_)
      · have g12 := bI_n0 h12
        refine fr_iload_n (pc := 22) rfl dX5_sizeFor_22 ?_
        refine fr_iconst (pc := 23) (v := 2) rfl dX5_sizeFor_23 ?_
        refine fr_callS0 (pc := 24) [.int (nI i1), .int 2] [] (c_X5_guestAt (g := i1) (k := 2)) gc_X5_106 rfl rfl ⟨rfl, rfl, by decide, by decide⟩ (Nat.le_of_ble_eq_true rfl) ⟨by decide, by decide⟩ dX5_sizeFor_24 ?_
        refine fr_istore_n (pc := 27) [(3, .int (nI (38 + 6 * i1 + 2))), (0, .ref 42), (1, .int (nI i1)), (2, .int (nI i2))] (by decide) rfl dX5_sizeFor_27 ?_
        refine fr_aload_n (pc := 28) rfl dX5_sizeFor_28 ?_
        refine fr_get (pc := 29) (ci := 4) (T := TX5) (k0 := 0) rfl hin_X5 (by decide) fl_X5_9 (by decide) y_42 rfl dX5_sizeFor_29 ?_
        refine fr_iload_n (pc := 32) rfl dX5_sizeFor_32 ?_
        refine fr_iald (pc := 33) (38 + 6 * i1 + 2) rfl (by decide) y_43 (by first | assumption | omega) (by decide) dX5_sizeFor_33 ?_
        refine fr_eq (z := r 4 i1) (row_at (ph_g (k := 2) (by first | decide | assumption | omega))) ?_
        refine fr_nm (fun x4_34 e_x4_34 => ?_)
        refine fr_istore (pc := 34) [(4, .int x4_34), (3, .int (nI (38 + 6 * i1 + 2))), (0, .ref 42), (1, .int (nI i1)), (2, .int (nI i2))] (by decide) rfl dX5_sizeFor_34 ?_
        refine fr_iconst (pc := 36) (v := (-1)) rfl dX5_sizeFor_36 ?_
        refine fr_istore (pc := 37) [(5, .int (-1)), (4, .int x4_34), (3, .int (nI (38 + 6 * i1 + 2))), (0, .ref 42), (1, .int (nI i1)), (2, .int (nI i2))] (by decide) rfl dX5_sizeFor_37 ?_
        refine fr_iconst (pc := 39) (v := 1) rfl dX5_sizeFor_39 ?_
        refine fr_istore (pc := 40) [(6, .int 1), (5, .int (-1)), (4, .int x4_34), (3, .int (nI (38 + 6 * i1 + 2))), (0, .ref 42), (1, .int (nI i1)), (2, .int (nI i2))] (by decide) rfl dX5_sizeFor_40 ?_
        refine fr_mem (M1 := (yM M (u2 r 4 i1 (r 4 i1)) kr ar ik fi b ln S it mv Q)) (by rw [u2_self rfl]) ?_
        subst e_x4_34
        exact fr_sub [4, 5, 6, 3, 2, 1, 0] rfl (ht)
      · have g12 := bI_0.mp h12
        exact absurd hc.2 g12
  · rw [show sp_sizeFor (r, rk, ik, S, b, ln, fi) g n = fb (r, rk, ik, S, b, ln, fi) 0 from if_neg hc]
    refine ⟨ar, ?_⟩
    refine Ev.of [(0, .ref 42), (1, .int g), (2, .int n)] (by decide) (Nat.le_of_ble_eq_true rfl) rfl ?_
    refine fr_aload_n (pc := 0) rfl dX5_sizeFor_0 ?_
    refine fr_iload_n (pc := 1) rfl dX5_sizeFor_1 ?_
    refine fr_callV0 (pc := 2) (ci := 4) (T := TX5) (N := 20) [.int g] [] (c_X5_isGuest ) gc_X5_131 rfl rfl ⟨rfl, rfl, by decide, by decide⟩ (Nat.le_of_ble_eq_true rfl) rfl (by decide) y_42 ⟨by decide, by decide⟩ dX5_sizeFor_2 ?_
    refine fr_if_eq (pc := 5) 15 (by decide) dX5_sizeFor_5 (fun h5 => ?_) (fun h5 => ?_)
    · have g5 := bI_0.mp h5
      refine fr_aload_n (pc := 15) rfl dX5_sizeFor_15 ?_
      refine fr_ldc (pc := 16) kc_X5_60 dX5_sizeFor_16 ?_
      refine fr_callV0 (pc := 18) (ci := 4) (T := TX5) (N := 20) [.int (-1000001)] [] (c_fnd0) gc_X5_66 rfl rfl ⟨rfl, rfl, by decide, by decide⟩ (Nat.le_of_ble_eq_true rfl) rfl (by decide) y_42 ⟨by decide, by decide⟩ dX5_sizeFor_18 ?_
      exact fr_ireturn (pc := 21) rfl rfl rfl rfl dX5_sizeFor_21
    · have g5 := bI_n0 h5
      refine fr_iload_n (pc := 8) rfl dX5_sizeFor_8 ?_
      refine fr_callS0 (pc := 9) [.int n] [] (c_X5_isThought) gc_X5_194 rfl rfl ⟨rfl, rfl, by decide, by decide⟩ (Nat.le_of_ble_eq_true rfl) ⟨by decide, by decide⟩ dX5_sizeFor_9 ?_
      refine fr_if_ne (pc := 12) 22 (by decide) dX5_sizeFor_12 (fun h12 => ?_) (fun h12 => ?_)
      · have g12 := bI_n0 h12
        exact absurd ⟨g5, g12⟩ hc
      · have g12 := bI_0.mp h12
        refine fr_aload_n (pc := 15) rfl dX5_sizeFor_15 ?_
        refine fr_ldc (pc := 16) kc_X5_60 dX5_sizeFor_16 ?_
        refine fr_callV0 (pc := 18) (ci := 4) (T := TX5) (N := 20) [.int (-1000001)] [] (c_fnd0) gc_X5_66 rfl rfl ⟨rfl, rfl, by decide, by decide⟩ (Nat.le_of_ble_eq_true rfl) rfl (by decide) y_42 ⟨by decide, by decide⟩ dX5_sizeFor_18 ?_
        exact fr_ireturn (pc := 21) rfl rfl rfl rfl dX5_sizeFor_21
set_option maxRecDepth 100000 in
theorem yb_loop {Γ : aG} {l : Launch} {M : Nat → aC} {x : Int32} : ∀ (k s n : Nat), s ≤ k → s < 256 → Fr Γ l mX5_bits 4 [(0, .int x), (1, .int (nI n)), (2, .int (nI s))] [] 54 0 0 M (some (.int (nI (n + pcnt s)))) 54 M := by
  intro k
  induction k with
  | zero =>
    intro s n hk hs
    obtain rfl : s = 0 := by omega
    refine fr_iload_n (pc := 4) rfl dX5_bits_4 ?_
    refine fr_if_eq (pc := 5) 20 (by decide) dX5_bits_5 (fun h5 => ?_) (fun h5 => ?_)
    · refine fr_iload_n (pc := 20) rfl dX5_bits_20 ?_
      exact fr_ireturn (pc := 21) rfl rfl rfl rfl dX5_bits_21
    · exact absurd rfl h5
  | succ k ih =>
    intro s n hk hs
    rcases bt_all s hs with rfl | ⟨e1, e2, e3⟩
    · exact ih 0 n (by omega) (by omega)
    · refine fr_iload_n (pc := 4) rfl dX5_bits_4 ?_
      refine fr_if_eq (pc := 5) 20 (by decide) dX5_bits_5 (fun h5 => ?_) (fun h5 => ?_)
      · exact absurd ((nI_eq (b := 0) (by omega) (by decide)).mp h5) (by omega)
      · refine fr_iinc (pc := 8) (v := nI (n + 1)) [(1, .int (nI (n + 1))), (0, .int x), (2, .int (nI s))] rfl (nI_1 n) (by decide) rfl dX5_bits_8 ?_
        refine fr_iload_n (pc := 11) rfl dX5_bits_11 ?_
        refine fr_iload_n (pc := 12) rfl dX5_bits_12 ?_
        refine fr_iconst (pc := 13) (v := 1) rfl dX5_bits_13 ?_
        refine fr_isub (pc := 14) dX5_bits_14 ?_
        refine fr_iand (pc := 15) dX5_bits_15 ?_
        refine fr_eq (z := nI (s &&& (s - 1))) e1 ?_
        refine fr_istore_n (pc := 16) [(2, .int (nI (s &&& (s - 1)))), (1, .int (nI (n + 1))), (0, .int x)] (by decide) rfl dX5_bits_16 ?_
        refine fr_goto (pc := 17) 4 (by decide) dX5_bits_17 ?_
        rw [show n + pcnt s = n + 1 + pcnt (s &&& (s - 1)) by omega]
        exact fr_sub [2, 1, 0] rfl (ih (s &&& (s - 1)) (n + 1) (by omega) (by omega))
set_option maxRecDepth 100000 in
theorem c_X5_bits {Γ : aG} {l : Launch} {M : Nat → aC} {s : Nat} (hs : s < 256)  : Ev Γ l mX5_bits [.int (nI s)] 54 M (some (.int (nI (pcnt s)))) 54 M := by
  refine Ev.of [(0, .int (nI s))] (by decide) (Nat.le_of_ble_eq_true rfl) rfl ?_
  refine fr_iconst (pc := 0) (v := 0) rfl dX5_bits_0 ?_
  refine fr_istore_n (pc := 1) [(1, .int 0), (0, .int (nI s))] (by decide) rfl dX5_bits_1 ?_
  refine fr_iload_n (pc := 2) rfl dX5_bits_2 ?_
  refine fr_istore_n (pc := 3) [(2, .int (nI s)), (1, .int 0), (0, .int (nI s))] (by decide) rfl dX5_bits_3 ?_
  rw [show pcnt s = 0 + pcnt s by omega]
  exact fr_sub [2, 1, 0] rfl (yb_loop s s 0 (Nat.le_refl _) hs)
set_option maxRecDepth 100000 in
theorem yo_loop {Γ : aG} {l : Launch} {M : Nat → aC} {r0 : rT} {kr : Nat → Int32} {ik : Int32} {fi b : Nat → Int32} {ln : Int32} {S : sT} {it mv : Nat → Int32} {Q : yQ} {set : Int32} {N : Nat} (hN : N < 1000) : ∀ (n g : Nat) (r : rT), wf r → g + n = cnt r → Fr Γ l mX5_holds 13 [(0, .ref 42), (1, .int set), (2, .int (nI N)), (3, .int (nI g))] [] 54 0 0 (yM M r kr (row r0) ik fi b ln S it mv Q) (some (.int (bI (s_hours N (s_send set n g r) 9 5 = 0)))) 54 (yM M r0 kr (row r0) ik fi b ln S it mv Q) := by
  intro n
  induction n with
  | zero =>
    intro g r w hn
    have hcl := w.ctl
    refine fr_iload_n (pc := 13) rfl dX5_holds_13 ?_
    refine fr_aload_n (pc := 14) rfl dX5_holds_14 ?_
    refine fr_get (pc := 15) (ci := 4) (T := TX5) (k0 := 0) rfl hin_X5 (by decide) fl_X5_9 (by decide) y_42 rfl dX5_holds_15 ?_
    refine fr_iconst (pc := 18) (v := 1) rfl dX5_holds_18 ?_
    refine fr_iald (pc := 19) 1 rfl (by decide) y_43 (by decide) (by decide) dX5_holds_19 ?_
    refine fr_eq (z := r 9 1) (row_at (ph_l (by decide))) ?_
    refine fr_icmp_ge (pc := 20) 49 (by decide) dX5_holds_20 (fun h20 => ?_) (fun h20 => ?_)
    · refine fr_aload_n (pc := 49) rfl dX5_holds_49 ?_
      refine fr_iload_n (pc := 50) rfl dX5_holds_50 ?_
      refine fr_callV0 (pc := 51) (ci := 4) (T := TX5) (N := 20) [.int (nI N)] [] (c_X5_hoursGo (by assumption) (by omega)) gc_X5_166 rfl rfl ⟨rfl, rfl, by decide, by decide⟩ (Nat.le_of_ble_eq_true rfl) rfl (by decide) y_42 ⟨by decide, by decide⟩ dX5_holds_51 ?_
      refine fr_aload_n (pc := 54) rfl dX5_holds_54 ?_
      refine fr_get (pc := 55) (ci := 4) (T := TX5) (k0 := 0) rfl hin_X5 (by decide) fl_X5_9 (by decide) y_42 rfl dX5_holds_55 ?_
      refine fr_iconst (pc := 58) (v := 5) rfl dX5_holds_58 ?_
      refine fr_iald (pc := 59) 5 rfl (by decide) y_43 (by decide) (by decide) dX5_holds_59 ?_
      refine fr_eq (z := (s_hours N r) 9 5) (row_at (ph_l (by decide))) ?_
      refine fr_if_ne (pc := 60) 67 (by decide) dX5_holds_60 (fun h60 => ?_) (fun h60 => ?_)
      · refine fr_iconst (pc := 67) (v := 0) rfl dX5_holds_67 ?_
        refine fr_istore_n (pc := 68) [(3, .int 0), (0, .ref 42), (1, .int set), (2, .int (nI N))] (by decide) rfl dX5_holds_68 ?_
        refine fr_aload_n (pc := 69) rfl dX5_holds_69 ?_
        refine fr_get (pc := 70) (ci := 4) (T := TX5) (k0 := 2) rfl hin_X5 (by decide) fl_X5_16 (by decide) y_42 rfl dX5_holds_70 ?_
        refine fr_aload_n (pc := 73) rfl dX5_holds_73 ?_
        refine fr_get (pc := 74) (ci := 4) (T := TX5) (k0 := 0) rfl hin_X5 (by decide) fl_X5_9 (by decide) y_42 rfl dX5_holds_74 ?_
        refine fr_callS0 (pc := 77) [.ref 45, .ref 43] [] (c_cp_an) gc_X5_61 rfl rfl ⟨rfl, rfl, by decide, by decide⟩ (Nat.le_of_ble_eq_true rfl) ⟨by decide, by decide⟩ dX5_holds_77 ?_
        refine fr_iload_n (pc := 80) rfl dX5_holds_80 ?_
        exact fr_ireturn (pc := 81) rfl (bI_f h60).symm rfl rfl dX5_holds_81
      · refine fr_iconst (pc := 63) (v := 1) rfl dX5_holds_63 ?_
        refine fr_goto (pc := 64) 68 (by decide) dX5_holds_64 ?_
        refine fr_istore_n (pc := 68) [(3, .int 1), (0, .ref 42), (1, .int set), (2, .int (nI N))] (by decide) rfl dX5_holds_68 ?_
        refine fr_aload_n (pc := 69) rfl dX5_holds_69 ?_
        refine fr_get (pc := 70) (ci := 4) (T := TX5) (k0 := 2) rfl hin_X5 (by decide) fl_X5_16 (by decide) y_42 rfl dX5_holds_70 ?_
        refine fr_aload_n (pc := 73) rfl dX5_holds_73 ?_
        refine fr_get (pc := 74) (ci := 4) (T := TX5) (k0 := 0) rfl hin_X5 (by decide) fl_X5_9 (by decide) y_42 rfl dX5_holds_74 ?_
        refine fr_callS0 (pc := 77) [.ref 45, .ref 43] [] (c_cp_an) gc_X5_61 rfl rfl ⟨rfl, rfl, by decide, by decide⟩ (Nat.le_of_ble_eq_true rfl) ⟨by decide, by decide⟩ dX5_holds_77 ?_
        refine fr_iload_n (pc := 80) rfl dX5_holds_80 ?_
        exact fr_ireturn (pc := 81) rfl (bI_t h60).symm rfl rfl dX5_holds_81
    · exact absurd (by rw [w.ct, ← hn]; exact Int32.le_refl _) h20
  | succ n ih =>
    intro g r w hn
    have hcl := w.ctl
    refine fr_iload_n (pc := 13) rfl dX5_holds_13 ?_
    refine fr_aload_n (pc := 14) rfl dX5_holds_14 ?_
    refine fr_get (pc := 15) (ci := 4) (T := TX5) (k0 := 0) rfl hin_X5 (by decide) fl_X5_9 (by decide) y_42 rfl dX5_holds_15 ?_
    refine fr_iconst (pc := 18) (v := 1) rfl dX5_holds_18 ?_
    refine fr_iald (pc := 19) 1 rfl (by decide) y_43 (by decide) (by decide) dX5_holds_19 ?_
    refine fr_eq (z := r 9 1) (row_at (ph_l (by decide))) ?_
    refine fr_icmp_ge (pc := 20) 49 (by decide) dX5_holds_20 (fun h20 => ?_) (fun h20 => ?_)
    · exact absurd h20 (by rw [w.ct, ← hn]; exact nI_ge (by omega) (by omega))
    · refine fr_iload_n (pc := 23) rfl dX5_holds_23 ?_
      refine fr_iload_n (pc := 24) rfl dX5_holds_24 ?_
      refine fr_ishr (pc := 25) dX5_holds_25 ?_
      refine fr_iconst (pc := 26) (v := 1) rfl dX5_holds_26 ?_
      refine fr_iand (pc := 27) dX5_holds_27 ?_
      refine fr_iconst (pc := 28) (v := 1) rfl dX5_holds_28 ?_
      refine fr_icmp_ne (pc := 29) 43 (by decide) dX5_holds_29 (fun h29 => ?_) (fun h29 => ?_)
      · refine fr_iinc (pc := 43) (v := nI (g + 1)) [(3, .int (nI (g + 1))), (0, .ref 42), (1, .int set), (2, .int (nI N))] rfl (nI_1 g) (by decide) rfl dX5_holds_43 ?_
        refine fr_goto (pc := 46) 13 (by decide) dX5_holds_46 ?_
        rw [s_send, if_neg h29]
        exact fr_sub [1, 2, 3, 0] rfl (ih (g + 1) r w (by omega))
      · refine fr_aload_n (pc := 32) rfl dX5_holds_32 ?_
        refine fr_get (pc := 33) (ci := 4) (T := TX5) (k0 := 0) rfl hin_X5 (by decide) fl_X5_9 (by decide) y_42 rfl dX5_holds_33 ?_
        refine fr_iload_n (pc := 36) rfl dX5_holds_36 ?_
        refine fr_iconst (pc := 37) (v := 5) rfl dX5_holds_37 ?_
        refine fr_callS0 (pc := 38) [.int (nI g), .int 5] [.ref 43] (c_X5_guestAt (g := g) (k := 5)) gc_X5_106 rfl rfl ⟨rfl, rfl, by decide, by decide⟩ (Nat.le_of_ble_eq_true rfl) ⟨by decide, by decide⟩ dX5_holds_38 ?_
        refine fr_iconst (pc := 41) (v := 1) rfl dX5_holds_41 ?_
        refine fr_iast (pc := 42) (38 + 6 * g + 5) rfl (by decide) y_43 (by first | assumption | omega) (by decide) dX5_holds_42 ?_
        refine fr_mem (y_u43 (ph_g (k := 5) (by first | decide | assumption | omega))) ?_
        refine fr_iinc (pc := 43) (v := nI (g + 1)) [(3, .int (nI (g + 1))), (0, .ref 42), (1, .int set), (2, .int (nI N))] rfl (nI_1 g) (by decide) rfl dX5_holds_43 ?_
        refine fr_goto (pc := 46) 13 (by decide) dX5_holds_46 ?_
        rw [s_send, if_pos h29]
        have w1 : wf (u2 r 7 g 1) := by
          refine wf_u2 w ?_ ?_ ?_ ?_ ?_ ?_ ?_ <;> (intro h; try omega) <;> (intro h; omega)
        exact fr_sub [1, 2, 3, 0] rfl (ih (g + 1) (u2 r 7 g 1) w1 (by show _ = cnt r; omega))
set_option maxRecDepth 100000 in
theorem c_X5_holds {Γ : aG} {l : Launch} {M : Nat → aC} {r : rT} {kr ar : Nat → Int32} {ik : Int32} {fi b : Nat → Int32} {ln : Int32} {S : sT} {it mv : Nat → Int32} {Q : yQ} {set : Int32} {N : Nat} (w : wf r) (hN : N < 1000)  : Ev Γ l mX5_holds [.ref 42, .int set, .int (nI N)] 54 (yM M r kr ar ik fi b ln S it mv Q) (some (.int (bI (s_hours N (s_send set (cnt r) 0 r) 9 5 = 0)))) 54 (yM M r kr (row r) ik fi b ln S it mv Q) := by
  refine Ev.of [(0, .ref 42), (1, .int set), (2, .int (nI N))] (by decide) (Nat.le_of_ble_eq_true rfl) rfl ?_
  refine fr_aload_n (pc := 0) rfl dX5_holds_0 ?_
  refine fr_get (pc := 1) (ci := 4) (T := TX5) (k0 := 0) rfl hin_X5 (by decide) fl_X5_9 (by decide) y_42 rfl dX5_holds_1 ?_
  refine fr_aload_n (pc := 4) rfl dX5_holds_4 ?_
  refine fr_get (pc := 5) (ci := 4) (T := TX5) (k0 := 2) rfl hin_X5 (by decide) fl_X5_16 (by decide) y_42 rfl dX5_holds_5 ?_
  refine fr_callS0 (pc := 8) [.ref 43, .ref 45] [] (c_cp_na) gc_X5_61 rfl rfl ⟨rfl, rfl, by decide, by decide⟩ (Nat.le_of_ble_eq_true rfl) ⟨by decide, by decide⟩ dX5_holds_8 ?_
  refine fr_iconst (pc := 11) (v := 0) rfl dX5_holds_11 ?_
  refine fr_istore_n (pc := 12) [(3, .int 0), (0, .ref 42), (1, .int set), (2, .int (nI N))] (by decide) rfl dX5_holds_12 ?_
  exact fr_sub [1, 2, 3, 0] rfl (yo_loop hN (cnt r) 0 r w (by omega))
set_option maxRecDepth 100000 in
theorem yd_send {Γ : aG} {l : Launch} {M : Nat → aC} {r : rT} {kr : Nat → Int32} {rk : rT} {ik : Int32} {fi b : Nat → Int32} {ln : Int32} {S : sT} {it mv : Nat → Int32} {Q : yQ} {n N : Nat} (hn : n < 1000) (hN : N ≤ 256) (w : wf r) {z : Int32} (hz : isB (q_snd r n) N 0 z) : ∀ (j : Nat) (x best : Int32) (ar : Nat → Int32), x = nI j - 1 → j ≤ N → isB (q_snd r n) N j best → ∃ ar' : Nat → Int32, Fr Γ l mX5_send 30 [(0, .ref 42), (1, .int (nI n)), (2, .int best), (3, .int x)] [] 54 0 0 (yM M r kr ar ik fi b ln S it mv Q) (some (.int (orN (r, rk, ik, S, b, ln, fi) z).1)) 54 (yF M kr ar' it mv Q (orN (r, rk, ik, S, b, ln, fi) z).2) := by
  intro j
  induction j with
  | zero =>
    intro x best ar hx hj hb
    refine ⟨ar, ?_⟩
    rw [isB_u hz hb]
    refine fr_iload_n (pc := 30) rfl dX5_send_30 ?_
    refine fr_if_lt (pc := 31) 70 (by decide) dX5_send_31 (fun h31 => ?_) (fun h31 => ?_)
    · refine fr_aload_n (pc := 70) rfl dX5_send_70 ?_
      refine fr_iload_n (pc := 71) rfl dX5_send_71 ?_
      refine fr_callV0 (pc := 72) (ci := 4) (T := TX5) (N := 20) [.int best] [] (c_X5_orNone (rk := rk)) gc_X5_191 rfl rfl ⟨rfl, rfl, by decide, by decide⟩ (Nat.le_of_ble_eq_true rfl) rfl (by decide) y_42 ⟨by decide, by decide⟩ dX5_send_72 ?_
      exact fr_ireturn (pc := 75) rfl rfl rfl rfl dX5_send_75
    · exact absurd (by rw [hx]; decide) h31
  | succ j ih =>
    intro x best ar hx hj hb
    rw [nI_pred] at hx
    subst hx
    have ws := (wf_send (set := nI j) (cnt r) 0 r w).1
    have hq : q_snd r n j = true ↔ s_hours n (s_send (nI j) (cnt r) 0 r) 9 5 = 0 := by
      unfold q_snd
      rw [decide_eq_true_eq]
      exact hold_hours n _ ws
    by_cases hb0 : best < 0 ∨ ∃ s, s < 256 ∧ best = nI s ∧ pcnt j ≤ pcnt s
    · by_cases hs : q_snd r n j = true
      · obtain ⟨ar', ht⟩ := ih (nI j - 1) (nI j) (row r) rfl (by omega) (isB_y hb (by omega) hs (hb0.imp id (fun ⟨s, h1, h2, h3⟩ => ⟨s, by omega, h2, h3⟩)) (by omega))
        refine ⟨ar', ?_⟩
        rcases hb0 with hb1 | ⟨s, hs1, rfl, hs2⟩
        · refine fr_iload_n (pc := 30) rfl dX5_send_30 ?_
          refine fr_if_lt (pc := 31) 70 (by decide) dX5_send_31 (fun h31 => ?_) (fun h31 => ?_)
          · exact absurd h31 (nI_pos (by omega))
          · refine fr_iload_n (pc := 34) rfl dX5_send_34 ?_
            refine fr_if_lt (pc := 35) 49 (by decide) dX5_send_35 (fun h35 => ?_) (fun h35 => ?_)
            · refine fr_aload_n (pc := 49) rfl dX5_send_49 ?_
              refine fr_iload_n (pc := 50) rfl dX5_send_50 ?_
              refine fr_iload_n (pc := 51) rfl dX5_send_51 ?_
              refine fr_callV0 (pc := 52) (ci := 4) (T := TX5) (N := 20) [.int (nI j), .int (nI n)] [] (c_X5_holds (by assumption) (by omega)) gc_X5_200 rfl rfl ⟨rfl, rfl, by decide, by decide⟩ (Nat.le_of_ble_eq_true rfl) rfl (by decide) y_42 ⟨by decide, by decide⟩ dX5_send_52 ?_
              refine fr_if_eq (pc := 55) 62 (by decide) dX5_send_55 (fun h55 => ?_) (fun h55 => ?_)
              · have g55 := bI_0.mp h55
                exact absurd (hq.mp hs) g55
              · have g55 := bI_n0 h55
                refine fr_iload_n (pc := 58) rfl dX5_send_58 ?_
                refine fr_goto (pc := 59) 63 (by decide) dX5_send_59 ?_
                refine fr_istore_n (pc := 63) [(2, .int (nI j)), (0, .ref 42), (1, .int (nI n)), (3, .int (nI j))] (by decide) rfl dX5_send_63 ?_
                refine fr_iinc (pc := 64) (v := nI j - 1) [(3, .int (nI j - 1)), (2, .int (nI j)), (0, .ref 42), (1, .int (nI n))] rfl (by rw [show Int32.ofInt (-1) = (-1 : Int32) from by decide]; exact (Int32.sub_eq_add_neg _ _).symm) (by decide) rfl dX5_send_64 ?_
                refine fr_goto (pc := 67) 30 (by decide) dX5_send_67 ?_
                exact fr_sub [2, 3, 1, 0] rfl (ht)
            · exact absurd hb1 h35
        · refine fr_iload_n (pc := 30) rfl dX5_send_30 ?_
          refine fr_if_lt (pc := 31) 70 (by decide) dX5_send_31 (fun h31 => ?_) (fun h31 => ?_)
          · exact absurd h31 (nI_pos (by omega))
          · refine fr_iload_n (pc := 34) rfl dX5_send_34 ?_
            refine fr_if_lt (pc := 35) 49 (by decide) dX5_send_35 (fun h35 => ?_) (fun h35 => ?_)
            · exact absurd h35 (nI_pos (by omega))
            · refine fr_iload_n (pc := 38) rfl dX5_send_38 ?_
              refine fr_callS0 (pc := 39) [.int (nI j)] [] (c_X5_bits (s := j) (by omega)) gc_X5_197 rfl rfl ⟨rfl, rfl, by decide, by decide⟩ (Nat.le_of_ble_eq_true rfl) ⟨by decide, by decide⟩ dX5_send_39 ?_
              refine fr_iload_n (pc := 42) rfl dX5_send_42 ?_
              refine fr_callS0 (pc := 43) [.int (nI s)] [.int (nI (pcnt j))] (c_X5_bits (s := s) (by omega)) gc_X5_197 rfl rfl ⟨rfl, rfl, by decide, by decide⟩ (Nat.le_of_ble_eq_true rfl) ⟨by decide, by decide⟩ dX5_send_43 ?_
              refine fr_icmp_gt (pc := 46) 62 (by decide) dX5_send_46 (fun h46 => ?_) (fun h46 => ?_)
              · exact absurd h46 (nI_nlt hs2 (by have := pcnt_le s; omega))
              · refine fr_aload_n (pc := 49) rfl dX5_send_49 ?_
                refine fr_iload_n (pc := 50) rfl dX5_send_50 ?_
                refine fr_iload_n (pc := 51) rfl dX5_send_51 ?_
                refine fr_callV0 (pc := 52) (ci := 4) (T := TX5) (N := 20) [.int (nI j), .int (nI n)] [] (c_X5_holds (by assumption) (by omega)) gc_X5_200 rfl rfl ⟨rfl, rfl, by decide, by decide⟩ (Nat.le_of_ble_eq_true rfl) rfl (by decide) y_42 ⟨by decide, by decide⟩ dX5_send_52 ?_
                refine fr_if_eq (pc := 55) 62 (by decide) dX5_send_55 (fun h55 => ?_) (fun h55 => ?_)
                · have g55 := bI_0.mp h55
                  exact absurd (hq.mp hs) g55
                · have g55 := bI_n0 h55
                  refine fr_iload_n (pc := 58) rfl dX5_send_58 ?_
                  refine fr_goto (pc := 59) 63 (by decide) dX5_send_59 ?_
                  refine fr_istore_n (pc := 63) [(2, .int (nI j)), (0, .ref 42), (1, .int (nI n)), (3, .int (nI j))] (by decide) rfl dX5_send_63 ?_
                  refine fr_iinc (pc := 64) (v := nI j - 1) [(3, .int (nI j - 1)), (2, .int (nI j)), (0, .ref 42), (1, .int (nI n))] rfl (by rw [show Int32.ofInt (-1) = (-1 : Int32) from by decide]; exact (Int32.sub_eq_add_neg _ _).symm) (by decide) rfl dX5_send_64 ?_
                  refine fr_goto (pc := 67) 30 (by decide) dX5_send_67 ?_
                  exact fr_sub [2, 3, 1, 0] rfl (ht)
      · obtain ⟨ar', ht⟩ := ih (nI j - 1) best (row r) rfl (by omega) (isB_n hb hs)
        refine ⟨ar', ?_⟩
        rcases hb0 with hb1 | ⟨s, hs1, rfl, hs2⟩
        · refine fr_iload_n (pc := 30) rfl dX5_send_30 ?_
          refine fr_if_lt (pc := 31) 70 (by decide) dX5_send_31 (fun h31 => ?_) (fun h31 => ?_)
          · exact absurd h31 (nI_pos (by omega))
          · refine fr_iload_n (pc := 34) rfl dX5_send_34 ?_
            refine fr_if_lt (pc := 35) 49 (by decide) dX5_send_35 (fun h35 => ?_) (fun h35 => ?_)
            · refine fr_aload_n (pc := 49) rfl dX5_send_49 ?_
              refine fr_iload_n (pc := 50) rfl dX5_send_50 ?_
              refine fr_iload_n (pc := 51) rfl dX5_send_51 ?_
              refine fr_callV0 (pc := 52) (ci := 4) (T := TX5) (N := 20) [.int (nI j), .int (nI n)] [] (c_X5_holds (by assumption) (by omega)) gc_X5_200 rfl rfl ⟨rfl, rfl, by decide, by decide⟩ (Nat.le_of_ble_eq_true rfl) rfl (by decide) y_42 ⟨by decide, by decide⟩ dX5_send_52 ?_
              refine fr_if_eq (pc := 55) 62 (by decide) dX5_send_55 (fun h55 => ?_) (fun h55 => ?_)
              · have g55 := bI_0.mp h55
                refine fr_iload_n (pc := 62) rfl dX5_send_62 ?_
                refine fr_istore_n (pc := 63) [(2, .int best), (0, .ref 42), (1, .int (nI n)), (3, .int (nI j))] (by decide) rfl dX5_send_63 ?_
                refine fr_iinc (pc := 64) (v := nI j - 1) [(3, .int (nI j - 1)), (2, .int best), (0, .ref 42), (1, .int (nI n))] rfl (by rw [show Int32.ofInt (-1) = (-1 : Int32) from by decide]; exact (Int32.sub_eq_add_neg _ _).symm) (by decide) rfl dX5_send_64 ?_
                refine fr_goto (pc := 67) 30 (by decide) dX5_send_67 ?_
                exact fr_sub [2, 3, 1, 0] rfl (ht)
              · have g55 := bI_n0 h55
                exact absurd (hq.mpr g55) hs
            · exact absurd hb1 h35
        · refine fr_iload_n (pc := 30) rfl dX5_send_30 ?_
          refine fr_if_lt (pc := 31) 70 (by decide) dX5_send_31 (fun h31 => ?_) (fun h31 => ?_)
          · exact absurd h31 (nI_pos (by omega))
          · refine fr_iload_n (pc := 34) rfl dX5_send_34 ?_
            refine fr_if_lt (pc := 35) 49 (by decide) dX5_send_35 (fun h35 => ?_) (fun h35 => ?_)
            · exact absurd h35 (nI_pos (by omega))
            · refine fr_iload_n (pc := 38) rfl dX5_send_38 ?_
              refine fr_callS0 (pc := 39) [.int (nI j)] [] (c_X5_bits (s := j) (by omega)) gc_X5_197 rfl rfl ⟨rfl, rfl, by decide, by decide⟩ (Nat.le_of_ble_eq_true rfl) ⟨by decide, by decide⟩ dX5_send_39 ?_
              refine fr_iload_n (pc := 42) rfl dX5_send_42 ?_
              refine fr_callS0 (pc := 43) [.int (nI s)] [.int (nI (pcnt j))] (c_X5_bits (s := s) (by omega)) gc_X5_197 rfl rfl ⟨rfl, rfl, by decide, by decide⟩ (Nat.le_of_ble_eq_true rfl) ⟨by decide, by decide⟩ dX5_send_43 ?_
              refine fr_icmp_gt (pc := 46) 62 (by decide) dX5_send_46 (fun h46 => ?_) (fun h46 => ?_)
              · exact absurd h46 (nI_nlt hs2 (by have := pcnt_le s; omega))
              · refine fr_aload_n (pc := 49) rfl dX5_send_49 ?_
                refine fr_iload_n (pc := 50) rfl dX5_send_50 ?_
                refine fr_iload_n (pc := 51) rfl dX5_send_51 ?_
                refine fr_callV0 (pc := 52) (ci := 4) (T := TX5) (N := 20) [.int (nI j), .int (nI n)] [] (c_X5_holds (by assumption) (by omega)) gc_X5_200 rfl rfl ⟨rfl, rfl, by decide, by decide⟩ (Nat.le_of_ble_eq_true rfl) rfl (by decide) y_42 ⟨by decide, by decide⟩ dX5_send_52 ?_
                refine fr_if_eq (pc := 55) 62 (by decide) dX5_send_55 (fun h55 => ?_) (fun h55 => ?_)
                · have g55 := bI_0.mp h55
                  refine fr_iload_n (pc := 62) rfl dX5_send_62 ?_
                  refine fr_istore_n (pc := 63) [(2, .int (nI s)), (0, .ref 42), (1, .int (nI n)), (3, .int (nI j))] (by decide) rfl dX5_send_63 ?_
                  refine fr_iinc (pc := 64) (v := nI j - 1) [(3, .int (nI j - 1)), (2, .int (nI s)), (0, .ref 42), (1, .int (nI n))] rfl (by rw [show Int32.ofInt (-1) = (-1 : Int32) from by decide]; exact (Int32.sub_eq_add_neg _ _).symm) (by decide) rfl dX5_send_64 ?_
                  refine fr_goto (pc := 67) 30 (by decide) dX5_send_67 ?_
                  exact fr_sub [2, 3, 1, 0] rfl (ht)
                · have g55 := bI_n0 h55
                  exact absurd (hq.mpr g55) hs
    · have hb1 : ¬ best < 0 := fun z => hb0 (Or.inl z)
      obtain ⟨s, hs1, rfl⟩ : ∃ s, s < 256 ∧ best = nI s := by
        rcases hb with ⟨e1, -⟩ | ⟨s1, e1, -, b1, -⟩
        · exact absurd (by rw [e1]; decide) hb1
        · exact ⟨s1, by omega, e1⟩
      have hp : pcnt s < pcnt j := by
        rcases Nat.lt_or_ge (pcnt s) (pcnt j) with q | q
        · exact q
        · exact absurd (Or.inr ⟨s, hs1, rfl, q⟩) hb0
      obtain ⟨ar', ht⟩ := ih (nI j - 1) (nI s) ar rfl (by omega) (isB_w hb rfl (by omega) hp (by omega))
      refine ⟨ar', ?_⟩
      refine fr_iload_n (pc := 30) rfl dX5_send_30 ?_
      refine fr_if_lt (pc := 31) 70 (by decide) dX5_send_31 (fun h31 => ?_) (fun h31 => ?_)
      · exact absurd h31 (nI_pos (by omega))
      · refine fr_iload_n (pc := 34) rfl dX5_send_34 ?_
        refine fr_if_lt (pc := 35) 49 (by decide) dX5_send_35 (fun h35 => ?_) (fun h35 => ?_)
        · exact absurd h35 hb1
        · refine fr_iload_n (pc := 38) rfl dX5_send_38 ?_
          refine fr_callS0 (pc := 39) [.int (nI j)] [] (c_X5_bits (s := j) (by omega)) gc_X5_197 rfl rfl ⟨rfl, rfl, by decide, by decide⟩ (Nat.le_of_ble_eq_true rfl) ⟨by decide, by decide⟩ dX5_send_39 ?_
          refine fr_iload_n (pc := 42) rfl dX5_send_42 ?_
          refine fr_callS0 (pc := 43) [.int (nI s)] [.int (nI (pcnt j))] (c_X5_bits (s := s) (by omega)) gc_X5_197 rfl rfl ⟨rfl, rfl, by decide, by decide⟩ (Nat.le_of_ble_eq_true rfl) ⟨by decide, by decide⟩ dX5_send_43 ?_
          refine fr_icmp_gt (pc := 46) 62 (by decide) dX5_send_46 (fun h46 => ?_) (fun h46 => ?_)
          · refine fr_iload_n (pc := 62) rfl dX5_send_62 ?_
            refine fr_istore_n (pc := 63) [(2, .int (nI s)), (0, .ref 42), (1, .int (nI n)), (3, .int (nI j))] (by decide) rfl dX5_send_63 ?_
            refine fr_iinc (pc := 64) (v := nI j - 1) [(3, .int (nI j - 1)), (2, .int (nI s)), (0, .ref 42), (1, .int (nI n))] rfl (by rw [show Int32.ofInt (-1) = (-1 : Int32) from by decide]; exact (Int32.sub_eq_add_neg _ _).symm) (by decide) rfl dX5_send_64 ?_
            refine fr_goto (pc := 67) 30 (by decide) dX5_send_67 ?_
            exact fr_sub [2, 3, 1, 0] rfl (ht)
          · exact absurd (nI_lt hp (by have := pcnt_le j; omega)) h46
set_option maxRecDepth 100000 in
theorem y_send {Γ : aG} {l : Launch} {M : Nat → aC} {r : rT} {kr ar : Nat → Int32} {rk : rT} {ik : Int32} {fi b : Nat → Int32} {ln : Int32} {S : sT} {it mv : Nat → Int32} {Q : yQ} {n : Int32} (w : wf r) : ∃ ar' : Nat → Int32, Ev Γ l mX5_send [.ref 42, .int n] 54 (yM M r kr ar ik fi b ln S it mv Q) (some (.int (sp_send (r, rk, ik, S, b, ln, fi) n).1)) 54 (yF M kr ar' it mv Q (sp_send (r, rk, ik, S, b, ln, fi) n).2) := by
  by_cases hc : wi n 0 20 = true
  · obtain ⟨i1, hi1, rfl⟩ := wi_nI (N := 20) hc rfl
    have ei1 : (nI i1).toNatClampNeg = i1 := nI_clamp (by omega)
    have hp := sh_pow w.ctl
    rw [show sp_send (r, rk, ik, S, b, ln, fi) (nI i1) = orN (r, rk, ik, S, b, ln, fi) (s_out (q_snd r i1) (2 ^ cnt r) (cnt r + 1) 0) from by unfold sp_send; rw [if_pos hc, ei1]]
    have hz := out_ch (q := q_snd r i1) (N := 2 ^ cnt r) (by omega) (cnt r + 1) 0 (fun s _ _ => Nat.zero_le _) (fun s hs => by have := pc_all (cnt r) w.ctl s hs; omega)
    obtain ⟨ar', ht⟩ := yd_send (Γ := Γ) (l := l) (M := M) (kr := kr) (ik := ik) (fi := fi) (b := b) (ln := ln) (S := S) (it := it) (mv := mv) (Q := Q) (rk := rk) (n := i1) (N := 2 ^ cnt r) (by omega) hp.2 w hz (2 ^ cnt r) (nI (2 ^ cnt r) - 1) (-1) ar rfl (Nat.le_refl _) (Or.inl ⟨rfl, fun s h1 h2 => by omega⟩)
    refine ⟨ar', ?_⟩
    refine Ev.of [(0, .ref 42), (1, .int (nI i1))] (by decide) (Nat.le_of_ble_eq_true rfl) rfl ?_
    refine fr_iload_n (pc := 0) rfl dX5_send_0 ?_
    refine fr_iconst (pc := 1) (v := 0) rfl dX5_send_1 ?_
    refine fr_bipush (pc := 2) (v := 20) rfl dX5_send_2 ?_
    refine fr_callS0 (pc := 4) [.int (nI i1), .int 0, .int 20] [] (c_X5_within) gc_X5_70 rfl rfl ⟨rfl, rfl, by decide, by decide⟩ (Nat.le_of_ble_eq_true rfl) ⟨by decide, by decide⟩ dX5_send_4 ?_
    refine fr_if_ne (pc := 7) 17 (by decide) dX5_send_7 (fun h7 => ?_) (fun h7 => ?_)
    · have g7 := bI_n0 h7
      refine fr_iconst (pc := 17) (v := (-1)) rfl dX5_send_17 ?_
      refine fr_istore_n (pc := 18) [(2, .int (-1)), (0, .ref 42), (1, .int (nI i1))] (by decide) rfl dX5_send_18 ?_
      refine fr_iconst (pc := 19) (v := 1) rfl dX5_send_19 ?_
      refine fr_aload_n (pc := 20) rfl dX5_send_20 ?_
      refine fr_get (pc := 21) (ci := 4) (T := TX5) (k0 := 0) rfl hin_X5 (by decide) fl_X5_9 (by decide) y_42 rfl dX5_send_21 ?_
      refine fr_iconst (pc := 24) (v := 1) rfl dX5_send_24 ?_
      refine fr_iald (pc := 25) 1 rfl (by decide) y_43 (by decide) (by decide) dX5_send_25 ?_
      refine fr_eq (z := r 9 1) (row_at (ph_l (by decide))) ?_
      refine fr_ishl (pc := 26) dX5_send_26 ?_
      refine fr_eq (z := nI (2 ^ cnt r)) (by rw [w.ct]; exact hp.1) ?_
      refine fr_iconst (pc := 27) (v := 1) rfl dX5_send_27 ?_
      refine fr_isub (pc := 28) dX5_send_28 ?_
      refine fr_nm (fun x3_29 e_x3_29 => ?_)
      refine fr_istore_n (pc := 29) [(3, .int x3_29), (2, .int (-1)), (0, .ref 42), (1, .int (nI i1))] (by decide) rfl dX5_send_29 ?_
      subst e_x3_29
      exact fr_sub [2, 3, 1, 0] rfl (ht)
    · have g7 := bI_0.mp h7
      exact absurd hc g7
  · rw [show sp_send (r, rk, ik, S, b, ln, fi) n = fb (r, rk, ik, S, b, ln, fi) 0 from if_neg hc]
    refine ⟨ar, ?_⟩
    refine Ev.of [(0, .ref 42), (1, .int n)] (by decide) (Nat.le_of_ble_eq_true rfl) rfl ?_
    refine fr_iload_n (pc := 0) rfl dX5_send_0 ?_
    refine fr_iconst (pc := 1) (v := 0) rfl dX5_send_1 ?_
    refine fr_bipush (pc := 2) (v := 20) rfl dX5_send_2 ?_
    refine fr_callS0 (pc := 4) [.int n, .int 0, .int 20] [] (c_X5_within) gc_X5_70 rfl rfl ⟨rfl, rfl, by decide, by decide⟩ (Nat.le_of_ble_eq_true rfl) ⟨by decide, by decide⟩ dX5_send_4 ?_
    refine fr_if_ne (pc := 7) 17 (by decide) dX5_send_7 (fun h7 => ?_) (fun h7 => ?_)
    · have g7 := bI_n0 h7
      exact absurd g7 hc
    · have g7 := bI_0.mp h7
      refine fr_aload_n (pc := 10) rfl dX5_send_10 ?_
      refine fr_ldc (pc := 11) kc_X5_60 dX5_send_11 ?_
      refine fr_callV0 (pc := 13) (ci := 4) (T := TX5) (N := 20) [.int (-1000001)] [] (c_fnd0) gc_X5_66 rfl rfl ⟨rfl, rfl, by decide, by decide⟩ (Nat.le_of_ble_eq_true rfl) rfl (by decide) y_42 ⟨by decide, by decide⟩ dX5_send_13 ?_
      exact fr_ireturn (pc := 16) rfl rfl rfl rfl dX5_send_16
