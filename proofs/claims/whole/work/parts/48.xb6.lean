set_option maxRecDepth 100000 in
theorem kf_loop {Γ : aG} {l : Launch} {M : Nat → aC} {r rk : rT} {ik : Int32} {S : sT} {b : Nat → Int32} {ln : Int32} {J : Int32 × Int32 × Int32 × Int32} {fi : Nat → Int32} (w : wf r) {g n : Nat} (hg : g < 8) (hn2 : n < 1000) : ∀ (j k : Nat) (bs le : Int32) (t : rT), k + j = 7 → ∃ t' : rT, Fr Γ l mX4_kindFor 34 [(0, .ref 0), (1, .int (nI g)), (2, .int (nI n)), (3, .int bs), (4, .int le), (5, .int (nI k))] [] 54 0 0 (xM M r rk t ik S (b, ln, J) fi) (some (.int (s_kf r g n j k bs le))) 54 (xM M r rk t' ik S (b, ln, J) fi) := by
  intro j
  induction j with
  | zero =>
    intro k bs le t hn
    refine ⟨t, ?_⟩
    refine fr_iload (pc := 34) rfl dX4_kindFor_34 ?_
    refine fr_bipush (pc := 36) (v := 7) rfl dX4_kindFor_36 ?_
    refine fr_icmp_ge (pc := 38) 94 (by decide) dX4_kindFor_38 (fun h38 => ?_) (fun h38 => ?_)
    · refine fr_iload_n (pc := 94) rfl dX4_kindFor_94 ?_
      exact fr_ireturn (pc := 95) rfl rfl rfl rfl dX4_kindFor_95
    · exact absurd (nI_le (a := 7) (b := k) (by omega) (by omega)) h38
  | succ j ih =>
    intro k bs le t hn
    have w1 : wf (u2 r 2 g (nI k)) := by
      refine wf_u2 w ?_ ?_ ?_ ?_ ?_ ?_ ?_ <;> (intro h; try omega)
      exact okv_nI (by omega) (by decide)
    by_cases hp : s_hours n (u2 r 2 g (nI k)) 9 4 < le
    · obtain ⟨t', ht⟩ := ih (k + 1) (nI k) (s_hours n (u2 r 2 g (nI k)) 9 4) (s_hours n (u2 r 2 g (nI k))) (by omega)
      refine ⟨t', ?_⟩
      rw [s_kf, if_pos hp]
      refine fr_iload (pc := 34) rfl dX4_kindFor_34 ?_
      refine fr_bipush (pc := 36) (v := 7) rfl dX4_kindFor_36 ?_
      refine fr_icmp_ge (pc := 38) 94 (by decide) dX4_kindFor_38 (fun h38 => ?_) (fun h38 => ?_)
      · exact absurd h38 (nI_ge (a := k) (b := 7) (by omega) (by omega))
      · refine fr_aload_n (pc := 41) rfl dX4_kindFor_41 ?_
        refine fr_callV0 (pc := 42) (ci := 3) (T := TX4) (N := 7) [] [] (c_X4_startTrial) gc_X4_152 rfl rfl ⟨rfl, rfl, by decide, by decide⟩ (Nat.le_of_ble_eq_true rfl) rfl (by decide) x_0 ⟨by decide, by decide⟩ dX4_kindFor_42 ?_
        refine fr_aload_n (pc := 45) rfl dX4_kindFor_45 ?_
        refine fr_get (pc := 46) (ci := 3) (T := TX4) (k0 := 2) rfl hin_X4 (by decide) fl_X4_19 (by decide) x_0 rfl dX4_kindFor_46 ?_
        refine fr_get (pc := 49) (ci := 0) (T := TX0) (k0 := 7) rfl hin_X0 (by decide) fl_X4_101 (by decide) x_21 rfl dX4_kindFor_49 ?_
        refine fr_iload_n (pc := 52) rfl dX4_kindFor_52 ?_
        refine fr_iload (pc := 53) rfl dX4_kindFor_53 ?_
        refine fr_iast (pc := 55) g rfl (by decide) x_t3 (by first | assumption | omega) (by decide) dX4_kindFor_55 ?_
        refine fr_mem x_ta2 ?_
        refine fr_aload_n (pc := 56) rfl dX4_kindFor_56 ?_
        refine fr_get (pc := 57) (ci := 3) (T := TX4) (k0 := 2) rfl hin_X4 (by decide) fl_X4_19 (by decide) x_0 rfl dX4_kindFor_57 ?_
        refine fr_iload_n (pc := 60) rfl dX4_kindFor_60 ?_
        refine fr_callV0 (pc := 61) (ci := 0) (T := TX0) (N := 15) [.int (nI n)] [] (ev_T (fun _ => c_X0_passHours (by omega) (by assumption) (by omega))) gc_X4_132 rfl rfl ⟨rfl, rfl, by decide, by decide⟩ (Nat.le_of_ble_eq_true rfl) rfl (by decide) x_21 ⟨by decide, by decide⟩ dX4_kindFor_61 ?_
        refine fr_aload_n (pc := 64) rfl dX4_kindFor_64 ?_
        refine fr_get (pc := 65) (ci := 3) (T := TX4) (k0 := 2) rfl hin_X4 (by decide) fl_X4_19 (by decide) x_0 rfl dX4_kindFor_65 ?_
        refine fr_get (pc := 68) (ci := 0) (T := TX0) (k0 := 3) rfl hin_X0 (by decide) fl_X4_59 (by decide) x_21 rfl dX4_kindFor_68 ?_
        refine fr_iload (pc := 71) rfl dX4_kindFor_71 ?_
        refine fr_icmp_ge (pc := 73) 88 (by decide) dX4_kindFor_73 (fun h73 => ?_) (fun h73 => ?_)
        · exact absurd hp (Int32.not_lt.mpr h73)
        · refine fr_aload_n (pc := 76) rfl dX4_kindFor_76 ?_
          refine fr_get (pc := 77) (ci := 3) (T := TX4) (k0 := 2) rfl hin_X4 (by decide) fl_X4_19 (by decide) x_0 rfl dX4_kindFor_77 ?_
          refine fr_get (pc := 80) (ci := 0) (T := TX0) (k0 := 3) rfl hin_X0 (by decide) fl_X4_59 (by decide) x_21 rfl dX4_kindFor_80 ?_
          refine fr_nm (fun xl e_xl => ?_)
          refine fr_istore (pc := 83) [(4, .int xl), (0, .ref 0), (1, .int (nI g)), (2, .int (nI n)), (3, .int bs), (5, .int (nI k))] (by decide) rfl dX4_kindFor_83 ?_
          refine fr_iload (pc := 85) rfl dX4_kindFor_85 ?_
          refine fr_istore_n (pc := 87) [(3, .int (nI k)), (4, .int xl), (0, .ref 0), (1, .int (nI g)), (2, .int (nI n)), (5, .int (nI k))] (by decide) rfl dX4_kindFor_87 ?_
          refine fr_iinc (pc := 88) (v := nI (k + 1)) [(5, .int (nI (k + 1))), (3, .int (nI k)), (4, .int xl), (0, .ref 0), (1, .int (nI g)), (2, .int (nI n))] rfl (nI_1 k) (by decide) rfl dX4_kindFor_88 ?_
          refine fr_goto (pc := 91) 34 (by decide) dX4_kindFor_91 ?_
          rw [← e_xl] at ht ⊢
          exact fr_sub [3, 4, 5, 1, 2, 0] rfl (ht)
    · obtain ⟨t', ht⟩ := ih (k + 1) bs le (s_hours n (u2 r 2 g (nI k))) (by omega)
      refine ⟨t', ?_⟩
      rw [s_kf, if_neg hp]
      refine fr_iload (pc := 34) rfl dX4_kindFor_34 ?_
      refine fr_bipush (pc := 36) (v := 7) rfl dX4_kindFor_36 ?_
      refine fr_icmp_ge (pc := 38) 94 (by decide) dX4_kindFor_38 (fun h38 => ?_) (fun h38 => ?_)
      · exact absurd h38 (nI_ge (a := k) (b := 7) (by omega) (by omega))
      · refine fr_aload_n (pc := 41) rfl dX4_kindFor_41 ?_
        refine fr_callV0 (pc := 42) (ci := 3) (T := TX4) (N := 7) [] [] (c_X4_startTrial) gc_X4_152 rfl rfl ⟨rfl, rfl, by decide, by decide⟩ (Nat.le_of_ble_eq_true rfl) rfl (by decide) x_0 ⟨by decide, by decide⟩ dX4_kindFor_42 ?_
        refine fr_aload_n (pc := 45) rfl dX4_kindFor_45 ?_
        refine fr_get (pc := 46) (ci := 3) (T := TX4) (k0 := 2) rfl hin_X4 (by decide) fl_X4_19 (by decide) x_0 rfl dX4_kindFor_46 ?_
        refine fr_get (pc := 49) (ci := 0) (T := TX0) (k0 := 7) rfl hin_X0 (by decide) fl_X4_101 (by decide) x_21 rfl dX4_kindFor_49 ?_
        refine fr_iload_n (pc := 52) rfl dX4_kindFor_52 ?_
        refine fr_iload (pc := 53) rfl dX4_kindFor_53 ?_
        refine fr_iast (pc := 55) g rfl (by decide) x_t3 (by first | assumption | omega) (by decide) dX4_kindFor_55 ?_
        refine fr_mem x_ta2 ?_
        refine fr_aload_n (pc := 56) rfl dX4_kindFor_56 ?_
        refine fr_get (pc := 57) (ci := 3) (T := TX4) (k0 := 2) rfl hin_X4 (by decide) fl_X4_19 (by decide) x_0 rfl dX4_kindFor_57 ?_
        refine fr_iload_n (pc := 60) rfl dX4_kindFor_60 ?_
        refine fr_callV0 (pc := 61) (ci := 0) (T := TX0) (N := 15) [.int (nI n)] [] (ev_T (fun _ => c_X0_passHours (by omega) (by assumption) (by omega))) gc_X4_132 rfl rfl ⟨rfl, rfl, by decide, by decide⟩ (Nat.le_of_ble_eq_true rfl) rfl (by decide) x_21 ⟨by decide, by decide⟩ dX4_kindFor_61 ?_
        refine fr_aload_n (pc := 64) rfl dX4_kindFor_64 ?_
        refine fr_get (pc := 65) (ci := 3) (T := TX4) (k0 := 2) rfl hin_X4 (by decide) fl_X4_19 (by decide) x_0 rfl dX4_kindFor_65 ?_
        refine fr_get (pc := 68) (ci := 0) (T := TX0) (k0 := 3) rfl hin_X0 (by decide) fl_X4_59 (by decide) x_21 rfl dX4_kindFor_68 ?_
        refine fr_iload (pc := 71) rfl dX4_kindFor_71 ?_
        refine fr_icmp_ge (pc := 73) 88 (by decide) dX4_kindFor_73 (fun h73 => ?_) (fun h73 => ?_)
        · refine fr_iinc (pc := 88) (v := nI (k + 1)) [(5, .int (nI (k + 1))), (0, .ref 0), (1, .int (nI g)), (2, .int (nI n)), (3, .int bs), (4, .int le)] rfl (nI_1 k) (by decide) rfl dX4_kindFor_88 ?_
          refine fr_goto (pc := 91) 34 (by decide) dX4_kindFor_91 ?_
          exact fr_sub [1, 2, 3, 4, 5, 0] rfl (ht)
        · exact absurd (Int32.not_le.mp h73) hp
set_option maxRecDepth 100000 in
theorem x_kindFor {Γ : aG} {l : Launch} {M : Nat → aC} {r rk t : rT} {ik : Int32} {S : sT} {b : Nat → Int32} {ln : Int32} {J : Int32 × Int32 × Int32 × Int32} {fi : Nat → Int32} {g n : Int32} (w : wf r)  : ∃ t' : rT, Ev Γ l mX4_kindFor [.ref 0, .int g, .int n] 54 (xM M r rk t ik S (b, ln, J) fi) (some (.int (sp_kindFor (r, rk, ik, S, b, ln, fi) g n).1)) 54 (xF M t' J (sp_kindFor (r, rk, ik, S, b, ln, fi) g n).2) := by
  by_cases hc : wi g 0 (r 9 1 - 1) = true ∧ wi n 0 60 = true
  · obtain ⟨i1, hi1, rfl⟩ := sG_nI w hc.1
    have ei1 : (nI i1).toNatClampNeg = i1 := nI_clamp (by have := w.ctl; omega)
    have li1 : i1 < 8 := by have := w.ctl; omega
    obtain ⟨i2, hi2, rfl⟩ := wi_nI (N := 60) hc.2 rfl
    have ei2 : (nI i2).toNatClampNeg = i2 := nI_clamp (by omega)
    obtain ⟨t', ht⟩ := kf_loop (Γ := Γ) (l := l) (M := M) (r := r) (rk := rk) (ik := ik) (S := S) (b := b) (ln := ln) (J := J) (fi := fi) w (g := i1) (n := i2) (by omega) (by omega) 7 0 0 10000 t rfl
    refine ⟨t', ?_⟩
    rw [show sp_kindFor (r, rk, ik, S, b, ln, fi) (nI i1) (nI i2) = (s_kf r i1 i2 7 0 0 10000, (r, rk, ik, S, b, ln, fi)) from by unfold sp_kindFor; rw [ei1, ei2]; exact if_pos hc]
    refine Ev.of [(0, .ref 0), (1, .int (nI i1)), (2, .int (nI i2))] (by decide) (Nat.le_of_ble_eq_true rfl) rfl ?_
    refine fr_aload_n (pc := 0) rfl dX4_kindFor_0 ?_
    refine fr_iload_n (pc := 1) rfl dX4_kindFor_1 ?_
    refine fr_callV0 (pc := 2) (ci := 3) (T := TX4) (N := 7) [.int (nI i1)] [] (c_X4_isGuest) gc_X4_95 rfl rfl ⟨rfl, rfl, by decide, by decide⟩ (Nat.le_of_ble_eq_true rfl) rfl (by decide) x_0 ⟨by decide, by decide⟩ dX4_kindFor_2 ?_
    refine fr_if_eq (pc := 5) 18 (by decide) dX4_kindFor_5 (fun h5 => ?_) (fun h5 => ?_)
    · have g5 := bI_0.mp h5
      exact absurd hc.1 g5
    · have g5 := bI_n0 h5
      refine fr_iload_n (pc := 8) rfl dX4_kindFor_8 ?_
      refine fr_iconst (pc := 9) (v := 0) rfl dX4_kindFor_9 ?_
      refine fr_bipush (pc := 10) (v := 60) rfl dX4_kindFor_10 ?_
      refine fr_callS0 (pc := 12) [.int (nI i2), .int 0, .int 60] [] (c_X4_within) gc_X4_44 rfl rfl ⟨rfl, rfl, by decide, by decide⟩ (Nat.le_of_ble_eq_true rfl) ⟨by decide, by decide⟩ dX4_kindFor_12 ?_
      refine fr_if_ne (pc := 15) 24 (by decide) dX4_kindFor_15 (fun h15 => ?_) (fun h15 => ?_)
      · have g15 := bI_n0 h15
        refine fr_iconst (pc := 24) (v := 0) rfl dX4_kindFor_24 ?_
        refine fr_istore_n (pc := 25) [(3, .int 0), (0, .ref 0), (1, .int (nI i1)), (2, .int (nI i2))] (by decide) rfl dX4_kindFor_25 ?_
        refine fr_sipush (pc := 26) (v := 10000) rfl dX4_kindFor_26 ?_
        refine fr_istore (pc := 29) [(4, .int 10000), (3, .int 0), (0, .ref 0), (1, .int (nI i1)), (2, .int (nI i2))] (by decide) rfl dX4_kindFor_29 ?_
        refine fr_iconst (pc := 31) (v := 0) rfl dX4_kindFor_31 ?_
        refine fr_istore (pc := 32) [(5, .int 0), (4, .int 10000), (3, .int 0), (0, .ref 0), (1, .int (nI i1)), (2, .int (nI i2))] (by decide) rfl dX4_kindFor_32 ?_
        exact fr_sub [3, 4, 5, 2, 1, 0] rfl (ht)
      · have g15 := bI_0.mp h15
        exact absurd hc.2 g15
  · refine ⟨t, ?_⟩
    rw [show sp_kindFor (r, rk, ik, S, b, ln, fi) g n = fb (r, rk, ik, S, b, ln, fi) 0 from if_neg hc]
    refine Ev.of [(0, .ref 0), (1, .int g), (2, .int n)] (by decide) (Nat.le_of_ble_eq_true rfl) rfl ?_
    refine fr_aload_n (pc := 0) rfl dX4_kindFor_0 ?_
    refine fr_iload_n (pc := 1) rfl dX4_kindFor_1 ?_
    refine fr_callV0 (pc := 2) (ci := 3) (T := TX4) (N := 7) [.int g] [] (c_X4_isGuest) gc_X4_95 rfl rfl ⟨rfl, rfl, by decide, by decide⟩ (Nat.le_of_ble_eq_true rfl) rfl (by decide) x_0 ⟨by decide, by decide⟩ dX4_kindFor_2 ?_
    refine fr_if_eq (pc := 5) 18 (by decide) dX4_kindFor_5 (fun h5 => ?_) (fun h5 => ?_)
    · have g5 := bI_0.mp h5
      refine fr_aload_n (pc := 18) rfl dX4_kindFor_18 ?_
      refine fr_iconst (pc := 19) (v := 0) rfl dX4_kindFor_19 ?_
      refine fr_callV0 (pc := 20) (ci := 3) (T := TX4) (N := 7) [.int 0] [] (c_X4_found (k := 0) (by decide)) gc_X4_51 rfl rfl ⟨rfl, rfl, by decide, by decide⟩ (Nat.le_of_ble_eq_true rfl) rfl (by decide) x_0 ⟨by decide, by decide⟩ dX4_kindFor_20 ?_
      exact fr_ireturn (pc := 23) rfl rfl rfl rfl dX4_kindFor_23
    · have g5 := bI_n0 h5
      refine fr_iload_n (pc := 8) rfl dX4_kindFor_8 ?_
      refine fr_iconst (pc := 9) (v := 0) rfl dX4_kindFor_9 ?_
      refine fr_bipush (pc := 10) (v := 60) rfl dX4_kindFor_10 ?_
      refine fr_callS0 (pc := 12) [.int n, .int 0, .int 60] [] (c_X4_within) gc_X4_44 rfl rfl ⟨rfl, rfl, by decide, by decide⟩ (Nat.le_of_ble_eq_true rfl) ⟨by decide, by decide⟩ dX4_kindFor_12 ?_
      refine fr_if_ne (pc := 15) 24 (by decide) dX4_kindFor_15 (fun h15 => ?_) (fun h15 => ?_)
      · have g15 := bI_n0 h15
        exact absurd ⟨g5, g15⟩ hc
      · have g15 := bI_0.mp h15
        refine fr_aload_n (pc := 18) rfl dX4_kindFor_18 ?_
        refine fr_iconst (pc := 19) (v := 0) rfl dX4_kindFor_19 ?_
        refine fr_callV0 (pc := 20) (ci := 3) (T := TX4) (N := 7) [.int 0] [] (c_X4_found (k := 0) (by decide)) gc_X4_51 rfl rfl ⟨rfl, rfl, by decide, by decide⟩ (Nat.le_of_ble_eq_true rfl) rfl (by decide) x_0 ⟨by decide, by decide⟩ dX4_kindFor_20 ?_
        exact fr_ireturn (pc := 23) rfl rfl rfl rfl dX4_kindFor_23
set_option maxRecDepth 100000 in
theorem py_loop {Γ : aG} {l : Launch} {M : Nat → aC} {rk t : rT} {ik : Int32} {S : sT} {T : tT} {fi : Nat → Int32} {N : Nat} (hN : N < 1000) : ∀ (j i : Nat) (r : rT), wf r → i + j = N → Fr Γ l mX4_party 38 [(0, .ref 0), (1, .int (nI N)), (2, .int (nI i))] [] 54 0 0 (xM M r rk t ik S T fi) (some (.int (s_prt j r 9 4))) 54 (xM M (s_prt j r) rk t ik S T fi) := by
  intro j
  induction j with
  | zero =>
    intro i r w hn
    refine fr_iload_n (pc := 38) rfl dX4_party_38 ?_
    refine fr_iload_n (pc := 39) rfl dX4_party_39 ?_
    refine fr_icmp_ge (pc := 40) 56 (by decide) dX4_party_40 (fun h40 => ?_) (fun h40 => ?_)
    · refine fr_aload_n (pc := 56) rfl dX4_party_56 ?_
      refine fr_get (pc := 57) (ci := 3) (T := TX4) (k0 := 0) rfl hin_X4 (by decide) fl_X4_10 (by decide) x_0 rfl dX4_party_57 ?_
      refine fr_get (pc := 60) (ci := 0) (T := TX0) (k0 := 3) rfl hin_X0 (by decide) fl_X4_59 (by decide) x_1 rfl dX4_party_60 ?_
      exact fr_ireturn (pc := 63) rfl rfl rfl rfl dX4_party_63
    · exact absurd (nI_le (by omega) (by omega)) h40
  | succ j ih =>
    intro i r w hn
    refine fr_iload_n (pc := 38) rfl dX4_party_38 ?_
    refine fr_iload_n (pc := 39) rfl dX4_party_39 ?_
    refine fr_icmp_ge (pc := 40) 56 (by decide) dX4_party_40 (fun h40 => ?_) (fun h40 => ?_)
    · exact absurd h40 (nI_ge (by omega) (by omega))
    · refine fr_aload_n (pc := 43) rfl dX4_party_43 ?_
      refine fr_get (pc := 44) (ci := 3) (T := TX4) (k0 := 0) rfl hin_X4 (by decide) fl_X4_10 (by decide) x_0 rfl dX4_party_44 ?_
      refine fr_callV0 (pc := 47) (ci := 0) (T := TX0) (N := 15) [] [] (ev_H (fun _ => c_X0_passPartyHour (by omega) (by assumption))) gc_X4_197 rfl rfl ⟨rfl, rfl, by decide, by decide⟩ (Nat.le_of_ble_eq_true rfl) rfl (by decide) x_1 ⟨by decide, by decide⟩ dX4_party_47 ?_
      refine fr_iinc (pc := 50) (v := nI (i + 1)) [(2, .int (nI (i + 1))), (0, .ref 0), (1, .int (nI N))] rfl (nI_1 i) (by decide) rfl dX4_party_50 ?_
      refine fr_goto (pc := 53) 38 (by decide) dX4_party_53 ?_
      exact fr_sub [1, 2, 0] rfl (ih (i + 1) (s_party r) (wf_party w) (by omega))
set_option maxRecDepth 100000 in
theorem x_party {Γ : aG} {l : Launch} {M : Nat → aC} {r rk t : rT} {ik : Int32} {S : sT} {b : Nat → Int32} {ln : Int32} {J : Int32 × Int32 × Int32 × Int32} {fi : Nat → Int32} {n : Int32} (w : wf r)  : Ev Γ l mX4_party [.ref 0, .int n] 54 (xM M r rk t ik S (b, ln, J) fi) (some (.int (sp_party (r, rk, ik, S, b, ln, fi) n).1)) 54 (xF M t J (sp_party (r, rk, ik, S, b, ln, fi) n).2) := by
  refine Ev.of [(0, .ref 0), (1, .int n)] (by decide) (Nat.le_of_ble_eq_true rfl) rfl ?_
  refine fr_iload_n (pc := 0) rfl dX4_party_0 ?_
  refine fr_iconst (pc := 1) (v := 1) rfl dX4_party_1 ?_
  refine fr_bipush (pc := 2) (v := 20) rfl dX4_party_2 ?_
  refine fr_callS0 (pc := 4) [.int n, .int 1, .int 20] [] (c_X4_within) gc_X4_44 rfl rfl ⟨rfl, rfl, by decide, by decide⟩ (Nat.le_of_ble_eq_true rfl) ⟨by decide, by decide⟩ dX4_party_4 ?_
  refine fr_if_ne (pc := 7) 16 (by decide) dX4_party_7 (fun h7 => ?_) (fun h7 => ?_)
  · have g7 := bI_n0 h7
    obtain ⟨i1, hi1, rfl⟩ := wi_1 (N := 20) g7 rfl
    have ei1 : (nI i1).toNatClampNeg = i1 := nI_clamp (by omega)
    refine fr_aload_n (pc := 16) rfl dX4_party_16 ?_
    refine fr_get (pc := 17) (ci := 3) (T := TX4) (k0 := 0) rfl hin_X4 (by decide) fl_X4_10 (by decide) x_0 rfl dX4_party_17 ?_
    refine fr_get (pc := 20) (ci := 0) (T := TX0) (k0 := 5) rfl hin_X0 (by decide) fl_X4_109 (by decide) x_1 rfl dX4_party_20 ?_
    refine fr_iload_n (pc := 23) rfl dX4_party_23 ?_
    refine fr_iadd (pc := 24) dX4_party_24 ?_
    refine fr_ldc (pc := 25) kc_X4_131 dX4_party_25 ?_
    refine fr_icmp_le (pc := 27) 36 (by decide) dX4_party_27 (fun h27 => ?_) (fun h27 => ?_)
    · have q27 : ¬ 99999 < r 9 0 + nI i1 := Int32.not_lt.mpr h27
      refine fr_iconst (pc := 36) (v := 0) rfl dX4_party_36 ?_
      refine fr_istore_n (pc := 37) [(2, .int 0), (0, .ref 0), (1, .int (nI i1))] (by decide) rfl dX4_party_37 ?_
      rw [show sp_party (r, rk, ik, S, b, ln, fi) (nI i1) = (s_prt i1 r 9 4, sr (r, rk, ik, S, b, ln, fi) (s_prt i1 r)) from by simp only [sp_party, g7, q27, ei1, if_true, if_false, not_true_eq_false, not_false_eq_true, or_true, true_or, or_false, false_or, and_true, true_and, and_false, false_and, or_self, and_self, eq_self]]
      exact fr_sub [1, 2, 0] rfl (py_loop (by omega) i1 0 r w (by omega))
    · have q27 : 99999 < r 9 0 + nI i1 := Int32.not_le.mp h27
      refine fr_aload_n (pc := 30) rfl dX4_party_30 ?_
      refine fr_iconst (pc := 31) (v := 4) rfl dX4_party_31 ?_
      refine fr_callV0 (pc := 32) (ci := 3) (T := TX4) (N := 7) [.int 4] [] (c_X4_found (k := 4) (by decide)) gc_X4_51 rfl rfl ⟨rfl, rfl, by decide, by decide⟩ (Nat.le_of_ble_eq_true rfl) rfl (by decide) x_0 ⟨by decide, by decide⟩ dX4_party_32 ?_
      exact fr_ireturn (pc := 35) rfl (by simp only [sp_party, fb, sr, sG, xF, g7, ei1, eq_true q27, if_true, if_false, not_true_eq_false, not_false_eq_true, or_true, true_or, or_false, false_or, and_true, true_and, and_false, false_and, or_self, and_self, eq_self] <;> rfl) (by simp only [sp_party, fb, sr, sG, xF, g7, ei1, eq_true q27, if_true, if_false, not_true_eq_false, not_false_eq_true, or_true, true_or, or_false, false_or, and_true, true_and, and_false, false_and, or_self, and_self, eq_self] <;> rfl) rfl dX4_party_35
  · have g7 := bI_0.mp h7
    refine fr_aload_n (pc := 10) rfl dX4_party_10 ?_
    refine fr_iconst (pc := 11) (v := 0) rfl dX4_party_11 ?_
    refine fr_callV0 (pc := 12) (ci := 3) (T := TX4) (N := 7) [.int 0] [] (c_X4_found (k := 0) (by decide)) gc_X4_51 rfl rfl ⟨rfl, rfl, by decide, by decide⟩ (Nat.le_of_ble_eq_true rfl) rfl (by decide) x_0 ⟨by decide, by decide⟩ dX4_party_12 ?_
    exact fr_ireturn (pc := 15) rfl (by simp only [sp_party, fb, sr, sG, xF, g7, if_true, if_false, not_true_eq_false, not_false_eq_true, or_true, true_or, or_false, false_or, and_true, true_and, and_false, false_and, or_self, and_self, eq_self] <;> rfl) (by simp only [sp_party, fb, sr, sG, xF, g7, if_true, if_false, not_true_eq_false, not_false_eq_true, or_true, true_or, or_false, false_or, and_true, true_and, and_false, false_and, or_self, and_self, eq_self] <;> rfl) rfl dX4_party_15
set_option maxRecDepth 100000 in
theorem cd_loop {Γ : aG} {l : Launch} {M : Nat → aC} {a0 b0 : Int32} : ∀ (k i : Nat) (rs dv : Int32), i + k = 32 → Fr Γ l mX4_commonDivisor 7 [(0, .int a0), (1, .int b0), (2, .int rs), (3, .int dv), (4, .int (nI i))] [] 54 0 0 M (some (.int (s_gcd k rs dv))) 54 M := by
  intro k
  induction k with
  | zero =>
    intro i rs dv hn
    refine fr_iload (pc := 7) rfl dX4_commonDivisor_7 ?_
    refine fr_bipush (pc := 9) (v := 32) rfl dX4_commonDivisor_9 ?_
    refine fr_icmp_ge (pc := 11) 34 (by decide) dX4_commonDivisor_11 (fun h11 => ?_) (fun h11 => ?_)
    · refine fr_iload_n (pc := 34) rfl dX4_commonDivisor_34 ?_
      exact fr_ireturn (pc := 35) rfl rfl rfl rfl dX4_commonDivisor_35
    · exact absurd (nI_le (a := 32) (b := i) (by omega) (by omega)) h11
  | succ k ih =>
    intro i rs dv hn
    refine fr_iload (pc := 7) rfl dX4_commonDivisor_7 ?_
    refine fr_bipush (pc := 9) (v := 32) rfl dX4_commonDivisor_9 ?_
    refine fr_icmp_ge (pc := 11) 34 (by decide) dX4_commonDivisor_11 (fun h11 => ?_) (fun h11 => ?_)
    · exact absurd h11 (nI_ge (a := i) (b := 32) (by omega) (by omega))
    · refine fr_iload_n (pc := 14) rfl dX4_commonDivisor_14 ?_
      refine fr_if_eq (pc := 15) 34 (by decide) dX4_commonDivisor_15 (fun h15 => ?_) (fun h15 => ?_)
      · refine fr_iload_n (pc := 34) rfl dX4_commonDivisor_34 ?_
        exact fr_ireturn (pc := 35) rfl (by rw [s_gcd, if_pos h15]) rfl rfl dX4_commonDivisor_35
      · refine fr_iload_n (pc := 18) rfl dX4_commonDivisor_18 ?_
        refine fr_iload_n (pc := 19) rfl dX4_commonDivisor_19 ?_
        refine fr_irem (pc := 20) h15 dX4_commonDivisor_20 ?_
        refine fr_nm (fun x5_21 e_x5_21 => ?_)
        refine fr_istore (pc := 21) [(5, .int x5_21), (0, .int a0), (1, .int b0), (2, .int rs), (3, .int dv), (4, .int (nI i))] (by decide) rfl dX4_commonDivisor_21 ?_
        refine fr_iload_n (pc := 23) rfl dX4_commonDivisor_23 ?_
        refine fr_istore_n (pc := 24) [(3, .int rs), (5, .int x5_21), (0, .int a0), (1, .int b0), (2, .int rs), (4, .int (nI i))] (by decide) rfl dX4_commonDivisor_24 ?_
        refine fr_iload (pc := 25) rfl dX4_commonDivisor_25 ?_
        refine fr_istore_n (pc := 27) [(2, .int x5_21), (3, .int rs), (5, .int x5_21), (0, .int a0), (1, .int b0), (4, .int (nI i))] (by decide) rfl dX4_commonDivisor_27 ?_
        refine fr_iinc (pc := 28) (v := nI (i + 1)) [(4, .int (nI (i + 1))), (2, .int x5_21), (3, .int rs), (5, .int x5_21), (0, .int a0), (1, .int b0)] rfl (nI_1 i) (by decide) rfl dX4_commonDivisor_28 ?_
        refine fr_goto (pc := 31) 7 (by decide) dX4_commonDivisor_31 ?_
        rw [s_gcd, if_neg h15, ← e_x5_21]
        exact fr_sub [4, 5, 1, 2, 0] rfl (ih (i + 1) x5_21 rs (by omega))
set_option maxRecDepth 100000 in
theorem c_X4_commonDivisor {Γ : aG} {l : Launch} {M : Nat → aC} {a d : Int32} : Ev Γ l mX4_commonDivisor [.int a, .int d] 54 M (some (.int (s_gcd 32 a d))) 54 M := by
  refine Ev.of [(0, .int a), (1, .int d)] (by decide) (Nat.le_of_ble_eq_true rfl) rfl ?_
  refine fr_iload_n (pc := 0) rfl dX4_commonDivisor_0 ?_
  refine fr_istore_n (pc := 1) [(2, .int a), (0, .int a), (1, .int d)] (by decide) rfl dX4_commonDivisor_1 ?_
  refine fr_iload_n (pc := 2) rfl dX4_commonDivisor_2 ?_
  refine fr_istore_n (pc := 3) [(3, .int d), (2, .int a), (0, .int a), (1, .int d)] (by decide) rfl dX4_commonDivisor_3 ?_
  refine fr_iconst (pc := 4) (v := 0) rfl dX4_commonDivisor_4 ?_
  refine fr_istore (pc := 5) [(4, .int 0), (3, .int d), (2, .int a), (0, .int a), (1, .int d)] (by decide) rfl dX4_commonDivisor_5 ?_
  exact fr_sub [3, 4, 2, 1, 0] rfl (cd_loop 32 0 a d rfl)
theorem gcd_ne : ∀ (k : Nat) (r d : Int32), ¬ d = 0 → ¬ s_gcd k r d = 0 := by
  intro k
  induction k with
  | zero => intro r d h; exact h
  | succ k ih =>
    intro r d h
    rw [s_gcd]
    split
    · exact h
    · rename_i hr
      exact ih _ _ hr
theorem gd_nI {r : rT} {g : Nat} : ∀ (n m a : Nat), ∃ c : Nat, c ≤ n ∧ s_sum (s_mta r g) n m (nI a) = nI (a + c) := by
  intro n
  induction n with
  | zero => intro m a; exact ⟨0, Nat.le_refl _, rfl⟩
  | succ n ih =>
    intro m a
    rw [s_sum]
    unfold s_mta
    split
    · rw [nI_1]
      obtain ⟨c, hc, e⟩ := ih (m + 1) (a + 1)
      exact ⟨c + 1, by omega, by rw [show a + (c + 1) = a + 1 + c by omega]; exact e⟩
    · rw [Int32.add_zero]
      obtain ⟨c, hc, e⟩ := ih (m + 1) a
      exact ⟨c, by omega, e⟩
theorem rm_nI {d a : Nat} (hd : d < 2 ^ 31) (ha : a < 2 ^ 31) (h0 : 0 < a) : nI d % nI a = nI (d % a) := by
  have h := pk_rem (a := d) (d := a) hd h0 ha
  rw [irem_eq_mod] at h
  exact h
theorem gcd_pos : ∀ (k a d : Nat), a < 1000 → 0 < d → d < 1000 → 0 < s_gcd k (nI a) (nI d) := by
  intro k
  induction k with
  | zero => intro a d _ h0 h1; exact nI_lt (a := 0) h0 (by omega)
  | succ k ih =>
    intro a d ha h0 h1
    rw [s_gcd]
    split
    · exact nI_lt (a := 0) h0 (by omega)
    · rename_i hr
      have ha0 : 0 < a := Nat.pos_of_ne_zero (fun z => hr (by rw [z]; rfl))
      have hm := Nat.mod_lt d ha0
      rw [rm_nI (by omega) (by omega) ha0]
      exact ih (d % a) a (by omega) ha0 ha
theorem od_pos {r : rT} {g : Nat} : 0 < s_gcd 32 (s_sum (s_mta r g) 21 16 0) 21 := by
  obtain ⟨c, hc, e⟩ := gd_nI (r := r) (g := g) 21 16 0
  have e1 : s_sum (s_mta r g) 21 16 0 = nI (0 + c) := e
  rw [e1]
  exact gcd_pos 32 (0 + c) 21 (by omega) (by decide) (by decide)
set_option maxRecDepth 100000 in
theorem od_loop {Γ : aG} {l : Launch} {M : Nat → aC} {r rk t : rT} {ik : Int32} {S : sT} {T : tT} {fi : Nat → Int32} {N : Nat} {q1 q3 q4 q5 q6 bs : Int32} (hN : N < 1000) : ∀ (k i : Nat) (a : Int64), i + k = N → Fr Γ l mX4_odds 89 [(0, .ref 0), (1, .int q1), (2, .int (nI N)), (3, .int q3), (4, .int q4), (5, .int q5), (6, .int q6), (7, .int bs), (8, .long a), (10, .int (nI i))] [] 54 0 0 (xM M r rk t ik S T fi) (some (.long (s_pow bs.toInt64 k a))) 54 (xM M r rk t ik S T fi) := by
  intro k
  induction k with
  | zero =>
    intro i a hn
    refine fr_iload (pc := 89) rfl dX4_odds_89 ?_
    refine fr_iload_n (pc := 91) rfl dX4_odds_91 ?_
    refine fr_icmp_ge (pc := 92) 109 (by decide) dX4_odds_92 (fun h92 => ?_) (fun h92 => ?_)
    · refine fr_lload (pc := 109) rfl dX4_odds_109 ?_
      exact fr_lreturn (pc := 111) rfl rfl rfl dX4_odds_111
    · exact absurd (nI_le (by omega) (by omega)) h92
  | succ k ih =>
    intro i a hn
    refine fr_iload (pc := 89) rfl dX4_odds_89 ?_
    refine fr_iload_n (pc := 91) rfl dX4_odds_91 ?_
    refine fr_icmp_ge (pc := 92) 109 (by decide) dX4_odds_92 (fun h92 => ?_) (fun h92 => ?_)
    · exact absurd h92 (nI_ge (by omega) (by omega))
    · refine fr_lload (pc := 95) rfl dX4_odds_95 ?_
      refine fr_iload (pc := 97) rfl dX4_odds_97 ?_
      refine fr_i2l (pc := 99) dX4_odds_99 ?_
      refine fr_lmul (pc := 100) dX4_odds_100 ?_
      refine fr_lstore (pc := 101) [(8, .long (a * ((bs).toInt64))), (0, .ref 0), (1, .int q1), (2, .int (nI N)), (3, .int q3), (4, .int q4), (5, .int q5), (6, .int q6), (7, .int bs), (10, .int (nI i))] (by decide) rfl dX4_odds_101 ?_
      refine fr_iinc (pc := 103) (v := nI (i + 1)) [(10, .int (nI (i + 1))), (8, .long (a * ((bs).toInt64))), (0, .ref 0), (1, .int q1), (2, .int (nI N)), (3, .int q3), (4, .int q4), (5, .int q5), (6, .int q6), (7, .int bs)] rfl (nI_1 i) (by decide) rfl dX4_odds_103 ?_
      refine fr_goto (pc := 106) 89 (by decide) dX4_odds_106 ?_
      rw [s_pow]
      exact fr_sub [2, 3, 4, 5, 6, 7, 8, 9, 1, 0] rfl (ih (i + 1) (a * bs.toInt64) (by omega))
set_option maxRecDepth 100000 in
theorem x_odds {Γ : aG} {l : Launch} {M : Nat → aC} {r rk t : rT} {ik : Int32} {S : sT} {b : Nat → Int32} {ln : Int32} {J : Int32 × Int32 × Int32 × Int32} {fi : Nat → Int32} {g n q : Int32} (w : wf r)  : Ev Γ l mX4_odds [.ref 0, .int g, .int n, .int q] 54 (xM M r rk t ik S (b, ln, J) fi) (some (.long (sp_odds (r, rk, ik, S, b, ln, fi) g n q).1)) 54 (xF M t J (sp_odds (r, rk, ik, S, b, ln, fi) g n q).2) := by
  refine Ev.of [(0, .ref 0), (1, .int g), (2, .int n), (3, .int q)] (by decide) (Nat.le_of_ble_eq_true rfl) rfl ?_
  refine fr_aload_n (pc := 0) rfl dX4_odds_0 ?_
  refine fr_iload_n (pc := 1) rfl dX4_odds_1 ?_
  refine fr_callV0 (pc := 2) (ci := 3) (T := TX4) (N := 7) [.int g] [] (c_X4_isGuest) gc_X4_95 rfl rfl ⟨rfl, rfl, by decide, by decide⟩ (Nat.le_of_ble_eq_true rfl) rfl (by decide) x_0 ⟨by decide, by decide⟩ dX4_odds_2 ?_
  refine fr_if_eq (pc := 5) 27 (by decide) dX4_odds_5 (fun h5 => ?_) (fun h5 => ?_)
  · have g5 := bI_0.mp h5
    refine fr_aload_n (pc := 27) rfl dX4_odds_27 ?_
    refine fr_iconst (pc := 28) (v := 0) rfl dX4_odds_28 ?_
    refine fr_callV0 (pc := 29) (ci := 3) (T := TX4) (N := 7) [.int 0] [] (c_X4_found (k := 0) (by decide)) gc_X4_51 rfl rfl ⟨rfl, rfl, by decide, by decide⟩ (Nat.le_of_ble_eq_true rfl) rfl (by decide) x_0 ⟨by decide, by decide⟩ dX4_odds_29 ?_
    refine fr_i2l (pc := 32) dX4_odds_32 ?_
    exact fr_lreturn (pc := 33) rfl (by simp only [sp_odds, fb, sr, sG, xF, g5, if_true, if_false, not_true_eq_false, not_false_eq_true, or_true, true_or, or_false, false_or, and_true, true_and, and_false, false_and, or_self, and_self, eq_self] <;> rfl) (by simp only [sp_odds, fb, sr, sG, xF, g5, if_true, if_false, not_true_eq_false, not_false_eq_true, or_true, true_or, or_false, false_or, and_true, true_and, and_false, false_and, or_self, and_self, eq_self] <;> rfl) dX4_odds_33
  · have g5 := bI_n0 h5
    refine fr_iload_n (pc := 8) rfl dX4_odds_8 ?_
    refine fr_iconst (pc := 9) (v := 0) rfl dX4_odds_9 ?_
    refine fr_bipush (pc := 10) (v := 13) rfl dX4_odds_10 ?_
    refine fr_callS0 (pc := 12) [.int n, .int 0, .int 13] [] (c_X4_within) gc_X4_44 rfl rfl ⟨rfl, rfl, by decide, by decide⟩ (Nat.le_of_ble_eq_true rfl) ⟨by decide, by decide⟩ dX4_odds_12 ?_
    refine fr_if_eq (pc := 15) 27 (by decide) dX4_odds_15 (fun h15 => ?_) (fun h15 => ?_)
    · have g15 := bI_0.mp h15
      refine fr_aload_n (pc := 27) rfl dX4_odds_27 ?_
      refine fr_iconst (pc := 28) (v := 0) rfl dX4_odds_28 ?_
      refine fr_callV0 (pc := 29) (ci := 3) (T := TX4) (N := 7) [.int 0] [] (c_X4_found (k := 0) (by decide)) gc_X4_51 rfl rfl ⟨rfl, rfl, by decide, by decide⟩ (Nat.le_of_ble_eq_true rfl) rfl (by decide) x_0 ⟨by decide, by decide⟩ dX4_odds_29 ?_
      refine fr_i2l (pc := 32) dX4_odds_32 ?_
      exact fr_lreturn (pc := 33) rfl (by simp only [sp_odds, fb, sr, sG, xF, g5, g15, if_true, if_false, not_true_eq_false, not_false_eq_true, or_true, true_or, or_false, false_or, and_true, true_and, and_false, false_and, or_self, and_self, eq_self] <;> rfl) (by simp only [sp_odds, fb, sr, sG, xF, g5, g15, if_true, if_false, not_true_eq_false, not_false_eq_true, or_true, true_or, or_false, false_or, and_true, true_and, and_false, false_and, or_self, and_self, eq_self] <;> rfl) dX4_odds_33
    · have g15 := bI_n0 h15
      refine fr_iload_n (pc := 18) rfl dX4_odds_18 ?_
      refine fr_iconst (pc := 19) (v := 0) rfl dX4_odds_19 ?_
      refine fr_iconst (pc := 20) (v := 1) rfl dX4_odds_20 ?_
      refine fr_callS0 (pc := 21) [.int q, .int 0, .int 1] [] (c_X4_within) gc_X4_44 rfl rfl ⟨rfl, rfl, by decide, by decide⟩ (Nat.le_of_ble_eq_true rfl) ⟨by decide, by decide⟩ dX4_odds_21 ?_
      refine fr_if_ne (pc := 24) 34 (by decide) dX4_odds_24 (fun h24 => ?_) (fun h24 => ?_)
      · have g24 := bI_n0 h24
        obtain ⟨i1, hi1, rfl⟩ := sG_nI w g5
        have ei1 : (nI i1).toNatClampNeg = i1 := nI_clamp (by have := w.ctl; omega)
        have li1 : i1 < 8 := by have := w.ctl; omega
        obtain ⟨i2, hi2, rfl⟩ := wi_nI (N := 13) g15 rfl
        have ei2 : (nI i2).toNatClampNeg = i2 := nI_clamp (by omega)
        refine fr_aload_n (pc := 34) rfl dX4_odds_34 ?_
        refine fr_get (pc := 35) (ci := 3) (T := TX4) (k0 := 0) rfl hin_X4 (by decide) fl_X4_10 (by decide) x_0 rfl dX4_odds_35 ?_
        refine fr_iload_n (pc := 38) rfl dX4_odds_38 ?_
        refine fr_callV0 (pc := 39) (ci := 0) (T := TX0) (N := 15) [.int (nI i1)] [] (ev_H (fun _ => c_X0_measuresToAim (by omega) (by omega) (by assumption))) gc_X4_200 rfl rfl ⟨rfl, rfl, by decide, by decide⟩ (Nat.le_of_ble_eq_true rfl) rfl (by decide) x_1 ⟨by decide, by decide⟩ dX4_odds_39 ?_
        refine fr_nm (fun x4_42 e_x4_42 => ?_)
        refine fr_istore (pc := 42) [(4, .int x4_42), (0, .ref 0), (1, .int (nI i1)), (2, .int (nI i2)), (3, .int q)] (by decide) rfl dX4_odds_42 ?_
        refine fr_iload (pc := 44) rfl dX4_odds_44 ?_
        refine fr_bipush (pc := 46) (v := 21) rfl dX4_odds_46 ?_
        refine fr_callS0 (pc := 48) [.int x4_42, .int 21] [] (c_X4_commonDivisor) gc_X4_203 rfl rfl ⟨rfl, rfl, by decide, by decide⟩ (Nat.le_of_ble_eq_true rfl) ⟨by decide, by decide⟩ dX4_odds_48 ?_
        refine fr_nm (fun x5_51 e_x5_51 => ?_)
        refine fr_istore (pc := 51) [(5, .int x5_51), (4, .int x4_42), (0, .ref 0), (1, .int (nI i1)), (2, .int (nI i2)), (3, .int q)] (by decide) rfl dX4_odds_51 ?_
        refine fr_iload_n (pc := 53) rfl dX4_odds_53 ?_
        refine fr_if_ne (pc := 54) 62 (by decide) dX4_odds_54 (fun h54 => ?_) (fun h54 => ?_)
        · refine fr_bipush (pc := 62) (v := 21) rfl dX4_odds_62 ?_
          refine fr_istore (pc := 64) [(6, .int 21), (5, .int x5_51), (4, .int x4_42), (0, .ref 0), (1, .int (nI i1)), (2, .int (nI i2)), (3, .int q)] (by decide) rfl dX4_odds_64 ?_
          refine fr_iload (pc := 66) rfl dX4_odds_66 ?_
          refine fr_if_le (pc := 68) 79 (by decide) dX4_odds_68 (fun h68 => ?_) (fun h68 => ?_)
          · exact absurd h68 (Int32.not_le.mpr (by rw [e_x5_51, e_x4_42]; exact od_pos))
          · refine fr_iload (pc := 71) rfl dX4_odds_71 ?_
            refine fr_iload (pc := 73) rfl dX4_odds_73 ?_
            refine fr_idiv (pc := 75) (by rw [e_x5_51]; exact gcd_ne _ _ _ (by decide)) dX4_odds_75 ?_
            refine fr_goto (pc := 76) 81 (by decide) dX4_odds_76 ?_
            refine fr_nm (fun x7_81 e_x7_81 => ?_)
            refine fr_istore (pc := 81) [(7, .int x7_81), (6, .int 21), (5, .int x5_51), (4, .int x4_42), (0, .ref 0), (1, .int (nI i1)), (2, .int (nI i2)), (3, .int q)] (by decide) rfl dX4_odds_81 ?_
            refine fr_lconst (pc := 83) (v := 1) rfl dX4_odds_83 ?_
            refine fr_lstore (pc := 84) [(8, .long 1), (7, .int x7_81), (6, .int 21), (5, .int x5_51), (4, .int x4_42), (0, .ref 0), (1, .int (nI i1)), (2, .int (nI i2)), (3, .int q)] (by decide) rfl dX4_odds_84 ?_
            refine fr_iconst (pc := 86) (v := 0) rfl dX4_odds_86 ?_
            refine fr_istore (pc := 87) [(10, .int 0), (8, .long 1), (7, .int x7_81), (6, .int 21), (5, .int x5_51), (4, .int x4_42), (0, .ref 0), (1, .int (nI i1)), (2, .int (nI i2)), (3, .int q)] (by decide) rfl dX4_odds_87 ?_
            rw [show sp_odds (r, rk, ik, S, b, ln, fi) (nI i1) (nI i2) q = (s_pow x7_81.toInt64 i2 1, (r, rk, ik, S, b, ln, fi)) from by simp only [sp_odds, sG, g5, g15, g24, ei1, ei2, h54, if_true, if_false, not_true_eq_false, not_false_eq_true, or_true, true_or, or_false, false_or, and_true, true_and, and_false, false_and, or_self, and_self, eq_self]; rw [e_x7_81, e_x5_51, e_x4_42]; rfl]
            exact fr_sub [6, 7, 8, 9, 5, 4, 3, 2, 1, 0] rfl (od_loop (by omega) i2 0 1 (by omega))
        · refine fr_iload (pc := 57) rfl dX4_odds_57 ?_
          refine fr_goto (pc := 59) 64 (by decide) dX4_odds_59 ?_
          refine fr_istore (pc := 64) [(6, .int x4_42), (5, .int x5_51), (4, .int x4_42), (0, .ref 0), (1, .int (nI i1)), (2, .int (nI i2)), (3, .int q)] (by decide) rfl dX4_odds_64 ?_
          refine fr_iload (pc := 66) rfl dX4_odds_66 ?_
          refine fr_if_le (pc := 68) 79 (by decide) dX4_odds_68 (fun h68 => ?_) (fun h68 => ?_)
          · exact absurd h68 (Int32.not_le.mpr (by rw [e_x5_51, e_x4_42]; exact od_pos))
          · refine fr_iload (pc := 71) rfl dX4_odds_71 ?_
            refine fr_iload (pc := 73) rfl dX4_odds_73 ?_
            refine fr_idiv (pc := 75) (by rw [e_x5_51]; exact gcd_ne _ _ _ (by decide)) dX4_odds_75 ?_
            refine fr_goto (pc := 76) 81 (by decide) dX4_odds_76 ?_
            refine fr_nm (fun x7_81 e_x7_81 => ?_)
            refine fr_istore (pc := 81) [(7, .int x7_81), (6, .int x4_42), (5, .int x5_51), (4, .int x4_42), (0, .ref 0), (1, .int (nI i1)), (2, .int (nI i2)), (3, .int q)] (by decide) rfl dX4_odds_81 ?_
            refine fr_lconst (pc := 83) (v := 1) rfl dX4_odds_83 ?_
            refine fr_lstore (pc := 84) [(8, .long 1), (7, .int x7_81), (6, .int x4_42), (5, .int x5_51), (4, .int x4_42), (0, .ref 0), (1, .int (nI i1)), (2, .int (nI i2)), (3, .int q)] (by decide) rfl dX4_odds_84 ?_
            refine fr_iconst (pc := 86) (v := 0) rfl dX4_odds_86 ?_
            refine fr_istore (pc := 87) [(10, .int 0), (8, .long 1), (7, .int x7_81), (6, .int x4_42), (5, .int x5_51), (4, .int x4_42), (0, .ref 0), (1, .int (nI i1)), (2, .int (nI i2)), (3, .int q)] (by decide) rfl dX4_odds_87 ?_
            rw [show sp_odds (r, rk, ik, S, b, ln, fi) (nI i1) (nI i2) q = (s_pow x7_81.toInt64 i2 1, (r, rk, ik, S, b, ln, fi)) from by simp only [sp_odds, sG, g5, g15, g24, ei1, ei2, eq_true h54, if_true, if_false, not_true_eq_false, not_false_eq_true, or_true, true_or, or_false, false_or, and_true, true_and, and_false, false_and, or_self, and_self, eq_self]; rw [e_x7_81, e_x5_51, e_x4_42]; rfl]
            exact fr_sub [6, 7, 8, 9, 5, 4, 3, 2, 1, 0] rfl (od_loop (by omega) i2 0 1 (by omega))
      · have g24 := bI_0.mp h24
        refine fr_aload_n (pc := 27) rfl dX4_odds_27 ?_
        refine fr_iconst (pc := 28) (v := 0) rfl dX4_odds_28 ?_
        refine fr_callV0 (pc := 29) (ci := 3) (T := TX4) (N := 7) [.int 0] [] (c_X4_found (k := 0) (by decide)) gc_X4_51 rfl rfl ⟨rfl, rfl, by decide, by decide⟩ (Nat.le_of_ble_eq_true rfl) rfl (by decide) x_0 ⟨by decide, by decide⟩ dX4_odds_29 ?_
        refine fr_i2l (pc := 32) dX4_odds_32 ?_
        exact fr_lreturn (pc := 33) rfl (by simp only [sp_odds, fb, sr, sG, xF, g5, g15, g24, if_true, if_false, not_true_eq_false, not_false_eq_true, or_true, true_or, or_false, false_or, and_true, true_and, and_false, false_and, or_self, and_self, eq_self] <;> rfl) (by simp only [sp_odds, fb, sr, sG, xF, g5, g15, g24, if_true, if_false, not_true_eq_false, not_false_eq_true, or_true, true_or, or_false, false_or, and_true, true_and, and_false, false_and, or_self, and_self, eq_self] <;> rfl) dX4_odds_33
set_option maxRecDepth 100000 in
theorem c_told_0 {Γ : aG} {l : Launch} {M : Nat → aC} {r rk t : rT} {ik : Int32} {S : sT} {T : tT} {fi : Nat → Int32} {s g : Int32} (h : ¬ wi s 0 3 = true)  : Ev Γ l mX4_lackOfTold [.ref 0, .int s, .int g] 54 (xM M r rk t ik S T fi) (some (.int 0)) 54 (xM M r rk t ik S T fi) := by
  refine Ev.of [(0, .ref 0), (1, .int s), (2, .int g)] (by decide) (Nat.le_of_ble_eq_true rfl) rfl ?_
  refine fr_aload_n (pc := 0) rfl dX4_lackOfTold_0 ?_
  refine fr_iload_n (pc := 1) rfl dX4_lackOfTold_1 ?_
  refine fr_callV0 (pc := 2) (ci := 3) (T := TX4) (N := 7) [.int s] [] (c_lack_0 h) gc_X4_244 rfl rfl ⟨rfl, rfl, by decide, by decide⟩ (Nat.le_of_ble_eq_true rfl) rfl (by decide) x_0 ⟨by decide, by decide⟩ dX4_lackOfTold_2 ?_
  refine fr_istore_n (pc := 5) [(3, .int 0), (0, .ref 0), (1, .int s), (2, .int g)] (by decide) rfl dX4_lackOfTold_5 ?_
  refine fr_iload_n (pc := 6) rfl dX4_lackOfTold_6 ?_
  refine fr_if_lt (pc := 7) 12 (by decide) dX4_lackOfTold_7 (fun h7 => ?_) (fun h7 => ?_)
  · exact absurd h7 (by decide)
  · refine fr_iload_n (pc := 10) rfl dX4_lackOfTold_10 ?_
    exact fr_ireturn (pc := 11) rfl rfl rfl rfl dX4_lackOfTold_11
set_option maxRecDepth 100000 in
theorem c_told_5 {Γ : aG} {l : Launch} {M : Nat → aC} {r rk t : rT} {ik : Int32} {S : sT} {T : tT} {fi : Nat → Int32} {s : Nat} {g : Int32} (hs : s < 4) (h : S.2.1 s = 0)  : Ev Γ l mX4_lackOfTold [.ref 0, .int (nI s), .int g] 54 (xM M r rk t ik S T fi) (some (.int 5)) 54 (xM M r rk t ik S T fi) := by
  refine Ev.of [(0, .ref 0), (1, .int (nI s)), (2, .int g)] (by decide) (Nat.le_of_ble_eq_true rfl) rfl ?_
  refine fr_aload_n (pc := 0) rfl dX4_lackOfTold_0 ?_
  refine fr_iload_n (pc := 1) rfl dX4_lackOfTold_1 ?_
  refine fr_callV0 (pc := 2) (ci := 3) (T := TX4) (N := 7) [.int (nI s)] [] (c_lack_5 hs h) gc_X4_244 rfl rfl ⟨rfl, rfl, by decide, by decide⟩ (Nat.le_of_ble_eq_true rfl) rfl (by decide) x_0 ⟨by decide, by decide⟩ dX4_lackOfTold_2 ?_
  refine fr_istore_n (pc := 5) [(3, .int 5), (0, .ref 0), (1, .int (nI s)), (2, .int g)] (by decide) rfl dX4_lackOfTold_5 ?_
  refine fr_iload_n (pc := 6) rfl dX4_lackOfTold_6 ?_
  refine fr_if_lt (pc := 7) 12 (by decide) dX4_lackOfTold_7 (fun h7 => ?_) (fun h7 => ?_)
  · exact absurd h7 (by decide)
  · refine fr_iload_n (pc := 10) rfl dX4_lackOfTold_10 ?_
    exact fr_ireturn (pc := 11) rfl rfl rfl rfl dX4_lackOfTold_11
set_option maxRecDepth 100000 in
theorem c_told_g {Γ : aG} {l : Launch} {M : Nat → aC} {r rk t : rT} {ik : Int32} {S : sT} {T : tT} {fi : Nat → Int32} {s : Nat} {g : Int32} (hs : s < 4) (h : ¬ S.2.1 s = 0) (hg : ¬ wi g 0 (r 9 1 - 1) = true)  : Ev Γ l mX4_lackOfTold [.ref 0, .int (nI s), .int g] 54 (xM M r rk t ik S T fi) (some (.int 0)) 54 (xM M r rk t ik S T fi) := by
  refine Ev.of [(0, .ref 0), (1, .int (nI s)), (2, .int g)] (by decide) (Nat.le_of_ble_eq_true rfl) rfl ?_
  refine fr_aload_n (pc := 0) rfl dX4_lackOfTold_0 ?_
  refine fr_iload_n (pc := 1) rfl dX4_lackOfTold_1 ?_
  refine fr_callV0 (pc := 2) (ci := 3) (T := TX4) (N := 7) [.int (nI s)] [] (c_lack_n hs h) gc_X4_244 rfl rfl ⟨rfl, rfl, by decide, by decide⟩ (Nat.le_of_ble_eq_true rfl) rfl (by decide) x_0 ⟨by decide, by decide⟩ dX4_lackOfTold_2 ?_
  refine fr_istore_n (pc := 5) [(3, .int (-1)), (0, .ref 0), (1, .int (nI s)), (2, .int g)] (by decide) rfl dX4_lackOfTold_5 ?_
  refine fr_iload_n (pc := 6) rfl dX4_lackOfTold_6 ?_
  refine fr_if_lt (pc := 7) 12 (by decide) dX4_lackOfTold_7 (fun h7 => ?_) (fun h7 => ?_)
  · refine fr_aload_n (pc := 12) rfl dX4_lackOfTold_12 ?_
    refine fr_iload_n (pc := 13) rfl dX4_lackOfTold_13 ?_
    refine fr_callV0 (pc := 14) (ci := 3) (T := TX4) (N := 7) [.int g] [] (c_X4_isGuest) gc_X4_95 rfl rfl ⟨rfl, rfl, by decide, by decide⟩ (Nat.le_of_ble_eq_true rfl) rfl (by decide) x_0 ⟨by decide, by decide⟩ dX4_lackOfTold_14 ?_
    refine fr_if_eq (pc := 17) 24 (by decide) dX4_lackOfTold_17 (fun h17 => ?_) (fun h17 => ?_)
    · have g17 := bI_0.mp h17
      refine fr_iconst (pc := 24) (v := 0) rfl dX4_lackOfTold_24 ?_
      exact fr_ireturn (pc := 25) rfl rfl rfl rfl dX4_lackOfTold_25
    · have g17 := bI_n0 h17
      exact absurd g17 hg
  · exact absurd (by decide) h7
set_option maxRecDepth 100000 in
theorem c_told_n {Γ : aG} {l : Launch} {M : Nat → aC} {r rk t : rT} {ik : Int32} {S : sT} {T : tT} {fi : Nat → Int32} {s : Nat} {g : Int32} (hs : s < 4) (h : ¬ S.2.1 s = 0) (hg : wi g 0 (r 9 1 - 1) = true)  : Ev Γ l mX4_lackOfTold [.ref 0, .int (nI s), .int g] 54 (xM M r rk t ik S T fi) (some (.int (-1))) 54 (xM M r rk t ik S T fi) := by
  refine Ev.of [(0, .ref 0), (1, .int (nI s)), (2, .int g)] (by decide) (Nat.le_of_ble_eq_true rfl) rfl ?_
  refine fr_aload_n (pc := 0) rfl dX4_lackOfTold_0 ?_
  refine fr_iload_n (pc := 1) rfl dX4_lackOfTold_1 ?_
  refine fr_callV0 (pc := 2) (ci := 3) (T := TX4) (N := 7) [.int (nI s)] [] (c_lack_n hs h) gc_X4_244 rfl rfl ⟨rfl, rfl, by decide, by decide⟩ (Nat.le_of_ble_eq_true rfl) rfl (by decide) x_0 ⟨by decide, by decide⟩ dX4_lackOfTold_2 ?_
  refine fr_istore_n (pc := 5) [(3, .int (-1)), (0, .ref 0), (1, .int (nI s)), (2, .int g)] (by decide) rfl dX4_lackOfTold_5 ?_
  refine fr_iload_n (pc := 6) rfl dX4_lackOfTold_6 ?_
  refine fr_if_lt (pc := 7) 12 (by decide) dX4_lackOfTold_7 (fun h7 => ?_) (fun h7 => ?_)
  · refine fr_aload_n (pc := 12) rfl dX4_lackOfTold_12 ?_
    refine fr_iload_n (pc := 13) rfl dX4_lackOfTold_13 ?_
    refine fr_callV0 (pc := 14) (ci := 3) (T := TX4) (N := 7) [.int g] [] (c_X4_isGuest) gc_X4_95 rfl rfl ⟨rfl, rfl, by decide, by decide⟩ (Nat.le_of_ble_eq_true rfl) rfl (by decide) x_0 ⟨by decide, by decide⟩ dX4_lackOfTold_14 ?_
    refine fr_if_eq (pc := 17) 24 (by decide) dX4_lackOfTold_17 (fun h17 => ?_) (fun h17 => ?_)
    · have g17 := bI_0.mp h17
      exact absurd hg g17
    · have g17 := bI_n0 h17
      refine fr_iconst (pc := 20) (v := (-1)) rfl dX4_lackOfTold_20 ?_
      refine fr_goto (pc := 21) 25 (by decide) dX4_lackOfTold_21 ?_
      exact fr_ireturn (pc := 25) rfl rfl rfl rfl dX4_lackOfTold_25
  · exact absurd (by decide) h7
set_option maxRecDepth 100000 in
theorem ta_loop {Γ : aG} {l : Launch} {M : Nat → aC} {r rk : rT} {ik : Int32} {S : sT} {T : tT} {fi : Nat → Int32} {s g : Nat} (hs : s < 4) (hg : g < 8) (v : wS S) : ∀ (k i : Nat) (t : rT), wf t → i + k = (S.2.2 s).toNatClampNeg → ∃ t' : rT, Fr Γ l mX4_trialGoesAsTold 2 [(0, .ref 0), (1, .int (nI s)), (2, .int (nI g)), (3, .int (nI i))] [] 54 0 0 (xM M r rk t ik S T fi) (some (.int (bI (s_as (S.1 s) g k i t = true)))) 54 (xM M r rk t' ik S T fi) := by
  have hv := v.1 s hs
  have hv2 := hv.2
  intro k
  induction k with
  | zero =>
    intro i t w hn
    refine ⟨t, ?_⟩
    refine fr_iload_n (pc := 2) rfl dX4_trialGoesAsTold_2 ?_
    refine fr_aload_n (pc := 3) rfl dX4_trialGoesAsTold_3 ?_
    refine fr_get (pc := 4) (ci := 3) (T := TX4) (k0 := 4) rfl hin_X4 (by decide) fl_X4_29 (by decide) x_0 rfl dX4_trialGoesAsTold_4 ?_
    refine fr_get (pc := 7) (ci := 1) (T := TX2) (k0 := 2) rfl hin_X2 (by decide) fl_X4_247 (by decide) x_31 rfl dX4_trialGoesAsTold_7 ?_
    refine fr_iload_n (pc := 10) rfl dX4_trialGoesAsTold_10 ?_
    refine fr_iald (pc := 11) s rfl (by decide) x_38 (by first | assumption | omega) (by decide) dX4_trialGoesAsTold_11 ?_
    refine fr_icmp_ge (pc := 12) 63 (by decide) dX4_trialGoesAsTold_12 (fun h12 => ?_) (fun h12 => ?_)
    · refine fr_iconst (pc := 63) (v := 1) rfl dX4_trialGoesAsTold_63 ?_
      exact fr_ireturn (pc := 64) rfl (bI_t rfl).symm rfl rfl dX4_trialGoesAsTold_64
    · exact absurd (by rw [hv.1, ← hn]; exact Int32.le_refl _) h12
  | succ k ih =>
    intro i t w hn
    by_cases hp : S.1 s i = -1 ∨ S.1 s i = s_hour t 3 g
    · obtain ⟨t', ht⟩ := ih (i + 1) (s_hour t) (wf_hour w) (by omega)
      refine ⟨t', ?_⟩
      rw [s_as, if_pos hp]
      refine fr_iload_n (pc := 2) rfl dX4_trialGoesAsTold_2 ?_
      refine fr_aload_n (pc := 3) rfl dX4_trialGoesAsTold_3 ?_
      refine fr_get (pc := 4) (ci := 3) (T := TX4) (k0 := 4) rfl hin_X4 (by decide) fl_X4_29 (by decide) x_0 rfl dX4_trialGoesAsTold_4 ?_
      refine fr_get (pc := 7) (ci := 1) (T := TX2) (k0 := 2) rfl hin_X2 (by decide) fl_X4_247 (by decide) x_31 rfl dX4_trialGoesAsTold_7 ?_
      refine fr_iload_n (pc := 10) rfl dX4_trialGoesAsTold_10 ?_
      refine fr_iald (pc := 11) s rfl (by decide) x_38 (by first | assumption | omega) (by decide) dX4_trialGoesAsTold_11 ?_
      refine fr_icmp_ge (pc := 12) 63 (by decide) dX4_trialGoesAsTold_12 (fun h12 => ?_) (fun h12 => ?_)
      · exact absurd h12 (by rw [hv.1, ← hn]; exact nI_ge (by omega) (by omega))
      · refine fr_aload_n (pc := 15) rfl dX4_trialGoesAsTold_15 ?_
        refine fr_get (pc := 16) (ci := 3) (T := TX4) (k0 := 2) rfl hin_X4 (by decide) fl_X4_19 (by decide) x_0 rfl dX4_trialGoesAsTold_16 ?_
        refine fr_callV0 (pc := 19) (ci := 0) (T := TX0) (N := 15) [] [] (ev_T (fun _ => c_X0_passHour (by omega) (by assumption))) gc_X4_155 rfl rfl ⟨rfl, rfl, by decide, by decide⟩ (Nat.le_of_ble_eq_true rfl) rfl (by decide) x_21 ⟨by decide, by decide⟩ dX4_trialGoesAsTold_19 ?_
        refine fr_aload_n (pc := 22) rfl dX4_trialGoesAsTold_22 ?_
        refine fr_get (pc := 23) (ci := 3) (T := TX4) (k0 := 4) rfl hin_X4 (by decide) fl_X4_29 (by decide) x_0 rfl dX4_trialGoesAsTold_23 ?_
        refine fr_get (pc := 26) (ci := 1) (T := TX2) (k0 := 0) rfl hin_X2 (by decide) fl_X4_262 (by decide) x_31 rfl dX4_trialGoesAsTold_26 ?_
        refine fr_iload_n (pc := 29) rfl dX4_trialGoesAsTold_29 ?_
        refine fr_aaldI (pc := 30) s rfl (by decide) x_32 (by first | assumption | omega) (by decide) rfl dX4_trialGoesAsTold_30 ?_
        refine fr_iload_n (pc := 31) rfl dX4_trialGoesAsTold_31 ?_
        refine fr_iald (pc := 32) i rfl (by omega) (x_33 (by omega)) (by first | assumption | omega) (by decide) dX4_trialGoesAsTold_32 ?_
        refine fr_nm (fun x4_33 e_x4_33 => ?_)
        refine fr_istore (pc := 33) [(4, .int x4_33), (0, .ref 0), (1, .int (nI s)), (2, .int (nI g)), (3, .int (nI i))] (by decide) rfl dX4_trialGoesAsTold_33 ?_
        refine fr_iload (pc := 35) rfl dX4_trialGoesAsTold_35 ?_
        refine fr_iconst (pc := 37) (v := (-1)) rfl dX4_trialGoesAsTold_37 ?_
        refine fr_icmp_eq (pc := 38) 57 (by decide) dX4_trialGoesAsTold_38 (fun h38 => ?_) (fun h38 => ?_)
        · refine fr_iinc (pc := 57) (v := nI (i + 1)) [(3, .int (nI (i + 1))), (4, .int x4_33), (0, .ref 0), (1, .int (nI s)), (2, .int (nI g))] rfl (nI_1 i) (by decide) rfl dX4_trialGoesAsTold_57 ?_
          refine fr_goto (pc := 60) 2 (by decide) dX4_trialGoesAsTold_60 ?_
          exact fr_sub [2, 3, 4, 0] rfl (ht)
        · refine fr_iload (pc := 41) rfl dX4_trialGoesAsTold_41 ?_
          refine fr_aload_n (pc := 43) rfl dX4_trialGoesAsTold_43 ?_
          refine fr_get (pc := 44) (ci := 3) (T := TX4) (k0 := 2) rfl hin_X4 (by decide) fl_X4_19 (by decide) x_0 rfl dX4_trialGoesAsTold_44 ?_
          refine fr_get (pc := 47) (ci := 0) (T := TX0) (k0 := 8) rfl hin_X0 (by decide) fl_X4_158 (by decide) x_21 rfl dX4_trialGoesAsTold_47 ?_
          refine fr_iload_n (pc := 50) rfl dX4_trialGoesAsTold_50 ?_
          refine fr_iald (pc := 51) g rfl (by decide) x_t4 (by first | assumption | omega) (by decide) dX4_trialGoesAsTold_51 ?_
          refine fr_icmp_eq (pc := 52) 57 (by decide) dX4_trialGoesAsTold_52 (fun h52 => ?_) (fun h52 => ?_)
          · refine fr_iinc (pc := 57) (v := nI (i + 1)) [(3, .int (nI (i + 1))), (4, .int x4_33), (0, .ref 0), (1, .int (nI s)), (2, .int (nI g))] rfl (nI_1 i) (by decide) rfl dX4_trialGoesAsTold_57 ?_
            refine fr_goto (pc := 60) 2 (by decide) dX4_trialGoesAsTold_60 ?_
            exact fr_sub [2, 3, 4, 0] rfl (ht)
          · exact absurd hp (fun z => z.elim (fun y => h38 (e_x4_33.trans y)) (fun y => h52 (e_x4_33.trans y)))
    · refine ⟨s_hour t, ?_⟩
      rw [s_as, if_neg hp]
      refine fr_iload_n (pc := 2) rfl dX4_trialGoesAsTold_2 ?_
      refine fr_aload_n (pc := 3) rfl dX4_trialGoesAsTold_3 ?_
      refine fr_get (pc := 4) (ci := 3) (T := TX4) (k0 := 4) rfl hin_X4 (by decide) fl_X4_29 (by decide) x_0 rfl dX4_trialGoesAsTold_4 ?_
      refine fr_get (pc := 7) (ci := 1) (T := TX2) (k0 := 2) rfl hin_X2 (by decide) fl_X4_247 (by decide) x_31 rfl dX4_trialGoesAsTold_7 ?_
      refine fr_iload_n (pc := 10) rfl dX4_trialGoesAsTold_10 ?_
      refine fr_iald (pc := 11) s rfl (by decide) x_38 (by first | assumption | omega) (by decide) dX4_trialGoesAsTold_11 ?_
      refine fr_icmp_ge (pc := 12) 63 (by decide) dX4_trialGoesAsTold_12 (fun h12 => ?_) (fun h12 => ?_)
      · exact absurd h12 (by rw [hv.1, ← hn]; exact nI_ge (by omega) (by omega))
      · refine fr_aload_n (pc := 15) rfl dX4_trialGoesAsTold_15 ?_
        refine fr_get (pc := 16) (ci := 3) (T := TX4) (k0 := 2) rfl hin_X4 (by decide) fl_X4_19 (by decide) x_0 rfl dX4_trialGoesAsTold_16 ?_
        refine fr_callV0 (pc := 19) (ci := 0) (T := TX0) (N := 15) [] [] (ev_T (fun _ => c_X0_passHour (by omega) (by assumption))) gc_X4_155 rfl rfl ⟨rfl, rfl, by decide, by decide⟩ (Nat.le_of_ble_eq_true rfl) rfl (by decide) x_21 ⟨by decide, by decide⟩ dX4_trialGoesAsTold_19 ?_
        refine fr_aload_n (pc := 22) rfl dX4_trialGoesAsTold_22 ?_
        refine fr_get (pc := 23) (ci := 3) (T := TX4) (k0 := 4) rfl hin_X4 (by decide) fl_X4_29 (by decide) x_0 rfl dX4_trialGoesAsTold_23 ?_
        refine fr_get (pc := 26) (ci := 1) (T := TX2) (k0 := 0) rfl hin_X2 (by decide) fl_X4_262 (by decide) x_31 rfl dX4_trialGoesAsTold_26 ?_
        refine fr_iload_n (pc := 29) rfl dX4_trialGoesAsTold_29 ?_
        refine fr_aaldI (pc := 30) s rfl (by decide) x_32 (by first | assumption | omega) (by decide) rfl dX4_trialGoesAsTold_30 ?_
        refine fr_iload_n (pc := 31) rfl dX4_trialGoesAsTold_31 ?_
        refine fr_iald (pc := 32) i rfl (by omega) (x_33 (by omega)) (by first | assumption | omega) (by decide) dX4_trialGoesAsTold_32 ?_
        refine fr_nm (fun x4_33 e_x4_33 => ?_)
        refine fr_istore (pc := 33) [(4, .int x4_33), (0, .ref 0), (1, .int (nI s)), (2, .int (nI g)), (3, .int (nI i))] (by decide) rfl dX4_trialGoesAsTold_33 ?_
        refine fr_iload (pc := 35) rfl dX4_trialGoesAsTold_35 ?_
        refine fr_iconst (pc := 37) (v := (-1)) rfl dX4_trialGoesAsTold_37 ?_
        refine fr_icmp_eq (pc := 38) 57 (by decide) dX4_trialGoesAsTold_38 (fun h38 => ?_) (fun h38 => ?_)
        · exact absurd (Or.inl (e_x4_33.symm.trans h38)) hp
        · refine fr_iload (pc := 41) rfl dX4_trialGoesAsTold_41 ?_
          refine fr_aload_n (pc := 43) rfl dX4_trialGoesAsTold_43 ?_
          refine fr_get (pc := 44) (ci := 3) (T := TX4) (k0 := 2) rfl hin_X4 (by decide) fl_X4_19 (by decide) x_0 rfl dX4_trialGoesAsTold_44 ?_
          refine fr_get (pc := 47) (ci := 0) (T := TX0) (k0 := 8) rfl hin_X0 (by decide) fl_X4_158 (by decide) x_21 rfl dX4_trialGoesAsTold_47 ?_
          refine fr_iload_n (pc := 50) rfl dX4_trialGoesAsTold_50 ?_
          refine fr_iald (pc := 51) g rfl (by decide) x_t4 (by first | assumption | omega) (by decide) dX4_trialGoesAsTold_51 ?_
          refine fr_icmp_eq (pc := 52) 57 (by decide) dX4_trialGoesAsTold_52 (fun h52 => ?_) (fun h52 => ?_)
          · exact absurd (Or.inr (e_x4_33.symm.trans h52)) hp
          · refine fr_iconst (pc := 55) (v := 0) rfl dX4_trialGoesAsTold_55 ?_
            exact fr_ireturn (pc := 56) rfl (bI_f (by decide)).symm rfl rfl dX4_trialGoesAsTold_56
set_option maxRecDepth 100000 in
theorem c_tgat {Γ : aG} {l : Launch} {M : Nat → aC} {r rk t : rT} {ik : Int32} {S : sT} {T : tT} {fi : Nat → Int32} {s g : Nat} (hs : s < 4) (hg : g < 8) (v : wS S) (w : wf t) : ∃ t' : rT, Ev Γ l mX4_trialGoesAsTold [.ref 0, .int (nI s), .int (nI g)] 54 (xM M r rk t ik S T fi) (some (.int (bI (s_as (S.1 s) g (S.2.2 s).toNatClampNeg 0 t = true)))) 54 (xM M r rk t' ik S T fi) := by
  obtain ⟨t', ht⟩ := ta_loop (Γ := Γ) (l := l) (M := M) (r := r) (rk := rk) (ik := ik) (T := T) (fi := fi) hs hg v (S.2.2 s).toNatClampNeg 0 t w (by omega)
  refine ⟨t', ?_⟩
  refine Ev.of [(0, .ref 0), (1, .int (nI s)), (2, .int (nI g))] (by decide) (Nat.le_of_ble_eq_true rfl) rfl ?_
  refine fr_iconst (pc := 0) (v := 0) rfl dX4_trialGoesAsTold_0 ?_
  refine fr_istore_n (pc := 1) [(3, .int 0), (0, .ref 0), (1, .int (nI s)), (2, .int (nI g))] (by decide) rfl dX4_trialGoesAsTold_1 ?_
  exact fr_sub [1, 2, 3, 0] rfl (ht)
set_option maxRecDepth 100000 in
theorem ft_loop {Γ : aG} {l : Launch} {M : Nat → aC} {r rk : rT} {ik : Int32} {S : sT} {b : Nat → Int32} {ln : Int32} {J : Int32 × Int32 × Int32 × Int32} {fi : Nat → Int32} (w : wf r) (v : wS S) {s g : Nat} (hs : s < 4) (hg : g < 8) : ∀ (k m : Nat) (a : Int32) (t : rT), m + k = 37 → ∃ t' : rT, Fr Γ l mX4_fits 24 [(0, .ref 0), (1, .int (nI s)), (2, .int (nI g)), (3, .int (-1)), (4, .int a), (5, .int (nI m))] [] 54 0 0 (xM M r rk t ik S (b, ln, J) fi) (some (.int (s_sum (q_fit (r, rk, ik, S, b, ln, fi) s g) k m a))) 54 (xM M r rk t' ik S (b, ln, J) fi) := by
  intro k
  induction k with
  | zero =>
    intro m a t hn
    refine ⟨t, ?_⟩
    refine fr_iload (pc := 24) rfl dX4_fits_24 ?_
    refine fr_bipush (pc := 26) (v := 36) rfl dX4_fits_26 ?_
    refine fr_icmp_gt (pc := 28) 70 (by decide) dX4_fits_28 (fun h28 => ?_) (fun h28 => ?_)
    · refine fr_iload (pc := 70) rfl dX4_fits_70 ?_
      exact fr_ireturn (pc := 72) rfl rfl rfl rfl dX4_fits_72
    · exact absurd (nI_lt (a := 36) (b := m) (by omega) (by omega)) h28
  | succ k ih =>
    intro m a t hn
    have w1 : wf (u2 r 1 (s_place r) (nI m)) := by
      refine wf_u2 w ?_ ?_ ?_ ?_ ?_ ?_ ?_ <;> (intro h; try omega)
    obtain ⟨t1, E1⟩ := c_tgat (Γ := Γ) (l := l) (M := M) (r := r) (rk := rk) (ik := ik) (T := (b, ln, J)) (fi := fi) hs hg v w1
    by_cases hp : s_as (S.1 s) g (S.2.2 s).toNatClampNeg 0 (u2 r 1 (s_place r) (nI m)) = true
    · obtain ⟨t', ht⟩ := ih (m + 1) (a + 1) t1 (by omega)
      refine ⟨t', ?_⟩
      rw [s_sum, show q_fit (r, rk, ik, S, b, ln, fi) s g m = 1 from if_pos hp]
      refine fr_iload (pc := 24) rfl dX4_fits_24 ?_
      refine fr_bipush (pc := 26) (v := 36) rfl dX4_fits_26 ?_
      refine fr_icmp_gt (pc := 28) 70 (by decide) dX4_fits_28 (fun h28 => ?_) (fun h28 => ?_)
      · exact absurd h28 (nI_nlt (a := 36) (b := m) (by omega) (by omega))
      · refine fr_aload_n (pc := 31) rfl dX4_fits_31 ?_
        refine fr_callV0 (pc := 32) (ci := 3) (T := TX4) (N := 7) [] [] (c_X4_startTrial) gc_X4_152 rfl rfl ⟨rfl, rfl, by decide, by decide⟩ (Nat.le_of_ble_eq_true rfl) rfl (by decide) x_0 ⟨by decide, by decide⟩ dX4_fits_32 ?_
        refine fr_aload_n (pc := 35) rfl dX4_fits_35 ?_
        refine fr_get (pc := 36) (ci := 3) (T := TX4) (k0 := 2) rfl hin_X4 (by decide) fl_X4_19 (by decide) x_0 rfl dX4_fits_36 ?_
        refine fr_get (pc := 39) (ci := 0) (T := TX0) (k0 := 1) rfl hin_X0 (by decide) fl_X4_78 (by decide) x_21 rfl dX4_fits_39 ?_
        refine fr_aload_n (pc := 42) rfl dX4_fits_42 ?_
        refine fr_get (pc := 43) (ci := 3) (T := TX4) (k0 := 2) rfl hin_X4 (by decide) fl_X4_19 (by decide) x_0 rfl dX4_fits_43 ?_
        refine fr_callV0 (pc := 46) (ci := 0) (T := TX0) (N := 15) [] [.ref 23] (ev_T (fun _ => c_X0_placeNow (by omega) (by assumption))) gc_X4_190 rfl rfl ⟨rfl, rfl, by decide, by decide⟩ (Nat.le_of_ble_eq_true rfl) rfl (by decide) x_21 ⟨by decide, by decide⟩ dX4_fits_46 ?_
        refine fr_iload (pc := 49) rfl dX4_fits_49 ?_
        refine fr_iast (pc := 51) (s_place r) rfl (by decide) x_t2 pl_lt (by decide) dX4_fits_51 ?_
        refine fr_mem x_ta1 ?_
        refine fr_aload_n (pc := 52) rfl dX4_fits_52 ?_
        refine fr_iload_n (pc := 53) rfl dX4_fits_53 ?_
        refine fr_iload_n (pc := 54) rfl dX4_fits_54 ?_
        refine fr_callV0 (pc := 55) (ci := 3) (T := TX4) (N := 7) [.int (nI s), .int (nI g)] [] (E1) gc_X4_193 rfl rfl ⟨rfl, rfl, by decide, by decide⟩ (Nat.le_of_ble_eq_true rfl) rfl (by decide) x_0 ⟨by decide, by decide⟩ dX4_fits_55 ?_
        refine fr_if_eq (pc := 58) 64 (by decide) dX4_fits_58 (fun h58 => ?_) (fun h58 => ?_)
        · have g58 := bI_0.mp h58
          exact absurd hp g58
        · have g58 := bI_n0 h58
          refine fr_iinc (pc := 61) (v := (a + 1)) [(4, .int (a + 1)), (0, .ref 0), (1, .int (nI s)), (2, .int (nI g)), (3, .int (-1)), (5, .int (nI m))] rfl rfl (by decide) rfl dX4_fits_61 ?_
          refine fr_iinc (pc := 64) (v := nI (m + 1)) [(5, .int (nI (m + 1))), (4, .int (a + 1)), (0, .ref 0), (1, .int (nI s)), (2, .int (nI g)), (3, .int (-1))] rfl (nI_1 m) (by decide) rfl dX4_fits_64 ?_
          refine fr_goto (pc := 67) 24 (by decide) dX4_fits_67 ?_
          exact fr_sub [2, 3, 4, 5, 1, 0] rfl (ht)
    · obtain ⟨t', ht⟩ := ih (m + 1) a t1 (by omega)
      refine ⟨t', ?_⟩
      rw [s_sum, show q_fit (r, rk, ik, S, b, ln, fi) s g m = 0 from if_neg hp, Int32.add_zero]
      refine fr_iload (pc := 24) rfl dX4_fits_24 ?_
      refine fr_bipush (pc := 26) (v := 36) rfl dX4_fits_26 ?_
      refine fr_icmp_gt (pc := 28) 70 (by decide) dX4_fits_28 (fun h28 => ?_) (fun h28 => ?_)
      · exact absurd h28 (nI_nlt (a := 36) (b := m) (by omega) (by omega))
      · refine fr_aload_n (pc := 31) rfl dX4_fits_31 ?_
        refine fr_callV0 (pc := 32) (ci := 3) (T := TX4) (N := 7) [] [] (c_X4_startTrial) gc_X4_152 rfl rfl ⟨rfl, rfl, by decide, by decide⟩ (Nat.le_of_ble_eq_true rfl) rfl (by decide) x_0 ⟨by decide, by decide⟩ dX4_fits_32 ?_
        refine fr_aload_n (pc := 35) rfl dX4_fits_35 ?_
        refine fr_get (pc := 36) (ci := 3) (T := TX4) (k0 := 2) rfl hin_X4 (by decide) fl_X4_19 (by decide) x_0 rfl dX4_fits_36 ?_
        refine fr_get (pc := 39) (ci := 0) (T := TX0) (k0 := 1) rfl hin_X0 (by decide) fl_X4_78 (by decide) x_21 rfl dX4_fits_39 ?_
        refine fr_aload_n (pc := 42) rfl dX4_fits_42 ?_
        refine fr_get (pc := 43) (ci := 3) (T := TX4) (k0 := 2) rfl hin_X4 (by decide) fl_X4_19 (by decide) x_0 rfl dX4_fits_43 ?_
        refine fr_callV0 (pc := 46) (ci := 0) (T := TX0) (N := 15) [] [.ref 23] (ev_T (fun _ => c_X0_placeNow (by omega) (by assumption))) gc_X4_190 rfl rfl ⟨rfl, rfl, by decide, by decide⟩ (Nat.le_of_ble_eq_true rfl) rfl (by decide) x_21 ⟨by decide, by decide⟩ dX4_fits_46 ?_
        refine fr_iload (pc := 49) rfl dX4_fits_49 ?_
        refine fr_iast (pc := 51) (s_place r) rfl (by decide) x_t2 pl_lt (by decide) dX4_fits_51 ?_
        refine fr_mem x_ta1 ?_
        refine fr_aload_n (pc := 52) rfl dX4_fits_52 ?_
        refine fr_iload_n (pc := 53) rfl dX4_fits_53 ?_
        refine fr_iload_n (pc := 54) rfl dX4_fits_54 ?_
        refine fr_callV0 (pc := 55) (ci := 3) (T := TX4) (N := 7) [.int (nI s), .int (nI g)] [] (E1) gc_X4_193 rfl rfl ⟨rfl, rfl, by decide, by decide⟩ (Nat.le_of_ble_eq_true rfl) rfl (by decide) x_0 ⟨by decide, by decide⟩ dX4_fits_55 ?_
        refine fr_if_eq (pc := 58) 64 (by decide) dX4_fits_58 (fun h58 => ?_) (fun h58 => ?_)
        · have g58 := bI_0.mp h58
          refine fr_iinc (pc := 64) (v := nI (m + 1)) [(5, .int (nI (m + 1))), (0, .ref 0), (1, .int (nI s)), (2, .int (nI g)), (3, .int (-1)), (4, .int a)] rfl (nI_1 m) (by decide) rfl dX4_fits_64 ?_
          refine fr_goto (pc := 67) 24 (by decide) dX4_fits_67 ?_
          exact fr_sub [1, 2, 3, 4, 5, 0] rfl (ht)
        · have g58 := bI_n0 h58
          exact absurd g58 hp
set_option maxRecDepth 100000 in
theorem kd_loop {Γ : aG} {l : Launch} {M : Nat → aC} {r rk : rT} {ik : Int32} {S : sT} {b : Nat → Int32} {ln : Int32} {J : Int32 × Int32 × Int32 × Int32} {fi : Nat → Int32} (w : wf r) (v : wS S) {s g : Nat} (hs : s < 4) (hg : g < 8) : ∀ (k m : Nat) (a : Int32) (t : rT), m + k = 7 → ∃ t' : rT, Fr Γ l mX4_kinds 23 [(0, .ref 0), (1, .int (nI s)), (2, .int (nI g)), (3, .int (-1)), (4, .int a), (5, .int (nI m))] [] 54 0 0 (xM M r rk t ik S (b, ln, J) fi) (some (.int (s_set (q_knd (r, rk, ik, S, b, ln, fi) s g) k m a))) 54 (xM M r rk t' ik S (b, ln, J) fi) := by
  intro k
  induction k with
  | zero =>
    intro m a t hn
    refine ⟨t, ?_⟩
    refine fr_iload (pc := 23) rfl dX4_kinds_23 ?_
    refine fr_bipush (pc := 25) (v := 7) rfl dX4_kinds_25 ?_
    refine fr_icmp_ge (pc := 27) 69 (by decide) dX4_kinds_27 (fun h27 => ?_) (fun h27 => ?_)
    · refine fr_iload (pc := 69) rfl dX4_kinds_69 ?_
      exact fr_ireturn (pc := 71) rfl rfl rfl rfl dX4_kinds_71
    · exact absurd (nI_le (a := 7) (b := m) (by omega) (by omega)) h27
  | succ k ih =>
    intro m a t hn
    have w1 : wf (u2 r 2 g (nI m)) := by
      refine wf_u2 w ?_ ?_ ?_ ?_ ?_ ?_ ?_ <;> (intro h; try omega)
      exact okv_nI (by omega) (by decide)
    obtain ⟨t1, E1⟩ := c_tgat (Γ := Γ) (l := l) (M := M) (r := r) (rk := rk) (ik := ik) (T := (b, ln, J)) (fi := fi) hs hg v w1
    by_cases hp : s_as (S.1 s) g (S.2.2 s).toNatClampNeg 0 (u2 r 2 g (nI m)) = true
    · obtain ⟨t', ht⟩ := ih (m + 1) (a ||| 1 <<< (nI m &&& 31)) t1 (by omega)
      refine ⟨t', ?_⟩
      rw [s_set, if_pos (show q_knd (r, rk, ik, S, b, ln, fi) s g m = true from hp)]
      refine fr_iload (pc := 23) rfl dX4_kinds_23 ?_
      refine fr_bipush (pc := 25) (v := 7) rfl dX4_kinds_25 ?_
      refine fr_icmp_ge (pc := 27) 69 (by decide) dX4_kinds_27 (fun h27 => ?_) (fun h27 => ?_)
      · exact absurd h27 (nI_ge (a := m) (b := 7) (by omega) (by omega))
      · refine fr_aload_n (pc := 30) rfl dX4_kinds_30 ?_
        refine fr_callV0 (pc := 31) (ci := 3) (T := TX4) (N := 7) [] [] (c_X4_startTrial) gc_X4_152 rfl rfl ⟨rfl, rfl, by decide, by decide⟩ (Nat.le_of_ble_eq_true rfl) rfl (by decide) x_0 ⟨by decide, by decide⟩ dX4_kinds_31 ?_
        refine fr_aload_n (pc := 34) rfl dX4_kinds_34 ?_
        refine fr_get (pc := 35) (ci := 3) (T := TX4) (k0 := 2) rfl hin_X4 (by decide) fl_X4_19 (by decide) x_0 rfl dX4_kinds_35 ?_
        refine fr_get (pc := 38) (ci := 0) (T := TX0) (k0 := 7) rfl hin_X0 (by decide) fl_X4_101 (by decide) x_21 rfl dX4_kinds_38 ?_
        refine fr_iload_n (pc := 41) rfl dX4_kinds_41 ?_
        refine fr_iload (pc := 42) rfl dX4_kinds_42 ?_
        refine fr_iast (pc := 44) g rfl (by decide) x_t3 (by first | assumption | omega) (by decide) dX4_kinds_44 ?_
        refine fr_mem x_ta2 ?_
        refine fr_aload_n (pc := 45) rfl dX4_kinds_45 ?_
        refine fr_iload_n (pc := 46) rfl dX4_kinds_46 ?_
        refine fr_iload_n (pc := 47) rfl dX4_kinds_47 ?_
        refine fr_callV0 (pc := 48) (ci := 3) (T := TX4) (N := 7) [.int (nI s), .int (nI g)] [] (E1) gc_X4_193 rfl rfl ⟨rfl, rfl, by decide, by decide⟩ (Nat.le_of_ble_eq_true rfl) rfl (by decide) x_0 ⟨by decide, by decide⟩ dX4_kinds_48 ?_
        refine fr_if_eq (pc := 51) 63 (by decide) dX4_kinds_51 (fun h51 => ?_) (fun h51 => ?_)
        · have g51 := bI_0.mp h51
          exact absurd hp g51
        · have g51 := bI_n0 h51
          refine fr_iload (pc := 54) rfl dX4_kinds_54 ?_
          refine fr_iconst (pc := 56) (v := 1) rfl dX4_kinds_56 ?_
          refine fr_iload (pc := 57) rfl dX4_kinds_57 ?_
          refine fr_ishl (pc := 59) dX4_kinds_59 ?_
          refine fr_ior (pc := 60) dX4_kinds_60 ?_
          refine fr_nm (fun x4_61 e_x4_61 => ?_)
          refine fr_istore (pc := 61) [(4, .int x4_61), (0, .ref 0), (1, .int (nI s)), (2, .int (nI g)), (3, .int (-1)), (5, .int (nI m))] (by decide) rfl dX4_kinds_61 ?_
          refine fr_iinc (pc := 63) (v := nI (m + 1)) [(5, .int (nI (m + 1))), (4, .int x4_61), (0, .ref 0), (1, .int (nI s)), (2, .int (nI g)), (3, .int (-1))] rfl (nI_1 m) (by decide) rfl dX4_kinds_63 ?_
          refine fr_goto (pc := 66) 23 (by decide) dX4_kinds_66 ?_
          rw [← e_x4_61] at ht ⊢
          exact fr_sub [2, 3, 4, 5, 1, 0] rfl (ht)
    · obtain ⟨t', ht⟩ := ih (m + 1) a t1 (by omega)
      refine ⟨t', ?_⟩
      rw [s_set, if_neg (show ¬ q_knd (r, rk, ik, S, b, ln, fi) s g m = true from hp), Int32.or_zero]
      refine fr_iload (pc := 23) rfl dX4_kinds_23 ?_
      refine fr_bipush (pc := 25) (v := 7) rfl dX4_kinds_25 ?_
      refine fr_icmp_ge (pc := 27) 69 (by decide) dX4_kinds_27 (fun h27 => ?_) (fun h27 => ?_)
      · exact absurd h27 (nI_ge (a := m) (b := 7) (by omega) (by omega))
      · refine fr_aload_n (pc := 30) rfl dX4_kinds_30 ?_
        refine fr_callV0 (pc := 31) (ci := 3) (T := TX4) (N := 7) [] [] (c_X4_startTrial) gc_X4_152 rfl rfl ⟨rfl, rfl, by decide, by decide⟩ (Nat.le_of_ble_eq_true rfl) rfl (by decide) x_0 ⟨by decide, by decide⟩ dX4_kinds_31 ?_
        refine fr_aload_n (pc := 34) rfl dX4_kinds_34 ?_
        refine fr_get (pc := 35) (ci := 3) (T := TX4) (k0 := 2) rfl hin_X4 (by decide) fl_X4_19 (by decide) x_0 rfl dX4_kinds_35 ?_
        refine fr_get (pc := 38) (ci := 0) (T := TX0) (k0 := 7) rfl hin_X0 (by decide) fl_X4_101 (by decide) x_21 rfl dX4_kinds_38 ?_
        refine fr_iload_n (pc := 41) rfl dX4_kinds_41 ?_
        refine fr_iload (pc := 42) rfl dX4_kinds_42 ?_
        refine fr_iast (pc := 44) g rfl (by decide) x_t3 (by first | assumption | omega) (by decide) dX4_kinds_44 ?_
        refine fr_mem x_ta2 ?_
        refine fr_aload_n (pc := 45) rfl dX4_kinds_45 ?_
        refine fr_iload_n (pc := 46) rfl dX4_kinds_46 ?_
        refine fr_iload_n (pc := 47) rfl dX4_kinds_47 ?_
        refine fr_callV0 (pc := 48) (ci := 3) (T := TX4) (N := 7) [.int (nI s), .int (nI g)] [] (E1) gc_X4_193 rfl rfl ⟨rfl, rfl, by decide, by decide⟩ (Nat.le_of_ble_eq_true rfl) rfl (by decide) x_0 ⟨by decide, by decide⟩ dX4_kinds_48 ?_
        refine fr_if_eq (pc := 51) 63 (by decide) dX4_kinds_51 (fun h51 => ?_) (fun h51 => ?_)
        · have g51 := bI_0.mp h51
          refine fr_iinc (pc := 63) (v := nI (m + 1)) [(5, .int (nI (m + 1))), (0, .ref 0), (1, .int (nI s)), (2, .int (nI g)), (3, .int (-1)), (4, .int a)] rfl (nI_1 m) (by decide) rfl dX4_kinds_63 ?_
          refine fr_goto (pc := 66) 23 (by decide) dX4_kinds_66 ?_
          exact fr_sub [1, 2, 3, 4, 5, 0] rfl (ht)
        · have g51 := bI_n0 h51
          exact absurd g51 hp
set_option maxRecDepth 100000 in
theorem x_fits {Γ : aG} {l : Launch} {M : Nat → aC} {r rk t : rT} {ik : Int32} {S : sT} {b : Nat → Int32} {ln : Int32} {J : Int32 × Int32 × Int32 × Int32} {fi : Nat → Int32} {s g : Int32} (w : wf r) (v : wS S)  : ∃ t' : rT, Ev Γ l mX4_fits [.ref 0, .int s, .int g] 54 (xM M r rk t ik S (b, ln, J) fi) (some (.int (sp_fits (r, rk, ik, S, b, ln, fi) s g).1)) 54 (xF M t' J (sp_fits (r, rk, ik, S, b, ln, fi) s g).2) := by
  rcases lk (S := S) s with k1 | ⟨i1, hi1, rfl, k1⟩ | ⟨i1, hi1, rfl, k1⟩
  · refine ⟨t, ?_⟩
    rw [show sp_fits (r, rk, ik, S, b, ln, fi) s g = fb (r, rk, ik, S, b, ln, fi) 0 from if_neg k1]
    refine Ev.of [(0, .ref 0), (1, .int s), (2, .int g)] (by decide) (Nat.le_of_ble_eq_true rfl) rfl ?_
    refine fr_aload_n (pc := 0) rfl dX4_fits_0 ?_
    refine fr_iload_n (pc := 1) rfl dX4_fits_1 ?_
    refine fr_iload_n (pc := 2) rfl dX4_fits_2 ?_
    refine fr_callV0 (pc := 3) (ci := 3) (T := TX4) (N := 7) [.int s, .int g] [] (c_told_0 k1) gc_X4_187 rfl rfl ⟨rfl, rfl, by decide, by decide⟩ (Nat.le_of_ble_eq_true rfl) rfl (by decide) x_0 ⟨by decide, by decide⟩ dX4_fits_3 ?_
    refine fr_istore_n (pc := 6) [(3, .int 0), (0, .ref 0), (1, .int s), (2, .int g)] (by decide) rfl dX4_fits_6 ?_
    refine fr_iload_n (pc := 7) rfl dX4_fits_7 ?_
    refine fr_if_lt (pc := 8) 17 (by decide) dX4_fits_8 (fun h8 => ?_) (fun h8 => ?_)
    · exact absurd h8 (by decide)
    · refine fr_aload_n (pc := 11) rfl dX4_fits_11 ?_
      refine fr_iload_n (pc := 12) rfl dX4_fits_12 ?_
      refine fr_callV0 (pc := 13) (ci := 3) (T := TX4) (N := 7) [.int 0] [] (c_X4_found (k := 0) (by decide)) gc_X4_51 rfl rfl ⟨rfl, rfl, by decide, by decide⟩ (Nat.le_of_ble_eq_true rfl) rfl (by decide) x_0 ⟨by decide, by decide⟩ dX4_fits_13 ?_
      exact fr_ireturn (pc := 16) rfl rfl rfl rfl dX4_fits_16
  · refine ⟨t, ?_⟩
    have ei1 : (nI i1).toNatClampNeg = i1 := nI_clamp (by omega)
    rw [show sp_fits (r, rk, ik, S, b, ln, fi) (nI i1) g = fb (r, rk, ik, S, b, ln, fi) 5 from by unfold sp_fits; rw [ei1, if_pos (wi3 hi1), if_pos k1]]
    refine Ev.of [(0, .ref 0), (1, .int (nI i1)), (2, .int g)] (by decide) (Nat.le_of_ble_eq_true rfl) rfl ?_
    refine fr_aload_n (pc := 0) rfl dX4_fits_0 ?_
    refine fr_iload_n (pc := 1) rfl dX4_fits_1 ?_
    refine fr_iload_n (pc := 2) rfl dX4_fits_2 ?_
    refine fr_callV0 (pc := 3) (ci := 3) (T := TX4) (N := 7) [.int (nI i1), .int g] [] (c_told_5 hi1 k1) gc_X4_187 rfl rfl ⟨rfl, rfl, by decide, by decide⟩ (Nat.le_of_ble_eq_true rfl) rfl (by decide) x_0 ⟨by decide, by decide⟩ dX4_fits_3 ?_
    refine fr_istore_n (pc := 6) [(3, .int 5), (0, .ref 0), (1, .int (nI i1)), (2, .int g)] (by decide) rfl dX4_fits_6 ?_
    refine fr_iload_n (pc := 7) rfl dX4_fits_7 ?_
    refine fr_if_lt (pc := 8) 17 (by decide) dX4_fits_8 (fun h8 => ?_) (fun h8 => ?_)
    · exact absurd h8 (by decide)
    · refine fr_aload_n (pc := 11) rfl dX4_fits_11 ?_
      refine fr_iload_n (pc := 12) rfl dX4_fits_12 ?_
      refine fr_callV0 (pc := 13) (ci := 3) (T := TX4) (N := 7) [.int 5] [] (c_X4_found (k := 5) (by decide)) gc_X4_51 rfl rfl ⟨rfl, rfl, by decide, by decide⟩ (Nat.le_of_ble_eq_true rfl) rfl (by decide) x_0 ⟨by decide, by decide⟩ dX4_fits_13 ?_
      exact fr_ireturn (pc := 16) rfl rfl rfl rfl dX4_fits_16
  · have ei1 : (nI i1).toNatClampNeg = i1 := nI_clamp (by omega)
    by_cases hg : wi g 0 (r 9 1 - 1) = true
    · obtain ⟨i2, hi2, rfl⟩ := sG_nI w hg
      have ei2 : (nI i2).toNatClampNeg = i2 := nI_clamp (by have := w.ctl; omega)
      obtain ⟨t', ht⟩ := ft_loop (Γ := Γ) (l := l) (M := M) (r := r) (rk := rk) (ik := ik) (S := S) (b := b) (ln := ln) (J := J) (fi := fi) w v (s := i1) (g := i2) hi1 (by have := w.ctl; omega) 21 16 0 t rfl
      refine ⟨t', ?_⟩
      rw [show sp_fits (r, rk, ik, S, b, ln, fi) (nI i1) (nI i2) = (s_sum (q_fit (r, rk, ik, S, b, ln, fi) i1 i2) 21 16 0, (r, rk, ik, S, b, ln, fi)) from by unfold sp_fits; rw [ei1, ei2, if_pos (wi3 hi1), if_neg k1, if_pos (show sG (r, rk, ik, S, b, ln, fi) (nI i2) = true from hg)]]
      refine Ev.of [(0, .ref 0), (1, .int (nI i1)), (2, .int (nI i2))] (by decide) (Nat.le_of_ble_eq_true rfl) rfl ?_
      refine fr_aload_n (pc := 0) rfl dX4_fits_0 ?_
      refine fr_iload_n (pc := 1) rfl dX4_fits_1 ?_
      refine fr_iload_n (pc := 2) rfl dX4_fits_2 ?_
      refine fr_callV0 (pc := 3) (ci := 3) (T := TX4) (N := 7) [.int (nI i1), .int (nI i2)] [] (c_told_n hi1 k1 hg) gc_X4_187 rfl rfl ⟨rfl, rfl, by decide, by decide⟩ (Nat.le_of_ble_eq_true rfl) rfl (by decide) x_0 ⟨by decide, by decide⟩ dX4_fits_3 ?_
      refine fr_istore_n (pc := 6) [(3, .int (-1)), (0, .ref 0), (1, .int (nI i1)), (2, .int (nI i2))] (by decide) rfl dX4_fits_6 ?_
      refine fr_iload_n (pc := 7) rfl dX4_fits_7 ?_
      refine fr_if_lt (pc := 8) 17 (by decide) dX4_fits_8 (fun h8 => ?_) (fun h8 => ?_)
      · refine fr_iconst (pc := 17) (v := 0) rfl dX4_fits_17 ?_
        refine fr_istore (pc := 18) [(4, .int 0), (3, .int (-1)), (0, .ref 0), (1, .int (nI i1)), (2, .int (nI i2))] (by decide) rfl dX4_fits_18 ?_
        refine fr_bipush (pc := 20) (v := 16) rfl dX4_fits_20 ?_
        refine fr_istore (pc := 22) [(5, .int 16), (4, .int 0), (3, .int (-1)), (0, .ref 0), (1, .int (nI i1)), (2, .int (nI i2))] (by decide) rfl dX4_fits_22 ?_
        exact fr_sub [3, 4, 5, 2, 1, 0] rfl (ht)
      · exact absurd (by decide) h8
    · refine ⟨t, ?_⟩
      rw [show sp_fits (r, rk, ik, S, b, ln, fi) (nI i1) g = fb (r, rk, ik, S, b, ln, fi) 0 from by unfold sp_fits; rw [ei1, if_pos (wi3 hi1), if_neg k1, if_neg (show ¬ sG (r, rk, ik, S, b, ln, fi) g = true from hg)]]
      refine Ev.of [(0, .ref 0), (1, .int (nI i1)), (2, .int g)] (by decide) (Nat.le_of_ble_eq_true rfl) rfl ?_
      refine fr_aload_n (pc := 0) rfl dX4_fits_0 ?_
      refine fr_iload_n (pc := 1) rfl dX4_fits_1 ?_
      refine fr_iload_n (pc := 2) rfl dX4_fits_2 ?_
      refine fr_callV0 (pc := 3) (ci := 3) (T := TX4) (N := 7) [.int (nI i1), .int g] [] (c_told_g hi1 k1 hg) gc_X4_187 rfl rfl ⟨rfl, rfl, by decide, by decide⟩ (Nat.le_of_ble_eq_true rfl) rfl (by decide) x_0 ⟨by decide, by decide⟩ dX4_fits_3 ?_
      refine fr_istore_n (pc := 6) [(3, .int 0), (0, .ref 0), (1, .int (nI i1)), (2, .int g)] (by decide) rfl dX4_fits_6 ?_
      refine fr_iload_n (pc := 7) rfl dX4_fits_7 ?_
      refine fr_if_lt (pc := 8) 17 (by decide) dX4_fits_8 (fun h8 => ?_) (fun h8 => ?_)
      · exact absurd h8 (by decide)
      · refine fr_aload_n (pc := 11) rfl dX4_fits_11 ?_
        refine fr_iload_n (pc := 12) rfl dX4_fits_12 ?_
        refine fr_callV0 (pc := 13) (ci := 3) (T := TX4) (N := 7) [.int 0] [] (c_X4_found (k := 0) (by decide)) gc_X4_51 rfl rfl ⟨rfl, rfl, by decide, by decide⟩ (Nat.le_of_ble_eq_true rfl) rfl (by decide) x_0 ⟨by decide, by decide⟩ dX4_fits_13 ?_
        exact fr_ireturn (pc := 16) rfl rfl rfl rfl dX4_fits_16
set_option maxRecDepth 100000 in
theorem x_kinds {Γ : aG} {l : Launch} {M : Nat → aC} {r rk t : rT} {ik : Int32} {S : sT} {b : Nat → Int32} {ln : Int32} {J : Int32 × Int32 × Int32 × Int32} {fi : Nat → Int32} {s g : Int32} (w : wf r) (v : wS S)  : ∃ t' : rT, Ev Γ l mX4_kinds [.ref 0, .int s, .int g] 54 (xM M r rk t ik S (b, ln, J) fi) (some (.int (sp_kinds (r, rk, ik, S, b, ln, fi) s g).1)) 54 (xF M t' J (sp_kinds (r, rk, ik, S, b, ln, fi) s g).2) := by
  rcases lk (S := S) s with k1 | ⟨i1, hi1, rfl, k1⟩ | ⟨i1, hi1, rfl, k1⟩
  · refine ⟨t, ?_⟩
    rw [show sp_kinds (r, rk, ik, S, b, ln, fi) s g = fb (r, rk, ik, S, b, ln, fi) 0 from if_neg k1]
    refine Ev.of [(0, .ref 0), (1, .int s), (2, .int g)] (by decide) (Nat.le_of_ble_eq_true rfl) rfl ?_
    refine fr_aload_n (pc := 0) rfl dX4_kinds_0 ?_
    refine fr_iload_n (pc := 1) rfl dX4_kinds_1 ?_
    refine fr_iload_n (pc := 2) rfl dX4_kinds_2 ?_
    refine fr_callV0 (pc := 3) (ci := 3) (T := TX4) (N := 7) [.int s, .int g] [] (c_told_0 k1) gc_X4_187 rfl rfl ⟨rfl, rfl, by decide, by decide⟩ (Nat.le_of_ble_eq_true rfl) rfl (by decide) x_0 ⟨by decide, by decide⟩ dX4_kinds_3 ?_
    refine fr_istore_n (pc := 6) [(3, .int 0), (0, .ref 0), (1, .int s), (2, .int g)] (by decide) rfl dX4_kinds_6 ?_
    refine fr_iload_n (pc := 7) rfl dX4_kinds_7 ?_
    refine fr_if_lt (pc := 8) 17 (by decide) dX4_kinds_8 (fun h8 => ?_) (fun h8 => ?_)
    · exact absurd h8 (by decide)
    · refine fr_aload_n (pc := 11) rfl dX4_kinds_11 ?_
      refine fr_iload_n (pc := 12) rfl dX4_kinds_12 ?_
      refine fr_callV0 (pc := 13) (ci := 3) (T := TX4) (N := 7) [.int 0] [] (c_X4_found (k := 0) (by decide)) gc_X4_51 rfl rfl ⟨rfl, rfl, by decide, by decide⟩ (Nat.le_of_ble_eq_true rfl) rfl (by decide) x_0 ⟨by decide, by decide⟩ dX4_kinds_13 ?_
      exact fr_ireturn (pc := 16) rfl rfl rfl rfl dX4_kinds_16
  · refine ⟨t, ?_⟩
    have ei1 : (nI i1).toNatClampNeg = i1 := nI_clamp (by omega)
    rw [show sp_kinds (r, rk, ik, S, b, ln, fi) (nI i1) g = fb (r, rk, ik, S, b, ln, fi) 5 from by unfold sp_kinds; rw [ei1, if_pos (wi3 hi1), if_pos k1]]
    refine Ev.of [(0, .ref 0), (1, .int (nI i1)), (2, .int g)] (by decide) (Nat.le_of_ble_eq_true rfl) rfl ?_
    refine fr_aload_n (pc := 0) rfl dX4_kinds_0 ?_
    refine fr_iload_n (pc := 1) rfl dX4_kinds_1 ?_
    refine fr_iload_n (pc := 2) rfl dX4_kinds_2 ?_
    refine fr_callV0 (pc := 3) (ci := 3) (T := TX4) (N := 7) [.int (nI i1), .int g] [] (c_told_5 hi1 k1) gc_X4_187 rfl rfl ⟨rfl, rfl, by decide, by decide⟩ (Nat.le_of_ble_eq_true rfl) rfl (by decide) x_0 ⟨by decide, by decide⟩ dX4_kinds_3 ?_
    refine fr_istore_n (pc := 6) [(3, .int 5), (0, .ref 0), (1, .int (nI i1)), (2, .int g)] (by decide) rfl dX4_kinds_6 ?_
    refine fr_iload_n (pc := 7) rfl dX4_kinds_7 ?_
    refine fr_if_lt (pc := 8) 17 (by decide) dX4_kinds_8 (fun h8 => ?_) (fun h8 => ?_)
    · exact absurd h8 (by decide)
    · refine fr_aload_n (pc := 11) rfl dX4_kinds_11 ?_
      refine fr_iload_n (pc := 12) rfl dX4_kinds_12 ?_
      refine fr_callV0 (pc := 13) (ci := 3) (T := TX4) (N := 7) [.int 5] [] (c_X4_found (k := 5) (by decide)) gc_X4_51 rfl rfl ⟨rfl, rfl, by decide, by decide⟩ (Nat.le_of_ble_eq_true rfl) rfl (by decide) x_0 ⟨by decide, by decide⟩ dX4_kinds_13 ?_
      exact fr_ireturn (pc := 16) rfl rfl rfl rfl dX4_kinds_16
  · have ei1 : (nI i1).toNatClampNeg = i1 := nI_clamp (by omega)
    by_cases hg : wi g 0 (r 9 1 - 1) = true
    · obtain ⟨i2, hi2, rfl⟩ := sG_nI w hg
      have ei2 : (nI i2).toNatClampNeg = i2 := nI_clamp (by have := w.ctl; omega)
      obtain ⟨t', ht⟩ := kd_loop (Γ := Γ) (l := l) (M := M) (r := r) (rk := rk) (ik := ik) (S := S) (b := b) (ln := ln) (J := J) (fi := fi) w v (s := i1) (g := i2) hi1 (by have := w.ctl; omega) 7 0 0 t rfl
      refine ⟨t', ?_⟩
      rw [show sp_kinds (r, rk, ik, S, b, ln, fi) (nI i1) (nI i2) = (s_set (q_knd (r, rk, ik, S, b, ln, fi) i1 i2) 7 0 0, (r, rk, ik, S, b, ln, fi)) from by unfold sp_kinds; rw [ei1, ei2, if_pos (wi3 hi1), if_neg k1, if_pos (show sG (r, rk, ik, S, b, ln, fi) (nI i2) = true from hg)]]
      refine Ev.of [(0, .ref 0), (1, .int (nI i1)), (2, .int (nI i2))] (by decide) (Nat.le_of_ble_eq_true rfl) rfl ?_
      refine fr_aload_n (pc := 0) rfl dX4_kinds_0 ?_
      refine fr_iload_n (pc := 1) rfl dX4_kinds_1 ?_
      refine fr_iload_n (pc := 2) rfl dX4_kinds_2 ?_
      refine fr_callV0 (pc := 3) (ci := 3) (T := TX4) (N := 7) [.int (nI i1), .int (nI i2)] [] (c_told_n hi1 k1 hg) gc_X4_187 rfl rfl ⟨rfl, rfl, by decide, by decide⟩ (Nat.le_of_ble_eq_true rfl) rfl (by decide) x_0 ⟨by decide, by decide⟩ dX4_kinds_3 ?_
      refine fr_istore_n (pc := 6) [(3, .int (-1)), (0, .ref 0), (1, .int (nI i1)), (2, .int (nI i2))] (by decide) rfl dX4_kinds_6 ?_
      refine fr_iload_n (pc := 7) rfl dX4_kinds_7 ?_
      refine fr_if_lt (pc := 8) 17 (by decide) dX4_kinds_8 (fun h8 => ?_) (fun h8 => ?_)
      · refine fr_iconst (pc := 17) (v := 0) rfl dX4_kinds_17 ?_
        refine fr_istore (pc := 18) [(4, .int 0), (3, .int (-1)), (0, .ref 0), (1, .int (nI i1)), (2, .int (nI i2))] (by decide) rfl dX4_kinds_18 ?_
        refine fr_iconst (pc := 20) (v := 0) rfl dX4_kinds_20 ?_
        refine fr_istore (pc := 21) [(5, .int 0), (4, .int 0), (3, .int (-1)), (0, .ref 0), (1, .int (nI i1)), (2, .int (nI i2))] (by decide) rfl dX4_kinds_21 ?_
        exact fr_sub [3, 4, 5, 2, 1, 0] rfl (ht)
      · exact absurd (by decide) h8
    · refine ⟨t, ?_⟩
      rw [show sp_kinds (r, rk, ik, S, b, ln, fi) (nI i1) g = fb (r, rk, ik, S, b, ln, fi) 0 from by unfold sp_kinds; rw [ei1, if_pos (wi3 hi1), if_neg k1, if_neg (show ¬ sG (r, rk, ik, S, b, ln, fi) g = true from hg)]]
      refine Ev.of [(0, .ref 0), (1, .int (nI i1)), (2, .int g)] (by decide) (Nat.le_of_ble_eq_true rfl) rfl ?_
      refine fr_aload_n (pc := 0) rfl dX4_kinds_0 ?_
      refine fr_iload_n (pc := 1) rfl dX4_kinds_1 ?_
      refine fr_iload_n (pc := 2) rfl dX4_kinds_2 ?_
      refine fr_callV0 (pc := 3) (ci := 3) (T := TX4) (N := 7) [.int (nI i1), .int g] [] (c_told_g hi1 k1 hg) gc_X4_187 rfl rfl ⟨rfl, rfl, by decide, by decide⟩ (Nat.le_of_ble_eq_true rfl) rfl (by decide) x_0 ⟨by decide, by decide⟩ dX4_kinds_3 ?_
      refine fr_istore_n (pc := 6) [(3, .int 0), (0, .ref 0), (1, .int (nI i1)), (2, .int g)] (by decide) rfl dX4_kinds_6 ?_
      refine fr_iload_n (pc := 7) rfl dX4_kinds_7 ?_
      refine fr_if_lt (pc := 8) 17 (by decide) dX4_kinds_8 (fun h8 => ?_) (fun h8 => ?_)
      · exact absurd h8 (by decide)
      · refine fr_aload_n (pc := 11) rfl dX4_kinds_11 ?_
        refine fr_iload_n (pc := 12) rfl dX4_kinds_12 ?_
        refine fr_callV0 (pc := 13) (ci := 3) (T := TX4) (N := 7) [.int 0] [] (c_X4_found (k := 0) (by decide)) gc_X4_51 rfl rfl ⟨rfl, rfl, by decide, by decide⟩ (Nat.le_of_ble_eq_true rfl) rfl (by decide) x_0 ⟨by decide, by decide⟩ dX4_kinds_13 ?_
        exact fr_ireturn (pc := 16) rfl rfl rfl rfl dX4_kinds_16
