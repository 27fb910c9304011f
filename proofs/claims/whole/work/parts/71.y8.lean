set_option maxRecDepth 100000 in
theorem c_X5_above {Γ : aG} {l : Launch} {M : Nat → aC} {k : Int32} : Ev Γ l mX5_above [.int k] 54 M (some (.int (m_ab k))) 54 M := by
  refine Ev.of [(0, .int k)] (by decide) (Nat.le_of_ble_eq_true rfl) rfl ?_
  refine fr_iload_n (pc := 0) rfl dX5_above_0 ?_
  refine fr_if_ne (pc := 1) 8 (by decide) dX5_above_1 (fun h1 => ?_) (fun h1 => ?_)
  · refine fr_iload_n (pc := 8) rfl dX5_above_8 ?_
    refine fr_iconst (pc := 9) (v := 3) rfl dX5_above_9 ?_
    refine fr_icmp_ne (pc := 10) 17 (by decide) dX5_above_10 (fun h10 => ?_) (fun h10 => ?_)
    · refine fr_iload_n (pc := 17) rfl dX5_above_17 ?_
      refine fr_iconst (pc := 18) (v := 4) rfl dX5_above_18 ?_
      refine fr_icmp_ne (pc := 19) 26 (by decide) dX5_above_19 (fun h19 => ?_) (fun h19 => ?_)
      · refine fr_iload_n (pc := 26) rfl dX5_above_26 ?_
        refine fr_bipush (pc := 27) (v := 6) rfl dX5_above_27 ?_
        refine fr_icmp_ne (pc := 29) 36 (by decide) dX5_above_29 (fun h29 => ?_) (fun h29 => ?_)
        · refine fr_iconst (pc := 36) (v := 0) rfl dX5_above_36 ?_
          exact fr_ireturn (pc := 37) rfl (by unfold m_ab; rw [if_neg h1, if_neg h10, if_neg h19, if_neg h29]) rfl rfl dX5_above_37
        · refine fr_iconst (pc := 32) (v := 1) rfl dX5_above_32 ?_
          refine fr_goto (pc := 33) 37 (by decide) dX5_above_33 ?_
          exact fr_ireturn (pc := 37) rfl (by unfold m_ab; rw [if_neg h1, if_neg h10, if_neg h19, if_pos h29]) rfl rfl dX5_above_37
      · refine fr_iconst (pc := 22) (v := 3) rfl dX5_above_22 ?_
        refine fr_goto (pc := 23) 37 (by decide) dX5_above_23 ?_
        exact fr_ireturn (pc := 37) rfl (by unfold m_ab; rw [if_neg h1, if_neg h10, if_pos h19]) rfl rfl dX5_above_37
    · refine fr_iconst (pc := 13) (v := 2) rfl dX5_above_13 ?_
      refine fr_goto (pc := 14) 37 (by decide) dX5_above_14 ?_
      exact fr_ireturn (pc := 37) rfl (by unfold m_ab; rw [if_neg h1, if_pos h10]) rfl rfl dX5_above_37
  · refine fr_iconst (pc := 4) (v := (-1)) rfl dX5_above_4 ?_
    refine fr_goto (pc := 5) 37 (by decide) dX5_above_5 ?_
    exact fr_ireturn (pc := 37) rfl (by unfold m_ab; rw [if_pos h1]) rfl rfl dX5_above_37
set_option maxRecDepth 100000 in
theorem yu_neg {Γ : aG} {l : Launch} {M : Nat → aC} {k0 q : Int32} : Fr Γ l mX5_isUnder 2 [(0, .int k0), (1, .int q), (2, .int (-1))] [] 54 0 0 M (some (.int 0)) 54 M := by
  refine fr_iload_n (pc := 2) rfl dX5_isUnder_2 ?_
  refine fr_if_lt (pc := 3) 19 (by decide) dX5_isUnder_3 (fun h3 => ?_) (fun h3 => ?_)
  · refine fr_iload_n (pc := 19) rfl dX5_isUnder_19 ?_
    refine fr_if_lt (pc := 20) 27 (by decide) dX5_isUnder_20 (fun h20 => ?_) (fun h20 => ?_)
    · refine fr_iconst (pc := 27) (v := 0) rfl dX5_isUnder_27 ?_
      exact fr_ireturn (pc := 28) rfl rfl rfl rfl dX5_isUnder_28
    · exact absurd (by decide) h20
  · exact absurd (by decide) h3
set_option maxRecDepth 100000 in
theorem yu_und {Γ : aG} {l : Launch} {M : Nat → aC} {k0 q : Int32} : ∀ (n a : Nat), a < n → a < 7 → Fr Γ l mX5_isUnder 2 [(0, .int k0), (1, .int q), (2, .int (nI a))] [] 54 0 0 M (some (.int (bI (m_und q n (nI a) = true)))) 54 M := by
  intro n
  induction n with
  | zero => intro a h; omega
  | succ n ih =>
    intro a h1 h7
    refine fr_iload_n (pc := 2) rfl dX5_isUnder_2 ?_
    refine fr_if_lt (pc := 3) 19 (by decide) dX5_isUnder_3 (fun h3 => ?_) (fun h3 => ?_)
    · exact absurd h3 (nI_pos (by omega))
    · refine fr_iload_n (pc := 6) rfl dX5_isUnder_6 ?_
      refine fr_iload_n (pc := 7) rfl dX5_isUnder_7 ?_
      refine fr_icmp_eq (pc := 8) 19 (by decide) dX5_isUnder_8 (fun h8 => ?_) (fun h8 => ?_)
      · refine fr_iload_n (pc := 19) rfl dX5_isUnder_19 ?_
        refine fr_if_lt (pc := 20) 27 (by decide) dX5_isUnder_20 (fun h20 => ?_) (fun h20 => ?_)
        · exact absurd h20 (nI_pos (by omega))
        · refine fr_iconst (pc := 23) (v := 1) rfl dX5_isUnder_23 ?_
          refine fr_goto (pc := 24) 28 (by decide) dX5_isUnder_24 ?_
          exact fr_ireturn (pc := 28) rfl (bI_t ((if_neg h3).trans (if_pos h8))).symm rfl rfl dX5_isUnder_28
      · refine fr_iload_n (pc := 11) rfl dX5_isUnder_11 ?_
        refine fr_callS0 (pc := 12) [.int (nI a)] [] (c_X5_above) gc_X5_307 rfl rfl ⟨rfl, rfl, by decide, by decide⟩ (Nat.le_of_ble_eq_true rfl) ⟨by decide, by decide⟩ dX5_isUnder_12 ?_
        refine fr_nm (fun x2_15 e_x2_15 => ?_)
        refine fr_istore_n (pc := 15) [(2, .int x2_15), (0, .int k0), (1, .int q)] (by decide) rfl dX5_isUnder_15 ?_
        refine fr_goto (pc := 16) 2 (by decide) dX5_isUnder_16 ?_
        rw [show m_und q (n + 1) (nI a) = m_und q n (m_ab (nI a)) from (if_neg h3).trans (if_neg h8)]
        subst e_x2_15
        rcases ab_all a h7 with e | ⟨c, hc, e⟩
        · rw [e, und_neg]
          exact fr_sub [1, 2, 0] rfl (yu_neg)
        · rw [e]
          exact fr_sub [1, 2, 0] rfl (ih c (by omega) (by omega))
set_option maxRecDepth 100000 in
theorem c_X5_isUnder {Γ : aG} {l : Launch} {M : Nat → aC} {a c : Nat} (ha : a < 7) (hc : c < 7)  : Ev Γ l mX5_isUnder [.int (nI a), .int (nI c)] 54 M (some (.int (bI (s_und (nI c) 7 (nI a) = true)))) 54 M := by
  refine Ev.of [(0, .int (nI a)), (1, .int (nI c))] (by decide) (Nat.le_of_ble_eq_true rfl) rfl ?_
  refine fr_iload_n (pc := 0) rfl dX5_isUnder_0 ?_
  refine fr_istore_n (pc := 1) [(2, .int (nI a)), (0, .int (nI a)), (1, .int (nI c))] (by decide) rfl dX5_isUnder_1 ?_
  rw [← und_all a ha c hc]
  exact fr_sub [1, 2, 0] rfl (yu_und 7 a ha ha)
set_option maxRecDepth 100000 in
theorem y_as {Γ : aG} {l : Launch} {M : Nat → aC} {r : rT} {kr ar : Nat → Int32} {rk : rT} {ik : Int32} {fi b : Nat → Int32} {ln : Int32} {S : sT} {it mv : Nat → Int32} {Q : yQ} {s k : Int32} (w : wf r) : Ev Γ l mX5_as [.ref 42, .int s, .int k] 54 (yM M r kr ar ik fi b ln S it mv Q) (some (.int (sp_as (r, rk, ik, S, b, ln, fi) s k).1)) 54 (yF M kr ar it mv Q (sp_as (r, rk, ik, S, b, ln, fi) s k).2) := by
  by_cases hc : wi s 0 9 = true ∧ wi k 0 6 = true
  · obtain ⟨i1, hi1, rfl⟩ := wi_nI (N := 9) hc.1 rfl
    have ei1 : (nI i1).toNatClampNeg = i1 := nI_clamp (by omega)
    obtain ⟨i2, hi2, rfl⟩ := wi_nI (N := 6) hc.2 rfl
    have hcl := w.ctl
    rcases w.2.2.2.2.2.2 i1 (by omega) with e | e
    · have q : ¬ sG (r, rk, ik, S, b, ln, fi) (r 8 i1) = true := by
        intro z
        rw [e] at z
        exact (of_decide_eq_true (show decide (¬ (-1 : Int32) < 0 ∧ ¬ r 9 1 - 1 < -1) = true from z)).1 (by decide)
      rw [show sp_as (r, rk, ik, S, b, ln, fi) (nI i1) (nI i2) = fb (r, rk, ik, S, b, ln, fi) 5 from by unfold sp_as; rw [if_pos hc, ei1]; exact if_neg q]
      refine Ev.of [(0, .ref 42), (1, .int (nI i1)), (2, .int (nI i2))] (by decide) (Nat.le_of_ble_eq_true rfl) rfl ?_
      refine fr_iload_n (pc := 0) rfl dX5_as_0 ?_
      refine fr_callS0 (pc := 1) [.int (nI i1)] [] (c_X5_isSpot) gc_X5_296 rfl rfl ⟨rfl, rfl, by decide, by decide⟩ (Nat.le_of_ble_eq_true rfl) ⟨by decide, by decide⟩ dX5_as_1 ?_
      refine fr_if_eq (pc := 4) 14 (by decide) dX5_as_4 (fun h4 => ?_) (fun h4 => ?_)
      · have g4 := bI_0.mp h4
        exact absurd hc.1 g4
      · have g4 := bI_n0 h4
        refine fr_iload_n (pc := 7) rfl dX5_as_7 ?_
        refine fr_callS0 (pc := 8) [.int (nI i2)] [] (c_X5_isKind) gc_X5_109 rfl rfl ⟨rfl, rfl, by decide, by decide⟩ (Nat.le_of_ble_eq_true rfl) ⟨by decide, by decide⟩ dX5_as_8 ?_
        refine fr_if_ne (pc := 11) 21 (by decide) dX5_as_11 (fun h11 => ?_) (fun h11 => ?_)
        · have g11 := bI_n0 h11
          refine fr_aload_n (pc := 21) rfl dX5_as_21 ?_
          refine fr_get (pc := 22) (ci := 4) (T := TX5) (k0 := 0) rfl hin_X5 (by decide) fl_X5_9 (by decide) y_42 rfl dX5_as_22 ?_
          refine fr_bipush (pc := 25) (v := 28) rfl dX5_as_25 ?_
          refine fr_iload_n (pc := 27) rfl dX5_as_27 ?_
          refine fr_iadd (pc := 28) dX5_as_28 ?_
          refine fr_eq (z := nI (28 + i1)) (nI_add 28 i1) ?_
          refine fr_iald (pc := 29) (28 + i1) rfl (by decide) y_43 (by first | assumption | omega) (by decide) dX5_as_29 ?_
          refine fr_eq (z := r 8 i1) (row_at (ph_s (by first | assumption | omega))) ?_
          refine fr_nm (fun x3_30 e_x3_30 => ?_)
          refine fr_istore_n (pc := 30) [(3, .int x3_30), (0, .ref 42), (1, .int (nI i1)), (2, .int (nI i2))] (by decide) rfl dX5_as_30 ?_
          refine fr_iload_n (pc := 31) rfl dX5_as_31 ?_
          refine fr_if_ge (pc := 32) 42 (by decide) dX5_as_32 (fun h32 => ?_) (fun h32 => ?_)
          · exact absurd h32 (by rw [e_x3_30, e]; decide)
          · refine fr_aload_n (pc := 35) rfl dX5_as_35 ?_
            refine fr_ldc (pc := 36) kc_X5_206 dX5_as_36 ?_
            refine fr_callV0 (pc := 38) (ci := 4) (T := TX5) (N := 20) [.int (-1000006)] [] (c_fnd5) gc_X5_66 rfl rfl ⟨rfl, rfl, by decide, by decide⟩ (Nat.le_of_ble_eq_true rfl) rfl (by decide) y_42 ⟨by decide, by decide⟩ dX5_as_38 ?_
            exact fr_ireturn (pc := 41) rfl rfl rfl rfl dX5_as_41
        · have g11 := bI_0.mp h11
          exact absurd hc.2 g11
    · obtain ⟨a, ha⟩ : ∃ a, a = (r 8 i1).toNatClampNeg := ⟨_, rfl⟩
      obtain ⟨e1, e2⟩ := e
      rw [← ha] at e1 e2
      have q : sG (r, rk, ik, S, b, ln, fi) (r 8 i1) = true := by rw [e1]; exact (wi_g w (by omega)).mpr e2
      have en : nat r 8 i1 = a := ha.symm
      have hk := w.kd (g := a) (by omega)
      by_cases hu : s_und (nI i2) 7 (r 2 a) = true
      · rw [show sp_as (r, rk, ik, S, b, ln, fi) (nI i1) (nI i2) = (nI a, (r, rk, ik, S, b, ln, fi)) from by unfold sp_as; rw [if_pos hc, ei1]; dsimp only; rw [if_pos q, en, if_pos hu, e1]]
        have hu2 := hu
        rw [hk.1] at hu2
        refine Ev.of [(0, .ref 42), (1, .int (nI i1)), (2, .int (nI i2))] (by decide) (Nat.le_of_ble_eq_true rfl) rfl ?_
        refine fr_iload_n (pc := 0) rfl dX5_as_0 ?_
        refine fr_callS0 (pc := 1) [.int (nI i1)] [] (c_X5_isSpot) gc_X5_296 rfl rfl ⟨rfl, rfl, by decide, by decide⟩ (Nat.le_of_ble_eq_true rfl) ⟨by decide, by decide⟩ dX5_as_1 ?_
        refine fr_if_eq (pc := 4) 14 (by decide) dX5_as_4 (fun h4 => ?_) (fun h4 => ?_)
        · have g4 := bI_0.mp h4
          exact absurd hc.1 g4
        · have g4 := bI_n0 h4
          refine fr_iload_n (pc := 7) rfl dX5_as_7 ?_
          refine fr_callS0 (pc := 8) [.int (nI i2)] [] (c_X5_isKind) gc_X5_109 rfl rfl ⟨rfl, rfl, by decide, by decide⟩ (Nat.le_of_ble_eq_true rfl) ⟨by decide, by decide⟩ dX5_as_8 ?_
          refine fr_if_ne (pc := 11) 21 (by decide) dX5_as_11 (fun h11 => ?_) (fun h11 => ?_)
          · have g11 := bI_n0 h11
            refine fr_aload_n (pc := 21) rfl dX5_as_21 ?_
            refine fr_get (pc := 22) (ci := 4) (T := TX5) (k0 := 0) rfl hin_X5 (by decide) fl_X5_9 (by decide) y_42 rfl dX5_as_22 ?_
            refine fr_bipush (pc := 25) (v := 28) rfl dX5_as_25 ?_
            refine fr_iload_n (pc := 27) rfl dX5_as_27 ?_
            refine fr_iadd (pc := 28) dX5_as_28 ?_
            refine fr_eq (z := nI (28 + i1)) (nI_add 28 i1) ?_
            refine fr_iald (pc := 29) (28 + i1) rfl (by decide) y_43 (by first | assumption | omega) (by decide) dX5_as_29 ?_
            refine fr_eq (z := r 8 i1) (row_at (ph_s (by first | assumption | omega))) ?_
            refine fr_eq (z := nI a) e1 ?_
            refine fr_istore_n (pc := 30) [(3, .int (nI a)), (0, .ref 42), (1, .int (nI i1)), (2, .int (nI i2))] (by decide) rfl dX5_as_30 ?_
            refine fr_iload_n (pc := 31) rfl dX5_as_31 ?_
            refine fr_if_ge (pc := 32) 42 (by decide) dX5_as_32 (fun h32 => ?_) (fun h32 => ?_)
            · refine fr_aload_n (pc := 42) rfl dX5_as_42 ?_
              refine fr_iload_n (pc := 43) rfl dX5_as_43 ?_
              refine fr_iconst (pc := 44) (v := 0) rfl dX5_as_44 ?_
              refine fr_callV0 (pc := 45) (ci := 4) (T := TX5) (N := 20) [.int (nI a), .int 0] [] (c_X5_guestIs (k := 0) (by first | assumption | omega) (by first | decide | assumption | omega)) gc_X5_116 rfl rfl ⟨rfl, rfl, by decide, by decide⟩ (Nat.le_of_ble_eq_true rfl) rfl (by decide) y_42 ⟨by decide, by decide⟩ dX5_as_45 ?_
              refine fr_eq (z := nI (nat r 2 a)) hk.1 ?_
              refine fr_iload_n (pc := 48) rfl dX5_as_48 ?_
              refine fr_callS0 (pc := 49) [.int (nI (nat r 2 a)), .int (nI i2)] [] (c_X5_isUnder hk.2 (by omega)) gc_X5_299 rfl rfl ⟨rfl, rfl, by decide, by decide⟩ (Nat.le_of_ble_eq_true rfl) ⟨by decide, by decide⟩ dX5_as_49 ?_
              refine fr_if_eq (pc := 52) 59 (by decide) dX5_as_52 (fun h52 => ?_) (fun h52 => ?_)
              · have g52 := bI_0.mp h52
                exact absurd hu2 g52
              · have g52 := bI_n0 h52
                refine fr_iload_n (pc := 55) rfl dX5_as_55 ?_
                refine fr_goto (pc := 56) 66 (by decide) dX5_as_56 ?_
                exact fr_ireturn (pc := 66) rfl rfl rfl rfl dX5_as_66
            · exact absurd (nI_pos' (by omega)) h32
          · have g11 := bI_0.mp h11
            exact absurd hc.2 g11
      · rw [show sp_as (r, rk, ik, S, b, ln, fi) (nI i1) (nI i2) = fb (r, rk, ik, S, b, ln, fi) 2 from by unfold sp_as; rw [if_pos hc, ei1]; dsimp only; rw [if_pos q, en, if_neg hu]]
        have hu2 := hu
        rw [hk.1] at hu2
        refine Ev.of [(0, .ref 42), (1, .int (nI i1)), (2, .int (nI i2))] (by decide) (Nat.le_of_ble_eq_true rfl) rfl ?_
        refine fr_iload_n (pc := 0) rfl dX5_as_0 ?_
        refine fr_callS0 (pc := 1) [.int (nI i1)] [] (c_X5_isSpot) gc_X5_296 rfl rfl ⟨rfl, rfl, by decide, by decide⟩ (Nat.le_of_ble_eq_true rfl) ⟨by decide, by decide⟩ dX5_as_1 ?_
        refine fr_if_eq (pc := 4) 14 (by decide) dX5_as_4 (fun h4 => ?_) (fun h4 => ?_)
        · have g4 := bI_0.mp h4
          exact absurd hc.1 g4
        · have g4 := bI_n0 h4
          refine fr_iload_n (pc := 7) rfl dX5_as_7 ?_
          refine fr_callS0 (pc := 8) [.int (nI i2)] [] (c_X5_isKind) gc_X5_109 rfl rfl ⟨rfl, rfl, by decide, by decide⟩ (Nat.le_of_ble_eq_true rfl) ⟨by decide, by decide⟩ dX5_as_8 ?_
          refine fr_if_ne (pc := 11) 21 (by decide) dX5_as_11 (fun h11 => ?_) (fun h11 => ?_)
          · have g11 := bI_n0 h11
            refine fr_aload_n (pc := 21) rfl dX5_as_21 ?_
            refine fr_get (pc := 22) (ci := 4) (T := TX5) (k0 := 0) rfl hin_X5 (by decide) fl_X5_9 (by decide) y_42 rfl dX5_as_22 ?_
            refine fr_bipush (pc := 25) (v := 28) rfl dX5_as_25 ?_
            refine fr_iload_n (pc := 27) rfl dX5_as_27 ?_
            refine fr_iadd (pc := 28) dX5_as_28 ?_
            refine fr_eq (z := nI (28 + i1)) (nI_add 28 i1) ?_
            refine fr_iald (pc := 29) (28 + i1) rfl (by decide) y_43 (by first | assumption | omega) (by decide) dX5_as_29 ?_
            refine fr_eq (z := r 8 i1) (row_at (ph_s (by first | assumption | omega))) ?_
            refine fr_eq (z := nI a) e1 ?_
            refine fr_istore_n (pc := 30) [(3, .int (nI a)), (0, .ref 42), (1, .int (nI i1)), (2, .int (nI i2))] (by decide) rfl dX5_as_30 ?_
            refine fr_iload_n (pc := 31) rfl dX5_as_31 ?_
            refine fr_if_ge (pc := 32) 42 (by decide) dX5_as_32 (fun h32 => ?_) (fun h32 => ?_)
            · refine fr_aload_n (pc := 42) rfl dX5_as_42 ?_
              refine fr_iload_n (pc := 43) rfl dX5_as_43 ?_
              refine fr_iconst (pc := 44) (v := 0) rfl dX5_as_44 ?_
              refine fr_callV0 (pc := 45) (ci := 4) (T := TX5) (N := 20) [.int (nI a), .int 0] [] (c_X5_guestIs (k := 0) (by first | assumption | omega) (by first | decide | assumption | omega)) gc_X5_116 rfl rfl ⟨rfl, rfl, by decide, by decide⟩ (Nat.le_of_ble_eq_true rfl) rfl (by decide) y_42 ⟨by decide, by decide⟩ dX5_as_45 ?_
              refine fr_eq (z := nI (nat r 2 a)) hk.1 ?_
              refine fr_iload_n (pc := 48) rfl dX5_as_48 ?_
              refine fr_callS0 (pc := 49) [.int (nI (nat r 2 a)), .int (nI i2)] [] (c_X5_isUnder hk.2 (by omega)) gc_X5_299 rfl rfl ⟨rfl, rfl, by decide, by decide⟩ (Nat.le_of_ble_eq_true rfl) ⟨by decide, by decide⟩ dX5_as_49 ?_
              refine fr_if_eq (pc := 52) 59 (by decide) dX5_as_52 (fun h52 => ?_) (fun h52 => ?_)
              · have g52 := bI_0.mp h52
                refine fr_aload_n (pc := 59) rfl dX5_as_59 ?_
                refine fr_ldcw (pc := 60) kc_X5_302 dX5_as_60 ?_
                refine fr_callV0 (pc := 63) (ci := 4) (T := TX5) (N := 20) [.int (-1000003)] [] (c_fnd2) gc_X5_66 rfl rfl ⟨rfl, rfl, by decide, by decide⟩ (Nat.le_of_ble_eq_true rfl) rfl (by decide) y_42 ⟨by decide, by decide⟩ dX5_as_63 ?_
                exact fr_ireturn (pc := 66) rfl rfl rfl rfl dX5_as_66
              · have g52 := bI_n0 h52
                exact absurd g52 hu2
            · exact absurd (nI_pos' (by omega)) h32
          · have g11 := bI_0.mp h11
            exact absurd hc.2 g11
  · rw [show sp_as (r, rk, ik, S, b, ln, fi) s k = fb (r, rk, ik, S, b, ln, fi) 0 from if_neg hc]
    refine Ev.of [(0, .ref 42), (1, .int s), (2, .int k)] (by decide) (Nat.le_of_ble_eq_true rfl) rfl ?_
    refine fr_iload_n (pc := 0) rfl dX5_as_0 ?_
    refine fr_callS0 (pc := 1) [.int s] [] (c_X5_isSpot) gc_X5_296 rfl rfl ⟨rfl, rfl, by decide, by decide⟩ (Nat.le_of_ble_eq_true rfl) ⟨by decide, by decide⟩ dX5_as_1 ?_
    refine fr_if_eq (pc := 4) 14 (by decide) dX5_as_4 (fun h4 => ?_) (fun h4 => ?_)
    · have g4 := bI_0.mp h4
      refine fr_aload_n (pc := 14) rfl dX5_as_14 ?_
      refine fr_ldc (pc := 15) kc_X5_60 dX5_as_15 ?_
      refine fr_callV0 (pc := 17) (ci := 4) (T := TX5) (N := 20) [.int (-1000001)] [] (c_fnd0) gc_X5_66 rfl rfl ⟨rfl, rfl, by decide, by decide⟩ (Nat.le_of_ble_eq_true rfl) rfl (by decide) y_42 ⟨by decide, by decide⟩ dX5_as_17 ?_
      exact fr_ireturn (pc := 20) rfl rfl rfl rfl dX5_as_20
    · have g4 := bI_n0 h4
      refine fr_iload_n (pc := 7) rfl dX5_as_7 ?_
      refine fr_callS0 (pc := 8) [.int k] [] (c_X5_isKind) gc_X5_109 rfl rfl ⟨rfl, rfl, by decide, by decide⟩ (Nat.le_of_ble_eq_true rfl) ⟨by decide, by decide⟩ dX5_as_8 ?_
      refine fr_if_ne (pc := 11) 21 (by decide) dX5_as_11 (fun h11 => ?_) (fun h11 => ?_)
      · have g11 := bI_n0 h11
        exact absurd ⟨g4, g11⟩ hc
      · have g11 := bI_0.mp h11
        refine fr_aload_n (pc := 14) rfl dX5_as_14 ?_
        refine fr_ldc (pc := 15) kc_X5_60 dX5_as_15 ?_
        refine fr_callV0 (pc := 17) (ci := 4) (T := TX5) (N := 20) [.int (-1000001)] [] (c_fnd0) gc_X5_66 rfl rfl ⟨rfl, rfl, by decide, by decide⟩ (Nat.le_of_ble_eq_true rfl) rfl (by decide) y_42 ⟨by decide, by decide⟩ dX5_as_17 ?_
        exact fr_ireturn (pc := 20) rfl rfl rfl rfl dX5_as_20
set_option maxRecDepth 100000 in
theorem c_X5_cutTo {Γ : aG} {l : Launch} {M : Nat → aC} {x b : Int32} (h : b = 8 ∨ b = 16 ∨ b = 32)  : Ev Γ l mX5_cutTo [.int x, .int b] 54 M (some (.int (s_cut x b))) 54 M := by
  refine Ev.of [(0, .int x), (1, .int b)] (by decide) (Nat.le_of_ble_eq_true rfl) rfl ?_
  refine fr_iload_n (pc := 0) rfl dX5_cutTo_0 ?_
  refine fr_bipush (pc := 1) (v := 8) rfl dX5_cutTo_1 ?_
  refine fr_icmp_ne (pc := 3) 11 (by decide) dX5_cutTo_3 (fun h3 => ?_) (fun h3 => ?_)
  · refine fr_iload_n (pc := 11) rfl dX5_cutTo_11 ?_
    refine fr_bipush (pc := 12) (v := 16) rfl dX5_cutTo_12 ?_
    refine fr_icmp_ne (pc := 14) 22 (by decide) dX5_cutTo_14 (fun h14 => ?_) (fun h14 => ?_)
    · refine fr_iload_n (pc := 22) rfl dX5_cutTo_22 ?_
      exact fr_ireturn (pc := 23) rfl (by rw [show b = 32 from (h.resolve_left h3).resolve_left h14]; exact cut32 x) rfl rfl dX5_cutTo_23
    · refine fr_iload_n (pc := 17) rfl dX5_cutTo_17 ?_
      refine fr_i2s (pc := 18) dX5_cutTo_18 ?_
      refine fr_goto (pc := 19) 23 (by decide) dX5_cutTo_19 ?_
      exact fr_ireturn (pc := 23) rfl (by rw [h14]; exact cut16 x) rfl rfl dX5_cutTo_23
  · refine fr_iload_n (pc := 6) rfl dX5_cutTo_6 ?_
    refine fr_i2b (pc := 7) dX5_cutTo_7 ?_
    refine fr_goto (pc := 8) 23 (by decide) dX5_cutTo_8 ?_
    exact fr_ireturn (pc := 23) rfl (by rw [h3]; exact cut8 x) rfl rfl dX5_cutTo_23
set_option maxRecDepth 100000 in
theorem y_write {Γ : aG} {l : Launch} {M : Nat → aC} {r : rT} {kr ar : Nat → Int32} {rk : rT} {ik : Int32} {fi b : Nat → Int32} {ln : Int32} {S : sT} {it mv : Nat → Int32} {Q : yQ} {s i x : Int32} (v : wS S) : Ev Γ l mX5_write [.ref 42, .int s, .int i, .int x] 54 (yM M r kr ar ik fi b ln S it mv Q) (some (.int (sp_write (r, rk, ik, S, b, ln, fi) s i x).1)) 54 (yF M kr ar it mv Q (sp_write (r, rk, ik, S, b, ln, fi) s i x).2) := by
  rcases lk (S := S) s with k1 | ⟨i1, hi1, rfl, k1⟩ | ⟨i1, hi1, rfl, k1⟩
  · rw [show sp_write (r, rk, ik, S, b, ln, fi) s i x = fb (r, rk, ik, S, b, ln, fi) 0 from if_neg k1]
    refine Ev.of [(0, .ref 42), (1, .int s), (2, .int i), (3, .int x)] (by decide) (Nat.le_of_ble_eq_true rfl) rfl ?_
    refine fr_iload_n (pc := 0) rfl dX5_write_0 ?_
    refine fr_callS0 (pc := 1) [.int s] [] (c_X5_isSheet) gc_X5_203 rfl rfl ⟨rfl, rfl, by decide, by decide⟩ (Nat.le_of_ble_eq_true rfl) ⟨by decide, by decide⟩ dX5_write_1 ?_
    refine fr_if_ne (pc := 4) 14 (by decide) dX5_write_4 (fun h4 => ?_) (fun h4 => ?_)
    · have g4 := bI_n0 h4
      exact absurd g4 k1
    · have g4 := bI_0.mp h4
      refine fr_aload_n (pc := 7) rfl dX5_write_7 ?_
      refine fr_ldc (pc := 8) kc_X5_60 dX5_write_8 ?_
      refine fr_callV0 (pc := 10) (ci := 4) (T := TX5) (N := 20) [.int (-1000001)] [] (c_fnd0) gc_X5_66 rfl rfl ⟨rfl, rfl, by decide, by decide⟩ (Nat.le_of_ble_eq_true rfl) rfl (by decide) y_42 ⟨by decide, by decide⟩ dX5_write_10 ?_
      exact fr_ireturn (pc := 13) rfl rfl rfl rfl dX5_write_13
  · have ei1 : (nI i1).toNatClampNeg = i1 := nI_clamp (by omega)
    rw [show sp_write (r, rk, ik, S, b, ln, fi) (nI i1) i x = fb (r, rk, ik, S, b, ln, fi) 5 from by unfold sp_write; rw [if_pos (wi3 hi1), ei1]; exact if_pos k1]
    refine Ev.of [(0, .ref 42), (1, .int (nI i1)), (2, .int i), (3, .int x)] (by decide) (Nat.le_of_ble_eq_true rfl) rfl ?_
    refine fr_iload_n (pc := 0) rfl dX5_write_0 ?_
    refine fr_callS0 (pc := 1) [.int (nI i1)] [] (c_X5_isSheet) gc_X5_203 rfl rfl ⟨rfl, rfl, by decide, by decide⟩ (Nat.le_of_ble_eq_true rfl) ⟨by decide, by decide⟩ dX5_write_1 ?_
    refine fr_if_ne (pc := 4) 14 (by decide) dX5_write_4 (fun h4 => ?_) (fun h4 => ?_)
    · have g4 := bI_n0 h4
      refine fr_aload_n (pc := 14) rfl dX5_write_14 ?_
      refine fr_get (pc := 15) (ci := 4) (T := TX5) (k0 := 16) rfl hin_X5 (by decide) fl_X5_48 (by decide) y_42 rfl dX5_write_15 ?_
      refine fr_iload_n (pc := 18) rfl dX5_write_18 ?_
      refine fr_iald (pc := 19) i1 rfl (by decide) y_50 (by first | assumption | omega) (by decide) dX5_write_19 ?_
      refine fr_if_ne (pc := 20) 30 (by decide) dX5_write_20 (fun h20 => ?_) (fun h20 => ?_)
      · exact absurd k1 h20
      · refine fr_aload_n (pc := 23) rfl dX5_write_23 ?_
        refine fr_ldc (pc := 24) kc_X5_206 dX5_write_24 ?_
        refine fr_callV0 (pc := 26) (ci := 4) (T := TX5) (N := 20) [.int (-1000006)] [] (c_fnd5) gc_X5_66 rfl rfl ⟨rfl, rfl, by decide, by decide⟩ (Nat.le_of_ble_eq_true rfl) rfl (by decide) y_42 ⟨by decide, by decide⟩ dX5_write_26 ?_
        exact fr_ireturn (pc := 29) rfl rfl rfl rfl dX5_write_29
    · have g4 := bI_0.mp h4
      exact absurd (wi3 hi1) g4
  · have ei1 : (nI i1).toNatClampNeg = i1 := nI_clamp (by omega)
    have hb : S.2.1 i1 = 8 ∨ S.2.1 i1 = 16 ∨ S.2.1 i1 = 32 := (v.2 i1 hi1).resolve_left k1
    by_cases hw : wi i 0 (S.2.2 i1 - 1) = true
    · obtain ⟨i2, hi2, -, rfl⟩ := ln_nI v hi1 hw
      have ei2 : (nI i2).toNatClampNeg = i2 := nI_clamp (by omega)
      rw [show sp_write (r, rk, ik, S, b, ln, fi) (nI i1) (nI i2) x = (1, sS4 (r, rk, ik, S, b, ln, fi) (u2 S.1 i1 i2 (s_cut x (S.2.1 i1)), S.2)) from by unfold sp_write; rw [if_pos (wi3 hi1), ei1, ei2]; exact (if_neg k1).trans (if_pos hw)]
      refine Ev.of [(0, .ref 42), (1, .int (nI i1)), (2, .int (nI i2)), (3, .int x)] (by decide) (Nat.le_of_ble_eq_true rfl) rfl ?_
      refine fr_iload_n (pc := 0) rfl dX5_write_0 ?_
      refine fr_callS0 (pc := 1) [.int (nI i1)] [] (c_X5_isSheet) gc_X5_203 rfl rfl ⟨rfl, rfl, by decide, by decide⟩ (Nat.le_of_ble_eq_true rfl) ⟨by decide, by decide⟩ dX5_write_1 ?_
      refine fr_if_ne (pc := 4) 14 (by decide) dX5_write_4 (fun h4 => ?_) (fun h4 => ?_)
      · have g4 := bI_n0 h4
        refine fr_aload_n (pc := 14) rfl dX5_write_14 ?_
        refine fr_get (pc := 15) (ci := 4) (T := TX5) (k0 := 16) rfl hin_X5 (by decide) fl_X5_48 (by decide) y_42 rfl dX5_write_15 ?_
        refine fr_iload_n (pc := 18) rfl dX5_write_18 ?_
        refine fr_iald (pc := 19) i1 rfl (by decide) y_50 (by first | assumption | omega) (by decide) dX5_write_19 ?_
        refine fr_if_ne (pc := 20) 30 (by decide) dX5_write_20 (fun h20 => ?_) (fun h20 => ?_)
        · refine fr_iload_n (pc := 30) rfl dX5_write_30 ?_
          refine fr_iconst (pc := 31) (v := 0) rfl dX5_write_31 ?_
          refine fr_aload_n (pc := 32) rfl dX5_write_32 ?_
          refine fr_get (pc := 33) (ci := 4) (T := TX5) (k0 := 17) rfl hin_X5 (by decide) fl_X5_51 (by decide) y_42 rfl dX5_write_33 ?_
          refine fr_iload_n (pc := 36) rfl dX5_write_36 ?_
          refine fr_iald (pc := 37) i1 rfl (by decide) y_51 (by first | assumption | omega) (by decide) dX5_write_37 ?_
          refine fr_iconst (pc := 38) (v := 1) rfl dX5_write_38 ?_
          refine fr_isub (pc := 39) dX5_write_39 ?_
          refine fr_callS0 (pc := 40) [.int (nI i2), .int 0, .int ((S.2.2 i1) - 1)] [] (c_X5_within) gc_X5_70 rfl rfl ⟨rfl, rfl, by decide, by decide⟩ (Nat.le_of_ble_eq_true rfl) ⟨by decide, by decide⟩ dX5_write_40 ?_
          refine fr_if_ne (pc := 43) 53 (by decide) dX5_write_43 (fun h43 => ?_) (fun h43 => ?_)
          · have g43 := bI_n0 h43
            refine fr_aload_n (pc := 53) rfl dX5_write_53 ?_
            refine fr_get (pc := 54) (ci := 4) (T := TX5) (k0 := 18) rfl hin_X5 (by decide) fl_X5_54 (by decide) y_42 rfl dX5_write_54 ?_
            refine fr_bipush (pc := 57) (v := 40) rfl dX5_write_57 ?_
            refine fr_iload_n (pc := 59) rfl dX5_write_59 ?_
            refine fr_imul (pc := 60) dX5_write_60 ?_
            refine fr_iload_n (pc := 61) rfl dX5_write_61 ?_
            refine fr_iadd (pc := 62) dX5_write_62 ?_
            refine fr_eq (z := nI (40 * i1 + i2)) (n40 i1 i2) ?_
            refine fr_iload_n (pc := 63) rfl dX5_write_63 ?_
            refine fr_aload_n (pc := 64) rfl dX5_write_64 ?_
            refine fr_get (pc := 65) (ci := 4) (T := TX5) (k0 := 16) rfl hin_X5 (by decide) fl_X5_48 (by decide) y_42 rfl dX5_write_65 ?_
            refine fr_iload_n (pc := 68) rfl dX5_write_68 ?_
            refine fr_iald (pc := 69) i1 rfl (by decide) y_50 (by first | assumption | omega) (by decide) dX5_write_69 ?_
            refine fr_callS0 (pc := 70) [.int x, .int (S.2.1 i1)] [.int (nI (40 * i1 + i2)), .ref 52] (c_X5_cutTo (by assumption)) gc_X5_304 rfl rfl ⟨rfl, rfl, by decide, by decide⟩ (Nat.le_of_ble_eq_true rfl) ⟨by decide, by decide⟩ dX5_write_70 ?_
            refine fr_iast (pc := 73) (40 * i1 + i2) rfl (by decide) y_52 (by first | assumption | omega) (by decide) dX5_write_73 ?_
            refine fr_mem (y_u52 (by omega)) ?_
            refine fr_iconst (pc := 74) (v := 1) rfl dX5_write_74 ?_
            exact fr_ireturn (pc := 75) rfl rfl rfl rfl dX5_write_75
          · have g43 := bI_0.mp h43
            exact absurd hw g43
        · exact absurd h20 k1
      · have g4 := bI_0.mp h4
        exact absurd (wi3 hi1) g4
    · rw [show sp_write (r, rk, ik, S, b, ln, fi) (nI i1) i x = fb (r, rk, ik, S, b, ln, fi) 0 from by unfold sp_write; rw [if_pos (wi3 hi1), ei1]; exact (if_neg k1).trans (if_neg hw)]
      refine Ev.of [(0, .ref 42), (1, .int (nI i1)), (2, .int i), (3, .int x)] (by decide) (Nat.le_of_ble_eq_true rfl) rfl ?_
      refine fr_iload_n (pc := 0) rfl dX5_write_0 ?_
      refine fr_callS0 (pc := 1) [.int (nI i1)] [] (c_X5_isSheet) gc_X5_203 rfl rfl ⟨rfl, rfl, by decide, by decide⟩ (Nat.le_of_ble_eq_true rfl) ⟨by decide, by decide⟩ dX5_write_1 ?_
      refine fr_if_ne (pc := 4) 14 (by decide) dX5_write_4 (fun h4 => ?_) (fun h4 => ?_)
      · have g4 := bI_n0 h4
        refine fr_aload_n (pc := 14) rfl dX5_write_14 ?_
        refine fr_get (pc := 15) (ci := 4) (T := TX5) (k0 := 16) rfl hin_X5 (by decide) fl_X5_48 (by decide) y_42 rfl dX5_write_15 ?_
        refine fr_iload_n (pc := 18) rfl dX5_write_18 ?_
        refine fr_iald (pc := 19) i1 rfl (by decide) y_50 (by first | assumption | omega) (by decide) dX5_write_19 ?_
        refine fr_if_ne (pc := 20) 30 (by decide) dX5_write_20 (fun h20 => ?_) (fun h20 => ?_)
        · refine fr_iload_n (pc := 30) rfl dX5_write_30 ?_
          refine fr_iconst (pc := 31) (v := 0) rfl dX5_write_31 ?_
          refine fr_aload_n (pc := 32) rfl dX5_write_32 ?_
          refine fr_get (pc := 33) (ci := 4) (T := TX5) (k0 := 17) rfl hin_X5 (by decide) fl_X5_51 (by decide) y_42 rfl dX5_write_33 ?_
          refine fr_iload_n (pc := 36) rfl dX5_write_36 ?_
          refine fr_iald (pc := 37) i1 rfl (by decide) y_51 (by first | assumption | omega) (by decide) dX5_write_37 ?_
          refine fr_iconst (pc := 38) (v := 1) rfl dX5_write_38 ?_
          refine fr_isub (pc := 39) dX5_write_39 ?_
          refine fr_callS0 (pc := 40) [.int i, .int 0, .int ((S.2.2 i1) - 1)] [] (c_X5_within) gc_X5_70 rfl rfl ⟨rfl, rfl, by decide, by decide⟩ (Nat.le_of_ble_eq_true rfl) ⟨by decide, by decide⟩ dX5_write_40 ?_
          refine fr_if_ne (pc := 43) 53 (by decide) dX5_write_43 (fun h43 => ?_) (fun h43 => ?_)
          · have g43 := bI_n0 h43
            exact absurd g43 hw
          · have g43 := bI_0.mp h43
            refine fr_aload_n (pc := 46) rfl dX5_write_46 ?_
            refine fr_ldc (pc := 47) kc_X5_60 dX5_write_47 ?_
            refine fr_callV0 (pc := 49) (ci := 4) (T := TX5) (N := 20) [.int (-1000001)] [] (c_fnd0) gc_X5_66 rfl rfl ⟨rfl, rfl, by decide, by decide⟩ (Nat.le_of_ble_eq_true rfl) rfl (by decide) y_42 ⟨by decide, by decide⟩ dX5_write_49 ?_
            exact fr_ireturn (pc := 52) rfl rfl rfl rfl dX5_write_52
        · exact absurd h20 k1
      · have g4 := bI_0.mp h4
        exact absurd (wi3 hi1) g4
def cz (f : Nat → Int32) (k : Nat) : Nat → Int32 := fun p => if p < k then 0 else f p
theorem cz_up {nu : Nat → Nat → Int32} {s k : Nat} {f : Nat → Int32} : u2 (v2 nu s (cz f k)) s k 0 = v2 nu s (cz f (k + 1)) := by
  funext a p
  rw [u2_at]
  unfold v2 cz
  by_cases h1 : a = s
  · by_cases h2 : p = k
    · rw [if_pos ⟨h1, h2⟩, if_pos h1, if_pos (by omega)]
    · rw [if_neg (fun z => h2 z.2), if_pos h1, if_pos h1]
      by_cases h3 : p < k
      · rw [if_pos h3, if_pos (by omega)]
      · rw [if_neg h3, if_neg (by omega)]
  · rw [if_neg (fun z => h1 z.1), if_neg h1, if_neg h1]
theorem cz_0 {nu : Nat → Nat → Int32} {s : Nat} : v2 nu s (cz (nu s) 0) = nu := by
  funext a
  unfold v2
  split
  · rename_i h; rw [h]; funext p; exact if_neg (by omega)
  · rfl
set_option maxRecDepth 100000 in
theorem ysh_loop {Γ : aG} {l : Launch} {M : Nat → aC} {r : rT} {kr ar : Nat → Int32} {ik : Int32} {fi b : Nat → Int32} {ln : Int32} {it mv : Nat → Int32} {Q : yQ} {nu : Nat → Nat → Int32} {B1 L1 : Nat → Int32} {s : Nat} {bb nn : Int32} (hs : s < 4) : ∀ (j k : Nat), k + j = 40 → Fr Γ l mX5_sheet 86 [(0, .ref 42), (1, .int (nI s)), (2, .int bb), (3, .int nn), (4, .int (nI k))] [] 54 0 0 (yM M r kr ar ik fi b ln (v2 nu s (cz (nu s) k), B1, L1) it mv Q) (some (.int (L1 s))) 54 (yM M r kr ar ik fi b ln (v2 nu s (cz (nu s) 40), B1, L1) it mv Q) := by
  intro j
  induction j with
  | zero =>
    intro k hk
    rw [show k = 40 by omega]
    refine fr_iload (pc := 86) rfl dX5_sheet_86 ?_
    refine fr_bipush (pc := 88) (v := 40) rfl dX5_sheet_88 ?_
    refine fr_icmp_ge (pc := 90) 112 (by decide) dX5_sheet_90 (fun h90 => ?_) (fun h90 => ?_)
    · refine fr_aload_n (pc := 112) rfl dX5_sheet_112 ?_
      refine fr_get (pc := 113) (ci := 4) (T := TX5) (k0 := 17) rfl hin_X5 (by decide) fl_X5_51 (by decide) y_42 rfl dX5_sheet_113 ?_
      refine fr_iload_n (pc := 116) rfl dX5_sheet_116 ?_
      refine fr_iald (pc := 117) s rfl (by decide) y_51 (by first | assumption | omega) (by decide) dX5_sheet_117 ?_
      exact fr_ireturn (pc := 118) rfl rfl rfl rfl dX5_sheet_118
    · exact absurd (by decide) h90
  | succ j ih =>
    intro k hk
    refine fr_iload (pc := 86) rfl dX5_sheet_86 ?_
    refine fr_bipush (pc := 88) (v := 40) rfl dX5_sheet_88 ?_
    refine fr_icmp_ge (pc := 90) 112 (by decide) dX5_sheet_90 (fun h90 => ?_) (fun h90 => ?_)
    · exact absurd h90 (nI_ge (a := k) (b := 40) (by omega) (by omega))
    · refine fr_aload_n (pc := 93) rfl dX5_sheet_93 ?_
      refine fr_get (pc := 94) (ci := 4) (T := TX5) (k0 := 18) rfl hin_X5 (by decide) fl_X5_54 (by decide) y_42 rfl dX5_sheet_94 ?_
      refine fr_bipush (pc := 97) (v := 40) rfl dX5_sheet_97 ?_
      refine fr_iload_n (pc := 99) rfl dX5_sheet_99 ?_
      refine fr_imul (pc := 100) dX5_sheet_100 ?_
      refine fr_iload (pc := 101) rfl dX5_sheet_101 ?_
      refine fr_iadd (pc := 103) dX5_sheet_103 ?_
      refine fr_eq (z := nI (40 * s + k)) (n40 s k) ?_
      refine fr_iconst (pc := 104) (v := 0) rfl dX5_sheet_104 ?_
      refine fr_iast (pc := 105) (40 * s + k) rfl (by decide) y_52 (by first | assumption | omega) (by decide) dX5_sheet_105 ?_
      refine fr_mem (y_u52 (by omega)) ?_
      refine fr_mem (M1 := (yM M r kr ar ik fi b ln (v2 nu s (cz (nu s) (k + 1)), B1, L1) it mv Q)) (congrArg (fun q => yM M r kr ar ik fi b ln (q, B1, L1) it mv Q) cz_up) ?_
      refine fr_iinc (pc := 106) (v := nI (k + 1)) [(4, .int (nI (k + 1))), (0, .ref 42), (1, .int (nI s)), (2, .int bb), (3, .int nn)] rfl (nI_1 k) (by decide) rfl dX5_sheet_106 ?_
      refine fr_goto (pc := 109) 86 (by decide) dX5_sheet_109 ?_
      exact fr_sub [1, 2, 3, 4, 0] rfl (ih (k + 1) (by omega))
set_option maxRecDepth 100000 in
theorem y_sheet {Γ : aG} {l : Launch} {M : Nat → aC} {r : rT} {kr ar : Nat → Int32} {rk : rT} {ik : Int32} {fi b : Nat → Int32} {ln : Int32} {S : sT} {it mv : Nat → Int32} {Q : yQ} {s q n : Int32} : Ev Γ l mX5_sheet [.ref 42, .int s, .int q, .int n] 54 (yM M r kr ar ik fi b ln S it mv Q) (some (.int (sp_sheet (r, rk, ik, S, b, ln, fi) s q n).1)) 54 (yF M kr ar it mv Q (sp_sheet (r, rk, ik, S, b, ln, fi) s q n).2) := by
  by_cases hc : wi s 0 3 = true ∧ sb q = true
  · obtain ⟨i1, hi1, rfl⟩ := wi_nI (N := 3) hc.1 rfl
    have ei1 : (nI i1).toNatClampNeg = i1 := nI_clamp (by omega)
    have hq := of_decide_eq_true hc.2
    by_cases z0 : n < 0
    · rw [show sp_sheet (r, rk, ik, S, b, ln, fi) (nI i1) q n = fb (r, rk, ik, S, b, ln, fi) 6 from (if_pos hc).trans (if_pos z0)]
      refine Ev.of [(0, .ref 42), (1, .int (nI i1)), (2, .int q), (3, .int n)] (by decide) (Nat.le_of_ble_eq_true rfl) rfl ?_
      refine fr_iload_n (pc := 0) rfl dX5_sheet_0 ?_
      refine fr_callS0 (pc := 1) [.int (nI i1)] [] (c_X5_isSheet) gc_X5_203 rfl rfl ⟨rfl, rfl, by decide, by decide⟩ (Nat.le_of_ble_eq_true rfl) ⟨by decide, by decide⟩ dX5_sheet_1 ?_
      refine fr_if_eq (pc := 4) 29 (by decide) dX5_sheet_4 (fun h4 => ?_) (fun h4 => ?_)
      · have g4 := bI_0.mp h4
        exact absurd hc.1 g4
      · have g4 := bI_n0 h4
        refine fr_iload_n (pc := 7) rfl dX5_sheet_7 ?_
        refine fr_if_eq (pc := 8) 36 (by decide) dX5_sheet_8 (fun h8 => ?_) (fun h8 => ?_)
        · refine fr_iload_n (pc := 36) rfl dX5_sheet_36 ?_
          refine fr_if_ge (pc := 37) 48 (by decide) dX5_sheet_37 (fun h37 => ?_) (fun h37 => ?_)
          · exact absurd z0 (Int32.not_lt.mpr h37)
          · refine fr_aload_n (pc := 40) rfl dX5_sheet_40 ?_
            refine fr_ldcw (pc := 41) kc_X5_303 dX5_sheet_41 ?_
            refine fr_callV0 (pc := 44) (ci := 4) (T := TX5) (N := 20) [.int (-1000007)] [] (c_fnd6) gc_X5_66 rfl rfl ⟨rfl, rfl, by decide, by decide⟩ (Nat.le_of_ble_eq_true rfl) rfl (by decide) y_42 ⟨by decide, by decide⟩ dX5_sheet_44 ?_
            exact fr_ireturn (pc := 47) rfl rfl rfl rfl dX5_sheet_47
        · refine fr_iload_n (pc := 11) rfl dX5_sheet_11 ?_
          refine fr_bipush (pc := 12) (v := 8) rfl dX5_sheet_12 ?_
          refine fr_icmp_eq (pc := 14) 36 (by decide) dX5_sheet_14 (fun h14 => ?_) (fun h14 => ?_)
          · refine fr_iload_n (pc := 36) rfl dX5_sheet_36 ?_
            refine fr_if_ge (pc := 37) 48 (by decide) dX5_sheet_37 (fun h37 => ?_) (fun h37 => ?_)
            · exact absurd z0 (Int32.not_lt.mpr h37)
            · refine fr_aload_n (pc := 40) rfl dX5_sheet_40 ?_
              refine fr_ldcw (pc := 41) kc_X5_303 dX5_sheet_41 ?_
              refine fr_callV0 (pc := 44) (ci := 4) (T := TX5) (N := 20) [.int (-1000007)] [] (c_fnd6) gc_X5_66 rfl rfl ⟨rfl, rfl, by decide, by decide⟩ (Nat.le_of_ble_eq_true rfl) rfl (by decide) y_42 ⟨by decide, by decide⟩ dX5_sheet_44 ?_
              exact fr_ireturn (pc := 47) rfl rfl rfl rfl dX5_sheet_47
          · refine fr_iload_n (pc := 17) rfl dX5_sheet_17 ?_
            refine fr_bipush (pc := 18) (v := 16) rfl dX5_sheet_18 ?_
            refine fr_icmp_eq (pc := 20) 36 (by decide) dX5_sheet_20 (fun h20 => ?_) (fun h20 => ?_)
            · refine fr_iload_n (pc := 36) rfl dX5_sheet_36 ?_
              refine fr_if_ge (pc := 37) 48 (by decide) dX5_sheet_37 (fun h37 => ?_) (fun h37 => ?_)
              · exact absurd z0 (Int32.not_lt.mpr h37)
              · refine fr_aload_n (pc := 40) rfl dX5_sheet_40 ?_
                refine fr_ldcw (pc := 41) kc_X5_303 dX5_sheet_41 ?_
                refine fr_callV0 (pc := 44) (ci := 4) (T := TX5) (N := 20) [.int (-1000007)] [] (c_fnd6) gc_X5_66 rfl rfl ⟨rfl, rfl, by decide, by decide⟩ (Nat.le_of_ble_eq_true rfl) rfl (by decide) y_42 ⟨by decide, by decide⟩ dX5_sheet_44 ?_
                exact fr_ireturn (pc := 47) rfl rfl rfl rfl dX5_sheet_47
            · refine fr_iload_n (pc := 23) rfl dX5_sheet_23 ?_
              refine fr_bipush (pc := 24) (v := 32) rfl dX5_sheet_24 ?_
              refine fr_icmp_eq (pc := 26) 36 (by decide) dX5_sheet_26 (fun h26 => ?_) (fun h26 => ?_)
              · refine fr_iload_n (pc := 36) rfl dX5_sheet_36 ?_
                refine fr_if_ge (pc := 37) 48 (by decide) dX5_sheet_37 (fun h37 => ?_) (fun h37 => ?_)
                · exact absurd z0 (Int32.not_lt.mpr h37)
                · refine fr_aload_n (pc := 40) rfl dX5_sheet_40 ?_
                  refine fr_ldcw (pc := 41) kc_X5_303 dX5_sheet_41 ?_
                  refine fr_callV0 (pc := 44) (ci := 4) (T := TX5) (N := 20) [.int (-1000007)] [] (c_fnd6) gc_X5_66 rfl rfl ⟨rfl, rfl, by decide, by decide⟩ (Nat.le_of_ble_eq_true rfl) rfl (by decide) y_42 ⟨by decide, by decide⟩ dX5_sheet_44 ?_
                  exact fr_ireturn (pc := 47) rfl rfl rfl rfl dX5_sheet_47
              · exact absurd hq (fun z => z.elim h8 (fun z => z.elim h14 (fun z => z.elim h20 h26)))
    · by_cases z4 : 40 < n
      · rw [show sp_sheet (r, rk, ik, S, b, ln, fi) (nI i1) q n = fb (r, rk, ik, S, b, ln, fi) 0 from (if_pos hc).trans ((if_neg z0).trans (if_pos z4))]
        refine Ev.of [(0, .ref 42), (1, .int (nI i1)), (2, .int q), (3, .int n)] (by decide) (Nat.le_of_ble_eq_true rfl) rfl ?_
        refine fr_iload_n (pc := 0) rfl dX5_sheet_0 ?_
        refine fr_callS0 (pc := 1) [.int (nI i1)] [] (c_X5_isSheet) gc_X5_203 rfl rfl ⟨rfl, rfl, by decide, by decide⟩ (Nat.le_of_ble_eq_true rfl) ⟨by decide, by decide⟩ dX5_sheet_1 ?_
        refine fr_if_eq (pc := 4) 29 (by decide) dX5_sheet_4 (fun h4 => ?_) (fun h4 => ?_)
        · have g4 := bI_0.mp h4
          exact absurd hc.1 g4
        · have g4 := bI_n0 h4
          refine fr_iload_n (pc := 7) rfl dX5_sheet_7 ?_
          refine fr_if_eq (pc := 8) 36 (by decide) dX5_sheet_8 (fun h8 => ?_) (fun h8 => ?_)
          · refine fr_iload_n (pc := 36) rfl dX5_sheet_36 ?_
            refine fr_if_ge (pc := 37) 48 (by decide) dX5_sheet_37 (fun h37 => ?_) (fun h37 => ?_)
            · refine fr_iload_n (pc := 48) rfl dX5_sheet_48 ?_
              refine fr_bipush (pc := 49) (v := 40) rfl dX5_sheet_49 ?_
              refine fr_icmp_le (pc := 51) 61 (by decide) dX5_sheet_51 (fun h51 => ?_) (fun h51 => ?_)
              · exact absurd z4 (Int32.not_lt.mpr h51)
              · refine fr_aload_n (pc := 54) rfl dX5_sheet_54 ?_
                refine fr_ldc (pc := 55) kc_X5_60 dX5_sheet_55 ?_
                refine fr_callV0 (pc := 57) (ci := 4) (T := TX5) (N := 20) [.int (-1000001)] [] (c_fnd0) gc_X5_66 rfl rfl ⟨rfl, rfl, by decide, by decide⟩ (Nat.le_of_ble_eq_true rfl) rfl (by decide) y_42 ⟨by decide, by decide⟩ dX5_sheet_57 ?_
                exact fr_ireturn (pc := 60) rfl rfl rfl rfl dX5_sheet_60
            · exact absurd (Int32.not_lt.mp z0) h37
          · refine fr_iload_n (pc := 11) rfl dX5_sheet_11 ?_
            refine fr_bipush (pc := 12) (v := 8) rfl dX5_sheet_12 ?_
            refine fr_icmp_eq (pc := 14) 36 (by decide) dX5_sheet_14 (fun h14 => ?_) (fun h14 => ?_)
            · refine fr_iload_n (pc := 36) rfl dX5_sheet_36 ?_
              refine fr_if_ge (pc := 37) 48 (by decide) dX5_sheet_37 (fun h37 => ?_) (fun h37 => ?_)
              · refine fr_iload_n (pc := 48) rfl dX5_sheet_48 ?_
                refine fr_bipush (pc := 49) (v := 40) rfl dX5_sheet_49 ?_
                refine fr_icmp_le (pc := 51) 61 (by decide) dX5_sheet_51 (fun h51 => ?_) (fun h51 => ?_)
                · exact absurd z4 (Int32.not_lt.mpr h51)
                · refine fr_aload_n (pc := 54) rfl dX5_sheet_54 ?_
                  refine fr_ldc (pc := 55) kc_X5_60 dX5_sheet_55 ?_
                  refine fr_callV0 (pc := 57) (ci := 4) (T := TX5) (N := 20) [.int (-1000001)] [] (c_fnd0) gc_X5_66 rfl rfl ⟨rfl, rfl, by decide, by decide⟩ (Nat.le_of_ble_eq_true rfl) rfl (by decide) y_42 ⟨by decide, by decide⟩ dX5_sheet_57 ?_
                  exact fr_ireturn (pc := 60) rfl rfl rfl rfl dX5_sheet_60
              · exact absurd (Int32.not_lt.mp z0) h37
            · refine fr_iload_n (pc := 17) rfl dX5_sheet_17 ?_
              refine fr_bipush (pc := 18) (v := 16) rfl dX5_sheet_18 ?_
              refine fr_icmp_eq (pc := 20) 36 (by decide) dX5_sheet_20 (fun h20 => ?_) (fun h20 => ?_)
              · refine fr_iload_n (pc := 36) rfl dX5_sheet_36 ?_
                refine fr_if_ge (pc := 37) 48 (by decide) dX5_sheet_37 (fun h37 => ?_) (fun h37 => ?_)
                · refine fr_iload_n (pc := 48) rfl dX5_sheet_48 ?_
                  refine fr_bipush (pc := 49) (v := 40) rfl dX5_sheet_49 ?_
                  refine fr_icmp_le (pc := 51) 61 (by decide) dX5_sheet_51 (fun h51 => ?_) (fun h51 => ?_)
                  · exact absurd z4 (Int32.not_lt.mpr h51)
                  · refine fr_aload_n (pc := 54) rfl dX5_sheet_54 ?_
                    refine fr_ldc (pc := 55) kc_X5_60 dX5_sheet_55 ?_
                    refine fr_callV0 (pc := 57) (ci := 4) (T := TX5) (N := 20) [.int (-1000001)] [] (c_fnd0) gc_X5_66 rfl rfl ⟨rfl, rfl, by decide, by decide⟩ (Nat.le_of_ble_eq_true rfl) rfl (by decide) y_42 ⟨by decide, by decide⟩ dX5_sheet_57 ?_
                    exact fr_ireturn (pc := 60) rfl rfl rfl rfl dX5_sheet_60
                · exact absurd (Int32.not_lt.mp z0) h37
              · refine fr_iload_n (pc := 23) rfl dX5_sheet_23 ?_
                refine fr_bipush (pc := 24) (v := 32) rfl dX5_sheet_24 ?_
                refine fr_icmp_eq (pc := 26) 36 (by decide) dX5_sheet_26 (fun h26 => ?_) (fun h26 => ?_)
                · refine fr_iload_n (pc := 36) rfl dX5_sheet_36 ?_
                  refine fr_if_ge (pc := 37) 48 (by decide) dX5_sheet_37 (fun h37 => ?_) (fun h37 => ?_)
                  · refine fr_iload_n (pc := 48) rfl dX5_sheet_48 ?_
                    refine fr_bipush (pc := 49) (v := 40) rfl dX5_sheet_49 ?_
                    refine fr_icmp_le (pc := 51) 61 (by decide) dX5_sheet_51 (fun h51 => ?_) (fun h51 => ?_)
                    · exact absurd z4 (Int32.not_lt.mpr h51)
                    · refine fr_aload_n (pc := 54) rfl dX5_sheet_54 ?_
                      refine fr_ldc (pc := 55) kc_X5_60 dX5_sheet_55 ?_
                      refine fr_callV0 (pc := 57) (ci := 4) (T := TX5) (N := 20) [.int (-1000001)] [] (c_fnd0) gc_X5_66 rfl rfl ⟨rfl, rfl, by decide, by decide⟩ (Nat.le_of_ble_eq_true rfl) rfl (by decide) y_42 ⟨by decide, by decide⟩ dX5_sheet_57 ?_
                      exact fr_ireturn (pc := 60) rfl rfl rfl rfl dX5_sheet_60
                  · exact absurd (Int32.not_lt.mp z0) h37
                · exact absurd hq (fun z => z.elim h8 (fun z => z.elim h14 (fun z => z.elim h20 h26)))
      · obtain ⟨n1, hn1⟩ : ∃ z : Int32, z = if q = 0 then 0 else n := ⟨_, rfl⟩
        rw [show sp_sheet (r, rk, ik, S, b, ln, fi) (nI i1) q n = (upd S.2.2 i1 n1 i1, sS4 (r, rk, ik, S, b, ln, fi) (v2 S.1 i1 (cz (S.1 i1) 40), upd S.2.1 i1 q, upd S.2.2 i1 n1)) from by rw [show upd S.2.2 i1 n1 i1 = n1 from if_pos rfl, hn1]; unfold sp_sheet; rw [ei1]; exact (if_pos hc).trans ((if_neg z0).trans (if_neg z4))]
        refine Ev.of [(0, .ref 42), (1, .int (nI i1)), (2, .int q), (3, .int n)] (by decide) (Nat.le_of_ble_eq_true rfl) rfl ?_
        refine fr_iload_n (pc := 0) rfl dX5_sheet_0 ?_
        refine fr_callS0 (pc := 1) [.int (nI i1)] [] (c_X5_isSheet) gc_X5_203 rfl rfl ⟨rfl, rfl, by decide, by decide⟩ (Nat.le_of_ble_eq_true rfl) ⟨by decide, by decide⟩ dX5_sheet_1 ?_
        refine fr_if_eq (pc := 4) 29 (by decide) dX5_sheet_4 (fun h4 => ?_) (fun h4 => ?_)
        · have g4 := bI_0.mp h4
          exact absurd hc.1 g4
        · have g4 := bI_n0 h4
          refine fr_iload_n (pc := 7) rfl dX5_sheet_7 ?_
          refine fr_if_eq (pc := 8) 36 (by decide) dX5_sheet_8 (fun h8 => ?_) (fun h8 => ?_)
          · refine fr_iload_n (pc := 36) rfl dX5_sheet_36 ?_
            refine fr_if_ge (pc := 37) 48 (by decide) dX5_sheet_37 (fun h37 => ?_) (fun h37 => ?_)
            · refine fr_iload_n (pc := 48) rfl dX5_sheet_48 ?_
              refine fr_bipush (pc := 49) (v := 40) rfl dX5_sheet_49 ?_
              refine fr_icmp_le (pc := 51) 61 (by decide) dX5_sheet_51 (fun h51 => ?_) (fun h51 => ?_)
              · refine fr_aload_n (pc := 61) rfl dX5_sheet_61 ?_
                refine fr_get (pc := 62) (ci := 4) (T := TX5) (k0 := 16) rfl hin_X5 (by decide) fl_X5_48 (by decide) y_42 rfl dX5_sheet_62 ?_
                refine fr_iload_n (pc := 65) rfl dX5_sheet_65 ?_
                refine fr_iload_n (pc := 66) rfl dX5_sheet_66 ?_
                refine fr_iast (pc := 67) i1 rfl (by decide) y_50 (by first | assumption | omega) (by decide) dX5_sheet_67 ?_
                refine fr_mem y_u50 ?_
                refine fr_aload_n (pc := 68) rfl dX5_sheet_68 ?_
                refine fr_get (pc := 69) (ci := 4) (T := TX5) (k0 := 17) rfl hin_X5 (by decide) fl_X5_51 (by decide) y_42 rfl dX5_sheet_69 ?_
                refine fr_iload_n (pc := 72) rfl dX5_sheet_72 ?_
                refine fr_iload_n (pc := 73) rfl dX5_sheet_73 ?_
                refine fr_if_ne (pc := 74) 81 (by decide) dX5_sheet_74 (fun h74 => ?_) (fun h74 => ?_)
                · refine fr_iload_n (pc := 81) rfl dX5_sheet_81 ?_
                  refine fr_eq (z := n1) (by rw [hn1, if_neg h74]) ?_
                  refine fr_iast (pc := 82) i1 rfl (by decide) y_51 (by first | assumption | omega) (by decide) dX5_sheet_82 ?_
                  refine fr_mem y_u51 ?_
                  refine fr_iconst (pc := 83) (v := 0) rfl dX5_sheet_83 ?_
                  refine fr_istore (pc := 84) [(4, .int 0), (0, .ref 42), (1, .int (nI i1)), (2, .int q), (3, .int n)] (by decide) rfl dX5_sheet_84 ?_
                  refine fr_mem (M1 := (yM M r kr ar ik fi b ln (v2 S.1 i1 (cz (S.1 i1) 0), upd S.2.1 i1 q, upd S.2.2 i1 n1) it mv Q)) (congrArg (fun z => yM M r kr ar ik fi b ln (z, upd S.2.1 i1 q, upd S.2.2 i1 n1) it mv Q) (cz_0 (nu := S.1) (s := i1)).symm) ?_
                  exact fr_sub [1, 2, 3, 4, 0] rfl (ysh_loop (nu := S.1) (by omega) 40 0 rfl)
                · refine fr_iconst (pc := 77) (v := 0) rfl dX5_sheet_77 ?_
                  refine fr_goto (pc := 78) 82 (by decide) dX5_sheet_78 ?_
                  refine fr_eq (z := n1) (by rw [hn1, if_pos h74]) ?_
                  refine fr_iast (pc := 82) i1 rfl (by decide) y_51 (by first | assumption | omega) (by decide) dX5_sheet_82 ?_
                  refine fr_mem y_u51 ?_
                  refine fr_iconst (pc := 83) (v := 0) rfl dX5_sheet_83 ?_
                  refine fr_istore (pc := 84) [(4, .int 0), (0, .ref 42), (1, .int (nI i1)), (2, .int q), (3, .int n)] (by decide) rfl dX5_sheet_84 ?_
                  refine fr_mem (M1 := (yM M r kr ar ik fi b ln (v2 S.1 i1 (cz (S.1 i1) 0), upd S.2.1 i1 q, upd S.2.2 i1 n1) it mv Q)) (congrArg (fun z => yM M r kr ar ik fi b ln (z, upd S.2.1 i1 q, upd S.2.2 i1 n1) it mv Q) (cz_0 (nu := S.1) (s := i1)).symm) ?_
                  exact fr_sub [1, 2, 3, 4, 0] rfl (ysh_loop (nu := S.1) (by omega) 40 0 rfl)
              · exact absurd (Int32.not_lt.mp z4) h51
            · exact absurd (Int32.not_lt.mp z0) h37
          · refine fr_iload_n (pc := 11) rfl dX5_sheet_11 ?_
            refine fr_bipush (pc := 12) (v := 8) rfl dX5_sheet_12 ?_
            refine fr_icmp_eq (pc := 14) 36 (by decide) dX5_sheet_14 (fun h14 => ?_) (fun h14 => ?_)
            · refine fr_iload_n (pc := 36) rfl dX5_sheet_36 ?_
              refine fr_if_ge (pc := 37) 48 (by decide) dX5_sheet_37 (fun h37 => ?_) (fun h37 => ?_)
              · refine fr_iload_n (pc := 48) rfl dX5_sheet_48 ?_
                refine fr_bipush (pc := 49) (v := 40) rfl dX5_sheet_49 ?_
                refine fr_icmp_le (pc := 51) 61 (by decide) dX5_sheet_51 (fun h51 => ?_) (fun h51 => ?_)
                · refine fr_aload_n (pc := 61) rfl dX5_sheet_61 ?_
                  refine fr_get (pc := 62) (ci := 4) (T := TX5) (k0 := 16) rfl hin_X5 (by decide) fl_X5_48 (by decide) y_42 rfl dX5_sheet_62 ?_
                  refine fr_iload_n (pc := 65) rfl dX5_sheet_65 ?_
                  refine fr_iload_n (pc := 66) rfl dX5_sheet_66 ?_
                  refine fr_iast (pc := 67) i1 rfl (by decide) y_50 (by first | assumption | omega) (by decide) dX5_sheet_67 ?_
                  refine fr_mem y_u50 ?_
                  refine fr_aload_n (pc := 68) rfl dX5_sheet_68 ?_
                  refine fr_get (pc := 69) (ci := 4) (T := TX5) (k0 := 17) rfl hin_X5 (by decide) fl_X5_51 (by decide) y_42 rfl dX5_sheet_69 ?_
                  refine fr_iload_n (pc := 72) rfl dX5_sheet_72 ?_
                  refine fr_iload_n (pc := 73) rfl dX5_sheet_73 ?_
                  refine fr_if_ne (pc := 74) 81 (by decide) dX5_sheet_74 (fun h74 => ?_) (fun h74 => ?_)
                  · refine fr_iload_n (pc := 81) rfl dX5_sheet_81 ?_
                    refine fr_eq (z := n1) (by rw [hn1, if_neg h74]) ?_
                    refine fr_iast (pc := 82) i1 rfl (by decide) y_51 (by first | assumption | omega) (by decide) dX5_sheet_82 ?_
                    refine fr_mem y_u51 ?_
                    refine fr_iconst (pc := 83) (v := 0) rfl dX5_sheet_83 ?_
                    refine fr_istore (pc := 84) [(4, .int 0), (0, .ref 42), (1, .int (nI i1)), (2, .int q), (3, .int n)] (by decide) rfl dX5_sheet_84 ?_
                    refine fr_mem (M1 := (yM M r kr ar ik fi b ln (v2 S.1 i1 (cz (S.1 i1) 0), upd S.2.1 i1 q, upd S.2.2 i1 n1) it mv Q)) (congrArg (fun z => yM M r kr ar ik fi b ln (z, upd S.2.1 i1 q, upd S.2.2 i1 n1) it mv Q) (cz_0 (nu := S.1) (s := i1)).symm) ?_
                    exact fr_sub [1, 2, 3, 4, 0] rfl (ysh_loop (nu := S.1) (by omega) 40 0 rfl)
                  · refine fr_iconst (pc := 77) (v := 0) rfl dX5_sheet_77 ?_
                    refine fr_goto (pc := 78) 82 (by decide) dX5_sheet_78 ?_
                    refine fr_eq (z := n1) (by rw [hn1, if_pos h74]) ?_
                    refine fr_iast (pc := 82) i1 rfl (by decide) y_51 (by first | assumption | omega) (by decide) dX5_sheet_82 ?_
                    refine fr_mem y_u51 ?_
                    refine fr_iconst (pc := 83) (v := 0) rfl dX5_sheet_83 ?_
                    refine fr_istore (pc := 84) [(4, .int 0), (0, .ref 42), (1, .int (nI i1)), (2, .int q), (3, .int n)] (by decide) rfl dX5_sheet_84 ?_
                    refine fr_mem (M1 := (yM M r kr ar ik fi b ln (v2 S.1 i1 (cz (S.1 i1) 0), upd S.2.1 i1 q, upd S.2.2 i1 n1) it mv Q)) (congrArg (fun z => yM M r kr ar ik fi b ln (z, upd S.2.1 i1 q, upd S.2.2 i1 n1) it mv Q) (cz_0 (nu := S.1) (s := i1)).symm) ?_
                    exact fr_sub [1, 2, 3, 4, 0] rfl (ysh_loop (nu := S.1) (by omega) 40 0 rfl)
                · exact absurd (Int32.not_lt.mp z4) h51
              · exact absurd (Int32.not_lt.mp z0) h37
            · refine fr_iload_n (pc := 17) rfl dX5_sheet_17 ?_
              refine fr_bipush (pc := 18) (v := 16) rfl dX5_sheet_18 ?_
              refine fr_icmp_eq (pc := 20) 36 (by decide) dX5_sheet_20 (fun h20 => ?_) (fun h20 => ?_)
              · refine fr_iload_n (pc := 36) rfl dX5_sheet_36 ?_
                refine fr_if_ge (pc := 37) 48 (by decide) dX5_sheet_37 (fun h37 => ?_) (fun h37 => ?_)
                · refine fr_iload_n (pc := 48) rfl dX5_sheet_48 ?_
                  refine fr_bipush (pc := 49) (v := 40) rfl dX5_sheet_49 ?_
                  refine fr_icmp_le (pc := 51) 61 (by decide) dX5_sheet_51 (fun h51 => ?_) (fun h51 => ?_)
                  · refine fr_aload_n (pc := 61) rfl dX5_sheet_61 ?_
                    refine fr_get (pc := 62) (ci := 4) (T := TX5) (k0 := 16) rfl hin_X5 (by decide) fl_X5_48 (by decide) y_42 rfl dX5_sheet_62 ?_
                    refine fr_iload_n (pc := 65) rfl dX5_sheet_65 ?_
                    refine fr_iload_n (pc := 66) rfl dX5_sheet_66 ?_
                    refine fr_iast (pc := 67) i1 rfl (by decide) y_50 (by first | assumption | omega) (by decide) dX5_sheet_67 ?_
                    refine fr_mem y_u50 ?_
                    refine fr_aload_n (pc := 68) rfl dX5_sheet_68 ?_
                    refine fr_get (pc := 69) (ci := 4) (T := TX5) (k0 := 17) rfl hin_X5 (by decide) fl_X5_51 (by decide) y_42 rfl dX5_sheet_69 ?_
                    refine fr_iload_n (pc := 72) rfl dX5_sheet_72 ?_
                    refine fr_iload_n (pc := 73) rfl dX5_sheet_73 ?_
                    refine fr_if_ne (pc := 74) 81 (by decide) dX5_sheet_74 (fun h74 => ?_) (fun h74 => ?_)
                    · refine fr_iload_n (pc := 81) rfl dX5_sheet_81 ?_
                      refine fr_eq (z := n1) (by rw [hn1, if_neg h74]) ?_
                      refine fr_iast (pc := 82) i1 rfl (by decide) y_51 (by first | assumption | omega) (by decide) dX5_sheet_82 ?_
                      refine fr_mem y_u51 ?_
                      refine fr_iconst (pc := 83) (v := 0) rfl dX5_sheet_83 ?_
                      refine fr_istore (pc := 84) [(4, .int 0), (0, .ref 42), (1, .int (nI i1)), (2, .int q), (3, .int n)] (by decide) rfl dX5_sheet_84 ?_
                      refine fr_mem (M1 := (yM M r kr ar ik fi b ln (v2 S.1 i1 (cz (S.1 i1) 0), upd S.2.1 i1 q, upd S.2.2 i1 n1) it mv Q)) (congrArg (fun z => yM M r kr ar ik fi b ln (z, upd S.2.1 i1 q, upd S.2.2 i1 n1) it mv Q) (cz_0 (nu := S.1) (s := i1)).symm) ?_
                      exact fr_sub [1, 2, 3, 4, 0] rfl (ysh_loop (nu := S.1) (by omega) 40 0 rfl)
                    · refine fr_iconst (pc := 77) (v := 0) rfl dX5_sheet_77 ?_
                      refine fr_goto (pc := 78) 82 (by decide) dX5_sheet_78 ?_
                      refine fr_eq (z := n1) (by rw [hn1, if_pos h74]) ?_
                      refine fr_iast (pc := 82) i1 rfl (by decide) y_51 (by first | assumption | omega) (by decide) dX5_sheet_82 ?_
                      refine fr_mem y_u51 ?_
                      refine fr_iconst (pc := 83) (v := 0) rfl dX5_sheet_83 ?_
                      refine fr_istore (pc := 84) [(4, .int 0), (0, .ref 42), (1, .int (nI i1)), (2, .int q), (3, .int n)] (by decide) rfl dX5_sheet_84 ?_
                      refine fr_mem (M1 := (yM M r kr ar ik fi b ln (v2 S.1 i1 (cz (S.1 i1) 0), upd S.2.1 i1 q, upd S.2.2 i1 n1) it mv Q)) (congrArg (fun z => yM M r kr ar ik fi b ln (z, upd S.2.1 i1 q, upd S.2.2 i1 n1) it mv Q) (cz_0 (nu := S.1) (s := i1)).symm) ?_
                      exact fr_sub [1, 2, 3, 4, 0] rfl (ysh_loop (nu := S.1) (by omega) 40 0 rfl)
                  · exact absurd (Int32.not_lt.mp z4) h51
                · exact absurd (Int32.not_lt.mp z0) h37
              · refine fr_iload_n (pc := 23) rfl dX5_sheet_23 ?_
                refine fr_bipush (pc := 24) (v := 32) rfl dX5_sheet_24 ?_
                refine fr_icmp_eq (pc := 26) 36 (by decide) dX5_sheet_26 (fun h26 => ?_) (fun h26 => ?_)
                · refine fr_iload_n (pc := 36) rfl dX5_sheet_36 ?_
                  refine fr_if_ge (pc := 37) 48 (by decide) dX5_sheet_37 (fun h37 => ?_) (fun h37 => ?_)
                  · refine fr_iload_n (pc := 48) rfl dX5_sheet_48 ?_
                    refine fr_bipush (pc := 49) (v := 40) rfl dX5_sheet_49 ?_
                    refine fr_icmp_le (pc := 51) 61 (by decide) dX5_sheet_51 (fun h51 => ?_) (fun h51 => ?_)
                    · refine fr_aload_n (pc := 61) rfl dX5_sheet_61 ?_
                      refine fr_get (pc := 62) (ci := 4) (T := TX5) (k0 := 16) rfl hin_X5 (by decide) fl_X5_48 (by decide) y_42 rfl dX5_sheet_62 ?_
                      refine fr_iload_n (pc := 65) rfl dX5_sheet_65 ?_
                      refine fr_iload_n (pc := 66) rfl dX5_sheet_66 ?_
                      refine fr_iast (pc := 67) i1 rfl (by decide) y_50 (by first | assumption | omega) (by decide) dX5_sheet_67 ?_
                      refine fr_mem y_u50 ?_
                      refine fr_aload_n (pc := 68) rfl dX5_sheet_68 ?_
                      refine fr_get (pc := 69) (ci := 4) (T := TX5) (k0 := 17) rfl hin_X5 (by decide) fl_X5_51 (by decide) y_42 rfl dX5_sheet_69 ?_
                      refine fr_iload_n (pc := 72) rfl dX5_sheet_72 ?_
                      refine fr_iload_n (pc := 73) rfl dX5_sheet_73 ?_
                      refine fr_if_ne (pc := 74) 81 (by decide) dX5_sheet_74 (fun h74 => ?_) (fun h74 => ?_)
                      · refine fr_iload_n (pc := 81) rfl dX5_sheet_81 ?_
                        refine fr_eq (z := n1) (by rw [hn1, if_neg h74]) ?_
                        refine fr_iast (pc := 82) i1 rfl (by decide) y_51 (by first | assumption | omega) (by decide) dX5_sheet_82 ?_
                        refine fr_mem y_u51 ?_
                        refine fr_iconst (pc := 83) (v := 0) rfl dX5_sheet_83 ?_
                        refine fr_istore (pc := 84) [(4, .int 0), (0, .ref 42), (1, .int (nI i1)), (2, .int q), (3, .int n)] (by decide) rfl dX5_sheet_84 ?_
                        refine fr_mem (M1 := (yM M r kr ar ik fi b ln (v2 S.1 i1 (cz (S.1 i1) 0), upd S.2.1 i1 q, upd S.2.2 i1 n1) it mv Q)) (congrArg (fun z => yM M r kr ar ik fi b ln (z, upd S.2.1 i1 q, upd S.2.2 i1 n1) it mv Q) (cz_0 (nu := S.1) (s := i1)).symm) ?_
                        exact fr_sub [1, 2, 3, 4, 0] rfl (ysh_loop (nu := S.1) (by omega) 40 0 rfl)
                      · refine fr_iconst (pc := 77) (v := 0) rfl dX5_sheet_77 ?_
                        refine fr_goto (pc := 78) 82 (by decide) dX5_sheet_78 ?_
                        refine fr_eq (z := n1) (by rw [hn1, if_pos h74]) ?_
                        refine fr_iast (pc := 82) i1 rfl (by decide) y_51 (by first | assumption | omega) (by decide) dX5_sheet_82 ?_
                        refine fr_mem y_u51 ?_
                        refine fr_iconst (pc := 83) (v := 0) rfl dX5_sheet_83 ?_
                        refine fr_istore (pc := 84) [(4, .int 0), (0, .ref 42), (1, .int (nI i1)), (2, .int q), (3, .int n)] (by decide) rfl dX5_sheet_84 ?_
                        refine fr_mem (M1 := (yM M r kr ar ik fi b ln (v2 S.1 i1 (cz (S.1 i1) 0), upd S.2.1 i1 q, upd S.2.2 i1 n1) it mv Q)) (congrArg (fun z => yM M r kr ar ik fi b ln (z, upd S.2.1 i1 q, upd S.2.2 i1 n1) it mv Q) (cz_0 (nu := S.1) (s := i1)).symm) ?_
                        exact fr_sub [1, 2, 3, 4, 0] rfl (ysh_loop (nu := S.1) (by omega) 40 0 rfl)
                    · exact absurd (Int32.not_lt.mp z4) h51
                  · exact absurd (Int32.not_lt.mp z0) h37
                · exact absurd hq (fun z => z.elim h8 (fun z => z.elim h14 (fun z => z.elim h20 h26)))
  · rw [show sp_sheet (r, rk, ik, S, b, ln, fi) s q n = fb (r, rk, ik, S, b, ln, fi) 0 from if_neg hc]
    refine Ev.of [(0, .ref 42), (1, .int s), (2, .int q), (3, .int n)] (by decide) (Nat.le_of_ble_eq_true rfl) rfl ?_
    refine fr_iload_n (pc := 0) rfl dX5_sheet_0 ?_
    refine fr_callS0 (pc := 1) [.int s] [] (c_X5_isSheet) gc_X5_203 rfl rfl ⟨rfl, rfl, by decide, by decide⟩ (Nat.le_of_ble_eq_true rfl) ⟨by decide, by decide⟩ dX5_sheet_1 ?_
    refine fr_if_eq (pc := 4) 29 (by decide) dX5_sheet_4 (fun h4 => ?_) (fun h4 => ?_)
    · have g4 := bI_0.mp h4
      refine fr_aload_n (pc := 29) rfl dX5_sheet_29 ?_
      refine fr_ldc (pc := 30) kc_X5_60 dX5_sheet_30 ?_
      refine fr_callV0 (pc := 32) (ci := 4) (T := TX5) (N := 20) [.int (-1000001)] [] (c_fnd0) gc_X5_66 rfl rfl ⟨rfl, rfl, by decide, by decide⟩ (Nat.le_of_ble_eq_true rfl) rfl (by decide) y_42 ⟨by decide, by decide⟩ dX5_sheet_32 ?_
      exact fr_ireturn (pc := 35) rfl rfl rfl rfl dX5_sheet_35
    · have g4 := bI_n0 h4
      refine fr_iload_n (pc := 7) rfl dX5_sheet_7 ?_
      refine fr_if_eq (pc := 8) 36 (by decide) dX5_sheet_8 (fun h8 => ?_) (fun h8 => ?_)
      · exact absurd ⟨g4, decide_eq_true (Or.inl h8)⟩ hc
      · refine fr_iload_n (pc := 11) rfl dX5_sheet_11 ?_
        refine fr_bipush (pc := 12) (v := 8) rfl dX5_sheet_12 ?_
        refine fr_icmp_eq (pc := 14) 36 (by decide) dX5_sheet_14 (fun h14 => ?_) (fun h14 => ?_)
        · exact absurd ⟨g4, decide_eq_true (Or.inr (Or.inl h14))⟩ hc
        · refine fr_iload_n (pc := 17) rfl dX5_sheet_17 ?_
          refine fr_bipush (pc := 18) (v := 16) rfl dX5_sheet_18 ?_
          refine fr_icmp_eq (pc := 20) 36 (by decide) dX5_sheet_20 (fun h20 => ?_) (fun h20 => ?_)
          · exact absurd ⟨g4, decide_eq_true (Or.inr (Or.inr (Or.inl h20)))⟩ hc
          · refine fr_iload_n (pc := 23) rfl dX5_sheet_23 ?_
            refine fr_bipush (pc := 24) (v := 32) rfl dX5_sheet_24 ?_
            refine fr_icmp_eq (pc := 26) 36 (by decide) dX5_sheet_26 (fun h26 => ?_) (fun h26 => ?_)
            · exact absurd ⟨g4, decide_eq_true (Or.inr (Or.inr (Or.inr h26)))⟩ hc
            · refine fr_aload_n (pc := 29) rfl dX5_sheet_29 ?_
              refine fr_ldc (pc := 30) kc_X5_60 dX5_sheet_30 ?_
              refine fr_callV0 (pc := 32) (ci := 4) (T := TX5) (N := 20) [.int (-1000001)] [] (c_fnd0) gc_X5_66 rfl rfl ⟨rfl, rfl, by decide, by decide⟩ (Nat.le_of_ble_eq_true rfl) rfl (by decide) y_42 ⟨by decide, by decide⟩ dX5_sheet_32 ?_
              exact fr_ireturn (pc := 35) rfl rfl rfl rfl dX5_sheet_35
set_option maxRecDepth 100000 in
theorem yfd_loop {Γ : aG} {l : Launch} {M : Nat → aC} {r : rT} {kr ar : Nat → Int32} {ik : Int32} {fi : Nat → Int32} {S : sT} {it mv : Nat → Int32} {Q : yQ} {x n : Int32} : ∀ (j k : Nat) (b : Nat → Int32) (q : Int32), q = nI j - 1 → k + j ≤ 120 → j ≤ 4 → Fr Γ l mX5_feed 38 [(0, .ref 42), (1, .int x), (2, .int n), (3, .int q)] [] 54 0 0 (yM M r kr ar ik fi b (nI k) S it mv Q) (some (.int (s_feed x j b (nI k)).2)) 54 (yM M r kr ar ik fi ((s_feed x j b (nI k)).1) ((s_feed x j b (nI k)).2) S it mv Q) := by
  intro j
  induction j with
  | zero =>
    intro k b q hq hk hj
    refine fr_iload_n (pc := 38) rfl dX5_feed_38 ?_
    refine fr_if_lt (pc := 39) 77 (by decide) dX5_feed_39 (fun h39 => ?_) (fun h39 => ?_)
    · refine fr_aload_n (pc := 77) rfl dX5_feed_77 ?_
      refine fr_get (pc := 78) (ci := 4) (T := TX5) (k0 := 6) rfl hin_X5 (by decide) fl_X5_218 (by decide) y_42 rfl dX5_feed_78 ?_
      exact fr_ireturn (pc := 81) rfl rfl rfl rfl dX5_feed_81
    · exact absurd (by rw [hq]; decide) h39
  | succ j ih =>
    intro k b q hq hk hj
    rw [nI_pred] at hq
    subst hq
    have ek : (nI k).toNatClampNeg = k := nI_clamp (by omega)
    refine fr_iload_n (pc := 38) rfl dX5_feed_38 ?_
    refine fr_if_lt (pc := 39) 77 (by decide) dX5_feed_39 (fun h39 => ?_) (fun h39 => ?_)
    · exact absurd h39 (nI_pos (by omega))
    · refine fr_aload_n (pc := 42) rfl dX5_feed_42 ?_
      refine fr_get (pc := 43) (ci := 4) (T := TX5) (k0 := 5) rfl hin_X5 (by decide) fl_X5_22 (by decide) y_42 rfl dX5_feed_43 ?_
      refine fr_aload_n (pc := 46) rfl dX5_feed_46 ?_
      refine fr_get (pc := 47) (ci := 4) (T := TX5) (k0 := 6) rfl hin_X5 (by decide) fl_X5_218 (by decide) y_42 rfl dX5_feed_47 ?_
      refine fr_iload_n (pc := 50) rfl dX5_feed_50 ?_
      refine fr_bipush (pc := 51) (v := 8) rfl dX5_feed_51 ?_
      refine fr_iload_n (pc := 53) rfl dX5_feed_53 ?_
      refine fr_imul (pc := 54) dX5_feed_54 ?_
      refine fr_ishr (pc := 55) dX5_feed_55 ?_
      refine fr_sipush (pc := 56) (v := 255) rfl dX5_feed_56 ?_
      refine fr_iand (pc := 59) dX5_feed_59 ?_
      refine fr_eq (z := ((x.toUInt32 >>> ((8 * nI j).toUInt32 &&& Int32.toUInt32 31)).toInt32 &&& 255)) (sh_feed x (by omega)) ?_
      refine fr_nm (fun y9 e_y9 => ?_)
      refine fr_iast (pc := 60) k rfl (by decide) y_47 (by first | assumption | omega) (by decide) dX5_feed_60 ?_
      refine fr_mem y_u47 ?_
      refine fr_aload_n (pc := 61) rfl dX5_feed_61 ?_
      refine fr_dup (pc := 62) rfl dX5_feed_62 ?_
      refine fr_get (pc := 63) (ci := 4) (T := TX5) (k0 := 6) rfl hin_X5 (by decide) fl_X5_218 (by decide) y_42 rfl dX5_feed_63 ?_
      refine fr_iconst (pc := 66) (v := 1) rfl dX5_feed_66 ?_
      refine fr_iadd (pc := 67) dX5_feed_67 ?_
      refine fr_eq (z := nI (k + 1)) (nI_1 k) ?_
      refine fr_put (pc := 68) (ci := 4) (T := TX5) (k0 := 6) (ty := .int) tyX5 tyX5_ok nmX5 rfl hin_X5 (by decide) fl_X5_218 rfl (by decide +kernel) rfl rfl (Nat.le_of_ble_eq_true rfl) (by decide) y_42 dX5_feed_68 ?_
      refine fr_mem y_u6 ?_
      refine fr_iinc (pc := 71) (v := nI j - 1) [(3, .int (nI j - 1)), (0, .ref 42), (1, .int x), (2, .int n)] rfl (by rw [show Int32.ofInt (-1) = (-1 : Int32) from by decide]; exact (Int32.sub_eq_add_neg _ _).symm) (by decide) rfl dX5_feed_71 ?_
      refine fr_goto (pc := 74) 38 (by decide) dX5_feed_74 ?_
      rw [s_feed, ek, ← e_y9, nI_1]
      exact fr_sub [1, 2, 3, 0] rfl (ih (k + 1) (upd b k y9) _ rfl (by omega) (by omega))
set_option maxRecDepth 100000 in
theorem y_feed {Γ : aG} {l : Launch} {M : Nat → aC} {r : rT} {kr ar : Nat → Int32} {rk : rT} {ik : Int32} {fi b : Nat → Int32} {ln : Int32} {S : sT} {it mv : Nat → Int32} {Q : yQ} {x n : Int32} (hl : okv ln 121) : Ev Γ l mX5_feed [.ref 42, .int x, .int n] 54 (yM M r kr ar ik fi b ln S it mv Q) (some (.int (sp_feed (r, rk, ik, S, b, ln, fi) x n).1)) 54 (yF M kr ar it mv Q (sp_feed (r, rk, ik, S, b, ln, fi) x n).2) := by
  by_cases hc : wi n 1 4 = true
  · obtain ⟨i1, hi1, rfl⟩ := wi_1 (N := 4) hc rfl
    have ei1 : (nI i1).toNatClampNeg = i1 := nI_clamp (by omega)
    obtain ⟨k9, hk9⟩ : ∃ k9, k9 = ln.toNatClampNeg := ⟨_, rfl⟩
    obtain ⟨el, ll⟩ := hl
    rw [← hk9] at el ll
    clear hk9
    subst el
    have e120 : (120 : Int32) - nI k9 = nI (120 - k9) := pk_sub (a := 120) (by omega)
    by_cases hf : 120 - nI k9 < nI i1
    · rw [show sp_feed (r, rk, ik, S, b, nI k9, fi) x (nI i1) = fb (r, rk, ik, S, b, nI k9, fi) 1 from (if_pos hc).trans (if_pos hf)]
      rw [e120, nI_ltI (by omega) (by omega)] at hf
      refine Ev.of [(0, .ref 42), (1, .int x), (2, .int (nI i1))] (by decide) (Nat.le_of_ble_eq_true rfl) rfl ?_
      refine fr_iload_n (pc := 0) rfl dX5_feed_0 ?_
      refine fr_iconst (pc := 1) (v := 1) rfl dX5_feed_1 ?_
      refine fr_iconst (pc := 2) (v := 4) rfl dX5_feed_2 ?_
      refine fr_callS0 (pc := 3) [.int (nI i1), .int 1, .int 4] [] (c_X5_within) gc_X5_70 rfl rfl ⟨rfl, rfl, by decide, by decide⟩ (Nat.le_of_ble_eq_true rfl) ⟨by decide, by decide⟩ dX5_feed_3 ?_
      refine fr_if_ne (pc := 6) 16 (by decide) dX5_feed_6 (fun h6 => ?_) (fun h6 => ?_)
      · have g6 := bI_n0 h6
        refine fr_aload_n (pc := 16) rfl dX5_feed_16 ?_
        refine fr_get (pc := 17) (ci := 4) (T := TX5) (k0 := 6) rfl hin_X5 (by decide) fl_X5_218 (by decide) y_42 rfl dX5_feed_17 ?_
        refine fr_iload_n (pc := 20) rfl dX5_feed_20 ?_
        refine fr_iadd (pc := 21) dX5_feed_21 ?_
        refine fr_eq (z := nI (k9 + i1)) (nI_add _ _) ?_
        refine fr_bipush (pc := 22) (v := 120) rfl dX5_feed_22 ?_
        refine fr_icmp_le (pc := 24) 34 (by decide) dX5_feed_24 (fun h24 => ?_) (fun h24 => ?_)
        · exact absurd h24 (nI_ge (a := 120) (b := k9 + i1) (by omega) (by omega))
        · refine fr_aload_n (pc := 27) rfl dX5_feed_27 ?_
          refine fr_ldc (pc := 28) kc_X5_112 dX5_feed_28 ?_
          refine fr_callV0 (pc := 30) (ci := 4) (T := TX5) (N := 20) [.int (-1000002)] [] (c_fnd1) gc_X5_66 rfl rfl ⟨rfl, rfl, by decide, by decide⟩ (Nat.le_of_ble_eq_true rfl) rfl (by decide) y_42 ⟨by decide, by decide⟩ dX5_feed_30 ?_
          exact fr_ireturn (pc := 33) rfl rfl rfl rfl dX5_feed_33
      · have g6 := bI_0.mp h6
        exact absurd hc g6
    · rw [show sp_feed (r, rk, ik, S, b, nI k9, fi) x (nI i1) = ((s_feed x i1 b (nI k9)).2, (r, rk, ik, S, (s_feed x i1 b (nI k9)).1, (s_feed x i1 b (nI k9)).2, fi)) from by unfold sp_feed; rw [ei1]; exact (if_pos hc).trans (if_neg hf)]
      rw [e120, nI_ltI (by omega) (by omega)] at hf
      refine Ev.of [(0, .ref 42), (1, .int x), (2, .int (nI i1))] (by decide) (Nat.le_of_ble_eq_true rfl) rfl ?_
      refine fr_iload_n (pc := 0) rfl dX5_feed_0 ?_
      refine fr_iconst (pc := 1) (v := 1) rfl dX5_feed_1 ?_
      refine fr_iconst (pc := 2) (v := 4) rfl dX5_feed_2 ?_
      refine fr_callS0 (pc := 3) [.int (nI i1), .int 1, .int 4] [] (c_X5_within) gc_X5_70 rfl rfl ⟨rfl, rfl, by decide, by decide⟩ (Nat.le_of_ble_eq_true rfl) ⟨by decide, by decide⟩ dX5_feed_3 ?_
      refine fr_if_ne (pc := 6) 16 (by decide) dX5_feed_6 (fun h6 => ?_) (fun h6 => ?_)
      · have g6 := bI_n0 h6
        refine fr_aload_n (pc := 16) rfl dX5_feed_16 ?_
        refine fr_get (pc := 17) (ci := 4) (T := TX5) (k0 := 6) rfl hin_X5 (by decide) fl_X5_218 (by decide) y_42 rfl dX5_feed_17 ?_
        refine fr_iload_n (pc := 20) rfl dX5_feed_20 ?_
        refine fr_iadd (pc := 21) dX5_feed_21 ?_
        refine fr_eq (z := nI (k9 + i1)) (nI_add _ _) ?_
        refine fr_bipush (pc := 22) (v := 120) rfl dX5_feed_22 ?_
        refine fr_icmp_le (pc := 24) 34 (by decide) dX5_feed_24 (fun h24 => ?_) (fun h24 => ?_)
        · refine fr_iload_n (pc := 34) rfl dX5_feed_34 ?_
          refine fr_iconst (pc := 35) (v := 1) rfl dX5_feed_35 ?_
          refine fr_isub (pc := 36) dX5_feed_36 ?_
          refine fr_nm (fun x3_37 e_x3_37 => ?_)
          refine fr_istore_n (pc := 37) [(3, .int x3_37), (0, .ref 42), (1, .int x), (2, .int (nI i1))] (by decide) rfl dX5_feed_37 ?_
          exact fr_sub [1, 2, 3, 0] rfl (yfd_loop i1 k9 b _ e_x3_37 (by omega) (by omega))
        · exact absurd (nI_le (a := k9 + i1) (b := 120) (by omega) (by omega)) h24
      · have g6 := bI_0.mp h6
        exact absurd hc g6
  · rw [show sp_feed (r, rk, ik, S, b, ln, fi) x n = fb (r, rk, ik, S, b, ln, fi) 0 from if_neg hc]
    refine Ev.of [(0, .ref 42), (1, .int x), (2, .int n)] (by decide) (Nat.le_of_ble_eq_true rfl) rfl ?_
    refine fr_iload_n (pc := 0) rfl dX5_feed_0 ?_
    refine fr_iconst (pc := 1) (v := 1) rfl dX5_feed_1 ?_
    refine fr_iconst (pc := 2) (v := 4) rfl dX5_feed_2 ?_
    refine fr_callS0 (pc := 3) [.int n, .int 1, .int 4] [] (c_X5_within) gc_X5_70 rfl rfl ⟨rfl, rfl, by decide, by decide⟩ (Nat.le_of_ble_eq_true rfl) ⟨by decide, by decide⟩ dX5_feed_3 ?_
    refine fr_if_ne (pc := 6) 16 (by decide) dX5_feed_6 (fun h6 => ?_) (fun h6 => ?_)
    · have g6 := bI_n0 h6
      exact absurd g6 hc
    · have g6 := bI_0.mp h6
      refine fr_aload_n (pc := 9) rfl dX5_feed_9 ?_
      refine fr_ldc (pc := 10) kc_X5_60 dX5_feed_10 ?_
      refine fr_callV0 (pc := 12) (ci := 4) (T := TX5) (N := 20) [.int (-1000001)] [] (c_fnd0) gc_X5_66 rfl rfl ⟨rfl, rfl, by decide, by decide⟩ (Nat.le_of_ble_eq_true rfl) rfl (by decide) y_42 ⟨by decide, by decide⟩ dX5_feed_12 ?_
      exact fr_ireturn (pc := 15) rfl rfl rfl rfl dX5_feed_15
