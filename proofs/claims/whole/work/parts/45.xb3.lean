theorem fl_step {f : Nat → Int32} {k : Nat} {v : Int32} : upd (fun q => if q < k then v else f q) k v = fun q => if q < k + 1 then v else f q := by
  funext q
  dsimp only [upd]
  by_cases e : q = k
  · subst e; simp
  · rw [if_neg e]
    by_cases h : q < k
    · rw [if_pos h, if_pos (by omega)]
    · rw [if_neg h, if_neg (by omega)]
theorem fl_0 {M : Nat → aC} {i N : Nat} {f : Nat → Int32} {v : Int32} (h : M i = aI N f) : M = a_up M i (aI N (fun q => if q < 0 then v else f q)) := by
  funext j
  unfold a_up
  by_cases e : j = i
  · rw [if_pos e, e, h]
    simp
  · rw [if_neg e]
set_option maxRecDepth 100000 in
theorem un_loop {Γ : aG} {l : Launch} {M : Nat → aC} {k0 q : Int32} : ∀ (n i : Nat) (k : Int32), i + n = 7 → Fr Γ l mX1_isUnder 4 [(0, .int k0), (1, .int q), (2, .int k), (3, .int (nI i))] [] 54 0 0 M (some (.int (bI (s_und q n k = true)))) 54 M := by
  intro n
  induction n with
  | zero =>
    intro i k hn
    refine fr_iload_n (pc := 4) rfl dX1_isUnder_4 ?_
    refine fr_bipush (pc := 5) (v := 7) rfl dX1_isUnder_5 ?_
    refine fr_icmp_ge (pc := 7) 39 (by decide) dX1_isUnder_7 (fun h7 => ?_) (fun h7 => ?_)
    · refine fr_iconst (pc := 39) (v := 0) rfl dX1_isUnder_39 ?_
      exact fr_ireturn (pc := 40) rfl (bI_f (by simp [s_und])).symm rfl rfl dX1_isUnder_40
    · exact absurd (nI_le (a := 7) (b := i) (by omega) (by omega)) h7
  | succ n ih =>
    intro i k hn
    refine fr_iload_n (pc := 4) rfl dX1_isUnder_4 ?_
    refine fr_bipush (pc := 5) (v := 7) rfl dX1_isUnder_5 ?_
    refine fr_icmp_ge (pc := 7) 39 (by decide) dX1_isUnder_7 (fun h7 => ?_) (fun h7 => ?_)
    · exact absurd h7 (nI_ge (a := i) (b := 7) (by omega) (by omega))
    · refine fr_iload_n (pc := 10) rfl dX1_isUnder_10 ?_
      refine fr_if_lt (pc := 11) 39 (by decide) dX1_isUnder_11 (fun h11 => ?_) (fun h11 => ?_)
      · refine fr_iconst (pc := 39) (v := 0) rfl dX1_isUnder_39 ?_
        exact fr_ireturn (pc := 40) rfl (bI_f (by rw [s_und, if_pos h11]; decide)).symm rfl rfl dX1_isUnder_40
      · refine fr_iload_n (pc := 14) rfl dX1_isUnder_14 ?_
        refine fr_bipush (pc := 15) (v := 7) rfl dX1_isUnder_15 ?_
        refine fr_icmp_ge (pc := 17) 39 (by decide) dX1_isUnder_17 (fun h17 => ?_) (fun h17 => ?_)
        · refine fr_iconst (pc := 39) (v := 0) rfl dX1_isUnder_39 ?_
          exact fr_ireturn (pc := 40) rfl (bI_f (by rw [s_und, if_neg h11, if_pos (Int32.not_lt.mpr h17)]; decide)).symm rfl rfl dX1_isUnder_40
        · refine fr_iload_n (pc := 20) rfl dX1_isUnder_20 ?_
          refine fr_iload_n (pc := 21) rfl dX1_isUnder_21 ?_
          refine fr_icmp_ne (pc := 22) 27 (by decide) dX1_isUnder_22 (fun h22 => ?_) (fun h22 => ?_)
          · obtain ⟨k9, hk9, rfl⟩ := nI_of h11
            have lk9 : k9 < 7 := by
              rcases Nat.lt_or_ge k9 7 with z | z
              · exact z
              · exact absurd (nI_le (a := 7) z (by omega)) h17
            have ek9 : (nI k9).toNatClampNeg = k9 := nI_clamp (by omega)
            refine fr_gsA (pc := 27) (k0 := 3) (by decide) fl_X1_15 dX1_isUnder_27 ?_
            refine fr_iload_n (pc := 30) rfl dX1_isUnder_30 ?_
            refine fr_ialdS (pc := 31) (k0 := 3) k9 rfl (by decide) lk9 (by omega) dX1_isUnder_31 ?_
            refine fr_nm (fun x2_32 e_x2_32 => ?_)
            refine fr_istore_n (pc := 32) [(2, .int x2_32), (0, .int k0), (1, .int q), (3, .int (nI i))] (by decide) rfl dX1_isUnder_32 ?_
            refine fr_iinc (pc := 33) (v := nI (i + 1)) [(3, .int (nI (i + 1))), (2, .int x2_32), (0, .int k0), (1, .int q)] rfl (nI_1 i) (by decide) rfl dX1_isUnder_33 ?_
            refine fr_goto (pc := 36) 4 (by decide) dX1_isUnder_36 ?_
            rw [s_und, if_neg h11, if_neg (fun z => z (Int32.not_le.mp h17)), if_neg h22, ek9, ← e_x2_32]
            exact fr_sub [2, 3, 1, 0] rfl (ih (i + 1) x2_32 (by omega))
          · refine fr_iconst (pc := 25) (v := 1) rfl dX1_isUnder_25 ?_
            exact fr_ireturn (pc := 26) rfl (bI_t (by rw [s_und, if_neg h11, if_neg (fun z => z (Int32.not_le.mp h17)), if_pos h22])).symm rfl rfl dX1_isUnder_26
set_option maxRecDepth 100000 in
theorem c_X1_isUnder {Γ : aG} {l : Launch} {M : Nat → aC} {k q : Int32} : Ev Γ l mX1_isUnder [.int k, .int q] 54 M (some (.int (bI (s_und q 7 k = true)))) 54 M := by
  refine Ev.of [(0, .int k), (1, .int q)] (by decide) (Nat.le_of_ble_eq_true rfl) rfl ?_
  refine fr_iload_n (pc := 0) rfl dX1_isUnder_0 ?_
  refine fr_istore_n (pc := 1) [(2, .int k), (0, .int k), (1, .int q)] (by decide) rfl dX1_isUnder_1 ?_
  refine fr_iconst (pc := 2) (v := 0) rfl dX1_isUnder_2 ?_
  refine fr_istore_n (pc := 3) [(3, .int 0), (2, .int k), (0, .int k), (1, .int q)] (by decide) rfl dX1_isUnder_3 ?_
  exact fr_sub [2, 3, 1, 0] rfl (un_loop 7 0 k rfl)
set_option maxRecDepth 100000 in
theorem x_as {Γ : aG} {l : Launch} {M : Nat → aC} {r rk t : rT} {ik : Int32} {S : sT} {b : Nat → Int32} {ln : Int32} {J : Int32 × Int32 × Int32 × Int32} {fi : Nat → Int32} {s k : Int32} (w : wf r)  : Ev Γ l mX4_as [.ref 0, .int s, .int k] 54 (xM M r rk t ik S (b, ln, J) fi) (some (.int (sp_as (r, rk, ik, S, b, ln, fi) s k).1)) 54 (xF M t J (sp_as (r, rk, ik, S, b, ln, fi) s k).2) := by
  refine Ev.of [(0, .ref 0), (1, .int s), (2, .int k)] (by decide) (Nat.le_of_ble_eq_true rfl) rfl ?_
  refine fr_iload_n (pc := 0) rfl dX4_as_0 ?_
  refine fr_callS0 (pc := 1) [.int s] [] (c_X4_isSpot) gc_X4_225 rfl rfl ⟨rfl, rfl, by decide, by decide⟩ (Nat.le_of_ble_eq_true rfl) ⟨by decide, by decide⟩ dX4_as_1 ?_
  refine fr_if_eq (pc := 4) 14 (by decide) dX4_as_4 (fun h4 => ?_) (fun h4 => ?_)
  · have g4 := bI_0.mp h4
    refine fr_aload_n (pc := 14) rfl dX4_as_14 ?_
    refine fr_iconst (pc := 15) (v := 0) rfl dX4_as_15 ?_
    refine fr_callV0 (pc := 16) (ci := 3) (T := TX4) (N := 7) [.int 0] [] (c_X4_found (k := 0) (by decide)) gc_X4_51 rfl rfl ⟨rfl, rfl, by decide, by decide⟩ (Nat.le_of_ble_eq_true rfl) rfl (by decide) x_0 ⟨by decide, by decide⟩ dX4_as_16 ?_
    exact fr_ireturn (pc := 19) rfl (by simp only [sp_as, fb, sr, sG, xF, g4, if_true, if_false, not_true_eq_false, not_false_eq_true, or_true, true_or, or_false, false_or, and_true, true_and, and_false, false_and, or_self, and_self, eq_self] <;> rfl) (by simp only [sp_as, fb, sr, sG, xF, g4, if_true, if_false, not_true_eq_false, not_false_eq_true, or_true, true_or, or_false, false_or, and_true, true_and, and_false, false_and, or_self, and_self, eq_self] <;> rfl) rfl dX4_as_19
  · have g4 := bI_n0 h4
    refine fr_iload_n (pc := 7) rfl dX4_as_7 ?_
    refine fr_callS0 (pc := 8) [.int k] [] (c_X4_isKind) gc_X4_85 rfl rfl ⟨rfl, rfl, by decide, by decide⟩ (Nat.le_of_ble_eq_true rfl) ⟨by decide, by decide⟩ dX4_as_8 ?_
    refine fr_if_ne (pc := 11) 20 (by decide) dX4_as_11 (fun h11 => ?_) (fun h11 => ?_)
    · have g11 := bI_n0 h11
      obtain ⟨i1, hi1, rfl⟩ := wi_nI (N := 9) g4 rfl
      have ei1 : (nI i1).toNatClampNeg = i1 := nI_clamp (by omega)
      refine fr_aload_n (pc := 20) rfl dX4_as_20 ?_
      refine fr_get (pc := 21) (ci := 3) (T := TX4) (k0 := 0) rfl hin_X4 (by decide) fl_X4_10 (by decide) x_0 rfl dX4_as_21 ?_
      refine fr_get (pc := 24) (ci := 0) (T := TX0) (k0 := 14) rfl hin_X0 (by decide) fl_X4_228 (by decide) x_1 rfl dX4_as_24 ?_
      refine fr_iload_n (pc := 27) rfl dX4_as_27 ?_
      refine fr_iald (pc := 28) i1 rfl (by decide) x_h9 (by first | assumption | omega) (by decide) dX4_as_28 ?_
      refine fr_nm (fun x3_29 e_x3_29 => ?_)
      refine fr_istore_n (pc := 29) [(3, .int x3_29), (0, .ref 0), (1, .int (nI i1)), (2, .int k)] (by decide) rfl dX4_as_29 ?_
      refine fr_aload_n (pc := 30) rfl dX4_as_30 ?_
      refine fr_iload_n (pc := 31) rfl dX4_as_31 ?_
      refine fr_callV0 (pc := 32) (ci := 3) (T := TX4) (N := 7) [.int x3_29] [] (c_X4_isGuest) gc_X4_95 rfl rfl ⟨rfl, rfl, by decide, by decide⟩ (Nat.le_of_ble_eq_true rfl) rfl (by decide) x_0 ⟨by decide, by decide⟩ dX4_as_32 ?_
      refine fr_if_ne (pc := 35) 44 (by decide) dX4_as_35 (fun h35 => ?_) (fun h35 => ?_)
      · have g35 := bI_n0 h35
        rw [e_x3_29] at g35
        obtain ⟨i2, hi2, ei2⟩ := sG_nI w g35
        have li2 : i2 < 8 := by have := w.ctl; omega
        have ni2 : nat r 8 i1 = i2 := by unfold nat; rw [ei2]; exact nI_clamp (by omega)
        refine fr_aload_n (pc := 44) rfl dX4_as_44 ?_
        refine fr_get (pc := 45) (ci := 3) (T := TX4) (k0 := 0) rfl hin_X4 (by decide) fl_X4_10 (by decide) x_0 rfl dX4_as_45 ?_
        refine fr_get (pc := 48) (ci := 0) (T := TX0) (k0 := 7) rfl hin_X0 (by decide) fl_X4_101 (by decide) x_1 rfl dX4_as_48 ?_
        refine fr_iload_n (pc := 51) rfl dX4_as_51 ?_
        refine fr_iald (pc := 52) i2 (e_x3_29.trans ei2) (by decide) x_h3 li2 (by decide) dX4_as_52 ?_
        refine fr_iload_n (pc := 53) rfl dX4_as_53 ?_
        refine fr_callS0 (pc := 54) [.int (r 2 i2), .int k] [] (c_X1_isUnder) gc_X4_231 rfl rfl ⟨rfl, rfl, by decide, by decide⟩ (Nat.le_of_ble_eq_true rfl) ⟨by decide, by decide⟩ dX4_as_54 ?_
        refine fr_if_ne (pc := 57) 66 (by decide) dX4_as_57 (fun h57 => ?_) (fun h57 => ?_)
        · have g57 := bI_n0 h57
          refine fr_iload_n (pc := 66) rfl dX4_as_66 ?_
          exact fr_ireturn (pc := 67) rfl (by simp only [sp_as, fb, sr, sG, xF, g4, g11, ei1, e_x3_29, g35, ni2, g57, if_true, if_false, not_true_eq_false, not_false_eq_true, or_true, true_or, or_false, false_or, and_true, true_and, and_false, false_and, or_self, and_self, eq_self] <;> rfl) (by simp only [sp_as, fb, sr, sG, xF, g4, g11, ei1, e_x3_29, g35, ni2, g57, if_true, if_false, not_true_eq_false, not_false_eq_true, or_true, true_or, or_false, false_or, and_true, true_and, and_false, false_and, or_self, and_self, eq_self] <;> rfl) rfl dX4_as_67
        · have g57 := bI_0.mp h57
          refine fr_aload_n (pc := 60) rfl dX4_as_60 ?_
          refine fr_iconst (pc := 61) (v := 2) rfl dX4_as_61 ?_
          refine fr_callV0 (pc := 62) (ci := 3) (T := TX4) (N := 7) [.int 2] [] (c_X4_found (k := 2) (by decide)) gc_X4_51 rfl rfl ⟨rfl, rfl, by decide, by decide⟩ (Nat.le_of_ble_eq_true rfl) rfl (by decide) x_0 ⟨by decide, by decide⟩ dX4_as_62 ?_
          exact fr_ireturn (pc := 65) rfl (by simp only [sp_as, fb, sr, sG, xF, g4, g11, ei1, e_x3_29, g35, ni2, g57, if_true, if_false, not_true_eq_false, not_false_eq_true, or_true, true_or, or_false, false_or, and_true, true_and, and_false, false_and, or_self, and_self, eq_self] <;> rfl) (by simp only [sp_as, fb, sr, sG, xF, g4, g11, ei1, e_x3_29, g35, ni2, g57, if_true, if_false, not_true_eq_false, not_false_eq_true, or_true, true_or, or_false, false_or, and_true, true_and, and_false, false_and, or_self, and_self, eq_self] <;> rfl) rfl dX4_as_65
      · have g35 := bI_0.mp h35
        rw [e_x3_29] at g35
        refine fr_aload_n (pc := 38) rfl dX4_as_38 ?_
        refine fr_iconst (pc := 39) (v := 5) rfl dX4_as_39 ?_
        refine fr_callV0 (pc := 40) (ci := 3) (T := TX4) (N := 7) [.int 5] [] (c_X4_found (k := 5) (by decide)) gc_X4_51 rfl rfl ⟨rfl, rfl, by decide, by decide⟩ (Nat.le_of_ble_eq_true rfl) rfl (by decide) x_0 ⟨by decide, by decide⟩ dX4_as_40 ?_
        exact fr_ireturn (pc := 43) rfl (by simp only [sp_as, fb, sr, sG, xF, g4, g11, ei1, e_x3_29, g35, if_true, if_false, not_true_eq_false, not_false_eq_true, or_true, true_or, or_false, false_or, and_true, true_and, and_false, false_and, or_self, and_self, eq_self] <;> rfl) (by simp only [sp_as, fb, sr, sG, xF, g4, g11, ei1, e_x3_29, g35, if_true, if_false, not_true_eq_false, not_false_eq_true, or_true, true_or, or_false, false_or, and_true, true_and, and_false, false_and, or_self, and_self, eq_self] <;> rfl) rfl dX4_as_43
    · have g11 := bI_0.mp h11
      refine fr_aload_n (pc := 14) rfl dX4_as_14 ?_
      refine fr_iconst (pc := 15) (v := 0) rfl dX4_as_15 ?_
      refine fr_callV0 (pc := 16) (ci := 3) (T := TX4) (N := 7) [.int 0] [] (c_X4_found (k := 0) (by decide)) gc_X4_51 rfl rfl ⟨rfl, rfl, by decide, by decide⟩ (Nat.le_of_ble_eq_true rfl) rfl (by decide) x_0 ⟨by decide, by decide⟩ dX4_as_16 ?_
      exact fr_ireturn (pc := 19) rfl (by simp only [sp_as, fb, sr, sG, xF, g4, g11, if_true, if_false, not_true_eq_false, not_false_eq_true, or_true, true_or, or_false, false_or, and_true, true_and, and_false, false_and, or_self, and_self, eq_self] <;> rfl) (by simp only [sp_as, fb, sr, sG, xF, g4, g11, if_true, if_false, not_true_eq_false, not_false_eq_true, or_true, true_or, or_false, false_or, and_true, true_and, and_false, false_and, or_self, and_self, eq_self] <;> rfl) rfl dX4_as_19
set_option maxRecDepth 100000 in
theorem st_loop {Γ : aG} {l : Launch} {M : Nat → aC} {r rk t : rT} {ik : Int32} {S : sT} {T : tT} {fi : Nat → Int32} {q : Int32} : ∀ (n i : Nat) (a : Int32), i + n = 7 → Fr Γ l mX4_status 31 [(0, .ref 0), (1, .int q), (2, .int a), (3, .int (nI i))] [] 54 0 0 (xM M r rk t ik S T fi) (some (.int (s_sum fi n i a))) 54 (xM M r rk t ik S T fi) := by
  intro n
  induction n with
  | zero =>
    intro i a hn
    refine fr_iload_n (pc := 31) rfl dX4_status_31 ?_
    refine fr_bipush (pc := 32) (v := 7) rfl dX4_status_32 ?_
    refine fr_icmp_ge (pc := 34) 52 (by decide) dX4_status_34 (fun h34 => ?_) (fun h34 => ?_)
    · refine fr_iload_n (pc := 52) rfl dX4_status_52 ?_
      exact fr_ireturn (pc := 53) rfl rfl rfl rfl dX4_status_53
    · exact absurd (nI_le (a := 7) (b := i) (by omega) (by omega)) h34
  | succ n ih =>
    intro i a hn
    refine fr_iload_n (pc := 31) rfl dX4_status_31 ?_
    refine fr_bipush (pc := 32) (v := 7) rfl dX4_status_32 ?_
    refine fr_icmp_ge (pc := 34) 52 (by decide) dX4_status_34 (fun h34 => ?_) (fun h34 => ?_)
    · exact absurd h34 (nI_ge (a := i) (b := 7) (by omega) (by omega))
    · refine fr_iload_n (pc := 37) rfl dX4_status_37 ?_
      refine fr_aload_n (pc := 38) rfl dX4_status_38 ?_
      refine fr_get (pc := 39) (ci := 3) (T := TX4) (k0 := 6) rfl hin_X4 (by decide) fl_X4_40 (by decide) x_0 rfl dX4_status_39 ?_
      refine fr_iload_n (pc := 42) rfl dX4_status_42 ?_
      refine fr_iald (pc := 43) i rfl (by decide) x_41 (by first | assumption | omega) (by decide) dX4_status_43 ?_
      refine fr_iadd (pc := 44) dX4_status_44 ?_
      refine fr_nm (fun x2_45 e_x2_45 => ?_)
      refine fr_istore_n (pc := 45) [(2, .int x2_45), (0, .ref 0), (1, .int q), (3, .int (nI i))] (by decide) rfl dX4_status_45 ?_
      refine fr_iinc (pc := 46) (v := nI (i + 1)) [(3, .int (nI (i + 1))), (2, .int x2_45), (0, .ref 0), (1, .int q)] rfl (nI_1 i) (by decide) rfl dX4_status_46 ?_
      refine fr_goto (pc := 49) 31 (by decide) dX4_status_49 ?_
      rw [s_sum, ← e_x2_45]
      exact fr_sub [2, 3, 1, 0] rfl (ih (i + 1) x2_45 (by omega))
set_option maxRecDepth 100000 in
theorem x_status {Γ : aG} {l : Launch} {M : Nat → aC} {r rk t : rT} {ik : Int32} {S : sT} {b : Nat → Int32} {ln : Int32} {J : Int32 × Int32 × Int32 × Int32} {fi : Nat → Int32} {q : Int32}  : Ev Γ l mX4_status [.ref 0, .int q] 54 (xM M r rk t ik S (b, ln, J) fi) (some (.int (sp_status (r, rk, ik, S, b, ln, fi) q).1)) 54 (xF M t J (sp_status (r, rk, ik, S, b, ln, fi) q).2) := by
  refine Ev.of [(0, .ref 0), (1, .int q)] (by decide) (Nat.le_of_ble_eq_true rfl) rfl ?_
  refine fr_iload_n (pc := 0) rfl dX4_status_0 ?_
  refine fr_iconst (pc := 1) (v := (-1)) rfl dX4_status_1 ?_
  refine fr_bipush (pc := 2) (v := 6) rfl dX4_status_2 ?_
  refine fr_callS0 (pc := 4) [.int q, .int (-1), .int 6] [] (c_X4_within) gc_X4_44 rfl rfl ⟨rfl, rfl, by decide, by decide⟩ (Nat.le_of_ble_eq_true rfl) ⟨by decide, by decide⟩ dX4_status_4 ?_
  refine fr_if_ne (pc := 7) 16 (by decide) dX4_status_7 (fun h7 => ?_) (fun h7 => ?_)
  · have g7 := bI_n0 h7
    refine fr_iload_n (pc := 16) rfl dX4_status_16 ?_
    refine fr_if_lt (pc := 17) 27 (by decide) dX4_status_17 (fun h17 => ?_) (fun h17 => ?_)
    · refine fr_iconst (pc := 27) (v := 0) rfl dX4_status_27 ?_
      refine fr_istore_n (pc := 28) [(2, .int 0), (0, .ref 0), (1, .int q)] (by decide) rfl dX4_status_28 ?_
      refine fr_iconst (pc := 29) (v := 0) rfl dX4_status_29 ?_
      refine fr_istore_n (pc := 30) [(3, .int 0), (2, .int 0), (0, .ref 0), (1, .int q)] (by decide) rfl dX4_status_30 ?_
      rw [show sp_status (r, rk, ik, S, b, ln, fi) q = (s_sum fi 7 0 0, (r, rk, ik, S, b, ln, fi)) from by simp only [sp_status, g7, h17, if_true, if_false, not_true_eq_false, not_false_eq_true, or_true, true_or, or_false, false_or, and_true, true_and, and_false, false_and, or_self, and_self, eq_self]]
      exact fr_sub [2, 3, 1, 0] rfl (st_loop 7 0 0 rfl)
    · obtain ⟨i1, hi1, rfl⟩ := nI_of h17
      have li1 : i1 < 7 := by
        unfold wi at g7
        have z := of_decide_eq_true g7
        rcases Nat.lt_or_ge i1 7 with y | y
        · exact y
        · exact absurd (nI_lt (a := 6) (b := i1) (by omega) (by omega)) z.2
      have ei1 : (nI i1).toNatClampNeg = i1 := nI_clamp (by omega)
      refine fr_aload_n (pc := 20) rfl dX4_status_20 ?_
      refine fr_get (pc := 21) (ci := 3) (T := TX4) (k0 := 6) rfl hin_X4 (by decide) fl_X4_40 (by decide) x_0 rfl dX4_status_21 ?_
      refine fr_iload_n (pc := 24) rfl dX4_status_24 ?_
      refine fr_iald (pc := 25) i1 rfl (by decide) x_41 (by first | assumption | omega) (by decide) dX4_status_25 ?_
      exact fr_ireturn (pc := 26) rfl (by simp only [sp_status, fb, sr, sG, xF, g7, h17, ei1, if_true, if_false, not_true_eq_false, not_false_eq_true, or_true, true_or, or_false, false_or, and_true, true_and, and_false, false_and, or_self, and_self, eq_self] <;> rfl) (by simp only [sp_status, fb, sr, sG, xF, g7, h17, ei1, if_true, if_false, not_true_eq_false, not_false_eq_true, or_true, true_or, or_false, false_or, and_true, true_and, and_false, false_and, or_self, and_self, eq_self] <;> rfl) rfl dX4_status_26
  · have g7 := bI_0.mp h7
    refine fr_aload_n (pc := 10) rfl dX4_status_10 ?_
    refine fr_iconst (pc := 11) (v := 0) rfl dX4_status_11 ?_
    refine fr_callV0 (pc := 12) (ci := 3) (T := TX4) (N := 7) [.int 0] [] (c_X4_found (k := 0) (by decide)) gc_X4_51 rfl rfl ⟨rfl, rfl, by decide, by decide⟩ (Nat.le_of_ble_eq_true rfl) rfl (by decide) x_0 ⟨by decide, by decide⟩ dX4_status_12 ?_
    exact fr_ireturn (pc := 15) rfl (by simp only [sp_status, fb, sr, sG, xF, g7, if_true, if_false, not_true_eq_false, not_false_eq_true, or_true, true_or, or_false, false_or, and_true, true_and, and_false, false_and, or_self, and_self, eq_self] <;> rfl) (by simp only [sp_status, fb, sr, sG, xF, g7, if_true, if_false, not_true_eq_false, not_false_eq_true, or_true, true_or, or_false, false_or, and_true, true_and, and_false, false_and, or_self, and_self, eq_self] <;> rfl) rfl dX4_status_15
theorem i4 {x : Int32} : 4 ≤ x ↔ 3 < x := by
  rw [Int32.le_iff_toInt_le, Int32.lt_iff_toInt_lt]
  show (4 : Int) ≤ _ ↔ (3 : Int) < _
  omega
set_option maxRecDepth 100000 in
theorem c_X2_isSheet {Γ : aG} {l : Launch} {M : Nat → aC} {v : Int32} : Ev Γ l mX2_isSheet [.int v] 54 M (some (.int (bI (wi v 0 3 = true)))) 54 M := by
  refine Ev.of [(0, .int v)] (by decide) (Nat.le_of_ble_eq_true rfl) rfl ?_
  refine fr_iload_n (pc := 0) rfl dX2_isSheet_0 ?_
  refine fr_if_lt (pc := 1) 13 (by decide) dX2_isSheet_1 (fun h1 => ?_) (fun h1 => ?_)
  · refine fr_iconst (pc := 13) (v := 0) rfl dX2_isSheet_13 ?_
    exact fr_ireturn (pc := 14) rfl (bI_f (fun z => (of_decide_eq_true z).1 h1)).symm rfl rfl dX2_isSheet_14
  · refine fr_iload_n (pc := 4) rfl dX2_isSheet_4 ?_
    refine fr_iconst (pc := 5) (v := 4) rfl dX2_isSheet_5 ?_
    refine fr_icmp_ge (pc := 6) 13 (by decide) dX2_isSheet_6 (fun h6 => ?_) (fun h6 => ?_)
    · refine fr_iconst (pc := 13) (v := 0) rfl dX2_isSheet_13 ?_
      exact fr_ireturn (pc := 14) rfl (bI_f (fun z => (of_decide_eq_true z).2 (i4.mp h6))).symm rfl rfl dX2_isSheet_14
    · refine fr_iconst (pc := 9) (v := 1) rfl dX2_isSheet_9 ?_
      refine fr_goto (pc := 10) 14 (by decide) dX2_isSheet_10 ?_
      exact fr_ireturn (pc := 14) rfl (bI_t (decide_eq_true ⟨h1, fun z => h6 (i4.mpr z)⟩)).symm rfl rfl dX2_isSheet_14
set_option maxRecDepth 100000 in
theorem c_X2_areBits {Γ : aG} {l : Launch} {M : Nat → aC} {v : Int32} : Ev Γ l mX2_areBits [.int v] 54 M (some (.int (bI (sb v = true)))) 54 M := by
  refine Ev.of [(0, .int v)] (by decide) (Nat.le_of_ble_eq_true rfl) rfl ?_
  refine fr_iload_n (pc := 0) rfl dX2_areBits_0 ?_
  refine fr_if_eq (pc := 1) 22 (by decide) dX2_areBits_1 (fun h1 => ?_) (fun h1 => ?_)
  · refine fr_iconst (pc := 22) (v := 1) rfl dX2_areBits_22 ?_
    refine fr_goto (pc := 23) 27 (by decide) dX2_areBits_23 ?_
    exact fr_ireturn (pc := 27) rfl (by first | exact (bI_t (decide_eq_true (Or.inl h1))).symm | exact (bI_t (decide_eq_true (Or.inr (Or.inl h7)))).symm | exact (bI_t (decide_eq_true (Or.inr (Or.inr (Or.inl h13))))).symm | exact (bI_t (decide_eq_true (Or.inr (Or.inr (Or.inr h19))))).symm | exact (bI_f (fun z => (of_decide_eq_true z).elim h1 (fun z => z.elim h7 (fun z => z.elim h13 h19)))).symm) rfl rfl dX2_areBits_27
  · refine fr_iload_n (pc := 4) rfl dX2_areBits_4 ?_
    refine fr_bipush (pc := 5) (v := 8) rfl dX2_areBits_5 ?_
    refine fr_icmp_eq (pc := 7) 22 (by decide) dX2_areBits_7 (fun h7 => ?_) (fun h7 => ?_)
    · refine fr_iconst (pc := 22) (v := 1) rfl dX2_areBits_22 ?_
      refine fr_goto (pc := 23) 27 (by decide) dX2_areBits_23 ?_
      exact fr_ireturn (pc := 27) rfl (by first | exact (bI_t (decide_eq_true (Or.inl h1))).symm | exact (bI_t (decide_eq_true (Or.inr (Or.inl h7)))).symm | exact (bI_t (decide_eq_true (Or.inr (Or.inr (Or.inl h13))))).symm | exact (bI_t (decide_eq_true (Or.inr (Or.inr (Or.inr h19))))).symm | exact (bI_f (fun z => (of_decide_eq_true z).elim h1 (fun z => z.elim h7 (fun z => z.elim h13 h19)))).symm) rfl rfl dX2_areBits_27
    · refine fr_iload_n (pc := 10) rfl dX2_areBits_10 ?_
      refine fr_bipush (pc := 11) (v := 16) rfl dX2_areBits_11 ?_
      refine fr_icmp_eq (pc := 13) 22 (by decide) dX2_areBits_13 (fun h13 => ?_) (fun h13 => ?_)
      · refine fr_iconst (pc := 22) (v := 1) rfl dX2_areBits_22 ?_
        refine fr_goto (pc := 23) 27 (by decide) dX2_areBits_23 ?_
        exact fr_ireturn (pc := 27) rfl (by first | exact (bI_t (decide_eq_true (Or.inl h1))).symm | exact (bI_t (decide_eq_true (Or.inr (Or.inl h7)))).symm | exact (bI_t (decide_eq_true (Or.inr (Or.inr (Or.inl h13))))).symm | exact (bI_t (decide_eq_true (Or.inr (Or.inr (Or.inr h19))))).symm | exact (bI_f (fun z => (of_decide_eq_true z).elim h1 (fun z => z.elim h7 (fun z => z.elim h13 h19)))).symm) rfl rfl dX2_areBits_27
      · refine fr_iload_n (pc := 16) rfl dX2_areBits_16 ?_
        refine fr_bipush (pc := 17) (v := 32) rfl dX2_areBits_17 ?_
        refine fr_icmp_ne (pc := 19) 26 (by decide) dX2_areBits_19 (fun h19 => ?_) (fun h19 => ?_)
        · refine fr_iconst (pc := 26) (v := 0) rfl dX2_areBits_26 ?_
          exact fr_ireturn (pc := 27) rfl (by first | exact (bI_t (decide_eq_true (Or.inl h1))).symm | exact (bI_t (decide_eq_true (Or.inr (Or.inl h7)))).symm | exact (bI_t (decide_eq_true (Or.inr (Or.inr (Or.inl h13))))).symm | exact (bI_t (decide_eq_true (Or.inr (Or.inr (Or.inr h19))))).symm | exact (bI_f (fun z => (of_decide_eq_true z).elim h1 (fun z => z.elim h7 (fun z => z.elim h13 h19)))).symm) rfl rfl dX2_areBits_27
        · refine fr_iconst (pc := 22) (v := 1) rfl dX2_areBits_22 ?_
          refine fr_goto (pc := 23) 27 (by decide) dX2_areBits_23 ?_
          exact fr_ireturn (pc := 27) rfl (by first | exact (bI_t (decide_eq_true (Or.inl h1))).symm | exact (bI_t (decide_eq_true (Or.inr (Or.inl h7)))).symm | exact (bI_t (decide_eq_true (Or.inr (Or.inr (Or.inl h13))))).symm | exact (bI_t (decide_eq_true (Or.inr (Or.inr (Or.inr h19))))).symm | exact (bI_f (fun z => (of_decide_eq_true z).elim h1 (fun z => z.elim h7 (fun z => z.elim h13 h19)))).symm) rfl rfl dX2_areBits_27
set_option maxRecDepth 100000 in
theorem c_X2_isMissing {Γ : aG} {l : Launch} {M : Nat → aC} {r rk t : rT} {ik : Int32} {S : sT} {T : tT} {fi : Nat → Int32} {s : Nat} (hs : s < 4)  : Ev Γ l mX2_isMissing [.ref 31, .int (nI s)] 54 (xM M r rk t ik S T fi) (some (.int (bI (S.2.1 s = 0)))) 54 (xM M r rk t ik S T fi) := by
  refine Ev.of [(0, .ref 31), (1, .int (nI s))] (by decide) (Nat.le_of_ble_eq_true rfl) rfl ?_
  refine fr_aload_n (pc := 0) rfl dX2_isMissing_0 ?_
  refine fr_get (pc := 1) (ci := 1) (T := TX2) (k0 := 1) rfl hin_X2 (by decide) fl_X2_14 (by decide) x_31 rfl dX2_isMissing_1 ?_
  refine fr_iload_n (pc := 4) rfl dX2_isMissing_4 ?_
  refine fr_iald (pc := 5) s rfl (by decide) x_37 (by first | assumption | omega) (by decide) dX2_isMissing_5 ?_
  refine fr_if_ne (pc := 6) 13 (by decide) dX2_isMissing_6 (fun h6 => ?_) (fun h6 => ?_)
  · refine fr_iconst (pc := 13) (v := 0) rfl dX2_isMissing_13 ?_
    exact fr_ireturn (pc := 14) rfl (bI_f h6).symm rfl rfl dX2_isMissing_14
  · refine fr_iconst (pc := 9) (v := 1) rfl dX2_isMissing_9 ?_
    refine fr_goto (pc := 10) 14 (by decide) dX2_isMissing_10 ?_
    exact fr_ireturn (pc := 14) rfl (bI_t h6).symm rfl rfl dX2_isMissing_14
set_option maxRecDepth 100000 in
theorem fi_loop {Γ : aG} {l : Launch} {M : Nat → aC} {i N nn : Nat} {v : Int32} {f : Nat → Int32} (hi : i < nn) (hN : N < 2 ^ 20) : ∀ (n k : Nat), k + n = N → Fr Γ l mJ7_fill_53178 5 [(0, .ref i), (1, .int v), (2, .int (nI k)), (3, .int (nI N))] [] nn 0 0 (a_up M i (aI N (fun q => if q < k then v else f q))) none nn (a_up M i (aI N (fun q => if q < N then v else f q))) := by
  intro n
  induction n with
  | zero =>
    intro k hn
    have hn : k = N := by omega
    subst hn
    refine fr_iload_n (pc := 5) rfl dJ7_fill_53178_5 ?_
    refine fr_iload_n (pc := 6) rfl dJ7_fill_53178_6 ?_
    refine fr_icmp_ge (pc := 7) 20 (by decide) dJ7_fill_53178_7 (fun h7 => ?_) (fun h7 => ?_)
    · exact fr_return (pc := 20) rfl rfl dJ7_fill_53178_20
    · exact absurd (Int32.le_refl _) h7
  | succ n ih =>
    intro k hn
    refine fr_iload_n (pc := 5) rfl dJ7_fill_53178_5 ?_
    refine fr_iload_n (pc := 6) rfl dJ7_fill_53178_6 ?_
    refine fr_icmp_ge (pc := 7) 20 (by decide) dJ7_fill_53178_7 (fun h7 => ?_) (fun h7 => ?_)
    · exact absurd h7 (nI_ge (by omega) (by omega))
    · refine fr_aload_n (pc := 10) rfl dJ7_fill_53178_10 ?_
      refine fr_iload_n (pc := 11) rfl dJ7_fill_53178_11 ?_
      refine fr_iload_n (pc := 12) rfl dJ7_fill_53178_12 ?_
      refine fr_iast (pc := 13) k rfl hi a_us (by omega) (by omega) dJ7_fill_53178_13 ?_
      refine fr_mem (a_upup) ?_
      refine fr_iinc (pc := 14) (v := nI (k + 1)) [(2, .int (nI (k + 1))), (0, .ref i), (1, .int v), (3, .int (nI N))] rfl (nI_1 k) (by decide) rfl dJ7_fill_53178_14 ?_
      refine fr_goto (pc := 17) 5 (by decide) dJ7_fill_53178_17 ?_
      refine fr_mem (M1 := a_up M i (aI N (fun q => if q < k + 1 then v else f q))) (by rw [fl_step]) ?_
      exact fr_sub [1, 2, 0, 3] rfl (ih (k + 1) (by omega))
set_option maxRecDepth 100000 in
theorem c_fill {Γ : aG} {l : Launch} {M : Nat → aC} {i N nn : Nat} {v : Int32} {f : Nat → Int32} (hi : i < nn) (hM : M i = aI N f) (hN : N < 2 ^ 20)  : Ev Γ l mJ7_fill_53178 [.ref i, .int v] nn M none nn (a_up M i (aI N (fun q => if q < N then v else f q))) := by
  refine Ev.of [(0, .ref i), (1, .int v)] (by decide) (Nat.le_of_ble_eq_true rfl) rfl ?_
  refine fr_iconst (pc := 0) (v := 0) rfl dJ7_fill_53178_0 ?_
  refine fr_istore_n (pc := 1) [(2, .int 0), (0, .ref i), (1, .int v)] (by decide) rfl dJ7_fill_53178_1 ?_
  refine fr_aload_n (pc := 2) rfl dJ7_fill_53178_2 ?_
  refine fr_alen (pc := 3) hi hM dJ7_fill_53178_3 ?_
  refine fr_istore_n (pc := 4) [(3, .int (nI N)), (2, .int 0), (0, .ref i), (1, .int v)] (by decide) rfl dJ7_fill_53178_4 ?_
  refine fr_mem (M1 := a_up M i (aI N (fun q => if q < 0 then v else f q))) (fl_0 hM) ?_
  exact fr_sub [2, 3, 1, 0] rfl (fi_loop hi hN N 0 (by omega))
set_option maxRecDepth 100000 in
theorem c_X2_make {Γ : aG} {l : Launch} {M : Nat → aC} {r rk t : rT} {ik : Int32} {S : sT} {T : tT} {fi : Nat → Int32} {s : Nat} {bt n : Int32} (hs : s < 4)  : Ev Γ l mX2_make [.ref 31, .int (nI s), .int bt, .int n] 54 (xM M r rk t ik S T fi) (some (.int (if bt = 0 then 0 else n))) 54 (xM M r rk t ik (v2 S.1 s (s_clr (S.1 s)), upd S.2.1 s bt, upd S.2.2 s (if bt = 0 then 0 else n)) T fi) := by
  refine Ev.of [(0, .ref 31), (1, .int (nI s)), (2, .int bt), (3, .int n)] (by decide) (Nat.le_of_ble_eq_true rfl) rfl ?_
  refine fr_aload_n (pc := 0) rfl dX2_make_0 ?_
  refine fr_get (pc := 1) (ci := 1) (T := TX2) (k0 := 1) rfl hin_X2 (by decide) fl_X2_14 (by decide) x_31 rfl dX2_make_1 ?_
  refine fr_iload_n (pc := 4) rfl dX2_make_4 ?_
  refine fr_iload_n (pc := 5) rfl dX2_make_5 ?_
  refine fr_iast (pc := 6) s rfl (by decide) x_37 (by first | assumption | omega) (by decide) dX2_make_6 ?_
  refine fr_mem x_u37 ?_
  refine fr_aload_n (pc := 7) rfl dX2_make_7 ?_
  refine fr_get (pc := 8) (ci := 1) (T := TX2) (k0 := 2) rfl hin_X2 (by decide) fl_X2_18 (by decide) x_31 rfl dX2_make_8 ?_
  refine fr_iload_n (pc := 11) rfl dX2_make_11 ?_
  refine fr_iload_n (pc := 12) rfl dX2_make_12 ?_
  refine fr_if_ne (pc := 13) 20 (by decide) dX2_make_13 (fun h13 => ?_) (fun h13 => ?_)
  · refine fr_iload_n (pc := 20) rfl dX2_make_20 ?_
    refine fr_iast (pc := 21) s rfl (by decide) x_38 (by first | assumption | omega) (by decide) dX2_make_21 ?_
    refine fr_mem x_u38 ?_
    refine fr_aload_n (pc := 22) rfl dX2_make_22 ?_
    refine fr_get (pc := 23) (ci := 1) (T := TX2) (k0 := 0) rfl hin_X2 (by decide) fl_X2_11 (by decide) x_31 rfl dX2_make_23 ?_
    refine fr_iload_n (pc := 26) rfl dX2_make_26 ?_
    refine fr_aaldI (pc := 27) s rfl (by decide) x_32 (by first | assumption | omega) (by decide) rfl dX2_make_27 ?_
    refine fr_iconst (pc := 28) (v := 0) rfl dX2_make_28 ?_
    refine fr_callS0 (pc := 29) [.ref (33 + s), .int 0] [] (c_fill (by omega) (x_33 (by omega)) (by decide)) gc_X2_21 rfl rfl ⟨rfl, rfl, by decide, by decide⟩ (Nat.le_of_ble_eq_true rfl) ⟨by decide, by decide⟩ dX2_make_29 ?_
    refine fr_mem (M1 := (xM M r rk t ik (v2 S.1 s (s_clr (S.1 s)), upd S.2.1 s bt, upd S.2.2 s n) T fi)) (x_r33 hs) ?_
    refine fr_aload_n (pc := 32) rfl dX2_make_32 ?_
    refine fr_get (pc := 33) (ci := 1) (T := TX2) (k0 := 2) rfl hin_X2 (by decide) fl_X2_18 (by decide) x_31 rfl dX2_make_33 ?_
    refine fr_iload_n (pc := 36) rfl dX2_make_36 ?_
    refine fr_iald (pc := 37) s rfl (by decide) x_38 (by first | assumption | omega) (by decide) dX2_make_37 ?_
    exact fr_ireturn (pc := 38) rfl (by rw [if_neg h13]; simp [upd]) (by rw [if_neg h13]) rfl dX2_make_38
  · refine fr_iconst (pc := 16) (v := 0) rfl dX2_make_16 ?_
    refine fr_goto (pc := 17) 21 (by decide) dX2_make_17 ?_
    refine fr_iast (pc := 21) s rfl (by decide) x_38 (by first | assumption | omega) (by decide) dX2_make_21 ?_
    refine fr_mem x_u38 ?_
    refine fr_aload_n (pc := 22) rfl dX2_make_22 ?_
    refine fr_get (pc := 23) (ci := 1) (T := TX2) (k0 := 0) rfl hin_X2 (by decide) fl_X2_11 (by decide) x_31 rfl dX2_make_23 ?_
    refine fr_iload_n (pc := 26) rfl dX2_make_26 ?_
    refine fr_aaldI (pc := 27) s rfl (by decide) x_32 (by first | assumption | omega) (by decide) rfl dX2_make_27 ?_
    refine fr_iconst (pc := 28) (v := 0) rfl dX2_make_28 ?_
    refine fr_callS0 (pc := 29) [.ref (33 + s), .int 0] [] (c_fill (by omega) (x_33 (by omega)) (by decide)) gc_X2_21 rfl rfl ⟨rfl, rfl, by decide, by decide⟩ (Nat.le_of_ble_eq_true rfl) ⟨by decide, by decide⟩ dX2_make_29 ?_
    refine fr_mem (M1 := (xM M r rk t ik (v2 S.1 s (s_clr (S.1 s)), upd S.2.1 s bt, upd S.2.2 s 0) T fi)) (x_r33 hs) ?_
    refine fr_aload_n (pc := 32) rfl dX2_make_32 ?_
    refine fr_get (pc := 33) (ci := 1) (T := TX2) (k0 := 2) rfl hin_X2 (by decide) fl_X2_18 (by decide) x_31 rfl dX2_make_33 ?_
    refine fr_iload_n (pc := 36) rfl dX2_make_36 ?_
    refine fr_iald (pc := 37) s rfl (by decide) x_38 (by first | assumption | omega) (by decide) dX2_make_37 ?_
    exact fr_ireturn (pc := 38) rfl (by rw [if_pos h13]; simp [upd]) (by rw [if_pos h13]) rfl dX2_make_38
set_option maxRecDepth 100000 in
theorem x_sheet {Γ : aG} {l : Launch} {M : Nat → aC} {r rk t : rT} {ik : Int32} {S : sT} {b : Nat → Int32} {ln : Int32} {J : Int32 × Int32 × Int32 × Int32} {fi : Nat → Int32} {s bt n : Int32}  : Ev Γ l mX4_sheet [.ref 0, .int s, .int bt, .int n] 54 (xM M r rk t ik S (b, ln, J) fi) (some (.int (sp_sheet (r, rk, ik, S, b, ln, fi) s bt n).1)) 54 (xF M t J (sp_sheet (r, rk, ik, S, b, ln, fi) s bt n).2) := by
  refine Ev.of [(0, .ref 0), (1, .int s), (2, .int bt), (3, .int n)] (by decide) (Nat.le_of_ble_eq_true rfl) rfl ?_
  refine fr_iload_n (pc := 0) rfl dX4_sheet_0 ?_
  refine fr_callS0 (pc := 1) [.int s] [] (c_X2_isSheet) gc_X4_234 rfl rfl ⟨rfl, rfl, by decide, by decide⟩ (Nat.le_of_ble_eq_true rfl) ⟨by decide, by decide⟩ dX4_sheet_1 ?_
  refine fr_if_eq (pc := 4) 14 (by decide) dX4_sheet_4 (fun h4 => ?_) (fun h4 => ?_)
  · have g4 := bI_0.mp h4
    refine fr_aload_n (pc := 14) rfl dX4_sheet_14 ?_
    refine fr_iconst (pc := 15) (v := 0) rfl dX4_sheet_15 ?_
    refine fr_callV0 (pc := 16) (ci := 3) (T := TX4) (N := 7) [.int 0] [] (c_X4_found (k := 0) (by decide)) gc_X4_51 rfl rfl ⟨rfl, rfl, by decide, by decide⟩ (Nat.le_of_ble_eq_true rfl) rfl (by decide) x_0 ⟨by decide, by decide⟩ dX4_sheet_16 ?_
    exact fr_ireturn (pc := 19) rfl (by simp only [sp_sheet, sS4, fb, sr, sG, xF, g4, if_true, if_false, not_true_eq_false, not_false_eq_true, or_true, true_or, or_false, false_or, and_true, true_and, and_false, false_and, or_self, and_self, eq_self] <;> rfl) (by simp only [sp_sheet, sS4, fb, sr, sG, xF, g4, if_true, if_false, not_true_eq_false, not_false_eq_true, or_true, true_or, or_false, false_or, and_true, true_and, and_false, false_and, or_self, and_self, eq_self] <;> rfl) rfl dX4_sheet_19
  · have g4 := bI_n0 h4
    refine fr_iload_n (pc := 7) rfl dX4_sheet_7 ?_
    refine fr_callS0 (pc := 8) [.int bt] [] (c_X2_areBits) gc_X4_237 rfl rfl ⟨rfl, rfl, by decide, by decide⟩ (Nat.le_of_ble_eq_true rfl) ⟨by decide, by decide⟩ dX4_sheet_8 ?_
    refine fr_if_ne (pc := 11) 20 (by decide) dX4_sheet_11 (fun h11 => ?_) (fun h11 => ?_)
    · have g11 := bI_n0 h11
      refine fr_iload_n (pc := 20) rfl dX4_sheet_20 ?_
      refine fr_if_ge (pc := 21) 31 (by decide) dX4_sheet_21 (fun h21 => ?_) (fun h21 => ?_)
      · have q21 : ¬ n < 0 := Int32.not_lt.mpr h21
        refine fr_iload_n (pc := 31) rfl dX4_sheet_31 ?_
        refine fr_bipush (pc := 32) (v := 40) rfl dX4_sheet_32 ?_
        refine fr_icmp_le (pc := 34) 43 (by decide) dX4_sheet_34 (fun h34 => ?_) (fun h34 => ?_)
        · have q34 : ¬ 40 < n := Int32.not_lt.mpr h34
          obtain ⟨i1, hi1, rfl⟩ := wi_nI (N := 3) g4 rfl
          have ei1 : (nI i1).toNatClampNeg = i1 := nI_clamp (by omega)
          refine fr_aload_n (pc := 43) rfl dX4_sheet_43 ?_
          refine fr_get (pc := 44) (ci := 3) (T := TX4) (k0 := 4) rfl hin_X4 (by decide) fl_X4_29 (by decide) x_0 rfl dX4_sheet_44 ?_
          refine fr_iload_n (pc := 47) rfl dX4_sheet_47 ?_
          refine fr_iload_n (pc := 48) rfl dX4_sheet_48 ?_
          refine fr_iload_n (pc := 49) rfl dX4_sheet_49 ?_
          refine fr_callV0 (pc := 50) (ci := 1) (T := TX2) (N := 3) [.int (nI i1), .int bt, .int n] [] (c_X2_make (by omega)) gc_X4_240 rfl rfl ⟨rfl, rfl, by decide, by decide⟩ (Nat.le_of_ble_eq_true rfl) rfl (by decide) x_31 ⟨by decide, by decide⟩ dX4_sheet_50 ?_
          exact fr_ireturn (pc := 53) rfl (by simp only [sp_sheet, sS4, fb, sr, sG, xF, g4, g11, q21, q34, ei1, if_true, if_false, not_true_eq_false, not_false_eq_true, or_true, true_or, or_false, false_or, and_true, true_and, and_false, false_and, or_self, and_self, eq_self] <;> rfl) (by simp only [sp_sheet, sS4, fb, sr, sG, xF, g4, g11, q21, q34, ei1, if_true, if_false, not_true_eq_false, not_false_eq_true, or_true, true_or, or_false, false_or, and_true, true_and, and_false, false_and, or_self, and_self, eq_self] <;> rfl) rfl dX4_sheet_53
        · have q34 : 40 < n := Int32.not_le.mp h34
          refine fr_aload_n (pc := 37) rfl dX4_sheet_37 ?_
          refine fr_iconst (pc := 38) (v := 0) rfl dX4_sheet_38 ?_
          refine fr_callV0 (pc := 39) (ci := 3) (T := TX4) (N := 7) [.int 0] [] (c_X4_found (k := 0) (by decide)) gc_X4_51 rfl rfl ⟨rfl, rfl, by decide, by decide⟩ (Nat.le_of_ble_eq_true rfl) rfl (by decide) x_0 ⟨by decide, by decide⟩ dX4_sheet_39 ?_
          exact fr_ireturn (pc := 42) rfl (by simp only [sp_sheet, sS4, fb, sr, sG, xF, g4, g11, q21, eq_true q34, if_true, if_false, not_true_eq_false, not_false_eq_true, or_true, true_or, or_false, false_or, and_true, true_and, and_false, false_and, or_self, and_self, eq_self] <;> rfl) (by simp only [sp_sheet, sS4, fb, sr, sG, xF, g4, g11, q21, eq_true q34, if_true, if_false, not_true_eq_false, not_false_eq_true, or_true, true_or, or_false, false_or, and_true, true_and, and_false, false_and, or_self, and_self, eq_self] <;> rfl) rfl dX4_sheet_42
      · have q21 : n < 0 := Int32.not_le.mp h21
        refine fr_aload_n (pc := 24) rfl dX4_sheet_24 ?_
        refine fr_bipush (pc := 25) (v := 6) rfl dX4_sheet_25 ?_
        refine fr_callV0 (pc := 27) (ci := 3) (T := TX4) (N := 7) [.int 6] [] (c_X4_found (k := 6) (by decide)) gc_X4_51 rfl rfl ⟨rfl, rfl, by decide, by decide⟩ (Nat.le_of_ble_eq_true rfl) rfl (by decide) x_0 ⟨by decide, by decide⟩ dX4_sheet_27 ?_
        exact fr_ireturn (pc := 30) rfl (by simp only [sp_sheet, sS4, fb, sr, sG, xF, g4, g11, eq_true q21, if_true, if_false, not_true_eq_false, not_false_eq_true, or_true, true_or, or_false, false_or, and_true, true_and, and_false, false_and, or_self, and_self, eq_self] <;> rfl) (by simp only [sp_sheet, sS4, fb, sr, sG, xF, g4, g11, eq_true q21, if_true, if_false, not_true_eq_false, not_false_eq_true, or_true, true_or, or_false, false_or, and_true, true_and, and_false, false_and, or_self, and_self, eq_self] <;> rfl) rfl dX4_sheet_30
    · have g11 := bI_0.mp h11
      refine fr_aload_n (pc := 14) rfl dX4_sheet_14 ?_
      refine fr_iconst (pc := 15) (v := 0) rfl dX4_sheet_15 ?_
      refine fr_callV0 (pc := 16) (ci := 3) (T := TX4) (N := 7) [.int 0] [] (c_X4_found (k := 0) (by decide)) gc_X4_51 rfl rfl ⟨rfl, rfl, by decide, by decide⟩ (Nat.le_of_ble_eq_true rfl) rfl (by decide) x_0 ⟨by decide, by decide⟩ dX4_sheet_16 ?_
      exact fr_ireturn (pc := 19) rfl (by simp only [sp_sheet, sS4, fb, sr, sG, xF, g4, g11, if_true, if_false, not_true_eq_false, not_false_eq_true, or_true, true_or, or_false, false_or, and_true, true_and, and_false, false_and, or_self, and_self, eq_self] <;> rfl) (by simp only [sp_sheet, sS4, fb, sr, sG, xF, g4, g11, if_true, if_false, not_true_eq_false, not_false_eq_true, or_true, true_or, or_false, false_or, and_true, true_and, and_false, false_and, or_self, and_self, eq_self] <;> rfl) rfl dX4_sheet_19
