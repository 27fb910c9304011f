theorem wi2_out {x : Int32} (h0 : ¬ x = 0) (h1 : ¬ x = 1) (h2 : ¬ x = 2) : ¬ wi x 0 2 = true := by
  intro h
  obtain ⟨j, hj, rfl⟩ := wi_nI (N := 2) h rfl
  rcases (show j = 0 ∨ j = 1 ∨ j = 2 by omega) with rfl | rfl | rfl
  · exact h0 rfl
  · exact h1 rfl
  · exact h2 rfl
set_option maxRecDepth 100000 in
theorem y_set {Γ : aG} {l : Launch} {M : Nat → aC} {r : rT} {kr ar : Nat → Int32} {rk : rT} {ik : Int32} {fi b : Nat → Int32} {ln : Int32} {S : sT} {it mv : Nat → Int32} {Q : yQ} {a v : Int32}  : Ev Γ l mX5_set [.ref 42, .int a, .int v] 54 (yM M r kr ar ik fi b ln S it mv Q) (some (.int (sp_set (r, rk, ik, S, b, ln, fi) a v).1)) 54 (yF M kr ar it mv Q (sp_set (r, rk, ik, S, b, ln, fi) a v).2) := by
  refine Ev.of [(0, .ref 42), (1, .int a), (2, .int v)] (by decide) (Nat.le_of_ble_eq_true rfl) rfl ?_
  refine fr_iload_n (pc := 0) rfl dX5_set_0 ?_
  refine fr_if_ne (pc := 1) 15 (by decide) dX5_set_1 (fun h1 => ?_) (fun h1 => ?_)
  · refine fr_iload_n (pc := 15) rfl dX5_set_15 ?_
    refine fr_iconst (pc := 16) (v := 1) rfl dX5_set_16 ?_
    refine fr_icmp_ne (pc := 17) 27 (by decide) dX5_set_17 (fun h17 => ?_) (fun h17 => ?_)
    · refine fr_iload_n (pc := 27) rfl dX5_set_27 ?_
      refine fr_iconst (pc := 28) (v := 2) rfl dX5_set_28 ?_
      refine fr_icmp_ne (pc := 29) 45 (by decide) dX5_set_29 (fun h29 => ?_) (fun h29 => ?_)
      · refine fr_iconst (pc := 45) (v := 0) rfl dX5_set_45 ?_
        refine fr_istore_n (pc := 46) [(3, .int 0), (0, .ref 42), (1, .int a), (2, .int v)] (by decide) rfl dX5_set_46 ?_
        refine fr_iload_n (pc := 47) rfl dX5_set_47 ?_
        refine fr_if_eq (pc := 48) 62 (by decide) dX5_set_48 (fun h48 => ?_) (fun h48 => ?_)
        · have q9 := wi2_out h1 h17 h29
          refine fr_aload_n (pc := 62) rfl dX5_set_62 ?_
          refine fr_ldc (pc := 63) kc_X5_60 dX5_set_63 ?_
          refine fr_callV0 (pc := 65) (ci := 4) (T := TX5) (N := 20) [.int (-1000001)] [] (c_fnd0) gc_X5_66 rfl rfl ⟨rfl, rfl, by decide, by decide⟩ (Nat.le_of_ble_eq_true rfl) rfl (by decide) y_42 ⟨by decide, by decide⟩ dX5_set_65 ?_
          exact fr_ireturn (pc := 68) rfl (by simp only [sp_set, fb, sr, sG, sS4, yF, q9, (show wi 0 0 2 = true from by decide), (show wi 1 0 2 = true from by decide), (show wi 2 0 2 = true from by decide), (show gs 0 = 999 from rfl), (show gs 1 = 9999 from rfl), (show gs 2 = 1 from rfl), (show ¬ (1 : Int32) = 0 from by decide), (show ¬ (2 : Int32) = 0 from by decide), (show ¬ (2 : Int32) = 1 from by decide), if_true, if_false, not_true_eq_false, not_false_eq_true, or_true, true_or, or_false, false_or, and_true, true_and, and_false, false_and, or_self, and_self, eq_self] <;> rfl) (by simp only [sp_set, fb, sr, sG, sS4, yF, q9, (show wi 0 0 2 = true from by decide), (show wi 1 0 2 = true from by decide), (show wi 2 0 2 = true from by decide), (show gs 0 = 999 from rfl), (show gs 1 = 9999 from rfl), (show gs 2 = 1 from rfl), (show ¬ (1 : Int32) = 0 from by decide), (show ¬ (2 : Int32) = 0 from by decide), (show ¬ (2 : Int32) = 1 from by decide), if_true, if_false, not_true_eq_false, not_false_eq_true, or_true, true_or, or_false, false_or, and_true, true_and, and_false, false_and, or_self, and_self, eq_self] <;> rfl) rfl dX5_set_68
        · exact absurd rfl h48
      · subst h29
        refine fr_iload_n (pc := 32) rfl dX5_set_32 ?_
        refine fr_iconst (pc := 33) (v := 0) rfl dX5_set_33 ?_
        refine fr_iconst (pc := 34) (v := 1) rfl dX5_set_34 ?_
        refine fr_callS0 (pc := 35) [.int v, .int 0, .int 1] [] (c_X5_within) gc_X5_70 rfl rfl ⟨rfl, rfl, by decide, by decide⟩ (Nat.le_of_ble_eq_true rfl) ⟨by decide, by decide⟩ dX5_set_35 ?_
        refine fr_if_eq (pc := 38) 45 (by decide) dX5_set_38 (fun h38 => ?_) (fun h38 => ?_)
        · have g38 := bI_0.mp h38
          refine fr_iconst (pc := 45) (v := 0) rfl dX5_set_45 ?_
          refine fr_istore_n (pc := 46) [(3, .int 0), (0, .ref 42), (1, .int 2), (2, .int v)] (by decide) rfl dX5_set_46 ?_
          refine fr_iload_n (pc := 47) rfl dX5_set_47 ?_
          refine fr_if_eq (pc := 48) 62 (by decide) dX5_set_48 (fun h48 => ?_) (fun h48 => ?_)
          · refine fr_aload_n (pc := 62) rfl dX5_set_62 ?_
            refine fr_ldc (pc := 63) kc_X5_60 dX5_set_63 ?_
            refine fr_callV0 (pc := 65) (ci := 4) (T := TX5) (N := 20) [.int (-1000001)] [] (c_fnd0) gc_X5_66 rfl rfl ⟨rfl, rfl, by decide, by decide⟩ (Nat.le_of_ble_eq_true rfl) rfl (by decide) y_42 ⟨by decide, by decide⟩ dX5_set_65 ?_
            exact fr_ireturn (pc := 68) rfl (by simp only [sp_set, fb, sr, sG, sS4, yF, g38, (show wi 0 0 2 = true from by decide), (show wi 1 0 2 = true from by decide), (show wi 2 0 2 = true from by decide), (show gs 0 = 999 from rfl), (show gs 1 = 9999 from rfl), (show gs 2 = 1 from rfl), (show ¬ (1 : Int32) = 0 from by decide), (show ¬ (2 : Int32) = 0 from by decide), (show ¬ (2 : Int32) = 1 from by decide), if_true, if_false, not_true_eq_false, not_false_eq_true, or_true, true_or, or_false, false_or, and_true, true_and, and_false, false_and, or_self, and_self, eq_self] <;> rfl) (by simp only [sp_set, fb, sr, sG, sS4, yF, g38, (show wi 0 0 2 = true from by decide), (show wi 1 0 2 = true from by decide), (show wi 2 0 2 = true from by decide), (show gs 0 = 999 from rfl), (show gs 1 = 9999 from rfl), (show gs 2 = 1 from rfl), (show ¬ (1 : Int32) = 0 from by decide), (show ¬ (2 : Int32) = 0 from by decide), (show ¬ (2 : Int32) = 1 from by decide), if_true, if_false, not_true_eq_false, not_false_eq_true, or_true, true_or, or_false, false_or, and_true, true_and, and_false, false_and, or_self, and_self, eq_self] <;> rfl) rfl dX5_set_68
          · exact absurd rfl h48
        · have g38 := bI_n0 h38
          refine fr_iconst (pc := 41) (v := 1) rfl dX5_set_41 ?_
          refine fr_goto (pc := 42) 46 (by decide) dX5_set_42 ?_
          refine fr_istore_n (pc := 46) [(3, .int 1), (0, .ref 42), (1, .int 2), (2, .int v)] (by decide) rfl dX5_set_46 ?_
          refine fr_iload_n (pc := 47) rfl dX5_set_47 ?_
          refine fr_if_eq (pc := 48) 62 (by decide) dX5_set_48 (fun h48 => ?_) (fun h48 => ?_)
          · exact absurd h48 (by decide)
          · refine fr_aload_n (pc := 51) rfl dX5_set_51 ?_
            refine fr_iconst (pc := 52) (v := 3) rfl dX5_set_52 ?_
            refine fr_iload_n (pc := 53) rfl dX5_set_53 ?_
            refine fr_iadd (pc := 54) dX5_set_54 ?_
            refine fr_eq (z := nI 5) rfl ?_
            refine fr_iload_n (pc := 55) rfl dX5_set_55 ?_
            refine fr_callV0 (pc := 56) (ci := 4) (T := TX5) (N := 20) [.int (nI 5), .int v] [] (c_X5_become (p := 5) (by omega) (ph_l (by decide))) gc_X5_78 rfl rfl ⟨rfl, rfl, by decide, by decide⟩ (Nat.le_of_ble_eq_true rfl) rfl (by decide) y_42 ⟨by decide, by decide⟩ dX5_set_56 ?_
            refine fr_goto (pc := 59) 68 (by decide) dX5_set_59 ?_
            exact fr_ireturn (pc := 68) rfl (by simp only [sp_set, fb, sr, sG, sS4, yF, g38, (show wi 0 0 2 = true from by decide), (show wi 1 0 2 = true from by decide), (show wi 2 0 2 = true from by decide), (show gs 0 = 999 from rfl), (show gs 1 = 9999 from rfl), (show gs 2 = 1 from rfl), (show ¬ (1 : Int32) = 0 from by decide), (show ¬ (2 : Int32) = 0 from by decide), (show ¬ (2 : Int32) = 1 from by decide), if_true, if_false, not_true_eq_false, not_false_eq_true, or_true, true_or, or_false, false_or, and_true, true_and, and_false, false_and, or_self, and_self, eq_self] <;> rfl) (by simp only [sp_set, fb, sr, sG, sS4, yF, g38, (show wi 0 0 2 = true from by decide), (show wi 1 0 2 = true from by decide), (show wi 2 0 2 = true from by decide), (show gs 0 = 999 from rfl), (show gs 1 = 9999 from rfl), (show gs 2 = 1 from rfl), (show ¬ (1 : Int32) = 0 from by decide), (show ¬ (2 : Int32) = 0 from by decide), (show ¬ (2 : Int32) = 1 from by decide), if_true, if_false, not_true_eq_false, not_false_eq_true, or_true, true_or, or_false, false_or, and_true, true_and, and_false, false_and, or_self, and_self, eq_self] <;> rfl) rfl dX5_set_68
    · subst h17
      refine fr_iload_n (pc := 20) rfl dX5_set_20 ?_
      refine fr_callS0 (pc := 21) [.int v] [] (c_X5_isOften) gc_X5_74 rfl rfl ⟨rfl, rfl, by decide, by decide⟩ (Nat.le_of_ble_eq_true rfl) ⟨by decide, by decide⟩ dX5_set_21 ?_
      refine fr_goto (pc := 24) 46 (by decide) dX5_set_24 ?_
      refine fr_istore_n (pc := 46) [(3, .int (bI (wi v 0 9999 = true))), (0, .ref 42), (1, .int 1), (2, .int v)] (by decide) rfl dX5_set_46 ?_
      refine fr_iload_n (pc := 47) rfl dX5_set_47 ?_
      refine fr_if_eq (pc := 48) 62 (by decide) dX5_set_48 (fun h48 => ?_) (fun h48 => ?_)
      · have g48 := bI_0.mp h48
        refine fr_aload_n (pc := 62) rfl dX5_set_62 ?_
        refine fr_ldc (pc := 63) kc_X5_60 dX5_set_63 ?_
        refine fr_callV0 (pc := 65) (ci := 4) (T := TX5) (N := 20) [.int (-1000001)] [] (c_fnd0) gc_X5_66 rfl rfl ⟨rfl, rfl, by decide, by decide⟩ (Nat.le_of_ble_eq_true rfl) rfl (by decide) y_42 ⟨by decide, by decide⟩ dX5_set_65 ?_
        exact fr_ireturn (pc := 68) rfl (by simp only [sp_set, fb, sr, sG, sS4, yF, g48, (show wi 0 0 2 = true from by decide), (show wi 1 0 2 = true from by decide), (show wi 2 0 2 = true from by decide), (show gs 0 = 999 from rfl), (show gs 1 = 9999 from rfl), (show gs 2 = 1 from rfl), (show ¬ (1 : Int32) = 0 from by decide), (show ¬ (2 : Int32) = 0 from by decide), (show ¬ (2 : Int32) = 1 from by decide), if_true, if_false, not_true_eq_false, not_false_eq_true, or_true, true_or, or_false, false_or, and_true, true_and, and_false, false_and, or_self, and_self, eq_self] <;> rfl) (by simp only [sp_set, fb, sr, sG, sS4, yF, g48, (show wi 0 0 2 = true from by decide), (show wi 1 0 2 = true from by decide), (show wi 2 0 2 = true from by decide), (show gs 0 = 999 from rfl), (show gs 1 = 9999 from rfl), (show gs 2 = 1 from rfl), (show ¬ (1 : Int32) = 0 from by decide), (show ¬ (2 : Int32) = 0 from by decide), (show ¬ (2 : Int32) = 1 from by decide), if_true, if_false, not_true_eq_false, not_false_eq_true, or_true, true_or, or_false, false_or, and_true, true_and, and_false, false_and, or_self, and_self, eq_self] <;> rfl) rfl dX5_set_68
      · have g48 := bI_n0 h48
        refine fr_aload_n (pc := 51) rfl dX5_set_51 ?_
        refine fr_iconst (pc := 52) (v := 3) rfl dX5_set_52 ?_
        refine fr_iload_n (pc := 53) rfl dX5_set_53 ?_
        refine fr_iadd (pc := 54) dX5_set_54 ?_
        refine fr_eq (z := nI 4) rfl ?_
        refine fr_iload_n (pc := 55) rfl dX5_set_55 ?_
        refine fr_callV0 (pc := 56) (ci := 4) (T := TX5) (N := 20) [.int (nI 4), .int v] [] (c_X5_become (p := 4) (by omega) (ph_l (by decide))) gc_X5_78 rfl rfl ⟨rfl, rfl, by decide, by decide⟩ (Nat.le_of_ble_eq_true rfl) rfl (by decide) y_42 ⟨by decide, by decide⟩ dX5_set_56 ?_
        refine fr_goto (pc := 59) 68 (by decide) dX5_set_59 ?_
        exact fr_ireturn (pc := 68) rfl (by simp only [sp_set, fb, sr, sG, sS4, yF, g48, (show wi 0 0 2 = true from by decide), (show wi 1 0 2 = true from by decide), (show wi 2 0 2 = true from by decide), (show gs 0 = 999 from rfl), (show gs 1 = 9999 from rfl), (show gs 2 = 1 from rfl), (show ¬ (1 : Int32) = 0 from by decide), (show ¬ (2 : Int32) = 0 from by decide), (show ¬ (2 : Int32) = 1 from by decide), if_true, if_false, not_true_eq_false, not_false_eq_true, or_true, true_or, or_false, false_or, and_true, true_and, and_false, false_and, or_self, and_self, eq_self] <;> rfl) (by simp only [sp_set, fb, sr, sG, sS4, yF, g48, (show wi 0 0 2 = true from by decide), (show wi 1 0 2 = true from by decide), (show wi 2 0 2 = true from by decide), (show gs 0 = 999 from rfl), (show gs 1 = 9999 from rfl), (show gs 2 = 1 from rfl), (show ¬ (1 : Int32) = 0 from by decide), (show ¬ (2 : Int32) = 0 from by decide), (show ¬ (2 : Int32) = 1 from by decide), if_true, if_false, not_true_eq_false, not_false_eq_true, or_true, true_or, or_false, false_or, and_true, true_and, and_false, false_and, or_self, and_self, eq_self] <;> rfl) rfl dX5_set_68
  · subst h1
    refine fr_iload_n (pc := 4) rfl dX5_set_4 ?_
    refine fr_iconst (pc := 5) (v := 0) rfl dX5_set_5 ?_
    refine fr_sipush (pc := 6) (v := 999) rfl dX5_set_6 ?_
    refine fr_callS0 (pc := 9) [.int v, .int 0, .int 999] [] (c_X5_within) gc_X5_70 rfl rfl ⟨rfl, rfl, by decide, by decide⟩ (Nat.le_of_ble_eq_true rfl) ⟨by decide, by decide⟩ dX5_set_9 ?_
    refine fr_goto (pc := 12) 46 (by decide) dX5_set_12 ?_
    refine fr_istore_n (pc := 46) [(3, .int (bI (wi v 0 999 = true))), (0, .ref 42), (1, .int 0), (2, .int v)] (by decide) rfl dX5_set_46 ?_
    refine fr_iload_n (pc := 47) rfl dX5_set_47 ?_
    refine fr_if_eq (pc := 48) 62 (by decide) dX5_set_48 (fun h48 => ?_) (fun h48 => ?_)
    · have g48 := bI_0.mp h48
      refine fr_aload_n (pc := 62) rfl dX5_set_62 ?_
      refine fr_ldc (pc := 63) kc_X5_60 dX5_set_63 ?_
      refine fr_callV0 (pc := 65) (ci := 4) (T := TX5) (N := 20) [.int (-1000001)] [] (c_fnd0) gc_X5_66 rfl rfl ⟨rfl, rfl, by decide, by decide⟩ (Nat.le_of_ble_eq_true rfl) rfl (by decide) y_42 ⟨by decide, by decide⟩ dX5_set_65 ?_
      exact fr_ireturn (pc := 68) rfl (by simp only [sp_set, fb, sr, sG, sS4, yF, g48, (show wi 0 0 2 = true from by decide), (show wi 1 0 2 = true from by decide), (show wi 2 0 2 = true from by decide), (show gs 0 = 999 from rfl), (show gs 1 = 9999 from rfl), (show gs 2 = 1 from rfl), (show ¬ (1 : Int32) = 0 from by decide), (show ¬ (2 : Int32) = 0 from by decide), (show ¬ (2 : Int32) = 1 from by decide), if_true, if_false, not_true_eq_false, not_false_eq_true, or_true, true_or, or_false, false_or, and_true, true_and, and_false, false_and, or_self, and_self, eq_self] <;> rfl) (by simp only [sp_set, fb, sr, sG, sS4, yF, g48, (show wi 0 0 2 = true from by decide), (show wi 1 0 2 = true from by decide), (show wi 2 0 2 = true from by decide), (show gs 0 = 999 from rfl), (show gs 1 = 9999 from rfl), (show gs 2 = 1 from rfl), (show ¬ (1 : Int32) = 0 from by decide), (show ¬ (2 : Int32) = 0 from by decide), (show ¬ (2 : Int32) = 1 from by decide), if_true, if_false, not_true_eq_false, not_false_eq_true, or_true, true_or, or_false, false_or, and_true, true_and, and_false, false_and, or_self, and_self, eq_self] <;> rfl) rfl dX5_set_68
    · have g48 := bI_n0 h48
      refine fr_aload_n (pc := 51) rfl dX5_set_51 ?_
      refine fr_iconst (pc := 52) (v := 3) rfl dX5_set_52 ?_
      refine fr_iload_n (pc := 53) rfl dX5_set_53 ?_
      refine fr_iadd (pc := 54) dX5_set_54 ?_
      refine fr_eq (z := nI 3) rfl ?_
      refine fr_iload_n (pc := 55) rfl dX5_set_55 ?_
      refine fr_callV0 (pc := 56) (ci := 4) (T := TX5) (N := 20) [.int (nI 3), .int v] [] (c_X5_become (p := 3) (by omega) (ph_l (by decide))) gc_X5_78 rfl rfl ⟨rfl, rfl, by decide, by decide⟩ (Nat.le_of_ble_eq_true rfl) rfl (by decide) y_42 ⟨by decide, by decide⟩ dX5_set_56 ?_
      refine fr_goto (pc := 59) 68 (by decide) dX5_set_59 ?_
      exact fr_ireturn (pc := 68) rfl (by simp only [sp_set, fb, sr, sG, sS4, yF, g48, (show wi 0 0 2 = true from by decide), (show wi 1 0 2 = true from by decide), (show wi 2 0 2 = true from by decide), (show gs 0 = 999 from rfl), (show gs 1 = 9999 from rfl), (show gs 2 = 1 from rfl), (show ¬ (1 : Int32) = 0 from by decide), (show ¬ (2 : Int32) = 0 from by decide), (show ¬ (2 : Int32) = 1 from by decide), if_true, if_false, not_true_eq_false, not_false_eq_true, or_true, true_or, or_false, false_or, and_true, true_and, and_false, false_and, or_self, and_self, eq_self] <;> rfl) (by simp only [sp_set, fb, sr, sG, sS4, yF, g48, (show wi 0 0 2 = true from by decide), (show wi 1 0 2 = true from by decide), (show wi 2 0 2 = true from by decide), (show gs 0 = 999 from rfl), (show gs 1 = 9999 from rfl), (show gs 2 = 1 from rfl), (show ¬ (1 : Int32) = 0 from by decide), (show ¬ (2 : Int32) = 0 from by decide), (show ¬ (2 : Int32) = 1 from by decide), if_true, if_false, not_true_eq_false, not_false_eq_true, or_true, true_or, or_false, false_or, and_true, true_and, and_false, false_and, or_self, and_self, eq_self] <;> rfl) rfl dX5_set_68
set_option maxRecDepth 100000 in
theorem y_cell {Γ : aG} {l : Launch} {M : Nat → aC} {r : rT} {kr ar : Nat → Int32} {rk : rT} {ik : Int32} {fi b : Nat → Int32} {ln : Int32} {S : sT} {it mv : Nat → Int32} {Q : yQ} {c v : Int32}  : Ev Γ l mX5_cell [.ref 42, .int c, .int v] 54 (yM M r kr ar ik fi b ln S it mv Q) (some (.int (sp_cell (r, rk, ik, S, b, ln, fi) c v).1)) 54 (yF M kr ar it mv Q (sp_cell (r, rk, ik, S, b, ln, fi) c v).2) := by
  refine Ev.of [(0, .ref 42), (1, .int c), (2, .int v)] (by decide) (Nat.le_of_ble_eq_true rfl) rfl ?_
  refine fr_iload_n (pc := 0) rfl dX5_cell_0 ?_
  refine fr_callS0 (pc := 1) [.int c] [] (c_X5_isCell) gc_X5_82 rfl rfl ⟨rfl, rfl, by decide, by decide⟩ (Nat.le_of_ble_eq_true rfl) ⟨by decide, by decide⟩ dX5_cell_1 ?_
  refine fr_if_eq (pc := 4) 26 (by decide) dX5_cell_4 (fun h4 => ?_) (fun h4 => ?_)
  · have g4 := bI_0.mp h4
    refine fr_aload_n (pc := 26) rfl dX5_cell_26 ?_
    refine fr_ldc (pc := 27) kc_X5_60 dX5_cell_27 ?_
    refine fr_callV0 (pc := 29) (ci := 4) (T := TX5) (N := 20) [.int (-1000001)] [] (c_fnd0) gc_X5_66 rfl rfl ⟨rfl, rfl, by decide, by decide⟩ (Nat.le_of_ble_eq_true rfl) rfl (by decide) y_42 ⟨by decide, by decide⟩ dX5_cell_29 ?_
    exact fr_ireturn (pc := 32) rfl (by simp only [sp_cell, fb, sr, sG, sS4, yF, g4, if_true, if_false, not_true_eq_false, not_false_eq_true, or_true, true_or, or_false, false_or, and_true, true_and, and_false, false_and, or_self, and_self, eq_self] <;> rfl) (by simp only [sp_cell, fb, sr, sG, sS4, yF, g4, if_true, if_false, not_true_eq_false, not_false_eq_true, or_true, true_or, or_false, false_or, and_true, true_and, and_false, false_and, or_self, and_self, eq_self] <;> rfl) rfl dX5_cell_32
  · have g4 := bI_n0 h4
    refine fr_iload_n (pc := 7) rfl dX5_cell_7 ?_
    refine fr_callS0 (pc := 8) [.int v] [] (c_X5_isBase) gc_X5_85 rfl rfl ⟨rfl, rfl, by decide, by decide⟩ (Nat.le_of_ble_eq_true rfl) ⟨by decide, by decide⟩ dX5_cell_8 ?_
    refine fr_if_eq (pc := 11) 26 (by decide) dX5_cell_11 (fun h11 => ?_) (fun h11 => ?_)
    · have g11 := bI_0.mp h11
      refine fr_aload_n (pc := 26) rfl dX5_cell_26 ?_
      refine fr_ldc (pc := 27) kc_X5_60 dX5_cell_27 ?_
      refine fr_callV0 (pc := 29) (ci := 4) (T := TX5) (N := 20) [.int (-1000001)] [] (c_fnd0) gc_X5_66 rfl rfl ⟨rfl, rfl, by decide, by decide⟩ (Nat.le_of_ble_eq_true rfl) rfl (by decide) y_42 ⟨by decide, by decide⟩ dX5_cell_29 ?_
      exact fr_ireturn (pc := 32) rfl (by simp only [sp_cell, fb, sr, sG, sS4, yF, g4, g11, if_true, if_false, not_true_eq_false, not_false_eq_true, or_true, true_or, or_false, false_or, and_true, true_and, and_false, false_and, or_self, and_self, eq_self] <;> rfl) (by simp only [sp_cell, fb, sr, sG, sS4, yF, g4, g11, if_true, if_false, not_true_eq_false, not_false_eq_true, or_true, true_or, or_false, false_or, and_true, true_and, and_false, false_and, or_self, and_self, eq_self] <;> rfl) rfl dX5_cell_32
    · have g11 := bI_n0 h11
      obtain ⟨i1, hi1, rfl⟩ := wi_nI (N := 15) g4 rfl
      have ei1 : (nI i1).toNatClampNeg = i1 := nI_clamp (by omega)
      refine fr_aload_n (pc := 14) rfl dX5_cell_14 ?_
      refine fr_bipush (pc := 15) (v := 12) rfl dX5_cell_15 ?_
      refine fr_iload_n (pc := 17) rfl dX5_cell_17 ?_
      refine fr_iadd (pc := 18) dX5_cell_18 ?_
      refine fr_eq (z := nI (12 + i1)) (nI_add 12 i1) ?_
      refine fr_iload_n (pc := 19) rfl dX5_cell_19 ?_
      refine fr_callV0 (pc := 20) (ci := 4) (T := TX5) (N := 20) [.int (nI (12 + i1)), .int v] [] (c_X5_become (p := (12 + i1)) (by omega) (ph_b (by first | assumption | omega))) gc_X5_78 rfl rfl ⟨rfl, rfl, by decide, by decide⟩ (Nat.le_of_ble_eq_true rfl) rfl (by decide) y_42 ⟨by decide, by decide⟩ dX5_cell_20 ?_
      refine fr_goto (pc := 23) 32 (by decide) dX5_cell_23 ?_
      exact fr_ireturn (pc := 32) rfl (by simp only [sp_cell, fb, sr, sG, sS4, yF, g4, g11, ei1, if_true, if_false, not_true_eq_false, not_false_eq_true, or_true, true_or, or_false, false_or, and_true, true_and, and_false, false_and, or_self, and_self, eq_self] <;> rfl) (by simp only [sp_cell, fb, sr, sG, sS4, yF, g4, g11, ei1, if_true, if_false, not_true_eq_false, not_false_eq_true, or_true, true_or, or_false, false_or, and_true, true_and, and_false, false_and, or_self, and_self, eq_self] <;> rfl) rfl dX5_cell_32
set_option maxRecDepth 100000 in
theorem y_measure {Γ : aG} {l : Launch} {M : Nat → aC} {r : rT} {kr ar : Nat → Int32} {rk : rT} {ik : Int32} {fi b : Nat → Int32} {ln : Int32} {S : sT} {it mv : Nat → Int32} {Q : yQ} {i v : Int32}  : Ev Γ l mX5_measure [.ref 42, .int i, .int v] 54 (yM M r kr ar ik fi b ln S it mv Q) (some (.int (sp_measure (r, rk, ik, S, b, ln, fi) i v).1)) 54 (yF M kr ar it mv Q (sp_measure (r, rk, ik, S, b, ln, fi) i v).2) := by
  refine Ev.of [(0, .ref 42), (1, .int i), (2, .int v)] (by decide) (Nat.le_of_ble_eq_true rfl) rfl ?_
  refine fr_iload_n (pc := 0) rfl dX5_measure_0 ?_
  refine fr_callS0 (pc := 1) [.int i] [] (c_X5_isPlace) gc_X5_88 rfl rfl ⟨rfl, rfl, by decide, by decide⟩ (Nat.le_of_ble_eq_true rfl) ⟨by decide, by decide⟩ dX5_measure_1 ?_
  refine fr_if_eq (pc := 4) 26 (by decide) dX5_measure_4 (fun h4 => ?_) (fun h4 => ?_)
  · have g4 := bI_0.mp h4
    refine fr_aload_n (pc := 26) rfl dX5_measure_26 ?_
    refine fr_ldc (pc := 27) kc_X5_60 dX5_measure_27 ?_
    refine fr_callV0 (pc := 29) (ci := 4) (T := TX5) (N := 20) [.int (-1000001)] [] (c_fnd0) gc_X5_66 rfl rfl ⟨rfl, rfl, by decide, by decide⟩ (Nat.le_of_ble_eq_true rfl) rfl (by decide) y_42 ⟨by decide, by decide⟩ dX5_measure_29 ?_
    exact fr_ireturn (pc := 32) rfl (by simp only [sp_measure, fb, sr, sG, sS4, yF, g4, if_true, if_false, not_true_eq_false, not_false_eq_true, or_true, true_or, or_false, false_or, and_true, true_and, and_false, false_and, or_self, and_self, eq_self] <;> rfl) (by simp only [sp_measure, fb, sr, sG, sS4, yF, g4, if_true, if_false, not_true_eq_false, not_false_eq_true, or_true, true_or, or_false, false_or, and_true, true_and, and_false, false_and, or_self, and_self, eq_self] <;> rfl) rfl dX5_measure_32
  · have g4 := bI_n0 h4
    refine fr_iload_n (pc := 7) rfl dX5_measure_7 ?_
    refine fr_callS0 (pc := 8) [.int v] [] (c_X5_isMeasure) gc_X5_91 rfl rfl ⟨rfl, rfl, by decide, by decide⟩ (Nat.le_of_ble_eq_true rfl) ⟨by decide, by decide⟩ dX5_measure_8 ?_
    refine fr_if_eq (pc := 11) 26 (by decide) dX5_measure_11 (fun h11 => ?_) (fun h11 => ?_)
    · have g11 := bI_0.mp h11
      refine fr_aload_n (pc := 26) rfl dX5_measure_26 ?_
      refine fr_ldc (pc := 27) kc_X5_60 dX5_measure_27 ?_
      refine fr_callV0 (pc := 29) (ci := 4) (T := TX5) (N := 20) [.int (-1000001)] [] (c_fnd0) gc_X5_66 rfl rfl ⟨rfl, rfl, by decide, by decide⟩ (Nat.le_of_ble_eq_true rfl) rfl (by decide) y_42 ⟨by decide, by decide⟩ dX5_measure_29 ?_
      exact fr_ireturn (pc := 32) rfl (by simp only [sp_measure, fb, sr, sG, sS4, yF, g4, g11, if_true, if_false, not_true_eq_false, not_false_eq_true, or_true, true_or, or_false, false_or, and_true, true_and, and_false, false_and, or_self, and_self, eq_self] <;> rfl) (by simp only [sp_measure, fb, sr, sG, sS4, yF, g4, g11, if_true, if_false, not_true_eq_false, not_false_eq_true, or_true, true_or, or_false, false_or, and_true, true_and, and_false, false_and, or_self, and_self, eq_self] <;> rfl) rfl dX5_measure_32
    · have g11 := bI_n0 h11
      obtain ⟨i1, hi1, rfl⟩ := wi_nI (N := 5) g4 rfl
      have ei1 : (nI i1).toNatClampNeg = i1 := nI_clamp (by omega)
      refine fr_aload_n (pc := 14) rfl dX5_measure_14 ?_
      refine fr_bipush (pc := 15) (v := 6) rfl dX5_measure_15 ?_
      refine fr_iload_n (pc := 17) rfl dX5_measure_17 ?_
      refine fr_iadd (pc := 18) dX5_measure_18 ?_
      refine fr_eq (z := nI (6 + i1)) (nI_add 6 i1) ?_
      refine fr_iload_n (pc := 19) rfl dX5_measure_19 ?_
      refine fr_callV0 (pc := 20) (ci := 4) (T := TX5) (N := 20) [.int (nI (6 + i1)), .int v] [] (c_X5_become (p := (6 + i1)) (by omega) (ph_m (by first | assumption | omega))) gc_X5_78 rfl rfl ⟨rfl, rfl, by decide, by decide⟩ (Nat.le_of_ble_eq_true rfl) rfl (by decide) y_42 ⟨by decide, by decide⟩ dX5_measure_20 ?_
      refine fr_goto (pc := 23) 32 (by decide) dX5_measure_23 ?_
      exact fr_ireturn (pc := 32) rfl (by simp only [sp_measure, fb, sr, sG, sS4, yF, g4, g11, ei1, if_true, if_false, not_true_eq_false, not_false_eq_true, or_true, true_or, or_false, false_or, and_true, true_and, and_false, false_and, or_self, and_self, eq_self] <;> rfl) (by simp only [sp_measure, fb, sr, sG, sS4, yF, g4, g11, ei1, if_true, if_false, not_true_eq_false, not_false_eq_true, or_true, true_or, or_false, false_or, and_true, true_and, and_false, false_and, or_self, and_self, eq_self] <;> rfl) rfl dX5_measure_32
set_option maxRecDepth 100000 in
theorem y_listed {Γ : aG} {l : Launch} {M : Nat → aC} {r : rT} {kr ar : Nat → Int32} {rk : rT} {ik : Int32} {fi b : Nat → Int32} {ln : Int32} {S : sT} {it mv : Nat → Int32} {Q : yQ} {i : Int32}  : Ev Γ l mX5_listed [.ref 42, .int i] 54 (yM M r kr ar ik fi b ln S it mv Q) (some (.int (sp_listed (r, rk, ik, S, b, ln, fi) i).1)) 54 (yF M kr ar it mv Q (sp_listed (r, rk, ik, S, b, ln, fi) i).2) := by
  refine Ev.of [(0, .ref 42), (1, .int i)] (by decide) (Nat.le_of_ble_eq_true rfl) rfl ?_
  refine fr_iload_n (pc := 0) rfl dX5_listed_0 ?_
  refine fr_callS0 (pc := 1) [.int i] [] (c_X5_isPlace) gc_X5_88 rfl rfl ⟨rfl, rfl, by decide, by decide⟩ (Nat.le_of_ble_eq_true rfl) ⟨by decide, by decide⟩ dX5_listed_1 ?_
  refine fr_if_eq (pc := 4) 19 (by decide) dX5_listed_4 (fun h4 => ?_) (fun h4 => ?_)
  · have g4 := bI_0.mp h4
    refine fr_aload_n (pc := 19) rfl dX5_listed_19 ?_
    refine fr_ldc (pc := 20) kc_X5_60 dX5_listed_20 ?_
    refine fr_callV0 (pc := 22) (ci := 4) (T := TX5) (N := 20) [.int (-1000001)] [] (c_fnd0) gc_X5_66 rfl rfl ⟨rfl, rfl, by decide, by decide⟩ (Nat.le_of_ble_eq_true rfl) rfl (by decide) y_42 ⟨by decide, by decide⟩ dX5_listed_22 ?_
    exact fr_ireturn (pc := 25) rfl (by simp only [sp_listed, fb, sr, sG, sS4, yF, g4, if_true, if_false, not_true_eq_false, not_false_eq_true, or_true, true_or, or_false, false_or, and_true, true_and, and_false, false_and, or_self, and_self, eq_self] <;> rfl) (by simp only [sp_listed, fb, sr, sG, sS4, yF, g4, if_true, if_false, not_true_eq_false, not_false_eq_true, or_true, true_or, or_false, false_or, and_true, true_and, and_false, false_and, or_self, and_self, eq_self] <;> rfl) rfl dX5_listed_25
  · have g4 := bI_n0 h4
    obtain ⟨i1, hi1, rfl⟩ := wi_nI (N := 5) g4 rfl
    have ei1 : (nI i1).toNatClampNeg = i1 := nI_clamp (by omega)
    refine fr_aload_n (pc := 7) rfl dX5_listed_7 ?_
    refine fr_get (pc := 8) (ci := 4) (T := TX5) (k0 := 0) rfl hin_X5 (by decide) fl_X5_9 (by decide) y_42 rfl dX5_listed_8 ?_
    refine fr_bipush (pc := 11) (v := 6) rfl dX5_listed_11 ?_
    refine fr_iload_n (pc := 13) rfl dX5_listed_13 ?_
    refine fr_iadd (pc := 14) dX5_listed_14 ?_
    refine fr_eq (z := nI (6 + i1)) (nI_add 6 i1) ?_
    refine fr_iald (pc := 15) (6 + i1) rfl (by decide) y_43 (by first | assumption | omega) (by decide) dX5_listed_15 ?_
    refine fr_eq (z := r 1 i1) (row_at (ph_m (by first | assumption | omega))) ?_
    refine fr_goto (pc := 16) 25 (by decide) dX5_listed_16 ?_
    exact fr_ireturn (pc := 25) rfl (by simp only [sp_listed, fb, sr, sG, sS4, yF, g4, ei1, if_true, if_false, not_true_eq_false, not_false_eq_true, or_true, true_or, or_false, false_or, and_true, true_and, and_false, false_and, or_self, and_self, eq_self] <;> rfl) (by simp only [sp_listed, fb, sr, sG, sS4, yF, g4, ei1, if_true, if_false, not_true_eq_false, not_false_eq_true, or_true, true_or, or_false, false_or, and_true, true_and, and_false, false_and, or_self, and_self, eq_self] <;> rfl) rfl dX5_listed_25
set_option maxRecDepth 100000 in
theorem y_wide {Γ : aG} {l : Launch} {M : Nat → aC} {r : rT} {kr ar : Nat → Int32} {rk : rT} {ik : Int32} {fi b : Nat → Int32} {ln : Int32} {S : sT} {it mv : Nat → Int32} {Q : yQ} {c m : Int32}  : Ev Γ l mX5_wide [.ref 42, .int c, .int m] 54 (yM M r kr ar ik fi b ln S it mv Q) (some (.int (sp_wide (r, rk, ik, S, b, ln, fi) c m).1)) 54 (yF M kr ar it mv Q (sp_wide (r, rk, ik, S, b, ln, fi) c m).2) := by
  refine Ev.of [(0, .ref 42), (1, .int c), (2, .int m)] (by decide) (Nat.le_of_ble_eq_true rfl) rfl ?_
  refine fr_iload_n (pc := 0) rfl dX5_wide_0 ?_
  refine fr_callS0 (pc := 1) [.int c] [] (c_X5_isCell) gc_X5_82 rfl rfl ⟨rfl, rfl, by decide, by decide⟩ (Nat.le_of_ble_eq_true rfl) ⟨by decide, by decide⟩ dX5_wide_1 ?_
  refine fr_if_eq (pc := 4) 23 (by decide) dX5_wide_4 (fun h4 => ?_) (fun h4 => ?_)
  · have g4 := bI_0.mp h4
    refine fr_aload_n (pc := 23) rfl dX5_wide_23 ?_
    refine fr_ldc (pc := 24) kc_X5_60 dX5_wide_24 ?_
    refine fr_callV0 (pc := 26) (ci := 4) (T := TX5) (N := 20) [.int (-1000001)] [] (c_fnd0) gc_X5_66 rfl rfl ⟨rfl, rfl, by decide, by decide⟩ (Nat.le_of_ble_eq_true rfl) rfl (by decide) y_42 ⟨by decide, by decide⟩ dX5_wide_26 ?_
    exact fr_ireturn (pc := 29) rfl (by simp only [sp_wide, fb, sr, sG, sS4, yF, g4, if_true, if_false, not_true_eq_false, not_false_eq_true, or_true, true_or, or_false, false_or, and_true, true_and, and_false, false_and, or_self, and_self, eq_self] <;> rfl) (by simp only [sp_wide, fb, sr, sG, sS4, yF, g4, if_true, if_false, not_true_eq_false, not_false_eq_true, or_true, true_or, or_false, false_or, and_true, true_and, and_false, false_and, or_self, and_self, eq_self] <;> rfl) rfl dX5_wide_29
  · have g4 := bI_n0 h4
    refine fr_iload_n (pc := 7) rfl dX5_wide_7 ?_
    refine fr_callS0 (pc := 8) [.int m] [] (c_X5_isMeasure) gc_X5_91 rfl rfl ⟨rfl, rfl, by decide, by decide⟩ (Nat.le_of_ble_eq_true rfl) ⟨by decide, by decide⟩ dX5_wide_8 ?_
    refine fr_if_eq (pc := 11) 23 (by decide) dX5_wide_11 (fun h11 => ?_) (fun h11 => ?_)
    · have g11 := bI_0.mp h11
      refine fr_aload_n (pc := 23) rfl dX5_wide_23 ?_
      refine fr_ldc (pc := 24) kc_X5_60 dX5_wide_24 ?_
      refine fr_callV0 (pc := 26) (ci := 4) (T := TX5) (N := 20) [.int (-1000001)] [] (c_fnd0) gc_X5_66 rfl rfl ⟨rfl, rfl, by decide, by decide⟩ (Nat.le_of_ble_eq_true rfl) rfl (by decide) y_42 ⟨by decide, by decide⟩ dX5_wide_26 ?_
      exact fr_ireturn (pc := 29) rfl (by simp only [sp_wide, fb, sr, sG, sS4, yF, g4, g11, if_true, if_false, not_true_eq_false, not_false_eq_true, or_true, true_or, or_false, false_or, and_true, true_and, and_false, false_and, or_self, and_self, eq_self] <;> rfl) (by simp only [sp_wide, fb, sr, sG, sS4, yF, g4, g11, if_true, if_false, not_true_eq_false, not_false_eq_true, or_true, true_or, or_false, false_or, and_true, true_and, and_false, false_and, or_self, and_self, eq_self] <;> rfl) rfl dX5_wide_29
    · have g11 := bI_n0 h11
      obtain ⟨i1, hi1, rfl⟩ := wi_nI (N := 15) g4 rfl
      have ei1 : (nI i1).toNatClampNeg = i1 := nI_clamp (by omega)
      refine fr_aload_n (pc := 14) rfl dX5_wide_14 ?_
      refine fr_iload_n (pc := 15) rfl dX5_wide_15 ?_
      refine fr_iload_n (pc := 16) rfl dX5_wide_16 ?_
      refine fr_callV0 (pc := 17) (ci := 4) (T := TX5) (N := 20) [.int (nI i1), .int m] [] (c_X5_wideAt (by first | assumption | omega)) gc_X5_103 rfl rfl ⟨rfl, rfl, by decide, by decide⟩ (Nat.le_of_ble_eq_true rfl) rfl (by decide) y_42 ⟨by decide, by decide⟩ dX5_wide_17 ?_
      refine fr_goto (pc := 20) 29 (by decide) dX5_wide_20 ?_
      exact fr_ireturn (pc := 29) rfl (by simp only [sp_wide, fb, sr, sG, sS4, yF, g4, g11, ei1, if_true, if_false, not_true_eq_false, not_false_eq_true, or_true, true_or, or_false, false_or, and_true, true_and, and_false, false_and, or_self, and_self, eq_self] <;> rfl) (by simp only [sp_wide, fb, sr, sG, sS4, yF, g4, g11, ei1, if_true, if_false, not_true_eq_false, not_false_eq_true, or_true, true_or, or_false, false_or, and_true, true_and, and_false, false_and, or_self, and_self, eq_self] <;> rfl) rfl dX5_wide_29
set_option maxRecDepth 100000 in
theorem y_guest {Γ : aG} {l : Launch} {M : Nat → aC} {r : rT} {kr ar : Nat → Int32} {rk : rT} {ik : Int32} {fi b : Nat → Int32} {ln : Int32} {S : sT} {it mv : Nat → Int32} {Q : yQ} {k c : Int32} (w : wf r)  : Ev Γ l mX5_guest [.ref 42, .int k, .int c] 54 (yM M r kr ar ik fi b ln S it mv Q) (some (.int (sp_guest (r, rk, ik, S, b, ln, fi) k c).1)) 54 (yF M kr ar it mv Q (sp_guest (r, rk, ik, S, b, ln, fi) k c).2) := by
  refine Ev.of [(0, .ref 42), (1, .int k), (2, .int c)] (by decide) (Nat.le_of_ble_eq_true rfl) rfl ?_
  refine fr_iload_n (pc := 0) rfl dX5_guest_0 ?_
  refine fr_callS0 (pc := 1) [.int k] [] (c_X5_isKind) gc_X5_109 rfl rfl ⟨rfl, rfl, by decide, by decide⟩ (Nat.le_of_ble_eq_true rfl) ⟨by decide, by decide⟩ dX5_guest_1 ?_
  refine fr_if_eq (pc := 4) 14 (by decide) dX5_guest_4 (fun h4 => ?_) (fun h4 => ?_)
  · have g4 := bI_0.mp h4
    refine fr_aload_n (pc := 14) rfl dX5_guest_14 ?_
    refine fr_ldc (pc := 15) kc_X5_60 dX5_guest_15 ?_
    refine fr_callV0 (pc := 17) (ci := 4) (T := TX5) (N := 20) [.int (-1000001)] [] (c_fnd0) gc_X5_66 rfl rfl ⟨rfl, rfl, by decide, by decide⟩ (Nat.le_of_ble_eq_true rfl) rfl (by decide) y_42 ⟨by decide, by decide⟩ dX5_guest_17 ?_
    exact fr_ireturn (pc := 20) rfl (by simp only [sp_guest, fb, sr, sG, sS4, yF, g4, if_true, if_false, not_true_eq_false, not_false_eq_true, or_true, true_or, or_false, false_or, and_true, true_and, and_false, false_and, or_self, and_self, eq_self] <;> rfl) (by simp only [sp_guest, fb, sr, sG, sS4, yF, g4, if_true, if_false, not_true_eq_false, not_false_eq_true, or_true, true_or, or_false, false_or, and_true, true_and, and_false, false_and, or_self, and_self, eq_self] <;> rfl) rfl dX5_guest_20
  · have g4 := bI_n0 h4
    refine fr_iload_n (pc := 7) rfl dX5_guest_7 ?_
    refine fr_callS0 (pc := 8) [.int c] [] (c_X5_isCell) gc_X5_82 rfl rfl ⟨rfl, rfl, by decide, by decide⟩ (Nat.le_of_ble_eq_true rfl) ⟨by decide, by decide⟩ dX5_guest_8 ?_
    refine fr_if_ne (pc := 11) 21 (by decide) dX5_guest_11 (fun h11 => ?_) (fun h11 => ?_)
    · have g11 := bI_n0 h11
      refine fr_aload_n (pc := 21) rfl dX5_guest_21 ?_
      refine fr_get (pc := 22) (ci := 4) (T := TX5) (k0 := 0) rfl hin_X5 (by decide) fl_X5_9 (by decide) y_42 rfl dX5_guest_22 ?_
      refine fr_iconst (pc := 25) (v := 1) rfl dX5_guest_25 ?_
      refine fr_iald (pc := 26) 1 rfl (by decide) y_43 (by decide) (by decide) dX5_guest_26 ?_
      refine fr_eq (z := r 9 1) (row_at (ph_l (by decide))) ?_
      refine fr_bipush (pc := 27) (v := 8) rfl dX5_guest_27 ?_
      refine fr_icmp_ne (pc := 29) 41 (by decide) dX5_guest_29 (fun h29 => ?_) (fun h29 => ?_)
      · have hc : cnt r < 8 := by
          have q := h29
          rw [w.ct] at q
          have q2 := w.ctl
          rcases Nat.lt_or_ge (cnt r) 8 with z | z
          · exact z
          · exact absurd (by rw [show cnt r = 8 by omega]; rfl) q
        have q8 : r 9 1 < 8 := by rw [w.ct]; exact nI_lt (b := 8) hc (by decide)
        refine fr_aload_n (pc := 41) rfl dX5_guest_41 ?_
        refine fr_iload_n (pc := 42) rfl dX5_guest_42 ?_
        refine fr_iload_n (pc := 43) rfl dX5_guest_43 ?_
        refine fr_callV0 (pc := 44) (ci := 4) (T := TX5) (N := 20) [.int k, .int c] [] (c_X5_comesIn (by assumption) (by assumption)) gc_X5_113 rfl rfl ⟨rfl, rfl, by decide, by decide⟩ (Nat.le_of_ble_eq_true rfl) rfl (by decide) y_42 ⟨by decide, by decide⟩ dX5_guest_44 ?_
        exact fr_ireturn (pc := 47) rfl (by simp only [sp_guest, fb, sr, sG, sS4, yF, g4, g11, q8, if_true, if_false, not_true_eq_false, not_false_eq_true, or_true, true_or, or_false, false_or, and_true, true_and, and_false, false_and, or_self, and_self, eq_self] <;> rfl) (by simp only [sp_guest, fb, sr, sG, sS4, yF, g4, g11, q8, if_true, if_false, not_true_eq_false, not_false_eq_true, or_true, true_or, or_false, false_or, and_true, true_and, and_false, false_and, or_self, and_self, eq_self] <;> rfl) rfl dX5_guest_47
      · have q8 : ¬ r 9 1 < 8 := by rw [h29]; decide
        refine fr_aload_n (pc := 32) rfl dX5_guest_32 ?_
        refine fr_ldc (pc := 33) kc_X5_112 dX5_guest_33 ?_
        refine fr_callV0 (pc := 35) (ci := 4) (T := TX5) (N := 20) [.int (-1000002)] [] (c_fnd1) gc_X5_66 rfl rfl ⟨rfl, rfl, by decide, by decide⟩ (Nat.le_of_ble_eq_true rfl) rfl (by decide) y_42 ⟨by decide, by decide⟩ dX5_guest_35 ?_
        refine fr_goto (pc := 38) 47 (by decide) dX5_guest_38 ?_
        exact fr_ireturn (pc := 47) rfl (by simp only [sp_guest, fb, sr, sG, sS4, yF, g4, g11, q8, if_true, if_false, not_true_eq_false, not_false_eq_true, or_true, true_or, or_false, false_or, and_true, true_and, and_false, false_and, or_self, and_self, eq_self] <;> rfl) (by simp only [sp_guest, fb, sr, sG, sS4, yF, g4, g11, q8, if_true, if_false, not_true_eq_false, not_false_eq_true, or_true, true_or, or_false, false_or, and_true, true_and, and_false, false_and, or_self, and_self, eq_self] <;> rfl) rfl dX5_guest_47
    · have g11 := bI_0.mp h11
      refine fr_aload_n (pc := 14) rfl dX5_guest_14 ?_
      refine fr_ldc (pc := 15) kc_X5_60 dX5_guest_15 ?_
      refine fr_callV0 (pc := 17) (ci := 4) (T := TX5) (N := 20) [.int (-1000001)] [] (c_fnd0) gc_X5_66 rfl rfl ⟨rfl, rfl, by decide, by decide⟩ (Nat.le_of_ble_eq_true rfl) rfl (by decide) y_42 ⟨by decide, by decide⟩ dX5_guest_17 ?_
      exact fr_ireturn (pc := 20) rfl (by simp only [sp_guest, fb, sr, sG, sS4, yF, g4, g11, if_true, if_false, not_true_eq_false, not_false_eq_true, or_true, true_or, or_false, false_or, and_true, true_and, and_false, false_and, or_self, and_self, eq_self] <;> rfl) (by simp only [sp_guest, fb, sr, sG, sS4, yF, g4, g11, if_true, if_false, not_true_eq_false, not_false_eq_true, or_true, true_or, or_false, false_or, and_true, true_and, and_false, false_and, or_self, and_self, eq_self] <;> rfl) rfl dX5_guest_20
set_option maxRecDepth 100000 in
theorem y_of {Γ : aG} {l : Launch} {M : Nat → aC} {r : rT} {kr ar : Nat → Int32} {rk : rT} {ik : Int32} {fi b : Nat → Int32} {ln : Int32} {S : sT} {it mv : Nat → Int32} {Q : yQ} {g a : Int32} (w : wf r)  : Ev Γ l mX5_of [.ref 42, .int g, .int a] 54 (yM M r kr ar ik fi b ln S it mv Q) (some (.int (sp_of (r, rk, ik, S, b, ln, fi) g a).1)) 54 (yF M kr ar it mv Q (sp_of (r, rk, ik, S, b, ln, fi) g a).2) := by
  refine Ev.of [(0, .ref 42), (1, .int g), (2, .int a)] (by decide) (Nat.le_of_ble_eq_true rfl) rfl ?_
  refine fr_aload_n (pc := 0) rfl dX5_of_0 ?_
  refine fr_iload_n (pc := 1) rfl dX5_of_1 ?_
  refine fr_callV0 (pc := 2) (ci := 4) (T := TX5) (N := 20) [.int g] [] (c_X5_isGuest ) gc_X5_131 rfl rfl ⟨rfl, rfl, by decide, by decide⟩ (Nat.le_of_ble_eq_true rfl) rfl (by decide) y_42 ⟨by decide, by decide⟩ dX5_of_2 ?_
  refine fr_if_eq (pc := 5) 27 (by decide) dX5_of_5 (fun h5 => ?_) (fun h5 => ?_)
  · have g5 := bI_0.mp h5
    refine fr_aload_n (pc := 27) rfl dX5_of_27 ?_
    refine fr_ldc (pc := 28) kc_X5_60 dX5_of_28 ?_
    refine fr_callV0 (pc := 30) (ci := 4) (T := TX5) (N := 20) [.int (-1000001)] [] (c_fnd0) gc_X5_66 rfl rfl ⟨rfl, rfl, by decide, by decide⟩ (Nat.le_of_ble_eq_true rfl) rfl (by decide) y_42 ⟨by decide, by decide⟩ dX5_of_30 ?_
    exact fr_ireturn (pc := 33) rfl (by simp only [sp_of, fb, sr, sG, sS4, yF, g5, if_true, if_false, not_true_eq_false, not_false_eq_true, or_true, true_or, or_false, false_or, and_true, true_and, and_false, false_and, or_self, and_self, eq_self] <;> rfl) (by simp only [sp_of, fb, sr, sG, sS4, yF, g5, if_true, if_false, not_true_eq_false, not_false_eq_true, or_true, true_or, or_false, false_or, and_true, true_and, and_false, false_and, or_self, and_self, eq_self] <;> rfl) rfl dX5_of_33
  · have g5 := bI_n0 h5
    refine fr_iload_n (pc := 8) rfl dX5_of_8 ?_
    refine fr_iconst (pc := 9) (v := 0) rfl dX5_of_9 ?_
    refine fr_bipush (pc := 10) (v := 9) rfl dX5_of_10 ?_
    refine fr_callS0 (pc := 12) [.int a, .int 0, .int 9] [] (c_X5_within) gc_X5_70 rfl rfl ⟨rfl, rfl, by decide, by decide⟩ (Nat.le_of_ble_eq_true rfl) ⟨by decide, by decide⟩ dX5_of_12 ?_
    refine fr_if_eq (pc := 15) 27 (by decide) dX5_of_15 (fun h15 => ?_) (fun h15 => ?_)
    · have g15 := bI_0.mp h15
      refine fr_aload_n (pc := 27) rfl dX5_of_27 ?_
      refine fr_ldc (pc := 28) kc_X5_60 dX5_of_28 ?_
      refine fr_callV0 (pc := 30) (ci := 4) (T := TX5) (N := 20) [.int (-1000001)] [] (c_fnd0) gc_X5_66 rfl rfl ⟨rfl, rfl, by decide, by decide⟩ (Nat.le_of_ble_eq_true rfl) rfl (by decide) y_42 ⟨by decide, by decide⟩ dX5_of_30 ?_
      exact fr_ireturn (pc := 33) rfl (by simp only [sp_of, fb, sr, sG, sS4, yF, g5, g15, if_true, if_false, not_true_eq_false, not_false_eq_true, or_true, true_or, or_false, false_or, and_true, true_and, and_false, false_and, or_self, and_self, eq_self] <;> rfl) (by simp only [sp_of, fb, sr, sG, sS4, yF, g5, g15, if_true, if_false, not_true_eq_false, not_false_eq_true, or_true, true_or, or_false, false_or, and_true, true_and, and_false, false_and, or_self, and_self, eq_self] <;> rfl) rfl dX5_of_33
    · have g15 := bI_n0 h15
      obtain ⟨i1, hi1, rfl⟩ := sG_nI w g5
      have ei1 : (nI i1).toNatClampNeg = i1 := nI_clamp (by have := w.ctl; omega)
      have li1 : i1 < 8 := by have := w.ctl; omega
      obtain ⟨i2, hi2, rfl⟩ := wi_nI (N := 9) g15 rfl
      have ei2 : (nI i2).toNatClampNeg = i2 := nI_clamp (by omega)
      refine fr_aload_n (pc := 18) rfl dX5_of_18 ?_
      refine fr_iload_n (pc := 19) rfl dX5_of_19 ?_
      refine fr_iload_n (pc := 20) rfl dX5_of_20 ?_
      refine fr_callV0 (pc := 21) (ci := 4) (T := TX5) (N := 20) [.int (nI i1), .int (nI i2)] [] (c_X5_told (k := i2) (by first | assumption | omega) (by first | assumption | omega)) gc_X5_134 rfl rfl ⟨rfl, rfl, by decide, by decide⟩ (Nat.le_of_ble_eq_true rfl) rfl (by decide) y_42 ⟨by decide, by decide⟩ dX5_of_21 ?_
      refine fr_goto (pc := 24) 33 (by decide) dX5_of_24 ?_
      exact fr_ireturn (pc := 33) rfl (by simp only [sp_of, fb, sr, sG, sS4, yF, g5, g15, ei1, ei2, if_true, if_false, not_true_eq_false, not_false_eq_true, or_true, true_or, or_false, false_or, and_true, true_and, and_false, false_and, or_self, and_self, eq_self] <;> rfl) (by simp only [sp_of, fb, sr, sG, sS4, yF, g5, g15, ei1, ei2, if_true, if_false, not_true_eq_false, not_false_eq_true, or_true, true_or, or_false, false_or, and_true, true_and, and_false, false_and, or_self, and_self, eq_self] <;> rfl) rfl dX5_of_33
set_option maxRecDepth 100000 in
theorem y_change {Γ : aG} {l : Launch} {M : Nat → aC} {r : rT} {kr ar : Nat → Int32} {rk : rT} {ik : Int32} {fi b : Nat → Int32} {ln : Int32} {S : sT} {it mv : Nat → Int32} {Q : yQ} {g a v : Int32} (w : wf r)  : Ev Γ l mX5_change [.ref 42, .int g, .int a, .int v] 54 (yM M r kr ar ik fi b ln S it mv Q) (some (.int (sp_change (r, rk, ik, S, b, ln, fi) g a v).1)) 54 (yF M kr ar it mv Q (sp_change (r, rk, ik, S, b, ln, fi) g a v).2) := by
  refine Ev.of [(0, .ref 42), (1, .int g), (2, .int a), (3, .int v)] (by decide) (Nat.le_of_ble_eq_true rfl) rfl ?_
  refine fr_aload_n (pc := 0) rfl dX5_change_0 ?_
  refine fr_iload_n (pc := 1) rfl dX5_change_1 ?_
  refine fr_callV0 (pc := 2) (ci := 4) (T := TX5) (N := 20) [.int g] [] (c_X5_isGuest ) gc_X5_131 rfl rfl ⟨rfl, rfl, by decide, by decide⟩ (Nat.le_of_ble_eq_true rfl) rfl (by decide) y_42 ⟨by decide, by decide⟩ dX5_change_2 ?_
  refine fr_if_eq (pc := 5) 29 (by decide) dX5_change_5 (fun h5 => ?_) (fun h5 => ?_)
  · have g5 := bI_0.mp h5
    refine fr_aload_n (pc := 29) rfl dX5_change_29 ?_
    refine fr_ldc (pc := 30) kc_X5_60 dX5_change_30 ?_
    refine fr_callV0 (pc := 32) (ci := 4) (T := TX5) (N := 20) [.int (-1000001)] [] (c_fnd0) gc_X5_66 rfl rfl ⟨rfl, rfl, by decide, by decide⟩ (Nat.le_of_ble_eq_true rfl) rfl (by decide) y_42 ⟨by decide, by decide⟩ dX5_change_32 ?_
    exact fr_ireturn (pc := 35) rfl (by simp only [sp_change, fb, sr, sG, sS4, yF, g5, if_true, if_false, not_true_eq_false, not_false_eq_true, or_true, true_or, or_false, false_or, and_true, true_and, and_false, false_and, or_self, and_self, eq_self] <;> rfl) (by simp only [sp_change, fb, sr, sG, sS4, yF, g5, if_true, if_false, not_true_eq_false, not_false_eq_true, or_true, true_or, or_false, false_or, and_true, true_and, and_false, false_and, or_self, and_self, eq_self] <;> rfl) rfl dX5_change_35
  · have g5 := bI_n0 h5
    refine fr_iload_n (pc := 8) rfl dX5_change_8 ?_
    refine fr_iload_n (pc := 9) rfl dX5_change_9 ?_
    refine fr_callS0 (pc := 10) [.int a, .int v] [] (c_X5_isField) gc_X5_137 rfl rfl ⟨rfl, rfl, by decide, by decide⟩ (Nat.le_of_ble_eq_true rfl) ⟨by decide, by decide⟩ dX5_change_10 ?_
    refine fr_if_eq (pc := 13) 29 (by decide) dX5_change_13 (fun h13 => ?_) (fun h13 => ?_)
    · have g13 := bI_0.mp h13
      refine fr_aload_n (pc := 29) rfl dX5_change_29 ?_
      refine fr_ldc (pc := 30) kc_X5_60 dX5_change_30 ?_
      refine fr_callV0 (pc := 32) (ci := 4) (T := TX5) (N := 20) [.int (-1000001)] [] (c_fnd0) gc_X5_66 rfl rfl ⟨rfl, rfl, by decide, by decide⟩ (Nat.le_of_ble_eq_true rfl) rfl (by decide) y_42 ⟨by decide, by decide⟩ dX5_change_32 ?_
      exact fr_ireturn (pc := 35) rfl (by simp only [sp_change, fb, sr, sG, sS4, yF, g5, g13, if_true, if_false, not_true_eq_false, not_false_eq_true, or_true, true_or, or_false, false_or, and_true, true_and, and_false, false_and, or_self, and_self, eq_self] <;> rfl) (by simp only [sp_change, fb, sr, sG, sS4, yF, g5, g13, if_true, if_false, not_true_eq_false, not_false_eq_true, or_true, true_or, or_false, false_or, and_true, true_and, and_false, false_and, or_self, and_self, eq_self] <;> rfl) rfl dX5_change_35
    · have g13 := bI_n0 h13
      have g131 := g13.1
      have g132 := g13.2
      obtain ⟨i1, hi1, rfl⟩ := sG_nI w g5
      have ei1 : (nI i1).toNatClampNeg = i1 := nI_clamp (by have := w.ctl; omega)
      have li1 : i1 < 8 := by have := w.ctl; omega
      obtain ⟨i2, hi2, rfl⟩ := wi_nI (N := 5) g131 rfl
      have ei2 : (nI i2).toNatClampNeg = i2 := nI_clamp (by omega)
      refine fr_aload_n (pc := 16) rfl dX5_change_16 ?_
      refine fr_iload_n (pc := 17) rfl dX5_change_17 ?_
      refine fr_iload_n (pc := 18) rfl dX5_change_18 ?_
      refine fr_callS0 (pc := 19) [.int (nI i1), .int (nI i2)] [.ref 42] (c_X5_guestAt (g := i1) (k := i2)) gc_X5_106 rfl rfl ⟨rfl, rfl, by decide, by decide⟩ (Nat.le_of_ble_eq_true rfl) ⟨by decide, by decide⟩ dX5_change_19 ?_
      refine fr_iload_n (pc := 22) rfl dX5_change_22 ?_
      refine fr_callV0 (pc := 23) (ci := 4) (T := TX5) (N := 20) [.int (nI (38 + 6 * i1 + i2)), .int v] [] (c_X5_become (p := (38 + 6 * i1 + i2)) (by omega) (ph_g (k := i2) (by first | decide | assumption | omega))) gc_X5_78 rfl rfl ⟨rfl, rfl, by decide, by decide⟩ (Nat.le_of_ble_eq_true rfl) rfl (by decide) y_42 ⟨by decide, by decide⟩ dX5_change_23 ?_
      refine fr_goto (pc := 26) 35 (by decide) dX5_change_26 ?_
      exact fr_ireturn (pc := 35) rfl (by simp only [sp_change, fb, sr, sG, sS4, yF, g5, g13, ei1, ei2, g131, g132, if_true, if_false, not_true_eq_false, not_false_eq_true, or_true, true_or, or_false, false_or, and_true, true_and, and_false, false_and, or_self, and_self, eq_self] <;> rfl) (by simp only [sp_change, fb, sr, sG, sS4, yF, g5, g13, ei1, ei2, g131, g132, if_true, if_false, not_true_eq_false, not_false_eq_true, or_true, true_or, or_false, false_or, and_true, true_and, and_false, false_and, or_self, and_self, eq_self] <;> rfl) rfl dX5_change_35
set_option maxRecDepth 100000 in
theorem y_reach {Γ : aG} {l : Launch} {M : Nat → aC} {r : rT} {kr ar : Nat → Int32} {rk : rT} {ik : Int32} {fi b : Nat → Int32} {ln : Int32} {S : sT} {it mv : Nat → Int32} {Q : yQ} {g m : Int32} (w : wf r)  : Ev Γ l mX5_reach [.ref 42, .int g, .int m] 54 (yM M r kr ar ik fi b ln S it mv Q) (some (.int (sp_reach (r, rk, ik, S, b, ln, fi) g m).1)) 54 (yF M kr ar it mv Q (sp_reach (r, rk, ik, S, b, ln, fi) g m).2) := by
  refine Ev.of [(0, .ref 42), (1, .int g), (2, .int m)] (by decide) (Nat.le_of_ble_eq_true rfl) rfl ?_
  refine fr_aload_n (pc := 0) rfl dX5_reach_0 ?_
  refine fr_iload_n (pc := 1) rfl dX5_reach_1 ?_
  refine fr_callV0 (pc := 2) (ci := 4) (T := TX5) (N := 20) [.int g] [] (c_X5_isGuest ) gc_X5_131 rfl rfl ⟨rfl, rfl, by decide, by decide⟩ (Nat.le_of_ble_eq_true rfl) rfl (by decide) y_42 ⟨by decide, by decide⟩ dX5_reach_2 ?_
  refine fr_if_eq (pc := 5) 24 (by decide) dX5_reach_5 (fun h5 => ?_) (fun h5 => ?_)
  · have g5 := bI_0.mp h5
    refine fr_aload_n (pc := 24) rfl dX5_reach_24 ?_
    refine fr_ldc (pc := 25) kc_X5_60 dX5_reach_25 ?_
    refine fr_callV0 (pc := 27) (ci := 4) (T := TX5) (N := 20) [.int (-1000001)] [] (c_fnd0) gc_X5_66 rfl rfl ⟨rfl, rfl, by decide, by decide⟩ (Nat.le_of_ble_eq_true rfl) rfl (by decide) y_42 ⟨by decide, by decide⟩ dX5_reach_27 ?_
    exact fr_ireturn (pc := 30) rfl (by simp only [sp_reach, fb, sr, sG, sS4, yF, g5, if_true, if_false, not_true_eq_false, not_false_eq_true, or_true, true_or, or_false, false_or, and_true, true_and, and_false, false_and, or_self, and_self, eq_self] <;> rfl) (by simp only [sp_reach, fb, sr, sG, sS4, yF, g5, if_true, if_false, not_true_eq_false, not_false_eq_true, or_true, true_or, or_false, false_or, and_true, true_and, and_false, false_and, or_self, and_self, eq_self] <;> rfl) rfl dX5_reach_30
  · have g5 := bI_n0 h5
    refine fr_iload_n (pc := 8) rfl dX5_reach_8 ?_
    refine fr_callS0 (pc := 9) [.int m] [] (c_X5_isMeasure) gc_X5_91 rfl rfl ⟨rfl, rfl, by decide, by decide⟩ (Nat.le_of_ble_eq_true rfl) ⟨by decide, by decide⟩ dX5_reach_9 ?_
    refine fr_if_eq (pc := 12) 24 (by decide) dX5_reach_12 (fun h12 => ?_) (fun h12 => ?_)
    · have g12 := bI_0.mp h12
      refine fr_aload_n (pc := 24) rfl dX5_reach_24 ?_
      refine fr_ldc (pc := 25) kc_X5_60 dX5_reach_25 ?_
      refine fr_callV0 (pc := 27) (ci := 4) (T := TX5) (N := 20) [.int (-1000001)] [] (c_fnd0) gc_X5_66 rfl rfl ⟨rfl, rfl, by decide, by decide⟩ (Nat.le_of_ble_eq_true rfl) rfl (by decide) y_42 ⟨by decide, by decide⟩ dX5_reach_27 ?_
      exact fr_ireturn (pc := 30) rfl (by simp only [sp_reach, fb, sr, sG, sS4, yF, g5, g12, if_true, if_false, not_true_eq_false, not_false_eq_true, or_true, true_or, or_false, false_or, and_true, true_and, and_false, false_and, or_self, and_self, eq_self] <;> rfl) (by simp only [sp_reach, fb, sr, sG, sS4, yF, g5, g12, if_true, if_false, not_true_eq_false, not_false_eq_true, or_true, true_or, or_false, false_or, and_true, true_and, and_false, false_and, or_self, and_self, eq_self] <;> rfl) rfl dX5_reach_30
    · have g12 := bI_n0 h12
      obtain ⟨i1, hi1, rfl⟩ := sG_nI w g5
      have ei1 : (nI i1).toNatClampNeg = i1 := nI_clamp (by have := w.ctl; omega)
      have li1 : i1 < 8 := by have := w.ctl; omega
      refine fr_aload_n (pc := 15) rfl dX5_reach_15 ?_
      refine fr_iload_n (pc := 16) rfl dX5_reach_16 ?_
      refine fr_iload_n (pc := 17) rfl dX5_reach_17 ?_
      refine fr_callV0 (pc := 18) (ci := 4) (T := TX5) (N := 20) [.int (nI i1), .int m] [] (c_X5_reachOf (by first | assumption | omega) (by assumption)) gc_X5_141 rfl rfl ⟨rfl, rfl, by decide, by decide⟩ (Nat.le_of_ble_eq_true rfl) rfl (by decide) y_42 ⟨by decide, by decide⟩ dX5_reach_18 ?_
      refine fr_goto (pc := 21) 30 (by decide) dX5_reach_21 ?_
      exact fr_ireturn (pc := 30) rfl (by simp only [sp_reach, fb, sr, sG, sS4, yF, g5, g12, ei1, if_true, if_false, not_true_eq_false, not_false_eq_true, or_true, true_or, or_false, false_or, and_true, true_and, and_false, false_and, or_self, and_self, eq_self] <;> rfl) (by simp only [sp_reach, fb, sr, sG, sS4, yF, g5, g12, ei1, if_true, if_false, not_true_eq_false, not_false_eq_true, or_true, true_or, or_false, false_or, and_true, true_and, and_false, false_and, or_self, and_self, eq_self] <;> rfl) rfl dX5_reach_30
set_option maxRecDepth 100000 in
theorem y_go {Γ : aG} {l : Launch} {M : Nat → aC} {r : rT} {kr ar : Nat → Int32} {rk : rT} {ik : Int32} {fi b : Nat → Int32} {ln : Int32} {S : sT} {it mv : Nat → Int32} {Q : yQ} {n : Int32} (w : wf r)  : Ev Γ l mX5_go [.ref 42, .int n] 54 (yM M r kr ar ik fi b ln S it mv Q) (some (.int (sp_go (r, rk, ik, S, b, ln, fi) n).1)) 54 (yF M kr ar it mv Q (sp_go (r, rk, ik, S, b, ln, fi) n).2) := by
  refine Ev.of [(0, .ref 42), (1, .int n)] (by decide) (Nat.le_of_ble_eq_true rfl) rfl ?_
  refine fr_iload_n (pc := 0) rfl dX5_go_0 ?_
  refine fr_iconst (pc := 1) (v := 1) rfl dX5_go_1 ?_
  refine fr_bipush (pc := 2) (v := 60) rfl dX5_go_2 ?_
  refine fr_callS0 (pc := 4) [.int n, .int 1, .int 60] [] (c_X5_within) gc_X5_70 rfl rfl ⟨rfl, rfl, by decide, by decide⟩ (Nat.le_of_ble_eq_true rfl) ⟨by decide, by decide⟩ dX5_go_4 ?_
  refine fr_if_ne (pc := 7) 17 (by decide) dX5_go_7 (fun h7 => ?_) (fun h7 => ?_)
  · have g7 := bI_n0 h7
    obtain ⟨i1, hi1, rfl⟩ := wi_1 (N := 60) g7 rfl
    have ei1 : (nI i1).toNatClampNeg = i1 := nI_clamp (by omega)
    refine fr_aload_n (pc := 17) rfl dX5_go_17 ?_
    refine fr_get (pc := 18) (ci := 4) (T := TX5) (k0 := 0) rfl hin_X5 (by decide) fl_X5_9 (by decide) y_42 rfl dX5_go_18 ?_
    refine fr_iconst (pc := 21) (v := 0) rfl dX5_go_21 ?_
    refine fr_iald (pc := 22) 0 rfl (by decide) y_43 (by decide) (by decide) dX5_go_22 ?_
    refine fr_eq (z := r 9 0) (row_at (ph_l (by decide))) ?_
    refine fr_iload_n (pc := 23) rfl dX5_go_23 ?_
    refine fr_iadd (pc := 24) dX5_go_24 ?_
    refine fr_ldc (pc := 25) kc_X5_161 dX5_go_25 ?_
    refine fr_icmp_le (pc := 27) 37 (by decide) dX5_go_27 (fun h27 => ?_) (fun h27 => ?_)
    · have q27 : ¬ 99999 < r 9 0 + nI i1 := Int32.not_lt.mpr h27
      refine fr_aload_n (pc := 37) rfl dX5_go_37 ?_
      refine fr_iload_n (pc := 38) rfl dX5_go_38 ?_
      refine fr_callV0 (pc := 39) (ci := 4) (T := TX5) (N := 20) [.int (nI i1)] [] (c_X5_hoursGo (by assumption) (by omega)) gc_X5_166 rfl rfl ⟨rfl, rfl, by decide, by decide⟩ (Nat.le_of_ble_eq_true rfl) rfl (by decide) y_42 ⟨by decide, by decide⟩ dX5_go_39 ?_
      refine fr_aload_n (pc := 42) rfl dX5_go_42 ?_
      refine fr_get (pc := 43) (ci := 4) (T := TX5) (k0 := 0) rfl hin_X5 (by decide) fl_X5_9 (by decide) y_42 rfl dX5_go_43 ?_
      refine fr_iconst (pc := 46) (v := 4) rfl dX5_go_46 ?_
      refine fr_iald (pc := 47) 4 rfl (by decide) y_43 (by decide) (by decide) dX5_go_47 ?_
      refine fr_eq (z := (s_hours i1 r) 9 4) (row_at (ph_l (by decide))) ?_
      exact fr_ireturn (pc := 48) rfl (by simp only [sp_go, fb, sr, sG, sS4, yF, g7, ei1, q27, if_true, if_false, not_true_eq_false, not_false_eq_true, or_true, true_or, or_false, false_or, and_true, true_and, and_false, false_and, or_self, and_self, eq_self] <;> rfl) (by simp only [sp_go, fb, sr, sG, sS4, yF, g7, ei1, q27, if_true, if_false, not_true_eq_false, not_false_eq_true, or_true, true_or, or_false, false_or, and_true, true_and, and_false, false_and, or_self, and_self, eq_self] <;> rfl) rfl dX5_go_48
    · have q27 : 99999 < r 9 0 + nI i1 := Int32.not_le.mp h27
      refine fr_aload_n (pc := 30) rfl dX5_go_30 ?_
      refine fr_ldc (pc := 31) kc_X5_165 dX5_go_31 ?_
      refine fr_callV0 (pc := 33) (ci := 4) (T := TX5) (N := 20) [.int (-1000005)] [] (c_fnd4) gc_X5_66 rfl rfl ⟨rfl, rfl, by decide, by decide⟩ (Nat.le_of_ble_eq_true rfl) rfl (by decide) y_42 ⟨by decide, by decide⟩ dX5_go_33 ?_
      exact fr_ireturn (pc := 36) rfl (by simp only [sp_go, fb, sr, sG, sS4, yF, g7, ei1, eq_true q27, if_true, if_false, not_true_eq_false, not_false_eq_true, or_true, true_or, or_false, false_or, and_true, true_and, and_false, false_and, or_self, and_self, eq_self] <;> rfl) (by simp only [sp_go, fb, sr, sG, sS4, yF, g7, ei1, eq_true q27, if_true, if_false, not_true_eq_false, not_false_eq_true, or_true, true_or, or_false, false_or, and_true, true_and, and_false, false_and, or_self, and_self, eq_self] <;> rfl) rfl dX5_go_36
  · have g7 := bI_0.mp h7
    refine fr_aload_n (pc := 10) rfl dX5_go_10 ?_
    refine fr_ldc (pc := 11) kc_X5_60 dX5_go_11 ?_
    refine fr_callV0 (pc := 13) (ci := 4) (T := TX5) (N := 20) [.int (-1000001)] [] (c_fnd0) gc_X5_66 rfl rfl ⟨rfl, rfl, by decide, by decide⟩ (Nat.le_of_ble_eq_true rfl) rfl (by decide) y_42 ⟨by decide, by decide⟩ dX5_go_13 ?_
    exact fr_ireturn (pc := 16) rfl (by simp only [sp_go, fb, sr, sG, sS4, yF, g7, if_true, if_false, not_true_eq_false, not_false_eq_true, or_true, true_or, or_false, false_or, and_true, true_and, and_false, false_and, or_self, and_self, eq_self] <;> rfl) (by simp only [sp_go, fb, sr, sG, sS4, yF, g7, if_true, if_false, not_true_eq_false, not_false_eq_true, or_true, true_or, or_false, false_or, and_true, true_and, and_false, false_and, or_self, and_self, eq_self] <;> rfl) rfl dX5_go_16
set_option maxRecDepth 100000 in
theorem y_now {Γ : aG} {l : Launch} {M : Nat → aC} {r : rT} {kr ar : Nat → Int32} {rk : rT} {ik : Int32} {fi b : Nat → Int32} {ln : Int32} {S : sT} {it mv : Nat → Int32} {Q : yQ} {a : Int32} (w : wf r)  : Ev Γ l mX5_now [.ref 42, .int a] 54 (yM M r kr ar ik fi b ln S it mv Q) (some (.int (sp_now (r, rk, ik, S, b, ln, fi) a).1)) 54 (yF M kr ar it mv Q (sp_now (r, rk, ik, S, b, ln, fi) a).2) := by
  refine Ev.of [(0, .ref 42), (1, .int a)] (by decide) (Nat.le_of_ble_eq_true rfl) rfl ?_
  refine fr_iload_n (pc := 0) rfl dX5_now_0 ?_
  by_cases hk1_0 : a = 0
  · refine fr_tIn (pc := 1) 48 (by rw [hk1_0]; decide) (by rw [hk1_0]; decide) (by rw [hk1_0]; rfl) (by decide) dX5_now_1 ?_
    refine fr_aload_n (pc := 48) rfl dX5_now_48 ?_
    refine fr_get (pc := 49) (ci := 4) (T := TX5) (k0 := 0) rfl hin_X5 (by decide) fl_X5_9 (by decide) y_42 rfl dX5_now_49 ?_
    refine fr_iconst (pc := 52) (v := 0) rfl dX5_now_52 ?_
    refine fr_iald (pc := 53) 0 rfl (by decide) y_43 (by decide) (by decide) dX5_now_53 ?_
    refine fr_eq (z := r 9 0) (row_at (ph_l (by decide))) ?_
    exact fr_ireturn (pc := 54) rfl (by simp only [sp_now, fb, sr, sG, sS4, yF, eq_true hk1_0, if_true, if_false, not_true_eq_false, not_false_eq_true, or_true, true_or, or_false, false_or, and_true, true_and, and_false, false_and, or_self, and_self, eq_self] <;> rfl) (by simp only [sp_now, fb, sr, sG, sS4, yF, eq_true hk1_0, if_true, if_false, not_true_eq_false, not_false_eq_true, or_true, true_or, or_false, false_or, and_true, true_and, and_false, false_and, or_self, and_self, eq_self] <;> rfl) rfl dX5_now_54
  by_cases hk1_1 : a = 1
  · refine fr_tIn (pc := 1) 55 (by rw [hk1_1]; decide) (by rw [hk1_1]; decide) (by rw [hk1_1]; rfl) (by decide) dX5_now_1 ?_
    refine fr_aload_n (pc := 55) rfl dX5_now_55 ?_
    refine fr_callV0 (pc := 56) (ci := 4) (T := TX5) (N := 20) [] [] (c_X5_measureNow (by assumption)) gc_X5_150 rfl rfl ⟨rfl, rfl, by decide, by decide⟩ (Nat.le_of_ble_eq_true rfl) rfl (by decide) y_42 ⟨by decide, by decide⟩ dX5_now_56 ?_
    exact fr_ireturn (pc := 59) rfl (by simp only [sp_now, fb, sr, sG, sS4, yF, hk1_0, eq_true hk1_1, if_true, if_false, not_true_eq_false, not_false_eq_true, or_true, true_or, or_false, false_or, and_true, true_and, and_false, false_and, or_self, and_self, eq_self] <;> rfl) (by simp only [sp_now, fb, sr, sG, sS4, yF, hk1_0, eq_true hk1_1, if_true, if_false, not_true_eq_false, not_false_eq_true, or_true, true_or, or_false, false_or, and_true, true_and, and_false, false_and, or_self, and_self, eq_self] <;> rfl) rfl dX5_now_59
  by_cases hk1_2 : a = 2
  · refine fr_tIn (pc := 1) 60 (by rw [hk1_2]; decide) (by rw [hk1_2]; decide) (by rw [hk1_2]; rfl) (by decide) dX5_now_1 ?_
    refine fr_aload_n (pc := 60) rfl dX5_now_60 ?_
    refine fr_get (pc := 61) (ci := 4) (T := TX5) (k0 := 0) rfl hin_X5 (by decide) fl_X5_9 (by decide) y_42 rfl dX5_now_61 ?_
    refine fr_iconst (pc := 64) (v := 4) rfl dX5_now_64 ?_
    refine fr_iald (pc := 65) 4 rfl (by decide) y_43 (by decide) (by decide) dX5_now_65 ?_
    refine fr_eq (z := r 9 4) (row_at (ph_l (by decide))) ?_
    exact fr_ireturn (pc := 66) rfl (by simp only [sp_now, fb, sr, sG, sS4, yF, hk1_0, hk1_1, eq_true hk1_2, if_true, if_false, not_true_eq_false, not_false_eq_true, or_true, true_or, or_false, false_or, and_true, true_and, and_false, false_and, or_self, and_self, eq_self] <;> rfl) (by simp only [sp_now, fb, sr, sG, sS4, yF, hk1_0, hk1_1, eq_true hk1_2, if_true, if_false, not_true_eq_false, not_false_eq_true, or_true, true_or, or_false, false_or, and_true, true_and, and_false, false_and, or_self, and_self, eq_self] <;> rfl) rfl dX5_now_66
  by_cases hk1_3 : a = 3
  · refine fr_tIn (pc := 1) 67 (by rw [hk1_3]; decide) (by rw [hk1_3]; decide) (by rw [hk1_3]; rfl) (by decide) dX5_now_1 ?_
    refine fr_aload_n (pc := 67) rfl dX5_now_67 ?_
    refine fr_get (pc := 68) (ci := 4) (T := TX5) (k0 := 0) rfl hin_X5 (by decide) fl_X5_9 (by decide) y_42 rfl dX5_now_68 ?_
    refine fr_iconst (pc := 71) (v := 5) rfl dX5_now_71 ?_
    refine fr_iald (pc := 72) 5 rfl (by decide) y_43 (by decide) (by decide) dX5_now_72 ?_
    refine fr_eq (z := r 9 5) (row_at (ph_l (by decide))) ?_
    exact fr_ireturn (pc := 73) rfl (by simp only [sp_now, fb, sr, sG, sS4, yF, hk1_0, hk1_1, hk1_2, eq_true hk1_3, if_true, if_false, not_true_eq_false, not_false_eq_true, or_true, true_or, or_false, false_or, and_true, true_and, and_false, false_and, or_self, and_self, eq_self] <;> rfl) (by simp only [sp_now, fb, sr, sG, sS4, yF, hk1_0, hk1_1, hk1_2, eq_true hk1_3, if_true, if_false, not_true_eq_false, not_false_eq_true, or_true, true_or, or_false, false_or, and_true, true_and, and_false, false_and, or_self, and_self, eq_self] <;> rfl) rfl dX5_now_73
  by_cases hk1_4 : a = 4
  · refine fr_tIn (pc := 1) 74 (by rw [hk1_4]; decide) (by rw [hk1_4]; decide) (by rw [hk1_4]; rfl) (by decide) dX5_now_1 ?_
    refine fr_aload_n (pc := 74) rfl dX5_now_74 ?_
    refine fr_callV0 (pc := 75) (ci := 4) (T := TX5) (N := 20) [] [] (c_X5_stuckOnes (by assumption)) gc_X5_169 rfl rfl ⟨rfl, rfl, by decide, by decide⟩ (Nat.le_of_ble_eq_true rfl) rfl (by decide) y_42 ⟨by decide, by decide⟩ dX5_now_75 ?_
    exact fr_ireturn (pc := 78) rfl (by simp only [sp_now, fb, sr, sG, sS4, yF, hk1_0, hk1_1, hk1_2, hk1_3, eq_true hk1_4, if_true, if_false, not_true_eq_false, not_false_eq_true, or_true, true_or, or_false, false_or, and_true, true_and, and_false, false_and, or_self, and_self, eq_self] <;> rfl) (by simp only [sp_now, fb, sr, sG, sS4, yF, hk1_0, hk1_1, hk1_2, hk1_3, eq_true hk1_4, if_true, if_false, not_true_eq_false, not_false_eq_true, or_true, true_or, or_false, false_or, and_true, true_and, and_false, false_and, or_self, and_self, eq_self] <;> rfl) rfl dX5_now_78
  by_cases hk1_5 : a = 5
  · refine fr_tIn (pc := 1) 79 (by rw [hk1_5]; decide) (by rw [hk1_5]; decide) (by rw [hk1_5]; rfl) (by decide) dX5_now_1 ?_
    refine fr_aload_n (pc := 79) rfl dX5_now_79 ?_
    refine fr_callV0 (pc := 80) (ci := 4) (T := TX5) (N := 20) [] [] (c_X5_arrived (by assumption)) gc_X5_172 rfl rfl ⟨rfl, rfl, by decide, by decide⟩ (Nat.le_of_ble_eq_true rfl) rfl (by decide) y_42 ⟨by decide, by decide⟩ dX5_now_80 ?_
    exact fr_ireturn (pc := 83) rfl (by simp only [sp_now, fb, sr, sG, sS4, yF, hk1_0, hk1_1, hk1_2, hk1_3, hk1_4, eq_true hk1_5, if_true, if_false, not_true_eq_false, not_false_eq_true, or_true, true_or, or_false, false_or, and_true, true_and, and_false, false_and, or_self, and_self, eq_self] <;> rfl) (by simp only [sp_now, fb, sr, sG, sS4, yF, hk1_0, hk1_1, hk1_2, hk1_3, hk1_4, eq_true hk1_5, if_true, if_false, not_true_eq_false, not_false_eq_true, or_true, true_or, or_false, false_or, and_true, true_and, and_false, false_and, or_self, and_self, eq_self] <;> rfl) rfl dX5_now_83
  by_cases hk1_6 : a = 6
  · refine fr_tIn (pc := 1) 84 (by rw [hk1_6]; decide) (by rw [hk1_6]; decide) (by rw [hk1_6]; rfl) (by decide) dX5_now_1 ?_
    refine fr_aload_n (pc := 84) rfl dX5_now_84 ?_
    refine fr_callV0 (pc := 85) (ci := 4) (T := TX5) (N := 20) [] [] (c_X5_inTheHall (by assumption)) gc_X5_175 rfl rfl ⟨rfl, rfl, by decide, by decide⟩ (Nat.le_of_ble_eq_true rfl) rfl (by decide) y_42 ⟨by decide, by decide⟩ dX5_now_85 ?_
    exact fr_ireturn (pc := 88) rfl (by simp only [sp_now, fb, sr, sG, sS4, yF, hk1_0, hk1_1, hk1_2, hk1_3, hk1_4, hk1_5, eq_true hk1_6, if_true, if_false, not_true_eq_false, not_false_eq_true, or_true, true_or, or_false, false_or, and_true, true_and, and_false, false_and, or_self, and_self, eq_self] <;> rfl) (by simp only [sp_now, fb, sr, sG, sS4, yF, hk1_0, hk1_1, hk1_2, hk1_3, hk1_4, hk1_5, eq_true hk1_6, if_true, if_false, not_true_eq_false, not_false_eq_true, or_true, true_or, or_false, false_or, and_true, true_and, and_false, false_and, or_self, and_self, eq_self] <;> rfl) rfl dX5_now_88
  by_cases hk1_7 : a = 7
  · refine fr_tIn (pc := 1) 89 (by rw [hk1_7]; decide) (by rw [hk1_7]; decide) (by rw [hk1_7]; rfl) (by decide) dX5_now_1 ?_
    refine fr_aload_n (pc := 89) rfl dX5_now_89 ?_
    refine fr_callV0 (pc := 90) (ci := 4) (T := TX5) (N := 20) [] [] (c_X5_shutCells (by assumption)) gc_X5_178 rfl rfl ⟨rfl, rfl, by decide, by decide⟩ (Nat.le_of_ble_eq_true rfl) rfl (by decide) y_42 ⟨by decide, by decide⟩ dX5_now_90 ?_
    exact fr_ireturn (pc := 93) rfl (by simp only [sp_now, fb, sr, sG, sS4, yF, hk1_0, hk1_1, hk1_2, hk1_3, hk1_4, hk1_5, hk1_6, eq_true hk1_7, if_true, if_false, not_true_eq_false, not_false_eq_true, or_true, true_or, or_false, false_or, and_true, true_and, and_false, false_and, or_self, and_self, eq_self] <;> rfl) (by simp only [sp_now, fb, sr, sG, sS4, yF, hk1_0, hk1_1, hk1_2, hk1_3, hk1_4, hk1_5, hk1_6, eq_true hk1_7, if_true, if_false, not_true_eq_false, not_false_eq_true, or_true, true_or, or_false, false_or, and_true, true_and, and_false, false_and, or_self, and_self, eq_self] <;> rfl) rfl dX5_now_93
  refine fr_tOut (pc := 1) 94 (sw_0_7 hk1_0 hk1_1 hk1_2 hk1_3 hk1_4 hk1_5 hk1_6 hk1_7) (by decide) dX5_now_1 ?_
  refine fr_aload_n (pc := 94) rfl dX5_now_94 ?_
  refine fr_ldc (pc := 95) kc_X5_60 dX5_now_95 ?_
  refine fr_callV0 (pc := 97) (ci := 4) (T := TX5) (N := 20) [.int (-1000001)] [] (c_fnd0) gc_X5_66 rfl rfl ⟨rfl, rfl, by decide, by decide⟩ (Nat.le_of_ble_eq_true rfl) rfl (by decide) y_42 ⟨by decide, by decide⟩ dX5_now_97 ?_
  exact fr_ireturn (pc := 100) rfl (by simp only [sp_now, fb, sr, sG, sS4, yF, hk1_0, hk1_1, hk1_2, hk1_3, hk1_4, hk1_5, hk1_6, hk1_7, if_true, if_false, not_true_eq_false, not_false_eq_true, or_true, true_or, or_false, false_or, and_true, true_and, and_false, false_and, or_self, and_self, eq_self] <;> rfl) (by simp only [sp_now, fb, sr, sG, sS4, yF, hk1_0, hk1_1, hk1_2, hk1_3, hk1_4, hk1_5, hk1_6, hk1_7, if_true, if_false, not_true_eq_false, not_false_eq_true, or_true, true_or, or_false, false_or, and_true, true_and, and_false, false_and, or_self, and_self, eq_self] <;> rfl) rfl dX5_now_100
set_option maxRecDepth 100000 in
theorem y_seed {Γ : aG} {l : Launch} {M : Nat → aC} {r : rT} {kr ar : Nat → Int32} {rk : rT} {ik : Int32} {fi b : Nat → Int32} {ln : Int32} {S : sT} {it mv : Nat → Int32} {Q : yQ} {v : Int32}  : Ev Γ l mX5_seed [.ref 42, .int v] 54 (yM M r kr ar ik fi b ln S it mv Q) (some (.int (sp_seed (r, rk, ik, S, b, ln, fi) v).1)) 54 (yF M kr ar it mv Q (sp_seed (r, rk, ik, S, b, ln, fi) v).2) := by
  refine Ev.of [(0, .ref 42), (1, .int v)] (by decide) (Nat.le_of_ble_eq_true rfl) rfl ?_
  refine fr_aload_n (pc := 0) rfl dX5_seed_0 ?_
  refine fr_iconst (pc := 1) (v := 2) rfl dX5_seed_1 ?_
  refine fr_iload_n (pc := 2) rfl dX5_seed_2 ?_
  refine fr_callV0 (pc := 3) (ci := 4) (T := TX5) (N := 20) [.int 2, .int v] [] (c_X5_become (p := 2) (by omega) (ph_l (by decide))) gc_X5_78 rfl rfl ⟨rfl, rfl, by decide, by decide⟩ (Nat.le_of_ble_eq_true rfl) rfl (by decide) y_42 ⟨by decide, by decide⟩ dX5_seed_3 ?_
  exact fr_ireturn (pc := 6) rfl (by simp only [sp_seed, fb, sr, sG, sS4, yF, if_true, if_false, not_true_eq_false, not_false_eq_true, or_true, true_or, or_false, false_or, and_true, true_and, and_false, false_and, or_self, and_self, eq_self] <;> rfl) (by simp only [sp_seed, fb, sr, sG, sS4, yF, if_true, if_false, not_true_eq_false, not_false_eq_true, or_true, true_or, or_false, false_or, and_true, true_and, and_false, false_and, or_self, and_self, eq_self] <;> rfl) rfl dX5_seed_6
set_option maxRecDepth 100000 in
theorem y_wipe {Γ : aG} {l : Launch} {M : Nat → aC} {r : rT} {kr ar : Nat → Int32} {rk : rT} {ik : Int32} {fi b : Nat → Int32} {ln : Int32} {S : sT} {it mv : Nat → Int32} {Q : yQ}  : Ev Γ l mX5_wipe [.ref 42] 54 (yM M r kr ar ik fi b ln S it mv Q) (some (.int (sp_wipe (r, rk, ik, S, b, ln, fi)).1)) 54 (yF M kr ar it mv Q (sp_wipe (r, rk, ik, S, b, ln, fi)).2) := by
  refine Ev.of [(0, .ref 42)] (by decide) (Nat.le_of_ble_eq_true rfl) rfl ?_
  refine fr_aload_n (pc := 0) rfl dX5_wipe_0 ?_
  refine fr_get (pc := 1) (ci := 4) (T := TX5) (k0 := 6) rfl hin_X5 (by decide) fl_X5_218 (by decide) y_42 rfl dX5_wipe_1 ?_
  refine fr_istore_n (pc := 4) [(1, .int ln), (0, .ref 42)] (by decide) rfl dX5_wipe_4 ?_
  refine fr_aload_n (pc := 5) rfl dX5_wipe_5 ?_
  refine fr_iconst (pc := 6) (v := 0) rfl dX5_wipe_6 ?_
  refine fr_put (pc := 7) (ci := 4) (T := TX5) (k0 := 6) (ty := .int) tyX5 tyX5_ok nmX5 rfl hin_X5 (by decide) fl_X5_218 rfl (by decide +kernel) rfl rfl (Nat.le_of_ble_eq_true rfl) (by decide) y_42 dX5_wipe_7 ?_
  refine fr_mem y_u6 ?_
  refine fr_iload_n (pc := 10) rfl dX5_wipe_10 ?_
  exact fr_ireturn (pc := 11) rfl (by simp only [sp_wipe, fb, sr, sG, sS4, yF, if_true, if_false, not_true_eq_false, not_false_eq_true, or_true, true_or, or_false, false_or, and_true, true_and, and_false, false_and, or_self, and_self, eq_self] <;> rfl) (by simp only [sp_wipe, fb, sr, sG, sS4, yF, if_true, if_false, not_true_eq_false, not_false_eq_true, or_true, true_or, or_false, false_or, and_true, true_and, and_false, false_and, or_self, and_self, eq_self] <;> rfl) rfl dX5_wipe_11
set_option maxRecDepth 100000 in
theorem y_hold {Γ : aG} {l : Launch} {M : Nat → aC} {r : rT} {kr ar : Nat → Int32} {rk : rT} {ik : Int32} {fi b : Nat → Int32} {ln : Int32} {S : sT} {it mv : Nat → Int32} {Q : yQ} {s g : Int32}  : Ev Γ l mX5_hold [.ref 42, .int s, .int g] 54 (yM M r kr ar ik fi b ln S it mv Q) (some (.int (sp_hold (r, rk, ik, S, b, ln, fi) s g).1)) 54 (yF M kr ar it mv Q (sp_hold (r, rk, ik, S, b, ln, fi) s g).2) := by
  refine Ev.of [(0, .ref 42), (1, .int s), (2, .int g)] (by decide) (Nat.le_of_ble_eq_true rfl) rfl ?_
  refine fr_iload_n (pc := 0) rfl dX5_hold_0 ?_
  refine fr_callS0 (pc := 1) [.int s] [] (c_X5_isSpot) gc_X5_296 rfl rfl ⟨rfl, rfl, by decide, by decide⟩ (Nat.le_of_ble_eq_true rfl) ⟨by decide, by decide⟩ dX5_hold_1 ?_
  refine fr_if_eq (pc := 4) 20 (by decide) dX5_hold_4 (fun h4 => ?_) (fun h4 => ?_)
  · have g4 := bI_0.mp h4
    refine fr_aload_n (pc := 20) rfl dX5_hold_20 ?_
    refine fr_ldc (pc := 21) kc_X5_60 dX5_hold_21 ?_
    refine fr_callV0 (pc := 23) (ci := 4) (T := TX5) (N := 20) [.int (-1000001)] [] (c_fnd0) gc_X5_66 rfl rfl ⟨rfl, rfl, by decide, by decide⟩ (Nat.le_of_ble_eq_true rfl) rfl (by decide) y_42 ⟨by decide, by decide⟩ dX5_hold_23 ?_
    exact fr_ireturn (pc := 26) rfl (by simp only [sp_hold, fb, sr, sG, sS4, yF, g4, if_true, if_false, not_true_eq_false, not_false_eq_true, or_true, true_or, or_false, false_or, and_true, true_and, and_false, false_and, or_self, and_self, eq_self] <;> rfl) (by simp only [sp_hold, fb, sr, sG, sS4, yF, g4, if_true, if_false, not_true_eq_false, not_false_eq_true, or_true, true_or, or_false, false_or, and_true, true_and, and_false, false_and, or_self, and_self, eq_self] <;> rfl) rfl dX5_hold_26
  · have g4 := bI_n0 h4
    refine fr_iload_n (pc := 7) rfl dX5_hold_7 ?_
    refine fr_iconst (pc := 8) (v := (-1)) rfl dX5_hold_8 ?_
    refine fr_icmp_eq (pc := 9) 27 (by decide) dX5_hold_9 (fun h9 => ?_) (fun h9 => ?_)
    · obtain ⟨i1, hi1, rfl⟩ := wi_nI (N := 9) g4 rfl
      have ei1 : (nI i1).toNatClampNeg = i1 := nI_clamp (by omega)
      refine fr_aload_n (pc := 27) rfl dX5_hold_27 ?_
      refine fr_get (pc := 28) (ci := 4) (T := TX5) (k0 := 0) rfl hin_X5 (by decide) fl_X5_9 (by decide) y_42 rfl dX5_hold_28 ?_
      refine fr_bipush (pc := 31) (v := 28) rfl dX5_hold_31 ?_
      refine fr_iload_n (pc := 33) rfl dX5_hold_33 ?_
      refine fr_iadd (pc := 34) dX5_hold_34 ?_
      refine fr_eq (z := nI (28 + i1)) (nI_add 28 i1) ?_
      refine fr_iload_n (pc := 35) rfl dX5_hold_35 ?_
      refine fr_iast (pc := 36) (28 + i1) rfl (by decide) y_43 (by first | assumption | omega) (by decide) dX5_hold_36 ?_
      refine fr_mem (y_u43 (ph_s (by first | assumption | omega))) ?_
      refine fr_iconst (pc := 37) (v := 1) rfl dX5_hold_37 ?_
      exact fr_ireturn (pc := 38) rfl (by simp only [sp_hold, fb, sr, sG, sS4, yF, g4, eq_true h9, ei1, if_true, if_false, not_true_eq_false, not_false_eq_true, or_true, true_or, or_false, false_or, and_true, true_and, and_false, false_and, or_self, and_self, eq_self] <;> rfl) (by simp only [sp_hold, fb, sr, sG, sS4, yF, g4, eq_true h9, ei1, if_true, if_false, not_true_eq_false, not_false_eq_true, or_true, true_or, or_false, false_or, and_true, true_and, and_false, false_and, or_self, and_self, eq_self] <;> rfl) rfl dX5_hold_38
    · refine fr_aload_n (pc := 12) rfl dX5_hold_12 ?_
      refine fr_iload_n (pc := 13) rfl dX5_hold_13 ?_
      refine fr_callV0 (pc := 14) (ci := 4) (T := TX5) (N := 20) [.int g] [] (c_X5_isGuest ) gc_X5_131 rfl rfl ⟨rfl, rfl, by decide, by decide⟩ (Nat.le_of_ble_eq_true rfl) rfl (by decide) y_42 ⟨by decide, by decide⟩ dX5_hold_14 ?_
      refine fr_if_ne (pc := 17) 27 (by decide) dX5_hold_17 (fun h17 => ?_) (fun h17 => ?_)
      · have g17 := bI_n0 h17
        obtain ⟨i1, hi1, rfl⟩ := wi_nI (N := 9) g4 rfl
        have ei1 : (nI i1).toNatClampNeg = i1 := nI_clamp (by omega)
        refine fr_aload_n (pc := 27) rfl dX5_hold_27 ?_
        refine fr_get (pc := 28) (ci := 4) (T := TX5) (k0 := 0) rfl hin_X5 (by decide) fl_X5_9 (by decide) y_42 rfl dX5_hold_28 ?_
        refine fr_bipush (pc := 31) (v := 28) rfl dX5_hold_31 ?_
        refine fr_iload_n (pc := 33) rfl dX5_hold_33 ?_
        refine fr_iadd (pc := 34) dX5_hold_34 ?_
        refine fr_eq (z := nI (28 + i1)) (nI_add 28 i1) ?_
        refine fr_iload_n (pc := 35) rfl dX5_hold_35 ?_
        refine fr_iast (pc := 36) (28 + i1) rfl (by decide) y_43 (by first | assumption | omega) (by decide) dX5_hold_36 ?_
        refine fr_mem (y_u43 (ph_s (by first | assumption | omega))) ?_
        refine fr_iconst (pc := 37) (v := 1) rfl dX5_hold_37 ?_
        exact fr_ireturn (pc := 38) rfl (by simp only [sp_hold, fb, sr, sG, sS4, yF, g4, h9, g17, ei1, if_true, if_false, not_true_eq_false, not_false_eq_true, or_true, true_or, or_false, false_or, and_true, true_and, and_false, false_and, or_self, and_self, eq_self] <;> rfl) (by simp only [sp_hold, fb, sr, sG, sS4, yF, g4, h9, g17, ei1, if_true, if_false, not_true_eq_false, not_false_eq_true, or_true, true_or, or_false, false_or, and_true, true_and, and_false, false_and, or_self, and_self, eq_self] <;> rfl) rfl dX5_hold_38
      · have g17 := bI_0.mp h17
        refine fr_aload_n (pc := 20) rfl dX5_hold_20 ?_
        refine fr_ldc (pc := 21) kc_X5_60 dX5_hold_21 ?_
        refine fr_callV0 (pc := 23) (ci := 4) (T := TX5) (N := 20) [.int (-1000001)] [] (c_fnd0) gc_X5_66 rfl rfl ⟨rfl, rfl, by decide, by decide⟩ (Nat.le_of_ble_eq_true rfl) rfl (by decide) y_42 ⟨by decide, by decide⟩ dX5_hold_23 ?_
        exact fr_ireturn (pc := 26) rfl (by simp only [sp_hold, fb, sr, sG, sS4, yF, g4, h9, g17, if_true, if_false, not_true_eq_false, not_false_eq_true, or_true, true_or, or_false, false_or, and_true, true_and, and_false, false_and, or_self, and_self, eq_self] <;> rfl) (by simp only [sp_hold, fb, sr, sG, sS4, yF, g4, h9, g17, if_true, if_false, not_true_eq_false, not_false_eq_true, or_true, true_or, or_false, false_or, and_true, true_and, and_false, false_and, or_self, and_self, eq_self] <;> rfl) rfl dX5_hold_26
set_option maxRecDepth 100000 in
theorem y_image {Γ : aG} {l : Launch} {M : Nat → aC} {r : rT} {kr ar : Nat → Int32} {rk : rT} {ik : Int32} {fi b : Nat → Int32} {ln : Int32} {S : sT} {it mv : Nat → Int32} {Q : yQ}  : Ev Γ l mX5_image [.ref 42] 54 (yM M r kr ar ik fi b ln S it mv Q) (some (.int (sp_image (r, rk, ik, S, b, ln, fi)).1)) 54 (yF M (row r) ar it mv Q (sp_image (r, rk, ik, S, b, ln, fi)).2) := by
  refine Ev.of [(0, .ref 42)] (by decide) (Nat.le_of_ble_eq_true rfl) rfl ?_
  refine fr_aload_n (pc := 0) rfl dX5_image_0 ?_
  refine fr_get (pc := 1) (ci := 4) (T := TX5) (k0 := 0) rfl hin_X5 (by decide) fl_X5_9 (by decide) y_42 rfl dX5_image_1 ?_
  refine fr_aload_n (pc := 4) rfl dX5_image_4 ?_
  refine fr_get (pc := 5) (ci := 4) (T := TX5) (k0 := 1) rfl hin_X5 (by decide) fl_X5_13 (by decide) y_42 rfl dX5_image_5 ?_
  refine fr_callS0 (pc := 8) [.ref 43, .ref 44] [] (c_cp_nk) gc_X5_61 rfl rfl ⟨rfl, rfl, by decide, by decide⟩ (Nat.le_of_ble_eq_true rfl) ⟨by decide, by decide⟩ dX5_image_8 ?_
  refine fr_aload_n (pc := 11) rfl dX5_image_11 ?_
  refine fr_iconst (pc := 12) (v := 1) rfl dX5_image_12 ?_
  refine fr_put (pc := 13) (ci := 4) (T := TX5) (k0 := 3) (ty := .boolean) tyX5 tyX5_ok nmX5 rfl hin_X5 (by decide) fl_X5_310 rfl (by decide +kernel) rfl rfl (Nat.le_of_ble_eq_true rfl) (by decide) y_42 dX5_image_13 ?_
  refine fr_mem y_u3 ?_
  refine fr_iconst (pc := 16) (v := 1) rfl dX5_image_16 ?_
  exact fr_ireturn (pc := 17) rfl (by simp only [sp_image, fb, sr, sG, sS4, yF, if_true, if_false, not_true_eq_false, not_false_eq_true, or_true, true_or, or_false, false_or, and_true, true_and, and_false, false_and, or_self, and_self, eq_self] <;> rfl) (by simp only [sp_image, fb, sr, sG, sS4, yF, if_true, if_false, not_true_eq_false, not_false_eq_true, or_true, true_or, or_false, false_or, and_true, true_and, and_false, false_and, or_self, and_self, eq_self] <;> rfl) rfl dX5_image_17
set_option maxRecDepth 100000 in
theorem y_undo {Γ : aG} {l : Launch} {M : Nat → aC} {r : rT} {ar : Nat → Int32} {rk : rT} {ik : Int32} {fi b : Nat → Int32} {ln : Int32} {S : sT} {it mv : Nat → Int32} {Q : yQ}  : Ev Γ l mX5_undo [.ref 42] 54 (yM M r (row rk) ar ik fi b ln S it mv Q) (some (.int (sp_undo (r, rk, ik, S, b, ln, fi)).1)) 54 (yF M (row rk) ar it mv Q (sp_undo (r, rk, ik, S, b, ln, fi)).2) := by
  refine Ev.of [(0, .ref 42)] (by decide) (Nat.le_of_ble_eq_true rfl) rfl ?_
  refine fr_aload_n (pc := 0) rfl dX5_undo_0 ?_
  refine fr_get (pc := 1) (ci := 4) (T := TX5) (k0 := 3) rfl hin_X5 (by decide) fl_X5_310 (by decide) y_42 rfl dX5_undo_1 ?_
  refine fr_if_ne (pc := 4) 14 (by decide) dX5_undo_4 (fun h4 => ?_) (fun h4 => ?_)
  · refine fr_aload_n (pc := 14) rfl dX5_undo_14 ?_
    refine fr_get (pc := 15) (ci := 4) (T := TX5) (k0 := 1) rfl hin_X5 (by decide) fl_X5_13 (by decide) y_42 rfl dX5_undo_15 ?_
    refine fr_aload_n (pc := 18) rfl dX5_undo_18 ?_
    refine fr_get (pc := 19) (ci := 4) (T := TX5) (k0 := 0) rfl hin_X5 (by decide) fl_X5_9 (by decide) y_42 rfl dX5_undo_19 ?_
    refine fr_callS0 (pc := 22) [.ref 44, .ref 43] [] (c_cp_kn) gc_X5_61 rfl rfl ⟨rfl, rfl, by decide, by decide⟩ (Nat.le_of_ble_eq_true rfl) ⟨by decide, by decide⟩ dX5_undo_22 ?_
    refine fr_aload_n (pc := 25) rfl dX5_undo_25 ?_
    refine fr_get (pc := 26) (ci := 4) (T := TX5) (k0 := 0) rfl hin_X5 (by decide) fl_X5_9 (by decide) y_42 rfl dX5_undo_26 ?_
    refine fr_iconst (pc := 29) (v := 0) rfl dX5_undo_29 ?_
    refine fr_iald (pc := 30) 0 rfl (by decide) y_43 (by decide) (by decide) dX5_undo_30 ?_
    refine fr_eq (z := rk 9 0) (row_at (ph_l (by decide))) ?_
    exact fr_ireturn (pc := 31) rfl (by simp only [sp_undo, fb, sr, sG, sS4, yF, h4, if_true, if_false, not_true_eq_false, not_false_eq_true, or_true, true_or, or_false, false_or, and_true, true_and, and_false, false_and, or_self, and_self, eq_self] <;> rfl) (by simp only [sp_undo, fb, sr, sG, sS4, yF, h4, if_true, if_false, not_true_eq_false, not_false_eq_true, or_true, true_or, or_false, false_or, and_true, true_and, and_false, false_and, or_self, and_self, eq_self] <;> rfl) rfl dX5_undo_31
  · refine fr_aload_n (pc := 7) rfl dX5_undo_7 ?_
    refine fr_ldc (pc := 8) kc_X5_65 dX5_undo_8 ?_
    refine fr_callV0 (pc := 10) (ci := 4) (T := TX5) (N := 20) [.int (-1000004)] [] (c_fnd3) gc_X5_66 rfl rfl ⟨rfl, rfl, by decide, by decide⟩ (Nat.le_of_ble_eq_true rfl) rfl (by decide) y_42 ⟨by decide, by decide⟩ dX5_undo_10 ?_
    exact fr_ireturn (pc := 13) rfl (by simp only [sp_undo, fb, sr, sG, sS4, yF, eq_true h4, if_true, if_false, not_true_eq_false, not_false_eq_true, or_true, true_or, or_false, false_or, and_true, true_and, and_false, false_and, or_self, and_self, eq_self] <;> rfl) (by simp only [sp_undo, fb, sr, sG, sS4, yF, eq_true h4, if_true, if_false, not_true_eq_false, not_false_eq_true, or_true, true_or, or_false, false_or, and_true, true_and, and_false, false_and, or_self, and_self, eq_self] <;> rfl) rfl dX5_undo_13
set_option maxRecDepth 100000 in
theorem y_tear {Γ : aG} {l : Launch} {M : Nat → aC} {r : rT} {kr ar : Nat → Int32} {rk : rT} {ik : Int32} {fi b : Nat → Int32} {ln : Int32} {S : sT} {it mv : Nat → Int32} {Q : yQ}  : Ev Γ l mX5_tear [.ref 42] 54 (yM M r kr ar ik fi b ln S it mv Q) (some (.int (sp_tear (r, rk, ik, S, b, ln, fi)).1)) 54 (yF M kr ar it mv Q (sp_tear (r, rk, ik, S, b, ln, fi)).2) := by
  refine Ev.of [(0, .ref 42)] (by decide) (Nat.le_of_ble_eq_true rfl) rfl ?_
  refine fr_aload_n (pc := 0) rfl dX5_tear_0 ?_
  refine fr_get (pc := 1) (ci := 4) (T := TX5) (k0 := 3) rfl hin_X5 (by decide) fl_X5_310 (by decide) y_42 rfl dX5_tear_1 ?_
  refine fr_if_eq (pc := 4) 11 (by decide) dX5_tear_4 (fun h4 => ?_) (fun h4 => ?_)
  · refine fr_iconst (pc := 11) (v := 0) rfl dX5_tear_11 ?_
    refine fr_istore_n (pc := 12) [(1, .int 0), (0, .ref 42)] (by decide) rfl dX5_tear_12 ?_
    refine fr_aload_n (pc := 13) rfl dX5_tear_13 ?_
    refine fr_iconst (pc := 14) (v := 0) rfl dX5_tear_14 ?_
    refine fr_put (pc := 15) (ci := 4) (T := TX5) (k0 := 3) (ty := .boolean) tyX5 tyX5_ok nmX5 rfl hin_X5 (by decide) fl_X5_310 rfl (by decide +kernel) rfl rfl (Nat.le_of_ble_eq_true rfl) (by decide) y_42 dX5_tear_15 ?_
    refine fr_mem y_u3 ?_
    refine fr_iload_n (pc := 18) rfl dX5_tear_18 ?_
    exact fr_ireturn (pc := 19) rfl (by simp only [sp_tear, fb, sr, sG, sS4, yF, eq_true h4, if_true, if_false, not_true_eq_false, not_false_eq_true, or_true, true_or, or_false, false_or, and_true, true_and, and_false, false_and, or_self, and_self, eq_self] <;> rfl) (by simp only [sp_tear, fb, sr, sG, sS4, yF, eq_true h4, if_true, if_false, not_true_eq_false, not_false_eq_true, or_true, true_or, or_false, false_or, and_true, true_and, and_false, false_and, or_self, and_self, eq_self] <;> rfl) rfl dX5_tear_19
  · refine fr_iconst (pc := 7) (v := 1) rfl dX5_tear_7 ?_
    refine fr_goto (pc := 8) 12 (by decide) dX5_tear_8 ?_
    refine fr_istore_n (pc := 12) [(1, .int 1), (0, .ref 42)] (by decide) rfl dX5_tear_12 ?_
    refine fr_aload_n (pc := 13) rfl dX5_tear_13 ?_
    refine fr_iconst (pc := 14) (v := 0) rfl dX5_tear_14 ?_
    refine fr_put (pc := 15) (ci := 4) (T := TX5) (k0 := 3) (ty := .boolean) tyX5 tyX5_ok nmX5 rfl hin_X5 (by decide) fl_X5_310 rfl (by decide +kernel) rfl rfl (Nat.le_of_ble_eq_true rfl) (by decide) y_42 dX5_tear_15 ?_
    refine fr_mem y_u3 ?_
    refine fr_iload_n (pc := 18) rfl dX5_tear_18 ?_
    exact fr_ireturn (pc := 19) rfl (by simp only [sp_tear, fb, sr, sG, sS4, yF, h4, if_true, if_false, not_true_eq_false, not_false_eq_true, or_true, true_or, or_false, false_or, and_true, true_and, and_false, false_and, or_self, and_self, eq_self] <;> rfl) (by simp only [sp_tear, fb, sr, sG, sS4, yF, h4, if_true, if_false, not_true_eq_false, not_false_eq_true, or_true, true_or, or_false, false_or, and_true, true_and, and_false, false_and, or_self, and_self, eq_self] <;> rfl) rfl dX5_tear_19
set_option maxRecDepth 100000 in
theorem c_X5_behind {Γ : aG} {l : Launch} {M : Nat → aC} {r : rT} {kr ar : Nat → Int32} {ik : Int32} {fi b : Nat → Int32} {ln : Int32} {S : sT} {it mv : Nat → Int32} {Q : yQ} {p q i N : Nat} (h : ph p = (q, i)) (hp : p < 86) (w : wf r) (hN : N < 1000)  : Ev Γ l mX5_behind [.ref 42, .int (nI p), .int (nI N)] 54 (yM M r kr ar ik fi b ln S it mv Q) (some (.int (s_hours N r q i))) 54 (yM M r kr (row r) ik fi b ln S it mv Q) := by
  refine Ev.of [(0, .ref 42), (1, .int (nI p)), (2, .int (nI N))] (by decide) (Nat.le_of_ble_eq_true rfl) rfl ?_
  refine fr_aload_n (pc := 0) rfl dX5_behind_0 ?_
  refine fr_get (pc := 1) (ci := 4) (T := TX5) (k0 := 0) rfl hin_X5 (by decide) fl_X5_9 (by decide) y_42 rfl dX5_behind_1 ?_
  refine fr_aload_n (pc := 4) rfl dX5_behind_4 ?_
  refine fr_get (pc := 5) (ci := 4) (T := TX5) (k0 := 2) rfl hin_X5 (by decide) fl_X5_16 (by decide) y_42 rfl dX5_behind_5 ?_
  refine fr_callS0 (pc := 8) [.ref 43, .ref 45] [] (c_cp_na) gc_X5_61 rfl rfl ⟨rfl, rfl, by decide, by decide⟩ (Nat.le_of_ble_eq_true rfl) ⟨by decide, by decide⟩ dX5_behind_8 ?_
  refine fr_aload_n (pc := 11) rfl dX5_behind_11 ?_
  refine fr_iload_n (pc := 12) rfl dX5_behind_12 ?_
  refine fr_callV0 (pc := 13) (ci := 4) (T := TX5) (N := 20) [.int (nI N)] [] (c_X5_hoursGo (by assumption) (by omega)) gc_X5_166 rfl rfl ⟨rfl, rfl, by decide, by decide⟩ (Nat.le_of_ble_eq_true rfl) rfl (by decide) y_42 ⟨by decide, by decide⟩ dX5_behind_13 ?_
  refine fr_aload_n (pc := 16) rfl dX5_behind_16 ?_
  refine fr_aload_n (pc := 17) rfl dX5_behind_17 ?_
  refine fr_get (pc := 18) (ci := 4) (T := TX5) (k0 := 0) rfl hin_X5 (by decide) fl_X5_9 (by decide) y_42 rfl dX5_behind_18 ?_
  refine fr_iload_n (pc := 21) rfl dX5_behind_21 ?_
  refine fr_iald (pc := 22) p rfl (by decide) y_43 (by first | assumption | omega) (by decide) dX5_behind_22 ?_
  refine fr_eq (z := (s_hours N r) q i) (row_at h) ?_
  refine fr_callV0 (pc := 23) (ci := 4) (T := TX5) (N := 20) [.int ((s_hours N r) q i)] [] (c_X5_putBack) gc_X5_181 rfl rfl ⟨rfl, rfl, by decide, by decide⟩ (Nat.le_of_ble_eq_true rfl) rfl (by decide) y_42 ⟨by decide, by decide⟩ dX5_behind_23 ?_
  exact fr_ireturn (pc := 26) rfl rfl rfl rfl dX5_behind_26
set_option maxRecDepth 100000 in
theorem y_strain {Γ : aG} {l : Launch} {M : Nat → aC} {r : rT} {kr ar : Nat → Int32} {rk : rT} {ik : Int32} {fi b : Nat → Int32} {ln : Int32} {S : sT} {it mv : Nat → Int32} {Q : yQ} {n : Int32} (w : wf r)  : Ev Γ l mX5_strain [.ref 42, .int n] 54 (yM M r kr ar ik fi b ln S it mv Q) (some (.int (sp_strain (r, rk, ik, S, b, ln, fi) n).1)) 54 (yF M kr (if wi n 0 100 = true then row r else ar) it mv Q (sp_strain (r, rk, ik, S, b, ln, fi) n).2) := by
  refine Ev.of [(0, .ref 42), (1, .int n)] (by decide) (Nat.le_of_ble_eq_true rfl) rfl ?_
  refine fr_iload_n (pc := 0) rfl dX5_strain_0 ?_
  refine fr_iconst (pc := 1) (v := 0) rfl dX5_strain_1 ?_
  refine fr_bipush (pc := 2) (v := 100) rfl dX5_strain_2 ?_
  refine fr_callS0 (pc := 4) [.int n, .int 0, .int 100] [] (c_X5_within) gc_X5_70 rfl rfl ⟨rfl, rfl, by decide, by decide⟩ (Nat.le_of_ble_eq_true rfl) ⟨by decide, by decide⟩ dX5_strain_4 ?_
  refine fr_if_eq (pc := 7) 19 (by decide) dX5_strain_7 (fun h7 => ?_) (fun h7 => ?_)
  · have g7 := bI_0.mp h7
    refine fr_aload_n (pc := 19) rfl dX5_strain_19 ?_
    refine fr_ldc (pc := 20) kc_X5_60 dX5_strain_20 ?_
    refine fr_callV0 (pc := 22) (ci := 4) (T := TX5) (N := 20) [.int (-1000001)] [] (c_fnd0) gc_X5_66 rfl rfl ⟨rfl, rfl, by decide, by decide⟩ (Nat.le_of_ble_eq_true rfl) rfl (by decide) y_42 ⟨by decide, by decide⟩ dX5_strain_22 ?_
    exact fr_ireturn (pc := 25) rfl (by simp only [sp_strain, fb, sr, sG, sS4, yF, g7, if_true, if_false, not_true_eq_false, not_false_eq_true, or_true, true_or, or_false, false_or, and_true, true_and, and_false, false_and, or_self, and_self, eq_self] <;> rfl) (by simp only [sp_strain, fb, sr, sG, sS4, yF, g7, if_true, if_false, not_true_eq_false, not_false_eq_true, or_true, true_or, or_false, false_or, and_true, true_and, and_false, false_and, or_self, and_self, eq_self] <;> rfl) rfl dX5_strain_25
  · have g7 := bI_n0 h7
    obtain ⟨i1, hi1, rfl⟩ := wi_nI (N := 100) g7 rfl
    have ei1 : (nI i1).toNatClampNeg = i1 := nI_clamp (by omega)
    refine fr_aload_n (pc := 10) rfl dX5_strain_10 ?_
    refine fr_iconst (pc := 11) (v := 4) rfl dX5_strain_11 ?_
    refine fr_iload_n (pc := 12) rfl dX5_strain_12 ?_
    refine fr_callV0 (pc := 13) (ci := 4) (T := TX5) (N := 20) [.int 4, .int (nI i1)] [] (c_X5_behind (ph_l (by decide)) (by first | decide | omega) (by assumption) (by omega)) gc_X5_184 rfl rfl ⟨rfl, rfl, by decide, by decide⟩ (Nat.le_of_ble_eq_true rfl) rfl (by decide) y_42 ⟨by decide, by decide⟩ dX5_strain_13 ?_
    refine fr_goto (pc := 16) 25 (by decide) dX5_strain_16 ?_
    exact fr_ireturn (pc := 25) rfl (by simp only [sp_strain, fb, sr, sG, sS4, yF, g7, ei1, if_true, if_false, not_true_eq_false, not_false_eq_true, or_true, true_or, or_false, false_or, and_true, true_and, and_false, false_and, or_self, and_self, eq_self] <;> rfl) (by simp only [sp_strain, fb, sr, sG, sS4, yF, g7, ei1, if_true, if_false, not_true_eq_false, not_false_eq_true, or_true, true_or, or_false, false_or, and_true, true_and, and_false, false_and, or_self, and_self, eq_self] <;> rfl) rfl dX5_strain_25
set_option maxRecDepth 100000 in
theorem y_ahead {Γ : aG} {l : Launch} {M : Nat → aC} {r : rT} {kr ar : Nat → Int32} {rk : rT} {ik : Int32} {fi b : Nat → Int32} {ln : Int32} {S : sT} {it mv : Nat → Int32} {Q : yQ} {g a n : Int32} (w : wf r)  : Ev Γ l mX5_ahead [.ref 42, .int g, .int a, .int n] 54 (yM M r kr ar ik fi b ln S it mv Q) (some (.int (sp_ahead (r, rk, ik, S, b, ln, fi) g a n).1)) 54 (yF M kr (if sG (r, rk, ik, S, b, ln, fi) g = true ∧ (a = 1 ∨ a = 4 ∨ a = 6) ∧ wi n 0 100 = true then row r else ar) it mv Q (sp_ahead (r, rk, ik, S, b, ln, fi) g a n).2) := by
  refine Ev.of [(0, .ref 42), (1, .int g), (2, .int a), (3, .int n)] (by decide) (Nat.le_of_ble_eq_true rfl) rfl ?_
  refine fr_iload_n (pc := 0) rfl dX5_ahead_0 ?_
  refine fr_iconst (pc := 1) (v := 1) rfl dX5_ahead_1 ?_
  refine fr_icmp_eq (pc := 2) 16 (by decide) dX5_ahead_2 (fun h2 => ?_) (fun h2 => ?_)
  · refine fr_iconst (pc := 16) (v := 1) rfl dX5_ahead_16 ?_
    refine fr_goto (pc := 17) 21 (by decide) dX5_ahead_17 ?_
    refine fr_istore (pc := 21) [(4, .int 1), (0, .ref 42), (1, .int g), (2, .int a), (3, .int n)] (by decide) rfl dX5_ahead_21 ?_
    refine fr_aload_n (pc := 23) rfl dX5_ahead_23 ?_
    refine fr_iload_n (pc := 24) rfl dX5_ahead_24 ?_
    refine fr_callV0 (pc := 25) (ci := 4) (T := TX5) (N := 20) [.int g] [] (c_X5_isGuest ) gc_X5_131 rfl rfl ⟨rfl, rfl, by decide, by decide⟩ (Nat.le_of_ble_eq_true rfl) rfl (by decide) y_42 ⟨by decide, by decide⟩ dX5_ahead_25 ?_
    refine fr_if_eq (pc := 28) 46 (by decide) dX5_ahead_28 (fun h28 => ?_) (fun h28 => ?_)
    · have g28 := bI_0.mp h28
      refine fr_aload_n (pc := 46) rfl dX5_ahead_46 ?_
      refine fr_ldc (pc := 47) kc_X5_60 dX5_ahead_47 ?_
      refine fr_callV0 (pc := 49) (ci := 4) (T := TX5) (N := 20) [.int (-1000001)] [] (c_fnd0) gc_X5_66 rfl rfl ⟨rfl, rfl, by decide, by decide⟩ (Nat.le_of_ble_eq_true rfl) rfl (by decide) y_42 ⟨by decide, by decide⟩ dX5_ahead_49 ?_
      exact fr_ireturn (pc := 52) rfl (by simp only [sp_ahead, fb, sr, sG, sS4, yF, eq_true h2, g28, if_true, if_false, not_true_eq_false, not_false_eq_true, or_true, true_or, or_false, false_or, and_true, true_and, and_false, false_and, or_self, and_self, eq_self] <;> rfl) (by simp only [sp_ahead, fb, sr, sG, sS4, yF, eq_true h2, g28, if_true, if_false, not_true_eq_false, not_false_eq_true, or_true, true_or, or_false, false_or, and_true, true_and, and_false, false_and, or_self, and_self, eq_self] <;> rfl) rfl dX5_ahead_52
    · have g28 := bI_n0 h28
      refine fr_iload (pc := 31) rfl dX5_ahead_31 ?_
      refine fr_if_eq (pc := 33) 46 (by decide) dX5_ahead_33 (fun h33 => ?_) (fun h33 => ?_)
      · exact absurd h33 (by decide)
      · refine fr_iload_n (pc := 36) rfl dX5_ahead_36 ?_
        refine fr_iconst (pc := 37) (v := 0) rfl dX5_ahead_37 ?_
        refine fr_bipush (pc := 38) (v := 100) rfl dX5_ahead_38 ?_
        refine fr_callS0 (pc := 40) [.int n, .int 0, .int 100] [] (c_X5_within) gc_X5_70 rfl rfl ⟨rfl, rfl, by decide, by decide⟩ (Nat.le_of_ble_eq_true rfl) ⟨by decide, by decide⟩ dX5_ahead_40 ?_
        refine fr_if_ne (pc := 43) 53 (by decide) dX5_ahead_43 (fun h43 => ?_) (fun h43 => ?_)
        · have g43 := bI_n0 h43
          obtain ⟨i1, hi1, rfl⟩ := sG_nI w g28
          have ei1 : (nI i1).toNatClampNeg = i1 := nI_clamp (by have := w.ctl; omega)
          have li1 : i1 < 8 := by have := w.ctl; omega
          obtain ⟨i2, hi2, rfl⟩ := wi_nI (N := 100) g43 rfl
          have ei2 : (nI i2).toNatClampNeg = i2 := nI_clamp (by omega)
          subst h2
          refine fr_aload_n (pc := 53) rfl dX5_ahead_53 ?_
          refine fr_get (pc := 54) (ci := 4) (T := TX5) (k0 := 0) rfl hin_X5 (by decide) fl_X5_9 (by decide) y_42 rfl dX5_ahead_54 ?_
          refine fr_aload_n (pc := 57) rfl dX5_ahead_57 ?_
          refine fr_get (pc := 58) (ci := 4) (T := TX5) (k0 := 2) rfl hin_X5 (by decide) fl_X5_16 (by decide) y_42 rfl dX5_ahead_58 ?_
          refine fr_callS0 (pc := 61) [.ref 43, .ref 45] [] (c_cp_na) gc_X5_61 rfl rfl ⟨rfl, rfl, by decide, by decide⟩ (Nat.le_of_ble_eq_true rfl) ⟨by decide, by decide⟩ dX5_ahead_61 ?_
          refine fr_aload_n (pc := 64) rfl dX5_ahead_64 ?_
          refine fr_iload_n (pc := 65) rfl dX5_ahead_65 ?_
          refine fr_callV0 (pc := 66) (ci := 4) (T := TX5) (N := 20) [.int (nI i2)] [] (c_X5_hoursGo (by assumption) (by omega)) gc_X5_166 rfl rfl ⟨rfl, rfl, by decide, by decide⟩ (Nat.le_of_ble_eq_true rfl) rfl (by decide) y_42 ⟨by decide, by decide⟩ dX5_ahead_66 ?_
          have w2 := wf_hours i2 r w
          refine fr_aload_n (pc := 69) rfl dX5_ahead_69 ?_
          refine fr_aload_n (pc := 70) rfl dX5_ahead_70 ?_
          refine fr_iload_n (pc := 71) rfl dX5_ahead_71 ?_
          refine fr_iload_n (pc := 72) rfl dX5_ahead_72 ?_
          refine fr_callV0 (pc := 73) (ci := 4) (T := TX5) (N := 20) [.int (nI i1), .int 1] [.ref 42] (c_X5_told (k := 1) (by first | assumption | omega) (by first | assumption | omega)) gc_X5_134 rfl rfl ⟨rfl, rfl, by decide, by decide⟩ (Nat.le_of_ble_eq_true rfl) rfl (by decide) y_42 ⟨by decide, by decide⟩ dX5_ahead_73 ?_
          refine fr_callV0 (pc := 76) (ci := 4) (T := TX5) (N := 20) [.int (s_told (s_hours i2 r) i1 (nI 1))] [] (c_X5_putBack) gc_X5_181 rfl rfl ⟨rfl, rfl, by decide, by decide⟩ (Nat.le_of_ble_eq_true rfl) rfl (by decide) y_42 ⟨by decide, by decide⟩ dX5_ahead_76 ?_
          exact fr_ireturn (pc := 79) rfl (by simp only [sp_ahead, sG, g28, g43, ei1, ei2, if_true, if_false, not_true_eq_false, not_false_eq_true, or_true, true_or, or_false, false_or, and_true, true_and, and_false, false_and, or_self, and_self, eq_self] <;> rfl) (by simp only [sp_ahead, sG, yF, g28, g43, ei1, ei2, if_true, if_false, not_true_eq_false, not_false_eq_true, or_true, true_or, or_false, false_or, and_true, true_and, and_false, false_and, or_self, and_self, eq_self] <;> rfl) rfl dX5_ahead_79
        · have g43 := bI_0.mp h43
          refine fr_aload_n (pc := 46) rfl dX5_ahead_46 ?_
          refine fr_ldc (pc := 47) kc_X5_60 dX5_ahead_47 ?_
          refine fr_callV0 (pc := 49) (ci := 4) (T := TX5) (N := 20) [.int (-1000001)] [] (c_fnd0) gc_X5_66 rfl rfl ⟨rfl, rfl, by decide, by decide⟩ (Nat.le_of_ble_eq_true rfl) rfl (by decide) y_42 ⟨by decide, by decide⟩ dX5_ahead_49 ?_
          exact fr_ireturn (pc := 52) rfl (by simp only [sp_ahead, fb, sr, sG, sS4, yF, eq_true h2, g28, g43, if_true, if_false, not_true_eq_false, not_false_eq_true, or_true, true_or, or_false, false_or, and_true, true_and, and_false, false_and, or_self, and_self, eq_self] <;> rfl) (by simp only [sp_ahead, fb, sr, sG, sS4, yF, eq_true h2, g28, g43, if_true, if_false, not_true_eq_false, not_false_eq_true, or_true, true_or, or_false, false_or, and_true, true_and, and_false, false_and, or_self, and_self, eq_self] <;> rfl) rfl dX5_ahead_52
  · refine fr_iload_n (pc := 5) rfl dX5_ahead_5 ?_
    refine fr_iconst (pc := 6) (v := 4) rfl dX5_ahead_6 ?_
    refine fr_icmp_eq (pc := 7) 16 (by decide) dX5_ahead_7 (fun h7 => ?_) (fun h7 => ?_)
    · refine fr_iconst (pc := 16) (v := 1) rfl dX5_ahead_16 ?_
      refine fr_goto (pc := 17) 21 (by decide) dX5_ahead_17 ?_
      refine fr_istore (pc := 21) [(4, .int 1), (0, .ref 42), (1, .int g), (2, .int a), (3, .int n)] (by decide) rfl dX5_ahead_21 ?_
      refine fr_aload_n (pc := 23) rfl dX5_ahead_23 ?_
      refine fr_iload_n (pc := 24) rfl dX5_ahead_24 ?_
      refine fr_callV0 (pc := 25) (ci := 4) (T := TX5) (N := 20) [.int g] [] (c_X5_isGuest ) gc_X5_131 rfl rfl ⟨rfl, rfl, by decide, by decide⟩ (Nat.le_of_ble_eq_true rfl) rfl (by decide) y_42 ⟨by decide, by decide⟩ dX5_ahead_25 ?_
      refine fr_if_eq (pc := 28) 46 (by decide) dX5_ahead_28 (fun h28 => ?_) (fun h28 => ?_)
      · have g28 := bI_0.mp h28
        refine fr_aload_n (pc := 46) rfl dX5_ahead_46 ?_
        refine fr_ldc (pc := 47) kc_X5_60 dX5_ahead_47 ?_
        refine fr_callV0 (pc := 49) (ci := 4) (T := TX5) (N := 20) [.int (-1000001)] [] (c_fnd0) gc_X5_66 rfl rfl ⟨rfl, rfl, by decide, by decide⟩ (Nat.le_of_ble_eq_true rfl) rfl (by decide) y_42 ⟨by decide, by decide⟩ dX5_ahead_49 ?_
        exact fr_ireturn (pc := 52) rfl (by simp only [sp_ahead, fb, sr, sG, sS4, yF, h2, eq_true h7, g28, if_true, if_false, not_true_eq_false, not_false_eq_true, or_true, true_or, or_false, false_or, and_true, true_and, and_false, false_and, or_self, and_self, eq_self] <;> rfl) (by simp only [sp_ahead, fb, sr, sG, sS4, yF, h2, eq_true h7, g28, if_true, if_false, not_true_eq_false, not_false_eq_true, or_true, true_or, or_false, false_or, and_true, true_and, and_false, false_and, or_self, and_self, eq_self] <;> rfl) rfl dX5_ahead_52
      · have g28 := bI_n0 h28
        refine fr_iload (pc := 31) rfl dX5_ahead_31 ?_
        refine fr_if_eq (pc := 33) 46 (by decide) dX5_ahead_33 (fun h33 => ?_) (fun h33 => ?_)
        · exact absurd h33 (by decide)
        · refine fr_iload_n (pc := 36) rfl dX5_ahead_36 ?_
          refine fr_iconst (pc := 37) (v := 0) rfl dX5_ahead_37 ?_
          refine fr_bipush (pc := 38) (v := 100) rfl dX5_ahead_38 ?_
          refine fr_callS0 (pc := 40) [.int n, .int 0, .int 100] [] (c_X5_within) gc_X5_70 rfl rfl ⟨rfl, rfl, by decide, by decide⟩ (Nat.le_of_ble_eq_true rfl) ⟨by decide, by decide⟩ dX5_ahead_40 ?_
          refine fr_if_ne (pc := 43) 53 (by decide) dX5_ahead_43 (fun h43 => ?_) (fun h43 => ?_)
          · have g43 := bI_n0 h43
            obtain ⟨i1, hi1, rfl⟩ := sG_nI w g28
            have ei1 : (nI i1).toNatClampNeg = i1 := nI_clamp (by have := w.ctl; omega)
            have li1 : i1 < 8 := by have := w.ctl; omega
            obtain ⟨i2, hi2, rfl⟩ := wi_nI (N := 100) g43 rfl
            have ei2 : (nI i2).toNatClampNeg = i2 := nI_clamp (by omega)
            subst h7
            refine fr_aload_n (pc := 53) rfl dX5_ahead_53 ?_
            refine fr_get (pc := 54) (ci := 4) (T := TX5) (k0 := 0) rfl hin_X5 (by decide) fl_X5_9 (by decide) y_42 rfl dX5_ahead_54 ?_
            refine fr_aload_n (pc := 57) rfl dX5_ahead_57 ?_
            refine fr_get (pc := 58) (ci := 4) (T := TX5) (k0 := 2) rfl hin_X5 (by decide) fl_X5_16 (by decide) y_42 rfl dX5_ahead_58 ?_
            refine fr_callS0 (pc := 61) [.ref 43, .ref 45] [] (c_cp_na) gc_X5_61 rfl rfl ⟨rfl, rfl, by decide, by decide⟩ (Nat.le_of_ble_eq_true rfl) ⟨by decide, by decide⟩ dX5_ahead_61 ?_
            refine fr_aload_n (pc := 64) rfl dX5_ahead_64 ?_
            refine fr_iload_n (pc := 65) rfl dX5_ahead_65 ?_
            refine fr_callV0 (pc := 66) (ci := 4) (T := TX5) (N := 20) [.int (nI i2)] [] (c_X5_hoursGo (by assumption) (by omega)) gc_X5_166 rfl rfl ⟨rfl, rfl, by decide, by decide⟩ (Nat.le_of_ble_eq_true rfl) rfl (by decide) y_42 ⟨by decide, by decide⟩ dX5_ahead_66 ?_
            have w2 := wf_hours i2 r w
            refine fr_aload_n (pc := 69) rfl dX5_ahead_69 ?_
            refine fr_aload_n (pc := 70) rfl dX5_ahead_70 ?_
            refine fr_iload_n (pc := 71) rfl dX5_ahead_71 ?_
            refine fr_iload_n (pc := 72) rfl dX5_ahead_72 ?_
            refine fr_callV0 (pc := 73) (ci := 4) (T := TX5) (N := 20) [.int (nI i1), .int 4] [.ref 42] (c_X5_told (k := 4) (by first | assumption | omega) (by first | assumption | omega)) gc_X5_134 rfl rfl ⟨rfl, rfl, by decide, by decide⟩ (Nat.le_of_ble_eq_true rfl) rfl (by decide) y_42 ⟨by decide, by decide⟩ dX5_ahead_73 ?_
            refine fr_callV0 (pc := 76) (ci := 4) (T := TX5) (N := 20) [.int (s_told (s_hours i2 r) i1 (nI 4))] [] (c_X5_putBack) gc_X5_181 rfl rfl ⟨rfl, rfl, by decide, by decide⟩ (Nat.le_of_ble_eq_true rfl) rfl (by decide) y_42 ⟨by decide, by decide⟩ dX5_ahead_76 ?_
            exact fr_ireturn (pc := 79) rfl (by simp only [sp_ahead, sG, g28, g43, ei1, ei2, if_true, if_false, not_true_eq_false, not_false_eq_true, or_true, true_or, or_false, false_or, and_true, true_and, and_false, false_and, or_self, and_self, eq_self] <;> rfl) (by simp only [sp_ahead, sG, yF, g28, g43, ei1, ei2, if_true, if_false, not_true_eq_false, not_false_eq_true, or_true, true_or, or_false, false_or, and_true, true_and, and_false, false_and, or_self, and_self, eq_self] <;> rfl) rfl dX5_ahead_79
          · have g43 := bI_0.mp h43
            refine fr_aload_n (pc := 46) rfl dX5_ahead_46 ?_
            refine fr_ldc (pc := 47) kc_X5_60 dX5_ahead_47 ?_
            refine fr_callV0 (pc := 49) (ci := 4) (T := TX5) (N := 20) [.int (-1000001)] [] (c_fnd0) gc_X5_66 rfl rfl ⟨rfl, rfl, by decide, by decide⟩ (Nat.le_of_ble_eq_true rfl) rfl (by decide) y_42 ⟨by decide, by decide⟩ dX5_ahead_49 ?_
            exact fr_ireturn (pc := 52) rfl (by simp only [sp_ahead, fb, sr, sG, sS4, yF, h2, eq_true h7, g28, g43, if_true, if_false, not_true_eq_false, not_false_eq_true, or_true, true_or, or_false, false_or, and_true, true_and, and_false, false_and, or_self, and_self, eq_self] <;> rfl) (by simp only [sp_ahead, fb, sr, sG, sS4, yF, h2, eq_true h7, g28, g43, if_true, if_false, not_true_eq_false, not_false_eq_true, or_true, true_or, or_false, false_or, and_true, true_and, and_false, false_and, or_self, and_self, eq_self] <;> rfl) rfl dX5_ahead_52
    · refine fr_iload_n (pc := 10) rfl dX5_ahead_10 ?_
      refine fr_bipush (pc := 11) (v := 6) rfl dX5_ahead_11 ?_
      refine fr_icmp_ne (pc := 13) 20 (by decide) dX5_ahead_13 (fun h13 => ?_) (fun h13 => ?_)
      · refine fr_iconst (pc := 20) (v := 0) rfl dX5_ahead_20 ?_
        refine fr_istore (pc := 21) [(4, .int 0), (0, .ref 42), (1, .int g), (2, .int a), (3, .int n)] (by decide) rfl dX5_ahead_21 ?_
        refine fr_aload_n (pc := 23) rfl dX5_ahead_23 ?_
        refine fr_iload_n (pc := 24) rfl dX5_ahead_24 ?_
        refine fr_callV0 (pc := 25) (ci := 4) (T := TX5) (N := 20) [.int g] [] (c_X5_isGuest ) gc_X5_131 rfl rfl ⟨rfl, rfl, by decide, by decide⟩ (Nat.le_of_ble_eq_true rfl) rfl (by decide) y_42 ⟨by decide, by decide⟩ dX5_ahead_25 ?_
        refine fr_if_eq (pc := 28) 46 (by decide) dX5_ahead_28 (fun h28 => ?_) (fun h28 => ?_)
        · have g28 := bI_0.mp h28
          refine fr_aload_n (pc := 46) rfl dX5_ahead_46 ?_
          refine fr_ldc (pc := 47) kc_X5_60 dX5_ahead_47 ?_
          refine fr_callV0 (pc := 49) (ci := 4) (T := TX5) (N := 20) [.int (-1000001)] [] (c_fnd0) gc_X5_66 rfl rfl ⟨rfl, rfl, by decide, by decide⟩ (Nat.le_of_ble_eq_true rfl) rfl (by decide) y_42 ⟨by decide, by decide⟩ dX5_ahead_49 ?_
          exact fr_ireturn (pc := 52) rfl (by simp only [sp_ahead, fb, sr, sG, sS4, yF, h2, h7, h13, g28, if_true, if_false, not_true_eq_false, not_false_eq_true, or_true, true_or, or_false, false_or, and_true, true_and, and_false, false_and, or_self, and_self, eq_self] <;> rfl) (by simp only [sp_ahead, fb, sr, sG, sS4, yF, h2, h7, h13, g28, if_true, if_false, not_true_eq_false, not_false_eq_true, or_true, true_or, or_false, false_or, and_true, true_and, and_false, false_and, or_self, and_self, eq_self] <;> rfl) rfl dX5_ahead_52
        · have g28 := bI_n0 h28
          refine fr_iload (pc := 31) rfl dX5_ahead_31 ?_
          refine fr_if_eq (pc := 33) 46 (by decide) dX5_ahead_33 (fun h33 => ?_) (fun h33 => ?_)
          · refine fr_aload_n (pc := 46) rfl dX5_ahead_46 ?_
            refine fr_ldc (pc := 47) kc_X5_60 dX5_ahead_47 ?_
            refine fr_callV0 (pc := 49) (ci := 4) (T := TX5) (N := 20) [.int (-1000001)] [] (c_fnd0) gc_X5_66 rfl rfl ⟨rfl, rfl, by decide, by decide⟩ (Nat.le_of_ble_eq_true rfl) rfl (by decide) y_42 ⟨by decide, by decide⟩ dX5_ahead_49 ?_
            exact fr_ireturn (pc := 52) rfl (by simp only [sp_ahead, fb, sr, sG, sS4, yF, h2, h7, h13, g28, eq_true h33, if_true, if_false, not_true_eq_false, not_false_eq_true, or_true, true_or, or_false, false_or, and_true, true_and, and_false, false_and, or_self, and_self, eq_self] <;> rfl) (by simp only [sp_ahead, fb, sr, sG, sS4, yF, h2, h7, h13, g28, eq_true h33, if_true, if_false, not_true_eq_false, not_false_eq_true, or_true, true_or, or_false, false_or, and_true, true_and, and_false, false_and, or_self, and_self, eq_self] <;> rfl) rfl dX5_ahead_52
          · exact absurd rfl h33
      · refine fr_iconst (pc := 16) (v := 1) rfl dX5_ahead_16 ?_
        refine fr_goto (pc := 17) 21 (by decide) dX5_ahead_17 ?_
        refine fr_istore (pc := 21) [(4, .int 1), (0, .ref 42), (1, .int g), (2, .int a), (3, .int n)] (by decide) rfl dX5_ahead_21 ?_
        refine fr_aload_n (pc := 23) rfl dX5_ahead_23 ?_
        refine fr_iload_n (pc := 24) rfl dX5_ahead_24 ?_
        refine fr_callV0 (pc := 25) (ci := 4) (T := TX5) (N := 20) [.int g] [] (c_X5_isGuest ) gc_X5_131 rfl rfl ⟨rfl, rfl, by decide, by decide⟩ (Nat.le_of_ble_eq_true rfl) rfl (by decide) y_42 ⟨by decide, by decide⟩ dX5_ahead_25 ?_
        refine fr_if_eq (pc := 28) 46 (by decide) dX5_ahead_28 (fun h28 => ?_) (fun h28 => ?_)
        · have g28 := bI_0.mp h28
          refine fr_aload_n (pc := 46) rfl dX5_ahead_46 ?_
          refine fr_ldc (pc := 47) kc_X5_60 dX5_ahead_47 ?_
          refine fr_callV0 (pc := 49) (ci := 4) (T := TX5) (N := 20) [.int (-1000001)] [] (c_fnd0) gc_X5_66 rfl rfl ⟨rfl, rfl, by decide, by decide⟩ (Nat.le_of_ble_eq_true rfl) rfl (by decide) y_42 ⟨by decide, by decide⟩ dX5_ahead_49 ?_
          exact fr_ireturn (pc := 52) rfl (by simp only [sp_ahead, fb, sr, sG, sS4, yF, h2, h7, eq_true h13, g28, if_true, if_false, not_true_eq_false, not_false_eq_true, or_true, true_or, or_false, false_or, and_true, true_and, and_false, false_and, or_self, and_self, eq_self] <;> rfl) (by simp only [sp_ahead, fb, sr, sG, sS4, yF, h2, h7, eq_true h13, g28, if_true, if_false, not_true_eq_false, not_false_eq_true, or_true, true_or, or_false, false_or, and_true, true_and, and_false, false_and, or_self, and_self, eq_self] <;> rfl) rfl dX5_ahead_52
        · have g28 := bI_n0 h28
          refine fr_iload (pc := 31) rfl dX5_ahead_31 ?_
          refine fr_if_eq (pc := 33) 46 (by decide) dX5_ahead_33 (fun h33 => ?_) (fun h33 => ?_)
          · exact absurd h33 (by decide)
          · refine fr_iload_n (pc := 36) rfl dX5_ahead_36 ?_
            refine fr_iconst (pc := 37) (v := 0) rfl dX5_ahead_37 ?_
            refine fr_bipush (pc := 38) (v := 100) rfl dX5_ahead_38 ?_
            refine fr_callS0 (pc := 40) [.int n, .int 0, .int 100] [] (c_X5_within) gc_X5_70 rfl rfl ⟨rfl, rfl, by decide, by decide⟩ (Nat.le_of_ble_eq_true rfl) ⟨by decide, by decide⟩ dX5_ahead_40 ?_
            refine fr_if_ne (pc := 43) 53 (by decide) dX5_ahead_43 (fun h43 => ?_) (fun h43 => ?_)
            · have g43 := bI_n0 h43
              obtain ⟨i1, hi1, rfl⟩ := sG_nI w g28
              have ei1 : (nI i1).toNatClampNeg = i1 := nI_clamp (by have := w.ctl; omega)
              have li1 : i1 < 8 := by have := w.ctl; omega
              obtain ⟨i2, hi2, rfl⟩ := wi_nI (N := 100) g43 rfl
              have ei2 : (nI i2).toNatClampNeg = i2 := nI_clamp (by omega)
              subst h13
              refine fr_aload_n (pc := 53) rfl dX5_ahead_53 ?_
              refine fr_get (pc := 54) (ci := 4) (T := TX5) (k0 := 0) rfl hin_X5 (by decide) fl_X5_9 (by decide) y_42 rfl dX5_ahead_54 ?_
              refine fr_aload_n (pc := 57) rfl dX5_ahead_57 ?_
              refine fr_get (pc := 58) (ci := 4) (T := TX5) (k0 := 2) rfl hin_X5 (by decide) fl_X5_16 (by decide) y_42 rfl dX5_ahead_58 ?_
              refine fr_callS0 (pc := 61) [.ref 43, .ref 45] [] (c_cp_na) gc_X5_61 rfl rfl ⟨rfl, rfl, by decide, by decide⟩ (Nat.le_of_ble_eq_true rfl) ⟨by decide, by decide⟩ dX5_ahead_61 ?_
              refine fr_aload_n (pc := 64) rfl dX5_ahead_64 ?_
              refine fr_iload_n (pc := 65) rfl dX5_ahead_65 ?_
              refine fr_callV0 (pc := 66) (ci := 4) (T := TX5) (N := 20) [.int (nI i2)] [] (c_X5_hoursGo (by assumption) (by omega)) gc_X5_166 rfl rfl ⟨rfl, rfl, by decide, by decide⟩ (Nat.le_of_ble_eq_true rfl) rfl (by decide) y_42 ⟨by decide, by decide⟩ dX5_ahead_66 ?_
              have w2 := wf_hours i2 r w
              refine fr_aload_n (pc := 69) rfl dX5_ahead_69 ?_
              refine fr_aload_n (pc := 70) rfl dX5_ahead_70 ?_
              refine fr_iload_n (pc := 71) rfl dX5_ahead_71 ?_
              refine fr_iload_n (pc := 72) rfl dX5_ahead_72 ?_
              refine fr_callV0 (pc := 73) (ci := 4) (T := TX5) (N := 20) [.int (nI i1), .int 6] [.ref 42] (c_X5_told (k := 6) (by first | assumption | omega) (by first | assumption | omega)) gc_X5_134 rfl rfl ⟨rfl, rfl, by decide, by decide⟩ (Nat.le_of_ble_eq_true rfl) rfl (by decide) y_42 ⟨by decide, by decide⟩ dX5_ahead_73 ?_
              refine fr_callV0 (pc := 76) (ci := 4) (T := TX5) (N := 20) [.int (s_told (s_hours i2 r) i1 (nI 6))] [] (c_X5_putBack) gc_X5_181 rfl rfl ⟨rfl, rfl, by decide, by decide⟩ (Nat.le_of_ble_eq_true rfl) rfl (by decide) y_42 ⟨by decide, by decide⟩ dX5_ahead_76 ?_
              exact fr_ireturn (pc := 79) rfl (by simp only [sp_ahead, sG, g28, g43, ei1, ei2, if_true, if_false, not_true_eq_false, not_false_eq_true, or_true, true_or, or_false, false_or, and_true, true_and, and_false, false_and, or_self, and_self, eq_self] <;> rfl) (by simp only [sp_ahead, sG, yF, g28, g43, ei1, ei2, if_true, if_false, not_true_eq_false, not_false_eq_true, or_true, true_or, or_false, false_or, and_true, true_and, and_false, false_and, or_self, and_self, eq_self] <;> rfl) rfl dX5_ahead_79
            · have g43 := bI_0.mp h43
              refine fr_aload_n (pc := 46) rfl dX5_ahead_46 ?_
              refine fr_ldc (pc := 47) kc_X5_60 dX5_ahead_47 ?_
              refine fr_callV0 (pc := 49) (ci := 4) (T := TX5) (N := 20) [.int (-1000001)] [] (c_fnd0) gc_X5_66 rfl rfl ⟨rfl, rfl, by decide, by decide⟩ (Nat.le_of_ble_eq_true rfl) rfl (by decide) y_42 ⟨by decide, by decide⟩ dX5_ahead_49 ?_
              exact fr_ireturn (pc := 52) rfl (by simp only [sp_ahead, fb, sr, sG, sS4, yF, h2, h7, eq_true h13, g28, g43, if_true, if_false, not_true_eq_false, not_false_eq_true, or_true, true_or, or_false, false_or, and_true, true_and, and_false, false_and, or_self, and_self, eq_self] <;> rfl) (by simp only [sp_ahead, fb, sr, sG, sS4, yF, h2, h7, eq_true h13, g28, g43, if_true, if_false, not_true_eq_false, not_false_eq_true, or_true, true_or, or_false, false_or, and_true, true_and, and_false, false_and, or_self, and_self, eq_self] <;> rfl) rfl dX5_ahead_52
theorem wi_m1 {x : Int32} (h : wi x (-1) 6 = true) (hn : x < 0) : x = -1 := by
  have h := of_decide_eq_true h
  refine Int32.toInt_inj.mp ?_
  have h1 := h.1
  rw [lt_i, show (-1 : Int32).toInt = -1 from by decide] at h1
  rw [lt_i, show (0 : Int32).toInt = 0 from by decide] at hn
  rw [show (-1 : Int32).toInt = -1 from by decide]
  omega
theorem wi_m2 {x : Int32} (h : wi x (-1) 6 = true) (hn : ¬ x < 0) : ∃ k : Nat, k ≤ 6 ∧ x = nI k := nI_of2 (M := 6) rfl hn (Int32.not_lt.mp (of_decide_eq_true h).2)
set_option maxRecDepth 100000 in
theorem y_status {Γ : aG} {l : Launch} {M : Nat → aC} {r : rT} {kr ar : Nat → Int32} {rk : rT} {ik : Int32} {fi b : Nat → Int32} {ln : Int32} {S : sT} {it mv : Nat → Int32} {Q : yQ} {a : Int32}  : Ev Γ l mX5_status [.ref 42, .int a] 54 (yM M r kr ar ik fi b ln S it mv Q) (some (.int (sp_status (r, rk, ik, S, b, ln, fi) a).1)) 54 (yF M kr ar it mv Q (sp_status (r, rk, ik, S, b, ln, fi) a).2) := by
  refine Ev.of [(0, .ref 42), (1, .int a)] (by decide) (Nat.le_of_ble_eq_true rfl) rfl ?_
  refine fr_iload_n (pc := 0) rfl dX5_status_0 ?_
  refine fr_iconst (pc := 1) (v := (-1)) rfl dX5_status_1 ?_
  refine fr_bipush (pc := 2) (v := 6) rfl dX5_status_2 ?_
  refine fr_callS0 (pc := 4) [.int a, .int (-1), .int 6] [] (c_X5_within) gc_X5_70 rfl rfl ⟨rfl, rfl, by decide, by decide⟩ (Nat.le_of_ble_eq_true rfl) ⟨by decide, by decide⟩ dX5_status_4 ?_
  refine fr_if_eq (pc := 7) 21 (by decide) dX5_status_7 (fun h7 => ?_) (fun h7 => ?_)
  · have g7 := bI_0.mp h7
    refine fr_aload_n (pc := 21) rfl dX5_status_21 ?_
    refine fr_ldc (pc := 22) kc_X5_60 dX5_status_22 ?_
    refine fr_callV0 (pc := 24) (ci := 4) (T := TX5) (N := 20) [.int (-1000001)] [] (c_fnd0) gc_X5_66 rfl rfl ⟨rfl, rfl, by decide, by decide⟩ (Nat.le_of_ble_eq_true rfl) rfl (by decide) y_42 ⟨by decide, by decide⟩ dX5_status_24 ?_
    exact fr_ireturn (pc := 27) rfl (by simp only [sp_status, fb, sr, sG, sS4, yF, g7, if_true, if_false, not_true_eq_false, not_false_eq_true, or_true, true_or, or_false, false_or, and_true, true_and, and_false, false_and, or_self, and_self, eq_self] <;> rfl) (by simp only [sp_status, fb, sr, sG, sS4, yF, g7, if_true, if_false, not_true_eq_false, not_false_eq_true, or_true, true_or, or_false, false_or, and_true, true_and, and_false, false_and, or_self, and_self, eq_self] <;> rfl) rfl dX5_status_27
  · have g7 := bI_n0 h7
    by_cases hn : a < 0
    · have e1 := wi_m1 g7 hn
      subst e1
      refine fr_aload_n (pc := 10) rfl dX5_status_10 ?_
      refine fr_get (pc := 11) (ci := 4) (T := TX5) (k0 := 4) rfl hin_X5 (by decide) fl_X5_19 (by decide) y_42 rfl dX5_status_11 ?_
      refine fr_iload_n (pc := 14) rfl dX5_status_14 ?_
      refine fr_iconst (pc := 15) (v := 1) rfl dX5_status_15 ?_
      refine fr_iadd (pc := 16) dX5_status_16 ?_
      refine fr_eq (z := nI 0) (by decide) ?_
      refine fr_iald (pc := 17) 0 rfl (by decide) y_46 (by first | assumption | omega) (by decide) dX5_status_17 ?_
      refine fr_goto (pc := 18) 27 (by decide) dX5_status_18 ?_
      exact fr_ireturn (pc := 27) rfl (by simp only [sp_status, fb, sr, sG, sS4, yF, g7, hn, if_true, if_false, not_true_eq_false, not_false_eq_true, or_true, true_or, or_false, false_or, and_true, true_and, and_false, false_and, or_self, and_self, eq_self] <;> rfl) (by simp only [sp_status, fb, sr, sG, sS4, yF, g7, hn, if_true, if_false, not_true_eq_false, not_false_eq_true, or_true, true_or, or_false, false_or, and_true, true_and, and_false, false_and, or_self, and_self, eq_self] <;> rfl) rfl dX5_status_27
    · obtain ⟨k1, hk1, rfl⟩ := wi_m2 g7 hn
      have ek1 : (nI k1).toNatClampNeg = k1 := nI_clamp (by omega)
      refine fr_aload_n (pc := 10) rfl dX5_status_10 ?_
      refine fr_get (pc := 11) (ci := 4) (T := TX5) (k0 := 4) rfl hin_X5 (by decide) fl_X5_19 (by decide) y_42 rfl dX5_status_11 ?_
      refine fr_iload_n (pc := 14) rfl dX5_status_14 ?_
      refine fr_iconst (pc := 15) (v := 1) rfl dX5_status_15 ?_
      refine fr_iadd (pc := 16) dX5_status_16 ?_
      refine fr_eq (z := nI (k1 + 1)) (nI_1 k1) ?_
      refine fr_iald (pc := 17) (k1 + 1) rfl (by decide) y_46 (by first | assumption | omega) (by decide) dX5_status_17 ?_
      refine fr_goto (pc := 18) 27 (by decide) dX5_status_18 ?_
      exact fr_ireturn (pc := 27) rfl (by simp only [sp_status, fb, sr, sG, sS4, yF, g7, hn, ek1, if_true, if_false, not_true_eq_false, not_false_eq_true, or_true, true_or, or_false, false_or, and_true, true_and, and_false, false_and, or_self, and_self, eq_self] <;> rfl) (by simp only [sp_status, fb, sr, sG, sS4, yF, g7, hn, ek1, if_true, if_false, not_true_eq_false, not_false_eq_true, or_true, true_or, or_false, false_or, and_true, true_and, and_false, false_and, or_self, and_self, eq_self] <;> rfl) rfl dX5_status_27
set_option maxRecDepth 100000 in
theorem yk4 {Γ : aG} {l : Launch} {M : Nat → aC} {r : rT} {kr ar : Nat → Int32} {ik : Int32} {fi b : Nat → Int32} {ln : Int32} {S : sT} {it mv : Nat → Int32} {Q : yQ} {a : Int32} (w : wf r) : ∀ (n g : Nat) (n0 : Int32), g + n = cnt r → Fr Γ l mX5_count 78 [(0, .ref 42), (1, .int a), (2, .int n0), (3, .int (nI g))] [] 54 0 0 (yM M r kr ar ik fi b ln S it mv Q) (some (.int (s_sum (r 7) n g n0))) 54 (yM M r kr ar ik fi b ln S it mv Q) := by
  have hcl := w.ctl
  intro n
  induction n with
  | zero =>
    intro g n0 hn
    refine fr_iload_n (pc := 78) rfl dX5_count_78 ?_
    refine fr_aload_n (pc := 79) rfl dX5_count_79 ?_
    refine fr_get (pc := 80) (ci := 4) (T := TX5) (k0 := 0) rfl hin_X5 (by decide) fl_X5_9 (by decide) y_42 rfl dX5_count_80 ?_
    refine fr_iconst (pc := 83) (v := 1) rfl dX5_count_83 ?_
    refine fr_iald (pc := 84) 1 rfl (by decide) y_43 (by decide) (by decide) dX5_count_84 ?_
    refine fr_eq (z := r 9 1) (row_at (ph_l (by decide))) ?_
    refine fr_icmp_ge (pc := 85) 103 (by decide) dX5_count_85 (fun h85 => ?_) (fun h85 => ?_)
    · refine fr_iload_n (pc := 103) rfl dX5_count_103 ?_
      exact fr_ireturn (pc := 104) rfl rfl rfl rfl dX5_count_104
    · exact absurd (by rw [w.ct, ← hn]; exact Int32.le_refl _) h85
  | succ n ih =>
    intro g n0 hn
    refine fr_iload_n (pc := 78) rfl dX5_count_78 ?_
    refine fr_aload_n (pc := 79) rfl dX5_count_79 ?_
    refine fr_get (pc := 80) (ci := 4) (T := TX5) (k0 := 0) rfl hin_X5 (by decide) fl_X5_9 (by decide) y_42 rfl dX5_count_80 ?_
    refine fr_iconst (pc := 83) (v := 1) rfl dX5_count_83 ?_
    refine fr_iald (pc := 84) 1 rfl (by decide) y_43 (by decide) (by decide) dX5_count_84 ?_
    refine fr_eq (z := r 9 1) (row_at (ph_l (by decide))) ?_
    refine fr_icmp_ge (pc := 85) 103 (by decide) dX5_count_85 (fun h85 => ?_) (fun h85 => ?_)
    · exact absurd h85 (by rw [w.ct, ← hn]; exact nI_ge (by omega) (by omega))
    · refine fr_iload_n (pc := 88) rfl dX5_count_88 ?_
      refine fr_aload_n (pc := 89) rfl dX5_count_89 ?_
      refine fr_iload_n (pc := 90) rfl dX5_count_90 ?_
      refine fr_iconst (pc := 91) (v := 5) rfl dX5_count_91 ?_
      refine fr_callV0 (pc := 92) (ci := 4) (T := TX5) (N := 20) [.int (nI g), .int 5] [.int n0] (c_X5_guestIs (k := 5) (by first | assumption | omega) (by first | decide | assumption | omega)) gc_X5_116 rfl rfl ⟨rfl, rfl, by decide, by decide⟩ (Nat.le_of_ble_eq_true rfl) rfl (by decide) y_42 ⟨by decide, by decide⟩ dX5_count_92 ?_
      refine fr_iadd (pc := 95) dX5_count_95 ?_
      refine fr_nm (fun x2_96 e_x2_96 => ?_)
      refine fr_istore_n (pc := 96) [(2, .int x2_96), (0, .ref 42), (1, .int a), (3, .int (nI g))] (by decide) rfl dX5_count_96 ?_
      refine fr_iinc (pc := 97) (v := nI (g + 1)) [(3, .int (nI (g + 1))), (2, .int x2_96), (0, .ref 42), (1, .int a)] rfl (nI_1 g) (by decide) rfl dX5_count_97 ?_
      refine fr_goto (pc := 100) 78 (by decide) dX5_count_100 ?_
      rw [s_sum, ← e_x2_96]
      exact fr_sub [2, 3, 1, 0] rfl (ih (g + 1) x2_96 (by omega))
set_option maxRecDepth 100000 in
theorem yk7 {Γ : aG} {l : Launch} {M : Nat → aC} {r : rT} {kr ar : Nat → Int32} {ik : Int32} {fi b : Nat → Int32} {ln : Int32} {S : sT} {it mv : Nat → Int32} {Q : yQ} {a : Int32} (w : wf r) : ∀ (n g : Nat) (n0 : Int32), g + n = 10 → Fr Γ l mX5_count 119 [(0, .ref 42), (1, .int a), (2, .int n0), (3, .int (nI g))] [] 54 0 0 (yM M r kr ar ik fi b ln S it mv Q) (some (.int (s_sum (fun i => if r 8 i = -1 then 0 else 1) n g n0))) 54 (yM M r kr ar ik fi b ln S it mv Q) := by
  have hcl := w.ctl
  intro n
  induction n with
  | zero =>
    intro g n0 hn
    refine fr_iload_n (pc := 119) rfl dX5_count_119 ?_
    refine fr_bipush (pc := 120) (v := 10) rfl dX5_count_120 ?_
    refine fr_icmp_ge (pc := 122) 151 (by decide) dX5_count_122 (fun h122 => ?_) (fun h122 => ?_)
    · refine fr_iload_n (pc := 151) rfl dX5_count_151 ?_
      exact fr_ireturn (pc := 152) rfl rfl rfl rfl dX5_count_152
    · exact absurd (nI_le (a := 10) (b := g) (by omega) (by omega)) h122
  | succ n ih =>
    intro g n0 hn
    have hsp := w.2.2.2.2.2.2 g (by omega)
    have hs1 : r 8 g = -1 ↔ ¬ 0 ≤ r 8 g := by
      constructor
      · intro z; rw [z]; decide
      · intro z
        rcases hsp with q | q
        · exact q
        · exact absurd (by rw [q.1]; exact nI_pos' (by have := q.2; omega)) z
    refine fr_iload_n (pc := 119) rfl dX5_count_119 ?_
    refine fr_bipush (pc := 120) (v := 10) rfl dX5_count_120 ?_
    refine fr_icmp_ge (pc := 122) 151 (by decide) dX5_count_122 (fun h122 => ?_) (fun h122 => ?_)
    · exact absurd h122 (nI_ge (a := g) (b := 10) (by omega) (by omega))
    · refine fr_iload_n (pc := 125) rfl dX5_count_125 ?_
      refine fr_aload_n (pc := 126) rfl dX5_count_126 ?_
      refine fr_get (pc := 127) (ci := 4) (T := TX5) (k0 := 0) rfl hin_X5 (by decide) fl_X5_9 (by decide) y_42 rfl dX5_count_127 ?_
      refine fr_bipush (pc := 130) (v := 28) rfl dX5_count_130 ?_
      refine fr_iload_n (pc := 132) rfl dX5_count_132 ?_
      refine fr_iadd (pc := 133) dX5_count_133 ?_
      refine fr_eq (z := nI (28 + g)) (nI_add 28 g) ?_
      refine fr_iald (pc := 134) (28 + g) rfl (by decide) y_43 (by first | assumption | omega) (by decide) dX5_count_134 ?_
      refine fr_eq (z := r 8 g) (row_at (ph_s (by first | assumption | omega))) ?_
      refine fr_if_ge (pc := 135) 142 (by decide) dX5_count_135 (fun h135 => ?_) (fun h135 => ?_)
      · refine fr_iconst (pc := 142) (v := 1) rfl dX5_count_142 ?_
        refine fr_iadd (pc := 143) dX5_count_143 ?_
        refine fr_nm (fun x2_144 e_x2_144 => ?_)
        refine fr_istore_n (pc := 144) [(2, .int x2_144), (0, .ref 42), (1, .int a), (3, .int (nI g))] (by decide) rfl dX5_count_144 ?_
        refine fr_iinc (pc := 145) (v := nI (g + 1)) [(3, .int (nI (g + 1))), (2, .int x2_144), (0, .ref 42), (1, .int a)] rfl (nI_1 g) (by decide) rfl dX5_count_145 ?_
        refine fr_goto (pc := 148) 119 (by decide) dX5_count_148 ?_
        rw [s_sum, show n0 + (fun i => if r 8 i = -1 then 0 else 1) g = x2_144 from by rw [e_x2_144]; dsimp only; rw [if_neg (fun z => (hs1.mp z) h135)]]
        exact fr_sub [2, 3, 1, 0] rfl (ih (g + 1) x2_144 (by omega))
      · refine fr_iconst (pc := 138) (v := 0) rfl dX5_count_138 ?_
        refine fr_goto (pc := 139) 143 (by decide) dX5_count_139 ?_
        refine fr_iadd (pc := 143) dX5_count_143 ?_
        refine fr_nm (fun x2_144 e_x2_144 => ?_)
        refine fr_istore_n (pc := 144) [(2, .int x2_144), (0, .ref 42), (1, .int a), (3, .int (nI g))] (by decide) rfl dX5_count_144 ?_
        refine fr_iinc (pc := 145) (v := nI (g + 1)) [(3, .int (nI (g + 1))), (2, .int x2_144), (0, .ref 42), (1, .int a)] rfl (nI_1 g) (by decide) rfl dX5_count_145 ?_
        refine fr_goto (pc := 148) 119 (by decide) dX5_count_148 ?_
        rw [s_sum, show n0 + (fun i => if r 8 i = -1 then 0 else 1) g = x2_144 from by rw [e_x2_144]; dsimp only; rw [if_pos (hs1.mpr h135)]]
        exact fr_sub [2, 3, 1, 0] rfl (ih (g + 1) x2_144 (by omega))
set_option maxRecDepth 100000 in
theorem y_count {Γ : aG} {l : Launch} {M : Nat → aC} {r : rT} {kr ar : Nat → Int32} {rk : rT} {ik : Int32} {fi b : Nat → Int32} {ln : Int32} {S : sT} {it mv : Nat → Int32} {Q : yQ} {a : Int32} (w : wf r)  : Ev Γ l mX5_count [.ref 42, .int a] 54 (yM M r kr ar ik fi b ln S it mv Q) (some (.int (sp_count (r, rk, ik, S, b, ln, fi) a).1)) 54 (yF M kr ar it mv Q (sp_count (r, rk, ik, S, b, ln, fi) a).2) := by
  refine Ev.of [(0, .ref 42), (1, .int a)] (by decide) (Nat.le_of_ble_eq_true rfl) rfl ?_
  refine fr_iconst (pc := 0) (v := 0) rfl dX5_count_0 ?_
  refine fr_istore_n (pc := 1) [(2, .int 0), (0, .ref 42), (1, .int a)] (by decide) rfl dX5_count_1 ?_
  refine fr_iload_n (pc := 2) rfl dX5_count_2 ?_
  by_cases hk3_0 : a = 0
  · refine fr_tIn (pc := 3) 48 (by rw [hk3_0]; decide) (by rw [hk3_0]; decide) (by rw [hk3_0]; rfl) (by decide) dX5_count_3 ?_
    refine fr_aload_n (pc := 48) rfl dX5_count_48 ?_
    refine fr_get (pc := 49) (ci := 4) (T := TX5) (k0 := 0) rfl hin_X5 (by decide) fl_X5_9 (by decide) y_42 rfl dX5_count_49 ?_
    refine fr_iconst (pc := 52) (v := 0) rfl dX5_count_52 ?_
    refine fr_iald (pc := 53) 0 rfl (by decide) y_43 (by decide) (by decide) dX5_count_53 ?_
    refine fr_eq (z := r 9 0) (row_at (ph_l (by decide))) ?_
    exact fr_ireturn (pc := 54) rfl (by simp only [sp_count, fb, sr, sG, sS4, yF, eq_true hk3_0, if_true, if_false, not_true_eq_false, not_false_eq_true, or_true, true_or, or_false, false_or, and_true, true_and, and_false, false_and, or_self, and_self, eq_self] <;> rfl) (by simp only [sp_count, fb, sr, sG, sS4, yF, eq_true hk3_0, if_true, if_false, not_true_eq_false, not_false_eq_true, or_true, true_or, or_false, false_or, and_true, true_and, and_false, false_and, or_self, and_self, eq_self] <;> rfl) rfl dX5_count_54
  by_cases hk3_1 : a = 1
  · refine fr_tIn (pc := 3) 55 (by rw [hk3_1]; decide) (by rw [hk3_1]; decide) (by rw [hk3_1]; rfl) (by decide) dX5_count_3 ?_
    refine fr_aload_n (pc := 55) rfl dX5_count_55 ?_
    refine fr_get (pc := 56) (ci := 4) (T := TX5) (k0 := 0) rfl hin_X5 (by decide) fl_X5_9 (by decide) y_42 rfl dX5_count_56 ?_
    refine fr_iconst (pc := 59) (v := 1) rfl dX5_count_59 ?_
    refine fr_iald (pc := 60) 1 rfl (by decide) y_43 (by decide) (by decide) dX5_count_60 ?_
    refine fr_eq (z := r 9 1) (row_at (ph_l (by decide))) ?_
    exact fr_ireturn (pc := 61) rfl (by simp only [sp_count, fb, sr, sG, sS4, yF, hk3_0, eq_true hk3_1, if_true, if_false, not_true_eq_false, not_false_eq_true, or_true, true_or, or_false, false_or, and_true, true_and, and_false, false_and, or_self, and_self, eq_self] <;> rfl) (by simp only [sp_count, fb, sr, sG, sS4, yF, hk3_0, eq_true hk3_1, if_true, if_false, not_true_eq_false, not_false_eq_true, or_true, true_or, or_false, false_or, and_true, true_and, and_false, false_and, or_self, and_self, eq_self] <;> rfl) rfl dX5_count_61
  by_cases hk3_2 : a = 2
  · refine fr_tIn (pc := 3) 62 (by rw [hk3_2]; decide) (by rw [hk3_2]; decide) (by rw [hk3_2]; rfl) (by decide) dX5_count_3 ?_
    refine fr_aload_n (pc := 62) rfl dX5_count_62 ?_
    refine fr_get (pc := 63) (ci := 4) (T := TX5) (k0 := 0) rfl hin_X5 (by decide) fl_X5_9 (by decide) y_42 rfl dX5_count_63 ?_
    refine fr_iconst (pc := 66) (v := 4) rfl dX5_count_66 ?_
    refine fr_iald (pc := 67) 4 rfl (by decide) y_43 (by decide) (by decide) dX5_count_67 ?_
    refine fr_eq (z := r 9 4) (row_at (ph_l (by decide))) ?_
    exact fr_ireturn (pc := 68) rfl (by simp only [sp_count, fb, sr, sG, sS4, yF, hk3_0, hk3_1, eq_true hk3_2, if_true, if_false, not_true_eq_false, not_false_eq_true, or_true, true_or, or_false, false_or, and_true, true_and, and_false, false_and, or_self, and_self, eq_self] <;> rfl) (by simp only [sp_count, fb, sr, sG, sS4, yF, hk3_0, hk3_1, eq_true hk3_2, if_true, if_false, not_true_eq_false, not_false_eq_true, or_true, true_or, or_false, false_or, and_true, true_and, and_false, false_and, or_self, and_self, eq_self] <;> rfl) rfl dX5_count_68
  by_cases hk3_3 : a = 3
  · refine fr_tIn (pc := 3) 69 (by rw [hk3_3]; decide) (by rw [hk3_3]; decide) (by rw [hk3_3]; rfl) (by decide) dX5_count_3 ?_
    refine fr_aload_n (pc := 69) rfl dX5_count_69 ?_
    refine fr_get (pc := 70) (ci := 4) (T := TX5) (k0 := 0) rfl hin_X5 (by decide) fl_X5_9 (by decide) y_42 rfl dX5_count_70 ?_
    refine fr_iconst (pc := 73) (v := 5) rfl dX5_count_73 ?_
    refine fr_iald (pc := 74) 5 rfl (by decide) y_43 (by decide) (by decide) dX5_count_74 ?_
    refine fr_eq (z := r 9 5) (row_at (ph_l (by decide))) ?_
    exact fr_ireturn (pc := 75) rfl (by simp only [sp_count, fb, sr, sG, sS4, yF, hk3_0, hk3_1, hk3_2, eq_true hk3_3, if_true, if_false, not_true_eq_false, not_false_eq_true, or_true, true_or, or_false, false_or, and_true, true_and, and_false, false_and, or_self, and_self, eq_self] <;> rfl) (by simp only [sp_count, fb, sr, sG, sS4, yF, hk3_0, hk3_1, hk3_2, eq_true hk3_3, if_true, if_false, not_true_eq_false, not_false_eq_true, or_true, true_or, or_false, false_or, and_true, true_and, and_false, false_and, or_self, and_self, eq_self] <;> rfl) rfl dX5_count_75
  by_cases hk3_4 : a = 4
  · refine fr_tIn (pc := 3) 76 (by rw [hk3_4]; decide) (by rw [hk3_4]; decide) (by rw [hk3_4]; rfl) (by decide) dX5_count_3 ?_
    refine fr_iconst (pc := 76) (v := 0) rfl dX5_count_76 ?_
    refine fr_istore_n (pc := 77) [(3, .int 0), (2, .int 0), (0, .ref 42), (1, .int a)] (by decide) rfl dX5_count_77 ?_
    rw [show sp_count (r, rk, ik, S, b, ln, fi) a = (s_sum (r 7) (cnt r) 0 0, (r, rk, ik, S, b, ln, fi)) from by simp only [sp_count, hk3_0, hk3_1, hk3_2, hk3_3, eq_true hk3_4, if_true, if_false, not_true_eq_false, not_false_eq_true, or_true, true_or, or_false, false_or, and_true, true_and, and_false, false_and, or_self, and_self, eq_self]]
    exact fr_sub [2, 3, 1, 0] rfl (yk4 w (cnt r) 0 0 (by omega))
  by_cases hk3_5 : a = 5
  · refine fr_tIn (pc := 3) 105 (by rw [hk3_5]; decide) (by rw [hk3_5]; decide) (by rw [hk3_5]; rfl) (by decide) dX5_count_3 ?_
    refine fr_aload_n (pc := 105) rfl dX5_count_105 ?_
    refine fr_get (pc := 106) (ci := 4) (T := TX5) (k0 := 6) rfl hin_X5 (by decide) fl_X5_218 (by decide) y_42 rfl dX5_count_106 ?_
    exact fr_ireturn (pc := 109) rfl (by simp only [sp_count, fb, sr, sG, sS4, yF, hk3_0, hk3_1, hk3_2, hk3_3, hk3_4, eq_true hk3_5, if_true, if_false, not_true_eq_false, not_false_eq_true, or_true, true_or, or_false, false_or, and_true, true_and, and_false, false_and, or_self, and_self, eq_self] <;> rfl) (by simp only [sp_count, fb, sr, sG, sS4, yF, hk3_0, hk3_1, hk3_2, hk3_3, hk3_4, eq_true hk3_5, if_true, if_false, not_true_eq_false, not_false_eq_true, or_true, true_or, or_false, false_or, and_true, true_and, and_false, false_and, or_self, and_self, eq_self] <;> rfl) rfl dX5_count_109
  by_cases hk3_6 : a = 6
  · refine fr_tIn (pc := 3) 110 (by rw [hk3_6]; decide) (by rw [hk3_6]; decide) (by rw [hk3_6]; rfl) (by decide) dX5_count_3 ?_
    refine fr_aload_n (pc := 110) rfl dX5_count_110 ?_
    refine fr_get (pc := 111) (ci := 4) (T := TX5) (k0 := 0) rfl hin_X5 (by decide) fl_X5_9 (by decide) y_42 rfl dX5_count_111 ?_
    refine fr_iconst (pc := 114) (v := 2) rfl dX5_count_114 ?_
    refine fr_iald (pc := 115) 2 rfl (by decide) y_43 (by decide) (by decide) dX5_count_115 ?_
    refine fr_eq (z := r 9 2) (row_at (ph_l (by decide))) ?_
    exact fr_ireturn (pc := 116) rfl (by simp only [sp_count, fb, sr, sG, sS4, yF, hk3_0, hk3_1, hk3_2, hk3_3, hk3_4, hk3_5, eq_true hk3_6, if_true, if_false, not_true_eq_false, not_false_eq_true, or_true, true_or, or_false, false_or, and_true, true_and, and_false, false_and, or_self, and_self, eq_self] <;> rfl) (by simp only [sp_count, fb, sr, sG, sS4, yF, hk3_0, hk3_1, hk3_2, hk3_3, hk3_4, hk3_5, eq_true hk3_6, if_true, if_false, not_true_eq_false, not_false_eq_true, or_true, true_or, or_false, false_or, and_true, true_and, and_false, false_and, or_self, and_self, eq_self] <;> rfl) rfl dX5_count_116
  by_cases hk3_7 : a = 7
  · refine fr_tIn (pc := 3) 117 (by rw [hk3_7]; decide) (by rw [hk3_7]; decide) (by rw [hk3_7]; rfl) (by decide) dX5_count_3 ?_
    refine fr_iconst (pc := 117) (v := 0) rfl dX5_count_117 ?_
    refine fr_istore_n (pc := 118) [(3, .int 0), (2, .int 0), (0, .ref 42), (1, .int a)] (by decide) rfl dX5_count_118 ?_
    rw [show sp_count (r, rk, ik, S, b, ln, fi) a = (s_sum (fun i => if r 8 i = -1 then 0 else 1) 10 0 0, (r, rk, ik, S, b, ln, fi)) from by simp only [sp_count, hk3_0, hk3_1, hk3_2, hk3_3, hk3_4, hk3_5, hk3_6, eq_true hk3_7, if_true, if_false, not_true_eq_false, not_false_eq_true, or_true, true_or, or_false, false_or, and_true, true_and, and_false, false_and, or_self, and_self, eq_self]]
    exact fr_sub [2, 3, 1, 0] rfl (yk7 w 10 0 0 rfl)
  refine fr_tOut (pc := 3) 153 (sw_0_7 hk3_0 hk3_1 hk3_2 hk3_3 hk3_4 hk3_5 hk3_6 hk3_7) (by decide) dX5_count_3 ?_
  refine fr_aload_n (pc := 153) rfl dX5_count_153 ?_
  refine fr_ldc (pc := 154) kc_X5_60 dX5_count_154 ?_
  refine fr_callV0 (pc := 156) (ci := 4) (T := TX5) (N := 20) [.int (-1000001)] [] (c_fnd0) gc_X5_66 rfl rfl ⟨rfl, rfl, by decide, by decide⟩ (Nat.le_of_ble_eq_true rfl) rfl (by decide) y_42 ⟨by decide, by decide⟩ dX5_count_156 ?_
  exact fr_ireturn (pc := 159) rfl (by simp only [sp_count, fb, sr, sG, sS4, yF, hk3_0, hk3_1, hk3_2, hk3_3, hk3_4, hk3_5, hk3_6, hk3_7, if_true, if_false, not_true_eq_false, not_false_eq_true, or_true, true_or, or_false, false_or, and_true, true_and, and_false, false_and, or_self, and_self, eq_self] <;> rfl) (by simp only [sp_count, fb, sr, sG, sS4, yF, hk3_0, hk3_1, hk3_2, hk3_3, hk3_4, hk3_5, hk3_6, hk3_7, if_true, if_false, not_true_eq_false, not_false_eq_true, or_true, true_or, or_false, false_or, and_true, true_and, and_false, false_and, or_self, and_self, eq_self] <;> rfl) rfl dX5_count_159
