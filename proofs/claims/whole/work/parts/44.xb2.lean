set_option maxRecDepth 100000 in
theorem x_of {Γ : aG} {l : Launch} {M : Nat → aC} {r rk t : rT} {ik : Int32} {S : sT} {b : Nat → Int32} {ln : Int32} {J : Int32 × Int32 × Int32 × Int32} {fi : Nat → Int32} {g a : Int32} (w : wf r)  : Ev Γ l mX4_of [.ref 0, .int g, .int a] 54 (xM M r rk t ik S (b, ln, J) fi) (some (.int (sp_of (r, rk, ik, S, b, ln, fi) g a).1)) 54 (xF M t J (sp_of (r, rk, ik, S, b, ln, fi) g a).2) := by
  refine Ev.of [(0, .ref 0), (1, .int g), (2, .int a)] (by decide) (Nat.le_of_ble_eq_true rfl) rfl ?_
  refine fr_aload_n (pc := 0) rfl dX4_of_0 ?_
  refine fr_iload_n (pc := 1) rfl dX4_of_1 ?_
  refine fr_callV0 (pc := 2) (ci := 3) (T := TX4) (N := 7) [.int g] [] (c_X4_isGuest) gc_X4_95 rfl rfl ⟨rfl, rfl, by decide, by decide⟩ (Nat.le_of_ble_eq_true rfl) rfl (by decide) x_0 ⟨by decide, by decide⟩ dX4_of_2 ?_
  refine fr_if_eq (pc := 5) 18 (by decide) dX4_of_5 (fun h5 => ?_) (fun h5 => ?_)
  · have g5 := bI_0.mp h5
    refine fr_aload_n (pc := 18) rfl dX4_of_18 ?_
    refine fr_iconst (pc := 19) (v := 0) rfl dX4_of_19 ?_
    refine fr_callV0 (pc := 20) (ci := 3) (T := TX4) (N := 7) [.int 0] [] (c_X4_found (k := 0) (by decide)) gc_X4_51 rfl rfl ⟨rfl, rfl, by decide, by decide⟩ (Nat.le_of_ble_eq_true rfl) rfl (by decide) x_0 ⟨by decide, by decide⟩ dX4_of_20 ?_
    exact fr_ireturn (pc := 23) rfl (by simp only [sp_of, s_told, fb, sr, sG, xF, g5, if_true, if_false, not_true_eq_false, not_false_eq_true, or_true, true_or, or_false, false_or, and_true, true_and, and_false, false_and, or_self, and_self, eq_self] <;> rfl) (by simp only [sp_of, s_told, fb, sr, sG, xF, g5, if_true, if_false, not_true_eq_false, not_false_eq_true, or_true, true_or, or_false, false_or, and_true, true_and, and_false, false_and, or_self, and_self, eq_self] <;> rfl) rfl dX4_of_23
  · have g5 := bI_n0 h5
    refine fr_iload_n (pc := 8) rfl dX4_of_8 ?_
    refine fr_iconst (pc := 9) (v := 0) rfl dX4_of_9 ?_
    refine fr_bipush (pc := 10) (v := 9) rfl dX4_of_10 ?_
    refine fr_callS0 (pc := 12) [.int a, .int 0, .int 9] [] (c_X4_within) gc_X4_44 rfl rfl ⟨rfl, rfl, by decide, by decide⟩ (Nat.le_of_ble_eq_true rfl) ⟨by decide, by decide⟩ dX4_of_12 ?_
    refine fr_if_ne (pc := 15) 24 (by decide) dX4_of_15 (fun h15 => ?_) (fun h15 => ?_)
    · have g15 := bI_n0 h15
      obtain ⟨i1, hi1, rfl⟩ := sG_nI w g5
      have ei1 : (nI i1).toNatClampNeg = i1 := nI_clamp (by have := w.ctl; omega)
      have li1 : i1 < 8 := by have := w.ctl; omega
      obtain ⟨i2, hi2, rfl⟩ := wi_nI (N := 9) g15 rfl
      have ei2 : (nI i2).toNatClampNeg = i2 := nI_clamp (by omega)
      refine fr_iload_n (pc := 24) rfl dX4_of_24 ?_
      by_cases hk25_6 : (nI i2) = 6
      · refine fr_tIn (pc := 25) 56 (by rw [hk25_6]; decide) (by rw [hk25_6]; decide) (by rw [hk25_6]; rfl) (by decide) dX4_of_25 ?_
        refine fr_aload_n (pc := 56) rfl dX4_of_56 ?_
        refine fr_get (pc := 57) (ci := 3) (T := TX4) (k0 := 0) rfl hin_X4 (by decide) fl_X4_10 (by decide) x_0 rfl dX4_of_57 ?_
        refine fr_iload_n (pc := 60) rfl dX4_of_60 ?_
        refine fr_callV0 (pc := 61) (ci := 0) (T := TX0) (N := 15) [.int (nI i1)] [] (ev_H (fun _ => c_X0_needs (by omega) (by first | assumption | omega))) gc_X4_98 rfl rfl ⟨rfl, rfl, by decide, by decide⟩ (Nat.le_of_ble_eq_true rfl) rfl (by decide) x_1 ⟨by decide, by decide⟩ dX4_of_61 ?_
        exact fr_ireturn (pc := 64) rfl (by simp only [sp_of, s_told, fb, sr, sG, xF, g5, g15, ei1, ei2, eq_true hk25_6, if_true, if_false, not_true_eq_false, not_false_eq_true, or_true, true_or, or_false, false_or, and_true, true_and, and_false, false_and, or_self, and_self, eq_self] <;> rfl) (by simp only [sp_of, s_told, fb, sr, sG, xF, g5, g15, ei1, ei2, eq_true hk25_6, if_true, if_false, not_true_eq_false, not_false_eq_true, or_true, true_or, or_false, false_or, and_true, true_and, and_false, false_and, or_self, and_self, eq_self] <;> rfl) rfl dX4_of_64
      by_cases hk25_7 : (nI i2) = 7
      · refine fr_tIn (pc := 25) 65 (by rw [hk25_7]; decide) (by rw [hk25_7]; decide) (by rw [hk25_7]; rfl) (by decide) dX4_of_25 ?_
        refine fr_aload_n (pc := 65) rfl dX4_of_65 ?_
        refine fr_get (pc := 66) (ci := 3) (T := TX4) (k0 := 0) rfl hin_X4 (by decide) fl_X4_10 (by decide) x_0 rfl dX4_of_66 ?_
        refine fr_get (pc := 69) (ci := 0) (T := TX0) (k0 := 7) rfl hin_X0 (by decide) fl_X4_101 (by decide) x_1 rfl dX4_of_69 ?_
        refine fr_iload_n (pc := 72) rfl dX4_of_72 ?_
        refine fr_iald (pc := 73) i1 rfl (by decide) x_h3 (by first | assumption | omega) (by decide) dX4_of_73 ?_
        refine fr_callS0 (pc := 74) [.int (r 2 i1)] [] (c_X1_steps) gc_X4_104 rfl rfl ⟨rfl, rfl, by decide, by decide⟩ (Nat.le_of_ble_eq_true rfl) ⟨by decide, by decide⟩ dX4_of_74 ?_
        exact fr_ireturn (pc := 77) rfl (by simp only [sp_of, s_told, fb, sr, sG, xF, g5, g15, ei1, ei2, hk25_6, eq_true hk25_7, if_true, if_false, not_true_eq_false, not_false_eq_true, or_true, true_or, or_false, false_or, and_true, true_and, and_false, false_and, or_self, and_self, eq_self] <;> rfl) (by simp only [sp_of, s_told, fb, sr, sG, xF, g5, g15, ei1, ei2, hk25_6, eq_true hk25_7, if_true, if_false, not_true_eq_false, not_false_eq_true, or_true, true_or, or_false, false_or, and_true, true_and, and_false, false_and, or_self, and_self, eq_self] <;> rfl) rfl dX4_of_77
      by_cases hk25_8 : (nI i2) = 8
      · refine fr_tIn (pc := 25) 78 (by rw [hk25_8]; decide) (by rw [hk25_8]; decide) (by rw [hk25_8]; rfl) (by decide) dX4_of_25 ?_
        refine fr_aload_n (pc := 78) rfl dX4_of_78 ?_
        refine fr_get (pc := 79) (ci := 3) (T := TX4) (k0 := 0) rfl hin_X4 (by decide) fl_X4_10 (by decide) x_0 rfl dX4_of_79 ?_
        refine fr_get (pc := 82) (ci := 0) (T := TX0) (k0 := 7) rfl hin_X0 (by decide) fl_X4_101 (by decide) x_1 rfl dX4_of_82 ?_
        refine fr_iload_n (pc := 85) rfl dX4_of_85 ?_
        refine fr_iald (pc := 86) i1 rfl (by decide) x_h3 (by first | assumption | omega) (by decide) dX4_of_86 ?_
        refine fr_aload_n (pc := 87) rfl dX4_of_87 ?_
        refine fr_get (pc := 88) (ci := 3) (T := TX4) (k0 := 0) rfl hin_X4 (by decide) fl_X4_10 (by decide) x_0 rfl dX4_of_88 ?_
        refine fr_get (pc := 91) (ci := 0) (T := TX0) (k0 := 5) rfl hin_X0 (by decide) fl_X4_109 (by decide) x_1 rfl dX4_of_91 ?_
        refine fr_callS0 (pc := 94) [.int (r 2 i1), .int (r 9 0)] [] (c_X1_laughs) gc_X4_112 rfl rfl ⟨rfl, rfl, by decide, by decide⟩ (Nat.le_of_ble_eq_true rfl) ⟨by decide, by decide⟩ dX4_of_94 ?_
        exact fr_ireturn (pc := 97) rfl (by simp only [sp_of, s_told, fb, sr, sG, xF, g5, g15, ei1, ei2, hk25_6, hk25_7, eq_true hk25_8, if_true, if_false, not_true_eq_false, not_false_eq_true, or_true, true_or, or_false, false_or, and_true, true_and, and_false, false_and, or_self, and_self, eq_self] <;> rfl) (by simp only [sp_of, s_told, fb, sr, sG, xF, g5, g15, ei1, ei2, hk25_6, hk25_7, eq_true hk25_8, if_true, if_false, not_true_eq_false, not_false_eq_true, or_true, true_or, or_false, false_or, and_true, true_and, and_false, false_and, or_self, and_self, eq_self] <;> rfl) rfl dX4_of_97
      by_cases hk25_9 : (nI i2) = 9
      · refine fr_tIn (pc := 25) 98 (by rw [hk25_9]; decide) (by rw [hk25_9]; decide) (by rw [hk25_9]; rfl) (by decide) dX4_of_25 ?_
        refine fr_aload_n (pc := 98) rfl dX4_of_98 ?_
        refine fr_get (pc := 99) (ci := 3) (T := TX4) (k0 := 0) rfl hin_X4 (by decide) fl_X4_10 (by decide) x_0 rfl dX4_of_99 ?_
        refine fr_get (pc := 102) (ci := 0) (T := TX0) (k0 := 7) rfl hin_X0 (by decide) fl_X4_101 (by decide) x_1 rfl dX4_of_102 ?_
        refine fr_iload_n (pc := 105) rfl dX4_of_105 ?_
        refine fr_iald (pc := 106) i1 rfl (by decide) x_h3 (by first | assumption | omega) (by decide) dX4_of_106 ?_
        refine fr_callS0 (pc := 107) [.int (r 2 i1)] [] (c_X1_laces) gc_X4_115 rfl rfl ⟨rfl, rfl, by decide, by decide⟩ (Nat.le_of_ble_eq_true rfl) ⟨by decide, by decide⟩ dX4_of_107 ?_
        exact fr_ireturn (pc := 110) rfl (by simp only [sp_of, s_told, fb, sr, sG, xF, g5, g15, ei1, ei2, hk25_6, hk25_7, hk25_8, eq_true hk25_9, if_true, if_false, not_true_eq_false, not_false_eq_true, or_true, true_or, or_false, false_or, and_true, true_and, and_false, false_and, or_self, and_self, eq_self] <;> rfl) (by simp only [sp_of, s_told, fb, sr, sG, xF, g5, g15, ei1, ei2, hk25_6, hk25_7, hk25_8, eq_true hk25_9, if_true, if_false, not_true_eq_false, not_false_eq_true, or_true, true_or, or_false, false_or, and_true, true_and, and_false, false_and, or_self, and_self, eq_self] <;> rfl) rfl dX4_of_110
      refine fr_tOut (pc := 25) 111 (sw_6_9 hk25_6 hk25_7 hk25_8 hk25_9) (by decide) dX4_of_25 ?_
      have li2 : i2 < 6 := by
        rcases Nat.lt_or_ge i2 6 with q | q
        · exact q
        · rcases (show i2 = 6 ∨ i2 = 7 ∨ i2 = 8 ∨ i2 = 9 by omega) with rfl | rfl | rfl | rfl
          · exact absurd rfl hk25_6
          · exact absurd rfl hk25_7
          · exact absurd rfl hk25_8
          · exact absurd rfl hk25_9
      refine fr_aload_n (pc := 111) rfl dX4_of_111 ?_
      refine fr_get (pc := 112) (ci := 3) (T := TX4) (k0 := 0) rfl hin_X4 (by decide) fl_X4_10 (by decide) x_0 rfl dX4_of_112 ?_
      refine fr_iload_n (pc := 115) rfl dX4_of_115 ?_
      refine fr_callV0 (pc := 116) (ci := 0) (T := TX0) (N := 15) [.int (nI i2)] [] (ev_H (fun _ => c_X0_trait (by omega) (by omega))) gc_X4_118 rfl rfl ⟨rfl, rfl, by decide, by decide⟩ (Nat.le_of_ble_eq_true rfl) rfl (by decide) x_1 ⟨by decide, by decide⟩ dX4_of_116 ?_
      refine fr_iload_n (pc := 119) rfl dX4_of_119 ?_
      refine fr_iald (pc := 120) i1 rfl (by omega) (x_ht (by omega)) (by first | assumption | omega) (by decide) dX4_of_120 ?_
      exact fr_ireturn (pc := 121) rfl (by simp only [sp_of, s_told, fb, sr, sG, xF, g5, g15, ei1, ei2, hk25_6, hk25_7, hk25_8, hk25_9, if_true, if_false, not_true_eq_false, not_false_eq_true, or_true, true_or, or_false, false_or, and_true, true_and, and_false, false_and, or_self, and_self, eq_self] <;> rfl) (by simp only [sp_of, s_told, fb, sr, sG, xF, g5, g15, ei1, ei2, hk25_6, hk25_7, hk25_8, hk25_9, if_true, if_false, not_true_eq_false, not_false_eq_true, or_true, true_or, or_false, false_or, and_true, true_and, and_false, false_and, or_self, and_self, eq_self] <;> rfl) rfl dX4_of_121
    · have g15 := bI_0.mp h15
      refine fr_aload_n (pc := 18) rfl dX4_of_18 ?_
      refine fr_iconst (pc := 19) (v := 0) rfl dX4_of_19 ?_
      refine fr_callV0 (pc := 20) (ci := 3) (T := TX4) (N := 7) [.int 0] [] (c_X4_found (k := 0) (by decide)) gc_X4_51 rfl rfl ⟨rfl, rfl, by decide, by decide⟩ (Nat.le_of_ble_eq_true rfl) rfl (by decide) x_0 ⟨by decide, by decide⟩ dX4_of_20 ?_
      exact fr_ireturn (pc := 23) rfl (by simp only [sp_of, s_told, fb, sr, sG, xF, g5, g15, if_true, if_false, not_true_eq_false, not_false_eq_true, or_true, true_or, or_false, false_or, and_true, true_and, and_false, false_and, or_self, and_self, eq_self] <;> rfl) (by simp only [sp_of, s_told, fb, sr, sG, xF, g5, g15, if_true, if_false, not_true_eq_false, not_false_eq_true, or_true, true_or, or_false, false_or, and_true, true_and, and_false, false_and, or_self, and_self, eq_self] <;> rfl) rfl dX4_of_23
set_option maxRecDepth 100000 in
theorem x_change {Γ : aG} {l : Launch} {M : Nat → aC} {r rk t : rT} {ik : Int32} {S : sT} {b : Nat → Int32} {ln : Int32} {J : Int32 × Int32 × Int32 × Int32} {fi : Nat → Int32} {g a v : Int32} (w : wf r)  : Ev Γ l mX4_change [.ref 0, .int g, .int a, .int v] 54 (xM M r rk t ik S (b, ln, J) fi) (some (.int (sp_change (r, rk, ik, S, b, ln, fi) g a v).1)) 54 (xF M t J (sp_change (r, rk, ik, S, b, ln, fi) g a v).2) := by
  refine Ev.of [(0, .ref 0), (1, .int g), (2, .int a), (3, .int v)] (by decide) (Nat.le_of_ble_eq_true rfl) rfl ?_
  refine fr_aload_n (pc := 0) rfl dX4_change_0 ?_
  refine fr_iload_n (pc := 1) rfl dX4_change_1 ?_
  refine fr_callV0 (pc := 2) (ci := 3) (T := TX4) (N := 7) [.int g] [] (c_X4_isGuest) gc_X4_95 rfl rfl ⟨rfl, rfl, by decide, by decide⟩ (Nat.le_of_ble_eq_true rfl) rfl (by decide) x_0 ⟨by decide, by decide⟩ dX4_change_2 ?_
  refine fr_if_eq (pc := 5) 34 (by decide) dX4_change_5 (fun h5 => ?_) (fun h5 => ?_)
  · have g5 := bI_0.mp h5
    refine fr_aload_n (pc := 34) rfl dX4_change_34 ?_
    refine fr_iconst (pc := 35) (v := 0) rfl dX4_change_35 ?_
    refine fr_callV0 (pc := 36) (ci := 3) (T := TX4) (N := 7) [.int 0] [] (c_X4_found (k := 0) (by decide)) gc_X4_51 rfl rfl ⟨rfl, rfl, by decide, by decide⟩ (Nat.le_of_ble_eq_true rfl) rfl (by decide) x_0 ⟨by decide, by decide⟩ dX4_change_36 ?_
    exact fr_ireturn (pc := 39) rfl (by simp only [sp_change, fb, sr, sG, xF, g5, if_true, if_false, not_true_eq_false, not_false_eq_true, or_true, true_or, or_false, false_or, and_true, true_and, and_false, false_and, or_self, and_self, eq_self] <;> rfl) (by simp only [sp_change, fb, sr, sG, xF, g5, if_true, if_false, not_true_eq_false, not_false_eq_true, or_true, true_or, or_false, false_or, and_true, true_and, and_false, false_and, or_self, and_self, eq_self] <;> rfl) rfl dX4_change_39
  · have g5 := bI_n0 h5
    refine fr_iload_n (pc := 8) rfl dX4_change_8 ?_
    refine fr_iconst (pc := 9) (v := 0) rfl dX4_change_9 ?_
    refine fr_iconst (pc := 10) (v := 5) rfl dX4_change_10 ?_
    refine fr_callS0 (pc := 11) [.int a, .int 0, .int 5] [] (c_X4_within) gc_X4_44 rfl rfl ⟨rfl, rfl, by decide, by decide⟩ (Nat.le_of_ble_eq_true rfl) ⟨by decide, by decide⟩ dX4_change_11 ?_
    refine fr_if_eq (pc := 14) 34 (by decide) dX4_change_14 (fun h14 => ?_) (fun h14 => ?_)
    · have g14 := bI_0.mp h14
      refine fr_aload_n (pc := 34) rfl dX4_change_34 ?_
      refine fr_iconst (pc := 35) (v := 0) rfl dX4_change_35 ?_
      refine fr_callV0 (pc := 36) (ci := 3) (T := TX4) (N := 7) [.int 0] [] (c_X4_found (k := 0) (by decide)) gc_X4_51 rfl rfl ⟨rfl, rfl, by decide, by decide⟩ (Nat.le_of_ble_eq_true rfl) rfl (by decide) x_0 ⟨by decide, by decide⟩ dX4_change_36 ?_
      exact fr_ireturn (pc := 39) rfl (by simp only [sp_change, fb, sr, sG, xF, g5, g14, if_true, if_false, not_true_eq_false, not_false_eq_true, or_true, true_or, or_false, false_or, and_true, true_and, and_false, false_and, or_self, and_self, eq_self] <;> rfl) (by simp only [sp_change, fb, sr, sG, xF, g5, g14, if_true, if_false, not_true_eq_false, not_false_eq_true, or_true, true_or, or_false, false_or, and_true, true_and, and_false, false_and, or_self, and_self, eq_self] <;> rfl) rfl dX4_change_39
    · have g14 := bI_n0 h14
      obtain ⟨i1, hi1, rfl⟩ := sG_nI w g5
      have ei1 : (nI i1).toNatClampNeg = i1 := nI_clamp (by have := w.ctl; omega)
      have li1 : i1 < 8 := by have := w.ctl; omega
      obtain ⟨i2, hi2, rfl⟩ := wi_nI (N := 5) g14 rfl
      have ei2 : (nI i2).toNatClampNeg = i2 := nI_clamp (by omega)
      refine fr_iload_n (pc := 17) rfl dX4_change_17 ?_
      refine fr_gsA (pc := 18) (k0 := 1) (by decide) fl_X4_122 dX4_change_18 ?_
      refine fr_iload_n (pc := 21) rfl dX4_change_21 ?_
      refine fr_ialdS (pc := 22) (k0 := 1) i2 rfl (by decide) (show i2 < 6 by omega) (by omega) dX4_change_22 ?_
      refine fr_eq (z := sL (nI i2)) (by unfold sL; rw [ei2]) ?_
      refine fr_gsA (pc := 23) (k0 := 2) (by decide) fl_X4_125 dX4_change_23 ?_
      refine fr_iload_n (pc := 26) rfl dX4_change_26 ?_
      refine fr_ialdS (pc := 27) (k0 := 2) i2 rfl (by decide) (show i2 < 6 by omega) (by omega) dX4_change_27 ?_
      refine fr_eq (z := sU (nI i2)) (by unfold sU; rw [ei2]) ?_
      refine fr_callS0 (pc := 28) [.int v, .int (sL (nI i2)), .int (sU (nI i2))] [] (c_X4_within) gc_X4_44 rfl rfl ⟨rfl, rfl, by decide, by decide⟩ (Nat.le_of_ble_eq_true rfl) ⟨by decide, by decide⟩ dX4_change_28 ?_
      refine fr_if_ne (pc := 31) 40 (by decide) dX4_change_31 (fun h31 => ?_) (fun h31 => ?_)
      · have g31 := bI_n0 h31
        refine fr_aload_n (pc := 40) rfl dX4_change_40 ?_
        refine fr_get (pc := 41) (ci := 3) (T := TX4) (k0 := 0) rfl hin_X4 (by decide) fl_X4_10 (by decide) x_0 rfl dX4_change_41 ?_
        refine fr_iload_n (pc := 44) rfl dX4_change_44 ?_
        refine fr_callV0 (pc := 45) (ci := 0) (T := TX0) (N := 15) [.int (nI i2)] [] (ev_H (fun _ => c_X0_trait (by omega) (by omega))) gc_X4_118 rfl rfl ⟨rfl, rfl, by decide, by decide⟩ (Nat.le_of_ble_eq_true rfl) rfl (by decide) x_1 ⟨by decide, by decide⟩ dX4_change_45 ?_
        refine fr_astore (pc := 48) [(4, .ref (1 + (3 + i2))), (0, .ref 0), (1, .int (nI i1)), (2, .int (nI i2)), (3, .int v)] (by decide) rfl dX4_change_48 ?_
        refine fr_aload (pc := 50) rfl dX4_change_50 ?_
        refine fr_iload_n (pc := 52) rfl dX4_change_52 ?_
        refine fr_iald (pc := 53) i1 rfl (by omega) (x_ht (by omega)) li1 (by decide) dX4_change_53 ?_
        refine fr_nm (fun x5_54 e_x5_54 => ?_)
        refine fr_istore (pc := 54) [(5, .int x5_54), (4, .ref (1 + (3 + i2))), (0, .ref 0), (1, .int (nI i1)), (2, .int (nI i2)), (3, .int v)] (by decide) rfl dX4_change_54 ?_
        refine fr_aload (pc := 56) rfl dX4_change_56 ?_
        refine fr_iload_n (pc := 58) rfl dX4_change_58 ?_
        refine fr_iload_n (pc := 59) rfl dX4_change_59 ?_
        refine fr_iast (pc := 60) i1 rfl (by omega) (x_ht (by omega)) li1 (by decide) dX4_change_60 ?_
        refine fr_mem (x_hat (by omega)) ?_
        refine fr_iload (pc := 61) rfl dX4_change_61 ?_
        exact fr_ireturn (pc := 63) rfl (by simp only [sp_change, fb, sr, sG, xF, g5, g14, ei1, ei2, g31, e_x5_54, if_true, if_false, not_true_eq_false, not_false_eq_true, or_true, true_or, or_false, false_or, and_true, true_and, and_false, false_and, or_self, and_self, eq_self] <;> rfl) (by simp only [sp_change, fb, sr, sG, xF, g5, g14, ei1, ei2, g31, e_x5_54, if_true, if_false, not_true_eq_false, not_false_eq_true, or_true, true_or, or_false, false_or, and_true, true_and, and_false, false_and, or_self, and_self, eq_self] <;> rfl) rfl dX4_change_63
      · have g31 := bI_0.mp h31
        refine fr_aload_n (pc := 34) rfl dX4_change_34 ?_
        refine fr_iconst (pc := 35) (v := 0) rfl dX4_change_35 ?_
        refine fr_callV0 (pc := 36) (ci := 3) (T := TX4) (N := 7) [.int 0] [] (c_X4_found (k := 0) (by decide)) gc_X4_51 rfl rfl ⟨rfl, rfl, by decide, by decide⟩ (Nat.le_of_ble_eq_true rfl) rfl (by decide) x_0 ⟨by decide, by decide⟩ dX4_change_36 ?_
        exact fr_ireturn (pc := 39) rfl (by simp only [sp_change, fb, sr, sG, xF, g5, g14, ei1, ei2, g31, if_true, if_false, not_true_eq_false, not_false_eq_true, or_true, true_or, or_false, false_or, and_true, true_and, and_false, false_and, or_self, and_self, eq_self] <;> rfl) (by simp only [sp_change, fb, sr, sG, xF, g5, g14, ei1, ei2, g31, if_true, if_false, not_true_eq_false, not_false_eq_true, or_true, true_or, or_false, false_or, and_true, true_and, and_false, false_and, or_self, and_self, eq_self] <;> rfl) rfl dX4_change_39
set_option maxRecDepth 100000 in
theorem x_reach {Γ : aG} {l : Launch} {M : Nat → aC} {r rk t : rT} {ik : Int32} {S : sT} {b : Nat → Int32} {ln : Int32} {J : Int32 × Int32 × Int32 × Int32} {fi : Nat → Int32} {g m : Int32} (w : wf r)  : Ev Γ l mX4_reach [.ref 0, .int g, .int m] 54 (xM M r rk t ik S (b, ln, J) fi) (some (.int (sp_reach (r, rk, ik, S, b, ln, fi) g m).1)) 54 (xF M t J (sp_reach (r, rk, ik, S, b, ln, fi) g m).2) := by
  refine Ev.of [(0, .ref 0), (1, .int g), (2, .int m)] (by decide) (Nat.le_of_ble_eq_true rfl) rfl ?_
  refine fr_aload_n (pc := 0) rfl dX4_reach_0 ?_
  refine fr_iload_n (pc := 1) rfl dX4_reach_1 ?_
  refine fr_callV0 (pc := 2) (ci := 3) (T := TX4) (N := 7) [.int g] [] (c_X4_isGuest) gc_X4_95 rfl rfl ⟨rfl, rfl, by decide, by decide⟩ (Nat.le_of_ble_eq_true rfl) rfl (by decide) x_0 ⟨by decide, by decide⟩ dX4_reach_2 ?_
  refine fr_if_eq (pc := 5) 15 (by decide) dX4_reach_5 (fun h5 => ?_) (fun h5 => ?_)
  · have g5 := bI_0.mp h5
    refine fr_aload_n (pc := 15) rfl dX4_reach_15 ?_
    refine fr_iconst (pc := 16) (v := 0) rfl dX4_reach_16 ?_
    refine fr_callV0 (pc := 17) (ci := 3) (T := TX4) (N := 7) [.int 0] [] (c_X4_found (k := 0) (by decide)) gc_X4_51 rfl rfl ⟨rfl, rfl, by decide, by decide⟩ (Nat.le_of_ble_eq_true rfl) rfl (by decide) x_0 ⟨by decide, by decide⟩ dX4_reach_17 ?_
    exact fr_ireturn (pc := 20) rfl (by simp only [sp_reach, fb, sr, sG, xF, g5, if_true, if_false, not_true_eq_false, not_false_eq_true, or_true, true_or, or_false, false_or, and_true, true_and, and_false, false_and, or_self, and_self, eq_self] <;> rfl) (by simp only [sp_reach, fb, sr, sG, xF, g5, if_true, if_false, not_true_eq_false, not_false_eq_true, or_true, true_or, or_false, false_or, and_true, true_and, and_false, false_and, or_self, and_self, eq_self] <;> rfl) rfl dX4_reach_20
  · have g5 := bI_n0 h5
    refine fr_iload_n (pc := 8) rfl dX4_reach_8 ?_
    refine fr_callS0 (pc := 9) [.int m] [] (c_X4_isMeasure) gc_X4_75 rfl rfl ⟨rfl, rfl, by decide, by decide⟩ (Nat.le_of_ble_eq_true rfl) ⟨by decide, by decide⟩ dX4_reach_9 ?_
    refine fr_if_ne (pc := 12) 21 (by decide) dX4_reach_12 (fun h12 => ?_) (fun h12 => ?_)
    · have g12 := bI_n0 h12
      obtain ⟨i1, hi1, rfl⟩ := sG_nI w g5
      have ei1 : (nI i1).toNatClampNeg = i1 := nI_clamp (by have := w.ctl; omega)
      have li1 : i1 < 8 := by have := w.ctl; omega
      refine fr_aload_n (pc := 21) rfl dX4_reach_21 ?_
      refine fr_get (pc := 22) (ci := 3) (T := TX4) (k0 := 0) rfl hin_X4 (by decide) fl_X4_10 (by decide) x_0 rfl dX4_reach_22 ?_
      refine fr_iload_n (pc := 25) rfl dX4_reach_25 ?_
      refine fr_iload_n (pc := 26) rfl dX4_reach_26 ?_
      refine fr_callV0 (pc := 27) (ci := 0) (T := TX0) (N := 15) [.int (nI i1), .int m] [] (ev_H (fun _ => c_X0_reachable (by omega) (by omega) (by assumption))) gc_X4_128 rfl rfl ⟨rfl, rfl, by decide, by decide⟩ (Nat.le_of_ble_eq_true rfl) rfl (by decide) x_1 ⟨by decide, by decide⟩ dX4_reach_27 ?_
      exact fr_ireturn (pc := 30) rfl (by simp only [sp_reach, fb, sr, sG, xF, g5, g12, ei1, if_true, if_false, not_true_eq_false, not_false_eq_true, or_true, true_or, or_false, false_or, and_true, true_and, and_false, false_and, or_self, and_self, eq_self] <;> rfl) (by simp only [sp_reach, fb, sr, sG, xF, g5, g12, ei1, if_true, if_false, not_true_eq_false, not_false_eq_true, or_true, true_or, or_false, false_or, and_true, true_and, and_false, false_and, or_self, and_self, eq_self] <;> rfl) rfl dX4_reach_30
    · have g12 := bI_0.mp h12
      refine fr_aload_n (pc := 15) rfl dX4_reach_15 ?_
      refine fr_iconst (pc := 16) (v := 0) rfl dX4_reach_16 ?_
      refine fr_callV0 (pc := 17) (ci := 3) (T := TX4) (N := 7) [.int 0] [] (c_X4_found (k := 0) (by decide)) gc_X4_51 rfl rfl ⟨rfl, rfl, by decide, by decide⟩ (Nat.le_of_ble_eq_true rfl) rfl (by decide) x_0 ⟨by decide, by decide⟩ dX4_reach_17 ?_
      exact fr_ireturn (pc := 20) rfl (by simp only [sp_reach, fb, sr, sG, xF, g5, g12, if_true, if_false, not_true_eq_false, not_false_eq_true, or_true, true_or, or_false, false_or, and_true, true_and, and_false, false_and, or_self, and_self, eq_self] <;> rfl) (by simp only [sp_reach, fb, sr, sG, xF, g5, g12, if_true, if_false, not_true_eq_false, not_false_eq_true, or_true, true_or, or_false, false_or, and_true, true_and, and_false, false_and, or_self, and_self, eq_self] <;> rfl) rfl dX4_reach_20
theorem wi_1 {x M : Int32} {N : Nat} (h : wi x 1 M = true) (hM : M.toInt = N) : ∃ j : Nat, j ≤ N ∧ x = nI j := by
  unfold wi at h
  have h := of_decide_eq_true h
  exact nI_of2 hM (fun q => h.1 (Int32.lt_trans q (by decide))) (Int32.not_lt.mp h.2)
set_option maxRecDepth 100000 in
theorem x_go {Γ : aG} {l : Launch} {M : Nat → aC} {r rk t : rT} {ik : Int32} {S : sT} {b : Nat → Int32} {ln : Int32} {J : Int32 × Int32 × Int32 × Int32} {fi : Nat → Int32} {n : Int32} (w : wf r)  : Ev Γ l mX4_go [.ref 0, .int n] 54 (xM M r rk t ik S (b, ln, J) fi) (some (.int (sp_go (r, rk, ik, S, b, ln, fi) n).1)) 54 (xF M t J (sp_go (r, rk, ik, S, b, ln, fi) n).2) := by
  refine Ev.of [(0, .ref 0), (1, .int n)] (by decide) (Nat.le_of_ble_eq_true rfl) rfl ?_
  refine fr_iload_n (pc := 0) rfl dX4_go_0 ?_
  refine fr_iconst (pc := 1) (v := 1) rfl dX4_go_1 ?_
  refine fr_bipush (pc := 2) (v := 60) rfl dX4_go_2 ?_
  refine fr_callS0 (pc := 4) [.int n, .int 1, .int 60] [] (c_X4_within) gc_X4_44 rfl rfl ⟨rfl, rfl, by decide, by decide⟩ (Nat.le_of_ble_eq_true rfl) ⟨by decide, by decide⟩ dX4_go_4 ?_
  refine fr_if_ne (pc := 7) 16 (by decide) dX4_go_7 (fun h7 => ?_) (fun h7 => ?_)
  · have g7 := bI_n0 h7
    obtain ⟨i1, hi1, rfl⟩ := wi_1 (N := 60) g7 rfl
    have ei1 : (nI i1).toNatClampNeg = i1 := nI_clamp (by omega)
    refine fr_aload_n (pc := 16) rfl dX4_go_16 ?_
    refine fr_get (pc := 17) (ci := 3) (T := TX4) (k0 := 0) rfl hin_X4 (by decide) fl_X4_10 (by decide) x_0 rfl dX4_go_17 ?_
    refine fr_get (pc := 20) (ci := 0) (T := TX0) (k0 := 5) rfl hin_X0 (by decide) fl_X4_109 (by decide) x_1 rfl dX4_go_20 ?_
    refine fr_iload_n (pc := 23) rfl dX4_go_23 ?_
    refine fr_iadd (pc := 24) dX4_go_24 ?_
    refine fr_ldc (pc := 25) kc_X4_131 dX4_go_25 ?_
    refine fr_icmp_le (pc := 27) 36 (by decide) dX4_go_27 (fun h27 => ?_) (fun h27 => ?_)
    · have q27 : ¬ 99999 < r 9 0 + nI i1 := Int32.not_lt.mpr h27
      refine fr_aload_n (pc := 36) rfl dX4_go_36 ?_
      refine fr_get (pc := 37) (ci := 3) (T := TX4) (k0 := 0) rfl hin_X4 (by decide) fl_X4_10 (by decide) x_0 rfl dX4_go_37 ?_
      refine fr_iload_n (pc := 40) rfl dX4_go_40 ?_
      refine fr_callV0 (pc := 41) (ci := 0) (T := TX0) (N := 15) [.int (nI i1)] [] (ev_H (fun _ => c_X0_passHours (by omega) (by assumption) (by omega))) gc_X4_132 rfl rfl ⟨rfl, rfl, by decide, by decide⟩ (Nat.le_of_ble_eq_true rfl) rfl (by decide) x_1 ⟨by decide, by decide⟩ dX4_go_41 ?_
      refine fr_aload_n (pc := 44) rfl dX4_go_44 ?_
      refine fr_get (pc := 45) (ci := 3) (T := TX4) (k0 := 0) rfl hin_X4 (by decide) fl_X4_10 (by decide) x_0 rfl dX4_go_45 ?_
      refine fr_get (pc := 48) (ci := 0) (T := TX0) (k0 := 3) rfl hin_X0 (by decide) fl_X4_59 (by decide) x_1 rfl dX4_go_48 ?_
      exact fr_ireturn (pc := 51) rfl (by simp only [sp_go, fb, sr, sG, xF, g7, ei1, q27, if_true, if_false, not_true_eq_false, not_false_eq_true, or_true, true_or, or_false, false_or, and_true, true_and, and_false, false_and, or_self, and_self, eq_self] <;> rfl) (by simp only [sp_go, fb, sr, sG, xF, g7, ei1, q27, if_true, if_false, not_true_eq_false, not_false_eq_true, or_true, true_or, or_false, false_or, and_true, true_and, and_false, false_and, or_self, and_self, eq_self] <;> rfl) rfl dX4_go_51
    · have q27 : 99999 < r 9 0 + nI i1 := Int32.not_le.mp h27
      refine fr_aload_n (pc := 30) rfl dX4_go_30 ?_
      refine fr_iconst (pc := 31) (v := 4) rfl dX4_go_31 ?_
      refine fr_callV0 (pc := 32) (ci := 3) (T := TX4) (N := 7) [.int 4] [] (c_X4_found (k := 4) (by decide)) gc_X4_51 rfl rfl ⟨rfl, rfl, by decide, by decide⟩ (Nat.le_of_ble_eq_true rfl) rfl (by decide) x_0 ⟨by decide, by decide⟩ dX4_go_32 ?_
      exact fr_ireturn (pc := 35) rfl (by simp only [sp_go, fb, sr, sG, xF, g7, ei1, eq_true q27, if_true, if_false, not_true_eq_false, not_false_eq_true, or_true, true_or, or_false, false_or, and_true, true_and, and_false, false_and, or_self, and_self, eq_self] <;> rfl) (by simp only [sp_go, fb, sr, sG, xF, g7, ei1, eq_true q27, if_true, if_false, not_true_eq_false, not_false_eq_true, or_true, true_or, or_false, false_or, and_true, true_and, and_false, false_and, or_self, and_self, eq_self] <;> rfl) rfl dX4_go_35
  · have g7 := bI_0.mp h7
    refine fr_aload_n (pc := 10) rfl dX4_go_10 ?_
    refine fr_iconst (pc := 11) (v := 0) rfl dX4_go_11 ?_
    refine fr_callV0 (pc := 12) (ci := 3) (T := TX4) (N := 7) [.int 0] [] (c_X4_found (k := 0) (by decide)) gc_X4_51 rfl rfl ⟨rfl, rfl, by decide, by decide⟩ (Nat.le_of_ble_eq_true rfl) rfl (by decide) x_0 ⟨by decide, by decide⟩ dX4_go_12 ?_
    exact fr_ireturn (pc := 15) rfl (by simp only [sp_go, fb, sr, sG, xF, g7, if_true, if_false, not_true_eq_false, not_false_eq_true, or_true, true_or, or_false, false_or, and_true, true_and, and_false, false_and, or_self, and_self, eq_self] <;> rfl) (by simp only [sp_go, fb, sr, sG, xF, g7, if_true, if_false, not_true_eq_false, not_false_eq_true, or_true, true_or, or_false, false_or, and_true, true_and, and_false, false_and, or_self, and_self, eq_self] <;> rfl) rfl dX4_go_15
set_option maxRecDepth 100000 in
theorem x_strain {Γ : aG} {l : Launch} {M : Nat → aC} {r rk t : rT} {ik : Int32} {S : sT} {b : Nat → Int32} {ln : Int32} {J : Int32 × Int32 × Int32 × Int32} {fi : Nat → Int32} {n : Int32} (w : wf r)  : Ev Γ l mX4_strain [.ref 0, .int n] 54 (xM M r rk t ik S (b, ln, J) fi) (some (.int (sp_strain (r, rk, ik, S, b, ln, fi) n).1)) 54 (xF M (if wi n 0 100 = true then s_hours n.toNatClampNeg r else t) J (sp_strain (r, rk, ik, S, b, ln, fi) n).2) := by
  refine Ev.of [(0, .ref 0), (1, .int n)] (by decide) (Nat.le_of_ble_eq_true rfl) rfl ?_
  refine fr_iload_n (pc := 0) rfl dX4_strain_0 ?_
  refine fr_iconst (pc := 1) (v := 0) rfl dX4_strain_1 ?_
  refine fr_bipush (pc := 2) (v := 100) rfl dX4_strain_2 ?_
  refine fr_callS0 (pc := 4) [.int n, .int 0, .int 100] [] (c_X4_within) gc_X4_44 rfl rfl ⟨rfl, rfl, by decide, by decide⟩ (Nat.le_of_ble_eq_true rfl) ⟨by decide, by decide⟩ dX4_strain_4 ?_
  refine fr_if_ne (pc := 7) 16 (by decide) dX4_strain_7 (fun h7 => ?_) (fun h7 => ?_)
  · have g7 := bI_n0 h7
    obtain ⟨i1, hi1, rfl⟩ := wi_nI (N := 100) g7 rfl
    have ei1 : (nI i1).toNatClampNeg = i1 := nI_clamp (by omega)
    refine fr_aload_n (pc := 16) rfl dX4_strain_16 ?_
    refine fr_callV0 (pc := 17) (ci := 3) (T := TX4) (N := 7) [] [] (c_X4_startTrial) gc_X4_152 rfl rfl ⟨rfl, rfl, by decide, by decide⟩ (Nat.le_of_ble_eq_true rfl) rfl (by decide) x_0 ⟨by decide, by decide⟩ dX4_strain_17 ?_
    refine fr_aload_n (pc := 20) rfl dX4_strain_20 ?_
    refine fr_get (pc := 21) (ci := 3) (T := TX4) (k0 := 2) rfl hin_X4 (by decide) fl_X4_19 (by decide) x_0 rfl dX4_strain_21 ?_
    refine fr_iload_n (pc := 24) rfl dX4_strain_24 ?_
    refine fr_callV0 (pc := 25) (ci := 0) (T := TX0) (N := 15) [.int (nI i1)] [] (ev_T (fun _ => c_X0_passHours (by omega) (by assumption) (by omega))) gc_X4_132 rfl rfl ⟨rfl, rfl, by decide, by decide⟩ (Nat.le_of_ble_eq_true rfl) rfl (by decide) x_21 ⟨by decide, by decide⟩ dX4_strain_25 ?_
    refine fr_aload_n (pc := 28) rfl dX4_strain_28 ?_
    refine fr_get (pc := 29) (ci := 3) (T := TX4) (k0 := 2) rfl hin_X4 (by decide) fl_X4_19 (by decide) x_0 rfl dX4_strain_29 ?_
    refine fr_get (pc := 32) (ci := 0) (T := TX0) (k0 := 3) rfl hin_X0 (by decide) fl_X4_59 (by decide) x_21 rfl dX4_strain_32 ?_
    exact fr_ireturn (pc := 35) rfl (by simp only [sp_strain, fb, sr, sG, xF, g7, ei1, if_true, if_false, not_true_eq_false, not_false_eq_true, or_true, true_or, or_false, false_or, and_true, true_and, and_false, false_and, or_self, and_self, eq_self] <;> rfl) (by simp only [sp_strain, fb, sr, sG, xF, g7, ei1, if_true, if_false, not_true_eq_false, not_false_eq_true, or_true, true_or, or_false, false_or, and_true, true_and, and_false, false_and, or_self, and_self, eq_self] <;> rfl) rfl dX4_strain_35
  · have g7 := bI_0.mp h7
    refine fr_aload_n (pc := 10) rfl dX4_strain_10 ?_
    refine fr_iconst (pc := 11) (v := 0) rfl dX4_strain_11 ?_
    refine fr_callV0 (pc := 12) (ci := 3) (T := TX4) (N := 7) [.int 0] [] (c_X4_found (k := 0) (by decide)) gc_X4_51 rfl rfl ⟨rfl, rfl, by decide, by decide⟩ (Nat.le_of_ble_eq_true rfl) rfl (by decide) x_0 ⟨by decide, by decide⟩ dX4_strain_12 ?_
    exact fr_ireturn (pc := 15) rfl (by simp only [sp_strain, fb, sr, sG, xF, g7, if_true, if_false, not_true_eq_false, not_false_eq_true, or_true, true_or, or_false, false_or, and_true, true_and, and_false, false_and, or_self, and_self, eq_self] <;> rfl) (by simp only [sp_strain, fb, sr, sG, xF, g7, if_true, if_false, not_true_eq_false, not_false_eq_true, or_true, true_or, or_false, false_or, and_true, true_and, and_false, false_and, or_self, and_self, eq_self] <;> rfl) rfl dX4_strain_15
set_option maxRecDepth 100000 in
theorem x_ahead {Γ : aG} {l : Launch} {M : Nat → aC} {r rk t : rT} {ik : Int32} {S : sT} {b : Nat → Int32} {ln : Int32} {J : Int32 × Int32 × Int32 × Int32} {fi : Nat → Int32} {g a n : Int32} (w : wf r)  : Ev Γ l mX4_ahead [.ref 0, .int g, .int a, .int n] 54 (xM M r rk t ik S (b, ln, J) fi) (some (.int (sp_ahead (r, rk, ik, S, b, ln, fi) g a n).1)) 54 (xF M (if sG (r, rk, ik, S, b, ln, fi) g = true ∧ (a = 1 ∨ a = 4 ∨ a = 6) ∧ wi n 0 100 = true then s_hours n.toNatClampNeg r else t) J (sp_ahead (r, rk, ik, S, b, ln, fi) g a n).2) := by
  refine Ev.of [(0, .ref 0), (1, .int g), (2, .int a), (3, .int n)] (by decide) (Nat.le_of_ble_eq_true rfl) rfl ?_
  refine fr_aload_n (pc := 0) rfl dX4_ahead_0 ?_
  refine fr_iload_n (pc := 1) rfl dX4_ahead_1 ?_
  refine fr_callV0 (pc := 2) (ci := 3) (T := TX4) (N := 7) [.int g] [] (c_X4_isGuest) gc_X4_95 rfl rfl ⟨rfl, rfl, by decide, by decide⟩ (Nat.le_of_ble_eq_true rfl) rfl (by decide) x_0 ⟨by decide, by decide⟩ dX4_ahead_2 ?_
  refine fr_if_eq (pc := 5) 34 (by decide) dX4_ahead_5 (fun h5 => ?_) (fun h5 => ?_)
  · have g5 := bI_0.mp h5
    refine fr_aload_n (pc := 34) rfl dX4_ahead_34 ?_
    refine fr_iconst (pc := 35) (v := 0) rfl dX4_ahead_35 ?_
    refine fr_callV0 (pc := 36) (ci := 3) (T := TX4) (N := 7) [.int 0] [] (c_X4_found (k := 0) (by decide)) gc_X4_51 rfl rfl ⟨rfl, rfl, by decide, by decide⟩ (Nat.le_of_ble_eq_true rfl) rfl (by decide) x_0 ⟨by decide, by decide⟩ dX4_ahead_36 ?_
    exact fr_ireturn (pc := 39) rfl (by simp only [sp_ahead, fb, sr, sG, xF, g5, if_true, if_false, not_true_eq_false, not_false_eq_true, or_true, true_or, or_false, false_or, and_true, true_and, and_false, false_and, or_self, and_self, eq_self] <;> rfl) (by simp only [sp_ahead, fb, sr, sG, xF, g5, if_true, if_false, not_true_eq_false, not_false_eq_true, or_true, true_or, or_false, false_or, and_true, true_and, and_false, false_and, or_self, and_self, eq_self] <;> rfl) rfl dX4_ahead_39
  · have g5 := bI_n0 h5
    refine fr_iload_n (pc := 8) rfl dX4_ahead_8 ?_
    refine fr_iconst (pc := 9) (v := 1) rfl dX4_ahead_9 ?_
    refine fr_icmp_eq (pc := 10) 24 (by decide) dX4_ahead_10 (fun h10 => ?_) (fun h10 => ?_)
    · refine fr_iload_n (pc := 24) rfl dX4_ahead_24 ?_
      refine fr_iconst (pc := 25) (v := 0) rfl dX4_ahead_25 ?_
      refine fr_bipush (pc := 26) (v := 100) rfl dX4_ahead_26 ?_
      refine fr_callS0 (pc := 28) [.int n, .int 0, .int 100] [] (c_X4_within) gc_X4_44 rfl rfl ⟨rfl, rfl, by decide, by decide⟩ (Nat.le_of_ble_eq_true rfl) ⟨by decide, by decide⟩ dX4_ahead_28 ?_
      refine fr_if_ne (pc := 31) 40 (by decide) dX4_ahead_31 (fun h31 => ?_) (fun h31 => ?_)
      · have g31 := bI_n0 h31
        obtain ⟨i1, hi1, rfl⟩ := sG_nI w g5
        have ei1 : (nI i1).toNatClampNeg = i1 := nI_clamp (by have := w.ctl; omega)
        have li1 : i1 < 8 := by have := w.ctl; omega
        obtain ⟨i2, hi2, rfl⟩ := wi_nI (N := 100) g31 rfl
        have ei2 : (nI i2).toNatClampNeg = i2 := nI_clamp (by omega)
        refine fr_aload_n (pc := 40) rfl dX4_ahead_40 ?_
        refine fr_callV0 (pc := 41) (ci := 3) (T := TX4) (N := 7) [] [] (c_X4_startTrial) gc_X4_152 rfl rfl ⟨rfl, rfl, by decide, by decide⟩ (Nat.le_of_ble_eq_true rfl) rfl (by decide) x_0 ⟨by decide, by decide⟩ dX4_ahead_41 ?_
        refine fr_aload_n (pc := 44) rfl dX4_ahead_44 ?_
        refine fr_get (pc := 45) (ci := 3) (T := TX4) (k0 := 2) rfl hin_X4 (by decide) fl_X4_19 (by decide) x_0 rfl dX4_ahead_45 ?_
        refine fr_iload_n (pc := 48) rfl dX4_ahead_48 ?_
        refine fr_callV0 (pc := 49) (ci := 0) (T := TX0) (N := 15) [.int (nI i2)] [] (ev_T (fun _ => c_X0_passHours (by omega) (by assumption) (by omega))) gc_X4_132 rfl rfl ⟨rfl, rfl, by decide, by decide⟩ (Nat.le_of_ble_eq_true rfl) rfl (by decide) x_21 ⟨by decide, by decide⟩ dX4_ahead_49 ?_
        have w2 := wf_hours i2 r w
        refine fr_iload_n (pc := 52) rfl dX4_ahead_52 ?_
        refine fr_bipush (pc := 53) (v := 6) rfl dX4_ahead_53 ?_
        refine fr_icmp_ne (pc := 55) 69 (by decide) dX4_ahead_55 (fun h55 => ?_) (fun h55 => ?_)
        · obtain ⟨i3, hi3, ei3⟩ : ∃ i3 : Nat, i3 < 6 ∧ a = nI i3 := ⟨1, by decide, h10⟩
          subst ei3
          have ei3 : (nI i3).toNatClampNeg = i3 := nI_clamp (by omega)
          refine fr_aload_n (pc := 69) rfl dX4_ahead_69 ?_
          refine fr_get (pc := 70) (ci := 3) (T := TX4) (k0 := 2) rfl hin_X4 (by decide) fl_X4_19 (by decide) x_0 rfl dX4_ahead_70 ?_
          refine fr_iload_n (pc := 73) rfl dX4_ahead_73 ?_
          refine fr_callV0 (pc := 74) (ci := 0) (T := TX0) (N := 15) [.int (nI i3)] [] (ev_T (fun _ => c_X0_trait (by omega) (by omega))) gc_X4_118 rfl rfl ⟨rfl, rfl, by decide, by decide⟩ (Nat.le_of_ble_eq_true rfl) rfl (by decide) x_21 ⟨by decide, by decide⟩ dX4_ahead_74 ?_
          refine fr_iload_n (pc := 77) rfl dX4_ahead_77 ?_
          refine fr_iald (pc := 78) i1 rfl (by omega) (x_tt (by omega)) (by first | assumption | omega) (by decide) dX4_ahead_78 ?_
          exact fr_ireturn (pc := 79) rfl (by simp only [sp_ahead, fb, sr, sG, xF, g5, eq_true h10, g31, ei1, ei2, h55, ei3, if_true, if_false, not_true_eq_false, not_false_eq_true, or_true, true_or, or_false, false_or, and_true, true_and, and_false, false_and, or_self, and_self, eq_self] <;> rfl) (by simp only [sp_ahead, fb, sr, sG, xF, g5, eq_true h10, g31, ei1, ei2, h55, ei3, if_true, if_false, not_true_eq_false, not_false_eq_true, or_true, true_or, or_false, false_or, and_true, true_and, and_false, false_and, or_self, and_self, eq_self] <;> rfl) rfl dX4_ahead_79
        · refine fr_aload_n (pc := 58) rfl dX4_ahead_58 ?_
          refine fr_get (pc := 59) (ci := 3) (T := TX4) (k0 := 2) rfl hin_X4 (by decide) fl_X4_19 (by decide) x_0 rfl dX4_ahead_59 ?_
          refine fr_iload_n (pc := 62) rfl dX4_ahead_62 ?_
          refine fr_callV0 (pc := 63) (ci := 0) (T := TX0) (N := 15) [.int (nI i1)] [] (ev_T (fun _ => c_X0_needs (by omega) (by first | assumption | omega))) gc_X4_98 rfl rfl ⟨rfl, rfl, by decide, by decide⟩ (Nat.le_of_ble_eq_true rfl) rfl (by decide) x_21 ⟨by decide, by decide⟩ dX4_ahead_63 ?_
          refine fr_goto (pc := 66) 79 (by decide) dX4_ahead_66 ?_
          exact fr_ireturn (pc := 79) rfl (by simp only [sp_ahead, fb, sr, sG, xF, g5, eq_true h10, g31, ei1, ei2, eq_true h55, if_true, if_false, not_true_eq_false, not_false_eq_true, or_true, true_or, or_false, false_or, and_true, true_and, and_false, false_and, or_self, and_self, eq_self] <;> rfl) (by simp only [sp_ahead, fb, sr, sG, xF, g5, eq_true h10, g31, ei1, ei2, eq_true h55, if_true, if_false, not_true_eq_false, not_false_eq_true, or_true, true_or, or_false, false_or, and_true, true_and, and_false, false_and, or_self, and_self, eq_self] <;> rfl) rfl dX4_ahead_79
      · have g31 := bI_0.mp h31
        refine fr_aload_n (pc := 34) rfl dX4_ahead_34 ?_
        refine fr_iconst (pc := 35) (v := 0) rfl dX4_ahead_35 ?_
        refine fr_callV0 (pc := 36) (ci := 3) (T := TX4) (N := 7) [.int 0] [] (c_X4_found (k := 0) (by decide)) gc_X4_51 rfl rfl ⟨rfl, rfl, by decide, by decide⟩ (Nat.le_of_ble_eq_true rfl) rfl (by decide) x_0 ⟨by decide, by decide⟩ dX4_ahead_36 ?_
        exact fr_ireturn (pc := 39) rfl (by simp only [sp_ahead, fb, sr, sG, xF, g5, eq_true h10, g31, if_true, if_false, not_true_eq_false, not_false_eq_true, or_true, true_or, or_false, false_or, and_true, true_and, and_false, false_and, or_self, and_self, eq_self] <;> rfl) (by simp only [sp_ahead, fb, sr, sG, xF, g5, eq_true h10, g31, if_true, if_false, not_true_eq_false, not_false_eq_true, or_true, true_or, or_false, false_or, and_true, true_and, and_false, false_and, or_self, and_self, eq_self] <;> rfl) rfl dX4_ahead_39
    · refine fr_iload_n (pc := 13) rfl dX4_ahead_13 ?_
      refine fr_iconst (pc := 14) (v := 4) rfl dX4_ahead_14 ?_
      refine fr_icmp_eq (pc := 15) 24 (by decide) dX4_ahead_15 (fun h15 => ?_) (fun h15 => ?_)
      · refine fr_iload_n (pc := 24) rfl dX4_ahead_24 ?_
        refine fr_iconst (pc := 25) (v := 0) rfl dX4_ahead_25 ?_
        refine fr_bipush (pc := 26) (v := 100) rfl dX4_ahead_26 ?_
        refine fr_callS0 (pc := 28) [.int n, .int 0, .int 100] [] (c_X4_within) gc_X4_44 rfl rfl ⟨rfl, rfl, by decide, by decide⟩ (Nat.le_of_ble_eq_true rfl) ⟨by decide, by decide⟩ dX4_ahead_28 ?_
        refine fr_if_ne (pc := 31) 40 (by decide) dX4_ahead_31 (fun h31 => ?_) (fun h31 => ?_)
        · have g31 := bI_n0 h31
          obtain ⟨i1, hi1, rfl⟩ := sG_nI w g5
          have ei1 : (nI i1).toNatClampNeg = i1 := nI_clamp (by have := w.ctl; omega)
          have li1 : i1 < 8 := by have := w.ctl; omega
          obtain ⟨i2, hi2, rfl⟩ := wi_nI (N := 100) g31 rfl
          have ei2 : (nI i2).toNatClampNeg = i2 := nI_clamp (by omega)
          refine fr_aload_n (pc := 40) rfl dX4_ahead_40 ?_
          refine fr_callV0 (pc := 41) (ci := 3) (T := TX4) (N := 7) [] [] (c_X4_startTrial) gc_X4_152 rfl rfl ⟨rfl, rfl, by decide, by decide⟩ (Nat.le_of_ble_eq_true rfl) rfl (by decide) x_0 ⟨by decide, by decide⟩ dX4_ahead_41 ?_
          refine fr_aload_n (pc := 44) rfl dX4_ahead_44 ?_
          refine fr_get (pc := 45) (ci := 3) (T := TX4) (k0 := 2) rfl hin_X4 (by decide) fl_X4_19 (by decide) x_0 rfl dX4_ahead_45 ?_
          refine fr_iload_n (pc := 48) rfl dX4_ahead_48 ?_
          refine fr_callV0 (pc := 49) (ci := 0) (T := TX0) (N := 15) [.int (nI i2)] [] (ev_T (fun _ => c_X0_passHours (by omega) (by assumption) (by omega))) gc_X4_132 rfl rfl ⟨rfl, rfl, by decide, by decide⟩ (Nat.le_of_ble_eq_true rfl) rfl (by decide) x_21 ⟨by decide, by decide⟩ dX4_ahead_49 ?_
          have w2 := wf_hours i2 r w
          refine fr_iload_n (pc := 52) rfl dX4_ahead_52 ?_
          refine fr_bipush (pc := 53) (v := 6) rfl dX4_ahead_53 ?_
          refine fr_icmp_ne (pc := 55) 69 (by decide) dX4_ahead_55 (fun h55 => ?_) (fun h55 => ?_)
          · obtain ⟨i3, hi3, ei3⟩ : ∃ i3 : Nat, i3 < 6 ∧ a = nI i3 := ⟨4, by decide, h15⟩
            subst ei3
            have ei3 : (nI i3).toNatClampNeg = i3 := nI_clamp (by omega)
            refine fr_aload_n (pc := 69) rfl dX4_ahead_69 ?_
            refine fr_get (pc := 70) (ci := 3) (T := TX4) (k0 := 2) rfl hin_X4 (by decide) fl_X4_19 (by decide) x_0 rfl dX4_ahead_70 ?_
            refine fr_iload_n (pc := 73) rfl dX4_ahead_73 ?_
            refine fr_callV0 (pc := 74) (ci := 0) (T := TX0) (N := 15) [.int (nI i3)] [] (ev_T (fun _ => c_X0_trait (by omega) (by omega))) gc_X4_118 rfl rfl ⟨rfl, rfl, by decide, by decide⟩ (Nat.le_of_ble_eq_true rfl) rfl (by decide) x_21 ⟨by decide, by decide⟩ dX4_ahead_74 ?_
            refine fr_iload_n (pc := 77) rfl dX4_ahead_77 ?_
            refine fr_iald (pc := 78) i1 rfl (by omega) (x_tt (by omega)) (by first | assumption | omega) (by decide) dX4_ahead_78 ?_
            exact fr_ireturn (pc := 79) rfl (by simp only [sp_ahead, fb, sr, sG, xF, g5, h10, eq_true h15, g31, ei1, ei2, h55, ei3, if_true, if_false, not_true_eq_false, not_false_eq_true, or_true, true_or, or_false, false_or, and_true, true_and, and_false, false_and, or_self, and_self, eq_self] <;> rfl) (by simp only [sp_ahead, fb, sr, sG, xF, g5, h10, eq_true h15, g31, ei1, ei2, h55, ei3, if_true, if_false, not_true_eq_false, not_false_eq_true, or_true, true_or, or_false, false_or, and_true, true_and, and_false, false_and, or_self, and_self, eq_self] <;> rfl) rfl dX4_ahead_79
          · refine fr_aload_n (pc := 58) rfl dX4_ahead_58 ?_
            refine fr_get (pc := 59) (ci := 3) (T := TX4) (k0 := 2) rfl hin_X4 (by decide) fl_X4_19 (by decide) x_0 rfl dX4_ahead_59 ?_
            refine fr_iload_n (pc := 62) rfl dX4_ahead_62 ?_
            refine fr_callV0 (pc := 63) (ci := 0) (T := TX0) (N := 15) [.int (nI i1)] [] (ev_T (fun _ => c_X0_needs (by omega) (by first | assumption | omega))) gc_X4_98 rfl rfl ⟨rfl, rfl, by decide, by decide⟩ (Nat.le_of_ble_eq_true rfl) rfl (by decide) x_21 ⟨by decide, by decide⟩ dX4_ahead_63 ?_
            refine fr_goto (pc := 66) 79 (by decide) dX4_ahead_66 ?_
            exact fr_ireturn (pc := 79) rfl (by simp only [sp_ahead, fb, sr, sG, xF, g5, h10, eq_true h15, g31, ei1, ei2, eq_true h55, if_true, if_false, not_true_eq_false, not_false_eq_true, or_true, true_or, or_false, false_or, and_true, true_and, and_false, false_and, or_self, and_self, eq_self] <;> rfl) (by simp only [sp_ahead, fb, sr, sG, xF, g5, h10, eq_true h15, g31, ei1, ei2, eq_true h55, if_true, if_false, not_true_eq_false, not_false_eq_true, or_true, true_or, or_false, false_or, and_true, true_and, and_false, false_and, or_self, and_self, eq_self] <;> rfl) rfl dX4_ahead_79
        · have g31 := bI_0.mp h31
          refine fr_aload_n (pc := 34) rfl dX4_ahead_34 ?_
          refine fr_iconst (pc := 35) (v := 0) rfl dX4_ahead_35 ?_
          refine fr_callV0 (pc := 36) (ci := 3) (T := TX4) (N := 7) [.int 0] [] (c_X4_found (k := 0) (by decide)) gc_X4_51 rfl rfl ⟨rfl, rfl, by decide, by decide⟩ (Nat.le_of_ble_eq_true rfl) rfl (by decide) x_0 ⟨by decide, by decide⟩ dX4_ahead_36 ?_
          exact fr_ireturn (pc := 39) rfl (by simp only [sp_ahead, fb, sr, sG, xF, g5, h10, eq_true h15, g31, if_true, if_false, not_true_eq_false, not_false_eq_true, or_true, true_or, or_false, false_or, and_true, true_and, and_false, false_and, or_self, and_self, eq_self] <;> rfl) (by simp only [sp_ahead, fb, sr, sG, xF, g5, h10, eq_true h15, g31, if_true, if_false, not_true_eq_false, not_false_eq_true, or_true, true_or, or_false, false_or, and_true, true_and, and_false, false_and, or_self, and_self, eq_self] <;> rfl) rfl dX4_ahead_39
      · refine fr_iload_n (pc := 18) rfl dX4_ahead_18 ?_
        refine fr_bipush (pc := 19) (v := 6) rfl dX4_ahead_19 ?_
        refine fr_icmp_ne (pc := 21) 34 (by decide) dX4_ahead_21 (fun h21 => ?_) (fun h21 => ?_)
        · refine fr_aload_n (pc := 34) rfl dX4_ahead_34 ?_
          refine fr_iconst (pc := 35) (v := 0) rfl dX4_ahead_35 ?_
          refine fr_callV0 (pc := 36) (ci := 3) (T := TX4) (N := 7) [.int 0] [] (c_X4_found (k := 0) (by decide)) gc_X4_51 rfl rfl ⟨rfl, rfl, by decide, by decide⟩ (Nat.le_of_ble_eq_true rfl) rfl (by decide) x_0 ⟨by decide, by decide⟩ dX4_ahead_36 ?_
          exact fr_ireturn (pc := 39) rfl (by simp only [sp_ahead, fb, sr, sG, xF, g5, h10, h15, h21, if_true, if_false, not_true_eq_false, not_false_eq_true, or_true, true_or, or_false, false_or, and_true, true_and, and_false, false_and, or_self, and_self, eq_self] <;> rfl) (by simp only [sp_ahead, fb, sr, sG, xF, g5, h10, h15, h21, if_true, if_false, not_true_eq_false, not_false_eq_true, or_true, true_or, or_false, false_or, and_true, true_and, and_false, false_and, or_self, and_self, eq_self] <;> rfl) rfl dX4_ahead_39
        · refine fr_iload_n (pc := 24) rfl dX4_ahead_24 ?_
          refine fr_iconst (pc := 25) (v := 0) rfl dX4_ahead_25 ?_
          refine fr_bipush (pc := 26) (v := 100) rfl dX4_ahead_26 ?_
          refine fr_callS0 (pc := 28) [.int n, .int 0, .int 100] [] (c_X4_within) gc_X4_44 rfl rfl ⟨rfl, rfl, by decide, by decide⟩ (Nat.le_of_ble_eq_true rfl) ⟨by decide, by decide⟩ dX4_ahead_28 ?_
          refine fr_if_ne (pc := 31) 40 (by decide) dX4_ahead_31 (fun h31 => ?_) (fun h31 => ?_)
          · have g31 := bI_n0 h31
            obtain ⟨i1, hi1, rfl⟩ := sG_nI w g5
            have ei1 : (nI i1).toNatClampNeg = i1 := nI_clamp (by have := w.ctl; omega)
            have li1 : i1 < 8 := by have := w.ctl; omega
            obtain ⟨i2, hi2, rfl⟩ := wi_nI (N := 100) g31 rfl
            have ei2 : (nI i2).toNatClampNeg = i2 := nI_clamp (by omega)
            refine fr_aload_n (pc := 40) rfl dX4_ahead_40 ?_
            refine fr_callV0 (pc := 41) (ci := 3) (T := TX4) (N := 7) [] [] (c_X4_startTrial) gc_X4_152 rfl rfl ⟨rfl, rfl, by decide, by decide⟩ (Nat.le_of_ble_eq_true rfl) rfl (by decide) x_0 ⟨by decide, by decide⟩ dX4_ahead_41 ?_
            refine fr_aload_n (pc := 44) rfl dX4_ahead_44 ?_
            refine fr_get (pc := 45) (ci := 3) (T := TX4) (k0 := 2) rfl hin_X4 (by decide) fl_X4_19 (by decide) x_0 rfl dX4_ahead_45 ?_
            refine fr_iload_n (pc := 48) rfl dX4_ahead_48 ?_
            refine fr_callV0 (pc := 49) (ci := 0) (T := TX0) (N := 15) [.int (nI i2)] [] (ev_T (fun _ => c_X0_passHours (by omega) (by assumption) (by omega))) gc_X4_132 rfl rfl ⟨rfl, rfl, by decide, by decide⟩ (Nat.le_of_ble_eq_true rfl) rfl (by decide) x_21 ⟨by decide, by decide⟩ dX4_ahead_49 ?_
            have w2 := wf_hours i2 r w
            refine fr_iload_n (pc := 52) rfl dX4_ahead_52 ?_
            refine fr_bipush (pc := 53) (v := 6) rfl dX4_ahead_53 ?_
            refine fr_icmp_ne (pc := 55) 69 (by decide) dX4_ahead_55 (fun h55 => ?_) (fun h55 => ?_)
            · exact absurd h21 h55
            · refine fr_aload_n (pc := 58) rfl dX4_ahead_58 ?_
              refine fr_get (pc := 59) (ci := 3) (T := TX4) (k0 := 2) rfl hin_X4 (by decide) fl_X4_19 (by decide) x_0 rfl dX4_ahead_59 ?_
              refine fr_iload_n (pc := 62) rfl dX4_ahead_62 ?_
              refine fr_callV0 (pc := 63) (ci := 0) (T := TX0) (N := 15) [.int (nI i1)] [] (ev_T (fun _ => c_X0_needs (by omega) (by first | assumption | omega))) gc_X4_98 rfl rfl ⟨rfl, rfl, by decide, by decide⟩ (Nat.le_of_ble_eq_true rfl) rfl (by decide) x_21 ⟨by decide, by decide⟩ dX4_ahead_63 ?_
              refine fr_goto (pc := 66) 79 (by decide) dX4_ahead_66 ?_
              exact fr_ireturn (pc := 79) rfl (by simp only [sp_ahead, fb, sr, sG, xF, g5, h10, h15, eq_true h21, g31, ei1, ei2, eq_true h55, if_true, if_false, not_true_eq_false, not_false_eq_true, or_true, true_or, or_false, false_or, and_true, true_and, and_false, false_and, or_self, and_self, eq_self] <;> rfl) (by simp only [sp_ahead, fb, sr, sG, xF, g5, h10, h15, eq_true h21, g31, ei1, ei2, eq_true h55, if_true, if_false, not_true_eq_false, not_false_eq_true, or_true, true_or, or_false, false_or, and_true, true_and, and_false, false_and, or_self, and_self, eq_self] <;> rfl) rfl dX4_ahead_79
          · have g31 := bI_0.mp h31
            refine fr_aload_n (pc := 34) rfl dX4_ahead_34 ?_
            refine fr_iconst (pc := 35) (v := 0) rfl dX4_ahead_35 ?_
            refine fr_callV0 (pc := 36) (ci := 3) (T := TX4) (N := 7) [.int 0] [] (c_X4_found (k := 0) (by decide)) gc_X4_51 rfl rfl ⟨rfl, rfl, by decide, by decide⟩ (Nat.le_of_ble_eq_true rfl) rfl (by decide) x_0 ⟨by decide, by decide⟩ dX4_ahead_36 ?_
            exact fr_ireturn (pc := 39) rfl (by simp only [sp_ahead, fb, sr, sG, xF, g5, h10, h15, eq_true h21, g31, if_true, if_false, not_true_eq_false, not_false_eq_true, or_true, true_or, or_false, false_or, and_true, true_and, and_false, false_and, or_self, and_self, eq_self] <;> rfl) (by simp only [sp_ahead, fb, sr, sG, xF, g5, h10, h15, eq_true h21, g31, if_true, if_false, not_true_eq_false, not_false_eq_true, or_true, true_or, or_false, false_or, and_true, true_and, and_false, false_and, or_self, and_self, eq_self] <;> rfl) rfl dX4_ahead_39
set_option maxRecDepth 100000 in
theorem x_now {Γ : aG} {l : Launch} {M : Nat → aC} {r rk t : rT} {ik : Int32} {S : sT} {b : Nat → Int32} {ln : Int32} {J : Int32 × Int32 × Int32 × Int32} {fi : Nat → Int32} {a : Int32} (w : wf r)  : Ev Γ l mX4_now [.ref 0, .int a] 54 (xM M r rk t ik S (b, ln, J) fi) (some (.int (sp_now (r, rk, ik, S, b, ln, fi) a).1)) 54 (xF M t J (sp_now (r, rk, ik, S, b, ln, fi) a).2) := by
  refine Ev.of [(0, .ref 0), (1, .int a)] (by decide) (Nat.le_of_ble_eq_true rfl) rfl ?_
  refine fr_iload_n (pc := 0) rfl dX4_now_0 ?_
  by_cases hk1_0 : a = 0
  · refine fr_tIn (pc := 1) 48 (by rw [hk1_0]; decide) (by rw [hk1_0]; decide) (by rw [hk1_0]; rfl) (by decide) dX4_now_1 ?_
    refine fr_aload_n (pc := 48) rfl dX4_now_48 ?_
    refine fr_get (pc := 49) (ci := 3) (T := TX4) (k0 := 0) rfl hin_X4 (by decide) fl_X4_10 (by decide) x_0 rfl dX4_now_49 ?_
    refine fr_get (pc := 52) (ci := 0) (T := TX0) (k0 := 5) rfl hin_X0 (by decide) fl_X4_109 (by decide) x_1 rfl dX4_now_52 ?_
    exact fr_ireturn (pc := 55) rfl (by simp only [sp_now, fb, sr, sG, xF, eq_true hk1_0, if_true, if_false, not_true_eq_false, not_false_eq_true, or_true, true_or, or_false, false_or, and_true, true_and, and_false, false_and, or_self, and_self, eq_self] <;> rfl) (by simp only [sp_now, fb, sr, sG, xF, eq_true hk1_0, if_true, if_false, not_true_eq_false, not_false_eq_true, or_true, true_or, or_false, false_or, and_true, true_and, and_false, false_and, or_self, and_self, eq_self] <;> rfl) rfl dX4_now_55
  by_cases hk1_1 : a = 1
  · refine fr_tIn (pc := 1) 56 (by rw [hk1_1]; decide) (by rw [hk1_1]; decide) (by rw [hk1_1]; rfl) (by decide) dX4_now_1 ?_
    refine fr_aload_n (pc := 56) rfl dX4_now_56 ?_
    refine fr_get (pc := 57) (ci := 3) (T := TX4) (k0 := 0) rfl hin_X4 (by decide) fl_X4_10 (by decide) x_0 rfl dX4_now_57 ?_
    refine fr_callV0 (pc := 60) (ci := 0) (T := TX0) (N := 15) [] [] (ev_H (fun _ => c_X0_measureNow (by omega) (by assumption))) gc_X4_136 rfl rfl ⟨rfl, rfl, by decide, by decide⟩ (Nat.le_of_ble_eq_true rfl) rfl (by decide) x_1 ⟨by decide, by decide⟩ dX4_now_60 ?_
    exact fr_ireturn (pc := 63) rfl (by simp only [sp_now, fb, sr, sG, xF, hk1_0, eq_true hk1_1, if_true, if_false, not_true_eq_false, not_false_eq_true, or_true, true_or, or_false, false_or, and_true, true_and, and_false, false_and, or_self, and_self, eq_self] <;> rfl) (by simp only [sp_now, fb, sr, sG, xF, hk1_0, eq_true hk1_1, if_true, if_false, not_true_eq_false, not_false_eq_true, or_true, true_or, or_false, false_or, and_true, true_and, and_false, false_and, or_self, and_self, eq_self] <;> rfl) rfl dX4_now_63
  by_cases hk1_2 : a = 2
  · refine fr_tIn (pc := 1) 64 (by rw [hk1_2]; decide) (by rw [hk1_2]; decide) (by rw [hk1_2]; rfl) (by decide) dX4_now_1 ?_
    refine fr_aload_n (pc := 64) rfl dX4_now_64 ?_
    refine fr_get (pc := 65) (ci := 3) (T := TX4) (k0 := 0) rfl hin_X4 (by decide) fl_X4_10 (by decide) x_0 rfl dX4_now_65 ?_
    refine fr_get (pc := 68) (ci := 0) (T := TX0) (k0 := 3) rfl hin_X0 (by decide) fl_X4_59 (by decide) x_1 rfl dX4_now_68 ?_
    exact fr_ireturn (pc := 71) rfl (by simp only [sp_now, fb, sr, sG, xF, hk1_0, hk1_1, eq_true hk1_2, if_true, if_false, not_true_eq_false, not_false_eq_true, or_true, true_or, or_false, false_or, and_true, true_and, and_false, false_and, or_self, and_self, eq_self] <;> rfl) (by simp only [sp_now, fb, sr, sG, xF, hk1_0, hk1_1, eq_true hk1_2, if_true, if_false, not_true_eq_false, not_false_eq_true, or_true, true_or, or_false, false_or, and_true, true_and, and_false, false_and, or_self, and_self, eq_self] <;> rfl) rfl dX4_now_71
  by_cases hk1_3 : a = 3
  · refine fr_tIn (pc := 1) 72 (by rw [hk1_3]; decide) (by rw [hk1_3]; decide) (by rw [hk1_3]; rfl) (by decide) dX4_now_1 ?_
    refine fr_aload_n (pc := 72) rfl dX4_now_72 ?_
    refine fr_get (pc := 73) (ci := 3) (T := TX4) (k0 := 0) rfl hin_X4 (by decide) fl_X4_10 (by decide) x_0 rfl dX4_now_73 ?_
    refine fr_get (pc := 76) (ci := 0) (T := TX0) (k0 := 4) rfl hin_X0 (by decide) fl_X4_62 (by decide) x_1 rfl dX4_now_76 ?_
    exact fr_ireturn (pc := 79) rfl (by simp only [sp_now, fb, sr, sG, xF, hk1_0, hk1_1, hk1_2, eq_true hk1_3, if_true, if_false, not_true_eq_false, not_false_eq_true, or_true, true_or, or_false, false_or, and_true, true_and, and_false, false_and, or_self, and_self, eq_self] <;> rfl) (by simp only [sp_now, fb, sr, sG, xF, hk1_0, hk1_1, hk1_2, eq_true hk1_3, if_true, if_false, not_true_eq_false, not_false_eq_true, or_true, true_or, or_false, false_or, and_true, true_and, and_false, false_and, or_self, and_self, eq_self] <;> rfl) rfl dX4_now_79
  by_cases hk1_4 : a = 4
  · refine fr_tIn (pc := 1) 80 (by rw [hk1_4]; decide) (by rw [hk1_4]; decide) (by rw [hk1_4]; rfl) (by decide) dX4_now_1 ?_
    refine fr_aload_n (pc := 80) rfl dX4_now_80 ?_
    refine fr_get (pc := 81) (ci := 3) (T := TX4) (k0 := 0) rfl hin_X4 (by decide) fl_X4_10 (by decide) x_0 rfl dX4_now_81 ?_
    refine fr_callV0 (pc := 84) (ci := 0) (T := TX0) (N := 15) [] [] (ev_H (fun _ => c_X0_thoseStuck (by omega) (by assumption))) gc_X4_140 rfl rfl ⟨rfl, rfl, by decide, by decide⟩ (Nat.le_of_ble_eq_true rfl) rfl (by decide) x_1 ⟨by decide, by decide⟩ dX4_now_84 ?_
    exact fr_ireturn (pc := 87) rfl (by simp only [sp_now, fb, sr, sG, xF, hk1_0, hk1_1, hk1_2, hk1_3, eq_true hk1_4, if_true, if_false, not_true_eq_false, not_false_eq_true, or_true, true_or, or_false, false_or, and_true, true_and, and_false, false_and, or_self, and_self, eq_self] <;> rfl) (by simp only [sp_now, fb, sr, sG, xF, hk1_0, hk1_1, hk1_2, hk1_3, eq_true hk1_4, if_true, if_false, not_true_eq_false, not_false_eq_true, or_true, true_or, or_false, false_or, and_true, true_and, and_false, false_and, or_self, and_self, eq_self] <;> rfl) rfl dX4_now_87
  by_cases hk1_5 : a = 5
  · refine fr_tIn (pc := 1) 88 (by rw [hk1_5]; decide) (by rw [hk1_5]; decide) (by rw [hk1_5]; rfl) (by decide) dX4_now_1 ?_
    refine fr_aload_n (pc := 88) rfl dX4_now_88 ?_
    refine fr_get (pc := 89) (ci := 3) (T := TX4) (k0 := 0) rfl hin_X4 (by decide) fl_X4_10 (by decide) x_0 rfl dX4_now_89 ?_
    refine fr_callV0 (pc := 92) (ci := 0) (T := TX0) (N := 15) [] [] (ev_H (fun _ => c_X0_thoseAtAim (by omega) (by assumption))) gc_X4_143 rfl rfl ⟨rfl, rfl, by decide, by decide⟩ (Nat.le_of_ble_eq_true rfl) rfl (by decide) x_1 ⟨by decide, by decide⟩ dX4_now_92 ?_
    exact fr_ireturn (pc := 95) rfl (by simp only [sp_now, fb, sr, sG, xF, hk1_0, hk1_1, hk1_2, hk1_3, hk1_4, eq_true hk1_5, if_true, if_false, not_true_eq_false, not_false_eq_true, or_true, true_or, or_false, false_or, and_true, true_and, and_false, false_and, or_self, and_self, eq_self] <;> rfl) (by simp only [sp_now, fb, sr, sG, xF, hk1_0, hk1_1, hk1_2, hk1_3, hk1_4, eq_true hk1_5, if_true, if_false, not_true_eq_false, not_false_eq_true, or_true, true_or, or_false, false_or, and_true, true_and, and_false, false_and, or_self, and_self, eq_self] <;> rfl) rfl dX4_now_95
  by_cases hk1_6 : a = 6
  · refine fr_tIn (pc := 1) 96 (by rw [hk1_6]; decide) (by rw [hk1_6]; decide) (by rw [hk1_6]; rfl) (by decide) dX4_now_1 ?_
    refine fr_aload_n (pc := 96) rfl dX4_now_96 ?_
    refine fr_get (pc := 97) (ci := 3) (T := TX4) (k0 := 0) rfl hin_X4 (by decide) fl_X4_10 (by decide) x_0 rfl dX4_now_97 ?_
    refine fr_callV0 (pc := 100) (ci := 0) (T := TX0) (N := 15) [] [] (ev_H (fun _ => c_X0_thoseInHall (by omega) (by assumption))) gc_X4_146 rfl rfl ⟨rfl, rfl, by decide, by decide⟩ (Nat.le_of_ble_eq_true rfl) rfl (by decide) x_1 ⟨by decide, by decide⟩ dX4_now_100 ?_
    exact fr_ireturn (pc := 103) rfl (by simp only [sp_now, fb, sr, sG, xF, hk1_0, hk1_1, hk1_2, hk1_3, hk1_4, hk1_5, eq_true hk1_6, if_true, if_false, not_true_eq_false, not_false_eq_true, or_true, true_or, or_false, false_or, and_true, true_and, and_false, false_and, or_self, and_self, eq_self] <;> rfl) (by simp only [sp_now, fb, sr, sG, xF, hk1_0, hk1_1, hk1_2, hk1_3, hk1_4, hk1_5, eq_true hk1_6, if_true, if_false, not_true_eq_false, not_false_eq_true, or_true, true_or, or_false, false_or, and_true, true_and, and_false, false_and, or_self, and_self, eq_self] <;> rfl) rfl dX4_now_103
  by_cases hk1_7 : a = 7
  · refine fr_tIn (pc := 1) 104 (by rw [hk1_7]; decide) (by rw [hk1_7]; decide) (by rw [hk1_7]; rfl) (by decide) dX4_now_1 ?_
    refine fr_aload_n (pc := 104) rfl dX4_now_104 ?_
    refine fr_get (pc := 105) (ci := 3) (T := TX4) (k0 := 0) rfl hin_X4 (by decide) fl_X4_10 (by decide) x_0 rfl dX4_now_105 ?_
    refine fr_callV0 (pc := 108) (ci := 0) (T := TX0) (N := 15) [] [] (ev_H (fun _ => c_X0_closedCells (by omega) (by assumption))) gc_X4_149 rfl rfl ⟨rfl, rfl, by decide, by decide⟩ (Nat.le_of_ble_eq_true rfl) rfl (by decide) x_1 ⟨by decide, by decide⟩ dX4_now_108 ?_
    exact fr_ireturn (pc := 111) rfl (by simp only [sp_now, fb, sr, sG, xF, hk1_0, hk1_1, hk1_2, hk1_3, hk1_4, hk1_5, hk1_6, eq_true hk1_7, if_true, if_false, not_true_eq_false, not_false_eq_true, or_true, true_or, or_false, false_or, and_true, true_and, and_false, false_and, or_self, and_self, eq_self] <;> rfl) (by simp only [sp_now, fb, sr, sG, xF, hk1_0, hk1_1, hk1_2, hk1_3, hk1_4, hk1_5, hk1_6, eq_true hk1_7, if_true, if_false, not_true_eq_false, not_false_eq_true, or_true, true_or, or_false, false_or, and_true, true_and, and_false, false_and, or_self, and_self, eq_self] <;> rfl) rfl dX4_now_111
  refine fr_tOut (pc := 1) 112 (sw_0_7 hk1_0 hk1_1 hk1_2 hk1_3 hk1_4 hk1_5 hk1_6 hk1_7) (by decide) dX4_now_1 ?_
  refine fr_aload_n (pc := 112) rfl dX4_now_112 ?_
  refine fr_iconst (pc := 113) (v := 0) rfl dX4_now_113 ?_
  refine fr_callV0 (pc := 114) (ci := 3) (T := TX4) (N := 7) [.int 0] [] (c_X4_found (k := 0) (by decide)) gc_X4_51 rfl rfl ⟨rfl, rfl, by decide, by decide⟩ (Nat.le_of_ble_eq_true rfl) rfl (by decide) x_0 ⟨by decide, by decide⟩ dX4_now_114 ?_
  exact fr_ireturn (pc := 117) rfl (by simp only [sp_now, fb, sr, sG, xF, hk1_0, hk1_1, hk1_2, hk1_3, hk1_4, hk1_5, hk1_6, hk1_7, if_true, if_false, not_true_eq_false, not_false_eq_true, or_true, true_or, or_false, false_or, and_true, true_and, and_false, false_and, or_self, and_self, eq_self] <;> rfl) (by simp only [sp_now, fb, sr, sG, xF, hk1_0, hk1_1, hk1_2, hk1_3, hk1_4, hk1_5, hk1_6, hk1_7, if_true, if_false, not_true_eq_false, not_false_eq_true, or_true, true_or, or_false, false_or, and_true, true_and, and_false, false_and, or_self, and_self, eq_self] <;> rfl) rfl dX4_now_117
set_option maxRecDepth 100000 in
theorem x_count {Γ : aG} {l : Launch} {M : Nat → aC} {r rk t : rT} {ik : Int32} {S : sT} {b : Nat → Int32} {ln : Int32} {J : Int32 × Int32 × Int32 × Int32} {fi : Nat → Int32} {a : Int32} (w : wf r)  : Ev Γ l mX4_count [.ref 0, .int a] 54 (xM M r rk t ik S (b, ln, J) fi) (some (.int (sp_count (r, rk, ik, S, b, ln, fi) a).1)) 54 (xF M t J (sp_count (r, rk, ik, S, b, ln, fi) a).2) := by
  refine Ev.of [(0, .ref 0), (1, .int a)] (by decide) (Nat.le_of_ble_eq_true rfl) rfl ?_
  refine fr_iload_n (pc := 0) rfl dX4_count_0 ?_
  by_cases hk1_0 : a = 0
  · refine fr_tIn (pc := 1) 48 (by rw [hk1_0]; decide) (by rw [hk1_0]; decide) (by rw [hk1_0]; rfl) (by decide) dX4_count_1 ?_
    refine fr_aload_n (pc := 48) rfl dX4_count_48 ?_
    refine fr_get (pc := 49) (ci := 3) (T := TX4) (k0 := 0) rfl hin_X4 (by decide) fl_X4_10 (by decide) x_0 rfl dX4_count_49 ?_
    refine fr_get (pc := 52) (ci := 0) (T := TX0) (k0 := 5) rfl hin_X0 (by decide) fl_X4_109 (by decide) x_1 rfl dX4_count_52 ?_
    exact fr_ireturn (pc := 55) rfl (by simp only [sp_count, fb, sr, sG, xF, eq_true hk1_0, if_true, if_false, not_true_eq_false, not_false_eq_true, or_true, true_or, or_false, false_or, and_true, true_and, and_false, false_and, or_self, and_self, eq_self] <;> rfl) (by simp only [sp_count, fb, sr, sG, xF, eq_true hk1_0, if_true, if_false, not_true_eq_false, not_false_eq_true, or_true, true_or, or_false, false_or, and_true, true_and, and_false, false_and, or_self, and_self, eq_self] <;> rfl) rfl dX4_count_55
  by_cases hk1_1 : a = 1
  · refine fr_tIn (pc := 1) 56 (by rw [hk1_1]; decide) (by rw [hk1_1]; decide) (by rw [hk1_1]; rfl) (by decide) dX4_count_1 ?_
    refine fr_aload_n (pc := 56) rfl dX4_count_56 ?_
    refine fr_get (pc := 57) (ci := 3) (T := TX4) (k0 := 0) rfl hin_X4 (by decide) fl_X4_10 (by decide) x_0 rfl dX4_count_57 ?_
    refine fr_get (pc := 60) (ci := 0) (T := TX0) (k0 := 6) rfl hin_X0 (by decide) fl_X4_176 (by decide) x_1 rfl dX4_count_60 ?_
    exact fr_ireturn (pc := 63) rfl (by simp only [sp_count, fb, sr, sG, xF, hk1_0, eq_true hk1_1, if_true, if_false, not_true_eq_false, not_false_eq_true, or_true, true_or, or_false, false_or, and_true, true_and, and_false, false_and, or_self, and_self, eq_self] <;> rfl) (by simp only [sp_count, fb, sr, sG, xF, hk1_0, eq_true hk1_1, if_true, if_false, not_true_eq_false, not_false_eq_true, or_true, true_or, or_false, false_or, and_true, true_and, and_false, false_and, or_self, and_self, eq_self] <;> rfl) rfl dX4_count_63
  by_cases hk1_2 : a = 2
  · refine fr_tIn (pc := 1) 64 (by rw [hk1_2]; decide) (by rw [hk1_2]; decide) (by rw [hk1_2]; rfl) (by decide) dX4_count_1 ?_
    refine fr_aload_n (pc := 64) rfl dX4_count_64 ?_
    refine fr_get (pc := 65) (ci := 3) (T := TX4) (k0 := 0) rfl hin_X4 (by decide) fl_X4_10 (by decide) x_0 rfl dX4_count_65 ?_
    refine fr_get (pc := 68) (ci := 0) (T := TX0) (k0 := 3) rfl hin_X0 (by decide) fl_X4_59 (by decide) x_1 rfl dX4_count_68 ?_
    exact fr_ireturn (pc := 71) rfl (by simp only [sp_count, fb, sr, sG, xF, hk1_0, hk1_1, eq_true hk1_2, if_true, if_false, not_true_eq_false, not_false_eq_true, or_true, true_or, or_false, false_or, and_true, true_and, and_false, false_and, or_self, and_self, eq_self] <;> rfl) (by simp only [sp_count, fb, sr, sG, xF, hk1_0, hk1_1, eq_true hk1_2, if_true, if_false, not_true_eq_false, not_false_eq_true, or_true, true_or, or_false, false_or, and_true, true_and, and_false, false_and, or_self, and_self, eq_self] <;> rfl) rfl dX4_count_71
  by_cases hk1_3 : a = 3
  · refine fr_tIn (pc := 1) 72 (by rw [hk1_3]; decide) (by rw [hk1_3]; decide) (by rw [hk1_3]; rfl) (by decide) dX4_count_1 ?_
    refine fr_aload_n (pc := 72) rfl dX4_count_72 ?_
    refine fr_get (pc := 73) (ci := 3) (T := TX4) (k0 := 0) rfl hin_X4 (by decide) fl_X4_10 (by decide) x_0 rfl dX4_count_73 ?_
    refine fr_get (pc := 76) (ci := 0) (T := TX0) (k0 := 4) rfl hin_X0 (by decide) fl_X4_62 (by decide) x_1 rfl dX4_count_76 ?_
    exact fr_ireturn (pc := 79) rfl (by simp only [sp_count, fb, sr, sG, xF, hk1_0, hk1_1, hk1_2, eq_true hk1_3, if_true, if_false, not_true_eq_false, not_false_eq_true, or_true, true_or, or_false, false_or, and_true, true_and, and_false, false_and, or_self, and_self, eq_self] <;> rfl) (by simp only [sp_count, fb, sr, sG, xF, hk1_0, hk1_1, hk1_2, eq_true hk1_3, if_true, if_false, not_true_eq_false, not_false_eq_true, or_true, true_or, or_false, false_or, and_true, true_and, and_false, false_and, or_self, and_self, eq_self] <;> rfl) rfl dX4_count_79
  by_cases hk1_4 : a = 4
  · refine fr_tIn (pc := 1) 80 (by rw [hk1_4]; decide) (by rw [hk1_4]; decide) (by rw [hk1_4]; rfl) (by decide) dX4_count_1 ?_
    refine fr_aload_n (pc := 80) rfl dX4_count_80 ?_
    refine fr_get (pc := 81) (ci := 3) (T := TX4) (k0 := 0) rfl hin_X4 (by decide) fl_X4_10 (by decide) x_0 rfl dX4_count_81 ?_
    refine fr_callV0 (pc := 84) (ci := 0) (T := TX0) (N := 15) [] [] (ev_H (fun _ => c_X0_howManyHome (by omega) (by assumption))) gc_X4_277 rfl rfl ⟨rfl, rfl, by decide, by decide⟩ (Nat.le_of_ble_eq_true rfl) rfl (by decide) x_1 ⟨by decide, by decide⟩ dX4_count_84 ?_
    exact fr_ireturn (pc := 87) rfl (by simp only [sp_count, fb, sr, sG, xF, hk1_0, hk1_1, hk1_2, hk1_3, eq_true hk1_4, if_true, if_false, not_true_eq_false, not_false_eq_true, or_true, true_or, or_false, false_or, and_true, true_and, and_false, false_and, or_self, and_self, eq_self] <;> rfl) (by simp only [sp_count, fb, sr, sG, xF, hk1_0, hk1_1, hk1_2, hk1_3, eq_true hk1_4, if_true, if_false, not_true_eq_false, not_false_eq_true, or_true, true_or, or_false, false_or, and_true, true_and, and_false, false_and, or_self, and_self, eq_self] <;> rfl) rfl dX4_count_87
  by_cases hk1_5 : a = 5
  · refine fr_tIn (pc := 1) 88 (by rw [hk1_5]; decide) (by rw [hk1_5]; decide) (by rw [hk1_5]; rfl) (by decide) dX4_count_1 ?_
    refine fr_aload_n (pc := 88) rfl dX4_count_88 ?_
    refine fr_get (pc := 89) (ci := 3) (T := TX4) (k0 := 5) rfl hin_X4 (by decide) fl_X4_36 (by decide) x_0 rfl dX4_count_89 ?_
    refine fr_get (pc := 92) (ci := 2) (T := TX3) (k0 := 1) rfl hin_X3 (by decide) fl_X4_214 (by decide) x_39 rfl dX4_count_92 ?_
    exact fr_ireturn (pc := 95) rfl (by simp only [sp_count, fb, sr, sG, xF, hk1_0, hk1_1, hk1_2, hk1_3, hk1_4, eq_true hk1_5, if_true, if_false, not_true_eq_false, not_false_eq_true, or_true, true_or, or_false, false_or, and_true, true_and, and_false, false_and, or_self, and_self, eq_self] <;> rfl) (by simp only [sp_count, fb, sr, sG, xF, hk1_0, hk1_1, hk1_2, hk1_3, hk1_4, eq_true hk1_5, if_true, if_false, not_true_eq_false, not_false_eq_true, or_true, true_or, or_false, false_or, and_true, true_and, and_false, false_and, or_self, and_self, eq_self] <;> rfl) rfl dX4_count_95
  by_cases hk1_6 : a = 6
  · refine fr_tIn (pc := 1) 96 (by rw [hk1_6]; decide) (by rw [hk1_6]; decide) (by rw [hk1_6]; rfl) (by decide) dX4_count_1 ?_
    refine fr_aload_n (pc := 96) rfl dX4_count_96 ?_
    refine fr_get (pc := 97) (ci := 3) (T := TX4) (k0 := 0) rfl hin_X4 (by decide) fl_X4_10 (by decide) x_0 rfl dX4_count_97 ?_
    refine fr_get (pc := 100) (ci := 0) (T := TX0) (k0 := 13) rfl hin_X0 (by decide) fl_X4_206 (by decide) x_1 rfl dX4_count_100 ?_
    exact fr_ireturn (pc := 103) rfl (by simp only [sp_count, fb, sr, sG, xF, hk1_0, hk1_1, hk1_2, hk1_3, hk1_4, hk1_5, eq_true hk1_6, if_true, if_false, not_true_eq_false, not_false_eq_true, or_true, true_or, or_false, false_or, and_true, true_and, and_false, false_and, or_self, and_self, eq_self] <;> rfl) (by simp only [sp_count, fb, sr, sG, xF, hk1_0, hk1_1, hk1_2, hk1_3, hk1_4, hk1_5, eq_true hk1_6, if_true, if_false, not_true_eq_false, not_false_eq_true, or_true, true_or, or_false, false_or, and_true, true_and, and_false, false_and, or_self, and_self, eq_self] <;> rfl) rfl dX4_count_103
  by_cases hk1_7 : a = 7
  · refine fr_tIn (pc := 1) 104 (by rw [hk1_7]; decide) (by rw [hk1_7]; decide) (by rw [hk1_7]; rfl) (by decide) dX4_count_1 ?_
    refine fr_aload_n (pc := 104) rfl dX4_count_104 ?_
    refine fr_get (pc := 105) (ci := 3) (T := TX4) (k0 := 0) rfl hin_X4 (by decide) fl_X4_10 (by decide) x_0 rfl dX4_count_105 ?_
    refine fr_callV0 (pc := 108) (ci := 0) (T := TX0) (N := 15) [] [] (ev_H (fun _ => c_X0_howManyHeld (by omega))) gc_X4_280 rfl rfl ⟨rfl, rfl, by decide, by decide⟩ (Nat.le_of_ble_eq_true rfl) rfl (by decide) x_1 ⟨by decide, by decide⟩ dX4_count_108 ?_
    exact fr_ireturn (pc := 111) rfl (by simp only [sp_count, fb, sr, sG, xF, hk1_0, hk1_1, hk1_2, hk1_3, hk1_4, hk1_5, hk1_6, eq_true hk1_7, if_true, if_false, not_true_eq_false, not_false_eq_true, or_true, true_or, or_false, false_or, and_true, true_and, and_false, false_and, or_self, and_self, eq_self] <;> rfl) (by simp only [sp_count, fb, sr, sG, xF, hk1_0, hk1_1, hk1_2, hk1_3, hk1_4, hk1_5, hk1_6, eq_true hk1_7, if_true, if_false, not_true_eq_false, not_false_eq_true, or_true, true_or, or_false, false_or, and_true, true_and, and_false, false_and, or_self, and_self, eq_self] <;> rfl) rfl dX4_count_111
  refine fr_tOut (pc := 1) 112 (sw_0_7 hk1_0 hk1_1 hk1_2 hk1_3 hk1_4 hk1_5 hk1_6 hk1_7) (by decide) dX4_count_1 ?_
  refine fr_aload_n (pc := 112) rfl dX4_count_112 ?_
  refine fr_iconst (pc := 113) (v := 0) rfl dX4_count_113 ?_
  refine fr_callV0 (pc := 114) (ci := 3) (T := TX4) (N := 7) [.int 0] [] (c_X4_found (k := 0) (by decide)) gc_X4_51 rfl rfl ⟨rfl, rfl, by decide, by decide⟩ (Nat.le_of_ble_eq_true rfl) rfl (by decide) x_0 ⟨by decide, by decide⟩ dX4_count_114 ?_
  exact fr_ireturn (pc := 117) rfl (by simp only [sp_count, fb, sr, sG, xF, hk1_0, hk1_1, hk1_2, hk1_3, hk1_4, hk1_5, hk1_6, hk1_7, if_true, if_false, not_true_eq_false, not_false_eq_true, or_true, true_or, or_false, false_or, and_true, true_and, and_false, false_and, or_self, and_self, eq_self] <;> rfl) (by simp only [sp_count, fb, sr, sG, xF, hk1_0, hk1_1, hk1_2, hk1_3, hk1_4, hk1_5, hk1_6, hk1_7, if_true, if_false, not_true_eq_false, not_false_eq_true, or_true, true_or, or_false, false_or, and_true, true_and, and_false, false_and, or_self, and_self, eq_self] <;> rfl) rfl dX4_count_117
set_option maxRecDepth 100000 in
theorem x_hold {Γ : aG} {l : Launch} {M : Nat → aC} {r rk t : rT} {ik : Int32} {S : sT} {b : Nat → Int32} {ln : Int32} {J : Int32 × Int32 × Int32 × Int32} {fi : Nat → Int32} {s g : Int32}  : Ev Γ l mX4_hold [.ref 0, .int s, .int g] 54 (xM M r rk t ik S (b, ln, J) fi) (some (.int (sp_hold (r, rk, ik, S, b, ln, fi) s g).1)) 54 (xF M t J (sp_hold (r, rk, ik, S, b, ln, fi) s g).2) := by
  refine Ev.of [(0, .ref 0), (1, .int s), (2, .int g)] (by decide) (Nat.le_of_ble_eq_true rfl) rfl ?_
  refine fr_iload_n (pc := 0) rfl dX4_hold_0 ?_
  refine fr_callS0 (pc := 1) [.int s] [] (c_X4_isSpot) gc_X4_225 rfl rfl ⟨rfl, rfl, by decide, by decide⟩ (Nat.le_of_ble_eq_true rfl) ⟨by decide, by decide⟩ dX4_hold_1 ?_
  refine fr_if_eq (pc := 4) 20 (by decide) dX4_hold_4 (fun h4 => ?_) (fun h4 => ?_)
  · have g4 := bI_0.mp h4
    refine fr_aload_n (pc := 20) rfl dX4_hold_20 ?_
    refine fr_iconst (pc := 21) (v := 0) rfl dX4_hold_21 ?_
    refine fr_callV0 (pc := 22) (ci := 3) (T := TX4) (N := 7) [.int 0] [] (c_X4_found (k := 0) (by decide)) gc_X4_51 rfl rfl ⟨rfl, rfl, by decide, by decide⟩ (Nat.le_of_ble_eq_true rfl) rfl (by decide) x_0 ⟨by decide, by decide⟩ dX4_hold_22 ?_
    exact fr_ireturn (pc := 25) rfl (by simp only [sp_hold, fb, sr, sG, xF, g4, if_true, if_false, not_true_eq_false, not_false_eq_true, or_true, true_or, or_false, false_or, and_true, true_and, and_false, false_and, or_self, and_self, eq_self] <;> rfl) (by simp only [sp_hold, fb, sr, sG, xF, g4, if_true, if_false, not_true_eq_false, not_false_eq_true, or_true, true_or, or_false, false_or, and_true, true_and, and_false, false_and, or_self, and_self, eq_self] <;> rfl) rfl dX4_hold_25
  · have g4 := bI_n0 h4
    refine fr_iload_n (pc := 7) rfl dX4_hold_7 ?_
    refine fr_iconst (pc := 8) (v := (-1)) rfl dX4_hold_8 ?_
    refine fr_icmp_eq (pc := 9) 26 (by decide) dX4_hold_9 (fun h9 => ?_) (fun h9 => ?_)
    · obtain ⟨i1, hi1, rfl⟩ := wi_nI (N := 9) g4 rfl
      have ei1 : (nI i1).toNatClampNeg = i1 := nI_clamp (by omega)
      refine fr_aload_n (pc := 26) rfl dX4_hold_26 ?_
      refine fr_get (pc := 27) (ci := 3) (T := TX4) (k0 := 0) rfl hin_X4 (by decide) fl_X4_10 (by decide) x_0 rfl dX4_hold_27 ?_
      refine fr_get (pc := 30) (ci := 0) (T := TX0) (k0 := 14) rfl hin_X0 (by decide) fl_X4_228 (by decide) x_1 rfl dX4_hold_30 ?_
      refine fr_iload_n (pc := 33) rfl dX4_hold_33 ?_
      refine fr_iload_n (pc := 34) rfl dX4_hold_34 ?_
      refine fr_iast (pc := 35) i1 rfl (by decide) x_h9 (by first | assumption | omega) (by decide) dX4_hold_35 ?_
      refine fr_mem x_ha8 ?_
      refine fr_iconst (pc := 36) (v := 1) rfl dX4_hold_36 ?_
      exact fr_ireturn (pc := 37) rfl (by simp only [sp_hold, fb, sr, sG, xF, g4, eq_true h9, ei1, if_true, if_false, not_true_eq_false, not_false_eq_true, or_true, true_or, or_false, false_or, and_true, true_and, and_false, false_and, or_self, and_self, eq_self] <;> rfl) (by simp only [sp_hold, fb, sr, sG, xF, g4, eq_true h9, ei1, if_true, if_false, not_true_eq_false, not_false_eq_true, or_true, true_or, or_false, false_or, and_true, true_and, and_false, false_and, or_self, and_self, eq_self] <;> rfl) rfl dX4_hold_37
    · refine fr_aload_n (pc := 12) rfl dX4_hold_12 ?_
      refine fr_iload_n (pc := 13) rfl dX4_hold_13 ?_
      refine fr_callV0 (pc := 14) (ci := 3) (T := TX4) (N := 7) [.int g] [] (c_X4_isGuest) gc_X4_95 rfl rfl ⟨rfl, rfl, by decide, by decide⟩ (Nat.le_of_ble_eq_true rfl) rfl (by decide) x_0 ⟨by decide, by decide⟩ dX4_hold_14 ?_
      refine fr_if_ne (pc := 17) 26 (by decide) dX4_hold_17 (fun h17 => ?_) (fun h17 => ?_)
      · have g17 := bI_n0 h17
        obtain ⟨i1, hi1, rfl⟩ := wi_nI (N := 9) g4 rfl
        have ei1 : (nI i1).toNatClampNeg = i1 := nI_clamp (by omega)
        refine fr_aload_n (pc := 26) rfl dX4_hold_26 ?_
        refine fr_get (pc := 27) (ci := 3) (T := TX4) (k0 := 0) rfl hin_X4 (by decide) fl_X4_10 (by decide) x_0 rfl dX4_hold_27 ?_
        refine fr_get (pc := 30) (ci := 0) (T := TX0) (k0 := 14) rfl hin_X0 (by decide) fl_X4_228 (by decide) x_1 rfl dX4_hold_30 ?_
        refine fr_iload_n (pc := 33) rfl dX4_hold_33 ?_
        refine fr_iload_n (pc := 34) rfl dX4_hold_34 ?_
        refine fr_iast (pc := 35) i1 rfl (by decide) x_h9 (by first | assumption | omega) (by decide) dX4_hold_35 ?_
        refine fr_mem x_ha8 ?_
        refine fr_iconst (pc := 36) (v := 1) rfl dX4_hold_36 ?_
        exact fr_ireturn (pc := 37) rfl (by simp only [sp_hold, fb, sr, sG, xF, g4, h9, g17, ei1, if_true, if_false, not_true_eq_false, not_false_eq_true, or_true, true_or, or_false, false_or, and_true, true_and, and_false, false_and, or_self, and_self, eq_self] <;> rfl) (by simp only [sp_hold, fb, sr, sG, xF, g4, h9, g17, ei1, if_true, if_false, not_true_eq_false, not_false_eq_true, or_true, true_or, or_false, false_or, and_true, true_and, and_false, false_and, or_self, and_self, eq_self] <;> rfl) rfl dX4_hold_37
      · have g17 := bI_0.mp h17
        refine fr_aload_n (pc := 20) rfl dX4_hold_20 ?_
        refine fr_iconst (pc := 21) (v := 0) rfl dX4_hold_21 ?_
        refine fr_callV0 (pc := 22) (ci := 3) (T := TX4) (N := 7) [.int 0] [] (c_X4_found (k := 0) (by decide)) gc_X4_51 rfl rfl ⟨rfl, rfl, by decide, by decide⟩ (Nat.le_of_ble_eq_true rfl) rfl (by decide) x_0 ⟨by decide, by decide⟩ dX4_hold_22 ?_
        exact fr_ireturn (pc := 25) rfl (by simp only [sp_hold, fb, sr, sG, xF, g4, h9, g17, if_true, if_false, not_true_eq_false, not_false_eq_true, or_true, true_or, or_false, false_or, and_true, true_and, and_false, false_and, or_self, and_self, eq_self] <;> rfl) (by simp only [sp_hold, fb, sr, sG, xF, g4, h9, g17, if_true, if_false, not_true_eq_false, not_false_eq_true, or_true, true_or, or_false, false_or, and_true, true_and, and_false, false_and, or_self, and_self, eq_self] <;> rfl) rfl dX4_hold_25
set_option maxRecDepth 100000 in
theorem x_image {Γ : aG} {l : Launch} {M : Nat → aC} {r rk t : rT} {ik : Int32} {S : sT} {b : Nat → Int32} {ln : Int32} {J : Int32 × Int32 × Int32 × Int32} {fi : Nat → Int32}  : Ev Γ l mX4_image [.ref 0] 54 (xM M r rk t ik S (b, ln, J) fi) (some (.int (sp_image (r, rk, ik, S, b, ln, fi)).1)) 54 (xF M t J (sp_image (r, rk, ik, S, b, ln, fi)).2) := by
  refine Ev.of [(0, .ref 0)] (by decide) (Nat.le_of_ble_eq_true rfl) rfl ?_
  refine fr_aload_n (pc := 0) rfl dX4_image_0 ?_
  refine fr_get (pc := 1) (ci := 3) (T := TX4) (k0 := 1) rfl hin_X4 (by decide) fl_X4_16 (by decide) x_0 rfl dX4_image_1 ?_
  refine fr_aload_n (pc := 4) rfl dX4_image_4 ?_
  refine fr_get (pc := 5) (ci := 3) (T := TX4) (k0 := 0) rfl hin_X4 (by decide) fl_X4_10 (by decide) x_0 rfl dX4_image_5 ?_
  refine fr_callV0 (pc := 8) (ci := 0) (T := TX0) (N := 15) [.ref 1] [] (ev_KH (fun _ => c_X0_become (by decide) (by decide) (by decide))) gc_X4_221 rfl rfl ⟨rfl, rfl, by decide, by decide⟩ (Nat.le_of_ble_eq_true rfl) rfl (by decide) x_11 ⟨by decide, by decide⟩ dX4_image_8 ?_
  refine fr_aload_n (pc := 11) rfl dX4_image_11 ?_
  refine fr_iconst (pc := 12) (v := 1) rfl dX4_image_12 ?_
  refine fr_put (pc := 13) (ci := 3) (T := TX4) (k0 := 3) (ty := .boolean) tyX4 tyX4_ok nmX4 rfl hin_X4 (by decide) fl_X4_22 rfl (by decide +kernel) rfl rfl (Nat.le_of_ble_eq_true rfl) (by decide) x_0 dX4_image_13 ?_
  refine fr_mem x_u0 ?_
  refine fr_iconst (pc := 16) (v := 1) rfl dX4_image_16 ?_
  exact fr_ireturn (pc := 17) rfl (by simp only [sp_image, fb, sr, sG, xF, if_true, if_false, not_true_eq_false, not_false_eq_true, or_true, true_or, or_false, false_or, and_true, true_and, and_false, false_and, or_self, and_self, eq_self] <;> rfl) (by simp only [sp_image, fb, sr, sG, xF, if_true, if_false, not_true_eq_false, not_false_eq_true, or_true, true_or, or_false, false_or, and_true, true_and, and_false, false_and, or_self, and_self, eq_self] <;> rfl) rfl dX4_image_17
set_option maxRecDepth 100000 in
theorem x_undo {Γ : aG} {l : Launch} {M : Nat → aC} {r rk t : rT} {ik : Int32} {S : sT} {b : Nat → Int32} {ln : Int32} {J : Int32 × Int32 × Int32 × Int32} {fi : Nat → Int32}  : Ev Γ l mX4_undo [.ref 0] 54 (xM M r rk t ik S (b, ln, J) fi) (some (.int (sp_undo (r, rk, ik, S, b, ln, fi)).1)) 54 (xF M t J (sp_undo (r, rk, ik, S, b, ln, fi)).2) := by
  refine Ev.of [(0, .ref 0)] (by decide) (Nat.le_of_ble_eq_true rfl) rfl ?_
  refine fr_aload_n (pc := 0) rfl dX4_undo_0 ?_
  refine fr_get (pc := 1) (ci := 3) (T := TX4) (k0 := 3) rfl hin_X4 (by decide) fl_X4_22 (by decide) x_0 rfl dX4_undo_1 ?_
  refine fr_if_ne (pc := 4) 13 (by decide) dX4_undo_4 (fun h4 => ?_) (fun h4 => ?_)
  · refine fr_aload_n (pc := 13) rfl dX4_undo_13 ?_
    refine fr_get (pc := 14) (ci := 3) (T := TX4) (k0 := 0) rfl hin_X4 (by decide) fl_X4_10 (by decide) x_0 rfl dX4_undo_14 ?_
    refine fr_aload_n (pc := 17) rfl dX4_undo_17 ?_
    refine fr_get (pc := 18) (ci := 3) (T := TX4) (k0 := 1) rfl hin_X4 (by decide) fl_X4_16 (by decide) x_0 rfl dX4_undo_18 ?_
    refine fr_callV0 (pc := 21) (ci := 0) (T := TX0) (N := 15) [.ref 11] [] (ev_HK (fun _ => c_X0_become (by decide) (by decide) (by decide))) gc_X4_221 rfl rfl ⟨rfl, rfl, by decide, by decide⟩ (Nat.le_of_ble_eq_true rfl) rfl (by decide) x_1 ⟨by decide, by decide⟩ dX4_undo_21 ?_
    refine fr_aload_n (pc := 24) rfl dX4_undo_24 ?_
    refine fr_get (pc := 25) (ci := 3) (T := TX4) (k0 := 0) rfl hin_X4 (by decide) fl_X4_10 (by decide) x_0 rfl dX4_undo_25 ?_
    refine fr_get (pc := 28) (ci := 0) (T := TX0) (k0 := 5) rfl hin_X0 (by decide) fl_X4_109 (by decide) x_1 rfl dX4_undo_28 ?_
    exact fr_ireturn (pc := 31) rfl (by simp only [sp_undo, fb, sr, sG, xF, h4, if_true, if_false, not_true_eq_false, not_false_eq_true, or_true, true_or, or_false, false_or, and_true, true_and, and_false, false_and, or_self, and_self, eq_self] <;> rfl) (by simp only [sp_undo, fb, sr, sG, xF, h4, if_true, if_false, not_true_eq_false, not_false_eq_true, or_true, true_or, or_false, false_or, and_true, true_and, and_false, false_and, or_self, and_self, eq_self] <;> rfl) rfl dX4_undo_31
  · refine fr_aload_n (pc := 7) rfl dX4_undo_7 ?_
    refine fr_iconst (pc := 8) (v := 3) rfl dX4_undo_8 ?_
    refine fr_callV0 (pc := 9) (ci := 3) (T := TX4) (N := 7) [.int 3] [] (c_X4_found (k := 3) (by decide)) gc_X4_51 rfl rfl ⟨rfl, rfl, by decide, by decide⟩ (Nat.le_of_ble_eq_true rfl) rfl (by decide) x_0 ⟨by decide, by decide⟩ dX4_undo_9 ?_
    exact fr_ireturn (pc := 12) rfl (by simp only [sp_undo, fb, sr, sG, xF, eq_true h4, if_true, if_false, not_true_eq_false, not_false_eq_true, or_true, true_or, or_false, false_or, and_true, true_and, and_false, false_and, or_self, and_self, eq_self] <;> rfl) (by simp only [sp_undo, fb, sr, sG, xF, eq_true h4, if_true, if_false, not_true_eq_false, not_false_eq_true, or_true, true_or, or_false, false_or, and_true, true_and, and_false, false_and, or_self, and_self, eq_self] <;> rfl) rfl dX4_undo_12
set_option maxRecDepth 100000 in
theorem x_tear {Γ : aG} {l : Launch} {M : Nat → aC} {r rk t : rT} {ik : Int32} {S : sT} {b : Nat → Int32} {ln : Int32} {J : Int32 × Int32 × Int32 × Int32} {fi : Nat → Int32}  : Ev Γ l mX4_tear [.ref 0] 54 (xM M r rk t ik S (b, ln, J) fi) (some (.int (sp_tear (r, rk, ik, S, b, ln, fi)).1)) 54 (xF M t J (sp_tear (r, rk, ik, S, b, ln, fi)).2) := by
  refine Ev.of [(0, .ref 0)] (by decide) (Nat.le_of_ble_eq_true rfl) rfl ?_
  refine fr_aload_n (pc := 0) rfl dX4_tear_0 ?_
  refine fr_get (pc := 1) (ci := 3) (T := TX4) (k0 := 3) rfl hin_X4 (by decide) fl_X4_22 (by decide) x_0 rfl dX4_tear_1 ?_
  refine fr_if_eq (pc := 4) 11 (by decide) dX4_tear_4 (fun h4 => ?_) (fun h4 => ?_)
  · refine fr_iconst (pc := 11) (v := 0) rfl dX4_tear_11 ?_
    refine fr_istore_n (pc := 12) [(1, .int 0), (0, .ref 0)] (by decide) rfl dX4_tear_12 ?_
    refine fr_aload_n (pc := 13) rfl dX4_tear_13 ?_
    refine fr_iconst (pc := 14) (v := 0) rfl dX4_tear_14 ?_
    refine fr_put (pc := 15) (ci := 3) (T := TX4) (k0 := 3) (ty := .boolean) tyX4 tyX4_ok nmX4 rfl hin_X4 (by decide) fl_X4_22 rfl (by decide +kernel) rfl rfl (Nat.le_of_ble_eq_true rfl) (by decide) x_0 dX4_tear_15 ?_
    refine fr_mem x_u0 ?_
    refine fr_iload_n (pc := 18) rfl dX4_tear_18 ?_
    exact fr_ireturn (pc := 19) rfl (by simp only [sp_tear, fb, sr, sG, xF, eq_true h4, if_true, if_false, not_true_eq_false, not_false_eq_true, or_true, true_or, or_false, false_or, and_true, true_and, and_false, false_and, or_self, and_self, eq_self] <;> rfl) (by simp only [sp_tear, fb, sr, sG, xF, eq_true h4, if_true, if_false, not_true_eq_false, not_false_eq_true, or_true, true_or, or_false, false_or, and_true, true_and, and_false, false_and, or_self, and_self, eq_self] <;> rfl) rfl dX4_tear_19
  · refine fr_iconst (pc := 7) (v := 1) rfl dX4_tear_7 ?_
    refine fr_goto (pc := 8) 12 (by decide) dX4_tear_8 ?_
    refine fr_istore_n (pc := 12) [(1, .int 1), (0, .ref 0)] (by decide) rfl dX4_tear_12 ?_
    refine fr_aload_n (pc := 13) rfl dX4_tear_13 ?_
    refine fr_iconst (pc := 14) (v := 0) rfl dX4_tear_14 ?_
    refine fr_put (pc := 15) (ci := 3) (T := TX4) (k0 := 3) (ty := .boolean) tyX4 tyX4_ok nmX4 rfl hin_X4 (by decide) fl_X4_22 rfl (by decide +kernel) rfl rfl (Nat.le_of_ble_eq_true rfl) (by decide) x_0 dX4_tear_15 ?_
    refine fr_mem x_u0 ?_
    refine fr_iload_n (pc := 18) rfl dX4_tear_18 ?_
    exact fr_ireturn (pc := 19) rfl (by simp only [sp_tear, fb, sr, sG, xF, h4, if_true, if_false, not_true_eq_false, not_false_eq_true, or_true, true_or, or_false, false_or, and_true, true_and, and_false, false_and, or_self, and_self, eq_self] <;> rfl) (by simp only [sp_tear, fb, sr, sG, xF, h4, if_true, if_false, not_true_eq_false, not_false_eq_true, or_true, true_or, or_false, false_or, and_true, true_and, and_false, false_and, or_self, and_self, eq_self] <;> rfl) rfl dX4_tear_19
set_option maxRecDepth 100000 in
theorem x_wipe {Γ : aG} {l : Launch} {M : Nat → aC} {r rk t : rT} {ik : Int32} {S : sT} {b : Nat → Int32} {ln : Int32} {J : Int32 × Int32 × Int32 × Int32} {fi : Nat → Int32}  : Ev Γ l mX4_wipe [.ref 0] 54 (xM M r rk t ik S (b, ln, J) fi) (some (.int (sp_wipe (r, rk, ik, S, b, ln, fi)).1)) 54 (xF M t J (sp_wipe (r, rk, ik, S, b, ln, fi)).2) := by
  refine Ev.of [(0, .ref 0)] (by decide) (Nat.le_of_ble_eq_true rfl) rfl ?_
  refine fr_aload_n (pc := 0) rfl dX4_wipe_0 ?_
  refine fr_get (pc := 1) (ci := 3) (T := TX4) (k0 := 5) rfl hin_X4 (by decide) fl_X4_36 (by decide) x_0 rfl dX4_wipe_1 ?_
  refine fr_get (pc := 4) (ci := 2) (T := TX3) (k0 := 1) rfl hin_X3 (by decide) fl_X4_214 (by decide) x_39 rfl dX4_wipe_4 ?_
  refine fr_istore_n (pc := 7) [(1, .int ln), (0, .ref 0)] (by decide) rfl dX4_wipe_7 ?_
  refine fr_aload_n (pc := 8) rfl dX4_wipe_8 ?_
  refine fr_get (pc := 9) (ci := 3) (T := TX4) (k0 := 5) rfl hin_X4 (by decide) fl_X4_36 (by decide) x_0 rfl dX4_wipe_9 ?_
  refine fr_iconst (pc := 12) (v := 0) rfl dX4_wipe_12 ?_
  refine fr_put (pc := 13) (ci := 2) (T := TX3) (k0 := 1) (ty := .int) tyX3 tyX3_ok nmX3 rfl hin_X3 (by decide) fl_X4_214 rfl (by decide +kernel) rfl rfl (Nat.le_of_ble_eq_true rfl) (by decide) x_39 dX4_wipe_13 ?_
  refine fr_mem x_u39_1 ?_
  refine fr_iload_n (pc := 16) rfl dX4_wipe_16 ?_
  exact fr_ireturn (pc := 17) rfl (by simp only [sp_wipe, fb, sr, sG, xF, if_true, if_false, not_true_eq_false, not_false_eq_true, or_true, true_or, or_false, false_or, and_true, true_and, and_false, false_and, or_self, and_self, eq_self] <;> rfl) (by simp only [sp_wipe, fb, sr, sG, xF, if_true, if_false, not_true_eq_false, not_false_eq_true, or_true, true_or, or_false, false_or, and_true, true_and, and_false, false_and, or_self, and_self, eq_self] <;> rfl) rfl dX4_wipe_17
