/-- the cells of x, by what is: the trial and the tape's reader beside it -/
def xF (M : Nat → aC) (t : rT) (J : Int32 × Int32 × Int32 × Int32) (σ : sS) : Nat → aC := xM M σ.1 σ.2.1 t σ.2.2.1 σ.2.2.2.1 (σ.2.2.2.2.1, σ.2.2.2.2.2.1, J) σ.2.2.2.2.2.2
theorem gs_eq {j : Nat} (h : j ≤ 2) : (a_sa 0).2.2.getD j 0 = gs (nI j) := by
  rcases (show j = 0 ∨ j = 1 ∨ j = 2 by omega) with rfl | rfl | rfl <;> rfl
set_option maxRecDepth 100000 in
theorem x_set {Γ : aG} {l : Launch} {M : Nat → aC} {r rk t : rT} {ik : Int32} {S : sT} {b : Nat → Int32} {ln : Int32} {J : Int32 × Int32 × Int32 × Int32} {fi : Nat → Int32} {w v : Int32}  : Ev Γ l mX4_set [.ref 0, .int w, .int v] 54 (xM M r rk t ik S (b, ln, J) fi) (some (.int (sp_set (r, rk, ik, S, b, ln, fi) w v).1)) 54 (xF M t J (sp_set (r, rk, ik, S, b, ln, fi) w v).2) := by
  refine Ev.of [(0, .ref 0), (1, .int w), (2, .int v)] (by decide) (Nat.le_of_ble_eq_true rfl) rfl ?_
  refine fr_iload_n (pc := 0) rfl dX4_set_0 ?_
  refine fr_iconst (pc := 1) (v := 0) rfl dX4_set_1 ?_
  refine fr_iconst (pc := 2) (v := 2) rfl dX4_set_2 ?_
  refine fr_callS0 (pc := 3) [.int w, .int 0, .int 2] [] (c_X4_within) gc_X4_44 rfl rfl ⟨rfl, rfl, by decide, by decide⟩ (Nat.le_of_ble_eq_true rfl) ⟨by decide, by decide⟩ dX4_set_3 ?_
  refine fr_if_eq (pc := 6) 22 (by decide) dX4_set_6 (fun h6 => ?_) (fun h6 => ?_)
  · have g6 := bI_0.mp h6
    refine fr_aload_n (pc := 22) rfl dX4_set_22 ?_
    refine fr_iconst (pc := 23) (v := 0) rfl dX4_set_23 ?_
    refine fr_callV0 (pc := 24) (ci := 3) (T := TX4) (N := 7) [.int 0] [] (c_X4_found (k := 0) (by decide)) gc_X4_51 rfl rfl ⟨rfl, rfl, by decide, by decide⟩ (Nat.le_of_ble_eq_true rfl) rfl (by decide) x_0 ⟨by decide, by decide⟩ dX4_set_24 ?_
    exact fr_ireturn (pc := 27) rfl (by simp only [sp_set, fb, sr, sG, xF, g6, if_true, if_false, not_true_eq_false, not_false_eq_true, or_true, true_or, or_false, false_or, and_true, true_and, and_false, false_and, or_self, and_self, eq_self] <;> rfl) (by simp only [sp_set, fb, sr, sG, xF, g6, if_true, if_false, not_true_eq_false, not_false_eq_true, or_true, true_or, or_false, false_or, and_true, true_and, and_false, false_and, or_self, and_self, eq_self] <;> rfl) rfl dX4_set_27
  · have g6 := bI_n0 h6
    obtain ⟨i1, hi1, rfl⟩ := wi_nI (N := 2) g6 rfl
    have ei1 : (nI i1).toNatClampNeg = i1 := nI_clamp (by omega)
    refine fr_iload_n (pc := 9) rfl dX4_set_9 ?_
    refine fr_iconst (pc := 10) (v := 0) rfl dX4_set_10 ?_
    refine fr_gsA (pc := 11) (k0 := 0) (by decide) fl_X4_48 dX4_set_11 ?_
    refine fr_iload_n (pc := 14) rfl dX4_set_14 ?_
    refine fr_ialdS (pc := 15) (k0 := 0) i1 rfl (by decide) (show i1 < 3 by omega) (by omega) dX4_set_15 ?_
    refine fr_eq (z := gs (nI i1)) (gs_eq hi1) ?_
    refine fr_callS0 (pc := 16) [.int v, .int 0, .int (gs (nI i1))] [] (c_X4_within) gc_X4_44 rfl rfl ⟨rfl, rfl, by decide, by decide⟩ (Nat.le_of_ble_eq_true rfl) ⟨by decide, by decide⟩ dX4_set_16 ?_
    refine fr_if_ne (pc := 19) 28 (by decide) dX4_set_19 (fun h19 => ?_) (fun h19 => ?_)
    · have g19 := bI_n0 h19
      refine fr_iload_n (pc := 28) rfl dX4_set_28 ?_
      refine fr_if_ne (pc := 29) 51 (by decide) dX4_set_29 (fun h29 => ?_) (fun h29 => ?_)
      · refine fr_iload_n (pc := 51) rfl dX4_set_51 ?_
        refine fr_iconst (pc := 52) (v := 1) rfl dX4_set_52 ?_
        refine fr_icmp_ne (pc := 53) 75 (by decide) dX4_set_53 (fun h53 => ?_) (fun h53 => ?_)
        · refine fr_aload_n (pc := 75) rfl dX4_set_75 ?_
          refine fr_get (pc := 76) (ci := 3) (T := TX4) (k0 := 0) rfl hin_X4 (by decide) fl_X4_10 (by decide) x_0 rfl dX4_set_76 ?_
          refine fr_get (pc := 79) (ci := 0) (T := TX0) (k0 := 4) rfl hin_X0 (by decide) fl_X4_62 (by decide) x_1 rfl dX4_set_79 ?_
          refine fr_nm (fun x3_82 e_x3_82 => ?_)
          refine fr_istore_n (pc := 82) [(3, .int x3_82), (0, .ref 0), (1, .int (nI i1)), (2, .int v)] (by decide) rfl dX4_set_82 ?_
          refine fr_aload_n (pc := 83) rfl dX4_set_83 ?_
          refine fr_get (pc := 84) (ci := 3) (T := TX4) (k0 := 0) rfl hin_X4 (by decide) fl_X4_10 (by decide) x_0 rfl dX4_set_84 ?_
          refine fr_iload_n (pc := 87) rfl dX4_set_87 ?_
          refine fr_put (pc := 88) (ci := 0) (T := TX0) (k0 := 4) (ty := .int) tyX0 tyX0_ok nmX0 rfl hin_X0 (by decide) fl_X4_62 rfl (by decide +kernel) rfl rfl (Nat.le_of_ble_eq_true rfl) (by decide) x_1 dX4_set_88 ?_
          refine fr_mem x_hf5 ?_
          refine fr_iload_n (pc := 91) rfl dX4_set_91 ?_
          exact fr_ireturn (pc := 92) rfl (by simp only [sp_set, fb, sr, sG, xF, g6, ei1, g19, h29, h53, e_x3_82, if_true, if_false, not_true_eq_false, not_false_eq_true, or_true, true_or, or_false, false_or, and_true, true_and, and_false, false_and, or_self, and_self, eq_self] <;> rfl) (by simp only [sp_set, fb, sr, sG, xF, g6, ei1, g19, h29, h53, e_x3_82, if_true, if_false, not_true_eq_false, not_false_eq_true, or_true, true_or, or_false, false_or, and_true, true_and, and_false, false_and, or_self, and_self, eq_self] <;> rfl) rfl dX4_set_92
        · refine fr_aload_n (pc := 56) rfl dX4_set_56 ?_
          refine fr_get (pc := 57) (ci := 3) (T := TX4) (k0 := 0) rfl hin_X4 (by decide) fl_X4_10 (by decide) x_0 rfl dX4_set_57 ?_
          refine fr_get (pc := 60) (ci := 0) (T := TX0) (k0 := 3) rfl hin_X0 (by decide) fl_X4_59 (by decide) x_1 rfl dX4_set_60 ?_
          refine fr_nm (fun x3_63 e_x3_63 => ?_)
          refine fr_istore_n (pc := 63) [(3, .int x3_63), (0, .ref 0), (1, .int (nI i1)), (2, .int v)] (by decide) rfl dX4_set_63 ?_
          refine fr_aload_n (pc := 64) rfl dX4_set_64 ?_
          refine fr_get (pc := 65) (ci := 3) (T := TX4) (k0 := 0) rfl hin_X4 (by decide) fl_X4_10 (by decide) x_0 rfl dX4_set_65 ?_
          refine fr_iload_n (pc := 68) rfl dX4_set_68 ?_
          refine fr_put (pc := 69) (ci := 0) (T := TX0) (k0 := 3) (ty := .int) tyX0 tyX0_ok nmX0 rfl hin_X0 (by decide) fl_X4_59 rfl (by decide +kernel) rfl rfl (Nat.le_of_ble_eq_true rfl) (by decide) x_1 dX4_set_69 ?_
          refine fr_mem x_hf4 ?_
          refine fr_goto (pc := 72) 91 (by decide) dX4_set_72 ?_
          refine fr_iload_n (pc := 91) rfl dX4_set_91 ?_
          exact fr_ireturn (pc := 92) rfl (by simp only [sp_set, fb, sr, sG, xF, g6, ei1, g19, h29, eq_true h53, e_x3_63, if_true, if_false, not_true_eq_false, not_false_eq_true, or_true, true_or, or_false, false_or, and_true, true_and, and_false, false_and, or_self, and_self, eq_self] <;> rfl) (by simp only [sp_set, fb, sr, sG, xF, g6, ei1, g19, h29, eq_true h53, e_x3_63, if_true, if_false, not_true_eq_false, not_false_eq_true, or_true, true_or, or_false, false_or, and_true, true_and, and_false, false_and, or_self, and_self, eq_self] <;> rfl) rfl dX4_set_92
      · refine fr_aload_n (pc := 32) rfl dX4_set_32 ?_
        refine fr_get (pc := 33) (ci := 3) (T := TX4) (k0 := 0) rfl hin_X4 (by decide) fl_X4_10 (by decide) x_0 rfl dX4_set_33 ?_
        refine fr_get (pc := 36) (ci := 0) (T := TX0) (k0 := 2) rfl hin_X0 (by decide) fl_X4_55 (by decide) x_1 rfl dX4_set_36 ?_
        refine fr_nm (fun x3_39 e_x3_39 => ?_)
        refine fr_istore_n (pc := 39) [(3, .int x3_39), (0, .ref 0), (1, .int (nI i1)), (2, .int v)] (by decide) rfl dX4_set_39 ?_
        refine fr_aload_n (pc := 40) rfl dX4_set_40 ?_
        refine fr_get (pc := 41) (ci := 3) (T := TX4) (k0 := 0) rfl hin_X4 (by decide) fl_X4_10 (by decide) x_0 rfl dX4_set_41 ?_
        refine fr_iload_n (pc := 44) rfl dX4_set_44 ?_
        refine fr_put (pc := 45) (ci := 0) (T := TX0) (k0 := 2) (ty := .int) tyX0 tyX0_ok nmX0 rfl hin_X0 (by decide) fl_X4_55 rfl (by decide +kernel) rfl rfl (Nat.le_of_ble_eq_true rfl) (by decide) x_1 dX4_set_45 ?_
        refine fr_mem x_hf3 ?_
        refine fr_goto (pc := 48) 91 (by decide) dX4_set_48 ?_
        refine fr_iload_n (pc := 91) rfl dX4_set_91 ?_
        exact fr_ireturn (pc := 92) rfl (by simp only [sp_set, fb, sr, sG, xF, g6, ei1, g19, eq_true h29, e_x3_39, if_true, if_false, not_true_eq_false, not_false_eq_true, or_true, true_or, or_false, false_or, and_true, true_and, and_false, false_and, or_self, and_self, eq_self] <;> rfl) (by simp only [sp_set, fb, sr, sG, xF, g6, ei1, g19, eq_true h29, e_x3_39, if_true, if_false, not_true_eq_false, not_false_eq_true, or_true, true_or, or_false, false_or, and_true, true_and, and_false, false_and, or_self, and_self, eq_self] <;> rfl) rfl dX4_set_92
    · have g19 := bI_0.mp h19
      refine fr_aload_n (pc := 22) rfl dX4_set_22 ?_
      refine fr_iconst (pc := 23) (v := 0) rfl dX4_set_23 ?_
      refine fr_callV0 (pc := 24) (ci := 3) (T := TX4) (N := 7) [.int 0] [] (c_X4_found (k := 0) (by decide)) gc_X4_51 rfl rfl ⟨rfl, rfl, by decide, by decide⟩ (Nat.le_of_ble_eq_true rfl) rfl (by decide) x_0 ⟨by decide, by decide⟩ dX4_set_24 ?_
      exact fr_ireturn (pc := 27) rfl (by simp only [sp_set, fb, sr, sG, xF, g6, ei1, g19, if_true, if_false, not_true_eq_false, not_false_eq_true, or_true, true_or, or_false, false_or, and_true, true_and, and_false, false_and, or_self, and_self, eq_self] <;> rfl) (by simp only [sp_set, fb, sr, sG, xF, g6, ei1, g19, if_true, if_false, not_true_eq_false, not_false_eq_true, or_true, true_or, or_false, false_or, and_true, true_and, and_false, false_and, or_self, and_self, eq_self] <;> rfl) rfl dX4_set_27
set_option maxRecDepth 100000 in
theorem x_cell {Γ : aG} {l : Launch} {M : Nat → aC} {r rk t : rT} {ik : Int32} {S : sT} {b : Nat → Int32} {ln : Int32} {J : Int32 × Int32 × Int32 × Int32} {fi : Nat → Int32} {c v : Int32}  : Ev Γ l mX4_cell [.ref 0, .int c, .int v] 54 (xM M r rk t ik S (b, ln, J) fi) (some (.int (sp_cell (r, rk, ik, S, b, ln, fi) c v).1)) 54 (xF M t J (sp_cell (r, rk, ik, S, b, ln, fi) c v).2) := by
  refine Ev.of [(0, .ref 0), (1, .int c), (2, .int v)] (by decide) (Nat.le_of_ble_eq_true rfl) rfl ?_
  refine fr_iload_n (pc := 0) rfl dX4_cell_0 ?_
  refine fr_callS0 (pc := 1) [.int c] [] (c_X4_isCell) gc_X4_65 rfl rfl ⟨rfl, rfl, by decide, by decide⟩ (Nat.le_of_ble_eq_true rfl) ⟨by decide, by decide⟩ dX4_cell_1 ?_
  refine fr_if_eq (pc := 4) 17 (by decide) dX4_cell_4 (fun h4 => ?_) (fun h4 => ?_)
  · have g4 := bI_0.mp h4
    refine fr_aload_n (pc := 17) rfl dX4_cell_17 ?_
    refine fr_iconst (pc := 18) (v := 0) rfl dX4_cell_18 ?_
    refine fr_callV0 (pc := 19) (ci := 3) (T := TX4) (N := 7) [.int 0] [] (c_X4_found (k := 0) (by decide)) gc_X4_51 rfl rfl ⟨rfl, rfl, by decide, by decide⟩ (Nat.le_of_ble_eq_true rfl) rfl (by decide) x_0 ⟨by decide, by decide⟩ dX4_cell_19 ?_
    exact fr_ireturn (pc := 22) rfl (by simp only [sp_cell, fb, sr, sG, xF, g4, if_true, if_false, not_true_eq_false, not_false_eq_true, or_true, true_or, or_false, false_or, and_true, true_and, and_false, false_and, or_self, and_self, eq_self] <;> rfl) (by simp only [sp_cell, fb, sr, sG, xF, g4, if_true, if_false, not_true_eq_false, not_false_eq_true, or_true, true_or, or_false, false_or, and_true, true_and, and_false, false_and, or_self, and_self, eq_self] <;> rfl) rfl dX4_cell_22
  · have g4 := bI_n0 h4
    refine fr_iload_n (pc := 7) rfl dX4_cell_7 ?_
    refine fr_iconst (pc := 8) (v := 0) rfl dX4_cell_8 ?_
    refine fr_bipush (pc := 9) (v := 40) rfl dX4_cell_9 ?_
    refine fr_callS0 (pc := 11) [.int v, .int 0, .int 40] [] (c_X4_within) gc_X4_44 rfl rfl ⟨rfl, rfl, by decide, by decide⟩ (Nat.le_of_ble_eq_true rfl) ⟨by decide, by decide⟩ dX4_cell_11 ?_
    refine fr_if_ne (pc := 14) 23 (by decide) dX4_cell_14 (fun h14 => ?_) (fun h14 => ?_)
    · have g14 := bI_n0 h14
      obtain ⟨i1, hi1, rfl⟩ := wi_nI (N := 15) g4 rfl
      have ei1 : (nI i1).toNatClampNeg = i1 := nI_clamp (by omega)
      refine fr_aload_n (pc := 23) rfl dX4_cell_23 ?_
      refine fr_get (pc := 24) (ci := 3) (T := TX4) (k0 := 0) rfl hin_X4 (by decide) fl_X4_10 (by decide) x_0 rfl dX4_cell_24 ?_
      refine fr_get (pc := 27) (ci := 0) (T := TX0) (k0 := 0) rfl hin_X0 (by decide) fl_X4_69 (by decide) x_1 rfl dX4_cell_27 ?_
      refine fr_iload_n (pc := 30) rfl dX4_cell_30 ?_
      refine fr_iald (pc := 31) i1 rfl (by decide) x_h1 (by first | assumption | omega) (by decide) dX4_cell_31 ?_
      refine fr_nm (fun x3_32 e_x3_32 => ?_)
      refine fr_istore_n (pc := 32) [(3, .int x3_32), (0, .ref 0), (1, .int (nI i1)), (2, .int v)] (by decide) rfl dX4_cell_32 ?_
      refine fr_aload_n (pc := 33) rfl dX4_cell_33 ?_
      refine fr_get (pc := 34) (ci := 3) (T := TX4) (k0 := 0) rfl hin_X4 (by decide) fl_X4_10 (by decide) x_0 rfl dX4_cell_34 ?_
      refine fr_get (pc := 37) (ci := 0) (T := TX0) (k0 := 0) rfl hin_X0 (by decide) fl_X4_69 (by decide) x_1 rfl dX4_cell_37 ?_
      refine fr_iload_n (pc := 40) rfl dX4_cell_40 ?_
      refine fr_iload_n (pc := 41) rfl dX4_cell_41 ?_
      refine fr_iast (pc := 42) i1 rfl (by decide) x_h1 (by first | assumption | omega) (by decide) dX4_cell_42 ?_
      refine fr_mem x_ha0 ?_
      refine fr_iload_n (pc := 43) rfl dX4_cell_43 ?_
      exact fr_ireturn (pc := 44) rfl (by simp only [sp_cell, fb, sr, sG, xF, g4, g14, ei1, e_x3_32, if_true, if_false, not_true_eq_false, not_false_eq_true, or_true, true_or, or_false, false_or, and_true, true_and, and_false, false_and, or_self, and_self, eq_self] <;> rfl) (by simp only [sp_cell, fb, sr, sG, xF, g4, g14, ei1, e_x3_32, if_true, if_false, not_true_eq_false, not_false_eq_true, or_true, true_or, or_false, false_or, and_true, true_and, and_false, false_and, or_self, and_self, eq_self] <;> rfl) rfl dX4_cell_44
    · have g14 := bI_0.mp h14
      refine fr_aload_n (pc := 17) rfl dX4_cell_17 ?_
      refine fr_iconst (pc := 18) (v := 0) rfl dX4_cell_18 ?_
      refine fr_callV0 (pc := 19) (ci := 3) (T := TX4) (N := 7) [.int 0] [] (c_X4_found (k := 0) (by decide)) gc_X4_51 rfl rfl ⟨rfl, rfl, by decide, by decide⟩ (Nat.le_of_ble_eq_true rfl) rfl (by decide) x_0 ⟨by decide, by decide⟩ dX4_cell_19 ?_
      exact fr_ireturn (pc := 22) rfl (by simp only [sp_cell, fb, sr, sG, xF, g4, g14, if_true, if_false, not_true_eq_false, not_false_eq_true, or_true, true_or, or_false, false_or, and_true, true_and, and_false, false_and, or_self, and_self, eq_self] <;> rfl) (by simp only [sp_cell, fb, sr, sG, xF, g4, g14, if_true, if_false, not_true_eq_false, not_false_eq_true, or_true, true_or, or_false, false_or, and_true, true_and, and_false, false_and, or_self, and_self, eq_self] <;> rfl) rfl dX4_cell_22
set_option maxRecDepth 100000 in
theorem x_measure {Γ : aG} {l : Launch} {M : Nat → aC} {r rk t : rT} {ik : Int32} {S : sT} {b : Nat → Int32} {ln : Int32} {J : Int32 × Int32 × Int32 × Int32} {fi : Nat → Int32} {i v : Int32}  : Ev Γ l mX4_measure [.ref 0, .int i, .int v] 54 (xM M r rk t ik S (b, ln, J) fi) (some (.int (sp_measure (r, rk, ik, S, b, ln, fi) i v).1)) 54 (xF M t J (sp_measure (r, rk, ik, S, b, ln, fi) i v).2) := by
  refine Ev.of [(0, .ref 0), (1, .int i), (2, .int v)] (by decide) (Nat.le_of_ble_eq_true rfl) rfl ?_
  refine fr_iload_n (pc := 0) rfl dX4_measure_0 ?_
  refine fr_callS0 (pc := 1) [.int i] [] (c_X4_isListed) gc_X4_72 rfl rfl ⟨rfl, rfl, by decide, by decide⟩ (Nat.le_of_ble_eq_true rfl) ⟨by decide, by decide⟩ dX4_measure_1 ?_
  refine fr_if_eq (pc := 4) 14 (by decide) dX4_measure_4 (fun h4 => ?_) (fun h4 => ?_)
  · have g4 := bI_0.mp h4
    refine fr_aload_n (pc := 14) rfl dX4_measure_14 ?_
    refine fr_iconst (pc := 15) (v := 0) rfl dX4_measure_15 ?_
    refine fr_callV0 (pc := 16) (ci := 3) (T := TX4) (N := 7) [.int 0] [] (c_X4_found (k := 0) (by decide)) gc_X4_51 rfl rfl ⟨rfl, rfl, by decide, by decide⟩ (Nat.le_of_ble_eq_true rfl) rfl (by decide) x_0 ⟨by decide, by decide⟩ dX4_measure_16 ?_
    exact fr_ireturn (pc := 19) rfl (by simp only [sp_measure, fb, sr, sG, xF, g4, if_true, if_false, not_true_eq_false, not_false_eq_true, or_true, true_or, or_false, false_or, and_true, true_and, and_false, false_and, or_self, and_self, eq_self] <;> rfl) (by simp only [sp_measure, fb, sr, sG, xF, g4, if_true, if_false, not_true_eq_false, not_false_eq_true, or_true, true_or, or_false, false_or, and_true, true_and, and_false, false_and, or_self, and_self, eq_self] <;> rfl) rfl dX4_measure_19
  · have g4 := bI_n0 h4
    refine fr_iload_n (pc := 7) rfl dX4_measure_7 ?_
    refine fr_callS0 (pc := 8) [.int v] [] (c_X4_isMeasure) gc_X4_75 rfl rfl ⟨rfl, rfl, by decide, by decide⟩ (Nat.le_of_ble_eq_true rfl) ⟨by decide, by decide⟩ dX4_measure_8 ?_
    refine fr_if_ne (pc := 11) 20 (by decide) dX4_measure_11 (fun h11 => ?_) (fun h11 => ?_)
    · have g11 := bI_n0 h11
      obtain ⟨i1, hi1, rfl⟩ := wi_nI (N := 5) g4 rfl
      have ei1 : (nI i1).toNatClampNeg = i1 := nI_clamp (by omega)
      refine fr_aload_n (pc := 20) rfl dX4_measure_20 ?_
      refine fr_get (pc := 21) (ci := 3) (T := TX4) (k0 := 0) rfl hin_X4 (by decide) fl_X4_10 (by decide) x_0 rfl dX4_measure_21 ?_
      refine fr_get (pc := 24) (ci := 0) (T := TX0) (k0 := 1) rfl hin_X0 (by decide) fl_X4_78 (by decide) x_1 rfl dX4_measure_24 ?_
      refine fr_iload_n (pc := 27) rfl dX4_measure_27 ?_
      refine fr_iald (pc := 28) i1 rfl (by decide) x_h2 (by first | assumption | omega) (by decide) dX4_measure_28 ?_
      refine fr_nm (fun x3_29 e_x3_29 => ?_)
      refine fr_istore_n (pc := 29) [(3, .int x3_29), (0, .ref 0), (1, .int (nI i1)), (2, .int v)] (by decide) rfl dX4_measure_29 ?_
      refine fr_aload_n (pc := 30) rfl dX4_measure_30 ?_
      refine fr_get (pc := 31) (ci := 3) (T := TX4) (k0 := 0) rfl hin_X4 (by decide) fl_X4_10 (by decide) x_0 rfl dX4_measure_31 ?_
      refine fr_get (pc := 34) (ci := 0) (T := TX0) (k0 := 1) rfl hin_X0 (by decide) fl_X4_78 (by decide) x_1 rfl dX4_measure_34 ?_
      refine fr_iload_n (pc := 37) rfl dX4_measure_37 ?_
      refine fr_iload_n (pc := 38) rfl dX4_measure_38 ?_
      refine fr_iast (pc := 39) i1 rfl (by decide) x_h2 (by first | assumption | omega) (by decide) dX4_measure_39 ?_
      refine fr_mem x_ha1 ?_
      refine fr_iload_n (pc := 40) rfl dX4_measure_40 ?_
      exact fr_ireturn (pc := 41) rfl (by simp only [sp_measure, fb, sr, sG, xF, g4, g11, ei1, e_x3_29, if_true, if_false, not_true_eq_false, not_false_eq_true, or_true, true_or, or_false, false_or, and_true, true_and, and_false, false_and, or_self, and_self, eq_self] <;> rfl) (by simp only [sp_measure, fb, sr, sG, xF, g4, g11, ei1, e_x3_29, if_true, if_false, not_true_eq_false, not_false_eq_true, or_true, true_or, or_false, false_or, and_true, true_and, and_false, false_and, or_self, and_self, eq_self] <;> rfl) rfl dX4_measure_41
    · have g11 := bI_0.mp h11
      refine fr_aload_n (pc := 14) rfl dX4_measure_14 ?_
      refine fr_iconst (pc := 15) (v := 0) rfl dX4_measure_15 ?_
      refine fr_callV0 (pc := 16) (ci := 3) (T := TX4) (N := 7) [.int 0] [] (c_X4_found (k := 0) (by decide)) gc_X4_51 rfl rfl ⟨rfl, rfl, by decide, by decide⟩ (Nat.le_of_ble_eq_true rfl) rfl (by decide) x_0 ⟨by decide, by decide⟩ dX4_measure_16 ?_
      exact fr_ireturn (pc := 19) rfl (by simp only [sp_measure, fb, sr, sG, xF, g4, g11, if_true, if_false, not_true_eq_false, not_false_eq_true, or_true, true_or, or_false, false_or, and_true, true_and, and_false, false_and, or_self, and_self, eq_self] <;> rfl) (by simp only [sp_measure, fb, sr, sG, xF, g4, g11, if_true, if_false, not_true_eq_false, not_false_eq_true, or_true, true_or, or_false, false_or, and_true, true_and, and_false, false_and, or_self, and_self, eq_self] <;> rfl) rfl dX4_measure_19
set_option maxRecDepth 100000 in
theorem x_listed {Γ : aG} {l : Launch} {M : Nat → aC} {r rk t : rT} {ik : Int32} {S : sT} {b : Nat → Int32} {ln : Int32} {J : Int32 × Int32 × Int32 × Int32} {fi : Nat → Int32} {i : Int32}  : Ev Γ l mX4_listed [.ref 0, .int i] 54 (xM M r rk t ik S (b, ln, J) fi) (some (.int (sp_listed (r, rk, ik, S, b, ln, fi) i).1)) 54 (xF M t J (sp_listed (r, rk, ik, S, b, ln, fi) i).2) := by
  refine Ev.of [(0, .ref 0), (1, .int i)] (by decide) (Nat.le_of_ble_eq_true rfl) rfl ?_
  refine fr_iload_n (pc := 0) rfl dX4_listed_0 ?_
  refine fr_callS0 (pc := 1) [.int i] [] (c_X4_isListed) gc_X4_72 rfl rfl ⟨rfl, rfl, by decide, by decide⟩ (Nat.le_of_ble_eq_true rfl) ⟨by decide, by decide⟩ dX4_listed_1 ?_
  refine fr_if_eq (pc := 4) 19 (by decide) dX4_listed_4 (fun h4 => ?_) (fun h4 => ?_)
  · have g4 := bI_0.mp h4
    refine fr_aload_n (pc := 19) rfl dX4_listed_19 ?_
    refine fr_iconst (pc := 20) (v := 0) rfl dX4_listed_20 ?_
    refine fr_callV0 (pc := 21) (ci := 3) (T := TX4) (N := 7) [.int 0] [] (c_X4_found (k := 0) (by decide)) gc_X4_51 rfl rfl ⟨rfl, rfl, by decide, by decide⟩ (Nat.le_of_ble_eq_true rfl) rfl (by decide) x_0 ⟨by decide, by decide⟩ dX4_listed_21 ?_
    exact fr_ireturn (pc := 24) rfl (by simp only [sp_listed, fb, sr, sG, xF, g4, if_true, if_false, not_true_eq_false, not_false_eq_true, or_true, true_or, or_false, false_or, and_true, true_and, and_false, false_and, or_self, and_self, eq_self] <;> rfl) (by simp only [sp_listed, fb, sr, sG, xF, g4, if_true, if_false, not_true_eq_false, not_false_eq_true, or_true, true_or, or_false, false_or, and_true, true_and, and_false, false_and, or_self, and_self, eq_self] <;> rfl) rfl dX4_listed_24
  · have g4 := bI_n0 h4
    obtain ⟨i1, hi1, rfl⟩ := wi_nI (N := 5) g4 rfl
    have ei1 : (nI i1).toNatClampNeg = i1 := nI_clamp (by omega)
    refine fr_aload_n (pc := 7) rfl dX4_listed_7 ?_
    refine fr_get (pc := 8) (ci := 3) (T := TX4) (k0 := 0) rfl hin_X4 (by decide) fl_X4_10 (by decide) x_0 rfl dX4_listed_8 ?_
    refine fr_get (pc := 11) (ci := 0) (T := TX0) (k0 := 1) rfl hin_X0 (by decide) fl_X4_78 (by decide) x_1 rfl dX4_listed_11 ?_
    refine fr_iload_n (pc := 14) rfl dX4_listed_14 ?_
    refine fr_iald (pc := 15) i1 rfl (by decide) x_h2 (by first | assumption | omega) (by decide) dX4_listed_15 ?_
    refine fr_goto (pc := 16) 24 (by decide) dX4_listed_16 ?_
    exact fr_ireturn (pc := 24) rfl (by simp only [sp_listed, fb, sr, sG, xF, g4, ei1, if_true, if_false, not_true_eq_false, not_false_eq_true, or_true, true_or, or_false, false_or, and_true, true_and, and_false, false_and, or_self, and_self, eq_self] <;> rfl) (by simp only [sp_listed, fb, sr, sG, xF, g4, ei1, if_true, if_false, not_true_eq_false, not_false_eq_true, or_true, true_or, or_false, false_or, and_true, true_and, and_false, false_and, or_self, and_self, eq_self] <;> rfl) rfl dX4_listed_24
set_option maxRecDepth 100000 in
theorem x_wide {Γ : aG} {l : Launch} {M : Nat → aC} {r rk t : rT} {ik : Int32} {S : sT} {b : Nat → Int32} {ln : Int32} {J : Int32 × Int32 × Int32 × Int32} {fi : Nat → Int32} {c m : Int32}  : Ev Γ l mX4_wide [.ref 0, .int c, .int m] 54 (xM M r rk t ik S (b, ln, J) fi) (some (.int (sp_wide (r, rk, ik, S, b, ln, fi) c m).1)) 54 (xF M t J (sp_wide (r, rk, ik, S, b, ln, fi) c m).2) := by
  refine Ev.of [(0, .ref 0), (1, .int c), (2, .int m)] (by decide) (Nat.le_of_ble_eq_true rfl) rfl ?_
  refine fr_iload_n (pc := 0) rfl dX4_wide_0 ?_
  refine fr_callS0 (pc := 1) [.int c] [] (c_X4_isCell) gc_X4_65 rfl rfl ⟨rfl, rfl, by decide, by decide⟩ (Nat.le_of_ble_eq_true rfl) ⟨by decide, by decide⟩ dX4_wide_1 ?_
  refine fr_if_eq (pc := 4) 14 (by decide) dX4_wide_4 (fun h4 => ?_) (fun h4 => ?_)
  · have g4 := bI_0.mp h4
    refine fr_aload_n (pc := 14) rfl dX4_wide_14 ?_
    refine fr_iconst (pc := 15) (v := 0) rfl dX4_wide_15 ?_
    refine fr_callV0 (pc := 16) (ci := 3) (T := TX4) (N := 7) [.int 0] [] (c_X4_found (k := 0) (by decide)) gc_X4_51 rfl rfl ⟨rfl, rfl, by decide, by decide⟩ (Nat.le_of_ble_eq_true rfl) rfl (by decide) x_0 ⟨by decide, by decide⟩ dX4_wide_16 ?_
    exact fr_ireturn (pc := 19) rfl (by simp only [sp_wide, fb, sr, sG, xF, g4, if_true, if_false, not_true_eq_false, not_false_eq_true, or_true, true_or, or_false, false_or, and_true, true_and, and_false, false_and, or_self, and_self, eq_self] <;> rfl) (by simp only [sp_wide, fb, sr, sG, xF, g4, if_true, if_false, not_true_eq_false, not_false_eq_true, or_true, true_or, or_false, false_or, and_true, true_and, and_false, false_and, or_self, and_self, eq_self] <;> rfl) rfl dX4_wide_19
  · have g4 := bI_n0 h4
    refine fr_iload_n (pc := 7) rfl dX4_wide_7 ?_
    refine fr_callS0 (pc := 8) [.int m] [] (c_X4_isMeasure) gc_X4_75 rfl rfl ⟨rfl, rfl, by decide, by decide⟩ (Nat.le_of_ble_eq_true rfl) ⟨by decide, by decide⟩ dX4_wide_8 ?_
    refine fr_if_ne (pc := 11) 20 (by decide) dX4_wide_11 (fun h11 => ?_) (fun h11 => ?_)
    · have g11 := bI_n0 h11
      obtain ⟨i1, hi1, rfl⟩ := wi_nI (N := 15) g4 rfl
      have ei1 : (nI i1).toNatClampNeg = i1 := nI_clamp (by omega)
      refine fr_aload_n (pc := 20) rfl dX4_wide_20 ?_
      refine fr_get (pc := 21) (ci := 3) (T := TX4) (k0 := 0) rfl hin_X4 (by decide) fl_X4_10 (by decide) x_0 rfl dX4_wide_21 ?_
      refine fr_iload_n (pc := 24) rfl dX4_wide_24 ?_
      refine fr_iload_n (pc := 25) rfl dX4_wide_25 ?_
      refine fr_callV0 (pc := 26) (ci := 0) (T := TX0) (N := 15) [.int (nI i1), .int m] [] (ev_H (fun _ => c_X0_width (by omega) (by first | assumption | omega))) gc_X4_81 rfl rfl ⟨rfl, rfl, by decide, by decide⟩ (Nat.le_of_ble_eq_true rfl) rfl (by decide) x_1 ⟨by decide, by decide⟩ dX4_wide_26 ?_
      exact fr_ireturn (pc := 29) rfl (by simp only [sp_wide, fb, sr, sG, xF, g4, g11, ei1, if_true, if_false, not_true_eq_false, not_false_eq_true, or_true, true_or, or_false, false_or, and_true, true_and, and_false, false_and, or_self, and_self, eq_self] <;> rfl) (by simp only [sp_wide, fb, sr, sG, xF, g4, g11, ei1, if_true, if_false, not_true_eq_false, not_false_eq_true, or_true, true_or, or_false, false_or, and_true, true_and, and_false, false_and, or_self, and_self, eq_self] <;> rfl) rfl dX4_wide_29
    · have g11 := bI_0.mp h11
      refine fr_aload_n (pc := 14) rfl dX4_wide_14 ?_
      refine fr_iconst (pc := 15) (v := 0) rfl dX4_wide_15 ?_
      refine fr_callV0 (pc := 16) (ci := 3) (T := TX4) (N := 7) [.int 0] [] (c_X4_found (k := 0) (by decide)) gc_X4_51 rfl rfl ⟨rfl, rfl, by decide, by decide⟩ (Nat.le_of_ble_eq_true rfl) rfl (by decide) x_0 ⟨by decide, by decide⟩ dX4_wide_16 ?_
      exact fr_ireturn (pc := 19) rfl (by simp only [sp_wide, fb, sr, sG, xF, g4, g11, if_true, if_false, not_true_eq_false, not_false_eq_true, or_true, true_or, or_false, false_or, and_true, true_and, and_false, false_and, or_self, and_self, eq_self] <;> rfl) (by simp only [sp_wide, fb, sr, sG, xF, g4, g11, if_true, if_false, not_true_eq_false, not_false_eq_true, or_true, true_or, or_false, false_or, and_true, true_and, and_false, false_and, or_self, and_self, eq_self] <;> rfl) rfl dX4_wide_19
set_option maxRecDepth 100000 in
theorem x_seed {Γ : aG} {l : Launch} {M : Nat → aC} {r rk t : rT} {ik : Int32} {S : sT} {b : Nat → Int32} {ln : Int32} {J : Int32 × Int32 × Int32 × Int32} {fi : Nat → Int32} {v : Int32}  : Ev Γ l mX4_seed [.ref 0, .int v] 54 (xM M r rk t ik S (b, ln, J) fi) (some (.int (sp_seed (r, rk, ik, S, b, ln, fi) v).1)) 54 (xF M t J (sp_seed (r, rk, ik, S, b, ln, fi) v).2) := by
  refine Ev.of [(0, .ref 0), (1, .int v)] (by decide) (Nat.le_of_ble_eq_true rfl) rfl ?_
  refine fr_aload_n (pc := 0) rfl dX4_seed_0 ?_
  refine fr_get (pc := 1) (ci := 3) (T := TX4) (k0 := 0) rfl hin_X4 (by decide) fl_X4_10 (by decide) x_0 rfl dX4_seed_1 ?_
  refine fr_get (pc := 4) (ci := 0) (T := TX0) (k0 := 13) rfl hin_X0 (by decide) fl_X4_206 (by decide) x_1 rfl dX4_seed_4 ?_
  refine fr_nm (fun x2_7 e_x2_7 => ?_)
  refine fr_istore_n (pc := 7) [(2, .int x2_7), (0, .ref 0), (1, .int v)] (by decide) rfl dX4_seed_7 ?_
  refine fr_aload_n (pc := 8) rfl dX4_seed_8 ?_
  refine fr_get (pc := 9) (ci := 3) (T := TX4) (k0 := 0) rfl hin_X4 (by decide) fl_X4_10 (by decide) x_0 rfl dX4_seed_9 ?_
  refine fr_iload_n (pc := 12) rfl dX4_seed_12 ?_
  refine fr_put (pc := 13) (ci := 0) (T := TX0) (k0 := 13) (ty := .int) tyX0 tyX0_ok nmX0 rfl hin_X0 (by decide) fl_X4_206 rfl (by decide +kernel) rfl rfl (Nat.le_of_ble_eq_true rfl) (by decide) x_1 dX4_seed_13 ?_
  refine fr_mem x_hf2 ?_
  refine fr_iload_n (pc := 16) rfl dX4_seed_16 ?_
  exact fr_ireturn (pc := 17) rfl (by simp only [sp_seed, fb, sr, sG, xF, e_x2_7, if_true, if_false, not_true_eq_false, not_false_eq_true, or_true, true_or, or_false, false_or, and_true, true_and, and_false, false_and, or_self, and_self, eq_self] <;> rfl) (by simp only [sp_seed, fb, sr, sG, xF, e_x2_7, if_true, if_false, not_true_eq_false, not_false_eq_true, or_true, true_or, or_false, false_or, and_true, true_and, and_false, false_and, or_self, and_self, eq_self] <;> rfl) rfl dX4_seed_17
set_option maxRecDepth 100000 in
theorem x_guest {Γ : aG} {l : Launch} {M : Nat → aC} {r rk t : rT} {ik : Int32} {S : sT} {b : Nat → Int32} {ln : Int32} {J : Int32 × Int32 × Int32 × Int32} {fi : Nat → Int32} {k c : Int32} (w : wf r)  : Ev Γ l mX4_guest [.ref 0, .int k, .int c] 54 (xM M r rk t ik S (b, ln, J) fi) (some (.int (sp_guest (r, rk, ik, S, b, ln, fi) k c).1)) 54 (xF M t J (sp_guest (r, rk, ik, S, b, ln, fi) k c).2) := by
  refine Ev.of [(0, .ref 0), (1, .int k), (2, .int c)] (by decide) (Nat.le_of_ble_eq_true rfl) rfl ?_
  refine fr_iload_n (pc := 0) rfl dX4_guest_0 ?_
  refine fr_callS0 (pc := 1) [.int k] [] (c_X4_isKind) gc_X4_85 rfl rfl ⟨rfl, rfl, by decide, by decide⟩ (Nat.le_of_ble_eq_true rfl) ⟨by decide, by decide⟩ dX4_guest_1 ?_
  refine fr_if_eq (pc := 4) 14 (by decide) dX4_guest_4 (fun h4 => ?_) (fun h4 => ?_)
  · have g4 := bI_0.mp h4
    refine fr_aload_n (pc := 14) rfl dX4_guest_14 ?_
    refine fr_iconst (pc := 15) (v := 0) rfl dX4_guest_15 ?_
    refine fr_callV0 (pc := 16) (ci := 3) (T := TX4) (N := 7) [.int 0] [] (c_X4_found (k := 0) (by decide)) gc_X4_51 rfl rfl ⟨rfl, rfl, by decide, by decide⟩ (Nat.le_of_ble_eq_true rfl) rfl (by decide) x_0 ⟨by decide, by decide⟩ dX4_guest_16 ?_
    exact fr_ireturn (pc := 19) rfl (by simp only [sp_guest, fb, sr, sG, xF, g4, if_true, if_false, not_true_eq_false, not_false_eq_true, or_true, true_or, or_false, false_or, and_true, true_and, and_false, false_and, or_self, and_self, eq_self] <;> rfl) (by simp only [sp_guest, fb, sr, sG, xF, g4, if_true, if_false, not_true_eq_false, not_false_eq_true, or_true, true_or, or_false, false_or, and_true, true_and, and_false, false_and, or_self, and_self, eq_self] <;> rfl) rfl dX4_guest_19
  · have g4 := bI_n0 h4
    refine fr_iload_n (pc := 7) rfl dX4_guest_7 ?_
    refine fr_callS0 (pc := 8) [.int c] [] (c_X4_isCell) gc_X4_65 rfl rfl ⟨rfl, rfl, by decide, by decide⟩ (Nat.le_of_ble_eq_true rfl) ⟨by decide, by decide⟩ dX4_guest_8 ?_
    refine fr_if_ne (pc := 11) 20 (by decide) dX4_guest_11 (fun h11 => ?_) (fun h11 => ?_)
    · have g11 := bI_n0 h11
      refine fr_aload_n (pc := 20) rfl dX4_guest_20 ?_
      refine fr_get (pc := 21) (ci := 3) (T := TX4) (k0 := 0) rfl hin_X4 (by decide) fl_X4_10 (by decide) x_0 rfl dX4_guest_21 ?_
      refine fr_callV0 (pc := 24) (ci := 0) (T := TX0) (N := 15) [] [] (ev_H (fun _ => c_X0_isFull (by omega))) gc_X4_88 rfl rfl ⟨rfl, rfl, by decide, by decide⟩ (Nat.le_of_ble_eq_true rfl) rfl (by decide) x_1 ⟨by decide, by decide⟩ dX4_guest_24 ?_
      refine fr_if_eq (pc := 27) 36 (by decide) dX4_guest_27 (fun h27 => ?_) (fun h27 => ?_)
      · have g27 := bI_0.mp h27
        rw [Decidable.not_not] at g27
        have hc : cnt r < 8 := by
          have q := g27
          rw [w.ct] at q
          exact (nI_ltI (b := 8) (by have := w.ctl; omega) (by decide)).mp q
        refine fr_aload_n (pc := 36) rfl dX4_guest_36 ?_
        refine fr_get (pc := 37) (ci := 3) (T := TX4) (k0 := 0) rfl hin_X4 (by decide) fl_X4_10 (by decide) x_0 rfl dX4_guest_37 ?_
        refine fr_iload_n (pc := 40) rfl dX4_guest_40 ?_
        refine fr_iload_n (pc := 41) rfl dX4_guest_41 ?_
        refine fr_callV0 (pc := 42) (ci := 0) (T := TX0) (N := 15) [.int k, .int c] [] (ev_H (fun _ => c_X0_add (by omega) (by assumption) (by assumption))) gc_X4_92 rfl rfl ⟨rfl, rfl, by decide, by decide⟩ (Nat.le_of_ble_eq_true rfl) rfl (by decide) x_1 ⟨by decide, by decide⟩ dX4_guest_42 ?_
        exact fr_ireturn (pc := 45) rfl (by simp only [sp_guest, fb, sr, sG, xF, g4, g11, g27, if_true, if_false, not_true_eq_false, not_false_eq_true, or_true, true_or, or_false, false_or, and_true, true_and, and_false, false_and, or_self, and_self, eq_self] <;> rfl) (by simp only [sp_guest, fb, sr, sG, xF, g4, g11, g27, if_true, if_false, not_true_eq_false, not_false_eq_true, or_true, true_or, or_false, false_or, and_true, true_and, and_false, false_and, or_self, and_self, eq_self] <;> rfl) rfl dX4_guest_45
      · have g27 := bI_n0 h27
        refine fr_aload_n (pc := 30) rfl dX4_guest_30 ?_
        refine fr_iconst (pc := 31) (v := 1) rfl dX4_guest_31 ?_
        refine fr_callV0 (pc := 32) (ci := 3) (T := TX4) (N := 7) [.int 1] [] (c_X4_found (k := 1) (by decide)) gc_X4_51 rfl rfl ⟨rfl, rfl, by decide, by decide⟩ (Nat.le_of_ble_eq_true rfl) rfl (by decide) x_0 ⟨by decide, by decide⟩ dX4_guest_32 ?_
        exact fr_ireturn (pc := 35) rfl (by simp only [sp_guest, fb, sr, sG, xF, g4, g11, g27, if_true, if_false, not_true_eq_false, not_false_eq_true, or_true, true_or, or_false, false_or, and_true, true_and, and_false, false_and, or_self, and_self, eq_self] <;> rfl) (by simp only [sp_guest, fb, sr, sG, xF, g4, g11, g27, if_true, if_false, not_true_eq_false, not_false_eq_true, or_true, true_or, or_false, false_or, and_true, true_and, and_false, false_and, or_self, and_self, eq_self] <;> rfl) rfl dX4_guest_35
    · have g11 := bI_0.mp h11
      refine fr_aload_n (pc := 14) rfl dX4_guest_14 ?_
      refine fr_iconst (pc := 15) (v := 0) rfl dX4_guest_15 ?_
      refine fr_callV0 (pc := 16) (ci := 3) (T := TX4) (N := 7) [.int 0] [] (c_X4_found (k := 0) (by decide)) gc_X4_51 rfl rfl ⟨rfl, rfl, by decide, by decide⟩ (Nat.le_of_ble_eq_true rfl) rfl (by decide) x_0 ⟨by decide, by decide⟩ dX4_guest_16 ?_
      exact fr_ireturn (pc := 19) rfl (by simp only [sp_guest, fb, sr, sG, xF, g4, g11, if_true, if_false, not_true_eq_false, not_false_eq_true, or_true, true_or, or_false, false_or, and_true, true_and, and_false, false_and, or_self, and_self, eq_self] <;> rfl) (by simp only [sp_guest, fb, sr, sG, xF, g4, g11, if_true, if_false, not_true_eq_false, not_false_eq_true, or_true, true_or, or_false, false_or, and_true, true_and, and_false, false_and, or_self, and_self, eq_self] <;> rfl) rfl dX4_guest_19
