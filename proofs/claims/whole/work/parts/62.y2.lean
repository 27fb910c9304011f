theorem place_lt {r : rT} : s_place r < 6 := Nat.mod_lt _ (by decide)
set_option maxRecDepth 100000 in
theorem c_X5_placeNow {Γ : aG} {l : Launch} {M : Nat → aC} {r : rT} {kr ar : Nat → Int32} {ik : Int32} {fi b : Nat → Int32} {ln : Int32} {S : sT} {it mv : Nat → Int32} {Q : yQ} (w : wf r)  : Ev Γ l mX5_placeNow [.ref 42] 54 (yM M r kr ar ik fi b ln S it mv Q) (some (.int (nI (6 + s_place r)))) 54 (yM M r kr ar ik fi b ln S it mv Q) := by
  refine Ev.of [(0, .ref 42)] (by decide) (Nat.le_of_ble_eq_true rfl) rfl ?_
  refine fr_bipush (pc := 0) (v := 6) rfl dX5_placeNow_0 ?_
  refine fr_aload_n (pc := 2) rfl dX5_placeNow_2 ?_
  refine fr_get (pc := 3) (ci := 4) (T := TX5) (k0 := 0) rfl hin_X5 (by decide) fl_X5_9 (by decide) y_42 rfl dX5_placeNow_3 ?_
  refine fr_iconst (pc := 6) (v := 0) rfl dX5_placeNow_6 ?_
  refine fr_iald (pc := 7) 0 rfl (by decide) y_43 (by decide) (by decide) dX5_placeNow_7 ?_
  refine fr_eq (z := r 9 0) (row_at (ph_l (by decide))) ?_
  refine fr_bipush (pc := 8) (v := 6) rfl dX5_placeNow_8 ?_
  refine fr_irem (pc := 10) (by decide) dX5_placeNow_10 ?_
  refine fr_eq (z := nI (s_place r)) (pl_eq w) ?_
  refine fr_iadd (pc := 11) dX5_placeNow_11 ?_
  refine fr_eq (z := nI (6 + (s_place r))) (nI_add 6 (s_place r)) ?_
  exact fr_ireturn (pc := 12) rfl rfl rfl rfl dX5_placeNow_12
set_option maxRecDepth 100000 in
theorem c_X5_measureNow {Γ : aG} {l : Launch} {M : Nat → aC} {r : rT} {kr ar : Nat → Int32} {ik : Int32} {fi b : Nat → Int32} {ln : Int32} {S : sT} {it mv : Nat → Int32} {Q : yQ} (w : wf r)  : Ev Γ l mX5_measureNow [.ref 42] 54 (yM M r kr ar ik fi b ln S it mv Q) (some (.int (s_meas r))) 54 (yM M r kr ar ik fi b ln S it mv Q) := by
  refine Ev.of [(0, .ref 42)] (by decide) (Nat.le_of_ble_eq_true rfl) rfl ?_
  refine fr_aload_n (pc := 0) rfl dX5_measureNow_0 ?_
  refine fr_get (pc := 1) (ci := 4) (T := TX5) (k0 := 0) rfl hin_X5 (by decide) fl_X5_9 (by decide) y_42 rfl dX5_measureNow_1 ?_
  refine fr_iconst (pc := 4) (v := 5) rfl dX5_measureNow_4 ?_
  refine fr_iald (pc := 5) 5 rfl (by decide) y_43 (by decide) (by decide) dX5_measureNow_5 ?_
  refine fr_eq (z := r 9 5) (row_at (ph_l (by decide))) ?_
  refine fr_iconst (pc := 6) (v := 1) rfl dX5_measureNow_6 ?_
  refine fr_icmp_ne (pc := 7) 15 (by decide) dX5_measureNow_7 (fun h7 => ?_) (fun h7 => ?_)
  · refine fr_aload_n (pc := 15) rfl dX5_measureNow_15 ?_
    refine fr_get (pc := 16) (ci := 4) (T := TX5) (k0 := 0) rfl hin_X5 (by decide) fl_X5_9 (by decide) y_42 rfl dX5_measureNow_16 ?_
    have hpl := place_lt (r := r)
    refine fr_aload_n (pc := 19) rfl dX5_measureNow_19 ?_
    refine fr_callV0 (pc := 20) (ci := 4) (T := TX5) (N := 20) [] [.ref 43] (c_X5_placeNow (by assumption)) gc_X5_94 rfl rfl ⟨rfl, rfl, by decide, by decide⟩ (Nat.le_of_ble_eq_true rfl) rfl (by decide) y_42 ⟨by decide, by decide⟩ dX5_measureNow_20 ?_
    refine fr_iald (pc := 23) (6 + (s_place r)) rfl (by decide) y_43 (by have := place_lt (r := r); omega) (by decide) dX5_measureNow_23 ?_
    refine fr_eq (z := r 1 (s_place r)) (row_at (ph_m (by first | assumption | omega))) ?_
    exact fr_ireturn (pc := 24) rfl (if_neg h7).symm rfl rfl dX5_measureNow_24
  · refine fr_bipush (pc := 10) (v := 36) rfl dX5_measureNow_10 ?_
    refine fr_goto (pc := 12) 24 (by decide) dX5_measureNow_12 ?_
    exact fr_ireturn (pc := 24) rfl (if_pos h7).symm rfl rfl dX5_measureNow_24
set_option maxRecDepth 100000 in
theorem c_X5_wideAt {Γ : aG} {l : Launch} {M : Nat → aC} {r : rT} {kr ar : Nat → Int32} {ik : Int32} {fi b : Nat → Int32} {ln : Int32} {S : sT} {it mv : Nat → Int32} {Q : yQ} {c : Nat} {m : Int32} (hc : c < 16)  : Ev Γ l mX5_wideAt [.ref 42, .int (nI c), .int m] 54 (yM M r kr ar ik fi b ln S it mv Q) (some (.int (s_width r c m))) 54 (yM M r kr ar ik fi b ln S it mv Q) := by
  refine Ev.of [(0, .ref 42), (1, .int (nI c)), (2, .int m)] (by decide) (Nat.le_of_ble_eq_true rfl) rfl ?_
  refine fr_iconst (pc := 0) (v := 0) rfl dX5_wideAt_0 ?_
  refine fr_aload_n (pc := 1) rfl dX5_wideAt_1 ?_
  refine fr_get (pc := 2) (ci := 4) (T := TX5) (k0 := 0) rfl hin_X5 (by decide) fl_X5_9 (by decide) y_42 rfl dX5_wideAt_2 ?_
  refine fr_bipush (pc := 5) (v := 12) rfl dX5_wideAt_5 ?_
  refine fr_iload_n (pc := 7) rfl dX5_wideAt_7 ?_
  refine fr_iadd (pc := 8) dX5_wideAt_8 ?_
  refine fr_eq (z := nI (12 + c)) (nI_add 12 c) ?_
  refine fr_iald (pc := 9) (12 + c) rfl (by decide) y_43 (by first | assumption | omega) (by decide) dX5_wideAt_9 ?_
  refine fr_eq (z := r 0 c) (row_at (ph_b (by first | assumption | omega))) ?_
  refine fr_iload_n (pc := 10) rfl dX5_wideAt_10 ?_
  refine fr_iadd (pc := 11) dX5_wideAt_11 ?_
  refine fr_bipush (pc := 12) (v := 26) rfl dX5_wideAt_12 ?_
  refine fr_isub (pc := 14) dX5_wideAt_14 ?_
  refine fr_mmax (pc := 15) gm_X5_98 wM_s_max wM_i wM_c_max ⟨by decide, by decide, by decide, by decide⟩ (Nat.le_of_ble_eq_true rfl) dX5_wideAt_15 ?_
  exact fr_ireturn (pc := 18) rfl rfl rfl rfl dX5_wideAt_18
set_option maxRecDepth 100000 in
theorem c_X5_comesIn {Γ : aG} {l : Launch} {M : Nat → aC} {r : rT} {kr ar : Nat → Int32} {ik : Int32} {fi b : Nat → Int32} {ln : Int32} {S : sT} {it mv : Nat → Int32} {Q : yQ} {k c : Int32} (w : wf r) (hc : cnt r < 8)  : Ev Γ l mX5_comesIn [.ref 42, .int k, .int c] 54 (yM M r kr ar ik fi b ln S it mv Q) (some (.int (nI (cnt r)))) 54 (yM M (s_add r k c) kr ar ik fi b ln S it mv Q) := by
  refine Ev.of [(0, .ref 42), (1, .int k), (2, .int c)] (by decide) (Nat.le_of_ble_eq_true rfl) rfl ?_
  refine fr_aload_n (pc := 0) rfl dX5_comesIn_0 ?_
  refine fr_get (pc := 1) (ci := 4) (T := TX5) (k0 := 0) rfl hin_X5 (by decide) fl_X5_9 (by decide) y_42 rfl dX5_comesIn_1 ?_
  refine fr_iconst (pc := 4) (v := 1) rfl dX5_comesIn_4 ?_
  refine fr_iald (pc := 5) 1 rfl (by decide) y_43 (by decide) (by decide) dX5_comesIn_5 ?_
  refine fr_eq (z := r 9 1) (row_at (ph_l (by decide))) ?_
  refine fr_eq (z := nI (cnt r)) w.ct ?_
  refine fr_istore_n (pc := 6) [(3, .int (nI (cnt r))), (0, .ref 42), (1, .int k), (2, .int c)] (by decide) rfl dX5_comesIn_6 ?_
  refine fr_aload_n (pc := 7) rfl dX5_comesIn_7 ?_
  refine fr_get (pc := 8) (ci := 4) (T := TX5) (k0 := 0) rfl hin_X5 (by decide) fl_X5_9 (by decide) y_42 rfl dX5_comesIn_8 ?_
  refine fr_iload_n (pc := 11) rfl dX5_comesIn_11 ?_
  refine fr_iconst (pc := 12) (v := 0) rfl dX5_comesIn_12 ?_
  refine fr_callS0 (pc := 13) [.int (nI (cnt r)), .int 0] [.ref 43] (c_X5_guestAt (g := (cnt r)) (k := 0)) gc_X5_106 rfl rfl ⟨rfl, rfl, by decide, by decide⟩ (Nat.le_of_ble_eq_true rfl) ⟨by decide, by decide⟩ dX5_comesIn_13 ?_
  refine fr_iload_n (pc := 16) rfl dX5_comesIn_16 ?_
  refine fr_iast (pc := 17) (38 + 6 * (cnt r) + 0) rfl (by decide) y_43 (by first | assumption | omega) (by decide) dX5_comesIn_17 ?_
  refine fr_mem (y_u43 (ph_g (k := 0) (by first | decide | assumption | omega))) ?_
  refine fr_aload_n (pc := 18) rfl dX5_comesIn_18 ?_
  refine fr_get (pc := 19) (ci := 4) (T := TX5) (k0 := 0) rfl hin_X5 (by decide) fl_X5_9 (by decide) y_42 rfl dX5_comesIn_19 ?_
  refine fr_iload_n (pc := 22) rfl dX5_comesIn_22 ?_
  refine fr_iconst (pc := 23) (v := 1) rfl dX5_comesIn_23 ?_
  refine fr_callS0 (pc := 24) [.int (nI (cnt r)), .int 1] [.ref 43] (c_X5_guestAt (g := (cnt r)) (k := 1)) gc_X5_106 rfl rfl ⟨rfl, rfl, by decide, by decide⟩ (Nat.le_of_ble_eq_true rfl) ⟨by decide, by decide⟩ dX5_comesIn_24 ?_
  refine fr_iload_n (pc := 27) rfl dX5_comesIn_27 ?_
  refine fr_iast (pc := 28) (38 + 6 * (cnt r) + 1) rfl (by decide) y_43 (by first | assumption | omega) (by decide) dX5_comesIn_28 ?_
  refine fr_mem (y_u43 (ph_g (k := 1) (by first | decide | assumption | omega))) ?_
  refine fr_aload_n (pc := 29) rfl dX5_comesIn_29 ?_
  refine fr_get (pc := 30) (ci := 4) (T := TX5) (k0 := 0) rfl hin_X5 (by decide) fl_X5_9 (by decide) y_42 rfl dX5_comesIn_30 ?_
  refine fr_iload_n (pc := 33) rfl dX5_comesIn_33 ?_
  refine fr_iconst (pc := 34) (v := 2) rfl dX5_comesIn_34 ?_
  refine fr_callS0 (pc := 35) [.int (nI (cnt r)), .int 2] [.ref 43] (c_X5_guestAt (g := (cnt r)) (k := 2)) gc_X5_106 rfl rfl ⟨rfl, rfl, by decide, by decide⟩ (Nat.le_of_ble_eq_true rfl) ⟨by decide, by decide⟩ dX5_comesIn_35 ?_
  refine fr_bipush (pc := 38) (v := 10) rfl dX5_comesIn_38 ?_
  refine fr_iast (pc := 40) (38 + 6 * (cnt r) + 2) rfl (by decide) y_43 (by first | assumption | omega) (by decide) dX5_comesIn_40 ?_
  refine fr_mem (y_u43 (ph_g (k := 2) (by first | decide | assumption | omega))) ?_
  refine fr_aload_n (pc := 41) rfl dX5_comesIn_41 ?_
  refine fr_get (pc := 42) (ci := 4) (T := TX5) (k0 := 0) rfl hin_X5 (by decide) fl_X5_9 (by decide) y_42 rfl dX5_comesIn_42 ?_
  refine fr_iload_n (pc := 45) rfl dX5_comesIn_45 ?_
  refine fr_iconst (pc := 46) (v := 3) rfl dX5_comesIn_46 ?_
  refine fr_callS0 (pc := 47) [.int (nI (cnt r)), .int 3] [.ref 43] (c_X5_guestAt (g := (cnt r)) (k := 3)) gc_X5_106 rfl rfl ⟨rfl, rfl, by decide, by decide⟩ (Nat.le_of_ble_eq_true rfl) ⟨by decide, by decide⟩ dX5_comesIn_47 ?_
  refine fr_iload_n (pc := 50) rfl dX5_comesIn_50 ?_
  refine fr_iast (pc := 51) (38 + 6 * (cnt r) + 3) rfl (by decide) y_43 (by first | assumption | omega) (by decide) dX5_comesIn_51 ?_
  refine fr_mem (y_u43 (ph_g (k := 3) (by first | decide | assumption | omega))) ?_
  refine fr_aload_n (pc := 52) rfl dX5_comesIn_52 ?_
  refine fr_get (pc := 53) (ci := 4) (T := TX5) (k0 := 0) rfl hin_X5 (by decide) fl_X5_9 (by decide) y_42 rfl dX5_comesIn_53 ?_
  refine fr_iload_n (pc := 56) rfl dX5_comesIn_56 ?_
  refine fr_iconst (pc := 57) (v := 4) rfl dX5_comesIn_57 ?_
  refine fr_callS0 (pc := 58) [.int (nI (cnt r)), .int 4] [.ref 43] (c_X5_guestAt (g := (cnt r)) (k := 4)) gc_X5_106 rfl rfl ⟨rfl, rfl, by decide, by decide⟩ (Nat.le_of_ble_eq_true rfl) ⟨by decide, by decide⟩ dX5_comesIn_58 ?_
  refine fr_iconst (pc := 61) (v := 0) rfl dX5_comesIn_61 ?_
  refine fr_iast (pc := 62) (38 + 6 * (cnt r) + 4) rfl (by decide) y_43 (by first | assumption | omega) (by decide) dX5_comesIn_62 ?_
  refine fr_mem (y_u43 (ph_g (k := 4) (by first | decide | assumption | omega))) ?_
  refine fr_aload_n (pc := 63) rfl dX5_comesIn_63 ?_
  refine fr_get (pc := 64) (ci := 4) (T := TX5) (k0 := 0) rfl hin_X5 (by decide) fl_X5_9 (by decide) y_42 rfl dX5_comesIn_64 ?_
  refine fr_iload_n (pc := 67) rfl dX5_comesIn_67 ?_
  refine fr_iconst (pc := 68) (v := 5) rfl dX5_comesIn_68 ?_
  refine fr_callS0 (pc := 69) [.int (nI (cnt r)), .int 5] [.ref 43] (c_X5_guestAt (g := (cnt r)) (k := 5)) gc_X5_106 rfl rfl ⟨rfl, rfl, by decide, by decide⟩ (Nat.le_of_ble_eq_true rfl) ⟨by decide, by decide⟩ dX5_comesIn_69 ?_
  refine fr_iconst (pc := 72) (v := 0) rfl dX5_comesIn_72 ?_
  refine fr_iast (pc := 73) (38 + 6 * (cnt r) + 5) rfl (by decide) y_43 (by first | assumption | omega) (by decide) dX5_comesIn_73 ?_
  refine fr_mem (y_u43 (ph_g (k := 5) (by first | decide | assumption | omega))) ?_
  refine fr_aload_n (pc := 74) rfl dX5_comesIn_74 ?_
  refine fr_get (pc := 75) (ci := 4) (T := TX5) (k0 := 0) rfl hin_X5 (by decide) fl_X5_9 (by decide) y_42 rfl dX5_comesIn_75 ?_
  refine fr_iconst (pc := 78) (v := 1) rfl dX5_comesIn_78 ?_
  refine fr_dup2 (pc := 79) rfl rfl dX5_comesIn_79 ?_
  refine fr_iald (pc := 80) 1 rfl (by decide) y_43 (by decide) (by decide) dX5_comesIn_80 ?_
  refine fr_eq (z := (u2 (u2 (u2 (u2 (u2 (u2 r 2 (cnt r) k) 3 (cnt r) c) 4 (cnt r) 10) 5 (cnt r) c) 6 (cnt r) 0) 7 (cnt r) 0) 9 1) (row_at (ph_l (by decide))) ?_
  refine fr_iconst (pc := 81) (v := 1) rfl dX5_comesIn_81 ?_
  refine fr_iadd (pc := 82) dX5_comesIn_82 ?_
  refine fr_iast (pc := 83) 1 rfl (by decide) y_43 (by decide) (by decide) dX5_comesIn_83 ?_
  refine fr_mem (y_u43 (ph_l (by decide))) ?_
  refine fr_iload_n (pc := 84) rfl dX5_comesIn_84 ?_
  exact fr_ireturn (pc := 85) rfl rfl rfl rfl dX5_comesIn_85
theorem ck_a (s : Int32) : s + 4 - 8 = s - 4 := by
  rw [Int32.sub_eq_add_neg, Int32.add_assoc, show (4 : Int32) + -8 = -4 from by decide, ← Int32.sub_eq_add_neg]
theorem ck_b (s : Int32) : s + 4 - 0 = s + 4 := Int32.sub_zero _
set_option maxRecDepth 100000 in
theorem c_X5_needs {Γ : aG} {l : Launch} {M : Nat → aC} {r : rT} {kr ar : Nat → Int32} {ik : Int32} {fi b : Nat → Int32} {ln : Int32} {S : sT} {it mv : Nat → Int32} {Q : yQ} {g : Nat} (hg : g < 8)  : Ev Γ l mX5_needs [.ref 42, .int (nI g)] 54 (yM M r kr ar ik fi b ln S it mv Q) (some (.int (s_needs r g))) 54 (yM M r kr ar ik fi b ln S it mv Q) := by
  refine Ev.of [(0, .ref 42), (1, .int (nI g))] (by decide) (Nat.le_of_ble_eq_true rfl) rfl ?_
  refine fr_aload_n (pc := 0) rfl dX5_needs_0 ?_
  refine fr_iload_n (pc := 1) rfl dX5_needs_1 ?_
  refine fr_iconst (pc := 2) (v := 2) rfl dX5_needs_2 ?_
  refine fr_callV0 (pc := 3) (ci := 4) (T := TX5) (N := 20) [.int (nI g), .int 2] [] (c_X5_guestIs (k := 2) (by first | assumption | omega) (by first | decide | assumption | omega)) gc_X5_116 rfl rfl ⟨rfl, rfl, by decide, by decide⟩ (Nat.le_of_ble_eq_true rfl) rfl (by decide) y_42 ⟨by decide, by decide⟩ dX5_needs_3 ?_
  refine fr_nm (fun x2_6 e_x2_6 => ?_)
  refine fr_istore_n (pc := 6) [(2, .int x2_6), (0, .ref 42), (1, .int (nI g))] (by decide) rfl dX5_needs_6 ?_
  refine fr_iconst (pc := 7) (v := 0) rfl dX5_needs_7 ?_
  refine fr_aload_n (pc := 8) rfl dX5_needs_8 ?_
  refine fr_iload_n (pc := 9) rfl dX5_needs_9 ?_
  refine fr_iconst (pc := 10) (v := 4) rfl dX5_needs_10 ?_
  refine fr_callV0 (pc := 11) (ci := 4) (T := TX5) (N := 20) [.int (nI g), .int 4] [.int 0] (c_X5_guestIs (k := 4) (by first | assumption | omega) (by first | decide | assumption | omega)) gc_X5_116 rfl rfl ⟨rfl, rfl, by decide, by decide⟩ (Nat.le_of_ble_eq_true rfl) rfl (by decide) y_42 ⟨by decide, by decide⟩ dX5_needs_11 ?_
  refine fr_iconst (pc := 14) (v := 3) rfl dX5_needs_14 ?_
  refine fr_icmp_lt (pc := 15) 24 (by decide) dX5_needs_15 (fun h15 => ?_) (fun h15 => ?_)
  · refine fr_iload_n (pc := 24) rfl dX5_needs_24 ?_
    refine fr_iconst (pc := 25) (v := 4) rfl dX5_needs_25 ?_
    refine fr_iadd (pc := 26) dX5_needs_26 ?_
    refine fr_mmax (pc := 27) gm_X5_98 wM_s_max wM_i wM_c_max ⟨by decide, by decide, by decide, by decide⟩ (Nat.le_of_ble_eq_true rfl) dX5_needs_27 ?_
    refine fr_nm (fun x3_30 e_x3_30 => ?_)
    refine fr_istore_n (pc := 30) [(3, .int x3_30), (2, .int x2_6), (0, .ref 42), (1, .int (nI g))] (by decide) rfl dX5_needs_30 ?_
    refine fr_aload_n (pc := 31) rfl dX5_needs_31 ?_
    refine fr_iload_n (pc := 32) rfl dX5_needs_32 ?_
    refine fr_iconst (pc := 33) (v := 0) rfl dX5_needs_33 ?_
    refine fr_callV0 (pc := 34) (ci := 4) (T := TX5) (N := 20) [.int (nI g), .int 0] [] (c_X5_guestIs (k := 0) (by first | assumption | omega) (by first | decide | assumption | omega)) gc_X5_116 rfl rfl ⟨rfl, rfl, by decide, by decide⟩ (Nat.le_of_ble_eq_true rfl) rfl (by decide) y_42 ⟨by decide, by decide⟩ dX5_needs_34 ?_
    by_cases hk37_1 : (r 2 g) = 1
    · refine fr_tIn (pc := 37) 76 (by rw [hk37_1]; decide) (by rw [hk37_1]; decide) (by rw [hk37_1]; rfl) (by decide) dX5_needs_37 ?_
      refine fr_iload_n (pc := 76) rfl dX5_needs_76 ?_
      exact fr_ireturn (pc := 77) rfl (by simp only [s_needs, k_needs, k_cook, *] <;> simp [ck_a]) rfl rfl dX5_needs_77
    by_cases hk37_2 : (r 2 g) = 2
    · refine fr_tIn (pc := 37) 83 (by rw [hk37_2]; decide) (by rw [hk37_2]; decide) (by rw [hk37_2]; rfl) (by decide) dX5_needs_37 ?_
      refine fr_iload_n (pc := 83) rfl dX5_needs_83 ?_
      refine fr_iconst (pc := 84) (v := 2) rfl dX5_needs_84 ?_
      refine fr_idiv (pc := 85) (by decide) dX5_needs_85 ?_
      exact fr_ireturn (pc := 86) rfl (by simp only [s_needs, k_needs, k_cook, *] <;> simp [ck_a]) rfl rfl dX5_needs_86
    by_cases hk37_3 : (r 2 g) = 3
    · refine fr_tIn (pc := 37) 87 (by rw [hk37_3]; decide) (by rw [hk37_3]; decide) (by rw [hk37_3]; rfl) (by decide) dX5_needs_37 ?_
      refine fr_iload_n (pc := 87) rfl dX5_needs_87 ?_
      refine fr_iconst (pc := 88) (v := 2) rfl dX5_needs_88 ?_
      refine fr_idiv (pc := 89) (by decide) dX5_needs_89 ?_
      refine fr_iconst (pc := 90) (v := 3) rfl dX5_needs_90 ?_
      refine fr_iadd (pc := 91) dX5_needs_91 ?_
      exact fr_ireturn (pc := 92) rfl (by simp only [s_needs, k_needs, k_cook, *] <;> simp [ck_a]) rfl rfl dX5_needs_92
    by_cases hk37_4 : (r 2 g) = 4
    · refine fr_tIn (pc := 37) 93 (by rw [hk37_4]; decide) (by rw [hk37_4]; decide) (by rw [hk37_4]; rfl) (by decide) dX5_needs_37 ?_
      refine fr_iload_n (pc := 93) rfl dX5_needs_93 ?_
      refine fr_iconst (pc := 94) (v := 2) rfl dX5_needs_94 ?_
      refine fr_idiv (pc := 95) (by decide) dX5_needs_95 ?_
      refine fr_iconst (pc := 96) (v := 3) rfl dX5_needs_96 ?_
      refine fr_iadd (pc := 97) dX5_needs_97 ?_
      refine fr_aload_n (pc := 98) rfl dX5_needs_98 ?_
      refine fr_get (pc := 99) (ci := 4) (T := TX5) (k0 := 0) rfl hin_X5 (by decide) fl_X5_9 (by decide) y_42 rfl dX5_needs_99 ?_
      refine fr_iconst (pc := 102) (v := 0) rfl dX5_needs_102 ?_
      refine fr_iald (pc := 103) 0 rfl (by decide) y_43 (by decide) (by decide) dX5_needs_103 ?_
      refine fr_eq (z := r 9 0) (row_at (ph_l (by decide))) ?_
      refine fr_iconst (pc := 104) (v := 2) rfl dX5_needs_104 ?_
      refine fr_irem (pc := 105) (by decide) dX5_needs_105 ?_
      refine fr_iadd (pc := 106) dX5_needs_106 ?_
      exact fr_ireturn (pc := 107) rfl (by simp only [s_needs, k_needs, k_cook, *] <;> simp [ck_a]) rfl rfl dX5_needs_107
    by_cases hk37_5 : (r 2 g) = 5
    · refine fr_tIn (pc := 37) 108 (by rw [hk37_5]; decide) (by rw [hk37_5]; decide) (by rw [hk37_5]; rfl) (by decide) dX5_needs_37 ?_
      refine fr_iconst (pc := 108) (v := 4) rfl dX5_needs_108 ?_
      exact fr_ireturn (pc := 109) rfl (by simp only [s_needs, k_needs, k_cook, *] <;> simp [ck_a]) rfl rfl dX5_needs_109
    by_cases hk37_6 : (r 2 g) = 6
    · refine fr_tIn (pc := 37) 78 (by rw [hk37_6]; decide) (by rw [hk37_6]; decide) (by rw [hk37_6]; rfl) (by decide) dX5_needs_37 ?_
      refine fr_iload_n (pc := 78) rfl dX5_needs_78 ?_
      refine fr_bipush (pc := 79) (v := 6) rfl dX5_needs_79 ?_
      refine fr_iadd (pc := 81) dX5_needs_81 ?_
      exact fr_ireturn (pc := 82) rfl (by simp only [s_needs, k_needs, k_cook, *] <;> simp [ck_a]) rfl rfl dX5_needs_82
    refine fr_tOut (pc := 37) 110 (sw_1_6 hk37_1 hk37_2 hk37_3 hk37_4 hk37_5 hk37_6) (by decide) dX5_needs_37 ?_
    refine fr_iload_n (pc := 110) rfl dX5_needs_110 ?_
    exact fr_ireturn (pc := 111) rfl (by simp only [s_needs, k_needs, k_cook, *] <;> simp [ck_a]) rfl rfl dX5_needs_111
  · refine fr_iload_n (pc := 18) rfl dX5_needs_18 ?_
    refine fr_iconst (pc := 19) (v := 4) rfl dX5_needs_19 ?_
    refine fr_isub (pc := 20) dX5_needs_20 ?_
    refine fr_goto (pc := 21) 27 (by decide) dX5_needs_21 ?_
    refine fr_mmax (pc := 27) gm_X5_98 wM_s_max wM_i wM_c_max ⟨by decide, by decide, by decide, by decide⟩ (Nat.le_of_ble_eq_true rfl) dX5_needs_27 ?_
    refine fr_nm (fun x3_30 e_x3_30 => ?_)
    refine fr_istore_n (pc := 30) [(3, .int x3_30), (2, .int x2_6), (0, .ref 42), (1, .int (nI g))] (by decide) rfl dX5_needs_30 ?_
    refine fr_aload_n (pc := 31) rfl dX5_needs_31 ?_
    refine fr_iload_n (pc := 32) rfl dX5_needs_32 ?_
    refine fr_iconst (pc := 33) (v := 0) rfl dX5_needs_33 ?_
    refine fr_callV0 (pc := 34) (ci := 4) (T := TX5) (N := 20) [.int (nI g), .int 0] [] (c_X5_guestIs (k := 0) (by first | assumption | omega) (by first | decide | assumption | omega)) gc_X5_116 rfl rfl ⟨rfl, rfl, by decide, by decide⟩ (Nat.le_of_ble_eq_true rfl) rfl (by decide) y_42 ⟨by decide, by decide⟩ dX5_needs_34 ?_
    by_cases hk37_1 : (r 2 g) = 1
    · refine fr_tIn (pc := 37) 76 (by rw [hk37_1]; decide) (by rw [hk37_1]; decide) (by rw [hk37_1]; rfl) (by decide) dX5_needs_37 ?_
      refine fr_iload_n (pc := 76) rfl dX5_needs_76 ?_
      exact fr_ireturn (pc := 77) rfl (by simp only [s_needs, k_needs, k_cook, *] <;> simp [ck_a]) rfl rfl dX5_needs_77
    by_cases hk37_2 : (r 2 g) = 2
    · refine fr_tIn (pc := 37) 83 (by rw [hk37_2]; decide) (by rw [hk37_2]; decide) (by rw [hk37_2]; rfl) (by decide) dX5_needs_37 ?_
      refine fr_iload_n (pc := 83) rfl dX5_needs_83 ?_
      refine fr_iconst (pc := 84) (v := 2) rfl dX5_needs_84 ?_
      refine fr_idiv (pc := 85) (by decide) dX5_needs_85 ?_
      exact fr_ireturn (pc := 86) rfl (by simp only [s_needs, k_needs, k_cook, *] <;> simp [ck_a]) rfl rfl dX5_needs_86
    by_cases hk37_3 : (r 2 g) = 3
    · refine fr_tIn (pc := 37) 87 (by rw [hk37_3]; decide) (by rw [hk37_3]; decide) (by rw [hk37_3]; rfl) (by decide) dX5_needs_37 ?_
      refine fr_iload_n (pc := 87) rfl dX5_needs_87 ?_
      refine fr_iconst (pc := 88) (v := 2) rfl dX5_needs_88 ?_
      refine fr_idiv (pc := 89) (by decide) dX5_needs_89 ?_
      refine fr_iconst (pc := 90) (v := 3) rfl dX5_needs_90 ?_
      refine fr_iadd (pc := 91) dX5_needs_91 ?_
      exact fr_ireturn (pc := 92) rfl (by simp only [s_needs, k_needs, k_cook, *] <;> simp [ck_a]) rfl rfl dX5_needs_92
    by_cases hk37_4 : (r 2 g) = 4
    · refine fr_tIn (pc := 37) 93 (by rw [hk37_4]; decide) (by rw [hk37_4]; decide) (by rw [hk37_4]; rfl) (by decide) dX5_needs_37 ?_
      refine fr_iload_n (pc := 93) rfl dX5_needs_93 ?_
      refine fr_iconst (pc := 94) (v := 2) rfl dX5_needs_94 ?_
      refine fr_idiv (pc := 95) (by decide) dX5_needs_95 ?_
      refine fr_iconst (pc := 96) (v := 3) rfl dX5_needs_96 ?_
      refine fr_iadd (pc := 97) dX5_needs_97 ?_
      refine fr_aload_n (pc := 98) rfl dX5_needs_98 ?_
      refine fr_get (pc := 99) (ci := 4) (T := TX5) (k0 := 0) rfl hin_X5 (by decide) fl_X5_9 (by decide) y_42 rfl dX5_needs_99 ?_
      refine fr_iconst (pc := 102) (v := 0) rfl dX5_needs_102 ?_
      refine fr_iald (pc := 103) 0 rfl (by decide) y_43 (by decide) (by decide) dX5_needs_103 ?_
      refine fr_eq (z := r 9 0) (row_at (ph_l (by decide))) ?_
      refine fr_iconst (pc := 104) (v := 2) rfl dX5_needs_104 ?_
      refine fr_irem (pc := 105) (by decide) dX5_needs_105 ?_
      refine fr_iadd (pc := 106) dX5_needs_106 ?_
      exact fr_ireturn (pc := 107) rfl (by simp only [s_needs, k_needs, k_cook, *] <;> simp [ck_a]) rfl rfl dX5_needs_107
    by_cases hk37_5 : (r 2 g) = 5
    · refine fr_tIn (pc := 37) 108 (by rw [hk37_5]; decide) (by rw [hk37_5]; decide) (by rw [hk37_5]; rfl) (by decide) dX5_needs_37 ?_
      refine fr_iconst (pc := 108) (v := 4) rfl dX5_needs_108 ?_
      exact fr_ireturn (pc := 109) rfl (by simp only [s_needs, k_needs, k_cook, *] <;> simp [ck_a]) rfl rfl dX5_needs_109
    by_cases hk37_6 : (r 2 g) = 6
    · refine fr_tIn (pc := 37) 78 (by rw [hk37_6]; decide) (by rw [hk37_6]; decide) (by rw [hk37_6]; rfl) (by decide) dX5_needs_37 ?_
      refine fr_iload_n (pc := 78) rfl dX5_needs_78 ?_
      refine fr_bipush (pc := 79) (v := 6) rfl dX5_needs_79 ?_
      refine fr_iadd (pc := 81) dX5_needs_81 ?_
      exact fr_ireturn (pc := 82) rfl (by simp only [s_needs, k_needs, k_cook, *] <;> simp [ck_a]) rfl rfl dX5_needs_82
    refine fr_tOut (pc := 37) 110 (sw_1_6 hk37_1 hk37_2 hk37_3 hk37_4 hk37_5 hk37_6) (by decide) dX5_needs_37 ?_
    refine fr_iload_n (pc := 110) rfl dX5_needs_110 ?_
    exact fr_ireturn (pc := 111) rfl (by simp only [s_needs, k_needs, k_cook, *] <;> simp [ck_a]) rfl rfl dX5_needs_111
set_option maxRecDepth 100000 in
theorem c_X5_steps {Γ : aG} {l : Launch} {M : Nat → aC} {r : rT} {kr ar : Nat → Int32} {ik : Int32} {fi b : Nat → Int32} {ln : Int32} {S : sT} {it mv : Nat → Int32} {Q : yQ} {g : Nat} (hg : g < 8)  : Ev Γ l mX5_steps [.ref 42, .int (nI g)] 54 (yM M r kr ar ik fi b ln S it mv Q) (some (.int (k_steps (r 2 g)))) 54 (yM M r kr ar ik fi b ln S it mv Q) := by
  refine Ev.of [(0, .ref 42), (1, .int (nI g))] (by decide) (Nat.le_of_ble_eq_true rfl) rfl ?_
  refine fr_aload_n (pc := 0) rfl dX5_steps_0 ?_
  refine fr_iload_n (pc := 1) rfl dX5_steps_1 ?_
  refine fr_iconst (pc := 2) (v := 0) rfl dX5_steps_2 ?_
  refine fr_callV0 (pc := 3) (ci := 4) (T := TX5) (N := 20) [.int (nI g), .int 0] [] (c_X5_guestIs (k := 0) (by first | assumption | omega) (by first | decide | assumption | omega)) gc_X5_116 rfl rfl ⟨rfl, rfl, by decide, by decide⟩ (Nat.le_of_ble_eq_true rfl) rfl (by decide) y_42 ⟨by decide, by decide⟩ dX5_steps_3 ?_
  by_cases hk6_1 : (r 2 g) = 1
  · refine fr_tIn (pc := 6) 44 (by rw [hk6_1]; decide) (by rw [hk6_1]; decide) (by rw [hk6_1]; rfl) (by decide) dX5_steps_6 ?_
    refine fr_iconst (pc := 44) (v := 1) rfl dX5_steps_44 ?_
    exact fr_ireturn (pc := 45) rfl (by simp only [k_steps, *] <;> simp) rfl rfl dX5_steps_45
  by_cases hk6_2 : (r 2 g) = 2
  · refine fr_tIn (pc := 6) 46 (by rw [hk6_2]; decide) (by rw [hk6_2]; decide) (by rw [hk6_2]; rfl) (by decide) dX5_steps_6 ?_
    refine fr_iconst (pc := 46) (v := 4) rfl dX5_steps_46 ?_
    exact fr_ireturn (pc := 47) rfl (by simp only [k_steps, *] <;> simp) rfl rfl dX5_steps_47
  by_cases hk6_3 : (r 2 g) = 3
  · refine fr_tIn (pc := 6) 48 (by rw [hk6_3]; decide) (by rw [hk6_3]; decide) (by rw [hk6_3]; rfl) (by decide) dX5_steps_6 ?_
    refine fr_iconst (pc := 48) (v := 3) rfl dX5_steps_48 ?_
    exact fr_ireturn (pc := 49) rfl (by simp only [k_steps, *] <;> simp) rfl rfl dX5_steps_49
  by_cases hk6_4 : (r 2 g) = 4
  · refine fr_tIn (pc := 6) 52 (by rw [hk6_4]; decide) (by rw [hk6_4]; decide) (by rw [hk6_4]; rfl) (by decide) dX5_steps_6 ?_
    refine fr_iconst (pc := 52) (v := 2) rfl dX5_steps_52 ?_
    exact fr_ireturn (pc := 53) rfl (by simp only [k_steps, *] <;> simp) rfl rfl dX5_steps_53
  by_cases hk6_5 : (r 2 g) = 5
  · refine fr_tIn (pc := 6) 50 (by rw [hk6_5]; decide) (by rw [hk6_5]; decide) (by rw [hk6_5]; rfl) (by decide) dX5_steps_6 ?_
    refine fr_iconst (pc := 50) (v := 5) rfl dX5_steps_50 ?_
    exact fr_ireturn (pc := 51) rfl (by simp only [k_steps, *] <;> simp) rfl rfl dX5_steps_51
  by_cases hk6_6 : (r 2 g) = 6
  · refine fr_tIn (pc := 6) 44 (by rw [hk6_6]; decide) (by rw [hk6_6]; decide) (by rw [hk6_6]; rfl) (by decide) dX5_steps_6 ?_
    refine fr_iconst (pc := 44) (v := 1) rfl dX5_steps_44 ?_
    exact fr_ireturn (pc := 45) rfl (by simp only [k_steps, *] <;> simp) rfl rfl dX5_steps_45
  refine fr_tOut (pc := 6) 52 (sw_1_6 hk6_1 hk6_2 hk6_3 hk6_4 hk6_5 hk6_6) (by decide) dX5_steps_6 ?_
  refine fr_iconst (pc := 52) (v := 2) rfl dX5_steps_52 ?_
  exact fr_ireturn (pc := 53) rfl (by simp only [k_steps, *] <;> simp) rfl rfl dX5_steps_53
set_option maxRecDepth 100000 in
theorem c_X5_laughs {Γ : aG} {l : Launch} {M : Nat → aC} {r : rT} {kr ar : Nat → Int32} {ik : Int32} {fi b : Nat → Int32} {ln : Int32} {S : sT} {it mv : Nat → Int32} {Q : yQ} {g : Nat} (hg : g < 8)  : Ev Γ l mX5_laughs [.ref 42, .int (nI g)] 54 (yM M r kr ar ik fi b ln S it mv Q) (some (.int (k_laughs (r 2 g) (r 9 0)))) 54 (yM M r kr ar ik fi b ln S it mv Q) := by
  refine Ev.of [(0, .ref 42), (1, .int (nI g))] (by decide) (Nat.le_of_ble_eq_true rfl) rfl ?_
  refine fr_aload_n (pc := 0) rfl dX5_laughs_0 ?_
  refine fr_iload_n (pc := 1) rfl dX5_laughs_1 ?_
  refine fr_iconst (pc := 2) (v := 0) rfl dX5_laughs_2 ?_
  refine fr_callV0 (pc := 3) (ci := 4) (T := TX5) (N := 20) [.int (nI g), .int 0] [] (c_X5_guestIs (k := 0) (by first | assumption | omega) (by first | decide | assumption | omega)) gc_X5_116 rfl rfl ⟨rfl, rfl, by decide, by decide⟩ (Nat.le_of_ble_eq_true rfl) rfl (by decide) y_42 ⟨by decide, by decide⟩ dX5_laughs_3 ?_
  by_cases hk6_1 : (r 2 g) = 1
  · refine fr_tIn (pc := 6) 44 (by rw [hk6_1]; decide) (by rw [hk6_1]; decide) (by rw [hk6_1]; rfl) (by decide) dX5_laughs_6 ?_
    refine fr_iconst (pc := 44) (v := 5) rfl dX5_laughs_44 ?_
    exact fr_ireturn (pc := 45) rfl (by simp only [k_laughs, *] <;> simp) rfl rfl dX5_laughs_45
  by_cases hk6_2 : (r 2 g) = 2
  · refine fr_tIn (pc := 6) 49 (by rw [hk6_2]; decide) (by rw [hk6_2]; decide) (by rw [hk6_2]; rfl) (by decide) dX5_laughs_6 ?_
    refine fr_iconst (pc := 49) (v := 3) rfl dX5_laughs_49 ?_
    refine fr_aload_n (pc := 50) rfl dX5_laughs_50 ?_
    refine fr_get (pc := 51) (ci := 4) (T := TX5) (k0 := 0) rfl hin_X5 (by decide) fl_X5_9 (by decide) y_42 rfl dX5_laughs_51 ?_
    refine fr_iconst (pc := 54) (v := 0) rfl dX5_laughs_54 ?_
    refine fr_iald (pc := 55) 0 rfl (by decide) y_43 (by decide) (by decide) dX5_laughs_55 ?_
    refine fr_eq (z := r 9 0) (row_at (ph_l (by decide))) ?_
    refine fr_iconst (pc := 56) (v := 3) rfl dX5_laughs_56 ?_
    refine fr_irem (pc := 57) (by decide) dX5_laughs_57 ?_
    refine fr_iadd (pc := 58) dX5_laughs_58 ?_
    exact fr_ireturn (pc := 59) rfl (by simp only [k_laughs, *] <;> simp) rfl rfl dX5_laughs_59
  by_cases hk6_3 : (r 2 g) = 3
  · refine fr_tIn (pc := 6) 60 (by rw [hk6_3]; decide) (by rw [hk6_3]; decide) (by rw [hk6_3]; rfl) (by decide) dX5_laughs_6 ?_
    refine fr_iconst (pc := 60) (v := 0) rfl dX5_laughs_60 ?_
    exact fr_ireturn (pc := 61) rfl (by simp only [k_laughs, *] <;> simp) rfl rfl dX5_laughs_61
  by_cases hk6_4 : (r 2 g) = 4
  · refine fr_tIn (pc := 6) 62 (by rw [hk6_4]; decide) (by rw [hk6_4]; decide) (by rw [hk6_4]; rfl) (by decide) dX5_laughs_6 ?_
    refine fr_iconst (pc := 62) (v := 1) rfl dX5_laughs_62 ?_
    exact fr_ireturn (pc := 63) rfl (by simp only [k_laughs, *] <;> simp) rfl rfl dX5_laughs_63
  by_cases hk6_5 : (r 2 g) = 5
  · refine fr_tIn (pc := 6) 64 (by rw [hk6_5]; decide) (by rw [hk6_5]; decide) (by rw [hk6_5]; rfl) (by decide) dX5_laughs_6 ?_
    refine fr_iconst (pc := 64) (v := 2) rfl dX5_laughs_64 ?_
    exact fr_ireturn (pc := 65) rfl (by simp only [k_laughs, *] <;> simp) rfl rfl dX5_laughs_65
  by_cases hk6_6 : (r 2 g) = 6
  · refine fr_tIn (pc := 6) 46 (by rw [hk6_6]; decide) (by rw [hk6_6]; decide) (by rw [hk6_6]; rfl) (by decide) dX5_laughs_6 ?_
    refine fr_bipush (pc := 46) (v := 50) rfl dX5_laughs_46 ?_
    exact fr_ireturn (pc := 48) rfl (by simp only [k_laughs, *] <;> simp) rfl rfl dX5_laughs_48
  refine fr_tOut (pc := 6) 66 (sw_1_6 hk6_1 hk6_2 hk6_3 hk6_4 hk6_5 hk6_6) (by decide) dX5_laughs_6 ?_
  refine fr_iconst (pc := 66) (v := 3) rfl dX5_laughs_66 ?_
  exact fr_ireturn (pc := 67) rfl (by simp only [k_laughs, *] <;> simp) rfl rfl dX5_laughs_67
set_option maxRecDepth 100000 in
theorem c_X5_laces {Γ : aG} {l : Launch} {M : Nat → aC} {r : rT} {kr ar : Nat → Int32} {ik : Int32} {fi b : Nat → Int32} {ln : Int32} {S : sT} {it mv : Nat → Int32} {Q : yQ} {g : Nat} (hg : g < 8)  : Ev Γ l mX5_laces [.ref 42, .int (nI g)] 54 (yM M r kr ar ik fi b ln S it mv Q) (some (.int (k_laces (r 2 g)))) 54 (yM M r kr ar ik fi b ln S it mv Q) := by
  refine Ev.of [(0, .ref 42), (1, .int (nI g))] (by decide) (Nat.le_of_ble_eq_true rfl) rfl ?_
  refine fr_aload_n (pc := 0) rfl dX5_laces_0 ?_
  refine fr_iload_n (pc := 1) rfl dX5_laces_1 ?_
  refine fr_iconst (pc := 2) (v := 0) rfl dX5_laces_2 ?_
  refine fr_callV0 (pc := 3) (ci := 4) (T := TX5) (N := 20) [.int (nI g), .int 0] [] (c_X5_guestIs (k := 0) (by first | assumption | omega) (by first | decide | assumption | omega)) gc_X5_116 rfl rfl ⟨rfl, rfl, by decide, by decide⟩ (Nat.le_of_ble_eq_true rfl) rfl (by decide) y_42 ⟨by decide, by decide⟩ dX5_laces_3 ?_
  refine fr_nm (fun x2_6 e_x2_6 => ?_)
  refine fr_istore_n (pc := 6) [(2, .int x2_6), (0, .ref 42), (1, .int (nI g))] (by decide) rfl dX5_laces_6 ?_
  refine fr_iload_n (pc := 7) rfl dX5_laces_7 ?_
  refine fr_iconst (pc := 8) (v := 3) rfl dX5_laces_8 ?_
  refine fr_icmp_ne (pc := 9) 16 (by decide) dX5_laces_9 (fun h9 => ?_) (fun h9 => ?_)
  · refine fr_iload_n (pc := 16) rfl dX5_laces_16 ?_
    refine fr_iconst (pc := 17) (v := 4) rfl dX5_laces_17 ?_
    refine fr_icmp_ne (pc := 18) 26 (by decide) dX5_laces_18 (fun h18 => ?_) (fun h18 => ?_)
    · refine fr_iconst (pc := 26) (v := 0) rfl dX5_laces_26 ?_
      exact fr_ireturn (pc := 27) rfl (by rw [← e_x2_6]; unfold k_laces; rw [if_neg h9, if_neg h18]) rfl rfl dX5_laces_27
    · refine fr_bipush (pc := 21) (v := 8) rfl dX5_laces_21 ?_
      refine fr_goto (pc := 23) 27 (by decide) dX5_laces_23 ?_
      exact fr_ireturn (pc := 27) rfl (by rw [← e_x2_6]; unfold k_laces; rw [if_neg h9, if_pos h18]) rfl rfl dX5_laces_27
  · refine fr_iconst (pc := 12) (v := 4) rfl dX5_laces_12 ?_
    refine fr_goto (pc := 13) 27 (by decide) dX5_laces_13 ?_
    exact fr_ireturn (pc := 27) rfl (by rw [← e_x2_6]; unfold k_laces; rw [if_pos h9]) rfl rfl dX5_laces_27
set_option maxRecDepth 100000 in
theorem yu_loop {Γ : aG} {l : Launch} {M : Nat → aC} {r : rT} {kr ar : Nat → Int32} {ik : Int32} {fi b : Nat → Int32} {ln : Int32} {S : sT} {it mv : Nat → Int32} {Q : yQ} {g : Nat} {m need : Int32} (hg : g < 8) (w : wf r) : ∀ (n c : Nat) (s : Int32), c + n = 16 → Fr Γ l mX5_reachOf 36 [(0, .ref 42), (1, .int (nI g)), (2, .int m), (3, .int need), (4, .int s), (5, .int 1), (6, .int (nI c))] [] 54 0 0 (yM M r kr ar ik fi b ln S it mv Q) (some (.int (s_up r m need n c s))) 54 (yM M r kr ar ik fi b ln S it mv Q) := by
  intro n
  induction n with
  | zero =>
    intro c s hn
    refine fr_iload (pc := 36) rfl dX5_reachOf_36 ?_
    refine fr_callS0 (pc := 38) [.int (nI c)] [] (c_X5_isCell) gc_X5_82 rfl rfl ⟨rfl, rfl, by decide, by decide⟩ (Nat.le_of_ble_eq_true rfl) ⟨by decide, by decide⟩ dX5_reachOf_38 ?_
    refine fr_if_eq (pc := 41) 74 (by decide) dX5_reachOf_41 (fun h41 => ?_) (fun h41 => ?_)
    · have g41 := bI_0.mp h41
      refine fr_iinc (pc := 74) (v := 3) [(5, .int 3), (0, .ref 42), (1, .int (nI g)), (2, .int m), (3, .int need), (4, .int s), (6, .int (nI c))] rfl (by decide) (by decide) rfl dX5_reachOf_74 ?_
      refine fr_goto (pc := 77) 19 (by decide) dX5_reachOf_77 ?_
      refine fr_iload (pc := 19) rfl dX5_reachOf_19 ?_
      refine fr_iconst (pc := 21) (v := 1) rfl dX5_reachOf_21 ?_
      refine fr_icmp_gt (pc := 22) 80 (by decide) dX5_reachOf_22 (fun h22 => ?_) (fun h22 => ?_)
      · refine fr_iload (pc := 80) rfl dX5_reachOf_80 ?_
        exact fr_ireturn (pc := 82) rfl rfl rfl rfl dX5_reachOf_82
      · exact absurd (show (1 : Int32) < 3 by decide) h22
    · have g41 := bI_n0 h41
      exact absurd (of_decide_eq_true g41).2 (fun z => z (nI_lt (a := 15) (b := c) (by omega) (by omega)))
  | succ n ih =>
    intro c s hn
    have hc15 : wi (nI c) 0 15 = true := decide_eq_true ⟨nI_pos (by omega), nI_nlt (a := 15) (b := c) (by omega) (by omega)⟩
    refine fr_iload (pc := 36) rfl dX5_reachOf_36 ?_
    refine fr_callS0 (pc := 38) [.int (nI c)] [] (c_X5_isCell) gc_X5_82 rfl rfl ⟨rfl, rfl, by decide, by decide⟩ (Nat.le_of_ble_eq_true rfl) ⟨by decide, by decide⟩ dX5_reachOf_38 ?_
    refine fr_if_eq (pc := 41) 74 (by decide) dX5_reachOf_41 (fun h41 => ?_) (fun h41 => ?_)
    · have g41 := bI_0.mp h41
      exact absurd hc15 g41
    · have g41 := bI_n0 h41
      refine fr_aload_n (pc := 44) rfl dX5_reachOf_44 ?_
      refine fr_iload (pc := 45) rfl dX5_reachOf_45 ?_
      refine fr_iload_n (pc := 47) rfl dX5_reachOf_47 ?_
      refine fr_callV0 (pc := 48) (ci := 4) (T := TX5) (N := 20) [.int (nI c), .int m] [] (c_X5_wideAt (by first | assumption | omega)) gc_X5_103 rfl rfl ⟨rfl, rfl, by decide, by decide⟩ (Nat.le_of_ble_eq_true rfl) rfl (by decide) y_42 ⟨by decide, by decide⟩ dX5_reachOf_48 ?_
      refine fr_iload_n (pc := 51) rfl dX5_reachOf_51 ?_
      refine fr_icmp_lt (pc := 52) 74 (by decide) dX5_reachOf_52 (fun h52 => ?_) (fun h52 => ?_)
      · rw [show s_up r m need (n + 1) c s = s from if_pos h52]
        refine fr_iinc (pc := 74) (v := 3) [(5, .int 3), (0, .ref 42), (1, .int (nI g)), (2, .int m), (3, .int need), (4, .int s), (6, .int (nI c))] rfl (by decide) (by decide) rfl dX5_reachOf_74 ?_
        refine fr_goto (pc := 77) 19 (by decide) dX5_reachOf_77 ?_
        refine fr_iload (pc := 19) rfl dX5_reachOf_19 ?_
        refine fr_iconst (pc := 21) (v := 1) rfl dX5_reachOf_21 ?_
        refine fr_icmp_gt (pc := 22) 80 (by decide) dX5_reachOf_22 (fun h22 => ?_) (fun h22 => ?_)
        · refine fr_iload (pc := 80) rfl dX5_reachOf_80 ?_
          exact fr_ireturn (pc := 82) rfl rfl rfl rfl dX5_reachOf_82
        · exact absurd (show (1 : Int32) < 3 by decide) h22
      · refine fr_iload (pc := 55) rfl dX5_reachOf_55 ?_
        refine fr_iconst (pc := 57) (v := 1) rfl dX5_reachOf_57 ?_
        refine fr_iload (pc := 58) rfl dX5_reachOf_58 ?_
        refine fr_ishl (pc := 60) dX5_reachOf_60 ?_
        refine fr_ior (pc := 61) dX5_reachOf_61 ?_
        refine fr_nm (fun x4_62 e_x4_62 => ?_)
        refine fr_istore (pc := 62) [(4, .int x4_62), (0, .ref 42), (1, .int (nI g)), (2, .int m), (3, .int need), (5, .int 1), (6, .int (nI c))] (by decide) rfl dX5_reachOf_62 ?_
        refine fr_iload (pc := 64) rfl dX5_reachOf_64 ?_
        refine fr_iload (pc := 66) rfl dX5_reachOf_66 ?_
        refine fr_iadd (pc := 68) dX5_reachOf_68 ?_
        refine fr_eq (z := nI (c + 1)) (nI_1 c) ?_
        refine fr_istore (pc := 69) [(6, .int (nI (c + 1))), (4, .int x4_62), (0, .ref 42), (1, .int (nI g)), (2, .int m), (3, .int need), (5, .int 1)] (by decide) rfl dX5_reachOf_69 ?_
        refine fr_goto (pc := 71) 36 (by decide) dX5_reachOf_71 ?_
        rw [show s_up r m need (n + 1) c s = s_up r m need n (c + 1) (s ||| 1 <<< (nI c &&& 31)) from if_neg h52, ← e_x4_62]
        exact fr_sub [2, 3, 4, 5, 1, 6, 0] rfl (ih (c + 1) x4_62 (by omega))
set_option maxRecDepth 100000 in
theorem yd_loop {Γ : aG} {l : Launch} {M : Nat → aC} {r : rT} {kr ar : Nat → Int32} {ik : Int32} {fi b : Nat → Int32} {ln : Int32} {S : sT} {it mv : Nat → Int32} {Q : yQ} {g : Nat} {m need : Int32} (hg : g < 8) (w : wf r) : ∀ (k : Nat) (s x : Int32), x = nI k - 1 → k ≤ 16 → Fr Γ l mX5_reachOf 36 [(0, .ref 42), (1, .int (nI g)), (2, .int m), (3, .int need), (4, .int s), (5, .int (-1)), (6, .int x)] [] 54 0 0 (yM M r kr ar ik fi b ln S it mv Q) (some (.int (s_up r m need (15 - nat r 3 g) (nat r 3 g + 1) (s_dn r m need k s)))) 54 (yM M r kr ar ik fi b ln S it mv Q) := by
  have hat := w.at hg
  intro k
  induction k with
  | zero =>
    intro s x hx hk
    refine fr_iload (pc := 36) rfl dX5_reachOf_36 ?_
    refine fr_callS0 (pc := 38) [.int x] [] (c_X5_isCell) gc_X5_82 rfl rfl ⟨rfl, rfl, by decide, by decide⟩ (Nat.le_of_ble_eq_true rfl) ⟨by decide, by decide⟩ dX5_reachOf_38 ?_
    refine fr_if_eq (pc := 41) 74 (by decide) dX5_reachOf_41 (fun h41 => ?_) (fun h41 => ?_)
    · have g41 := bI_0.mp h41
      refine fr_iinc (pc := 74) (v := 1) [(5, .int 1), (0, .ref 42), (1, .int (nI g)), (2, .int m), (3, .int need), (4, .int s), (6, .int x)] rfl (by decide) (by decide) rfl dX5_reachOf_74 ?_
      refine fr_goto (pc := 77) 19 (by decide) dX5_reachOf_77 ?_
      refine fr_iload (pc := 19) rfl dX5_reachOf_19 ?_
      refine fr_iconst (pc := 21) (v := 1) rfl dX5_reachOf_21 ?_
      refine fr_icmp_gt (pc := 22) 80 (by decide) dX5_reachOf_22 (fun h22 => ?_) (fun h22 => ?_)
      · exact absurd h22 (by decide)
      · refine fr_aload_n (pc := 25) rfl dX5_reachOf_25 ?_
        refine fr_iload_n (pc := 26) rfl dX5_reachOf_26 ?_
        refine fr_iconst (pc := 27) (v := 1) rfl dX5_reachOf_27 ?_
        refine fr_callV0 (pc := 28) (ci := 4) (T := TX5) (N := 20) [.int (nI g), .int 1] [] (c_X5_guestIs (k := 1) (by first | assumption | omega) (by first | decide | assumption | omega)) gc_X5_116 rfl rfl ⟨rfl, rfl, by decide, by decide⟩ (Nat.le_of_ble_eq_true rfl) rfl (by decide) y_42 ⟨by decide, by decide⟩ dX5_reachOf_28 ?_
        refine fr_eq (z := nI (nat r 3 g)) hat.1 ?_
        refine fr_iload (pc := 31) rfl dX5_reachOf_31 ?_
        refine fr_iadd (pc := 33) dX5_reachOf_33 ?_
        refine fr_eq (z := nI (nat r 3 g + 1)) (nI_1 _) ?_
        refine fr_istore (pc := 34) [(6, .int (nI (nat r 3 g + 1))), (5, .int 1), (0, .ref 42), (1, .int (nI g)), (2, .int m), (3, .int need), (4, .int s)] (by decide) rfl dX5_reachOf_34 ?_
        exact fr_sub [2, 3, 4, 5, 6, 1, 0] rfl (yu_loop hg w (15 - nat r 3 g) (nat r 3 g + 1) s (by omega))
    · have g41 := bI_n0 h41
      exact absurd (of_decide_eq_true g41).1 (fun z => z (by rw [hx]; decide))
  | succ k ih =>
    intro s x hx hk
    rw [nI_pred] at hx
    subst hx
    have hc15 : wi (nI k) 0 15 = true := decide_eq_true ⟨nI_pos (by omega), nI_nlt (a := 15) (b := k) (by omega) (by omega)⟩
    refine fr_iload (pc := 36) rfl dX5_reachOf_36 ?_
    refine fr_callS0 (pc := 38) [.int (nI k)] [] (c_X5_isCell) gc_X5_82 rfl rfl ⟨rfl, rfl, by decide, by decide⟩ (Nat.le_of_ble_eq_true rfl) ⟨by decide, by decide⟩ dX5_reachOf_38 ?_
    refine fr_if_eq (pc := 41) 74 (by decide) dX5_reachOf_41 (fun h41 => ?_) (fun h41 => ?_)
    · have g41 := bI_0.mp h41
      exact absurd hc15 g41
    · have g41 := bI_n0 h41
      refine fr_aload_n (pc := 44) rfl dX5_reachOf_44 ?_
      refine fr_iload (pc := 45) rfl dX5_reachOf_45 ?_
      refine fr_iload_n (pc := 47) rfl dX5_reachOf_47 ?_
      refine fr_callV0 (pc := 48) (ci := 4) (T := TX5) (N := 20) [.int (nI k), .int m] [] (c_X5_wideAt (by first | assumption | omega)) gc_X5_103 rfl rfl ⟨rfl, rfl, by decide, by decide⟩ (Nat.le_of_ble_eq_true rfl) rfl (by decide) y_42 ⟨by decide, by decide⟩ dX5_reachOf_48 ?_
      refine fr_iload_n (pc := 51) rfl dX5_reachOf_51 ?_
      refine fr_icmp_lt (pc := 52) 74 (by decide) dX5_reachOf_52 (fun h52 => ?_) (fun h52 => ?_)
      · refine fr_iinc (pc := 74) (v := 1) [(5, .int 1), (0, .ref 42), (1, .int (nI g)), (2, .int m), (3, .int need), (4, .int s), (6, .int (nI k))] rfl (by decide) (by decide) rfl dX5_reachOf_74 ?_
        refine fr_goto (pc := 77) 19 (by decide) dX5_reachOf_77 ?_
        refine fr_iload (pc := 19) rfl dX5_reachOf_19 ?_
        refine fr_iconst (pc := 21) (v := 1) rfl dX5_reachOf_21 ?_
        refine fr_icmp_gt (pc := 22) 80 (by decide) dX5_reachOf_22 (fun h22 => ?_) (fun h22 => ?_)
        · exact absurd h22 (by decide)
        · refine fr_aload_n (pc := 25) rfl dX5_reachOf_25 ?_
          refine fr_iload_n (pc := 26) rfl dX5_reachOf_26 ?_
          refine fr_iconst (pc := 27) (v := 1) rfl dX5_reachOf_27 ?_
          refine fr_callV0 (pc := 28) (ci := 4) (T := TX5) (N := 20) [.int (nI g), .int 1] [] (c_X5_guestIs (k := 1) (by first | assumption | omega) (by first | decide | assumption | omega)) gc_X5_116 rfl rfl ⟨rfl, rfl, by decide, by decide⟩ (Nat.le_of_ble_eq_true rfl) rfl (by decide) y_42 ⟨by decide, by decide⟩ dX5_reachOf_28 ?_
          refine fr_eq (z := nI (nat r 3 g)) hat.1 ?_
          refine fr_iload (pc := 31) rfl dX5_reachOf_31 ?_
          refine fr_iadd (pc := 33) dX5_reachOf_33 ?_
          refine fr_eq (z := nI (nat r 3 g + 1)) (nI_1 _) ?_
          refine fr_istore (pc := 34) [(6, .int (nI (nat r 3 g + 1))), (5, .int 1), (0, .ref 42), (1, .int (nI g)), (2, .int m), (3, .int need), (4, .int s)] (by decide) rfl dX5_reachOf_34 ?_
          rw [show s_dn r m need (k + 1) s = s from if_pos h52]
          exact fr_sub [2, 3, 4, 5, 6, 1, 0] rfl (yu_loop hg w (15 - nat r 3 g) (nat r 3 g + 1) s (by omega))
      · refine fr_iload (pc := 55) rfl dX5_reachOf_55 ?_
        refine fr_iconst (pc := 57) (v := 1) rfl dX5_reachOf_57 ?_
        refine fr_iload (pc := 58) rfl dX5_reachOf_58 ?_
        refine fr_ishl (pc := 60) dX5_reachOf_60 ?_
        refine fr_ior (pc := 61) dX5_reachOf_61 ?_
        refine fr_nm (fun x4_62 e_x4_62 => ?_)
        refine fr_istore (pc := 62) [(4, .int x4_62), (0, .ref 42), (1, .int (nI g)), (2, .int m), (3, .int need), (5, .int (-1)), (6, .int (nI k))] (by decide) rfl dX5_reachOf_62 ?_
        refine fr_iload (pc := 64) rfl dX5_reachOf_64 ?_
        refine fr_iload (pc := 66) rfl dX5_reachOf_66 ?_
        refine fr_iadd (pc := 68) dX5_reachOf_68 ?_
        refine fr_eq (z := nI k + -1) rfl ?_
        refine fr_istore (pc := 69) [(6, .int (nI k + -1)), (4, .int x4_62), (0, .ref 42), (1, .int (nI g)), (2, .int m), (3, .int need), (5, .int (-1))] (by decide) rfl dX5_reachOf_69 ?_
        refine fr_goto (pc := 71) 36 (by decide) dX5_reachOf_71 ?_
        rw [show s_dn r m need (k + 1) s = s_dn r m need k (s ||| 1 <<< (nI k &&& 31)) from if_neg h52, ← e_x4_62]
        exact fr_sub [2, 3, 4, 5, 1, 6, 0] rfl (ih x4_62 _ (Int32.sub_eq_add_neg _ _).symm (by omega))
theorem up_or {r : rT} {m need : Int32} : ∀ (n c : Nat) (a s : Int32), s_up r m need n c (a ||| s) = a ||| s_up r m need n c s := by
  intro n
  induction n with
  | zero => intro c a s; rfl
  | succ n ih =>
    intro c a s
    rw [s_up, s_up]
    split
    · rfl
    · rw [Int32.or_assoc, ih]
theorem dn_or {r : rT} {m need : Int32} : ∀ (k : Nat) (a s : Int32), s_dn r m need k (a ||| s) = a ||| s_dn r m need k s := by
  intro k
  induction k with
  | zero => intro a s; rfl
  | succ k ih =>
    intro a s
    rw [s_dn, s_dn]
    split
    · rfl
    · rw [Int32.or_assoc, ih]
theorem up_dn {r : rT} {m need : Int32} (n c k : Nat) (s : Int32) : s_up r m need n c (s_dn r m need k s) = s_dn r m need k (s_up r m need n c s) := by
  have h1 : s_dn r m need k s = s ||| s_dn r m need k 0 := by rw [← dn_or, Int32.or_zero]
  have h2 : s_up r m need n c s = s ||| s_up r m need n c 0 := by rw [← up_or, Int32.or_zero]
  have h3 : s_up r m need n c (s_dn r m need k s) = s_dn r m need k s ||| s_up r m need n c 0 := by rw [← up_or, Int32.or_zero]
  have h4 : s_dn r m need k (s_up r m need n c s) = s_up r m need n c s ||| s_dn r m need k 0 := by rw [← dn_or, Int32.or_zero]
  rw [h3, h4, h1, h2, Int32.or_assoc, Int32.or_assoc, Int32.or_comm (s_dn r m need k 0)]
set_option maxRecDepth 100000 in
theorem c_X5_reachOf {Γ : aG} {l : Launch} {M : Nat → aC} {r : rT} {kr ar : Nat → Int32} {ik : Int32} {fi b : Nat → Int32} {ln : Int32} {S : sT} {it mv : Nat → Int32} {Q : yQ} {g : Nat} {m : Int32} (hg : g < 8) (w : wf r)  : Ev Γ l mX5_reachOf [.ref 42, .int (nI g), .int m] 54 (yM M r kr ar ik fi b ln S it mv Q) (some (.int (s_reach r g m))) 54 (yM M r kr ar ik fi b ln S it mv Q) := by
  have hat := w.at hg
  refine Ev.of [(0, .ref 42), (1, .int (nI g)), (2, .int m)] (by decide) (Nat.le_of_ble_eq_true rfl) rfl ?_
  refine fr_aload_n (pc := 0) rfl dX5_reachOf_0 ?_
  refine fr_iload_n (pc := 1) rfl dX5_reachOf_1 ?_
  refine fr_callV0 (pc := 2) (ci := 4) (T := TX5) (N := 20) [.int (nI g)] [] (c_X5_needs (by first | assumption | omega)) gc_X5_119 rfl rfl ⟨rfl, rfl, by decide, by decide⟩ (Nat.le_of_ble_eq_true rfl) rfl (by decide) y_42 ⟨by decide, by decide⟩ dX5_reachOf_2 ?_
  refine fr_nm (fun need e_need => ?_)
  refine fr_istore_n (pc := 5) [(3, .int need), (0, .ref 42), (1, .int (nI g)), (2, .int m)] (by decide) rfl dX5_reachOf_5 ?_
  refine fr_iconst (pc := 6) (v := 1) rfl dX5_reachOf_6 ?_
  refine fr_aload_n (pc := 7) rfl dX5_reachOf_7 ?_
  refine fr_iload_n (pc := 8) rfl dX5_reachOf_8 ?_
  refine fr_iconst (pc := 9) (v := 1) rfl dX5_reachOf_9 ?_
  refine fr_callV0 (pc := 10) (ci := 4) (T := TX5) (N := 20) [.int (nI g), .int 1] [.int 1] (c_X5_guestIs (k := 1) (by first | assumption | omega) (by first | decide | assumption | omega)) gc_X5_116 rfl rfl ⟨rfl, rfl, by decide, by decide⟩ (Nat.le_of_ble_eq_true rfl) rfl (by decide) y_42 ⟨by decide, by decide⟩ dX5_reachOf_10 ?_
  refine fr_eq (z := nI (nat r 3 g)) hat.1 ?_
  refine fr_ishl (pc := 13) dX5_reachOf_13 ?_
  refine fr_nm (fun x4_14 e_x4_14 => ?_)
  refine fr_istore (pc := 14) [(4, .int x4_14), (3, .int need), (0, .ref 42), (1, .int (nI g)), (2, .int m)] (by decide) rfl dX5_reachOf_14 ?_
  refine fr_iconst (pc := 16) (v := (-1)) rfl dX5_reachOf_16 ?_
  refine fr_istore (pc := 17) [(5, .int (-1)), (4, .int x4_14), (3, .int need), (0, .ref 42), (1, .int (nI g)), (2, .int m)] (by decide) rfl dX5_reachOf_17 ?_
  refine fr_iload (pc := 19) rfl dX5_reachOf_19 ?_
  refine fr_iconst (pc := 21) (v := 1) rfl dX5_reachOf_21 ?_
  refine fr_icmp_gt (pc := 22) 80 (by decide) dX5_reachOf_22 (fun h22 => ?_) (fun h22 => ?_)
  · exact absurd h22 (by decide)
  · refine fr_aload_n (pc := 25) rfl dX5_reachOf_25 ?_
    refine fr_iload_n (pc := 26) rfl dX5_reachOf_26 ?_
    refine fr_iconst (pc := 27) (v := 1) rfl dX5_reachOf_27 ?_
    refine fr_callV0 (pc := 28) (ci := 4) (T := TX5) (N := 20) [.int (nI g), .int 1] [] (c_X5_guestIs (k := 1) (by first | assumption | omega) (by first | decide | assumption | omega)) gc_X5_116 rfl rfl ⟨rfl, rfl, by decide, by decide⟩ (Nat.le_of_ble_eq_true rfl) rfl (by decide) y_42 ⟨by decide, by decide⟩ dX5_reachOf_28 ?_
    refine fr_eq (z := nI (nat r 3 g)) hat.1 ?_
    refine fr_iload (pc := 31) rfl dX5_reachOf_31 ?_
    refine fr_iadd (pc := 33) dX5_reachOf_33 ?_
    refine fr_nm (fun x6_34 e_x6_34 => ?_)
    refine fr_istore (pc := 34) [(6, .int x6_34), (5, .int (-1)), (4, .int x4_14), (3, .int need), (0, .ref 42), (1, .int (nI g)), (2, .int m)] (by decide) rfl dX5_reachOf_34 ?_
    rw [show s_reach r g m = s_up r m need (15 - nat r 3 g) (nat r 3 g + 1) (s_dn r m need (nat r 3 g) x4_14) from by rw [up_dn, e_need, e_x4_14]; rfl]
    exact fr_sub [4, 5, 6, 3, 2, 1, 0] rfl (yd_loop hg w (nat r 3 g) x4_14 _ (by rw [e_x6_34]; exact (Int32.sub_eq_add_neg _ _).symm) (by omega))
