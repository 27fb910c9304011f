set_option maxRecDepth 100000 in
theorem c_X1_needs {Γ : aG} {l : Launch} {M : Nat → aC} {k s t h : Int32} : Ev Γ l mX1_needs [.int k, .int s, .int t, .int h] 54 M (some (.int (k_needs k s t h))) 54 M := by
  refine Ev.of [(0, .int k), (1, .int s), (2, .int t), (3, .int h)] (by decide) (Nat.le_of_ble_eq_true rfl) rfl ?_
  refine fr_iload_n (pc := 0) rfl dX1_needs_0 ?_
  refine fr_iconst (pc := 1) (v := 3) rfl dX1_needs_1 ?_
  refine fr_icmp_lt (pc := 2) 10 (by decide) dX1_needs_2 (fun h2 => ?_) (fun h2 => ?_)
  · refine fr_iconst (pc := 10) (v := 0) rfl dX1_needs_10 ?_
    refine fr_istore (pc := 11) [(4, .int 0), (0, .int k), (1, .int s), (2, .int t), (3, .int h)] (by decide) rfl dX1_needs_11 ?_
    refine fr_iconst (pc := 13) (v := 0) rfl dX1_needs_13 ?_
    refine fr_iload_n (pc := 14) rfl dX1_needs_14 ?_
    refine fr_iconst (pc := 15) (v := 4) rfl dX1_needs_15 ?_
    refine fr_iadd (pc := 16) dX1_needs_16 ?_
    refine fr_iload (pc := 17) rfl dX1_needs_17 ?_
    refine fr_isub (pc := 19) dX1_needs_19 ?_
    refine fr_mmax (pc := 20) gm_X1_7 wM_s_max wM_i wM_c_max ⟨by decide, by decide, by decide, by decide⟩ (Nat.le_of_ble_eq_true rfl) dX1_needs_20 ?_
    refine fr_nm (fun x5_23 e_x5_23 => ?_)
    refine fr_istore (pc := 23) [(5, .int x5_23), (4, .int 0), (0, .int k), (1, .int s), (2, .int t), (3, .int h)] (by decide) rfl dX1_needs_23 ?_
    refine fr_iload_n (pc := 25) rfl dX1_needs_25 ?_
    by_cases hk26_1 : k = 1
    · refine fr_tIn (pc := 26) 64 (by rw [hk26_1]; decide) (by rw [hk26_1]; decide) (by rw [hk26_1]; rfl) (by decide) dX1_needs_26 ?_
      refine fr_iload (pc := 64) rfl dX1_needs_64 ?_
      exact fr_ireturn (pc := 66) rfl (by simp only [k_needs, k_cook, *] <;> simp) rfl rfl dX1_needs_66
    by_cases hk26_2 : k = 2
    · refine fr_tIn (pc := 26) 73 (by rw [hk26_2]; decide) (by rw [hk26_2]; decide) (by rw [hk26_2]; rfl) (by decide) dX1_needs_26 ?_
      refine fr_iload_n (pc := 73) rfl dX1_needs_73 ?_
      refine fr_iconst (pc := 74) (v := 2) rfl dX1_needs_74 ?_
      refine fr_idiv (pc := 75) (by decide) dX1_needs_75 ?_
      exact fr_ireturn (pc := 76) rfl (by simp only [k_needs, k_cook, *] <;> simp) rfl rfl dX1_needs_76
    by_cases hk26_3 : k = 3
    · refine fr_tIn (pc := 26) 77 (by rw [hk26_3]; decide) (by rw [hk26_3]; decide) (by rw [hk26_3]; rfl) (by decide) dX1_needs_26 ?_
      refine fr_iload_n (pc := 77) rfl dX1_needs_77 ?_
      refine fr_iconst (pc := 78) (v := 2) rfl dX1_needs_78 ?_
      refine fr_idiv (pc := 79) (by decide) dX1_needs_79 ?_
      refine fr_iconst (pc := 80) (v := 3) rfl dX1_needs_80 ?_
      refine fr_iadd (pc := 81) dX1_needs_81 ?_
      exact fr_ireturn (pc := 82) rfl (by simp only [k_needs, k_cook, *] <;> simp) rfl rfl dX1_needs_82
    by_cases hk26_4 : k = 4
    · refine fr_tIn (pc := 26) 83 (by rw [hk26_4]; decide) (by rw [hk26_4]; decide) (by rw [hk26_4]; rfl) (by decide) dX1_needs_26 ?_
      refine fr_iload_n (pc := 83) rfl dX1_needs_83 ?_
      refine fr_iconst (pc := 84) (v := 2) rfl dX1_needs_84 ?_
      refine fr_idiv (pc := 85) (by decide) dX1_needs_85 ?_
      refine fr_iconst (pc := 86) (v := 3) rfl dX1_needs_86 ?_
      refine fr_iadd (pc := 87) dX1_needs_87 ?_
      refine fr_iload_n (pc := 88) rfl dX1_needs_88 ?_
      refine fr_iconst (pc := 89) (v := 2) rfl dX1_needs_89 ?_
      refine fr_irem (pc := 90) (by decide) dX1_needs_90 ?_
      refine fr_iadd (pc := 91) dX1_needs_91 ?_
      exact fr_ireturn (pc := 92) rfl (by simp only [k_needs, k_cook, *] <;> simp) rfl rfl dX1_needs_92
    by_cases hk26_5 : k = 5
    · refine fr_tIn (pc := 26) 93 (by rw [hk26_5]; decide) (by rw [hk26_5]; decide) (by rw [hk26_5]; rfl) (by decide) dX1_needs_26 ?_
      refine fr_iconst (pc := 93) (v := 4) rfl dX1_needs_93 ?_
      exact fr_ireturn (pc := 94) rfl (by simp only [k_needs, k_cook, *] <;> simp) rfl rfl dX1_needs_94
    by_cases hk26_6 : k = 6
    · refine fr_tIn (pc := 26) 67 (by rw [hk26_6]; decide) (by rw [hk26_6]; decide) (by rw [hk26_6]; rfl) (by decide) dX1_needs_26 ?_
      refine fr_iload (pc := 67) rfl dX1_needs_67 ?_
      refine fr_bipush (pc := 69) (v := 6) rfl dX1_needs_69 ?_
      refine fr_iadd (pc := 71) dX1_needs_71 ?_
      exact fr_ireturn (pc := 72) rfl (by simp only [k_needs, k_cook, *] <;> simp) rfl rfl dX1_needs_72
    refine fr_tOut (pc := 26) 95 (sw_1_6 hk26_1 hk26_2 hk26_3 hk26_4 hk26_5 hk26_6) (by decide) dX1_needs_26 ?_
    refine fr_iload_n (pc := 95) rfl dX1_needs_95 ?_
    exact fr_ireturn (pc := 96) rfl (by simp only [k_needs, k_cook, *] <;> simp) rfl rfl dX1_needs_96
  · refine fr_bipush (pc := 5) (v := 8) rfl dX1_needs_5 ?_
    refine fr_goto (pc := 7) 11 (by decide) dX1_needs_7 ?_
    refine fr_istore (pc := 11) [(4, .int 8), (0, .int k), (1, .int s), (2, .int t), (3, .int h)] (by decide) rfl dX1_needs_11 ?_
    refine fr_iconst (pc := 13) (v := 0) rfl dX1_needs_13 ?_
    refine fr_iload_n (pc := 14) rfl dX1_needs_14 ?_
    refine fr_iconst (pc := 15) (v := 4) rfl dX1_needs_15 ?_
    refine fr_iadd (pc := 16) dX1_needs_16 ?_
    refine fr_iload (pc := 17) rfl dX1_needs_17 ?_
    refine fr_isub (pc := 19) dX1_needs_19 ?_
    refine fr_mmax (pc := 20) gm_X1_7 wM_s_max wM_i wM_c_max ⟨by decide, by decide, by decide, by decide⟩ (Nat.le_of_ble_eq_true rfl) dX1_needs_20 ?_
    refine fr_nm (fun x5_23 e_x5_23 => ?_)
    refine fr_istore (pc := 23) [(5, .int x5_23), (4, .int 8), (0, .int k), (1, .int s), (2, .int t), (3, .int h)] (by decide) rfl dX1_needs_23 ?_
    refine fr_iload_n (pc := 25) rfl dX1_needs_25 ?_
    by_cases hk26_1 : k = 1
    · refine fr_tIn (pc := 26) 64 (by rw [hk26_1]; decide) (by rw [hk26_1]; decide) (by rw [hk26_1]; rfl) (by decide) dX1_needs_26 ?_
      refine fr_iload (pc := 64) rfl dX1_needs_64 ?_
      exact fr_ireturn (pc := 66) rfl (by simp only [k_needs, k_cook, *] <;> simp) rfl rfl dX1_needs_66
    by_cases hk26_2 : k = 2
    · refine fr_tIn (pc := 26) 73 (by rw [hk26_2]; decide) (by rw [hk26_2]; decide) (by rw [hk26_2]; rfl) (by decide) dX1_needs_26 ?_
      refine fr_iload_n (pc := 73) rfl dX1_needs_73 ?_
      refine fr_iconst (pc := 74) (v := 2) rfl dX1_needs_74 ?_
      refine fr_idiv (pc := 75) (by decide) dX1_needs_75 ?_
      exact fr_ireturn (pc := 76) rfl (by simp only [k_needs, k_cook, *] <;> simp) rfl rfl dX1_needs_76
    by_cases hk26_3 : k = 3
    · refine fr_tIn (pc := 26) 77 (by rw [hk26_3]; decide) (by rw [hk26_3]; decide) (by rw [hk26_3]; rfl) (by decide) dX1_needs_26 ?_
      refine fr_iload_n (pc := 77) rfl dX1_needs_77 ?_
      refine fr_iconst (pc := 78) (v := 2) rfl dX1_needs_78 ?_
      refine fr_idiv (pc := 79) (by decide) dX1_needs_79 ?_
      refine fr_iconst (pc := 80) (v := 3) rfl dX1_needs_80 ?_
      refine fr_iadd (pc := 81) dX1_needs_81 ?_
      exact fr_ireturn (pc := 82) rfl (by simp only [k_needs, k_cook, *] <;> simp) rfl rfl dX1_needs_82
    by_cases hk26_4 : k = 4
    · refine fr_tIn (pc := 26) 83 (by rw [hk26_4]; decide) (by rw [hk26_4]; decide) (by rw [hk26_4]; rfl) (by decide) dX1_needs_26 ?_
      refine fr_iload_n (pc := 83) rfl dX1_needs_83 ?_
      refine fr_iconst (pc := 84) (v := 2) rfl dX1_needs_84 ?_
      refine fr_idiv (pc := 85) (by decide) dX1_needs_85 ?_
      refine fr_iconst (pc := 86) (v := 3) rfl dX1_needs_86 ?_
      refine fr_iadd (pc := 87) dX1_needs_87 ?_
      refine fr_iload_n (pc := 88) rfl dX1_needs_88 ?_
      refine fr_iconst (pc := 89) (v := 2) rfl dX1_needs_89 ?_
      refine fr_irem (pc := 90) (by decide) dX1_needs_90 ?_
      refine fr_iadd (pc := 91) dX1_needs_91 ?_
      exact fr_ireturn (pc := 92) rfl (by simp only [k_needs, k_cook, *] <;> simp) rfl rfl dX1_needs_92
    by_cases hk26_5 : k = 5
    · refine fr_tIn (pc := 26) 93 (by rw [hk26_5]; decide) (by rw [hk26_5]; decide) (by rw [hk26_5]; rfl) (by decide) dX1_needs_26 ?_
      refine fr_iconst (pc := 93) (v := 4) rfl dX1_needs_93 ?_
      exact fr_ireturn (pc := 94) rfl (by simp only [k_needs, k_cook, *] <;> simp) rfl rfl dX1_needs_94
    by_cases hk26_6 : k = 6
    · refine fr_tIn (pc := 26) 67 (by rw [hk26_6]; decide) (by rw [hk26_6]; decide) (by rw [hk26_6]; rfl) (by decide) dX1_needs_26 ?_
      refine fr_iload (pc := 67) rfl dX1_needs_67 ?_
      refine fr_bipush (pc := 69) (v := 6) rfl dX1_needs_69 ?_
      refine fr_iadd (pc := 71) dX1_needs_71 ?_
      exact fr_ireturn (pc := 72) rfl (by simp only [k_needs, k_cook, *] <;> simp) rfl rfl dX1_needs_72
    refine fr_tOut (pc := 26) 95 (sw_1_6 hk26_1 hk26_2 hk26_3 hk26_4 hk26_5 hk26_6) (by decide) dX1_needs_26 ?_
    refine fr_iload_n (pc := 95) rfl dX1_needs_95 ?_
    exact fr_ireturn (pc := 96) rfl (by simp only [k_needs, k_cook, *] <;> simp) rfl rfl dX1_needs_96
set_option maxRecDepth 100000 in
theorem c_X1_steps {Γ : aG} {l : Launch} {M : Nat → aC} {k : Int32} : Ev Γ l mX1_steps [.int k] 54 M (some (.int (k_steps k))) 54 M := by
  refine Ev.of [(0, .int k)] (by decide) (Nat.le_of_ble_eq_true rfl) rfl ?_
  refine fr_iload_n (pc := 0) rfl dX1_steps_0 ?_
  by_cases hk1_1 : k = 1
  · refine fr_tIn (pc := 1) 40 (by rw [hk1_1]; decide) (by rw [hk1_1]; decide) (by rw [hk1_1]; rfl) (by decide) dX1_steps_1 ?_
    refine fr_iconst (pc := 40) (v := 1) rfl dX1_steps_40 ?_
    exact fr_ireturn (pc := 41) rfl (by simp only [k_steps, *] <;> simp) rfl rfl dX1_steps_41
  by_cases hk1_2 : k = 2
  · refine fr_tIn (pc := 1) 42 (by rw [hk1_2]; decide) (by rw [hk1_2]; decide) (by rw [hk1_2]; rfl) (by decide) dX1_steps_1 ?_
    refine fr_iconst (pc := 42) (v := 4) rfl dX1_steps_42 ?_
    exact fr_ireturn (pc := 43) rfl (by simp only [k_steps, *] <;> simp) rfl rfl dX1_steps_43
  by_cases hk1_3 : k = 3
  · refine fr_tIn (pc := 1) 44 (by rw [hk1_3]; decide) (by rw [hk1_3]; decide) (by rw [hk1_3]; rfl) (by decide) dX1_steps_1 ?_
    refine fr_iconst (pc := 44) (v := 3) rfl dX1_steps_44 ?_
    exact fr_ireturn (pc := 45) rfl (by simp only [k_steps, *] <;> simp) rfl rfl dX1_steps_45
  by_cases hk1_4 : k = 4
  · refine fr_tIn (pc := 1) 48 (by rw [hk1_4]; decide) (by rw [hk1_4]; decide) (by rw [hk1_4]; rfl) (by decide) dX1_steps_1 ?_
    refine fr_iconst (pc := 48) (v := 2) rfl dX1_steps_48 ?_
    exact fr_ireturn (pc := 49) rfl (by simp only [k_steps, *] <;> simp) rfl rfl dX1_steps_49
  by_cases hk1_5 : k = 5
  · refine fr_tIn (pc := 1) 46 (by rw [hk1_5]; decide) (by rw [hk1_5]; decide) (by rw [hk1_5]; rfl) (by decide) dX1_steps_1 ?_
    refine fr_iconst (pc := 46) (v := 5) rfl dX1_steps_46 ?_
    exact fr_ireturn (pc := 47) rfl (by simp only [k_steps, *] <;> simp) rfl rfl dX1_steps_47
  by_cases hk1_6 : k = 6
  · refine fr_tIn (pc := 1) 40 (by rw [hk1_6]; decide) (by rw [hk1_6]; decide) (by rw [hk1_6]; rfl) (by decide) dX1_steps_1 ?_
    refine fr_iconst (pc := 40) (v := 1) rfl dX1_steps_40 ?_
    exact fr_ireturn (pc := 41) rfl (by simp only [k_steps, *] <;> simp) rfl rfl dX1_steps_41
  refine fr_tOut (pc := 1) 48 (sw_1_6 hk1_1 hk1_2 hk1_3 hk1_4 hk1_5 hk1_6) (by decide) dX1_steps_1 ?_
  refine fr_iconst (pc := 48) (v := 2) rfl dX1_steps_48 ?_
  exact fr_ireturn (pc := 49) rfl (by simp only [k_steps, *] <;> simp) rfl rfl dX1_steps_49
set_option maxRecDepth 100000 in
theorem c_X1_laughs {Γ : aG} {l : Launch} {M : Nat → aC} {k h : Int32} : Ev Γ l mX1_laughs [.int k, .int h] 54 M (some (.int (k_laughs k h))) 54 M := by
  refine Ev.of [(0, .int k), (1, .int h)] (by decide) (Nat.le_of_ble_eq_true rfl) rfl ?_
  refine fr_iload_n (pc := 0) rfl dX1_laughs_0 ?_
  by_cases hk1_1 : k = 1
  · refine fr_tIn (pc := 1) 40 (by rw [hk1_1]; decide) (by rw [hk1_1]; decide) (by rw [hk1_1]; rfl) (by decide) dX1_laughs_1 ?_
    refine fr_iconst (pc := 40) (v := 5) rfl dX1_laughs_40 ?_
    exact fr_ireturn (pc := 41) rfl (by simp only [k_laughs, *] <;> simp) rfl rfl dX1_laughs_41
  by_cases hk1_2 : k = 2
  · refine fr_tIn (pc := 1) 45 (by rw [hk1_2]; decide) (by rw [hk1_2]; decide) (by rw [hk1_2]; rfl) (by decide) dX1_laughs_1 ?_
    refine fr_iconst (pc := 45) (v := 3) rfl dX1_laughs_45 ?_
    refine fr_iload_n (pc := 46) rfl dX1_laughs_46 ?_
    refine fr_iconst (pc := 47) (v := 3) rfl dX1_laughs_47 ?_
    refine fr_irem (pc := 48) (by decide) dX1_laughs_48 ?_
    refine fr_iadd (pc := 49) dX1_laughs_49 ?_
    exact fr_ireturn (pc := 50) rfl (by simp only [k_laughs, *] <;> simp) rfl rfl dX1_laughs_50
  by_cases hk1_3 : k = 3
  · refine fr_tIn (pc := 1) 51 (by rw [hk1_3]; decide) (by rw [hk1_3]; decide) (by rw [hk1_3]; rfl) (by decide) dX1_laughs_1 ?_
    refine fr_iconst (pc := 51) (v := 0) rfl dX1_laughs_51 ?_
    exact fr_ireturn (pc := 52) rfl (by simp only [k_laughs, *] <;> simp) rfl rfl dX1_laughs_52
  by_cases hk1_4 : k = 4
  · refine fr_tIn (pc := 1) 53 (by rw [hk1_4]; decide) (by rw [hk1_4]; decide) (by rw [hk1_4]; rfl) (by decide) dX1_laughs_1 ?_
    refine fr_iconst (pc := 53) (v := 1) rfl dX1_laughs_53 ?_
    exact fr_ireturn (pc := 54) rfl (by simp only [k_laughs, *] <;> simp) rfl rfl dX1_laughs_54
  by_cases hk1_5 : k = 5
  · refine fr_tIn (pc := 1) 55 (by rw [hk1_5]; decide) (by rw [hk1_5]; decide) (by rw [hk1_5]; rfl) (by decide) dX1_laughs_1 ?_
    refine fr_iconst (pc := 55) (v := 2) rfl dX1_laughs_55 ?_
    exact fr_ireturn (pc := 56) rfl (by simp only [k_laughs, *] <;> simp) rfl rfl dX1_laughs_56
  by_cases hk1_6 : k = 6
  · refine fr_tIn (pc := 1) 42 (by rw [hk1_6]; decide) (by rw [hk1_6]; decide) (by rw [hk1_6]; rfl) (by decide) dX1_laughs_1 ?_
    refine fr_bipush (pc := 42) (v := 50) rfl dX1_laughs_42 ?_
    exact fr_ireturn (pc := 44) rfl (by simp only [k_laughs, *] <;> simp) rfl rfl dX1_laughs_44
  refine fr_tOut (pc := 1) 57 (sw_1_6 hk1_1 hk1_2 hk1_3 hk1_4 hk1_5 hk1_6) (by decide) dX1_laughs_1 ?_
  refine fr_iconst (pc := 57) (v := 3) rfl dX1_laughs_57 ?_
  exact fr_ireturn (pc := 58) rfl (by simp only [k_laughs, *] <;> simp) rfl rfl dX1_laughs_58
set_option maxRecDepth 100000 in
theorem c_X1_laces {Γ : aG} {l : Launch} {M : Nat → aC} {k : Int32} : Ev Γ l mX1_laces [.int k] 54 M (some (.int (k_laces k))) 54 M := by
  refine Ev.of [(0, .int k)] (by decide) (Nat.le_of_ble_eq_true rfl) rfl ?_
  refine fr_iload_n (pc := 0) rfl dX1_laces_0 ?_
  refine fr_iconst (pc := 1) (v := 3) rfl dX1_laces_1 ?_
  refine fr_icmp_ne (pc := 2) 7 (by decide) dX1_laces_2 (fun h2 => ?_) (fun h2 => ?_)
  · refine fr_iload_n (pc := 7) rfl dX1_laces_7 ?_
    refine fr_iconst (pc := 8) (v := 4) rfl dX1_laces_8 ?_
    refine fr_icmp_ne (pc := 9) 17 (by decide) dX1_laces_9 (fun h9 => ?_) (fun h9 => ?_)
    · refine fr_iconst (pc := 17) (v := 0) rfl dX1_laces_17 ?_
      exact fr_ireturn (pc := 18) rfl (by simp only [k_laces, *] <;> simp) rfl rfl dX1_laces_18
    · refine fr_bipush (pc := 12) (v := 8) rfl dX1_laces_12 ?_
      refine fr_goto (pc := 14) 18 (by decide) dX1_laces_14 ?_
      exact fr_ireturn (pc := 18) rfl (by simp only [k_laces, *] <;> simp) rfl rfl dX1_laces_18
  · refine fr_iconst (pc := 5) (v := 4) rfl dX1_laces_5 ?_
    exact fr_ireturn (pc := 6) rfl (by simp only [k_laces, *] <;> simp) rfl rfl dX1_laces_6
set_option maxRecDepth 100000 in
theorem c_X0_isFull {Γ : aG} {l : Launch} {M : Nat → aC} {j : Nat} {r : rT} (hj : j + 10 ≤ 54)  : Ev Γ l mX0_isFull [.ref j] 54 (putH M j r) (some (.int (bI (¬ r 9 1 < 8)))) 54 (putH M j r) := by
  refine Ev.of [(0, .ref j)] (by decide) (Nat.le_of_ble_eq_true rfl) rfl ?_
  refine fr_aload_n (pc := 0) rfl dX0_isFull_0 ?_
  refine fr_get (pc := 1) (ci := 0) (T := TX0) (k0 := 6) rfl hin_X0 (by decide) fl_X0_29 (by omega) putH_0 rfl dX0_isFull_1 ?_
  refine fr_bipush (pc := 4) (v := 8) rfl dX0_isFull_4 ?_
  refine fr_icmp_lt (pc := 6) 13 (by decide) dX0_isFull_6 (fun h6 => ?_) (fun h6 => ?_)
  · refine fr_iconst (pc := 13) (v := 0) rfl dX0_isFull_13 ?_
    exact fr_ireturn (pc := 14) rfl (by simp only [bI, *] <;> simp) rfl rfl dX0_isFull_14
  · refine fr_iconst (pc := 9) (v := 1) rfl dX0_isFull_9 ?_
    refine fr_goto (pc := 10) 14 (by decide) dX0_isFull_10 ?_
    exact fr_ireturn (pc := 14) rfl (by simp only [bI, *] <;> simp) rfl rfl dX0_isFull_14
set_option maxRecDepth 100000 in
theorem c_X0_placeNow {Γ : aG} {l : Launch} {M : Nat → aC} {j : Nat} {r : rT} (hj : j + 10 ≤ 54) (w : wf r)  : Ev Γ l mX0_placeNow [.ref j] 54 (putH M j r) (some (.int (nI (s_place r)))) 54 (putH M j r) := by
  refine Ev.of [(0, .ref j)] (by decide) (Nat.le_of_ble_eq_true rfl) rfl ?_
  refine fr_aload_n (pc := 0) rfl dX0_placeNow_0 ?_
  refine fr_get (pc := 1) (ci := 0) (T := TX0) (k0 := 5) rfl hin_X0 (by decide) fl_X0_26 (by omega) putH_0 rfl dX0_placeNow_1 ?_
  refine fr_bipush (pc := 4) (v := 6) rfl dX0_placeNow_4 ?_
  refine fr_irem (pc := 6) (by decide) dX0_placeNow_6 ?_
  exact fr_ireturn (pc := 7) rfl (pl_eq w) rfl rfl dX0_placeNow_7
set_option maxRecDepth 100000 in
theorem c_X0_measureNow {Γ : aG} {l : Launch} {M : Nat → aC} {j : Nat} {r : rT} (hj : j + 10 ≤ 54) (w : wf r)  : Ev Γ l mX0_measureNow [.ref j] 54 (putH M j r) (some (.int (s_meas r))) 54 (putH M j r) := by
  refine Ev.of [(0, .ref j)] (by decide) (Nat.le_of_ble_eq_true rfl) rfl ?_
  refine fr_aload_n (pc := 0) rfl dX0_measureNow_0 ?_
  refine fr_get (pc := 1) (ci := 0) (T := TX0) (k0 := 4) rfl hin_X0 (by decide) fl_X0_23 (by omega) putH_0 rfl dX0_measureNow_1 ?_
  refine fr_iconst (pc := 4) (v := 1) rfl dX0_measureNow_4 ?_
  refine fr_icmp_ne (pc := 5) 13 (by decide) dX0_measureNow_5 (fun h5 => ?_) (fun h5 => ?_)
  · refine fr_aload_n (pc := 13) rfl dX0_measureNow_13 ?_
    refine fr_get (pc := 14) (ci := 0) (T := TX0) (k0 := 1) rfl hin_X0 (by decide) fl_X0_13 (by omega) putH_0 rfl dX0_measureNow_14 ?_
    refine fr_aload_n (pc := 17) rfl dX0_measureNow_17 ?_
    refine fr_callV0 (pc := 18) (ci := 0) (T := TX0) (N := 15) [] [.ref (j + 2)] (c_X0_placeNow (by omega) (by assumption)) gc_X0_78 rfl rfl ⟨rfl, rfl, by decide, by decide⟩ (Nat.le_of_ble_eq_true rfl) rfl (by omega) putH_0 ⟨by decide, by decide⟩ dX0_measureNow_18 ?_
    refine fr_iald (pc := 21) (s_place r) rfl (by omega) putH_2 (pl_lt) (by decide) dX0_measureNow_21 ?_
    exact fr_ireturn (pc := 22) rfl (by simp only [s_meas, *] <;> simp) rfl rfl dX0_measureNow_22
  · refine fr_bipush (pc := 8) (v := 36) rfl dX0_measureNow_8 ?_
    refine fr_goto (pc := 10) 22 (by decide) dX0_measureNow_10 ?_
    exact fr_ireturn (pc := 22) rfl (by simp only [s_meas, *] <;> simp) rfl rfl dX0_measureNow_22
set_option maxRecDepth 100000 in
theorem c_X0_width {Γ : aG} {l : Launch} {M : Nat → aC} {j : Nat} {r : rT} (hj : j + 10 ≤ 54) {c : Nat} {m : Int32} (hc : c < 16)  : Ev Γ l mX0_width [.ref j, .int (nI c), .int m] 54 (putH M j r) (some (.int (s_width r c m))) 54 (putH M j r) := by
  refine Ev.of [(0, .ref j), (1, .int (nI c)), (2, .int m)] (by decide) (Nat.le_of_ble_eq_true rfl) rfl ?_
  refine fr_iconst (pc := 0) (v := 0) rfl dX0_width_0 ?_
  refine fr_aload_n (pc := 1) rfl dX0_width_1 ?_
  refine fr_get (pc := 2) (ci := 0) (T := TX0) (k0 := 0) rfl hin_X0 (by decide) fl_X0_9 (by omega) putH_0 rfl dX0_width_2 ?_
  refine fr_iload_n (pc := 5) rfl dX0_width_5 ?_
  refine fr_iald (pc := 6) c rfl (by omega) putH_1 (by first | assumption | omega) (by decide) dX0_width_6 ?_
  refine fr_iload_n (pc := 7) rfl dX0_width_7 ?_
  refine fr_iadd (pc := 8) dX0_width_8 ?_
  refine fr_bipush (pc := 9) (v := 26) rfl dX0_width_9 ?_
  refine fr_isub (pc := 11) dX0_width_11 ?_
  refine fr_mmax (pc := 12) gm_X0_82 wM_s_max wM_i wM_c_max ⟨by decide, by decide, by decide, by decide⟩ (Nat.le_of_ble_eq_true rfl) dX0_width_12 ?_
  exact fr_ireturn (pc := 15) rfl rfl rfl rfl dX0_width_15
set_option maxRecDepth 100000 in
theorem c_X0_needs {Γ : aG} {l : Launch} {M : Nat → aC} {j : Nat} {r : rT} (hj : j + 10 ≤ 54) {g : Nat} (hg : g < 8)  : Ev Γ l mX0_needs [.ref j, .int (nI g)] 54 (putH M j r) (some (.int (s_needs r g))) 54 (putH M j r) := by
  refine Ev.of [(0, .ref j), (1, .int (nI g))] (by decide) (Nat.le_of_ble_eq_true rfl) rfl ?_
  refine fr_aload_n (pc := 0) rfl dX0_needs_0 ?_
  refine fr_get (pc := 1) (ci := 0) (T := TX0) (k0 := 7) rfl hin_X0 (by decide) fl_X0_32 (by omega) putH_0 rfl dX0_needs_1 ?_
  refine fr_iload_n (pc := 4) rfl dX0_needs_4 ?_
  refine fr_iald (pc := 5) g rfl (by omega) putH_3 (by first | assumption | omega) (by decide) dX0_needs_5 ?_
  refine fr_aload_n (pc := 6) rfl dX0_needs_6 ?_
  refine fr_get (pc := 7) (ci := 0) (T := TX0) (k0 := 9) rfl hin_X0 (by decide) fl_X0_38 (by omega) putH_0 rfl dX0_needs_7 ?_
  refine fr_iload_n (pc := 10) rfl dX0_needs_10 ?_
  refine fr_iald (pc := 11) g rfl (by omega) putH_5 (by first | assumption | omega) (by decide) dX0_needs_11 ?_
  refine fr_aload_n (pc := 12) rfl dX0_needs_12 ?_
  refine fr_get (pc := 13) (ci := 0) (T := TX0) (k0 := 11) rfl hin_X0 (by decide) fl_X0_44 (by omega) putH_0 rfl dX0_needs_13 ?_
  refine fr_iload_n (pc := 16) rfl dX0_needs_16 ?_
  refine fr_iald (pc := 17) g rfl (by omega) putH_7 (by first | assumption | omega) (by decide) dX0_needs_17 ?_
  refine fr_aload_n (pc := 18) rfl dX0_needs_18 ?_
  refine fr_get (pc := 19) (ci := 0) (T := TX0) (k0 := 5) rfl hin_X0 (by decide) fl_X0_26 (by omega) putH_0 rfl dX0_needs_19 ?_
  refine fr_callS0 (pc := 22) [.int (r 2 g), .int (r 4 g), .int (r 6 g), .int (r 9 0)] [] (c_X1_needs) gc_X0_72 rfl rfl ⟨rfl, rfl, by decide, by decide⟩ (Nat.le_of_ble_eq_true rfl) ⟨by decide, by decide⟩ dX0_needs_22 ?_
  exact fr_ireturn (pc := 25) rfl rfl rfl rfl dX0_needs_25
