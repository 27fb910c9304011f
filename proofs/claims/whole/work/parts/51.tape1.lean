set_option maxRecDepth 100000 in
theorem c_coder {Γ : aG} {l : Launch} {M : Nat → aC} {k0 : Nat} (hk0 : k0 < 26)  : Ev Γ l mJ0_coder_7d493 [.ref (2000 + k0)] 54 M (some (.int 0)) 54 M := by
  refine Ev.of [(0, .ref (2000 + k0))] (by decide) (Nat.le_of_ble_eq_true rfl) rfl ?_
  refine fr_gsC (pc := 0) fl_J0_38 dJ0_coder_7d493_0 ?_
  refine fr_if_eq (pc := 3) 13 (by decide) dJ0_coder_7d493_3 (fun h3 => ?_) (fun h3 => ?_)
  · exact absurd h3 (by decide)
  · refine fr_aload_n (pc := 6) rfl dJ0_coder_7d493_6 ?_
    refine fr_sgc (pc := 7) hk0 fl_J0_15 dJ0_coder_7d493_7 ?_
    refine fr_goto (pc := 10) 14 (by decide) dJ0_coder_7d493_10 ?_
    exact fr_ireturn (pc := 14) rfl rfl rfl rfl dJ0_coder_7d493_14
set_option maxRecDepth 100000 in
theorem c_isLatin1 {Γ : aG} {l : Launch} {M : Nat → aC} {k0 : Nat} (hk0 : k0 < 26)  : Ev Γ l mJ0_isLatin1_aae02 [.ref (2000 + k0)] 54 M (some (.int 1)) 54 M := by
  refine Ev.of [(0, .ref (2000 + k0))] (by decide) (Nat.le_of_ble_eq_true rfl) rfl ?_
  refine fr_gsC (pc := 0) fl_J0_38 dJ0_isLatin1_aae02_0 ?_
  refine fr_if_eq (pc := 3) 17 (by decide) dJ0_isLatin1_aae02_3 (fun h3 => ?_) (fun h3 => ?_)
  · exact absurd h3 (by decide)
  · refine fr_aload_n (pc := 6) rfl dJ0_isLatin1_aae02_6 ?_
    refine fr_sgc (pc := 7) hk0 fl_J0_15 dJ0_isLatin1_aae02_7 ?_
    refine fr_if_ne (pc := 10) 17 (by decide) dJ0_isLatin1_aae02_10 (fun h10 => ?_) (fun h10 => ?_)
    · exact absurd rfl h10
    · refine fr_iconst (pc := 13) (v := 1) rfl dJ0_isLatin1_aae02_13 ?_
      refine fr_goto (pc := 14) 18 (by decide) dJ0_isLatin1_aae02_14 ?_
      exact fr_ireturn (pc := 18) rfl rfl rfl rfl dJ0_isLatin1_aae02_18
theorem sh0 (x : Int32) : x >>> ((0 : Int32) &&& 31) = x := by
  rw [show ((0 : Int32) &&& 31) = 0 from by decide, Int32.shiftRight_zero]
theorem ss_all : ∀ k : Nat, k < 26 → (a_ss k).2.2.2.length < 100 ∧ ∀ j : Nat, j < (a_ss k).2.2.2.length → ((((a_ss k).2.2.2.getD j 0 &&& 255).toUInt32 % 65536).toInt32 = (a_ss k).2.2.2.getD j 0 ∧ narrow .char (.int ((a_ss k).2.2.2.getD j 0)) = .int ((a_ss k).2.2.2.getD j 0)) := by decide +kernel
set_option maxRecDepth 100000 in
theorem c_slength {Γ : aG} {l : Launch} {M : Nat → aC} {k0 : Nat} (hk0 : k0 < 26)  : Ev Γ l mJ0_length_8abf5 [.ref (2000 + k0)] 54 M (some (.int (nI (a_ss k0).2.2.2.length))) 54 M := by
  refine Ev.of [(0, .ref (2000 + k0))] (by decide) (Nat.le_of_ble_eq_true rfl) rfl ?_
  refine fr_aload_n (pc := 0) rfl dJ0_length_8abf5_0 ?_
  refine fr_sgv (pc := 1) hk0 fl_J0_9 dJ0_length_8abf5_1 ?_
  refine fr_slen (pc := 4) hk0 dJ0_length_8abf5_4 ?_
  refine fr_aload_n (pc := 5) rfl dJ0_length_8abf5_5 ?_
  refine fr_callK (pc := 6) [] [.int (nI (a_ss k0).2.2.2.length)] (k0 := k0) (by first | assumption | decide) (c_coder hk0) gc_J0_335 rfl rfl rfl ⟨rfl, rfl, by decide, by decide⟩ (Nat.le_of_ble_eq_true rfl) ⟨by decide, by decide⟩ dJ0_length_8abf5_6 ?_
  refine fr_ishr (pc := 9) dJ0_length_8abf5_9 ?_
  exact fr_ireturn (pc := 10) rfl (sh0 _) rfl rfl dJ0_length_8abf5_10
theorem a_la3 {Γ : aG} {x : Value} {a b : Int32} (hx : x.category = 1) : lv_args 0 ([.int a, .int b, x].map (a_v Γ)) = a_L Γ [(0, .int a), (1, .int b), (2, x)] := by
  cases x <;> first | rfl | cases hx
theorem a_sl3 {Γ : aG} {x : Value} {a b : Int32} (hx : x.category = 1) : (lg_sl ([.int a, .int b, x].map (a_v Γ))).length = 3 := by
  cases x <;> first | rfl | cases hx
set_option maxRecDepth 100000 in
theorem c_pcheck {Γ : aG} {l : Launch} {M : Nat → aC} {j N : Nat} {x : Value} (hx : x.category = 1) (hj : j < N) (hN : N < 1000)  : Ev Γ l mJ3_checkIndex_8e157 [.int (nI j), .int (nI N), x] 54 M (some (.int (nI j))) 54 M := by
  refine Ev.of [(0, .int (nI j)), (1, .int (nI N)), (2, x)] (by decide) (by rw [a_sl3 hx]; decide) (a_la3 hx) ?_
  refine fr_iload_n (pc := 0) rfl dJ3_checkIndex_8e157_0 ?_
  refine fr_if_lt (pc := 1) 9 (by decide) dJ3_checkIndex_8e157_1 (fun h1 => ?_) (fun h1 => ?_)
  · exact absurd h1 (nI_pos (by omega))
  · refine fr_iload_n (pc := 4) rfl dJ3_checkIndex_8e157_4 ?_
    refine fr_iload_n (pc := 5) rfl dJ3_checkIndex_8e157_5 ?_
    refine fr_icmp_lt (pc := 6) 16 (by decide) dJ3_checkIndex_8e157_6 (fun h6 => ?_) (fun h6 => ?_)
    · refine fr_iload_n (pc := 16) rfl dJ3_checkIndex_8e157_16 ?_
      exact fr_ireturn (pc := 17) rfl rfl rfl rfl dJ3_checkIndex_8e157_17
    · exact absurd (nI_lt hj (by omega)) h6
set_option maxRecDepth 100000 in
theorem c_scheck {Γ : aG} {l : Launch} {M : Nat → aC} {j N : Nat} (hj : j < N) (hN : N < 1000) : Ev Γ l mJ0_checkIndex_df160 [.int (nI j), .int (nI N)] 54 M none 54 M := by
  refine Ev.of [(0, .int (nI j)), (1, .int (nI N))] (by decide) (Nat.le_of_ble_eq_true rfl) rfl ?_
  refine fr_iload_n (pc := 0) rfl dJ0_checkIndex_df160_0 ?_
  refine fr_iload_n (pc := 1) rfl dJ0_checkIndex_df160_1 ?_
  refine fr_gsF (pc := 2) fl_J0_1053 dJ0_checkIndex_df160_2 (fun x hx => ?_)
  refine fr_callS0 (pc := 5) [.int (nI j), .int (nI N), x] [] (c_pcheck hx hj hN) gc_J0_1059 rfl rfl ⟨rfl, rfl, by decide, by decide⟩ (Nat.le_of_ble_eq_true rfl) ⟨by decide, by decide⟩ dJ0_checkIndex_df160_5 ?_
  refine fr_pop (pc := 8) rfl dJ0_checkIndex_df160_8 ?_
  exact fr_return (pc := 9) rfl rfl dJ0_checkIndex_df160_9
set_option maxRecDepth 100000 in
theorem c_l1charAt {Γ : aG} {l : Launch} {M : Nat → aC} {k0 : Nat} (hk0 : k0 < 26) {j : Nat} (hj : j < (a_ss k0).2.2.2.length)  : Ev Γ l mJ1_charAt_3b067 [.ref (3000 + k0), .int (nI j)] 54 M (some (.int ((a_ss k0).2.2.2.getD j 0))) 54 M := by
  refine Ev.of [(0, .ref (3000 + k0)), (1, .int (nI j))] (by decide) (Nat.le_of_ble_eq_true rfl) rfl ?_
  refine fr_iload_n (pc := 0) rfl dJ1_charAt_3b067_0 ?_
  refine fr_aload_n (pc := 1) rfl dJ1_charAt_3b067_1 ?_
  refine fr_slen (pc := 2) hk0 dJ1_charAt_3b067_2 ?_
  refine fr_callS0 (pc := 3) [.int (nI j), .int (nI (a_ss k0).2.2.2.length)] [] (c_scheck hj (by have := (ss_all k0 hk0).1; omega)) gc_J1_9 rfl rfl ⟨rfl, rfl, by decide, by decide⟩ (Nat.le_of_ble_eq_true rfl) ⟨by decide, by decide⟩ dJ1_charAt_3b067_3 ?_
  refine fr_aload_n (pc := 6) rfl dJ1_charAt_3b067_6 ?_
  refine fr_iload_n (pc := 7) rfl dJ1_charAt_3b067_7 ?_
  refine fr_sbald (pc := 8) j rfl hk0 hj (by have := (ss_all k0 hk0).1; omega) dJ1_charAt_3b067_8 ?_
  refine fr_sipush (pc := 9) (v := 255) rfl dJ1_charAt_3b067_9 ?_
  refine fr_iand (pc := 12) dJ1_charAt_3b067_12 ?_
  refine fr_i2c (pc := 13) dJ1_charAt_3b067_13 ?_
  exact fr_ireturn (pc := 14) rfl ((ss_all k0 hk0).2 j hj).1 rfl (by rw [((ss_all k0 hk0).2 j hj).1]; exact ((ss_all k0 hk0).2 j hj).2) dJ1_charAt_3b067_14
set_option maxRecDepth 100000 in
theorem c_charAt {Γ : aG} {l : Launch} {M : Nat → aC} {k0 : Nat} (hk0 : k0 < 26) {j : Nat} (hj : j < (a_ss k0).2.2.2.length)  : Ev Γ l mJ0_charAt_5068e [.ref (2000 + k0), .int (nI j)] 54 M (some (.int ((a_ss k0).2.2.2.getD j 0))) 54 M := by
  refine Ev.of [(0, .ref (2000 + k0)), (1, .int (nI j))] (by decide) (Nat.le_of_ble_eq_true rfl) rfl ?_
  refine fr_aload_n (pc := 0) rfl dJ0_charAt_5068e_0 ?_
  refine fr_callK (pc := 1) [] [] (k0 := k0) (by first | assumption | decide) (c_isLatin1 hk0) gc_J0_492 rfl rfl rfl ⟨rfl, rfl, by decide, by decide⟩ (Nat.le_of_ble_eq_true rfl) ⟨by decide, by decide⟩ dJ0_charAt_5068e_1 ?_
  refine fr_if_eq (pc := 4) 16 (by decide) dJ0_charAt_5068e_4 (fun h4 => ?_) (fun h4 => ?_)
  · exact absurd h4 (by decide)
  · refine fr_aload_n (pc := 7) rfl dJ0_charAt_5068e_7 ?_
    refine fr_sgv (pc := 8) hk0 fl_J0_9 dJ0_charAt_5068e_8 ?_
    refine fr_iload_n (pc := 11) rfl dJ0_charAt_5068e_11 ?_
    refine fr_callS0 (pc := 12) [.ref (3000 + k0), .int (nI j)] [] (c_l1charAt hk0 hj) gc_J0_495 rfl rfl ⟨rfl, rfl, by decide, by decide⟩ (Nat.le_of_ble_eq_true rfl) ⟨by decide, by decide⟩ dJ0_charAt_5068e_12 ?_
    exact fr_ireturn (pc := 15) rfl rfl rfl ((ss_all k0 hk0).2 j hj).2 dJ0_charAt_5068e_15
set_option maxRecDepth 100000 in
theorem c_X3_isLetter {Γ : aG} {l : Launch} {M : Nat → aC} {v : Int32} : Ev Γ l mX3_isLetter [.int v] 54 M (some (.int (bI (isL v = true)))) 54 M := by
  refine Ev.of [(0, .int v)] (by decide) (Nat.le_of_ble_eq_true rfl) rfl ?_
  refine fr_iload_n (pc := 0) rfl dX3_isLetter_0 ?_
  refine fr_bipush (pc := 1) (v := 97) rfl dX3_isLetter_1 ?_
  refine fr_icmp_lt (pc := 3) 16 (by decide) dX3_isLetter_3 (fun h3 => ?_) (fun h3 => ?_)
  · refine fr_iconst (pc := 16) (v := 0) rfl dX3_isLetter_16 ?_
    exact fr_ireturn (pc := 17) rfl (bI_f (fun z => (of_decide_eq_true z).1 h3)).symm rfl rfl dX3_isLetter_17
  · refine fr_iload_n (pc := 6) rfl dX3_isLetter_6 ?_
    refine fr_bipush (pc := 7) (v := 122) rfl dX3_isLetter_7 ?_
    refine fr_icmp_gt (pc := 9) 16 (by decide) dX3_isLetter_9 (fun h9 => ?_) (fun h9 => ?_)
    · refine fr_iconst (pc := 16) (v := 0) rfl dX3_isLetter_16 ?_
      exact fr_ireturn (pc := 17) rfl (bI_f (fun z => (of_decide_eq_true z).2 h9)).symm rfl rfl dX3_isLetter_17
    · refine fr_iconst (pc := 12) (v := 1) rfl dX3_isLetter_12 ?_
      refine fr_goto (pc := 13) 17 (by decide) dX3_isLetter_13 ?_
      exact fr_ireturn (pc := 17) rfl (bI_t (decide_eq_true ⟨h3, h9⟩)).symm rfl rfl dX3_isLetter_17
set_option maxRecDepth 100000 in
theorem c_X3_isDigit {Γ : aG} {l : Launch} {M : Nat → aC} {v : Int32} : Ev Γ l mX3_isDigit [.int v] 54 M (some (.int (bI (isD v = true)))) 54 M := by
  refine Ev.of [(0, .int v)] (by decide) (Nat.le_of_ble_eq_true rfl) rfl ?_
  refine fr_iload_n (pc := 0) rfl dX3_isDigit_0 ?_
  refine fr_bipush (pc := 1) (v := 48) rfl dX3_isDigit_1 ?_
  refine fr_icmp_lt (pc := 3) 16 (by decide) dX3_isDigit_3 (fun h3 => ?_) (fun h3 => ?_)
  · refine fr_iconst (pc := 16) (v := 0) rfl dX3_isDigit_16 ?_
    exact fr_ireturn (pc := 17) rfl (bI_f (fun z => (of_decide_eq_true z).1 h3)).symm rfl rfl dX3_isDigit_17
  · refine fr_iload_n (pc := 6) rfl dX3_isDigit_6 ?_
    refine fr_bipush (pc := 7) (v := 57) rfl dX3_isDigit_7 ?_
    refine fr_icmp_gt (pc := 9) 16 (by decide) dX3_isDigit_9 (fun h9 => ?_) (fun h9 => ?_)
    · refine fr_iconst (pc := 16) (v := 0) rfl dX3_isDigit_16 ?_
      exact fr_ireturn (pc := 17) rfl (bI_f (fun z => (of_decide_eq_true z).2 h9)).symm rfl rfl dX3_isDigit_17
    · refine fr_iconst (pc := 12) (v := 1) rfl dX3_isDigit_12 ?_
      refine fr_goto (pc := 13) 17 (by decide) dX3_isDigit_13 ?_
      exact fr_ireturn (pc := 17) rfl (bI_t (decide_eq_true ⟨h3, h9⟩)).symm rfl rfl dX3_isDigit_17
set_option maxRecDepth 100000 in
theorem nx_wd {Γ : aG} {l : Launch} {M : Nat → aC} {r rk t : rT} {ik : Int32} {S : sT} {b : Nat → Int32} {L : Nat} {fi : Nat → Int32} (hL : L ≤ 120) {s0 n0 : Int32} : ∀ (k p : Nat), p + k = L → Fr Γ l mX3_next 85 [(0, .ref 39)] [] 54 0 0 (xM M r rk t ik S (b, nI L, nI p, 1, s0, n0) fi) none 54 (xM M r rk t ik S (b, nI L, nI (tk_wd b k p), 1, s0, n0) fi) := by
  intro k
  induction k with
  | zero =>
    intro p hp
    refine fr_aload_n (pc := 85) rfl dX3_next_85 ?_
    refine fr_get (pc := 86) (ci := 2) (T := TX3) (k0 := 2) rfl hin_X3 (by decide) fl_X3_17 (by decide) x_39 rfl dX3_next_86 ?_
    refine fr_aload_n (pc := 89) rfl dX3_next_89 ?_
    refine fr_get (pc := 90) (ci := 2) (T := TX3) (k0 := 1) rfl hin_X3 (by decide) fl_X3_13 (by decide) x_39 rfl dX3_next_90 ?_
    refine fr_icmp_ge (pc := 93) 255 (by decide) dX3_next_93 (fun h93 => ?_) (fun h93 => ?_)
    · exact fr_return (pc := 255) rfl rfl dX3_next_255
    · exact absurd (nI_le (by omega) (by omega)) h93
  | succ k ih =>
    intro p hp
    refine fr_aload_n (pc := 85) rfl dX3_next_85 ?_
    refine fr_get (pc := 86) (ci := 2) (T := TX3) (k0 := 2) rfl hin_X3 (by decide) fl_X3_17 (by decide) x_39 rfl dX3_next_86 ?_
    refine fr_aload_n (pc := 89) rfl dX3_next_89 ?_
    refine fr_get (pc := 90) (ci := 2) (T := TX3) (k0 := 1) rfl hin_X3 (by decide) fl_X3_13 (by decide) x_39 rfl dX3_next_90 ?_
    refine fr_icmp_ge (pc := 93) 255 (by decide) dX3_next_93 (fun h93 => ?_) (fun h93 => ?_)
    · exact absurd h93 (nI_ge (by omega) (by omega))
    · refine fr_aload_n (pc := 96) rfl dX3_next_96 ?_
      refine fr_get (pc := 97) (ci := 2) (T := TX3) (k0 := 0) rfl hin_X3 (by decide) fl_X3_9 (by decide) x_39 rfl dX3_next_97 ?_
      refine fr_aload_n (pc := 100) rfl dX3_next_100 ?_
      refine fr_get (pc := 101) (ci := 2) (T := TX3) (k0 := 2) rfl hin_X3 (by decide) fl_X3_17 (by decide) x_39 rfl dX3_next_101 ?_
      refine fr_iald (pc := 104) p rfl (by decide) x_40 (by first | assumption | omega) (by decide) dX3_next_104 ?_
      refine fr_callS0 (pc := 105) [.int (b p)] [] (c_X3_isLetter) gc_X3_132 rfl rfl ⟨rfl, rfl, by decide, by decide⟩ (Nat.le_of_ble_eq_true rfl) ⟨by decide, by decide⟩ dX3_next_105 ?_
      refine fr_if_eq (pc := 108) 255 (by decide) dX3_next_108 (fun h108 => ?_) (fun h108 => ?_)
      · have g108 := bI_0.mp h108
        exact fr_return (pc := 255) rfl (by rw [tk_wd, if_neg g108]) dX3_next_255
      · have g108 := bI_n0 h108
        refine fr_aload_n (pc := 111) rfl dX3_next_111 ?_
        refine fr_dup (pc := 112) rfl dX3_next_112 ?_
        refine fr_get (pc := 113) (ci := 2) (T := TX3) (k0 := 2) rfl hin_X3 (by decide) fl_X3_17 (by decide) x_39 rfl dX3_next_113 ?_
        refine fr_iconst (pc := 116) (v := 1) rfl dX3_next_116 ?_
        refine fr_iadd (pc := 117) dX3_next_117 ?_
        refine fr_eq (z := nI (p + 1)) (nI_1 p) ?_
        refine fr_put (pc := 118) (ci := 2) (T := TX3) (k0 := 2) (ty := .int) tyX3 tyX3_ok nmX3 rfl hin_X3 (by decide) fl_X3_17 rfl (by decide +kernel) rfl rfl (Nat.le_of_ble_eq_true rfl) (by decide) x_39 dX3_next_118 ?_
        refine fr_mem x_u39_2 ?_
        refine fr_goto (pc := 121) 85 (by decide) dX3_next_121 ?_
        rw [show tk_wd b (k + 1) p = tk_wd b k (p + 1) from if_pos g108]
        exact ih (p + 1) (by omega)
set_option maxRecDepth 100000 in
theorem nx_nm {Γ : aG} {l : Launch} {M : Nat → aC} {r rk t : rT} {ik : Int32} {S : sT} {b : Nat → Int32} {L : Nat} {fi : Nat → Int32} (hL : L ≤ 120) {s0 : Int32} : ∀ (k p : Nat) (x : Int32), p + k = L → Fr Γ l mX3_next 149 [(0, .ref 39)] [] 54 0 0 (xM M r rk t ik S (b, nI L, nI p, 2, s0, x) fi) none 54 (xM M r rk t ik S (b, nI L, nI (tk_nm b k p x).1, 2, s0, (tk_nm b k p x).2) fi) := by
  intro k
  induction k with
  | zero =>
    intro p x hp
    refine fr_aload_n (pc := 149) rfl dX3_next_149 ?_
    refine fr_get (pc := 150) (ci := 2) (T := TX3) (k0 := 2) rfl hin_X3 (by decide) fl_X3_17 (by decide) x_39 rfl dX3_next_150 ?_
    refine fr_aload_n (pc := 153) rfl dX3_next_153 ?_
    refine fr_get (pc := 154) (ci := 2) (T := TX3) (k0 := 1) rfl hin_X3 (by decide) fl_X3_13 (by decide) x_39 rfl dX3_next_154 ?_
    refine fr_icmp_ge (pc := 157) 255 (by decide) dX3_next_157 (fun h157 => ?_) (fun h157 => ?_)
    · exact fr_return (pc := 255) rfl rfl dX3_next_255
    · exact absurd (nI_le (by omega) (by omega)) h157
  | succ k ih =>
    intro p x hp
    refine fr_aload_n (pc := 149) rfl dX3_next_149 ?_
    refine fr_get (pc := 150) (ci := 2) (T := TX3) (k0 := 2) rfl hin_X3 (by decide) fl_X3_17 (by decide) x_39 rfl dX3_next_150 ?_
    refine fr_aload_n (pc := 153) rfl dX3_next_153 ?_
    refine fr_get (pc := 154) (ci := 2) (T := TX3) (k0 := 1) rfl hin_X3 (by decide) fl_X3_13 (by decide) x_39 rfl dX3_next_154 ?_
    refine fr_icmp_ge (pc := 157) 255 (by decide) dX3_next_157 (fun h157 => ?_) (fun h157 => ?_)
    · exact absurd h157 (nI_ge (by omega) (by omega))
    · refine fr_aload_n (pc := 160) rfl dX3_next_160 ?_
      refine fr_get (pc := 161) (ci := 2) (T := TX3) (k0 := 0) rfl hin_X3 (by decide) fl_X3_9 (by decide) x_39 rfl dX3_next_161 ?_
      refine fr_aload_n (pc := 164) rfl dX3_next_164 ?_
      refine fr_get (pc := 165) (ci := 2) (T := TX3) (k0 := 2) rfl hin_X3 (by decide) fl_X3_17 (by decide) x_39 rfl dX3_next_165 ?_
      refine fr_iald (pc := 168) p rfl (by decide) x_40 (by first | assumption | omega) (by decide) dX3_next_168 ?_
      refine fr_callS0 (pc := 169) [.int (b p)] [] (c_X3_isDigit) gc_X3_135 rfl rfl ⟨rfl, rfl, by decide, by decide⟩ (Nat.le_of_ble_eq_true rfl) ⟨by decide, by decide⟩ dX3_next_169 ?_
      refine fr_if_eq (pc := 172) 255 (by decide) dX3_next_172 (fun h172 => ?_) (fun h172 => ?_)
      · have g172 := bI_0.mp h172
        exact fr_return (pc := 255) rfl (by rw [tk_nm, if_neg g172]) dX3_next_255
      · have g172 := bI_n0 h172
        refine fr_aload_n (pc := 175) rfl dX3_next_175 ?_
        refine fr_bipush (pc := 176) (v := 10) rfl dX3_next_176 ?_
        refine fr_aload_n (pc := 178) rfl dX3_next_178 ?_
        refine fr_get (pc := 179) (ci := 2) (T := TX3) (k0 := 5) rfl hin_X3 (by decide) fl_X3_26 (by decide) x_39 rfl dX3_next_179 ?_
        refine fr_imul (pc := 182) dX3_next_182 ?_
        refine fr_aload_n (pc := 183) rfl dX3_next_183 ?_
        refine fr_get (pc := 184) (ci := 2) (T := TX3) (k0 := 0) rfl hin_X3 (by decide) fl_X3_9 (by decide) x_39 rfl dX3_next_184 ?_
        refine fr_aload_n (pc := 187) rfl dX3_next_187 ?_
        refine fr_get (pc := 188) (ci := 2) (T := TX3) (k0 := 2) rfl hin_X3 (by decide) fl_X3_17 (by decide) x_39 rfl dX3_next_188 ?_
        refine fr_iald (pc := 191) p rfl (by decide) x_40 (by first | assumption | omega) (by decide) dX3_next_191 ?_
        refine fr_iadd (pc := 192) dX3_next_192 ?_
        refine fr_bipush (pc := 193) (v := 48) rfl dX3_next_193 ?_
        refine fr_isub (pc := 195) dX3_next_195 ?_
        refine fr_sipush (pc := 196) (v := 10000) rfl dX3_next_196 ?_
        refine fr_mmin (pc := 199) gm_X3_138 wM_s_min wM_i wM_c_min ⟨by decide, by decide, by decide, by decide⟩ (Nat.le_of_ble_eq_true rfl) dX3_next_199 ?_
        refine fr_nm (fun x1 e_x1 => ?_)
        refine fr_put (pc := 202) (ci := 2) (T := TX3) (k0 := 5) (ty := .int) tyX3 tyX3_ok nmX3 rfl hin_X3 (by decide) fl_X3_26 rfl (by decide +kernel) rfl rfl (Nat.le_of_ble_eq_true rfl) (by decide) x_39 dX3_next_202 ?_
        refine fr_mem x_u39_5 ?_
        refine fr_aload_n (pc := 205) rfl dX3_next_205 ?_
        refine fr_dup (pc := 206) rfl dX3_next_206 ?_
        refine fr_get (pc := 207) (ci := 2) (T := TX3) (k0 := 2) rfl hin_X3 (by decide) fl_X3_17 (by decide) x_39 rfl dX3_next_207 ?_
        refine fr_iconst (pc := 210) (v := 1) rfl dX3_next_210 ?_
        refine fr_iadd (pc := 211) dX3_next_211 ?_
        refine fr_eq (z := nI (p + 1)) (nI_1 p) ?_
        refine fr_put (pc := 212) (ci := 2) (T := TX3) (k0 := 2) (ty := .int) tyX3 tyX3_ok nmX3 rfl hin_X3 (by decide) fl_X3_17 rfl (by decide +kernel) rfl rfl (Nat.le_of_ble_eq_true rfl) (by decide) x_39 dX3_next_212 ?_
        refine fr_mem x_u39_2 ?_
        refine fr_goto (pc := 215) 149 (by decide) dX3_next_215 ?_
        rw [show tk_nm b (k + 1) p x = tk_nm b k (p + 1) x1 from by rw [tk_nm, if_pos g172, e_x1]]
        exact ih (p + 1) x1 (by omega)
set_option maxRecDepth 100000 in
theorem nx_38 {Γ : aG} {l : Launch} {M : Nat → aC} {r rk t : rT} {ik : Int32} {S : sT} {b : Nat → Int32} {L : Nat} {fi : Nat → Int32} (hL : L ≤ 120) {k0 s0 n0 : Int32} {q : Nat} (hq : q ≤ L) : Fr Γ l mX3_next 38 [(0, .ref 39)] [] 54 0 0 (xM M r rk t ik S (b, nI L, nI q, k0, s0, n0) fi) none 54 (xM M r rk t ik S (b, nI L, tJ (tk_at b L q n0)) fi) := by
  refine fr_aload_n (pc := 38) rfl dX3_next_38 ?_
  refine fr_aload_n (pc := 39) rfl dX3_next_39 ?_
  refine fr_get (pc := 40) (ci := 2) (T := TX3) (k0 := 2) rfl hin_X3 (by decide) fl_X3_17 (by decide) x_39 rfl dX3_next_40 ?_
  refine fr_put (pc := 43) (ci := 2) (T := TX3) (k0 := 4) (ty := .int) tyX3 tyX3_ok nmX3 rfl hin_X3 (by decide) fl_X3_23 rfl (by decide +kernel) rfl rfl (Nat.le_of_ble_eq_true rfl) (by decide) x_39 dX3_next_43 ?_
  refine fr_mem x_u39_4 ?_
  refine fr_aload_n (pc := 46) rfl dX3_next_46 ?_
  refine fr_get (pc := 47) (ci := 2) (T := TX3) (k0 := 2) rfl hin_X3 (by decide) fl_X3_17 (by decide) x_39 rfl dX3_next_47 ?_
  refine fr_aload_n (pc := 50) rfl dX3_next_50 ?_
  refine fr_get (pc := 51) (ci := 2) (T := TX3) (k0 := 1) rfl hin_X3 (by decide) fl_X3_13 (by decide) x_39 rfl dX3_next_51 ?_
  refine fr_icmp_lt (pc := 54) 65 (by decide) dX3_next_54 (fun h54 => ?_) (fun h54 => ?_)
  · have lq : q < L := (nI_ltI (by omega) (by omega)).mp h54
    refine fr_aload_n (pc := 65) rfl dX3_next_65 ?_
    refine fr_get (pc := 66) (ci := 2) (T := TX3) (k0 := 0) rfl hin_X3 (by decide) fl_X3_9 (by decide) x_39 rfl dX3_next_66 ?_
    refine fr_aload_n (pc := 69) rfl dX3_next_69 ?_
    refine fr_get (pc := 70) (ci := 2) (T := TX3) (k0 := 2) rfl hin_X3 (by decide) fl_X3_17 (by decide) x_39 rfl dX3_next_70 ?_
    refine fr_iald (pc := 73) q rfl (by decide) x_40 (by first | assumption | omega) (by decide) dX3_next_73 ?_
    refine fr_callS0 (pc := 74) [.int (b q)] [] (c_X3_isLetter) gc_X3_132 rfl rfl ⟨rfl, rfl, by decide, by decide⟩ (Nat.le_of_ble_eq_true rfl) ⟨by decide, by decide⟩ dX3_next_74 ?_
    refine fr_if_eq (pc := 77) 124 (by decide) dX3_next_77 (fun h77 => ?_) (fun h77 => ?_)
    · have g77 := bI_0.mp h77
      refine fr_aload_n (pc := 124) rfl dX3_next_124 ?_
      refine fr_get (pc := 125) (ci := 2) (T := TX3) (k0 := 0) rfl hin_X3 (by decide) fl_X3_9 (by decide) x_39 rfl dX3_next_125 ?_
      refine fr_aload_n (pc := 128) rfl dX3_next_128 ?_
      refine fr_get (pc := 129) (ci := 2) (T := TX3) (k0 := 2) rfl hin_X3 (by decide) fl_X3_17 (by decide) x_39 rfl dX3_next_129 ?_
      refine fr_iald (pc := 132) q rfl (by decide) x_40 (by first | assumption | omega) (by decide) dX3_next_132 ?_
      refine fr_callS0 (pc := 133) [.int (b q)] [] (c_X3_isDigit) gc_X3_135 rfl rfl ⟨rfl, rfl, by decide, by decide⟩ (Nat.le_of_ble_eq_true rfl) ⟨by decide, by decide⟩ dX3_next_133 ?_
      refine fr_if_eq (pc := 136) 218 (by decide) dX3_next_136 (fun h136 => ?_) (fun h136 => ?_)
      · have g136 := bI_0.mp h136
        refine fr_aload_n (pc := 218) rfl dX3_next_218 ?_
        refine fr_get (pc := 219) (ci := 2) (T := TX3) (k0 := 0) rfl hin_X3 (by decide) fl_X3_9 (by decide) x_39 rfl dX3_next_219 ?_
        refine fr_aload_n (pc := 222) rfl dX3_next_222 ?_
        refine fr_get (pc := 223) (ci := 2) (T := TX3) (k0 := 2) rfl hin_X3 (by decide) fl_X3_17 (by decide) x_39 rfl dX3_next_223 ?_
        refine fr_iald (pc := 226) q rfl (by decide) x_40 (by first | assumption | omega) (by decide) dX3_next_226 ?_
        refine fr_bipush (pc := 227) (v := 59) rfl dX3_next_227 ?_
        refine fr_icmp_ne (pc := 229) 250 (by decide) dX3_next_229 (fun h229 => ?_) (fun h229 => ?_)
        · refine fr_aload_n (pc := 250) rfl dX3_next_250 ?_
          refine fr_iconst (pc := 251) (v := 4) rfl dX3_next_251 ?_
          refine fr_put (pc := 252) (ci := 2) (T := TX3) (k0 := 3) (ty := .int) tyX3 tyX3_ok nmX3 rfl hin_X3 (by decide) fl_X3_20 rfl (by decide +kernel) rfl rfl (Nat.le_of_ble_eq_true rfl) (by decide) x_39 dX3_next_252 ?_
          refine fr_mem x_u39_3 ?_
          exact fr_return (pc := 255) rfl (by unfold tk_at; rw [if_pos lq, if_neg g77, if_neg g136, if_neg h229]; rfl) dX3_next_255
        · refine fr_aload_n (pc := 232) rfl dX3_next_232 ?_
          refine fr_iconst (pc := 233) (v := 3) rfl dX3_next_233 ?_
          refine fr_put (pc := 234) (ci := 2) (T := TX3) (k0 := 3) (ty := .int) tyX3 tyX3_ok nmX3 rfl hin_X3 (by decide) fl_X3_20 rfl (by decide +kernel) rfl rfl (Nat.le_of_ble_eq_true rfl) (by decide) x_39 dX3_next_234 ?_
          refine fr_mem x_u39_3 ?_
          refine fr_aload_n (pc := 237) rfl dX3_next_237 ?_
          refine fr_dup (pc := 238) rfl dX3_next_238 ?_
          refine fr_get (pc := 239) (ci := 2) (T := TX3) (k0 := 2) rfl hin_X3 (by decide) fl_X3_17 (by decide) x_39 rfl dX3_next_239 ?_
          refine fr_iconst (pc := 242) (v := 1) rfl dX3_next_242 ?_
          refine fr_iadd (pc := 243) dX3_next_243 ?_
          refine fr_eq (z := nI (q + 1)) (nI_1 q) ?_
          refine fr_put (pc := 244) (ci := 2) (T := TX3) (k0 := 2) (ty := .int) tyX3 tyX3_ok nmX3 rfl hin_X3 (by decide) fl_X3_17 rfl (by decide +kernel) rfl rfl (Nat.le_of_ble_eq_true rfl) (by decide) x_39 dX3_next_244 ?_
          refine fr_mem x_u39_2 ?_
          refine fr_goto (pc := 247) 255 (by decide) dX3_next_247 ?_
          exact fr_return (pc := 255) rfl (by unfold tk_at; rw [if_pos lq, if_neg g77, if_neg g136, if_pos h229]; rfl) dX3_next_255
      · have g136 := bI_n0 h136
        refine fr_aload_n (pc := 139) rfl dX3_next_139 ?_
        refine fr_iconst (pc := 140) (v := 2) rfl dX3_next_140 ?_
        refine fr_put (pc := 141) (ci := 2) (T := TX3) (k0 := 3) (ty := .int) tyX3 tyX3_ok nmX3 rfl hin_X3 (by decide) fl_X3_20 rfl (by decide +kernel) rfl rfl (Nat.le_of_ble_eq_true rfl) (by decide) x_39 dX3_next_141 ?_
        refine fr_mem x_u39_3 ?_
        refine fr_aload_n (pc := 144) rfl dX3_next_144 ?_
        refine fr_iconst (pc := 145) (v := 0) rfl dX3_next_145 ?_
        refine fr_put (pc := 146) (ci := 2) (T := TX3) (k0 := 5) (ty := .int) tyX3 tyX3_ok nmX3 rfl hin_X3 (by decide) fl_X3_26 rfl (by decide +kernel) rfl rfl (Nat.le_of_ble_eq_true rfl) (by decide) x_39 dX3_next_146 ?_
        refine fr_mem x_u39_5 ?_
        rw [show tk_at b L q n0 = (q, (tk_nm b (L - q) q 0).1, 2, (tk_nm b (L - q) q 0).2) from by unfold tk_at; rw [if_pos lq, if_neg g77, if_pos g136]]
        exact nx_nm hL (L - q) q 0 (by omega)
    · have g77 := bI_n0 h77
      refine fr_aload_n (pc := 80) rfl dX3_next_80 ?_
      refine fr_iconst (pc := 81) (v := 1) rfl dX3_next_81 ?_
      refine fr_put (pc := 82) (ci := 2) (T := TX3) (k0 := 3) (ty := .int) tyX3 tyX3_ok nmX3 rfl hin_X3 (by decide) fl_X3_20 rfl (by decide +kernel) rfl rfl (Nat.le_of_ble_eq_true rfl) (by decide) x_39 dX3_next_82 ?_
      refine fr_mem x_u39_3 ?_
      rw [show tk_at b L q n0 = (q, tk_wd b (L - q) q, 1, n0) from by unfold tk_at; rw [if_pos lq, if_pos g77]]
      exact nx_wd hL (L - q) q (by omega)
  · have lq : ¬ q < L := fun z => h54 (nI_lt z (by omega))
    refine fr_aload_n (pc := 57) rfl dX3_next_57 ?_
    refine fr_iconst (pc := 58) (v := 0) rfl dX3_next_58 ?_
    refine fr_put (pc := 59) (ci := 2) (T := TX3) (k0 := 3) (ty := .int) tyX3 tyX3_ok nmX3 rfl hin_X3 (by decide) fl_X3_20 rfl (by decide +kernel) rfl rfl (Nat.le_of_ble_eq_true rfl) (by decide) x_39 dX3_next_59 ?_
    refine fr_mem x_u39_3 ?_
    refine fr_goto (pc := 62) 255 (by decide) dX3_next_62 ?_
    exact fr_return (pc := 255) rfl (by unfold tk_at; rw [if_neg lq]; rfl) dX3_next_255
set_option maxRecDepth 100000 in
theorem nx_0 {Γ : aG} {l : Launch} {M : Nat → aC} {r rk t : rT} {ik : Int32} {S : sT} {b : Nat → Int32} {L : Nat} {fi : Nat → Int32} (hL : L ≤ 120) {k0 s0 n0 : Int32} : ∀ (k p : Nat), p + k = L → Fr Γ l mX3_next 0 [(0, .ref 39)] [] 54 0 0 (xM M r rk t ik S (b, nI L, nI p, k0, s0, n0) fi) none 54 (xM M r rk t ik S (b, nI L, tJ (tk_at b L (tk_sk b k p) n0)) fi) := by
  intro k
  induction k with
  | zero =>
    intro p hp
    refine fr_aload_n (pc := 0) rfl dX3_next_0 ?_
    refine fr_get (pc := 1) (ci := 2) (T := TX3) (k0 := 2) rfl hin_X3 (by decide) fl_X3_17 (by decide) x_39 rfl dX3_next_1 ?_
    refine fr_aload_n (pc := 4) rfl dX3_next_4 ?_
    refine fr_get (pc := 5) (ci := 2) (T := TX3) (k0 := 1) rfl hin_X3 (by decide) fl_X3_13 (by decide) x_39 rfl dX3_next_5 ?_
    refine fr_icmp_ge (pc := 8) 38 (by decide) dX3_next_8 (fun h8 => ?_) (fun h8 => ?_)
    · exact nx_38 hL (by omega)
    · exact absurd (nI_le (by omega) (by omega)) h8
  | succ k ih =>
    intro p hp
    refine fr_aload_n (pc := 0) rfl dX3_next_0 ?_
    refine fr_get (pc := 1) (ci := 2) (T := TX3) (k0 := 2) rfl hin_X3 (by decide) fl_X3_17 (by decide) x_39 rfl dX3_next_1 ?_
    refine fr_aload_n (pc := 4) rfl dX3_next_4 ?_
    refine fr_get (pc := 5) (ci := 2) (T := TX3) (k0 := 1) rfl hin_X3 (by decide) fl_X3_13 (by decide) x_39 rfl dX3_next_5 ?_
    refine fr_icmp_ge (pc := 8) 38 (by decide) dX3_next_8 (fun h8 => ?_) (fun h8 => ?_)
    · exact absurd h8 (nI_ge (by omega) (by omega))
    · refine fr_aload_n (pc := 11) rfl dX3_next_11 ?_
      refine fr_get (pc := 12) (ci := 2) (T := TX3) (k0 := 0) rfl hin_X3 (by decide) fl_X3_9 (by decide) x_39 rfl dX3_next_12 ?_
      refine fr_aload_n (pc := 15) rfl dX3_next_15 ?_
      refine fr_get (pc := 16) (ci := 2) (T := TX3) (k0 := 2) rfl hin_X3 (by decide) fl_X3_17 (by decide) x_39 rfl dX3_next_16 ?_
      refine fr_iald (pc := 19) p rfl (by decide) x_40 (by first | assumption | omega) (by decide) dX3_next_19 ?_
      refine fr_bipush (pc := 20) (v := 32) rfl dX3_next_20 ?_
      refine fr_icmp_ne (pc := 22) 38 (by decide) dX3_next_22 (fun h22 => ?_) (fun h22 => ?_)
      · rw [show tk_sk b (k + 1) p = p from if_neg h22]
        exact nx_38 hL (by omega)
      · refine fr_aload_n (pc := 25) rfl dX3_next_25 ?_
        refine fr_dup (pc := 26) rfl dX3_next_26 ?_
        refine fr_get (pc := 27) (ci := 2) (T := TX3) (k0 := 2) rfl hin_X3 (by decide) fl_X3_17 (by decide) x_39 rfl dX3_next_27 ?_
        refine fr_iconst (pc := 30) (v := 1) rfl dX3_next_30 ?_
        refine fr_iadd (pc := 31) dX3_next_31 ?_
        refine fr_eq (z := nI (p + 1)) (nI_1 p) ?_
        refine fr_put (pc := 32) (ci := 2) (T := TX3) (k0 := 2) (ty := .int) tyX3 tyX3_ok nmX3 rfl hin_X3 (by decide) fl_X3_17 rfl (by decide +kernel) rfl rfl (Nat.le_of_ble_eq_true rfl) (by decide) x_39 dX3_next_32 ?_
        refine fr_mem x_u39_2 ?_
        refine fr_goto (pc := 35) 0 (by decide) dX3_next_35 ?_
        rw [show tk_sk b (k + 1) p = tk_sk b k (p + 1) from if_pos h22]
        exact ih (p + 1) (by omega)
theorem c_next {Γ : aG} {l : Launch} {M : Nat → aC} {r rk t : rT} {ik : Int32} {S : sT} {b : Nat → Int32} {L : Nat} {fi : Nat → Int32} (hL : L ≤ 120) {k0 s0 n0 : Int32} {p : Nat} (hp : p ≤ L) : Ev Γ l mX3_next [.ref 39] 54 (xM M r rk t ik S (b, nI L, nI p, k0, s0, n0) fi) none 54 (xM M r rk t ik S (b, nI L, tJ (tkn b L p n0)) fi) := Ev.of [(0, .ref 39)] (by decide) (Nat.le_of_ble_eq_true rfl) rfl (nx_0 hL (L - p) p (by omega))
