theorem tw_x {b : Nat → Int32} {L : Nat} {T : tk} (h : tw L T) : tw L (nxC b L T) := (tw_n h.2.1).1
theorem c_nx {Γ : aG} {l : Launch} {M : Nat → aC} {r rk t : rT} {ik : Int32} {S : sT} {b : Nat → Int32} {L : Nat} {fi : Nat → Int32} {T : tk} (hL : L ≤ 120) (hT : tw L T) : Ev Γ l mX3_next [.ref 39] 54 (xM M r rk t ik S (b, nI L, nI T.2.1, nI T.2.2.1, nI T.1, T.2.2.2) fi) none 54 (xM M r rk t ik S (b, nI L, nI (nxC b L T).2.1, nI (nxC b L T).2.2.1, nI (nxC b L T).1, (nxC b L T).2.2.2) fi) := c_next hL hT.2.1
set_option maxRecDepth 100000 in
theorem iw_loop {Γ : aG} {l : Launch} {M : Nat → aC} {r rk t : rT} {ik : Int32} {S : sT} {b : Nat → Int32} {L : Nat} {fi : Nat → Int32} {T : tk} (hL : L ≤ 120) (hT : tw L T) {k0 : Nat} (hk0 : k0 < 26) (hw : T.1 + (a_ss k0).2.2.2.length ≤ L) : ∀ (k i : Nat), i + k = (a_ss k0).2.2.2.length → Fr Γ l mX3_isWord 28 [(0, .ref 39), (1, .ref (2000 + k0)), (2, .int (nI i))] [] 54 0 0 (xM M r rk t ik S (b, nI L, nI T.2.1, nI T.2.2.1, nI T.1, T.2.2.2) fi) (some (.int (bI (tk_eq b T.1 (a_ss k0).2.2.2 k i = true)))) 54 (xM M r rk t ik S (b, nI L, nI T.2.1, nI T.2.2.1, nI T.1, T.2.2.2) fi) := by
  have hs := (ss_all k0 hk0).1
  intro k
  induction k with
  | zero =>
    intro i hi
    refine fr_iload_n (pc := 28) rfl dX3_isWord_28 ?_
    refine fr_aload_n (pc := 29) rfl dX3_isWord_29 ?_
    refine fr_callK (pc := 30) [] [.int (nI i)] (k0 := k0) (by first | assumption | decide) (c_slength (by first | assumption | decide)) gc_X3_124 rfl rfl rfl ⟨rfl, rfl, by decide, by decide⟩ (Nat.le_of_ble_eq_true rfl) ⟨by decide, by decide⟩ dX3_isWord_30 ?_
    refine fr_icmp_ge (pc := 33) 63 (by decide) dX3_isWord_33 (fun h33 => ?_) (fun h33 => ?_)
    · refine fr_iconst (pc := 63) (v := 1) rfl dX3_isWord_63 ?_
      exact fr_ireturn (pc := 64) rfl (bI_t rfl).symm rfl rfl dX3_isWord_64
    · exact absurd (nI_le (by omega) (by omega)) h33
  | succ k ih =>
    intro i hi
    refine fr_iload_n (pc := 28) rfl dX3_isWord_28 ?_
    refine fr_aload_n (pc := 29) rfl dX3_isWord_29 ?_
    refine fr_callK (pc := 30) [] [.int (nI i)] (k0 := k0) (by first | assumption | decide) (c_slength (by first | assumption | decide)) gc_X3_124 rfl rfl rfl ⟨rfl, rfl, by decide, by decide⟩ (Nat.le_of_ble_eq_true rfl) ⟨by decide, by decide⟩ dX3_isWord_30 ?_
    refine fr_icmp_ge (pc := 33) 63 (by decide) dX3_isWord_33 (fun h33 => ?_) (fun h33 => ?_)
    · exact absurd h33 (nI_ge (by omega) (by omega))
    · refine fr_aload_n (pc := 36) rfl dX3_isWord_36 ?_
      refine fr_get (pc := 37) (ci := 2) (T := TX3) (k0 := 0) rfl hin_X3 (by decide) fl_X3_9 (by decide) x_39 rfl dX3_isWord_37 ?_
      refine fr_aload_n (pc := 40) rfl dX3_isWord_40 ?_
      refine fr_get (pc := 41) (ci := 2) (T := TX3) (k0 := 4) rfl hin_X3 (by decide) fl_X3_23 (by decide) x_39 rfl dX3_isWord_41 ?_
      refine fr_iload_n (pc := 44) rfl dX3_isWord_44 ?_
      refine fr_iadd (pc := 45) dX3_isWord_45 ?_
      refine fr_eq (z := nI (T.1 + i)) (nI_add _ _) ?_
      refine fr_iald (pc := 46) (T.1 + i) rfl (by decide) x_40 (by omega) (by decide) dX3_isWord_46 ?_
      refine fr_aload_n (pc := 47) rfl dX3_isWord_47 ?_
      refine fr_iload_n (pc := 48) rfl dX3_isWord_48 ?_
      refine fr_callK (pc := 49) [.int (nI i)] [.int (b (T.1 + i))] (k0 := k0) (by first | assumption | decide) (c_charAt (by first | assumption | decide) (by omega)) gc_X3_128 rfl rfl rfl ⟨rfl, rfl, by decide, by decide⟩ (Nat.le_of_ble_eq_true rfl) ⟨by decide, by decide⟩ dX3_isWord_49 ?_
      refine fr_icmp_eq (pc := 52) 57 (by decide) dX3_isWord_52 (fun h52 => ?_) (fun h52 => ?_)
      · refine fr_iinc (pc := 57) (v := nI (i + 1)) [(2, .int (nI (i + 1))), (0, .ref 39), (1, .ref (2000 + k0))] rfl (nI_1 i) (by decide) rfl dX3_isWord_57 ?_
        refine fr_goto (pc := 60) 28 (by decide) dX3_isWord_60 ?_
        rw [show tk_eq b T.1 (a_ss k0).2.2.2 (k + 1) i = tk_eq b T.1 (a_ss k0).2.2.2 k (i + 1) from if_pos h52]
        exact fr_sub [1, 2, 0] rfl (ih (i + 1) (by omega))
      · refine fr_iconst (pc := 55) (v := 0) rfl dX3_isWord_55 ?_
        exact fr_ireturn (pc := 56) rfl (by rw [show tk_eq b T.1 (a_ss k0).2.2.2 (k + 1) i = false from if_neg h52]; rfl) rfl rfl dX3_isWord_56
set_option maxRecDepth 100000 in
theorem c_X3_isWord {Γ : aG} {l : Launch} {M : Nat → aC} {r rk t : rT} {ik : Int32} {S : sT} {b : Nat → Int32} {L : Nat} {fi : Nat → Int32} {T : tk} (hL : L ≤ 120) (hT : tw L T) {k0 : Nat} (hk0 : k0 < 26)  : Ev Γ l mX3_isWord [.ref 39, .ref (2000 + k0)] 54 (xM M r rk t ik S (b, nI L, nI T.2.1, nI T.2.2.1, nI T.1, T.2.2.2) fi) (some (.int (bI (tk_is b T (a_ss k0).2.2.2 = true)))) 54 (xM M r rk t ik S (b, nI L, nI T.2.1, nI T.2.2.1, nI T.1, T.2.2.2) fi) := by
  refine Ev.of [(0, .ref 39), (1, .ref (2000 + k0))] (by decide) (Nat.le_of_ble_eq_true rfl) rfl ?_
  refine fr_aload_n (pc := 0) rfl dX3_isWord_0 ?_
  refine fr_get (pc := 1) (ci := 2) (T := TX3) (k0 := 3) rfl hin_X3 (by decide) fl_X3_20 (by decide) x_39 rfl dX3_isWord_1 ?_
  refine fr_iconst (pc := 4) (v := 1) rfl dX3_isWord_4 ?_
  refine fr_icmp_ne (pc := 5) 24 (by decide) dX3_isWord_5 (fun h5 => ?_) (fun h5 => ?_)
  · refine fr_iconst (pc := 24) (v := 0) rfl dX3_isWord_24 ?_
    exact fr_ireturn (pc := 25) rfl (bI_f (by rw [show tk_is b T (a_ss k0).2.2.2 = false from if_neg (fun z => h5 (by rw [z.1]; rfl))]; decide)).symm rfl rfl dX3_isWord_25
  · refine fr_aload_n (pc := 8) rfl dX3_isWord_8 ?_
    refine fr_get (pc := 9) (ci := 2) (T := TX3) (k0 := 2) rfl hin_X3 (by decide) fl_X3_17 (by decide) x_39 rfl dX3_isWord_9 ?_
    refine fr_aload_n (pc := 12) rfl dX3_isWord_12 ?_
    refine fr_get (pc := 13) (ci := 2) (T := TX3) (k0 := 4) rfl hin_X3 (by decide) fl_X3_23 (by decide) x_39 rfl dX3_isWord_13 ?_
    refine fr_isub (pc := 16) dX3_isWord_16 ?_
    refine fr_eq (z := nI (T.2.1 - T.1)) (pk_sub hT.1) ?_
    refine fr_aload_n (pc := 17) rfl dX3_isWord_17 ?_
    refine fr_callK (pc := 18) [] [.int (nI (T.2.1 - T.1))] (k0 := k0) (by first | assumption | decide) (c_slength (by first | assumption | decide)) gc_X3_124 rfl rfl rfl ⟨rfl, rfl, by decide, by decide⟩ (Nat.le_of_ble_eq_true rfl) ⟨by decide, by decide⟩ dX3_isWord_18 ?_
    refine fr_icmp_eq (pc := 21) 26 (by decide) dX3_isWord_21 (fun h21 => ?_) (fun h21 => ?_)
    · have e5 : T.2.2.1 = 1 := (nI_eq (b := 1) (by have := hT.2.2; omega) (by decide)).mp h5
      have hs := (ss_all k0 hk0).1
      have e21 : T.2.1 - T.1 = (a_ss k0).2.2.2.length := (nI_eq (by have := hT.2.1; omega) (by omega)).mp h21
      have hw : T.1 + (a_ss k0).2.2.2.length ≤ L := by have h1 := hT.1; have h2 := hT.2.1; omega
      refine fr_iconst (pc := 26) (v := 0) rfl dX3_isWord_26 ?_
      refine fr_istore_n (pc := 27) [(2, .int 0), (0, .ref 39), (1, .ref (2000 + k0))] (by decide) rfl dX3_isWord_27 ?_
      rw [show tk_is b T (a_ss k0).2.2.2 = tk_eq b T.1 (a_ss k0).2.2.2 (a_ss k0).2.2.2.length 0 from if_pos ⟨e5, e21⟩]
      exact fr_sub [1, 2, 0] rfl (iw_loop hL hT hk0 hw _ 0 (by omega))
    · refine fr_iconst (pc := 24) (v := 0) rfl dX3_isWord_24 ?_
      exact fr_ireturn (pc := 25) rfl (bI_f (by rw [show tk_is b T (a_ss k0).2.2.2 = false from if_neg (fun z => h21 (by rw [z.2]))]; decide)).symm rfl rfl dX3_isWord_25
theorem wo_k {k : Nat} (hk : k < 7) (c : Nat) (hc : c < 7) (hc0 : ¬ c = 0) (h : nI k = nI c) : 2000 + (c - 1) = 2000 + wk k := by
  have e : k = c := (nI_eq (by omega) (by omega)).mp h
  rw [e]
  unfold wk
  rw [if_neg hc0]
theorem wo_d {k : Nat} (hk : k < 7) (h1 : ¬ nI k = 1) (h2 : ¬ nI k = 2) (h3 : ¬ nI k = 3) (h4 : ¬ nI k = 4) (h5 : ¬ nI k = 5) (h6 : ¬ nI k = 6) : 2006 = 2000 + wk k := by
  rcases (show k = 0 ∨ k = 1 ∨ k = 2 ∨ k = 3 ∨ k = 4 ∨ k = 5 ∨ k = 6 by omega) with rfl | rfl | rfl | rfl | rfl | rfl | rfl
  · rfl
  · exact absurd rfl h1
  · exact absurd rfl h2
  · exact absurd rfl h3
  · exact absurd rfl h4
  · exact absurd rfl h5
  · exact absurd rfl h6
theorem wk_lt {k : Nat} (hk : k < 7) : wk k < 26 := by unfold wk; split <;> omega
set_option maxRecDepth 100000 in
theorem c_X3_wordOf {Γ : aG} {l : Launch} {M : Nat → aC} {k : Nat} (hk : k < 7)  : Ev Γ l mX3_wordOf [.int (nI k)] 54 M (some (.ref (2000 + wk k))) 54 M := by
  refine Ev.of [(0, .int (nI k))] (by decide) (Nat.le_of_ble_eq_true rfl) rfl ?_
  refine fr_iload_n (pc := 0) rfl dX3_wordOf_0 ?_
  by_cases hk1_1 : (nI k) = 1
  · refine fr_tIn (pc := 1) 40 (by rw [hk1_1]; decide) (by rw [hk1_1]; decide) (by rw [hk1_1]; rfl) (by decide) dX3_wordOf_1 ?_
    refine fr_ldcS (pc := 40) (k0 := 0) (by decide) rfl rfl dX3_wordOf_40 ?_
    exact fr_areturnE (pc := 42) rfl (Or.inl ⟨_, rfl⟩) (wo_k hk 1 (by decide) (by decide) hk1_1) rfl dX3_wordOf_42
  by_cases hk1_2 : (nI k) = 2
  · refine fr_tIn (pc := 1) 43 (by rw [hk1_2]; decide) (by rw [hk1_2]; decide) (by rw [hk1_2]; rfl) (by decide) dX3_wordOf_1 ?_
    refine fr_ldcS (pc := 43) (k0 := 1) (by decide) rfl rfl dX3_wordOf_43 ?_
    exact fr_areturnE (pc := 45) rfl (Or.inl ⟨_, rfl⟩) (wo_k hk 2 (by decide) (by decide) hk1_2) rfl dX3_wordOf_45
  by_cases hk1_3 : (nI k) = 3
  · refine fr_tIn (pc := 1) 46 (by rw [hk1_3]; decide) (by rw [hk1_3]; decide) (by rw [hk1_3]; rfl) (by decide) dX3_wordOf_1 ?_
    refine fr_ldcS (pc := 46) (k0 := 2) (by decide) rfl rfl dX3_wordOf_46 ?_
    exact fr_areturnE (pc := 48) rfl (Or.inl ⟨_, rfl⟩) (wo_k hk 3 (by decide) (by decide) hk1_3) rfl dX3_wordOf_48
  by_cases hk1_4 : (nI k) = 4
  · refine fr_tIn (pc := 1) 49 (by rw [hk1_4]; decide) (by rw [hk1_4]; decide) (by rw [hk1_4]; rfl) (by decide) dX3_wordOf_1 ?_
    refine fr_ldcS (pc := 49) (k0 := 3) (by decide) rfl rfl dX3_wordOf_49 ?_
    exact fr_areturnE (pc := 51) rfl (Or.inl ⟨_, rfl⟩) (wo_k hk 4 (by decide) (by decide) hk1_4) rfl dX3_wordOf_51
  by_cases hk1_5 : (nI k) = 5
  · refine fr_tIn (pc := 1) 52 (by rw [hk1_5]; decide) (by rw [hk1_5]; decide) (by rw [hk1_5]; rfl) (by decide) dX3_wordOf_1 ?_
    refine fr_ldcS (pc := 52) (k0 := 4) (by decide) rfl rfl dX3_wordOf_52 ?_
    exact fr_areturnE (pc := 54) rfl (Or.inl ⟨_, rfl⟩) (wo_k hk 5 (by decide) (by decide) hk1_5) rfl dX3_wordOf_54
  by_cases hk1_6 : (nI k) = 6
  · refine fr_tIn (pc := 1) 55 (by rw [hk1_6]; decide) (by rw [hk1_6]; decide) (by rw [hk1_6]; rfl) (by decide) dX3_wordOf_1 ?_
    refine fr_ldcS (pc := 55) (k0 := 5) (by decide) rfl rfl dX3_wordOf_55 ?_
    exact fr_areturnE (pc := 57) rfl (Or.inl ⟨_, rfl⟩) (wo_k hk 6 (by decide) (by decide) hk1_6) rfl dX3_wordOf_57
  refine fr_tOut (pc := 1) 58 (sw_1_6 hk1_1 hk1_2 hk1_3 hk1_4 hk1_5 hk1_6) (by decide) dX3_wordOf_1 ?_
  refine fr_ldcS (pc := 58) (k0 := 6) (by decide) rfl rfl dX3_wordOf_58 ?_
  exact fr_areturnE (pc := 60) rfl (Or.inl ⟨_, rfl⟩) (wo_d hk hk1_1 hk1_2 hk1_3 hk1_4 hk1_5 hk1_6) rfl dX3_wordOf_60
set_option maxRecDepth 100000 in
theorem kt_loop {Γ : aG} {l : Launch} {M : Nat → aC} {r rk t : rT} {ik : Int32} {S : sT} {b : Nat → Int32} {L : Nat} {fi : Nat → Int32} {T : tk} (hL : L ≤ 120) (hT : tw L T) : ∀ (j k : Nat), k + j = 7 → Fr Γ l mX3_kindTold 2 [(0, .ref 39), (1, .int (nI k))] [] 54 0 0 (xM M r rk t ik S (b, nI L, nI T.2.1, nI T.2.2.1, nI T.1, T.2.2.2) fi) (some (.int (s_kt b T j k))) 54 (xM M r rk t ik S (b, nI L, nI T.2.1, nI T.2.2.1, nI T.1, T.2.2.2) fi) := by
  intro j
  induction j with
  | zero =>
    intro k hk
    refine fr_iload_n (pc := 2) rfl dX3_kindTold_2 ?_
    refine fr_bipush (pc := 3) (v := 7) rfl dX3_kindTold_3 ?_
    refine fr_icmp_ge (pc := 5) 27 (by decide) dX3_kindTold_5 (fun h5 => ?_) (fun h5 => ?_)
    · refine fr_iconst (pc := 27) (v := (-1)) rfl dX3_kindTold_27 ?_
      exact fr_ireturn (pc := 28) rfl rfl rfl rfl dX3_kindTold_28
    · exact absurd (nI_le (a := 7) (b := k) (by omega) (by omega)) h5
  | succ j ih =>
    intro k hk
    refine fr_iload_n (pc := 2) rfl dX3_kindTold_2 ?_
    refine fr_bipush (pc := 3) (v := 7) rfl dX3_kindTold_3 ?_
    refine fr_icmp_ge (pc := 5) 27 (by decide) dX3_kindTold_5 (fun h5 => ?_) (fun h5 => ?_)
    · exact absurd h5 (nI_ge (a := k) (b := 7) (by omega) (by omega))
    · refine fr_aload_n (pc := 8) rfl dX3_kindTold_8 ?_
      refine fr_iload_n (pc := 9) rfl dX3_kindTold_9 ?_
      refine fr_callS0 (pc := 10) [.int (nI k)] [.ref 39] (c_X3_wordOf (by omega)) gc_X3_106 rfl rfl ⟨rfl, rfl, by decide, by decide⟩ (Nat.le_of_ble_eq_true rfl) ⟨by decide, by decide⟩ dX3_kindTold_10 ?_
      refine fr_callV0 (pc := 13) (ci := 2) (T := TX3) (N := 6) [.ref (2000 + (wk k))] [] (c_X3_isWord hL hT (wk_lt (by omega))) gc_X3_50 rfl rfl ⟨rfl, rfl, by decide, by decide⟩ (Nat.le_of_ble_eq_true rfl) rfl (by decide) x_39 ⟨by decide, by decide⟩ dX3_kindTold_13 ?_
      refine fr_if_eq (pc := 16) 21 (by decide) dX3_kindTold_16 (fun h16 => ?_) (fun h16 => ?_)
      · have g16 := bI_0.mp h16
        refine fr_iinc (pc := 21) (v := nI (k + 1)) [(1, .int (nI (k + 1))), (0, .ref 39)] rfl (nI_1 k) (by decide) rfl dX3_kindTold_21 ?_
        refine fr_goto (pc := 24) 2 (by decide) dX3_kindTold_24 ?_
        rw [show s_kt b T (j + 1) k = s_kt b T j (k + 1) from if_neg g16]
        exact fr_sub [1, 0] rfl (ih (k + 1) (by omega))
      · have g16 := bI_n0 h16
        refine fr_iload_n (pc := 19) rfl dX3_kindTold_19 ?_
        exact fr_ireturn (pc := 20) rfl (if_pos g16).symm rfl rfl dX3_kindTold_20
set_option maxRecDepth 100000 in
theorem c_X3_kindTold {Γ : aG} {l : Launch} {M : Nat → aC} {r rk t : rT} {ik : Int32} {S : sT} {b : Nat → Int32} {L : Nat} {fi : Nat → Int32} {T : tk} (hL : L ≤ 120) (hT : tw L T)  : Ev Γ l mX3_kindTold [.ref 39] 54 (xM M r rk t ik S (b, nI L, nI T.2.1, nI T.2.2.1, nI T.1, T.2.2.2) fi) (some (.int (s_kt b T 7 0))) 54 (xM M r rk t ik S (b, nI L, nI T.2.1, nI T.2.2.1, nI T.1, T.2.2.2) fi) := by
  refine Ev.of [(0, .ref 39)] (by decide) (Nat.le_of_ble_eq_true rfl) rfl ?_
  refine fr_iconst (pc := 0) (v := 0) rfl dX3_kindTold_0 ?_
  refine fr_istore_n (pc := 1) [(1, .int 0), (0, .ref 39)] (by decide) rfl dX3_kindTold_1 ?_
  exact fr_sub [1, 0] rfl (kt_loop hL hT 7 0 rfl)
set_option maxRecDepth 100000 in
theorem c_X3_takeNumber {Γ : aG} {l : Launch} {M : Nat → aC} {r rk t : rT} {ik : Int32} {S : sT} {b : Nat → Int32} {L : Nat} {fi : Nat → Int32} {T : tk} (hT : tw L T) {lo hi : Int32}  : Ev Γ l mX3_takeNumber [.ref 39, .int lo, .int hi] 54 (xM M r rk t ik S (b, nI L, nI T.2.1, nI T.2.2.1, nI T.1, T.2.2.2) fi) (some (.int (bI (tk_num T lo hi = true)))) 54 (xM M r rk t ik S (b, nI L, nI T.2.1, nI T.2.2.1, nI T.1, T.2.2.2) fi) := by
  refine Ev.of [(0, .ref 39), (1, .int lo), (2, .int hi)] (by decide) (Nat.le_of_ble_eq_true rfl) rfl ?_
  refine fr_aload_n (pc := 0) rfl dX3_takeNumber_0 ?_
  refine fr_get (pc := 1) (ci := 2) (T := TX3) (k0 := 3) rfl hin_X3 (by decide) fl_X3_20 (by decide) x_39 rfl dX3_takeNumber_1 ?_
  refine fr_iconst (pc := 4) (v := 2) rfl dX3_takeNumber_4 ?_
  refine fr_icmp_ne (pc := 5) 28 (by decide) dX3_takeNumber_5 (fun h5 => ?_) (fun h5 => ?_)
  · refine fr_iconst (pc := 28) (v := 0) rfl dX3_takeNumber_28 ?_
    exact fr_ireturn (pc := 29) rfl (bI_f (by rw [show tk_num T lo hi = false from if_neg (fun z => h5 (by rw [z]; rfl))]; decide)).symm rfl rfl dX3_takeNumber_29
  · refine fr_aload_n (pc := 8) rfl dX3_takeNumber_8 ?_
    refine fr_get (pc := 9) (ci := 2) (T := TX3) (k0 := 5) rfl hin_X3 (by decide) fl_X3_26 (by decide) x_39 rfl dX3_takeNumber_9 ?_
    refine fr_iload_n (pc := 12) rfl dX3_takeNumber_12 ?_
    refine fr_icmp_lt (pc := 13) 28 (by decide) dX3_takeNumber_13 (fun h13 => ?_) (fun h13 => ?_)
    · refine fr_iconst (pc := 28) (v := 0) rfl dX3_takeNumber_28 ?_
      exact fr_ireturn (pc := 29) rfl (bI_f (by rw [show tk_num T lo hi = wi T.2.2.2 lo hi from if_pos ((nI_eq (b := 2) (by have := hT.2.2; omega) (by decide)).mp h5)]; exact fun z => (of_decide_eq_true z).1 h13)).symm rfl rfl dX3_takeNumber_29
    · refine fr_aload_n (pc := 16) rfl dX3_takeNumber_16 ?_
      refine fr_get (pc := 17) (ci := 2) (T := TX3) (k0 := 5) rfl hin_X3 (by decide) fl_X3_26 (by decide) x_39 rfl dX3_takeNumber_17 ?_
      refine fr_iload_n (pc := 20) rfl dX3_takeNumber_20 ?_
      refine fr_icmp_gt (pc := 21) 28 (by decide) dX3_takeNumber_21 (fun h21 => ?_) (fun h21 => ?_)
      · refine fr_iconst (pc := 28) (v := 0) rfl dX3_takeNumber_28 ?_
        exact fr_ireturn (pc := 29) rfl (bI_f (by rw [show tk_num T lo hi = wi T.2.2.2 lo hi from if_pos ((nI_eq (b := 2) (by have := hT.2.2; omega) (by decide)).mp h5)]; exact fun z => (of_decide_eq_true z).2 h21)).symm rfl rfl dX3_takeNumber_29
      · refine fr_iconst (pc := 24) (v := 1) rfl dX3_takeNumber_24 ?_
        refine fr_goto (pc := 25) 29 (by decide) dX3_takeNumber_25 ?_
        exact fr_ireturn (pc := 29) rfl (bI_t (by rw [show tk_num T lo hi = wi T.2.2.2 lo hi from if_pos ((nI_eq (b := 2) (by have := hT.2.2; omega) (by decide)).mp h5)]; exact decide_eq_true ⟨h13, h21⟩)).symm rfl rfl dX3_takeNumber_29
theorem tk_nI {T : tk} {N : Nat} (hN : N < 1000) (h : tk_num T 0 (nI N - 1) = true) : T.2.2.2 = nI (T.2.2.2.toNatClampNeg) ∧ T.2.2.2.toNatClampNeg < N := by
  unfold tk_num at h
  split at h
  · have h := of_decide_eq_true h
    obtain ⟨j, hj, e⟩ := nI_of h.1
    rw [e]
    rw [nI_clamp hj]
    refine ⟨rfl, ?_⟩
    rw [e] at h
    cases N with
    | zero => exact absurd (Int32.lt_of_lt_of_le (show nI 0 - 1 < 0 by decide) (Int32.not_lt.mp h.1)) h.2
    | succ n =>
      rw [nI_pred] at h
      rcases Nat.lt_or_ge j (n + 1) with q | q
      · exact q
      · exact absurd (nI_lt (show n < j by omega) hj) h.2
  · cases h
set_option maxRecDepth 100000 in
theorem c_X3_readPair0 {Γ : aG} {l : Launch} {M : Nat → aC} {r rk t : rT} {ik : Int32} {S : sT} {b : Nat → Int32} {L : Nat} {fi : Nat → Int32} {T : tk} (hL : L ≤ 120) (hT : tw L T) {lo hi : Int32}  : Ev Γ l mX3_readPair [.ref 39, .ref 22, .int lo, .int hi] 54 (xM M r rk t ik S (b, nI L, nI T.2.1, nI T.2.2.1, nI T.1, T.2.2.2) fi) (some (.int (bI ((p_pair (nxC b L) 0 16 lo hi T t).1 = true)))) 54 (xM M r rk ((p_pair (nxC b L) 0 16 lo hi T t).2.2) ik S (b, nI L, nI (p_pair (nxC b L) 0 16 lo hi T t).2.1.2.1, nI (p_pair (nxC b L) 0 16 lo hi T t).2.1.2.2.1, nI (p_pair (nxC b L) 0 16 lo hi T t).2.1.1, (p_pair (nxC b L) 0 16 lo hi T t).2.1.2.2.2) fi) := by
  refine Ev.of [(0, .ref 39), (1, .ref 22), (2, .int lo), (3, .int hi)] (by decide) (Nat.le_of_ble_eq_true rfl) rfl ?_
  refine fr_aload_n (pc := 0) rfl dX3_readPair_0 ?_
  refine fr_callV0 (pc := 1) (ci := 2) (T := TX3) (N := 6) [] [] (c_nx hL hT) gc_X3_33 rfl rfl ⟨rfl, rfl, by decide, by decide⟩ (Nat.le_of_ble_eq_true rfl) rfl (by decide) x_39 ⟨by decide, by decide⟩ dX3_readPair_1 ?_
  refine fr_aload_n (pc := 4) rfl dX3_readPair_4 ?_
  refine fr_iconst (pc := 5) (v := 0) rfl dX3_readPair_5 ?_
  refine fr_aload_n (pc := 6) rfl dX3_readPair_6 ?_
  refine fr_alen (pc := 7) (by decide) x_t1 dX3_readPair_7 ?_
  refine fr_iconst (pc := 8) (v := 1) rfl dX3_readPair_8 ?_
  refine fr_isub (pc := 9) dX3_readPair_9 ?_
  refine fr_callV0 (pc := 10) (ci := 2) (T := TX3) (N := 6) [.int 0, .int ((nI 16) - 1)] [] (c_X3_takeNumber (tw_x hT)) gc_X3_75 rfl rfl ⟨rfl, rfl, by decide, by decide⟩ (Nat.le_of_ble_eq_true rfl) rfl (by decide) x_39 ⟨by decide, by decide⟩ dX3_readPair_10 ?_
  refine fr_if_ne (pc := 13) 18 (by decide) dX3_readPair_13 (fun h13 => ?_) (fun h13 => ?_)
  · have g13 := bI_n0 h13
    have hq := tk_nI (by decide) g13
    refine fr_aload_n (pc := 18) rfl dX3_readPair_18 ?_
    refine fr_get (pc := 19) (ci := 2) (T := TX3) (k0 := 5) rfl hin_X3 (by decide) fl_X3_26 (by decide) x_39 rfl dX3_readPair_19 ?_
    refine fr_eq (z := nI ((nxC b L T).2.2.2.toNatClampNeg)) hq.1 ?_
    refine fr_istore (pc := 22) [(4, .int (nI ((nxC b L T).2.2.2.toNatClampNeg))), (0, .ref 39), (1, .ref 22), (2, .int lo), (3, .int hi)] (by decide) rfl dX3_readPair_22 ?_
    refine fr_aload_n (pc := 24) rfl dX3_readPair_24 ?_
    refine fr_callV0 (pc := 25) (ci := 2) (T := TX3) (N := 6) [] [] (c_nx hL (tw_x hT)) gc_X3_33 rfl rfl ⟨rfl, rfl, by decide, by decide⟩ (Nat.le_of_ble_eq_true rfl) rfl (by decide) x_39 ⟨by decide, by decide⟩ dX3_readPair_25 ?_
    refine fr_aload_n (pc := 28) rfl dX3_readPair_28 ?_
    refine fr_iload_n (pc := 29) rfl dX3_readPair_29 ?_
    refine fr_iload_n (pc := 30) rfl dX3_readPair_30 ?_
    refine fr_callV0 (pc := 31) (ci := 2) (T := TX3) (N := 6) [.int lo, .int hi] [] (c_X3_takeNumber (tw_x (tw_x hT))) gc_X3_75 rfl rfl ⟨rfl, rfl, by decide, by decide⟩ (Nat.le_of_ble_eq_true rfl) rfl (by decide) x_39 ⟨by decide, by decide⟩ dX3_readPair_31 ?_
    refine fr_if_ne (pc := 34) 39 (by decide) dX3_readPair_34 (fun h34 => ?_) (fun h34 => ?_)
    · have g34 := bI_n0 h34
      rw [show (p_pair (nxC b L) 0 16 lo hi T t) = (true, (nxC b L (nxC b L (nxC b L T))), u2 t 0 ((nxC b L T).2.2.2.toNatClampNeg) (nxC b L (nxC b L T)).2.2.2) from (if_pos g13).trans (if_pos g34)]
      refine fr_aload_n (pc := 39) rfl dX3_readPair_39 ?_
      refine fr_iload (pc := 40) rfl dX3_readPair_40 ?_
      refine fr_aload_n (pc := 42) rfl dX3_readPair_42 ?_
      refine fr_get (pc := 43) (ci := 2) (T := TX3) (k0 := 5) rfl hin_X3 (by decide) fl_X3_26 (by decide) x_39 rfl dX3_readPair_43 ?_
      refine fr_iast (pc := 46) ((nxC b L T).2.2.2.toNatClampNeg) rfl (by decide) x_t1 hq.2 (by decide) dX3_readPair_46 ?_
      refine fr_mem x_ta0 ?_
      refine fr_aload_n (pc := 47) rfl dX3_readPair_47 ?_
      refine fr_callV0 (pc := 48) (ci := 2) (T := TX3) (N := 6) [] [] (c_nx hL (tw_x (tw_x hT))) gc_X3_33 rfl rfl ⟨rfl, rfl, by decide, by decide⟩ (Nat.le_of_ble_eq_true rfl) rfl (by decide) x_39 ⟨by decide, by decide⟩ dX3_readPair_48 ?_
      refine fr_iconst (pc := 51) (v := 1) rfl dX3_readPair_51 ?_
      exact fr_ireturn (pc := 52) rfl rfl rfl rfl dX3_readPair_52
    · have g34 := bI_0.mp h34
      rw [show (p_pair (nxC b L) 0 16 lo hi T t) = (false, (nxC b L (nxC b L T)), t) from (if_pos g13).trans (if_neg g34)]
      refine fr_iconst (pc := 37) (v := 0) rfl dX3_readPair_37 ?_
      exact fr_ireturn (pc := 38) rfl rfl rfl rfl dX3_readPair_38
  · have g13 := bI_0.mp h13
    rw [show (p_pair (nxC b L) 0 16 lo hi T t) = (false, (nxC b L T), t) from if_neg g13]
    refine fr_iconst (pc := 16) (v := 0) rfl dX3_readPair_16 ?_
    exact fr_ireturn (pc := 17) rfl rfl rfl rfl dX3_readPair_17
set_option maxRecDepth 100000 in
theorem c_X3_readPair1 {Γ : aG} {l : Launch} {M : Nat → aC} {r rk t : rT} {ik : Int32} {S : sT} {b : Nat → Int32} {L : Nat} {fi : Nat → Int32} {T : tk} (hL : L ≤ 120) (hT : tw L T) {lo hi : Int32}  : Ev Γ l mX3_readPair [.ref 39, .ref 23, .int lo, .int hi] 54 (xM M r rk t ik S (b, nI L, nI T.2.1, nI T.2.2.1, nI T.1, T.2.2.2) fi) (some (.int (bI ((p_pair (nxC b L) 1 6 lo hi T t).1 = true)))) 54 (xM M r rk ((p_pair (nxC b L) 1 6 lo hi T t).2.2) ik S (b, nI L, nI (p_pair (nxC b L) 1 6 lo hi T t).2.1.2.1, nI (p_pair (nxC b L) 1 6 lo hi T t).2.1.2.2.1, nI (p_pair (nxC b L) 1 6 lo hi T t).2.1.1, (p_pair (nxC b L) 1 6 lo hi T t).2.1.2.2.2) fi) := by
  refine Ev.of [(0, .ref 39), (1, .ref 23), (2, .int lo), (3, .int hi)] (by decide) (Nat.le_of_ble_eq_true rfl) rfl ?_
  refine fr_aload_n (pc := 0) rfl dX3_readPair_0 ?_
  refine fr_callV0 (pc := 1) (ci := 2) (T := TX3) (N := 6) [] [] (c_nx hL hT) gc_X3_33 rfl rfl ⟨rfl, rfl, by decide, by decide⟩ (Nat.le_of_ble_eq_true rfl) rfl (by decide) x_39 ⟨by decide, by decide⟩ dX3_readPair_1 ?_
  refine fr_aload_n (pc := 4) rfl dX3_readPair_4 ?_
  refine fr_iconst (pc := 5) (v := 0) rfl dX3_readPair_5 ?_
  refine fr_aload_n (pc := 6) rfl dX3_readPair_6 ?_
  refine fr_alen (pc := 7) (by decide) x_t2 dX3_readPair_7 ?_
  refine fr_iconst (pc := 8) (v := 1) rfl dX3_readPair_8 ?_
  refine fr_isub (pc := 9) dX3_readPair_9 ?_
  refine fr_callV0 (pc := 10) (ci := 2) (T := TX3) (N := 6) [.int 0, .int ((nI 6) - 1)] [] (c_X3_takeNumber (tw_x hT)) gc_X3_75 rfl rfl ⟨rfl, rfl, by decide, by decide⟩ (Nat.le_of_ble_eq_true rfl) rfl (by decide) x_39 ⟨by decide, by decide⟩ dX3_readPair_10 ?_
  refine fr_if_ne (pc := 13) 18 (by decide) dX3_readPair_13 (fun h13 => ?_) (fun h13 => ?_)
  · have g13 := bI_n0 h13
    have hq := tk_nI (by decide) g13
    refine fr_aload_n (pc := 18) rfl dX3_readPair_18 ?_
    refine fr_get (pc := 19) (ci := 2) (T := TX3) (k0 := 5) rfl hin_X3 (by decide) fl_X3_26 (by decide) x_39 rfl dX3_readPair_19 ?_
    refine fr_eq (z := nI ((nxC b L T).2.2.2.toNatClampNeg)) hq.1 ?_
    refine fr_istore (pc := 22) [(4, .int (nI ((nxC b L T).2.2.2.toNatClampNeg))), (0, .ref 39), (1, .ref 23), (2, .int lo), (3, .int hi)] (by decide) rfl dX3_readPair_22 ?_
    refine fr_aload_n (pc := 24) rfl dX3_readPair_24 ?_
    refine fr_callV0 (pc := 25) (ci := 2) (T := TX3) (N := 6) [] [] (c_nx hL (tw_x hT)) gc_X3_33 rfl rfl ⟨rfl, rfl, by decide, by decide⟩ (Nat.le_of_ble_eq_true rfl) rfl (by decide) x_39 ⟨by decide, by decide⟩ dX3_readPair_25 ?_
    refine fr_aload_n (pc := 28) rfl dX3_readPair_28 ?_
    refine fr_iload_n (pc := 29) rfl dX3_readPair_29 ?_
    refine fr_iload_n (pc := 30) rfl dX3_readPair_30 ?_
    refine fr_callV0 (pc := 31) (ci := 2) (T := TX3) (N := 6) [.int lo, .int hi] [] (c_X3_takeNumber (tw_x (tw_x hT))) gc_X3_75 rfl rfl ⟨rfl, rfl, by decide, by decide⟩ (Nat.le_of_ble_eq_true rfl) rfl (by decide) x_39 ⟨by decide, by decide⟩ dX3_readPair_31 ?_
    refine fr_if_ne (pc := 34) 39 (by decide) dX3_readPair_34 (fun h34 => ?_) (fun h34 => ?_)
    · have g34 := bI_n0 h34
      rw [show (p_pair (nxC b L) 1 6 lo hi T t) = (true, (nxC b L (nxC b L (nxC b L T))), u2 t 1 ((nxC b L T).2.2.2.toNatClampNeg) (nxC b L (nxC b L T)).2.2.2) from (if_pos g13).trans (if_pos g34)]
      refine fr_aload_n (pc := 39) rfl dX3_readPair_39 ?_
      refine fr_iload (pc := 40) rfl dX3_readPair_40 ?_
      refine fr_aload_n (pc := 42) rfl dX3_readPair_42 ?_
      refine fr_get (pc := 43) (ci := 2) (T := TX3) (k0 := 5) rfl hin_X3 (by decide) fl_X3_26 (by decide) x_39 rfl dX3_readPair_43 ?_
      refine fr_iast (pc := 46) ((nxC b L T).2.2.2.toNatClampNeg) rfl (by decide) x_t2 hq.2 (by decide) dX3_readPair_46 ?_
      refine fr_mem x_ta1 ?_
      refine fr_aload_n (pc := 47) rfl dX3_readPair_47 ?_
      refine fr_callV0 (pc := 48) (ci := 2) (T := TX3) (N := 6) [] [] (c_nx hL (tw_x (tw_x hT))) gc_X3_33 rfl rfl ⟨rfl, rfl, by decide, by decide⟩ (Nat.le_of_ble_eq_true rfl) rfl (by decide) x_39 ⟨by decide, by decide⟩ dX3_readPair_48 ?_
      refine fr_iconst (pc := 51) (v := 1) rfl dX3_readPair_51 ?_
      exact fr_ireturn (pc := 52) rfl rfl rfl rfl dX3_readPair_52
    · have g34 := bI_0.mp h34
      rw [show (p_pair (nxC b L) 1 6 lo hi T t) = (false, (nxC b L (nxC b L T)), t) from (if_pos g13).trans (if_neg g34)]
      refine fr_iconst (pc := 37) (v := 0) rfl dX3_readPair_37 ?_
      exact fr_ireturn (pc := 38) rfl rfl rfl rfl dX3_readPair_38
  · have g13 := bI_0.mp h13
    rw [show (p_pair (nxC b L) 1 6 lo hi T t) = (false, (nxC b L T), t) from if_neg g13]
    refine fr_iconst (pc := 16) (v := 0) rfl dX3_readPair_16 ?_
    exact fr_ireturn (pc := 17) rfl rfl rfl rfl dX3_readPair_17
set_option maxRecDepth 100000 in
theorem c_X3_readTrait4 {Γ : aG} {l : Launch} {M : Nat → aC} {r rk t : rT} {ik : Int32} {S : sT} {b : Nat → Int32} {L : Nat} {fi : Nat → Int32} {T : tk} (hL : L ≤ 120) (hT : tw L T) {lo hi : Int32} {k0 g : Nat} (hk0 : k0 < 26) (hg : g < 8)  : Ev Γ l mX3_readTrait [.ref 39, .ref (2000 + k0), .ref 26, .int (nI g), .int lo, .int hi] 54 (xM M r rk t ik S (b, nI L, nI T.2.1, nI T.2.2.1, nI T.1, T.2.2.2) fi) (some (.int (bI ((p_trait b (nxC b L) (a_ss k0).2.2.2 4 g lo hi T t).1 = true)))) 54 (xM M r rk ((p_trait b (nxC b L) (a_ss k0).2.2.2 4 g lo hi T t).2.2) ik S (b, nI L, nI (p_trait b (nxC b L) (a_ss k0).2.2.2 4 g lo hi T t).2.1.2.1, nI (p_trait b (nxC b L) (a_ss k0).2.2.2 4 g lo hi T t).2.1.2.2.1, nI (p_trait b (nxC b L) (a_ss k0).2.2.2 4 g lo hi T t).2.1.1, (p_trait b (nxC b L) (a_ss k0).2.2.2 4 g lo hi T t).2.1.2.2.2) fi) := by
  refine Ev.of [(0, .ref 39), (1, .ref (2000 + k0)), (2, .ref 26), (3, .int (nI g)), (4, .int lo), (5, .int hi)] (by decide) (Nat.le_of_ble_eq_true rfl) rfl ?_
  refine fr_aload_n (pc := 0) rfl dX3_readTrait_0 ?_
  refine fr_aload_n (pc := 1) rfl dX3_readTrait_1 ?_
  refine fr_callV0 (pc := 2) (ci := 2) (T := TX3) (N := 6) [.ref (2000 + k0)] [] (c_X3_isWord hL hT (k0 := k0) (by first | assumption | decide)) gc_X3_50 rfl rfl ⟨rfl, rfl, by decide, by decide⟩ (Nat.le_of_ble_eq_true rfl) rfl (by decide) x_39 ⟨by decide, by decide⟩ dX3_readTrait_2 ?_
  refine fr_if_ne (pc := 5) 10 (by decide) dX3_readTrait_5 (fun h5 => ?_) (fun h5 => ?_)
  · have g5 := bI_n0 h5
    refine fr_aload_n (pc := 10) rfl dX3_readTrait_10 ?_
    refine fr_callV0 (pc := 11) (ci := 2) (T := TX3) (N := 6) [] [] (c_nx hL hT) gc_X3_33 rfl rfl ⟨rfl, rfl, by decide, by decide⟩ (Nat.le_of_ble_eq_true rfl) rfl (by decide) x_39 ⟨by decide, by decide⟩ dX3_readTrait_11 ?_
    refine fr_aload_n (pc := 14) rfl dX3_readTrait_14 ?_
    refine fr_iload (pc := 15) rfl dX3_readTrait_15 ?_
    refine fr_iload (pc := 17) rfl dX3_readTrait_17 ?_
    refine fr_callV0 (pc := 19) (ci := 2) (T := TX3) (N := 6) [.int lo, .int hi] [] (c_X3_takeNumber (tw_x hT)) gc_X3_75 rfl rfl ⟨rfl, rfl, by decide, by decide⟩ (Nat.le_of_ble_eq_true rfl) rfl (by decide) x_39 ⟨by decide, by decide⟩ dX3_readTrait_19 ?_
    refine fr_if_eq (pc := 22) 35 (by decide) dX3_readTrait_22 (fun h22 => ?_) (fun h22 => ?_)
    · have g22 := bI_0.mp h22
      rw [show (p_trait b (nxC b L) (a_ss k0).2.2.2 4 g lo hi T t) = (false, (nxC b L T), t) from (if_pos g5).trans (if_neg g22)]
      refine fr_iconst (pc := 35) (v := 0) rfl dX3_readTrait_35 ?_
      exact fr_ireturn (pc := 36) rfl rfl rfl rfl dX3_readTrait_36
    · have g22 := bI_n0 h22
      refine fr_iload_n (pc := 25) rfl dX3_readTrait_25 ?_
      refine fr_if_lt (pc := 26) 35 (by decide) dX3_readTrait_26 (fun h26 => ?_) (fun h26 => ?_)
      · exact absurd h26 (nI_pos (by omega))
      · refine fr_iload_n (pc := 29) rfl dX3_readTrait_29 ?_
        refine fr_aload_n (pc := 30) rfl dX3_readTrait_30 ?_
        refine fr_alen (pc := 31) (by decide) x_t5 dX3_readTrait_31 ?_
        refine fr_icmp_lt (pc := 32) 37 (by decide) dX3_readTrait_32 (fun h32 => ?_) (fun h32 => ?_)
        · rw [show (p_trait b (nxC b L) (a_ss k0).2.2.2 4 g lo hi T t) = (true, (nxC b L (nxC b L T)), u2 t 4 g (nxC b L T).2.2.2) from (if_pos g5).trans (if_pos g22)]
          refine fr_aload_n (pc := 37) rfl dX3_readTrait_37 ?_
          refine fr_iload_n (pc := 38) rfl dX3_readTrait_38 ?_
          refine fr_aload_n (pc := 39) rfl dX3_readTrait_39 ?_
          refine fr_get (pc := 40) (ci := 2) (T := TX3) (k0 := 5) rfl hin_X3 (by decide) fl_X3_26 (by decide) x_39 rfl dX3_readTrait_40 ?_
          refine fr_iast (pc := 43) g rfl (by decide) x_t5 (by first | assumption | omega) (by decide) dX3_readTrait_43 ?_
          refine fr_mem x_ta4 ?_
          refine fr_aload_n (pc := 44) rfl dX3_readTrait_44 ?_
          refine fr_callV0 (pc := 45) (ci := 2) (T := TX3) (N := 6) [] [] (c_nx hL (tw_x hT)) gc_X3_33 rfl rfl ⟨rfl, rfl, by decide, by decide⟩ (Nat.le_of_ble_eq_true rfl) rfl (by decide) x_39 ⟨by decide, by decide⟩ dX3_readTrait_45 ?_
          refine fr_iconst (pc := 48) (v := 1) rfl dX3_readTrait_48 ?_
          exact fr_ireturn (pc := 49) rfl rfl rfl rfl dX3_readTrait_49
        · exact absurd (nI_lt (a := g) (b := 8) hg (by decide)) h32
  · have g5 := bI_0.mp h5
    rw [show (p_trait b (nxC b L) (a_ss k0).2.2.2 4 g lo hi T t) = (true, T, t) from if_neg g5]
    refine fr_iconst (pc := 8) (v := 1) rfl dX3_readTrait_8 ?_
    exact fr_ireturn (pc := 9) rfl rfl rfl rfl dX3_readTrait_9
set_option maxRecDepth 100000 in
theorem c_X3_readTrait5 {Γ : aG} {l : Launch} {M : Nat → aC} {r rk t : rT} {ik : Int32} {S : sT} {b : Nat → Int32} {L : Nat} {fi : Nat → Int32} {T : tk} (hL : L ≤ 120) (hT : tw L T) {lo hi : Int32} {k0 g : Nat} (hk0 : k0 < 26) (hg : g < 8)  : Ev Γ l mX3_readTrait [.ref 39, .ref (2000 + k0), .ref 27, .int (nI g), .int lo, .int hi] 54 (xM M r rk t ik S (b, nI L, nI T.2.1, nI T.2.2.1, nI T.1, T.2.2.2) fi) (some (.int (bI ((p_trait b (nxC b L) (a_ss k0).2.2.2 5 g lo hi T t).1 = true)))) 54 (xM M r rk ((p_trait b (nxC b L) (a_ss k0).2.2.2 5 g lo hi T t).2.2) ik S (b, nI L, nI (p_trait b (nxC b L) (a_ss k0).2.2.2 5 g lo hi T t).2.1.2.1, nI (p_trait b (nxC b L) (a_ss k0).2.2.2 5 g lo hi T t).2.1.2.2.1, nI (p_trait b (nxC b L) (a_ss k0).2.2.2 5 g lo hi T t).2.1.1, (p_trait b (nxC b L) (a_ss k0).2.2.2 5 g lo hi T t).2.1.2.2.2) fi) := by
  refine Ev.of [(0, .ref 39), (1, .ref (2000 + k0)), (2, .ref 27), (3, .int (nI g)), (4, .int lo), (5, .int hi)] (by decide) (Nat.le_of_ble_eq_true rfl) rfl ?_
  refine fr_aload_n (pc := 0) rfl dX3_readTrait_0 ?_
  refine fr_aload_n (pc := 1) rfl dX3_readTrait_1 ?_
  refine fr_callV0 (pc := 2) (ci := 2) (T := TX3) (N := 6) [.ref (2000 + k0)] [] (c_X3_isWord hL hT (k0 := k0) (by first | assumption | decide)) gc_X3_50 rfl rfl ⟨rfl, rfl, by decide, by decide⟩ (Nat.le_of_ble_eq_true rfl) rfl (by decide) x_39 ⟨by decide, by decide⟩ dX3_readTrait_2 ?_
  refine fr_if_ne (pc := 5) 10 (by decide) dX3_readTrait_5 (fun h5 => ?_) (fun h5 => ?_)
  · have g5 := bI_n0 h5
    refine fr_aload_n (pc := 10) rfl dX3_readTrait_10 ?_
    refine fr_callV0 (pc := 11) (ci := 2) (T := TX3) (N := 6) [] [] (c_nx hL hT) gc_X3_33 rfl rfl ⟨rfl, rfl, by decide, by decide⟩ (Nat.le_of_ble_eq_true rfl) rfl (by decide) x_39 ⟨by decide, by decide⟩ dX3_readTrait_11 ?_
    refine fr_aload_n (pc := 14) rfl dX3_readTrait_14 ?_
    refine fr_iload (pc := 15) rfl dX3_readTrait_15 ?_
    refine fr_iload (pc := 17) rfl dX3_readTrait_17 ?_
    refine fr_callV0 (pc := 19) (ci := 2) (T := TX3) (N := 6) [.int lo, .int hi] [] (c_X3_takeNumber (tw_x hT)) gc_X3_75 rfl rfl ⟨rfl, rfl, by decide, by decide⟩ (Nat.le_of_ble_eq_true rfl) rfl (by decide) x_39 ⟨by decide, by decide⟩ dX3_readTrait_19 ?_
    refine fr_if_eq (pc := 22) 35 (by decide) dX3_readTrait_22 (fun h22 => ?_) (fun h22 => ?_)
    · have g22 := bI_0.mp h22
      rw [show (p_trait b (nxC b L) (a_ss k0).2.2.2 5 g lo hi T t) = (false, (nxC b L T), t) from (if_pos g5).trans (if_neg g22)]
      refine fr_iconst (pc := 35) (v := 0) rfl dX3_readTrait_35 ?_
      exact fr_ireturn (pc := 36) rfl rfl rfl rfl dX3_readTrait_36
    · have g22 := bI_n0 h22
      refine fr_iload_n (pc := 25) rfl dX3_readTrait_25 ?_
      refine fr_if_lt (pc := 26) 35 (by decide) dX3_readTrait_26 (fun h26 => ?_) (fun h26 => ?_)
      · exact absurd h26 (nI_pos (by omega))
      · refine fr_iload_n (pc := 29) rfl dX3_readTrait_29 ?_
        refine fr_aload_n (pc := 30) rfl dX3_readTrait_30 ?_
        refine fr_alen (pc := 31) (by decide) x_t6 dX3_readTrait_31 ?_
        refine fr_icmp_lt (pc := 32) 37 (by decide) dX3_readTrait_32 (fun h32 => ?_) (fun h32 => ?_)
        · rw [show (p_trait b (nxC b L) (a_ss k0).2.2.2 5 g lo hi T t) = (true, (nxC b L (nxC b L T)), u2 t 5 g (nxC b L T).2.2.2) from (if_pos g5).trans (if_pos g22)]
          refine fr_aload_n (pc := 37) rfl dX3_readTrait_37 ?_
          refine fr_iload_n (pc := 38) rfl dX3_readTrait_38 ?_
          refine fr_aload_n (pc := 39) rfl dX3_readTrait_39 ?_
          refine fr_get (pc := 40) (ci := 2) (T := TX3) (k0 := 5) rfl hin_X3 (by decide) fl_X3_26 (by decide) x_39 rfl dX3_readTrait_40 ?_
          refine fr_iast (pc := 43) g rfl (by decide) x_t6 (by first | assumption | omega) (by decide) dX3_readTrait_43 ?_
          refine fr_mem x_ta5 ?_
          refine fr_aload_n (pc := 44) rfl dX3_readTrait_44 ?_
          refine fr_callV0 (pc := 45) (ci := 2) (T := TX3) (N := 6) [] [] (c_nx hL (tw_x hT)) gc_X3_33 rfl rfl ⟨rfl, rfl, by decide, by decide⟩ (Nat.le_of_ble_eq_true rfl) rfl (by decide) x_39 ⟨by decide, by decide⟩ dX3_readTrait_45 ?_
          refine fr_iconst (pc := 48) (v := 1) rfl dX3_readTrait_48 ?_
          exact fr_ireturn (pc := 49) rfl rfl rfl rfl dX3_readTrait_49
        · exact absurd (nI_lt (a := g) (b := 8) hg (by decide)) h32
  · have g5 := bI_0.mp h5
    rw [show (p_trait b (nxC b L) (a_ss k0).2.2.2 5 g lo hi T t) = (true, T, t) from if_neg g5]
    refine fr_iconst (pc := 8) (v := 1) rfl dX3_readTrait_8 ?_
    exact fr_ireturn (pc := 9) rfl rfl rfl rfl dX3_readTrait_9
