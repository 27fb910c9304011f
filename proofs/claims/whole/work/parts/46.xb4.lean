set_option maxRecDepth 100000 in
theorem c_X2_put {Γ : aG} {l : Launch} {M : Nat → aC} {r rk t : rT} {ik : Int32} {S : sT} {T : tT} {fi : Nat → Int32} {s i : Nat} {x : Int32} (hs : s < 4) (hi : i < 40)  : Ev Γ l mX2_put [.ref 31, .int (nI s), .int (nI i), .int x] 54 (xM M r rk t ik S T fi) none 54 (xM M r rk t ik (u2 S.1 s i (s_cut x (S.2.1 s)), S.2) T fi) := by
  refine Ev.of [(0, .ref 31), (1, .int (nI s)), (2, .int (nI i)), (3, .int x)] (by decide) (Nat.le_of_ble_eq_true rfl) rfl ?_
  refine fr_bipush (pc := 0) (v := 32) rfl dX2_put_0 ?_
  refine fr_aload_n (pc := 2) rfl dX2_put_2 ?_
  refine fr_get (pc := 3) (ci := 1) (T := TX2) (k0 := 1) rfl hin_X2 (by decide) fl_X2_14 (by decide) x_31 rfl dX2_put_3 ?_
  refine fr_iload_n (pc := 6) rfl dX2_put_6 ?_
  refine fr_iald (pc := 7) s rfl (by decide) x_37 (by first | assumption | omega) (by decide) dX2_put_7 ?_
  refine fr_isub (pc := 8) dX2_put_8 ?_
  refine fr_nm (fun x4_9 e_x4_9 => ?_)
  refine fr_istore (pc := 9) [(4, .int x4_9), (0, .ref 31), (1, .int (nI s)), (2, .int (nI i)), (3, .int x)] (by decide) rfl dX2_put_9 ?_
  refine fr_aload_n (pc := 11) rfl dX2_put_11 ?_
  refine fr_get (pc := 12) (ci := 1) (T := TX2) (k0 := 0) rfl hin_X2 (by decide) fl_X2_11 (by decide) x_31 rfl dX2_put_12 ?_
  refine fr_iload_n (pc := 15) rfl dX2_put_15 ?_
  refine fr_aaldI (pc := 16) s rfl (by decide) x_32 (by first | assumption | omega) (by decide) rfl dX2_put_16 ?_
  refine fr_iload_n (pc := 17) rfl dX2_put_17 ?_
  refine fr_iload_n (pc := 18) rfl dX2_put_18 ?_
  refine fr_iload (pc := 19) rfl dX2_put_19 ?_
  refine fr_ishl (pc := 21) dX2_put_21 ?_
  refine fr_iload (pc := 22) rfl dX2_put_22 ?_
  refine fr_ishr (pc := 24) dX2_put_24 ?_
  refine fr_eq (z := s_cut x (S.2.1 s)) (by rw [e_x4_9]; rfl) ?_
  refine fr_iast (pc := 25) i rfl (by omega) (x_33 (by omega)) (by first | assumption | omega) (by decide) dX2_put_25 ?_
  refine fr_mem (x_u33 (by omega)) ?_
  exact fr_return (pc := 26) rfl rfl dX2_put_26
set_option maxRecDepth 100000 in
theorem c_X2_hasRange {Γ : aG} {l : Launch} {M : Nat → aC} {r rk t : rT} {ik : Int32} {S : sT} {T : tT} {fi : Nat → Int32} {s : Nat} {f n : Int32} (hs : s < 4)  : Ev Γ l mX2_hasRange [.ref 31, .int (nI s), .int f, .int n] 54 (xM M r rk t ik S T fi) (some (.int (bI (sR S s f n = true)))) 54 (xM M r rk t ik S T fi) := by
  refine Ev.of [(0, .ref 31), (1, .int (nI s)), (2, .int f), (3, .int n)] (by decide) (Nat.le_of_ble_eq_true rfl) rfl ?_
  refine fr_iload_n (pc := 0) rfl dX2_hasRange_0 ?_
  refine fr_if_lt (pc := 1) 34 (by decide) dX2_hasRange_1 (fun h1 => ?_) (fun h1 => ?_)
  · refine fr_iconst (pc := 34) (v := 0) rfl dX2_hasRange_34 ?_
    exact fr_ireturn (pc := 35) rfl (bI_f (fun z => (of_decide_eq_true z).1 h1)).symm rfl rfl dX2_hasRange_35
  · refine fr_iload_n (pc := 4) rfl dX2_hasRange_4 ?_
    refine fr_if_lt (pc := 5) 34 (by decide) dX2_hasRange_5 (fun h5 => ?_) (fun h5 => ?_)
    · refine fr_iconst (pc := 34) (v := 0) rfl dX2_hasRange_34 ?_
      exact fr_ireturn (pc := 35) rfl (bI_f (fun z => (of_decide_eq_true z).2.1 h5)).symm rfl rfl dX2_hasRange_35
    · refine fr_iload_n (pc := 8) rfl dX2_hasRange_8 ?_
      refine fr_aload_n (pc := 9) rfl dX2_hasRange_9 ?_
      refine fr_get (pc := 10) (ci := 1) (T := TX2) (k0 := 2) rfl hin_X2 (by decide) fl_X2_18 (by decide) x_31 rfl dX2_hasRange_10 ?_
      refine fr_iload_n (pc := 13) rfl dX2_hasRange_13 ?_
      refine fr_iald (pc := 14) s rfl (by decide) x_38 (by first | assumption | omega) (by decide) dX2_hasRange_14 ?_
      refine fr_icmp_gt (pc := 15) 34 (by decide) dX2_hasRange_15 (fun h15 => ?_) (fun h15 => ?_)
      · refine fr_iconst (pc := 34) (v := 0) rfl dX2_hasRange_34 ?_
        exact fr_ireturn (pc := 35) rfl (bI_f (fun z => (of_decide_eq_true z).2.2.1 h15)).symm rfl rfl dX2_hasRange_35
      · refine fr_iload_n (pc := 18) rfl dX2_hasRange_18 ?_
        refine fr_aload_n (pc := 19) rfl dX2_hasRange_19 ?_
        refine fr_get (pc := 20) (ci := 1) (T := TX2) (k0 := 2) rfl hin_X2 (by decide) fl_X2_18 (by decide) x_31 rfl dX2_hasRange_20 ?_
        refine fr_iload_n (pc := 23) rfl dX2_hasRange_23 ?_
        refine fr_iald (pc := 24) s rfl (by decide) x_38 (by first | assumption | omega) (by decide) dX2_hasRange_24 ?_
        refine fr_iload_n (pc := 25) rfl dX2_hasRange_25 ?_
        refine fr_isub (pc := 26) dX2_hasRange_26 ?_
        refine fr_icmp_gt (pc := 27) 34 (by decide) dX2_hasRange_27 (fun h27 => ?_) (fun h27 => ?_)
        · refine fr_iconst (pc := 34) (v := 0) rfl dX2_hasRange_34 ?_
          exact fr_ireturn (pc := 35) rfl (bI_f (fun z => (of_decide_eq_true z).2.2.2 h27)).symm rfl rfl dX2_hasRange_35
        · refine fr_iconst (pc := 30) (v := 1) rfl dX2_hasRange_30 ?_
          refine fr_goto (pc := 31) 35 (by decide) dX2_hasRange_31 ?_
          exact fr_ireturn (pc := 35) rfl (bI_t (decide_eq_true ⟨h1, h5, h15, h27⟩)).symm rfl rfl dX2_hasRange_35
theorem wi3 {s : Nat} (h : s < 4) : wi (nI s) 0 3 = true := decide_eq_true ⟨nI_pos (by omega), nI_nlt (a := 3) (b := s) (by omega) (by omega)⟩
/-- a sheet: none such, missing, or there -/
theorem lk {S : sT} (s : Int32) : (¬ wi s 0 3 = true) ∨ (∃ i : Nat, i < 4 ∧ s = nI i ∧ S.2.1 i = 0) ∨ ∃ i : Nat, i < 4 ∧ s = nI i ∧ ¬ S.2.1 i = 0 := by
  by_cases h : wi s 0 3 = true
  · obtain ⟨i, hi, rfl⟩ := wi_nI (N := 3) h rfl
    by_cases h0 : S.2.1 i = 0
    · exact Or.inr (Or.inl ⟨i, by omega, rfl, h0⟩)
    · exact Or.inr (Or.inr ⟨i, by omega, rfl, h0⟩)
  · exact Or.inl h
set_option maxRecDepth 100000 in
theorem c_lack_0 {Γ : aG} {l : Launch} {M : Nat → aC} {r rk t : rT} {ik : Int32} {S : sT} {T : tT} {fi : Nat → Int32} {s : Int32} (h : ¬ wi s 0 3 = true)  : Ev Γ l mX4_lackOfSheet [.ref 0, .int s] 54 (xM M r rk t ik S T fi) (some (.int 0)) 54 (xM M r rk t ik S T fi) := by
  refine Ev.of [(0, .ref 0), (1, .int s)] (by decide) (Nat.le_of_ble_eq_true rfl) rfl ?_
  refine fr_iload_n (pc := 0) rfl dX4_lackOfSheet_0 ?_
  refine fr_callS0 (pc := 1) [.int s] [] (c_X2_isSheet) gc_X4_234 rfl rfl ⟨rfl, rfl, by decide, by decide⟩ (Nat.le_of_ble_eq_true rfl) ⟨by decide, by decide⟩ dX4_lackOfSheet_1 ?_
  refine fr_if_ne (pc := 4) 9 (by decide) dX4_lackOfSheet_4 (fun h4 => ?_) (fun h4 => ?_)
  · have g4 := bI_n0 h4
    exact absurd g4 h
  · have g4 := bI_0.mp h4
    refine fr_iconst (pc := 7) (v := 0) rfl dX4_lackOfSheet_7 ?_
    exact fr_ireturn (pc := 8) rfl rfl rfl rfl dX4_lackOfSheet_8
set_option maxRecDepth 100000 in
theorem c_lack_5 {Γ : aG} {l : Launch} {M : Nat → aC} {r rk t : rT} {ik : Int32} {S : sT} {T : tT} {fi : Nat → Int32} {s : Nat} (hs : s < 4) (h : S.2.1 s = 0)  : Ev Γ l mX4_lackOfSheet [.ref 0, .int (nI s)] 54 (xM M r rk t ik S T fi) (some (.int 5)) 54 (xM M r rk t ik S T fi) := by
  refine Ev.of [(0, .ref 0), (1, .int (nI s))] (by decide) (Nat.le_of_ble_eq_true rfl) rfl ?_
  refine fr_iload_n (pc := 0) rfl dX4_lackOfSheet_0 ?_
  refine fr_callS0 (pc := 1) [.int (nI s)] [] (c_X2_isSheet) gc_X4_234 rfl rfl ⟨rfl, rfl, by decide, by decide⟩ (Nat.le_of_ble_eq_true rfl) ⟨by decide, by decide⟩ dX4_lackOfSheet_1 ?_
  refine fr_if_ne (pc := 4) 9 (by decide) dX4_lackOfSheet_4 (fun h4 => ?_) (fun h4 => ?_)
  · have g4 := bI_n0 h4
    refine fr_aload_n (pc := 9) rfl dX4_lackOfSheet_9 ?_
    refine fr_get (pc := 10) (ci := 3) (T := TX4) (k0 := 4) rfl hin_X4 (by decide) fl_X4_29 (by decide) x_0 rfl dX4_lackOfSheet_10 ?_
    refine fr_iload_n (pc := 13) rfl dX4_lackOfSheet_13 ?_
    refine fr_callV0 (pc := 14) (ci := 1) (T := TX2) (N := 3) [.int (nI s)] [] (c_X2_isMissing (by omega)) gc_X4_253 rfl rfl ⟨rfl, rfl, by decide, by decide⟩ (Nat.le_of_ble_eq_true rfl) rfl (by decide) x_31 ⟨by decide, by decide⟩ dX4_lackOfSheet_14 ?_
    refine fr_if_eq (pc := 17) 24 (by decide) dX4_lackOfSheet_17 (fun h17 => ?_) (fun h17 => ?_)
    · have g17 := bI_0.mp h17
      exact absurd h g17
    · have g17 := bI_n0 h17
      refine fr_iconst (pc := 20) (v := 5) rfl dX4_lackOfSheet_20 ?_
      refine fr_goto (pc := 21) 25 (by decide) dX4_lackOfSheet_21 ?_
      exact fr_ireturn (pc := 25) rfl rfl rfl rfl dX4_lackOfSheet_25
  · have g4 := bI_0.mp h4
    exact absurd (wi3 hs) g4
set_option maxRecDepth 100000 in
theorem c_lack_n {Γ : aG} {l : Launch} {M : Nat → aC} {r rk t : rT} {ik : Int32} {S : sT} {T : tT} {fi : Nat → Int32} {s : Nat} (hs : s < 4) (h : ¬ S.2.1 s = 0)  : Ev Γ l mX4_lackOfSheet [.ref 0, .int (nI s)] 54 (xM M r rk t ik S T fi) (some (.int (-1))) 54 (xM M r rk t ik S T fi) := by
  refine Ev.of [(0, .ref 0), (1, .int (nI s))] (by decide) (Nat.le_of_ble_eq_true rfl) rfl ?_
  refine fr_iload_n (pc := 0) rfl dX4_lackOfSheet_0 ?_
  refine fr_callS0 (pc := 1) [.int (nI s)] [] (c_X2_isSheet) gc_X4_234 rfl rfl ⟨rfl, rfl, by decide, by decide⟩ (Nat.le_of_ble_eq_true rfl) ⟨by decide, by decide⟩ dX4_lackOfSheet_1 ?_
  refine fr_if_ne (pc := 4) 9 (by decide) dX4_lackOfSheet_4 (fun h4 => ?_) (fun h4 => ?_)
  · have g4 := bI_n0 h4
    refine fr_aload_n (pc := 9) rfl dX4_lackOfSheet_9 ?_
    refine fr_get (pc := 10) (ci := 3) (T := TX4) (k0 := 4) rfl hin_X4 (by decide) fl_X4_29 (by decide) x_0 rfl dX4_lackOfSheet_10 ?_
    refine fr_iload_n (pc := 13) rfl dX4_lackOfSheet_13 ?_
    refine fr_callV0 (pc := 14) (ci := 1) (T := TX2) (N := 3) [.int (nI s)] [] (c_X2_isMissing (by omega)) gc_X4_253 rfl rfl ⟨rfl, rfl, by decide, by decide⟩ (Nat.le_of_ble_eq_true rfl) rfl (by decide) x_31 ⟨by decide, by decide⟩ dX4_lackOfSheet_14 ?_
    refine fr_if_eq (pc := 17) 24 (by decide) dX4_lackOfSheet_17 (fun h17 => ?_) (fun h17 => ?_)
    · have g17 := bI_0.mp h17
      refine fr_iconst (pc := 24) (v := (-1)) rfl dX4_lackOfSheet_24 ?_
      exact fr_ireturn (pc := 25) rfl rfl rfl rfl dX4_lackOfSheet_25
    · have g17 := bI_n0 h17
      exact absurd g17 h
  · have g4 := bI_0.mp h4
    exact absurd (wi3 hs) g4
theorem ln_nI {S : sT} (v : wS S) {s : Nat} (hs : s < 4) {i : Int32} (h : wi i 0 (S.2.2 s - 1) = true) : ∃ j : Nat, j < 40 ∧ j < (S.2.2 s).toNatClampNeg ∧ i = nI j := by
  obtain ⟨h1, h2⟩ := v.1 s hs
  generalize hq : (S.2.2 s).toNatClampNeg = q at h1 h2 ⊢
  have h := of_decide_eq_true h
  rw [h1] at h
  cases q with
  | zero => exact absurd (Int32.lt_of_lt_of_le (show nI 0 - 1 < 0 by decide) (Int32.not_lt.mp h.1)) h.2
  | succ n =>
    rw [nI_pred] at h
    obtain ⟨j, hj, rfl⟩ := nI_of h.1
    have hjn : j < n + 1 := by
      rcases Nat.lt_or_ge j (n + 1) with q | q
      · exact q
      · exact absurd (nI_lt (show n < j by omega) (by omega)) h.2
    exact ⟨j, by omega, hjn, rfl⟩
set_option maxRecDepth 100000 in
theorem x_write {Γ : aG} {l : Launch} {M : Nat → aC} {r rk t : rT} {ik : Int32} {S : sT} {b : Nat → Int32} {ln : Int32} {J : Int32 × Int32 × Int32 × Int32} {fi : Nat → Int32} {s i x : Int32} (v : wS S)  : Ev Γ l mX4_write [.ref 0, .int s, .int i, .int x] 54 (xM M r rk t ik S (b, ln, J) fi) (some (.int (sp_write (r, rk, ik, S, b, ln, fi) s i x).1)) 54 (xF M t J (sp_write (r, rk, ik, S, b, ln, fi) s i x).2) := by
  refine Ev.of [(0, .ref 0), (1, .int s), (2, .int i), (3, .int x)] (by decide) (Nat.le_of_ble_eq_true rfl) rfl ?_
  refine fr_aload_n (pc := 0) rfl dX4_write_0 ?_
  rcases lk (S := S) s with k1 | ⟨i1, hi1, rfl, k1⟩ | ⟨i1, hi1, rfl, k1⟩
  · skip
    refine fr_iload_n (pc := 1) rfl dX4_write_1 ?_
    refine fr_callV0 (pc := 2) (ci := 3) (T := TX4) (N := 7) [.int s] [] (c_lack_0 k1) gc_X4_244 rfl rfl ⟨rfl, rfl, by decide, by decide⟩ (Nat.le_of_ble_eq_true rfl) rfl (by decide) x_0 ⟨by decide, by decide⟩ dX4_write_2 ?_
    refine fr_istore (pc := 5) [(4, .int 0), (0, .ref 0), (1, .int s), (2, .int i), (3, .int x)] (by decide) rfl dX4_write_5 ?_
    refine fr_iload (pc := 7) rfl dX4_write_7 ?_
    refine fr_if_lt (pc := 9) 19 (by decide) dX4_write_9 (fun h9 => ?_) (fun h9 => ?_)
    · exact absurd h9 (by decide)
    · refine fr_aload_n (pc := 12) rfl dX4_write_12 ?_
      refine fr_iload (pc := 13) rfl dX4_write_13 ?_
      refine fr_callV0 (pc := 15) (ci := 3) (T := TX4) (N := 7) [.int 0] [] (c_X4_found (k := 0) (by decide)) gc_X4_51 rfl rfl ⟨rfl, rfl, by decide, by decide⟩ (Nat.le_of_ble_eq_true rfl) rfl (by decide) x_0 ⟨by decide, by decide⟩ dX4_write_15 ?_
      exact fr_ireturn (pc := 18) rfl (by simp only [sp_write, sS4, fb, sr, sG, xF, k1, eq_self, if_true, if_false, not_true_eq_false, not_false_eq_true, or_true, true_or, or_false, false_or, and_true, true_and, and_false, false_and, or_self, and_self, eq_self] <;> rfl) (by simp only [sp_write, sS4, fb, sr, sG, xF, k1, eq_self, if_true, if_false, not_true_eq_false, not_false_eq_true, or_true, true_or, or_false, false_or, and_true, true_and, and_false, false_and, or_self, and_self, eq_self] <;> rfl) rfl dX4_write_18
  · have ei1 : (nI i1).toNatClampNeg = i1 := nI_clamp (by omega)
    refine fr_iload_n (pc := 1) rfl dX4_write_1 ?_
    refine fr_callV0 (pc := 2) (ci := 3) (T := TX4) (N := 7) [.int (nI i1)] [] (c_lack_5 (by omega) k1) gc_X4_244 rfl rfl ⟨rfl, rfl, by decide, by decide⟩ (Nat.le_of_ble_eq_true rfl) rfl (by decide) x_0 ⟨by decide, by decide⟩ dX4_write_2 ?_
    refine fr_istore (pc := 5) [(4, .int 5), (0, .ref 0), (1, .int (nI i1)), (2, .int i), (3, .int x)] (by decide) rfl dX4_write_5 ?_
    refine fr_iload (pc := 7) rfl dX4_write_7 ?_
    refine fr_if_lt (pc := 9) 19 (by decide) dX4_write_9 (fun h9 => ?_) (fun h9 => ?_)
    · exact absurd h9 (by decide)
    · refine fr_aload_n (pc := 12) rfl dX4_write_12 ?_
      refine fr_iload (pc := 13) rfl dX4_write_13 ?_
      refine fr_callV0 (pc := 15) (ci := 3) (T := TX4) (N := 7) [.int 5] [] (c_X4_found (k := 5) (by decide)) gc_X4_51 rfl rfl ⟨rfl, rfl, by decide, by decide⟩ (Nat.le_of_ble_eq_true rfl) rfl (by decide) x_0 ⟨by decide, by decide⟩ dX4_write_15 ?_
      exact fr_ireturn (pc := 18) rfl (by simp only [sp_write, sS4, fb, sr, sG, xF, eq_true (wi3 hi1), ei1, eq_true k1, eq_self, if_true, if_false, not_true_eq_false, not_false_eq_true, or_true, true_or, or_false, false_or, and_true, true_and, and_false, false_and, or_self, and_self, eq_self] <;> rfl) (by simp only [sp_write, sS4, fb, sr, sG, xF, eq_true (wi3 hi1), ei1, eq_true k1, eq_self, if_true, if_false, not_true_eq_false, not_false_eq_true, or_true, true_or, or_false, false_or, and_true, true_and, and_false, false_and, or_self, and_self, eq_self] <;> rfl) rfl dX4_write_18
  · have ei1 : (nI i1).toNatClampNeg = i1 := nI_clamp (by omega)
    refine fr_iload_n (pc := 1) rfl dX4_write_1 ?_
    refine fr_callV0 (pc := 2) (ci := 3) (T := TX4) (N := 7) [.int (nI i1)] [] (c_lack_n (by omega) k1) gc_X4_244 rfl rfl ⟨rfl, rfl, by decide, by decide⟩ (Nat.le_of_ble_eq_true rfl) rfl (by decide) x_0 ⟨by decide, by decide⟩ dX4_write_2 ?_
    refine fr_istore (pc := 5) [(4, .int (-1)), (0, .ref 0), (1, .int (nI i1)), (2, .int i), (3, .int x)] (by decide) rfl dX4_write_5 ?_
    refine fr_iload (pc := 7) rfl dX4_write_7 ?_
    refine fr_if_lt (pc := 9) 19 (by decide) dX4_write_9 (fun h9 => ?_) (fun h9 => ?_)
    · refine fr_iload_n (pc := 19) rfl dX4_write_19 ?_
      refine fr_iconst (pc := 20) (v := 0) rfl dX4_write_20 ?_
      refine fr_aload_n (pc := 21) rfl dX4_write_21 ?_
      refine fr_get (pc := 22) (ci := 3) (T := TX4) (k0 := 4) rfl hin_X4 (by decide) fl_X4_29 (by decide) x_0 rfl dX4_write_22 ?_
      refine fr_get (pc := 25) (ci := 1) (T := TX2) (k0 := 2) rfl hin_X2 (by decide) fl_X4_247 (by decide) x_31 rfl dX4_write_25 ?_
      refine fr_iload_n (pc := 28) rfl dX4_write_28 ?_
      refine fr_iald (pc := 29) i1 rfl (by decide) x_38 (by first | assumption | omega) (by decide) dX4_write_29 ?_
      refine fr_iconst (pc := 30) (v := 1) rfl dX4_write_30 ?_
      refine fr_isub (pc := 31) dX4_write_31 ?_
      refine fr_callS0 (pc := 32) [.int i, .int 0, .int ((S.2.2 i1) - 1)] [] (c_X4_within) gc_X4_44 rfl rfl ⟨rfl, rfl, by decide, by decide⟩ (Nat.le_of_ble_eq_true rfl) ⟨by decide, by decide⟩ dX4_write_32 ?_
      refine fr_if_ne (pc := 35) 44 (by decide) dX4_write_35 (fun h35 => ?_) (fun h35 => ?_)
      · have g35 := bI_n0 h35
        obtain ⟨i2, hi2, -, rfl⟩ := ln_nI v hi1 g35
        have ei2 : (nI i2).toNatClampNeg = i2 := nI_clamp (by omega)
        refine fr_aload_n (pc := 44) rfl dX4_write_44 ?_
        refine fr_get (pc := 45) (ci := 3) (T := TX4) (k0 := 4) rfl hin_X4 (by decide) fl_X4_29 (by decide) x_0 rfl dX4_write_45 ?_
        refine fr_iload_n (pc := 48) rfl dX4_write_48 ?_
        refine fr_iload_n (pc := 49) rfl dX4_write_49 ?_
        refine fr_iload_n (pc := 50) rfl dX4_write_50 ?_
        refine fr_callV0 (pc := 51) (ci := 1) (T := TX2) (N := 3) [.int (nI i1), .int (nI i2), .int x] [] (c_X2_put (by omega) (by omega)) gc_X4_249 rfl rfl ⟨rfl, rfl, by decide, by decide⟩ (Nat.le_of_ble_eq_true rfl) rfl (by decide) x_31 ⟨by decide, by decide⟩ dX4_write_51 ?_
        refine fr_iconst (pc := 54) (v := 1) rfl dX4_write_54 ?_
        exact fr_ireturn (pc := 55) rfl (by simp only [sp_write, sS4, fb, sr, sG, xF, eq_true (wi3 hi1), ei1, k1, eq_self, g35, ei2, if_true, if_false, not_true_eq_false, not_false_eq_true, or_true, true_or, or_false, false_or, and_true, true_and, and_false, false_and, or_self, and_self, eq_self] <;> rfl) (by simp only [sp_write, sS4, fb, sr, sG, xF, eq_true (wi3 hi1), ei1, k1, eq_self, g35, ei2, if_true, if_false, not_true_eq_false, not_false_eq_true, or_true, true_or, or_false, false_or, and_true, true_and, and_false, false_and, or_self, and_self, eq_self] <;> rfl) rfl dX4_write_55
      · have g35 := bI_0.mp h35
        refine fr_aload_n (pc := 38) rfl dX4_write_38 ?_
        refine fr_iconst (pc := 39) (v := 0) rfl dX4_write_39 ?_
        refine fr_callV0 (pc := 40) (ci := 3) (T := TX4) (N := 7) [.int 0] [] (c_X4_found (k := 0) (by decide)) gc_X4_51 rfl rfl ⟨rfl, rfl, by decide, by decide⟩ (Nat.le_of_ble_eq_true rfl) rfl (by decide) x_0 ⟨by decide, by decide⟩ dX4_write_40 ?_
        exact fr_ireturn (pc := 43) rfl (by simp only [sp_write, sS4, fb, sr, sG, xF, eq_true (wi3 hi1), ei1, k1, eq_self, g35, if_true, if_false, not_true_eq_false, not_false_eq_true, or_true, true_or, or_false, false_or, and_true, true_and, and_false, false_and, or_self, and_self, eq_self] <;> rfl) (by simp only [sp_write, sS4, fb, sr, sG, xF, eq_true (wi3 hi1), ei1, k1, eq_self, g35, if_true, if_false, not_true_eq_false, not_false_eq_true, or_true, true_or, or_false, false_or, and_true, true_and, and_false, false_and, or_self, and_self, eq_self] <;> rfl) rfl dX4_write_43
    · exact absurd (by decide) h9
theorem sR_nI {S : sT} (v : wS S) {s : Nat} (hs : s < 4) {f n : Int32} (h : sR S s f n = true) : ∃ a q : Nat, f = nI a ∧ n = nI q ∧ a + q ≤ 40 ∧ a + q ≤ (S.2.2 s).toNatClampNeg := by
  obtain ⟨h1, h2⟩ := v.1 s hs
  generalize hq : (S.2.2 s).toNatClampNeg = L at h1 h2 ⊢
  obtain ⟨g1, g2, g3, g4⟩ := of_decide_eq_true h
  obtain ⟨a, ha, rfl⟩ := nI_of g1
  obtain ⟨q, hq2, rfl⟩ := nI_of g2
  rw [h1] at g3 g4
  have q1 : q ≤ L := by
    rcases Nat.lt_or_ge L q with z | z
    · exact absurd (nI_lt z (by omega)) g3
    · exact z
  rw [pk_sub q1] at g4
  have q2 : a ≤ L - q := by
    rcases Nat.lt_or_ge (L - q) a with z | z
    · exact absurd (nI_lt z (by omega)) g4
    · exact z
  exact ⟨a, q, rfl, rfl, by omega, by omega⟩
set_option maxRecDepth 100000 in
theorem x_copy {Γ : aG} {l : Launch} {M : Nat → aC} {r rk t : rT} {ik : Int32} {S : sT} {b : Nat → Int32} {ln : Int32} {J : Int32 × Int32 × Int32 × Int32} {fi : Nat → Int32} {s f q g n : Int32} (v : wS S)  : Ev Γ l mX4_copy [.ref 0, .int s, .int f, .int q, .int g, .int n] 54 (xM M r rk t ik S (b, ln, J) fi) (some (.int (sp_copy (r, rk, ik, S, b, ln, fi) s f q g n).1)) 54 (xF M t J (sp_copy (r, rk, ik, S, b, ln, fi) s f q g n).2) := by
  refine Ev.of [(0, .ref 0), (1, .int s), (2, .int f), (3, .int q), (4, .int g), (5, .int n)] (by decide) (Nat.le_of_ble_eq_true rfl) rfl ?_
  refine fr_iload_n (pc := 0) rfl dX4_copy_0 ?_
  refine fr_callS0 (pc := 1) [.int s] [] (c_X2_isSheet) gc_X4_234 rfl rfl ⟨rfl, rfl, by decide, by decide⟩ (Nat.le_of_ble_eq_true rfl) ⟨by decide, by decide⟩ dX4_copy_1 ?_
  refine fr_if_eq (pc := 4) 14 (by decide) dX4_copy_4 (fun h4 => ?_) (fun h4 => ?_)
  · have g4 := bI_0.mp h4
    refine fr_aload_n (pc := 14) rfl dX4_copy_14 ?_
    refine fr_iconst (pc := 15) (v := 0) rfl dX4_copy_15 ?_
    refine fr_callV0 (pc := 16) (ci := 3) (T := TX4) (N := 7) [.int 0] [] (c_X4_found (k := 0) (by decide)) gc_X4_51 rfl rfl ⟨rfl, rfl, by decide, by decide⟩ (Nat.le_of_ble_eq_true rfl) rfl (by decide) x_0 ⟨by decide, by decide⟩ dX4_copy_16 ?_
    exact fr_ireturn (pc := 19) rfl (by simp only [sp_copy, sS4, fb, sr, sG, xF, g4, if_true, if_false, not_true_eq_false, not_false_eq_true, or_true, true_or, or_false, false_or, and_true, true_and, and_false, false_and, or_self, and_self, eq_self] <;> rfl) (by simp only [sp_copy, sS4, fb, sr, sG, xF, g4, if_true, if_false, not_true_eq_false, not_false_eq_true, or_true, true_or, or_false, false_or, and_true, true_and, and_false, false_and, or_self, and_self, eq_self] <;> rfl) rfl dX4_copy_19
  · have g4 := bI_n0 h4
    refine fr_iload_n (pc := 7) rfl dX4_copy_7 ?_
    refine fr_callS0 (pc := 8) [.int q] [] (c_X2_isSheet) gc_X4_234 rfl rfl ⟨rfl, rfl, by decide, by decide⟩ (Nat.le_of_ble_eq_true rfl) ⟨by decide, by decide⟩ dX4_copy_8 ?_
    refine fr_if_ne (pc := 11) 20 (by decide) dX4_copy_11 (fun h11 => ?_) (fun h11 => ?_)
    · have g11 := bI_n0 h11
      obtain ⟨i1, hi1, rfl⟩ := wi_nI (N := 3) g4 rfl
      have ei1 : (nI i1).toNatClampNeg = i1 := nI_clamp (by omega)
      obtain ⟨i2, hi2, rfl⟩ := wi_nI (N := 3) g11 rfl
      have ei2 : (nI i2).toNatClampNeg = i2 := nI_clamp (by omega)
      refine fr_aload_n (pc := 20) rfl dX4_copy_20 ?_
      refine fr_get (pc := 21) (ci := 3) (T := TX4) (k0 := 4) rfl hin_X4 (by decide) fl_X4_29 (by decide) x_0 rfl dX4_copy_21 ?_
      refine fr_iload_n (pc := 24) rfl dX4_copy_24 ?_
      refine fr_callV0 (pc := 25) (ci := 1) (T := TX2) (N := 3) [.int (nI i1)] [] (c_X2_isMissing (by omega)) gc_X4_253 rfl rfl ⟨rfl, rfl, by decide, by decide⟩ (Nat.le_of_ble_eq_true rfl) rfl (by decide) x_31 ⟨by decide, by decide⟩ dX4_copy_25 ?_
      refine fr_if_ne (pc := 28) 42 (by decide) dX4_copy_28 (fun h28 => ?_) (fun h28 => ?_)
      · have g28 := bI_n0 h28
        refine fr_aload_n (pc := 42) rfl dX4_copy_42 ?_
        refine fr_iconst (pc := 43) (v := 5) rfl dX4_copy_43 ?_
        refine fr_callV0 (pc := 44) (ci := 3) (T := TX4) (N := 7) [.int 5] [] (c_X4_found (k := 5) (by decide)) gc_X4_51 rfl rfl ⟨rfl, rfl, by decide, by decide⟩ (Nat.le_of_ble_eq_true rfl) rfl (by decide) x_0 ⟨by decide, by decide⟩ dX4_copy_44 ?_
        exact fr_ireturn (pc := 47) rfl (by simp only [sp_copy, sS4, fb, sr, sG, xF, g4, g11, ei1, ei2, g28, if_true, if_false, not_true_eq_false, not_false_eq_true, or_true, true_or, or_false, false_or, and_true, true_and, and_false, false_and, or_self, and_self, eq_self] <;> rfl) (by simp only [sp_copy, sS4, fb, sr, sG, xF, g4, g11, ei1, ei2, g28, if_true, if_false, not_true_eq_false, not_false_eq_true, or_true, true_or, or_false, false_or, and_true, true_and, and_false, false_and, or_self, and_self, eq_self] <;> rfl) rfl dX4_copy_47
      · have g28 := bI_0.mp h28
        refine fr_aload_n (pc := 31) rfl dX4_copy_31 ?_
        refine fr_get (pc := 32) (ci := 3) (T := TX4) (k0 := 4) rfl hin_X4 (by decide) fl_X4_29 (by decide) x_0 rfl dX4_copy_32 ?_
        refine fr_iload_n (pc := 35) rfl dX4_copy_35 ?_
        refine fr_callV0 (pc := 36) (ci := 1) (T := TX2) (N := 3) [.int (nI i2)] [] (c_X2_isMissing (by omega)) gc_X4_253 rfl rfl ⟨rfl, rfl, by decide, by decide⟩ (Nat.le_of_ble_eq_true rfl) rfl (by decide) x_31 ⟨by decide, by decide⟩ dX4_copy_36 ?_
        refine fr_if_eq (pc := 39) 48 (by decide) dX4_copy_39 (fun h39 => ?_) (fun h39 => ?_)
        · have g39 := bI_0.mp h39
          refine fr_aload_n (pc := 48) rfl dX4_copy_48 ?_
          refine fr_get (pc := 49) (ci := 3) (T := TX4) (k0 := 4) rfl hin_X4 (by decide) fl_X4_29 (by decide) x_0 rfl dX4_copy_49 ?_
          refine fr_get (pc := 52) (ci := 1) (T := TX2) (k0 := 1) rfl hin_X2 (by decide) fl_X4_256 (by decide) x_31 rfl dX4_copy_52 ?_
          refine fr_iload_n (pc := 55) rfl dX4_copy_55 ?_
          refine fr_iald (pc := 56) i1 rfl (by decide) x_37 (by first | assumption | omega) (by decide) dX4_copy_56 ?_
          refine fr_aload_n (pc := 57) rfl dX4_copy_57 ?_
          refine fr_get (pc := 58) (ci := 3) (T := TX4) (k0 := 4) rfl hin_X4 (by decide) fl_X4_29 (by decide) x_0 rfl dX4_copy_58 ?_
          refine fr_get (pc := 61) (ci := 1) (T := TX2) (k0 := 1) rfl hin_X2 (by decide) fl_X4_256 (by decide) x_31 rfl dX4_copy_61 ?_
          refine fr_iload_n (pc := 64) rfl dX4_copy_64 ?_
          refine fr_iald (pc := 65) i2 rfl (by decide) x_37 (by first | assumption | omega) (by decide) dX4_copy_65 ?_
          refine fr_icmp_eq (pc := 66) 75 (by decide) dX4_copy_66 (fun h66 => ?_) (fun h66 => ?_)
          · refine fr_aload_n (pc := 75) rfl dX4_copy_75 ?_
            refine fr_get (pc := 76) (ci := 3) (T := TX4) (k0 := 4) rfl hin_X4 (by decide) fl_X4_29 (by decide) x_0 rfl dX4_copy_76 ?_
            refine fr_iload_n (pc := 79) rfl dX4_copy_79 ?_
            refine fr_iload_n (pc := 80) rfl dX4_copy_80 ?_
            refine fr_iload (pc := 81) rfl dX4_copy_81 ?_
            refine fr_callV0 (pc := 83) (ci := 1) (T := TX2) (N := 3) [.int (nI i1), .int f, .int n] [] (c_X2_hasRange (by omega)) gc_X4_259 rfl rfl ⟨rfl, rfl, by decide, by decide⟩ (Nat.le_of_ble_eq_true rfl) rfl (by decide) x_31 ⟨by decide, by decide⟩ dX4_copy_83 ?_
            refine fr_if_eq (pc := 86) 104 (by decide) dX4_copy_86 (fun h86 => ?_) (fun h86 => ?_)
            · have g86 := bI_0.mp h86
              refine fr_aload_n (pc := 104) rfl dX4_copy_104 ?_
              refine fr_iconst (pc := 105) (v := 0) rfl dX4_copy_105 ?_
              refine fr_callV0 (pc := 106) (ci := 3) (T := TX4) (N := 7) [.int 0] [] (c_X4_found (k := 0) (by decide)) gc_X4_51 rfl rfl ⟨rfl, rfl, by decide, by decide⟩ (Nat.le_of_ble_eq_true rfl) rfl (by decide) x_0 ⟨by decide, by decide⟩ dX4_copy_106 ?_
              exact fr_ireturn (pc := 109) rfl (by simp only [sp_copy, sS4, fb, sr, sG, xF, g4, g11, ei1, ei2, g28, g39, eq_true h66, g86, if_true, if_false, not_true_eq_false, not_false_eq_true, or_true, true_or, or_false, false_or, and_true, true_and, and_false, false_and, or_self, and_self, eq_self] <;> rfl) (by simp only [sp_copy, sS4, fb, sr, sG, xF, g4, g11, ei1, ei2, g28, g39, eq_true h66, g86, if_true, if_false, not_true_eq_false, not_false_eq_true, or_true, true_or, or_false, false_or, and_true, true_and, and_false, false_and, or_self, and_self, eq_self] <;> rfl) rfl dX4_copy_109
            · have g86 := bI_n0 h86
              refine fr_aload_n (pc := 89) rfl dX4_copy_89 ?_
              refine fr_get (pc := 90) (ci := 3) (T := TX4) (k0 := 4) rfl hin_X4 (by decide) fl_X4_29 (by decide) x_0 rfl dX4_copy_90 ?_
              refine fr_iload_n (pc := 93) rfl dX4_copy_93 ?_
              refine fr_iload (pc := 94) rfl dX4_copy_94 ?_
              refine fr_iload (pc := 96) rfl dX4_copy_96 ?_
              refine fr_callV0 (pc := 98) (ci := 1) (T := TX2) (N := 3) [.int (nI i2), .int g, .int n] [] (c_X2_hasRange (by omega)) gc_X4_259 rfl rfl ⟨rfl, rfl, by decide, by decide⟩ (Nat.le_of_ble_eq_true rfl) rfl (by decide) x_31 ⟨by decide, by decide⟩ dX4_copy_98 ?_
              refine fr_if_ne (pc := 101) 110 (by decide) dX4_copy_101 (fun h101 => ?_) (fun h101 => ?_)
              · have g101 := bI_n0 h101
                obtain ⟨a1, n1, rfl, rfl, l1, -⟩ := sR_nI v (by omega) g86
                obtain ⟨a2, n2, rfl, en, l2, -⟩ := sR_nI v (by omega) g101
                have en : n2 = n1 := ((nI_eq (by omega) (by omega)).mp en).symm
                subst en
                have ea1 : (nI a1).toNatClampNeg = a1 := nI_clamp (by omega)
                have ea2 : (nI a2).toNatClampNeg = a2 := nI_clamp (by omega)
                have en2 : (nI n2).toNatClampNeg = n2 := nI_clamp (by omega)
                refine fr_aload_n (pc := 110) rfl dX4_copy_110 ?_
                refine fr_get (pc := 111) (ci := 3) (T := TX4) (k0 := 4) rfl hin_X4 (by decide) fl_X4_29 (by decide) x_0 rfl dX4_copy_111 ?_
                refine fr_get (pc := 114) (ci := 1) (T := TX2) (k0 := 0) rfl hin_X2 (by decide) fl_X4_262 (by decide) x_31 rfl dX4_copy_114 ?_
                refine fr_iload_n (pc := 117) rfl dX4_copy_117 ?_
                refine fr_aaldI (pc := 118) i1 rfl (by decide) x_32 (by first | assumption | omega) (by decide) rfl dX4_copy_118 ?_
                refine fr_iload_n (pc := 119) rfl dX4_copy_119 ?_
                refine fr_aload_n (pc := 120) rfl dX4_copy_120 ?_
                refine fr_get (pc := 121) (ci := 3) (T := TX4) (k0 := 4) rfl hin_X4 (by decide) fl_X4_29 (by decide) x_0 rfl dX4_copy_121 ?_
                refine fr_get (pc := 124) (ci := 1) (T := TX2) (k0 := 0) rfl hin_X2 (by decide) fl_X4_262 (by decide) x_31 rfl dX4_copy_124 ?_
                refine fr_iload_n (pc := 127) rfl dX4_copy_127 ?_
                refine fr_aaldI (pc := 128) i2 rfl (by decide) x_32 (by first | assumption | omega) (by decide) rfl dX4_copy_128 ?_
                refine fr_iload (pc := 129) rfl dX4_copy_129 ?_
                refine fr_iload (pc := 131) rfl dX4_copy_131 ?_
                refine fr_acopy (pc := 133) (sp := a1) (dp := a2) (q := n2) gm_X4_266 wAC_n wAC_s wAC_i ⟨by decide, by decide⟩ (Nat.le_of_ble_eq_true rfl) (by omega) (by omega) (x_33 (by omega)) (x_33 (by omega)) l1 l2 (by decide) (by decide) dX4_copy_133 ?_
                refine fr_mem (x_r33 (by omega)) ?_
                refine fr_iload (pc := 136) rfl dX4_copy_136 ?_
                exact fr_ireturn (pc := 138) rfl (by simp only [sp_copy, sS4, fb, sr, sG, xF, g4, g11, ei1, ei2, g28, g39, eq_true h66, g86, g101, ea1, ea2, en2, if_true, if_false, not_true_eq_false, not_false_eq_true, or_true, true_or, or_false, false_or, and_true, true_and, and_false, false_and, or_self, and_self, eq_self] <;> rfl) (by simp only [sp_copy, sS4, fb, sr, sG, xF, g4, g11, ei1, ei2, g28, g39, eq_true h66, g86, g101, ea1, ea2, en2, if_true, if_false, not_true_eq_false, not_false_eq_true, or_true, true_or, or_false, false_or, and_true, true_and, and_false, false_and, or_self, and_self, eq_self] <;> rfl) rfl dX4_copy_138
              · have g101 := bI_0.mp h101
                refine fr_aload_n (pc := 104) rfl dX4_copy_104 ?_
                refine fr_iconst (pc := 105) (v := 0) rfl dX4_copy_105 ?_
                refine fr_callV0 (pc := 106) (ci := 3) (T := TX4) (N := 7) [.int 0] [] (c_X4_found (k := 0) (by decide)) gc_X4_51 rfl rfl ⟨rfl, rfl, by decide, by decide⟩ (Nat.le_of_ble_eq_true rfl) rfl (by decide) x_0 ⟨by decide, by decide⟩ dX4_copy_106 ?_
                exact fr_ireturn (pc := 109) rfl (by simp only [sp_copy, sS4, fb, sr, sG, xF, g4, g11, ei1, ei2, g28, g39, eq_true h66, g86, g101, if_true, if_false, not_true_eq_false, not_false_eq_true, or_true, true_or, or_false, false_or, and_true, true_and, and_false, false_and, or_self, and_self, eq_self] <;> rfl) (by simp only [sp_copy, sS4, fb, sr, sG, xF, g4, g11, ei1, ei2, g28, g39, eq_true h66, g86, g101, if_true, if_false, not_true_eq_false, not_false_eq_true, or_true, true_or, or_false, false_or, and_true, true_and, and_false, false_and, or_self, and_self, eq_self] <;> rfl) rfl dX4_copy_109
          · refine fr_aload_n (pc := 69) rfl dX4_copy_69 ?_
            refine fr_iconst (pc := 70) (v := 2) rfl dX4_copy_70 ?_
            refine fr_callV0 (pc := 71) (ci := 3) (T := TX4) (N := 7) [.int 2] [] (c_X4_found (k := 2) (by decide)) gc_X4_51 rfl rfl ⟨rfl, rfl, by decide, by decide⟩ (Nat.le_of_ble_eq_true rfl) rfl (by decide) x_0 ⟨by decide, by decide⟩ dX4_copy_71 ?_
            exact fr_ireturn (pc := 74) rfl (by simp only [sp_copy, sS4, fb, sr, sG, xF, g4, g11, ei1, ei2, g28, g39, h66, if_true, if_false, not_true_eq_false, not_false_eq_true, or_true, true_or, or_false, false_or, and_true, true_and, and_false, false_and, or_self, and_self, eq_self] <;> rfl) (by simp only [sp_copy, sS4, fb, sr, sG, xF, g4, g11, ei1, ei2, g28, g39, h66, if_true, if_false, not_true_eq_false, not_false_eq_true, or_true, true_or, or_false, false_or, and_true, true_and, and_false, false_and, or_self, and_self, eq_self] <;> rfl) rfl dX4_copy_74
        · have g39 := bI_n0 h39
          refine fr_aload_n (pc := 42) rfl dX4_copy_42 ?_
          refine fr_iconst (pc := 43) (v := 5) rfl dX4_copy_43 ?_
          refine fr_callV0 (pc := 44) (ci := 3) (T := TX4) (N := 7) [.int 5] [] (c_X4_found (k := 5) (by decide)) gc_X4_51 rfl rfl ⟨rfl, rfl, by decide, by decide⟩ (Nat.le_of_ble_eq_true rfl) rfl (by decide) x_0 ⟨by decide, by decide⟩ dX4_copy_44 ?_
          exact fr_ireturn (pc := 47) rfl (by simp only [sp_copy, sS4, fb, sr, sG, xF, g4, g11, ei1, ei2, g28, g39, if_true, if_false, not_true_eq_false, not_false_eq_true, or_true, true_or, or_false, false_or, and_true, true_and, and_false, false_and, or_self, and_self, eq_self] <;> rfl) (by simp only [sp_copy, sS4, fb, sr, sG, xF, g4, g11, ei1, ei2, g28, g39, if_true, if_false, not_true_eq_false, not_false_eq_true, or_true, true_or, or_false, false_or, and_true, true_and, and_false, false_and, or_self, and_self, eq_self] <;> rfl) rfl dX4_copy_47
    · have g11 := bI_0.mp h11
      refine fr_aload_n (pc := 14) rfl dX4_copy_14 ?_
      refine fr_iconst (pc := 15) (v := 0) rfl dX4_copy_15 ?_
      refine fr_callV0 (pc := 16) (ci := 3) (T := TX4) (N := 7) [.int 0] [] (c_X4_found (k := 0) (by decide)) gc_X4_51 rfl rfl ⟨rfl, rfl, by decide, by decide⟩ (Nat.le_of_ble_eq_true rfl) rfl (by decide) x_0 ⟨by decide, by decide⟩ dX4_copy_16 ?_
      exact fr_ireturn (pc := 19) rfl (by simp only [sp_copy, sS4, fb, sr, sG, xF, g4, g11, if_true, if_false, not_true_eq_false, not_false_eq_true, or_true, true_or, or_false, false_or, and_true, true_and, and_false, false_and, or_self, and_self, eq_self] <;> rfl) (by simp only [sp_copy, sS4, fb, sr, sG, xF, g4, g11, if_true, if_false, not_true_eq_false, not_false_eq_true, or_true, true_or, or_false, false_or, and_true, true_and, and_false, false_and, or_self, and_self, eq_self] <;> rfl) rfl dX4_copy_19
theorem lm_eq {S : sT} (v : wS S) {s : Nat} (hs : s < 4) : s_min (S.2.2 s) 16 = nI (s_lmost S s) ∧ s_lmost S s ≤ 16 := by
  obtain ⟨h1, h2⟩ := v.1 s hs
  unfold s_lmost
  generalize (S.2.2 s).toNatClampNeg = q at h1 h2 ⊢
  rw [h1]
  unfold s_min
  refine ⟨?_, Nat.min_le_right _ _⟩
  by_cases h : 16 < q
  · rw [if_pos (show (16 : Int32) < nI q from nI_lt (a := 16) h (by omega)), Nat.min_eq_right (by omega)]
    rfl
  · rw [if_neg (show ¬ (16 : Int32) < nI q from nI_nlt (a := 16) (b := q) (by omega) (by omega)), Nat.min_eq_left (by omega)]
set_option maxRecDepth 100000 in
theorem ld_loop {Γ : aG} {l : Launch} {M : Nat → aC} {rk t : rT} {ik : Int32} {S : sT} {T : tT} {fi : Nat → Int32} {s N : Nat} (hs : s < 4) (hN : N ≤ 16) : ∀ (k c : Nat) (r : rT), c + k = N → Fr Γ l mX4_load 34 [(0, .ref 0), (1, .int (nI s)), (2, .int (-1)), (3, .int (nI N)), (4, .int (nI c))] [] 54 0 0 (xM M r rk t ik S T fi) (some (.int (nI (s_load (S.1 s) k c r).1))) 54 (xM M ((s_load (S.1 s) k c r).2) rk t ik S T fi) := by
  intro k
  induction k with
  | zero =>
    intro c r hn
    refine fr_iload (pc := 34) rfl dX4_load_34 ?_
    refine fr_iload_n (pc := 36) rfl dX4_load_36 ?_
    refine fr_icmp_ge (pc := 37) 89 (by decide) dX4_load_37 (fun h37 => ?_) (fun h37 => ?_)
    · refine fr_iload (pc := 89) rfl dX4_load_89 ?_
      exact fr_ireturn (pc := 91) rfl rfl rfl rfl dX4_load_91
    · exact absurd (nI_le (by omega) (by omega)) h37
  | succ k ih =>
    intro c r hn
    refine fr_iload (pc := 34) rfl dX4_load_34 ?_
    refine fr_iload_n (pc := 36) rfl dX4_load_36 ?_
    refine fr_icmp_ge (pc := 37) 89 (by decide) dX4_load_37 (fun h37 => ?_) (fun h37 => ?_)
    · exact absurd h37 (nI_ge (by omega) (by omega))
    · refine fr_aload_n (pc := 40) rfl dX4_load_40 ?_
      refine fr_get (pc := 41) (ci := 3) (T := TX4) (k0 := 4) rfl hin_X4 (by decide) fl_X4_29 (by decide) x_0 rfl dX4_load_41 ?_
      refine fr_get (pc := 44) (ci := 1) (T := TX2) (k0 := 0) rfl hin_X2 (by decide) fl_X4_262 (by decide) x_31 rfl dX4_load_44 ?_
      refine fr_iload_n (pc := 47) rfl dX4_load_47 ?_
      refine fr_aaldI (pc := 48) s rfl (by decide) x_32 (by first | assumption | omega) (by decide) rfl dX4_load_48 ?_
      refine fr_iload (pc := 49) rfl dX4_load_49 ?_
      refine fr_iald (pc := 51) c rfl (by omega) (x_33 (by omega)) (by first | assumption | omega) (by decide) dX4_load_51 ?_
      refine fr_iconst (pc := 52) (v := 0) rfl dX4_load_52 ?_
      refine fr_bipush (pc := 53) (v := 40) rfl dX4_load_53 ?_
      refine fr_callS0 (pc := 55) [.int (S.1 s c), .int 0, .int 40] [] (c_X4_within) gc_X4_44 rfl rfl ⟨rfl, rfl, by decide, by decide⟩ (Nat.le_of_ble_eq_true rfl) ⟨by decide, by decide⟩ dX4_load_55 ?_
      refine fr_if_eq (pc := 58) 89 (by decide) dX4_load_58 (fun h58 => ?_) (fun h58 => ?_)
      · have g58 := bI_0.mp h58
        refine fr_iload (pc := 89) rfl dX4_load_89 ?_
        exact fr_ireturn (pc := 91) rfl (by rw [s_load, if_neg g58]) (by rw [s_load, if_neg g58]) rfl dX4_load_91
      · have g58 := bI_n0 h58
        refine fr_aload_n (pc := 61) rfl dX4_load_61 ?_
        refine fr_get (pc := 62) (ci := 3) (T := TX4) (k0 := 0) rfl hin_X4 (by decide) fl_X4_10 (by decide) x_0 rfl dX4_load_62 ?_
        refine fr_get (pc := 65) (ci := 0) (T := TX0) (k0 := 0) rfl hin_X0 (by decide) fl_X4_69 (by decide) x_1 rfl dX4_load_65 ?_
        refine fr_iload (pc := 68) rfl dX4_load_68 ?_
        refine fr_aload_n (pc := 70) rfl dX4_load_70 ?_
        refine fr_get (pc := 71) (ci := 3) (T := TX4) (k0 := 4) rfl hin_X4 (by decide) fl_X4_29 (by decide) x_0 rfl dX4_load_71 ?_
        refine fr_get (pc := 74) (ci := 1) (T := TX2) (k0 := 0) rfl hin_X2 (by decide) fl_X4_262 (by decide) x_31 rfl dX4_load_74 ?_
        refine fr_iload_n (pc := 77) rfl dX4_load_77 ?_
        refine fr_aaldI (pc := 78) s rfl (by decide) x_32 (by first | assumption | omega) (by decide) rfl dX4_load_78 ?_
        refine fr_iload (pc := 79) rfl dX4_load_79 ?_
        refine fr_iald (pc := 81) c rfl (by omega) (x_33 (by omega)) (by first | assumption | omega) (by decide) dX4_load_81 ?_
        refine fr_iast (pc := 82) c rfl (by decide) x_h1 (by first | assumption | omega) (by decide) dX4_load_82 ?_
        refine fr_mem x_ha0 ?_
        refine fr_iinc (pc := 83) (v := nI (c + 1)) [(4, .int (nI (c + 1))), (0, .ref 0), (1, .int (nI s)), (2, .int (-1)), (3, .int (nI N))] rfl (nI_1 c) (by decide) rfl dX4_load_83 ?_
        refine fr_goto (pc := 86) 34 (by decide) dX4_load_86 ?_
        rw [s_load, if_pos g58]
        exact fr_sub [1, 2, 3, 4, 0] rfl (ih (c + 1) _ (by omega))
set_option maxRecDepth 100000 in
theorem x_load {Γ : aG} {l : Launch} {M : Nat → aC} {r rk t : rT} {ik : Int32} {S : sT} {b : Nat → Int32} {ln : Int32} {J : Int32 × Int32 × Int32 × Int32} {fi : Nat → Int32} {s : Int32} (v : wS S)  : Ev Γ l mX4_load [.ref 0, .int s] 54 (xM M r rk t ik S (b, ln, J) fi) (some (.int (sp_load (r, rk, ik, S, b, ln, fi) s).1)) 54 (xF M t J (sp_load (r, rk, ik, S, b, ln, fi) s).2) := by
  refine Ev.of [(0, .ref 0), (1, .int s)] (by decide) (Nat.le_of_ble_eq_true rfl) rfl ?_
  refine fr_aload_n (pc := 0) rfl dX4_load_0 ?_
  rcases lk (S := S) s with k1 | ⟨i1, hi1, rfl, k1⟩ | ⟨i1, hi1, rfl, k1⟩
  · skip
    refine fr_iload_n (pc := 1) rfl dX4_load_1 ?_
    refine fr_callV0 (pc := 2) (ci := 3) (T := TX4) (N := 7) [.int s] [] (c_lack_0 k1) gc_X4_244 rfl rfl ⟨rfl, rfl, by decide, by decide⟩ (Nat.le_of_ble_eq_true rfl) rfl (by decide) x_0 ⟨by decide, by decide⟩ dX4_load_2 ?_
    refine fr_istore_n (pc := 5) [(2, .int 0), (0, .ref 0), (1, .int s)] (by decide) rfl dX4_load_5 ?_
    refine fr_iload_n (pc := 6) rfl dX4_load_6 ?_
    refine fr_if_lt (pc := 7) 16 (by decide) dX4_load_7 (fun h7 => ?_) (fun h7 => ?_)
    · exact absurd h7 (by decide)
    · refine fr_aload_n (pc := 10) rfl dX4_load_10 ?_
      refine fr_iload_n (pc := 11) rfl dX4_load_11 ?_
      refine fr_callV0 (pc := 12) (ci := 3) (T := TX4) (N := 7) [.int 0] [] (c_X4_found (k := 0) (by decide)) gc_X4_51 rfl rfl ⟨rfl, rfl, by decide, by decide⟩ (Nat.le_of_ble_eq_true rfl) rfl (by decide) x_0 ⟨by decide, by decide⟩ dX4_load_12 ?_
      exact fr_ireturn (pc := 15) rfl (by simp only [sp_load, sS4, fb, sr, sG, xF, k1, eq_self, if_true, if_false, not_true_eq_false, not_false_eq_true, or_true, true_or, or_false, false_or, and_true, true_and, and_false, false_and, or_self, and_self, eq_self] <;> rfl) (by simp only [sp_load, sS4, fb, sr, sG, xF, k1, eq_self, if_true, if_false, not_true_eq_false, not_false_eq_true, or_true, true_or, or_false, false_or, and_true, true_and, and_false, false_and, or_self, and_self, eq_self] <;> rfl) rfl dX4_load_15
  · have ei1 : (nI i1).toNatClampNeg = i1 := nI_clamp (by omega)
    refine fr_iload_n (pc := 1) rfl dX4_load_1 ?_
    refine fr_callV0 (pc := 2) (ci := 3) (T := TX4) (N := 7) [.int (nI i1)] [] (c_lack_5 (by omega) k1) gc_X4_244 rfl rfl ⟨rfl, rfl, by decide, by decide⟩ (Nat.le_of_ble_eq_true rfl) rfl (by decide) x_0 ⟨by decide, by decide⟩ dX4_load_2 ?_
    refine fr_istore_n (pc := 5) [(2, .int 5), (0, .ref 0), (1, .int (nI i1))] (by decide) rfl dX4_load_5 ?_
    refine fr_iload_n (pc := 6) rfl dX4_load_6 ?_
    refine fr_if_lt (pc := 7) 16 (by decide) dX4_load_7 (fun h7 => ?_) (fun h7 => ?_)
    · exact absurd h7 (by decide)
    · refine fr_aload_n (pc := 10) rfl dX4_load_10 ?_
      refine fr_iload_n (pc := 11) rfl dX4_load_11 ?_
      refine fr_callV0 (pc := 12) (ci := 3) (T := TX4) (N := 7) [.int 5] [] (c_X4_found (k := 5) (by decide)) gc_X4_51 rfl rfl ⟨rfl, rfl, by decide, by decide⟩ (Nat.le_of_ble_eq_true rfl) rfl (by decide) x_0 ⟨by decide, by decide⟩ dX4_load_12 ?_
      exact fr_ireturn (pc := 15) rfl (by simp only [sp_load, sS4, fb, sr, sG, xF, eq_true (wi3 hi1), ei1, eq_true k1, eq_self, if_true, if_false, not_true_eq_false, not_false_eq_true, or_true, true_or, or_false, false_or, and_true, true_and, and_false, false_and, or_self, and_self, eq_self] <;> rfl) (by simp only [sp_load, sS4, fb, sr, sG, xF, eq_true (wi3 hi1), ei1, eq_true k1, eq_self, if_true, if_false, not_true_eq_false, not_false_eq_true, or_true, true_or, or_false, false_or, and_true, true_and, and_false, false_and, or_self, and_self, eq_self] <;> rfl) rfl dX4_load_15
  · have ei1 : (nI i1).toNatClampNeg = i1 := nI_clamp (by omega)
    refine fr_iload_n (pc := 1) rfl dX4_load_1 ?_
    refine fr_callV0 (pc := 2) (ci := 3) (T := TX4) (N := 7) [.int (nI i1)] [] (c_lack_n (by omega) k1) gc_X4_244 rfl rfl ⟨rfl, rfl, by decide, by decide⟩ (Nat.le_of_ble_eq_true rfl) rfl (by decide) x_0 ⟨by decide, by decide⟩ dX4_load_2 ?_
    refine fr_istore_n (pc := 5) [(2, .int (-1)), (0, .ref 0), (1, .int (nI i1))] (by decide) rfl dX4_load_5 ?_
    refine fr_iload_n (pc := 6) rfl dX4_load_6 ?_
    refine fr_if_lt (pc := 7) 16 (by decide) dX4_load_7 (fun h7 => ?_) (fun h7 => ?_)
    · refine fr_aload_n (pc := 16) rfl dX4_load_16 ?_
      refine fr_get (pc := 17) (ci := 3) (T := TX4) (k0 := 4) rfl hin_X4 (by decide) fl_X4_29 (by decide) x_0 rfl dX4_load_17 ?_
      refine fr_get (pc := 20) (ci := 1) (T := TX2) (k0 := 2) rfl hin_X2 (by decide) fl_X4_247 (by decide) x_31 rfl dX4_load_20 ?_
      refine fr_iload_n (pc := 23) rfl dX4_load_23 ?_
      refine fr_iald (pc := 24) i1 rfl (by decide) x_38 (by first | assumption | omega) (by decide) dX4_load_24 ?_
      refine fr_bipush (pc := 25) (v := 16) rfl dX4_load_25 ?_
      refine fr_mmin (pc := 27) gm_X4_272 wM_s_min wM_i wM_c_min ⟨by decide, by decide, by decide, by decide⟩ (Nat.le_of_ble_eq_true rfl) dX4_load_27 ?_
      refine fr_eq (z := nI (s_lmost S i1)) (lm_eq v hi1).1 ?_
      refine fr_istore_n (pc := 30) [(3, .int (nI (s_lmost S i1))), (2, .int (-1)), (0, .ref 0), (1, .int (nI i1))] (by decide) rfl dX4_load_30 ?_
      refine fr_iconst (pc := 31) (v := 0) rfl dX4_load_31 ?_
      refine fr_istore (pc := 32) [(4, .int 0), (3, .int (nI (s_lmost S i1))), (2, .int (-1)), (0, .ref 0), (1, .int (nI i1))] (by decide) rfl dX4_load_32 ?_
      rw [show sp_load (r, rk, ik, S, b, ln, fi) (nI i1) = (nI (s_load (S.1 i1) (s_lmost S i1) 0 r).1, sr (r, rk, ik, S, b, ln, fi) (s_load (S.1 i1) (s_lmost S i1) 0 r).2) from by simp only [sp_load, wi3 hi1, ei1, k1, if_true, if_false, not_true_eq_false, not_false_eq_true, or_true, true_or, or_false, false_or, and_true, true_and, and_false, false_and, or_self, and_self, eq_self]]
      exact fr_sub [3, 4, 2, 1, 0] rfl (ld_loop hi1 (lm_eq v hi1).2 (s_lmost S i1) 0 r (by omega))
    · exact absurd (by decide) h7
set_option maxRecDepth 100000 in
theorem jd_loop {Γ : aG} {l : Launch} {M : Nat → aC} {r rk t : rT} {ik : Int32} {S : sT} {T : tT} {fi : Nat → Int32} {s : Nat} (hs : s < 4) (w : wf r) (v : wS S) : ∀ (k i : Nat), i + k = (S.2.2 s).toNatClampNeg → Fr Γ l mX4_judge 18 [(0, .ref 0), (1, .int (nI s)), (2, .int (-1)), (3, .int (nI i))] [] 54 0 0 (xM M r rk t ik S T fi) (some (.int (s_judge r (S.1 s) k i))) 54 (xM M r rk t ik S T fi) := by
  have hv := v.1 s hs
  have hv2 := hv.2
  intro k
  induction k with
  | zero =>
    intro i hn
    refine fr_iload_n (pc := 18) rfl dX4_judge_18 ?_
    refine fr_aload_n (pc := 19) rfl dX4_judge_19 ?_
    refine fr_get (pc := 20) (ci := 3) (T := TX4) (k0 := 4) rfl hin_X4 (by decide) fl_X4_29 (by decide) x_0 rfl dX4_judge_20 ?_
    refine fr_get (pc := 23) (ci := 1) (T := TX2) (k0 := 2) rfl hin_X2 (by decide) fl_X4_247 (by decide) x_31 rfl dX4_judge_23 ?_
    refine fr_iload_n (pc := 26) rfl dX4_judge_26 ?_
    refine fr_iald (pc := 27) s rfl (by decide) x_38 (by first | assumption | omega) (by decide) dX4_judge_27 ?_
    refine fr_icmp_ge (pc := 28) 72 (by decide) dX4_judge_28 (fun h28 => ?_) (fun h28 => ?_)
    · refine fr_iconst (pc := 72) (v := 0) rfl dX4_judge_72 ?_
      exact fr_ireturn (pc := 73) rfl rfl rfl rfl dX4_judge_73
    · exact absurd (by rw [hv.1, ← hn]; exact Int32.le_refl _) h28
  | succ k ih =>
    intro i hn
    refine fr_iload_n (pc := 18) rfl dX4_judge_18 ?_
    refine fr_aload_n (pc := 19) rfl dX4_judge_19 ?_
    refine fr_get (pc := 20) (ci := 3) (T := TX4) (k0 := 4) rfl hin_X4 (by decide) fl_X4_29 (by decide) x_0 rfl dX4_judge_20 ?_
    refine fr_get (pc := 23) (ci := 1) (T := TX2) (k0 := 2) rfl hin_X2 (by decide) fl_X4_247 (by decide) x_31 rfl dX4_judge_23 ?_
    refine fr_iload_n (pc := 26) rfl dX4_judge_26 ?_
    refine fr_iald (pc := 27) s rfl (by decide) x_38 (by first | assumption | omega) (by decide) dX4_judge_27 ?_
    refine fr_icmp_ge (pc := 28) 72 (by decide) dX4_judge_28 (fun h28 => ?_) (fun h28 => ?_)
    · exact absurd h28 (by rw [hv.1, ← hn]; exact nI_ge (by omega) (by omega))
    · refine fr_aload_n (pc := 31) rfl dX4_judge_31 ?_
      refine fr_iload_n (pc := 32) rfl dX4_judge_32 ?_
      refine fr_callV0 (pc := 33) (ci := 3) (T := TX4) (N := 7) [.int (nI i)] [] (c_X4_isGuest) gc_X4_95 rfl rfl ⟨rfl, rfl, by decide, by decide⟩ (Nat.le_of_ble_eq_true rfl) rfl (by decide) x_0 ⟨by decide, by decide⟩ dX4_judge_33 ?_
      refine fr_if_eq (pc := 36) 62 (by decide) dX4_judge_36 (fun h36 => ?_) (fun h36 => ?_)
      · have g36 := bI_0.mp h36
        refine fr_iconst (pc := 62) (v := 1) rfl dX4_judge_62 ?_
        refine fr_iload_n (pc := 63) rfl dX4_judge_63 ?_
        refine fr_iadd (pc := 64) dX4_judge_64 ?_
        exact fr_ireturn (pc := 65) rfl (by rw [s_judge, if_neg (fun z => g36 z.1)]) rfl rfl dX4_judge_65
      · have g36 := bI_n0 h36
        obtain ⟨i9, hi9, ei9⟩ := sG_nI w g36
        have e9 : i = i9 := (nI_eq (by omega) (by have := w.ctl; omega)).mp ei9
        have l9 : i < 8 := by have := w.ctl; omega
        refine fr_aload_n (pc := 39) rfl dX4_judge_39 ?_
        refine fr_get (pc := 40) (ci := 3) (T := TX4) (k0 := 0) rfl hin_X4 (by decide) fl_X4_10 (by decide) x_0 rfl dX4_judge_40 ?_
        refine fr_get (pc := 43) (ci := 0) (T := TX0) (k0 := 8) rfl hin_X0 (by decide) fl_X4_158 (by decide) x_1 rfl dX4_judge_43 ?_
        refine fr_iload_n (pc := 46) rfl dX4_judge_46 ?_
        refine fr_iald (pc := 47) i rfl (by decide) x_h4 (by first | assumption | omega) (by decide) dX4_judge_47 ?_
        refine fr_aload_n (pc := 48) rfl dX4_judge_48 ?_
        refine fr_get (pc := 49) (ci := 3) (T := TX4) (k0 := 4) rfl hin_X4 (by decide) fl_X4_29 (by decide) x_0 rfl dX4_judge_49 ?_
        refine fr_get (pc := 52) (ci := 1) (T := TX2) (k0 := 0) rfl hin_X2 (by decide) fl_X4_262 (by decide) x_31 rfl dX4_judge_52 ?_
        refine fr_iload_n (pc := 55) rfl dX4_judge_55 ?_
        refine fr_aaldI (pc := 56) s rfl (by decide) x_32 (by first | assumption | omega) (by decide) rfl dX4_judge_56 ?_
        refine fr_iload_n (pc := 57) rfl dX4_judge_57 ?_
        refine fr_iald (pc := 58) i rfl (by omega) (x_33 (by omega)) (by first | assumption | omega) (by decide) dX4_judge_58 ?_
        refine fr_icmp_eq (pc := 59) 66 (by decide) dX4_judge_59 (fun h59 => ?_) (fun h59 => ?_)
        · refine fr_iinc (pc := 66) (v := nI (i + 1)) [(3, .int (nI (i + 1))), (0, .ref 0), (1, .int (nI s)), (2, .int (-1))] rfl (nI_1 i) (by decide) rfl dX4_judge_66 ?_
          refine fr_goto (pc := 69) 18 (by decide) dX4_judge_69 ?_
          rw [s_judge, if_pos ⟨g36, h59⟩]
          exact fr_sub [1, 2, 3, 0] rfl (ih (i + 1) (by omega))
        · refine fr_iconst (pc := 62) (v := 1) rfl dX4_judge_62 ?_
          refine fr_iload_n (pc := 63) rfl dX4_judge_63 ?_
          refine fr_iadd (pc := 64) dX4_judge_64 ?_
          exact fr_ireturn (pc := 65) rfl (by rw [s_judge, if_neg (fun z => h59 z.2)]) rfl rfl dX4_judge_65
set_option maxRecDepth 100000 in
theorem x_judge {Γ : aG} {l : Launch} {M : Nat → aC} {r rk t : rT} {ik : Int32} {S : sT} {b : Nat → Int32} {ln : Int32} {J : Int32 × Int32 × Int32 × Int32} {fi : Nat → Int32} {s : Int32} (w : wf r) (v : wS S)  : Ev Γ l mX4_judge [.ref 0, .int s] 54 (xM M r rk t ik S (b, ln, J) fi) (some (.int (sp_judge (r, rk, ik, S, b, ln, fi) s).1)) 54 (xF M t J (sp_judge (r, rk, ik, S, b, ln, fi) s).2) := by
  refine Ev.of [(0, .ref 0), (1, .int s)] (by decide) (Nat.le_of_ble_eq_true rfl) rfl ?_
  refine fr_aload_n (pc := 0) rfl dX4_judge_0 ?_
  rcases lk (S := S) s with k1 | ⟨i1, hi1, rfl, k1⟩ | ⟨i1, hi1, rfl, k1⟩
  · skip
    refine fr_iload_n (pc := 1) rfl dX4_judge_1 ?_
    refine fr_callV0 (pc := 2) (ci := 3) (T := TX4) (N := 7) [.int s] [] (c_lack_0 k1) gc_X4_244 rfl rfl ⟨rfl, rfl, by decide, by decide⟩ (Nat.le_of_ble_eq_true rfl) rfl (by decide) x_0 ⟨by decide, by decide⟩ dX4_judge_2 ?_
    refine fr_istore_n (pc := 5) [(2, .int 0), (0, .ref 0), (1, .int s)] (by decide) rfl dX4_judge_5 ?_
    refine fr_iload_n (pc := 6) rfl dX4_judge_6 ?_
    refine fr_if_lt (pc := 7) 16 (by decide) dX4_judge_7 (fun h7 => ?_) (fun h7 => ?_)
    · exact absurd h7 (by decide)
    · refine fr_aload_n (pc := 10) rfl dX4_judge_10 ?_
      refine fr_iload_n (pc := 11) rfl dX4_judge_11 ?_
      refine fr_callV0 (pc := 12) (ci := 3) (T := TX4) (N := 7) [.int 0] [] (c_X4_found (k := 0) (by decide)) gc_X4_51 rfl rfl ⟨rfl, rfl, by decide, by decide⟩ (Nat.le_of_ble_eq_true rfl) rfl (by decide) x_0 ⟨by decide, by decide⟩ dX4_judge_12 ?_
      exact fr_ireturn (pc := 15) rfl (by simp only [sp_judge, sS4, fb, sr, sG, xF, k1, eq_self, if_true, if_false, not_true_eq_false, not_false_eq_true, or_true, true_or, or_false, false_or, and_true, true_and, and_false, false_and, or_self, and_self, eq_self] <;> rfl) (by simp only [sp_judge, sS4, fb, sr, sG, xF, k1, eq_self, if_true, if_false, not_true_eq_false, not_false_eq_true, or_true, true_or, or_false, false_or, and_true, true_and, and_false, false_and, or_self, and_self, eq_self] <;> rfl) rfl dX4_judge_15
  · have ei1 : (nI i1).toNatClampNeg = i1 := nI_clamp (by omega)
    refine fr_iload_n (pc := 1) rfl dX4_judge_1 ?_
    refine fr_callV0 (pc := 2) (ci := 3) (T := TX4) (N := 7) [.int (nI i1)] [] (c_lack_5 (by omega) k1) gc_X4_244 rfl rfl ⟨rfl, rfl, by decide, by decide⟩ (Nat.le_of_ble_eq_true rfl) rfl (by decide) x_0 ⟨by decide, by decide⟩ dX4_judge_2 ?_
    refine fr_istore_n (pc := 5) [(2, .int 5), (0, .ref 0), (1, .int (nI i1))] (by decide) rfl dX4_judge_5 ?_
    refine fr_iload_n (pc := 6) rfl dX4_judge_6 ?_
    refine fr_if_lt (pc := 7) 16 (by decide) dX4_judge_7 (fun h7 => ?_) (fun h7 => ?_)
    · exact absurd h7 (by decide)
    · refine fr_aload_n (pc := 10) rfl dX4_judge_10 ?_
      refine fr_iload_n (pc := 11) rfl dX4_judge_11 ?_
      refine fr_callV0 (pc := 12) (ci := 3) (T := TX4) (N := 7) [.int 5] [] (c_X4_found (k := 5) (by decide)) gc_X4_51 rfl rfl ⟨rfl, rfl, by decide, by decide⟩ (Nat.le_of_ble_eq_true rfl) rfl (by decide) x_0 ⟨by decide, by decide⟩ dX4_judge_12 ?_
      exact fr_ireturn (pc := 15) rfl (by simp only [sp_judge, sS4, fb, sr, sG, xF, eq_true (wi3 hi1), ei1, eq_true k1, eq_self, if_true, if_false, not_true_eq_false, not_false_eq_true, or_true, true_or, or_false, false_or, and_true, true_and, and_false, false_and, or_self, and_self, eq_self] <;> rfl) (by simp only [sp_judge, sS4, fb, sr, sG, xF, eq_true (wi3 hi1), ei1, eq_true k1, eq_self, if_true, if_false, not_true_eq_false, not_false_eq_true, or_true, true_or, or_false, false_or, and_true, true_and, and_false, false_and, or_self, and_self, eq_self] <;> rfl) rfl dX4_judge_15
  · have ei1 : (nI i1).toNatClampNeg = i1 := nI_clamp (by omega)
    refine fr_iload_n (pc := 1) rfl dX4_judge_1 ?_
    refine fr_callV0 (pc := 2) (ci := 3) (T := TX4) (N := 7) [.int (nI i1)] [] (c_lack_n (by omega) k1) gc_X4_244 rfl rfl ⟨rfl, rfl, by decide, by decide⟩ (Nat.le_of_ble_eq_true rfl) rfl (by decide) x_0 ⟨by decide, by decide⟩ dX4_judge_2 ?_
    refine fr_istore_n (pc := 5) [(2, .int (-1)), (0, .ref 0), (1, .int (nI i1))] (by decide) rfl dX4_judge_5 ?_
    refine fr_iload_n (pc := 6) rfl dX4_judge_6 ?_
    refine fr_if_lt (pc := 7) 16 (by decide) dX4_judge_7 (fun h7 => ?_) (fun h7 => ?_)
    · refine fr_iconst (pc := 16) (v := 0) rfl dX4_judge_16 ?_
      refine fr_istore_n (pc := 17) [(3, .int 0), (2, .int (-1)), (0, .ref 0), (1, .int (nI i1))] (by decide) rfl dX4_judge_17 ?_
      rw [show sp_judge (r, rk, ik, S, b, ln, fi) (nI i1) = (s_judge r (S.1 i1) (S.2.2 i1).toNatClampNeg 0, (r, rk, ik, S, b, ln, fi)) from by simp only [sp_judge, wi3 hi1, ei1, k1, if_true, if_false, not_true_eq_false, not_false_eq_true, or_true, true_or, or_false, false_or, and_true, true_and, and_false, false_and, or_self, and_self, eq_self]]
      exact fr_sub [2, 3, 1, 0] rfl (jd_loop hi1 w v (S.2.2 i1).toNatClampNeg 0 (by omega))
    · exact absurd (by decide) h7
