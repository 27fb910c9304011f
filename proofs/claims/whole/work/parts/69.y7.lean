theorem n40 (s i : Nat) : (40 : Int32) * nI s + nI i = nI (40 * s + i) := by
  rw [show (40 : Int32) * nI s = nI (40 * s) from (Int32.ofNat_mul 40 s).symm, nI_add]
theorem wi_g {r : rT} (w : wf r) {q : Nat} (hq : q < 100) : wi (nI q) 0 (r 9 1 - 1) = true ↔ q < cnt r := by
  unfold wi
  rw [decide_eq_true_eq, w.ct]
  have hl := w.ctl
  cases hc : cnt r with
  | zero => exact ⟨fun h => absurd (Int32.lt_of_lt_of_le (show nI 0 - 1 < 0 by decide) (Int32.not_lt.mp (nI_pos (by omega)))) h.2, fun h => by omega⟩
  | succ n =>
    rw [nI_pred]
    constructor
    · intro h
      rcases Nat.lt_or_ge q (n + 1) with z | z
      · exact z
      · exact absurd (nI_lt (show n < q by omega) (by omega)) h.2
    · intro h
      exact ⟨nI_pos (by omega), nI_nlt (by omega) (by omega)⟩
set_option maxRecDepth 100000 in
theorem c_yl_0 {Γ : aG} {l : Launch} {M : Nat → aC} {r : rT} {kr ar : Nat → Int32} {ik : Int32} {fi b : Nat → Int32} {ln : Int32} {S : sT} {it mv : Nat → Int32} {Q : yQ} {s x : Int32} (h : ¬ wi s 0 3 = true)  : Ev Γ l mX5_lacks [.ref 42, .int s, .int x] 54 (yM M r kr ar ik fi b ln S it mv Q) (some (.int (-1000001))) 54 (yM M r kr ar ik fi b ln S it mv Q) := by
  refine Ev.of [(0, .ref 42), (1, .int s), (2, .int x)] (by decide) (Nat.le_of_ble_eq_true rfl) rfl ?_
  refine fr_iload_n (pc := 0) rfl dX5_lacks_0 ?_
  refine fr_callS0 (pc := 1) [.int s] [] (c_X5_isSheet) gc_X5_203 rfl rfl ⟨rfl, rfl, by decide, by decide⟩ (Nat.le_of_ble_eq_true rfl) ⟨by decide, by decide⟩ dX5_lacks_1 ?_
  refine fr_if_ne (pc := 4) 12 (by decide) dX5_lacks_4 (fun h4 => ?_) (fun h4 => ?_)
  · have g4 := bI_n0 h4
    exact absurd g4 h
  · have g4 := bI_0.mp h4
    refine fr_ldc (pc := 7) kc_X5_60 dX5_lacks_7 ?_
    refine fr_goto (pc := 9) 36 (by decide) dX5_lacks_9 ?_
    exact fr_ireturn (pc := 36) rfl rfl rfl rfl dX5_lacks_36
set_option maxRecDepth 100000 in
theorem c_yl_5 {Γ : aG} {l : Launch} {M : Nat → aC} {r : rT} {kr ar : Nat → Int32} {ik : Int32} {fi b : Nat → Int32} {ln : Int32} {S : sT} {it mv : Nat → Int32} {Q : yQ} {s : Nat} {x : Int32} (hs : s < 4) (h : S.2.1 s = 0)  : Ev Γ l mX5_lacks [.ref 42, .int (nI s), .int x] 54 (yM M r kr ar ik fi b ln S it mv Q) (some (.int (-1000006))) 54 (yM M r kr ar ik fi b ln S it mv Q) := by
  refine Ev.of [(0, .ref 42), (1, .int (nI s)), (2, .int x)] (by decide) (Nat.le_of_ble_eq_true rfl) rfl ?_
  refine fr_iload_n (pc := 0) rfl dX5_lacks_0 ?_
  refine fr_callS0 (pc := 1) [.int (nI s)] [] (c_X5_isSheet) gc_X5_203 rfl rfl ⟨rfl, rfl, by decide, by decide⟩ (Nat.le_of_ble_eq_true rfl) ⟨by decide, by decide⟩ dX5_lacks_1 ?_
  refine fr_if_ne (pc := 4) 12 (by decide) dX5_lacks_4 (fun h4 => ?_) (fun h4 => ?_)
  · have g4 := bI_n0 h4
    refine fr_aload_n (pc := 12) rfl dX5_lacks_12 ?_
    refine fr_get (pc := 13) (ci := 4) (T := TX5) (k0 := 16) rfl hin_X5 (by decide) fl_X5_48 (by decide) y_42 rfl dX5_lacks_13 ?_
    refine fr_iload_n (pc := 16) rfl dX5_lacks_16 ?_
    refine fr_iald (pc := 17) s rfl (by decide) y_50 (by first | assumption | omega) (by decide) dX5_lacks_17 ?_
    refine fr_if_ne (pc := 18) 26 (by decide) dX5_lacks_18 (fun h18 => ?_) (fun h18 => ?_)
    · exact absurd h h18
    · refine fr_ldc (pc := 21) kc_X5_206 dX5_lacks_21 ?_
      refine fr_goto (pc := 23) 36 (by decide) dX5_lacks_23 ?_
      exact fr_ireturn (pc := 36) rfl rfl rfl rfl dX5_lacks_36
  · have g4 := bI_0.mp h4
    exact absurd (wi3 hs) g4
set_option maxRecDepth 100000 in
theorem c_yl_b {Γ : aG} {l : Launch} {M : Nat → aC} {r : rT} {kr ar : Nat → Int32} {ik : Int32} {fi b : Nat → Int32} {ln : Int32} {S : sT} {it mv : Nat → Int32} {Q : yQ} {s : Nat} {x : Int32} (hs : s < 4) (h : ¬ S.2.1 s = 0) (hx : x = 0)  : Ev Γ l mX5_lacks [.ref 42, .int (nI s), .int x] 54 (yM M r kr ar ik fi b ln S it mv Q) (some (.int (-1000001))) 54 (yM M r kr ar ik fi b ln S it mv Q) := by
  refine Ev.of [(0, .ref 42), (1, .int (nI s)), (2, .int x)] (by decide) (Nat.le_of_ble_eq_true rfl) rfl ?_
  refine fr_iload_n (pc := 0) rfl dX5_lacks_0 ?_
  refine fr_callS0 (pc := 1) [.int (nI s)] [] (c_X5_isSheet) gc_X5_203 rfl rfl ⟨rfl, rfl, by decide, by decide⟩ (Nat.le_of_ble_eq_true rfl) ⟨by decide, by decide⟩ dX5_lacks_1 ?_
  refine fr_if_ne (pc := 4) 12 (by decide) dX5_lacks_4 (fun h4 => ?_) (fun h4 => ?_)
  · have g4 := bI_n0 h4
    refine fr_aload_n (pc := 12) rfl dX5_lacks_12 ?_
    refine fr_get (pc := 13) (ci := 4) (T := TX5) (k0 := 16) rfl hin_X5 (by decide) fl_X5_48 (by decide) y_42 rfl dX5_lacks_13 ?_
    refine fr_iload_n (pc := 16) rfl dX5_lacks_16 ?_
    refine fr_iald (pc := 17) s rfl (by decide) y_50 (by first | assumption | omega) (by decide) dX5_lacks_17 ?_
    refine fr_if_ne (pc := 18) 26 (by decide) dX5_lacks_18 (fun h18 => ?_) (fun h18 => ?_)
    · refine fr_iload_n (pc := 26) rfl dX5_lacks_26 ?_
      refine fr_if_eq (pc := 27) 34 (by decide) dX5_lacks_27 (fun h27 => ?_) (fun h27 => ?_)
      · refine fr_ldc (pc := 34) kc_X5_60 dX5_lacks_34 ?_
        exact fr_ireturn (pc := 36) rfl rfl rfl rfl dX5_lacks_36
      · exact absurd hx h27
    · exact absurd h18 h
  · have g4 := bI_0.mp h4
    exact absurd (wi3 hs) g4
set_option maxRecDepth 100000 in
theorem c_yl_g {Γ : aG} {l : Launch} {M : Nat → aC} {r : rT} {kr ar : Nat → Int32} {ik : Int32} {fi b : Nat → Int32} {ln : Int32} {S : sT} {it mv : Nat → Int32} {Q : yQ} {s : Nat} {x : Int32} (hs : s < 4) (h : ¬ S.2.1 s = 0) (hx : ¬ x = 0)  : Ev Γ l mX5_lacks [.ref 42, .int (nI s), .int x] 54 (yM M r kr ar ik fi b ln S it mv Q) (some (.int 0)) 54 (yM M r kr ar ik fi b ln S it mv Q) := by
  refine Ev.of [(0, .ref 42), (1, .int (nI s)), (2, .int x)] (by decide) (Nat.le_of_ble_eq_true rfl) rfl ?_
  refine fr_iload_n (pc := 0) rfl dX5_lacks_0 ?_
  refine fr_callS0 (pc := 1) [.int (nI s)] [] (c_X5_isSheet) gc_X5_203 rfl rfl ⟨rfl, rfl, by decide, by decide⟩ (Nat.le_of_ble_eq_true rfl) ⟨by decide, by decide⟩ dX5_lacks_1 ?_
  refine fr_if_ne (pc := 4) 12 (by decide) dX5_lacks_4 (fun h4 => ?_) (fun h4 => ?_)
  · have g4 := bI_n0 h4
    refine fr_aload_n (pc := 12) rfl dX5_lacks_12 ?_
    refine fr_get (pc := 13) (ci := 4) (T := TX5) (k0 := 16) rfl hin_X5 (by decide) fl_X5_48 (by decide) y_42 rfl dX5_lacks_13 ?_
    refine fr_iload_n (pc := 16) rfl dX5_lacks_16 ?_
    refine fr_iald (pc := 17) s rfl (by decide) y_50 (by first | assumption | omega) (by decide) dX5_lacks_17 ?_
    refine fr_if_ne (pc := 18) 26 (by decide) dX5_lacks_18 (fun h18 => ?_) (fun h18 => ?_)
    · refine fr_iload_n (pc := 26) rfl dX5_lacks_26 ?_
      refine fr_if_eq (pc := 27) 34 (by decide) dX5_lacks_27 (fun h27 => ?_) (fun h27 => ?_)
      · exact absurd h27 hx
      · refine fr_iconst (pc := 30) (v := 0) rfl dX5_lacks_30 ?_
        refine fr_goto (pc := 31) 36 (by decide) dX5_lacks_31 ?_
        exact fr_ireturn (pc := 36) rfl rfl rfl rfl dX5_lacks_36
    · exact absurd h18 h
  · have g4 := bI_0.mp h4
    exact absurd (wi3 hs) g4
set_option maxRecDepth 100000 in
theorem is_end {Γ : aG} {l : Launch} {M : Nat → aC} {r0 : rT} {kr : Nat → Int32} {ik : Int32} {fi b : Nat → Int32} {ln : Int32} {S : sT} {it mv : Nat → Int32} {Q : yQ} {s g i : Nat} {r : rT} (hs : s < 4) : Fr Γ l mX5_isSo 16 [(0, .ref 42), (1, .int (nI s)), (2, .int (nI g)), (3, .int 0), (4, .int (nI i))] [] 54 0 0 (yM M r kr (row r0) ik fi b ln S it mv Q) (some (.int 0)) 54 (yM M r0 kr (row r0) ik fi b ln S it mv Q) := by
  refine fr_iload (pc := 16) rfl dX5_isSo_16 ?_
  refine fr_aload_n (pc := 18) rfl dX5_isSo_18 ?_
  refine fr_get (pc := 19) (ci := 4) (T := TX5) (k0 := 17) rfl hin_X5 (by decide) fl_X5_51 (by decide) y_42 rfl dX5_isSo_19 ?_
  refine fr_iload_n (pc := 22) rfl dX5_isSo_22 ?_
  refine fr_iald (pc := 23) s rfl (by decide) y_51 (by first | assumption | omega) (by decide) dX5_isSo_23 ?_
  refine fr_icmp_ge (pc := 24) 78 (by decide) dX5_isSo_24 (fun h24 => ?_) (fun h24 => ?_)
  · refine fr_aload_n (pc := 78) rfl dX5_isSo_78 ?_
    refine fr_get (pc := 79) (ci := 4) (T := TX5) (k0 := 2) rfl hin_X5 (by decide) fl_X5_16 (by decide) y_42 rfl dX5_isSo_79 ?_
    refine fr_aload_n (pc := 82) rfl dX5_isSo_82 ?_
    refine fr_get (pc := 83) (ci := 4) (T := TX5) (k0 := 0) rfl hin_X5 (by decide) fl_X5_9 (by decide) y_42 rfl dX5_isSo_83 ?_
    refine fr_callS0 (pc := 86) [.ref 45, .ref 43] [] (c_cp_an) gc_X5_61 rfl rfl ⟨rfl, rfl, by decide, by decide⟩ (Nat.le_of_ble_eq_true rfl) ⟨by decide, by decide⟩ dX5_isSo_86 ?_
    refine fr_iload_n (pc := 89) rfl dX5_isSo_89 ?_
    exact fr_ireturn (pc := 90) rfl rfl rfl rfl dX5_isSo_90
  · refine fr_iload_n (pc := 27) rfl dX5_isSo_27 ?_
    refine fr_if_eq (pc := 28) 78 (by decide) dX5_isSo_28 (fun h28 => ?_) (fun h28 => ?_)
    · refine fr_aload_n (pc := 78) rfl dX5_isSo_78 ?_
      refine fr_get (pc := 79) (ci := 4) (T := TX5) (k0 := 2) rfl hin_X5 (by decide) fl_X5_16 (by decide) y_42 rfl dX5_isSo_79 ?_
      refine fr_aload_n (pc := 82) rfl dX5_isSo_82 ?_
      refine fr_get (pc := 83) (ci := 4) (T := TX5) (k0 := 0) rfl hin_X5 (by decide) fl_X5_9 (by decide) y_42 rfl dX5_isSo_83 ?_
      refine fr_callS0 (pc := 86) [.ref 45, .ref 43] [] (c_cp_an) gc_X5_61 rfl rfl ⟨rfl, rfl, by decide, by decide⟩ (Nat.le_of_ble_eq_true rfl) ⟨by decide, by decide⟩ dX5_isSo_86 ?_
      refine fr_iload_n (pc := 89) rfl dX5_isSo_89 ?_
      exact fr_ireturn (pc := 90) rfl rfl rfl rfl dX5_isSo_90
    · exact absurd rfl h28
set_option maxRecDepth 100000 in
theorem is_loop {Γ : aG} {l : Launch} {M : Nat → aC} {r0 : rT} {kr : Nat → Int32} {ik : Int32} {fi b : Nat → Int32} {ln : Int32} {S : sT} {it mv : Nat → Int32} {Q : yQ} {s g : Nat} (hs : s < 4) (hg : g < 8) (v : wS S) : ∀ (k i : Nat) (r : rT), wf r → i + k = (S.2.2 s).toNatClampNeg → Fr Γ l mX5_isSo 16 [(0, .ref 42), (1, .int (nI s)), (2, .int (nI g)), (3, .int 1), (4, .int (nI i))] [] 54 0 0 (yM M r kr (row r0) ik fi b ln S it mv Q) (some (.int (bI (s_as (S.1 s) g k i r = true)))) 54 (yM M r0 kr (row r0) ik fi b ln S it mv Q) := by
  obtain ⟨hle, hll⟩ := v.1 s hs
  intro k
  induction k with
  | zero =>
    intro i r w hi
    refine fr_iload (pc := 16) rfl dX5_isSo_16 ?_
    refine fr_aload_n (pc := 18) rfl dX5_isSo_18 ?_
    refine fr_get (pc := 19) (ci := 4) (T := TX5) (k0 := 17) rfl hin_X5 (by decide) fl_X5_51 (by decide) y_42 rfl dX5_isSo_19 ?_
    refine fr_iload_n (pc := 22) rfl dX5_isSo_22 ?_
    refine fr_iald (pc := 23) s rfl (by decide) y_51 (by first | assumption | omega) (by decide) dX5_isSo_23 ?_
    refine fr_icmp_ge (pc := 24) 78 (by decide) dX5_isSo_24 (fun h24 => ?_) (fun h24 => ?_)
    · refine fr_aload_n (pc := 78) rfl dX5_isSo_78 ?_
      refine fr_get (pc := 79) (ci := 4) (T := TX5) (k0 := 2) rfl hin_X5 (by decide) fl_X5_16 (by decide) y_42 rfl dX5_isSo_79 ?_
      refine fr_aload_n (pc := 82) rfl dX5_isSo_82 ?_
      refine fr_get (pc := 83) (ci := 4) (T := TX5) (k0 := 0) rfl hin_X5 (by decide) fl_X5_9 (by decide) y_42 rfl dX5_isSo_83 ?_
      refine fr_callS0 (pc := 86) [.ref 45, .ref 43] [] (c_cp_an) gc_X5_61 rfl rfl ⟨rfl, rfl, by decide, by decide⟩ (Nat.le_of_ble_eq_true rfl) ⟨by decide, by decide⟩ dX5_isSo_86 ?_
      refine fr_iload_n (pc := 89) rfl dX5_isSo_89 ?_
      exact fr_ireturn (pc := 90) rfl (bI_t rfl).symm rfl rfl dX5_isSo_90
    · exact absurd (by rw [hle, ← hi]; exact Int32.le_refl _) h24
  | succ k ih =>
    intro i r w hi
    refine fr_iload (pc := 16) rfl dX5_isSo_16 ?_
    refine fr_aload_n (pc := 18) rfl dX5_isSo_18 ?_
    refine fr_get (pc := 19) (ci := 4) (T := TX5) (k0 := 17) rfl hin_X5 (by decide) fl_X5_51 (by decide) y_42 rfl dX5_isSo_19 ?_
    refine fr_iload_n (pc := 22) rfl dX5_isSo_22 ?_
    refine fr_iald (pc := 23) s rfl (by decide) y_51 (by first | assumption | omega) (by decide) dX5_isSo_23 ?_
    refine fr_icmp_ge (pc := 24) 78 (by decide) dX5_isSo_24 (fun h24 => ?_) (fun h24 => ?_)
    · exact absurd h24 (by rw [hle, ← hi]; exact nI_ge (by omega) (by omega))
    · refine fr_iload_n (pc := 27) rfl dX5_isSo_27 ?_
      refine fr_if_eq (pc := 28) 78 (by decide) dX5_isSo_28 (fun h28 => ?_) (fun h28 => ?_)
      · exact absurd h28 (by decide)
      · refine fr_aload_n (pc := 31) rfl dX5_isSo_31 ?_
        refine fr_get (pc := 32) (ci := 4) (T := TX5) (k0 := 18) rfl hin_X5 (by decide) fl_X5_54 (by decide) y_42 rfl dX5_isSo_32 ?_
        refine fr_bipush (pc := 35) (v := 40) rfl dX5_isSo_35 ?_
        refine fr_iload_n (pc := 37) rfl dX5_isSo_37 ?_
        refine fr_imul (pc := 38) dX5_isSo_38 ?_
        refine fr_iload (pc := 39) rfl dX5_isSo_39 ?_
        refine fr_iadd (pc := 41) dX5_isSo_41 ?_
        refine fr_eq (z := nI (40 * s + i)) (n40 s i) ?_
        refine fr_iald (pc := 42) (40 * s + i) rfl (by decide) y_52 (by first | assumption | omega) (by decide) dX5_isSo_42 ?_
        refine fr_eq (z := S.1 s i) (nf_at (by omega)) ?_
        refine fr_nm (fun x5_43 e_x5_43 => ?_)
        refine fr_istore (pc := 43) [(5, .int x5_43), (0, .ref 42), (1, .int (nI s)), (2, .int (nI g)), (3, .int 1), (4, .int (nI i))] (by decide) rfl dX5_isSo_43 ?_
        subst e_x5_43
        refine fr_aload_n (pc := 45) rfl dX5_isSo_45 ?_
        refine fr_callV0 (pc := 46) (ci := 4) (T := TX5) (N := 20) [] [] (c_X5_hour (by assumption)) gc_X5_162 rfl rfl ⟨rfl, rfl, by decide, by decide⟩ (Nat.le_of_ble_eq_true rfl) rfl (by decide) y_42 ⟨by decide, by decide⟩ dX5_isSo_46 ?_
        refine fr_iload (pc := 49) rfl dX5_isSo_49 ?_
        refine fr_iconst (pc := 51) (v := (-1)) rfl dX5_isSo_51 ?_
        refine fr_icmp_eq (pc := 52) 66 (by decide) dX5_isSo_52 (fun h52 => ?_) (fun h52 => ?_)
        · refine fr_iconst (pc := 66) (v := 1) rfl dX5_isSo_66 ?_
          refine fr_goto (pc := 67) 71 (by decide) dX5_isSo_67 ?_
          refine fr_istore_n (pc := 71) [(3, .int 1), (5, .int (S.1 s i)), (0, .ref 42), (1, .int (nI s)), (2, .int (nI g)), (4, .int (nI i))] (by decide) rfl dX5_isSo_71 ?_
          refine fr_iinc (pc := 72) (v := nI (i + 1)) [(4, .int (nI (i + 1))), (3, .int 1), (5, .int (S.1 s i)), (0, .ref 42), (1, .int (nI s)), (2, .int (nI g))] rfl (nI_1 i) (by decide) rfl dX5_isSo_72 ?_
          refine fr_goto (pc := 75) 16 (by decide) dX5_isSo_75 ?_
          rw [show s_as (S.1 s) g (k + 1) i r = s_as (S.1 s) g k (i + 1) (s_hour r) from if_pos (Or.inl h52)]
          exact fr_sub [3, 4, 5, 1, 0] rfl (ih (i + 1) (s_hour r) (wf_hour w) (by omega))
        · refine fr_iload (pc := 55) rfl dX5_isSo_55 ?_
          refine fr_aload_n (pc := 57) rfl dX5_isSo_57 ?_
          refine fr_iload_n (pc := 58) rfl dX5_isSo_58 ?_
          refine fr_iconst (pc := 59) (v := 1) rfl dX5_isSo_59 ?_
          refine fr_callV0 (pc := 60) (ci := 4) (T := TX5) (N := 20) [.int (nI g), .int 1] [.int (S.1 s i)] (c_X5_guestIs (k := 1) (by first | assumption | omega) (by first | decide | assumption | omega)) gc_X5_116 rfl rfl ⟨rfl, rfl, by decide, by decide⟩ (Nat.le_of_ble_eq_true rfl) rfl (by decide) y_42 ⟨by decide, by decide⟩ dX5_isSo_60 ?_
          refine fr_icmp_ne (pc := 63) 70 (by decide) dX5_isSo_63 (fun h63 => ?_) (fun h63 => ?_)
          · refine fr_iconst (pc := 70) (v := 0) rfl dX5_isSo_70 ?_
            refine fr_istore_n (pc := 71) [(3, .int 0), (5, .int (S.1 s i)), (0, .ref 42), (1, .int (nI s)), (2, .int (nI g)), (4, .int (nI i))] (by decide) rfl dX5_isSo_71 ?_
            refine fr_iinc (pc := 72) (v := nI (i + 1)) [(4, .int (nI (i + 1))), (3, .int 0), (5, .int (S.1 s i)), (0, .ref 42), (1, .int (nI s)), (2, .int (nI g))] rfl (nI_1 i) (by decide) rfl dX5_isSo_72 ?_
            refine fr_goto (pc := 75) 16 (by decide) dX5_isSo_75 ?_
            rw [show s_as (S.1 s) g (k + 1) i r = false from if_neg (fun z => z.elim h52 h63)]
            exact fr_sub [3, 4, 5, 1, 0] rfl (is_end hs)
          · refine fr_iconst (pc := 66) (v := 1) rfl dX5_isSo_66 ?_
            refine fr_goto (pc := 67) 71 (by decide) dX5_isSo_67 ?_
            refine fr_istore_n (pc := 71) [(3, .int 1), (5, .int (S.1 s i)), (0, .ref 42), (1, .int (nI s)), (2, .int (nI g)), (4, .int (nI i))] (by decide) rfl dX5_isSo_71 ?_
            refine fr_iinc (pc := 72) (v := nI (i + 1)) [(4, .int (nI (i + 1))), (3, .int 1), (5, .int (S.1 s i)), (0, .ref 42), (1, .int (nI s)), (2, .int (nI g))] rfl (nI_1 i) (by decide) rfl dX5_isSo_72 ?_
            refine fr_goto (pc := 75) 16 (by decide) dX5_isSo_75 ?_
            rw [show s_as (S.1 s) g (k + 1) i r = s_as (S.1 s) g k (i + 1) (s_hour r) from if_pos (Or.inr h63)]
            exact fr_sub [3, 4, 5, 1, 0] rfl (ih (i + 1) (s_hour r) (wf_hour w) (by omega))
set_option maxRecDepth 100000 in
theorem c_X5_isSo {Γ : aG} {l : Launch} {M : Nat → aC} {r : rT} {kr ar : Nat → Int32} {ik : Int32} {fi b : Nat → Int32} {ln : Int32} {S : sT} {it mv : Nat → Int32} {Q : yQ} {s g : Nat} (hs : s < 4) (hg : g < 8) (v : wS S) (w : wf r)  : Ev Γ l mX5_isSo [.ref 42, .int (nI s), .int (nI g)] 54 (yM M r kr ar ik fi b ln S it mv Q) (some (.int (bI (s_as (S.1 s) g (S.2.2 s).toNatClampNeg 0 r = true)))) 54 (yM M r kr (row r) ik fi b ln S it mv Q) := by
  refine Ev.of [(0, .ref 42), (1, .int (nI s)), (2, .int (nI g))] (by decide) (Nat.le_of_ble_eq_true rfl) rfl ?_
  refine fr_aload_n (pc := 0) rfl dX5_isSo_0 ?_
  refine fr_get (pc := 1) (ci := 4) (T := TX5) (k0 := 0) rfl hin_X5 (by decide) fl_X5_9 (by decide) y_42 rfl dX5_isSo_1 ?_
  refine fr_aload_n (pc := 4) rfl dX5_isSo_4 ?_
  refine fr_get (pc := 5) (ci := 4) (T := TX5) (k0 := 2) rfl hin_X5 (by decide) fl_X5_16 (by decide) y_42 rfl dX5_isSo_5 ?_
  refine fr_callS0 (pc := 8) [.ref 43, .ref 45] [] (c_cp_na) gc_X5_61 rfl rfl ⟨rfl, rfl, by decide, by decide⟩ (Nat.le_of_ble_eq_true rfl) ⟨by decide, by decide⟩ dX5_isSo_8 ?_
  refine fr_iconst (pc := 11) (v := 1) rfl dX5_isSo_11 ?_
  refine fr_istore_n (pc := 12) [(3, .int 1), (0, .ref 42), (1, .int (nI s)), (2, .int (nI g))] (by decide) rfl dX5_isSo_12 ?_
  refine fr_iconst (pc := 13) (v := 0) rfl dX5_isSo_13 ?_
  refine fr_istore (pc := 14) [(4, .int 0), (3, .int 1), (0, .ref 42), (1, .int (nI s)), (2, .int (nI g))] (by decide) rfl dX5_isSo_14 ?_
  exact fr_sub [2, 3, 4, 1, 0] rfl (is_loop hs hg v _ 0 r w (Nat.zero_add _))
set_option maxRecDepth 100000 in
theorem yf_loop {Γ : aG} {l : Launch} {M : Nat → aC} {r : rT} {kr : Nat → Int32} {rk : rT} {ik : Int32} {fi b : Nat → Int32} {ln : Int32} {S : sT} {it mv : Nat → Int32} {Q : yQ} {s g pl : Nat} (hs : s < 4) (hg : g < 8) (v : wS S) (w : wf r) (hpl : pl < 6) : ∀ (k m : Nat) (a z : Int32) (ar : Nat → Int32), m + k = 37 → ∃ ar' : Nat → Int32, Fr Γ l mX5_fits 43 [(0, .ref 42), (1, .int (nI s)), (2, .int (nI g)), (4, .int (nI (6 + pl))), (5, .int (r 1 pl)), (6, .int a), (7, .int (nI m))] [] 54 0 0 (yM M (u2 r 1 pl z) kr ar ik fi b ln S it mv Q) (some (.int (s_sum (fun m => if s_as (S.1 s) g (S.2.2 s).toNatClampNeg 0 (u2 r 1 pl (nI m)) = true then 1 else 0) k m a))) 54 (yM M r kr ar' ik fi b ln S it mv Q) := by
  intro k
  induction k with
  | zero =>
    intro m a z ar hm
    refine ⟨ar, ?_⟩
    refine fr_iload (pc := 43) rfl dX5_fits_43 ?_
    refine fr_bipush (pc := 45) (v := 36) rfl dX5_fits_45 ?_
    refine fr_icmp_gt (pc := 47) 84 (by decide) dX5_fits_47 (fun h47 => ?_) (fun h47 => ?_)
    · refine fr_aload_n (pc := 84) rfl dX5_fits_84 ?_
      refine fr_get (pc := 85) (ci := 4) (T := TX5) (k0 := 0) rfl hin_X5 (by decide) fl_X5_9 (by decide) y_42 rfl dX5_fits_85 ?_
      refine fr_iload (pc := 88) rfl dX5_fits_88 ?_
      refine fr_iload (pc := 90) rfl dX5_fits_90 ?_
      refine fr_iast (pc := 92) (6 + pl) rfl (by decide) y_43 (by first | assumption | omega) (by decide) dX5_fits_92 ?_
      refine fr_mem (y_u43 (ph_m (by first | assumption | omega))) ?_
      refine fr_mem (M1 := (yM M r kr ar ik fi b ln S it mv Q)) (by rw [u2_u2, u2_self rfl]) ?_
      refine fr_iload (pc := 93) rfl dX5_fits_93 ?_
      exact fr_ireturn (pc := 95) rfl rfl rfl rfl dX5_fits_95
    · exact absurd (nI_lt (a := 36) (b := m) (by omega) (by omega)) h47
  | succ k ih =>
    intro m a z ar hm
    have w1 : wf (u2 r 1 pl (nI m)) := wf_u w (fun z => by omega) (fun z => by omega) (fun z => by omega) (fun z => by omega) (fun z => by omega) (by decide)
    obtain ⟨ar', ht⟩ := ih (m + 1) (a + (fun m => if s_as (S.1 s) g (S.2.2 s).toNatClampNeg 0 (u2 r 1 pl (nI m)) = true then 1 else 0) m) (nI m) (row (u2 r 1 pl (nI m))) (by omega)
    refine ⟨ar', ?_⟩
    rw [s_sum]
    refine fr_iload (pc := 43) rfl dX5_fits_43 ?_
    refine fr_bipush (pc := 45) (v := 36) rfl dX5_fits_45 ?_
    refine fr_icmp_gt (pc := 47) 84 (by decide) dX5_fits_47 (fun h47 => ?_) (fun h47 => ?_)
    · exact absurd h47 (nI_nlt (a := 36) (b := m) (by omega) (by omega))
    · refine fr_aload_n (pc := 50) rfl dX5_fits_50 ?_
      refine fr_get (pc := 51) (ci := 4) (T := TX5) (k0 := 0) rfl hin_X5 (by decide) fl_X5_9 (by decide) y_42 rfl dX5_fits_51 ?_
      refine fr_iload (pc := 54) rfl dX5_fits_54 ?_
      refine fr_iload (pc := 56) rfl dX5_fits_56 ?_
      refine fr_iast (pc := 58) (6 + pl) rfl (by decide) y_43 (by first | assumption | omega) (by decide) dX5_fits_58 ?_
      refine fr_mem (y_u43 (ph_m (by first | assumption | omega))) ?_
      refine fr_mem (M1 := (yM M (u2 r 1 pl (nI m)) kr ar ik fi b ln S it mv Q)) (by rw [u2_u2]) ?_
      refine fr_iload (pc := 59) rfl dX5_fits_59 ?_
      refine fr_aload_n (pc := 61) rfl dX5_fits_61 ?_
      refine fr_iload_n (pc := 62) rfl dX5_fits_62 ?_
      refine fr_iload_n (pc := 63) rfl dX5_fits_63 ?_
      refine fr_callV0 (pc := 64) (ci := 4) (T := TX5) (N := 20) [.int (nI s), .int (nI g)] [.int a] (c_X5_isSo (by first | assumption | omega) (by first | assumption | omega) (by assumption) (by assumption)) gc_X5_211 rfl rfl ⟨rfl, rfl, by decide, by decide⟩ (Nat.le_of_ble_eq_true rfl) rfl (by decide) y_42 ⟨by decide, by decide⟩ dX5_fits_64 ?_
      refine fr_if_eq (pc := 67) 74 (by decide) dX5_fits_67 (fun h67 => ?_) (fun h67 => ?_)
      · have g67 := bI_0.mp h67
        refine fr_iconst (pc := 74) (v := 0) rfl dX5_fits_74 ?_
        refine fr_iadd (pc := 75) dX5_fits_75 ?_
        refine fr_nm (fun x6_76 e_x6_76 => ?_)
        refine fr_istore (pc := 76) [(6, .int x6_76), (0, .ref 42), (1, .int (nI s)), (2, .int (nI g)), (4, .int (nI (6 + pl))), (5, .int (r 1 pl)), (7, .int (nI m))] (by decide) rfl dX5_fits_76 ?_
        refine fr_iinc (pc := 78) (v := nI (m + 1)) [(7, .int (nI (m + 1))), (6, .int x6_76), (0, .ref 42), (1, .int (nI s)), (2, .int (nI g)), (4, .int (nI (6 + pl))), (5, .int (r 1 pl))] rfl (nI_1 m) (by decide) rfl dX5_fits_78 ?_
        refine fr_goto (pc := 81) 43 (by decide) dX5_fits_81 ?_
        have q1 : x6_76 = a + (fun m => if s_as (S.1 s) g (S.2.2 s).toNatClampNeg 0 (u2 r 1 pl (nI m)) = true then 1 else 0) m := by rw [e_x6_76]; dsimp only; rw [if_neg g67]
        rw [← q1] at ht ⊢
        exact fr_sub [2, 3, 4, 5, 6, 1, 0] rfl (ht)
      · have g67 := bI_n0 h67
        refine fr_iconst (pc := 70) (v := 1) rfl dX5_fits_70 ?_
        refine fr_goto (pc := 71) 75 (by decide) dX5_fits_71 ?_
        refine fr_iadd (pc := 75) dX5_fits_75 ?_
        refine fr_nm (fun x6_76 e_x6_76 => ?_)
        refine fr_istore (pc := 76) [(6, .int x6_76), (0, .ref 42), (1, .int (nI s)), (2, .int (nI g)), (4, .int (nI (6 + pl))), (5, .int (r 1 pl)), (7, .int (nI m))] (by decide) rfl dX5_fits_76 ?_
        refine fr_iinc (pc := 78) (v := nI (m + 1)) [(7, .int (nI (m + 1))), (6, .int x6_76), (0, .ref 42), (1, .int (nI s)), (2, .int (nI g)), (4, .int (nI (6 + pl))), (5, .int (r 1 pl))] rfl (nI_1 m) (by decide) rfl dX5_fits_78 ?_
        refine fr_goto (pc := 81) 43 (by decide) dX5_fits_81 ?_
        have q1 : x6_76 = a + (fun m => if s_as (S.1 s) g (S.2.2 s).toNatClampNeg 0 (u2 r 1 pl (nI m)) = true then 1 else 0) m := by rw [e_x6_76]; dsimp only; rw [if_pos g67]
        rw [← q1] at ht ⊢
        exact fr_sub [2, 3, 4, 5, 6, 1, 0] rfl (ht)
set_option maxRecDepth 100000 in
theorem y_fits {Γ : aG} {l : Launch} {M : Nat → aC} {r : rT} {kr ar : Nat → Int32} {rk : rT} {ik : Int32} {fi b : Nat → Int32} {ln : Int32} {S : sT} {it mv : Nat → Int32} {Q : yQ} {s g : Int32} (v : wS S) (w : wf r) : ∃ ar' : Nat → Int32, Ev Γ l mX5_fits [.ref 42, .int s, .int g] 54 (yM M r kr ar ik fi b ln S it mv Q) (some (.int (sp_fits (r, rk, ik, S, b, ln, fi) s g).1)) 54 (yF M kr ar' it mv Q (sp_fits (r, rk, ik, S, b, ln, fi) s g).2) := by
  rcases lk (S := S) s with k1 | ⟨i1, hi1, rfl, k1⟩ | ⟨i1, hi1, rfl, k1⟩
  · rw [show sp_fits (r, rk, ik, S, b, ln, fi) s g = fb (r, rk, ik, S, b, ln, fi) 0 from if_neg k1]
    refine ⟨ar, ?_⟩
    refine Ev.of [(0, .ref 42), (1, .int s), (2, .int g)] (by decide) (Nat.le_of_ble_eq_true rfl) rfl ?_
    refine fr_aload_n (pc := 0) rfl dX5_fits_0 ?_
    refine fr_iload_n (pc := 1) rfl dX5_fits_1 ?_
    refine fr_aload_n (pc := 2) rfl dX5_fits_2 ?_
    refine fr_iload_n (pc := 3) rfl dX5_fits_3 ?_
    refine fr_callV0 (pc := 4) (ci := 4) (T := TX5) (N := 20) [.int g] [.int s, .ref 42] (c_X5_isGuest ) gc_X5_131 rfl rfl ⟨rfl, rfl, by decide, by decide⟩ (Nat.le_of_ble_eq_true rfl) rfl (by decide) y_42 ⟨by decide, by decide⟩ dX5_fits_4 ?_
    refine fr_callV0 (pc := 7) (ci := 4) (T := TX5) (N := 20) [.int s, .int (bI (wi g 0 (r 9 1 - 1) = true))] [] (c_yl_0 k1) gc_X5_207 rfl rfl ⟨rfl, rfl, by decide, by decide⟩ (Nat.le_of_ble_eq_true rfl) rfl (by decide) y_42 ⟨by decide, by decide⟩ dX5_fits_7 ?_
    refine fr_istore_n (pc := 10) [(3, .int (-1000001)), (0, .ref 42), (1, .int s), (2, .int g)] (by decide) rfl dX5_fits_10 ?_
    refine fr_iload_n (pc := 11) rfl dX5_fits_11 ?_
    refine fr_if_eq (pc := 12) 21 (by decide) dX5_fits_12 (fun h12 => ?_) (fun h12 => ?_)
    · exact absurd h12 (by decide)
    · refine fr_aload_n (pc := 15) rfl dX5_fits_15 ?_
      refine fr_iload_n (pc := 16) rfl dX5_fits_16 ?_
      refine fr_callV0 (pc := 17) (ci := 4) (T := TX5) (N := 20) [.int (-1000001)] [] (c_fnd0) gc_X5_66 rfl rfl ⟨rfl, rfl, by decide, by decide⟩ (Nat.le_of_ble_eq_true rfl) rfl (by decide) y_42 ⟨by decide, by decide⟩ dX5_fits_17 ?_
      exact fr_ireturn (pc := 20) rfl rfl rfl rfl dX5_fits_20
  · have ei1 : (nI i1).toNatClampNeg = i1 := nI_clamp (by omega)
    rw [show sp_fits (r, rk, ik, S, b, ln, fi) (nI i1) g = fb (r, rk, ik, S, b, ln, fi) 5 from by unfold sp_fits; rw [if_pos (wi3 hi1), ei1]; exact if_pos k1]
    refine ⟨ar, ?_⟩
    refine Ev.of [(0, .ref 42), (1, .int (nI i1)), (2, .int g)] (by decide) (Nat.le_of_ble_eq_true rfl) rfl ?_
    refine fr_aload_n (pc := 0) rfl dX5_fits_0 ?_
    refine fr_iload_n (pc := 1) rfl dX5_fits_1 ?_
    refine fr_aload_n (pc := 2) rfl dX5_fits_2 ?_
    refine fr_iload_n (pc := 3) rfl dX5_fits_3 ?_
    refine fr_callV0 (pc := 4) (ci := 4) (T := TX5) (N := 20) [.int g] [.int (nI i1), .ref 42] (c_X5_isGuest ) gc_X5_131 rfl rfl ⟨rfl, rfl, by decide, by decide⟩ (Nat.le_of_ble_eq_true rfl) rfl (by decide) y_42 ⟨by decide, by decide⟩ dX5_fits_4 ?_
    refine fr_callV0 (pc := 7) (ci := 4) (T := TX5) (N := 20) [.int (nI i1), .int (bI (wi g 0 (r 9 1 - 1) = true))] [] (c_yl_5 hi1 k1) gc_X5_207 rfl rfl ⟨rfl, rfl, by decide, by decide⟩ (Nat.le_of_ble_eq_true rfl) rfl (by decide) y_42 ⟨by decide, by decide⟩ dX5_fits_7 ?_
    refine fr_istore_n (pc := 10) [(3, .int (-1000006)), (0, .ref 42), (1, .int (nI i1)), (2, .int g)] (by decide) rfl dX5_fits_10 ?_
    refine fr_iload_n (pc := 11) rfl dX5_fits_11 ?_
    refine fr_if_eq (pc := 12) 21 (by decide) dX5_fits_12 (fun h12 => ?_) (fun h12 => ?_)
    · exact absurd h12 (by decide)
    · refine fr_aload_n (pc := 15) rfl dX5_fits_15 ?_
      refine fr_iload_n (pc := 16) rfl dX5_fits_16 ?_
      refine fr_callV0 (pc := 17) (ci := 4) (T := TX5) (N := 20) [.int (-1000006)] [] (c_fnd5) gc_X5_66 rfl rfl ⟨rfl, rfl, by decide, by decide⟩ (Nat.le_of_ble_eq_true rfl) rfl (by decide) y_42 ⟨by decide, by decide⟩ dX5_fits_17 ?_
      exact fr_ireturn (pc := 20) rfl rfl rfl rfl dX5_fits_20
  · have ei1 : (nI i1).toNatClampNeg = i1 := nI_clamp (by omega)
    by_cases hc : sG (r, rk, ik, S, b, ln, fi) g = true
    · obtain ⟨i2, hi2, rfl⟩ := sG_nI w hc
      have ei2 : (nI i2).toNatClampNeg = i2 := nI_clamp (by have := w.ctl; omega)
      have li2 : i2 < 8 := by have := w.ctl; omega
      obtain ⟨pl, hpl⟩ : ∃ q, q = s_place r := ⟨_, rfl⟩
      have hpl6 : pl < 6 := by rw [hpl]; exact place_lt
      rw [show sp_fits (r, rk, ik, S, b, ln, fi) (nI i1) (nI i2) = (s_sum (fun m => if s_as (S.1 i1) i2 (S.2.2 i1).toNatClampNeg 0 (u2 r 1 pl (nI m)) = true then 1 else 0) 21 16 0, (r, rk, ik, S, b, ln, fi)) from by unfold sp_fits; rw [if_pos (wi3 hi1), ei1, ei2, hpl]; exact (if_neg k1).trans (if_pos hc)]
      obtain ⟨ar', ht⟩ := yf_loop (Γ := Γ) (l := l) (M := M) (kr := kr) (ik := ik) (fi := fi) (b := b) (ln := ln) (S := S) (it := it) (mv := mv) (Q := Q) (rk := rk) (s := i1) (g := i2) (pl := pl) hi1 li2 v w hpl6 21 16 0 (r 1 pl) ar rfl
      refine ⟨ar', ?_⟩
      refine Ev.of [(0, .ref 42), (1, .int (nI i1)), (2, .int (nI i2))] (by decide) (Nat.le_of_ble_eq_true rfl) rfl ?_
      refine fr_aload_n (pc := 0) rfl dX5_fits_0 ?_
      refine fr_iload_n (pc := 1) rfl dX5_fits_1 ?_
      refine fr_aload_n (pc := 2) rfl dX5_fits_2 ?_
      refine fr_iload_n (pc := 3) rfl dX5_fits_3 ?_
      refine fr_callV0 (pc := 4) (ci := 4) (T := TX5) (N := 20) [.int (nI i2)] [.int (nI i1), .ref 42] (c_X5_isGuest ) gc_X5_131 rfl rfl ⟨rfl, rfl, by decide, by decide⟩ (Nat.le_of_ble_eq_true rfl) rfl (by decide) y_42 ⟨by decide, by decide⟩ dX5_fits_4 ?_
      refine fr_callV0 (pc := 7) (ci := 4) (T := TX5) (N := 20) [.int (nI i1), .int (bI (wi (nI i2) 0 (r 9 1 - 1) = true))] [] (c_yl_g hi1 k1 (fun z => bI_0.mp z hc)) gc_X5_207 rfl rfl ⟨rfl, rfl, by decide, by decide⟩ (Nat.le_of_ble_eq_true rfl) rfl (by decide) y_42 ⟨by decide, by decide⟩ dX5_fits_7 ?_
      refine fr_istore_n (pc := 10) [(3, .int 0), (0, .ref 42), (1, .int (nI i1)), (2, .int (nI i2))] (by decide) rfl dX5_fits_10 ?_
      refine fr_iload_n (pc := 11) rfl dX5_fits_11 ?_
      refine fr_if_eq (pc := 12) 21 (by decide) dX5_fits_12 (fun h12 => ?_) (fun h12 => ?_)
      · refine fr_aload_n (pc := 21) rfl dX5_fits_21 ?_
        refine fr_callV0 (pc := 22) (ci := 4) (T := TX5) (N := 20) [] [] (c_X5_placeNow (by assumption)) gc_X5_94 rfl rfl ⟨rfl, rfl, by decide, by decide⟩ (Nat.le_of_ble_eq_true rfl) rfl (by decide) y_42 ⟨by decide, by decide⟩ dX5_fits_22 ?_
        refine fr_eq (z := nI (6 + pl)) (by rw [hpl]) ?_
        refine fr_istore (pc := 25) [(4, .int (nI (6 + pl))), (3, .int 0), (0, .ref 42), (1, .int (nI i1)), (2, .int (nI i2))] (by decide) rfl dX5_fits_25 ?_
        refine fr_aload_n (pc := 27) rfl dX5_fits_27 ?_
        refine fr_get (pc := 28) (ci := 4) (T := TX5) (k0 := 0) rfl hin_X5 (by decide) fl_X5_9 (by decide) y_42 rfl dX5_fits_28 ?_
        refine fr_iload (pc := 31) rfl dX5_fits_31 ?_
        refine fr_iald (pc := 33) (6 + pl) rfl (by decide) y_43 (by first | assumption | omega) (by decide) dX5_fits_33 ?_
        refine fr_eq (z := r 1 pl) (row_at (ph_m (by first | assumption | omega))) ?_
        refine fr_nm (fun x5_34 e_x5_34 => ?_)
        refine fr_istore (pc := 34) [(5, .int x5_34), (4, .int (nI (6 + pl))), (3, .int 0), (0, .ref 42), (1, .int (nI i1)), (2, .int (nI i2))] (by decide) rfl dX5_fits_34 ?_
        refine fr_iconst (pc := 36) (v := 0) rfl dX5_fits_36 ?_
        refine fr_istore (pc := 37) [(6, .int 0), (5, .int x5_34), (4, .int (nI (6 + pl))), (3, .int 0), (0, .ref 42), (1, .int (nI i1)), (2, .int (nI i2))] (by decide) rfl dX5_fits_37 ?_
        refine fr_bipush (pc := 39) (v := 16) rfl dX5_fits_39 ?_
        refine fr_istore (pc := 41) [(7, .int 16), (6, .int 0), (5, .int x5_34), (4, .int (nI (6 + pl))), (3, .int 0), (0, .ref 42), (1, .int (nI i1)), (2, .int (nI i2))] (by decide) rfl dX5_fits_41 ?_
        refine fr_mem (M1 := (yM M (u2 r 1 pl (r 1 pl)) kr ar ik fi b ln S it mv Q)) (by rw [u2_self rfl]) ?_
        subst e_x5_34
        exact fr_sub [5, 6, 7, 3, 2, 1, 0] rfl (ht)
      · exact absurd rfl h12
    · rw [show sp_fits (r, rk, ik, S, b, ln, fi) (nI i1) g = fb (r, rk, ik, S, b, ln, fi) 0 from by unfold sp_fits; rw [if_pos (wi3 hi1), ei1]; exact (if_neg k1).trans (if_neg hc)]
      refine ⟨ar, ?_⟩
      refine Ev.of [(0, .ref 42), (1, .int (nI i1)), (2, .int g)] (by decide) (Nat.le_of_ble_eq_true rfl) rfl ?_
      refine fr_aload_n (pc := 0) rfl dX5_fits_0 ?_
      refine fr_iload_n (pc := 1) rfl dX5_fits_1 ?_
      refine fr_aload_n (pc := 2) rfl dX5_fits_2 ?_
      refine fr_iload_n (pc := 3) rfl dX5_fits_3 ?_
      refine fr_callV0 (pc := 4) (ci := 4) (T := TX5) (N := 20) [.int g] [.int (nI i1), .ref 42] (c_X5_isGuest ) gc_X5_131 rfl rfl ⟨rfl, rfl, by decide, by decide⟩ (Nat.le_of_ble_eq_true rfl) rfl (by decide) y_42 ⟨by decide, by decide⟩ dX5_fits_4 ?_
      refine fr_callV0 (pc := 7) (ci := 4) (T := TX5) (N := 20) [.int (nI i1), .int (bI (wi g 0 (r 9 1 - 1) = true))] [] (c_yl_b hi1 k1 (bI_f hc)) gc_X5_207 rfl rfl ⟨rfl, rfl, by decide, by decide⟩ (Nat.le_of_ble_eq_true rfl) rfl (by decide) y_42 ⟨by decide, by decide⟩ dX5_fits_7 ?_
      refine fr_istore_n (pc := 10) [(3, .int (-1000001)), (0, .ref 42), (1, .int (nI i1)), (2, .int g)] (by decide) rfl dX5_fits_10 ?_
      refine fr_iload_n (pc := 11) rfl dX5_fits_11 ?_
      refine fr_if_eq (pc := 12) 21 (by decide) dX5_fits_12 (fun h12 => ?_) (fun h12 => ?_)
      · exact absurd h12 (by decide)
      · refine fr_aload_n (pc := 15) rfl dX5_fits_15 ?_
        refine fr_iload_n (pc := 16) rfl dX5_fits_16 ?_
        refine fr_callV0 (pc := 17) (ci := 4) (T := TX5) (N := 20) [.int (-1000001)] [] (c_fnd0) gc_X5_66 rfl rfl ⟨rfl, rfl, by decide, by decide⟩ (Nat.le_of_ble_eq_true rfl) rfl (by decide) y_42 ⟨by decide, by decide⟩ dX5_fits_17 ?_
        exact fr_ireturn (pc := 20) rfl rfl rfl rfl dX5_fits_20
set_option maxRecDepth 100000 in
theorem yq_loop {Γ : aG} {l : Launch} {M : Nat → aC} {r : rT} {kr : Nat → Int32} {rk : rT} {ik : Int32} {fi b : Nat → Int32} {ln : Int32} {S : sT} {it mv : Nat → Int32} {Q : yQ} {s g : Nat} (hs : s < 4) (hg : g < 8) (v : wS S) (w : wf r) : ∀ (j k : Nat) (a z : Int32) (ar : Nat → Int32), k + j = 7 → ∃ ar' : Nat → Int32, Fr Γ l mX5_kinds 43 [(0, .ref 42), (1, .int (nI s)), (2, .int (nI g)), (4, .int (nI (38 + 6 * g + 0))), (5, .int (r 2 g)), (6, .int a), (7, .int (nI k))] [] 54 0 0 (yM M (u2 r 2 g z) kr ar ik fi b ln S it mv Q) (some (.int (s_set (fun k => s_as (S.1 s) g (S.2.2 s).toNatClampNeg 0 (u2 r 2 g (nI k))) j k a))) 54 (yM M r kr ar' ik fi b ln S it mv Q) := by
  intro j
  induction j with
  | zero =>
    intro k a z ar hm
    refine ⟨ar, ?_⟩
    refine fr_iload (pc := 43) rfl dX5_kinds_43 ?_
    refine fr_bipush (pc := 45) (v := 6) rfl dX5_kinds_45 ?_
    refine fr_icmp_gt (pc := 47) 87 (by decide) dX5_kinds_47 (fun h47 => ?_) (fun h47 => ?_)
    · refine fr_aload_n (pc := 87) rfl dX5_kinds_87 ?_
      refine fr_get (pc := 88) (ci := 4) (T := TX5) (k0 := 0) rfl hin_X5 (by decide) fl_X5_9 (by decide) y_42 rfl dX5_kinds_88 ?_
      refine fr_iload (pc := 91) rfl dX5_kinds_91 ?_
      refine fr_iload (pc := 93) rfl dX5_kinds_93 ?_
      refine fr_iast (pc := 95) (38 + 6 * g + 0) rfl (by decide) y_43 (by first | assumption | omega) (by decide) dX5_kinds_95 ?_
      refine fr_mem (y_u43 (ph_g (k := 0) (by first | decide | assumption | omega))) ?_
      refine fr_mem (M1 := (yM M r kr ar ik fi b ln S it mv Q)) (by rw [u2_u2, u2_self rfl]) ?_
      refine fr_iload (pc := 96) rfl dX5_kinds_96 ?_
      exact fr_ireturn (pc := 98) rfl rfl rfl rfl dX5_kinds_98
    · exact absurd (nI_lt (a := 6) (b := k) (by omega) (by omega)) h47
  | succ j ih =>
    intro k a z ar hm
    have w1 : wf (u2 r 2 g (nI k)) := wf_u w (fun z => by omega) (fun z => okv_nI (by omega) (by decide)) (fun z => by omega) (fun z => by omega) (fun z => by omega) (by decide)
    obtain ⟨ar', ht⟩ := ih (k + 1) (a ||| (if (fun k => s_as (S.1 s) g (S.2.2 s).toNatClampNeg 0 (u2 r 2 g (nI k))) k = true then 1 <<< (nI k &&& 31) else 0)) (nI k) (row (u2 r 2 g (nI k))) (by omega)
    refine ⟨ar', ?_⟩
    rw [s_set]
    refine fr_iload (pc := 43) rfl dX5_kinds_43 ?_
    refine fr_bipush (pc := 45) (v := 6) rfl dX5_kinds_45 ?_
    refine fr_icmp_gt (pc := 47) 87 (by decide) dX5_kinds_47 (fun h47 => ?_) (fun h47 => ?_)
    · exact absurd h47 (nI_nlt (a := 6) (b := k) (by omega) (by omega))
    · refine fr_aload_n (pc := 50) rfl dX5_kinds_50 ?_
      refine fr_get (pc := 51) (ci := 4) (T := TX5) (k0 := 0) rfl hin_X5 (by decide) fl_X5_9 (by decide) y_42 rfl dX5_kinds_51 ?_
      refine fr_iload (pc := 54) rfl dX5_kinds_54 ?_
      refine fr_iload (pc := 56) rfl dX5_kinds_56 ?_
      refine fr_iast (pc := 58) (38 + 6 * g + 0) rfl (by decide) y_43 (by first | assumption | omega) (by decide) dX5_kinds_58 ?_
      refine fr_mem (y_u43 (ph_g (k := 0) (by first | decide | assumption | omega))) ?_
      refine fr_mem (M1 := (yM M (u2 r 2 g (nI k)) kr ar ik fi b ln S it mv Q)) (by rw [u2_u2]) ?_
      refine fr_iload (pc := 59) rfl dX5_kinds_59 ?_
      refine fr_aload_n (pc := 61) rfl dX5_kinds_61 ?_
      refine fr_iload_n (pc := 62) rfl dX5_kinds_62 ?_
      refine fr_iload_n (pc := 63) rfl dX5_kinds_63 ?_
      refine fr_callV0 (pc := 64) (ci := 4) (T := TX5) (N := 20) [.int (nI s), .int (nI g)] [.int a] (c_X5_isSo (by first | assumption | omega) (by first | assumption | omega) (by assumption) (by assumption)) gc_X5_211 rfl rfl ⟨rfl, rfl, by decide, by decide⟩ (Nat.le_of_ble_eq_true rfl) rfl (by decide) y_42 ⟨by decide, by decide⟩ dX5_kinds_64 ?_
      refine fr_if_eq (pc := 67) 77 (by decide) dX5_kinds_67 (fun h67 => ?_) (fun h67 => ?_)
      · have g67 := bI_0.mp h67
        refine fr_iconst (pc := 77) (v := 0) rfl dX5_kinds_77 ?_
        refine fr_ior (pc := 78) dX5_kinds_78 ?_
        refine fr_nm (fun x6_79 e_x6_79 => ?_)
        refine fr_istore (pc := 79) [(6, .int x6_79), (0, .ref 42), (1, .int (nI s)), (2, .int (nI g)), (4, .int (nI (38 + 6 * g + 0))), (5, .int (r 2 g)), (7, .int (nI k))] (by decide) rfl dX5_kinds_79 ?_
        refine fr_iinc (pc := 81) (v := nI (k + 1)) [(7, .int (nI (k + 1))), (6, .int x6_79), (0, .ref 42), (1, .int (nI s)), (2, .int (nI g)), (4, .int (nI (38 + 6 * g + 0))), (5, .int (r 2 g))] rfl (nI_1 k) (by decide) rfl dX5_kinds_81 ?_
        refine fr_goto (pc := 84) 43 (by decide) dX5_kinds_84 ?_
        have q1 : x6_79 = (a ||| (if (fun k => s_as (S.1 s) g (S.2.2 s).toNatClampNeg 0 (u2 r 2 g (nI k))) k = true then 1 <<< (nI k &&& 31) else 0)) := by rw [e_x6_79]; dsimp only; rw [if_neg g67]
        rw [← q1] at ht ⊢
        exact fr_sub [2, 3, 4, 5, 6, 1, 0] rfl (ht)
      · have g67 := bI_n0 h67
        refine fr_iconst (pc := 70) (v := 1) rfl dX5_kinds_70 ?_
        refine fr_iload (pc := 71) rfl dX5_kinds_71 ?_
        refine fr_ishl (pc := 73) dX5_kinds_73 ?_
        refine fr_goto (pc := 74) 78 (by decide) dX5_kinds_74 ?_
        refine fr_ior (pc := 78) dX5_kinds_78 ?_
        refine fr_nm (fun x6_79 e_x6_79 => ?_)
        refine fr_istore (pc := 79) [(6, .int x6_79), (0, .ref 42), (1, .int (nI s)), (2, .int (nI g)), (4, .int (nI (38 + 6 * g + 0))), (5, .int (r 2 g)), (7, .int (nI k))] (by decide) rfl dX5_kinds_79 ?_
        refine fr_iinc (pc := 81) (v := nI (k + 1)) [(7, .int (nI (k + 1))), (6, .int x6_79), (0, .ref 42), (1, .int (nI s)), (2, .int (nI g)), (4, .int (nI (38 + 6 * g + 0))), (5, .int (r 2 g))] rfl (nI_1 k) (by decide) rfl dX5_kinds_81 ?_
        refine fr_goto (pc := 84) 43 (by decide) dX5_kinds_84 ?_
        have q1 : x6_79 = (a ||| (if (fun k => s_as (S.1 s) g (S.2.2 s).toNatClampNeg 0 (u2 r 2 g (nI k))) k = true then 1 <<< (nI k &&& 31) else 0)) := by rw [e_x6_79]; dsimp only; rw [if_pos g67]
        rw [← q1] at ht ⊢
        exact fr_sub [2, 3, 4, 5, 6, 1, 0] rfl (ht)
set_option maxRecDepth 100000 in
theorem y_kinds {Γ : aG} {l : Launch} {M : Nat → aC} {r : rT} {kr ar : Nat → Int32} {rk : rT} {ik : Int32} {fi b : Nat → Int32} {ln : Int32} {S : sT} {it mv : Nat → Int32} {Q : yQ} {s g : Int32} (v : wS S) (w : wf r) : ∃ ar' : Nat → Int32, Ev Γ l mX5_kinds [.ref 42, .int s, .int g] 54 (yM M r kr ar ik fi b ln S it mv Q) (some (.int (sp_kinds (r, rk, ik, S, b, ln, fi) s g).1)) 54 (yF M kr ar' it mv Q (sp_kinds (r, rk, ik, S, b, ln, fi) s g).2) := by
  rcases lk (S := S) s with k1 | ⟨i1, hi1, rfl, k1⟩ | ⟨i1, hi1, rfl, k1⟩
  · rw [show sp_kinds (r, rk, ik, S, b, ln, fi) s g = fb (r, rk, ik, S, b, ln, fi) 0 from if_neg k1]
    refine ⟨ar, ?_⟩
    refine Ev.of [(0, .ref 42), (1, .int s), (2, .int g)] (by decide) (Nat.le_of_ble_eq_true rfl) rfl ?_
    refine fr_aload_n (pc := 0) rfl dX5_kinds_0 ?_
    refine fr_iload_n (pc := 1) rfl dX5_kinds_1 ?_
    refine fr_aload_n (pc := 2) rfl dX5_kinds_2 ?_
    refine fr_iload_n (pc := 3) rfl dX5_kinds_3 ?_
    refine fr_callV0 (pc := 4) (ci := 4) (T := TX5) (N := 20) [.int g] [.int s, .ref 42] (c_X5_isGuest ) gc_X5_131 rfl rfl ⟨rfl, rfl, by decide, by decide⟩ (Nat.le_of_ble_eq_true rfl) rfl (by decide) y_42 ⟨by decide, by decide⟩ dX5_kinds_4 ?_
    refine fr_callV0 (pc := 7) (ci := 4) (T := TX5) (N := 20) [.int s, .int (bI (wi g 0 (r 9 1 - 1) = true))] [] (c_yl_0 k1) gc_X5_207 rfl rfl ⟨rfl, rfl, by decide, by decide⟩ (Nat.le_of_ble_eq_true rfl) rfl (by decide) y_42 ⟨by decide, by decide⟩ dX5_kinds_7 ?_
    refine fr_istore_n (pc := 10) [(3, .int (-1000001)), (0, .ref 42), (1, .int s), (2, .int g)] (by decide) rfl dX5_kinds_10 ?_
    refine fr_iload_n (pc := 11) rfl dX5_kinds_11 ?_
    refine fr_if_eq (pc := 12) 21 (by decide) dX5_kinds_12 (fun h12 => ?_) (fun h12 => ?_)
    · exact absurd h12 (by decide)
    · refine fr_aload_n (pc := 15) rfl dX5_kinds_15 ?_
      refine fr_iload_n (pc := 16) rfl dX5_kinds_16 ?_
      refine fr_callV0 (pc := 17) (ci := 4) (T := TX5) (N := 20) [.int (-1000001)] [] (c_fnd0) gc_X5_66 rfl rfl ⟨rfl, rfl, by decide, by decide⟩ (Nat.le_of_ble_eq_true rfl) rfl (by decide) y_42 ⟨by decide, by decide⟩ dX5_kinds_17 ?_
      exact fr_ireturn (pc := 20) rfl rfl rfl rfl dX5_kinds_20
  · have ei1 : (nI i1).toNatClampNeg = i1 := nI_clamp (by omega)
    rw [show sp_kinds (r, rk, ik, S, b, ln, fi) (nI i1) g = fb (r, rk, ik, S, b, ln, fi) 5 from by unfold sp_kinds; rw [if_pos (wi3 hi1), ei1]; exact if_pos k1]
    refine ⟨ar, ?_⟩
    refine Ev.of [(0, .ref 42), (1, .int (nI i1)), (2, .int g)] (by decide) (Nat.le_of_ble_eq_true rfl) rfl ?_
    refine fr_aload_n (pc := 0) rfl dX5_kinds_0 ?_
    refine fr_iload_n (pc := 1) rfl dX5_kinds_1 ?_
    refine fr_aload_n (pc := 2) rfl dX5_kinds_2 ?_
    refine fr_iload_n (pc := 3) rfl dX5_kinds_3 ?_
    refine fr_callV0 (pc := 4) (ci := 4) (T := TX5) (N := 20) [.int g] [.int (nI i1), .ref 42] (c_X5_isGuest ) gc_X5_131 rfl rfl ⟨rfl, rfl, by decide, by decide⟩ (Nat.le_of_ble_eq_true rfl) rfl (by decide) y_42 ⟨by decide, by decide⟩ dX5_kinds_4 ?_
    refine fr_callV0 (pc := 7) (ci := 4) (T := TX5) (N := 20) [.int (nI i1), .int (bI (wi g 0 (r 9 1 - 1) = true))] [] (c_yl_5 hi1 k1) gc_X5_207 rfl rfl ⟨rfl, rfl, by decide, by decide⟩ (Nat.le_of_ble_eq_true rfl) rfl (by decide) y_42 ⟨by decide, by decide⟩ dX5_kinds_7 ?_
    refine fr_istore_n (pc := 10) [(3, .int (-1000006)), (0, .ref 42), (1, .int (nI i1)), (2, .int g)] (by decide) rfl dX5_kinds_10 ?_
    refine fr_iload_n (pc := 11) rfl dX5_kinds_11 ?_
    refine fr_if_eq (pc := 12) 21 (by decide) dX5_kinds_12 (fun h12 => ?_) (fun h12 => ?_)
    · exact absurd h12 (by decide)
    · refine fr_aload_n (pc := 15) rfl dX5_kinds_15 ?_
      refine fr_iload_n (pc := 16) rfl dX5_kinds_16 ?_
      refine fr_callV0 (pc := 17) (ci := 4) (T := TX5) (N := 20) [.int (-1000006)] [] (c_fnd5) gc_X5_66 rfl rfl ⟨rfl, rfl, by decide, by decide⟩ (Nat.le_of_ble_eq_true rfl) rfl (by decide) y_42 ⟨by decide, by decide⟩ dX5_kinds_17 ?_
      exact fr_ireturn (pc := 20) rfl rfl rfl rfl dX5_kinds_20
  · have ei1 : (nI i1).toNatClampNeg = i1 := nI_clamp (by omega)
    by_cases hc : sG (r, rk, ik, S, b, ln, fi) g = true
    · obtain ⟨i2, hi2, rfl⟩ := sG_nI w hc
      have ei2 : (nI i2).toNatClampNeg = i2 := nI_clamp (by have := w.ctl; omega)
      have li2 : i2 < 8 := by have := w.ctl; omega
      rw [show sp_kinds (r, rk, ik, S, b, ln, fi) (nI i1) (nI i2) = (s_set (fun k => s_as (S.1 i1) i2 (S.2.2 i1).toNatClampNeg 0 (u2 r 2 i2 (nI k))) 7 0 0, (r, rk, ik, S, b, ln, fi)) from by unfold sp_kinds; rw [if_pos (wi3 hi1), ei1, ei2]; exact (if_neg k1).trans (if_pos hc)]
      obtain ⟨ar', ht⟩ := yq_loop (Γ := Γ) (l := l) (M := M) (kr := kr) (ik := ik) (fi := fi) (b := b) (ln := ln) (S := S) (it := it) (mv := mv) (Q := Q) (rk := rk) (s := i1) (g := i2) hi1 li2 v w 7 0 0 (r 2 i2) ar rfl
      refine ⟨ar', ?_⟩
      refine Ev.of [(0, .ref 42), (1, .int (nI i1)), (2, .int (nI i2))] (by decide) (Nat.le_of_ble_eq_true rfl) rfl ?_
      refine fr_aload_n (pc := 0) rfl dX5_kinds_0 ?_
      refine fr_iload_n (pc := 1) rfl dX5_kinds_1 ?_
      refine fr_aload_n (pc := 2) rfl dX5_kinds_2 ?_
      refine fr_iload_n (pc := 3) rfl dX5_kinds_3 ?_
      refine fr_callV0 (pc := 4) (ci := 4) (T := TX5) (N := 20) [.int (nI i2)] [.int (nI i1), .ref 42] (c_X5_isGuest ) gc_X5_131 rfl rfl ⟨rfl, rfl, by decide, by decide⟩ (Nat.le_of_ble_eq_true rfl) rfl (by decide) y_42 ⟨by decide, by decide⟩ dX5_kinds_4 ?_
      refine fr_callV0 (pc := 7) (ci := 4) (T := TX5) (N := 20) [.int (nI i1), .int (bI (wi (nI i2) 0 (r 9 1 - 1) = true))] [] (c_yl_g hi1 k1 (fun z => bI_0.mp z hc)) gc_X5_207 rfl rfl ⟨rfl, rfl, by decide, by decide⟩ (Nat.le_of_ble_eq_true rfl) rfl (by decide) y_42 ⟨by decide, by decide⟩ dX5_kinds_7 ?_
      refine fr_istore_n (pc := 10) [(3, .int 0), (0, .ref 42), (1, .int (nI i1)), (2, .int (nI i2))] (by decide) rfl dX5_kinds_10 ?_
      refine fr_iload_n (pc := 11) rfl dX5_kinds_11 ?_
      refine fr_if_eq (pc := 12) 21 (by decide) dX5_kinds_12 (fun h12 => ?_) (fun h12 => ?_)
      · refine fr_iload_n (pc := 21) rfl dX5_kinds_21 ?_
        refine fr_iconst (pc := 22) (v := 0) rfl dX5_kinds_22 ?_
        refine fr_callS0 (pc := 23) [.int (nI i2), .int 0] [] (c_X5_guestAt (g := i2) (k := 0)) gc_X5_106 rfl rfl ⟨rfl, rfl, by decide, by decide⟩ (Nat.le_of_ble_eq_true rfl) ⟨by decide, by decide⟩ dX5_kinds_23 ?_
        refine fr_istore (pc := 26) [(4, .int (nI (38 + 6 * i2 + 0))), (3, .int 0), (0, .ref 42), (1, .int (nI i1)), (2, .int (nI i2))] (by decide) rfl dX5_kinds_26 ?_
        refine fr_aload_n (pc := 28) rfl dX5_kinds_28 ?_
        refine fr_get (pc := 29) (ci := 4) (T := TX5) (k0 := 0) rfl hin_X5 (by decide) fl_X5_9 (by decide) y_42 rfl dX5_kinds_29 ?_
        refine fr_iload (pc := 32) rfl dX5_kinds_32 ?_
        refine fr_iald (pc := 34) (38 + 6 * i2 + 0) rfl (by decide) y_43 (by first | assumption | omega) (by decide) dX5_kinds_34 ?_
        refine fr_eq (z := r 2 i2) (row_at (ph_g (k := 0) (by first | decide | assumption | omega))) ?_
        refine fr_nm (fun x5_35 e_x5_35 => ?_)
        refine fr_istore (pc := 35) [(5, .int x5_35), (4, .int (nI (38 + 6 * i2 + 0))), (3, .int 0), (0, .ref 42), (1, .int (nI i1)), (2, .int (nI i2))] (by decide) rfl dX5_kinds_35 ?_
        refine fr_iconst (pc := 37) (v := 0) rfl dX5_kinds_37 ?_
        refine fr_istore (pc := 38) [(6, .int 0), (5, .int x5_35), (4, .int (nI (38 + 6 * i2 + 0))), (3, .int 0), (0, .ref 42), (1, .int (nI i1)), (2, .int (nI i2))] (by decide) rfl dX5_kinds_38 ?_
        refine fr_iconst (pc := 40) (v := 0) rfl dX5_kinds_40 ?_
        refine fr_istore (pc := 41) [(7, .int 0), (6, .int 0), (5, .int x5_35), (4, .int (nI (38 + 6 * i2 + 0))), (3, .int 0), (0, .ref 42), (1, .int (nI i1)), (2, .int (nI i2))] (by decide) rfl dX5_kinds_41 ?_
        refine fr_mem (M1 := (yM M (u2 r 2 i2 (r 2 i2)) kr ar ik fi b ln S it mv Q)) (by rw [u2_self rfl]) ?_
        subst e_x5_35
        exact fr_sub [5, 6, 7, 3, 2, 1, 0] rfl (ht)
      · exact absurd rfl h12
    · rw [show sp_kinds (r, rk, ik, S, b, ln, fi) (nI i1) g = fb (r, rk, ik, S, b, ln, fi) 0 from by unfold sp_kinds; rw [if_pos (wi3 hi1), ei1]; exact (if_neg k1).trans (if_neg hc)]
      refine ⟨ar, ?_⟩
      refine Ev.of [(0, .ref 42), (1, .int (nI i1)), (2, .int g)] (by decide) (Nat.le_of_ble_eq_true rfl) rfl ?_
      refine fr_aload_n (pc := 0) rfl dX5_kinds_0 ?_
      refine fr_iload_n (pc := 1) rfl dX5_kinds_1 ?_
      refine fr_aload_n (pc := 2) rfl dX5_kinds_2 ?_
      refine fr_iload_n (pc := 3) rfl dX5_kinds_3 ?_
      refine fr_callV0 (pc := 4) (ci := 4) (T := TX5) (N := 20) [.int g] [.int (nI i1), .ref 42] (c_X5_isGuest ) gc_X5_131 rfl rfl ⟨rfl, rfl, by decide, by decide⟩ (Nat.le_of_ble_eq_true rfl) rfl (by decide) y_42 ⟨by decide, by decide⟩ dX5_kinds_4 ?_
      refine fr_callV0 (pc := 7) (ci := 4) (T := TX5) (N := 20) [.int (nI i1), .int (bI (wi g 0 (r 9 1 - 1) = true))] [] (c_yl_b hi1 k1 (bI_f hc)) gc_X5_207 rfl rfl ⟨rfl, rfl, by decide, by decide⟩ (Nat.le_of_ble_eq_true rfl) rfl (by decide) y_42 ⟨by decide, by decide⟩ dX5_kinds_7 ?_
      refine fr_istore_n (pc := 10) [(3, .int (-1000001)), (0, .ref 42), (1, .int (nI i1)), (2, .int g)] (by decide) rfl dX5_kinds_10 ?_
      refine fr_iload_n (pc := 11) rfl dX5_kinds_11 ?_
      refine fr_if_eq (pc := 12) 21 (by decide) dX5_kinds_12 (fun h12 => ?_) (fun h12 => ?_)
      · exact absurd h12 (by decide)
      · refine fr_aload_n (pc := 15) rfl dX5_kinds_15 ?_
        refine fr_iload_n (pc := 16) rfl dX5_kinds_16 ?_
        refine fr_callV0 (pc := 17) (ci := 4) (T := TX5) (N := 20) [.int (-1000001)] [] (c_fnd0) gc_X5_66 rfl rfl ⟨rfl, rfl, by decide, by decide⟩ (Nat.le_of_ble_eq_true rfl) rfl (by decide) y_42 ⟨by decide, by decide⟩ dX5_kinds_17 ?_
        exact fr_ireturn (pc := 20) rfl rfl rfl rfl dX5_kinds_20
set_option maxRecDepth 100000 in
theorem c_X5_drawn {Γ : aG} {l : Launch} {M : Nat → aC} {r : rT} {kr ar : Nat → Int32} {ik : Int32} {fi b : Nat → Int32} {ln : Int32} {S : sT} {it mv : Nat → Int32} {Q : yQ}  : Ev Γ l mX5_drawn [.ref 42] 54 (yM M r kr ar ik fi b ln S it mv Q) (some (.int (s_zd (s_z r)))) 54 (yM M (u2 r 9 2 (s_z r)) kr ar ik fi b ln S it mv Q) := by
  refine Ev.of [(0, .ref 42)] (by decide) (Nat.le_of_ble_eq_true rfl) rfl ?_
  refine fr_aload_n (pc := 0) rfl dX5_drawn_0 ?_
  refine fr_get (pc := 1) (ci := 4) (T := TX5) (k0 := 0) rfl hin_X5 (by decide) fl_X5_9 (by decide) y_42 rfl dX5_drawn_1 ?_
  refine fr_iconst (pc := 4) (v := 2) rfl dX5_drawn_4 ?_
  refine fr_aload_n (pc := 5) rfl dX5_drawn_5 ?_
  refine fr_get (pc := 6) (ci := 4) (T := TX5) (k0 := 0) rfl hin_X5 (by decide) fl_X5_9 (by decide) y_42 rfl dX5_drawn_6 ?_
  refine fr_iconst (pc := 9) (v := 2) rfl dX5_drawn_9 ?_
  refine fr_iald (pc := 10) 2 rfl (by decide) y_43 (by decide) (by decide) dX5_drawn_10 ?_
  refine fr_eq (z := r 9 2) (row_at (ph_l (by decide))) ?_
  refine fr_ldc (pc := 11) kc_X5_214 dX5_drawn_11 ?_
  refine fr_imul (pc := 13) dX5_drawn_13 ?_
  refine fr_sipush (pc := 14) (v := 12345) rfl dX5_drawn_14 ?_
  refine fr_iadd (pc := 17) dX5_drawn_17 ?_
  refine fr_eq (z := s_z r) rfl ?_
  refine fr_iast (pc := 18) 2 rfl (by decide) y_43 (by decide) (by decide) dX5_drawn_18 ?_
  refine fr_mem (y_u43 (ph_l (by decide))) ?_
  refine fr_aload_n (pc := 19) rfl dX5_drawn_19 ?_
  refine fr_get (pc := 20) (ci := 4) (T := TX5) (k0 := 0) rfl hin_X5 (by decide) fl_X5_9 (by decide) y_42 rfl dX5_drawn_20 ?_
  refine fr_iconst (pc := 23) (v := 2) rfl dX5_drawn_23 ?_
  refine fr_iald (pc := 24) 2 rfl (by decide) y_43 (by decide) (by decide) dX5_drawn_24 ?_
  refine fr_eq (z := (u2 r 9 2 (s_z r)) 9 2) (row_at (ph_l (by decide))) ?_
  refine fr_eq (z := s_z r) u2_s ?_
  refine fr_bipush (pc := 25) (v := 8) rfl dX5_drawn_25 ?_
  refine fr_iushr (pc := 27) dX5_drawn_27 ?_
  exact fr_ireturn (pc := 28) rfl rfl rfl rfl dX5_drawn_28
set_option maxRecDepth 100000 in
theorem yp_loop {Γ : aG} {l : Launch} {M : Nat → aC} {kr ar : Nat → Int32} {ik : Int32} {fi b : Nat → Int32} {ln : Int32} {S : sT} {it mv : Nat → Int32} {Q : yQ} {N : Nat} (hN : N < 1000) : ∀ (j i : Nat) (r : rT), wf r → i + j = N → Fr Γ l mX5_party 39 [(0, .ref 42), (1, .int (nI N)), (2, .int (nI i))] [] 54 0 0 (yM M r kr ar ik fi b ln S it mv Q) (some (.int (s_prt j r 9 4))) 54 (yM M (s_prt j r) kr ar ik fi b ln S it mv Q) := by
  intro j
  induction j with
  | zero =>
    intro i r w hi
    refine fr_iload_n (pc := 39) rfl dX5_party_39 ?_
    refine fr_iload_n (pc := 40) rfl dX5_party_40 ?_
    refine fr_icmp_ge (pc := 41) 116 (by decide) dX5_party_41 (fun h41 => ?_) (fun h41 => ?_)
    · refine fr_aload_n (pc := 116) rfl dX5_party_116 ?_
      refine fr_get (pc := 117) (ci := 4) (T := TX5) (k0 := 0) rfl hin_X5 (by decide) fl_X5_9 (by decide) y_42 rfl dX5_party_117 ?_
      refine fr_iconst (pc := 120) (v := 4) rfl dX5_party_120 ?_
      refine fr_iald (pc := 121) 4 rfl (by decide) y_43 (by decide) (by decide) dX5_party_121 ?_
      refine fr_eq (z := r 9 4) (row_at (ph_l (by decide))) ?_
      exact fr_ireturn (pc := 122) rfl rfl rfl rfl dX5_party_122
    · exact absurd (by rw [← hi]; exact Int32.le_refl _) h41
  | succ j ih =>
    intro i r w hi
    refine fr_iload_n (pc := 39) rfl dX5_party_39 ?_
    refine fr_iload_n (pc := 40) rfl dX5_party_40 ?_
    refine fr_icmp_ge (pc := 41) 116 (by decide) dX5_party_41 (fun h41 => ?_) (fun h41 => ?_)
    · exact absurd h41 (nI_ge (by omega) (by omega))
    · refine fr_bipush (pc := 44) (v := 16) rfl dX5_party_44 ?_
      refine fr_aload_n (pc := 46) rfl dX5_party_46 ?_
      refine fr_callV0 (pc := 47) (ci := 4) (T := TX5) (N := 20) [] [.int 16] (c_X5_drawn ) gc_X5_215 rfl rfl ⟨rfl, rfl, by decide, by decide⟩ (Nat.le_of_ble_eq_true rfl) rfl (by decide) y_42 ⟨by decide, by decide⟩ dX5_party_47 ?_
      have w0 : wf (u2 r 9 2 (s_z r)) := wf_u w (fun z => by omega) (fun z => by omega) (fun z => by omega) (fun z => by omega) (fun z => by omega) (by decide)
      refine fr_bipush (pc := 50) (v := 21) rfl dX5_party_50 ?_
      refine fr_irem (pc := 52) (by decide) dX5_party_52 ?_
      refine fr_iadd (pc := 53) dX5_party_53 ?_
      refine fr_nm (fun x3_54 e_x3_54 => ?_)
      refine fr_istore_n (pc := 54) [(3, .int x3_54), (0, .ref 42), (1, .int (nI N)), (2, .int (nI i))] (by decide) rfl dX5_party_54 ?_
      refine fr_aload_n (pc := 55) rfl dX5_party_55 ?_
      refine fr_get (pc := 56) (ci := 4) (T := TX5) (k0 := 0) rfl hin_X5 (by decide) fl_X5_9 (by decide) y_42 rfl dX5_party_56 ?_
      refine fr_aload_n (pc := 59) rfl dX5_party_59 ?_
      refine fr_callV0 (pc := 60) (ci := 4) (T := TX5) (N := 20) [] [.ref 43] (c_X5_placeNow (by assumption)) gc_X5_94 rfl rfl ⟨rfl, rfl, by decide, by decide⟩ (Nat.le_of_ble_eq_true rfl) rfl (by decide) y_42 ⟨by decide, by decide⟩ dX5_party_60 ?_
      have hpl := place_lt (r := u2 r 9 2 (s_z r))
      refine fr_iload_n (pc := 63) rfl dX5_party_63 ?_
      refine fr_iast (pc := 64) (6 + (s_place (u2 r 9 2 (s_z r)))) rfl (by decide) y_43 (by first | assumption | omega) (by decide) dX5_party_64 ?_
      refine fr_mem (y_u43 (ph_m (by first | assumption | omega))) ?_
      obtain ⟨r1, hr1⟩ : ∃ q, q = s_p1 r := ⟨_, rfl⟩
      have w1 : wf r1 := hr1 ▸ wf_p1 w
      refine fr_mem (M1 := (yM M r1 kr ar ik fi b ln S it mv Q)) (by rw [hr1, e_x3_54]; rfl) ?_
      refine fr_aload_n (pc := 65) rfl dX5_party_65 ?_
      refine fr_callV0 (pc := 66) (ci := 4) (T := TX5) (N := 20) [] [] (c_X5_drawn ) gc_X5_215 rfl rfl ⟨rfl, rfl, by decide, by decide⟩ (Nat.le_of_ble_eq_true rfl) rfl (by decide) y_42 ⟨by decide, by decide⟩ dX5_party_66 ?_
      obtain ⟨z, hz⟩ : ∃ q, q = s_z r1 := ⟨_, rfl⟩
      have hz8 : zn z % 8 < 8 := Nat.mod_lt _ (by decide)
      refine fr_mem (M1 := (yM M (u2 r1 9 2 z) kr ar ik fi b ln S it mv Q)) (by rw [hz]) ?_
      refine fr_bipush (pc := 69) (v := 8) rfl dX5_party_69 ?_
      refine fr_irem (pc := 71) (by decide) dX5_party_71 ?_
      refine fr_eq (z := nI (zn z % 8)) (by rw [hz]; exact zd_rem _) ?_
      refine fr_istore (pc := 72) [(4, .int (nI (zn z % 8))), (3, .int x3_54), (0, .ref 42), (1, .int (nI N)), (2, .int (nI i))] (by decide) rfl dX5_party_72 ?_
      refine fr_aload_n (pc := 74) rfl dX5_party_74 ?_
      refine fr_iload (pc := 75) rfl dX5_party_75 ?_
      refine fr_callV0 (pc := 77) (ci := 4) (T := TX5) (N := 20) [.int (nI (zn z % 8))] [] (c_X5_isGuest ) gc_X5_131 rfl rfl ⟨rfl, rfl, by decide, by decide⟩ (Nat.le_of_ble_eq_true rfl) rfl (by decide) y_42 ⟨by decide, by decide⟩ dX5_party_77 ?_
      refine fr_if_eq (pc := 80) 106 (by decide) dX5_party_80 (fun h80 => ?_) (fun h80 => ?_)
      · have g80 := bI_0.mp h80
        rw [u2_f (by decide), wi_g w1 (by omega)] at g80
        have e2 : u2 r1 9 2 z = s_p2 r1 := by
          unfold s_p2
          rw [← hz, if_neg g80]
        have w2 := wf_p2 w1
        refine fr_mem (M1 := (yM M (s_p2 r1) kr ar ik fi b ln S it mv Q)) (by rw [e2]) ?_
        refine fr_aload_n (pc := 106) rfl dX5_party_106 ?_
        refine fr_callV0 (pc := 107) (ci := 4) (T := TX5) (N := 20) [] [] (c_X5_hour (by assumption)) gc_X5_162 rfl rfl ⟨rfl, rfl, by decide, by decide⟩ (Nat.le_of_ble_eq_true rfl) rfl (by decide) y_42 ⟨by decide, by decide⟩ dX5_party_107 ?_
        refine fr_iinc (pc := 110) (v := nI (i + 1)) [(2, .int (nI (i + 1))), (4, .int (nI (zn z % 8))), (3, .int x3_54), (0, .ref 42), (1, .int (nI N))] rfl (nI_1 i) (by decide) rfl dX5_party_110 ?_
        refine fr_goto (pc := 113) 39 (by decide) dX5_party_113 ?_
        rw [show s_prt (j + 1) r = s_prt j (s_hour (s_p2 r1)) from by rw [hr1]; rfl]
        exact fr_sub [3, 4, 0] rfl (ih (i + 1) _ (wf_hour w2) (by omega))
      · have g80 := bI_n0 h80
        rw [u2_f (by decide), wi_g w1 (by omega)] at g80
        have e2 : u2 (u2 r1 9 2 z) 5 (zn z % 8) ((r1 5 (zn z % 8) + 1) % 16) = s_p2 r1 := by
          unfold s_p2
          rw [← hz, if_pos g80]
        refine fr_aload_n (pc := 83) rfl dX5_party_83 ?_
        refine fr_get (pc := 84) (ci := 4) (T := TX5) (k0 := 0) rfl hin_X5 (by decide) fl_X5_9 (by decide) y_42 rfl dX5_party_84 ?_
        refine fr_iload (pc := 87) rfl dX5_party_87 ?_
        refine fr_iconst (pc := 89) (v := 3) rfl dX5_party_89 ?_
        refine fr_callS0 (pc := 90) [.int (nI (zn z % 8)), .int 3] [.ref 43] (c_X5_guestAt (g := (zn z % 8)) (k := 3)) gc_X5_106 rfl rfl ⟨rfl, rfl, by decide, by decide⟩ (Nat.le_of_ble_eq_true rfl) ⟨by decide, by decide⟩ dX5_party_90 ?_
        refine fr_aload_n (pc := 93) rfl dX5_party_93 ?_
        refine fr_iload (pc := 94) rfl dX5_party_94 ?_
        refine fr_iconst (pc := 96) (v := 3) rfl dX5_party_96 ?_
        refine fr_callV0 (pc := 97) (ci := 4) (T := TX5) (N := 20) [.int (nI (zn z % 8)), .int 3] [.int (nI (38 + 6 * (zn z % 8) + 3)), .ref 43] (c_X5_guestIs (k := 3) (by first | assumption | omega) (by first | decide | assumption | omega)) gc_X5_116 rfl rfl ⟨rfl, rfl, by decide, by decide⟩ (Nat.le_of_ble_eq_true rfl) rfl (by decide) y_42 ⟨by decide, by decide⟩ dX5_party_97 ?_
        refine fr_eq (z := r1 5 (zn z % 8)) (u2_f (fun q => absurd q.1 (by decide))) ?_
        refine fr_iconst (pc := 100) (v := 1) rfl dX5_party_100 ?_
        refine fr_iadd (pc := 101) dX5_party_101 ?_
        refine fr_bipush (pc := 102) (v := 16) rfl dX5_party_102 ?_
        refine fr_irem (pc := 104) (by decide) dX5_party_104 ?_
        refine fr_iast (pc := 105) (38 + 6 * (zn z % 8) + 3) rfl (by decide) y_43 (by first | assumption | omega) (by decide) dX5_party_105 ?_
        refine fr_mem (y_u43 (ph_g (k := 3) (by first | decide | assumption | omega))) ?_
        have w2 := wf_p2 w1
        refine fr_mem (M1 := (yM M (s_p2 r1) kr ar ik fi b ln S it mv Q)) (by rw [e2]) ?_
        refine fr_aload_n (pc := 106) rfl dX5_party_106 ?_
        refine fr_callV0 (pc := 107) (ci := 4) (T := TX5) (N := 20) [] [] (c_X5_hour (by assumption)) gc_X5_162 rfl rfl ⟨rfl, rfl, by decide, by decide⟩ (Nat.le_of_ble_eq_true rfl) rfl (by decide) y_42 ⟨by decide, by decide⟩ dX5_party_107 ?_
        refine fr_iinc (pc := 110) (v := nI (i + 1)) [(2, .int (nI (i + 1))), (4, .int (nI (zn z % 8))), (3, .int x3_54), (0, .ref 42), (1, .int (nI N))] rfl (nI_1 i) (by decide) rfl dX5_party_110 ?_
        refine fr_goto (pc := 113) 39 (by decide) dX5_party_113 ?_
        rw [show s_prt (j + 1) r = s_prt j (s_hour (s_p2 r1)) from by rw [hr1]; rfl]
        exact fr_sub [3, 4, 0] rfl (ih (i + 1) _ (wf_hour w2) (by omega))
set_option maxRecDepth 100000 in
theorem y_party {Γ : aG} {l : Launch} {M : Nat → aC} {r : rT} {kr ar : Nat → Int32} {rk : rT} {ik : Int32} {fi b : Nat → Int32} {ln : Int32} {S : sT} {it mv : Nat → Int32} {Q : yQ} {n : Int32} (w : wf r)  : Ev Γ l mX5_party [.ref 42, .int n] 54 (yM M r kr ar ik fi b ln S it mv Q) (some (.int (sp_party (r, rk, ik, S, b, ln, fi) n).1)) 54 (yF M kr ar it mv Q (sp_party (r, rk, ik, S, b, ln, fi) n).2) := by
  refine Ev.of [(0, .ref 42), (1, .int n)] (by decide) (Nat.le_of_ble_eq_true rfl) rfl ?_
  refine fr_iload_n (pc := 0) rfl dX5_party_0 ?_
  refine fr_iconst (pc := 1) (v := 1) rfl dX5_party_1 ?_
  refine fr_bipush (pc := 2) (v := 20) rfl dX5_party_2 ?_
  refine fr_callS0 (pc := 4) [.int n, .int 1, .int 20] [] (c_X5_within) gc_X5_70 rfl rfl ⟨rfl, rfl, by decide, by decide⟩ (Nat.le_of_ble_eq_true rfl) ⟨by decide, by decide⟩ dX5_party_4 ?_
  refine fr_if_ne (pc := 7) 17 (by decide) dX5_party_7 (fun h7 => ?_) (fun h7 => ?_)
  · have g7 := bI_n0 h7
    obtain ⟨i1, hi1, rfl⟩ := wi_1 (N := 20) g7 rfl
    have ei1 : (nI i1).toNatClampNeg = i1 := nI_clamp (by omega)
    refine fr_aload_n (pc := 17) rfl dX5_party_17 ?_
    refine fr_get (pc := 18) (ci := 4) (T := TX5) (k0 := 0) rfl hin_X5 (by decide) fl_X5_9 (by decide) y_42 rfl dX5_party_18 ?_
    refine fr_iconst (pc := 21) (v := 0) rfl dX5_party_21 ?_
    refine fr_iald (pc := 22) 0 rfl (by decide) y_43 (by decide) (by decide) dX5_party_22 ?_
    refine fr_eq (z := r 9 0) (row_at (ph_l (by decide))) ?_
    refine fr_iload_n (pc := 23) rfl dX5_party_23 ?_
    refine fr_iadd (pc := 24) dX5_party_24 ?_
    refine fr_ldc (pc := 25) kc_X5_161 dX5_party_25 ?_
    refine fr_icmp_le (pc := 27) 37 (by decide) dX5_party_27 (fun h27 => ?_) (fun h27 => ?_)
    · have q27 : ¬ 99999 < r 9 0 + nI i1 := Int32.not_lt.mpr h27
      refine fr_iconst (pc := 37) (v := 0) rfl dX5_party_37 ?_
      refine fr_istore_n (pc := 38) [(2, .int 0), (0, .ref 42), (1, .int (nI i1))] (by decide) rfl dX5_party_38 ?_
      rw [show sp_party (r, rk, ik, S, b, ln, fi) (nI i1) = (s_prt i1 r 9 4, sr (r, rk, ik, S, b, ln, fi) (s_prt i1 r)) from by simp only [sp_party, g7, q27, ei1, if_true, if_false, not_true_eq_false, not_false_eq_true, or_true, true_or, or_false, false_or, and_true, true_and, and_false, false_and, or_self, and_self, eq_self]]
      exact fr_sub [1, 2, 0] rfl (yp_loop (by omega) i1 0 r w (by omega))
    · have q27 : 99999 < r 9 0 + nI i1 := Int32.not_le.mp h27
      refine fr_aload_n (pc := 30) rfl dX5_party_30 ?_
      refine fr_ldc (pc := 31) kc_X5_165 dX5_party_31 ?_
      refine fr_callV0 (pc := 33) (ci := 4) (T := TX5) (N := 20) [.int (-1000005)] [] (c_fnd4) gc_X5_66 rfl rfl ⟨rfl, rfl, by decide, by decide⟩ (Nat.le_of_ble_eq_true rfl) rfl (by decide) y_42 ⟨by decide, by decide⟩ dX5_party_33 ?_
      exact fr_ireturn (pc := 36) rfl (by simp only [sp_party, fb, sr, sG, sS4, yF, g7, ei1, eq_true q27, if_true, if_false, not_true_eq_false, not_false_eq_true, or_true, true_or, or_false, false_or, and_true, true_and, and_false, false_and, or_self, and_self, eq_self] <;> rfl) (by simp only [sp_party, fb, sr, sG, sS4, yF, g7, ei1, eq_true q27, if_true, if_false, not_true_eq_false, not_false_eq_true, or_true, true_or, or_false, false_or, and_true, true_and, and_false, false_and, or_self, and_self, eq_self] <;> rfl) rfl dX5_party_36
  · have g7 := bI_0.mp h7
    refine fr_aload_n (pc := 10) rfl dX5_party_10 ?_
    refine fr_ldc (pc := 11) kc_X5_60 dX5_party_11 ?_
    refine fr_callV0 (pc := 13) (ci := 4) (T := TX5) (N := 20) [.int (-1000001)] [] (c_fnd0) gc_X5_66 rfl rfl ⟨rfl, rfl, by decide, by decide⟩ (Nat.le_of_ble_eq_true rfl) rfl (by decide) y_42 ⟨by decide, by decide⟩ dX5_party_13 ?_
    exact fr_ireturn (pc := 16) rfl (by simp only [sp_party, fb, sr, sG, sS4, yF, g7, if_true, if_false, not_true_eq_false, not_false_eq_true, or_true, true_or, or_false, false_or, and_true, true_and, and_false, false_and, or_self, and_self, eq_self] <;> rfl) (by simp only [sp_party, fb, sr, sG, sS4, yF, g7, if_true, if_false, not_true_eq_false, not_false_eq_true, or_true, true_or, or_false, false_or, and_true, true_and, and_false, false_and, or_self, and_self, eq_self] <;> rfl) rfl dX5_party_16
set_option maxRecDepth 100000 in
theorem yld_loop {Γ : aG} {l : Launch} {M : Nat → aC} {kr ar : Nat → Int32} {ik : Int32} {fi b : Nat → Int32} {ln : Int32} {S : sT} {it mv : Nat → Int32} {Q : yQ} {s : Nat} (hs : s < 4) (v : wS S) : ∀ (k c : Nat) (r : rT), c + k = s_lmost S s → Fr Γ l mX5_load 22 [(0, .ref 42), (1, .int (nI s)), (2, .int (nI c))] [] 54 0 0 (yM M r kr ar ik fi b ln S it mv Q) (some (.int (nI (s_load (S.1 s) k c r).1))) 54 (yM M ((s_load (S.1 s) k c r).2) kr ar ik fi b ln S it mv Q) := by
  obtain ⟨hle, hll⟩ := v.1 s hs
  have hlm : s_lmost S s = min (S.2.2 s).toNatClampNeg 16 := rfl
  intro k
  induction k with
  | zero =>
    intro c r hk
    refine fr_iload_n (pc := 22) rfl dX5_load_22 ?_
    refine fr_aload_n (pc := 23) rfl dX5_load_23 ?_
    refine fr_get (pc := 24) (ci := 4) (T := TX5) (k0 := 17) rfl hin_X5 (by decide) fl_X5_51 (by decide) y_42 rfl dX5_load_24 ?_
    refine fr_iload_n (pc := 27) rfl dX5_load_27 ?_
    refine fr_iald (pc := 28) s rfl (by decide) y_51 (by first | assumption | omega) (by decide) dX5_load_28 ?_
    refine fr_icmp_ge (pc := 29) 82 (by decide) dX5_load_29 (fun h29 => ?_) (fun h29 => ?_)
    · refine fr_iload_n (pc := 82) rfl dX5_load_82 ?_
      exact fr_ireturn (pc := 83) rfl rfl rfl rfl dX5_load_83
    · have l29 : c < (S.2.2 s).toNatClampNeg := by
        rw [hle] at h29
        exact Nat.lt_of_not_le (fun z => h29 (nI_le z (by omega)))
      refine fr_iload_n (pc := 32) rfl dX5_load_32 ?_
      refine fr_callS0 (pc := 33) [.int (nI c)] [] (c_X5_isCell) gc_X5_82 rfl rfl ⟨rfl, rfl, by decide, by decide⟩ (Nat.le_of_ble_eq_true rfl) ⟨by decide, by decide⟩ dX5_load_33 ?_
      refine fr_if_eq (pc := 36) 82 (by decide) dX5_load_36 (fun h36 => ?_) (fun h36 => ?_)
      · have g36 := bI_0.mp h36
        refine fr_iload_n (pc := 82) rfl dX5_load_82 ?_
        exact fr_ireturn (pc := 83) rfl rfl rfl rfl dX5_load_83
      · have g36 := bI_n0 h36
        exact absurd (of_decide_eq_true g36).2 (fun z => z (nI_lt (a := 15) (b := c) (by omega) (by omega)))
  | succ k ih =>
    intro c r hk
    have hc15 : wi (nI c) 0 15 = true := decide_eq_true ⟨nI_pos (by omega), nI_nlt (a := 15) (b := c) (by omega) (by omega)⟩
    refine fr_iload_n (pc := 22) rfl dX5_load_22 ?_
    refine fr_aload_n (pc := 23) rfl dX5_load_23 ?_
    refine fr_get (pc := 24) (ci := 4) (T := TX5) (k0 := 17) rfl hin_X5 (by decide) fl_X5_51 (by decide) y_42 rfl dX5_load_24 ?_
    refine fr_iload_n (pc := 27) rfl dX5_load_27 ?_
    refine fr_iald (pc := 28) s rfl (by decide) y_51 (by first | assumption | omega) (by decide) dX5_load_28 ?_
    refine fr_icmp_ge (pc := 29) 82 (by decide) dX5_load_29 (fun h29 => ?_) (fun h29 => ?_)
    · exact absurd h29 (by rw [hle]; exact nI_ge (by omega) (by omega))
    · refine fr_iload_n (pc := 32) rfl dX5_load_32 ?_
      refine fr_callS0 (pc := 33) [.int (nI c)] [] (c_X5_isCell) gc_X5_82 rfl rfl ⟨rfl, rfl, by decide, by decide⟩ (Nat.le_of_ble_eq_true rfl) ⟨by decide, by decide⟩ dX5_load_33 ?_
      refine fr_if_eq (pc := 36) 82 (by decide) dX5_load_36 (fun h36 => ?_) (fun h36 => ?_)
      · have g36 := bI_0.mp h36
        exact absurd hc15 g36
      · have g36 := bI_n0 h36
        refine fr_aload_n (pc := 39) rfl dX5_load_39 ?_
        refine fr_get (pc := 40) (ci := 4) (T := TX5) (k0 := 18) rfl hin_X5 (by decide) fl_X5_54 (by decide) y_42 rfl dX5_load_40 ?_
        refine fr_bipush (pc := 43) (v := 40) rfl dX5_load_43 ?_
        refine fr_iload_n (pc := 45) rfl dX5_load_45 ?_
        refine fr_imul (pc := 46) dX5_load_46 ?_
        refine fr_iload_n (pc := 47) rfl dX5_load_47 ?_
        refine fr_iadd (pc := 48) dX5_load_48 ?_
        refine fr_eq (z := nI (40 * s + c)) (n40 s c) ?_
        refine fr_iald (pc := 49) (40 * s + c) rfl (by decide) y_52 (by first | assumption | omega) (by decide) dX5_load_49 ?_
        refine fr_eq (z := S.1 s c) (nf_at (by omega)) ?_
        refine fr_callS0 (pc := 50) [.int (S.1 s c)] [] (c_X5_isBase) gc_X5_85 rfl rfl ⟨rfl, rfl, by decide, by decide⟩ (Nat.le_of_ble_eq_true rfl) ⟨by decide, by decide⟩ dX5_load_50 ?_
        refine fr_if_eq (pc := 53) 82 (by decide) dX5_load_53 (fun h53 => ?_) (fun h53 => ?_)
        · have g53 := bI_0.mp h53
          rw [show s_load (S.1 s) (k + 1) c r = (c, r) from if_neg g53]
          refine fr_iload_n (pc := 82) rfl dX5_load_82 ?_
          exact fr_ireturn (pc := 83) rfl rfl rfl rfl dX5_load_83
        · have g53 := bI_n0 h53
          refine fr_aload_n (pc := 56) rfl dX5_load_56 ?_
          refine fr_get (pc := 57) (ci := 4) (T := TX5) (k0 := 0) rfl hin_X5 (by decide) fl_X5_9 (by decide) y_42 rfl dX5_load_57 ?_
          refine fr_bipush (pc := 60) (v := 12) rfl dX5_load_60 ?_
          refine fr_iload_n (pc := 62) rfl dX5_load_62 ?_
          refine fr_iadd (pc := 63) dX5_load_63 ?_
          refine fr_eq (z := nI (12 + c)) (nI_add 12 c) ?_
          refine fr_aload_n (pc := 64) rfl dX5_load_64 ?_
          refine fr_get (pc := 65) (ci := 4) (T := TX5) (k0 := 18) rfl hin_X5 (by decide) fl_X5_54 (by decide) y_42 rfl dX5_load_65 ?_
          refine fr_bipush (pc := 68) (v := 40) rfl dX5_load_68 ?_
          refine fr_iload_n (pc := 70) rfl dX5_load_70 ?_
          refine fr_imul (pc := 71) dX5_load_71 ?_
          refine fr_iload_n (pc := 72) rfl dX5_load_72 ?_
          refine fr_iadd (pc := 73) dX5_load_73 ?_
          refine fr_eq (z := nI (40 * s + c)) (n40 s c) ?_
          refine fr_iald (pc := 74) (40 * s + c) rfl (by decide) y_52 (by first | assumption | omega) (by decide) dX5_load_74 ?_
          refine fr_eq (z := S.1 s c) (nf_at (by omega)) ?_
          refine fr_iast (pc := 75) (12 + c) rfl (by decide) y_43 (by first | assumption | omega) (by decide) dX5_load_75 ?_
          refine fr_mem (y_u43 (ph_b (by first | assumption | omega))) ?_
          refine fr_iinc (pc := 76) (v := nI (c + 1)) [(2, .int (nI (c + 1))), (0, .ref 42), (1, .int (nI s))] rfl (nI_1 c) (by decide) rfl dX5_load_76 ?_
          refine fr_goto (pc := 79) 22 (by decide) dX5_load_79 ?_
          rw [show s_load (S.1 s) (k + 1) c r = s_load (S.1 s) k (c + 1) (u2 r 0 c (S.1 s c)) from if_pos g53]
          exact fr_sub [1, 2, 0] rfl (ih (c + 1) _ (by omega))
set_option maxRecDepth 100000 in
theorem y_load {Γ : aG} {l : Launch} {M : Nat → aC} {r : rT} {kr ar : Nat → Int32} {rk : rT} {ik : Int32} {fi b : Nat → Int32} {ln : Int32} {S : sT} {it mv : Nat → Int32} {Q : yQ} {s : Int32} (v : wS S) : Ev Γ l mX5_load [.ref 42, .int s] 54 (yM M r kr ar ik fi b ln S it mv Q) (some (.int (sp_load (r, rk, ik, S, b, ln, fi) s).1)) 54 (yF M kr ar it mv Q (sp_load (r, rk, ik, S, b, ln, fi) s).2) := by
  rcases lk (S := S) s with k1 | ⟨i1, hi1, rfl, k1⟩ | ⟨i1, hi1, rfl, k1⟩
  · rw [show sp_load (r, rk, ik, S, b, ln, fi) s = fb (r, rk, ik, S, b, ln, fi) 0 from if_neg k1]
    refine Ev.of [(0, .ref 42), (1, .int s)] (by decide) (Nat.le_of_ble_eq_true rfl) rfl ?_
    refine fr_aload_n (pc := 0) rfl dX5_load_0 ?_
    refine fr_iload_n (pc := 1) rfl dX5_load_1 ?_
    refine fr_iconst (pc := 2) (v := 1) rfl dX5_load_2 ?_
    refine fr_callV0 (pc := 3) (ci := 4) (T := TX5) (N := 20) [.int s, .int 1] [] (c_yl_0 k1) gc_X5_207 rfl rfl ⟨rfl, rfl, by decide, by decide⟩ (Nat.le_of_ble_eq_true rfl) rfl (by decide) y_42 ⟨by decide, by decide⟩ dX5_load_3 ?_
    refine fr_if_eq (pc := 6) 20 (by decide) dX5_load_6 (fun h6 => ?_) (fun h6 => ?_)
    · exact absurd h6 (by decide)
    · refine fr_aload_n (pc := 9) rfl dX5_load_9 ?_
      refine fr_aload_n (pc := 10) rfl dX5_load_10 ?_
      refine fr_iload_n (pc := 11) rfl dX5_load_11 ?_
      refine fr_iconst (pc := 12) (v := 1) rfl dX5_load_12 ?_
      refine fr_callV0 (pc := 13) (ci := 4) (T := TX5) (N := 20) [.int s, .int 1] [.ref 42] (c_yl_0 k1) gc_X5_207 rfl rfl ⟨rfl, rfl, by decide, by decide⟩ (Nat.le_of_ble_eq_true rfl) rfl (by decide) y_42 ⟨by decide, by decide⟩ dX5_load_13 ?_
      refine fr_callV0 (pc := 16) (ci := 4) (T := TX5) (N := 20) [.int (-1000001)] [] (c_fnd0) gc_X5_66 rfl rfl ⟨rfl, rfl, by decide, by decide⟩ (Nat.le_of_ble_eq_true rfl) rfl (by decide) y_42 ⟨by decide, by decide⟩ dX5_load_16 ?_
      exact fr_ireturn (pc := 19) rfl rfl rfl rfl dX5_load_19
  · have ei1 : (nI i1).toNatClampNeg = i1 := nI_clamp (by omega)
    rw [show sp_load (r, rk, ik, S, b, ln, fi) (nI i1) = fb (r, rk, ik, S, b, ln, fi) 5 from by unfold sp_load; rw [if_pos (wi3 hi1), ei1]; exact if_pos k1]
    refine Ev.of [(0, .ref 42), (1, .int (nI i1))] (by decide) (Nat.le_of_ble_eq_true rfl) rfl ?_
    refine fr_aload_n (pc := 0) rfl dX5_load_0 ?_
    refine fr_iload_n (pc := 1) rfl dX5_load_1 ?_
    refine fr_iconst (pc := 2) (v := 1) rfl dX5_load_2 ?_
    refine fr_callV0 (pc := 3) (ci := 4) (T := TX5) (N := 20) [.int (nI i1), .int 1] [] (c_yl_5 hi1 k1) gc_X5_207 rfl rfl ⟨rfl, rfl, by decide, by decide⟩ (Nat.le_of_ble_eq_true rfl) rfl (by decide) y_42 ⟨by decide, by decide⟩ dX5_load_3 ?_
    refine fr_if_eq (pc := 6) 20 (by decide) dX5_load_6 (fun h6 => ?_) (fun h6 => ?_)
    · exact absurd h6 (by decide)
    · refine fr_aload_n (pc := 9) rfl dX5_load_9 ?_
      refine fr_aload_n (pc := 10) rfl dX5_load_10 ?_
      refine fr_iload_n (pc := 11) rfl dX5_load_11 ?_
      refine fr_iconst (pc := 12) (v := 1) rfl dX5_load_12 ?_
      refine fr_callV0 (pc := 13) (ci := 4) (T := TX5) (N := 20) [.int (nI i1), .int 1] [.ref 42] (c_yl_5 hi1 k1) gc_X5_207 rfl rfl ⟨rfl, rfl, by decide, by decide⟩ (Nat.le_of_ble_eq_true rfl) rfl (by decide) y_42 ⟨by decide, by decide⟩ dX5_load_13 ?_
      refine fr_callV0 (pc := 16) (ci := 4) (T := TX5) (N := 20) [.int (-1000006)] [] (c_fnd5) gc_X5_66 rfl rfl ⟨rfl, rfl, by decide, by decide⟩ (Nat.le_of_ble_eq_true rfl) rfl (by decide) y_42 ⟨by decide, by decide⟩ dX5_load_16 ?_
      exact fr_ireturn (pc := 19) rfl rfl rfl rfl dX5_load_19
  · have ei1 : (nI i1).toNatClampNeg = i1 := nI_clamp (by omega)
    rw [show sp_load (r, rk, ik, S, b, ln, fi) (nI i1) = (nI (s_load (S.1 i1) (s_lmost S i1) 0 r).1, sr (r, rk, ik, S, b, ln, fi) (s_load (S.1 i1) (s_lmost S i1) 0 r).2) from by unfold sp_load; rw [if_pos (wi3 hi1), ei1]; exact if_neg k1]
    refine Ev.of [(0, .ref 42), (1, .int (nI i1))] (by decide) (Nat.le_of_ble_eq_true rfl) rfl ?_
    refine fr_aload_n (pc := 0) rfl dX5_load_0 ?_
    refine fr_iload_n (pc := 1) rfl dX5_load_1 ?_
    refine fr_iconst (pc := 2) (v := 1) rfl dX5_load_2 ?_
    refine fr_callV0 (pc := 3) (ci := 4) (T := TX5) (N := 20) [.int (nI i1), .int 1] [] (c_yl_g hi1 k1 (by decide)) gc_X5_207 rfl rfl ⟨rfl, rfl, by decide, by decide⟩ (Nat.le_of_ble_eq_true rfl) rfl (by decide) y_42 ⟨by decide, by decide⟩ dX5_load_3 ?_
    refine fr_if_eq (pc := 6) 20 (by decide) dX5_load_6 (fun h6 => ?_) (fun h6 => ?_)
    · refine fr_iconst (pc := 20) (v := 0) rfl dX5_load_20 ?_
      refine fr_istore_n (pc := 21) [(2, .int 0), (0, .ref 42), (1, .int (nI i1))] (by decide) rfl dX5_load_21 ?_
      exact fr_sub [1, 2, 0] rfl (yld_loop hi1 v _ 0 r (Nat.zero_add _))
    · exact absurd rfl h6
set_option maxRecDepth 100000 in
theorem yj_loop {Γ : aG} {l : Launch} {M : Nat → aC} {r : rT} {kr ar : Nat → Int32} {ik : Int32} {fi b : Nat → Int32} {ln : Int32} {S : sT} {it mv : Nat → Int32} {Q : yQ} {s : Nat} (hs : s < 4) (v : wS S) (w : wf r) : ∀ (k c : Nat), c + k = (S.2.2 s).toNatClampNeg → Fr Γ l mX5_judge 22 [(0, .ref 42), (1, .int (nI s)), (2, .int (nI c))] [] 54 0 0 (yM M r kr ar ik fi b ln S it mv Q) (some (.int (s_judge r (S.1 s) k c))) 54 (yM M r kr ar ik fi b ln S it mv Q) := by
  obtain ⟨hle, hll⟩ := v.1 s hs
  have hcl := w.ctl
  intro k
  induction k with
  | zero =>
    intro c hk
    refine fr_iload_n (pc := 22) rfl dX5_judge_22 ?_
    refine fr_aload_n (pc := 23) rfl dX5_judge_23 ?_
    refine fr_get (pc := 24) (ci := 4) (T := TX5) (k0 := 17) rfl hin_X5 (by decide) fl_X5_51 (by decide) y_42 rfl dX5_judge_24 ?_
    refine fr_iload_n (pc := 27) rfl dX5_judge_27 ?_
    refine fr_iald (pc := 28) s rfl (by decide) y_51 (by first | assumption | omega) (by decide) dX5_judge_28 ?_
    refine fr_icmp_ge (pc := 29) 66 (by decide) dX5_judge_29 (fun h29 => ?_) (fun h29 => ?_)
    · refine fr_iload_n (pc := 66) rfl dX5_judge_66 ?_
      refine fr_aload_n (pc := 67) rfl dX5_judge_67 ?_
      refine fr_get (pc := 68) (ci := 4) (T := TX5) (k0 := 17) rfl hin_X5 (by decide) fl_X5_51 (by decide) y_42 rfl dX5_judge_68 ?_
      refine fr_iload_n (pc := 71) rfl dX5_judge_71 ?_
      refine fr_iald (pc := 72) s rfl (by decide) y_51 (by first | assumption | omega) (by decide) dX5_judge_72 ?_
      refine fr_icmp_ne (pc := 73) 80 (by decide) dX5_judge_73 (fun h73 => ?_) (fun h73 => ?_)
      · exact absurd (by rw [hle, ← hk]; rfl) h73
      · refine fr_iconst (pc := 76) (v := 0) rfl dX5_judge_76 ?_
        refine fr_goto (pc := 77) 83 (by decide) dX5_judge_77 ?_
        exact fr_ireturn (pc := 83) rfl rfl rfl rfl dX5_judge_83
    · exact absurd (by rw [hle, ← hk]; exact Int32.le_refl _) h29
  | succ k ih =>
    intro c hk
    refine fr_iload_n (pc := 22) rfl dX5_judge_22 ?_
    refine fr_aload_n (pc := 23) rfl dX5_judge_23 ?_
    refine fr_get (pc := 24) (ci := 4) (T := TX5) (k0 := 17) rfl hin_X5 (by decide) fl_X5_51 (by decide) y_42 rfl dX5_judge_24 ?_
    refine fr_iload_n (pc := 27) rfl dX5_judge_27 ?_
    refine fr_iald (pc := 28) s rfl (by decide) y_51 (by first | assumption | omega) (by decide) dX5_judge_28 ?_
    refine fr_icmp_ge (pc := 29) 66 (by decide) dX5_judge_29 (fun h29 => ?_) (fun h29 => ?_)
    · exact absurd h29 (by rw [hle, ← hk]; exact nI_ge (by omega) (by omega))
    · refine fr_aload_n (pc := 32) rfl dX5_judge_32 ?_
      refine fr_iload_n (pc := 33) rfl dX5_judge_33 ?_
      refine fr_callV0 (pc := 34) (ci := 4) (T := TX5) (N := 20) [.int (nI c)] [] (c_X5_isGuest ) gc_X5_131 rfl rfl ⟨rfl, rfl, by decide, by decide⟩ (Nat.le_of_ble_eq_true rfl) rfl (by decide) y_42 ⟨by decide, by decide⟩ dX5_judge_34 ?_
      refine fr_if_eq (pc := 37) 66 (by decide) dX5_judge_37 (fun h37 => ?_) (fun h37 => ?_)
      · have g37 := bI_0.mp h37
        refine fr_iload_n (pc := 66) rfl dX5_judge_66 ?_
        refine fr_aload_n (pc := 67) rfl dX5_judge_67 ?_
        refine fr_get (pc := 68) (ci := 4) (T := TX5) (k0 := 17) rfl hin_X5 (by decide) fl_X5_51 (by decide) y_42 rfl dX5_judge_68 ?_
        refine fr_iload_n (pc := 71) rfl dX5_judge_71 ?_
        refine fr_iald (pc := 72) s rfl (by decide) y_51 (by first | assumption | omega) (by decide) dX5_judge_72 ?_
        refine fr_icmp_ne (pc := 73) 80 (by decide) dX5_judge_73 (fun h73 => ?_) (fun h73 => ?_)
        · refine fr_iconst (pc := 80) (v := 1) rfl dX5_judge_80 ?_
          refine fr_iload_n (pc := 81) rfl dX5_judge_81 ?_
          refine fr_iadd (pc := 82) dX5_judge_82 ?_
          exact fr_ireturn (pc := 83) rfl (if_neg (fun z => g37 z.1)).symm rfl rfl dX5_judge_83
        · exact absurd ((nI_eq (by omega) (by omega)).mp (h73.trans hle)) (by omega)
      · have g37 := bI_n0 h37
        have lc : c < cnt r := (wi_g w (by omega)).mp g37
        refine fr_aload_n (pc := 40) rfl dX5_judge_40 ?_
        refine fr_get (pc := 41) (ci := 4) (T := TX5) (k0 := 18) rfl hin_X5 (by decide) fl_X5_54 (by decide) y_42 rfl dX5_judge_41 ?_
        refine fr_bipush (pc := 44) (v := 40) rfl dX5_judge_44 ?_
        refine fr_iload_n (pc := 46) rfl dX5_judge_46 ?_
        refine fr_imul (pc := 47) dX5_judge_47 ?_
        refine fr_iload_n (pc := 48) rfl dX5_judge_48 ?_
        refine fr_iadd (pc := 49) dX5_judge_49 ?_
        refine fr_eq (z := nI (40 * s + c)) (n40 s c) ?_
        refine fr_iald (pc := 50) (40 * s + c) rfl (by decide) y_52 (by first | assumption | omega) (by decide) dX5_judge_50 ?_
        refine fr_eq (z := S.1 s c) (nf_at (by omega)) ?_
        refine fr_aload_n (pc := 51) rfl dX5_judge_51 ?_
        refine fr_iload_n (pc := 52) rfl dX5_judge_52 ?_
        refine fr_iconst (pc := 53) (v := 1) rfl dX5_judge_53 ?_
        refine fr_callV0 (pc := 54) (ci := 4) (T := TX5) (N := 20) [.int (nI c), .int 1] [.int (S.1 s c)] (c_X5_guestIs (k := 1) (by first | assumption | omega) (by first | decide | assumption | omega)) gc_X5_116 rfl rfl ⟨rfl, rfl, by decide, by decide⟩ (Nat.le_of_ble_eq_true rfl) rfl (by decide) y_42 ⟨by decide, by decide⟩ dX5_judge_54 ?_
        refine fr_icmp_ne (pc := 57) 66 (by decide) dX5_judge_57 (fun h57 => ?_) (fun h57 => ?_)
        · refine fr_iload_n (pc := 66) rfl dX5_judge_66 ?_
          refine fr_aload_n (pc := 67) rfl dX5_judge_67 ?_
          refine fr_get (pc := 68) (ci := 4) (T := TX5) (k0 := 17) rfl hin_X5 (by decide) fl_X5_51 (by decide) y_42 rfl dX5_judge_68 ?_
          refine fr_iload_n (pc := 71) rfl dX5_judge_71 ?_
          refine fr_iald (pc := 72) s rfl (by decide) y_51 (by first | assumption | omega) (by decide) dX5_judge_72 ?_
          refine fr_icmp_ne (pc := 73) 80 (by decide) dX5_judge_73 (fun h73 => ?_) (fun h73 => ?_)
          · refine fr_iconst (pc := 80) (v := 1) rfl dX5_judge_80 ?_
            refine fr_iload_n (pc := 81) rfl dX5_judge_81 ?_
            refine fr_iadd (pc := 82) dX5_judge_82 ?_
            exact fr_ireturn (pc := 83) rfl (if_neg (fun z => h57 z.2.symm)).symm rfl rfl dX5_judge_83
          · exact absurd ((nI_eq (by omega) (by omega)).mp (h73.trans hle)) (by omega)
        · refine fr_iinc (pc := 60) (v := nI (c + 1)) [(2, .int (nI (c + 1))), (0, .ref 42), (1, .int (nI s))] rfl (nI_1 c) (by decide) rfl dX5_judge_60 ?_
          refine fr_goto (pc := 63) 22 (by decide) dX5_judge_63 ?_
          rw [show s_judge r (S.1 s) (k + 1) c = s_judge r (S.1 s) k (c + 1) from if_pos ⟨g37, h57.symm⟩]
          exact fr_sub [1, 2, 0] rfl (ih (c + 1) (by omega))
set_option maxRecDepth 100000 in
theorem y_judge {Γ : aG} {l : Launch} {M : Nat → aC} {r : rT} {kr ar : Nat → Int32} {rk : rT} {ik : Int32} {fi b : Nat → Int32} {ln : Int32} {S : sT} {it mv : Nat → Int32} {Q : yQ} {s : Int32} (v : wS S) (w : wf r) : Ev Γ l mX5_judge [.ref 42, .int s] 54 (yM M r kr ar ik fi b ln S it mv Q) (some (.int (sp_judge (r, rk, ik, S, b, ln, fi) s).1)) 54 (yF M kr ar it mv Q (sp_judge (r, rk, ik, S, b, ln, fi) s).2) := by
  rcases lk (S := S) s with k1 | ⟨i1, hi1, rfl, k1⟩ | ⟨i1, hi1, rfl, k1⟩
  · rw [show sp_judge (r, rk, ik, S, b, ln, fi) s = fb (r, rk, ik, S, b, ln, fi) 0 from if_neg k1]
    refine Ev.of [(0, .ref 42), (1, .int s)] (by decide) (Nat.le_of_ble_eq_true rfl) rfl ?_
    refine fr_aload_n (pc := 0) rfl dX5_judge_0 ?_
    refine fr_iload_n (pc := 1) rfl dX5_judge_1 ?_
    refine fr_iconst (pc := 2) (v := 1) rfl dX5_judge_2 ?_
    refine fr_callV0 (pc := 3) (ci := 4) (T := TX5) (N := 20) [.int s, .int 1] [] (c_yl_0 k1) gc_X5_207 rfl rfl ⟨rfl, rfl, by decide, by decide⟩ (Nat.le_of_ble_eq_true rfl) rfl (by decide) y_42 ⟨by decide, by decide⟩ dX5_judge_3 ?_
    refine fr_if_eq (pc := 6) 20 (by decide) dX5_judge_6 (fun h6 => ?_) (fun h6 => ?_)
    · exact absurd h6 (by decide)
    · refine fr_aload_n (pc := 9) rfl dX5_judge_9 ?_
      refine fr_aload_n (pc := 10) rfl dX5_judge_10 ?_
      refine fr_iload_n (pc := 11) rfl dX5_judge_11 ?_
      refine fr_iconst (pc := 12) (v := 1) rfl dX5_judge_12 ?_
      refine fr_callV0 (pc := 13) (ci := 4) (T := TX5) (N := 20) [.int s, .int 1] [.ref 42] (c_yl_0 k1) gc_X5_207 rfl rfl ⟨rfl, rfl, by decide, by decide⟩ (Nat.le_of_ble_eq_true rfl) rfl (by decide) y_42 ⟨by decide, by decide⟩ dX5_judge_13 ?_
      refine fr_callV0 (pc := 16) (ci := 4) (T := TX5) (N := 20) [.int (-1000001)] [] (c_fnd0) gc_X5_66 rfl rfl ⟨rfl, rfl, by decide, by decide⟩ (Nat.le_of_ble_eq_true rfl) rfl (by decide) y_42 ⟨by decide, by decide⟩ dX5_judge_16 ?_
      exact fr_ireturn (pc := 19) rfl rfl rfl rfl dX5_judge_19
  · have ei1 : (nI i1).toNatClampNeg = i1 := nI_clamp (by omega)
    rw [show sp_judge (r, rk, ik, S, b, ln, fi) (nI i1) = fb (r, rk, ik, S, b, ln, fi) 5 from by unfold sp_judge; rw [if_pos (wi3 hi1), ei1]; exact if_pos k1]
    refine Ev.of [(0, .ref 42), (1, .int (nI i1))] (by decide) (Nat.le_of_ble_eq_true rfl) rfl ?_
    refine fr_aload_n (pc := 0) rfl dX5_judge_0 ?_
    refine fr_iload_n (pc := 1) rfl dX5_judge_1 ?_
    refine fr_iconst (pc := 2) (v := 1) rfl dX5_judge_2 ?_
    refine fr_callV0 (pc := 3) (ci := 4) (T := TX5) (N := 20) [.int (nI i1), .int 1] [] (c_yl_5 hi1 k1) gc_X5_207 rfl rfl ⟨rfl, rfl, by decide, by decide⟩ (Nat.le_of_ble_eq_true rfl) rfl (by decide) y_42 ⟨by decide, by decide⟩ dX5_judge_3 ?_
    refine fr_if_eq (pc := 6) 20 (by decide) dX5_judge_6 (fun h6 => ?_) (fun h6 => ?_)
    · exact absurd h6 (by decide)
    · refine fr_aload_n (pc := 9) rfl dX5_judge_9 ?_
      refine fr_aload_n (pc := 10) rfl dX5_judge_10 ?_
      refine fr_iload_n (pc := 11) rfl dX5_judge_11 ?_
      refine fr_iconst (pc := 12) (v := 1) rfl dX5_judge_12 ?_
      refine fr_callV0 (pc := 13) (ci := 4) (T := TX5) (N := 20) [.int (nI i1), .int 1] [.ref 42] (c_yl_5 hi1 k1) gc_X5_207 rfl rfl ⟨rfl, rfl, by decide, by decide⟩ (Nat.le_of_ble_eq_true rfl) rfl (by decide) y_42 ⟨by decide, by decide⟩ dX5_judge_13 ?_
      refine fr_callV0 (pc := 16) (ci := 4) (T := TX5) (N := 20) [.int (-1000006)] [] (c_fnd5) gc_X5_66 rfl rfl ⟨rfl, rfl, by decide, by decide⟩ (Nat.le_of_ble_eq_true rfl) rfl (by decide) y_42 ⟨by decide, by decide⟩ dX5_judge_16 ?_
      exact fr_ireturn (pc := 19) rfl rfl rfl rfl dX5_judge_19
  · have ei1 : (nI i1).toNatClampNeg = i1 := nI_clamp (by omega)
    rw [show sp_judge (r, rk, ik, S, b, ln, fi) (nI i1) = (s_judge r (S.1 i1) (S.2.2 i1).toNatClampNeg 0, (r, rk, ik, S, b, ln, fi)) from by unfold sp_judge; rw [if_pos (wi3 hi1), ei1]; exact if_neg k1]
    refine Ev.of [(0, .ref 42), (1, .int (nI i1))] (by decide) (Nat.le_of_ble_eq_true rfl) rfl ?_
    refine fr_aload_n (pc := 0) rfl dX5_judge_0 ?_
    refine fr_iload_n (pc := 1) rfl dX5_judge_1 ?_
    refine fr_iconst (pc := 2) (v := 1) rfl dX5_judge_2 ?_
    refine fr_callV0 (pc := 3) (ci := 4) (T := TX5) (N := 20) [.int (nI i1), .int 1] [] (c_yl_g hi1 k1 (by decide)) gc_X5_207 rfl rfl ⟨rfl, rfl, by decide, by decide⟩ (Nat.le_of_ble_eq_true rfl) rfl (by decide) y_42 ⟨by decide, by decide⟩ dX5_judge_3 ?_
    refine fr_if_eq (pc := 6) 20 (by decide) dX5_judge_6 (fun h6 => ?_) (fun h6 => ?_)
    · refine fr_iconst (pc := 20) (v := 0) rfl dX5_judge_20 ?_
      refine fr_istore_n (pc := 21) [(2, .int 0), (0, .ref 42), (1, .int (nI i1))] (by decide) rfl dX5_judge_21 ?_
      exact fr_sub [1, 2, 0] rfl (yj_loop hi1 v w _ 0 (Nat.zero_add _))
    · exact absurd rfl h6
