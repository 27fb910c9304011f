set_option maxRecDepth 100000 in
theorem c_isToldSo {Γ : aG} {l : Launch} {M : Nat → aC} {r : rT} {kr ar : Nat → Int32} {ik : Int32} {fi b : Nat → Int32} {ln : Int32} {S : sT} {it mv : Nat → Int32} {Q : yQ} {k : Nat} (hk : k < 120) (ho : okI it k r)  : Ev Γ l mX5_isToldSo [.ref 42, .int (nI (4 * k))] 54 (yM M r kr ar ik fi b ln S it mv Q) none 54 (yM M (ap1 it k r) kr ar ik fi b ln S it mv Q) := by
  refine Ev.of [(0, .ref 42), (1, .int (nI (4 * k)))] (by decide) (Nat.le_of_ble_eq_true rfl) rfl ?_
  refine fr_aload_n (pc := 0) rfl dX5_isToldSo_0 ?_
  refine fr_get (pc := 1) (ci := 4) (T := TX5) (k0 := 13) rfl hin_X5 (by decide) fl_X5_45 (by decide) y_42 rfl dX5_isToldSo_1 ?_
  refine fr_iload_n (pc := 4) rfl dX5_isToldSo_4 ?_
  refine fr_iconst (pc := 5) (v := 1) rfl dX5_isToldSo_5 ?_
  refine fr_iadd (pc := 6) dX5_isToldSo_6 ?_
  refine fr_eq (z := nI (4 * k + 1)) (nI_add _ 1) ?_
  refine fr_iald (pc := 7) (4 * k + 1) rfl (by decide) y_49 (by first | assumption | omega) (by decide) dX5_isToldSo_7 ?_
  refine fr_nm (fun x2_8 e_x2_8 => ?_)
  refine fr_istore_n (pc := 8) [(2, .int x2_8), (0, .ref 42), (1, .int (nI (4 * k)))] (by decide) rfl dX5_isToldSo_8 ?_
  refine fr_aload_n (pc := 9) rfl dX5_isToldSo_9 ?_
  refine fr_get (pc := 10) (ci := 4) (T := TX5) (k0 := 13) rfl hin_X5 (by decide) fl_X5_45 (by decide) y_42 rfl dX5_isToldSo_10 ?_
  refine fr_iload_n (pc := 13) rfl dX5_isToldSo_13 ?_
  refine fr_iconst (pc := 14) (v := 2) rfl dX5_isToldSo_14 ?_
  refine fr_iadd (pc := 15) dX5_isToldSo_15 ?_
  refine fr_eq (z := nI (4 * k + 2)) (nI_add _ 2) ?_
  refine fr_iald (pc := 16) (4 * k + 2) rfl (by decide) y_49 (by first | assumption | omega) (by decide) dX5_isToldSo_16 ?_
  refine fr_nm (fun x3_17 e_x3_17 => ?_)
  refine fr_istore_n (pc := 17) [(3, .int x3_17), (2, .int x2_8), (0, .ref 42), (1, .int (nI (4 * k)))] (by decide) rfl dX5_isToldSo_17 ?_
  refine fr_aload_n (pc := 18) rfl dX5_isToldSo_18 ?_
  refine fr_get (pc := 19) (ci := 4) (T := TX5) (k0 := 13) rfl hin_X5 (by decide) fl_X5_45 (by decide) y_42 rfl dX5_isToldSo_19 ?_
  refine fr_iload_n (pc := 22) rfl dX5_isToldSo_22 ?_
  refine fr_iald (pc := 23) (4 * k) rfl (by decide) y_49 (by first | assumption | omega) (by decide) dX5_isToldSo_23 ?_
  by_cases hk24_10 : (it (4 * k)) = 10
  · refine fr_tIn (pc := 24) 52 (by rw [hk24_10]; decide) (by rw [hk24_10]; decide) (by rw [hk24_10]; rfl) (by decide) dX5_isToldSo_24 ?_
    subst e_x2_8
    have o1 := ok10 ho hk24_10
    have o2 := o1.2
    refine fr_aload_n (pc := 52) rfl dX5_isToldSo_52 ?_
    refine fr_get (pc := 53) (ci := 4) (T := TX5) (k0 := 0) rfl hin_X5 (by decide) fl_X5_9 (by decide) y_42 rfl dX5_isToldSo_53 ?_
    refine fr_bipush (pc := 56) (v := 12) rfl dX5_isToldSo_56 ?_
    refine fr_iload_n (pc := 58) rfl dX5_isToldSo_58 ?_
    refine fr_iadd (pc := 59) dX5_isToldSo_59 ?_
    refine fr_eq (z := nI (12 + (it (4 * k + 1)).toNatClampNeg)) (pl_o 12 o1.1) ?_
    refine fr_iload_n (pc := 60) rfl dX5_isToldSo_60 ?_
    refine fr_iast (pc := 61) (12 + (it (4 * k + 1)).toNatClampNeg) rfl (by decide) y_43 (by first | assumption | omega) (by decide) dX5_isToldSo_61 ?_
    refine fr_mem (y_u43 (ph_b (by first | assumption | omega))) ?_
    refine fr_goto (pc := 62) 132 (by decide) dX5_isToldSo_62 ?_
    exact fr_return (pc := 132) rfl (by rw [e_x3_17]; unfold ap1; rw [if_pos hk24_10]) dX5_isToldSo_132
  by_cases hk24_11 : (it (4 * k)) = 11
  · refine fr_tIn (pc := 24) 65 (by rw [hk24_11]; decide) (by rw [hk24_11]; decide) (by rw [hk24_11]; rfl) (by decide) dX5_isToldSo_24 ?_
    subst e_x2_8
    have o1 := ok11 ho hk24_11
    have o2 := o1.2
    refine fr_aload_n (pc := 65) rfl dX5_isToldSo_65 ?_
    refine fr_get (pc := 66) (ci := 4) (T := TX5) (k0 := 0) rfl hin_X5 (by decide) fl_X5_9 (by decide) y_42 rfl dX5_isToldSo_66 ?_
    refine fr_bipush (pc := 69) (v := 6) rfl dX5_isToldSo_69 ?_
    refine fr_iload_n (pc := 71) rfl dX5_isToldSo_71 ?_
    refine fr_iadd (pc := 72) dX5_isToldSo_72 ?_
    refine fr_eq (z := nI (6 + (it (4 * k + 1)).toNatClampNeg)) (pl_o 6 o1.1) ?_
    refine fr_iload_n (pc := 73) rfl dX5_isToldSo_73 ?_
    refine fr_iast (pc := 74) (6 + (it (4 * k + 1)).toNatClampNeg) rfl (by decide) y_43 (by first | assumption | omega) (by decide) dX5_isToldSo_74 ?_
    refine fr_mem (y_u43 (ph_m (by first | assumption | omega))) ?_
    refine fr_goto (pc := 75) 132 (by decide) dX5_isToldSo_75 ?_
    exact fr_return (pc := 132) rfl (by rw [e_x3_17]; unfold ap1; rw [if_neg hk24_10, if_pos hk24_11]) dX5_isToldSo_132
  by_cases hk24_12 : (it (4 * k)) = 12
  · refine fr_tIn (pc := 24) 78 (by rw [hk24_12]; decide) (by rw [hk24_12]; decide) (by rw [hk24_12]; rfl) (by decide) dX5_isToldSo_24 ?_
    refine fr_aload_n (pc := 78) rfl dX5_isToldSo_78 ?_
    refine fr_get (pc := 79) (ci := 4) (T := TX5) (k0 := 0) rfl hin_X5 (by decide) fl_X5_9 (by decide) y_42 rfl dX5_isToldSo_79 ?_
    refine fr_iconst (pc := 82) (v := 3) rfl dX5_isToldSo_82 ?_
    refine fr_iload_n (pc := 83) rfl dX5_isToldSo_83 ?_
    refine fr_iast (pc := 84) 3 rfl (by decide) y_43 (by decide) (by decide) dX5_isToldSo_84 ?_
    refine fr_mem (y_u43 (ph_l (by decide))) ?_
    refine fr_goto (pc := 85) 132 (by decide) dX5_isToldSo_85 ?_
    exact fr_return (pc := 132) rfl (by rw [e_x2_8]; unfold ap1; rw [if_neg hk24_10, if_neg hk24_11, if_pos hk24_12]) dX5_isToldSo_132
  refine fr_tOut (pc := 24) 88 (sw_10_12 hk24_10 hk24_11 hk24_12) (by decide) dX5_isToldSo_24 ?_
  obtain ⟨w, hc⟩ := okd ho hk24_10 hk24_11 hk24_12
  refine fr_aload_n (pc := 88) rfl dX5_isToldSo_88 ?_
  refine fr_aload_n (pc := 89) rfl dX5_isToldSo_89 ?_
  refine fr_get (pc := 90) (ci := 4) (T := TX5) (k0 := 13) rfl hin_X5 (by decide) fl_X5_45 (by decide) y_42 rfl dX5_isToldSo_90 ?_
  refine fr_iload_n (pc := 93) rfl dX5_isToldSo_93 ?_
  refine fr_iald (pc := 94) (4 * k) rfl (by decide) y_49 (by first | assumption | omega) (by decide) dX5_isToldSo_94 ?_
  refine fr_iload_n (pc := 95) rfl dX5_isToldSo_95 ?_
  refine fr_callV0 (pc := 96) (ci := 4) (T := TX5) (N := 20) [.int (it (4 * k)), .int x2_8] [] (c_X5_comesIn (by assumption) (by assumption)) gc_X5_113 rfl rfl ⟨rfl, rfl, by decide, by decide⟩ (Nat.le_of_ble_eq_true rfl) rfl (by decide) y_42 ⟨by decide, by decide⟩ dX5_isToldSo_96 ?_
  refine fr_istore (pc := 99) [(4, .int (nI (cnt r))), (3, .int x3_17), (2, .int x2_8), (0, .ref 42), (1, .int (nI (4 * k)))] (by decide) rfl dX5_isToldSo_99 ?_
  refine fr_aload_n (pc := 101) rfl dX5_isToldSo_101 ?_
  refine fr_get (pc := 102) (ci := 4) (T := TX5) (k0 := 0) rfl hin_X5 (by decide) fl_X5_9 (by decide) y_42 rfl dX5_isToldSo_102 ?_
  refine fr_iload (pc := 105) rfl dX5_isToldSo_105 ?_
  refine fr_iconst (pc := 107) (v := 2) rfl dX5_isToldSo_107 ?_
  refine fr_callS0 (pc := 108) [.int (nI (cnt r)), .int 2] [.ref 43] (c_X5_guestAt (g := (cnt r)) (k := 2)) gc_X5_106 rfl rfl ⟨rfl, rfl, by decide, by decide⟩ (Nat.le_of_ble_eq_true rfl) ⟨by decide, by decide⟩ dX5_isToldSo_108 ?_
  refine fr_iload_n (pc := 111) rfl dX5_isToldSo_111 ?_
  refine fr_iast (pc := 112) (38 + 6 * (cnt r) + 2) rfl (by decide) y_43 (by first | assumption | omega) (by decide) dX5_isToldSo_112 ?_
  refine fr_mem (y_u43 (ph_g (k := 2) (by first | decide | assumption | omega))) ?_
  refine fr_aload_n (pc := 113) rfl dX5_isToldSo_113 ?_
  refine fr_get (pc := 114) (ci := 4) (T := TX5) (k0 := 0) rfl hin_X5 (by decide) fl_X5_9 (by decide) y_42 rfl dX5_isToldSo_114 ?_
  refine fr_iload (pc := 117) rfl dX5_isToldSo_117 ?_
  refine fr_iconst (pc := 119) (v := 3) rfl dX5_isToldSo_119 ?_
  refine fr_callS0 (pc := 120) [.int (nI (cnt r)), .int 3] [.ref 43] (c_X5_guestAt (g := (cnt r)) (k := 3)) gc_X5_106 rfl rfl ⟨rfl, rfl, by decide, by decide⟩ (Nat.le_of_ble_eq_true rfl) ⟨by decide, by decide⟩ dX5_isToldSo_120 ?_
  refine fr_aload_n (pc := 123) rfl dX5_isToldSo_123 ?_
  refine fr_get (pc := 124) (ci := 4) (T := TX5) (k0 := 13) rfl hin_X5 (by decide) fl_X5_45 (by decide) y_42 rfl dX5_isToldSo_124 ?_
  refine fr_iload_n (pc := 127) rfl dX5_isToldSo_127 ?_
  refine fr_iconst (pc := 128) (v := 3) rfl dX5_isToldSo_128 ?_
  refine fr_iadd (pc := 129) dX5_isToldSo_129 ?_
  refine fr_eq (z := nI (4 * k + 3)) (nI_add _ 3) ?_
  refine fr_iald (pc := 130) (4 * k + 3) rfl (by decide) y_49 (by first | assumption | omega) (by decide) dX5_isToldSo_130 ?_
  refine fr_iast (pc := 131) (38 + 6 * (cnt r) + 3) rfl (by decide) y_43 (by first | assumption | omega) (by decide) dX5_isToldSo_131 ?_
  refine fr_mem (y_u43 (ph_g (k := 3) (by first | decide | assumption | omega))) ?_
  exact fr_return (pc := 132) rfl (by rw [e_x2_8, e_x3_17]; unfold ap1; rw [if_neg hk24_10, if_neg hk24_11, if_neg hk24_12]; rfl) dX5_isToldSo_132
set_option maxRecDepth 100000 in
theorem tx_111 {Γ : aG} {l : Launch} {M : Nat → aC} {r : rT} {kr ar : Nat → Int32} {ik : Int32} {fi b : Nat → Int32} {S : sT} {it mv : Nat → Int32} {q1 q2 q3 q4 q7 : Int32} {N : Nat} (hN : N ≤ 120) (hI : ∀ k, k < N → okI it k (ap it r k)) : ∀ (j k : Nat), k + j = N → Fr Γ l mX5_text 111 [(0, .ref 42), (1, .int (nI k))] [] 54 0 0 (yM M (ap it r k) kr ar ik fi b 0 S it mv (q1, q2, q3, q4, 0, nI N, q7)) (some (.int (nI N))) 54 (yM M (ap it r N) kr ar ik fi b 0 S it mv (q1, q2, q3, q4, 0, nI N, q7)) := by
  intro j
  induction j with
  | zero =>
    intro k hk
    rw [show k = N by omega]
    refine fr_iload_n (pc := 111) rfl dX5_text_111 ?_
    refine fr_aload_n (pc := 112) rfl dX5_text_112 ?_
    refine fr_get (pc := 113) (ci := 4) (T := TX5) (k0 := 14) rfl hin_X5 (by decide) fl_X5_255 (by decide) y_42 rfl dX5_text_113 ?_
    refine fr_icmp_ge (pc := 116) 132 (by decide) dX5_text_116 (fun h116 => ?_) (fun h116 => ?_)
    · refine fr_aload_n (pc := 132) rfl dX5_text_132 ?_
      refine fr_get (pc := 133) (ci := 4) (T := TX5) (k0 := 14) rfl hin_X5 (by decide) fl_X5_255 (by decide) y_42 rfl dX5_text_133 ?_
      exact fr_ireturn (pc := 136) rfl rfl rfl rfl dX5_text_136
    · exact absurd (Int32.le_refl _) h116
  | succ j ih =>
    intro k hk
    refine fr_iload_n (pc := 111) rfl dX5_text_111 ?_
    refine fr_aload_n (pc := 112) rfl dX5_text_112 ?_
    refine fr_get (pc := 113) (ci := 4) (T := TX5) (k0 := 14) rfl hin_X5 (by decide) fl_X5_255 (by decide) y_42 rfl dX5_text_113 ?_
    refine fr_icmp_ge (pc := 116) 132 (by decide) dX5_text_116 (fun h116 => ?_) (fun h116 => ?_)
    · exact absurd h116 (nI_ge (by omega) (by omega))
    · refine fr_aload_n (pc := 119) rfl dX5_text_119 ?_
      refine fr_iconst (pc := 120) (v := 4) rfl dX5_text_120 ?_
      refine fr_iload_n (pc := 121) rfl dX5_text_121 ?_
      refine fr_imul (pc := 122) dX5_text_122 ?_
      refine fr_eq (z := nI (4 * k)) (n4 k) ?_
      refine fr_callV0 (pc := 123) (ci := 4) (T := TX5) (N := 20) [.int (nI (4 * k))] [] (c_isToldSo (by omega) (hI k (by omega))) gc_X5_293 rfl rfl ⟨rfl, rfl, by decide, by decide⟩ (Nat.le_of_ble_eq_true rfl) rfl (by decide) y_42 ⟨by decide, by decide⟩ dX5_text_123 ?_
      refine fr_iinc (pc := 126) (v := nI (k + 1)) [(1, .int (nI (k + 1))), (0, .ref 42)] rfl (nI_1 k) (by decide) rfl dX5_text_126 ?_
      refine fr_goto (pc := 129) 111 (by decide) dX5_text_129 ?_
      exact fr_sub [1, 0] rfl (ih (k + 1) (by omega))
theorem m1_neg {a : Nat} (h : a < 1000) : (-1 : Int32) - nI a < 0 := by
  rw [lt_i, Int32.toInt_sub, nI_toInt (by omega)]
  rw [show (-1 : Int32).toInt = -1 from by decide, show (0 : Int32).toInt = 0 from by decide]
  rw [Int.bmod_def]
  omega
set_option maxRecDepth 100000 in
theorem tx_33 {Γ : aG} {l : Launch} {M : Nat → aC} {r : rT} {kr ar : Nat → Int32} {ik : Int32} {fi b : Nat → Int32} {L : Nat} {S : sT} {mv : Nat → Int32} (hL : L ≤ 120) (hb : wb b L) {it : Nat → Int32} {P : Bool × tk × rT} {im gt : Int32} {n : Nat} {R : Int32 × tk × rT} (hn : n < 120) (hz : tz b L P.2.1) (hi : iR it im gt r n P) (hR0 : P.1 = true → P.2.1.2.2.1 = 0 → R = (nI (n + 1), P.2)) (hR1 : P.1 = false ∨ (¬ P.2.1.2.2.1 = 0 ∧ ¬ P.2.1.2.2.1 = 3) → R = (-1 - nI P.2.1.1, P.2)) (hR3 : P.1 = true → P.2.1.2.2.1 = 3 → ∃ (it' : Nat → Int32) (Q' : yQ), Fr Γ l mX5_text 67 [(0, .ref 42)] [] 54 0 0 (yM M r kr ar ik fi b (nI L) S it mv (nI (nxM b L P.2.1).1, nI (mE (nxM b L P.2.1)), nI (mS (nxM b L P.2.1)), (nxM b L P.2.1).2.2.2, 0, (nI (n + 1)), (nI (cnt P.2.2)))) (some (.int R.1)) 54 (yM M (if R.1 < 0 then r else R.2.2) kr ar ik fi b 0 S it' mv Q')) : ∃ (it' : Nat → Int32) (Q' : yQ), Fr Γ l mX5_text 33 [(0, .ref 42)] [] 54 0 0 (yM M r kr ar ik fi b (nI L) S it mv (nI P.2.1.1, nI (mE P.2.1), nI (mS P.2.1), P.2.1.2.2.2, (bW P.1), im, gt)) (some (.int R.1)) 54 (yM M (if R.1 < 0 then r else R.2.2) kr ar ik fi b 0 S it' mv Q') := by
  have h5 := hz.1.2.2
  have hm4 := mS_lt h5
  have hp1 : P.2.1.1 ≤ L := Nat.le_trans hz.1.1 hz.1.2.1
  have hneg := m1_neg (a := P.2.1.1) (by omega)
  by_cases hp : P.1 = true
  · obtain ⟨rfl, rfl, hI⟩ := hi hp
    have ew : bW P.1 = 0 := if_pos hp
    rw [ew]
    by_cases h3 : P.2.1.2.2.1 = 3
    · obtain ⟨it', Q', ht⟩ := hR3 hp h3
      refine ⟨it', Q', ?_⟩
      have hb9 := hz.2.1 h3
      refine fr_aload_n (pc := 33) rfl dX5_text_33 ?_
      refine fr_get (pc := 34) (ci := 4) (T := TX5) (k0 := 11) rfl hin_X5 (by decide) fl_X5_244 (by decide) y_42 rfl dX5_text_34 ?_
      refine fr_if_ne (pc := 37) 74 (by decide) dX5_text_37 (fun h37 => ?_) (fun h37 => ?_)
      · exact absurd rfl h37
      · refine fr_aload_n (pc := 40) rfl dX5_text_40 ?_
        refine fr_get (pc := 41) (ci := 4) (T := TX5) (k0 := 9) rfl hin_X5 (by decide) fl_X5_234 (by decide) y_42 rfl dX5_text_41 ?_
        refine fr_iconst (pc := 44) (v := 3) rfl dX5_text_44 ?_
        refine fr_icmp_ne (pc := 45) 74 (by decide) dX5_text_45 (fun h45 => ?_) (fun h45 => ?_)
        · exact absurd (show nI (mS P.2.1) = 3 from by unfold mS; rw [h3]; rfl) h45
        · refine fr_aload_n (pc := 48) rfl dX5_text_48 ?_
          refine fr_get (pc := 49) (ci := 4) (T := TX5) (k0 := 5) rfl hin_X5 (by decide) fl_X5_22 (by decide) y_42 rfl dX5_text_49 ?_
          refine fr_aload_n (pc := 52) rfl dX5_text_52 ?_
          refine fr_get (pc := 53) (ci := 4) (T := TX5) (k0 := 7) rfl hin_X5 (by decide) fl_X5_225 (by decide) y_42 rfl dX5_text_53 ?_
          refine fr_iald (pc := 56) P.2.1.1 rfl (by decide) y_47 (by omega) (by decide) dX5_text_56 ?_
          refine fr_bipush (pc := 57) (v := 59) rfl dX5_text_57 ?_
          refine fr_icmp_ne (pc := 59) 74 (by decide) dX5_text_59 (fun h59 => ?_) (fun h59 => ?_)
          · exact absurd hb9.1 h59
          · refine fr_aload_n (pc := 62) rfl dX5_text_62 ?_
            refine fr_iconst (pc := 63) (v := 1) rfl dX5_text_63 ?_
            refine fr_callV0 (pc := 64) (ci := 4) (T := TX5) (N := 20) [.int 1] [] (c_must_t hL hb hz.1 (by rw [h3]; decide)) gc_X5_251 rfl rfl ⟨rfl, rfl, by decide, by decide⟩ (Nat.le_of_ble_eq_true rfl) rfl (by decide) y_42 ⟨by decide, by decide⟩ dX5_text_64 ?_
            exact ht
    · by_cases h0 : P.2.1.2.2.1 = 0
      · have e := hR0 hp h0
        subst e
        obtain ⟨T9, hT9⟩ : ∃ q, q = nxM b L P.2.1 := ⟨_, rfl⟩
        refine ⟨it, (nI T9.1, nI (mE T9), nI (mS T9), T9.2.2.2, 0, nI (n + 1), nI (cnt P.2.2)), ?_⟩
        rw [if_neg (show ¬ nI (n + 1) < 0 from nI_pos (by omega))]
        refine fr_aload_n (pc := 33) rfl dX5_text_33 ?_
        refine fr_get (pc := 34) (ci := 4) (T := TX5) (k0 := 11) rfl hin_X5 (by decide) fl_X5_244 (by decide) y_42 rfl dX5_text_34 ?_
        refine fr_if_ne (pc := 37) 74 (by decide) dX5_text_37 (fun h37 => ?_) (fun h37 => ?_)
        · exact absurd rfl h37
        · refine fr_aload_n (pc := 40) rfl dX5_text_40 ?_
          refine fr_get (pc := 41) (ci := 4) (T := TX5) (k0 := 9) rfl hin_X5 (by decide) fl_X5_234 (by decide) y_42 rfl dX5_text_41 ?_
          refine fr_iconst (pc := 44) (v := 3) rfl dX5_text_44 ?_
          refine fr_icmp_ne (pc := 45) 74 (by decide) dX5_text_45 (fun h45 => ?_) (fun h45 => ?_)
          · refine fr_aload_n (pc := 74) rfl dX5_text_74 ?_
            refine fr_aload_n (pc := 75) rfl dX5_text_75 ?_
            refine fr_get (pc := 76) (ci := 4) (T := TX5) (k0 := 9) rfl hin_X5 (by decide) fl_X5_234 (by decide) y_42 rfl dX5_text_76 ?_
            refine fr_if_ne (pc := 79) 86 (by decide) dX5_text_79 (fun h79 => ?_) (fun h79 => ?_)
            · exact absurd (show nI (mS P.2.1) = 0 from by unfold mS; rw [h0]; rfl) h79
            · refine fr_iconst (pc := 82) (v := 1) rfl dX5_text_82 ?_
              refine fr_goto (pc := 83) 87 (by decide) dX5_text_83 ?_
              refine fr_callV0 (pc := 87) (ci := 4) (T := TX5) (N := 20) [.int 1] [] (hT9 ▸ c_must_t hL hb hz.1 (by rw [h0]; decide)) gc_X5_251 rfl rfl ⟨rfl, rfl, by decide, by decide⟩ (Nat.le_of_ble_eq_true rfl) rfl (by decide) y_42 ⟨by decide, by decide⟩ dX5_text_87 ?_
              refine fr_aload_n (pc := 90) rfl dX5_text_90 ?_
              refine fr_iconst (pc := 91) (v := 0) rfl dX5_text_91 ?_
              refine fr_put (pc := 92) (ci := 4) (T := TX5) (k0 := 6) (ty := .int) tyX5 tyX5_ok nmX5 rfl hin_X5 (by decide) fl_X5_218 rfl (by decide +kernel) rfl rfl (Nat.le_of_ble_eq_true rfl) (by decide) y_42 dX5_text_92 ?_
              refine fr_mem (M1 := (yM M r kr ar ik fi b 0 S it mv (nI T9.1, nI (mE T9), nI (mS T9), T9.2.2.2, 0, (nI (n + 1)), (nI (cnt P.2.2))))) y_u6 ?_
              refine fr_aload_n (pc := 95) rfl dX5_text_95 ?_
              refine fr_get (pc := 96) (ci := 4) (T := TX5) (k0 := 11) rfl hin_X5 (by decide) fl_X5_244 (by decide) y_42 rfl dX5_text_96 ?_
              refine fr_if_eq (pc := 99) 109 (by decide) dX5_text_99 (fun h99 => ?_) (fun h99 => ?_)
              · refine fr_iconst (pc := 109) (v := 0) rfl dX5_text_109 ?_
                refine fr_istore_n (pc := 110) [(1, .int 0), (0, .ref 42)] (by decide) rfl dX5_text_110 ?_
                have hf := tx_111 (Γ := Γ) (l := l) (M := M) (r := r) (kr := kr) (ar := ar) (ik := ik) (fi := fi) (b := b) (S := S) (it := it) (mv := mv) (q1 := nI T9.1) (q2 := nI (mE T9)) (q3 := nI (mS T9)) (q4 := T9.2.2.2) (q7 := nI (cnt P.2.2)) (N := n + 1) (by omega) hI.2 (n + 1) 0 (by omega)
                rw [hI.1] at hf
                exact fr_sub [1, 0] rfl (hf)
              · exact absurd rfl h99
          · exact absurd ((nI_eq (a := mS P.2.1) (b := 3) (by omega) (by decide)).mp h45) (by unfold mS; rw [h0]; decide)
      · have e := hR1 (Or.inr ⟨h0, h3⟩)
        subst e
        refine ⟨it, (nI P.2.1.1, nI (mE P.2.1), nI (mS P.2.1), P.2.1.2.2.2, 1, nI (n + 1), nI (cnt P.2.2)), ?_⟩
        rw [if_pos hneg]
        refine fr_aload_n (pc := 33) rfl dX5_text_33 ?_
        refine fr_get (pc := 34) (ci := 4) (T := TX5) (k0 := 11) rfl hin_X5 (by decide) fl_X5_244 (by decide) y_42 rfl dX5_text_34 ?_
        refine fr_if_ne (pc := 37) 74 (by decide) dX5_text_37 (fun h37 => ?_) (fun h37 => ?_)
        · exact absurd rfl h37
        · refine fr_aload_n (pc := 40) rfl dX5_text_40 ?_
          refine fr_get (pc := 41) (ci := 4) (T := TX5) (k0 := 9) rfl hin_X5 (by decide) fl_X5_234 (by decide) y_42 rfl dX5_text_41 ?_
          refine fr_iconst (pc := 44) (v := 3) rfl dX5_text_44 ?_
          refine fr_icmp_ne (pc := 45) 74 (by decide) dX5_text_45 (fun h45 => ?_) (fun h45 => ?_)
          · refine fr_aload_n (pc := 74) rfl dX5_text_74 ?_
            refine fr_aload_n (pc := 75) rfl dX5_text_75 ?_
            refine fr_get (pc := 76) (ci := 4) (T := TX5) (k0 := 9) rfl hin_X5 (by decide) fl_X5_234 (by decide) y_42 rfl dX5_text_76 ?_
            refine fr_if_ne (pc := 79) 86 (by decide) dX5_text_79 (fun h79 => ?_) (fun h79 => ?_)
            · refine fr_iconst (pc := 86) (v := 0) rfl dX5_text_86 ?_
              refine fr_callV0 (pc := 87) (ci := 4) (T := TX5) (N := 20) [.int 0] [] (c_must_f) gc_X5_251 rfl rfl ⟨rfl, rfl, by decide, by decide⟩ (Nat.le_of_ble_eq_true rfl) rfl (by decide) y_42 ⟨by decide, by decide⟩ dX5_text_87 ?_
              refine fr_aload_n (pc := 90) rfl dX5_text_90 ?_
              refine fr_iconst (pc := 91) (v := 0) rfl dX5_text_91 ?_
              refine fr_put (pc := 92) (ci := 4) (T := TX5) (k0 := 6) (ty := .int) tyX5 tyX5_ok nmX5 rfl hin_X5 (by decide) fl_X5_218 rfl (by decide +kernel) rfl rfl (Nat.le_of_ble_eq_true rfl) (by decide) y_42 dX5_text_92 ?_
              refine fr_mem (M1 := (yM M r kr ar ik fi b 0 S it mv (nI P.2.1.1, nI (mE P.2.1), nI (mS P.2.1), P.2.1.2.2.2, 1, (nI (n + 1)), (nI (cnt P.2.2))))) y_u6 ?_
              refine fr_aload_n (pc := 95) rfl dX5_text_95 ?_
              refine fr_get (pc := 96) (ci := 4) (T := TX5) (k0 := 11) rfl hin_X5 (by decide) fl_X5_244 (by decide) y_42 rfl dX5_text_96 ?_
              refine fr_if_eq (pc := 99) 109 (by decide) dX5_text_99 (fun h99 => ?_) (fun h99 => ?_)
              · exact absurd (show (1 : Int32) = 0 from h99) (by decide)
              · refine fr_iconst (pc := 102) (v := (-1)) rfl dX5_text_102 ?_
                refine fr_aload_n (pc := 103) rfl dX5_text_103 ?_
                refine fr_get (pc := 104) (ci := 4) (T := TX5) (k0 := 7) rfl hin_X5 (by decide) fl_X5_225 (by decide) y_42 rfl dX5_text_104 ?_
                refine fr_isub (pc := 107) dX5_text_107 ?_
                exact fr_ireturn (pc := 108) rfl rfl rfl rfl dX5_text_108
            · exact absurd ((mS_1 (k := 0) h5 (by decide)).mp h79) h0
          · have h4 : P.2.1.2.2.1 = 4 := by
              have q := (nI_eq (a := mS P.2.1) (b := 3) (by omega) (by decide)).mp h45
              unfold mS at q
              split at q
              · assumption
              · exact absurd q h3
            have hb9 := hz.2.2.1 h4
            refine fr_aload_n (pc := 48) rfl dX5_text_48 ?_
            refine fr_get (pc := 49) (ci := 4) (T := TX5) (k0 := 5) rfl hin_X5 (by decide) fl_X5_22 (by decide) y_42 rfl dX5_text_49 ?_
            refine fr_aload_n (pc := 52) rfl dX5_text_52 ?_
            refine fr_get (pc := 53) (ci := 4) (T := TX5) (k0 := 7) rfl hin_X5 (by decide) fl_X5_225 (by decide) y_42 rfl dX5_text_53 ?_
            refine fr_iald (pc := 56) P.2.1.1 rfl (by decide) y_47 (by omega) (by decide) dX5_text_56 ?_
            refine fr_bipush (pc := 57) (v := 59) rfl dX5_text_57 ?_
            refine fr_icmp_ne (pc := 59) 74 (by decide) dX5_text_59 (fun h59 => ?_) (fun h59 => ?_)
            · refine fr_aload_n (pc := 74) rfl dX5_text_74 ?_
              refine fr_aload_n (pc := 75) rfl dX5_text_75 ?_
              refine fr_get (pc := 76) (ci := 4) (T := TX5) (k0 := 9) rfl hin_X5 (by decide) fl_X5_234 (by decide) y_42 rfl dX5_text_76 ?_
              refine fr_if_ne (pc := 79) 86 (by decide) dX5_text_79 (fun h79 => ?_) (fun h79 => ?_)
              · refine fr_iconst (pc := 86) (v := 0) rfl dX5_text_86 ?_
                refine fr_callV0 (pc := 87) (ci := 4) (T := TX5) (N := 20) [.int 0] [] (c_must_f) gc_X5_251 rfl rfl ⟨rfl, rfl, by decide, by decide⟩ (Nat.le_of_ble_eq_true rfl) rfl (by decide) y_42 ⟨by decide, by decide⟩ dX5_text_87 ?_
                refine fr_aload_n (pc := 90) rfl dX5_text_90 ?_
                refine fr_iconst (pc := 91) (v := 0) rfl dX5_text_91 ?_
                refine fr_put (pc := 92) (ci := 4) (T := TX5) (k0 := 6) (ty := .int) tyX5 tyX5_ok nmX5 rfl hin_X5 (by decide) fl_X5_218 rfl (by decide +kernel) rfl rfl (Nat.le_of_ble_eq_true rfl) (by decide) y_42 dX5_text_92 ?_
                refine fr_mem (M1 := (yM M r kr ar ik fi b 0 S it mv (nI P.2.1.1, nI (mE P.2.1), nI (mS P.2.1), P.2.1.2.2.2, 1, (nI (n + 1)), (nI (cnt P.2.2))))) y_u6 ?_
                refine fr_aload_n (pc := 95) rfl dX5_text_95 ?_
                refine fr_get (pc := 96) (ci := 4) (T := TX5) (k0 := 11) rfl hin_X5 (by decide) fl_X5_244 (by decide) y_42 rfl dX5_text_96 ?_
                refine fr_if_eq (pc := 99) 109 (by decide) dX5_text_99 (fun h99 => ?_) (fun h99 => ?_)
                · exact absurd (show (1 : Int32) = 0 from h99) (by decide)
                · refine fr_iconst (pc := 102) (v := (-1)) rfl dX5_text_102 ?_
                  refine fr_aload_n (pc := 103) rfl dX5_text_103 ?_
                  refine fr_get (pc := 104) (ci := 4) (T := TX5) (k0 := 7) rfl hin_X5 (by decide) fl_X5_225 (by decide) y_42 rfl dX5_text_104 ?_
                  refine fr_isub (pc := 107) dX5_text_107 ?_
                  exact fr_ireturn (pc := 108) rfl rfl rfl rfl dX5_text_108
              · exact absurd ((mS_1 (k := 0) h5 (by decide)).mp h79) h0
            · exact absurd h59 hb9.1
  · have hpf : P.1 = false := by cases h : P.1 <;> simp_all
    have ew : bW P.1 = 1 := if_neg hp
    rw [ew]
    have e := hR1 (Or.inl hpf)
    subst e
    refine ⟨it, (nI P.2.1.1, nI (mE P.2.1), nI (mS P.2.1), P.2.1.2.2.2, 1, im, gt), ?_⟩
    rw [if_pos hneg]
    refine fr_aload_n (pc := 33) rfl dX5_text_33 ?_
    refine fr_get (pc := 34) (ci := 4) (T := TX5) (k0 := 11) rfl hin_X5 (by decide) fl_X5_244 (by decide) y_42 rfl dX5_text_34 ?_
    refine fr_if_ne (pc := 37) 74 (by decide) dX5_text_37 (fun h37 => ?_) (fun h37 => ?_)
    · refine fr_aload_n (pc := 74) rfl dX5_text_74 ?_
      refine fr_aload_n (pc := 75) rfl dX5_text_75 ?_
      refine fr_get (pc := 76) (ci := 4) (T := TX5) (k0 := 9) rfl hin_X5 (by decide) fl_X5_234 (by decide) y_42 rfl dX5_text_76 ?_
      refine fr_if_ne (pc := 79) 86 (by decide) dX5_text_79 (fun h79 => ?_) (fun h79 => ?_)
      · refine fr_iconst (pc := 86) (v := 0) rfl dX5_text_86 ?_
        refine fr_callV0 (pc := 87) (ci := 4) (T := TX5) (N := 20) [.int 0] [] (c_must_w) gc_X5_251 rfl rfl ⟨rfl, rfl, by decide, by decide⟩ (Nat.le_of_ble_eq_true rfl) rfl (by decide) y_42 ⟨by decide, by decide⟩ dX5_text_87 ?_
        refine fr_aload_n (pc := 90) rfl dX5_text_90 ?_
        refine fr_iconst (pc := 91) (v := 0) rfl dX5_text_91 ?_
        refine fr_put (pc := 92) (ci := 4) (T := TX5) (k0 := 6) (ty := .int) tyX5 tyX5_ok nmX5 rfl hin_X5 (by decide) fl_X5_218 rfl (by decide +kernel) rfl rfl (Nat.le_of_ble_eq_true rfl) (by decide) y_42 dX5_text_92 ?_
        refine fr_mem (M1 := (yM M r kr ar ik fi b 0 S it mv (nI P.2.1.1, nI (mE P.2.1), nI (mS P.2.1), P.2.1.2.2.2, 1, im, gt))) y_u6 ?_
        refine fr_aload_n (pc := 95) rfl dX5_text_95 ?_
        refine fr_get (pc := 96) (ci := 4) (T := TX5) (k0 := 11) rfl hin_X5 (by decide) fl_X5_244 (by decide) y_42 rfl dX5_text_96 ?_
        refine fr_if_eq (pc := 99) 109 (by decide) dX5_text_99 (fun h99 => ?_) (fun h99 => ?_)
        · exact absurd (show (1 : Int32) = 0 from h99) (by decide)
        · refine fr_iconst (pc := 102) (v := (-1)) rfl dX5_text_102 ?_
          refine fr_aload_n (pc := 103) rfl dX5_text_103 ?_
          refine fr_get (pc := 104) (ci := 4) (T := TX5) (k0 := 7) rfl hin_X5 (by decide) fl_X5_225 (by decide) y_42 rfl dX5_text_104 ?_
          refine fr_isub (pc := 107) dX5_text_107 ?_
          exact fr_ireturn (pc := 108) rfl rfl rfl rfl dX5_text_108
      · refine fr_iconst (pc := 82) (v := 1) rfl dX5_text_82 ?_
        refine fr_goto (pc := 83) 87 (by decide) dX5_text_83 ?_
        refine fr_callV0 (pc := 87) (ci := 4) (T := TX5) (N := 20) [.int 1] [] (c_must_w) gc_X5_251 rfl rfl ⟨rfl, rfl, by decide, by decide⟩ (Nat.le_of_ble_eq_true rfl) rfl (by decide) y_42 ⟨by decide, by decide⟩ dX5_text_87 ?_
        refine fr_aload_n (pc := 90) rfl dX5_text_90 ?_
        refine fr_iconst (pc := 91) (v := 0) rfl dX5_text_91 ?_
        refine fr_put (pc := 92) (ci := 4) (T := TX5) (k0 := 6) (ty := .int) tyX5 tyX5_ok nmX5 rfl hin_X5 (by decide) fl_X5_218 rfl (by decide +kernel) rfl rfl (Nat.le_of_ble_eq_true rfl) (by decide) y_42 dX5_text_92 ?_
        refine fr_mem (M1 := (yM M r kr ar ik fi b 0 S it mv (nI P.2.1.1, nI (mE P.2.1), nI (mS P.2.1), P.2.1.2.2.2, 1, im, gt))) y_u6 ?_
        refine fr_aload_n (pc := 95) rfl dX5_text_95 ?_
        refine fr_get (pc := 96) (ci := 4) (T := TX5) (k0 := 11) rfl hin_X5 (by decide) fl_X5_244 (by decide) y_42 rfl dX5_text_96 ?_
        refine fr_if_eq (pc := 99) 109 (by decide) dX5_text_99 (fun h99 => ?_) (fun h99 => ?_)
        · exact absurd (show (1 : Int32) = 0 from h99) (by decide)
        · refine fr_iconst (pc := 102) (v := (-1)) rfl dX5_text_102 ?_
          refine fr_aload_n (pc := 103) rfl dX5_text_103 ?_
          refine fr_get (pc := 104) (ci := 4) (T := TX5) (k0 := 7) rfl hin_X5 (by decide) fl_X5_225 (by decide) y_42 rfl dX5_text_104 ?_
          refine fr_isub (pc := 107) dX5_text_107 ?_
          exact fr_ireturn (pc := 108) rfl rfl rfl rfl dX5_text_108
    · exact absurd (show (1 : Int32) = 0 from h37) (by decide)
set_option maxRecDepth 100000 in
theorem tx_67 {Γ : aG} {l : Launch} {M : Nat → aC} {r : rT} {kr ar : Nat → Int32} {ik : Int32} {fi b : Nat → Int32} {L : Nat} {S : sT} {mv : Nat → Int32} (hL : L ≤ 120) (hb : wb b L) : ∀ (f n : Nat) (T : tk) (t : rT) (it : Nat → Int32), n + f = 120 → 2 * n ≤ T.1 → tz b L T → wf t → iS it r n t → ∃ (it' : Nat → Int32) (Q' : yQ), Fr Γ l mX5_text 67 [(0, .ref 42)] [] 54 0 0 (yM M r kr ar ik fi b (nI L) S it mv (nI T.1, nI (mE T), nI (mS T), T.2.2.2, 0, (nI n), (nI (cnt t)))) (some (.int (p_read b (nxM b L) f (n + 1) T t).1)) 54 (yM M (if (p_read b (nxM b L) f (n + 1) T t).1 < 0 then r else (p_read b (nxM b L) f (n + 1) T t).2.2) kr ar ik fi b 0 S it' mv Q') := by
  intro f
  induction f with
  | zero => intro n T t it hn h2 hz; have h1 := hz.1.1; have h3 := hz.1.2.1; omega
  | succ f ih =>
    intro n T t it hn h2 hz w hI
    obtain ⟨it1, im1, gt1, h1, h3⟩ := c_rItem (Γ := Γ) (l := l) (M := M) (r := r) (kr := kr) (ar := ar) (ik := ik) (fi := fi) (S := S) (mv := mv) hL hb hz.1 (by omega) w hI
    have hg := pi_og (b := b) (Φ := tz b L) (nx := nxM b L) tz_x hz w
    obtain ⟨it', Q', ht⟩ := tx_33 (Γ := Γ) (l := l) (M := M) (r := r) (kr := kr) (ar := ar) (ik := ik) (fi := fi) (S := S) (mv := mv) hL hb (it := it1) (P := p_item b (nxM b L) T t) (R := p_read b (nxM b L) (f + 1) (n + 1) T t) (n := n) (by omega) hg.1 h3 (fun a c => (if_pos a).trans (if_pos c)) (fun a => by
          rcases a with a | a
          · exact if_neg (by rw [a]; decide)
          · by_cases q : (p_item b (nxM b L) T t).1 = true
            · exact (if_pos q).trans ((if_neg a.1).trans (if_neg a.2))
            · exact if_neg q) (fun a c => by
          rw [show p_read b (nxM b L) (f + 1) (n + 1) T t = p_read b (nxM b L) f (n + 1 + 1) (nxM b L (p_item b (nxM b L) T t).2.1) (p_item b (nxM b L) T t).2.2 from (if_pos a).trans ((if_neg (by rw [c]; decide)).trans (if_pos c))]
          have hp := pi_pos hz.1 a
          have he := hg.1.2.2.2 c
          have hx := (tw_n (b := b) (n := 0) hg.1.1.2.1).2
          exact ih (n + 1) _ _ it1 (by omega) (by show 2 * (n + 1) ≤ (tkn b L (p_item b (nxM b L) T t).2.1.2.1 0).1; omega) (tz_x _ hg.1) hg.2 (h3 a).2.2)
    refine ⟨it', Q', ?_⟩
    refine fr_aload_n (pc := 67) rfl dX5_text_67 ?_
    refine fr_callV0 (pc := 68) (ci := 4) (T := TX5) (N := 20) [] [] (h1) gc_X5_290 rfl rfl ⟨rfl, rfl, by decide, by decide⟩ (Nat.le_of_ble_eq_true rfl) rfl (by decide) y_42 ⟨by decide, by decide⟩ dX5_text_68 ?_
    refine fr_goto (pc := 71) 33 (by decide) dX5_text_71 ?_
    exact ht
set_option maxRecDepth 100000 in
theorem y_text {Γ : aG} {l : Launch} {M : Nat → aC} {r : rT} {kr ar : Nat → Int32} {rk : rT} {ik : Int32} {fi b : Nat → Int32} {ln : Int32} {S : sT} {it mv : Nat → Int32} {Q : yQ} (w : wf r) (hl : okv ln 121) (hb : wb b ln.toNatClampNeg) : ∃ (it' : Nat → Int32) (Q' : yQ), Ev Γ l mX5_text [.ref 42] 54 (yM M r kr ar ik fi b ln S it mv Q) (some (.int (sp_text (r, rk, ik, S, b, ln, fi)).1)) 54 (yF M kr ar it' mv Q' (sp_text (r, rk, ik, S, b, ln, fi)).2) := by
  obtain ⟨L, hLd⟩ : ∃ L, L = ln.toNatClampNeg := ⟨_, rfl⟩
  obtain ⟨el, ll⟩ := hl
  rw [← hLd] at el ll hb
  clear hLd
  subst el
  have hL : L ≤ 120 := by omega
  have eL : (nI L).toNatClampNeg = L := nI_clamp (by omega)
  have e1 : sp_text (r, rk, ik, S, b, nI L, fi) = ((p_all b L r).1, (if (p_all b L r).1 < 0 then r else (p_all b L r).2.2, rk, ik, S, b, 0, fi)) := by
    unfold sp_text
    dsimp only
    rw [eL]
  rw [e1]
  have hz : tz b L (tkn b L 0 0) := tz_n (Nat.zero_le _)
  obtain ⟨it1, im1, gt1, h1, h3⟩ := c_rItem (Γ := Γ) (l := l) (M := M) (r := r) (kr := kr) (ar := ar) (ik := ik) (fi := fi) (S := S) (mv := mv) (it := it) (n := 0) hL hb hz.1 (by decide) w ⟨rfl, fun k hk => absurd hk (by omega)⟩
  have hg := pi_og (b := b) (Φ := tz b L) (nx := nxM b L) tz_x hz w
  obtain ⟨it', Q', ht⟩ := tx_33 (Γ := Γ) (l := l) (M := M) (r := r) (kr := kr) (ar := ar) (ik := ik) (fi := fi) (S := S) (mv := mv) hL hb (it := it1) (P := p_item b (nxM b L) (tkn b L 0 0) r) (R := p_read b (nxM b L) 120 1 (tkn b L 0 0) r) (n := 0) (by decide) hg.1 h3 (fun a c => (if_pos a).trans (if_pos c)) (fun a => by
        rcases a with a | a
        · exact if_neg (by rw [a]; decide)
        · by_cases q : (p_item b (nxM b L) (tkn b L 0 0) r).1 = true
          · exact (if_pos q).trans ((if_neg a.1).trans (if_neg a.2))
          · exact if_neg q) (fun a c => by
        rw [show p_read b (nxM b L) 120 1 (tkn b L 0 0) r = p_read b (nxM b L) 119 (0 + 1 + 1) (nxM b L (p_item b (nxM b L) (tkn b L 0 0) r).2.1) (p_item b (nxM b L) (tkn b L 0 0) r).2.2 from (if_pos a).trans ((if_neg (by rw [c]; decide)).trans (if_pos c))]
        have hp := pi_pos hz.1 a
        have he := hg.1.2.2.2 c
        have hx := (tw_n (b := b) (n := 0) hg.1.1.2.1).2
        exact tx_67 hL hb 119 1 _ _ it1 rfl (by show 2 * 1 ≤ (tkn b L (p_item b (nxM b L) (tkn b L 0 0) r).2.1.2.1 0).1; omega) (tz_x _ hg.1) hg.2 (h3 a).2.2)
  refine ⟨it', Q', ?_⟩
  refine Ev.of [(0, .ref 42)] (by decide) (Nat.le_of_ble_eq_true rfl) rfl ?_
  refine fr_aload_n (pc := 0) rfl dX5_text_0 ?_
  refine fr_iconst (pc := 1) (v := 0) rfl dX5_text_1 ?_
  refine fr_put (pc := 2) (ci := 4) (T := TX5) (k0 := 8) (ty := .int) tyX5 tyX5_ok nmX5 rfl hin_X5 (by decide) fl_X5_222 rfl (by decide +kernel) rfl rfl (Nat.le_of_ble_eq_true rfl) (by decide) y_42 dX5_text_2 ?_
  refine fr_mem (M1 := (yM M r kr ar ik fi b (nI L) S it mv (Q.1, 0, Q.2.2.1, Q.2.2.2.1, Q.2.2.2.2.1, Q.2.2.2.2.2.1, Q.2.2.2.2.2.2))) y_uq1 ?_
  refine fr_aload_n (pc := 5) rfl dX5_text_5 ?_
  refine fr_iconst (pc := 6) (v := 0) rfl dX5_text_6 ?_
  refine fr_put (pc := 7) (ci := 4) (T := TX5) (k0 := 11) (ty := .boolean) tyX5 tyX5_ok nmX5 rfl hin_X5 (by decide) fl_X5_244 rfl (by decide +kernel) rfl rfl (Nat.le_of_ble_eq_true rfl) (by decide) y_42 dX5_text_7 ?_
  refine fr_mem (M1 := (yM M r kr ar ik fi b (nI L) S it mv (Q.1, 0, Q.2.2.1, Q.2.2.2.1, 0, Q.2.2.2.2.2.1, Q.2.2.2.2.2.2))) y_uq4 ?_
  refine fr_aload_n (pc := 10) rfl dX5_text_10 ?_
  refine fr_iconst (pc := 11) (v := 0) rfl dX5_text_11 ?_
  refine fr_put (pc := 12) (ci := 4) (T := TX5) (k0 := 14) (ty := .int) tyX5 tyX5_ok nmX5 rfl hin_X5 (by decide) fl_X5_255 rfl (by decide +kernel) rfl rfl (Nat.le_of_ble_eq_true rfl) (by decide) y_42 dX5_text_12 ?_
  refine fr_mem (M1 := (yM M r kr ar ik fi b (nI L) S it mv (Q.1, 0, Q.2.2.1, Q.2.2.2.1, 0, 0, Q.2.2.2.2.2.2))) y_uq5 ?_
  refine fr_aload_n (pc := 15) rfl dX5_text_15 ?_
  refine fr_aload_n (pc := 16) rfl dX5_text_16 ?_
  refine fr_get (pc := 17) (ci := 4) (T := TX5) (k0 := 0) rfl hin_X5 (by decide) fl_X5_9 (by decide) y_42 rfl dX5_text_17 ?_
  refine fr_iconst (pc := 20) (v := 1) rfl dX5_text_20 ?_
  refine fr_iald (pc := 21) 1 rfl (by decide) y_43 (by decide) (by decide) dX5_text_21 ?_
  refine fr_eq (z := r 9 1) (row_at (ph_l (by decide))) ?_
  refine fr_eq (z := nI (cnt r)) w.ct ?_
  refine fr_put (pc := 22) (ci := 4) (T := TX5) (k0 := 15) (ty := .int) tyX5 tyX5_ok nmX5 rfl hin_X5 (by decide) fl_X5_262 rfl (by decide +kernel) rfl rfl (Nat.le_of_ble_eq_true rfl) (by decide) y_42 dX5_text_22 ?_
  refine fr_mem (M1 := (yM M r kr ar ik fi b (nI L) S it mv (Q.1, 0, Q.2.2.1, Q.2.2.2.1, 0, 0, (nI (cnt r))))) y_uq6 ?_
  refine fr_aload_n (pc := 25) rfl dX5_text_25 ?_
  refine fr_callV0 (pc := 26) (ci := 4) (T := TX5) (N := 20) [] [] (c_token hL hb (p := 0) (Nat.zero_le L)) gc_X5_248 rfl rfl ⟨rfl, rfl, by decide, by decide⟩ (Nat.le_of_ble_eq_true rfl) rfl (by decide) y_42 ⟨by decide, by decide⟩ dX5_text_26 ?_
  refine fr_aload_n (pc := 29) rfl dX5_text_29 ?_
  refine fr_callV0 (pc := 30) (ci := 4) (T := TX5) (N := 20) [] [] (h1) gc_X5_290 rfl rfl ⟨rfl, rfl, by decide, by decide⟩ (Nat.le_of_ble_eq_true rfl) rfl (by decide) y_42 ⟨by decide, by decide⟩ dX5_text_30 ?_
  exact ht
