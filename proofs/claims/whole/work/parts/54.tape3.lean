set_option maxRecDepth 100000 in
theorem rg_49 {Γ : aG} {l : Launch} {M : Nat → aC} {r rk t : rT} {ik : Int32} {S : sT} {b : Nat → Int32} {L : Nat} {fi : Nat → Int32} {T : tk} (hL : L ≤ 120) (hT : tw L T) (w : wf t) {k x : Int32} (hc : cnt t < 8) (hk : okv k 7) (hx : okv x 16) : Fr Γ l mX3_readGuest 49 [(0, .ref 39), (1, .ref 21), (2, .int k), (3, .int x)] [] 54 0 0 (xM M r rk t ik S (b, nI L, nI T.2.1, nI T.2.2.1, nI T.1, T.2.2.2) fi) (some (.int (bI ((p_g2 b (nxC b L) k x T t).1 = true)))) 54 (xM M r rk ((p_g2 b (nxC b L) k x T t).2.2) ik S (b, nI L, nI (p_g2 b (nxC b L) k x T t).2.1.2.1, nI (p_g2 b (nxC b L) k x T t).2.1.2.2.1, nI (p_g2 b (nxC b L) k x T t).2.1.1, (p_g2 b (nxC b L) k x T t).2.1.2.2.2) fi) := by
  have h1 := pt_ok (b := b) (wd := (a_ss 8).2.2.2) (q := 4) (g := cnt t) (lo := 1) (hi := 40) (fun _ => tw_x (b := b)) hT (wf_add w hc hk hx) (Or.inl rfl)
  have h1w := h1.1
  refine fr_aload_n (pc := 49) rfl dX3_readGuest_49 ?_
  refine fr_iload_n (pc := 50) rfl dX3_readGuest_50 ?_
  refine fr_iload_n (pc := 51) rfl dX3_readGuest_51 ?_
  refine fr_callV0 (pc := 52) (ci := 0) (T := TX0) (N := 15) [.int k, .int x] [] (ev_T (fun _ => c_X0_add (by omega) (by assumption) (by assumption))) gc_X3_87 rfl rfl ⟨rfl, rfl, by decide, by decide⟩ (Nat.le_of_ble_eq_true rfl) rfl (by decide) x_21 ⟨by decide, by decide⟩ dX3_readGuest_52 ?_
  refine fr_istore (pc := 55) [(4, .int (nI (cnt t))), (0, .ref 39), (1, .ref 21), (2, .int k), (3, .int x)] (by decide) rfl dX3_readGuest_55 ?_
  refine fr_aload_n (pc := 57) rfl dX3_readGuest_57 ?_
  refine fr_ldcS (pc := 58) (k0 := 8) (by decide) rfl rfl dX3_readGuest_58 ?_
  refine fr_aload_n (pc := 60) rfl dX3_readGuest_60 ?_
  refine fr_get (pc := 61) (ci := 0) (T := TX0) (k0 := 9) rfl hin_X0 (by decide) fl_X3_93 (by decide) x_21 rfl dX3_readGuest_61 ?_
  refine fr_iload (pc := 64) rfl dX3_readGuest_64 ?_
  refine fr_iconst (pc := 66) (v := 1) rfl dX3_readGuest_66 ?_
  refine fr_bipush (pc := 67) (v := 40) rfl dX3_readGuest_67 ?_
  refine fr_callV0 (pc := 69) (ci := 2) (T := TX3) (N := 6) [.ref 2008, .ref 26, .int (nI (cnt t)), .int 1, .int 40] [] (c_X3_readTrait4 hL hT (k0 := 8) (by decide) (by omega)) gc_X3_95 rfl rfl ⟨rfl, rfl, by decide, by decide⟩ (Nat.le_of_ble_eq_true rfl) rfl (by decide) x_39 ⟨by decide, by decide⟩ dX3_readGuest_69 ?_
  refine fr_if_eq (pc := 72) 97 (by decide) dX3_readGuest_72 (fun h72 => ?_) (fun h72 => ?_)
  · have g72 := bI_0.mp h72
    rw [show p_g2 b (nxC b L) k x T t = (false, (p_trait b (nxC b L) (a_ss 8).2.2.2 4 (cnt t) 1 40 T (s_add t k x)).2.1, (p_trait b (nxC b L) (a_ss 8).2.2.2 4 (cnt t) 1 40 T (s_add t k x)).2.2) from if_neg g72]
    refine fr_iconst (pc := 97) (v := 0) rfl dX3_readGuest_97 ?_
    exact fr_ireturn (pc := 98) rfl rfl rfl rfl dX3_readGuest_98
  · have g72 := bI_n0 h72
    refine fr_aload_n (pc := 75) rfl dX3_readGuest_75 ?_
    refine fr_ldcS (pc := 76) (k0 := 9) (by decide) rfl rfl dX3_readGuest_76 ?_
    refine fr_aload_n (pc := 78) rfl dX3_readGuest_78 ?_
    refine fr_get (pc := 79) (ci := 0) (T := TX0) (k0 := 10) rfl hin_X0 (by decide) fl_X3_101 (by decide) x_21 rfl dX3_readGuest_79 ?_
    refine fr_iload (pc := 82) rfl dX3_readGuest_82 ?_
    refine fr_iconst (pc := 84) (v := 0) rfl dX3_readGuest_84 ?_
    refine fr_bipush (pc := 85) (v := 15) rfl dX3_readGuest_85 ?_
    refine fr_callV0 (pc := 87) (ci := 2) (T := TX3) (N := 6) [.ref 2009, .ref 27, .int (nI (cnt t)), .int 0, .int 15] [] (c_X3_readTrait5 hL (by assumption) (k0 := 9) (by decide) (by omega)) gc_X3_95 rfl rfl ⟨rfl, rfl, by decide, by decide⟩ (Nat.le_of_ble_eq_true rfl) rfl (by decide) x_39 ⟨by decide, by decide⟩ dX3_readGuest_87 ?_
    refine fr_if_eq (pc := 90) 97 (by decide) dX3_readGuest_90 (fun h90 => ?_) (fun h90 => ?_)
    · have g90 := bI_0.mp h90
      rw [show p_g2 b (nxC b L) k x T t = (p_trait b (nxC b L) (a_ss 9).2.2.2 5 (cnt t) 0 15 (p_trait b (nxC b L) (a_ss 8).2.2.2 4 (cnt t) 1 40 T (s_add t k x)).2.1 (p_trait b (nxC b L) (a_ss 8).2.2.2 4 (cnt t) 1 40 T (s_add t k x)).2.2) from if_pos g72]
      refine fr_iconst (pc := 97) (v := 0) rfl dX3_readGuest_97 ?_
      exact fr_ireturn (pc := 98) rfl (bI_f g90).symm rfl rfl dX3_readGuest_98
    · have g90 := bI_n0 h90
      rw [show p_g2 b (nxC b L) k x T t = (p_trait b (nxC b L) (a_ss 9).2.2.2 5 (cnt t) 0 15 (p_trait b (nxC b L) (a_ss 8).2.2.2 4 (cnt t) 1 40 T (s_add t k x)).2.1 (p_trait b (nxC b L) (a_ss 8).2.2.2 4 (cnt t) 1 40 T (s_add t k x)).2.2) from if_pos g72]
      refine fr_iconst (pc := 93) (v := 1) rfl dX3_readGuest_93 ?_
      refine fr_goto (pc := 94) 98 (by decide) dX3_readGuest_94 ?_
      exact fr_ireturn (pc := 98) rfl (bI_t g90).symm rfl rfl dX3_readGuest_98
set_option maxRecDepth 100000 in
theorem c_X3_readGuest {Γ : aG} {l : Launch} {M : Nat → aC} {r rk t : rT} {ik : Int32} {S : sT} {b : Nat → Int32} {L : Nat} {fi : Nat → Int32} {T : tk} (hL : L ≤ 120) (hT : tw L T) (w : wf t) {k : Int32} (hk : okv k 7)  : Ev Γ l mX3_readGuest [.ref 39, .ref 21, .int k] 54 (xM M r rk t ik S (b, nI L, nI T.2.1, nI T.2.2.1, nI T.1, T.2.2.2) fi) (some (.int (bI ((p_guest b (nxC b L) k T t).1 = true)))) 54 (xM M r rk ((p_guest b (nxC b L) k T t).2.2) ik S (b, nI L, nI (p_guest b (nxC b L) k T t).2.1.2.1, nI (p_guest b (nxC b L) k T t).2.1.2.2.1, nI (p_guest b (nxC b L) k T t).2.1.1, (p_guest b (nxC b L) k T t).2.1.2.2.2) fi) := by
  refine Ev.of [(0, .ref 39), (1, .ref 21), (2, .int k)] (by decide) (Nat.le_of_ble_eq_true rfl) rfl ?_
  refine fr_aload_n (pc := 0) rfl dX3_readGuest_0 ?_
  refine fr_callV0 (pc := 1) (ci := 0) (T := TX0) (N := 15) [] [] (ev_T (fun _ => c_X0_isFull (by omega))) gc_X3_81 rfl rfl ⟨rfl, rfl, by decide, by decide⟩ (Nat.le_of_ble_eq_true rfl) rfl (by decide) x_21 ⟨by decide, by decide⟩ dX3_readGuest_1 ?_
  refine fr_if_eq (pc := 4) 9 (by decide) dX3_readGuest_4 (fun h4 => ?_) (fun h4 => ?_)
  · have g4 := bI_0.mp h4
    rw [Decidable.not_not] at g4
    have hc : cnt t < 8 := by
      have q := g4
      rw [w.ct] at q
      exact (nI_ltI (b := 8) (by have := w.ctl; omega) (by decide)).mp q
    refine fr_aload_n (pc := 9) rfl dX3_readGuest_9 ?_
    refine fr_callV0 (pc := 10) (ci := 2) (T := TX3) (N := 6) [] [] (c_nx hL hT) gc_X3_33 rfl rfl ⟨rfl, rfl, by decide, by decide⟩ (Nat.le_of_ble_eq_true rfl) rfl (by decide) x_39 ⟨by decide, by decide⟩ dX3_readGuest_10 ?_
    refine fr_iconst (pc := 13) (v := 0) rfl dX3_readGuest_13 ?_
    refine fr_istore_n (pc := 14) [(3, .int 0), (0, .ref 39), (1, .ref 21), (2, .int k)] (by decide) rfl dX3_readGuest_14 ?_
    refine fr_aload_n (pc := 15) rfl dX3_readGuest_15 ?_
    refine fr_ldcS (pc := 16) (k0 := 7) (by decide) rfl rfl dX3_readGuest_16 ?_
    refine fr_callV0 (pc := 18) (ci := 2) (T := TX3) (N := 6) [.ref 2007] [] (c_X3_isWord hL (tw_x hT) (k0 := 7) (by first | assumption | decide)) gc_X3_50 rfl rfl ⟨rfl, rfl, by decide, by decide⟩ (Nat.le_of_ble_eq_true rfl) rfl (by decide) x_39 ⟨by decide, by decide⟩ dX3_readGuest_18 ?_
    refine fr_if_eq (pc := 21) 49 (by decide) dX3_readGuest_21 (fun h21 => ?_) (fun h21 => ?_)
    · have g21 := bI_0.mp h21
      rw [show p_guest b (nxC b L) k T t = p_g2 b (nxC b L) k 0 (nxC b L T) t from (if_pos g4).trans (if_neg g21)]
      exact fr_sub [1, 2, 3, 0] rfl (rg_49 hL (tw_x hT) w hc hk (okv_nI (a := 0) (by decide) (by decide)))
    · have g21 := bI_n0 h21
      refine fr_aload_n (pc := 24) rfl dX3_readGuest_24 ?_
      refine fr_callV0 (pc := 25) (ci := 2) (T := TX3) (N := 6) [] [] (c_nx hL (tw_x hT)) gc_X3_33 rfl rfl ⟨rfl, rfl, by decide, by decide⟩ (Nat.le_of_ble_eq_true rfl) rfl (by decide) x_39 ⟨by decide, by decide⟩ dX3_readGuest_25 ?_
      refine fr_aload_n (pc := 28) rfl dX3_readGuest_28 ?_
      refine fr_iconst (pc := 29) (v := 0) rfl dX3_readGuest_29 ?_
      refine fr_bipush (pc := 30) (v := 15) rfl dX3_readGuest_30 ?_
      refine fr_callV0 (pc := 32) (ci := 2) (T := TX3) (N := 6) [.int 0, .int 15] [] (c_X3_takeNumber (tw_x (tw_x hT))) gc_X3_75 rfl rfl ⟨rfl, rfl, by decide, by decide⟩ (Nat.le_of_ble_eq_true rfl) rfl (by decide) x_39 ⟨by decide, by decide⟩ dX3_readGuest_32 ?_
      refine fr_if_ne (pc := 35) 40 (by decide) dX3_readGuest_35 (fun h35 => ?_) (fun h35 => ?_)
      · have g35 := bI_n0 h35
        refine fr_aload_n (pc := 40) rfl dX3_readGuest_40 ?_
        refine fr_get (pc := 41) (ci := 2) (T := TX3) (k0 := 5) rfl hin_X3 (by decide) fl_X3_26 (by decide) x_39 rfl dX3_readGuest_41 ?_
        refine fr_nm (fun x3_44 e_x3_44 => ?_)
        refine fr_istore_n (pc := 44) [(3, .int x3_44), (0, .ref 39), (1, .ref 21), (2, .int k)] (by decide) rfl dX3_readGuest_44 ?_
        refine fr_aload_n (pc := 45) rfl dX3_readGuest_45 ?_
        refine fr_callV0 (pc := 46) (ci := 2) (T := TX3) (N := 6) [] [] (c_nx hL (tw_x (tw_x hT))) gc_X3_33 rfl rfl ⟨rfl, rfl, by decide, by decide⟩ (Nat.le_of_ble_eq_true rfl) rfl (by decide) x_39 ⟨by decide, by decide⟩ dX3_readGuest_46 ?_
        rw [show p_guest b (nxC b L) k T t = p_g2 b (nxC b L) k x3_44 (nxC b L (nxC b L (nxC b L T))) t from by rw [e_x3_44]; exact (if_pos g4).trans ((if_pos g21).trans (if_pos g35))]
        exact fr_sub [1, 2, 3, 0] rfl (rg_49 hL (tw_x (tw_x (tw_x hT))) w hc hk (by rw [e_x3_44]; exact num_ok (by decide) g35 (by decide) (by decide)))
      · have g35 := bI_0.mp h35
        rw [show p_guest b (nxC b L) k T t = (false, (nxC b L (nxC b L T)), t) from (if_pos g4).trans ((if_pos g21).trans (if_neg g35))]
        refine fr_iconst (pc := 38) (v := 0) rfl dX3_readGuest_38 ?_
        exact fr_ireturn (pc := 39) rfl rfl rfl rfl dX3_readGuest_39
  · have g4 := bI_n0 h4
    rw [show p_guest b (nxC b L) k T t = (false, T, t) from if_neg g4]
    refine fr_iconst (pc := 7) (v := 0) rfl dX3_readGuest_7 ?_
    exact fr_ireturn (pc := 8) rfl rfl rfl rfl dX3_readGuest_8
set_option maxRecDepth 100000 in
theorem c_X3_readItem {Γ : aG} {l : Launch} {M : Nat → aC} {r rk t : rT} {ik : Int32} {S : sT} {b : Nat → Int32} {L : Nat} {fi : Nat → Int32} {T : tk} (hL : L ≤ 120) (hT : tw L T) (w : wf t)  : Ev Γ l mX3_readItem [.ref 39, .ref 21] 54 (xM M r rk t ik S (b, nI L, nI T.2.1, nI T.2.2.1, nI T.1, T.2.2.2) fi) (some (.int (bI ((p_item b (nxC b L) T t).1 = true)))) 54 (xM M r rk ((p_item b (nxC b L) T t).2.2) ik S (b, nI L, nI (p_item b (nxC b L) T t).2.1.2.1, nI (p_item b (nxC b L) T t).2.1.2.2.1, nI (p_item b (nxC b L) T t).2.1.1, (p_item b (nxC b L) T t).2.1.2.2.2) fi) := by
  refine Ev.of [(0, .ref 39), (1, .ref 21)] (by decide) (Nat.le_of_ble_eq_true rfl) rfl ?_
  refine fr_aload_n (pc := 0) rfl dX3_readItem_0 ?_
  refine fr_callV0 (pc := 1) (ci := 2) (T := TX3) (N := 6) [] [] (c_X3_kindTold hL hT) gc_X3_40 rfl rfl ⟨rfl, rfl, by decide, by decide⟩ (Nat.le_of_ble_eq_true rfl) rfl (by decide) x_39 ⟨by decide, by decide⟩ dX3_readItem_1 ?_
  refine fr_nm (fun x2_4 e_x2_4 => ?_)
  refine fr_istore_n (pc := 4) [(2, .int x2_4), (0, .ref 39), (1, .ref 21)] (by decide) rfl dX3_readItem_4 ?_
  refine fr_iload_n (pc := 5) rfl dX3_readItem_5 ?_
  refine fr_if_lt (pc := 6) 16 (by decide) dX3_readItem_6 (fun h6 => ?_) (fun h6 => ?_)
  · rw [e_x2_4] at h6
    refine fr_aload_n (pc := 16) rfl dX3_readItem_16 ?_
    refine fr_ldcS (pc := 17) (k0 := 10) (by decide) rfl rfl dX3_readItem_17 ?_
    refine fr_callV0 (pc := 19) (ci := 2) (T := TX3) (N := 6) [.ref 2010] [] (c_X3_isWord hL hT (k0 := 10) (by first | assumption | decide)) gc_X3_50 rfl rfl ⟨rfl, rfl, by decide, by decide⟩ (Nat.le_of_ble_eq_true rfl) rfl (by decide) x_39 ⟨by decide, by decide⟩ dX3_readItem_19 ?_
    refine fr_if_eq (pc := 22) 37 (by decide) dX3_readItem_22 (fun h22 => ?_) (fun h22 => ?_)
    · have g22 := bI_0.mp h22
      refine fr_aload_n (pc := 37) rfl dX3_readItem_37 ?_
      refine fr_ldcS (pc := 38) (k0 := 11) (by decide) rfl rfl dX3_readItem_38 ?_
      refine fr_callV0 (pc := 40) (ci := 2) (T := TX3) (N := 6) [.ref 2011] [] (c_X3_isWord hL hT (k0 := 11) (by first | assumption | decide)) gc_X3_50 rfl rfl ⟨rfl, rfl, by decide, by decide⟩ (Nat.le_of_ble_eq_true rfl) rfl (by decide) x_39 ⟨by decide, by decide⟩ dX3_readItem_40 ?_
      refine fr_if_eq (pc := 43) 59 (by decide) dX3_readItem_43 (fun h43 => ?_) (fun h43 => ?_)
      · have g43 := bI_0.mp h43
        refine fr_aload_n (pc := 59) rfl dX3_readItem_59 ?_
        refine fr_ldcS (pc := 60) (k0 := 12) (by decide) rfl rfl dX3_readItem_60 ?_
        refine fr_callV0 (pc := 62) (ci := 2) (T := TX3) (N := 6) [.ref 2012] [] (c_X3_isWord hL hT (k0 := 12) (by first | assumption | decide)) gc_X3_50 rfl rfl ⟨rfl, rfl, by decide, by decide⟩ (Nat.le_of_ble_eq_true rfl) rfl (by decide) x_39 ⟨by decide, by decide⟩ dX3_readItem_62 ?_
        refine fr_if_eq (pc := 65) 101 (by decide) dX3_readItem_65 (fun h65 => ?_) (fun h65 => ?_)
        · have g65 := bI_0.mp h65
          rw [show p_item b (nxC b L) T t = (false, T, t) from (if_pos h6).trans ((if_neg g22).trans ((if_neg g43).trans (if_neg g65)))]
          refine fr_iconst (pc := 101) (v := 0) rfl dX3_readItem_101 ?_
          exact fr_ireturn (pc := 102) rfl rfl rfl rfl dX3_readItem_102
        · have g65 := bI_n0 h65
          refine fr_aload_n (pc := 68) rfl dX3_readItem_68 ?_
          refine fr_callV0 (pc := 69) (ci := 2) (T := TX3) (N := 6) [] [] (c_nx hL hT) gc_X3_33 rfl rfl ⟨rfl, rfl, by decide, by decide⟩ (Nat.le_of_ble_eq_true rfl) rfl (by decide) x_39 ⟨by decide, by decide⟩ dX3_readItem_69 ?_
          refine fr_aload_n (pc := 72) rfl dX3_readItem_72 ?_
          refine fr_iconst (pc := 73) (v := 0) rfl dX3_readItem_73 ?_
          refine fr_gsN (pc := 74) (k0 := 0) (host := "LacedHouse") (by decide) (by decide +kernel) dX3_readItem_74 ?_
          refine fr_iconst (pc := 77) (v := 0) rfl dX3_readItem_77 ?_
          refine fr_ialdS (pc := 78) (k0 := 0) 0 rfl (by decide) (by decide) (by omega) dX3_readItem_78 ?_
          refine fr_eq (z := 999) rfl ?_
          refine fr_callV0 (pc := 79) (ci := 2) (T := TX3) (N := 6) [.int 0, .int 999] [] (c_X3_takeNumber (tw_x hT)) gc_X3_75 rfl rfl ⟨rfl, rfl, by decide, by decide⟩ (Nat.le_of_ble_eq_true rfl) rfl (by decide) x_39 ⟨by decide, by decide⟩ dX3_readItem_79 ?_
          refine fr_if_ne (pc := 82) 87 (by decide) dX3_readItem_82 (fun h82 => ?_) (fun h82 => ?_)
          · have g82 := bI_n0 h82
            rw [show p_item b (nxC b L) T t = (true, (nxC b L (nxC b L T)), u2 t 9 3 (nxC b L T).2.2.2) from (if_pos h6).trans ((if_neg g22).trans ((if_neg g43).trans ((if_pos g65).trans (if_pos g82))))]
            refine fr_aload_n (pc := 87) rfl dX3_readItem_87 ?_
            refine fr_aload_n (pc := 88) rfl dX3_readItem_88 ?_
            refine fr_get (pc := 89) (ci := 2) (T := TX3) (k0 := 5) rfl hin_X3 (by decide) fl_X3_26 (by decide) x_39 rfl dX3_readItem_89 ?_
            refine fr_put (pc := 92) (ci := 0) (T := TX0) (k0 := 2) (ty := .int) tyX0 tyX0_ok nmX0 rfl hin_X0 (by decide) fl_X3_79 rfl (by decide +kernel) rfl rfl (Nat.le_of_ble_eq_true rfl) (by decide) x_21 dX3_readItem_92 ?_
            refine fr_mem x_tf3 ?_
            refine fr_aload_n (pc := 95) rfl dX3_readItem_95 ?_
            refine fr_callV0 (pc := 96) (ci := 2) (T := TX3) (N := 6) [] [] (c_nx hL (tw_x hT)) gc_X3_33 rfl rfl ⟨rfl, rfl, by decide, by decide⟩ (Nat.le_of_ble_eq_true rfl) rfl (by decide) x_39 ⟨by decide, by decide⟩ dX3_readItem_96 ?_
            refine fr_iconst (pc := 99) (v := 1) rfl dX3_readItem_99 ?_
            exact fr_ireturn (pc := 100) rfl rfl rfl rfl dX3_readItem_100
          · have g82 := bI_0.mp h82
            rw [show p_item b (nxC b L) T t = (false, (nxC b L T), t) from (if_pos h6).trans ((if_neg g22).trans ((if_neg g43).trans ((if_pos g65).trans (if_neg g82))))]
            refine fr_iconst (pc := 85) (v := 0) rfl dX3_readItem_85 ?_
            exact fr_ireturn (pc := 86) rfl rfl rfl rfl dX3_readItem_86
      · have g43 := bI_n0 h43
        rw [show p_item b (nxC b L) T t = p_pair (nxC b L) 1 6 16 36 T t from (if_pos h6).trans ((if_neg g22).trans (if_pos g43))]
        refine fr_aload_n (pc := 46) rfl dX3_readItem_46 ?_
        refine fr_aload_n (pc := 47) rfl dX3_readItem_47 ?_
        refine fr_get (pc := 48) (ci := 0) (T := TX0) (k0 := 1) rfl hin_X0 (by decide) fl_X3_65 (by decide) x_21 rfl dX3_readItem_48 ?_
        refine fr_bipush (pc := 51) (v := 16) rfl dX3_readItem_51 ?_
        refine fr_bipush (pc := 53) (v := 36) rfl dX3_readItem_53 ?_
        refine fr_callV0 (pc := 55) (ci := 2) (T := TX3) (N := 6) [.ref 23, .int 16, .int 36] [] (c_X3_readPair1 hL hT) gc_X3_59 rfl rfl ⟨rfl, rfl, by decide, by decide⟩ (Nat.le_of_ble_eq_true rfl) rfl (by decide) x_39 ⟨by decide, by decide⟩ dX3_readItem_55 ?_
        exact fr_ireturn (pc := 58) rfl rfl rfl bI_nar dX3_readItem_58
    · have g22 := bI_n0 h22
      rw [show p_item b (nxC b L) T t = p_pair (nxC b L) 0 16 0 40 T t from (if_pos h6).trans (if_pos g22)]
      refine fr_aload_n (pc := 25) rfl dX3_readItem_25 ?_
      refine fr_aload_n (pc := 26) rfl dX3_readItem_26 ?_
      refine fr_get (pc := 27) (ci := 0) (T := TX0) (k0 := 0) rfl hin_X0 (by decide) fl_X3_54 (by decide) x_21 rfl dX3_readItem_27 ?_
      refine fr_iconst (pc := 30) (v := 0) rfl dX3_readItem_30 ?_
      refine fr_bipush (pc := 31) (v := 40) rfl dX3_readItem_31 ?_
      refine fr_callV0 (pc := 33) (ci := 2) (T := TX3) (N := 6) [.ref 22, .int 0, .int 40] [] (c_X3_readPair0 hL hT) gc_X3_59 rfl rfl ⟨rfl, rfl, by decide, by decide⟩ (Nat.le_of_ble_eq_true rfl) rfl (by decide) x_39 ⟨by decide, by decide⟩ dX3_readItem_33 ?_
      exact fr_ireturn (pc := 36) rfl rfl rfl bI_nar dX3_readItem_36
  · have h7 := h6
    rw [e_x2_4] at h7
    have hk : okv x2_4 7 := by rw [e_x2_4]; exact kt_ok 7 0 rfl h7
    rw [show p_item b (nxC b L) T t = p_guest b (nxC b L) x2_4 T t from by rw [e_x2_4]; exact if_neg h7]
    refine fr_aload_n (pc := 9) rfl dX3_readItem_9 ?_
    refine fr_aload_n (pc := 10) rfl dX3_readItem_10 ?_
    refine fr_iload_n (pc := 11) rfl dX3_readItem_11 ?_
    refine fr_callV0 (pc := 12) (ci := 2) (T := TX3) (N := 6) [.ref 21, .int x2_4] [] (c_X3_readGuest hL hT w (by assumption)) gc_X3_44 rfl rfl ⟨rfl, rfl, by decide, by decide⟩ (Nat.le_of_ble_eq_true rfl) rfl (by decide) x_39 ⟨by decide, by decide⟩ dX3_readItem_12 ?_
    exact fr_ireturn (pc := 15) rfl rfl rfl bI_nar dX3_readItem_15
set_option maxRecDepth 100000 in
theorem rd_lp {Γ : aG} {l : Launch} {M : Nat → aC} {r rk : rT} {ik : Int32} {S : sT} {b : Nat → Int32} {L : Nat} {fi : Nat → Int32} (hL : L ≤ 120) : ∀ (f i : Nat) (T : tk) (t : rT), tw L T → wf t → i + f = 121 → Fr Γ l mX3_read 11 [(0, .ref 39), (1, .ref 21), (2, .int (nI i))] [] 54 0 0 (xM M r rk t ik S (b, nI L, nI T.2.1, nI T.2.2.1, nI T.1, T.2.2.2) fi) (some (.int (p_read b (nxC b L) f i T t).1)) 54 (xM M r rk ((p_read b (nxC b L) f i T t).2.2) ik S (b, nI L, nI (p_read b (nxC b L) f i T t).2.1.2.1, nI (p_read b (nxC b L) f i T t).2.1.2.2.1, nI (p_read b (nxC b L) f i T t).2.1.1, (p_read b (nxC b L) f i T t).2.1.2.2.2) fi) := by
  intro f
  induction f with
  | zero =>
    intro i T t hT w hi
    refine fr_iload_n (pc := 11) rfl dX3_read_11 ?_
    refine fr_bipush (pc := 12) (v := 120) rfl dX3_read_12 ?_
    refine fr_icmp_gt (pc := 14) 66 (by decide) dX3_read_14 (fun h14 => ?_) (fun h14 => ?_)
    · refine fr_iconst (pc := 66) (v := (-1)) rfl dX3_read_66 ?_
      refine fr_aload_n (pc := 67) rfl dX3_read_67 ?_
      refine fr_get (pc := 68) (ci := 2) (T := TX3) (k0 := 4) rfl hin_X3 (by decide) fl_X3_23 (by decide) x_39 rfl dX3_read_68 ?_
      refine fr_isub (pc := 71) dX3_read_71 ?_
      exact fr_ireturn (pc := 72) rfl rfl rfl rfl dX3_read_72
    · exact absurd (nI_lt (a := 120) (b := i) (by omega) (by omega)) h14
  | succ f ih =>
    intro i T t hT w hi
    have hj := pi_ok (b := b) (fun _ => tw_x (b := b)) hT w
    have hj1 := hj.1
    have e5 := hj1.2.2
    refine fr_iload_n (pc := 11) rfl dX3_read_11 ?_
    refine fr_bipush (pc := 12) (v := 120) rfl dX3_read_12 ?_
    refine fr_icmp_gt (pc := 14) 66 (by decide) dX3_read_14 (fun h14 => ?_) (fun h14 => ?_)
    · exact absurd h14 (nI_nlt (a := 120) (b := i) (by omega) (by omega))
    · refine fr_aload_n (pc := 17) rfl dX3_read_17 ?_
      refine fr_aload_n (pc := 18) rfl dX3_read_18 ?_
      refine fr_callV0 (pc := 19) (ci := 2) (T := TX3) (N := 6) [.ref 21] [] (c_X3_readItem hL hT w) gc_X3_36 rfl rfl ⟨rfl, rfl, by decide, by decide⟩ (Nat.le_of_ble_eq_true rfl) rfl (by decide) x_39 ⟨by decide, by decide⟩ dX3_read_19 ?_
      refine fr_if_ne (pc := 22) 32 (by decide) dX3_read_22 (fun h22 => ?_) (fun h22 => ?_)
      · have g22 := bI_n0 h22
        refine fr_aload_n (pc := 32) rfl dX3_read_32 ?_
        refine fr_get (pc := 33) (ci := 2) (T := TX3) (k0 := 3) rfl hin_X3 (by decide) fl_X3_20 (by decide) x_39 rfl dX3_read_33 ?_
        refine fr_if_ne (pc := 36) 41 (by decide) dX3_read_36 (fun h36 => ?_) (fun h36 => ?_)
        · have h37 : ¬ (p_item b (nxC b L) T t).2.1.2.2.1 = 0 := fun z => h36 (by rw [z]; rfl)
          refine fr_aload_n (pc := 41) rfl dX3_read_41 ?_
          refine fr_get (pc := 42) (ci := 2) (T := TX3) (k0 := 3) rfl hin_X3 (by decide) fl_X3_20 (by decide) x_39 rfl dX3_read_42 ?_
          refine fr_iconst (pc := 45) (v := 3) rfl dX3_read_45 ?_
          refine fr_icmp_eq (pc := 46) 56 (by decide) dX3_read_46 (fun h46 => ?_) (fun h46 => ?_)
          · rw [show (p_read b (nxC b L) (f + 1) i T t) = p_read b (nxC b L) f (i + 1) (nxC b L (p_item b (nxC b L) T t).2.1) (p_item b (nxC b L) T t).2.2 from (if_pos g22).trans ((if_neg h37).trans (if_pos ((nI_eq (b := 3) (by omega) (by decide)).mp h46)))]
            refine fr_aload_n (pc := 56) rfl dX3_read_56 ?_
            refine fr_callV0 (pc := 57) (ci := 2) (T := TX3) (N := 6) [] [] (c_nx hL (by assumption)) gc_X3_33 rfl rfl ⟨rfl, rfl, by decide, by decide⟩ (Nat.le_of_ble_eq_true rfl) rfl (by decide) x_39 ⟨by decide, by decide⟩ dX3_read_57 ?_
            refine fr_iinc (pc := 60) (v := nI (i + 1)) [(2, .int (nI (i + 1))), (0, .ref 39), (1, .ref 21)] rfl (nI_1 i) (by decide) rfl dX3_read_60 ?_
            refine fr_goto (pc := 63) 11 (by decide) dX3_read_63 ?_
            exact fr_sub [1, 2, 0] rfl (ih (i + 1) _ _ (tw_x hj.1) hj.2 (by omega))
          · rw [show (p_read b (nxC b L) (f + 1) i T t) = (-1 - nI (p_item b (nxC b L) T t).2.1.1, (p_item b (nxC b L) T t).2) from (if_pos g22).trans ((if_neg h37).trans (if_neg (fun z => h46 (by rw [z]; rfl))))]
            refine fr_iconst (pc := 49) (v := (-1)) rfl dX3_read_49 ?_
            refine fr_aload_n (pc := 50) rfl dX3_read_50 ?_
            refine fr_get (pc := 51) (ci := 2) (T := TX3) (k0 := 4) rfl hin_X3 (by decide) fl_X3_23 (by decide) x_39 rfl dX3_read_51 ?_
            refine fr_isub (pc := 54) dX3_read_54 ?_
            exact fr_ireturn (pc := 55) rfl rfl rfl rfl dX3_read_55
        · have h37 : (p_item b (nxC b L) T t).2.1.2.2.1 = 0 := (nI_eq (b := 0) (by omega) (by decide)).mp h36
          rw [show (p_read b (nxC b L) (f + 1) i T t) = (nI i, (p_item b (nxC b L) T t).2) from (if_pos g22).trans (if_pos h37)]
          refine fr_iload_n (pc := 39) rfl dX3_read_39 ?_
          exact fr_ireturn (pc := 40) rfl rfl rfl rfl dX3_read_40
      · have g22 := bI_0.mp h22
        rw [show (p_read b (nxC b L) (f + 1) i T t) = (-1 - nI (p_item b (nxC b L) T t).2.1.1, (p_item b (nxC b L) T t).2) from if_neg g22]
        refine fr_iconst (pc := 25) (v := (-1)) rfl dX3_read_25 ?_
        refine fr_aload_n (pc := 26) rfl dX3_read_26 ?_
        refine fr_get (pc := 27) (ci := 2) (T := TX3) (k0 := 4) rfl hin_X3 (by decide) fl_X3_23 (by decide) x_39 rfl dX3_read_27 ?_
        refine fr_isub (pc := 30) dX3_read_30 ?_
        exact fr_ireturn (pc := 31) rfl rfl rfl rfl dX3_read_31
set_option maxRecDepth 100000 in
theorem c_X3_read {Γ : aG} {l : Launch} {M : Nat → aC} {r rk t : rT} {ik : Int32} {S : sT} {b : Nat → Int32} {L : Nat} {fi : Nat → Int32} (hL : L ≤ 120) (w : wf t) {p0 k0 s0 n0 : Int32}  : Ev Γ l mX3_read [.ref 39, .ref 21] 54 (xM M r rk t ik S (b, nI L, p0, k0, s0, n0) fi) (some (.int (p_read b (nxC b L) 120 1 (tkn b L 0 n0) t).1)) 54 (xM M r rk ((p_read b (nxC b L) 120 1 (tkn b L 0 n0) t).2.2) ik S (b, nI L, nI (p_read b (nxC b L) 120 1 (tkn b L 0 n0) t).2.1.2.1, nI (p_read b (nxC b L) 120 1 (tkn b L 0 n0) t).2.1.2.2.1, nI (p_read b (nxC b L) 120 1 (tkn b L 0 n0) t).2.1.1, (p_read b (nxC b L) 120 1 (tkn b L 0 n0) t).2.1.2.2.2) fi) := by
  refine Ev.of [(0, .ref 39), (1, .ref 21)] (by decide) (Nat.le_of_ble_eq_true rfl) rfl ?_
  refine fr_aload_n (pc := 0) rfl dX3_read_0 ?_
  refine fr_iconst (pc := 1) (v := 0) rfl dX3_read_1 ?_
  refine fr_put (pc := 2) (ci := 2) (T := TX3) (k0 := 2) (ty := .int) tyX3 tyX3_ok nmX3 rfl hin_X3 (by decide) fl_X3_17 rfl (by decide +kernel) rfl rfl (Nat.le_of_ble_eq_true rfl) (by decide) x_39 dX3_read_2 ?_
  refine fr_mem x_u39_2 ?_
  refine fr_aload_n (pc := 5) rfl dX3_read_5 ?_
  refine fr_callV0 (pc := 6) (ci := 2) (T := TX3) (N := 6) [] [] (c_next hL (p := 0) (Nat.zero_le L)) gc_X3_33 rfl rfl ⟨rfl, rfl, by decide, by decide⟩ (Nat.le_of_ble_eq_true rfl) rfl (by decide) x_39 ⟨by decide, by decide⟩ dX3_read_6 ?_
  refine fr_iconst (pc := 9) (v := 1) rfl dX3_read_9 ?_
  refine fr_istore_n (pc := 10) [(2, .int 1), (0, .ref 39), (1, .ref 21)] (by decide) rfl dX3_read_10 ?_
  exact fr_sub [1, 2, 0] rfl (rd_lp hL 120 1 _ t (tw_n (Nat.zero_le _)).1 w rfl)
set_option maxRecDepth 100000 in
theorem x_text {Γ : aG} {l : Launch} {M : Nat → aC} {r rk t : rT} {ik : Int32} {S : sT} {b : Nat → Int32} {ln : Int32} {J : Int32 × Int32 × Int32 × Int32} {fi : Nat → Int32} (w : wf r) (hl : okv ln 121) : ∃ (t' : rT) (J' : Int32 × Int32 × Int32 × Int32), Ev Γ l mX4_text [.ref 0] 54 (xM M r rk t ik S (b, ln, J) fi) (some (.int (sp_text (r, rk, ik, S, b, ln, fi)).1)) 54 (xF M t' J' (sp_text (r, rk, ik, S, b, ln, fi)).2) := by
  obtain ⟨L, hLd⟩ : ∃ L, L = ln.toNatClampNeg := ⟨_, rfl⟩
  obtain ⟨el, ll⟩ := hl
  rw [← hLd] at el ll
  clear hLd
  subst el
  have hL : L ≤ 120 := by omega
  obtain ⟨p0, k0, s0, n0⟩ := J
  have eL : (nI L).toNatClampNeg = L := nI_clamp (by omega)
  have hq := pr_q (b := b) (nx := nxC b L) (nx' := nxM b L) nx_q 120 1 (tkn b L 0 n0) (tkn b L 0 0) r tkn_q
  obtain ⟨P, hP⟩ : ∃ P, P = (p_read b (nxC b L) 120 1 (tkn b L 0 n0) r) := ⟨_, rfl⟩
  have e1 : sp_text (r, rk, ik, S, b, nI L, fi) = (P.1, (if P.1 < 0 then r else P.2.2, rk, ik, S, b, 0, fi)) := by
    unfold sp_text p_all
    dsimp only
    rw [eL, hP, hq.1, hq.2]
  rw [e1]
  refine ⟨P.2.2, tJ P.2.1, ?_⟩
  refine Ev.of [(0, .ref 0)] (by decide) (Nat.le_of_ble_eq_true rfl) rfl ?_
  refine fr_aload_n (pc := 0) rfl dX4_text_0 ?_
  refine fr_callV0 (pc := 1) (ci := 3) (T := TX4) (N := 7) [] [] (c_X4_startTrial) gc_X4_152 rfl rfl ⟨rfl, rfl, by decide, by decide⟩ (Nat.le_of_ble_eq_true rfl) rfl (by decide) x_0 ⟨by decide, by decide⟩ dX4_text_1 ?_
  refine fr_aload_n (pc := 4) rfl dX4_text_4 ?_
  refine fr_get (pc := 5) (ci := 3) (T := TX4) (k0 := 5) rfl hin_X4 (by decide) fl_X4_36 (by decide) x_0 rfl dX4_text_5 ?_
  refine fr_aload_n (pc := 8) rfl dX4_text_8 ?_
  refine fr_get (pc := 9) (ci := 3) (T := TX4) (k0 := 2) rfl hin_X4 (by decide) fl_X4_19 (by decide) x_0 rfl dX4_text_9 ?_
  refine fr_callV0 (pc := 12) (ci := 2) (T := TX3) (N := 6) [.ref 21] [] (hP ▸ c_X3_read hL w) gc_X4_217 rfl rfl ⟨rfl, rfl, by decide, by decide⟩ (Nat.le_of_ble_eq_true rfl) rfl (by decide) x_39 ⟨by decide, by decide⟩ dX4_text_12 ?_
  refine fr_nm (fun z9 e_z9 => ?_)
  refine fr_istore_n (pc := 15) [(1, .int z9), (0, .ref 0)] (by decide) rfl dX4_text_15 ?_
  refine fr_iload_n (pc := 16) rfl dX4_text_16 ?_
  refine fr_if_lt (pc := 17) 31 (by decide) dX4_text_17 (fun h17 => ?_) (fun h17 => ?_)
  · rw [e_z9] at h17 ⊢
    rw [if_pos h17]
    refine fr_aload_n (pc := 31) rfl dX4_text_31 ?_
    refine fr_get (pc := 32) (ci := 3) (T := TX4) (k0 := 5) rfl hin_X4 (by decide) fl_X4_36 (by decide) x_0 rfl dX4_text_32 ?_
    refine fr_iconst (pc := 35) (v := 0) rfl dX4_text_35 ?_
    refine fr_put (pc := 36) (ci := 2) (T := TX3) (k0 := 1) (ty := .int) tyX3 tyX3_ok nmX3 rfl hin_X3 (by decide) fl_X4_214 rfl (by decide +kernel) rfl rfl (Nat.le_of_ble_eq_true rfl) (by decide) x_39 dX4_text_36 ?_
    refine fr_mem x_u39_1 ?_
    refine fr_iload_n (pc := 39) rfl dX4_text_39 ?_
    exact fr_ireturn (pc := 40) rfl rfl rfl rfl dX4_text_40
  · rw [e_z9] at h17 ⊢
    rw [if_neg h17]
    refine fr_aload_n (pc := 20) rfl dX4_text_20 ?_
    refine fr_get (pc := 21) (ci := 3) (T := TX4) (k0 := 0) rfl hin_X4 (by decide) fl_X4_10 (by decide) x_0 rfl dX4_text_21 ?_
    refine fr_aload_n (pc := 24) rfl dX4_text_24 ?_
    refine fr_get (pc := 25) (ci := 3) (T := TX4) (k0 := 2) rfl hin_X4 (by decide) fl_X4_19 (by decide) x_0 rfl dX4_text_25 ?_
    refine fr_callV0 (pc := 28) (ci := 0) (T := TX0) (N := 15) [.ref 21] [] (ev_TH (fun _ => c_X0_become (by decide) (by decide) (by decide))) gc_X4_221 rfl rfl ⟨rfl, rfl, by decide, by decide⟩ (Nat.le_of_ble_eq_true rfl) rfl (by decide) x_1 ⟨by decide, by decide⟩ dX4_text_28 ?_
    refine fr_aload_n (pc := 31) rfl dX4_text_31 ?_
    refine fr_get (pc := 32) (ci := 3) (T := TX4) (k0 := 5) rfl hin_X4 (by decide) fl_X4_36 (by decide) x_0 rfl dX4_text_32 ?_
    refine fr_iconst (pc := 35) (v := 0) rfl dX4_text_35 ?_
    refine fr_put (pc := 36) (ci := 2) (T := TX3) (k0 := 1) (ty := .int) tyX3 tyX3_ok nmX3 rfl hin_X3 (by decide) fl_X4_214 rfl (by decide +kernel) rfl rfl (Nat.le_of_ble_eq_true rfl) (by decide) x_39 dX4_text_36 ?_
    refine fr_mem x_u39_1 ?_
    refine fr_iload_n (pc := 39) rfl dX4_text_39 ?_
    exact fr_ireturn (pc := 40) rfl rfl rfl rfl dX4_text_40
