theorem zd_u (u : UInt32) : u.toInt32 = Int32.ofNat u.toNat := by
  apply Int32.toBitVec_inj.mp
  simp [UInt32.toInt32, Int32.toBitVec, Int32.ofNat]
theorem zd_nI (z : Int32) : s_zd z = nI (zn z) ∧ zn z < 2 ^ 24 := by
  have h : (z.toUInt32 >>> ((8 : Int32).toUInt32 &&& Int32.toUInt32 31)).toNat < 2 ^ 24 := by
    have h8 : ((8 : Int32).toUInt32 &&& Int32.toUInt32 31) = 8 := by decide
    rw [h8, UInt32.toNat_shiftRight]
    have := z.toUInt32.toNat_lt
    rw [show (8 : UInt32).toNat % 32 = 8 from rfl, Nat.shiftRight_eq_div_pow]
    omega
  have e : s_zd z = nI (z.toUInt32 >>> ((8 : Int32).toUInt32 &&& Int32.toUInt32 31)).toNat := by
    unfold s_zd nI
    generalize z.toUInt32 >>> ((8 : Int32).toUInt32 &&& Int32.toUInt32 31) = u
    exact zd_u u
  have e2 : zn z = (z.toUInt32 >>> ((8 : Int32).toUInt32 &&& Int32.toUInt32 31)).toNat := by
    unfold zn
    rw [e, nI_clamp (by omega)]
  exact ⟨by rw [e2]; exact e, by rw [e2]; exact h⟩
theorem zd_rem (z : Int32) : s_zd z % 8 = nI (zn z % 8) := by
  have h := pk_rem (a := zn z) (d := 8) (by have := (zd_nI z).2; omega) (by decide) (by decide)
  rw [irem_eq_mod] at h
  rw [(zd_nI z).1]
  exact h
theorem am_rem {x : Int32} (h : okv x 16) : okv ((x + 1) % 16) 16 := by
  obtain ⟨h1, h2⟩ := h
  have h3 := pk_rem (a := x.toNatClampNeg + 1) (d := 16) (by omega) (by decide) (by decide)
  rw [irem_eq_mod] at h3
  rw [h1, nI_1]
  rw [show (16 : Int32) = nI 16 from rfl, h3]
  exact okv_nI (Nat.mod_lt _ (by decide)) (by decide)
theorem wf_p1 {r : rT} (w : wf r) : wf (s_p1 r) := by
  unfold s_p1
  refine wf_u2 (wf_u2 w ?_ ?_ ?_ ?_ ?_ ?_ ?_) ?_ ?_ ?_ ?_ ?_ ?_ ?_ <;> (intro h; try omega) <;> (intro h; omega)
theorem wf_p2 {r : rT} (w : wf r) : wf (s_p2 r) := by
  have w1 : wf (u2 r 9 2 (s_z r)) := by
    refine wf_u2 w ?_ ?_ ?_ ?_ ?_ ?_ ?_ <;> (intro h; try omega) <;> (intro h; omega)
  unfold s_p2
  split
  · rename_i hc
    refine wf_u2 w1 ?_ ?_ ?_ ?_ ?_ ?_ ?_
    all_goals (intro h; try omega)
    exact am_rem (w.2.2.2.2.1 _ (by omega))
  · exact w1
theorem wf_party {r : rT} (w : wf r) : wf (s_party r) := wf_hour (wf_p2 (wf_p1 w))
set_option maxRecDepth 100000 in
theorem phs_loop {Γ : aG} {l : Launch} {M : Nat → aC} {j N : Nat} (hj : j + 10 ≤ 54) (hN : N < 1000) : ∀ (n i : Nat) (r : rT), wf r → i + n = N → Fr Γ l mX0_passHours 2 [(0, .ref j), (1, .int (nI N)), (2, .int (nI i))] [] 54 0 0 (putH M j r) none 54 (putH M j (s_hours n r)) := by
  intro n
  induction n with
  | zero =>
    intro i r w hn
    refine fr_iload_n (pc := 2) rfl dX0_passHours_2 ?_
    refine fr_iload_n (pc := 3) rfl dX0_passHours_3 ?_
    refine fr_icmp_ge (pc := 4) 17 (by decide) dX0_passHours_4 (fun h4 => ?_) (fun h4 => ?_)
    · exact fr_return (pc := 17) rfl rfl dX0_passHours_17
    · exact absurd (by rw [← hn]; exact Int32.le_refl _) h4
  | succ n ih =>
    intro i r w hn
    refine fr_iload_n (pc := 2) rfl dX0_passHours_2 ?_
    refine fr_iload_n (pc := 3) rfl dX0_passHours_3 ?_
    refine fr_icmp_ge (pc := 4) 17 (by decide) dX0_passHours_4 (fun h4 => ?_) (fun h4 => ?_)
    · exact absurd h4 (nI_ge (by omega) (by omega))
    · refine fr_aload_n (pc := 7) rfl dX0_passHours_7 ?_
      refine fr_callV0 (pc := 8) (ci := 0) (T := TX0) (N := 15) [] [] (c_X0_passHour (by omega) (by assumption)) gc_X0_101 rfl rfl ⟨rfl, rfl, by decide, by decide⟩ (Nat.le_of_ble_eq_true rfl) rfl (by omega) putH_0 ⟨by decide, by decide⟩ dX0_passHours_8 ?_
      refine fr_iinc (pc := 11) (v := nI (i + 1)) [(2, .int (nI (i + 1))), (0, .ref j), (1, .int (nI N))] rfl (nI_1 i) (by decide) rfl dX0_passHours_11 ?_
      refine fr_goto (pc := 14) 2 (by decide) dX0_passHours_14 ?_
      exact fr_sub [1, 2, 0] rfl (ih (i + 1) (s_hour r) (wf_hour w) (by omega))
set_option maxRecDepth 100000 in
theorem c_X0_passHours {Γ : aG} {l : Launch} {M : Nat → aC} {j : Nat} {r : rT} (hj : j + 10 ≤ 54) {N : Nat} (w : wf r) (hN : N < 1000)  : Ev Γ l mX0_passHours [.ref j, .int (nI N)] 54 (putH M j r) none 54 (putH M j (s_hours N r)) := by
  refine Ev.of [(0, .ref j), (1, .int (nI N))] (by decide) (Nat.le_of_ble_eq_true rfl) rfl ?_
  refine fr_iconst (pc := 0) (v := 0) rfl dX0_passHours_0 ?_
  refine fr_istore_n (pc := 1) [(2, .int 0), (0, .ref j), (1, .int (nI N))] (by decide) rfl dX0_passHours_1 ?_
  exact fr_sub [1, 2, 0] rfl (phs_loop hj hN N 0 r w (by omega))
set_option maxRecDepth 100000 in
theorem hf_tail {Γ : aG} {l : Launch} {M : Nat → aC} {j N : Nat} {r : rT} (hj : j + 10 ≤ 54) (hN : N < 1000) {i : Nat} : Fr Γ l mX0_holdsFor 24 [(0, .ref j), (1, .int (nI N)), (2, .int (nI i))] [] 54 0 0 (putH M j r) (some (.int (bI (r 9 5 = 0)))) 54 (putH M j r) := by
  refine fr_aload_n (pc := 24) rfl dX0_holdsFor_24 ?_
  refine fr_get (pc := 25) (ci := 0) (T := TX0) (k0 := 4) rfl hin_X0 (by decide) fl_X0_23 (by omega) putH_0 rfl dX0_holdsFor_25 ?_
  refine fr_if_ne (pc := 28) 35 (by decide) dX0_holdsFor_28 (fun h28 => ?_) (fun h28 => ?_)
  · refine fr_iconst (pc := 35) (v := 0) rfl dX0_holdsFor_35 ?_
    exact fr_ireturn (pc := 36) rfl (by first | exact (bI_f h28).symm | exact (bI_t h28).symm) rfl rfl dX0_holdsFor_36
  · refine fr_iconst (pc := 31) (v := 1) rfl dX0_holdsFor_31 ?_
    refine fr_goto (pc := 32) 36 (by decide) dX0_holdsFor_32 ?_
    exact fr_ireturn (pc := 36) rfl (by first | exact (bI_f h28).symm | exact (bI_t h28).symm) rfl rfl dX0_holdsFor_36
set_option maxRecDepth 100000 in
theorem hf_loop {Γ : aG} {l : Launch} {M : Nat → aC} {j N : Nat} (hj : j + 10 ≤ 54) (hN : N < 1000) : ∀ (n i : Nat) (r : rT), wf r → i + n = N → Fr Γ l mX0_holdsFor 2 [(0, .ref j), (1, .int (nI N)), (2, .int (nI i))] [] 54 0 0 (putH M j r) (some (.int (bI (s_hold n r 9 5 = 0)))) 54 (putH M j (s_hold n r)) := by
  intro n
  induction n with
  | zero =>
    intro i r w hn
    refine fr_iload_n (pc := 2) rfl dX0_holdsFor_2 ?_
    refine fr_iload_n (pc := 3) rfl dX0_holdsFor_3 ?_
    refine fr_icmp_ge (pc := 4) 24 (by decide) dX0_holdsFor_4 (fun h4 => ?_) (fun h4 => ?_)
    · exact hf_tail hj hN
    · exact absurd (by rw [← hn]; exact Int32.le_refl _) h4
  | succ n ih =>
    intro i r w hn
    refine fr_iload_n (pc := 2) rfl dX0_holdsFor_2 ?_
    refine fr_iload_n (pc := 3) rfl dX0_holdsFor_3 ?_
    refine fr_icmp_ge (pc := 4) 24 (by decide) dX0_holdsFor_4 (fun h4 => ?_) (fun h4 => ?_)
    · exact absurd h4 (nI_ge (by omega) (by omega))
    · refine fr_aload_n (pc := 7) rfl dX0_holdsFor_7 ?_
      refine fr_get (pc := 8) (ci := 0) (T := TX0) (k0 := 4) rfl hin_X0 (by decide) fl_X0_23 (by omega) putH_0 rfl dX0_holdsFor_8 ?_
      refine fr_if_ne (pc := 11) 24 (by decide) dX0_holdsFor_11 (fun h11 => ?_) (fun h11 => ?_)
      · rw [show s_hold (n + 1) r = r from if_neg h11]
        exact hf_tail hj hN
      · refine fr_aload_n (pc := 14) rfl dX0_holdsFor_14 ?_
        refine fr_callV0 (pc := 15) (ci := 0) (T := TX0) (N := 15) [] [] (c_X0_passHour (by omega) (by assumption)) gc_X0_101 rfl rfl ⟨rfl, rfl, by decide, by decide⟩ (Nat.le_of_ble_eq_true rfl) rfl (by omega) putH_0 ⟨by decide, by decide⟩ dX0_holdsFor_15 ?_
        refine fr_iinc (pc := 18) (v := nI (i + 1)) [(2, .int (nI (i + 1))), (0, .ref j), (1, .int (nI N))] rfl (nI_1 i) (by decide) rfl dX0_holdsFor_18 ?_
        refine fr_goto (pc := 21) 2 (by decide) dX0_holdsFor_21 ?_
        rw [show s_hold (n + 1) r = s_hold n (s_hour r) from if_pos h11]
        exact fr_sub [1, 2, 0] rfl (ih (i + 1) (s_hour r) (wf_hour w) (by omega))
set_option maxRecDepth 100000 in
theorem c_X0_holdsFor {Γ : aG} {l : Launch} {M : Nat → aC} {j : Nat} {r : rT} (hj : j + 10 ≤ 54) {N : Nat} (w : wf r) (hN : N < 1000)  : Ev Γ l mX0_holdsFor [.ref j, .int (nI N)] 54 (putH M j r) (some (.int (bI (s_hold N r 9 5 = 0)))) 54 (putH M j (s_hold N r)) := by
  refine Ev.of [(0, .ref j), (1, .int (nI N))] (by decide) (Nat.le_of_ble_eq_true rfl) rfl ?_
  refine fr_iconst (pc := 0) (v := 0) rfl dX0_holdsFor_0 ?_
  refine fr_istore_n (pc := 1) [(2, .int 0), (0, .ref j), (1, .int (nI N))] (by decide) rfl dX0_holdsFor_1 ?_
  exact fr_sub [1, 2, 0] rfl (hf_loop hj hN N 0 r w (by omega))
set_option maxRecDepth 100000 in
theorem c_X0_draw {Γ : aG} {l : Launch} {M : Nat → aC} {j : Nat} {r : rT} (hj : j + 10 ≤ 54)  : Ev Γ l mX0_draw [.ref j] 54 (putH M j r) (some (.int (s_zd (s_z r)))) 54 (putH M j (u2 r 9 2 (s_z r))) := by
  refine Ev.of [(0, .ref j)] (by decide) (Nat.le_of_ble_eq_true rfl) rfl ?_
  refine fr_aload_n (pc := 0) rfl dX0_draw_0 ?_
  refine fr_aload_n (pc := 1) rfl dX0_draw_1 ?_
  refine fr_get (pc := 2) (ci := 0) (T := TX0) (k0 := 13) rfl hin_X0 (by decide) fl_X0_50 (by omega) putH_0 rfl dX0_draw_2 ?_
  refine fr_ldc (pc := 5) kc_X0_128 dX0_draw_5 ?_
  refine fr_imul (pc := 7) dX0_draw_7 ?_
  refine fr_sipush (pc := 8) (v := 12345) rfl dX0_draw_8 ?_
  refine fr_iadd (pc := 11) dX0_draw_11 ?_
  refine fr_eq (z := s_z r) rfl ?_
  refine fr_put (pc := 12) (ci := 0) (T := TX0) (k0 := 13) (ty := .int) tyX0 tyX0_ok nmX0 rfl hin_X0 (by decide) fl_X0_50 rfl (by decide +kernel) rfl rfl (Nat.le_of_ble_eq_true rfl) (by omega) putH_0 dX0_draw_12 ?_
  refine fr_mem putH_f2 ?_
  refine fr_aload_n (pc := 15) rfl dX0_draw_15 ?_
  refine fr_get (pc := 16) (ci := 0) (T := TX0) (k0 := 13) rfl hin_X0 (by decide) fl_X0_50 (by omega) putH_0 rfl dX0_draw_16 ?_
  refine fr_bipush (pc := 19) (v := 8) rfl dX0_draw_19 ?_
  refine fr_iushr (pc := 21) dX0_draw_21 ?_
  exact fr_ireturn (pc := 22) rfl rfl rfl rfl dX0_draw_22
set_option maxRecDepth 100000 in
theorem c_X0_passPartyHour {Γ : aG} {l : Launch} {M : Nat → aC} {j : Nat} {r : rT} (hj : j + 10 ≤ 54) (w : wf r)  : Ev Γ l mX0_passPartyHour [.ref j] 54 (putH M j r) none 54 (putH M j (s_party r)) := by
  refine Ev.of [(0, .ref j)] (by decide) (Nat.le_of_ble_eq_true rfl) rfl ?_
  refine fr_aload_n (pc := 0) rfl dX0_passPartyHour_0 ?_
  refine fr_get (pc := 1) (ci := 0) (T := TX0) (k0 := 1) rfl hin_X0 (by decide) fl_X0_13 (by omega) putH_0 rfl dX0_passPartyHour_1 ?_
  refine fr_aload_n (pc := 4) rfl dX0_passPartyHour_4 ?_
  refine fr_callV0 (pc := 5) (ci := 0) (T := TX0) (N := 15) [] [.ref (j + 2)] (c_X0_placeNow (by omega) (by assumption)) gc_X0_78 rfl rfl ⟨rfl, rfl, by decide, by decide⟩ (Nat.le_of_ble_eq_true rfl) rfl (by omega) putH_0 ⟨by decide, by decide⟩ dX0_passPartyHour_5 ?_
  refine fr_bipush (pc := 8) (v := 16) rfl dX0_passPartyHour_8 ?_
  refine fr_aload_n (pc := 10) rfl dX0_passPartyHour_10 ?_
  refine fr_callV0 (pc := 11) (ci := 0) (T := TX0) (N := 15) [] [.int 16, .int (nI (s_place r)), .ref (j + 2)] (c_X0_draw (by omega)) gc_X0_129 rfl rfl ⟨rfl, rfl, by decide, by decide⟩ (Nat.le_of_ble_eq_true rfl) rfl (by omega) putH_0 ⟨by decide, by decide⟩ dX0_passPartyHour_11 ?_
  refine fr_bipush (pc := 14) (v := 21) rfl dX0_passPartyHour_14 ?_
  refine fr_irem (pc := 16) (by decide) dX0_passPartyHour_16 ?_
  refine fr_iadd (pc := 17) dX0_passPartyHour_17 ?_
  refine fr_iast (pc := 18) (s_place r) rfl (by omega) putH_2 pl_lt (by decide) dX0_passPartyHour_18 ?_
  refine fr_mem putH_a1 ?_
  obtain ⟨r1, hr1⟩ : ∃ q, q = s_p1 r := ⟨_, rfl⟩
  have w1 : wf r1 := hr1 ▸ wf_p1 w
  refine fr_mem (M1 := (putH M j r1)) (by rw [hr1]; rfl) ?_
  refine fr_aload_n (pc := 19) rfl dX0_passPartyHour_19 ?_
  refine fr_callV0 (pc := 20) (ci := 0) (T := TX0) (N := 15) [] [] (c_X0_draw (by omega)) gc_X0_129 rfl rfl ⟨rfl, rfl, by decide, by decide⟩ (Nat.le_of_ble_eq_true rfl) rfl (by omega) putH_0 ⟨by decide, by decide⟩ dX0_passPartyHour_20 ?_
  obtain ⟨z, hz⟩ : ∃ q, q = s_z r1 := ⟨_, rfl⟩
  have hz8 : zn z % 8 < 8 := Nat.mod_lt _ (by decide)
  refine fr_mem (M1 := (putH M j (u2 r1 9 2 z))) (by rw [hz]) ?_
  refine fr_bipush (pc := 23) (v := 8) rfl dX0_passPartyHour_23 ?_
  refine fr_irem (pc := 25) (by decide) dX0_passPartyHour_25 ?_
  refine fr_eq (z := nI (zn z % 8)) (by rw [hz]; exact zd_rem _) ?_
  refine fr_istore_n (pc := 26) [(1, .int (nI (zn z % 8))), (0, .ref j)] (by decide) rfl dX0_passPartyHour_26 ?_
  refine fr_iload_n (pc := 27) rfl dX0_passPartyHour_27 ?_
  refine fr_aload_n (pc := 28) rfl dX0_passPartyHour_28 ?_
  refine fr_get (pc := 29) (ci := 0) (T := TX0) (k0 := 6) rfl hin_X0 (by decide) fl_X0_29 (by omega) putH_0 rfl dX0_passPartyHour_29 ?_
  refine fr_icmp_ge (pc := 32) 52 (by decide) dX0_passPartyHour_32 (fun h32 => ?_) (fun h32 => ?_)
  · rw [u2_f (by decide), w1.ct] at h32
    have e2 : u2 r1 9 2 z = s_p2 r1 := by
      unfold s_p2
      rw [← hz, if_neg (fun q => absurd h32 (nI_ge q (by have := w1.ctl; omega)))]
    have w2 := wf_p2 w1
    refine fr_mem (M1 := (putH M j (s_p2 r1))) (congrArg (putH M j) e2) ?_
    refine fr_aload_n (pc := 52) rfl dX0_passPartyHour_52 ?_
    refine fr_callV0 (pc := 53) (ci := 0) (T := TX0) (N := 15) [] [] (c_X0_passHour (by omega) (by assumption)) gc_X0_101 rfl rfl ⟨rfl, rfl, by decide, by decide⟩ (Nat.le_of_ble_eq_true rfl) rfl (by omega) putH_0 ⟨by decide, by decide⟩ dX0_passPartyHour_53 ?_
    exact fr_return (pc := 56) rfl (by unfold s_party; rw [hr1]) dX0_passPartyHour_56
  · rw [u2_f (by decide), w1.ct] at h32
    have e2 : u2 (u2 r1 9 2 z) 5 (zn z % 8) ((r1 5 (zn z % 8) + 1) % 16) = s_p2 r1 := by
      unfold s_p2
      rw [← hz, if_pos (Nat.lt_of_not_le (fun q => h32 (nI_le q (by omega))))]
    refine fr_aload_n (pc := 35) rfl dX0_passPartyHour_35 ?_
    refine fr_get (pc := 36) (ci := 0) (T := TX0) (k0 := 10) rfl hin_X0 (by decide) fl_X0_41 (by omega) putH_0 rfl dX0_passPartyHour_36 ?_
    refine fr_iload_n (pc := 39) rfl dX0_passPartyHour_39 ?_
    refine fr_aload_n (pc := 40) rfl dX0_passPartyHour_40 ?_
    refine fr_get (pc := 41) (ci := 0) (T := TX0) (k0 := 10) rfl hin_X0 (by decide) fl_X0_41 (by omega) putH_0 rfl dX0_passPartyHour_41 ?_
    refine fr_iload_n (pc := 44) rfl dX0_passPartyHour_44 ?_
    refine fr_iald (pc := 45) (zn z % 8) rfl (by omega) putH_6 hz8 (by decide) dX0_passPartyHour_45 ?_
    refine fr_eq (z := r1 5 (zn z % 8)) (u2_f (fun q => absurd q.1 (by decide))) ?_
    refine fr_iconst (pc := 46) (v := 1) rfl dX0_passPartyHour_46 ?_
    refine fr_iadd (pc := 47) dX0_passPartyHour_47 ?_
    refine fr_bipush (pc := 48) (v := 16) rfl dX0_passPartyHour_48 ?_
    refine fr_irem (pc := 50) (by decide) dX0_passPartyHour_50 ?_
    refine fr_iast (pc := 51) (zn z % 8) rfl (by omega) putH_6 hz8 (by decide) dX0_passPartyHour_51 ?_
    refine fr_mem putH_a5 ?_
    have w2 := wf_p2 w1
    refine fr_mem (M1 := (putH M j (s_p2 r1))) (congrArg (putH M j) e2) ?_
    refine fr_aload_n (pc := 52) rfl dX0_passPartyHour_52 ?_
    refine fr_callV0 (pc := 53) (ci := 0) (T := TX0) (N := 15) [] [] (c_X0_passHour (by omega) (by assumption)) gc_X0_101 rfl rfl ⟨rfl, rfl, by decide, by decide⟩ (Nat.le_of_ble_eq_true rfl) rfl (by omega) putH_0 ⟨by decide, by decide⟩ dX0_passPartyHour_53 ?_
    exact fr_return (pc := 56) rfl (by unfold s_party; rw [hr1]) dX0_passPartyHour_56
set_option maxRecDepth 100000 in
theorem sl_X0_thoseStuck {Γ : aG} {l : Launch} {M : Nat → aC} {j : Nat} {r : rT} (hj : j + 10 ≤ 54) (w : wf r) : ∀ (n g : Nat) (a : Int32), g + n = cnt r → Fr Γ l mX0_thoseStuck 4 [(0, .ref j), (1, .int a), (2, .int (nI g))] [] 54 0 0 (putH M j r) (some (.int (s_set (fun g => decide (0 < r 6 g)) n g a))) 54 (putH M j r) := by
  have hcl := w.ctl
  intro n
  induction n with
  | zero =>
    intro g a hn
    refine fr_iload_n (pc := 4) rfl dX0_thoseStuck_4 ?_
    refine fr_aload_n (pc := 5) rfl dX0_thoseStuck_5 ?_
    refine fr_get (pc := 6) (ci := 0) (T := TX0) (k0 := 6) rfl hin_X0 (by decide) fl_X0_29 (by omega) putH_0 rfl dX0_thoseStuck_6 ?_
    refine fr_icmp_ge (pc := 9) 37 (by decide) dX0_thoseStuck_9 (fun h9 => ?_) (fun h9 => ?_)
    · refine fr_iload_n (pc := 37) rfl dX0_thoseStuck_37 ?_
      exact fr_ireturn (pc := 38) rfl rfl rfl rfl dX0_thoseStuck_38
    · exact absurd (by rw [w.ct, ← hn]; exact Int32.le_refl _) h9
  | succ n ih =>
    intro g a hn
    refine fr_iload_n (pc := 4) rfl dX0_thoseStuck_4 ?_
    refine fr_aload_n (pc := 5) rfl dX0_thoseStuck_5 ?_
    refine fr_get (pc := 6) (ci := 0) (T := TX0) (k0 := 6) rfl hin_X0 (by decide) fl_X0_29 (by omega) putH_0 rfl dX0_thoseStuck_6 ?_
    refine fr_icmp_ge (pc := 9) 37 (by decide) dX0_thoseStuck_9 (fun h9 => ?_) (fun h9 => ?_)
    · exact absurd h9 (by rw [w.ct, ← hn]; exact nI_ge (by omega) (by omega))
    · refine fr_iload_n (pc := 12) rfl dX0_thoseStuck_12 ?_
      refine fr_aload_n (pc := 13) rfl dX0_thoseStuck_13 ?_
      refine fr_get (pc := 14) (ci := 0) (T := TX0) (k0 := 11) rfl hin_X0 (by decide) fl_X0_44 (by omega) putH_0 rfl dX0_thoseStuck_14 ?_
      refine fr_iload_n (pc := 17) rfl dX0_thoseStuck_17 ?_
      refine fr_iald (pc := 18) g rfl (by omega) putH_7 (by first | assumption | omega) (by decide) dX0_thoseStuck_18 ?_
      refine fr_if_le (pc := 19) 28 (by decide) dX0_thoseStuck_19 (fun h19 => ?_) (fun h19 => ?_)
      · refine fr_iconst (pc := 28) (v := 0) rfl dX0_thoseStuck_28 ?_
        refine fr_ior (pc := 29) dX0_thoseStuck_29 ?_
        refine fr_nm (fun x1_30 e_x1_30 => ?_)
        refine fr_istore_n (pc := 30) [(1, .int x1_30), (0, .ref j), (2, .int (nI g))] (by decide) rfl dX0_thoseStuck_30 ?_
        refine fr_iinc (pc := 31) (v := nI (g + 1)) [(2, .int (nI (g + 1))), (1, .int x1_30), (0, .ref j)] rfl (nI_1 g) (by decide) rfl dX0_thoseStuck_31 ?_
        refine fr_goto (pc := 34) 4 (by decide) dX0_thoseStuck_34 ?_
        rw [s_set, show (a ||| (if (fun g => decide (0 < r 6 g)) g = true then 1 <<< (nI g &&& 31) else 0)) = x1_30 from by rw [e_x1_30]; rw [if_neg (by simpa using h19)]]
        exact fr_sub [2, 1, 0] rfl (ih (g + 1) x1_30 (by omega))
      · refine fr_iconst (pc := 22) (v := 1) rfl dX0_thoseStuck_22 ?_
        refine fr_iload_n (pc := 23) rfl dX0_thoseStuck_23 ?_
        refine fr_ishl (pc := 24) dX0_thoseStuck_24 ?_
        refine fr_goto (pc := 25) 29 (by decide) dX0_thoseStuck_25 ?_
        refine fr_ior (pc := 29) dX0_thoseStuck_29 ?_
        refine fr_nm (fun x1_30 e_x1_30 => ?_)
        refine fr_istore_n (pc := 30) [(1, .int x1_30), (0, .ref j), (2, .int (nI g))] (by decide) rfl dX0_thoseStuck_30 ?_
        refine fr_iinc (pc := 31) (v := nI (g + 1)) [(2, .int (nI (g + 1))), (1, .int x1_30), (0, .ref j)] rfl (nI_1 g) (by decide) rfl dX0_thoseStuck_31 ?_
        refine fr_goto (pc := 34) 4 (by decide) dX0_thoseStuck_34 ?_
        rw [s_set, show (a ||| (if (fun g => decide (0 < r 6 g)) g = true then 1 <<< (nI g &&& 31) else 0)) = x1_30 from by rw [e_x1_30]; rw [if_pos (by simpa using Int32.not_le.mp h19)]]
        exact fr_sub [2, 1, 0] rfl (ih (g + 1) x1_30 (by omega))
set_option maxRecDepth 100000 in
theorem c_X0_thoseStuck {Γ : aG} {l : Launch} {M : Nat → aC} {j : Nat} {r : rT} (hj : j + 10 ≤ 54) (w : wf r)  : Ev Γ l mX0_thoseStuck [.ref j] 54 (putH M j r) (some (.int (s_set (fun g => decide (0 < r 6 g)) (cnt r) 0 0))) 54 (putH M j r) := by
  refine Ev.of [(0, .ref j)] (by decide) (Nat.le_of_ble_eq_true rfl) rfl ?_
  refine fr_iconst (pc := 0) (v := 0) rfl dX0_thoseStuck_0 ?_
  refine fr_istore_n (pc := 1) [(1, .int 0), (0, .ref j)] (by decide) rfl dX0_thoseStuck_1 ?_
  refine fr_iconst (pc := 2) (v := 0) rfl dX0_thoseStuck_2 ?_
  refine fr_istore_n (pc := 3) [(2, .int 0), (1, .int 0), (0, .ref j)] (by decide) rfl dX0_thoseStuck_3 ?_
  exact fr_sub [2, 1, 0] rfl (sl_X0_thoseStuck hj w (cnt r) 0 0 (by omega))
set_option maxRecDepth 100000 in
theorem sl_X0_thoseAtAim {Γ : aG} {l : Launch} {M : Nat → aC} {j : Nat} {r : rT} (hj : j + 10 ≤ 54) (w : wf r) : ∀ (n g : Nat) (a : Int32), g + n = cnt r → Fr Γ l mX0_thoseAtAim 4 [(0, .ref j), (1, .int a), (2, .int (nI g))] [] 54 0 0 (putH M j r) (some (.int (s_set (fun g => decide (r 3 g = r 5 g)) n g a))) 54 (putH M j r) := by
  have hcl := w.ctl
  intro n
  induction n with
  | zero =>
    intro g a hn
    refine fr_iload_n (pc := 4) rfl dX0_thoseAtAim_4 ?_
    refine fr_aload_n (pc := 5) rfl dX0_thoseAtAim_5 ?_
    refine fr_get (pc := 6) (ci := 0) (T := TX0) (k0 := 6) rfl hin_X0 (by decide) fl_X0_29 (by omega) putH_0 rfl dX0_thoseAtAim_6 ?_
    refine fr_icmp_ge (pc := 9) 43 (by decide) dX0_thoseAtAim_9 (fun h9 => ?_) (fun h9 => ?_)
    · refine fr_iload_n (pc := 43) rfl dX0_thoseAtAim_43 ?_
      exact fr_ireturn (pc := 44) rfl rfl rfl rfl dX0_thoseAtAim_44
    · exact absurd (by rw [w.ct, ← hn]; exact Int32.le_refl _) h9
  | succ n ih =>
    intro g a hn
    refine fr_iload_n (pc := 4) rfl dX0_thoseAtAim_4 ?_
    refine fr_aload_n (pc := 5) rfl dX0_thoseAtAim_5 ?_
    refine fr_get (pc := 6) (ci := 0) (T := TX0) (k0 := 6) rfl hin_X0 (by decide) fl_X0_29 (by omega) putH_0 rfl dX0_thoseAtAim_6 ?_
    refine fr_icmp_ge (pc := 9) 43 (by decide) dX0_thoseAtAim_9 (fun h9 => ?_) (fun h9 => ?_)
    · exact absurd h9 (by rw [w.ct, ← hn]; exact nI_ge (by omega) (by omega))
    · refine fr_iload_n (pc := 12) rfl dX0_thoseAtAim_12 ?_
      refine fr_aload_n (pc := 13) rfl dX0_thoseAtAim_13 ?_
      refine fr_get (pc := 14) (ci := 0) (T := TX0) (k0 := 8) rfl hin_X0 (by decide) fl_X0_35 (by omega) putH_0 rfl dX0_thoseAtAim_14 ?_
      refine fr_iload_n (pc := 17) rfl dX0_thoseAtAim_17 ?_
      refine fr_iald (pc := 18) g rfl (by omega) putH_4 (by first | assumption | omega) (by decide) dX0_thoseAtAim_18 ?_
      refine fr_aload_n (pc := 19) rfl dX0_thoseAtAim_19 ?_
      refine fr_get (pc := 20) (ci := 0) (T := TX0) (k0 := 10) rfl hin_X0 (by decide) fl_X0_41 (by omega) putH_0 rfl dX0_thoseAtAim_20 ?_
      refine fr_iload_n (pc := 23) rfl dX0_thoseAtAim_23 ?_
      refine fr_iald (pc := 24) g rfl (by omega) putH_6 (by first | assumption | omega) (by decide) dX0_thoseAtAim_24 ?_
      refine fr_icmp_ne (pc := 25) 34 (by decide) dX0_thoseAtAim_25 (fun h25 => ?_) (fun h25 => ?_)
      · refine fr_iconst (pc := 34) (v := 0) rfl dX0_thoseAtAim_34 ?_
        refine fr_ior (pc := 35) dX0_thoseAtAim_35 ?_
        refine fr_nm (fun x1_36 e_x1_36 => ?_)
        refine fr_istore_n (pc := 36) [(1, .int x1_36), (0, .ref j), (2, .int (nI g))] (by decide) rfl dX0_thoseAtAim_36 ?_
        refine fr_iinc (pc := 37) (v := nI (g + 1)) [(2, .int (nI (g + 1))), (1, .int x1_36), (0, .ref j)] rfl (nI_1 g) (by decide) rfl dX0_thoseAtAim_37 ?_
        refine fr_goto (pc := 40) 4 (by decide) dX0_thoseAtAim_40 ?_
        rw [s_set, show (a ||| (if (fun g => decide (r 3 g = r 5 g)) g = true then 1 <<< (nI g &&& 31) else 0)) = x1_36 from by rw [e_x1_36]; rw [if_neg (by simpa using h25)]]
        exact fr_sub [2, 1, 0] rfl (ih (g + 1) x1_36 (by omega))
      · refine fr_iconst (pc := 28) (v := 1) rfl dX0_thoseAtAim_28 ?_
        refine fr_iload_n (pc := 29) rfl dX0_thoseAtAim_29 ?_
        refine fr_ishl (pc := 30) dX0_thoseAtAim_30 ?_
        refine fr_goto (pc := 31) 35 (by decide) dX0_thoseAtAim_31 ?_
        refine fr_ior (pc := 35) dX0_thoseAtAim_35 ?_
        refine fr_nm (fun x1_36 e_x1_36 => ?_)
        refine fr_istore_n (pc := 36) [(1, .int x1_36), (0, .ref j), (2, .int (nI g))] (by decide) rfl dX0_thoseAtAim_36 ?_
        refine fr_iinc (pc := 37) (v := nI (g + 1)) [(2, .int (nI (g + 1))), (1, .int x1_36), (0, .ref j)] rfl (nI_1 g) (by decide) rfl dX0_thoseAtAim_37 ?_
        refine fr_goto (pc := 40) 4 (by decide) dX0_thoseAtAim_40 ?_
        rw [s_set, show (a ||| (if (fun g => decide (r 3 g = r 5 g)) g = true then 1 <<< (nI g &&& 31) else 0)) = x1_36 from by rw [e_x1_36]; rw [if_pos (by simpa using h25)]]
        exact fr_sub [2, 1, 0] rfl (ih (g + 1) x1_36 (by omega))
set_option maxRecDepth 100000 in
theorem c_X0_thoseAtAim {Γ : aG} {l : Launch} {M : Nat → aC} {j : Nat} {r : rT} (hj : j + 10 ≤ 54) (w : wf r)  : Ev Γ l mX0_thoseAtAim [.ref j] 54 (putH M j r) (some (.int (s_set (fun g => decide (r 3 g = r 5 g)) (cnt r) 0 0))) 54 (putH M j r) := by
  refine Ev.of [(0, .ref j)] (by decide) (Nat.le_of_ble_eq_true rfl) rfl ?_
  refine fr_iconst (pc := 0) (v := 0) rfl dX0_thoseAtAim_0 ?_
  refine fr_istore_n (pc := 1) [(1, .int 0), (0, .ref j)] (by decide) rfl dX0_thoseAtAim_1 ?_
  refine fr_iconst (pc := 2) (v := 0) rfl dX0_thoseAtAim_2 ?_
  refine fr_istore_n (pc := 3) [(2, .int 0), (1, .int 0), (0, .ref j)] (by decide) rfl dX0_thoseAtAim_3 ?_
  exact fr_sub [2, 1, 0] rfl (sl_X0_thoseAtAim hj w (cnt r) 0 0 (by omega))
set_option maxRecDepth 100000 in
theorem sl_X0_thoseInHall {Γ : aG} {l : Launch} {M : Nat → aC} {j : Nat} {r : rT} (hj : j + 10 ≤ 54) (w : wf r) : ∀ (n g : Nat) (a : Int32), g + n = cnt r → Fr Γ l mX0_thoseInHall 4 [(0, .ref j), (1, .int a), (2, .int (nI g))] [] 54 0 0 (putH M j r) (some (.int (s_set (fun g => decide (r 3 g = 0 ∧ r 7 g = 0)) n g a))) 54 (putH M j r) := by
  have hcl := w.ctl
  intro n
  induction n with
  | zero =>
    intro g a hn
    refine fr_iload_n (pc := 4) rfl dX0_thoseInHall_4 ?_
    refine fr_aload_n (pc := 5) rfl dX0_thoseInHall_5 ?_
    refine fr_get (pc := 6) (ci := 0) (T := TX0) (k0 := 6) rfl hin_X0 (by decide) fl_X0_29 (by omega) putH_0 rfl dX0_thoseInHall_6 ?_
    refine fr_icmp_ge (pc := 9) 46 (by decide) dX0_thoseInHall_9 (fun h9 => ?_) (fun h9 => ?_)
    · refine fr_iload_n (pc := 46) rfl dX0_thoseInHall_46 ?_
      exact fr_ireturn (pc := 47) rfl rfl rfl rfl dX0_thoseInHall_47
    · exact absurd (by rw [w.ct, ← hn]; exact Int32.le_refl _) h9
  | succ n ih =>
    intro g a hn
    refine fr_iload_n (pc := 4) rfl dX0_thoseInHall_4 ?_
    refine fr_aload_n (pc := 5) rfl dX0_thoseInHall_5 ?_
    refine fr_get (pc := 6) (ci := 0) (T := TX0) (k0 := 6) rfl hin_X0 (by decide) fl_X0_29 (by omega) putH_0 rfl dX0_thoseInHall_6 ?_
    refine fr_icmp_ge (pc := 9) 46 (by decide) dX0_thoseInHall_9 (fun h9 => ?_) (fun h9 => ?_)
    · exact absurd h9 (by rw [w.ct, ← hn]; exact nI_ge (by omega) (by omega))
    · refine fr_iload_n (pc := 12) rfl dX0_thoseInHall_12 ?_
      refine fr_aload_n (pc := 13) rfl dX0_thoseInHall_13 ?_
      refine fr_get (pc := 14) (ci := 0) (T := TX0) (k0 := 8) rfl hin_X0 (by decide) fl_X0_35 (by omega) putH_0 rfl dX0_thoseInHall_14 ?_
      refine fr_iload_n (pc := 17) rfl dX0_thoseInHall_17 ?_
      refine fr_iald (pc := 18) g rfl (by omega) putH_4 (by first | assumption | omega) (by decide) dX0_thoseInHall_18 ?_
      refine fr_if_ne (pc := 19) 37 (by decide) dX0_thoseInHall_19 (fun h19 => ?_) (fun h19 => ?_)
      · refine fr_iconst (pc := 37) (v := 0) rfl dX0_thoseInHall_37 ?_
        refine fr_ior (pc := 38) dX0_thoseInHall_38 ?_
        refine fr_nm (fun x1_39 e_x1_39 => ?_)
        refine fr_istore_n (pc := 39) [(1, .int x1_39), (0, .ref j), (2, .int (nI g))] (by decide) rfl dX0_thoseInHall_39 ?_
        refine fr_iinc (pc := 40) (v := nI (g + 1)) [(2, .int (nI (g + 1))), (1, .int x1_39), (0, .ref j)] rfl (nI_1 g) (by decide) rfl dX0_thoseInHall_40 ?_
        refine fr_goto (pc := 43) 4 (by decide) dX0_thoseInHall_43 ?_
        rw [s_set, show (a ||| (if (fun g => decide (r 3 g = 0 ∧ r 7 g = 0)) g = true then 1 <<< (nI g &&& 31) else 0)) = x1_39 from by rw [e_x1_39]; rw [if_neg (by simp [h19])]]
        exact fr_sub [2, 1, 0] rfl (ih (g + 1) x1_39 (by omega))
      · refine fr_aload_n (pc := 22) rfl dX0_thoseInHall_22 ?_
        refine fr_get (pc := 23) (ci := 0) (T := TX0) (k0 := 12) rfl hin_X0 (by decide) fl_X0_47 (by omega) putH_0 rfl dX0_thoseInHall_23 ?_
        refine fr_iload_n (pc := 26) rfl dX0_thoseInHall_26 ?_
        refine fr_iald (pc := 27) g rfl (by omega) putH_8 (by first | assumption | omega) (by decide) dX0_thoseInHall_27 ?_
        refine fr_if_ne (pc := 28) 37 (by decide) dX0_thoseInHall_28 (fun h28 => ?_) (fun h28 => ?_)
        · refine fr_iconst (pc := 37) (v := 0) rfl dX0_thoseInHall_37 ?_
          refine fr_ior (pc := 38) dX0_thoseInHall_38 ?_
          refine fr_nm (fun x1_39 e_x1_39 => ?_)
          refine fr_istore_n (pc := 39) [(1, .int x1_39), (0, .ref j), (2, .int (nI g))] (by decide) rfl dX0_thoseInHall_39 ?_
          refine fr_iinc (pc := 40) (v := nI (g + 1)) [(2, .int (nI (g + 1))), (1, .int x1_39), (0, .ref j)] rfl (nI_1 g) (by decide) rfl dX0_thoseInHall_40 ?_
          refine fr_goto (pc := 43) 4 (by decide) dX0_thoseInHall_43 ?_
          rw [s_set, show (a ||| (if (fun g => decide (r 3 g = 0 ∧ r 7 g = 0)) g = true then 1 <<< (nI g &&& 31) else 0)) = x1_39 from by rw [e_x1_39]; rw [if_neg (by simp [h28])]]
          exact fr_sub [2, 1, 0] rfl (ih (g + 1) x1_39 (by omega))
        · refine fr_iconst (pc := 31) (v := 1) rfl dX0_thoseInHall_31 ?_
          refine fr_iload_n (pc := 32) rfl dX0_thoseInHall_32 ?_
          refine fr_ishl (pc := 33) dX0_thoseInHall_33 ?_
          refine fr_goto (pc := 34) 38 (by decide) dX0_thoseInHall_34 ?_
          refine fr_ior (pc := 38) dX0_thoseInHall_38 ?_
          refine fr_nm (fun x1_39 e_x1_39 => ?_)
          refine fr_istore_n (pc := 39) [(1, .int x1_39), (0, .ref j), (2, .int (nI g))] (by decide) rfl dX0_thoseInHall_39 ?_
          refine fr_iinc (pc := 40) (v := nI (g + 1)) [(2, .int (nI (g + 1))), (1, .int x1_39), (0, .ref j)] rfl (nI_1 g) (by decide) rfl dX0_thoseInHall_40 ?_
          refine fr_goto (pc := 43) 4 (by decide) dX0_thoseInHall_43 ?_
          rw [s_set, show (a ||| (if (fun g => decide (r 3 g = 0 ∧ r 7 g = 0)) g = true then 1 <<< (nI g &&& 31) else 0)) = x1_39 from by rw [e_x1_39]; rw [if_pos (by simp [h19, h28])]]
          exact fr_sub [2, 1, 0] rfl (ih (g + 1) x1_39 (by omega))
set_option maxRecDepth 100000 in
theorem c_X0_thoseInHall {Γ : aG} {l : Launch} {M : Nat → aC} {j : Nat} {r : rT} (hj : j + 10 ≤ 54) (w : wf r)  : Ev Γ l mX0_thoseInHall [.ref j] 54 (putH M j r) (some (.int (s_set (fun g => decide (r 3 g = 0 ∧ r 7 g = 0)) (cnt r) 0 0))) 54 (putH M j r) := by
  refine Ev.of [(0, .ref j)] (by decide) (Nat.le_of_ble_eq_true rfl) rfl ?_
  refine fr_iconst (pc := 0) (v := 0) rfl dX0_thoseInHall_0 ?_
  refine fr_istore_n (pc := 1) [(1, .int 0), (0, .ref j)] (by decide) rfl dX0_thoseInHall_1 ?_
  refine fr_iconst (pc := 2) (v := 0) rfl dX0_thoseInHall_2 ?_
  refine fr_istore_n (pc := 3) [(2, .int 0), (1, .int 0), (0, .ref j)] (by decide) rfl dX0_thoseInHall_3 ?_
  exact fr_sub [2, 1, 0] rfl (sl_X0_thoseInHall hj w (cnt r) 0 0 (by omega))
