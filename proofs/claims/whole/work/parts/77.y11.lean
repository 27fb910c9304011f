section A5
variable {Γ : aG} {l : Launch} {y : MethodName} {cc : ByteArray} {nL : Nat} {ret : Option FieldType} {R : Room} {mc ms : Nat} {pc : Nat} {L : List (Nat × Value)} {st : List Value} {n k1 k2 : Nat} {M : Nat → aC} {r : Option Value} {n' : Nat} {M' : Nat → aC}
theorem fr_ldcwS {ix k0 : Nat} (hk : k0 < 26) (ho : (a_ss k0).1 = y.cls) (hx : (a_ss k0).2.1 = ix) (hd : decode cc pc = .ok (.ldc_w ix, 3)) (k : Fr Γ l (y, cc, nL, ret, R, mc, ms) (pc + 3) L (.ref (2000 + k0) :: st) n k1 k2 M r n' M') : Fr Γ l (y, cc, nL, ret, R, mc, ms) pc L st n k1 k2 M r n' M' := by
  intro p e s m args below meth c H locs ls C w hl
  have e1 : a_ad Γ (2000 + k0) = Γ.2.2.2 (2000 + k0) := if_neg (by omega)
  have hz := (C.2.2.2.2.2.2.2.2.2.1 k0 hk).1
  rw [ho, hx, ← e1] at hz
  have kk := k p e s m args below meth c H locs ls C w hl
  intro T hT X
  obtain ⟨t, a1, b1⟩ := kk T hT X
  exact ⟨t, X.ldcStringW C.1 C.2.2.2.2.1 hz.1 hz.2 (g := F0 m pc ls (st.map (a_v Γ))) rfl (by rw [C.2.1]; exact hd) t a1, b1⟩
end A5
set_option maxRecDepth 100000 in
theorem c_num_t {Γ : aG} {l : Launch} {M : Nat → aC} {r : rT} {kr ar : Nat → Int32} {ik : Int32} {fi b : Nat → Int32} {L : Nat} {S : sT} {it mv : Nat → Int32} {T : tk} {im gt : Int32} (hL : L ≤ 120) (hb : wb b L) (hT : tw L T) {lo hi : Int32} (h : tk_num T lo hi = true)  : Ev Γ l mX5_number [.ref 42, .int lo, .int hi] 54 (yM M r kr ar ik fi b (nI L) S it mv (nI T.1, nI (mE T), nI (mS T), T.2.2.2, 0, im, gt)) (some (.int T.2.2.2)) 54 (yM M r kr ar ik fi b (nI L) S it mv (nI (nxM b L T).1, nI (mE (nxM b L T)), nI (mS (nxM b L T)), (nxM b L T).2.2.2, 0, im, gt)) := by
  refine Ev.of [(0, .ref 42), (1, .int lo), (2, .int hi)] (by decide) (Nat.le_of_ble_eq_true rfl) rfl ?_
  refine fr_aload_n (pc := 0) rfl dX5_number_0 ?_
  refine fr_get (pc := 1) (ci := 4) (T := TX5) (k0 := 10) rfl hin_X5 (by decide) fl_X5_231 (by decide) y_42 rfl dX5_number_1 ?_
  refine fr_istore_n (pc := 4) [(3, .int T.2.2.2), (0, .ref 42), (1, .int lo), (2, .int hi)] (by decide) rfl dX5_number_4 ?_
  refine fr_aload_n (pc := 5) rfl dX5_number_5 ?_
  refine fr_aload_n (pc := 6) rfl dX5_number_6 ?_
  refine fr_get (pc := 7) (ci := 4) (T := TX5) (k0 := 9) rfl hin_X5 (by decide) fl_X5_234 (by decide) y_42 rfl dX5_number_7 ?_
  refine fr_iconst (pc := 10) (v := 2) rfl dX5_number_10 ?_
  refine fr_icmp_ne (pc := 11) 27 (by decide) dX5_number_11 (fun h11 => ?_) (fun h11 => ?_)
  · exact absurd ((mS_1 (k := 2) hT.2.2 (by decide)).mpr (num_2 h)) h11
  · refine fr_iload_n (pc := 14) rfl dX5_number_14 ?_
    refine fr_iload_n (pc := 15) rfl dX5_number_15 ?_
    refine fr_iload_n (pc := 16) rfl dX5_number_16 ?_
    refine fr_callS0 (pc := 17) [.int T.2.2.2, .int lo, .int hi] [.ref 42] (c_X5_within) gc_X5_70 rfl rfl ⟨rfl, rfl, by decide, by decide⟩ (Nat.le_of_ble_eq_true rfl) ⟨by decide, by decide⟩ dX5_number_17 ?_
    refine fr_if_eq (pc := 20) 27 (by decide) dX5_number_20 (fun h20 => ?_) (fun h20 => ?_)
    · have g20 := bI_0.mp h20
      exact absurd (num_w h) g20
    · have g20 := bI_n0 h20
      refine fr_iconst (pc := 23) (v := 1) rfl dX5_number_23 ?_
      refine fr_goto (pc := 24) 28 (by decide) dX5_number_24 ?_
      refine fr_callV0 (pc := 28) (ci := 4) (T := TX5) (N := 20) [.int 1] [] (c_must_t hL hb hT (by rw [num_2 h]; decide)) gc_X5_251 rfl rfl ⟨rfl, rfl, by decide, by decide⟩ (Nat.le_of_ble_eq_true rfl) rfl (by decide) y_42 ⟨by decide, by decide⟩ dX5_number_28 ?_
      refine fr_iload_n (pc := 31) rfl dX5_number_31 ?_
      exact fr_ireturn (pc := 32) rfl rfl rfl rfl dX5_number_32
set_option maxRecDepth 100000 in
theorem c_num_f {Γ : aG} {l : Launch} {M : Nat → aC} {r : rT} {kr ar : Nat → Int32} {ik : Int32} {fi b : Nat → Int32} {L : Nat} {S : sT} {it mv : Nat → Int32} {T : tk} {im gt : Int32} (hL : L ≤ 120) (hb : wb b L) (hT : tw L T) {lo hi : Int32} (h : ¬ tk_num T lo hi = true)  : Ev Γ l mX5_number [.ref 42, .int lo, .int hi] 54 (yM M r kr ar ik fi b (nI L) S it mv (nI T.1, nI (mE T), nI (mS T), T.2.2.2, 0, im, gt)) (some (.int T.2.2.2)) 54 (yM M r kr ar ik fi b (nI L) S it mv (nI T.1, nI (mE T), nI (mS T), T.2.2.2, 1, im, gt)) := by
  refine Ev.of [(0, .ref 42), (1, .int lo), (2, .int hi)] (by decide) (Nat.le_of_ble_eq_true rfl) rfl ?_
  refine fr_aload_n (pc := 0) rfl dX5_number_0 ?_
  refine fr_get (pc := 1) (ci := 4) (T := TX5) (k0 := 10) rfl hin_X5 (by decide) fl_X5_231 (by decide) y_42 rfl dX5_number_1 ?_
  refine fr_istore_n (pc := 4) [(3, .int T.2.2.2), (0, .ref 42), (1, .int lo), (2, .int hi)] (by decide) rfl dX5_number_4 ?_
  refine fr_aload_n (pc := 5) rfl dX5_number_5 ?_
  refine fr_aload_n (pc := 6) rfl dX5_number_6 ?_
  refine fr_get (pc := 7) (ci := 4) (T := TX5) (k0 := 9) rfl hin_X5 (by decide) fl_X5_234 (by decide) y_42 rfl dX5_number_7 ?_
  refine fr_iconst (pc := 10) (v := 2) rfl dX5_number_10 ?_
  refine fr_icmp_ne (pc := 11) 27 (by decide) dX5_number_11 (fun h11 => ?_) (fun h11 => ?_)
  · refine fr_iconst (pc := 27) (v := 0) rfl dX5_number_27 ?_
    refine fr_callV0 (pc := 28) (ci := 4) (T := TX5) (N := 20) [.int 0] [] (c_must_f) gc_X5_251 rfl rfl ⟨rfl, rfl, by decide, by decide⟩ (Nat.le_of_ble_eq_true rfl) rfl (by decide) y_42 ⟨by decide, by decide⟩ dX5_number_28 ?_
    refine fr_iload_n (pc := 31) rfl dX5_number_31 ?_
    exact fr_ireturn (pc := 32) rfl rfl rfl rfl dX5_number_32
  · refine fr_iload_n (pc := 14) rfl dX5_number_14 ?_
    refine fr_iload_n (pc := 15) rfl dX5_number_15 ?_
    refine fr_iload_n (pc := 16) rfl dX5_number_16 ?_
    refine fr_callS0 (pc := 17) [.int T.2.2.2, .int lo, .int hi] [.ref 42] (c_X5_within) gc_X5_70 rfl rfl ⟨rfl, rfl, by decide, by decide⟩ (Nat.le_of_ble_eq_true rfl) ⟨by decide, by decide⟩ dX5_number_17 ?_
    refine fr_if_eq (pc := 20) 27 (by decide) dX5_number_20 (fun h20 => ?_) (fun h20 => ?_)
    · have g20 := bI_0.mp h20
      refine fr_iconst (pc := 27) (v := 0) rfl dX5_number_27 ?_
      refine fr_callV0 (pc := 28) (ci := 4) (T := TX5) (N := 20) [.int 0] [] (c_must_f) gc_X5_251 rfl rfl ⟨rfl, rfl, by decide, by decide⟩ (Nat.le_of_ble_eq_true rfl) rfl (by decide) y_42 ⟨by decide, by decide⟩ dX5_number_28 ?_
      refine fr_iload_n (pc := 31) rfl dX5_number_31 ?_
      exact fr_ireturn (pc := 32) rfl rfl rfl rfl dX5_number_32
    · have g20 := bI_n0 h20
      exact absurd (num_mk ((mS_1 (k := 2) hT.2.2 (by decide)).mp h11) g20) h
set_option maxRecDepth 100000 in
theorem c_num_w {Γ : aG} {l : Launch} {M : Nat → aC} {r : rT} {kr ar : Nat → Int32} {ik : Int32} {fi b : Nat → Int32} {L : Nat} {S : sT} {it mv : Nat → Int32} {T : tk} {im gt : Int32} {lo hi : Int32}  : Ev Γ l mX5_number [.ref 42, .int lo, .int hi] 54 (yM M r kr ar ik fi b (nI L) S it mv (nI T.1, nI (mE T), nI (mS T), T.2.2.2, 1, im, gt)) (some (.int T.2.2.2)) 54 (yM M r kr ar ik fi b (nI L) S it mv (nI T.1, nI (mE T), nI (mS T), T.2.2.2, 1, im, gt)) := by
  refine Ev.of [(0, .ref 42), (1, .int lo), (2, .int hi)] (by decide) (Nat.le_of_ble_eq_true rfl) rfl ?_
  refine fr_aload_n (pc := 0) rfl dX5_number_0 ?_
  refine fr_get (pc := 1) (ci := 4) (T := TX5) (k0 := 10) rfl hin_X5 (by decide) fl_X5_231 (by decide) y_42 rfl dX5_number_1 ?_
  refine fr_istore_n (pc := 4) [(3, .int T.2.2.2), (0, .ref 42), (1, .int lo), (2, .int hi)] (by decide) rfl dX5_number_4 ?_
  refine fr_aload_n (pc := 5) rfl dX5_number_5 ?_
  refine fr_aload_n (pc := 6) rfl dX5_number_6 ?_
  refine fr_get (pc := 7) (ci := 4) (T := TX5) (k0 := 9) rfl hin_X5 (by decide) fl_X5_234 (by decide) y_42 rfl dX5_number_7 ?_
  refine fr_iconst (pc := 10) (v := 2) rfl dX5_number_10 ?_
  refine fr_icmp_ne (pc := 11) 27 (by decide) dX5_number_11 (fun h11 => ?_) (fun h11 => ?_)
  · refine fr_iconst (pc := 27) (v := 0) rfl dX5_number_27 ?_
    refine fr_callV0 (pc := 28) (ci := 4) (T := TX5) (N := 20) [.int 0] [] (c_must_w) gc_X5_251 rfl rfl ⟨rfl, rfl, by decide, by decide⟩ (Nat.le_of_ble_eq_true rfl) rfl (by decide) y_42 ⟨by decide, by decide⟩ dX5_number_28 ?_
    refine fr_iload_n (pc := 31) rfl dX5_number_31 ?_
    exact fr_ireturn (pc := 32) rfl rfl rfl rfl dX5_number_32
  · refine fr_iload_n (pc := 14) rfl dX5_number_14 ?_
    refine fr_iload_n (pc := 15) rfl dX5_number_15 ?_
    refine fr_iload_n (pc := 16) rfl dX5_number_16 ?_
    refine fr_callS0 (pc := 17) [.int T.2.2.2, .int lo, .int hi] [.ref 42] (c_X5_within) gc_X5_70 rfl rfl ⟨rfl, rfl, by decide, by decide⟩ (Nat.le_of_ble_eq_true rfl) ⟨by decide, by decide⟩ dX5_number_17 ?_
    refine fr_if_eq (pc := 20) 27 (by decide) dX5_number_20 (fun h20 => ?_) (fun h20 => ?_)
    · have g20 := bI_0.mp h20
      refine fr_iconst (pc := 27) (v := 0) rfl dX5_number_27 ?_
      refine fr_callV0 (pc := 28) (ci := 4) (T := TX5) (N := 20) [.int 0] [] (c_must_w) gc_X5_251 rfl rfl ⟨rfl, rfl, by decide, by decide⟩ (Nat.le_of_ble_eq_true rfl) rfl (by decide) y_42 ⟨by decide, by decide⟩ dX5_number_28 ?_
      refine fr_iload_n (pc := 31) rfl dX5_number_31 ?_
      exact fr_ireturn (pc := 32) rfl rfl rfl rfl dX5_number_32
    · have g20 := bI_n0 h20
      refine fr_iconst (pc := 23) (v := 1) rfl dX5_number_23 ?_
      refine fr_goto (pc := 24) 28 (by decide) dX5_number_24 ?_
      refine fr_callV0 (pc := 28) (ci := 4) (T := TX5) (N := 20) [.int 1] [] (c_must_w) gc_X5_251 rfl rfl ⟨rfl, rfl, by decide, by decide⟩ (Nat.le_of_ble_eq_true rfl) rfl (by decide) y_42 ⟨by decide, by decide⟩ dX5_number_28 ?_
      refine fr_iload_n (pc := 31) rfl dX5_number_31 ?_
      exact fr_ireturn (pc := 32) rfl rfl rfl rfl dX5_number_32
set_option maxRecDepth 100000 in
theorem c_tkw_t {Γ : aG} {l : Launch} {M : Nat → aC} {r : rT} {kr ar : Nat → Int32} {ik : Int32} {fi b : Nat → Int32} {L : Nat} {S : sT} {it mv : Nat → Int32} {T : tk} {im gt : Int32} (hL : L ≤ 120) (hb : wb b L) (hT : tw L T) {k0 : Nat} (hk0 : k0 < 26) (h : tk_is b T (a_ss k0).2.2.2 = true)  : Ev Γ l mX5_takesWord [.ref 42, .ref (2000 + k0)] 54 (yM M r kr ar ik fi b (nI L) S it mv (nI T.1, nI (mE T), nI (mS T), T.2.2.2, 0, im, gt)) (some (.int 1)) 54 (yM M r kr ar ik fi b (nI L) S it mv (nI (nxM b L T).1, nI (mE (nxM b L T)), nI (mS (nxM b L T)), (nxM b L T).2.2.2, 0, im, gt)) := by
  refine Ev.of [(0, .ref 42), (1, .ref (2000 + k0))] (by decide) (Nat.le_of_ble_eq_true rfl) rfl ?_
  refine fr_aload_n (pc := 0) rfl dX5_takesWord_0 ?_
  refine fr_get (pc := 1) (ci := 4) (T := TX5) (k0 := 11) rfl hin_X5 (by decide) fl_X5_244 (by decide) y_42 rfl dX5_takesWord_1 ?_
  refine fr_if_ne (pc := 4) 19 (by decide) dX5_takesWord_4 (fun h4 => ?_) (fun h4 => ?_)
  · exact absurd rfl h4
  · refine fr_aload_n (pc := 7) rfl dX5_takesWord_7 ?_
    refine fr_aload_n (pc := 8) rfl dX5_takesWord_8 ?_
    refine fr_callV0 (pc := 9) (ci := 4) (T := TX5) (N := 20) [.ref (2000 + k0)] [] (c_jWord hL hT (k0 := k0) (by first | assumption | decide)) gc_X5_258 rfl rfl ⟨rfl, rfl, by decide, by decide⟩ (Nat.le_of_ble_eq_true rfl) rfl (by decide) y_42 ⟨by decide, by decide⟩ dX5_takesWord_9 ?_
    refine fr_if_eq (pc := 12) 19 (by decide) dX5_takesWord_12 (fun h12 => ?_) (fun h12 => ?_)
    · have g12 := bI_0.mp h12
      exact absurd h g12
    · have g12 := bI_n0 h12
      refine fr_iconst (pc := 15) (v := 1) rfl dX5_takesWord_15 ?_
      refine fr_goto (pc := 16) 20 (by decide) dX5_takesWord_16 ?_
      refine fr_istore_n (pc := 20) [(2, .int 1), (0, .ref 42), (1, .ref (2000 + k0))] (by decide) rfl dX5_takesWord_20 ?_
      refine fr_iload_n (pc := 21) rfl dX5_takesWord_21 ?_
      refine fr_if_eq (pc := 22) 30 (by decide) dX5_takesWord_22 (fun h22 => ?_) (fun h22 => ?_)
      · exact absurd (show (1 : Int32) = 0 from h22) (by decide)
      · refine fr_aload_n (pc := 25) rfl dX5_takesWord_25 ?_
        refine fr_iconst (pc := 26) (v := 1) rfl dX5_takesWord_26 ?_
        refine fr_callV0 (pc := 27) (ci := 4) (T := TX5) (N := 20) [.int 1] [] (c_must_t hL hb hT (by rw [(is_1 h).1]; decide)) gc_X5_251 rfl rfl ⟨rfl, rfl, by decide, by decide⟩ (Nat.le_of_ble_eq_true rfl) rfl (by decide) y_42 ⟨by decide, by decide⟩ dX5_takesWord_27 ?_
        refine fr_iload_n (pc := 30) rfl dX5_takesWord_30 ?_
        exact fr_ireturn (pc := 31) rfl rfl rfl rfl dX5_takesWord_31
set_option maxRecDepth 100000 in
theorem c_tkw_f {Γ : aG} {l : Launch} {M : Nat → aC} {r : rT} {kr ar : Nat → Int32} {ik : Int32} {fi b : Nat → Int32} {L : Nat} {S : sT} {it mv : Nat → Int32} {T : tk} {im gt : Int32} (hL : L ≤ 120) (hT : tw L T) {k0 : Nat} (hk0 : k0 < 26) (h : ¬ tk_is b T (a_ss k0).2.2.2 = true)  : Ev Γ l mX5_takesWord [.ref 42, .ref (2000 + k0)] 54 (yM M r kr ar ik fi b (nI L) S it mv (nI T.1, nI (mE T), nI (mS T), T.2.2.2, 0, im, gt)) (some (.int 0)) 54 (yM M r kr ar ik fi b (nI L) S it mv (nI T.1, nI (mE T), nI (mS T), T.2.2.2, 0, im, gt)) := by
  refine Ev.of [(0, .ref 42), (1, .ref (2000 + k0))] (by decide) (Nat.le_of_ble_eq_true rfl) rfl ?_
  refine fr_aload_n (pc := 0) rfl dX5_takesWord_0 ?_
  refine fr_get (pc := 1) (ci := 4) (T := TX5) (k0 := 11) rfl hin_X5 (by decide) fl_X5_244 (by decide) y_42 rfl dX5_takesWord_1 ?_
  refine fr_if_ne (pc := 4) 19 (by decide) dX5_takesWord_4 (fun h4 => ?_) (fun h4 => ?_)
  · exact absurd rfl h4
  · refine fr_aload_n (pc := 7) rfl dX5_takesWord_7 ?_
    refine fr_aload_n (pc := 8) rfl dX5_takesWord_8 ?_
    refine fr_callV0 (pc := 9) (ci := 4) (T := TX5) (N := 20) [.ref (2000 + k0)] [] (c_jWord hL hT (k0 := k0) (by first | assumption | decide)) gc_X5_258 rfl rfl ⟨rfl, rfl, by decide, by decide⟩ (Nat.le_of_ble_eq_true rfl) rfl (by decide) y_42 ⟨by decide, by decide⟩ dX5_takesWord_9 ?_
    refine fr_if_eq (pc := 12) 19 (by decide) dX5_takesWord_12 (fun h12 => ?_) (fun h12 => ?_)
    · have g12 := bI_0.mp h12
      refine fr_iconst (pc := 19) (v := 0) rfl dX5_takesWord_19 ?_
      refine fr_istore_n (pc := 20) [(2, .int 0), (0, .ref 42), (1, .ref (2000 + k0))] (by decide) rfl dX5_takesWord_20 ?_
      refine fr_iload_n (pc := 21) rfl dX5_takesWord_21 ?_
      refine fr_if_eq (pc := 22) 30 (by decide) dX5_takesWord_22 (fun h22 => ?_) (fun h22 => ?_)
      · refine fr_iload_n (pc := 30) rfl dX5_takesWord_30 ?_
        exact fr_ireturn (pc := 31) rfl rfl rfl rfl dX5_takesWord_31
      · exact absurd rfl h22
    · have g12 := bI_n0 h12
      exact absurd g12 h
set_option maxRecDepth 100000 in
theorem c_tkw_w {Γ : aG} {l : Launch} {M : Nat → aC} {r : rT} {kr ar : Nat → Int32} {ik : Int32} {fi b : Nat → Int32} {L : Nat} {S : sT} {it mv : Nat → Int32} {T : tk} {im gt : Int32} {k0 : Nat}  : Ev Γ l mX5_takesWord [.ref 42, .ref (2000 + k0)] 54 (yM M r kr ar ik fi b (nI L) S it mv (nI T.1, nI (mE T), nI (mS T), T.2.2.2, 1, im, gt)) (some (.int 0)) 54 (yM M r kr ar ik fi b (nI L) S it mv (nI T.1, nI (mE T), nI (mS T), T.2.2.2, 1, im, gt)) := by
  refine Ev.of [(0, .ref 42), (1, .ref (2000 + k0))] (by decide) (Nat.le_of_ble_eq_true rfl) rfl ?_
  refine fr_aload_n (pc := 0) rfl dX5_takesWord_0 ?_
  refine fr_get (pc := 1) (ci := 4) (T := TX5) (k0 := 11) rfl hin_X5 (by decide) fl_X5_244 (by decide) y_42 rfl dX5_takesWord_1 ?_
  refine fr_if_ne (pc := 4) 19 (by decide) dX5_takesWord_4 (fun h4 => ?_) (fun h4 => ?_)
  · refine fr_iconst (pc := 19) (v := 0) rfl dX5_takesWord_19 ?_
    refine fr_istore_n (pc := 20) [(2, .int 0), (0, .ref 42), (1, .ref (2000 + k0))] (by decide) rfl dX5_takesWord_20 ?_
    refine fr_iload_n (pc := 21) rfl dX5_takesWord_21 ?_
    refine fr_if_eq (pc := 22) 30 (by decide) dX5_takesWord_22 (fun h22 => ?_) (fun h22 => ?_)
    · refine fr_iload_n (pc := 30) rfl dX5_takesWord_30 ?_
      exact fr_ireturn (pc := 31) rfl rfl rfl rfl dX5_takesWord_31
    · exact absurd rfl h22
  · exact absurd (show (1 : Int32) = 0 from h4) (by decide)
theorem n4 (n : Nat) : (4 : Int32) * nI n = nI (4 * n) := (Int32.ofNat_mul 4 n).symm
set_option maxRecDepth 100000 in
theorem c_addItem {Γ : aG} {l : Launch} {M : Nat → aC} {r : rT} {kr ar : Nat → Int32} {ik : Int32} {fi b : Nat → Int32} {L : Nat} {S : sT} {it mv : Nat → Int32} {T : tk} {wr gt x a z c : Int32} {n : Nat} (hn : n < 120)  : Ev Γ l mX5_addItem [.ref 42, .int x, .int a, .int z, .int c] 54 (yM M r kr ar ik fi b (nI L) S it mv (nI T.1, nI (mE T), nI (mS T), T.2.2.2, wr, (nI n), gt)) none 54 (yM M r kr ar ik fi b (nI L) S (add4 it n x a z c) mv (nI T.1, nI (mE T), nI (mS T), T.2.2.2, wr, (nI (n + 1)), gt)) := by
  refine Ev.of [(0, .ref 42), (1, .int x), (2, .int a), (3, .int z), (4, .int c)] (by decide) (Nat.le_of_ble_eq_true rfl) rfl ?_
  refine fr_iconst (pc := 0) (v := 4) rfl dX5_addItem_0 ?_
  refine fr_aload_n (pc := 1) rfl dX5_addItem_1 ?_
  refine fr_get (pc := 2) (ci := 4) (T := TX5) (k0 := 14) rfl hin_X5 (by decide) fl_X5_255 (by decide) y_42 rfl dX5_addItem_2 ?_
  refine fr_imul (pc := 5) dX5_addItem_5 ?_
  refine fr_eq (z := (nI (4 * n))) (n4 n) ?_
  refine fr_istore (pc := 6) [(5, .int (nI (4 * n))), (0, .ref 42), (1, .int x), (2, .int a), (3, .int z), (4, .int c)] (by decide) rfl dX5_addItem_6 ?_
  refine fr_aload_n (pc := 8) rfl dX5_addItem_8 ?_
  refine fr_get (pc := 9) (ci := 4) (T := TX5) (k0 := 13) rfl hin_X5 (by decide) fl_X5_45 (by decide) y_42 rfl dX5_addItem_9 ?_
  refine fr_iload (pc := 12) rfl dX5_addItem_12 ?_
  refine fr_iload_n (pc := 14) rfl dX5_addItem_14 ?_
  refine fr_iast (pc := 15) (4 * n) rfl (by decide) y_49 (by first | assumption | omega) (by decide) dX5_addItem_15 ?_
  refine fr_mem y_u49 ?_
  refine fr_aload_n (pc := 16) rfl dX5_addItem_16 ?_
  refine fr_get (pc := 17) (ci := 4) (T := TX5) (k0 := 13) rfl hin_X5 (by decide) fl_X5_45 (by decide) y_42 rfl dX5_addItem_17 ?_
  refine fr_iload (pc := 20) rfl dX5_addItem_20 ?_
  refine fr_iconst (pc := 22) (v := 1) rfl dX5_addItem_22 ?_
  refine fr_iadd (pc := 23) dX5_addItem_23 ?_
  refine fr_eq (z := nI (4 * n + 1)) (nI_add _ 1) ?_
  refine fr_iload_n (pc := 24) rfl dX5_addItem_24 ?_
  refine fr_iast (pc := 25) (4 * n + 1) rfl (by decide) y_49 (by first | assumption | omega) (by decide) dX5_addItem_25 ?_
  refine fr_mem y_u49 ?_
  refine fr_aload_n (pc := 26) rfl dX5_addItem_26 ?_
  refine fr_get (pc := 27) (ci := 4) (T := TX5) (k0 := 13) rfl hin_X5 (by decide) fl_X5_45 (by decide) y_42 rfl dX5_addItem_27 ?_
  refine fr_iload (pc := 30) rfl dX5_addItem_30 ?_
  refine fr_iconst (pc := 32) (v := 2) rfl dX5_addItem_32 ?_
  refine fr_iadd (pc := 33) dX5_addItem_33 ?_
  refine fr_eq (z := nI (4 * n + 2)) (nI_add _ 2) ?_
  refine fr_iload_n (pc := 34) rfl dX5_addItem_34 ?_
  refine fr_iast (pc := 35) (4 * n + 2) rfl (by decide) y_49 (by first | assumption | omega) (by decide) dX5_addItem_35 ?_
  refine fr_mem y_u49 ?_
  refine fr_aload_n (pc := 36) rfl dX5_addItem_36 ?_
  refine fr_get (pc := 37) (ci := 4) (T := TX5) (k0 := 13) rfl hin_X5 (by decide) fl_X5_45 (by decide) y_42 rfl dX5_addItem_37 ?_
  refine fr_iload (pc := 40) rfl dX5_addItem_40 ?_
  refine fr_iconst (pc := 42) (v := 3) rfl dX5_addItem_42 ?_
  refine fr_iadd (pc := 43) dX5_addItem_43 ?_
  refine fr_eq (z := nI (4 * n + 3)) (nI_add _ 3) ?_
  refine fr_iload (pc := 44) rfl dX5_addItem_44 ?_
  refine fr_iast (pc := 46) (4 * n + 3) rfl (by decide) y_49 (by first | assumption | omega) (by decide) dX5_addItem_46 ?_
  refine fr_mem y_u49 ?_
  refine fr_aload_n (pc := 47) rfl dX5_addItem_47 ?_
  refine fr_dup (pc := 48) rfl dX5_addItem_48 ?_
  refine fr_get (pc := 49) (ci := 4) (T := TX5) (k0 := 14) rfl hin_X5 (by decide) fl_X5_255 (by decide) y_42 rfl dX5_addItem_49 ?_
  refine fr_iconst (pc := 52) (v := 1) rfl dX5_addItem_52 ?_
  refine fr_iadd (pc := 53) dX5_addItem_53 ?_
  refine fr_eq (z := nI (n + 1)) (nI_1 n) ?_
  refine fr_put (pc := 54) (ci := 4) (T := TX5) (k0 := 14) (ty := .int) tyX5 tyX5_ok nmX5 rfl hin_X5 (by decide) fl_X5_255 rfl (by decide +kernel) rfl rfl (Nat.le_of_ble_eq_true rfl) (by decide) y_42 dX5_addItem_54 ?_
  refine fr_mem (M1 := (yM M r kr ar ik fi b (nI L) S (upd (upd (upd (upd it (4 * n) x) (4 * n + 1) a) (4 * n + 2) z) (4 * n + 3) c) mv (nI T.1, nI (mE T), nI (mS T), T.2.2.2, wr, (nI (n + 1)), gt))) y_uq5 ?_
  exact fr_return (pc := 57) rfl rfl dX5_addItem_57
set_option maxRecDepth 100000 in
theorem rw_63 {Γ : aG} {l : Launch} {M : Nat → aC} {r : rT} {kr ar : Nat → Int32} {ik : Int32} {fi b : Nat → Int32} {L : Nat} {S : sT} {it mv : Nat → Int32} {T : tk} {k a z : Int32} {n g : Nat} (hn : n < 120) : Fr Γ l mX5_readGuest 63 [(0, .ref 42), (1, .int k), (2, .int a), (3, .int z)] [] 54 0 0 (yM M r kr ar ik fi b (nI L) S it mv (nI T.1, nI (mE T), nI (mS T), T.2.2.2, 1, (nI n), (nI g))) none 54 (yM M r kr ar ik fi b (nI L) S (add4 it n k a z a) mv (nI T.1, nI (mE T), nI (mS T), T.2.2.2, 1, (nI (n + 1)), (nI (g + 1)))) := by
  refine fr_aload_n (pc := 63) rfl dX5_readGuest_63 ?_
  refine fr_iload_n (pc := 64) rfl dX5_readGuest_64 ?_
  refine fr_iload_n (pc := 65) rfl dX5_readGuest_65 ?_
  refine fr_iload_n (pc := 66) rfl dX5_readGuest_66 ?_
  refine fr_aload_n (pc := 67) rfl dX5_readGuest_67 ?_
  refine fr_ldcwS (pc := 68) (k0 := 22) (by decide) rfl rfl dX5_readGuest_68 ?_
  refine fr_callV0 (pc := 71) (ci := 4) (T := TX5) (N := 20) [.ref 2022] [.int z, .int a, .int k, .ref 42] (c_tkw_w (k0 := 22)) gc_X5_267 rfl rfl ⟨rfl, rfl, by decide, by decide⟩ (Nat.le_of_ble_eq_true rfl) rfl (by decide) y_42 ⟨by decide, by decide⟩ dX5_readGuest_71 ?_
  refine fr_if_eq (pc := 74) 87 (by decide) dX5_readGuest_74 (fun h74 => ?_) (fun h74 => ?_)
  · refine fr_iload_n (pc := 87) rfl dX5_readGuest_87 ?_
    refine fr_callV0 (pc := 88) (ci := 4) (T := TX5) (N := 20) [.int k, .int a, .int z, .int a] [] (c_addItem (n := n) (by omega)) gc_X5_277 rfl rfl ⟨rfl, rfl, by decide, by decide⟩ (Nat.le_of_ble_eq_true rfl) rfl (by decide) y_42 ⟨by decide, by decide⟩ dX5_readGuest_88 ?_
    refine fr_aload_n (pc := 91) rfl dX5_readGuest_91 ?_
    refine fr_dup (pc := 92) rfl dX5_readGuest_92 ?_
    refine fr_get (pc := 93) (ci := 4) (T := TX5) (k0 := 15) rfl hin_X5 (by decide) fl_X5_262 (by decide) y_42 rfl dX5_readGuest_93 ?_
    refine fr_iconst (pc := 96) (v := 1) rfl dX5_readGuest_96 ?_
    refine fr_iadd (pc := 97) dX5_readGuest_97 ?_
    refine fr_eq (z := nI (g + 1)) (nI_1 g) ?_
    refine fr_put (pc := 98) (ci := 4) (T := TX5) (k0 := 15) (ty := .int) tyX5 tyX5_ok nmX5 rfl hin_X5 (by decide) fl_X5_262 rfl (by decide +kernel) rfl rfl (Nat.le_of_ble_eq_true rfl) (by decide) y_42 dX5_readGuest_98 ?_
    refine fr_mem (M1 := (yM M r kr ar ik fi b (nI L) S (add4 it n k a z a) mv (nI T.1, nI (mE T), nI (mS T), T.2.2.2, 1, nI (n + 1), (nI (g + 1))))) y_uq6 ?_
    exact fr_return (pc := 101) rfl rfl dX5_readGuest_101
  · exact absurd rfl h74
set_option maxRecDepth 100000 in
theorem rw_40 {Γ : aG} {l : Launch} {M : Nat → aC} {r : rT} {kr ar : Nat → Int32} {ik : Int32} {fi b : Nat → Int32} {L : Nat} {S : sT} {it mv : Nat → Int32} {T : tk} {k a : Int32} {n g : Nat} (hn : n < 120) : Fr Γ l mX5_readGuest 40 [(0, .ref 42), (1, .int k), (2, .int a)] [] 54 0 0 (yM M r kr ar ik fi b (nI L) S it mv (nI T.1, nI (mE T), nI (mS T), T.2.2.2, 1, (nI n), (nI g))) none 54 (yM M r kr ar ik fi b (nI L) S (add4 it n k a 10 a) mv (nI T.1, nI (mE T), nI (mS T), T.2.2.2, 1, (nI (n + 1)), (nI (g + 1)))) := by
  refine fr_aload_n (pc := 40) rfl dX5_readGuest_40 ?_
  refine fr_ldcwS (pc := 41) (k0 := 21) (by decide) rfl rfl dX5_readGuest_41 ?_
  refine fr_callV0 (pc := 44) (ci := 4) (T := TX5) (N := 20) [.ref 2021] [] (c_tkw_w (k0 := 21)) gc_X5_267 rfl rfl ⟨rfl, rfl, by decide, by decide⟩ (Nat.le_of_ble_eq_true rfl) rfl (by decide) y_42 ⟨by decide, by decide⟩ dX5_readGuest_44 ?_
  refine fr_if_eq (pc := 47) 60 (by decide) dX5_readGuest_47 (fun h47 => ?_) (fun h47 => ?_)
  · refine fr_bipush (pc := 60) (v := 10) rfl dX5_readGuest_60 ?_
    refine fr_istore_n (pc := 62) [(3, .int 10), (0, .ref 42), (1, .int k), (2, .int a)] (by decide) rfl dX5_readGuest_62 ?_
    exact fr_sub [1, 2, 3, 0] rfl (rw_63 hn)
  · exact absurd rfl h47
def bW (p : Bool) : Int32 := if p = true then 0 else 1
theorem cnt_itm {t : rT} {k a z c : Int32} (w : wf t) (hc : cnt t < 8) : cnt (itm t k a z c) = cnt t + 1 := by
  show (t 9 1 + 1).toNatClampNeg = _
  rw [w.ct, nI_1]
  exact nI_clamp (by omega)
/-- what an item's reading leaves: it went well, and one more item is kept -/
def iR (it' : Nat → Int32) (im' gt' : Int32) (r : rT) (n : Nat) (P : Bool × tk × rT) : Prop := P.1 = true → im' = nI (n + 1) ∧ gt' = nI (cnt P.2.2) ∧ iS it' r (n + 1) P.2.2
set_option maxRecDepth 100000 in
theorem rg_63 {Γ : aG} {l : Launch} {M : Nat → aC} {r : rT} {kr ar : Nat → Int32} {ik : Int32} {fi b : Nat → Int32} {L : Nat} {S : sT} {it mv : Nat → Int32} {T : tk} (hL : L ≤ 120) (hb : wb b L) (hT : tw L T) {t : rT} {k a : Int32} {n : Nat} (hn : n < 120) (w : wf t) (hc : cnt t < 8) (hk : okv k 7) (hI : iS it r n t) {z : Int32} : ∃ (it' : Nat → Int32) (im' gt' : Int32), Fr Γ l mX5_readGuest 63 [(0, .ref 42), (1, .int k), (2, .int a), (3, .int z)] [] 54 0 0 (yM M r kr ar ik fi b (nI L) S it mv (nI T.1, nI (mE T), nI (mS T), T.2.2.2, 0, (nI n), (nI (cnt t)))) none 54 (yM M r kr ar ik fi b (nI L) S it' mv (nI (p_trait b (nxM b L) (a_ss 9).2.2.2 5 (cnt t) 0 15 T (itm t k a z a)).2.1.1, nI (mE (p_trait b (nxM b L) (a_ss 9).2.2.2 5 (cnt t) 0 15 T (itm t k a z a)).2.1), nI (mS (p_trait b (nxM b L) (a_ss 9).2.2.2 5 (cnt t) 0 15 T (itm t k a z a)).2.1), (p_trait b (nxM b L) (a_ss 9).2.2.2 5 (cnt t) 0 15 T (itm t k a z a)).2.1.2.2.2, (bW (p_trait b (nxM b L) (a_ss 9).2.2.2 5 (cnt t) 0 15 T (itm t k a z a)).1), im', gt')) ∧ iR it' im' gt' r n (p_trait b (nxM b L) (a_ss 9).2.2.2 5 (cnt t) 0 15 T (itm t k a z a)) := by
  by_cases h1 : tk_is b T (a_ss 9).2.2.2 = true
  · by_cases h2 : tk_num (nxM b L T) 0 15 = true
    · rw [show (p_trait b (nxM b L) (a_ss 9).2.2.2 5 (cnt t) 0 15 T (itm t k a z a)) = (true, (nxM b L (nxM b L T)), itm t k a z (nxM b L T).2.2.2) from by rw [← it_am (t := t) (k := k) (a := a) (z := z) (c := (nxM b L T).2.2.2)]; exact (if_pos h1).trans (if_pos h2)]
      refine ⟨add4 it n k a z (nxM b L T).2.2.2, nI (n + 1), nI (cnt t + 1), ?_, fun _ => ⟨rfl, by rw [cnt_itm w hc], iS_g hI w hc hk⟩⟩
      refine fr_aload_n (pc := 63) rfl dX5_readGuest_63 ?_
      refine fr_iload_n (pc := 64) rfl dX5_readGuest_64 ?_
      refine fr_iload_n (pc := 65) rfl dX5_readGuest_65 ?_
      refine fr_iload_n (pc := 66) rfl dX5_readGuest_66 ?_
      refine fr_aload_n (pc := 67) rfl dX5_readGuest_67 ?_
      refine fr_ldcwS (pc := 68) (k0 := 22) (by decide) rfl rfl dX5_readGuest_68 ?_
      refine fr_callV0 (pc := 71) (ci := 4) (T := TX5) (N := 20) [.ref 2022] [.int z, .int a, .int k, .ref 42] (c_tkw_t hL hb hT (k0 := 22) (by decide) h1) gc_X5_267 rfl rfl ⟨rfl, rfl, by decide, by decide⟩ (Nat.le_of_ble_eq_true rfl) rfl (by decide) y_42 ⟨by decide, by decide⟩ dX5_readGuest_71 ?_
      refine fr_if_eq (pc := 74) 87 (by decide) dX5_readGuest_74 (fun h74 => ?_) (fun h74 => ?_)
      · exact absurd h74 (by decide)
      · refine fr_aload_n (pc := 77) rfl dX5_readGuest_77 ?_
        refine fr_iconst (pc := 78) (v := 0) rfl dX5_readGuest_78 ?_
        refine fr_bipush (pc := 79) (v := 15) rfl dX5_readGuest_79 ?_
        refine fr_callV0 (pc := 81) (ci := 4) (T := TX5) (N := 20) [.int 0, .int 15] [.int z, .int a, .int k, .ref 42] (c_num_t hL hb (twM hT) h2) gc_X5_270 rfl rfl ⟨rfl, rfl, by decide, by decide⟩ (Nat.le_of_ble_eq_true rfl) rfl (by decide) y_42 ⟨by decide, by decide⟩ dX5_readGuest_81 ?_
        refine fr_goto (pc := 84) 88 (by decide) dX5_readGuest_84 ?_
        refine fr_callV0 (pc := 88) (ci := 4) (T := TX5) (N := 20) [.int k, .int a, .int z, .int (nxM b L T).2.2.2] [] (c_addItem (n := n) (by omega)) gc_X5_277 rfl rfl ⟨rfl, rfl, by decide, by decide⟩ (Nat.le_of_ble_eq_true rfl) rfl (by decide) y_42 ⟨by decide, by decide⟩ dX5_readGuest_88 ?_
        refine fr_aload_n (pc := 91) rfl dX5_readGuest_91 ?_
        refine fr_dup (pc := 92) rfl dX5_readGuest_92 ?_
        refine fr_get (pc := 93) (ci := 4) (T := TX5) (k0 := 15) rfl hin_X5 (by decide) fl_X5_262 (by decide) y_42 rfl dX5_readGuest_93 ?_
        refine fr_iconst (pc := 96) (v := 1) rfl dX5_readGuest_96 ?_
        refine fr_iadd (pc := 97) dX5_readGuest_97 ?_
        refine fr_eq (z := nI (cnt t + 1)) (nI_1 _) ?_
        refine fr_put (pc := 98) (ci := 4) (T := TX5) (k0 := 15) (ty := .int) tyX5 tyX5_ok nmX5 rfl hin_X5 (by decide) fl_X5_262 rfl (by decide +kernel) rfl rfl (Nat.le_of_ble_eq_true rfl) (by decide) y_42 dX5_readGuest_98 ?_
        refine fr_mem (M1 := (yM M r kr ar ik fi b (nI L) S (add4 it n k a z ((nxM b L T).2.2.2)) mv (nI (nxM b L (nxM b L T)).1, nI (mE (nxM b L (nxM b L T))), nI (mS (nxM b L (nxM b L T))), (nxM b L (nxM b L T)).2.2.2, 0, nI (n + 1), (nI (cnt t + 1))))) y_uq6 ?_
        exact fr_return (pc := 101) rfl rfl dX5_readGuest_101
    · rw [show (p_trait b (nxM b L) (a_ss 9).2.2.2 5 (cnt t) 0 15 T (itm t k a z a)) = (false, (nxM b L T), itm t k a z a) from (if_pos h1).trans (if_neg h2)]
      refine ⟨add4 it n k a z (nxM b L T).2.2.2, nI (n + 1), nI (cnt t + 1), ?_, fun z => absurd (show false = true from z) (by decide)⟩
      refine fr_aload_n (pc := 63) rfl dX5_readGuest_63 ?_
      refine fr_iload_n (pc := 64) rfl dX5_readGuest_64 ?_
      refine fr_iload_n (pc := 65) rfl dX5_readGuest_65 ?_
      refine fr_iload_n (pc := 66) rfl dX5_readGuest_66 ?_
      refine fr_aload_n (pc := 67) rfl dX5_readGuest_67 ?_
      refine fr_ldcwS (pc := 68) (k0 := 22) (by decide) rfl rfl dX5_readGuest_68 ?_
      refine fr_callV0 (pc := 71) (ci := 4) (T := TX5) (N := 20) [.ref 2022] [.int z, .int a, .int k, .ref 42] (c_tkw_t hL hb hT (k0 := 22) (by decide) h1) gc_X5_267 rfl rfl ⟨rfl, rfl, by decide, by decide⟩ (Nat.le_of_ble_eq_true rfl) rfl (by decide) y_42 ⟨by decide, by decide⟩ dX5_readGuest_71 ?_
      refine fr_if_eq (pc := 74) 87 (by decide) dX5_readGuest_74 (fun h74 => ?_) (fun h74 => ?_)
      · exact absurd h74 (by decide)
      · refine fr_aload_n (pc := 77) rfl dX5_readGuest_77 ?_
        refine fr_iconst (pc := 78) (v := 0) rfl dX5_readGuest_78 ?_
        refine fr_bipush (pc := 79) (v := 15) rfl dX5_readGuest_79 ?_
        refine fr_callV0 (pc := 81) (ci := 4) (T := TX5) (N := 20) [.int 0, .int 15] [.int z, .int a, .int k, .ref 42] (c_num_f hL hb (twM hT) h2) gc_X5_270 rfl rfl ⟨rfl, rfl, by decide, by decide⟩ (Nat.le_of_ble_eq_true rfl) rfl (by decide) y_42 ⟨by decide, by decide⟩ dX5_readGuest_81 ?_
        refine fr_goto (pc := 84) 88 (by decide) dX5_readGuest_84 ?_
        refine fr_callV0 (pc := 88) (ci := 4) (T := TX5) (N := 20) [.int k, .int a, .int z, .int (nxM b L T).2.2.2] [] (c_addItem (n := n) (by omega)) gc_X5_277 rfl rfl ⟨rfl, rfl, by decide, by decide⟩ (Nat.le_of_ble_eq_true rfl) rfl (by decide) y_42 ⟨by decide, by decide⟩ dX5_readGuest_88 ?_
        refine fr_aload_n (pc := 91) rfl dX5_readGuest_91 ?_
        refine fr_dup (pc := 92) rfl dX5_readGuest_92 ?_
        refine fr_get (pc := 93) (ci := 4) (T := TX5) (k0 := 15) rfl hin_X5 (by decide) fl_X5_262 (by decide) y_42 rfl dX5_readGuest_93 ?_
        refine fr_iconst (pc := 96) (v := 1) rfl dX5_readGuest_96 ?_
        refine fr_iadd (pc := 97) dX5_readGuest_97 ?_
        refine fr_eq (z := nI (cnt t + 1)) (nI_1 _) ?_
        refine fr_put (pc := 98) (ci := 4) (T := TX5) (k0 := 15) (ty := .int) tyX5 tyX5_ok nmX5 rfl hin_X5 (by decide) fl_X5_262 rfl (by decide +kernel) rfl rfl (Nat.le_of_ble_eq_true rfl) (by decide) y_42 dX5_readGuest_98 ?_
        refine fr_mem (M1 := (yM M r kr ar ik fi b (nI L) S (add4 it n k a z ((nxM b L T).2.2.2)) mv (nI (nxM b L T).1, nI (mE (nxM b L T)), nI (mS (nxM b L T)), (nxM b L T).2.2.2, 1, nI (n + 1), (nI (cnt t + 1))))) y_uq6 ?_
        exact fr_return (pc := 101) rfl rfl dX5_readGuest_101
  · rw [show (p_trait b (nxM b L) (a_ss 9).2.2.2 5 (cnt t) 0 15 T (itm t k a z a)) = (true, T, itm t k a z a) from if_neg h1]
    refine ⟨add4 it n k a z a, nI (n + 1), nI (cnt t + 1), ?_, fun _ => ⟨rfl, by rw [cnt_itm w hc], iS_g hI w hc hk⟩⟩
    refine fr_aload_n (pc := 63) rfl dX5_readGuest_63 ?_
    refine fr_iload_n (pc := 64) rfl dX5_readGuest_64 ?_
    refine fr_iload_n (pc := 65) rfl dX5_readGuest_65 ?_
    refine fr_iload_n (pc := 66) rfl dX5_readGuest_66 ?_
    refine fr_aload_n (pc := 67) rfl dX5_readGuest_67 ?_
    refine fr_ldcwS (pc := 68) (k0 := 22) (by decide) rfl rfl dX5_readGuest_68 ?_
    refine fr_callV0 (pc := 71) (ci := 4) (T := TX5) (N := 20) [.ref 2022] [.int z, .int a, .int k, .ref 42] (c_tkw_f hL hT (k0 := 22) (by decide) h1) gc_X5_267 rfl rfl ⟨rfl, rfl, by decide, by decide⟩ (Nat.le_of_ble_eq_true rfl) rfl (by decide) y_42 ⟨by decide, by decide⟩ dX5_readGuest_71 ?_
    refine fr_if_eq (pc := 74) 87 (by decide) dX5_readGuest_74 (fun h74 => ?_) (fun h74 => ?_)
    · refine fr_iload_n (pc := 87) rfl dX5_readGuest_87 ?_
      refine fr_callV0 (pc := 88) (ci := 4) (T := TX5) (N := 20) [.int k, .int a, .int z, .int a] [] (c_addItem (n := n) (by omega)) gc_X5_277 rfl rfl ⟨rfl, rfl, by decide, by decide⟩ (Nat.le_of_ble_eq_true rfl) rfl (by decide) y_42 ⟨by decide, by decide⟩ dX5_readGuest_88 ?_
      refine fr_aload_n (pc := 91) rfl dX5_readGuest_91 ?_
      refine fr_dup (pc := 92) rfl dX5_readGuest_92 ?_
      refine fr_get (pc := 93) (ci := 4) (T := TX5) (k0 := 15) rfl hin_X5 (by decide) fl_X5_262 (by decide) y_42 rfl dX5_readGuest_93 ?_
      refine fr_iconst (pc := 96) (v := 1) rfl dX5_readGuest_96 ?_
      refine fr_iadd (pc := 97) dX5_readGuest_97 ?_
      refine fr_eq (z := nI (cnt t + 1)) (nI_1 _) ?_
      refine fr_put (pc := 98) (ci := 4) (T := TX5) (k0 := 15) (ty := .int) tyX5 tyX5_ok nmX5 rfl hin_X5 (by decide) fl_X5_262 rfl (by decide +kernel) rfl rfl (Nat.le_of_ble_eq_true rfl) (by decide) y_42 dX5_readGuest_98 ?_
      refine fr_mem (M1 := (yM M r kr ar ik fi b (nI L) S (add4 it n k a z a) mv (nI T.1, nI (mE T), nI (mS T), T.2.2.2, 0, nI (n + 1), (nI (cnt t + 1))))) y_uq6 ?_
      exact fr_return (pc := 101) rfl rfl dX5_readGuest_101
    · exact absurd rfl h74
set_option maxRecDepth 100000 in
theorem rg_40 {Γ : aG} {l : Launch} {M : Nat → aC} {r : rT} {kr ar : Nat → Int32} {ik : Int32} {fi b : Nat → Int32} {L : Nat} {S : sT} {it mv : Nat → Int32} {T : tk} (hL : L ≤ 120) (hb : wb b L) (hT : tw L T) {t : rT} {k a : Int32} {n : Nat} (hn : n < 120) (w : wf t) (hc : cnt t < 8) (hk : okv k 7) (hI : iS it r n t) : ∃ (it' : Nat → Int32) (im' gt' : Int32), Fr Γ l mX5_readGuest 40 [(0, .ref 42), (1, .int k), (2, .int a)] [] 54 0 0 (yM M r kr ar ik fi b (nI L) S it mv (nI T.1, nI (mE T), nI (mS T), T.2.2.2, 0, (nI n), (nI (cnt t)))) none 54 (yM M r kr ar ik fi b (nI L) S it' mv (nI (p_g2 b (nxM b L) k a T t).2.1.1, nI (mE (p_g2 b (nxM b L) k a T t).2.1), nI (mS (p_g2 b (nxM b L) k a T t).2.1), (p_g2 b (nxM b L) k a T t).2.1.2.2.2, (bW (p_g2 b (nxM b L) k a T t).1), im', gt')) ∧ iR it' im' gt' r n (p_g2 b (nxM b L) k a T t) := by
  by_cases h1 : tk_is b T (a_ss 8).2.2.2 = true
  · by_cases h2 : tk_num (nxM b L T) 1 40 = true
    · rw [show (p_g2 b (nxM b L) k a T t) = (p_trait b (nxM b L) (a_ss 9).2.2.2 5 (cnt t) 0 15 (nxM b L (nxM b L T)) (itm t k a (nxM b L T).2.2.2 a)) from by unfold p_g2 p_g3; rw [show p_trait b (nxM b L) (a_ss 8).2.2.2 4 (cnt t) 1 40 T (s_add t k a) = (true, (nxM b L (nxM b L T)), u2 (s_add t k a) 4 (cnt t) (nxM b L T).2.2.2) from (if_pos h1).trans (if_pos h2), it_sz]; rfl]
      obtain ⟨it', im', gt', ht, hr⟩ := rg_63 (Γ := Γ) (l := l) (M := M) (r := r) (kr := kr) (ar := ar) (ik := ik) (fi := fi) (S := S) (mv := mv) (z := (nxM b L T).2.2.2) (a := a) hL hb (twM (twM hT)) hn w hc hk hI
      refine ⟨it', im', gt', ?_, hr⟩
      refine fr_aload_n (pc := 40) rfl dX5_readGuest_40 ?_
      refine fr_ldcwS (pc := 41) (k0 := 21) (by decide) rfl rfl dX5_readGuest_41 ?_
      refine fr_callV0 (pc := 44) (ci := 4) (T := TX5) (N := 20) [.ref 2021] [] (c_tkw_t hL hb hT (k0 := 21) (by decide) h1) gc_X5_267 rfl rfl ⟨rfl, rfl, by decide, by decide⟩ (Nat.le_of_ble_eq_true rfl) rfl (by decide) y_42 ⟨by decide, by decide⟩ dX5_readGuest_44 ?_
      refine fr_if_eq (pc := 47) 60 (by decide) dX5_readGuest_47 (fun h47 => ?_) (fun h47 => ?_)
      · exact absurd h47 (by decide)
      · refine fr_aload_n (pc := 50) rfl dX5_readGuest_50 ?_
        refine fr_iconst (pc := 51) (v := 1) rfl dX5_readGuest_51 ?_
        refine fr_bipush (pc := 52) (v := 40) rfl dX5_readGuest_52 ?_
        refine fr_callV0 (pc := 54) (ci := 4) (T := TX5) (N := 20) [.int 1, .int 40] [] (c_num_t hL hb (twM hT) h2) gc_X5_270 rfl rfl ⟨rfl, rfl, by decide, by decide⟩ (Nat.le_of_ble_eq_true rfl) rfl (by decide) y_42 ⟨by decide, by decide⟩ dX5_readGuest_54 ?_
        refine fr_goto (pc := 57) 62 (by decide) dX5_readGuest_57 ?_
        refine fr_nm (fun x3_62 e_x3_62 => ?_)
        refine fr_istore_n (pc := 62) [(3, .int x3_62), (0, .ref 42), (1, .int k), (2, .int a)] (by decide) rfl dX5_readGuest_62 ?_
        subst e_x3_62
        exact fr_sub [1, 2, 3, 0] rfl (ht)
    · rw [show (p_g2 b (nxM b L) k a T t) = (false, (nxM b L T), s_add t k a) from by unfold p_g2 p_g3; rw [show p_trait b (nxM b L) (a_ss 8).2.2.2 4 (cnt t) 1 40 T (s_add t k a) = (false, (nxM b L T), s_add t k a) from (if_pos h1).trans (if_neg h2)]; rfl]
      refine ⟨add4 it n k a (nxM b L T).2.2.2 a, nI (n + 1), nI (cnt t + 1), ?_, fun z => absurd (show false = true from z) (by decide)⟩
      refine fr_aload_n (pc := 40) rfl dX5_readGuest_40 ?_
      refine fr_ldcwS (pc := 41) (k0 := 21) (by decide) rfl rfl dX5_readGuest_41 ?_
      refine fr_callV0 (pc := 44) (ci := 4) (T := TX5) (N := 20) [.ref 2021] [] (c_tkw_t hL hb hT (k0 := 21) (by decide) h1) gc_X5_267 rfl rfl ⟨rfl, rfl, by decide, by decide⟩ (Nat.le_of_ble_eq_true rfl) rfl (by decide) y_42 ⟨by decide, by decide⟩ dX5_readGuest_44 ?_
      refine fr_if_eq (pc := 47) 60 (by decide) dX5_readGuest_47 (fun h47 => ?_) (fun h47 => ?_)
      · exact absurd h47 (by decide)
      · refine fr_aload_n (pc := 50) rfl dX5_readGuest_50 ?_
        refine fr_iconst (pc := 51) (v := 1) rfl dX5_readGuest_51 ?_
        refine fr_bipush (pc := 52) (v := 40) rfl dX5_readGuest_52 ?_
        refine fr_callV0 (pc := 54) (ci := 4) (T := TX5) (N := 20) [.int 1, .int 40] [] (c_num_f hL hb (twM hT) h2) gc_X5_270 rfl rfl ⟨rfl, rfl, by decide, by decide⟩ (Nat.le_of_ble_eq_true rfl) rfl (by decide) y_42 ⟨by decide, by decide⟩ dX5_readGuest_54 ?_
        refine fr_goto (pc := 57) 62 (by decide) dX5_readGuest_57 ?_
        refine fr_nm (fun x3_62 e_x3_62 => ?_)
        refine fr_istore_n (pc := 62) [(3, .int x3_62), (0, .ref 42), (1, .int k), (2, .int a)] (by decide) rfl dX5_readGuest_62 ?_
        subst e_x3_62
        exact fr_sub [1, 2, 3, 0] rfl (rw_63 hn)
  · rw [show (p_g2 b (nxM b L) k a T t) = (p_trait b (nxM b L) (a_ss 9).2.2.2 5 (cnt t) 0 15 T (itm t k a 10 a)) from by unfold p_g2 p_g3; rw [show p_trait b (nxM b L) (a_ss 8).2.2.2 4 (cnt t) 1 40 T (s_add t k a) = (true, T, s_add t k a) from if_neg h1, it_10]; rfl]
    obtain ⟨it', im', gt', ht, hr⟩ := rg_63 (Γ := Γ) (l := l) (M := M) (r := r) (kr := kr) (ar := ar) (ik := ik) (fi := fi) (S := S) (mv := mv) (z := 10) (a := a) hL hb hT hn w hc hk hI
    refine ⟨it', im', gt', ?_, hr⟩
    refine fr_aload_n (pc := 40) rfl dX5_readGuest_40 ?_
    refine fr_ldcwS (pc := 41) (k0 := 21) (by decide) rfl rfl dX5_readGuest_41 ?_
    refine fr_callV0 (pc := 44) (ci := 4) (T := TX5) (N := 20) [.ref 2021] [] (c_tkw_f hL hT (k0 := 21) (by decide) h1) gc_X5_267 rfl rfl ⟨rfl, rfl, by decide, by decide⟩ (Nat.le_of_ble_eq_true rfl) rfl (by decide) y_42 ⟨by decide, by decide⟩ dX5_readGuest_44 ?_
    refine fr_if_eq (pc := 47) 60 (by decide) dX5_readGuest_47 (fun h47 => ?_) (fun h47 => ?_)
    · refine fr_bipush (pc := 60) (v := 10) rfl dX5_readGuest_60 ?_
      refine fr_istore_n (pc := 62) [(3, .int 10), (0, .ref 42), (1, .int k), (2, .int a)] (by decide) rfl dX5_readGuest_62 ?_
      exact fr_sub [1, 2, 3, 0] rfl (ht)
    · exact absurd rfl h47
set_option maxRecDepth 100000 in
theorem c_rGuest {Γ : aG} {l : Launch} {M : Nat → aC} {r : rT} {kr ar : Nat → Int32} {ik : Int32} {fi b : Nat → Int32} {L : Nat} {S : sT} {it mv : Nat → Int32} {T : tk} (hL : L ≤ 120) (hb : wb b L) (hT : tw L T) {t : rT} {k : Int32} {n : Nat} (hn : n < 120) (w : wf t) (hk : okv k 7) (hI : iS it r n t) (h4 : ¬ T.2.2.1 = 4) : ∃ (it' : Nat → Int32) (im' gt' : Int32), Ev Γ l mX5_readGuest [.ref 42, .int k] 54 (yM M r kr ar ik fi b (nI L) S it mv (nI T.1, nI (mE T), nI (mS T), T.2.2.2, 0, (nI n), (nI (cnt t)))) none 54 (yM M r kr ar ik fi b (nI L) S it' mv (nI (p_guest b (nxM b L) k T t).2.1.1, nI (mE (p_guest b (nxM b L) k T t).2.1), nI (mS (p_guest b (nxM b L) k T t).2.1), (p_guest b (nxM b L) k T t).2.1.2.2.2, (bW (p_guest b (nxM b L) k T t).1), im', gt')) ∧ iR it' im' gt' r n (p_guest b (nxM b L) k T t) := by
  have hcl := w.ctl
  by_cases h0 : t 9 1 < 8
  · have hc : cnt t < 8 := by
      have q := h0
      rw [w.ct] at q
      exact (nI_ltI (b := 8) (by omega) (by decide)).mp q
    by_cases h1 : tk_is b (nxM b L T) (a_ss 7).2.2.2 = true
    · by_cases h2 : tk_num (nxM b L (nxM b L T)) 0 15 = true
      · rw [show (p_guest b (nxM b L) k T t) = p_g2 b (nxM b L) k (nxM b L (nxM b L T)).2.2.2 (nxM b L (nxM b L (nxM b L T))) t from (if_pos h0).trans ((if_pos h1).trans (if_pos h2))]
        obtain ⟨it', im', gt', ht, hr⟩ := rg_40 (Γ := Γ) (l := l) (M := M) (r := r) (kr := kr) (ar := ar) (ik := ik) (fi := fi) (S := S) (mv := mv) (a := (nxM b L (nxM b L T)).2.2.2) hL hb (twM (twM (twM hT))) hn w hc hk hI
        refine ⟨it', im', gt', ?_, hr⟩
        refine Ev.of [(0, .ref 42), (1, .int k)] (by decide) (Nat.le_of_ble_eq_true rfl) rfl ?_
        refine fr_aload_n (pc := 0) rfl dX5_readGuest_0 ?_
        refine fr_aload_n (pc := 1) rfl dX5_readGuest_1 ?_
        refine fr_get (pc := 2) (ci := 4) (T := TX5) (k0 := 15) rfl hin_X5 (by decide) fl_X5_262 (by decide) y_42 rfl dX5_readGuest_2 ?_
        refine fr_bipush (pc := 5) (v := 8) rfl dX5_readGuest_5 ?_
        refine fr_icmp_ge (pc := 7) 14 (by decide) dX5_readGuest_7 (fun h7 => ?_) (fun h7 => ?_)
        · exact absurd h7 (nI_ge (a := cnt t) (b := 8) (by omega) (by decide))
        · refine fr_iconst (pc := 10) (v := 1) rfl dX5_readGuest_10 ?_
          refine fr_goto (pc := 11) 15 (by decide) dX5_readGuest_11 ?_
          refine fr_callV0 (pc := 15) (ci := 4) (T := TX5) (N := 20) [.int 1] [] (c_must_t hL hb hT h4) gc_X5_251 rfl rfl ⟨rfl, rfl, by decide, by decide⟩ (Nat.le_of_ble_eq_true rfl) rfl (by decide) y_42 ⟨by decide, by decide⟩ dX5_readGuest_15 ?_
          refine fr_aload_n (pc := 18) rfl dX5_readGuest_18 ?_
          refine fr_ldcwS (pc := 19) (k0 := 20) (by decide) rfl rfl dX5_readGuest_19 ?_
          refine fr_callV0 (pc := 22) (ci := 4) (T := TX5) (N := 20) [.ref 2020] [] (c_tkw_t hL hb (twM hT) (k0 := 20) (by decide) h1) gc_X5_267 rfl rfl ⟨rfl, rfl, by decide, by decide⟩ (Nat.le_of_ble_eq_true rfl) rfl (by decide) y_42 ⟨by decide, by decide⟩ dX5_readGuest_22 ?_
          refine fr_if_eq (pc := 25) 38 (by decide) dX5_readGuest_25 (fun h25 => ?_) (fun h25 => ?_)
          · exact absurd h25 (by decide)
          · refine fr_aload_n (pc := 28) rfl dX5_readGuest_28 ?_
            refine fr_iconst (pc := 29) (v := 0) rfl dX5_readGuest_29 ?_
            refine fr_bipush (pc := 30) (v := 15) rfl dX5_readGuest_30 ?_
            refine fr_callV0 (pc := 32) (ci := 4) (T := TX5) (N := 20) [.int 0, .int 15] [] (c_num_t hL hb (twM (twM hT)) h2) gc_X5_270 rfl rfl ⟨rfl, rfl, by decide, by decide⟩ (Nat.le_of_ble_eq_true rfl) rfl (by decide) y_42 ⟨by decide, by decide⟩ dX5_readGuest_32 ?_
            refine fr_goto (pc := 35) 39 (by decide) dX5_readGuest_35 ?_
            refine fr_nm (fun x2_39 e_x2_39 => ?_)
            refine fr_istore_n (pc := 39) [(2, .int x2_39), (0, .ref 42), (1, .int k)] (by decide) rfl dX5_readGuest_39 ?_
            subst e_x2_39
            exact fr_sub [1, 2, 0] rfl (ht)
      · rw [show (p_guest b (nxM b L) k T t) = (false, (nxM b L (nxM b L T)), t) from (if_pos h0).trans ((if_pos h1).trans (if_neg h2))]
        refine ⟨add4 it n k (nxM b L (nxM b L T)).2.2.2 10 (nxM b L (nxM b L T)).2.2.2, nI (n + 1), nI (cnt t + 1), ?_, fun z => absurd (show false = true from z) (by decide)⟩
        refine Ev.of [(0, .ref 42), (1, .int k)] (by decide) (Nat.le_of_ble_eq_true rfl) rfl ?_
        refine fr_aload_n (pc := 0) rfl dX5_readGuest_0 ?_
        refine fr_aload_n (pc := 1) rfl dX5_readGuest_1 ?_
        refine fr_get (pc := 2) (ci := 4) (T := TX5) (k0 := 15) rfl hin_X5 (by decide) fl_X5_262 (by decide) y_42 rfl dX5_readGuest_2 ?_
        refine fr_bipush (pc := 5) (v := 8) rfl dX5_readGuest_5 ?_
        refine fr_icmp_ge (pc := 7) 14 (by decide) dX5_readGuest_7 (fun h7 => ?_) (fun h7 => ?_)
        · exact absurd h7 (nI_ge (a := cnt t) (b := 8) (by omega) (by decide))
        · refine fr_iconst (pc := 10) (v := 1) rfl dX5_readGuest_10 ?_
          refine fr_goto (pc := 11) 15 (by decide) dX5_readGuest_11 ?_
          refine fr_callV0 (pc := 15) (ci := 4) (T := TX5) (N := 20) [.int 1] [] (c_must_t hL hb hT h4) gc_X5_251 rfl rfl ⟨rfl, rfl, by decide, by decide⟩ (Nat.le_of_ble_eq_true rfl) rfl (by decide) y_42 ⟨by decide, by decide⟩ dX5_readGuest_15 ?_
          refine fr_aload_n (pc := 18) rfl dX5_readGuest_18 ?_
          refine fr_ldcwS (pc := 19) (k0 := 20) (by decide) rfl rfl dX5_readGuest_19 ?_
          refine fr_callV0 (pc := 22) (ci := 4) (T := TX5) (N := 20) [.ref 2020] [] (c_tkw_t hL hb (twM hT) (k0 := 20) (by decide) h1) gc_X5_267 rfl rfl ⟨rfl, rfl, by decide, by decide⟩ (Nat.le_of_ble_eq_true rfl) rfl (by decide) y_42 ⟨by decide, by decide⟩ dX5_readGuest_22 ?_
          refine fr_if_eq (pc := 25) 38 (by decide) dX5_readGuest_25 (fun h25 => ?_) (fun h25 => ?_)
          · exact absurd h25 (by decide)
          · refine fr_aload_n (pc := 28) rfl dX5_readGuest_28 ?_
            refine fr_iconst (pc := 29) (v := 0) rfl dX5_readGuest_29 ?_
            refine fr_bipush (pc := 30) (v := 15) rfl dX5_readGuest_30 ?_
            refine fr_callV0 (pc := 32) (ci := 4) (T := TX5) (N := 20) [.int 0, .int 15] [] (c_num_f hL hb (twM (twM hT)) h2) gc_X5_270 rfl rfl ⟨rfl, rfl, by decide, by decide⟩ (Nat.le_of_ble_eq_true rfl) rfl (by decide) y_42 ⟨by decide, by decide⟩ dX5_readGuest_32 ?_
            refine fr_goto (pc := 35) 39 (by decide) dX5_readGuest_35 ?_
            refine fr_nm (fun x2_39 e_x2_39 => ?_)
            refine fr_istore_n (pc := 39) [(2, .int x2_39), (0, .ref 42), (1, .int k)] (by decide) rfl dX5_readGuest_39 ?_
            subst e_x2_39
            exact fr_sub [1, 2, 0] rfl (rw_40 hn)
    · rw [show (p_guest b (nxM b L) k T t) = p_g2 b (nxM b L) k 0 (nxM b L T) t from (if_pos h0).trans (if_neg h1)]
      obtain ⟨it', im', gt', ht, hr⟩ := rg_40 (Γ := Γ) (l := l) (M := M) (r := r) (kr := kr) (ar := ar) (ik := ik) (fi := fi) (S := S) (mv := mv) (a := 0) hL hb (twM hT) hn w hc hk hI
      refine ⟨it', im', gt', ?_, hr⟩
      refine Ev.of [(0, .ref 42), (1, .int k)] (by decide) (Nat.le_of_ble_eq_true rfl) rfl ?_
      refine fr_aload_n (pc := 0) rfl dX5_readGuest_0 ?_
      refine fr_aload_n (pc := 1) rfl dX5_readGuest_1 ?_
      refine fr_get (pc := 2) (ci := 4) (T := TX5) (k0 := 15) rfl hin_X5 (by decide) fl_X5_262 (by decide) y_42 rfl dX5_readGuest_2 ?_
      refine fr_bipush (pc := 5) (v := 8) rfl dX5_readGuest_5 ?_
      refine fr_icmp_ge (pc := 7) 14 (by decide) dX5_readGuest_7 (fun h7 => ?_) (fun h7 => ?_)
      · exact absurd h7 (nI_ge (a := cnt t) (b := 8) (by omega) (by decide))
      · refine fr_iconst (pc := 10) (v := 1) rfl dX5_readGuest_10 ?_
        refine fr_goto (pc := 11) 15 (by decide) dX5_readGuest_11 ?_
        refine fr_callV0 (pc := 15) (ci := 4) (T := TX5) (N := 20) [.int 1] [] (c_must_t hL hb hT h4) gc_X5_251 rfl rfl ⟨rfl, rfl, by decide, by decide⟩ (Nat.le_of_ble_eq_true rfl) rfl (by decide) y_42 ⟨by decide, by decide⟩ dX5_readGuest_15 ?_
        refine fr_aload_n (pc := 18) rfl dX5_readGuest_18 ?_
        refine fr_ldcwS (pc := 19) (k0 := 20) (by decide) rfl rfl dX5_readGuest_19 ?_
        refine fr_callV0 (pc := 22) (ci := 4) (T := TX5) (N := 20) [.ref 2020] [] (c_tkw_f hL (twM hT) (k0 := 20) (by decide) h1) gc_X5_267 rfl rfl ⟨rfl, rfl, by decide, by decide⟩ (Nat.le_of_ble_eq_true rfl) rfl (by decide) y_42 ⟨by decide, by decide⟩ dX5_readGuest_22 ?_
        refine fr_if_eq (pc := 25) 38 (by decide) dX5_readGuest_25 (fun h25 => ?_) (fun h25 => ?_)
        · refine fr_iconst (pc := 38) (v := 0) rfl dX5_readGuest_38 ?_
          refine fr_istore_n (pc := 39) [(2, .int 0), (0, .ref 42), (1, .int k)] (by decide) rfl dX5_readGuest_39 ?_
          exact fr_sub [1, 2, 0] rfl (ht)
        · exact absurd rfl h25
  · have hc : cnt t = 8 := by
      rcases Nat.lt_or_ge (cnt t) 8 with q | q
      · exact absurd (by rw [w.ct]; exact nI_lt (b := 8) q (by decide)) h0
      · omega
    rw [show (p_guest b (nxM b L) k T t) = (false, T, t) from if_neg h0]
    refine ⟨add4 it n k 0 10 0, nI (n + 1), nI (cnt t + 1), ?_, fun z => absurd (show false = true from z) (by decide)⟩
    refine Ev.of [(0, .ref 42), (1, .int k)] (by decide) (Nat.le_of_ble_eq_true rfl) rfl ?_
    refine fr_aload_n (pc := 0) rfl dX5_readGuest_0 ?_
    refine fr_aload_n (pc := 1) rfl dX5_readGuest_1 ?_
    refine fr_get (pc := 2) (ci := 4) (T := TX5) (k0 := 15) rfl hin_X5 (by decide) fl_X5_262 (by decide) y_42 rfl dX5_readGuest_2 ?_
    refine fr_bipush (pc := 5) (v := 8) rfl dX5_readGuest_5 ?_
    refine fr_icmp_ge (pc := 7) 14 (by decide) dX5_readGuest_7 (fun h7 => ?_) (fun h7 => ?_)
    · refine fr_iconst (pc := 14) (v := 0) rfl dX5_readGuest_14 ?_
      refine fr_callV0 (pc := 15) (ci := 4) (T := TX5) (N := 20) [.int 0] [] (c_must_f) gc_X5_251 rfl rfl ⟨rfl, rfl, by decide, by decide⟩ (Nat.le_of_ble_eq_true rfl) rfl (by decide) y_42 ⟨by decide, by decide⟩ dX5_readGuest_15 ?_
      refine fr_aload_n (pc := 18) rfl dX5_readGuest_18 ?_
      refine fr_ldcwS (pc := 19) (k0 := 20) (by decide) rfl rfl dX5_readGuest_19 ?_
      refine fr_callV0 (pc := 22) (ci := 4) (T := TX5) (N := 20) [.ref 2020] [] (c_tkw_w (k0 := 20)) gc_X5_267 rfl rfl ⟨rfl, rfl, by decide, by decide⟩ (Nat.le_of_ble_eq_true rfl) rfl (by decide) y_42 ⟨by decide, by decide⟩ dX5_readGuest_22 ?_
      refine fr_if_eq (pc := 25) 38 (by decide) dX5_readGuest_25 (fun h25 => ?_) (fun h25 => ?_)
      · refine fr_iconst (pc := 38) (v := 0) rfl dX5_readGuest_38 ?_
        refine fr_istore_n (pc := 39) [(2, .int 0), (0, .ref 42), (1, .int k)] (by decide) rfl dX5_readGuest_39 ?_
        exact fr_sub [1, 2, 0] rfl (rw_40 hn)
      · exact absurd rfl h25
    · exact absurd (nI_le (a := 8) (b := cnt t) (by omega) (by omega)) h7
