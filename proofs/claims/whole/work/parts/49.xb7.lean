theorem bc_eq : ∀ s : Nat, s < 256 → ∃ v : Int32, v = nI (pcnt s) := fun s _ => ⟨_, rfl⟩
def bc1 (x : Int32) : Int32 := x - ((x.toUInt32 >>> ((1 : Int32).toUInt32 &&& Int32.toUInt32 31)).toInt32 &&& 1431655765)
def bc2 (x : Int32) : Int32 := (x &&& 858993459) + ((x.toUInt32 >>> ((2 : Int32).toUInt32 &&& Int32.toUInt32 31)).toInt32 &&& 858993459)
def bc3 (x : Int32) : Int32 := (x + (x.toUInt32 >>> ((4 : Int32).toUInt32 &&& Int32.toUInt32 31)).toInt32) &&& 252645135
def bc4 (x : Int32) : Int32 := x + (x.toUInt32 >>> ((8 : Int32).toUInt32 &&& Int32.toUInt32 31)).toInt32
def bc5 (x : Int32) : Int32 := x + (x.toUInt32 >>> ((16 : Int32).toUInt32 &&& Int32.toUInt32 31)).toInt32
theorem bc_all : ∀ s : Nat, s < 256 → bc5 (bc4 (bc3 (bc2 (bc1 (nI s))))) &&& 63 = nI (pcnt s) := by decide +kernel
theorem bc_fin {s : Nat} (hs : s < 256) {a b c d e : Int32} (h1 : a = bc1 (nI s)) (h2 : b = bc2 a) (h3 : c = bc3 b) (h4 : d = bc4 c) (h5 : e = bc5 d) : e &&& 63 = nI (pcnt s) := by
  subst h1 h2 h3 h4 h5
  exact bc_all s hs
set_option maxRecDepth 100000 in
theorem c_bitCount {Γ : aG} {l : Launch} {M : Nat → aC} {s : Nat} (hs : s < 256) : Ev Γ l mJ6_bitCount_0f7a4 [.int (nI s)] 54 M (some (.int (nI (pcnt s)))) 54 M := by
  refine Ev.of [(0, .int (nI s))] (by decide) (Nat.le_of_ble_eq_true rfl) rfl ?_
  refine fr_iload_n (pc := 0) rfl dJ6_bitCount_0f7a4_0 ?_
  refine fr_iload_n (pc := 1) rfl dJ6_bitCount_0f7a4_1 ?_
  refine fr_iconst (pc := 2) (v := 1) rfl dJ6_bitCount_0f7a4_2 ?_
  refine fr_iushr (pc := 3) dJ6_bitCount_0f7a4_3 ?_
  refine fr_ldcw (pc := 4) kc_J6_265 dJ6_bitCount_0f7a4_4 ?_
  refine fr_iand (pc := 7) dJ6_bitCount_0f7a4_7 ?_
  refine fr_isub (pc := 8) dJ6_bitCount_0f7a4_8 ?_
  refine fr_nm (fun x0_9 e_x0_9 => ?_)
  refine fr_istore_n (pc := 9) [(0, .int x0_9)] (by decide) rfl dJ6_bitCount_0f7a4_9 ?_
  refine fr_iload_n (pc := 10) rfl dJ6_bitCount_0f7a4_10 ?_
  refine fr_ldcw (pc := 11) kc_J6_266 dJ6_bitCount_0f7a4_11 ?_
  refine fr_iand (pc := 14) dJ6_bitCount_0f7a4_14 ?_
  refine fr_iload_n (pc := 15) rfl dJ6_bitCount_0f7a4_15 ?_
  refine fr_iconst (pc := 16) (v := 2) rfl dJ6_bitCount_0f7a4_16 ?_
  refine fr_iushr (pc := 17) dJ6_bitCount_0f7a4_17 ?_
  refine fr_ldcw (pc := 18) kc_J6_266 dJ6_bitCount_0f7a4_18 ?_
  refine fr_iand (pc := 21) dJ6_bitCount_0f7a4_21 ?_
  refine fr_iadd (pc := 22) dJ6_bitCount_0f7a4_22 ?_
  refine fr_nm (fun x0_23 e_x0_23 => ?_)
  refine fr_istore_n (pc := 23) [(0, .int x0_23)] (by decide) rfl dJ6_bitCount_0f7a4_23 ?_
  refine fr_iload_n (pc := 24) rfl dJ6_bitCount_0f7a4_24 ?_
  refine fr_iload_n (pc := 25) rfl dJ6_bitCount_0f7a4_25 ?_
  refine fr_iconst (pc := 26) (v := 4) rfl dJ6_bitCount_0f7a4_26 ?_
  refine fr_iushr (pc := 27) dJ6_bitCount_0f7a4_27 ?_
  refine fr_iadd (pc := 28) dJ6_bitCount_0f7a4_28 ?_
  refine fr_ldcw (pc := 29) kc_J6_267 dJ6_bitCount_0f7a4_29 ?_
  refine fr_iand (pc := 32) dJ6_bitCount_0f7a4_32 ?_
  refine fr_nm (fun x0_33 e_x0_33 => ?_)
  refine fr_istore_n (pc := 33) [(0, .int x0_33)] (by decide) rfl dJ6_bitCount_0f7a4_33 ?_
  refine fr_iload_n (pc := 34) rfl dJ6_bitCount_0f7a4_34 ?_
  refine fr_iload_n (pc := 35) rfl dJ6_bitCount_0f7a4_35 ?_
  refine fr_bipush (pc := 36) (v := 8) rfl dJ6_bitCount_0f7a4_36 ?_
  refine fr_iushr (pc := 38) dJ6_bitCount_0f7a4_38 ?_
  refine fr_iadd (pc := 39) dJ6_bitCount_0f7a4_39 ?_
  refine fr_nm (fun x0_40 e_x0_40 => ?_)
  refine fr_istore_n (pc := 40) [(0, .int x0_40)] (by decide) rfl dJ6_bitCount_0f7a4_40 ?_
  refine fr_iload_n (pc := 41) rfl dJ6_bitCount_0f7a4_41 ?_
  refine fr_iload_n (pc := 42) rfl dJ6_bitCount_0f7a4_42 ?_
  refine fr_bipush (pc := 43) (v := 16) rfl dJ6_bitCount_0f7a4_43 ?_
  refine fr_iushr (pc := 45) dJ6_bitCount_0f7a4_45 ?_
  refine fr_iadd (pc := 46) dJ6_bitCount_0f7a4_46 ?_
  refine fr_nm (fun x0_47 e_x0_47 => ?_)
  refine fr_istore_n (pc := 47) [(0, .int x0_47)] (by decide) rfl dJ6_bitCount_0f7a4_47 ?_
  refine fr_iload_n (pc := 48) rfl dJ6_bitCount_0f7a4_48 ?_
  refine fr_bipush (pc := 49) (v := 63) rfl dJ6_bitCount_0f7a4_49 ?_
  refine fr_iand (pc := 51) dJ6_bitCount_0f7a4_51 ?_
  exact fr_ireturn (pc := 52) rfl (bc_fin hs e_x0_9 e_x0_23 e_x0_33 e_x0_40 e_x0_47) rfl rfl dJ6_bitCount_0f7a4_52
theorem sh_pow {c : Nat} (h : c < 9) : (1 : Int32) <<< (nI c &&& 31) = nI (2 ^ c) ∧ 2 ^ c ≤ 256 := by
  rcases (show c = 0 ∨ c = 1 ∨ c = 2 ∨ c = 3 ∨ c = 4 ∨ c = 5 ∨ c = 6 ∨ c = 7 ∨ c = 8 by omega) with rfl | rfl | rfl | rfl | rfl | rfl | rfl | rfl | rfl <;> exact ⟨by decide, by decide⟩
theorem pcnt_le (s : Nat) : pcnt s ≤ 8 := by unfold pcnt; omega
theorem in1_neg {q : Nat → Bool} {many : Nat} : ∀ (k s : Nat), s + k < 1000 → s_in1 q many k s = -1 ∨ ∃ j, j < 1000 ∧ s_in1 q many k s = nI j := by
  intro k
  induction k with
  | zero => intro s _; exact Or.inl rfl
  | succ k ih =>
    intro s hs
    rw [s_in1]
    split
    · exact Or.inr ⟨s, by omega, rfl⟩
    · exact ih (s + 1) (by omega)
set_option maxRecDepth 100000 in
theorem sd_in {Γ : aG} {l : Launch} {M : Nat → aC} {r rk : rT} {ik : Int32} {S : sT} {b : Nat → Int32} {ln : Int32} {J : Int32 × Int32 × Int32 × Int32} {fi : Nat → Int32} (w : wf r) {n N many : Nat} (hn2 : n < 1000) (hN : N ≤ 256) (hm : many < 10) {R : Int32 × sS} : ∀ (k s : Nat) (t : rT), s + k = N → (¬ s_in1 (q_snd r n) many k s < 0 → R = (s_in1 (q_snd r n) many k s, (r, rk, ik, S, b, ln, fi))) → (s_in1 (q_snd r n) many k s < 0 → ∀ t : rT, ∃ t' : rT, Fr Γ l mX4_send 90 [(0, .ref 0), (1, .int (nI n)), (2, .int (nI N)), (3, .int (nI many))] [] 54 0 0 (xM M r rk t ik S (b, ln, J) fi) (some (.int R.1)) 54 (xF M t' J R.2)) → ∃ t' : rT, Fr Γ l mX4_send 42 [(0, .ref 0), (1, .int (nI n)), (2, .int (nI N)), (3, .int (nI many)), (4, .int (nI s))] [] 54 0 0 (xM M r rk t ik S (b, ln, J) fi) (some (.int R.1)) 54 (xF M t' J R.2) := by
  intro k
  induction k with
  | zero =>
    intro s t hn hy hk
    obtain ⟨t', ht⟩ := hk (show (-1 : Int32) < 0 by decide) t
    refine ⟨t', ?_⟩
    refine fr_iload (pc := 42) rfl dX4_send_42 ?_
    refine fr_iload_n (pc := 44) rfl dX4_send_44 ?_
    refine fr_icmp_ge (pc := 45) 90 (by decide) dX4_send_45 (fun h45 => ?_) (fun h45 => ?_)
    · exact fr_sub [0, 1, 2, 3] rfl (ht)
    · exact absurd (nI_le (by omega) (by omega)) h45
  | succ k ih =>
    intro s t hn hy hk
    have w1 := (wf_send (set := nI s) (cnt r) 0 r w).1
    by_cases hp : pcnt s = many
    · by_cases hq : q_snd r n s = true
      · have e1 : s_in1 (q_snd r n) many (k + 1) s = nI s := if_pos ⟨hp, hq⟩
        rw [e1] at hy
        rw [hy (nI_pos (by omega))]
        refine ⟨s_hold n (s_send (nI s) (cnt r) 0 r), ?_⟩
        refine fr_iload (pc := 42) rfl dX4_send_42 ?_
        refine fr_iload_n (pc := 44) rfl dX4_send_44 ?_
        refine fr_icmp_ge (pc := 45) 90 (by decide) dX4_send_45 (fun h45 => ?_) (fun h45 => ?_)
        · exact absurd h45 (nI_ge (by omega) (by omega))
        · refine fr_iload (pc := 48) rfl dX4_send_48 ?_
          refine fr_callS0 (pc := 50) [.int (nI s)] [] (c_bitCount (by omega)) gc_X4_179 rfl rfl ⟨rfl, rfl, by decide, by decide⟩ (Nat.le_of_ble_eq_true rfl) ⟨by decide, by decide⟩ dX4_send_50 ?_
          refine fr_iload_n (pc := 53) rfl dX4_send_53 ?_
          refine fr_icmp_ne (pc := 54) 84 (by decide) dX4_send_54 (fun h54 => ?_) (fun h54 => ?_)
          · exact absurd (congrArg nI hp) h54
          · refine fr_aload_n (pc := 57) rfl dX4_send_57 ?_
            refine fr_callV0 (pc := 58) (ci := 3) (T := TX4) (N := 7) [] [] (c_X4_startTrial) gc_X4_152 rfl rfl ⟨rfl, rfl, by decide, by decide⟩ (Nat.le_of_ble_eq_true rfl) rfl (by decide) x_0 ⟨by decide, by decide⟩ dX4_send_58 ?_
            refine fr_aload_n (pc := 61) rfl dX4_send_61 ?_
            refine fr_get (pc := 62) (ci := 3) (T := TX4) (k0 := 2) rfl hin_X4 (by decide) fl_X4_19 (by decide) x_0 rfl dX4_send_62 ?_
            refine fr_iload (pc := 65) rfl dX4_send_65 ?_
            refine fr_callV0 (pc := 67) (ci := 0) (T := TX0) (N := 15) [.int (nI s)] [] (ev_T (fun _ => c_X0_sendHome (by omega) (by assumption))) gc_X4_184 rfl rfl ⟨rfl, rfl, by decide, by decide⟩ (Nat.le_of_ble_eq_true rfl) rfl (by decide) x_21 ⟨by decide, by decide⟩ dX4_send_67 ?_
            refine fr_aload_n (pc := 70) rfl dX4_send_70 ?_
            refine fr_get (pc := 71) (ci := 3) (T := TX4) (k0 := 2) rfl hin_X4 (by decide) fl_X4_19 (by decide) x_0 rfl dX4_send_71 ?_
            refine fr_iload_n (pc := 74) rfl dX4_send_74 ?_
            refine fr_callV0 (pc := 75) (ci := 0) (T := TX0) (N := 15) [.int (nI n)] [] (ev_T (fun _ => c_X0_holdsFor (by omega) (by assumption) (by omega))) gc_X4_164 rfl rfl ⟨rfl, rfl, by decide, by decide⟩ (Nat.le_of_ble_eq_true rfl) rfl (by decide) x_21 ⟨by decide, by decide⟩ dX4_send_75 ?_
            refine fr_if_eq (pc := 78) 84 (by decide) dX4_send_78 (fun h78 => ?_) (fun h78 => ?_)
            · have g78 := bI_0.mp h78
              exact absurd (of_decide_eq_true hq) g78
            · have g78 := bI_n0 h78
              refine fr_iload (pc := 81) rfl dX4_send_81 ?_
              exact fr_ireturn (pc := 83) rfl rfl rfl rfl dX4_send_83
      · have e1 : s_in1 (q_snd r n) many (k + 1) s = s_in1 (q_snd r n) many k (s + 1) := if_neg (fun z => hq z.2)
        rw [e1] at hy hk
        obtain ⟨t', ht⟩ := ih (s + 1) (s_hold n (s_send (nI s) (cnt r) 0 r)) (by omega) hy hk
        refine ⟨t', ?_⟩
        refine fr_iload (pc := 42) rfl dX4_send_42 ?_
        refine fr_iload_n (pc := 44) rfl dX4_send_44 ?_
        refine fr_icmp_ge (pc := 45) 90 (by decide) dX4_send_45 (fun h45 => ?_) (fun h45 => ?_)
        · exact absurd h45 (nI_ge (by omega) (by omega))
        · refine fr_iload (pc := 48) rfl dX4_send_48 ?_
          refine fr_callS0 (pc := 50) [.int (nI s)] [] (c_bitCount (by omega)) gc_X4_179 rfl rfl ⟨rfl, rfl, by decide, by decide⟩ (Nat.le_of_ble_eq_true rfl) ⟨by decide, by decide⟩ dX4_send_50 ?_
          refine fr_iload_n (pc := 53) rfl dX4_send_53 ?_
          refine fr_icmp_ne (pc := 54) 84 (by decide) dX4_send_54 (fun h54 => ?_) (fun h54 => ?_)
          · exact absurd (congrArg nI hp) h54
          · refine fr_aload_n (pc := 57) rfl dX4_send_57 ?_
            refine fr_callV0 (pc := 58) (ci := 3) (T := TX4) (N := 7) [] [] (c_X4_startTrial) gc_X4_152 rfl rfl ⟨rfl, rfl, by decide, by decide⟩ (Nat.le_of_ble_eq_true rfl) rfl (by decide) x_0 ⟨by decide, by decide⟩ dX4_send_58 ?_
            refine fr_aload_n (pc := 61) rfl dX4_send_61 ?_
            refine fr_get (pc := 62) (ci := 3) (T := TX4) (k0 := 2) rfl hin_X4 (by decide) fl_X4_19 (by decide) x_0 rfl dX4_send_62 ?_
            refine fr_iload (pc := 65) rfl dX4_send_65 ?_
            refine fr_callV0 (pc := 67) (ci := 0) (T := TX0) (N := 15) [.int (nI s)] [] (ev_T (fun _ => c_X0_sendHome (by omega) (by assumption))) gc_X4_184 rfl rfl ⟨rfl, rfl, by decide, by decide⟩ (Nat.le_of_ble_eq_true rfl) rfl (by decide) x_21 ⟨by decide, by decide⟩ dX4_send_67 ?_
            refine fr_aload_n (pc := 70) rfl dX4_send_70 ?_
            refine fr_get (pc := 71) (ci := 3) (T := TX4) (k0 := 2) rfl hin_X4 (by decide) fl_X4_19 (by decide) x_0 rfl dX4_send_71 ?_
            refine fr_iload_n (pc := 74) rfl dX4_send_74 ?_
            refine fr_callV0 (pc := 75) (ci := 0) (T := TX0) (N := 15) [.int (nI n)] [] (ev_T (fun _ => c_X0_holdsFor (by omega) (by assumption) (by omega))) gc_X4_164 rfl rfl ⟨rfl, rfl, by decide, by decide⟩ (Nat.le_of_ble_eq_true rfl) rfl (by decide) x_21 ⟨by decide, by decide⟩ dX4_send_75 ?_
            refine fr_if_eq (pc := 78) 84 (by decide) dX4_send_78 (fun h78 => ?_) (fun h78 => ?_)
            · have g78 := bI_0.mp h78
              refine fr_iinc (pc := 84) (v := nI (s + 1)) [(4, .int (nI (s + 1))), (0, .ref 0), (1, .int (nI n)), (2, .int (nI N)), (3, .int (nI many))] rfl (nI_1 s) (by decide) rfl dX4_send_84 ?_
              refine fr_goto (pc := 87) 42 (by decide) dX4_send_87 ?_
              exact fr_sub [1, 2, 3, 4, 0] rfl (ht)
            · have g78 := bI_n0 h78
              exact absurd (decide_eq_true g78) hq
    · have e1 : s_in1 (q_snd r n) many (k + 1) s = s_in1 (q_snd r n) many k (s + 1) := if_neg (fun z => hp z.1)
      rw [e1] at hy hk
      obtain ⟨t', ht⟩ := ih (s + 1) t (by omega) hy hk
      refine ⟨t', ?_⟩
      refine fr_iload (pc := 42) rfl dX4_send_42 ?_
      refine fr_iload_n (pc := 44) rfl dX4_send_44 ?_
      refine fr_icmp_ge (pc := 45) 90 (by decide) dX4_send_45 (fun h45 => ?_) (fun h45 => ?_)
      · exact absurd h45 (nI_ge (by omega) (by omega))
      · refine fr_iload (pc := 48) rfl dX4_send_48 ?_
        refine fr_callS0 (pc := 50) [.int (nI s)] [] (c_bitCount (by omega)) gc_X4_179 rfl rfl ⟨rfl, rfl, by decide, by decide⟩ (Nat.le_of_ble_eq_true rfl) ⟨by decide, by decide⟩ dX4_send_50 ?_
        refine fr_iload_n (pc := 53) rfl dX4_send_53 ?_
        refine fr_icmp_ne (pc := 54) 84 (by decide) dX4_send_54 (fun h54 => ?_) (fun h54 => ?_)
        · refine fr_iinc (pc := 84) (v := nI (s + 1)) [(4, .int (nI (s + 1))), (0, .ref 0), (1, .int (nI n)), (2, .int (nI N)), (3, .int (nI many))] rfl (nI_1 s) (by decide) rfl dX4_send_84 ?_
          refine fr_goto (pc := 87) 42 (by decide) dX4_send_87 ?_
          exact fr_sub [1, 2, 3, 4, 0] rfl (ht)
        · exact absurd ((nI_eq (by have := pcnt_le s; omega) (by omega)).mp h54) hp
set_option maxRecDepth 100000 in
theorem sd_out {Γ : aG} {l : Launch} {M : Nat → aC} {r rk : rT} {ik : Int32} {S : sT} {b : Nat → Int32} {ln : Int32} {J : Int32 × Int32 × Int32 × Int32} {fi : Nat → Int32} (w : wf r) {n N : Nat} (hn2 : n < 1000) (hN : N ≤ 256) : ∀ (j many : Nat) (t : rT), many + j = cnt r + 1 → ∃ t' : rT, Fr Γ l mX4_send 28 [(0, .ref 0), (1, .int (nI n)), (2, .int (nI N)), (3, .int (nI many))] [] 54 0 0 (xM M r rk t ik S (b, ln, J) fi) (some (.int (orN (r, rk, ik, S, b, ln, fi) (s_out (q_snd r n) N j many)).1)) 54 (xF M t' J (orN (r, rk, ik, S, b, ln, fi) (s_out (q_snd r n) N j many)).2) := by
  have hcl := w.ctl
  intro j
  induction j with
  | zero =>
    intro many t hn
    refine ⟨t, ?_⟩
    rw [show s_out (q_snd r n) N 0 many = -1 from rfl, show orN (r, rk, ik, S, b, ln, fi) (-1) = fb (r, rk, ik, S, b, ln, fi) 3 from if_pos (by decide)]
    refine fr_iload_n (pc := 28) rfl dX4_send_28 ?_
    refine fr_aload_n (pc := 29) rfl dX4_send_29 ?_
    refine fr_get (pc := 30) (ci := 3) (T := TX4) (k0 := 0) rfl hin_X4 (by decide) fl_X4_10 (by decide) x_0 rfl dX4_send_30 ?_
    refine fr_get (pc := 33) (ci := 0) (T := TX0) (k0 := 6) rfl hin_X0 (by decide) fl_X4_176 (by decide) x_1 rfl dX4_send_33 ?_
    refine fr_icmp_gt (pc := 36) 96 (by decide) dX4_send_36 (fun h36 => ?_) (fun h36 => ?_)
    · refine fr_aload_n (pc := 96) rfl dX4_send_96 ?_
      refine fr_iconst (pc := 97) (v := 3) rfl dX4_send_97 ?_
      refine fr_callV0 (pc := 98) (ci := 3) (T := TX4) (N := 7) [.int 3] [] (c_X4_found (k := 3) (by decide)) gc_X4_51 rfl rfl ⟨rfl, rfl, by decide, by decide⟩ (Nat.le_of_ble_eq_true rfl) rfl (by decide) x_0 ⟨by decide, by decide⟩ dX4_send_98 ?_
      exact fr_ireturn (pc := 101) rfl rfl rfl rfl dX4_send_101
    · exact absurd (by rw [w.ct]; exact nI_lt (by omega) (by omega)) h36
  | succ j ih =>
    intro many t hn
    obtain ⟨t', ht⟩ := sd_in (Γ := Γ) (l := l) (M := M) (r := r) (rk := rk) (ik := ik) (S := S) (b := b) (ln := ln) (J := J) (fi := fi) w (n := n) (N := N) (many := many) hn2 hN (by omega) (R := orN (r, rk, ik, S, b, ln, fi) (s_out (q_snd r n) N (j + 1) many)) N 0 t (by omega) (fun hq => by rw [show s_out (q_snd r n) N (j + 1) many = s_in1 (q_snd r n) many N 0 from if_neg hq]; exact if_neg hq) (fun hq t => by
      obtain ⟨t', ht⟩ := ih (many + 1) t (by omega)
      refine ⟨t', ?_⟩
      rw [show s_out (q_snd r n) N (j + 1) many = s_out (q_snd r n) N j (many + 1) from if_pos hq]
      refine fr_iinc (pc := 90) (v := nI (many + 1)) [(3, .int (nI (many + 1))), (0, .ref 0), (1, .int (nI n)), (2, .int (nI N))] rfl (nI_1 many) (by decide) rfl dX4_send_90 ?_
      refine fr_goto (pc := 93) 28 (by decide) dX4_send_93 ?_
      exact fr_sub [1, 2, 3, 0] rfl (ht))
    refine ⟨t', ?_⟩
    refine fr_iload_n (pc := 28) rfl dX4_send_28 ?_
    refine fr_aload_n (pc := 29) rfl dX4_send_29 ?_
    refine fr_get (pc := 30) (ci := 3) (T := TX4) (k0 := 0) rfl hin_X4 (by decide) fl_X4_10 (by decide) x_0 rfl dX4_send_30 ?_
    refine fr_get (pc := 33) (ci := 0) (T := TX0) (k0 := 6) rfl hin_X0 (by decide) fl_X4_176 (by decide) x_1 rfl dX4_send_33 ?_
    refine fr_icmp_gt (pc := 36) 96 (by decide) dX4_send_36 (fun h36 => ?_) (fun h36 => ?_)
    · exact absurd (show r 9 1 < nI many from h36) (by rw [w.ct]; exact nI_nlt (by omega) (by omega))
    · refine fr_iconst (pc := 39) (v := 0) rfl dX4_send_39 ?_
      refine fr_istore (pc := 40) [(4, .int 0), (0, .ref 0), (1, .int (nI n)), (2, .int (nI N)), (3, .int (nI many))] (by decide) rfl dX4_send_40 ?_
      exact fr_sub [1, 2, 3, 4, 0] rfl (ht)
set_option maxRecDepth 100000 in
theorem x_send {Γ : aG} {l : Launch} {M : Nat → aC} {r rk t : rT} {ik : Int32} {S : sT} {b : Nat → Int32} {ln : Int32} {J : Int32 × Int32 × Int32 × Int32} {fi : Nat → Int32} {n : Int32} (w : wf r)  : ∃ t' : rT, Ev Γ l mX4_send [.ref 0, .int n] 54 (xM M r rk t ik S (b, ln, J) fi) (some (.int (sp_send (r, rk, ik, S, b, ln, fi) n).1)) 54 (xF M t' J (sp_send (r, rk, ik, S, b, ln, fi) n).2) := by
  by_cases hc : wi n 0 20 = true
  · obtain ⟨i1, hi1, rfl⟩ := wi_nI (N := 20) hc rfl
    have ei1 : (nI i1).toNatClampNeg = i1 := nI_clamp (by omega)
    have hp := sh_pow w.ctl
    obtain ⟨t', ht⟩ := sd_out (Γ := Γ) (l := l) (M := M) (r := r) (rk := rk) (ik := ik) (S := S) (b := b) (ln := ln) (J := J) (fi := fi) w (n := i1) (N := 2 ^ cnt r) (by omega) hp.2 (cnt r + 1) 0 t (by omega)
    refine ⟨t', ?_⟩
    rw [show sp_send (r, rk, ik, S, b, ln, fi) (nI i1) = orN (r, rk, ik, S, b, ln, fi) (s_out (q_snd r i1) (2 ^ cnt r) (cnt r + 1) 0) from by unfold sp_send; rw [ei1]; exact if_pos hc]
    refine Ev.of [(0, .ref 0), (1, .int (nI i1))] (by decide) (Nat.le_of_ble_eq_true rfl) rfl ?_
    refine fr_iload_n (pc := 0) rfl dX4_send_0 ?_
    refine fr_iconst (pc := 1) (v := 0) rfl dX4_send_1 ?_
    refine fr_bipush (pc := 2) (v := 20) rfl dX4_send_2 ?_
    refine fr_callS0 (pc := 4) [.int (nI i1), .int 0, .int 20] [] (c_X4_within) gc_X4_44 rfl rfl ⟨rfl, rfl, by decide, by decide⟩ (Nat.le_of_ble_eq_true rfl) ⟨by decide, by decide⟩ dX4_send_4 ?_
    refine fr_if_ne (pc := 7) 16 (by decide) dX4_send_7 (fun h7 => ?_) (fun h7 => ?_)
    · have g7 := bI_n0 h7
      refine fr_iconst (pc := 16) (v := 1) rfl dX4_send_16 ?_
      refine fr_aload_n (pc := 17) rfl dX4_send_17 ?_
      refine fr_get (pc := 18) (ci := 3) (T := TX4) (k0 := 0) rfl hin_X4 (by decide) fl_X4_10 (by decide) x_0 rfl dX4_send_18 ?_
      refine fr_get (pc := 21) (ci := 0) (T := TX0) (k0 := 6) rfl hin_X0 (by decide) fl_X4_176 (by decide) x_1 rfl dX4_send_21 ?_
      refine fr_ishl (pc := 24) dX4_send_24 ?_
      refine fr_eq (z := nI (2 ^ cnt r)) (by rw [w.ct]; exact hp.1) ?_
      refine fr_istore_n (pc := 25) [(2, .int (nI (2 ^ cnt r))), (0, .ref 0), (1, .int (nI i1))] (by decide) rfl dX4_send_25 ?_
      refine fr_iconst (pc := 26) (v := 0) rfl dX4_send_26 ?_
      refine fr_istore_n (pc := 27) [(3, .int 0), (2, .int (nI (2 ^ cnt r))), (0, .ref 0), (1, .int (nI i1))] (by decide) rfl dX4_send_27 ?_
      exact fr_sub [2, 3, 1, 0] rfl (ht)
    · have g7 := bI_0.mp h7
      exact absurd hc g7
  · refine ⟨t, ?_⟩
    rw [show sp_send (r, rk, ik, S, b, ln, fi) n = fb (r, rk, ik, S, b, ln, fi) 0 from if_neg hc]
    refine Ev.of [(0, .ref 0), (1, .int n)] (by decide) (Nat.le_of_ble_eq_true rfl) rfl ?_
    refine fr_iload_n (pc := 0) rfl dX4_send_0 ?_
    refine fr_iconst (pc := 1) (v := 0) rfl dX4_send_1 ?_
    refine fr_bipush (pc := 2) (v := 20) rfl dX4_send_2 ?_
    refine fr_callS0 (pc := 4) [.int n, .int 0, .int 20] [] (c_X4_within) gc_X4_44 rfl rfl ⟨rfl, rfl, by decide, by decide⟩ (Nat.le_of_ble_eq_true rfl) ⟨by decide, by decide⟩ dX4_send_4 ?_
    refine fr_if_ne (pc := 7) 16 (by decide) dX4_send_7 (fun h7 => ?_) (fun h7 => ?_)
    · have g7 := bI_n0 h7
      exact absurd g7 hc
    · have g7 := bI_0.mp h7
      refine fr_aload_n (pc := 10) rfl dX4_send_10 ?_
      refine fr_iconst (pc := 11) (v := 0) rfl dX4_send_11 ?_
      refine fr_callV0 (pc := 12) (ci := 3) (T := TX4) (N := 7) [.int 0] [] (c_X4_found (k := 0) (by decide)) gc_X4_51 rfl rfl ⟨rfl, rfl, by decide, by decide⟩ (Nat.le_of_ble_eq_true rfl) rfl (by decide) x_0 ⟨by decide, by decide⟩ dX4_send_12 ?_
      exact fr_ireturn (pc := 15) rfl rfl rfl rfl dX4_send_15
set_option maxRecDepth 100000 in
theorem c_X3_hasRoomFor {Γ : aG} {l : Launch} {M : Nat → aC} {r rk t : rT} {ik : Int32} {S : sT} {T : tT} {fi : Nat → Int32} {n : Int32}  : Ev Γ l mX3_hasRoomFor [.ref 39, .int n] 54 (xM M r rk t ik S T fi) (some (.int (bI (¬ 120 - T.2.1 < n)))) 54 (xM M r rk t ik S T fi) := by
  refine Ev.of [(0, .ref 39), (1, .int n)] (by decide) (Nat.le_of_ble_eq_true rfl) rfl ?_
  refine fr_iload_n (pc := 0) rfl dX3_hasRoomFor_0 ?_
  refine fr_bipush (pc := 1) (v := 120) rfl dX3_hasRoomFor_1 ?_
  refine fr_aload_n (pc := 3) rfl dX3_hasRoomFor_3 ?_
  refine fr_get (pc := 4) (ci := 2) (T := TX3) (k0 := 1) rfl hin_X3 (by decide) fl_X3_13 (by decide) x_39 rfl dX3_hasRoomFor_4 ?_
  refine fr_isub (pc := 7) dX3_hasRoomFor_7 ?_
  refine fr_icmp_gt (pc := 8) 15 (by decide) dX3_hasRoomFor_8 (fun h8 => ?_) (fun h8 => ?_)
  · refine fr_iconst (pc := 15) (v := 0) rfl dX3_hasRoomFor_15 ?_
    exact fr_ireturn (pc := 16) rfl (bI_f (fun z => z h8)).symm rfl rfl dX3_hasRoomFor_16
  · refine fr_iconst (pc := 11) (v := 1) rfl dX3_hasRoomFor_11 ?_
    refine fr_goto (pc := 12) 16 (by decide) dX3_hasRoomFor_12 ?_
    exact fr_ireturn (pc := 16) rfl (bI_t h8).symm rfl rfl dX3_hasRoomFor_16
set_option maxRecDepth 100000 in
theorem c_X3_add {Γ : aG} {l : Launch} {M : Nat → aC} {r rk t : rT} {ik : Int32} {S : sT} {fi : Nat → Int32} {b : Nat → Int32} {J : Int32 × Int32 × Int32 × Int32} {k : Nat} {x : Int32} (hk : k < 120)  : Ev Γ l mX3_add [.ref 39, .int x] 54 (xM M r rk t ik S (b, nI k, J) fi) none 54 (xM M r rk t ik S (upd b k x, nI k + 1, J) fi) := by
  refine Ev.of [(0, .ref 39), (1, .int x)] (by decide) (Nat.le_of_ble_eq_true rfl) rfl ?_
  refine fr_aload_n (pc := 0) rfl dX3_add_0 ?_
  refine fr_iconst (pc := 1) (v := 1) rfl dX3_add_1 ?_
  refine fr_callV0 (pc := 2) (ci := 2) (T := TX3) (N := 6) [.int 1] [] (c_X3_hasRoomFor) gc_X3_29 rfl rfl ⟨rfl, rfl, by decide, by decide⟩ (Nat.le_of_ble_eq_true rfl) rfl (by decide) x_39 ⟨by decide, by decide⟩ dX3_add_2 ?_
  refine fr_if_eq (pc := 5) 28 (by decide) dX3_add_5 (fun h5 => ?_) (fun h5 => ?_)
  · have g5 := bI_0.mp h5
    exact absurd (by rw [show (120 : Int32) = nI 120 from rfl, pk_sub (by omega)]; exact nI_nlt (a := 120 - k) (b := 1) (by omega) (by omega)) g5
  · have g5 := bI_n0 h5
    refine fr_aload_n (pc := 8) rfl dX3_add_8 ?_
    refine fr_get (pc := 9) (ci := 2) (T := TX3) (k0 := 0) rfl hin_X3 (by decide) fl_X3_9 (by decide) x_39 rfl dX3_add_9 ?_
    refine fr_aload_n (pc := 12) rfl dX3_add_12 ?_
    refine fr_get (pc := 13) (ci := 2) (T := TX3) (k0 := 1) rfl hin_X3 (by decide) fl_X3_13 (by decide) x_39 rfl dX3_add_13 ?_
    refine fr_iload_n (pc := 16) rfl dX3_add_16 ?_
    refine fr_iast (pc := 17) k rfl (by decide) x_40 hk (by decide) dX3_add_17 ?_
    refine fr_mem x_u40 ?_
    refine fr_aload_n (pc := 18) rfl dX3_add_18 ?_
    refine fr_dup (pc := 19) rfl dX3_add_19 ?_
    refine fr_get (pc := 20) (ci := 2) (T := TX3) (k0 := 1) rfl hin_X3 (by decide) fl_X3_13 (by decide) x_39 rfl dX3_add_20 ?_
    refine fr_iconst (pc := 23) (v := 1) rfl dX3_add_23 ?_
    refine fr_iadd (pc := 24) dX3_add_24 ?_
    refine fr_put (pc := 25) (ci := 2) (T := TX3) (k0 := 1) (ty := .int) tyX3 tyX3_ok nmX3 rfl hin_X3 (by decide) fl_X3_13 rfl (by decide +kernel) rfl rfl (Nat.le_of_ble_eq_true rfl) (by decide) x_39 dX3_add_25 ?_
    refine fr_mem x_u39_1 ?_
    exact fr_return (pc := 28) rfl rfl dX3_add_28
set_option maxRecDepth 100000 in
theorem fd_loop {Γ : aG} {l : Launch} {M : Nat → aC} {r rk t : rT} {ik : Int32} {S : sT} {J : Int32 × Int32 × Int32 × Int32} {fi : Nat → Int32} {x n : Int32} : ∀ (j k : Nat) (b : Nat → Int32) (q : Int32), q = nI j - 1 → k + j ≤ 120 → Fr Γ l mX4_feed 36 [(0, .ref 0), (1, .int x), (2, .int n), (3, .int q)] [] 54 0 0 (xM M r rk t ik S (b, nI k, J) fi) (some (.int (s_feed x j b (nI k)).2)) 54 (xM M r rk t ik S ((s_feed x j b (nI k)).1, (s_feed x j b (nI k)).2, J) fi) := by
  intro j
  induction j with
  | zero =>
    intro k b q hq hk
    refine fr_iload_n (pc := 36) rfl dX4_feed_36 ?_
    refine fr_if_lt (pc := 37) 63 (by decide) dX4_feed_37 (fun h37 => ?_) (fun h37 => ?_)
    · refine fr_aload_n (pc := 63) rfl dX4_feed_63 ?_
      refine fr_get (pc := 64) (ci := 3) (T := TX4) (k0 := 5) rfl hin_X4 (by decide) fl_X4_36 (by decide) x_0 rfl dX4_feed_64 ?_
      refine fr_get (pc := 67) (ci := 2) (T := TX3) (k0 := 1) rfl hin_X3 (by decide) fl_X4_214 (by decide) x_39 rfl dX4_feed_67 ?_
      exact fr_ireturn (pc := 70) rfl rfl rfl rfl dX4_feed_70
    · exact absurd (by rw [hq]; decide) h37
  | succ j ih =>
    intro k b q hq hk
    rw [nI_pred] at hq
    subst hq
    have ek : (nI k).toNatClampNeg = k := nI_clamp (by omega)
    refine fr_iload_n (pc := 36) rfl dX4_feed_36 ?_
    refine fr_if_lt (pc := 37) 63 (by decide) dX4_feed_37 (fun h37 => ?_) (fun h37 => ?_)
    · exact absurd h37 (nI_pos (by omega))
    · refine fr_aload_n (pc := 40) rfl dX4_feed_40 ?_
      refine fr_get (pc := 41) (ci := 3) (T := TX4) (k0 := 5) rfl hin_X4 (by decide) fl_X4_36 (by decide) x_0 rfl dX4_feed_41 ?_
      refine fr_iload_n (pc := 44) rfl dX4_feed_44 ?_
      refine fr_bipush (pc := 45) (v := 8) rfl dX4_feed_45 ?_
      refine fr_iload_n (pc := 47) rfl dX4_feed_47 ?_
      refine fr_imul (pc := 48) dX4_feed_48 ?_
      refine fr_iushr (pc := 49) dX4_feed_49 ?_
      refine fr_sipush (pc := 50) (v := 255) rfl dX4_feed_50 ?_
      refine fr_iand (pc := 53) dX4_feed_53 ?_
      refine fr_nm (fun y e_y => ?_)
      refine fr_callV0 (pc := 54) (ci := 2) (T := TX3) (N := 6) [.int y] [] (c_X3_add (by omega)) gc_X4_212 rfl rfl ⟨rfl, rfl, by decide, by decide⟩ (Nat.le_of_ble_eq_true rfl) rfl (by decide) x_39 ⟨by decide, by decide⟩ dX4_feed_54 ?_
      refine fr_iinc (pc := 57) (v := nI j - 1) [(3, .int (nI j - 1)), (0, .ref 0), (1, .int x), (2, .int n)] rfl (by rw [show Int32.ofInt (-1) = (-1 : Int32) from by decide]; exact (Int32.sub_eq_add_neg _ _).symm) (by decide) rfl dX4_feed_57 ?_
      refine fr_goto (pc := 60) 36 (by decide) dX4_feed_60 ?_
      rw [s_feed, ek, ← e_y, nI_1]
      exact fr_sub [1, 2, 3, 0] rfl (ih (k + 1) (upd b k y) _ rfl (by omega))
set_option maxRecDepth 100000 in
theorem x_feed {Γ : aG} {l : Launch} {M : Nat → aC} {r rk t : rT} {ik : Int32} {S : sT} {b : Nat → Int32} {ln : Int32} {J : Int32 × Int32 × Int32 × Int32} {fi : Nat → Int32} {x n : Int32} (hl : okv ln 121)  : Ev Γ l mX4_feed [.ref 0, .int x, .int n] 54 (xM M r rk t ik S (b, ln, J) fi) (some (.int (sp_feed (r, rk, ik, S, b, ln, fi) x n).1)) 54 (xF M t J (sp_feed (r, rk, ik, S, b, ln, fi) x n).2) := by
  refine Ev.of [(0, .ref 0), (1, .int x), (2, .int n)] (by decide) (Nat.le_of_ble_eq_true rfl) rfl ?_
  refine fr_iload_n (pc := 0) rfl dX4_feed_0 ?_
  refine fr_iconst (pc := 1) (v := 1) rfl dX4_feed_1 ?_
  refine fr_iconst (pc := 2) (v := 4) rfl dX4_feed_2 ?_
  refine fr_callS0 (pc := 3) [.int n, .int 1, .int 4] [] (c_X4_within) gc_X4_44 rfl rfl ⟨rfl, rfl, by decide, by decide⟩ (Nat.le_of_ble_eq_true rfl) ⟨by decide, by decide⟩ dX4_feed_3 ?_
  refine fr_if_ne (pc := 6) 15 (by decide) dX4_feed_6 (fun h6 => ?_) (fun h6 => ?_)
  · have g6 := bI_n0 h6
    obtain ⟨i1, hi1, rfl⟩ := wi_1 (N := 4) g6 rfl
    have ei1 : (nI i1).toNatClampNeg = i1 := nI_clamp (by omega)
    refine fr_aload_n (pc := 15) rfl dX4_feed_15 ?_
    refine fr_get (pc := 16) (ci := 3) (T := TX4) (k0 := 5) rfl hin_X4 (by decide) fl_X4_36 (by decide) x_0 rfl dX4_feed_16 ?_
    refine fr_iload_n (pc := 19) rfl dX4_feed_19 ?_
    refine fr_callV0 (pc := 20) (ci := 2) (T := TX3) (N := 6) [.int (nI i1)] [] (c_X3_hasRoomFor) gc_X4_209 rfl rfl ⟨rfl, rfl, by decide, by decide⟩ (Nat.le_of_ble_eq_true rfl) rfl (by decide) x_39 ⟨by decide, by decide⟩ dX4_feed_20 ?_
    refine fr_if_ne (pc := 23) 32 (by decide) dX4_feed_23 (fun h23 => ?_) (fun h23 => ?_)
    · have g23 := bI_n0 h23
      obtain ⟨k9, hk9⟩ : ∃ k9, k9 = ln.toNatClampNeg := ⟨_, rfl⟩
      obtain ⟨el, ll⟩ := hl
      rw [← hk9] at el ll
      clear hk9
      subst el
      have hle : k9 + i1 ≤ 120 := by
        have z := g23
        rw [show (120 : Int32) = nI 120 from rfl, pk_sub (by omega)] at z
        rcases Nat.lt_or_ge (120 - k9) i1 with y | y
        · exact absurd (nI_lt y (by omega)) z
        · omega
      refine fr_iload_n (pc := 32) rfl dX4_feed_32 ?_
      refine fr_iconst (pc := 33) (v := 1) rfl dX4_feed_33 ?_
      refine fr_isub (pc := 34) dX4_feed_34 ?_
      refine fr_nm (fun x3_35 e_x3_35 => ?_)
      refine fr_istore_n (pc := 35) [(3, .int x3_35), (0, .ref 0), (1, .int x), (2, .int (nI i1))] (by decide) rfl dX4_feed_35 ?_
      rw [show sp_feed (r, rk, ik, S, b, nI k9, fi) x (nI i1) = ((s_feed x i1 b (nI k9)).2, (r, rk, ik, S, (s_feed x i1 b (nI k9)).1, (s_feed x i1 b (nI k9)).2, fi)) from by simp only [sp_feed, g6, g23, ei1, if_true, if_false, not_true_eq_false, not_false_eq_true, or_true, true_or, or_false, false_or, and_true, true_and, and_false, false_and, or_self, and_self, eq_self]]
      exact fr_sub [1, 2, 3, 0] rfl (fd_loop i1 k9 b _ e_x3_35 (by omega))
    · have g23 := bI_0.mp h23
      rw [Decidable.not_not] at g23
      refine fr_aload_n (pc := 26) rfl dX4_feed_26 ?_
      refine fr_iconst (pc := 27) (v := 1) rfl dX4_feed_27 ?_
      refine fr_callV0 (pc := 28) (ci := 3) (T := TX4) (N := 7) [.int 1] [] (c_X4_found (k := 1) (by decide)) gc_X4_51 rfl rfl ⟨rfl, rfl, by decide, by decide⟩ (Nat.le_of_ble_eq_true rfl) rfl (by decide) x_0 ⟨by decide, by decide⟩ dX4_feed_28 ?_
      exact fr_ireturn (pc := 31) rfl (by simp only [sp_feed, fb, sr, sG, xF, g6, ei1, g23, if_true, if_false, not_true_eq_false, not_false_eq_true, or_true, true_or, or_false, false_or, and_true, true_and, and_false, false_and, or_self, and_self, eq_self] <;> rfl) (by simp only [sp_feed, fb, sr, sG, xF, g6, ei1, g23, if_true, if_false, not_true_eq_false, not_false_eq_true, or_true, true_or, or_false, false_or, and_true, true_and, and_false, false_and, or_self, and_self, eq_self] <;> rfl) rfl dX4_feed_31
  · have g6 := bI_0.mp h6
    refine fr_aload_n (pc := 9) rfl dX4_feed_9 ?_
    refine fr_iconst (pc := 10) (v := 0) rfl dX4_feed_10 ?_
    refine fr_callV0 (pc := 11) (ci := 3) (T := TX4) (N := 7) [.int 0] [] (c_X4_found (k := 0) (by decide)) gc_X4_51 rfl rfl ⟨rfl, rfl, by decide, by decide⟩ (Nat.le_of_ble_eq_true rfl) rfl (by decide) x_0 ⟨by decide, by decide⟩ dX4_feed_11 ?_
    exact fr_ireturn (pc := 14) rfl (by simp only [sp_feed, fb, sr, sG, xF, g6, if_true, if_false, not_true_eq_false, not_false_eq_true, or_true, true_or, or_false, false_or, and_true, true_and, and_false, false_and, or_self, and_self, eq_self] <;> rfl) (by simp only [sp_feed, fb, sr, sG, xF, g6, if_true, if_false, not_true_eq_false, not_false_eq_true, or_true, true_or, or_false, false_or, and_true, true_and, and_false, false_and, or_self, and_self, eq_self] <;> rfl) rfl dX4_feed_14
