theorem kt_4 {b : Nat → Int32} {T : tk} : ∀ (j k : Nat), ¬ s_kt b T j k < 0 → ¬ T.2.2.1 = 4 := by
  intro j
  induction j with
  | zero => intro k h; exact absurd (show (-1 : Int32) < 0 by decide) h
  | succ j ih =>
    intro k h
    rw [s_kt] at h
    split at h
    · rename_i q; rw [(is_1 q).1]; decide
    · exact ih (k + 1) h
set_option maxRecDepth 100000 in
theorem ri_38 {Γ : aG} {l : Launch} {M : Nat → aC} {r : rT} {kr ar : Nat → Int32} {ik : Int32} {fi b : Nat → Int32} {L : Nat} {S : sT} {it mv : Nat → Int32} {T : tk} (hL : L ≤ 120) (hb : wb b L) (hT : tw L T) {t : rT} {n : Nat} (hn : n < 120) (w : wf t) (hI : iS it r n t) : ∃ (it' : Nat → Int32) (im' gt' : Int32), Fr Γ l mX5_readItem 38 [(0, .ref 42), (1, .int (s_kt b T 7 0))] [] 54 0 0 (yM M r kr ar ik fi b (nI L) S it mv (nI T.1, nI (mE T), nI (mS T), T.2.2.2, 0, (nI n), (nI (cnt t)))) none 54 (yM M r kr ar ik fi b (nI L) S it' mv (nI (p_item b (nxM b L) T t).2.1.1, nI (mE (p_item b (nxM b L) T t).2.1), nI (mS (p_item b (nxM b L) T t).2.1), (p_item b (nxM b L) T t).2.1.2.2.2, (bW (p_item b (nxM b L) T t).1), im', gt')) ∧ iR it' im' gt' r n (p_item b (nxM b L) T t) := by
  by_cases h0 : s_kt b T 7 0 < 0
  · by_cases w1 : tk_is b T (a_ss 10).2.2.2 = true
    · skip
      rw [show (p_item b (nxM b L) T t) = p_pair (nxM b L) 0 16 0 40 T t from (if_pos h0).trans (if_pos w1)]
      by_cases n1 : tk_num (nxM b L T) 0 (nI 16 - 1) = true
      · by_cases n2 : tk_num (nxM b L (nxM b L T)) 0 40 = true
        · have ho := tk_nI (by decide) n1
          rw [show p_pair (nxM b L) 0 16 0 40 T t = (true, (nxM b L (nxM b L (nxM b L T))), u2 t 0 (nxM b L T).2.2.2.toNatClampNeg (nxM b L (nxM b L T)).2.2.2) from (if_pos n1).trans (if_pos n2)]
          refine ⟨add4 it n 10 (nxM b L T).2.2.2 (nxM b L (nxM b L T)).2.2.2 0, nI (n + 1), nI (cnt t), ?_, fun _ => ⟨rfl, rfl, iS_c hI ho⟩⟩
          refine fr_iload_n (pc := 38) rfl dX5_readItem_38 ?_
          refine fr_if_lt (pc := 39) 50 (by decide) dX5_readItem_39 (fun h39 => ?_) (fun h39 => ?_)
          · refine fr_aload_n (pc := 50) rfl dX5_readItem_50 ?_
            refine fr_ldcwS (pc := 51) (k0 := 23) (by decide) rfl rfl dX5_readItem_51 ?_
            refine fr_callV0 (pc := 54) (ci := 4) (T := TX5) (N := 20) [.ref 2023] [] (c_tkw_t hL hb hT (k0 := 23) (by decide) w1) gc_X5_267 rfl rfl ⟨rfl, rfl, by decide, by decide⟩ (Nat.le_of_ble_eq_true rfl) rfl (by decide) y_42 ⟨by decide, by decide⟩ dX5_readItem_54 ?_
            refine fr_if_eq (pc := 57) 86 (by decide) dX5_readItem_57 (fun h57 => ?_) (fun h57 => ?_)
            · exact absurd h57 (by decide)
            · refine fr_aload_n (pc := 60) rfl dX5_readItem_60 ?_
              refine fr_iconst (pc := 61) (v := 0) rfl dX5_readItem_61 ?_
              refine fr_bipush (pc := 62) (v := 15) rfl dX5_readItem_62 ?_
              refine fr_callV0 (pc := 64) (ci := 4) (T := TX5) (N := 20) [.int 0, .int 15] [] (c_num_t hL hb (twM hT) n1) gc_X5_270 rfl rfl ⟨rfl, rfl, by decide, by decide⟩ (Nat.le_of_ble_eq_true rfl) rfl (by decide) y_42 ⟨by decide, by decide⟩ dX5_readItem_64 ?_
              refine fr_nm (fun x2_67 e_x2_67 => ?_)
              refine fr_istore_n (pc := 67) [(2, .int x2_67), (0, .ref 42), (1, .int (s_kt b T 7 0))] (by decide) rfl dX5_readItem_67 ?_
              subst e_x2_67
              refine fr_aload_n (pc := 68) rfl dX5_readItem_68 ?_
              refine fr_bipush (pc := 69) (v := 10) rfl dX5_readItem_69 ?_
              refine fr_iload_n (pc := 71) rfl dX5_readItem_71 ?_
              refine fr_aload_n (pc := 72) rfl dX5_readItem_72 ?_
              refine fr_iconst (pc := 73) (v := 0) rfl dX5_readItem_73 ?_
              refine fr_bipush (pc := 74) (v := 40) rfl dX5_readItem_74 ?_
              refine fr_callV0 (pc := 76) (ci := 4) (T := TX5) (N := 20) [.int 0, .int 40] [.int ((nxM b L T).2.2.2), .int 10, .ref 42] (c_num_t hL hb (twM (twM hT)) n2) gc_X5_270 rfl rfl ⟨rfl, rfl, by decide, by decide⟩ (Nat.le_of_ble_eq_true rfl) rfl (by decide) y_42 ⟨by decide, by decide⟩ dX5_readItem_76 ?_
              refine fr_iconst (pc := 79) (v := 0) rfl dX5_readItem_79 ?_
              refine fr_callV0 (pc := 80) (ci := 4) (T := TX5) (N := 20) [.int 10, .int ((nxM b L T).2.2.2), .int (nxM b L (nxM b L T)).2.2.2, .int 0] [] (c_addItem (n := n) (by omega)) gc_X5_277 rfl rfl ⟨rfl, rfl, by decide, by decide⟩ (Nat.le_of_ble_eq_true rfl) rfl (by decide) y_42 ⟨by decide, by decide⟩ dX5_readItem_80 ?_
              refine fr_goto (pc := 83) 156 (by decide) dX5_readItem_83 ?_
              exact fr_return (pc := 156) rfl rfl dX5_readItem_156
          · exact absurd h0 h39
        · rw [show p_pair (nxM b L) 0 16 0 40 T t = (false, (nxM b L (nxM b L T)), t) from (if_pos n1).trans (if_neg n2)]
          refine ⟨add4 it n 10 (nxM b L T).2.2.2 (nxM b L (nxM b L T)).2.2.2 0, nI (n + 1), nI (cnt t), ?_, fun z => absurd (show false = true from z) (by decide)⟩
          refine fr_iload_n (pc := 38) rfl dX5_readItem_38 ?_
          refine fr_if_lt (pc := 39) 50 (by decide) dX5_readItem_39 (fun h39 => ?_) (fun h39 => ?_)
          · refine fr_aload_n (pc := 50) rfl dX5_readItem_50 ?_
            refine fr_ldcwS (pc := 51) (k0 := 23) (by decide) rfl rfl dX5_readItem_51 ?_
            refine fr_callV0 (pc := 54) (ci := 4) (T := TX5) (N := 20) [.ref 2023] [] (c_tkw_t hL hb hT (k0 := 23) (by decide) w1) gc_X5_267 rfl rfl ⟨rfl, rfl, by decide, by decide⟩ (Nat.le_of_ble_eq_true rfl) rfl (by decide) y_42 ⟨by decide, by decide⟩ dX5_readItem_54 ?_
            refine fr_if_eq (pc := 57) 86 (by decide) dX5_readItem_57 (fun h57 => ?_) (fun h57 => ?_)
            · exact absurd h57 (by decide)
            · refine fr_aload_n (pc := 60) rfl dX5_readItem_60 ?_
              refine fr_iconst (pc := 61) (v := 0) rfl dX5_readItem_61 ?_
              refine fr_bipush (pc := 62) (v := 15) rfl dX5_readItem_62 ?_
              refine fr_callV0 (pc := 64) (ci := 4) (T := TX5) (N := 20) [.int 0, .int 15] [] (c_num_t hL hb (twM hT) n1) gc_X5_270 rfl rfl ⟨rfl, rfl, by decide, by decide⟩ (Nat.le_of_ble_eq_true rfl) rfl (by decide) y_42 ⟨by decide, by decide⟩ dX5_readItem_64 ?_
              refine fr_nm (fun x2_67 e_x2_67 => ?_)
              refine fr_istore_n (pc := 67) [(2, .int x2_67), (0, .ref 42), (1, .int (s_kt b T 7 0))] (by decide) rfl dX5_readItem_67 ?_
              subst e_x2_67
              refine fr_aload_n (pc := 68) rfl dX5_readItem_68 ?_
              refine fr_bipush (pc := 69) (v := 10) rfl dX5_readItem_69 ?_
              refine fr_iload_n (pc := 71) rfl dX5_readItem_71 ?_
              refine fr_aload_n (pc := 72) rfl dX5_readItem_72 ?_
              refine fr_iconst (pc := 73) (v := 0) rfl dX5_readItem_73 ?_
              refine fr_bipush (pc := 74) (v := 40) rfl dX5_readItem_74 ?_
              refine fr_callV0 (pc := 76) (ci := 4) (T := TX5) (N := 20) [.int 0, .int 40] [.int ((nxM b L T).2.2.2), .int 10, .ref 42] (c_num_f hL hb (twM (twM hT)) n2) gc_X5_270 rfl rfl ⟨rfl, rfl, by decide, by decide⟩ (Nat.le_of_ble_eq_true rfl) rfl (by decide) y_42 ⟨by decide, by decide⟩ dX5_readItem_76 ?_
              refine fr_iconst (pc := 79) (v := 0) rfl dX5_readItem_79 ?_
              refine fr_callV0 (pc := 80) (ci := 4) (T := TX5) (N := 20) [.int 10, .int ((nxM b L T).2.2.2), .int (nxM b L (nxM b L T)).2.2.2, .int 0] [] (c_addItem (n := n) (by omega)) gc_X5_277 rfl rfl ⟨rfl, rfl, by decide, by decide⟩ (Nat.le_of_ble_eq_true rfl) rfl (by decide) y_42 ⟨by decide, by decide⟩ dX5_readItem_80 ?_
              refine fr_goto (pc := 83) 156 (by decide) dX5_readItem_83 ?_
              exact fr_return (pc := 156) rfl rfl dX5_readItem_156
          · exact absurd h0 h39
      · rw [show p_pair (nxM b L) 0 16 0 40 T t = (false, (nxM b L T), t) from if_neg n1]
        refine ⟨add4 it n 10 (nxM b L T).2.2.2 (nxM b L T).2.2.2 0, nI (n + 1), nI (cnt t), ?_, fun z => absurd (show false = true from z) (by decide)⟩
        refine fr_iload_n (pc := 38) rfl dX5_readItem_38 ?_
        refine fr_if_lt (pc := 39) 50 (by decide) dX5_readItem_39 (fun h39 => ?_) (fun h39 => ?_)
        · refine fr_aload_n (pc := 50) rfl dX5_readItem_50 ?_
          refine fr_ldcwS (pc := 51) (k0 := 23) (by decide) rfl rfl dX5_readItem_51 ?_
          refine fr_callV0 (pc := 54) (ci := 4) (T := TX5) (N := 20) [.ref 2023] [] (c_tkw_t hL hb hT (k0 := 23) (by decide) w1) gc_X5_267 rfl rfl ⟨rfl, rfl, by decide, by decide⟩ (Nat.le_of_ble_eq_true rfl) rfl (by decide) y_42 ⟨by decide, by decide⟩ dX5_readItem_54 ?_
          refine fr_if_eq (pc := 57) 86 (by decide) dX5_readItem_57 (fun h57 => ?_) (fun h57 => ?_)
          · exact absurd h57 (by decide)
          · refine fr_aload_n (pc := 60) rfl dX5_readItem_60 ?_
            refine fr_iconst (pc := 61) (v := 0) rfl dX5_readItem_61 ?_
            refine fr_bipush (pc := 62) (v := 15) rfl dX5_readItem_62 ?_
            refine fr_callV0 (pc := 64) (ci := 4) (T := TX5) (N := 20) [.int 0, .int 15] [] (c_num_f hL hb (twM hT) n1) gc_X5_270 rfl rfl ⟨rfl, rfl, by decide, by decide⟩ (Nat.le_of_ble_eq_true rfl) rfl (by decide) y_42 ⟨by decide, by decide⟩ dX5_readItem_64 ?_
            refine fr_nm (fun x2_67 e_x2_67 => ?_)
            refine fr_istore_n (pc := 67) [(2, .int x2_67), (0, .ref 42), (1, .int (s_kt b T 7 0))] (by decide) rfl dX5_readItem_67 ?_
            subst e_x2_67
            refine fr_aload_n (pc := 68) rfl dX5_readItem_68 ?_
            refine fr_bipush (pc := 69) (v := 10) rfl dX5_readItem_69 ?_
            refine fr_iload_n (pc := 71) rfl dX5_readItem_71 ?_
            refine fr_aload_n (pc := 72) rfl dX5_readItem_72 ?_
            refine fr_iconst (pc := 73) (v := 0) rfl dX5_readItem_73 ?_
            refine fr_bipush (pc := 74) (v := 40) rfl dX5_readItem_74 ?_
            refine fr_callV0 (pc := 76) (ci := 4) (T := TX5) (N := 20) [.int 0, .int 40] [.int ((nxM b L T).2.2.2), .int 10, .ref 42] (c_num_w) gc_X5_270 rfl rfl ⟨rfl, rfl, by decide, by decide⟩ (Nat.le_of_ble_eq_true rfl) rfl (by decide) y_42 ⟨by decide, by decide⟩ dX5_readItem_76 ?_
            refine fr_iconst (pc := 79) (v := 0) rfl dX5_readItem_79 ?_
            refine fr_callV0 (pc := 80) (ci := 4) (T := TX5) (N := 20) [.int 10, .int ((nxM b L T).2.2.2), .int (nxM b L T).2.2.2, .int 0] [] (c_addItem (n := n) (by omega)) gc_X5_277 rfl rfl ⟨rfl, rfl, by decide, by decide⟩ (Nat.le_of_ble_eq_true rfl) rfl (by decide) y_42 ⟨by decide, by decide⟩ dX5_readItem_80 ?_
            refine fr_goto (pc := 83) 156 (by decide) dX5_readItem_83 ?_
            exact fr_return (pc := 156) rfl rfl dX5_readItem_156
        · exact absurd h0 h39
    · by_cases w2 : tk_is b T (a_ss 11).2.2.2 = true
      · skip
        rw [show (p_item b (nxM b L) T t) = p_pair (nxM b L) 1 6 16 36 T t from (if_pos h0).trans ((if_neg w1).trans (if_pos w2))]
        by_cases n1 : tk_num (nxM b L T) 0 (nI 6 - 1) = true
        · by_cases n2 : tk_num (nxM b L (nxM b L T)) 16 36 = true
          · have ho := tk_nI (by decide) n1
            rw [show p_pair (nxM b L) 1 6 16 36 T t = (true, (nxM b L (nxM b L (nxM b L T))), u2 t 1 (nxM b L T).2.2.2.toNatClampNeg (nxM b L (nxM b L T)).2.2.2) from (if_pos n1).trans (if_pos n2)]
            refine ⟨add4 it n 11 (nxM b L T).2.2.2 (nxM b L (nxM b L T)).2.2.2 0, nI (n + 1), nI (cnt t), ?_, fun _ => ⟨rfl, rfl, iS_m hI ho⟩⟩
            refine fr_iload_n (pc := 38) rfl dX5_readItem_38 ?_
            refine fr_if_lt (pc := 39) 50 (by decide) dX5_readItem_39 (fun h39 => ?_) (fun h39 => ?_)
            · refine fr_aload_n (pc := 50) rfl dX5_readItem_50 ?_
              refine fr_ldcwS (pc := 51) (k0 := 23) (by decide) rfl rfl dX5_readItem_51 ?_
              refine fr_callV0 (pc := 54) (ci := 4) (T := TX5) (N := 20) [.ref 2023] [] (c_tkw_f hL hT (k0 := 23) (by decide) w1) gc_X5_267 rfl rfl ⟨rfl, rfl, by decide, by decide⟩ (Nat.le_of_ble_eq_true rfl) rfl (by decide) y_42 ⟨by decide, by decide⟩ dX5_readItem_54 ?_
              refine fr_if_eq (pc := 57) 86 (by decide) dX5_readItem_57 (fun h57 => ?_) (fun h57 => ?_)
              · refine fr_aload_n (pc := 86) rfl dX5_readItem_86 ?_
                refine fr_ldcwS (pc := 87) (k0 := 24) (by decide) rfl rfl dX5_readItem_87 ?_
                refine fr_callV0 (pc := 90) (ci := 4) (T := TX5) (N := 20) [.ref 2024] [] (c_tkw_t hL hb hT (k0 := 24) (by decide) w2) gc_X5_267 rfl rfl ⟨rfl, rfl, by decide, by decide⟩ (Nat.le_of_ble_eq_true rfl) rfl (by decide) y_42 ⟨by decide, by decide⟩ dX5_readItem_90 ?_
                refine fr_if_eq (pc := 93) 122 (by decide) dX5_readItem_93 (fun h93 => ?_) (fun h93 => ?_)
                · exact absurd h93 (by decide)
                · refine fr_aload_n (pc := 96) rfl dX5_readItem_96 ?_
                  refine fr_iconst (pc := 97) (v := 0) rfl dX5_readItem_97 ?_
                  refine fr_iconst (pc := 98) (v := 5) rfl dX5_readItem_98 ?_
                  refine fr_callV0 (pc := 99) (ci := 4) (T := TX5) (N := 20) [.int 0, .int 5] [] (c_num_t hL hb (twM hT) n1) gc_X5_270 rfl rfl ⟨rfl, rfl, by decide, by decide⟩ (Nat.le_of_ble_eq_true rfl) rfl (by decide) y_42 ⟨by decide, by decide⟩ dX5_readItem_99 ?_
                  refine fr_nm (fun x2_102 e_x2_102 => ?_)
                  refine fr_istore_n (pc := 102) [(2, .int x2_102), (0, .ref 42), (1, .int (s_kt b T 7 0))] (by decide) rfl dX5_readItem_102 ?_
                  subst e_x2_102
                  refine fr_aload_n (pc := 103) rfl dX5_readItem_103 ?_
                  refine fr_bipush (pc := 104) (v := 11) rfl dX5_readItem_104 ?_
                  refine fr_iload_n (pc := 106) rfl dX5_readItem_106 ?_
                  refine fr_aload_n (pc := 107) rfl dX5_readItem_107 ?_
                  refine fr_bipush (pc := 108) (v := 16) rfl dX5_readItem_108 ?_
                  refine fr_bipush (pc := 110) (v := 36) rfl dX5_readItem_110 ?_
                  refine fr_callV0 (pc := 112) (ci := 4) (T := TX5) (N := 20) [.int 16, .int 36] [.int ((nxM b L T).2.2.2), .int 11, .ref 42] (c_num_t hL hb (twM (twM hT)) n2) gc_X5_270 rfl rfl ⟨rfl, rfl, by decide, by decide⟩ (Nat.le_of_ble_eq_true rfl) rfl (by decide) y_42 ⟨by decide, by decide⟩ dX5_readItem_112 ?_
                  refine fr_iconst (pc := 115) (v := 0) rfl dX5_readItem_115 ?_
                  refine fr_callV0 (pc := 116) (ci := 4) (T := TX5) (N := 20) [.int 11, .int ((nxM b L T).2.2.2), .int (nxM b L (nxM b L T)).2.2.2, .int 0] [] (c_addItem (n := n) (by omega)) gc_X5_277 rfl rfl ⟨rfl, rfl, by decide, by decide⟩ (Nat.le_of_ble_eq_true rfl) rfl (by decide) y_42 ⟨by decide, by decide⟩ dX5_readItem_116 ?_
                  refine fr_goto (pc := 119) 156 (by decide) dX5_readItem_119 ?_
                  exact fr_return (pc := 156) rfl rfl dX5_readItem_156
              · exact absurd rfl h57
            · exact absurd h0 h39
          · rw [show p_pair (nxM b L) 1 6 16 36 T t = (false, (nxM b L (nxM b L T)), t) from (if_pos n1).trans (if_neg n2)]
            refine ⟨add4 it n 11 (nxM b L T).2.2.2 (nxM b L (nxM b L T)).2.2.2 0, nI (n + 1), nI (cnt t), ?_, fun z => absurd (show false = true from z) (by decide)⟩
            refine fr_iload_n (pc := 38) rfl dX5_readItem_38 ?_
            refine fr_if_lt (pc := 39) 50 (by decide) dX5_readItem_39 (fun h39 => ?_) (fun h39 => ?_)
            · refine fr_aload_n (pc := 50) rfl dX5_readItem_50 ?_
              refine fr_ldcwS (pc := 51) (k0 := 23) (by decide) rfl rfl dX5_readItem_51 ?_
              refine fr_callV0 (pc := 54) (ci := 4) (T := TX5) (N := 20) [.ref 2023] [] (c_tkw_f hL hT (k0 := 23) (by decide) w1) gc_X5_267 rfl rfl ⟨rfl, rfl, by decide, by decide⟩ (Nat.le_of_ble_eq_true rfl) rfl (by decide) y_42 ⟨by decide, by decide⟩ dX5_readItem_54 ?_
              refine fr_if_eq (pc := 57) 86 (by decide) dX5_readItem_57 (fun h57 => ?_) (fun h57 => ?_)
              · refine fr_aload_n (pc := 86) rfl dX5_readItem_86 ?_
                refine fr_ldcwS (pc := 87) (k0 := 24) (by decide) rfl rfl dX5_readItem_87 ?_
                refine fr_callV0 (pc := 90) (ci := 4) (T := TX5) (N := 20) [.ref 2024] [] (c_tkw_t hL hb hT (k0 := 24) (by decide) w2) gc_X5_267 rfl rfl ⟨rfl, rfl, by decide, by decide⟩ (Nat.le_of_ble_eq_true rfl) rfl (by decide) y_42 ⟨by decide, by decide⟩ dX5_readItem_90 ?_
                refine fr_if_eq (pc := 93) 122 (by decide) dX5_readItem_93 (fun h93 => ?_) (fun h93 => ?_)
                · exact absurd h93 (by decide)
                · refine fr_aload_n (pc := 96) rfl dX5_readItem_96 ?_
                  refine fr_iconst (pc := 97) (v := 0) rfl dX5_readItem_97 ?_
                  refine fr_iconst (pc := 98) (v := 5) rfl dX5_readItem_98 ?_
                  refine fr_callV0 (pc := 99) (ci := 4) (T := TX5) (N := 20) [.int 0, .int 5] [] (c_num_t hL hb (twM hT) n1) gc_X5_270 rfl rfl ⟨rfl, rfl, by decide, by decide⟩ (Nat.le_of_ble_eq_true rfl) rfl (by decide) y_42 ⟨by decide, by decide⟩ dX5_readItem_99 ?_
                  refine fr_nm (fun x2_102 e_x2_102 => ?_)
                  refine fr_istore_n (pc := 102) [(2, .int x2_102), (0, .ref 42), (1, .int (s_kt b T 7 0))] (by decide) rfl dX5_readItem_102 ?_
                  subst e_x2_102
                  refine fr_aload_n (pc := 103) rfl dX5_readItem_103 ?_
                  refine fr_bipush (pc := 104) (v := 11) rfl dX5_readItem_104 ?_
                  refine fr_iload_n (pc := 106) rfl dX5_readItem_106 ?_
                  refine fr_aload_n (pc := 107) rfl dX5_readItem_107 ?_
                  refine fr_bipush (pc := 108) (v := 16) rfl dX5_readItem_108 ?_
                  refine fr_bipush (pc := 110) (v := 36) rfl dX5_readItem_110 ?_
                  refine fr_callV0 (pc := 112) (ci := 4) (T := TX5) (N := 20) [.int 16, .int 36] [.int ((nxM b L T).2.2.2), .int 11, .ref 42] (c_num_f hL hb (twM (twM hT)) n2) gc_X5_270 rfl rfl ⟨rfl, rfl, by decide, by decide⟩ (Nat.le_of_ble_eq_true rfl) rfl (by decide) y_42 ⟨by decide, by decide⟩ dX5_readItem_112 ?_
                  refine fr_iconst (pc := 115) (v := 0) rfl dX5_readItem_115 ?_
                  refine fr_callV0 (pc := 116) (ci := 4) (T := TX5) (N := 20) [.int 11, .int ((nxM b L T).2.2.2), .int (nxM b L (nxM b L T)).2.2.2, .int 0] [] (c_addItem (n := n) (by omega)) gc_X5_277 rfl rfl ⟨rfl, rfl, by decide, by decide⟩ (Nat.le_of_ble_eq_true rfl) rfl (by decide) y_42 ⟨by decide, by decide⟩ dX5_readItem_116 ?_
                  refine fr_goto (pc := 119) 156 (by decide) dX5_readItem_119 ?_
                  exact fr_return (pc := 156) rfl rfl dX5_readItem_156
              · exact absurd rfl h57
            · exact absurd h0 h39
        · rw [show p_pair (nxM b L) 1 6 16 36 T t = (false, (nxM b L T), t) from if_neg n1]
          refine ⟨add4 it n 11 (nxM b L T).2.2.2 (nxM b L T).2.2.2 0, nI (n + 1), nI (cnt t), ?_, fun z => absurd (show false = true from z) (by decide)⟩
          refine fr_iload_n (pc := 38) rfl dX5_readItem_38 ?_
          refine fr_if_lt (pc := 39) 50 (by decide) dX5_readItem_39 (fun h39 => ?_) (fun h39 => ?_)
          · refine fr_aload_n (pc := 50) rfl dX5_readItem_50 ?_
            refine fr_ldcwS (pc := 51) (k0 := 23) (by decide) rfl rfl dX5_readItem_51 ?_
            refine fr_callV0 (pc := 54) (ci := 4) (T := TX5) (N := 20) [.ref 2023] [] (c_tkw_f hL hT (k0 := 23) (by decide) w1) gc_X5_267 rfl rfl ⟨rfl, rfl, by decide, by decide⟩ (Nat.le_of_ble_eq_true rfl) rfl (by decide) y_42 ⟨by decide, by decide⟩ dX5_readItem_54 ?_
            refine fr_if_eq (pc := 57) 86 (by decide) dX5_readItem_57 (fun h57 => ?_) (fun h57 => ?_)
            · refine fr_aload_n (pc := 86) rfl dX5_readItem_86 ?_
              refine fr_ldcwS (pc := 87) (k0 := 24) (by decide) rfl rfl dX5_readItem_87 ?_
              refine fr_callV0 (pc := 90) (ci := 4) (T := TX5) (N := 20) [.ref 2024] [] (c_tkw_t hL hb hT (k0 := 24) (by decide) w2) gc_X5_267 rfl rfl ⟨rfl, rfl, by decide, by decide⟩ (Nat.le_of_ble_eq_true rfl) rfl (by decide) y_42 ⟨by decide, by decide⟩ dX5_readItem_90 ?_
              refine fr_if_eq (pc := 93) 122 (by decide) dX5_readItem_93 (fun h93 => ?_) (fun h93 => ?_)
              · exact absurd h93 (by decide)
              · refine fr_aload_n (pc := 96) rfl dX5_readItem_96 ?_
                refine fr_iconst (pc := 97) (v := 0) rfl dX5_readItem_97 ?_
                refine fr_iconst (pc := 98) (v := 5) rfl dX5_readItem_98 ?_
                refine fr_callV0 (pc := 99) (ci := 4) (T := TX5) (N := 20) [.int 0, .int 5] [] (c_num_f hL hb (twM hT) n1) gc_X5_270 rfl rfl ⟨rfl, rfl, by decide, by decide⟩ (Nat.le_of_ble_eq_true rfl) rfl (by decide) y_42 ⟨by decide, by decide⟩ dX5_readItem_99 ?_
                refine fr_nm (fun x2_102 e_x2_102 => ?_)
                refine fr_istore_n (pc := 102) [(2, .int x2_102), (0, .ref 42), (1, .int (s_kt b T 7 0))] (by decide) rfl dX5_readItem_102 ?_
                subst e_x2_102
                refine fr_aload_n (pc := 103) rfl dX5_readItem_103 ?_
                refine fr_bipush (pc := 104) (v := 11) rfl dX5_readItem_104 ?_
                refine fr_iload_n (pc := 106) rfl dX5_readItem_106 ?_
                refine fr_aload_n (pc := 107) rfl dX5_readItem_107 ?_
                refine fr_bipush (pc := 108) (v := 16) rfl dX5_readItem_108 ?_
                refine fr_bipush (pc := 110) (v := 36) rfl dX5_readItem_110 ?_
                refine fr_callV0 (pc := 112) (ci := 4) (T := TX5) (N := 20) [.int 16, .int 36] [.int ((nxM b L T).2.2.2), .int 11, .ref 42] (c_num_w) gc_X5_270 rfl rfl ⟨rfl, rfl, by decide, by decide⟩ (Nat.le_of_ble_eq_true rfl) rfl (by decide) y_42 ⟨by decide, by decide⟩ dX5_readItem_112 ?_
                refine fr_iconst (pc := 115) (v := 0) rfl dX5_readItem_115 ?_
                refine fr_callV0 (pc := 116) (ci := 4) (T := TX5) (N := 20) [.int 11, .int ((nxM b L T).2.2.2), .int (nxM b L T).2.2.2, .int 0] [] (c_addItem (n := n) (by omega)) gc_X5_277 rfl rfl ⟨rfl, rfl, by decide, by decide⟩ (Nat.le_of_ble_eq_true rfl) rfl (by decide) y_42 ⟨by decide, by decide⟩ dX5_readItem_116 ?_
                refine fr_goto (pc := 119) 156 (by decide) dX5_readItem_119 ?_
                exact fr_return (pc := 156) rfl rfl dX5_readItem_156
            · exact absurd rfl h57
          · exact absurd h0 h39
      · by_cases w3 : tk_is b T (a_ss 12).2.2.2 = true
        · by_cases n1 : tk_num (nxM b L T) 0 999 = true
          · rw [show (p_item b (nxM b L) T t) = (true, (nxM b L (nxM b L T)), u2 t 9 3 (nxM b L T).2.2.2) from (if_pos h0).trans ((if_neg w1).trans ((if_neg w2).trans ((if_pos w3).trans (if_pos n1))))]
            refine ⟨add4 it n 12 (nxM b L T).2.2.2 0 0, nI (n + 1), nI (cnt t), ?_, fun _ => ⟨rfl, rfl, iS_k hI⟩⟩
            refine fr_iload_n (pc := 38) rfl dX5_readItem_38 ?_
            refine fr_if_lt (pc := 39) 50 (by decide) dX5_readItem_39 (fun h39 => ?_) (fun h39 => ?_)
            · refine fr_aload_n (pc := 50) rfl dX5_readItem_50 ?_
              refine fr_ldcwS (pc := 51) (k0 := 23) (by decide) rfl rfl dX5_readItem_51 ?_
              refine fr_callV0 (pc := 54) (ci := 4) (T := TX5) (N := 20) [.ref 2023] [] (c_tkw_f hL hT (k0 := 23) (by decide) w1) gc_X5_267 rfl rfl ⟨rfl, rfl, by decide, by decide⟩ (Nat.le_of_ble_eq_true rfl) rfl (by decide) y_42 ⟨by decide, by decide⟩ dX5_readItem_54 ?_
              refine fr_if_eq (pc := 57) 86 (by decide) dX5_readItem_57 (fun h57 => ?_) (fun h57 => ?_)
              · refine fr_aload_n (pc := 86) rfl dX5_readItem_86 ?_
                refine fr_ldcwS (pc := 87) (k0 := 24) (by decide) rfl rfl dX5_readItem_87 ?_
                refine fr_callV0 (pc := 90) (ci := 4) (T := TX5) (N := 20) [.ref 2024] [] (c_tkw_f hL hT (k0 := 24) (by decide) w2) gc_X5_267 rfl rfl ⟨rfl, rfl, by decide, by decide⟩ (Nat.le_of_ble_eq_true rfl) rfl (by decide) y_42 ⟨by decide, by decide⟩ dX5_readItem_90 ?_
                refine fr_if_eq (pc := 93) 122 (by decide) dX5_readItem_93 (fun h93 => ?_) (fun h93 => ?_)
                · refine fr_aload_n (pc := 122) rfl dX5_readItem_122 ?_
                  refine fr_ldcwS (pc := 123) (k0 := 25) (by decide) rfl rfl dX5_readItem_123 ?_
                  refine fr_callV0 (pc := 126) (ci := 4) (T := TX5) (N := 20) [.ref 2025] [] (c_tkw_t hL hb hT (k0 := 25) (by decide) w3) gc_X5_267 rfl rfl ⟨rfl, rfl, by decide, by decide⟩ (Nat.le_of_ble_eq_true rfl) rfl (by decide) y_42 ⟨by decide, by decide⟩ dX5_readItem_126 ?_
                  refine fr_if_eq (pc := 129) 151 (by decide) dX5_readItem_129 (fun h129 => ?_) (fun h129 => ?_)
                  · exact absurd h129 (by decide)
                  · refine fr_aload_n (pc := 132) rfl dX5_readItem_132 ?_
                    refine fr_bipush (pc := 133) (v := 12) rfl dX5_readItem_133 ?_
                    refine fr_aload_n (pc := 135) rfl dX5_readItem_135 ?_
                    refine fr_iconst (pc := 136) (v := 0) rfl dX5_readItem_136 ?_
                    refine fr_sipush (pc := 137) (v := 999) rfl dX5_readItem_137 ?_
                    refine fr_callV0 (pc := 140) (ci := 4) (T := TX5) (N := 20) [.int 0, .int 999] [.int 12, .ref 42] (c_num_t hL hb (twM hT) n1) gc_X5_270 rfl rfl ⟨rfl, rfl, by decide, by decide⟩ (Nat.le_of_ble_eq_true rfl) rfl (by decide) y_42 ⟨by decide, by decide⟩ dX5_readItem_140 ?_
                    refine fr_iconst (pc := 143) (v := 0) rfl dX5_readItem_143 ?_
                    refine fr_iconst (pc := 144) (v := 0) rfl dX5_readItem_144 ?_
                    refine fr_callV0 (pc := 145) (ci := 4) (T := TX5) (N := 20) [.int 12, .int (nxM b L T).2.2.2, .int 0, .int 0] [] (c_addItem (n := n) (by omega)) gc_X5_277 rfl rfl ⟨rfl, rfl, by decide, by decide⟩ (Nat.le_of_ble_eq_true rfl) rfl (by decide) y_42 ⟨by decide, by decide⟩ dX5_readItem_145 ?_
                    refine fr_goto (pc := 148) 156 (by decide) dX5_readItem_148 ?_
                    exact fr_return (pc := 156) rfl rfl dX5_readItem_156
                · exact absurd rfl h93
              · exact absurd rfl h57
            · exact absurd h0 h39
          · rw [show (p_item b (nxM b L) T t) = (false, (nxM b L T), t) from (if_pos h0).trans ((if_neg w1).trans ((if_neg w2).trans ((if_pos w3).trans (if_neg n1))))]
            refine ⟨add4 it n 12 (nxM b L T).2.2.2 0 0, nI (n + 1), nI (cnt t), ?_, fun z => absurd (show false = true from z) (by decide)⟩
            refine fr_iload_n (pc := 38) rfl dX5_readItem_38 ?_
            refine fr_if_lt (pc := 39) 50 (by decide) dX5_readItem_39 (fun h39 => ?_) (fun h39 => ?_)
            · refine fr_aload_n (pc := 50) rfl dX5_readItem_50 ?_
              refine fr_ldcwS (pc := 51) (k0 := 23) (by decide) rfl rfl dX5_readItem_51 ?_
              refine fr_callV0 (pc := 54) (ci := 4) (T := TX5) (N := 20) [.ref 2023] [] (c_tkw_f hL hT (k0 := 23) (by decide) w1) gc_X5_267 rfl rfl ⟨rfl, rfl, by decide, by decide⟩ (Nat.le_of_ble_eq_true rfl) rfl (by decide) y_42 ⟨by decide, by decide⟩ dX5_readItem_54 ?_
              refine fr_if_eq (pc := 57) 86 (by decide) dX5_readItem_57 (fun h57 => ?_) (fun h57 => ?_)
              · refine fr_aload_n (pc := 86) rfl dX5_readItem_86 ?_
                refine fr_ldcwS (pc := 87) (k0 := 24) (by decide) rfl rfl dX5_readItem_87 ?_
                refine fr_callV0 (pc := 90) (ci := 4) (T := TX5) (N := 20) [.ref 2024] [] (c_tkw_f hL hT (k0 := 24) (by decide) w2) gc_X5_267 rfl rfl ⟨rfl, rfl, by decide, by decide⟩ (Nat.le_of_ble_eq_true rfl) rfl (by decide) y_42 ⟨by decide, by decide⟩ dX5_readItem_90 ?_
                refine fr_if_eq (pc := 93) 122 (by decide) dX5_readItem_93 (fun h93 => ?_) (fun h93 => ?_)
                · refine fr_aload_n (pc := 122) rfl dX5_readItem_122 ?_
                  refine fr_ldcwS (pc := 123) (k0 := 25) (by decide) rfl rfl dX5_readItem_123 ?_
                  refine fr_callV0 (pc := 126) (ci := 4) (T := TX5) (N := 20) [.ref 2025] [] (c_tkw_t hL hb hT (k0 := 25) (by decide) w3) gc_X5_267 rfl rfl ⟨rfl, rfl, by decide, by decide⟩ (Nat.le_of_ble_eq_true rfl) rfl (by decide) y_42 ⟨by decide, by decide⟩ dX5_readItem_126 ?_
                  refine fr_if_eq (pc := 129) 151 (by decide) dX5_readItem_129 (fun h129 => ?_) (fun h129 => ?_)
                  · exact absurd h129 (by decide)
                  · refine fr_aload_n (pc := 132) rfl dX5_readItem_132 ?_
                    refine fr_bipush (pc := 133) (v := 12) rfl dX5_readItem_133 ?_
                    refine fr_aload_n (pc := 135) rfl dX5_readItem_135 ?_
                    refine fr_iconst (pc := 136) (v := 0) rfl dX5_readItem_136 ?_
                    refine fr_sipush (pc := 137) (v := 999) rfl dX5_readItem_137 ?_
                    refine fr_callV0 (pc := 140) (ci := 4) (T := TX5) (N := 20) [.int 0, .int 999] [.int 12, .ref 42] (c_num_f hL hb (twM hT) n1) gc_X5_270 rfl rfl ⟨rfl, rfl, by decide, by decide⟩ (Nat.le_of_ble_eq_true rfl) rfl (by decide) y_42 ⟨by decide, by decide⟩ dX5_readItem_140 ?_
                    refine fr_iconst (pc := 143) (v := 0) rfl dX5_readItem_143 ?_
                    refine fr_iconst (pc := 144) (v := 0) rfl dX5_readItem_144 ?_
                    refine fr_callV0 (pc := 145) (ci := 4) (T := TX5) (N := 20) [.int 12, .int (nxM b L T).2.2.2, .int 0, .int 0] [] (c_addItem (n := n) (by omega)) gc_X5_277 rfl rfl ⟨rfl, rfl, by decide, by decide⟩ (Nat.le_of_ble_eq_true rfl) rfl (by decide) y_42 ⟨by decide, by decide⟩ dX5_readItem_145 ?_
                    refine fr_goto (pc := 148) 156 (by decide) dX5_readItem_148 ?_
                    exact fr_return (pc := 156) rfl rfl dX5_readItem_156
                · exact absurd rfl h93
              · exact absurd rfl h57
            · exact absurd h0 h39
        · rw [show (p_item b (nxM b L) T t) = (false, T, t) from (if_pos h0).trans ((if_neg w1).trans ((if_neg w2).trans (if_neg w3)))]
          refine ⟨it, nI n, nI (cnt t), ?_, fun z => absurd (show false = true from z) (by decide)⟩
          refine fr_iload_n (pc := 38) rfl dX5_readItem_38 ?_
          refine fr_if_lt (pc := 39) 50 (by decide) dX5_readItem_39 (fun h39 => ?_) (fun h39 => ?_)
          · refine fr_aload_n (pc := 50) rfl dX5_readItem_50 ?_
            refine fr_ldcwS (pc := 51) (k0 := 23) (by decide) rfl rfl dX5_readItem_51 ?_
            refine fr_callV0 (pc := 54) (ci := 4) (T := TX5) (N := 20) [.ref 2023] [] (c_tkw_f hL hT (k0 := 23) (by decide) w1) gc_X5_267 rfl rfl ⟨rfl, rfl, by decide, by decide⟩ (Nat.le_of_ble_eq_true rfl) rfl (by decide) y_42 ⟨by decide, by decide⟩ dX5_readItem_54 ?_
            refine fr_if_eq (pc := 57) 86 (by decide) dX5_readItem_57 (fun h57 => ?_) (fun h57 => ?_)
            · refine fr_aload_n (pc := 86) rfl dX5_readItem_86 ?_
              refine fr_ldcwS (pc := 87) (k0 := 24) (by decide) rfl rfl dX5_readItem_87 ?_
              refine fr_callV0 (pc := 90) (ci := 4) (T := TX5) (N := 20) [.ref 2024] [] (c_tkw_f hL hT (k0 := 24) (by decide) w2) gc_X5_267 rfl rfl ⟨rfl, rfl, by decide, by decide⟩ (Nat.le_of_ble_eq_true rfl) rfl (by decide) y_42 ⟨by decide, by decide⟩ dX5_readItem_90 ?_
              refine fr_if_eq (pc := 93) 122 (by decide) dX5_readItem_93 (fun h93 => ?_) (fun h93 => ?_)
              · refine fr_aload_n (pc := 122) rfl dX5_readItem_122 ?_
                refine fr_ldcwS (pc := 123) (k0 := 25) (by decide) rfl rfl dX5_readItem_123 ?_
                refine fr_callV0 (pc := 126) (ci := 4) (T := TX5) (N := 20) [.ref 2025] [] (c_tkw_f hL hT (k0 := 25) (by decide) w3) gc_X5_267 rfl rfl ⟨rfl, rfl, by decide, by decide⟩ (Nat.le_of_ble_eq_true rfl) rfl (by decide) y_42 ⟨by decide, by decide⟩ dX5_readItem_126 ?_
                refine fr_if_eq (pc := 129) 151 (by decide) dX5_readItem_129 (fun h129 => ?_) (fun h129 => ?_)
                · refine fr_aload_n (pc := 151) rfl dX5_readItem_151 ?_
                  refine fr_iconst (pc := 152) (v := 0) rfl dX5_readItem_152 ?_
                  refine fr_callV0 (pc := 153) (ci := 4) (T := TX5) (N := 20) [.int 0] [] (c_must_f) gc_X5_251 rfl rfl ⟨rfl, rfl, by decide, by decide⟩ (Nat.le_of_ble_eq_true rfl) rfl (by decide) y_42 ⟨by decide, by decide⟩ dX5_readItem_153 ?_
                  exact fr_return (pc := 156) rfl rfl dX5_readItem_156
                · exact absurd rfl h129
              · exact absurd rfl h93
            · exact absurd rfl h57
          · exact absurd h0 h39
  · rw [show (p_item b (nxM b L) T t) = p_guest b (nxM b L) (s_kt b T 7 0) T t from if_neg h0]
    have h4 : ¬ T.2.2.1 = 4 := kt_4 7 0 h0
    obtain ⟨it', im', gt', ht, hr⟩ := c_rGuest (Γ := Γ) (l := l) (M := M) (r := r) (kr := kr) (ar := ar) (ik := ik) (fi := fi) (S := S) (mv := mv) hL hb hT hn w (kt_ok 7 0 rfl h0) hI h4
    refine ⟨it', im', gt', ?_, hr⟩
    refine fr_iload_n (pc := 38) rfl dX5_readItem_38 ?_
    refine fr_if_lt (pc := 39) 50 (by decide) dX5_readItem_39 (fun h39 => ?_) (fun h39 => ?_)
    · exact absurd h39 h0
    · refine fr_aload_n (pc := 42) rfl dX5_readItem_42 ?_
      refine fr_iload_n (pc := 43) rfl dX5_readItem_43 ?_
      refine fr_callV0 (pc := 44) (ci := 4) (T := TX5) (N := 20) [.int (s_kt b T 7 0)] [] (ht) gc_X5_281 rfl rfl ⟨rfl, rfl, by decide, by decide⟩ (Nat.le_of_ble_eq_true rfl) rfl (by decide) y_42 ⟨by decide, by decide⟩ dX5_readItem_44 ?_
      refine fr_goto (pc := 47) 156 (by decide) dX5_readItem_47 ?_
      exact fr_return (pc := 156) rfl rfl dX5_readItem_156
theorem c_kWord {Γ : aG} {l : Launch} {M : Nat → aC} {r : rT} {kr ar : Nat → Int32} {ik : Int32} {fi b : Nat → Int32} {L : Nat} {S : sT} {it mv : Nat → Int32} {T : tk} {wr im gt : Int32} (hL : L ≤ 120) (hT : tw L T) {i : Nat} (hi : i < 7) : Ev Γ l mX5_isWord [.ref 42, .ref (2013 + i)] 54 (yM M r kr ar ik fi b (nI L) S it mv (nI T.1, nI (mE T), nI (mS T), T.2.2.2, wr, im, gt)) (some (.int (bI (tk_is b T (wd i) = true)))) 54 (yM M r kr ar ik fi b (nI L) S it mv (nI T.1, nI (mE T), nI (mS T), T.2.2.2, wr, im, gt)) := by
  have q := c_jWord (Γ := Γ) (l := l) (M := M) (r := r) (kr := kr) (ar := ar) (ik := ik) (fi := fi) (b := b) (S := S) (it := it) (mv := mv) (wr := wr) (im := im) (gt := gt) hL hT (k0 := 13 + i) (by omega)
  rw [wd_m i hi, show 2000 + (13 + i) = 2013 + i by omega] at q
  exact q
set_option maxRecDepth 100000 in
theorem ri_4 {Γ : aG} {l : Launch} {M : Nat → aC} {r : rT} {kr ar : Nat → Int32} {ik : Int32} {fi b : Nat → Int32} {L : Nat} {S : sT} {it mv : Nat → Int32} {T : tk} {im gt : Int32} {R : Nat → aC} (hL : L ≤ 120) (hT : tw L T) : ∀ (j i : Nat) (x : Int32), i + j = 7 → Fr Γ l mX5_readItem 38 [(0, .ref 42), (1, .int (m_kt b T j i x))] [] 54 0 0 (yM M r kr ar ik fi b (nI L) S it mv (nI T.1, nI (mE T), nI (mS T), T.2.2.2, 0, im, gt)) none 54 R → Fr Γ l mX5_readItem 4 [(0, .ref 42), (1, .int x), (2, .int (nI i))] [] 54 0 0 (yM M r kr ar ik fi b (nI L) S it mv (nI T.1, nI (mE T), nI (mS T), T.2.2.2, 0, im, gt)) none 54 R := by
  intro j
  induction j with
  | zero =>
    intro i x hi H
    refine fr_iload_n (pc := 4) rfl dX5_readItem_4 ?_
    refine fr_aload_n (pc := 5) rfl dX5_readItem_5 ?_
    refine fr_get (pc := 6) (ci := 4) (T := TX5) (k0 := 12) rfl hin_X5 (by decide) fl_X5_41 (by decide) y_42 rfl dX5_readItem_6 ?_
    refine fr_alenR (pc := 9) (t0 := 2) (by decide) y_48 dX5_readItem_9 ?_
    refine fr_icmp_ge (pc := 10) 38 (by decide) dX5_readItem_10 (fun h10 => ?_) (fun h10 => ?_)
    · exact fr_sub [0, 1] rfl (H)
    · exact absurd (nI_le (a := 7) (b := i) (by omega) (by omega)) h10
  | succ j ih =>
    intro i x hi H
    rw [m_kt] at H
    refine fr_iload_n (pc := 4) rfl dX5_readItem_4 ?_
    refine fr_aload_n (pc := 5) rfl dX5_readItem_5 ?_
    refine fr_get (pc := 6) (ci := 4) (T := TX5) (k0 := 12) rfl hin_X5 (by decide) fl_X5_41 (by decide) y_42 rfl dX5_readItem_6 ?_
    refine fr_alenR (pc := 9) (t0 := 2) (by decide) y_48 dX5_readItem_9 ?_
    refine fr_icmp_ge (pc := 10) 38 (by decide) dX5_readItem_10 (fun h10 => ?_) (fun h10 => ?_)
    · exact absurd h10 (nI_ge (a := i) (b := 7) (by omega) (by omega))
    · refine fr_aload_n (pc := 13) rfl dX5_readItem_13 ?_
      refine fr_aload_n (pc := 14) rfl dX5_readItem_14 ?_
      refine fr_get (pc := 15) (ci := 4) (T := TX5) (k0 := 12) rfl hin_X5 (by decide) fl_X5_41 (by decide) y_42 rfl dX5_readItem_15 ?_
      refine fr_iload_n (pc := 18) rfl dX5_readItem_18 ?_
      refine fr_aald (pc := 19) i rfl (by decide) y_48 (by first | assumption | omega) (by decide) rfl dX5_readItem_19 ?_
      refine fr_callV0 (pc := 20) (ci := 4) (T := TX5) (N := 20) [.ref (2013 + i)] [] (c_kWord hL hT (i := i) (by omega)) gc_X5_258 rfl rfl ⟨rfl, rfl, by decide, by decide⟩ (Nat.le_of_ble_eq_true rfl) rfl (by decide) y_42 ⟨by decide, by decide⟩ dX5_readItem_20 ?_
      refine fr_if_eq (pc := 23) 30 (by decide) dX5_readItem_23 (fun h23 => ?_) (fun h23 => ?_)
      · have g23 := bI_0.mp h23
        refine fr_iload_n (pc := 30) rfl dX5_readItem_30 ?_
        refine fr_istore_n (pc := 31) [(1, .int x), (0, .ref 42), (2, .int (nI i))] (by decide) rfl dX5_readItem_31 ?_
        refine fr_iinc (pc := 32) (v := nI (i + 1)) [(2, .int (nI (i + 1))), (1, .int x), (0, .ref 42)] rfl (nI_1 i) (by decide) rfl dX5_readItem_32 ?_
        refine fr_goto (pc := 35) 4 (by decide) dX5_readItem_35 ?_
        rw [if_neg g23] at H
        exact fr_sub [2, 1, 0] rfl (ih (i + 1) x (by omega) H)
      · have g23 := bI_n0 h23
        refine fr_iload_n (pc := 26) rfl dX5_readItem_26 ?_
        refine fr_goto (pc := 27) 31 (by decide) dX5_readItem_27 ?_
        refine fr_istore_n (pc := 31) [(1, .int (nI i)), (0, .ref 42), (2, .int (nI i))] (by decide) rfl dX5_readItem_31 ?_
        refine fr_iinc (pc := 32) (v := nI (i + 1)) [(2, .int (nI (i + 1))), (1, .int (nI i)), (0, .ref 42)] rfl (nI_1 i) (by decide) rfl dX5_readItem_32 ?_
        refine fr_goto (pc := 35) 4 (by decide) dX5_readItem_35 ?_
        rw [if_pos g23] at H
        exact fr_sub [2, 1, 0] rfl (ih (i + 1) (nI i) (by omega) H)
set_option maxRecDepth 100000 in
theorem c_rItem {Γ : aG} {l : Launch} {M : Nat → aC} {r : rT} {kr ar : Nat → Int32} {ik : Int32} {fi b : Nat → Int32} {L : Nat} {S : sT} {it mv : Nat → Int32} {T : tk} (hL : L ≤ 120) (hb : wb b L) (hT : tw L T) {t : rT} {n : Nat} (hn : n < 120) (w : wf t) (hI : iS it r n t) : ∃ (it' : Nat → Int32) (im' gt' : Int32), Ev Γ l mX5_readItem [.ref 42] 54 (yM M r kr ar ik fi b (nI L) S it mv (nI T.1, nI (mE T), nI (mS T), T.2.2.2, 0, (nI n), (nI (cnt t)))) none 54 (yM M r kr ar ik fi b (nI L) S it' mv (nI (p_item b (nxM b L) T t).2.1.1, nI (mE (p_item b (nxM b L) T t).2.1), nI (mS (p_item b (nxM b L) T t).2.1), (p_item b (nxM b L) T t).2.1.2.2.2, (bW (p_item b (nxM b L) T t).1), im', gt')) ∧ iR it' im' gt' r n (p_item b (nxM b L) T t) := by
  obtain ⟨it', im', gt', ht, hr⟩ := ri_38 (Γ := Γ) (l := l) (M := M) (r := r) (kr := kr) (ar := ar) (ik := ik) (fi := fi) (S := S) (mv := mv) hL hb hT hn w hI
  refine ⟨it', im', gt', ?_, hr⟩
  rw [← mkt_eq 7 0 rfl] at ht
  refine Ev.of [(0, .ref 42)] (by decide) (Nat.le_of_ble_eq_true rfl) rfl ?_
  refine fr_iconst (pc := 0) (v := (-1)) rfl dX5_readItem_0 ?_
  refine fr_istore_n (pc := 1) [(1, .int (-1)), (0, .ref 42)] (by decide) rfl dX5_readItem_1 ?_
  refine fr_iconst (pc := 2) (v := 0) rfl dX5_readItem_2 ?_
  refine fr_istore_n (pc := 3) [(2, .int 0), (1, .int (-1)), (0, .ref 42)] (by decide) rfl dX5_readItem_3 ?_
  exact fr_sub [2, 1, 0] rfl (ri_4 hL hT 7 0 (-1) rfl ht)
