set_option maxRecDepth 100000 in
theorem c_byteAt {Γ : aG} {l : Launch} {M : Nat → aC} {r : rT} {kr ar : Nat → Int32} {ik : Int32} {fi b : Nat → Int32} {L : Nat} {S : sT} {it mv : Nat → Int32} {Q : yQ} {p : Nat} (hL : L ≤ 120) (hp : p ≤ L)  : Ev Γ l mX5_byteAt [.ref 42, .int (nI p)] 54 (yM M r kr ar ik fi b (nI L) S it mv Q) (some (.int (byt b L p))) 54 (yM M r kr ar ik fi b (nI L) S it mv Q) := by
  refine Ev.of [(0, .ref 42), (1, .int (nI p))] (by decide) (Nat.le_of_ble_eq_true rfl) rfl ?_
  refine fr_iload_n (pc := 0) rfl dX5_byteAt_0 ?_
  refine fr_aload_n (pc := 1) rfl dX5_byteAt_1 ?_
  refine fr_get (pc := 2) (ci := 4) (T := TX5) (k0 := 6) rfl hin_X5 (by decide) fl_X5_218 (by decide) y_42 rfl dX5_byteAt_2 ?_
  refine fr_icmp_ge (pc := 5) 17 (by decide) dX5_byteAt_5 (fun h5 => ?_) (fun h5 => ?_)
  · have z5 : ¬ p < L := fun z => absurd h5 (nI_ge z (by omega))
    refine fr_iconst (pc := 17) (v := (-1)) rfl dX5_byteAt_17 ?_
    exact fr_ireturn (pc := 18) rfl (if_neg z5).symm rfl rfl dX5_byteAt_18
  · have z5 : p < L := Nat.lt_of_not_le (fun z => h5 (nI_le z (by omega)))
    refine fr_aload_n (pc := 8) rfl dX5_byteAt_8 ?_
    refine fr_get (pc := 9) (ci := 4) (T := TX5) (k0 := 5) rfl hin_X5 (by decide) fl_X5_22 (by decide) y_42 rfl dX5_byteAt_9 ?_
    refine fr_iload_n (pc := 12) rfl dX5_byteAt_12 ?_
    refine fr_iald (pc := 13) p rfl (by decide) y_47 (by first | assumption | omega) (by decide) dX5_byteAt_13 ?_
    refine fr_goto (pc := 14) 18 (by decide) dX5_byteAt_14 ?_
    exact fr_ireturn (pc := 18) rfl (if_pos z5).symm rfl rfl dX5_byteAt_18
set_option maxRecDepth 100000 in
theorem tk_w {Γ : aG} {l : Launch} {M : Nat → aC} {r : rT} {kr ar : Nat → Int32} {ik : Int32} {fi b : Nat → Int32} {L : Nat} {S : sT} {it mv : Nat → Int32} {bg c0 wr im gt : Int32} (hL : L ≤ 120) : ∀ (k p : Nat), p + k = L → Fr Γ l mX5_token 84 [(0, .ref 42), (1, .int c0)] [] 54 0 0 (yM M r kr ar ik fi b (nI L) S it mv (bg, nI p, 1, 0, wr, im, gt)) none 54 (yM M r kr ar ik fi b (nI L) S it mv (bg, nI (tk_wd b k p), 1, 0, wr, im, gt)) := by
  intro k
  induction k with
  | zero =>
    intro p hp
    refine fr_aload_n (pc := 84) rfl dX5_token_84 ?_
    refine fr_aload_n (pc := 85) rfl dX5_token_85 ?_
    refine fr_get (pc := 86) (ci := 4) (T := TX5) (k0 := 8) rfl hin_X5 (by decide) fl_X5_222 (by decide) y_42 rfl dX5_token_86 ?_
    refine fr_callV0 (pc := 89) (ci := 4) (T := TX5) (N := 20) [.int (nI p)] [] (c_byteAt (p := p) hL (by omega)) gc_X5_228 rfl rfl ⟨rfl, rfl, by decide, by decide⟩ (Nat.le_of_ble_eq_true rfl) rfl (by decide) y_42 ⟨by decide, by decide⟩ dX5_token_89 ?_
    refine fr_eq (z := (-1)) (if_neg (by omega)) ?_
    refine fr_bipush (pc := 92) (v := 97) rfl dX5_token_92 ?_
    refine fr_bipush (pc := 94) (v := 122) rfl dX5_token_94 ?_
    refine fr_callS0 (pc := 96) [.int (-1), .int 97, .int 122] [] (c_X5_within) gc_X5_70 rfl rfl ⟨rfl, rfl, by decide, by decide⟩ (Nat.le_of_ble_eq_true rfl) ⟨by decide, by decide⟩ dX5_token_96 ?_
    refine fr_if_eq (pc := 99) 206 (by decide) dX5_token_99 (fun h99 => ?_) (fun h99 => ?_)
    · have g99 := bI_0.mp h99
      exact fr_return (pc := 206) rfl rfl dX5_token_206
    · have g99 := bI_n0 h99
      exact absurd g99 (by decide)
  | succ k ih =>
    intro p hp
    refine fr_aload_n (pc := 84) rfl dX5_token_84 ?_
    refine fr_aload_n (pc := 85) rfl dX5_token_85 ?_
    refine fr_get (pc := 86) (ci := 4) (T := TX5) (k0 := 8) rfl hin_X5 (by decide) fl_X5_222 (by decide) y_42 rfl dX5_token_86 ?_
    refine fr_callV0 (pc := 89) (ci := 4) (T := TX5) (N := 20) [.int (nI p)] [] (c_byteAt (p := p) hL (by omega)) gc_X5_228 rfl rfl ⟨rfl, rfl, by decide, by decide⟩ (Nat.le_of_ble_eq_true rfl) rfl (by decide) y_42 ⟨by decide, by decide⟩ dX5_token_89 ?_
    refine fr_eq (z := b p) (if_pos (by omega)) ?_
    refine fr_bipush (pc := 92) (v := 97) rfl dX5_token_92 ?_
    refine fr_bipush (pc := 94) (v := 122) rfl dX5_token_94 ?_
    refine fr_callS0 (pc := 96) [.int (b p), .int 97, .int 122] [] (c_X5_within) gc_X5_70 rfl rfl ⟨rfl, rfl, by decide, by decide⟩ (Nat.le_of_ble_eq_true rfl) ⟨by decide, by decide⟩ dX5_token_96 ?_
    refine fr_if_eq (pc := 99) 206 (by decide) dX5_token_99 (fun h99 => ?_) (fun h99 => ?_)
    · have g99 := bI_0.mp h99
      have g99 : ¬ isL (b p) = true := g99
      exact fr_return (pc := 206) rfl (by rw [tk_wd, if_neg g99]) dX5_token_206
    · have g99 := bI_n0 h99
      have g99 : isL (b p) = true := g99
      refine fr_aload_n (pc := 102) rfl dX5_token_102 ?_
      refine fr_dup (pc := 103) rfl dX5_token_103 ?_
      refine fr_get (pc := 104) (ci := 4) (T := TX5) (k0 := 8) rfl hin_X5 (by decide) fl_X5_222 (by decide) y_42 rfl dX5_token_104 ?_
      refine fr_iconst (pc := 107) (v := 1) rfl dX5_token_107 ?_
      refine fr_iadd (pc := 108) dX5_token_108 ?_
      refine fr_eq (z := nI (p + 1)) (nI_1 p) ?_
      refine fr_put (pc := 109) (ci := 4) (T := TX5) (k0 := 8) (ty := .int) tyX5 tyX5_ok nmX5 rfl hin_X5 (by decide) fl_X5_222 rfl (by decide +kernel) rfl rfl (Nat.le_of_ble_eq_true rfl) (by decide) y_42 dX5_token_109 ?_
      refine fr_mem (M1 := (yM M r kr ar ik fi b (nI L) S it mv (bg, (nI (p + 1)), 1, 0, wr, im, gt))) y_uq1 ?_
      refine fr_goto (pc := 112) 84 (by decide) dX5_token_112 ?_
      rw [show tk_wd b (k + 1) p = tk_wd b k (p + 1) from if_pos g99]
      exact ih (p + 1) (by omega)
set_option maxRecDepth 100000 in
theorem tk_n {Γ : aG} {l : Launch} {M : Nat → aC} {r : rT} {kr ar : Nat → Int32} {ik : Int32} {fi b : Nat → Int32} {L : Nat} {S : sT} {it mv : Nat → Int32} {bg c0 wr im gt : Int32} (hL : L ≤ 120) : ∀ (k p : Nat) (x : Int32), p + k = L → Fr Γ l mX5_token 131 [(0, .ref 42), (1, .int c0)] [] 54 0 0 (yM M r kr ar ik fi b (nI L) S it mv (bg, nI p, 2, x, wr, im, gt)) none 54 (yM M r kr ar ik fi b (nI L) S it mv (bg, nI (tk_nm b k p x).1, 2, (tk_nm b k p x).2, wr, im, gt)) := by
  intro k
  induction k with
  | zero =>
    intro p x hp
    refine fr_aload_n (pc := 131) rfl dX5_token_131 ?_
    refine fr_aload_n (pc := 132) rfl dX5_token_132 ?_
    refine fr_get (pc := 133) (ci := 4) (T := TX5) (k0 := 8) rfl hin_X5 (by decide) fl_X5_222 (by decide) y_42 rfl dX5_token_133 ?_
    refine fr_callV0 (pc := 136) (ci := 4) (T := TX5) (N := 20) [.int (nI p)] [] (c_byteAt (p := p) hL (by omega)) gc_X5_228 rfl rfl ⟨rfl, rfl, by decide, by decide⟩ (Nat.le_of_ble_eq_true rfl) rfl (by decide) y_42 ⟨by decide, by decide⟩ dX5_token_136 ?_
    refine fr_eq (z := (-1)) (if_neg (by omega)) ?_
    refine fr_bipush (pc := 139) (v := 48) rfl dX5_token_139 ?_
    refine fr_bipush (pc := 141) (v := 57) rfl dX5_token_141 ?_
    refine fr_callS0 (pc := 143) [.int (-1), .int 48, .int 57] [] (c_X5_within) gc_X5_70 rfl rfl ⟨rfl, rfl, by decide, by decide⟩ (Nat.le_of_ble_eq_true rfl) ⟨by decide, by decide⟩ dX5_token_143 ?_
    refine fr_if_eq (pc := 146) 206 (by decide) dX5_token_146 (fun h146 => ?_) (fun h146 => ?_)
    · have g146 := bI_0.mp h146
      exact fr_return (pc := 206) rfl rfl dX5_token_206
    · have g146 := bI_n0 h146
      exact absurd g146 (by decide)
  | succ k ih =>
    intro p x hp
    refine fr_aload_n (pc := 131) rfl dX5_token_131 ?_
    refine fr_aload_n (pc := 132) rfl dX5_token_132 ?_
    refine fr_get (pc := 133) (ci := 4) (T := TX5) (k0 := 8) rfl hin_X5 (by decide) fl_X5_222 (by decide) y_42 rfl dX5_token_133 ?_
    refine fr_callV0 (pc := 136) (ci := 4) (T := TX5) (N := 20) [.int (nI p)] [] (c_byteAt (p := p) hL (by omega)) gc_X5_228 rfl rfl ⟨rfl, rfl, by decide, by decide⟩ (Nat.le_of_ble_eq_true rfl) rfl (by decide) y_42 ⟨by decide, by decide⟩ dX5_token_136 ?_
    refine fr_eq (z := b p) (if_pos (by omega)) ?_
    refine fr_bipush (pc := 139) (v := 48) rfl dX5_token_139 ?_
    refine fr_bipush (pc := 141) (v := 57) rfl dX5_token_141 ?_
    refine fr_callS0 (pc := 143) [.int (b p), .int 48, .int 57] [] (c_X5_within) gc_X5_70 rfl rfl ⟨rfl, rfl, by decide, by decide⟩ (Nat.le_of_ble_eq_true rfl) ⟨by decide, by decide⟩ dX5_token_143 ?_
    refine fr_if_eq (pc := 146) 206 (by decide) dX5_token_146 (fun h146 => ?_) (fun h146 => ?_)
    · have g146 := bI_0.mp h146
      have g146 : ¬ isD (b p) = true := g146
      exact fr_return (pc := 206) rfl (by rw [tk_nm, if_neg g146]) dX5_token_206
    · have g146 := bI_n0 h146
      have g146 : isD (b p) = true := g146
      refine fr_aload_n (pc := 149) rfl dX5_token_149 ?_
      refine fr_sipush (pc := 150) (v := 10000) rfl dX5_token_150 ?_
      refine fr_bipush (pc := 153) (v := 10) rfl dX5_token_153 ?_
      refine fr_aload_n (pc := 155) rfl dX5_token_155 ?_
      refine fr_get (pc := 156) (ci := 4) (T := TX5) (k0 := 10) rfl hin_X5 (by decide) fl_X5_231 (by decide) y_42 rfl dX5_token_156 ?_
      refine fr_imul (pc := 159) dX5_token_159 ?_
      refine fr_aload_n (pc := 160) rfl dX5_token_160 ?_
      refine fr_aload_n (pc := 161) rfl dX5_token_161 ?_
      refine fr_get (pc := 162) (ci := 4) (T := TX5) (k0 := 8) rfl hin_X5 (by decide) fl_X5_222 (by decide) y_42 rfl dX5_token_162 ?_
      refine fr_callV0 (pc := 165) (ci := 4) (T := TX5) (N := 20) [.int (nI p)] [.int (10 * x), .int 10000, .ref 42] (c_byteAt (p := p) hL (by omega)) gc_X5_228 rfl rfl ⟨rfl, rfl, by decide, by decide⟩ (Nat.le_of_ble_eq_true rfl) rfl (by decide) y_42 ⟨by decide, by decide⟩ dX5_token_165 ?_
      refine fr_eq (z := b p) (if_pos (by omega)) ?_
      refine fr_iadd (pc := 168) dX5_token_168 ?_
      refine fr_bipush (pc := 169) (v := 48) rfl dX5_token_169 ?_
      refine fr_isub (pc := 171) dX5_token_171 ?_
      refine fr_mmin (pc := 172) gm_X5_144 wM_s_min wM_i wM_c_min ⟨by decide, by decide, by decide, by decide⟩ (Nat.le_of_ble_eq_true rfl) dX5_token_172 ?_
      refine fr_eq (z := s_min (10 * x + b p - 48) 10000) (smin_c _ _) ?_
      refine fr_nm (fun x1 e_x1 => ?_)
      refine fr_put (pc := 175) (ci := 4) (T := TX5) (k0 := 10) (ty := .int) tyX5 tyX5_ok nmX5 rfl hin_X5 (by decide) fl_X5_231 rfl (by decide +kernel) rfl rfl (Nat.le_of_ble_eq_true rfl) (by decide) y_42 dX5_token_175 ?_
      refine fr_mem (M1 := (yM M r kr ar ik fi b (nI L) S it mv (bg, nI p, 2, x1, wr, im, gt))) y_uq3 ?_
      refine fr_aload_n (pc := 178) rfl dX5_token_178 ?_
      refine fr_dup (pc := 179) rfl dX5_token_179 ?_
      refine fr_get (pc := 180) (ci := 4) (T := TX5) (k0 := 8) rfl hin_X5 (by decide) fl_X5_222 (by decide) y_42 rfl dX5_token_180 ?_
      refine fr_iconst (pc := 183) (v := 1) rfl dX5_token_183 ?_
      refine fr_iadd (pc := 184) dX5_token_184 ?_
      refine fr_eq (z := nI (p + 1)) (nI_1 p) ?_
      refine fr_put (pc := 185) (ci := 4) (T := TX5) (k0 := 8) (ty := .int) tyX5 tyX5_ok nmX5 rfl hin_X5 (by decide) fl_X5_222 rfl (by decide +kernel) rfl rfl (Nat.le_of_ble_eq_true rfl) (by decide) y_42 dX5_token_185 ?_
      refine fr_mem (M1 := (yM M r kr ar ik fi b (nI L) S it mv (bg, (nI (p + 1)), 2, x1, wr, im, gt))) y_uq1 ?_
      refine fr_goto (pc := 188) 131 (by decide) dX5_token_188 ?_
      rw [show tk_nm b (k + 1) p x = tk_nm b k (p + 1) x1 from by rw [tk_nm, if_pos g146, e_x1]]
      exact ih (p + 1) x1 (by omega)
set_option maxRecDepth 100000 in
theorem tk_34 {Γ : aG} {l : Launch} {M : Nat → aC} {r : rT} {kr ar : Nat → Int32} {ik : Int32} {fi b : Nat → Int32} {L : Nat} {S : sT} {it mv : Nat → Int32} {q : Nat} {e0 so va wr im gt : Int32} (hL : L ≤ 120) (hb : wb b L) (hq : q ≤ L) : Fr Γ l mX5_token 34 [(0, .ref 42)] [] 54 0 0 (yM M r kr ar ik fi b (nI L) S it mv (nI q, e0, so, va, wr, im, gt)) none 54 (yM M r kr ar ik fi b (nI L) S it mv (nI (tk_at b L q 0).1, nI (mE (tk_at b L q 0)), nI (mS (tk_at b L q 0)), (tk_at b L q 0).2.2.2, wr, im, gt)) := by
  by_cases lq : q < L
  · refine fr_aload_n (pc := 34) rfl dX5_token_34 ?_
    refine fr_aload_n (pc := 35) rfl dX5_token_35 ?_
    refine fr_get (pc := 36) (ci := 4) (T := TX5) (k0 := 7) rfl hin_X5 (by decide) fl_X5_225 (by decide) y_42 rfl dX5_token_36 ?_
    refine fr_callV0 (pc := 39) (ci := 4) (T := TX5) (N := 20) [.int (nI q)] [] (c_byteAt (p := q) hL (by omega)) gc_X5_228 rfl rfl ⟨rfl, rfl, by decide, by decide⟩ (Nat.le_of_ble_eq_true rfl) rfl (by decide) y_42 ⟨by decide, by decide⟩ dX5_token_39 ?_
    refine fr_eq (z := (b q)) (if_pos lq) ?_
    refine fr_nm (fun x1_42 e_x1_42 => ?_)
    refine fr_istore_n (pc := 42) [(1, .int x1_42), (0, .ref 42)] (by decide) rfl dX5_token_42 ?_
    refine fr_aload_n (pc := 43) rfl dX5_token_43 ?_
    refine fr_aload_n (pc := 44) rfl dX5_token_44 ?_
    refine fr_get (pc := 45) (ci := 4) (T := TX5) (k0 := 7) rfl hin_X5 (by decide) fl_X5_225 (by decide) y_42 rfl dX5_token_45 ?_
    refine fr_put (pc := 48) (ci := 4) (T := TX5) (k0 := 8) (ty := .int) tyX5 tyX5_ok nmX5 rfl hin_X5 (by decide) fl_X5_222 rfl (by decide +kernel) rfl rfl (Nat.le_of_ble_eq_true rfl) (by decide) y_42 dX5_token_48 ?_
    refine fr_mem (M1 := (yM M r kr ar ik fi b (nI L) S it mv (nI q, (nI q), so, va, wr, im, gt))) y_uq1 ?_
    refine fr_aload_n (pc := 51) rfl dX5_token_51 ?_
    refine fr_iconst (pc := 52) (v := 0) rfl dX5_token_52 ?_
    refine fr_put (pc := 53) (ci := 4) (T := TX5) (k0 := 10) (ty := .int) tyX5 tyX5_ok nmX5 rfl hin_X5 (by decide) fl_X5_231 rfl (by decide +kernel) rfl rfl (Nat.le_of_ble_eq_true rfl) (by decide) y_42 dX5_token_53 ?_
    refine fr_mem (M1 := (yM M r kr ar ik fi b (nI L) S it mv (nI q, (nI q), so, 0, wr, im, gt))) y_uq3 ?_
    refine fr_iload_n (pc := 56) rfl dX5_token_56 ?_
    refine fr_if_ge (pc := 57) 68 (by decide) dX5_token_57 (fun h57 => ?_) (fun h57 => ?_)
    · subst e_x1_42
      refine fr_iload_n (pc := 68) rfl dX5_token_68 ?_
      refine fr_bipush (pc := 69) (v := 97) rfl dX5_token_69 ?_
      refine fr_bipush (pc := 71) (v := 122) rfl dX5_token_71 ?_
      refine fr_callS0 (pc := 73) [.int (b q), .int 97, .int 122] [] (c_X5_within) gc_X5_70 rfl rfl ⟨rfl, rfl, by decide, by decide⟩ (Nat.le_of_ble_eq_true rfl) ⟨by decide, by decide⟩ dX5_token_73 ?_
      refine fr_if_eq (pc := 76) 115 (by decide) dX5_token_76 (fun h76 => ?_) (fun h76 => ?_)
      · have g76 := bI_0.mp h76
        have g76 : ¬ isL (b q) = true := g76
        refine fr_iload_n (pc := 115) rfl dX5_token_115 ?_
        refine fr_bipush (pc := 116) (v := 48) rfl dX5_token_116 ?_
        refine fr_bipush (pc := 118) (v := 57) rfl dX5_token_118 ?_
        refine fr_callS0 (pc := 120) [.int (b q), .int 48, .int 57] [] (c_X5_within) gc_X5_70 rfl rfl ⟨rfl, rfl, by decide, by decide⟩ (Nat.le_of_ble_eq_true rfl) ⟨by decide, by decide⟩ dX5_token_120 ?_
        refine fr_if_eq (pc := 123) 191 (by decide) dX5_token_123 (fun h123 => ?_) (fun h123 => ?_)
        · have g123 := bI_0.mp h123
          have g123 : ¬ isD (b q) = true := g123
          refine fr_aload_n (pc := 191) rfl dX5_token_191 ?_
          refine fr_iconst (pc := 192) (v := 3) rfl dX5_token_192 ?_
          refine fr_put (pc := 193) (ci := 4) (T := TX5) (k0 := 9) (ty := .int) tyX5 tyX5_ok nmX5 rfl hin_X5 (by decide) fl_X5_234 rfl (by decide +kernel) rfl rfl (Nat.le_of_ble_eq_true rfl) (by decide) y_42 dX5_token_193 ?_
          refine fr_mem (M1 := (yM M r kr ar ik fi b (nI L) S it mv (nI q, (nI q), 3, 0, wr, im, gt))) y_uq2 ?_
          refine fr_aload_n (pc := 196) rfl dX5_token_196 ?_
          refine fr_dup (pc := 197) rfl dX5_token_197 ?_
          refine fr_get (pc := 198) (ci := 4) (T := TX5) (k0 := 8) rfl hin_X5 (by decide) fl_X5_222 (by decide) y_42 rfl dX5_token_198 ?_
          refine fr_iconst (pc := 201) (v := 1) rfl dX5_token_201 ?_
          refine fr_iadd (pc := 202) dX5_token_202 ?_
          refine fr_eq (z := nI (q + 1)) (nI_1 q) ?_
          refine fr_put (pc := 203) (ci := 4) (T := TX5) (k0 := 8) (ty := .int) tyX5 tyX5_ok nmX5 rfl hin_X5 (by decide) fl_X5_222 rfl (by decide +kernel) rfl rfl (Nat.le_of_ble_eq_true rfl) (by decide) y_42 dX5_token_203 ?_
          refine fr_mem (M1 := (yM M r kr ar ik fi b (nI L) S it mv (nI q, (nI (q + 1)), 3, 0, wr, im, gt))) y_uq1 ?_
          by_cases h59 : b q = 59
          · rw [show (tk_at b L q 0) = (q, q + 1, 3, 0) from by unfold tk_at; rw [if_pos lq, if_neg g76, if_neg g123, if_pos h59]]
            exact fr_return (pc := 206) rfl rfl dX5_token_206
          · rw [show (tk_at b L q 0) = (q, q, 4, 0) from by unfold tk_at; rw [if_pos lq, if_neg g76, if_neg g123, if_neg h59]]
            exact fr_return (pc := 206) rfl rfl dX5_token_206
        · have g123 := bI_n0 h123
          have g123 : isD (b q) = true := g123
          refine fr_aload_n (pc := 126) rfl dX5_token_126 ?_
          refine fr_iconst (pc := 127) (v := 2) rfl dX5_token_127 ?_
          refine fr_put (pc := 128) (ci := 4) (T := TX5) (k0 := 9) (ty := .int) tyX5 tyX5_ok nmX5 rfl hin_X5 (by decide) fl_X5_234 rfl (by decide +kernel) rfl rfl (Nat.le_of_ble_eq_true rfl) (by decide) y_42 dX5_token_128 ?_
          refine fr_mem (M1 := (yM M r kr ar ik fi b (nI L) S it mv (nI q, (nI q), 2, 0, wr, im, gt))) y_uq2 ?_
          rw [show (tk_at b L q 0) = (q, (tk_nm b (L - q) q 0).1, 2, (tk_nm b (L - q) q 0).2) from by unfold tk_at; rw [if_pos lq, if_neg g76, if_pos g123]]
          exact fr_sub [1, 0] rfl (tk_n hL (L - q) q 0 (by omega))
      · have g76 := bI_n0 h76
        have g76 : isL (b q) = true := g76
        refine fr_aload_n (pc := 79) rfl dX5_token_79 ?_
        refine fr_iconst (pc := 80) (v := 1) rfl dX5_token_80 ?_
        refine fr_put (pc := 81) (ci := 4) (T := TX5) (k0 := 9) (ty := .int) tyX5 tyX5_ok nmX5 rfl hin_X5 (by decide) fl_X5_234 rfl (by decide +kernel) rfl rfl (Nat.le_of_ble_eq_true rfl) (by decide) y_42 dX5_token_81 ?_
        refine fr_mem (M1 := (yM M r kr ar ik fi b (nI L) S it mv (nI q, (nI q), 1, 0, wr, im, gt))) y_uq2 ?_
        rw [show (tk_at b L q 0) = (q, tk_wd b (L - q) q, 1, 0) from by unfold tk_at; rw [if_pos lq, if_pos g76]]
        exact fr_sub [1, 0] rfl (tk_w hL (L - q) q (by omega))
    · exact absurd (Int32.not_lt.mp (by rw [e_x1_42]; exact hb q lq)) h57
  · refine fr_aload_n (pc := 34) rfl dX5_token_34 ?_
    refine fr_aload_n (pc := 35) rfl dX5_token_35 ?_
    refine fr_get (pc := 36) (ci := 4) (T := TX5) (k0 := 7) rfl hin_X5 (by decide) fl_X5_225 (by decide) y_42 rfl dX5_token_36 ?_
    refine fr_callV0 (pc := 39) (ci := 4) (T := TX5) (N := 20) [.int (nI q)] [] (c_byteAt (p := q) hL (by omega)) gc_X5_228 rfl rfl ⟨rfl, rfl, by decide, by decide⟩ (Nat.le_of_ble_eq_true rfl) rfl (by decide) y_42 ⟨by decide, by decide⟩ dX5_token_39 ?_
    refine fr_eq (z := (-1)) (if_neg lq) ?_
    refine fr_istore_n (pc := 42) [(1, .int (-1)), (0, .ref 42)] (by decide) rfl dX5_token_42 ?_
    refine fr_aload_n (pc := 43) rfl dX5_token_43 ?_
    refine fr_aload_n (pc := 44) rfl dX5_token_44 ?_
    refine fr_get (pc := 45) (ci := 4) (T := TX5) (k0 := 7) rfl hin_X5 (by decide) fl_X5_225 (by decide) y_42 rfl dX5_token_45 ?_
    refine fr_put (pc := 48) (ci := 4) (T := TX5) (k0 := 8) (ty := .int) tyX5 tyX5_ok nmX5 rfl hin_X5 (by decide) fl_X5_222 rfl (by decide +kernel) rfl rfl (Nat.le_of_ble_eq_true rfl) (by decide) y_42 dX5_token_48 ?_
    refine fr_mem (M1 := (yM M r kr ar ik fi b (nI L) S it mv (nI q, (nI q), so, va, wr, im, gt))) y_uq1 ?_
    refine fr_aload_n (pc := 51) rfl dX5_token_51 ?_
    refine fr_iconst (pc := 52) (v := 0) rfl dX5_token_52 ?_
    refine fr_put (pc := 53) (ci := 4) (T := TX5) (k0 := 10) (ty := .int) tyX5 tyX5_ok nmX5 rfl hin_X5 (by decide) fl_X5_231 rfl (by decide +kernel) rfl rfl (Nat.le_of_ble_eq_true rfl) (by decide) y_42 dX5_token_53 ?_
    refine fr_mem (M1 := (yM M r kr ar ik fi b (nI L) S it mv (nI q, (nI q), so, 0, wr, im, gt))) y_uq3 ?_
    refine fr_iload_n (pc := 56) rfl dX5_token_56 ?_
    refine fr_if_ge (pc := 57) 68 (by decide) dX5_token_57 (fun h57 => ?_) (fun h57 => ?_)
    · exact absurd h57 (by decide)
    · refine fr_aload_n (pc := 60) rfl dX5_token_60 ?_
      refine fr_iconst (pc := 61) (v := 0) rfl dX5_token_61 ?_
      refine fr_put (pc := 62) (ci := 4) (T := TX5) (k0 := 9) (ty := .int) tyX5 tyX5_ok nmX5 rfl hin_X5 (by decide) fl_X5_234 rfl (by decide +kernel) rfl rfl (Nat.le_of_ble_eq_true rfl) (by decide) y_42 dX5_token_62 ?_
      refine fr_mem (M1 := (yM M r kr ar ik fi b (nI L) S it mv (nI q, (nI q), 0, 0, wr, im, gt))) y_uq2 ?_
      refine fr_goto (pc := 65) 206 (by decide) dX5_token_65 ?_
      exact fr_return (pc := 206) rfl (by rw [show (tk_at b L q 0) = (q, q, 0, 0) from if_neg lq]; rfl) dX5_token_206
set_option maxRecDepth 100000 in
theorem tk_8 {Γ : aG} {l : Launch} {M : Nat → aC} {r : rT} {kr ar : Nat → Int32} {ik : Int32} {fi b : Nat → Int32} {L : Nat} {S : sT} {it mv : Nat → Int32} {e0 so va wr im gt : Int32} (hL : L ≤ 120) (hb : wb b L) : ∀ (k p : Nat), p + k = L → Fr Γ l mX5_token 8 [(0, .ref 42)] [] 54 0 0 (yM M r kr ar ik fi b (nI L) S it mv (nI p, e0, so, va, wr, im, gt)) none 54 (yM M r kr ar ik fi b (nI L) S it mv (nI (tk_at b L (tk_sk b k p) 0).1, nI (mE (tk_at b L (tk_sk b k p) 0)), nI (mS (tk_at b L (tk_sk b k p) 0)), (tk_at b L (tk_sk b k p) 0).2.2.2, wr, im, gt)) := by
  intro k
  induction k with
  | zero =>
    intro p hp
    refine fr_aload_n (pc := 8) rfl dX5_token_8 ?_
    refine fr_aload_n (pc := 9) rfl dX5_token_9 ?_
    refine fr_get (pc := 10) (ci := 4) (T := TX5) (k0 := 7) rfl hin_X5 (by decide) fl_X5_225 (by decide) y_42 rfl dX5_token_10 ?_
    refine fr_callV0 (pc := 13) (ci := 4) (T := TX5) (N := 20) [.int (nI p)] [] (c_byteAt (p := p) hL (by omega)) gc_X5_228 rfl rfl ⟨rfl, rfl, by decide, by decide⟩ (Nat.le_of_ble_eq_true rfl) rfl (by decide) y_42 ⟨by decide, by decide⟩ dX5_token_13 ?_
    refine fr_eq (z := (-1)) (if_neg (by omega)) ?_
    refine fr_bipush (pc := 16) (v := 32) rfl dX5_token_16 ?_
    refine fr_icmp_ne (pc := 18) 34 (by decide) dX5_token_18 (fun h18 => ?_) (fun h18 => ?_)
    · exact tk_34 hL hb (by omega)
    · exact absurd h18 (by decide)
  | succ k ih =>
    intro p hp
    refine fr_aload_n (pc := 8) rfl dX5_token_8 ?_
    refine fr_aload_n (pc := 9) rfl dX5_token_9 ?_
    refine fr_get (pc := 10) (ci := 4) (T := TX5) (k0 := 7) rfl hin_X5 (by decide) fl_X5_225 (by decide) y_42 rfl dX5_token_10 ?_
    refine fr_callV0 (pc := 13) (ci := 4) (T := TX5) (N := 20) [.int (nI p)] [] (c_byteAt (p := p) hL (by omega)) gc_X5_228 rfl rfl ⟨rfl, rfl, by decide, by decide⟩ (Nat.le_of_ble_eq_true rfl) rfl (by decide) y_42 ⟨by decide, by decide⟩ dX5_token_13 ?_
    refine fr_eq (z := b p) (if_pos (by omega)) ?_
    refine fr_bipush (pc := 16) (v := 32) rfl dX5_token_16 ?_
    refine fr_icmp_ne (pc := 18) 34 (by decide) dX5_token_18 (fun h18 => ?_) (fun h18 => ?_)
    · rw [show tk_sk b (k + 1) p = p from if_neg h18]
      exact tk_34 hL hb (by omega)
    · refine fr_aload_n (pc := 21) rfl dX5_token_21 ?_
      refine fr_dup (pc := 22) rfl dX5_token_22 ?_
      refine fr_get (pc := 23) (ci := 4) (T := TX5) (k0 := 7) rfl hin_X5 (by decide) fl_X5_225 (by decide) y_42 rfl dX5_token_23 ?_
      refine fr_iconst (pc := 26) (v := 1) rfl dX5_token_26 ?_
      refine fr_iadd (pc := 27) dX5_token_27 ?_
      refine fr_eq (z := nI (p + 1)) (nI_1 p) ?_
      refine fr_put (pc := 28) (ci := 4) (T := TX5) (k0 := 7) (ty := .int) tyX5 tyX5_ok nmX5 rfl hin_X5 (by decide) fl_X5_225 rfl (by decide +kernel) rfl rfl (Nat.le_of_ble_eq_true rfl) (by decide) y_42 dX5_token_28 ?_
      refine fr_mem (M1 := (yM M r kr ar ik fi b (nI L) S it mv ((nI (p + 1)), e0, so, va, wr, im, gt))) y_uq0 ?_
      refine fr_goto (pc := 31) 8 (by decide) dX5_token_31 ?_
      rw [show tk_sk b (k + 1) p = tk_sk b k (p + 1) from if_pos h18]
      exact ih (p + 1) (by omega)
set_option maxRecDepth 100000 in
theorem c_token {Γ : aG} {l : Launch} {M : Nat → aC} {r : rT} {kr ar : Nat → Int32} {ik : Int32} {fi b : Nat → Int32} {L : Nat} {S : sT} {it mv : Nat → Int32} {bg so va wr im gt : Int32} {p : Nat} (hL : L ≤ 120) (hb : wb b L) (hp : p ≤ L)  : Ev Γ l mX5_token [.ref 42] 54 (yM M r kr ar ik fi b (nI L) S it mv (bg, nI p, so, va, wr, im, gt)) none 54 (yM M r kr ar ik fi b (nI L) S it mv (nI (tkn b L p 0).1, nI (mE (tkn b L p 0)), nI (mS (tkn b L p 0)), (tkn b L p 0).2.2.2, wr, im, gt)) := by
  refine Ev.of [(0, .ref 42)] (by decide) (Nat.le_of_ble_eq_true rfl) rfl ?_
  refine fr_aload_n (pc := 0) rfl dX5_token_0 ?_
  refine fr_aload_n (pc := 1) rfl dX5_token_1 ?_
  refine fr_get (pc := 2) (ci := 4) (T := TX5) (k0 := 8) rfl hin_X5 (by decide) fl_X5_222 (by decide) y_42 rfl dX5_token_2 ?_
  refine fr_put (pc := 5) (ci := 4) (T := TX5) (k0 := 7) (ty := .int) tyX5 tyX5_ok nmX5 rfl hin_X5 (by decide) fl_X5_225 rfl (by decide +kernel) rfl rfl (Nat.le_of_ble_eq_true rfl) (by decide) y_42 dX5_token_5 ?_
  refine fr_mem (M1 := (yM M r kr ar ik fi b (nI L) S it mv ((nI p), nI p, so, va, wr, im, gt))) y_uq0 ?_
  exact tk_8 hL hb (L - p) p (by omega)
set_option maxRecDepth 100000 in
theorem jw_end {Γ : aG} {l : Launch} {M : Nat → aC} {r : rT} {kr ar : Nat → Int32} {ik : Int32} {fi b : Nat → Int32} {L : Nat} {S : sT} {it mv : Nat → Int32} {T : tk} {wr im gt : Int32} (hL : L ≤ 120) (hT : tw L T) {k0 i : Nat} (hk0 : k0 < 26) : Fr Γ l mX5_isWord 32 [(0, .ref 42), (1, .ref (2000 + k0)), (2, .int 0), (3, .int (nI i))] [] 54 0 0 (yM M r kr ar ik fi b (nI L) S it mv (nI T.1, nI (mE T), nI (mS T), T.2.2.2, wr, im, gt)) (some (.int 0)) 54 (yM M r kr ar ik fi b (nI L) S it mv (nI T.1, nI (mE T), nI (mS T), T.2.2.2, wr, im, gt)) := by
  refine fr_iload_n (pc := 32) rfl dX5_isWord_32 ?_
  refine fr_aload_n (pc := 33) rfl dX5_isWord_33 ?_
  refine fr_callK (pc := 34) [] [.int (nI i)] (k0 := k0) (by first | assumption | decide) (c_slength (by first | assumption | decide)) gc_X5_237 rfl rfl rfl ⟨rfl, rfl, by decide, by decide⟩ (Nat.le_of_ble_eq_true rfl) ⟨by decide, by decide⟩ dX5_isWord_34 ?_
  refine fr_icmp_ge (pc := 37) 75 (by decide) dX5_isWord_37 (fun h37 => ?_) (fun h37 => ?_)
  · refine fr_iload_n (pc := 75) rfl dX5_isWord_75 ?_
    exact fr_ireturn (pc := 76) rfl rfl rfl rfl dX5_isWord_76
  · refine fr_iload_n (pc := 40) rfl dX5_isWord_40 ?_
    refine fr_if_eq (pc := 41) 75 (by decide) dX5_isWord_41 (fun h41 => ?_) (fun h41 => ?_)
    · refine fr_iload_n (pc := 75) rfl dX5_isWord_75 ?_
      exact fr_ireturn (pc := 76) rfl rfl rfl rfl dX5_isWord_76
    · exact absurd rfl h41
set_option maxRecDepth 100000 in
theorem jw_loop {Γ : aG} {l : Launch} {M : Nat → aC} {r : rT} {kr ar : Nat → Int32} {ik : Int32} {fi b : Nat → Int32} {L : Nat} {S : sT} {it mv : Nat → Int32} {T : tk} {wr im gt : Int32} (hL : L ≤ 120) (hT : tw L T) {k0 : Nat} (hk0 : k0 < 26) (hw : T.1 + (a_ss k0).2.2.2.length ≤ L) : ∀ (k i : Nat), i + k = (a_ss k0).2.2.2.length → Fr Γ l mX5_isWord 32 [(0, .ref 42), (1, .ref (2000 + k0)), (2, .int 1), (3, .int (nI i))] [] 54 0 0 (yM M r kr ar ik fi b (nI L) S it mv (nI T.1, nI (mE T), nI (mS T), T.2.2.2, wr, im, gt)) (some (.int (bI (tk_eq b T.1 (a_ss k0).2.2.2 k i = true)))) 54 (yM M r kr ar ik fi b (nI L) S it mv (nI T.1, nI (mE T), nI (mS T), T.2.2.2, wr, im, gt)) := by
  have hs := (ss_all k0 hk0).1
  intro k
  induction k with
  | zero =>
    intro i hi
    refine fr_iload_n (pc := 32) rfl dX5_isWord_32 ?_
    refine fr_aload_n (pc := 33) rfl dX5_isWord_33 ?_
    refine fr_callK (pc := 34) [] [.int (nI i)] (k0 := k0) (by first | assumption | decide) (c_slength (by first | assumption | decide)) gc_X5_237 rfl rfl rfl ⟨rfl, rfl, by decide, by decide⟩ (Nat.le_of_ble_eq_true rfl) ⟨by decide, by decide⟩ dX5_isWord_34 ?_
    refine fr_icmp_ge (pc := 37) 75 (by decide) dX5_isWord_37 (fun h37 => ?_) (fun h37 => ?_)
    · refine fr_iload_n (pc := 75) rfl dX5_isWord_75 ?_
      exact fr_ireturn (pc := 76) rfl (bI_t rfl).symm rfl rfl dX5_isWord_76
    · exact absurd (nI_le (by omega) (by omega)) h37
  | succ k ih =>
    intro i hi
    refine fr_iload_n (pc := 32) rfl dX5_isWord_32 ?_
    refine fr_aload_n (pc := 33) rfl dX5_isWord_33 ?_
    refine fr_callK (pc := 34) [] [.int (nI i)] (k0 := k0) (by first | assumption | decide) (c_slength (by first | assumption | decide)) gc_X5_237 rfl rfl rfl ⟨rfl, rfl, by decide, by decide⟩ (Nat.le_of_ble_eq_true rfl) ⟨by decide, by decide⟩ dX5_isWord_34 ?_
    refine fr_icmp_ge (pc := 37) 75 (by decide) dX5_isWord_37 (fun h37 => ?_) (fun h37 => ?_)
    · exact absurd h37 (nI_ge (by omega) (by omega))
    · refine fr_iload_n (pc := 40) rfl dX5_isWord_40 ?_
      refine fr_if_eq (pc := 41) 75 (by decide) dX5_isWord_41 (fun h41 => ?_) (fun h41 => ?_)
      · exact absurd h41 (by decide)
      · refine fr_aload_n (pc := 44) rfl dX5_isWord_44 ?_
        refine fr_get (pc := 45) (ci := 4) (T := TX5) (k0 := 5) rfl hin_X5 (by decide) fl_X5_22 (by decide) y_42 rfl dX5_isWord_45 ?_
        refine fr_aload_n (pc := 48) rfl dX5_isWord_48 ?_
        refine fr_get (pc := 49) (ci := 4) (T := TX5) (k0 := 7) rfl hin_X5 (by decide) fl_X5_225 (by decide) y_42 rfl dX5_isWord_49 ?_
        refine fr_iload_n (pc := 52) rfl dX5_isWord_52 ?_
        refine fr_iadd (pc := 53) dX5_isWord_53 ?_
        refine fr_eq (z := nI (T.1 + i)) (nI_add _ _) ?_
        refine fr_iald (pc := 54) (T.1 + i) rfl (by decide) y_47 (by omega) (by decide) dX5_isWord_54 ?_
        refine fr_aload_n (pc := 55) rfl dX5_isWord_55 ?_
        refine fr_iload_n (pc := 56) rfl dX5_isWord_56 ?_
        refine fr_callK (pc := 57) [.int (nI i)] [.int (b (T.1 + i))] (k0 := k0) (by first | assumption | decide) (c_charAt (by first | assumption | decide) (by omega)) gc_X5_240 rfl rfl rfl ⟨rfl, rfl, by decide, by decide⟩ (Nat.le_of_ble_eq_true rfl) ⟨by decide, by decide⟩ dX5_isWord_57 ?_
        refine fr_icmp_ne (pc := 60) 67 (by decide) dX5_isWord_60 (fun h60 => ?_) (fun h60 => ?_)
        · refine fr_iconst (pc := 67) (v := 0) rfl dX5_isWord_67 ?_
          refine fr_istore_n (pc := 68) [(2, .int 0), (0, .ref 42), (1, .ref (2000 + k0)), (3, .int (nI i))] (by decide) rfl dX5_isWord_68 ?_
          refine fr_iinc (pc := 69) (v := nI (i + 1)) [(3, .int (nI (i + 1))), (2, .int 0), (0, .ref 42), (1, .ref (2000 + k0))] rfl (nI_1 i) (by decide) rfl dX5_isWord_69 ?_
          refine fr_goto (pc := 72) 32 (by decide) dX5_isWord_72 ?_
          rw [show tk_eq b T.1 (a_ss k0).2.2.2 (k + 1) i = false from if_neg h60]
          exact fr_sub [2, 3, 1, 0] rfl (jw_end hL hT hk0)
        · refine fr_iconst (pc := 63) (v := 1) rfl dX5_isWord_63 ?_
          refine fr_goto (pc := 64) 68 (by decide) dX5_isWord_64 ?_
          refine fr_istore_n (pc := 68) [(2, .int 1), (0, .ref 42), (1, .ref (2000 + k0)), (3, .int (nI i))] (by decide) rfl dX5_isWord_68 ?_
          refine fr_iinc (pc := 69) (v := nI (i + 1)) [(3, .int (nI (i + 1))), (2, .int 1), (0, .ref 42), (1, .ref (2000 + k0))] rfl (nI_1 i) (by decide) rfl dX5_isWord_69 ?_
          refine fr_goto (pc := 72) 32 (by decide) dX5_isWord_72 ?_
          rw [show tk_eq b T.1 (a_ss k0).2.2.2 (k + 1) i = tk_eq b T.1 (a_ss k0).2.2.2 k (i + 1) from if_pos h60]
          exact fr_sub [2, 3, 1, 0] rfl (ih (i + 1) (by omega))
set_option maxRecDepth 100000 in
theorem c_jWord {Γ : aG} {l : Launch} {M : Nat → aC} {r : rT} {kr ar : Nat → Int32} {ik : Int32} {fi b : Nat → Int32} {L : Nat} {S : sT} {it mv : Nat → Int32} {T : tk} {wr im gt : Int32} (hL : L ≤ 120) (hT : tw L T) {k0 : Nat} (hk0 : k0 < 26) : Ev Γ l mX5_isWord [.ref 42, .ref (2000 + k0)] 54 (yM M r kr ar ik fi b (nI L) S it mv (nI T.1, nI (mE T), nI (mS T), T.2.2.2, wr, im, gt)) (some (.int (bI (tk_is b T (a_ss k0).2.2.2 = true)))) 54 (yM M r kr ar ik fi b (nI L) S it mv (nI T.1, nI (mE T), nI (mS T), T.2.2.2, wr, im, gt)) := by
  refine Ev.of [(0, .ref 42), (1, .ref (2000 + k0))] (by decide) (Nat.le_of_ble_eq_true rfl) rfl ?_
  have hs := (ss_all k0 hk0).1
  by_cases h1 : T.2.2.1 = 1
  · refine fr_aload_n (pc := 0) rfl dX5_isWord_0 ?_
    refine fr_get (pc := 1) (ci := 4) (T := TX5) (k0 := 9) rfl hin_X5 (by decide) fl_X5_234 (by decide) y_42 rfl dX5_isWord_1 ?_
    refine fr_iconst (pc := 4) (v := 1) rfl dX5_isWord_4 ?_
    refine fr_icmp_ne (pc := 5) 28 (by decide) dX5_isWord_5 (fun h5 => ?_) (fun h5 => ?_)
    · exact absurd ((mS_1 hT.2.2 (by decide)).mpr h1) h5
    · refine fr_aload_n (pc := 8) rfl dX5_isWord_8 ?_
      refine fr_get (pc := 9) (ci := 4) (T := TX5) (k0 := 8) rfl hin_X5 (by decide) fl_X5_222 (by decide) y_42 rfl dX5_isWord_9 ?_
      refine fr_aload_n (pc := 12) rfl dX5_isWord_12 ?_
      refine fr_get (pc := 13) (ci := 4) (T := TX5) (k0 := 7) rfl hin_X5 (by decide) fl_X5_225 (by decide) y_42 rfl dX5_isWord_13 ?_
      refine fr_isub (pc := 16) dX5_isWord_16 ?_
      refine fr_eq (z := nI (T.2.1 - T.1)) (by rw [mE_n (show ¬ T.2.2.1 = 4 by omega)]; exact pk_sub hT.1) ?_
      refine fr_aload_n (pc := 17) rfl dX5_isWord_17 ?_
      refine fr_callK (pc := 18) [] [.int (nI (T.2.1 - T.1))] (k0 := k0) (by first | assumption | decide) (c_slength (by first | assumption | decide)) gc_X5_237 rfl rfl rfl ⟨rfl, rfl, by decide, by decide⟩ (Nat.le_of_ble_eq_true rfl) ⟨by decide, by decide⟩ dX5_isWord_18 ?_
      refine fr_icmp_ne (pc := 21) 28 (by decide) dX5_isWord_21 (fun h21 => ?_) (fun h21 => ?_)
      · refine fr_iconst (pc := 28) (v := 0) rfl dX5_isWord_28 ?_
        refine fr_istore_n (pc := 29) [(2, .int 0), (0, .ref 42), (1, .ref (2000 + k0))] (by decide) rfl dX5_isWord_29 ?_
        refine fr_iconst (pc := 30) (v := 0) rfl dX5_isWord_30 ?_
        refine fr_istore_n (pc := 31) [(3, .int 0), (2, .int 0), (0, .ref 42), (1, .ref (2000 + k0))] (by decide) rfl dX5_isWord_31 ?_
        rw [show tk_is b T (a_ss k0).2.2.2 = false from if_neg (fun z => h21 (by rw [z.2]))]
        exact fr_sub [2, 3, 1, 0] rfl (jw_end hL hT hk0)
      · have e21 : T.2.1 - T.1 = (a_ss k0).2.2.2.length := (nI_eq (by have := hT.2.1; omega) (by omega)).mp h21
        have hw : T.1 + (a_ss k0).2.2.2.length ≤ L := by have h1 := hT.1; have h2 := hT.2.1; omega
        refine fr_iconst (pc := 24) (v := 1) rfl dX5_isWord_24 ?_
        refine fr_goto (pc := 25) 29 (by decide) dX5_isWord_25 ?_
        refine fr_istore_n (pc := 29) [(2, .int 1), (0, .ref 42), (1, .ref (2000 + k0))] (by decide) rfl dX5_isWord_29 ?_
        refine fr_iconst (pc := 30) (v := 0) rfl dX5_isWord_30 ?_
        refine fr_istore_n (pc := 31) [(3, .int 0), (2, .int 1), (0, .ref 42), (1, .ref (2000 + k0))] (by decide) rfl dX5_isWord_31 ?_
        rw [show tk_is b T (a_ss k0).2.2.2 = tk_eq b T.1 (a_ss k0).2.2.2 (a_ss k0).2.2.2.length 0 from if_pos ⟨h1, e21⟩]
        exact fr_sub [2, 3, 1, 0] rfl (jw_loop hL hT hk0 hw _ 0 (by omega))
  · refine fr_aload_n (pc := 0) rfl dX5_isWord_0 ?_
    refine fr_get (pc := 1) (ci := 4) (T := TX5) (k0 := 9) rfl hin_X5 (by decide) fl_X5_234 (by decide) y_42 rfl dX5_isWord_1 ?_
    refine fr_iconst (pc := 4) (v := 1) rfl dX5_isWord_4 ?_
    refine fr_icmp_ne (pc := 5) 28 (by decide) dX5_isWord_5 (fun h5 => ?_) (fun h5 => ?_)
    · refine fr_iconst (pc := 28) (v := 0) rfl dX5_isWord_28 ?_
      refine fr_istore_n (pc := 29) [(2, .int 0), (0, .ref 42), (1, .ref (2000 + k0))] (by decide) rfl dX5_isWord_29 ?_
      refine fr_iconst (pc := 30) (v := 0) rfl dX5_isWord_30 ?_
      refine fr_istore_n (pc := 31) [(3, .int 0), (2, .int 0), (0, .ref 42), (1, .ref (2000 + k0))] (by decide) rfl dX5_isWord_31 ?_
      rw [show tk_is b T (a_ss k0).2.2.2 = false from if_neg (fun z => h1 z.1)]
      exact fr_sub [2, 3, 1, 0] rfl (jw_end hL hT hk0)
    · exact absurd ((mS_1 (k := 1) hT.2.2 (by decide)).mp h5) h1
set_option maxRecDepth 100000 in
theorem c_must_t {Γ : aG} {l : Launch} {M : Nat → aC} {r : rT} {kr ar : Nat → Int32} {ik : Int32} {fi b : Nat → Int32} {L : Nat} {S : sT} {it mv : Nat → Int32} {T : tk} {im gt : Int32} (hL : L ≤ 120) (hb : wb b L) (hT : tw L T) (h4 : ¬ T.2.2.1 = 4)  : Ev Γ l mX5_must [.ref 42, .int 1] 54 (yM M r kr ar ik fi b (nI L) S it mv (nI T.1, nI (mE T), nI (mS T), T.2.2.2, 0, im, gt)) none 54 (yM M r kr ar ik fi b (nI L) S it mv (nI (nxM b L T).1, nI (mE (nxM b L T)), nI (mS (nxM b L T)), (nxM b L T).2.2.2, 0, im, gt)) := by
  refine Ev.of [(0, .ref 42), (1, .int 1)] (by decide) (Nat.le_of_ble_eq_true rfl) rfl ?_
  refine fr_aload_n (pc := 0) rfl dX5_must_0 ?_
  refine fr_aload_n (pc := 1) rfl dX5_must_1 ?_
  refine fr_get (pc := 2) (ci := 4) (T := TX5) (k0 := 11) rfl hin_X5 (by decide) fl_X5_244 (by decide) y_42 rfl dX5_must_2 ?_
  refine fr_if_ne (pc := 5) 12 (by decide) dX5_must_5 (fun h5 => ?_) (fun h5 => ?_)
  · exact absurd rfl h5
  · refine fr_iload_n (pc := 8) rfl dX5_must_8 ?_
    refine fr_if_ne (pc := 9) 16 (by decide) dX5_must_9 (fun h9 => ?_) (fun h9 => ?_)
    · refine fr_iconst (pc := 16) (v := 0) rfl dX5_must_16 ?_
      refine fr_put (pc := 17) (ci := 4) (T := TX5) (k0 := 11) (ty := .boolean) tyX5 tyX5_ok nmX5 rfl hin_X5 (by decide) fl_X5_244 rfl (by decide +kernel) rfl rfl (Nat.le_of_ble_eq_true rfl) (by decide) y_42 dX5_must_17 ?_
      refine fr_mem (M1 := (yM M r kr ar ik fi b (nI L) S it mv (nI T.1, nI (mE T), nI (mS T), T.2.2.2, 0, im, gt))) y_uq4 ?_
      refine fr_aload_n (pc := 20) rfl dX5_must_20 ?_
      refine fr_get (pc := 21) (ci := 4) (T := TX5) (k0 := 11) rfl hin_X5 (by decide) fl_X5_244 (by decide) y_42 rfl dX5_must_21 ?_
      refine fr_if_ne (pc := 24) 31 (by decide) dX5_must_24 (fun h24 => ?_) (fun h24 => ?_)
      · exact absurd rfl h24
      · refine fr_aload_n (pc := 27) rfl dX5_must_27 ?_
        refine fr_callV0 (pc := 28) (ci := 4) (T := TX5) (N := 20) [] [] (by rw [mE_n h4]; exact c_token hL hb hT.2.1) gc_X5_248 rfl rfl ⟨rfl, rfl, by decide, by decide⟩ (Nat.le_of_ble_eq_true rfl) rfl (by decide) y_42 ⟨by decide, by decide⟩ dX5_must_28 ?_
        exact fr_return (pc := 31) rfl rfl dX5_must_31
    · exact absurd h9 (by decide)
set_option maxRecDepth 100000 in
theorem c_must_f {Γ : aG} {l : Launch} {M : Nat → aC} {r : rT} {kr ar : Nat → Int32} {ik : Int32} {fi b : Nat → Int32} {L : Nat} {S : sT} {it mv : Nat → Int32} {T : tk} {im gt : Int32}  : Ev Γ l mX5_must [.ref 42, .int 0] 54 (yM M r kr ar ik fi b (nI L) S it mv (nI T.1, nI (mE T), nI (mS T), T.2.2.2, 0, im, gt)) none 54 (yM M r kr ar ik fi b (nI L) S it mv (nI T.1, nI (mE T), nI (mS T), T.2.2.2, 1, im, gt)) := by
  refine Ev.of [(0, .ref 42), (1, .int 0)] (by decide) (Nat.le_of_ble_eq_true rfl) rfl ?_
  refine fr_aload_n (pc := 0) rfl dX5_must_0 ?_
  refine fr_aload_n (pc := 1) rfl dX5_must_1 ?_
  refine fr_get (pc := 2) (ci := 4) (T := TX5) (k0 := 11) rfl hin_X5 (by decide) fl_X5_244 (by decide) y_42 rfl dX5_must_2 ?_
  refine fr_if_ne (pc := 5) 12 (by decide) dX5_must_5 (fun h5 => ?_) (fun h5 => ?_)
  · exact absurd rfl h5
  · refine fr_iload_n (pc := 8) rfl dX5_must_8 ?_
    refine fr_if_ne (pc := 9) 16 (by decide) dX5_must_9 (fun h9 => ?_) (fun h9 => ?_)
    · exact absurd rfl h9
    · refine fr_iconst (pc := 12) (v := 1) rfl dX5_must_12 ?_
      refine fr_goto (pc := 13) 17 (by decide) dX5_must_13 ?_
      refine fr_put (pc := 17) (ci := 4) (T := TX5) (k0 := 11) (ty := .boolean) tyX5 tyX5_ok nmX5 rfl hin_X5 (by decide) fl_X5_244 rfl (by decide +kernel) rfl rfl (Nat.le_of_ble_eq_true rfl) (by decide) y_42 dX5_must_17 ?_
      refine fr_mem (M1 := (yM M r kr ar ik fi b (nI L) S it mv (nI T.1, nI (mE T), nI (mS T), T.2.2.2, 1, im, gt))) y_uq4 ?_
      refine fr_aload_n (pc := 20) rfl dX5_must_20 ?_
      refine fr_get (pc := 21) (ci := 4) (T := TX5) (k0 := 11) rfl hin_X5 (by decide) fl_X5_244 (by decide) y_42 rfl dX5_must_21 ?_
      refine fr_if_ne (pc := 24) 31 (by decide) dX5_must_24 (fun h24 => ?_) (fun h24 => ?_)
      · exact fr_return (pc := 31) rfl rfl dX5_must_31
      · exact absurd (show (1 : Int32) = 0 from h24) (by decide)
set_option maxRecDepth 100000 in
theorem c_must_w {Γ : aG} {l : Launch} {M : Nat → aC} {r : rT} {kr ar : Nat → Int32} {ik : Int32} {fi b : Nat → Int32} {L : Nat} {S : sT} {it mv : Nat → Int32} {T : tk} {x im gt : Int32}  : Ev Γ l mX5_must [.ref 42, .int x] 54 (yM M r kr ar ik fi b (nI L) S it mv (nI T.1, nI (mE T), nI (mS T), T.2.2.2, 1, im, gt)) none 54 (yM M r kr ar ik fi b (nI L) S it mv (nI T.1, nI (mE T), nI (mS T), T.2.2.2, 1, im, gt)) := by
  refine Ev.of [(0, .ref 42), (1, .int x)] (by decide) (Nat.le_of_ble_eq_true rfl) rfl ?_
  refine fr_aload_n (pc := 0) rfl dX5_must_0 ?_
  refine fr_aload_n (pc := 1) rfl dX5_must_1 ?_
  refine fr_get (pc := 2) (ci := 4) (T := TX5) (k0 := 11) rfl hin_X5 (by decide) fl_X5_244 (by decide) y_42 rfl dX5_must_2 ?_
  refine fr_if_ne (pc := 5) 12 (by decide) dX5_must_5 (fun h5 => ?_) (fun h5 => ?_)
  · refine fr_iconst (pc := 12) (v := 1) rfl dX5_must_12 ?_
    refine fr_goto (pc := 13) 17 (by decide) dX5_must_13 ?_
    refine fr_put (pc := 17) (ci := 4) (T := TX5) (k0 := 11) (ty := .boolean) tyX5 tyX5_ok nmX5 rfl hin_X5 (by decide) fl_X5_244 rfl (by decide +kernel) rfl rfl (Nat.le_of_ble_eq_true rfl) (by decide) y_42 dX5_must_17 ?_
    refine fr_mem (M1 := (yM M r kr ar ik fi b (nI L) S it mv (nI T.1, nI (mE T), nI (mS T), T.2.2.2, 1, im, gt))) y_uq4 ?_
    refine fr_aload_n (pc := 20) rfl dX5_must_20 ?_
    refine fr_get (pc := 21) (ci := 4) (T := TX5) (k0 := 11) rfl hin_X5 (by decide) fl_X5_244 (by decide) y_42 rfl dX5_must_21 ?_
    refine fr_if_ne (pc := 24) 31 (by decide) dX5_must_24 (fun h24 => ?_) (fun h24 => ?_)
    · exact fr_return (pc := 31) rfl rfl dX5_must_31
    · exact absurd (show (1 : Int32) = 0 from h24) (by decide)
  · exact absurd (show (1 : Int32) = 0 from h5) (by decide)
