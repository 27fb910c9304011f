theorem cpf_0 {f g : Nat → Int32} : cpf f g 0 = g := by
  funext p
  exact if_neg (by omega)
set_option maxRecDepth 100000 in
theorem yc_two {Γ : aG} {l : Launch} {M : Nat → aC} {r : rT} {kr ar : Nat → Int32} {ik : Int32} {fi b : Nat → Int32} {ln : Int32} {S : sT} {it : Nat → Int32} {Q : yQ} {s t a c q : Nat} (hs : s < 4) (ht : t < 4) (ha : a + q ≤ 40) (hc : c + q ≤ 40) {mv : Nat → Int32} (hm : ∀ p, p < q → mv p = S.1 s (a + p)) : ∀ (j k : Nat), k + j = q → Fr Γ l mX5_copy 165 [(0, .ref 42), (1, .int (nI s)), (2, .int (nI a)), (3, .int (nI t)), (4, .int (nI c)), (5, .int (nI q)), (6, .int (nI k))] [] 54 0 0 (yM M r kr ar ik fi b ln ((v2 S.1 t (va_cpy (S.1 s) (S.1 t) a c k)), S.2) it mv Q) (some (.int (nI q))) 54 (yM M r kr ar ik fi b ln ((v2 S.1 t (va_cpy (S.1 s) (S.1 t) a c q)), S.2) it mv Q) := by
  intro j
  induction j with
  | zero =>
    intro k hk
    rw [show k = q by omega]
    refine fr_iload (pc := 165) rfl dX5_copy_165 ?_
    refine fr_iload (pc := 167) rfl dX5_copy_167 ?_
    refine fr_icmp_ge (pc := 169) 200 (by decide) dX5_copy_169 (fun h169 => ?_) (fun h169 => ?_)
    · refine fr_iload (pc := 200) rfl dX5_copy_200 ?_
      exact fr_ireturn (pc := 202) rfl rfl rfl rfl dX5_copy_202
    · exact absurd (Int32.le_refl _) h169
  | succ j ih =>
    intro k hk
    refine fr_iload (pc := 165) rfl dX5_copy_165 ?_
    refine fr_iload (pc := 167) rfl dX5_copy_167 ?_
    refine fr_icmp_ge (pc := 169) 200 (by decide) dX5_copy_169 (fun h169 => ?_) (fun h169 => ?_)
    · exact absurd h169 (nI_ge (by omega) (by omega))
    · refine fr_aload_n (pc := 172) rfl dX5_copy_172 ?_
      refine fr_get (pc := 173) (ci := 4) (T := TX5) (k0 := 18) rfl hin_X5 (by decide) fl_X5_54 (by decide) y_42 rfl dX5_copy_173 ?_
      refine fr_bipush (pc := 176) (v := 40) rfl dX5_copy_176 ?_
      refine fr_iload_n (pc := 178) rfl dX5_copy_178 ?_
      refine fr_imul (pc := 179) dX5_copy_179 ?_
      refine fr_iload (pc := 180) rfl dX5_copy_180 ?_
      refine fr_iadd (pc := 182) dX5_copy_182 ?_
      refine fr_eq (z := nI (40 * t + c)) (n40 t c) ?_
      refine fr_iload (pc := 183) rfl dX5_copy_183 ?_
      refine fr_iadd (pc := 185) dX5_copy_185 ?_
      refine fr_eq (z := nI (40 * t + (c + k))) (by rw [nI_add, Nat.add_assoc]) ?_
      refine fr_aload_n (pc := 186) rfl dX5_copy_186 ?_
      refine fr_get (pc := 187) (ci := 4) (T := TX5) (k0 := 19) rfl hin_X5 (by decide) fl_X5_57 (by decide) y_42 rfl dX5_copy_187 ?_
      refine fr_iload (pc := 190) rfl dX5_copy_190 ?_
      refine fr_iald (pc := 192) k rfl (by decide) y_53 (by first | assumption | omega) (by decide) dX5_copy_192 ?_
      refine fr_eq (z := S.1 s (a + k)) (hm k (by omega)) ?_
      refine fr_iast (pc := 193) (40 * t + (c + k)) rfl (by decide) y_52 (by first | assumption | omega) (by decide) dX5_copy_193 ?_
      refine fr_mem (y_u52 (by omega)) ?_
      refine fr_mem (M1 := (yM M r kr ar ik fi b ln ((v2 S.1 t (va_cpy (S.1 s) (S.1 t) a c (k + 1))), S.2) it mv Q)) (congrArg (fun z => yM M r kr ar ik fi b ln (z, S.2) it mv Q) cy_up) ?_
      refine fr_iinc (pc := 194) (v := nI (k + 1)) [(6, .int (nI (k + 1))), (0, .ref 42), (1, .int (nI s)), (2, .int (nI a)), (3, .int (nI t)), (4, .int (nI c)), (5, .int (nI q))] rfl (nI_1 k) (by decide) rfl dX5_copy_194 ?_
      refine fr_goto (pc := 197) 165 (by decide) dX5_copy_197 ?_
      exact fr_sub [1, 2, 3, 4, 5, 6, 0] rfl (ih (k + 1) (by omega))
set_option maxRecDepth 100000 in
theorem yc_one {Γ : aG} {l : Launch} {M : Nat → aC} {r : rT} {kr ar : Nat → Int32} {ik : Int32} {fi b : Nat → Int32} {ln : Int32} {S : sT} {it : Nat → Int32} {Q : yQ} {s t a c q : Nat} (hs : s < 4) (ht : t < 4) (ha : a + q ≤ 40) (hc : c + q ≤ 40) {mv0 : Nat → Int32} : ∀ (j k : Nat), k + j = q → Fr Γ l mX5_copy 128 [(0, .ref 42), (1, .int (nI s)), (2, .int (nI a)), (3, .int (nI t)), (4, .int (nI c)), (5, .int (nI q)), (6, .int (nI k))] [] 54 0 0 (yM M r kr ar ik fi b ln S it (cpf (fun p => S.1 s (a + p)) mv0 k) Q) (some (.int (nI q))) 54 (yM M r kr ar ik fi b ln ((v2 S.1 t (va_cpy (S.1 s) (S.1 t) a c q)), S.2) it (cpf (fun p => S.1 s (a + p)) mv0 q) Q) := by
  intro j
  induction j with
  | zero =>
    intro k hk
    rw [show k = q by omega]
    refine fr_iload (pc := 128) rfl dX5_copy_128 ?_
    refine fr_iload (pc := 130) rfl dX5_copy_130 ?_
    refine fr_icmp_ge (pc := 132) 162 (by decide) dX5_copy_132 (fun h132 => ?_) (fun h132 => ?_)
    · refine fr_iconst (pc := 162) (v := 0) rfl dX5_copy_162 ?_
      refine fr_istore (pc := 163) [(6, .int 0), (0, .ref 42), (1, .int (nI s)), (2, .int (nI a)), (3, .int (nI t)), (4, .int (nI c)), (5, .int (nI q))] (by decide) rfl dX5_copy_163 ?_
      refine fr_mem (M1 := (yM M r kr ar ik fi b ln ((v2 S.1 t (va_cpy (S.1 s) (S.1 t) a c 0)), S.2) it (cpf (fun p => S.1 s (a + p)) mv0 q) Q)) (congrArg (fun z => yM M r kr ar ik fi b ln (z, S.2) it (cpf (fun p => S.1 s (a + p)) mv0 q) Q) (cy_0 (nu := S.1) (s := s) (t := t) (a := a) (c := c)).symm) ?_
      exact fr_sub [1, 2, 3, 4, 5, 6, 0] rfl (yc_two hs ht ha hc (fun p hp => if_pos hp) q 0 (by omega))
    · exact absurd (Int32.le_refl _) h132
  | succ j ih =>
    intro k hk
    refine fr_iload (pc := 128) rfl dX5_copy_128 ?_
    refine fr_iload (pc := 130) rfl dX5_copy_130 ?_
    refine fr_icmp_ge (pc := 132) 162 (by decide) dX5_copy_132 (fun h132 => ?_) (fun h132 => ?_)
    · exact absurd h132 (nI_ge (by omega) (by omega))
    · refine fr_aload_n (pc := 135) rfl dX5_copy_135 ?_
      refine fr_get (pc := 136) (ci := 4) (T := TX5) (k0 := 19) rfl hin_X5 (by decide) fl_X5_57 (by decide) y_42 rfl dX5_copy_136 ?_
      refine fr_iload (pc := 139) rfl dX5_copy_139 ?_
      refine fr_aload_n (pc := 141) rfl dX5_copy_141 ?_
      refine fr_get (pc := 142) (ci := 4) (T := TX5) (k0 := 18) rfl hin_X5 (by decide) fl_X5_54 (by decide) y_42 rfl dX5_copy_142 ?_
      refine fr_bipush (pc := 145) (v := 40) rfl dX5_copy_145 ?_
      refine fr_iload_n (pc := 147) rfl dX5_copy_147 ?_
      refine fr_imul (pc := 148) dX5_copy_148 ?_
      refine fr_iload_n (pc := 149) rfl dX5_copy_149 ?_
      refine fr_iadd (pc := 150) dX5_copy_150 ?_
      refine fr_eq (z := nI (40 * s + a)) (n40 s a) ?_
      refine fr_iload (pc := 151) rfl dX5_copy_151 ?_
      refine fr_iadd (pc := 153) dX5_copy_153 ?_
      refine fr_eq (z := nI (40 * s + (a + k))) (by rw [nI_add, Nat.add_assoc]) ?_
      refine fr_iald (pc := 154) (40 * s + (a + k)) rfl (by decide) y_52 (by first | assumption | omega) (by decide) dX5_copy_154 ?_
      refine fr_eq (z := S.1 s (a + k)) (nf_at (by omega)) ?_
      refine fr_iast (pc := 155) k rfl (by decide) y_53 (by first | assumption | omega) (by decide) dX5_copy_155 ?_
      refine fr_mem y_u53 ?_
      refine fr_mem (M1 := (yM M r kr ar ik fi b ln S it (cpf (fun p => S.1 s (a + p)) mv0 (k + 1)) Q)) (congrArg (fun z => yM M r kr ar ik fi b ln S it z Q) (cpf_up (f := fun p => S.1 s (a + p)))) ?_
      refine fr_iinc (pc := 156) (v := nI (k + 1)) [(6, .int (nI (k + 1))), (0, .ref 42), (1, .int (nI s)), (2, .int (nI a)), (3, .int (nI t)), (4, .int (nI c)), (5, .int (nI q))] rfl (nI_1 k) (by decide) rfl dX5_copy_156 ?_
      refine fr_goto (pc := 159) 128 (by decide) dX5_copy_159 ?_
      exact fr_sub [1, 2, 3, 4, 5, 6, 0] rfl (ih (k + 1) (by omega))
set_option maxRecDepth 100000 in
theorem y_copy {Γ : aG} {l : Launch} {M : Nat → aC} {r : rT} {kr ar : Nat → Int32} {rk : rT} {ik : Int32} {fi b : Nat → Int32} {ln : Int32} {S : sT} {it mv : Nat → Int32} {Q : yQ} {s f t g n : Int32} (v : wS S) : ∃ mv' : Nat → Int32, Ev Γ l mX5_copy [.ref 42, .int s, .int f, .int t, .int g, .int n] 54 (yM M r kr ar ik fi b ln S it mv Q) (some (.int (sp_copy (r, rk, ik, S, b, ln, fi) s f t g n).1)) 54 (yF M kr ar it mv' Q (sp_copy (r, rk, ik, S, b, ln, fi) s f t g n).2) := by
  by_cases hc : wi s 0 3 = true ∧ wi t 0 3 = true
  · obtain ⟨i1, hi1, rfl⟩ := wi_nI (N := 3) hc.1 rfl
    have ei1 : (nI i1).toNatClampNeg = i1 := nI_clamp (by omega)
    obtain ⟨i2, hi2, rfl⟩ := wi_nI (N := 3) hc.2 rfl
    have ei2 : (nI i2).toNatClampNeg = i2 := nI_clamp (by omega)
    have l1 : i1 < 4 := by omega
    have l2 : i2 < 4 := by omega
    by_cases hm : S.2.1 i1 = 0 ∨ S.2.1 i2 = 0
    · rw [show sp_copy (r, rk, ik, S, b, ln, fi) (nI i1) f (nI i2) g n = fb (r, rk, ik, S, b, ln, fi) 5 from by unfold sp_copy; rw [if_pos hc, ei1, ei2]; exact if_pos hm]
      refine ⟨mv, ?_⟩
      refine Ev.of [(0, .ref 42), (1, .int (nI i1)), (2, .int f), (3, .int (nI i2)), (4, .int g), (5, .int n)] (by decide) (Nat.le_of_ble_eq_true rfl) rfl ?_
      refine fr_iload_n (pc := 0) rfl dX5_copy_0 ?_
      refine fr_callS0 (pc := 1) [.int (nI i1)] [] (c_X5_isSheet) gc_X5_203 rfl rfl ⟨rfl, rfl, by decide, by decide⟩ (Nat.le_of_ble_eq_true rfl) ⟨by decide, by decide⟩ dX5_copy_1 ?_
      refine fr_if_eq (pc := 4) 14 (by decide) dX5_copy_4 (fun h4 => ?_) (fun h4 => ?_)
      · have g4 := bI_0.mp h4
        exact absurd hc.1 g4
      · have g4 := bI_n0 h4
        refine fr_iload_n (pc := 7) rfl dX5_copy_7 ?_
        refine fr_callS0 (pc := 8) [.int (nI i2)] [] (c_X5_isSheet) gc_X5_203 rfl rfl ⟨rfl, rfl, by decide, by decide⟩ (Nat.le_of_ble_eq_true rfl) ⟨by decide, by decide⟩ dX5_copy_8 ?_
        refine fr_if_ne (pc := 11) 21 (by decide) dX5_copy_11 (fun h11 => ?_) (fun h11 => ?_)
        · have g11 := bI_n0 h11
          refine fr_aload_n (pc := 21) rfl dX5_copy_21 ?_
          refine fr_get (pc := 22) (ci := 4) (T := TX5) (k0 := 16) rfl hin_X5 (by decide) fl_X5_48 (by decide) y_42 rfl dX5_copy_22 ?_
          refine fr_iload_n (pc := 25) rfl dX5_copy_25 ?_
          refine fr_iald (pc := 26) i1 rfl (by decide) y_50 (by first | assumption | omega) (by decide) dX5_copy_26 ?_
          refine fr_if_eq (pc := 27) 39 (by decide) dX5_copy_27 (fun h27 => ?_) (fun h27 => ?_)
          · refine fr_aload_n (pc := 39) rfl dX5_copy_39 ?_
            refine fr_ldc (pc := 40) kc_X5_206 dX5_copy_40 ?_
            refine fr_callV0 (pc := 42) (ci := 4) (T := TX5) (N := 20) [.int (-1000006)] [] (c_fnd5) gc_X5_66 rfl rfl ⟨rfl, rfl, by decide, by decide⟩ (Nat.le_of_ble_eq_true rfl) rfl (by decide) y_42 ⟨by decide, by decide⟩ dX5_copy_42 ?_
            exact fr_ireturn (pc := 45) rfl rfl rfl rfl dX5_copy_45
          · refine fr_aload_n (pc := 30) rfl dX5_copy_30 ?_
            refine fr_get (pc := 31) (ci := 4) (T := TX5) (k0 := 16) rfl hin_X5 (by decide) fl_X5_48 (by decide) y_42 rfl dX5_copy_31 ?_
            refine fr_iload_n (pc := 34) rfl dX5_copy_34 ?_
            refine fr_iald (pc := 35) i2 rfl (by decide) y_50 (by first | assumption | omega) (by decide) dX5_copy_35 ?_
            refine fr_if_ne (pc := 36) 46 (by decide) dX5_copy_36 (fun h36 => ?_) (fun h36 => ?_)
            · exact absurd hm (fun z => z.elim h27 h36)
            · refine fr_aload_n (pc := 39) rfl dX5_copy_39 ?_
              refine fr_ldc (pc := 40) kc_X5_206 dX5_copy_40 ?_
              refine fr_callV0 (pc := 42) (ci := 4) (T := TX5) (N := 20) [.int (-1000006)] [] (c_fnd5) gc_X5_66 rfl rfl ⟨rfl, rfl, by decide, by decide⟩ (Nat.le_of_ble_eq_true rfl) rfl (by decide) y_42 ⟨by decide, by decide⟩ dX5_copy_42 ?_
              exact fr_ireturn (pc := 45) rfl rfl rfl rfl dX5_copy_45
        · have g11 := bI_0.mp h11
          exact absurd hc.2 g11
    · by_cases he : S.2.1 i1 = S.2.1 i2
      · by_cases hr : sR S i1 f n = true ∧ sR S i2 g n = true
        · obtain ⟨a, q, rfl, rfl, ha, -⟩ := sR_nI v l1 hr.1
          obtain ⟨c, q2, rfl, eq, hc2, -⟩ := sR_nI v l2 hr.2
          have ln1 := (v.1 i1 l1).2
          have e3 : q2 = q := (nI_eq (by omega) (by omega)).mp eq.symm
          subst e3
          have e4 : (nI a).toNatClampNeg = a := nI_clamp (by omega)
          have e5 : (nI c).toNatClampNeg = c := nI_clamp (by omega)
          have e6 : (nI q2).toNatClampNeg = q2 := nI_clamp (by omega)
          rw [show sp_copy (r, rk, ik, S, b, ln, fi) (nI i1) (nI a) (nI i2) (nI c) (nI q2) = (nI q2, sS4 (r, rk, ik, S, b, ln, fi) ((v2 S.1 i2 (va_cpy (S.1 i1) (S.1 i2) a c q2)), S.2)) from by unfold sp_copy; rw [if_pos hc, ei1, ei2, e4, e5, e6]; exact (if_neg hm).trans ((if_pos he).trans (if_pos hr))]
          refine ⟨(cpf (fun p => S.1 i1 (a + p)) mv q2), ?_⟩
          refine Ev.of [(0, .ref 42), (1, .int (nI i1)), (2, .int (nI a)), (3, .int (nI i2)), (4, .int (nI c)), (5, .int (nI q2))] (by decide) (Nat.le_of_ble_eq_true rfl) rfl ?_
          refine fr_iload_n (pc := 0) rfl dX5_copy_0 ?_
          refine fr_callS0 (pc := 1) [.int (nI i1)] [] (c_X5_isSheet) gc_X5_203 rfl rfl ⟨rfl, rfl, by decide, by decide⟩ (Nat.le_of_ble_eq_true rfl) ⟨by decide, by decide⟩ dX5_copy_1 ?_
          refine fr_if_eq (pc := 4) 14 (by decide) dX5_copy_4 (fun h4 => ?_) (fun h4 => ?_)
          · have g4 := bI_0.mp h4
            exact absurd hc.1 g4
          · have g4 := bI_n0 h4
            refine fr_iload_n (pc := 7) rfl dX5_copy_7 ?_
            refine fr_callS0 (pc := 8) [.int (nI i2)] [] (c_X5_isSheet) gc_X5_203 rfl rfl ⟨rfl, rfl, by decide, by decide⟩ (Nat.le_of_ble_eq_true rfl) ⟨by decide, by decide⟩ dX5_copy_8 ?_
            refine fr_if_ne (pc := 11) 21 (by decide) dX5_copy_11 (fun h11 => ?_) (fun h11 => ?_)
            · have g11 := bI_n0 h11
              refine fr_aload_n (pc := 21) rfl dX5_copy_21 ?_
              refine fr_get (pc := 22) (ci := 4) (T := TX5) (k0 := 16) rfl hin_X5 (by decide) fl_X5_48 (by decide) y_42 rfl dX5_copy_22 ?_
              refine fr_iload_n (pc := 25) rfl dX5_copy_25 ?_
              refine fr_iald (pc := 26) i1 rfl (by decide) y_50 (by first | assumption | omega) (by decide) dX5_copy_26 ?_
              refine fr_if_eq (pc := 27) 39 (by decide) dX5_copy_27 (fun h27 => ?_) (fun h27 => ?_)
              · exact absurd (Or.inl h27) hm
              · refine fr_aload_n (pc := 30) rfl dX5_copy_30 ?_
                refine fr_get (pc := 31) (ci := 4) (T := TX5) (k0 := 16) rfl hin_X5 (by decide) fl_X5_48 (by decide) y_42 rfl dX5_copy_31 ?_
                refine fr_iload_n (pc := 34) rfl dX5_copy_34 ?_
                refine fr_iald (pc := 35) i2 rfl (by decide) y_50 (by first | assumption | omega) (by decide) dX5_copy_35 ?_
                refine fr_if_ne (pc := 36) 46 (by decide) dX5_copy_36 (fun h36 => ?_) (fun h36 => ?_)
                · refine fr_aload_n (pc := 46) rfl dX5_copy_46 ?_
                  refine fr_get (pc := 47) (ci := 4) (T := TX5) (k0 := 16) rfl hin_X5 (by decide) fl_X5_48 (by decide) y_42 rfl dX5_copy_47 ?_
                  refine fr_iload_n (pc := 50) rfl dX5_copy_50 ?_
                  refine fr_iald (pc := 51) i1 rfl (by decide) y_50 (by first | assumption | omega) (by decide) dX5_copy_51 ?_
                  refine fr_aload_n (pc := 52) rfl dX5_copy_52 ?_
                  refine fr_get (pc := 53) (ci := 4) (T := TX5) (k0 := 16) rfl hin_X5 (by decide) fl_X5_48 (by decide) y_42 rfl dX5_copy_53 ?_
                  refine fr_iload_n (pc := 56) rfl dX5_copy_56 ?_
                  refine fr_iald (pc := 57) i2 rfl (by decide) y_50 (by first | assumption | omega) (by decide) dX5_copy_57 ?_
                  refine fr_icmp_eq (pc := 58) 69 (by decide) dX5_copy_58 (fun h58 => ?_) (fun h58 => ?_)
                  · refine fr_iload_n (pc := 69) rfl dX5_copy_69 ?_
                    refine fr_if_lt (pc := 70) 118 (by decide) dX5_copy_70 (fun h70 => ?_) (fun h70 => ?_)
                    · exact absurd h70 (nI_pos (by omega))
                    · refine fr_iload (pc := 73) rfl dX5_copy_73 ?_
                      refine fr_if_lt (pc := 75) 118 (by decide) dX5_copy_75 (fun h75 => ?_) (fun h75 => ?_)
                      · exact absurd h75 (nI_pos (by omega))
                      · refine fr_iload (pc := 78) rfl dX5_copy_78 ?_
                        refine fr_if_lt (pc := 80) 118 (by decide) dX5_copy_80 (fun h80 => ?_) (fun h80 => ?_)
                        · exact absurd h80 (nI_pos (by omega))
                        · refine fr_iload_n (pc := 83) rfl dX5_copy_83 ?_
                          refine fr_i2l (pc := 84) dX5_copy_84 ?_
                          refine fr_iload (pc := 85) rfl dX5_copy_85 ?_
                          refine fr_i2l (pc := 87) dX5_copy_87 ?_
                          refine fr_ladd (pc := 88) dX5_copy_88 ?_
                          refine fr_aload_n (pc := 89) rfl dX5_copy_89 ?_
                          refine fr_get (pc := 90) (ci := 4) (T := TX5) (k0 := 17) rfl hin_X5 (by decide) fl_X5_51 (by decide) y_42 rfl dX5_copy_90 ?_
                          refine fr_iload_n (pc := 93) rfl dX5_copy_93 ?_
                          refine fr_iald (pc := 94) i1 rfl (by decide) y_51 (by first | assumption | omega) (by decide) dX5_copy_94 ?_
                          refine fr_i2l (pc := 95) dX5_copy_95 ?_
                          refine fr_lcmp (pc := 96) dX5_copy_96 ?_
                          refine fr_if_gt (pc := 97) 118 (by decide) dX5_copy_97 (fun h97 => ?_) (fun h97 => ?_)
                          · exact absurd h97 ((rg v l1 (nI_pos (by omega)) (nI_pos (by omega))).mp hr.1)
                          · refine fr_iload (pc := 100) rfl dX5_copy_100 ?_
                            refine fr_i2l (pc := 102) dX5_copy_102 ?_
                            refine fr_iload (pc := 103) rfl dX5_copy_103 ?_
                            refine fr_i2l (pc := 105) dX5_copy_105 ?_
                            refine fr_ladd (pc := 106) dX5_copy_106 ?_
                            refine fr_aload_n (pc := 107) rfl dX5_copy_107 ?_
                            refine fr_get (pc := 108) (ci := 4) (T := TX5) (k0 := 17) rfl hin_X5 (by decide) fl_X5_51 (by decide) y_42 rfl dX5_copy_108 ?_
                            refine fr_iload_n (pc := 111) rfl dX5_copy_111 ?_
                            refine fr_iald (pc := 112) i2 rfl (by decide) y_51 (by first | assumption | omega) (by decide) dX5_copy_112 ?_
                            refine fr_i2l (pc := 113) dX5_copy_113 ?_
                            refine fr_lcmp (pc := 114) dX5_copy_114 ?_
                            refine fr_if_le (pc := 115) 125 (by decide) dX5_copy_115 (fun h115 => ?_) (fun h115 => ?_)
                            · refine fr_iconst (pc := 125) (v := 0) rfl dX5_copy_125 ?_
                              refine fr_istore (pc := 126) [(6, .int 0), (0, .ref 42), (1, .int (nI i1)), (2, .int (nI a)), (3, .int (nI i2)), (4, .int (nI c)), (5, .int (nI q2))] (by decide) rfl dX5_copy_126 ?_
                              refine fr_mem (M1 := (yM M r kr ar ik fi b ln S it (cpf (fun p => S.1 i1 (a + p)) mv 0) Q)) (congrArg (fun z => yM M r kr ar ik fi b ln S it z Q) (cpf_0 (f := fun p => S.1 i1 (a + p))).symm) ?_
                              exact fr_sub [1, 2, 3, 4, 5, 6, 0] rfl (yc_one l1 l2 ha hc2 q2 0 (by omega))
                            · exact absurd (Int32.not_le.mp h115) ((rg v l2 (nI_pos (by omega)) (nI_pos (by omega))).mp hr.2)
                  · exact absurd he h58
                · exact absurd (Or.inr h36) hm
            · have g11 := bI_0.mp h11
              exact absurd hc.2 g11
        · rw [show sp_copy (r, rk, ik, S, b, ln, fi) (nI i1) f (nI i2) g n = fb (r, rk, ik, S, b, ln, fi) 0 from by unfold sp_copy; rw [if_pos hc, ei1, ei2]; exact (if_neg hm).trans ((if_pos he).trans (if_neg hr))]
          refine ⟨mv, ?_⟩
          refine Ev.of [(0, .ref 42), (1, .int (nI i1)), (2, .int f), (3, .int (nI i2)), (4, .int g), (5, .int n)] (by decide) (Nat.le_of_ble_eq_true rfl) rfl ?_
          refine fr_iload_n (pc := 0) rfl dX5_copy_0 ?_
          refine fr_callS0 (pc := 1) [.int (nI i1)] [] (c_X5_isSheet) gc_X5_203 rfl rfl ⟨rfl, rfl, by decide, by decide⟩ (Nat.le_of_ble_eq_true rfl) ⟨by decide, by decide⟩ dX5_copy_1 ?_
          refine fr_if_eq (pc := 4) 14 (by decide) dX5_copy_4 (fun h4 => ?_) (fun h4 => ?_)
          · have g4 := bI_0.mp h4
            exact absurd hc.1 g4
          · have g4 := bI_n0 h4
            refine fr_iload_n (pc := 7) rfl dX5_copy_7 ?_
            refine fr_callS0 (pc := 8) [.int (nI i2)] [] (c_X5_isSheet) gc_X5_203 rfl rfl ⟨rfl, rfl, by decide, by decide⟩ (Nat.le_of_ble_eq_true rfl) ⟨by decide, by decide⟩ dX5_copy_8 ?_
            refine fr_if_ne (pc := 11) 21 (by decide) dX5_copy_11 (fun h11 => ?_) (fun h11 => ?_)
            · have g11 := bI_n0 h11
              refine fr_aload_n (pc := 21) rfl dX5_copy_21 ?_
              refine fr_get (pc := 22) (ci := 4) (T := TX5) (k0 := 16) rfl hin_X5 (by decide) fl_X5_48 (by decide) y_42 rfl dX5_copy_22 ?_
              refine fr_iload_n (pc := 25) rfl dX5_copy_25 ?_
              refine fr_iald (pc := 26) i1 rfl (by decide) y_50 (by first | assumption | omega) (by decide) dX5_copy_26 ?_
              refine fr_if_eq (pc := 27) 39 (by decide) dX5_copy_27 (fun h27 => ?_) (fun h27 => ?_)
              · exact absurd (Or.inl h27) hm
              · refine fr_aload_n (pc := 30) rfl dX5_copy_30 ?_
                refine fr_get (pc := 31) (ci := 4) (T := TX5) (k0 := 16) rfl hin_X5 (by decide) fl_X5_48 (by decide) y_42 rfl dX5_copy_31 ?_
                refine fr_iload_n (pc := 34) rfl dX5_copy_34 ?_
                refine fr_iald (pc := 35) i2 rfl (by decide) y_50 (by first | assumption | omega) (by decide) dX5_copy_35 ?_
                refine fr_if_ne (pc := 36) 46 (by decide) dX5_copy_36 (fun h36 => ?_) (fun h36 => ?_)
                · refine fr_aload_n (pc := 46) rfl dX5_copy_46 ?_
                  refine fr_get (pc := 47) (ci := 4) (T := TX5) (k0 := 16) rfl hin_X5 (by decide) fl_X5_48 (by decide) y_42 rfl dX5_copy_47 ?_
                  refine fr_iload_n (pc := 50) rfl dX5_copy_50 ?_
                  refine fr_iald (pc := 51) i1 rfl (by decide) y_50 (by first | assumption | omega) (by decide) dX5_copy_51 ?_
                  refine fr_aload_n (pc := 52) rfl dX5_copy_52 ?_
                  refine fr_get (pc := 53) (ci := 4) (T := TX5) (k0 := 16) rfl hin_X5 (by decide) fl_X5_48 (by decide) y_42 rfl dX5_copy_53 ?_
                  refine fr_iload_n (pc := 56) rfl dX5_copy_56 ?_
                  refine fr_iald (pc := 57) i2 rfl (by decide) y_50 (by first | assumption | omega) (by decide) dX5_copy_57 ?_
                  refine fr_icmp_eq (pc := 58) 69 (by decide) dX5_copy_58 (fun h58 => ?_) (fun h58 => ?_)
                  · refine fr_iload_n (pc := 69) rfl dX5_copy_69 ?_
                    refine fr_if_lt (pc := 70) 118 (by decide) dX5_copy_70 (fun h70 => ?_) (fun h70 => ?_)
                    · refine fr_aload_n (pc := 118) rfl dX5_copy_118 ?_
                      refine fr_ldc (pc := 119) kc_X5_60 dX5_copy_119 ?_
                      refine fr_callV0 (pc := 121) (ci := 4) (T := TX5) (N := 20) [.int (-1000001)] [] (c_fnd0) gc_X5_66 rfl rfl ⟨rfl, rfl, by decide, by decide⟩ (Nat.le_of_ble_eq_true rfl) rfl (by decide) y_42 ⟨by decide, by decide⟩ dX5_copy_121 ?_
                      exact fr_ireturn (pc := 124) rfl rfl rfl rfl dX5_copy_124
                    · refine fr_iload (pc := 73) rfl dX5_copy_73 ?_
                      refine fr_if_lt (pc := 75) 118 (by decide) dX5_copy_75 (fun h75 => ?_) (fun h75 => ?_)
                      · refine fr_aload_n (pc := 118) rfl dX5_copy_118 ?_
                        refine fr_ldc (pc := 119) kc_X5_60 dX5_copy_119 ?_
                        refine fr_callV0 (pc := 121) (ci := 4) (T := TX5) (N := 20) [.int (-1000001)] [] (c_fnd0) gc_X5_66 rfl rfl ⟨rfl, rfl, by decide, by decide⟩ (Nat.le_of_ble_eq_true rfl) rfl (by decide) y_42 ⟨by decide, by decide⟩ dX5_copy_121 ?_
                        exact fr_ireturn (pc := 124) rfl rfl rfl rfl dX5_copy_124
                      · refine fr_iload (pc := 78) rfl dX5_copy_78 ?_
                        refine fr_if_lt (pc := 80) 118 (by decide) dX5_copy_80 (fun h80 => ?_) (fun h80 => ?_)
                        · refine fr_aload_n (pc := 118) rfl dX5_copy_118 ?_
                          refine fr_ldc (pc := 119) kc_X5_60 dX5_copy_119 ?_
                          refine fr_callV0 (pc := 121) (ci := 4) (T := TX5) (N := 20) [.int (-1000001)] [] (c_fnd0) gc_X5_66 rfl rfl ⟨rfl, rfl, by decide, by decide⟩ (Nat.le_of_ble_eq_true rfl) rfl (by decide) y_42 ⟨by decide, by decide⟩ dX5_copy_121 ?_
                          exact fr_ireturn (pc := 124) rfl rfl rfl rfl dX5_copy_124
                        · refine fr_iload_n (pc := 83) rfl dX5_copy_83 ?_
                          refine fr_i2l (pc := 84) dX5_copy_84 ?_
                          refine fr_iload (pc := 85) rfl dX5_copy_85 ?_
                          refine fr_i2l (pc := 87) dX5_copy_87 ?_
                          refine fr_ladd (pc := 88) dX5_copy_88 ?_
                          refine fr_aload_n (pc := 89) rfl dX5_copy_89 ?_
                          refine fr_get (pc := 90) (ci := 4) (T := TX5) (k0 := 17) rfl hin_X5 (by decide) fl_X5_51 (by decide) y_42 rfl dX5_copy_90 ?_
                          refine fr_iload_n (pc := 93) rfl dX5_copy_93 ?_
                          refine fr_iald (pc := 94) i1 rfl (by decide) y_51 (by first | assumption | omega) (by decide) dX5_copy_94 ?_
                          refine fr_i2l (pc := 95) dX5_copy_95 ?_
                          refine fr_lcmp (pc := 96) dX5_copy_96 ?_
                          refine fr_if_gt (pc := 97) 118 (by decide) dX5_copy_97 (fun h97 => ?_) (fun h97 => ?_)
                          · refine fr_aload_n (pc := 118) rfl dX5_copy_118 ?_
                            refine fr_ldc (pc := 119) kc_X5_60 dX5_copy_119 ?_
                            refine fr_callV0 (pc := 121) (ci := 4) (T := TX5) (N := 20) [.int (-1000001)] [] (c_fnd0) gc_X5_66 rfl rfl ⟨rfl, rfl, by decide, by decide⟩ (Nat.le_of_ble_eq_true rfl) rfl (by decide) y_42 ⟨by decide, by decide⟩ dX5_copy_121 ?_
                            exact fr_ireturn (pc := 124) rfl rfl rfl rfl dX5_copy_124
                          · refine fr_iload (pc := 100) rfl dX5_copy_100 ?_
                            refine fr_i2l (pc := 102) dX5_copy_102 ?_
                            refine fr_iload (pc := 103) rfl dX5_copy_103 ?_
                            refine fr_i2l (pc := 105) dX5_copy_105 ?_
                            refine fr_ladd (pc := 106) dX5_copy_106 ?_
                            refine fr_aload_n (pc := 107) rfl dX5_copy_107 ?_
                            refine fr_get (pc := 108) (ci := 4) (T := TX5) (k0 := 17) rfl hin_X5 (by decide) fl_X5_51 (by decide) y_42 rfl dX5_copy_108 ?_
                            refine fr_iload_n (pc := 111) rfl dX5_copy_111 ?_
                            refine fr_iald (pc := 112) i2 rfl (by decide) y_51 (by first | assumption | omega) (by decide) dX5_copy_112 ?_
                            refine fr_i2l (pc := 113) dX5_copy_113 ?_
                            refine fr_lcmp (pc := 114) dX5_copy_114 ?_
                            refine fr_if_le (pc := 115) 125 (by decide) dX5_copy_115 (fun h115 => ?_) (fun h115 => ?_)
                            · have f1 : ¬ f < 0 := h70
                              have n1 : ¬ n < 0 := h80
                              have g1 : ¬ g < 0 := h75
                              exact absurd ⟨(rg v l1 f1 n1).mpr h97, (rg v l2 g1 n1).mpr (Int32.not_lt.mpr h115)⟩ hr
                            · refine fr_aload_n (pc := 118) rfl dX5_copy_118 ?_
                              refine fr_ldc (pc := 119) kc_X5_60 dX5_copy_119 ?_
                              refine fr_callV0 (pc := 121) (ci := 4) (T := TX5) (N := 20) [.int (-1000001)] [] (c_fnd0) gc_X5_66 rfl rfl ⟨rfl, rfl, by decide, by decide⟩ (Nat.le_of_ble_eq_true rfl) rfl (by decide) y_42 ⟨by decide, by decide⟩ dX5_copy_121 ?_
                              exact fr_ireturn (pc := 124) rfl rfl rfl rfl dX5_copy_124
                  · exact absurd he h58
                · exact absurd (Or.inr h36) hm
            · have g11 := bI_0.mp h11
              exact absurd hc.2 g11
      · rw [show sp_copy (r, rk, ik, S, b, ln, fi) (nI i1) f (nI i2) g n = fb (r, rk, ik, S, b, ln, fi) 2 from by unfold sp_copy; rw [if_pos hc, ei1, ei2]; exact (if_neg hm).trans (if_neg he)]
        refine ⟨mv, ?_⟩
        refine Ev.of [(0, .ref 42), (1, .int (nI i1)), (2, .int f), (3, .int (nI i2)), (4, .int g), (5, .int n)] (by decide) (Nat.le_of_ble_eq_true rfl) rfl ?_
        refine fr_iload_n (pc := 0) rfl dX5_copy_0 ?_
        refine fr_callS0 (pc := 1) [.int (nI i1)] [] (c_X5_isSheet) gc_X5_203 rfl rfl ⟨rfl, rfl, by decide, by decide⟩ (Nat.le_of_ble_eq_true rfl) ⟨by decide, by decide⟩ dX5_copy_1 ?_
        refine fr_if_eq (pc := 4) 14 (by decide) dX5_copy_4 (fun h4 => ?_) (fun h4 => ?_)
        · have g4 := bI_0.mp h4
          exact absurd hc.1 g4
        · have g4 := bI_n0 h4
          refine fr_iload_n (pc := 7) rfl dX5_copy_7 ?_
          refine fr_callS0 (pc := 8) [.int (nI i2)] [] (c_X5_isSheet) gc_X5_203 rfl rfl ⟨rfl, rfl, by decide, by decide⟩ (Nat.le_of_ble_eq_true rfl) ⟨by decide, by decide⟩ dX5_copy_8 ?_
          refine fr_if_ne (pc := 11) 21 (by decide) dX5_copy_11 (fun h11 => ?_) (fun h11 => ?_)
          · have g11 := bI_n0 h11
            refine fr_aload_n (pc := 21) rfl dX5_copy_21 ?_
            refine fr_get (pc := 22) (ci := 4) (T := TX5) (k0 := 16) rfl hin_X5 (by decide) fl_X5_48 (by decide) y_42 rfl dX5_copy_22 ?_
            refine fr_iload_n (pc := 25) rfl dX5_copy_25 ?_
            refine fr_iald (pc := 26) i1 rfl (by decide) y_50 (by first | assumption | omega) (by decide) dX5_copy_26 ?_
            refine fr_if_eq (pc := 27) 39 (by decide) dX5_copy_27 (fun h27 => ?_) (fun h27 => ?_)
            · exact absurd (Or.inl h27) hm
            · refine fr_aload_n (pc := 30) rfl dX5_copy_30 ?_
              refine fr_get (pc := 31) (ci := 4) (T := TX5) (k0 := 16) rfl hin_X5 (by decide) fl_X5_48 (by decide) y_42 rfl dX5_copy_31 ?_
              refine fr_iload_n (pc := 34) rfl dX5_copy_34 ?_
              refine fr_iald (pc := 35) i2 rfl (by decide) y_50 (by first | assumption | omega) (by decide) dX5_copy_35 ?_
              refine fr_if_ne (pc := 36) 46 (by decide) dX5_copy_36 (fun h36 => ?_) (fun h36 => ?_)
              · refine fr_aload_n (pc := 46) rfl dX5_copy_46 ?_
                refine fr_get (pc := 47) (ci := 4) (T := TX5) (k0 := 16) rfl hin_X5 (by decide) fl_X5_48 (by decide) y_42 rfl dX5_copy_47 ?_
                refine fr_iload_n (pc := 50) rfl dX5_copy_50 ?_
                refine fr_iald (pc := 51) i1 rfl (by decide) y_50 (by first | assumption | omega) (by decide) dX5_copy_51 ?_
                refine fr_aload_n (pc := 52) rfl dX5_copy_52 ?_
                refine fr_get (pc := 53) (ci := 4) (T := TX5) (k0 := 16) rfl hin_X5 (by decide) fl_X5_48 (by decide) y_42 rfl dX5_copy_53 ?_
                refine fr_iload_n (pc := 56) rfl dX5_copy_56 ?_
                refine fr_iald (pc := 57) i2 rfl (by decide) y_50 (by first | assumption | omega) (by decide) dX5_copy_57 ?_
                refine fr_icmp_eq (pc := 58) 69 (by decide) dX5_copy_58 (fun h58 => ?_) (fun h58 => ?_)
                · exact absurd h58 he
                · refine fr_aload_n (pc := 61) rfl dX5_copy_61 ?_
                  refine fr_ldcw (pc := 62) kc_X5_302 dX5_copy_62 ?_
                  refine fr_callV0 (pc := 65) (ci := 4) (T := TX5) (N := 20) [.int (-1000003)] [] (c_fnd2) gc_X5_66 rfl rfl ⟨rfl, rfl, by decide, by decide⟩ (Nat.le_of_ble_eq_true rfl) rfl (by decide) y_42 ⟨by decide, by decide⟩ dX5_copy_65 ?_
                  exact fr_ireturn (pc := 68) rfl rfl rfl rfl dX5_copy_68
              · exact absurd (Or.inr h36) hm
          · have g11 := bI_0.mp h11
            exact absurd hc.2 g11
  · rw [show sp_copy (r, rk, ik, S, b, ln, fi) s f t g n = fb (r, rk, ik, S, b, ln, fi) 0 from if_neg hc]
    refine ⟨mv, ?_⟩
    refine Ev.of [(0, .ref 42), (1, .int s), (2, .int f), (3, .int t), (4, .int g), (5, .int n)] (by decide) (Nat.le_of_ble_eq_true rfl) rfl ?_
    refine fr_iload_n (pc := 0) rfl dX5_copy_0 ?_
    refine fr_callS0 (pc := 1) [.int s] [] (c_X5_isSheet) gc_X5_203 rfl rfl ⟨rfl, rfl, by decide, by decide⟩ (Nat.le_of_ble_eq_true rfl) ⟨by decide, by decide⟩ dX5_copy_1 ?_
    refine fr_if_eq (pc := 4) 14 (by decide) dX5_copy_4 (fun h4 => ?_) (fun h4 => ?_)
    · have g4 := bI_0.mp h4
      refine fr_aload_n (pc := 14) rfl dX5_copy_14 ?_
      refine fr_ldc (pc := 15) kc_X5_60 dX5_copy_15 ?_
      refine fr_callV0 (pc := 17) (ci := 4) (T := TX5) (N := 20) [.int (-1000001)] [] (c_fnd0) gc_X5_66 rfl rfl ⟨rfl, rfl, by decide, by decide⟩ (Nat.le_of_ble_eq_true rfl) rfl (by decide) y_42 ⟨by decide, by decide⟩ dX5_copy_17 ?_
      exact fr_ireturn (pc := 20) rfl rfl rfl rfl dX5_copy_20
    · have g4 := bI_n0 h4
      refine fr_iload_n (pc := 7) rfl dX5_copy_7 ?_
      refine fr_callS0 (pc := 8) [.int t] [] (c_X5_isSheet) gc_X5_203 rfl rfl ⟨rfl, rfl, by decide, by decide⟩ (Nat.le_of_ble_eq_true rfl) ⟨by decide, by decide⟩ dX5_copy_8 ?_
      refine fr_if_ne (pc := 11) 21 (by decide) dX5_copy_11 (fun h11 => ?_) (fun h11 => ?_)
      · have g11 := bI_n0 h11
        exact absurd ⟨g4, g11⟩ hc
      · have g11 := bI_0.mp h11
        refine fr_aload_n (pc := 14) rfl dX5_copy_14 ?_
        refine fr_ldc (pc := 15) kc_X5_60 dX5_copy_15 ?_
        refine fr_callV0 (pc := 17) (ci := 4) (T := TX5) (N := 20) [.int (-1000001)] [] (c_fnd0) gc_X5_66 rfl rfl ⟨rfl, rfl, by decide, by decide⟩ (Nat.le_of_ble_eq_true rfl) rfl (by decide) y_42 ⟨by decide, by decide⟩ dX5_copy_17 ?_
        exact fr_ireturn (pc := 20) rfl rfl rfl rfl dX5_copy_20
set_option maxRecDepth 100000 in
theorem yo_pow {Γ : aG} {l : Launch} {M : Nat → aC} {r : rT} {kr ar : Nat → Int32} {ik : Int32} {fi b : Nat → Int32} {ln : Int32} {S : sT} {it mv : Nat → Int32} {Q : yQ} {g N : Nat} {q gd : Int32} (hN : N < 1000) {by9 : Int32} (hb : ¬ by9 = 0) : ∀ (k i : Nat) (a : Int64), i + k = N → Fr Γ l mX5_odds 117 [(0, .ref 42), (1, .int (nI g)), (2, .int (nI N)), (3, .int q), (4, .int 21), (5, .int gd), (6, .int by9), (8, .long a), (10, .int (nI i))] [] 54 0 0 (yM M r kr ar ik fi b ln S it mv Q) (some (.long (s_pow ((if q = 0 then gd else 21) / by9).toInt64 k a))) 54 (yM M r kr ar ik fi b ln S it mv Q) := by
  intro k
  induction k with
  | zero =>
    intro i a hn
    refine fr_iload (pc := 117) rfl dX5_odds_117 ?_
    refine fr_iload_n (pc := 119) rfl dX5_odds_119 ?_
    refine fr_icmp_ge (pc := 120) 149 (by decide) dX5_odds_120 (fun h120 => ?_) (fun h120 => ?_)
    · refine fr_lload (pc := 149) rfl dX5_odds_149 ?_
      exact fr_lreturn (pc := 151) rfl rfl rfl dX5_odds_151
    · exact absurd (nI_le (by omega) (by omega)) h120
  | succ k ih =>
    intro i a hn
    refine fr_iload (pc := 117) rfl dX5_odds_117 ?_
    refine fr_iload_n (pc := 119) rfl dX5_odds_119 ?_
    refine fr_icmp_ge (pc := 120) 149 (by decide) dX5_odds_120 (fun h120 => ?_) (fun h120 => ?_)
    · exact absurd h120 (nI_ge (by omega) (by omega))
    · refine fr_lload (pc := 123) rfl dX5_odds_123 ?_
      refine fr_iload_n (pc := 125) rfl dX5_odds_125 ?_
      refine fr_if_ne (pc := 126) 134 (by decide) dX5_odds_126 (fun h126 => ?_) (fun h126 => ?_)
      · refine fr_iload (pc := 134) rfl dX5_odds_134 ?_
        refine fr_iload (pc := 136) rfl dX5_odds_136 ?_
        refine fr_idiv (pc := 138) hb dX5_odds_138 ?_
        refine fr_eq (z := ((if q = 0 then gd else 21) / by9)) (by rw [if_neg h126]) ?_
        refine fr_i2l (pc := 139) dX5_odds_139 ?_
        refine fr_lmul (pc := 140) dX5_odds_140 ?_
        refine fr_lstore (pc := 141) [(8, .long (a * ((((if q = 0 then gd else 21) / by9)).toInt64))), (0, .ref 42), (1, .int (nI g)), (2, .int (nI N)), (3, .int q), (4, .int 21), (5, .int gd), (6, .int by9), (10, .int (nI i))] (by decide) rfl dX5_odds_141 ?_
        refine fr_iinc (pc := 143) (v := nI (i + 1)) [(10, .int (nI (i + 1))), (8, .long (a * ((((if q = 0 then gd else 21) / by9)).toInt64))), (0, .ref 42), (1, .int (nI g)), (2, .int (nI N)), (3, .int q), (4, .int 21), (5, .int gd), (6, .int by9)] rfl (nI_1 i) (by decide) rfl dX5_odds_143 ?_
        refine fr_goto (pc := 146) 117 (by decide) dX5_odds_146 ?_
        rw [s_pow]
        exact fr_sub [2, 3, 4, 5, 6, 7, 8, 1, 0] rfl (ih (i + 1) (a * ((if q = 0 then gd else 21) / by9).toInt64) (by omega))
      · refine fr_iload (pc := 129) rfl dX5_odds_129 ?_
        refine fr_goto (pc := 131) 136 (by decide) dX5_odds_131 ?_
        refine fr_iload (pc := 136) rfl dX5_odds_136 ?_
        refine fr_idiv (pc := 138) hb dX5_odds_138 ?_
        refine fr_eq (z := ((if q = 0 then gd else 21) / by9)) (by rw [if_pos h126]) ?_
        refine fr_i2l (pc := 139) dX5_odds_139 ?_
        refine fr_lmul (pc := 140) dX5_odds_140 ?_
        refine fr_lstore (pc := 141) [(8, .long (a * ((((if q = 0 then gd else 21) / by9)).toInt64))), (0, .ref 42), (1, .int (nI g)), (2, .int (nI N)), (3, .int q), (4, .int 21), (5, .int gd), (6, .int by9), (10, .int (nI i))] (by decide) rfl dX5_odds_141 ?_
        refine fr_iinc (pc := 143) (v := nI (i + 1)) [(10, .int (nI (i + 1))), (8, .long (a * ((((if q = 0 then gd else 21) / by9)).toInt64))), (0, .ref 42), (1, .int (nI g)), (2, .int (nI N)), (3, .int q), (4, .int 21), (5, .int gd), (6, .int by9)] rfl (nI_1 i) (by decide) rfl dX5_odds_143 ?_
        refine fr_goto (pc := 146) 117 (by decide) dX5_odds_146 ?_
        rw [s_pow]
        exact fr_sub [2, 3, 4, 5, 6, 7, 8, 1, 0] rfl (ih (i + 1) (a * ((if q = 0 then gd else 21) / by9).toInt64) (by omega))
set_option maxRecDepth 100000 in
theorem yo_gcd {Γ : aG} {l : Launch} {M : Nat → aC} {r : rT} {kr ar : Nat → Int32} {ik : Int32} {fi b : Nat → Int32} {ln : Int32} {S : sT} {it mv : Nat → Int32} {Q : yQ} {g N : Nat} {q gd : Int32} {R : Option Value} {M1 : Nat → aC} : ∀ (K a d : Nat), a < K → a < 1000 → d < 1000 → Fr Γ l mX5_odds 111 [(0, .ref 42), (1, .int (nI g)), (2, .int (nI N)), (3, .int q), (4, .int 21), (5, .int gd), (6, .int (s_gcd K (nI a) (nI d)))] [] 54 0 0 (yM M r kr ar ik fi b ln S it mv Q) R 54 M1 → Fr Γ l mX5_odds 88 [(0, .ref 42), (1, .int (nI g)), (2, .int (nI N)), (3, .int q), (4, .int 21), (5, .int gd), (6, .int (nI d)), (7, .int (nI a))] [] 54 0 0 (yM M r kr ar ik fi b ln S it mv Q) R 54 M1 := by
  intro K
  induction K with
  | zero => intro a d h; omega
  | succ K ih =>
    intro a d h1 h2 h3 H
    refine fr_iload (pc := 88) rfl dX5_odds_88 ?_
    refine fr_if_eq (pc := 90) 111 (by decide) dX5_odds_90 (fun h90 => ?_) (fun h90 => ?_)
    · rw [show s_gcd (K + 1) (nI a) (nI d) = nI d from if_pos h90] at H
      exact fr_sub [0, 1, 2, 3, 4, 5, 6] rfl (H)
    · refine fr_iload (pc := 93) rfl dX5_odds_93 ?_
      refine fr_iload (pc := 95) rfl dX5_odds_95 ?_
      refine fr_irem (pc := 97) h90 dX5_odds_97 ?_
      refine fr_eq (z := nI (d % a)) (rm_nI (by omega) (by omega) (Nat.pos_of_ne_zero (fun z => h90 (by rw [z]; rfl)))) ?_
      refine fr_istore (pc := 98) [(8, .int (nI (d % a))), (0, .ref 42), (1, .int (nI g)), (2, .int (nI N)), (3, .int q), (4, .int 21), (5, .int gd), (6, .int (nI d)), (7, .int (nI a))] (by decide) rfl dX5_odds_98 ?_
      refine fr_iload (pc := 100) rfl dX5_odds_100 ?_
      refine fr_istore (pc := 102) [(6, .int (nI a)), (8, .int (nI (d % a))), (0, .ref 42), (1, .int (nI g)), (2, .int (nI N)), (3, .int q), (4, .int 21), (5, .int gd), (7, .int (nI a))] (by decide) rfl dX5_odds_102 ?_
      refine fr_iload (pc := 104) rfl dX5_odds_104 ?_
      refine fr_istore (pc := 106) [(7, .int (nI (d % a))), (6, .int (nI a)), (8, .int (nI (d % a))), (0, .ref 42), (1, .int (nI g)), (2, .int (nI N)), (3, .int q), (4, .int 21), (5, .int gd)] (by decide) rfl dX5_odds_106 ?_
      refine fr_goto (pc := 108) 88 (by decide) dX5_odds_108 ?_
      have ha0 : 0 < a := Nat.pos_of_ne_zero (fun z => h90 (by rw [z]; rfl))
      rw [show s_gcd (K + 1) (nI a) (nI d) = s_gcd K (nI (d % a)) (nI a) from by rw [s_gcd, if_neg h90, rm_nI (by omega) (by omega) ha0]] at H
      have hlt := Nat.mod_lt d ha0
      exact fr_sub [3, 4, 5, 6, 7, 8, 1, 0] rfl (ih (d % a) a (by omega) (by omega) h2 H)
set_option maxRecDepth 100000 in
theorem yo_sum {Γ : aG} {l : Launch} {M : Nat → aC} {r : rT} {kr ar : Nat → Int32} {ik : Int32} {fi b : Nat → Int32} {ln : Int32} {S : sT} {it mv : Nat → Int32} {Q : yQ} {g N : Nat} {q : Int32} (hN : N < 1000) (hg : g < 8) (w : wf r) : ∀ (k m a : Nat), m + k = 37 → a + k ≤ 21 → Fr Γ l mX5_odds 46 [(0, .ref 42), (1, .int (nI g)), (2, .int (nI N)), (3, .int q), (4, .int 21), (5, .int (nI a)), (6, .int (nI m))] [] 54 0 0 (yM M r kr ar ik fi b ln S it mv Q) (some (.long (s_pow ((if q = 0 then (s_sum (s_mta r g) k m (nI a)) else 21) / s_gcd 32 (s_sum (s_mta r g) k m (nI a)) 21).toInt64 N 1))) 54 (yM M r kr ar ik fi b ln S it mv Q) := by
  have ham := w.am hg
  intro k
  induction k with
  | zero =>
    intro m a hm ha
    rw [show s_sum (s_mta r g) 0 m (nI a) = nI a from rfl]
    refine fr_iload (pc := 46) rfl dX5_odds_46 ?_
    refine fr_bipush (pc := 48) (v := 36) rfl dX5_odds_48 ?_
    refine fr_icmp_gt (pc := 50) 80 (by decide) dX5_odds_50 (fun h50 => ?_) (fun h50 => ?_)
    · refine fr_iload (pc := 80) rfl dX5_odds_80 ?_
      refine fr_istore (pc := 82) [(6, .int 21), (0, .ref 42), (1, .int (nI g)), (2, .int (nI N)), (3, .int q), (4, .int 21), (5, .int (nI a))] (by decide) rfl dX5_odds_82 ?_
      refine fr_iload (pc := 84) rfl dX5_odds_84 ?_
      refine fr_istore (pc := 86) [(7, .int (nI a)), (6, .int 21), (0, .ref 42), (1, .int (nI g)), (2, .int (nI N)), (3, .int q), (4, .int 21), (5, .int (nI a))] (by decide) rfl dX5_odds_86 ?_
      refine fr_sub [2, 3, 4, 5, 6, 7, 1, 0] rfl (yo_gcd 32 a 21 (by omega) (by omega) (by decide) ?_)
      refine fr_lconst (pc := 111) (v := 1) rfl dX5_odds_111 ?_
      refine fr_lstore (pc := 112) [(8, .long 1), (0, .ref 42), (1, .int (nI g)), (2, .int (nI N)), (3, .int q), (4, .int 21), (5, .int (nI a)), (6, .int (s_gcd 32 (nI a) (nI 21)))] (by decide) rfl dX5_odds_112 ?_
      refine fr_iconst (pc := 114) (v := 0) rfl dX5_odds_114 ?_
      refine fr_istore (pc := 115) [(10, .int 0), (8, .long 1), (0, .ref 42), (1, .int (nI g)), (2, .int (nI N)), (3, .int q), (4, .int 21), (5, .int (nI a)), (6, .int (s_gcd 32 (nI a) (nI 21)))] (by decide) rfl dX5_odds_115 ?_
      exact fr_sub [2, 3, 4, 5, 6, 7, 8, 1, 0] rfl (yo_pow hN (gcd_ne 32 (nI a) (nI 21) (by decide)) N 0 1 (by omega))
    · exact absurd (nI_lt (a := 36) (b := m) (by omega) (by omega)) h50
  | succ k ih =>
    intro m a hm ha
    refine fr_iload (pc := 46) rfl dX5_odds_46 ?_
    refine fr_bipush (pc := 48) (v := 36) rfl dX5_odds_48 ?_
    refine fr_icmp_gt (pc := 50) 80 (by decide) dX5_odds_50 (fun h50 => ?_) (fun h50 => ?_)
    · exact absurd h50 (nI_nlt (a := 36) (b := m) (by omega) (by omega))
    · refine fr_iload (pc := 53) rfl dX5_odds_53 ?_
      refine fr_aload_n (pc := 55) rfl dX5_odds_55 ?_
      refine fr_iload_n (pc := 56) rfl dX5_odds_56 ?_
      refine fr_iload (pc := 57) rfl dX5_odds_57 ?_
      refine fr_callV0 (pc := 59) (ci := 4) (T := TX5) (N := 20) [.int (nI g), .int (nI m)] [.int (nI a)] (c_X5_reachOf (by first | assumption | omega) (by assumption)) gc_X5_141 rfl rfl ⟨rfl, rfl, by decide, by decide⟩ (Nat.le_of_ble_eq_true rfl) rfl (by decide) y_42 ⟨by decide, by decide⟩ dX5_odds_59 ?_
      refine fr_aload_n (pc := 62) rfl dX5_odds_62 ?_
      refine fr_iload_n (pc := 63) rfl dX5_odds_63 ?_
      refine fr_iconst (pc := 64) (v := 3) rfl dX5_odds_64 ?_
      refine fr_callV0 (pc := 65) (ci := 4) (T := TX5) (N := 20) [.int (nI g), .int 3] [.int (s_reach r g (nI m)), .int (nI a)] (c_X5_guestIs (k := 3) (by first | assumption | omega) (by first | decide | assumption | omega)) gc_X5_116 rfl rfl ⟨rfl, rfl, by decide, by decide⟩ (Nat.le_of_ble_eq_true rfl) rfl (by decide) y_42 ⟨by decide, by decide⟩ dX5_odds_65 ?_
      refine fr_eq (z := nI (nat r 5 g)) ham.1 ?_
      refine fr_ishr (pc := 68) dX5_odds_68 ?_
      refine fr_iconst (pc := 69) (v := 1) rfl dX5_odds_69 ?_
      refine fr_iand (pc := 70) dX5_odds_70 ?_
      refine fr_eq (z := s_mta r g m) mta_and ?_
      refine fr_iadd (pc := 71) dX5_odds_71 ?_
      refine fr_nm (fun x5_72 e_x5_72 => ?_)
      refine fr_istore (pc := 72) [(5, .int x5_72), (0, .ref 42), (1, .int (nI g)), (2, .int (nI N)), (3, .int q), (4, .int 21), (6, .int (nI m))] (by decide) rfl dX5_odds_72 ?_
      refine fr_iinc (pc := 74) (v := nI (m + 1)) [(6, .int (nI (m + 1))), (5, .int x5_72), (0, .ref 42), (1, .int (nI g)), (2, .int (nI N)), (3, .int q), (4, .int 21)] rfl (nI_1 m) (by decide) rfl dX5_odds_74 ?_
      refine fr_goto (pc := 77) 46 (by decide) dX5_odds_77 ?_
      rw [s_sum]
      subst e_x5_72
      by_cases hmt : s_mta r g m = 1
      · rw [hmt, nI_1]
        exact fr_sub [2, 3, 4, 5, 6, 1, 0] rfl (ih (m + 1) (a + 1) (by omega) (by omega))
      · have hm0 : s_mta r g m = 0 := by
          unfold s_mta at hmt ⊢
          split
          · rename_i z; rw [if_pos z] at hmt; exact absurd rfl hmt
          · rfl
        rw [hm0, Int32.add_zero]
        exact fr_sub [2, 3, 4, 5, 6, 1, 0] rfl (ih (m + 1) a (by omega) (by omega))
set_option maxRecDepth 100000 in
theorem y_odds {Γ : aG} {l : Launch} {M : Nat → aC} {r : rT} {kr ar : Nat → Int32} {rk : rT} {ik : Int32} {fi b : Nat → Int32} {ln : Int32} {S : sT} {it mv : Nat → Int32} {Q : yQ} {g n q : Int32} (w : wf r)  : Ev Γ l mX5_odds [.ref 42, .int g, .int n, .int q] 54 (yM M r kr ar ik fi b ln S it mv Q) (some (.long (sp_odds (r, rk, ik, S, b, ln, fi) g n q).1)) 54 (yF M kr ar it mv Q (sp_odds (r, rk, ik, S, b, ln, fi) g n q).2) := by
  refine Ev.of [(0, .ref 42), (1, .int g), (2, .int n), (3, .int q)] (by decide) (Nat.le_of_ble_eq_true rfl) rfl ?_
  refine fr_aload_n (pc := 0) rfl dX5_odds_0 ?_
  refine fr_iload_n (pc := 1) rfl dX5_odds_1 ?_
  refine fr_callV0 (pc := 2) (ci := 4) (T := TX5) (N := 20) [.int g] [] (c_X5_isGuest ) gc_X5_131 rfl rfl ⟨rfl, rfl, by decide, by decide⟩ (Nat.le_of_ble_eq_true rfl) rfl (by decide) y_42 ⟨by decide, by decide⟩ dX5_odds_2 ?_
  refine fr_if_eq (pc := 5) 27 (by decide) dX5_odds_5 (fun h5 => ?_) (fun h5 => ?_)
  · have g5 := bI_0.mp h5
    refine fr_aload_n (pc := 27) rfl dX5_odds_27 ?_
    refine fr_ldc (pc := 28) kc_X5_60 dX5_odds_28 ?_
    refine fr_callV0 (pc := 30) (ci := 4) (T := TX5) (N := 20) [.int (-1000001)] [] (c_fnd0) gc_X5_66 rfl rfl ⟨rfl, rfl, by decide, by decide⟩ (Nat.le_of_ble_eq_true rfl) rfl (by decide) y_42 ⟨by decide, by decide⟩ dX5_odds_30 ?_
    refine fr_i2l (pc := 33) dX5_odds_33 ?_
    exact fr_lreturn (pc := 34) rfl (by simp only [sp_odds, fb, sr, sG, sS4, yF, g5, if_true, if_false, not_true_eq_false, not_false_eq_true, or_true, true_or, or_false, false_or, and_true, true_and, and_false, false_and, or_self, and_self, eq_self] <;> rfl) (by simp only [sp_odds, fb, sr, sG, sS4, yF, g5, if_true, if_false, not_true_eq_false, not_false_eq_true, or_true, true_or, or_false, false_or, and_true, true_and, and_false, false_and, or_self, and_self, eq_self] <;> rfl) dX5_odds_34
  · have g5 := bI_n0 h5
    refine fr_iload_n (pc := 8) rfl dX5_odds_8 ?_
    refine fr_iconst (pc := 9) (v := 0) rfl dX5_odds_9 ?_
    refine fr_bipush (pc := 10) (v := 13) rfl dX5_odds_10 ?_
    refine fr_callS0 (pc := 12) [.int n, .int 0, .int 13] [] (c_X5_within) gc_X5_70 rfl rfl ⟨rfl, rfl, by decide, by decide⟩ (Nat.le_of_ble_eq_true rfl) ⟨by decide, by decide⟩ dX5_odds_12 ?_
    refine fr_if_eq (pc := 15) 27 (by decide) dX5_odds_15 (fun h15 => ?_) (fun h15 => ?_)
    · have g15 := bI_0.mp h15
      refine fr_aload_n (pc := 27) rfl dX5_odds_27 ?_
      refine fr_ldc (pc := 28) kc_X5_60 dX5_odds_28 ?_
      refine fr_callV0 (pc := 30) (ci := 4) (T := TX5) (N := 20) [.int (-1000001)] [] (c_fnd0) gc_X5_66 rfl rfl ⟨rfl, rfl, by decide, by decide⟩ (Nat.le_of_ble_eq_true rfl) rfl (by decide) y_42 ⟨by decide, by decide⟩ dX5_odds_30 ?_
      refine fr_i2l (pc := 33) dX5_odds_33 ?_
      exact fr_lreturn (pc := 34) rfl (by simp only [sp_odds, fb, sr, sG, sS4, yF, g5, g15, if_true, if_false, not_true_eq_false, not_false_eq_true, or_true, true_or, or_false, false_or, and_true, true_and, and_false, false_and, or_self, and_self, eq_self] <;> rfl) (by simp only [sp_odds, fb, sr, sG, sS4, yF, g5, g15, if_true, if_false, not_true_eq_false, not_false_eq_true, or_true, true_or, or_false, false_or, and_true, true_and, and_false, false_and, or_self, and_self, eq_self] <;> rfl) dX5_odds_34
    · have g15 := bI_n0 h15
      refine fr_iload_n (pc := 18) rfl dX5_odds_18 ?_
      refine fr_iconst (pc := 19) (v := 0) rfl dX5_odds_19 ?_
      refine fr_iconst (pc := 20) (v := 1) rfl dX5_odds_20 ?_
      refine fr_callS0 (pc := 21) [.int q, .int 0, .int 1] [] (c_X5_within) gc_X5_70 rfl rfl ⟨rfl, rfl, by decide, by decide⟩ (Nat.le_of_ble_eq_true rfl) ⟨by decide, by decide⟩ dX5_odds_21 ?_
      refine fr_if_ne (pc := 24) 35 (by decide) dX5_odds_24 (fun h24 => ?_) (fun h24 => ?_)
      · have g24 := bI_n0 h24
        obtain ⟨i1, hi1, rfl⟩ := sG_nI w g5
        have ei1 : (nI i1).toNatClampNeg = i1 := nI_clamp (by have := w.ctl; omega)
        have li1 : i1 < 8 := by have := w.ctl; omega
        obtain ⟨i2, hi2, rfl⟩ := wi_nI (N := 13) g15 rfl
        have ei2 : (nI i2).toNatClampNeg = i2 := nI_clamp (by omega)
        refine fr_bipush (pc := 35) (v := 21) rfl dX5_odds_35 ?_
        refine fr_istore (pc := 37) [(4, .int 21), (0, .ref 42), (1, .int (nI i1)), (2, .int (nI i2)), (3, .int q)] (by decide) rfl dX5_odds_37 ?_
        refine fr_iconst (pc := 39) (v := 0) rfl dX5_odds_39 ?_
        refine fr_istore (pc := 40) [(5, .int 0), (4, .int 21), (0, .ref 42), (1, .int (nI i1)), (2, .int (nI i2)), (3, .int q)] (by decide) rfl dX5_odds_40 ?_
        refine fr_bipush (pc := 42) (v := 16) rfl dX5_odds_42 ?_
        refine fr_istore (pc := 44) [(6, .int 16), (5, .int 0), (4, .int 21), (0, .ref 42), (1, .int (nI i1)), (2, .int (nI i2)), (3, .int q)] (by decide) rfl dX5_odds_44 ?_
        rw [show sp_odds (r, rk, ik, S, b, ln, fi) (nI i1) (nI i2) q = (s_pow ((if q = 0 then s_sum (s_mta r i1) 21 16 (nI 0) else 21) / s_gcd 32 (s_sum (s_mta r i1) 21 16 (nI 0)) 21).toInt64 i2 1, (r, rk, ik, S, b, ln, fi)) from by unfold sp_odds; rw [if_pos (show sG (r, rk, ik, S, b, ln, fi) (nI i1) = true ∧ wi (nI i2) 0 13 = true ∧ wi q 0 1 = true from ⟨g5, g15, g24⟩), ei1, ei2]; rfl]
        exact fr_sub [3, 4, 5, 6, 2, 1, 0] rfl (yo_sum (by omega) li1 w 21 16 0 rfl (by decide))
      · have g24 := bI_0.mp h24
        refine fr_aload_n (pc := 27) rfl dX5_odds_27 ?_
        refine fr_ldc (pc := 28) kc_X5_60 dX5_odds_28 ?_
        refine fr_callV0 (pc := 30) (ci := 4) (T := TX5) (N := 20) [.int (-1000001)] [] (c_fnd0) gc_X5_66 rfl rfl ⟨rfl, rfl, by decide, by decide⟩ (Nat.le_of_ble_eq_true rfl) rfl (by decide) y_42 ⟨by decide, by decide⟩ dX5_odds_30 ?_
        refine fr_i2l (pc := 33) dX5_odds_33 ?_
        exact fr_lreturn (pc := 34) rfl (by simp only [sp_odds, fb, sr, sG, sS4, yF, g5, g15, g24, if_true, if_false, not_true_eq_false, not_false_eq_true, or_true, true_or, or_false, false_or, and_true, true_and, and_false, false_and, or_self, and_self, eq_self] <;> rfl) (by simp only [sp_odds, fb, sr, sG, sS4, yF, g5, g15, g24, if_true, if_false, not_true_eq_false, not_false_eq_true, or_true, true_or, or_false, false_or, and_true, true_and, and_false, false_and, or_self, and_self, eq_self] <;> rfl) dX5_odds_34
