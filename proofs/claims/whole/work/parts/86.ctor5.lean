section A8
variable {Γ : aG} {l : Launch} {y : MethodName} {cc : ByteArray} {nL : Nat} {ret : Option FieldType} {R : Room} {mc ms : Nat} {pc : Nat} {L : List (Nat × Value)} {st : List Value} {n k1 k2 : Nat} {M : Nat → aC} {r : Option Value} {n' : Nat} {M' : Nat → aC}
theorem a_xtR {Γ : aG} {c : ClassId} {N : Nat} {f g : Nat → Option Nat} (h : ∀ k, k < N → f k = g k) : vp_cell c (N, .inr (.inr (.inr (.inr (fun j => (f j).map (a_ad Γ)))))) = vp_cell c (N, .inr (.inr (.inr (.inr (fun j => (g j).map (a_ad Γ)))))) := by
  rw [vp_cell_q, vp_cell_q]
  unfold arrV
  congr 2
  funext j
  show va_rf ((f j.1).map (a_ad Γ)) = va_rf ((g j.1).map (a_ad Γ))
  rw [h j.1 j.2]
theorem fr_extR {i N t0 : Nat} {f : Nat → Option Nat} (g : Nat → Option Nat) (hM : M i = aR t0 N f) (h : ∀ k, k < N → f k = g k) (k : Fr Γ l (y, cc, nL, ret, R, mc, ms) pc L st n k1 k2 (a_up M i (aR t0 N g)) r n' M') : Fr Γ l (y, cc, nL, ret, R, mc, ms) pc L st n k1 k2 M r n' M' := by
  intro p e s m args below meth c H locs ls C w hl
  refine k p e s m args below meth c H locs ls C ⟨fun q x hx => ?_, w.2⟩ hl
  obtain ⟨hq, rfl⟩ := a_w_of hx
  have h1 := w.1 q _ (a_w_at hq)
  by_cases e : q = i
  · subst e
    show va_at Γ.1 vwCl (Γ.2.1 + q, a_e Γ (a_up M q (aR t0 N g) q)) H
    rw [show a_up M q (aR t0 N g) q = aR t0 N g from if_pos rfl]
    rw [hM] at h1
    show H[Γ.2.1 + q]? = some (vp_cell (Γ.2.2.1 t0) (N, .inr (.inr (.inr (.inr (fun j => (g j).map (a_ad Γ)))))))
    rw [← a_xtR h]
    exact h1
  · show va_at Γ.1 vwCl (Γ.2.1 + q, a_e Γ (a_up M i (aR t0 N g) q)) H
    rw [show a_up M i (aR t0 N g) q = M q from if_neg e]
    exact h1
end A8
def z2 : rT := fun _ _ => 0
def z1 : Nat → Int32 := fun _ => 0
def zS : sT := (z2, z1, z1)
theorem fo_0 : fo z1 = fun _ => 0 := by
  funext p
  unfold fo
  split
  · rfl
  · rfl
def r0a : rT := u2 (u2 z2 9 2 1) 9 3 200
def flf (v : Int32) (k : Nat) : Nat → Int32 := fun q => if q < k then v else (fun _ => 0) q
theorem flf_up {R : rT} {q k : Nat} {v : Int32} : u2 (v2 R q (flf v k)) q k v = v2 R q (flf v (k + 1)) := by
  funext a p
  rw [u2_at]
  unfold v2 flf
  by_cases h1 : a = q
  · by_cases h2 : p = k
    · rw [if_pos ⟨h1, h2⟩, if_pos h1, if_pos (by omega)]
    · rw [if_neg (fun z => h2 z.2), if_pos h1, if_pos h1]
      by_cases h3 : p < k
      · rw [if_pos h3, if_pos (by omega)]
      · rw [if_neg h3, if_neg (by omega)]
  · rw [if_neg (fun z => h1 z.1), if_neg h1, if_neg h1]
theorem flf_0 {R : rT} {q : Nat} {v : Int32} (h : R q = fun _ => 0) : v2 R q (flf v 0) = R := by
  funext a
  unfold v2
  split
  · rename_i e; rw [e, h]; funext p; exact if_neg (by omega)
  · rfl
def r0b : rT := v2 r0a 1 (flf 26 6)
def r0c : rT := v2 r0b 0 (flf 20 16)
def r0 : rT := v2 r0c 8 (flf (-1) 10)
set_option maxRecDepth 100000 in
theorem mi_197 {Γ : aG} {l : Launch} {M : Nat → aC} : ∀ (j k : Nat), k + j = 10 → Fr Γ l kX5_init 197 [(0, .ref 42), (1, .int (nI k))] [] 54 11 1081 (yM M (v2 r0c 8 (flf (-1) k)) z1 z1 0 z1 z1 0 zS z1 z1 (0, 0, 0, 0, 0, 0, 0)) none 54 (yM M r0 z1 z1 0 z1 z1 0 zS z1 z1 (0, 0, 0, 0, 0, 0, 0)) := by
  intro j
  induction j with
  | zero =>
    intro k hk
    rw [show k = 10 by omega]
    refine fr_iload_n (pc := 197) rfl dX5_init_197 ?_
    refine fr_bipush (pc := 198) (v := 10) rfl dX5_init_198 ?_
    refine fr_icmp_ge (pc := 200) 219 (by decide) dX5_init_200 (fun h200 => ?_) (fun h200 => ?_)
    · exact fr_return (pc := 219) rfl rfl dX5_init_219
    · exact absurd (by decide) h200
  | succ j ih =>
    intro k hk
    refine fr_iload_n (pc := 197) rfl dX5_init_197 ?_
    refine fr_bipush (pc := 198) (v := 10) rfl dX5_init_198 ?_
    refine fr_icmp_ge (pc := 200) 219 (by decide) dX5_init_200 (fun h200 => ?_) (fun h200 => ?_)
    · exact absurd h200 (nI_ge (a := k) (b := 10) (by omega) (by omega))
    · refine fr_aload_n (pc := 203) rfl dX5_init_203 ?_
      refine fr_get (pc := 204) (ci := 4) (T := TX5) (k0 := 0) rfl hin_X5 (by decide) fl_X5_9 (by decide) y_42 rfl dX5_init_204 ?_
      refine fr_bipush (pc := 207) (v := 28) rfl dX5_init_207 ?_
      refine fr_iload_n (pc := 209) rfl dX5_init_209 ?_
      refine fr_iadd (pc := 210) dX5_init_210 ?_
      refine fr_eq (z := nI (28 + k)) (nI_add 28 k) ?_
      refine fr_iconst (pc := 211) (v := (-1)) rfl dX5_init_211 ?_
      refine fr_iast (pc := 212) (28 + k) rfl (by decide) y_43 (by first | assumption | omega) (by decide) dX5_init_212 ?_
      refine fr_mem (y_u43 (ph_s (by first | assumption | omega))) ?_
      refine fr_mem (M1 := (yM M (v2 r0c 8 (flf (-1) (k + 1))) z1 z1 0 z1 z1 0 zS z1 z1 (0, 0, 0, 0, 0, 0, 0))) (by rw [flf_up]) ?_
      refine fr_iinc (pc := 213) (v := nI (k + 1)) [(1, .int (nI (k + 1))), (0, .ref 42)] rfl (nI_1 k) (by decide) rfl dX5_init_213 ?_
      refine fr_goto (pc := 216) 197 (by decide) dX5_init_216 ?_
      exact fr_sub [1, 0] rfl (ih (k + 1) (by omega))
set_option maxRecDepth 100000 in
theorem mi_172 {Γ : aG} {l : Launch} {M : Nat → aC} : ∀ (j k : Nat), k + j = 16 → Fr Γ l kX5_init 172 [(0, .ref 42), (1, .int (nI k))] [] 54 11 1081 (yM M (v2 r0b 0 (flf 20 k)) z1 z1 0 z1 z1 0 zS z1 z1 (0, 0, 0, 0, 0, 0, 0)) none 54 (yM M r0 z1 z1 0 z1 z1 0 zS z1 z1 (0, 0, 0, 0, 0, 0, 0)) := by
  intro j
  induction j with
  | zero =>
    intro k hk
    rw [show k = 16 by omega]
    refine fr_iload_n (pc := 172) rfl dX5_init_172 ?_
    refine fr_bipush (pc := 173) (v := 16) rfl dX5_init_173 ?_
    refine fr_icmp_ge (pc := 175) 195 (by decide) dX5_init_175 (fun h175 => ?_) (fun h175 => ?_)
    · refine fr_iconst (pc := 195) (v := 0) rfl dX5_init_195 ?_
      refine fr_istore_n (pc := 196) [(1, .int 0), (0, .ref 42)] (by decide) rfl dX5_init_196 ?_
      refine fr_mem (M1 := (yM M (v2 r0c 8 (flf (-1) 0)) z1 z1 0 z1 z1 0 zS z1 z1 (0, 0, 0, 0, 0, 0, 0))) (by rw [flf_0 (R := r0c) (q := 8) rfl]; rfl) ?_
      exact fr_sub [1, 0] rfl (mi_197 10 0 rfl)
    · exact absurd (by decide) h175
  | succ j ih =>
    intro k hk
    refine fr_iload_n (pc := 172) rfl dX5_init_172 ?_
    refine fr_bipush (pc := 173) (v := 16) rfl dX5_init_173 ?_
    refine fr_icmp_ge (pc := 175) 195 (by decide) dX5_init_175 (fun h175 => ?_) (fun h175 => ?_)
    · exact absurd h175 (nI_ge (a := k) (b := 16) (by omega) (by omega))
    · refine fr_aload_n (pc := 178) rfl dX5_init_178 ?_
      refine fr_get (pc := 179) (ci := 4) (T := TX5) (k0 := 0) rfl hin_X5 (by decide) fl_X5_9 (by decide) y_42 rfl dX5_init_179 ?_
      refine fr_bipush (pc := 182) (v := 12) rfl dX5_init_182 ?_
      refine fr_iload_n (pc := 184) rfl dX5_init_184 ?_
      refine fr_iadd (pc := 185) dX5_init_185 ?_
      refine fr_eq (z := nI (12 + k)) (nI_add 12 k) ?_
      refine fr_bipush (pc := 186) (v := 20) rfl dX5_init_186 ?_
      refine fr_iast (pc := 188) (12 + k) rfl (by decide) y_43 (by first | assumption | omega) (by decide) dX5_init_188 ?_
      refine fr_mem (y_u43 (ph_b (by first | assumption | omega))) ?_
      refine fr_mem (M1 := (yM M (v2 r0b 0 (flf 20 (k + 1))) z1 z1 0 z1 z1 0 zS z1 z1 (0, 0, 0, 0, 0, 0, 0))) (by rw [flf_up]) ?_
      refine fr_iinc (pc := 189) (v := nI (k + 1)) [(1, .int (nI (k + 1))), (0, .ref 42)] rfl (nI_1 k) (by decide) rfl dX5_init_189 ?_
      refine fr_goto (pc := 192) 172 (by decide) dX5_init_192 ?_
      exact fr_sub [1, 0] rfl (ih (k + 1) (by omega))
set_option maxRecDepth 100000 in
theorem mi_147 {Γ : aG} {l : Launch} {M : Nat → aC} : ∀ (j k : Nat), k + j = 6 → Fr Γ l kX5_init 147 [(0, .ref 42), (1, .int (nI k))] [] 54 11 1081 (yM M (v2 r0a 1 (flf 26 k)) z1 z1 0 z1 z1 0 zS z1 z1 (0, 0, 0, 0, 0, 0, 0)) none 54 (yM M r0 z1 z1 0 z1 z1 0 zS z1 z1 (0, 0, 0, 0, 0, 0, 0)) := by
  intro j
  induction j with
  | zero =>
    intro k hk
    rw [show k = 6 by omega]
    refine fr_iload_n (pc := 147) rfl dX5_init_147 ?_
    refine fr_bipush (pc := 148) (v := 6) rfl dX5_init_148 ?_
    refine fr_icmp_ge (pc := 150) 170 (by decide) dX5_init_150 (fun h150 => ?_) (fun h150 => ?_)
    · refine fr_iconst (pc := 170) (v := 0) rfl dX5_init_170 ?_
      refine fr_istore_n (pc := 171) [(1, .int 0), (0, .ref 42)] (by decide) rfl dX5_init_171 ?_
      refine fr_mem (M1 := (yM M (v2 r0b 0 (flf 20 0)) z1 z1 0 z1 z1 0 zS z1 z1 (0, 0, 0, 0, 0, 0, 0))) (by rw [flf_0 (R := r0b) (q := 0) rfl]; rfl) ?_
      exact fr_sub [1, 0] rfl (mi_172 16 0 rfl)
    · exact absurd (by decide) h150
  | succ j ih =>
    intro k hk
    refine fr_iload_n (pc := 147) rfl dX5_init_147 ?_
    refine fr_bipush (pc := 148) (v := 6) rfl dX5_init_148 ?_
    refine fr_icmp_ge (pc := 150) 170 (by decide) dX5_init_150 (fun h150 => ?_) (fun h150 => ?_)
    · exact absurd h150 (nI_ge (a := k) (b := 6) (by omega) (by omega))
    · refine fr_aload_n (pc := 153) rfl dX5_init_153 ?_
      refine fr_get (pc := 154) (ci := 4) (T := TX5) (k0 := 0) rfl hin_X5 (by decide) fl_X5_9 (by decide) y_42 rfl dX5_init_154 ?_
      refine fr_bipush (pc := 157) (v := 6) rfl dX5_init_157 ?_
      refine fr_iload_n (pc := 159) rfl dX5_init_159 ?_
      refine fr_iadd (pc := 160) dX5_init_160 ?_
      refine fr_eq (z := nI (6 + k)) (nI_add 6 k) ?_
      refine fr_bipush (pc := 161) (v := 26) rfl dX5_init_161 ?_
      refine fr_iast (pc := 163) (6 + k) rfl (by decide) y_43 (by first | assumption | omega) (by decide) dX5_init_163 ?_
      refine fr_mem (y_u43 (ph_m (by first | assumption | omega))) ?_
      refine fr_mem (M1 := (yM M (v2 r0a 1 (flf 26 (k + 1))) z1 z1 0 z1 z1 0 zS z1 z1 (0, 0, 0, 0, 0, 0, 0))) (by rw [flf_up]) ?_
      refine fr_iinc (pc := 164) (v := nI (k + 1)) [(1, .int (nI (k + 1))), (0, .ref 42)] rfl (nI_1 k) (by decide) rfl dX5_init_164 ?_
      refine fr_goto (pc := 167) 147 (by decide) dX5_init_167 ?_
      exact fr_sub [1, 0] rfl (ih (k + 1) (by omega))
theorem lay_y {M : Nat → aC} : (lay M 42 [aO 4 [.ref 43, .ref 44, .ref 45, .int 0, .ref 46, .ref 47, .int 0, .int 0, .int 0, .int 0, .int 0, .int 0, .ref 48, .ref 49, .int 0, .int 0, .ref 50, .ref 51, .ref 52, .ref 53], aI 86 (fun _ => 0), aI 86 (fun _ => 0), aI 86 (fun _ => 0), aI 8 (fun _ => 0), aI 120 (fun _ => 0), aR 2 7 (fun i => some (2013 + i)), aI 480 (fun _ => 0), aI 4 (fun _ => 0), aI 4 (fun _ => 0), aI 160 (fun _ => 0), aI 40 (fun _ => 0)]) = (yM M z2 z1 z1 0 z1 z1 0 zS z1 z1 (0, 0, 0, 0, 0, 0, 0)) := by
  funext i
  unfold lay yM blk
  by_cases h1 : i < 42
  · rw [if_pos h1, if_pos h1]
  · rw [if_neg h1, if_neg h1]
    by_cases h2 : i < 42 + 12
    · rw [if_pos h2]
      obtain ⟨k, hk, rfl⟩ : ∃ k, k < 12 ∧ i = 42 + k := ⟨i - 42, by omega, by omega⟩
      rw [Nat.add_sub_cancel_left]
      match k, hk with
      | 0, _ => rfl
      | 1, _ => rfl
      | 2, _ => rfl
      | 3, _ => rfl
      | 4, _ => exact congrArg (fun z => (aI 8 z : aC)) fo_0.symm
      | 5, _ => rfl
      | 6, _ => rfl
      | 7, _ => rfl
      | 8, _ => rfl
      | 9, _ => rfl
      | 10, _ => rfl
      | 11, _ => rfl
      | k + 12, hk => omega
    · rw [if_neg h2, List.getElem?_eq_none (by show 12 ≤ i - 42; omega)]
      rfl
set_option maxRecDepth 100000 in
theorem n_model {Γ : aG} {l : Launch} {M : Nat → aC} : Ev Γ l kX5_init [.ref 42] 43 (lay M 42 [aO 4 [.null, .null, .null, .int 0, .null, .null, .int 0, .int 0, .int 0, .int 0, .int 0, .int 0, .null, .null, .int 0, .int 0, .null, .null, .null, .null]]) none 54 (yM M r0 z1 z1 0 z1 z1 0 zS z1 z1 (0, 0, 0, 0, 0, 0, 0)) := by
  refine Ev.of [(0, .ref 42)] (by decide) (Nat.le_of_ble_eq_true rfl) rfl ?_
  refine fr_aload_n (pc := 0) rfl dX5_init_0 ?_
  refine fr_objInit (pc := 1) gm_X5_1 wO_i wO_c ⟨by decide, by decide⟩ (Nat.le_of_ble_eq_true rfl) dX5_init_1 ?_
  refine fr_aload_n (pc := 4) rfl dX5_init_4 ?_
  refine fr_bipush (pc := 5) (v := 86) rfl dX5_init_5 ?_
  refine fr_newa (N := 86) (pc := 7) wAI (by decide) ⟨by decide, by decide⟩ (by decide) dX5_init_7 ?_
  refine fr_mem (M1 := (lay M 42 [aO 4 [.null, .null, .null, .int 0, .null, .null, .int 0, .int 0, .int 0, .int 0, .int 0, .int 0, .null, .null, .int 0, .int 0, .null, .null, .null, .null], aI 86 (fun _ => 0)])) (lay_new rfl rfl) ?_
  refine fr_putF (pc := 9) (ci := 4) (T := TX5) (k0 := 0) (ty := (.array .int)) tyX5 tyX5_ok nmX5 rfl hin_X5 (by decide) fl_X5_9 rfl rfl rfl (by decide +kernel) rfl rfl (Nat.le_of_ble_eq_true rfl) (by decide) (lay_at (by decide) rfl) dX5_init_9 ?_
  refine fr_mem (M1 := (lay M 42 [aO 4 [.ref 43, .null, .null, .int 0, .null, .null, .int 0, .int 0, .int 0, .int 0, .int 0, .int 0, .null, .null, .int 0, .int 0, .null, .null, .null, .null], aI 86 (fun _ => 0)])) (lay_set (by decide) (by decide) rfl) ?_
  refine fr_aload_n (pc := 12) rfl dX5_init_12 ?_
  refine fr_bipush (pc := 13) (v := 86) rfl dX5_init_13 ?_
  refine fr_newa (N := 86) (pc := 15) wAI (by decide) ⟨by decide, by decide⟩ (by decide) dX5_init_15 ?_
  refine fr_mem (M1 := (lay M 42 [aO 4 [.ref 43, .null, .null, .int 0, .null, .null, .int 0, .int 0, .int 0, .int 0, .int 0, .int 0, .null, .null, .int 0, .int 0, .null, .null, .null, .null], aI 86 (fun _ => 0), aI 86 (fun _ => 0)])) (lay_new rfl rfl) ?_
  refine fr_putF (pc := 17) (ci := 4) (T := TX5) (k0 := 1) (ty := (.array .int)) tyX5 tyX5_ok nmX5 rfl hin_X5 (by decide) fl_X5_13 rfl rfl rfl (by decide +kernel) rfl rfl (Nat.le_of_ble_eq_true rfl) (by decide) (lay_at (by decide) rfl) dX5_init_17 ?_
  refine fr_mem (M1 := (lay M 42 [aO 4 [.ref 43, .ref 44, .null, .int 0, .null, .null, .int 0, .int 0, .int 0, .int 0, .int 0, .int 0, .null, .null, .int 0, .int 0, .null, .null, .null, .null], aI 86 (fun _ => 0), aI 86 (fun _ => 0)])) (lay_set (by decide) (by decide) rfl) ?_
  refine fr_aload_n (pc := 20) rfl dX5_init_20 ?_
  refine fr_bipush (pc := 21) (v := 86) rfl dX5_init_21 ?_
  refine fr_newa (N := 86) (pc := 23) wAI (by decide) ⟨by decide, by decide⟩ (by decide) dX5_init_23 ?_
  refine fr_mem (M1 := (lay M 42 [aO 4 [.ref 43, .ref 44, .null, .int 0, .null, .null, .int 0, .int 0, .int 0, .int 0, .int 0, .int 0, .null, .null, .int 0, .int 0, .null, .null, .null, .null], aI 86 (fun _ => 0), aI 86 (fun _ => 0), aI 86 (fun _ => 0)])) (lay_new rfl rfl) ?_
  refine fr_putF (pc := 25) (ci := 4) (T := TX5) (k0 := 2) (ty := (.array .int)) tyX5 tyX5_ok nmX5 rfl hin_X5 (by decide) fl_X5_16 rfl rfl rfl (by decide +kernel) rfl rfl (Nat.le_of_ble_eq_true rfl) (by decide) (lay_at (by decide) rfl) dX5_init_25 ?_
  refine fr_mem (M1 := (lay M 42 [aO 4 [.ref 43, .ref 44, .ref 45, .int 0, .null, .null, .int 0, .int 0, .int 0, .int 0, .int 0, .int 0, .null, .null, .int 0, .int 0, .null, .null, .null, .null], aI 86 (fun _ => 0), aI 86 (fun _ => 0), aI 86 (fun _ => 0)])) (lay_set (by decide) (by decide) rfl) ?_
  refine fr_aload_n (pc := 28) rfl dX5_init_28 ?_
  refine fr_bipush (pc := 29) (v := 8) rfl dX5_init_29 ?_
  refine fr_newa (N := 8) (pc := 31) wAI (by decide) ⟨by decide, by decide⟩ (by decide) dX5_init_31 ?_
  refine fr_mem (M1 := (lay M 42 [aO 4 [.ref 43, .ref 44, .ref 45, .int 0, .null, .null, .int 0, .int 0, .int 0, .int 0, .int 0, .int 0, .null, .null, .int 0, .int 0, .null, .null, .null, .null], aI 86 (fun _ => 0), aI 86 (fun _ => 0), aI 86 (fun _ => 0), aI 8 (fun _ => 0)])) (lay_new rfl rfl) ?_
  refine fr_putF (pc := 33) (ci := 4) (T := TX5) (k0 := 4) (ty := (.array .int)) tyX5 tyX5_ok nmX5 rfl hin_X5 (by decide) fl_X5_19 rfl rfl rfl (by decide +kernel) rfl rfl (Nat.le_of_ble_eq_true rfl) (by decide) (lay_at (by decide) rfl) dX5_init_33 ?_
  refine fr_mem (M1 := (lay M 42 [aO 4 [.ref 43, .ref 44, .ref 45, .int 0, .ref 46, .null, .int 0, .int 0, .int 0, .int 0, .int 0, .int 0, .null, .null, .int 0, .int 0, .null, .null, .null, .null], aI 86 (fun _ => 0), aI 86 (fun _ => 0), aI 86 (fun _ => 0), aI 8 (fun _ => 0)])) (lay_set (by decide) (by decide) rfl) ?_
  refine fr_aload_n (pc := 36) rfl dX5_init_36 ?_
  refine fr_bipush (pc := 37) (v := 120) rfl dX5_init_37 ?_
  refine fr_newa (N := 120) (pc := 39) wAI (by decide) ⟨by decide, by decide⟩ (by decide) dX5_init_39 ?_
  refine fr_mem (M1 := (lay M 42 [aO 4 [.ref 43, .ref 44, .ref 45, .int 0, .ref 46, .null, .int 0, .int 0, .int 0, .int 0, .int 0, .int 0, .null, .null, .int 0, .int 0, .null, .null, .null, .null], aI 86 (fun _ => 0), aI 86 (fun _ => 0), aI 86 (fun _ => 0), aI 8 (fun _ => 0), aI 120 (fun _ => 0)])) (lay_new rfl rfl) ?_
  refine fr_putF (pc := 41) (ci := 4) (T := TX5) (k0 := 5) (ty := (.array .int)) tyX5 tyX5_ok nmX5 rfl hin_X5 (by decide) fl_X5_22 rfl rfl rfl (by decide +kernel) rfl rfl (Nat.le_of_ble_eq_true rfl) (by decide) (lay_at (by decide) rfl) dX5_init_41 ?_
  refine fr_mem (M1 := (lay M 42 [aO 4 [.ref 43, .ref 44, .ref 45, .int 0, .ref 46, .ref 47, .int 0, .int 0, .int 0, .int 0, .int 0, .int 0, .null, .null, .int 0, .int 0, .null, .null, .null, .null], aI 86 (fun _ => 0), aI 86 (fun _ => 0), aI 86 (fun _ => 0), aI 8 (fun _ => 0), aI 120 (fun _ => 0)])) (lay_set (by decide) (by decide) rfl) ?_
  refine fr_aload_n (pc := 44) rfl dX5_init_44 ?_
  refine fr_bipush (pc := 45) (v := 7) rfl dX5_init_45 ?_
  refine fr_newR (N := 7) (pc := 47) (tG_in (by decide +kernel) (by decide +kernel)) (by decide) ⟨by decide, by decide⟩ (by decide) dX5_init_47 ?_
  refine fr_mem (M1 := (lay M 42 [aO 4 [.ref 43, .ref 44, .ref 45, .int 0, .ref 46, .ref 47, .int 0, .int 0, .int 0, .int 0, .int 0, .int 0, .null, .null, .int 0, .int 0, .null, .null, .null, .null], aI 86 (fun _ => 0), aI 86 (fun _ => 0), aI 86 (fun _ => 0), aI 8 (fun _ => 0), aI 120 (fun _ => 0), aR 2 7 (fun _ => none)])) (lay_new rfl rfl) ?_
  refine fr_dup (pc := 50) rfl dX5_init_50 ?_
  refine fr_iconst (pc := 51) (v := 0) rfl dX5_init_51 ?_
  refine fr_ldcS (pc := 52) (k0 := 13) (by decide) rfl rfl dX5_init_52 ?_
  refine fr_aastS (pc := 54) (k0 := 13) 0 rfl (by decide) (lay_at (by decide) rfl) (by decide) (by decide) (by decide) dX5_init_54 ?_
  refine fr_mem (M1 := (lay M 42 [aO 4 [.ref 43, .ref 44, .ref 45, .int 0, .ref 46, .ref 47, .int 0, .int 0, .int 0, .int 0, .int 0, .int 0, .null, .null, .int 0, .int 0, .null, .null, .null, .null], aI 86 (fun _ => 0), aI 86 (fun _ => 0), aI 86 (fun _ => 0), aI 8 (fun _ => 0), aI 120 (fun _ => 0), aR 2 7 (va_up (fun _ => none) 0 (some 2013))])) (lay_set (by decide) (by decide) rfl) ?_
  refine fr_dup (pc := 55) rfl dX5_init_55 ?_
  refine fr_iconst (pc := 56) (v := 1) rfl dX5_init_56 ?_
  refine fr_ldcS (pc := 57) (k0 := 14) (by decide) rfl rfl dX5_init_57 ?_
  refine fr_aastS (pc := 59) (k0 := 14) 1 rfl (by decide) (lay_at (by decide) rfl) (by decide) (by decide) (by decide) dX5_init_59 ?_
  refine fr_mem (M1 := (lay M 42 [aO 4 [.ref 43, .ref 44, .ref 45, .int 0, .ref 46, .ref 47, .int 0, .int 0, .int 0, .int 0, .int 0, .int 0, .null, .null, .int 0, .int 0, .null, .null, .null, .null], aI 86 (fun _ => 0), aI 86 (fun _ => 0), aI 86 (fun _ => 0), aI 8 (fun _ => 0), aI 120 (fun _ => 0), aR 2 7 (va_up (va_up (fun _ => none) 0 (some 2013)) 1 (some 2014))])) (lay_set (by decide) (by decide) rfl) ?_
  refine fr_dup (pc := 60) rfl dX5_init_60 ?_
  refine fr_iconst (pc := 61) (v := 2) rfl dX5_init_61 ?_
  refine fr_ldcS (pc := 62) (k0 := 15) (by decide) rfl rfl dX5_init_62 ?_
  refine fr_aastS (pc := 64) (k0 := 15) 2 rfl (by decide) (lay_at (by decide) rfl) (by decide) (by decide) (by decide) dX5_init_64 ?_
  refine fr_mem (M1 := (lay M 42 [aO 4 [.ref 43, .ref 44, .ref 45, .int 0, .ref 46, .ref 47, .int 0, .int 0, .int 0, .int 0, .int 0, .int 0, .null, .null, .int 0, .int 0, .null, .null, .null, .null], aI 86 (fun _ => 0), aI 86 (fun _ => 0), aI 86 (fun _ => 0), aI 8 (fun _ => 0), aI 120 (fun _ => 0), aR 2 7 (va_up (va_up (va_up (fun _ => none) 0 (some 2013)) 1 (some 2014)) 2 (some 2015))])) (lay_set (by decide) (by decide) rfl) ?_
  refine fr_dup (pc := 65) rfl dX5_init_65 ?_
  refine fr_iconst (pc := 66) (v := 3) rfl dX5_init_66 ?_
  refine fr_ldcS (pc := 67) (k0 := 16) (by decide) rfl rfl dX5_init_67 ?_
  refine fr_aastS (pc := 69) (k0 := 16) 3 rfl (by decide) (lay_at (by decide) rfl) (by decide) (by decide) (by decide) dX5_init_69 ?_
  refine fr_mem (M1 := (lay M 42 [aO 4 [.ref 43, .ref 44, .ref 45, .int 0, .ref 46, .ref 47, .int 0, .int 0, .int 0, .int 0, .int 0, .int 0, .null, .null, .int 0, .int 0, .null, .null, .null, .null], aI 86 (fun _ => 0), aI 86 (fun _ => 0), aI 86 (fun _ => 0), aI 8 (fun _ => 0), aI 120 (fun _ => 0), aR 2 7 (va_up (va_up (va_up (va_up (fun _ => none) 0 (some 2013)) 1 (some 2014)) 2 (some 2015)) 3 (some 2016))])) (lay_set (by decide) (by decide) rfl) ?_
  refine fr_dup (pc := 70) rfl dX5_init_70 ?_
  refine fr_iconst (pc := 71) (v := 4) rfl dX5_init_71 ?_
  refine fr_ldcS (pc := 72) (k0 := 17) (by decide) rfl rfl dX5_init_72 ?_
  refine fr_aastS (pc := 74) (k0 := 17) 4 rfl (by decide) (lay_at (by decide) rfl) (by decide) (by decide) (by decide) dX5_init_74 ?_
  refine fr_mem (M1 := (lay M 42 [aO 4 [.ref 43, .ref 44, .ref 45, .int 0, .ref 46, .ref 47, .int 0, .int 0, .int 0, .int 0, .int 0, .int 0, .null, .null, .int 0, .int 0, .null, .null, .null, .null], aI 86 (fun _ => 0), aI 86 (fun _ => 0), aI 86 (fun _ => 0), aI 8 (fun _ => 0), aI 120 (fun _ => 0), aR 2 7 (va_up (va_up (va_up (va_up (va_up (fun _ => none) 0 (some 2013)) 1 (some 2014)) 2 (some 2015)) 3 (some 2016)) 4 (some 2017))])) (lay_set (by decide) (by decide) rfl) ?_
  refine fr_dup (pc := 75) rfl dX5_init_75 ?_
  refine fr_iconst (pc := 76) (v := 5) rfl dX5_init_76 ?_
  refine fr_ldcS (pc := 77) (k0 := 18) (by decide) rfl rfl dX5_init_77 ?_
  refine fr_aastS (pc := 79) (k0 := 18) 5 rfl (by decide) (lay_at (by decide) rfl) (by decide) (by decide) (by decide) dX5_init_79 ?_
  refine fr_mem (M1 := (lay M 42 [aO 4 [.ref 43, .ref 44, .ref 45, .int 0, .ref 46, .ref 47, .int 0, .int 0, .int 0, .int 0, .int 0, .int 0, .null, .null, .int 0, .int 0, .null, .null, .null, .null], aI 86 (fun _ => 0), aI 86 (fun _ => 0), aI 86 (fun _ => 0), aI 8 (fun _ => 0), aI 120 (fun _ => 0), aR 2 7 (va_up (va_up (va_up (va_up (va_up (va_up (fun _ => none) 0 (some 2013)) 1 (some 2014)) 2 (some 2015)) 3 (some 2016)) 4 (some 2017)) 5 (some 2018))])) (lay_set (by decide) (by decide) rfl) ?_
  refine fr_dup (pc := 80) rfl dX5_init_80 ?_
  refine fr_bipush (pc := 81) (v := 6) rfl dX5_init_81 ?_
  refine fr_ldcS (pc := 83) (k0 := 19) (by decide) rfl rfl dX5_init_83 ?_
  refine fr_aastS (pc := 85) (k0 := 19) 6 rfl (by decide) (lay_at (by decide) rfl) (by decide) (by decide) (by decide) dX5_init_85 ?_
  refine fr_mem (M1 := (lay M 42 [aO 4 [.ref 43, .ref 44, .ref 45, .int 0, .ref 46, .ref 47, .int 0, .int 0, .int 0, .int 0, .int 0, .int 0, .null, .null, .int 0, .int 0, .null, .null, .null, .null], aI 86 (fun _ => 0), aI 86 (fun _ => 0), aI 86 (fun _ => 0), aI 8 (fun _ => 0), aI 120 (fun _ => 0), aR 2 7 (va_up (va_up (va_up (va_up (va_up (va_up (va_up (fun _ => none) 0 (some 2013)) 1 (some 2014)) 2 (some 2015)) 3 (some 2016)) 4 (some 2017)) 5 (some 2018)) 6 (some 2019))])) (lay_set (by decide) (by decide) rfl) ?_
  refine fr_putF (pc := 86) (ci := 4) (T := TX5) (k0 := 12) (ty := (.array (.object "java/lang/String"))) tyX5 tyX5_ok nmX5 rfl hin_X5 (by decide) fl_X5_41 rfl rfl rfl (by decide +kernel) rfl rfl (Nat.le_of_ble_eq_true rfl) (by decide) (lay_at (by decide) rfl) dX5_init_86 ?_
  refine fr_mem (M1 := (lay M 42 [aO 4 [.ref 43, .ref 44, .ref 45, .int 0, .ref 46, .ref 47, .int 0, .int 0, .int 0, .int 0, .int 0, .int 0, .ref 48, .null, .int 0, .int 0, .null, .null, .null, .null], aI 86 (fun _ => 0), aI 86 (fun _ => 0), aI 86 (fun _ => 0), aI 8 (fun _ => 0), aI 120 (fun _ => 0), aR 2 7 (va_up (va_up (va_up (va_up (va_up (va_up (va_up (fun _ => none) 0 (some 2013)) 1 (some 2014)) 2 (some 2015)) 3 (some 2016)) 4 (some 2017)) 5 (some 2018)) 6 (some 2019))])) (lay_set (by decide) (by decide) rfl) ?_
  refine fr_aload_n (pc := 89) rfl dX5_init_89 ?_
  refine fr_sipush (pc := 90) (v := 480) rfl dX5_init_90 ?_
  refine fr_newa (N := 480) (pc := 93) wAI (by decide) ⟨by decide, by decide⟩ (by decide) dX5_init_93 ?_
  refine fr_mem (M1 := (lay M 42 [aO 4 [.ref 43, .ref 44, .ref 45, .int 0, .ref 46, .ref 47, .int 0, .int 0, .int 0, .int 0, .int 0, .int 0, .ref 48, .null, .int 0, .int 0, .null, .null, .null, .null], aI 86 (fun _ => 0), aI 86 (fun _ => 0), aI 86 (fun _ => 0), aI 8 (fun _ => 0), aI 120 (fun _ => 0), aR 2 7 (va_up (va_up (va_up (va_up (va_up (va_up (va_up (fun _ => none) 0 (some 2013)) 1 (some 2014)) 2 (some 2015)) 3 (some 2016)) 4 (some 2017)) 5 (some 2018)) 6 (some 2019)), aI 480 (fun _ => 0)])) (lay_new rfl rfl) ?_
  refine fr_putF (pc := 95) (ci := 4) (T := TX5) (k0 := 13) (ty := (.array .int)) tyX5 tyX5_ok nmX5 rfl hin_X5 (by decide) fl_X5_45 rfl rfl rfl (by decide +kernel) rfl rfl (Nat.le_of_ble_eq_true rfl) (by decide) (lay_at (by decide) rfl) dX5_init_95 ?_
  refine fr_mem (M1 := (lay M 42 [aO 4 [.ref 43, .ref 44, .ref 45, .int 0, .ref 46, .ref 47, .int 0, .int 0, .int 0, .int 0, .int 0, .int 0, .ref 48, .ref 49, .int 0, .int 0, .null, .null, .null, .null], aI 86 (fun _ => 0), aI 86 (fun _ => 0), aI 86 (fun _ => 0), aI 8 (fun _ => 0), aI 120 (fun _ => 0), aR 2 7 (va_up (va_up (va_up (va_up (va_up (va_up (va_up (fun _ => none) 0 (some 2013)) 1 (some 2014)) 2 (some 2015)) 3 (some 2016)) 4 (some 2017)) 5 (some 2018)) 6 (some 2019)), aI 480 (fun _ => 0)])) (lay_set (by decide) (by decide) rfl) ?_
  refine fr_aload_n (pc := 98) rfl dX5_init_98 ?_
  refine fr_iconst (pc := 99) (v := 4) rfl dX5_init_99 ?_
  refine fr_newa (N := 4) (pc := 100) wAI (by decide) ⟨by decide, by decide⟩ (by decide) dX5_init_100 ?_
  refine fr_mem (M1 := (lay M 42 [aO 4 [.ref 43, .ref 44, .ref 45, .int 0, .ref 46, .ref 47, .int 0, .int 0, .int 0, .int 0, .int 0, .int 0, .ref 48, .ref 49, .int 0, .int 0, .null, .null, .null, .null], aI 86 (fun _ => 0), aI 86 (fun _ => 0), aI 86 (fun _ => 0), aI 8 (fun _ => 0), aI 120 (fun _ => 0), aR 2 7 (va_up (va_up (va_up (va_up (va_up (va_up (va_up (fun _ => none) 0 (some 2013)) 1 (some 2014)) 2 (some 2015)) 3 (some 2016)) 4 (some 2017)) 5 (some 2018)) 6 (some 2019)), aI 480 (fun _ => 0), aI 4 (fun _ => 0)])) (lay_new rfl rfl) ?_
  refine fr_putF (pc := 102) (ci := 4) (T := TX5) (k0 := 16) (ty := (.array .int)) tyX5 tyX5_ok nmX5 rfl hin_X5 (by decide) fl_X5_48 rfl rfl rfl (by decide +kernel) rfl rfl (Nat.le_of_ble_eq_true rfl) (by decide) (lay_at (by decide) rfl) dX5_init_102 ?_
  refine fr_mem (M1 := (lay M 42 [aO 4 [.ref 43, .ref 44, .ref 45, .int 0, .ref 46, .ref 47, .int 0, .int 0, .int 0, .int 0, .int 0, .int 0, .ref 48, .ref 49, .int 0, .int 0, .ref 50, .null, .null, .null], aI 86 (fun _ => 0), aI 86 (fun _ => 0), aI 86 (fun _ => 0), aI 8 (fun _ => 0), aI 120 (fun _ => 0), aR 2 7 (va_up (va_up (va_up (va_up (va_up (va_up (va_up (fun _ => none) 0 (some 2013)) 1 (some 2014)) 2 (some 2015)) 3 (some 2016)) 4 (some 2017)) 5 (some 2018)) 6 (some 2019)), aI 480 (fun _ => 0), aI 4 (fun _ => 0)])) (lay_set (by decide) (by decide) rfl) ?_
  refine fr_aload_n (pc := 105) rfl dX5_init_105 ?_
  refine fr_iconst (pc := 106) (v := 4) rfl dX5_init_106 ?_
  refine fr_newa (N := 4) (pc := 107) wAI (by decide) ⟨by decide, by decide⟩ (by decide) dX5_init_107 ?_
  refine fr_mem (M1 := (lay M 42 [aO 4 [.ref 43, .ref 44, .ref 45, .int 0, .ref 46, .ref 47, .int 0, .int 0, .int 0, .int 0, .int 0, .int 0, .ref 48, .ref 49, .int 0, .int 0, .ref 50, .null, .null, .null], aI 86 (fun _ => 0), aI 86 (fun _ => 0), aI 86 (fun _ => 0), aI 8 (fun _ => 0), aI 120 (fun _ => 0), aR 2 7 (va_up (va_up (va_up (va_up (va_up (va_up (va_up (fun _ => none) 0 (some 2013)) 1 (some 2014)) 2 (some 2015)) 3 (some 2016)) 4 (some 2017)) 5 (some 2018)) 6 (some 2019)), aI 480 (fun _ => 0), aI 4 (fun _ => 0), aI 4 (fun _ => 0)])) (lay_new rfl rfl) ?_
  refine fr_putF (pc := 109) (ci := 4) (T := TX5) (k0 := 17) (ty := (.array .int)) tyX5 tyX5_ok nmX5 rfl hin_X5 (by decide) fl_X5_51 rfl rfl rfl (by decide +kernel) rfl rfl (Nat.le_of_ble_eq_true rfl) (by decide) (lay_at (by decide) rfl) dX5_init_109 ?_
  refine fr_mem (M1 := (lay M 42 [aO 4 [.ref 43, .ref 44, .ref 45, .int 0, .ref 46, .ref 47, .int 0, .int 0, .int 0, .int 0, .int 0, .int 0, .ref 48, .ref 49, .int 0, .int 0, .ref 50, .ref 51, .null, .null], aI 86 (fun _ => 0), aI 86 (fun _ => 0), aI 86 (fun _ => 0), aI 8 (fun _ => 0), aI 120 (fun _ => 0), aR 2 7 (va_up (va_up (va_up (va_up (va_up (va_up (va_up (fun _ => none) 0 (some 2013)) 1 (some 2014)) 2 (some 2015)) 3 (some 2016)) 4 (some 2017)) 5 (some 2018)) 6 (some 2019)), aI 480 (fun _ => 0), aI 4 (fun _ => 0), aI 4 (fun _ => 0)])) (lay_set (by decide) (by decide) rfl) ?_
  refine fr_aload_n (pc := 112) rfl dX5_init_112 ?_
  refine fr_sipush (pc := 113) (v := 160) rfl dX5_init_113 ?_
  refine fr_newa (N := 160) (pc := 116) wAI (by decide) ⟨by decide, by decide⟩ (by decide) dX5_init_116 ?_
  refine fr_mem (M1 := (lay M 42 [aO 4 [.ref 43, .ref 44, .ref 45, .int 0, .ref 46, .ref 47, .int 0, .int 0, .int 0, .int 0, .int 0, .int 0, .ref 48, .ref 49, .int 0, .int 0, .ref 50, .ref 51, .null, .null], aI 86 (fun _ => 0), aI 86 (fun _ => 0), aI 86 (fun _ => 0), aI 8 (fun _ => 0), aI 120 (fun _ => 0), aR 2 7 (va_up (va_up (va_up (va_up (va_up (va_up (va_up (fun _ => none) 0 (some 2013)) 1 (some 2014)) 2 (some 2015)) 3 (some 2016)) 4 (some 2017)) 5 (some 2018)) 6 (some 2019)), aI 480 (fun _ => 0), aI 4 (fun _ => 0), aI 4 (fun _ => 0), aI 160 (fun _ => 0)])) (lay_new rfl rfl) ?_
  refine fr_putF (pc := 118) (ci := 4) (T := TX5) (k0 := 18) (ty := (.array .int)) tyX5 tyX5_ok nmX5 rfl hin_X5 (by decide) fl_X5_54 rfl rfl rfl (by decide +kernel) rfl rfl (Nat.le_of_ble_eq_true rfl) (by decide) (lay_at (by decide) rfl) dX5_init_118 ?_
  refine fr_mem (M1 := (lay M 42 [aO 4 [.ref 43, .ref 44, .ref 45, .int 0, .ref 46, .ref 47, .int 0, .int 0, .int 0, .int 0, .int 0, .int 0, .ref 48, .ref 49, .int 0, .int 0, .ref 50, .ref 51, .ref 52, .null], aI 86 (fun _ => 0), aI 86 (fun _ => 0), aI 86 (fun _ => 0), aI 8 (fun _ => 0), aI 120 (fun _ => 0), aR 2 7 (va_up (va_up (va_up (va_up (va_up (va_up (va_up (fun _ => none) 0 (some 2013)) 1 (some 2014)) 2 (some 2015)) 3 (some 2016)) 4 (some 2017)) 5 (some 2018)) 6 (some 2019)), aI 480 (fun _ => 0), aI 4 (fun _ => 0), aI 4 (fun _ => 0), aI 160 (fun _ => 0)])) (lay_set (by decide) (by decide) rfl) ?_
  refine fr_aload_n (pc := 121) rfl dX5_init_121 ?_
  refine fr_bipush (pc := 122) (v := 40) rfl dX5_init_122 ?_
  refine fr_newa (N := 40) (pc := 124) wAI (by decide) ⟨by decide, by decide⟩ (by decide) dX5_init_124 ?_
  refine fr_mem (M1 := (lay M 42 [aO 4 [.ref 43, .ref 44, .ref 45, .int 0, .ref 46, .ref 47, .int 0, .int 0, .int 0, .int 0, .int 0, .int 0, .ref 48, .ref 49, .int 0, .int 0, .ref 50, .ref 51, .ref 52, .null], aI 86 (fun _ => 0), aI 86 (fun _ => 0), aI 86 (fun _ => 0), aI 8 (fun _ => 0), aI 120 (fun _ => 0), aR 2 7 (va_up (va_up (va_up (va_up (va_up (va_up (va_up (fun _ => none) 0 (some 2013)) 1 (some 2014)) 2 (some 2015)) 3 (some 2016)) 4 (some 2017)) 5 (some 2018)) 6 (some 2019)), aI 480 (fun _ => 0), aI 4 (fun _ => 0), aI 4 (fun _ => 0), aI 160 (fun _ => 0), aI 40 (fun _ => 0)])) (lay_new rfl rfl) ?_
  refine fr_putF (pc := 126) (ci := 4) (T := TX5) (k0 := 19) (ty := (.array .int)) tyX5 tyX5_ok nmX5 rfl hin_X5 (by decide) fl_X5_57 rfl rfl rfl (by decide +kernel) rfl rfl (Nat.le_of_ble_eq_true rfl) (by decide) (lay_at (by decide) rfl) dX5_init_126 ?_
  refine fr_mem (M1 := (lay M 42 [aO 4 [.ref 43, .ref 44, .ref 45, .int 0, .ref 46, .ref 47, .int 0, .int 0, .int 0, .int 0, .int 0, .int 0, .ref 48, .ref 49, .int 0, .int 0, .ref 50, .ref 51, .ref 52, .ref 53], aI 86 (fun _ => 0), aI 86 (fun _ => 0), aI 86 (fun _ => 0), aI 8 (fun _ => 0), aI 120 (fun _ => 0), aR 2 7 (va_up (va_up (va_up (va_up (va_up (va_up (va_up (fun _ => none) 0 (some 2013)) 1 (some 2014)) 2 (some 2015)) 3 (some 2016)) 4 (some 2017)) 5 (some 2018)) 6 (some 2019)), aI 480 (fun _ => 0), aI 4 (fun _ => 0), aI 4 (fun _ => 0), aI 160 (fun _ => 0), aI 40 (fun _ => 0)])) (lay_set (by decide) (by decide) rfl) ?_
  refine fr_extR (i := 48) (fun i => some (2013 + i)) (lay_at (by decide) rfl) (by decide) ?_
  refine fr_mem (M1 := (lay M 42 [aO 4 [.ref 43, .ref 44, .ref 45, .int 0, .ref 46, .ref 47, .int 0, .int 0, .int 0, .int 0, .int 0, .int 0, .ref 48, .ref 49, .int 0, .int 0, .ref 50, .ref 51, .ref 52, .ref 53], aI 86 (fun _ => 0), aI 86 (fun _ => 0), aI 86 (fun _ => 0), aI 8 (fun _ => 0), aI 120 (fun _ => 0), aR 2 7 (fun i => some (2013 + i)), aI 480 (fun _ => 0), aI 4 (fun _ => 0), aI 4 (fun _ => 0), aI 160 (fun _ => 0), aI 40 (fun _ => 0)])) (lay_set (by decide) (by decide) rfl) ?_
  refine fr_mem (M1 := (yM M z2 z1 z1 0 z1 z1 0 zS z1 z1 (0, 0, 0, 0, 0, 0, 0))) lay_y ?_
  refine fr_aload_n (pc := 129) rfl dX5_init_129 ?_
  refine fr_get (pc := 130) (ci := 4) (T := TX5) (k0 := 0) rfl hin_X5 (by decide) fl_X5_9 (by decide) y_42 rfl dX5_init_130 ?_
  refine fr_iconst (pc := 133) (v := 2) rfl dX5_init_133 ?_
  refine fr_iconst (pc := 134) (v := 1) rfl dX5_init_134 ?_
  refine fr_iast (pc := 135) 2 rfl (by decide) y_43 (by decide) (by decide) dX5_init_135 ?_
  refine fr_mem (y_u43 (ph_l (by decide))) ?_
  refine fr_aload_n (pc := 136) rfl dX5_init_136 ?_
  refine fr_get (pc := 137) (ci := 4) (T := TX5) (k0 := 0) rfl hin_X5 (by decide) fl_X5_9 (by decide) y_42 rfl dX5_init_137 ?_
  refine fr_iconst (pc := 140) (v := 3) rfl dX5_init_140 ?_
  refine fr_sipush (pc := 141) (v := 200) rfl dX5_init_141 ?_
  refine fr_iast (pc := 144) 3 rfl (by decide) y_43 (by decide) (by decide) dX5_init_144 ?_
  refine fr_mem (y_u43 (ph_l (by decide))) ?_
  refine fr_iconst (pc := 145) (v := 0) rfl dX5_init_145 ?_
  refine fr_istore_n (pc := 146) [(1, .int 0), (0, .ref 42)] (by decide) rfl dX5_init_146 ?_
  refine fr_mem (M1 := (yM M (v2 r0a 1 (flf 26 0)) z1 z1 0 z1 z1 0 zS z1 z1 (0, 0, 0, 0, 0, 0, 0))) (by rw [flf_0 (R := r0a) (q := 1) rfl]; rfl) ?_
  exact fr_sub [1, 0] rfl (mi_147 6 0 rfl)
