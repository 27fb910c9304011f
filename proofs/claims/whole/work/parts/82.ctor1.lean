/-! ===== making ===== -/
/-- cells from j on, one by one -/
def lay (M : Nat → aC) (j : Nat) (cs : List aC) : Nat → aC := fun i => if i < j then M i else (cs[i - j]?).getD (M i)
theorem lay_at {M : Nat → aC} {j i : Nat} {cs : List aC} {x : aC} (hj : j ≤ i) (h : cs[i - j]? = some x) : lay M j cs i = x := by
  unfold lay
  rw [if_neg (by omega), h]
  rfl
theorem lay_set {M : Nat → aC} {j i : Nat} {cs ds : List aC} {x : aC} (hj : j ≤ i) (hl : i < j + cs.length) (h : cs.set (i - j) x = ds) : a_up (lay M j cs) i x = lay M j ds := by
  subst h
  funext k
  unfold a_up lay
  by_cases e : k = i
  · subst e
    rw [if_pos rfl, if_neg (by omega), List.getElem?_set_self (by omega)]
    rfl
  · rw [if_neg e]
    by_cases h1 : k < j
    · rw [if_pos h1, if_pos h1]
    · rw [if_neg h1, if_neg h1, List.getElem?_set_ne (by omega)]
theorem lay_new {M : Nat → aC} {j i : Nat} {cs ds : List aC} {x : aC} (hi : i = j + cs.length) (h : cs ++ [x] = ds) : a_up (lay M j cs) i x = lay M j ds := by
  subst h
  funext k
  unfold a_up lay
  by_cases e : k = i
  · subst e
    rw [if_pos rfl, if_neg (by omega), List.getElem?_append_right (by omega), show k - j - cs.length = 0 by omega]
    rfl
  · rw [if_neg e]
    by_cases h1 : k < j
    · rw [if_pos h1, if_pos h1]
    · rw [if_neg h1, if_neg h1]
      by_cases h2 : k - j < cs.length
      · rw [List.getElem?_append_left h2]
      · rw [List.getElem?_append_right (by omega), List.getElem?_eq_none (by omega), List.getElem?_eq_none (by simp only [List.length_cons, List.length_nil]; omega)]
theorem lay_lay {M : Nat → aC} {j i : Nat} {cs ds es : List aC} (hi : i = j + cs.length) (h : cs ++ ds = es) : lay (lay M j cs) i ds = lay M j es := by
  subst h
  funext k
  unfold lay
  by_cases h1 : k < j
  · rw [if_pos (by omega), if_pos h1, if_pos h1]
  · rw [if_neg h1]
    by_cases h2 : k < i
    · rw [if_pos h2, if_neg h1, List.getElem?_append_left (by omega)]
    · rw [if_neg h2, if_neg h1, List.getElem?_append_right (by omega), List.getElem?_eq_none (show cs.length ≤ k - j by omega), show k - j - cs.length = k - i by omega]
      rfl
abbrev kX3_init : aM := (yX3_init, cX3_init, 1, none, ({ frames := 1, cells := 1, slots := 120, locals := 20 } : Room), 1, 120)
abbrev kX0_init : aM := (yX0_init, cX0_init, 1, none, ({ frames := 1, cells := 9, slots := 80, locals := 23 } : Room), 9, 80)
theorem wAI : Cond.arrayClass .int ∈ tG := tG_in (by decide +kernel) (by decide +kernel)
set_option maxRecDepth 100000 in
theorem n_tape {Γ : aG} {l : Launch} {M : Nat → aC} : Ev Γ l kX3_init [.ref 39] 40 (lay M 39 [aO 2 [.null, .int 0, .int 0, .int 0, .int 0, .int 0]]) none 41 (lay M 39 [aO 2 [.ref 40, .int 0, .int 0, .int 0, .int 0, .int 0], aI 120 (fun _ => 0)]) := by
  refine Ev.of [(0, .ref 39)] (by decide) (Nat.le_of_ble_eq_true rfl) rfl ?_
  refine fr_aload_n (pc := 0) rfl dX3_init_0 ?_
  refine fr_objInit (pc := 1) gm_X3_1 wO_i wO_c ⟨by decide, by decide⟩ (Nat.le_of_ble_eq_true rfl) dX3_init_1 ?_
  refine fr_aload_n (pc := 4) rfl dX3_init_4 ?_
  refine fr_bipush (pc := 5) (v := 120) rfl dX3_init_5 ?_
  refine fr_newa (N := 120) (pc := 7) wAI (by decide) ⟨by decide, by decide⟩ (by decide) dX3_init_7 ?_
  refine fr_mem (M1 := (lay M 39 [aO 2 [.null, .int 0, .int 0, .int 0, .int 0, .int 0], aI 120 (fun _ => 0)])) (lay_new rfl rfl) ?_
  refine fr_putF (pc := 9) (ci := 2) (T := TX3) (k0 := 0) (ty := (.array .int)) tyX3 tyX3_ok nmX3 rfl hin_X3 (by decide) fl_X3_9 rfl rfl rfl (by decide +kernel) rfl rfl (Nat.le_of_ble_eq_true rfl) (by decide) (lay_at (by decide) rfl) dX3_init_9 ?_
  refine fr_mem (M1 := (lay M 39 [aO 2 [.ref 40, .int 0, .int 0, .int 0, .int 0, .int 0], aI 120 (fun _ => 0)])) (lay_set (by decide) (by decide) rfl) ?_
  refine fr_aload_n (pc := 12) rfl dX3_init_12 ?_
  refine fr_iconst (pc := 13) (v := 0) rfl dX3_init_13 ?_
  refine fr_put (pc := 14) (ci := 2) (T := TX3) (k0 := 1) (ty := .int) tyX3 tyX3_ok nmX3 rfl hin_X3 (by decide) fl_X3_13 rfl (by decide +kernel) rfl rfl (Nat.le_of_ble_eq_true rfl) (by decide) (lay_at (by decide) rfl) dX3_init_14 ?_
  refine fr_mem (M1 := (lay M 39 [aO 2 [.ref 40, .int 0, .int 0, .int 0, .int 0, .int 0], aI 120 (fun _ => 0)])) (lay_set (by decide) (by decide) rfl) ?_
  refine fr_aload_n (pc := 17) rfl dX3_init_17 ?_
  refine fr_iconst (pc := 18) (v := 0) rfl dX3_init_18 ?_
  refine fr_put (pc := 19) (ci := 2) (T := TX3) (k0 := 2) (ty := .int) tyX3 tyX3_ok nmX3 rfl hin_X3 (by decide) fl_X3_17 rfl (by decide +kernel) rfl rfl (Nat.le_of_ble_eq_true rfl) (by decide) (lay_at (by decide) rfl) dX3_init_19 ?_
  refine fr_mem (M1 := (lay M 39 [aO 2 [.ref 40, .int 0, .int 0, .int 0, .int 0, .int 0], aI 120 (fun _ => 0)])) (lay_set (by decide) (by decide) rfl) ?_
  refine fr_aload_n (pc := 22) rfl dX3_init_22 ?_
  refine fr_iconst (pc := 23) (v := 0) rfl dX3_init_23 ?_
  refine fr_put (pc := 24) (ci := 2) (T := TX3) (k0 := 3) (ty := .int) tyX3 tyX3_ok nmX3 rfl hin_X3 (by decide) fl_X3_20 rfl (by decide +kernel) rfl rfl (Nat.le_of_ble_eq_true rfl) (by decide) (lay_at (by decide) rfl) dX3_init_24 ?_
  refine fr_mem (M1 := (lay M 39 [aO 2 [.ref 40, .int 0, .int 0, .int 0, .int 0, .int 0], aI 120 (fun _ => 0)])) (lay_set (by decide) (by decide) rfl) ?_
  refine fr_aload_n (pc := 27) rfl dX3_init_27 ?_
  refine fr_iconst (pc := 28) (v := 0) rfl dX3_init_28 ?_
  refine fr_put (pc := 29) (ci := 2) (T := TX3) (k0 := 4) (ty := .int) tyX3 tyX3_ok nmX3 rfl hin_X3 (by decide) fl_X3_23 rfl (by decide +kernel) rfl rfl (Nat.le_of_ble_eq_true rfl) (by decide) (lay_at (by decide) rfl) dX3_init_29 ?_
  refine fr_mem (M1 := (lay M 39 [aO 2 [.ref 40, .int 0, .int 0, .int 0, .int 0, .int 0], aI 120 (fun _ => 0)])) (lay_set (by decide) (by decide) rfl) ?_
  refine fr_aload_n (pc := 32) rfl dX3_init_32 ?_
  refine fr_iconst (pc := 33) (v := 0) rfl dX3_init_33 ?_
  refine fr_put (pc := 34) (ci := 2) (T := TX3) (k0 := 5) (ty := .int) tyX3 tyX3_ok nmX3 rfl hin_X3 (by decide) fl_X3_26 rfl (by decide +kernel) rfl rfl (Nat.le_of_ble_eq_true rfl) (by decide) (lay_at (by decide) rfl) dX3_init_34 ?_
  refine fr_mem (M1 := (lay M 39 [aO 2 [.ref 40, .int 0, .int 0, .int 0, .int 0, .int 0], aI 120 (fun _ => 0)])) (lay_set (by decide) (by decide) rfl) ?_
  exact fr_return (pc := 37) rfl rfl dX3_init_37
set_option maxRecDepth 100000 in
theorem n_house1 {Γ : aG} {l : Launch} {M : Nat → aC} : Ev Γ l kX0_init [.ref 1] 2 (lay M 1 [aO 0 [.null, .null, .int 0, .int 0, .int 0, .int 0, .int 0, .null, .null, .null, .null, .null, .null, .int 0, .null]]) none 11 (lay M 1 [aO 0 [.ref 2, .ref 3, .int 200, .int 0, .int 0, .int 0, .int 0, .ref 4, .ref 5, .ref 6, .ref 7, .ref 8, .ref 9, .int 1, .ref 10], aI 16 (fun q => if q < 16 then 20 else (fun _ => 0) q), aI 6 (fun q => if q < 6 then 26 else (fun _ => 0) q), aI 8 (fun _ => 0), aI 8 (fun _ => 0), aI 8 (fun _ => 0), aI 8 (fun _ => 0), aI 8 (fun _ => 0), aI 8 (fun _ => 0), aI 10 (fun q => if q < 10 then (-1) else (fun _ => 0) q)]) := by
  refine Ev.of [(0, .ref 1)] (by decide) (Nat.le_of_ble_eq_true rfl) rfl ?_
  refine fr_aload_n (pc := 0) rfl dX0_init_0 ?_
  refine fr_objInit (pc := 1) gm_X0_1 wO_i wO_c ⟨by decide, by decide⟩ (Nat.le_of_ble_eq_true rfl) dX0_init_1 ?_
  refine fr_aload_n (pc := 4) rfl dX0_init_4 ?_
  refine fr_bipush (pc := 5) (v := 16) rfl dX0_init_5 ?_
  refine fr_newa (N := 16) (pc := 7) wAI (by decide) ⟨by decide, by decide⟩ (by decide) dX0_init_7 ?_
  refine fr_mem (M1 := (lay M 1 [aO 0 [.null, .null, .int 0, .int 0, .int 0, .int 0, .int 0, .null, .null, .null, .null, .null, .null, .int 0, .null], aI 16 (fun _ => 0)])) (lay_new rfl rfl) ?_
  refine fr_putF (pc := 9) (ci := 0) (T := TX0) (k0 := 0) (ty := (.array .int)) tyX0 tyX0_ok nmX0 rfl hin_X0 (by decide) fl_X0_9 rfl rfl rfl (by decide +kernel) rfl rfl (Nat.le_of_ble_eq_true rfl) (by decide) (lay_at (by decide) rfl) dX0_init_9 ?_
  refine fr_mem (M1 := (lay M 1 [aO 0 [.ref 2, .null, .int 0, .int 0, .int 0, .int 0, .int 0, .null, .null, .null, .null, .null, .null, .int 0, .null], aI 16 (fun _ => 0)])) (lay_set (by decide) (by decide) rfl) ?_
  refine fr_aload_n (pc := 12) rfl dX0_init_12 ?_
  refine fr_bipush (pc := 13) (v := 6) rfl dX0_init_13 ?_
  refine fr_newa (N := 6) (pc := 15) wAI (by decide) ⟨by decide, by decide⟩ (by decide) dX0_init_15 ?_
  refine fr_mem (M1 := (lay M 1 [aO 0 [.ref 2, .null, .int 0, .int 0, .int 0, .int 0, .int 0, .null, .null, .null, .null, .null, .null, .int 0, .null], aI 16 (fun _ => 0), aI 6 (fun _ => 0)])) (lay_new rfl rfl) ?_
  refine fr_putF (pc := 17) (ci := 0) (T := TX0) (k0 := 1) (ty := (.array .int)) tyX0 tyX0_ok nmX0 rfl hin_X0 (by decide) fl_X0_13 rfl rfl rfl (by decide +kernel) rfl rfl (Nat.le_of_ble_eq_true rfl) (by decide) (lay_at (by decide) rfl) dX0_init_17 ?_
  refine fr_mem (M1 := (lay M 1 [aO 0 [.ref 2, .ref 3, .int 0, .int 0, .int 0, .int 0, .int 0, .null, .null, .null, .null, .null, .null, .int 0, .null], aI 16 (fun _ => 0), aI 6 (fun _ => 0)])) (lay_set (by decide) (by decide) rfl) ?_
  refine fr_aload_n (pc := 20) rfl dX0_init_20 ?_
  refine fr_sipush (pc := 21) (v := 200) rfl dX0_init_21 ?_
  refine fr_put (pc := 24) (ci := 0) (T := TX0) (k0 := 2) (ty := .int) tyX0 tyX0_ok nmX0 rfl hin_X0 (by decide) fl_X0_16 rfl (by decide +kernel) rfl rfl (Nat.le_of_ble_eq_true rfl) (by decide) (lay_at (by decide) rfl) dX0_init_24 ?_
  refine fr_mem (M1 := (lay M 1 [aO 0 [.ref 2, .ref 3, .int 200, .int 0, .int 0, .int 0, .int 0, .null, .null, .null, .null, .null, .null, .int 0, .null], aI 16 (fun _ => 0), aI 6 (fun _ => 0)])) (lay_set (by decide) (by decide) rfl) ?_
  refine fr_aload_n (pc := 27) rfl dX0_init_27 ?_
  refine fr_iconst (pc := 28) (v := 0) rfl dX0_init_28 ?_
  refine fr_put (pc := 29) (ci := 0) (T := TX0) (k0 := 3) (ty := .int) tyX0 tyX0_ok nmX0 rfl hin_X0 (by decide) fl_X0_20 rfl (by decide +kernel) rfl rfl (Nat.le_of_ble_eq_true rfl) (by decide) (lay_at (by decide) rfl) dX0_init_29 ?_
  refine fr_mem (M1 := (lay M 1 [aO 0 [.ref 2, .ref 3, .int 200, .int 0, .int 0, .int 0, .int 0, .null, .null, .null, .null, .null, .null, .int 0, .null], aI 16 (fun _ => 0), aI 6 (fun _ => 0)])) (lay_set (by decide) (by decide) rfl) ?_
  refine fr_aload_n (pc := 32) rfl dX0_init_32 ?_
  refine fr_iconst (pc := 33) (v := 0) rfl dX0_init_33 ?_
  refine fr_put (pc := 34) (ci := 0) (T := TX0) (k0 := 4) (ty := .int) tyX0 tyX0_ok nmX0 rfl hin_X0 (by decide) fl_X0_23 rfl (by decide +kernel) rfl rfl (Nat.le_of_ble_eq_true rfl) (by decide) (lay_at (by decide) rfl) dX0_init_34 ?_
  refine fr_mem (M1 := (lay M 1 [aO 0 [.ref 2, .ref 3, .int 200, .int 0, .int 0, .int 0, .int 0, .null, .null, .null, .null, .null, .null, .int 0, .null], aI 16 (fun _ => 0), aI 6 (fun _ => 0)])) (lay_set (by decide) (by decide) rfl) ?_
  refine fr_aload_n (pc := 37) rfl dX0_init_37 ?_
  refine fr_iconst (pc := 38) (v := 0) rfl dX0_init_38 ?_
  refine fr_put (pc := 39) (ci := 0) (T := TX0) (k0 := 5) (ty := .int) tyX0 tyX0_ok nmX0 rfl hin_X0 (by decide) fl_X0_26 rfl (by decide +kernel) rfl rfl (Nat.le_of_ble_eq_true rfl) (by decide) (lay_at (by decide) rfl) dX0_init_39 ?_
  refine fr_mem (M1 := (lay M 1 [aO 0 [.ref 2, .ref 3, .int 200, .int 0, .int 0, .int 0, .int 0, .null, .null, .null, .null, .null, .null, .int 0, .null], aI 16 (fun _ => 0), aI 6 (fun _ => 0)])) (lay_set (by decide) (by decide) rfl) ?_
  refine fr_aload_n (pc := 42) rfl dX0_init_42 ?_
  refine fr_iconst (pc := 43) (v := 0) rfl dX0_init_43 ?_
  refine fr_put (pc := 44) (ci := 0) (T := TX0) (k0 := 6) (ty := .int) tyX0 tyX0_ok nmX0 rfl hin_X0 (by decide) fl_X0_29 rfl (by decide +kernel) rfl rfl (Nat.le_of_ble_eq_true rfl) (by decide) (lay_at (by decide) rfl) dX0_init_44 ?_
  refine fr_mem (M1 := (lay M 1 [aO 0 [.ref 2, .ref 3, .int 200, .int 0, .int 0, .int 0, .int 0, .null, .null, .null, .null, .null, .null, .int 0, .null], aI 16 (fun _ => 0), aI 6 (fun _ => 0)])) (lay_set (by decide) (by decide) rfl) ?_
  refine fr_aload_n (pc := 47) rfl dX0_init_47 ?_
  refine fr_bipush (pc := 48) (v := 8) rfl dX0_init_48 ?_
  refine fr_newa (N := 8) (pc := 50) wAI (by decide) ⟨by decide, by decide⟩ (by decide) dX0_init_50 ?_
  refine fr_mem (M1 := (lay M 1 [aO 0 [.ref 2, .ref 3, .int 200, .int 0, .int 0, .int 0, .int 0, .null, .null, .null, .null, .null, .null, .int 0, .null], aI 16 (fun _ => 0), aI 6 (fun _ => 0), aI 8 (fun _ => 0)])) (lay_new rfl rfl) ?_
  refine fr_putF (pc := 52) (ci := 0) (T := TX0) (k0 := 7) (ty := (.array .int)) tyX0 tyX0_ok nmX0 rfl hin_X0 (by decide) fl_X0_32 rfl rfl rfl (by decide +kernel) rfl rfl (Nat.le_of_ble_eq_true rfl) (by decide) (lay_at (by decide) rfl) dX0_init_52 ?_
  refine fr_mem (M1 := (lay M 1 [aO 0 [.ref 2, .ref 3, .int 200, .int 0, .int 0, .int 0, .int 0, .ref 4, .null, .null, .null, .null, .null, .int 0, .null], aI 16 (fun _ => 0), aI 6 (fun _ => 0), aI 8 (fun _ => 0)])) (lay_set (by decide) (by decide) rfl) ?_
  refine fr_aload_n (pc := 55) rfl dX0_init_55 ?_
  refine fr_bipush (pc := 56) (v := 8) rfl dX0_init_56 ?_
  refine fr_newa (N := 8) (pc := 58) wAI (by decide) ⟨by decide, by decide⟩ (by decide) dX0_init_58 ?_
  refine fr_mem (M1 := (lay M 1 [aO 0 [.ref 2, .ref 3, .int 200, .int 0, .int 0, .int 0, .int 0, .ref 4, .null, .null, .null, .null, .null, .int 0, .null], aI 16 (fun _ => 0), aI 6 (fun _ => 0), aI 8 (fun _ => 0), aI 8 (fun _ => 0)])) (lay_new rfl rfl) ?_
  refine fr_putF (pc := 60) (ci := 0) (T := TX0) (k0 := 8) (ty := (.array .int)) tyX0 tyX0_ok nmX0 rfl hin_X0 (by decide) fl_X0_35 rfl rfl rfl (by decide +kernel) rfl rfl (Nat.le_of_ble_eq_true rfl) (by decide) (lay_at (by decide) rfl) dX0_init_60 ?_
  refine fr_mem (M1 := (lay M 1 [aO 0 [.ref 2, .ref 3, .int 200, .int 0, .int 0, .int 0, .int 0, .ref 4, .ref 5, .null, .null, .null, .null, .int 0, .null], aI 16 (fun _ => 0), aI 6 (fun _ => 0), aI 8 (fun _ => 0), aI 8 (fun _ => 0)])) (lay_set (by decide) (by decide) rfl) ?_
  refine fr_aload_n (pc := 63) rfl dX0_init_63 ?_
  refine fr_bipush (pc := 64) (v := 8) rfl dX0_init_64 ?_
  refine fr_newa (N := 8) (pc := 66) wAI (by decide) ⟨by decide, by decide⟩ (by decide) dX0_init_66 ?_
  refine fr_mem (M1 := (lay M 1 [aO 0 [.ref 2, .ref 3, .int 200, .int 0, .int 0, .int 0, .int 0, .ref 4, .ref 5, .null, .null, .null, .null, .int 0, .null], aI 16 (fun _ => 0), aI 6 (fun _ => 0), aI 8 (fun _ => 0), aI 8 (fun _ => 0), aI 8 (fun _ => 0)])) (lay_new rfl rfl) ?_
  refine fr_putF (pc := 68) (ci := 0) (T := TX0) (k0 := 9) (ty := (.array .int)) tyX0 tyX0_ok nmX0 rfl hin_X0 (by decide) fl_X0_38 rfl rfl rfl (by decide +kernel) rfl rfl (Nat.le_of_ble_eq_true rfl) (by decide) (lay_at (by decide) rfl) dX0_init_68 ?_
  refine fr_mem (M1 := (lay M 1 [aO 0 [.ref 2, .ref 3, .int 200, .int 0, .int 0, .int 0, .int 0, .ref 4, .ref 5, .ref 6, .null, .null, .null, .int 0, .null], aI 16 (fun _ => 0), aI 6 (fun _ => 0), aI 8 (fun _ => 0), aI 8 (fun _ => 0), aI 8 (fun _ => 0)])) (lay_set (by decide) (by decide) rfl) ?_
  refine fr_aload_n (pc := 71) rfl dX0_init_71 ?_
  refine fr_bipush (pc := 72) (v := 8) rfl dX0_init_72 ?_
  refine fr_newa (N := 8) (pc := 74) wAI (by decide) ⟨by decide, by decide⟩ (by decide) dX0_init_74 ?_
  refine fr_mem (M1 := (lay M 1 [aO 0 [.ref 2, .ref 3, .int 200, .int 0, .int 0, .int 0, .int 0, .ref 4, .ref 5, .ref 6, .null, .null, .null, .int 0, .null], aI 16 (fun _ => 0), aI 6 (fun _ => 0), aI 8 (fun _ => 0), aI 8 (fun _ => 0), aI 8 (fun _ => 0), aI 8 (fun _ => 0)])) (lay_new rfl rfl) ?_
  refine fr_putF (pc := 76) (ci := 0) (T := TX0) (k0 := 10) (ty := (.array .int)) tyX0 tyX0_ok nmX0 rfl hin_X0 (by decide) fl_X0_41 rfl rfl rfl (by decide +kernel) rfl rfl (Nat.le_of_ble_eq_true rfl) (by decide) (lay_at (by decide) rfl) dX0_init_76 ?_
  refine fr_mem (M1 := (lay M 1 [aO 0 [.ref 2, .ref 3, .int 200, .int 0, .int 0, .int 0, .int 0, .ref 4, .ref 5, .ref 6, .ref 7, .null, .null, .int 0, .null], aI 16 (fun _ => 0), aI 6 (fun _ => 0), aI 8 (fun _ => 0), aI 8 (fun _ => 0), aI 8 (fun _ => 0), aI 8 (fun _ => 0)])) (lay_set (by decide) (by decide) rfl) ?_
  refine fr_aload_n (pc := 79) rfl dX0_init_79 ?_
  refine fr_bipush (pc := 80) (v := 8) rfl dX0_init_80 ?_
  refine fr_newa (N := 8) (pc := 82) wAI (by decide) ⟨by decide, by decide⟩ (by decide) dX0_init_82 ?_
  refine fr_mem (M1 := (lay M 1 [aO 0 [.ref 2, .ref 3, .int 200, .int 0, .int 0, .int 0, .int 0, .ref 4, .ref 5, .ref 6, .ref 7, .null, .null, .int 0, .null], aI 16 (fun _ => 0), aI 6 (fun _ => 0), aI 8 (fun _ => 0), aI 8 (fun _ => 0), aI 8 (fun _ => 0), aI 8 (fun _ => 0), aI 8 (fun _ => 0)])) (lay_new rfl rfl) ?_
  refine fr_putF (pc := 84) (ci := 0) (T := TX0) (k0 := 11) (ty := (.array .int)) tyX0 tyX0_ok nmX0 rfl hin_X0 (by decide) fl_X0_44 rfl rfl rfl (by decide +kernel) rfl rfl (Nat.le_of_ble_eq_true rfl) (by decide) (lay_at (by decide) rfl) dX0_init_84 ?_
  refine fr_mem (M1 := (lay M 1 [aO 0 [.ref 2, .ref 3, .int 200, .int 0, .int 0, .int 0, .int 0, .ref 4, .ref 5, .ref 6, .ref 7, .ref 8, .null, .int 0, .null], aI 16 (fun _ => 0), aI 6 (fun _ => 0), aI 8 (fun _ => 0), aI 8 (fun _ => 0), aI 8 (fun _ => 0), aI 8 (fun _ => 0), aI 8 (fun _ => 0)])) (lay_set (by decide) (by decide) rfl) ?_
  refine fr_aload_n (pc := 87) rfl dX0_init_87 ?_
  refine fr_bipush (pc := 88) (v := 8) rfl dX0_init_88 ?_
  refine fr_newa (N := 8) (pc := 90) wAI (by decide) ⟨by decide, by decide⟩ (by decide) dX0_init_90 ?_
  refine fr_mem (M1 := (lay M 1 [aO 0 [.ref 2, .ref 3, .int 200, .int 0, .int 0, .int 0, .int 0, .ref 4, .ref 5, .ref 6, .ref 7, .ref 8, .null, .int 0, .null], aI 16 (fun _ => 0), aI 6 (fun _ => 0), aI 8 (fun _ => 0), aI 8 (fun _ => 0), aI 8 (fun _ => 0), aI 8 (fun _ => 0), aI 8 (fun _ => 0), aI 8 (fun _ => 0)])) (lay_new rfl rfl) ?_
  refine fr_putF (pc := 92) (ci := 0) (T := TX0) (k0 := 12) (ty := (.array .int)) tyX0 tyX0_ok nmX0 rfl hin_X0 (by decide) fl_X0_47 rfl rfl rfl (by decide +kernel) rfl rfl (Nat.le_of_ble_eq_true rfl) (by decide) (lay_at (by decide) rfl) dX0_init_92 ?_
  refine fr_mem (M1 := (lay M 1 [aO 0 [.ref 2, .ref 3, .int 200, .int 0, .int 0, .int 0, .int 0, .ref 4, .ref 5, .ref 6, .ref 7, .ref 8, .ref 9, .int 0, .null], aI 16 (fun _ => 0), aI 6 (fun _ => 0), aI 8 (fun _ => 0), aI 8 (fun _ => 0), aI 8 (fun _ => 0), aI 8 (fun _ => 0), aI 8 (fun _ => 0), aI 8 (fun _ => 0)])) (lay_set (by decide) (by decide) rfl) ?_
  refine fr_aload_n (pc := 95) rfl dX0_init_95 ?_
  refine fr_iconst (pc := 96) (v := 1) rfl dX0_init_96 ?_
  refine fr_put (pc := 97) (ci := 0) (T := TX0) (k0 := 13) (ty := .int) tyX0 tyX0_ok nmX0 rfl hin_X0 (by decide) fl_X0_50 rfl (by decide +kernel) rfl rfl (Nat.le_of_ble_eq_true rfl) (by decide) (lay_at (by decide) rfl) dX0_init_97 ?_
  refine fr_mem (M1 := (lay M 1 [aO 0 [.ref 2, .ref 3, .int 200, .int 0, .int 0, .int 0, .int 0, .ref 4, .ref 5, .ref 6, .ref 7, .ref 8, .ref 9, .int 1, .null], aI 16 (fun _ => 0), aI 6 (fun _ => 0), aI 8 (fun _ => 0), aI 8 (fun _ => 0), aI 8 (fun _ => 0), aI 8 (fun _ => 0), aI 8 (fun _ => 0), aI 8 (fun _ => 0)])) (lay_set (by decide) (by decide) rfl) ?_
  refine fr_aload_n (pc := 100) rfl dX0_init_100 ?_
  refine fr_bipush (pc := 101) (v := 10) rfl dX0_init_101 ?_
  refine fr_newa (N := 10) (pc := 103) wAI (by decide) ⟨by decide, by decide⟩ (by decide) dX0_init_103 ?_
  refine fr_mem (M1 := (lay M 1 [aO 0 [.ref 2, .ref 3, .int 200, .int 0, .int 0, .int 0, .int 0, .ref 4, .ref 5, .ref 6, .ref 7, .ref 8, .ref 9, .int 1, .null], aI 16 (fun _ => 0), aI 6 (fun _ => 0), aI 8 (fun _ => 0), aI 8 (fun _ => 0), aI 8 (fun _ => 0), aI 8 (fun _ => 0), aI 8 (fun _ => 0), aI 8 (fun _ => 0), aI 10 (fun _ => 0)])) (lay_new rfl rfl) ?_
  refine fr_putF (pc := 105) (ci := 0) (T := TX0) (k0 := 14) (ty := (.array .int)) tyX0 tyX0_ok nmX0 rfl hin_X0 (by decide) fl_X0_53 rfl rfl rfl (by decide +kernel) rfl rfl (Nat.le_of_ble_eq_true rfl) (by decide) (lay_at (by decide) rfl) dX0_init_105 ?_
  refine fr_mem (M1 := (lay M 1 [aO 0 [.ref 2, .ref 3, .int 200, .int 0, .int 0, .int 0, .int 0, .ref 4, .ref 5, .ref 6, .ref 7, .ref 8, .ref 9, .int 1, .ref 10], aI 16 (fun _ => 0), aI 6 (fun _ => 0), aI 8 (fun _ => 0), aI 8 (fun _ => 0), aI 8 (fun _ => 0), aI 8 (fun _ => 0), aI 8 (fun _ => 0), aI 8 (fun _ => 0), aI 10 (fun _ => 0)])) (lay_set (by decide) (by decide) rfl) ?_
  refine fr_aload_n (pc := 108) rfl dX0_init_108 ?_
  refine fr_get (pc := 109) (ci := 0) (T := TX0) (k0 := 0) rfl hin_X0 (by decide) fl_X0_9 (by decide) (lay_at (by decide) rfl) rfl dX0_init_109 ?_
  refine fr_bipush (pc := 112) (v := 20) rfl dX0_init_112 ?_
  refine fr_callS0 (pc := 114) [.ref 2, .int 20] [] (c_fill (N := 16) (by decide) (lay_at (by decide) rfl) (by decide)) gc_X0_56 rfl rfl ⟨rfl, rfl, by decide, by decide⟩ (Nat.le_of_ble_eq_true rfl) ⟨by decide, by decide⟩ dX0_init_114 ?_
  refine fr_mem (M1 := (lay M 1 [aO 0 [.ref 2, .ref 3, .int 200, .int 0, .int 0, .int 0, .int 0, .ref 4, .ref 5, .ref 6, .ref 7, .ref 8, .ref 9, .int 1, .ref 10], aI 16 (fun q => if q < 16 then 20 else (fun _ => 0) q), aI 6 (fun _ => 0), aI 8 (fun _ => 0), aI 8 (fun _ => 0), aI 8 (fun _ => 0), aI 8 (fun _ => 0), aI 8 (fun _ => 0), aI 8 (fun _ => 0), aI 10 (fun _ => 0)])) (lay_set (by decide) (by decide) rfl) ?_
  refine fr_aload_n (pc := 117) rfl dX0_init_117 ?_
  refine fr_get (pc := 118) (ci := 0) (T := TX0) (k0 := 1) rfl hin_X0 (by decide) fl_X0_13 (by decide) (lay_at (by decide) rfl) rfl dX0_init_118 ?_
  refine fr_bipush (pc := 121) (v := 26) rfl dX0_init_121 ?_
  refine fr_callS0 (pc := 123) [.ref 3, .int 26] [] (c_fill (N := 6) (by decide) (lay_at (by decide) rfl) (by decide)) gc_X0_56 rfl rfl ⟨rfl, rfl, by decide, by decide⟩ (Nat.le_of_ble_eq_true rfl) ⟨by decide, by decide⟩ dX0_init_123 ?_
  refine fr_mem (M1 := (lay M 1 [aO 0 [.ref 2, .ref 3, .int 200, .int 0, .int 0, .int 0, .int 0, .ref 4, .ref 5, .ref 6, .ref 7, .ref 8, .ref 9, .int 1, .ref 10], aI 16 (fun q => if q < 16 then 20 else (fun _ => 0) q), aI 6 (fun q => if q < 6 then 26 else (fun _ => 0) q), aI 8 (fun _ => 0), aI 8 (fun _ => 0), aI 8 (fun _ => 0), aI 8 (fun _ => 0), aI 8 (fun _ => 0), aI 8 (fun _ => 0), aI 10 (fun _ => 0)])) (lay_set (by decide) (by decide) rfl) ?_
  refine fr_aload_n (pc := 126) rfl dX0_init_126 ?_
  refine fr_get (pc := 127) (ci := 0) (T := TX0) (k0 := 14) rfl hin_X0 (by decide) fl_X0_53 (by decide) (lay_at (by decide) rfl) rfl dX0_init_127 ?_
  refine fr_iconst (pc := 130) (v := (-1)) rfl dX0_init_130 ?_
  refine fr_callS0 (pc := 131) [.ref 10, .int (-1)] [] (c_fill (N := 10) (by decide) (lay_at (by decide) rfl) (by decide)) gc_X0_56 rfl rfl ⟨rfl, rfl, by decide, by decide⟩ (Nat.le_of_ble_eq_true rfl) ⟨by decide, by decide⟩ dX0_init_131 ?_
  refine fr_mem (M1 := (lay M 1 [aO 0 [.ref 2, .ref 3, .int 200, .int 0, .int 0, .int 0, .int 0, .ref 4, .ref 5, .ref 6, .ref 7, .ref 8, .ref 9, .int 1, .ref 10], aI 16 (fun q => if q < 16 then 20 else (fun _ => 0) q), aI 6 (fun q => if q < 6 then 26 else (fun _ => 0) q), aI 8 (fun _ => 0), aI 8 (fun _ => 0), aI 8 (fun _ => 0), aI 8 (fun _ => 0), aI 8 (fun _ => 0), aI 8 (fun _ => 0), aI 10 (fun q => if q < 10 then (-1) else (fun _ => 0) q)])) (lay_set (by decide) (by decide) rfl) ?_
  exact fr_return (pc := 134) rfl rfl dX0_init_134
set_option maxRecDepth 100000 in
theorem n_house11 {Γ : aG} {l : Launch} {M : Nat → aC} : Ev Γ l kX0_init [.ref 11] 12 (lay M 11 [aO 0 [.null, .null, .int 0, .int 0, .int 0, .int 0, .int 0, .null, .null, .null, .null, .null, .null, .int 0, .null]]) none 21 (lay M 11 [aO 0 [.ref 12, .ref 13, .int 200, .int 0, .int 0, .int 0, .int 0, .ref 14, .ref 15, .ref 16, .ref 17, .ref 18, .ref 19, .int 1, .ref 20], aI 16 (fun q => if q < 16 then 20 else (fun _ => 0) q), aI 6 (fun q => if q < 6 then 26 else (fun _ => 0) q), aI 8 (fun _ => 0), aI 8 (fun _ => 0), aI 8 (fun _ => 0), aI 8 (fun _ => 0), aI 8 (fun _ => 0), aI 8 (fun _ => 0), aI 10 (fun q => if q < 10 then (-1) else (fun _ => 0) q)]) := by
  refine Ev.of [(0, .ref 11)] (by decide) (Nat.le_of_ble_eq_true rfl) rfl ?_
  refine fr_aload_n (pc := 0) rfl dX0_init_0 ?_
  refine fr_objInit (pc := 1) gm_X0_1 wO_i wO_c ⟨by decide, by decide⟩ (Nat.le_of_ble_eq_true rfl) dX0_init_1 ?_
  refine fr_aload_n (pc := 4) rfl dX0_init_4 ?_
  refine fr_bipush (pc := 5) (v := 16) rfl dX0_init_5 ?_
  refine fr_newa (N := 16) (pc := 7) wAI (by decide) ⟨by decide, by decide⟩ (by decide) dX0_init_7 ?_
  refine fr_mem (M1 := (lay M 11 [aO 0 [.null, .null, .int 0, .int 0, .int 0, .int 0, .int 0, .null, .null, .null, .null, .null, .null, .int 0, .null], aI 16 (fun _ => 0)])) (lay_new rfl rfl) ?_
  refine fr_putF (pc := 9) (ci := 0) (T := TX0) (k0 := 0) (ty := (.array .int)) tyX0 tyX0_ok nmX0 rfl hin_X0 (by decide) fl_X0_9 rfl rfl rfl (by decide +kernel) rfl rfl (Nat.le_of_ble_eq_true rfl) (by decide) (lay_at (by decide) rfl) dX0_init_9 ?_
  refine fr_mem (M1 := (lay M 11 [aO 0 [.ref 12, .null, .int 0, .int 0, .int 0, .int 0, .int 0, .null, .null, .null, .null, .null, .null, .int 0, .null], aI 16 (fun _ => 0)])) (lay_set (by decide) (by decide) rfl) ?_
  refine fr_aload_n (pc := 12) rfl dX0_init_12 ?_
  refine fr_bipush (pc := 13) (v := 6) rfl dX0_init_13 ?_
  refine fr_newa (N := 6) (pc := 15) wAI (by decide) ⟨by decide, by decide⟩ (by decide) dX0_init_15 ?_
  refine fr_mem (M1 := (lay M 11 [aO 0 [.ref 12, .null, .int 0, .int 0, .int 0, .int 0, .int 0, .null, .null, .null, .null, .null, .null, .int 0, .null], aI 16 (fun _ => 0), aI 6 (fun _ => 0)])) (lay_new rfl rfl) ?_
  refine fr_putF (pc := 17) (ci := 0) (T := TX0) (k0 := 1) (ty := (.array .int)) tyX0 tyX0_ok nmX0 rfl hin_X0 (by decide) fl_X0_13 rfl rfl rfl (by decide +kernel) rfl rfl (Nat.le_of_ble_eq_true rfl) (by decide) (lay_at (by decide) rfl) dX0_init_17 ?_
  refine fr_mem (M1 := (lay M 11 [aO 0 [.ref 12, .ref 13, .int 0, .int 0, .int 0, .int 0, .int 0, .null, .null, .null, .null, .null, .null, .int 0, .null], aI 16 (fun _ => 0), aI 6 (fun _ => 0)])) (lay_set (by decide) (by decide) rfl) ?_
  refine fr_aload_n (pc := 20) rfl dX0_init_20 ?_
  refine fr_sipush (pc := 21) (v := 200) rfl dX0_init_21 ?_
  refine fr_put (pc := 24) (ci := 0) (T := TX0) (k0 := 2) (ty := .int) tyX0 tyX0_ok nmX0 rfl hin_X0 (by decide) fl_X0_16 rfl (by decide +kernel) rfl rfl (Nat.le_of_ble_eq_true rfl) (by decide) (lay_at (by decide) rfl) dX0_init_24 ?_
  refine fr_mem (M1 := (lay M 11 [aO 0 [.ref 12, .ref 13, .int 200, .int 0, .int 0, .int 0, .int 0, .null, .null, .null, .null, .null, .null, .int 0, .null], aI 16 (fun _ => 0), aI 6 (fun _ => 0)])) (lay_set (by decide) (by decide) rfl) ?_
  refine fr_aload_n (pc := 27) rfl dX0_init_27 ?_
  refine fr_iconst (pc := 28) (v := 0) rfl dX0_init_28 ?_
  refine fr_put (pc := 29) (ci := 0) (T := TX0) (k0 := 3) (ty := .int) tyX0 tyX0_ok nmX0 rfl hin_X0 (by decide) fl_X0_20 rfl (by decide +kernel) rfl rfl (Nat.le_of_ble_eq_true rfl) (by decide) (lay_at (by decide) rfl) dX0_init_29 ?_
  refine fr_mem (M1 := (lay M 11 [aO 0 [.ref 12, .ref 13, .int 200, .int 0, .int 0, .int 0, .int 0, .null, .null, .null, .null, .null, .null, .int 0, .null], aI 16 (fun _ => 0), aI 6 (fun _ => 0)])) (lay_set (by decide) (by decide) rfl) ?_
  refine fr_aload_n (pc := 32) rfl dX0_init_32 ?_
  refine fr_iconst (pc := 33) (v := 0) rfl dX0_init_33 ?_
  refine fr_put (pc := 34) (ci := 0) (T := TX0) (k0 := 4) (ty := .int) tyX0 tyX0_ok nmX0 rfl hin_X0 (by decide) fl_X0_23 rfl (by decide +kernel) rfl rfl (Nat.le_of_ble_eq_true rfl) (by decide) (lay_at (by decide) rfl) dX0_init_34 ?_
  refine fr_mem (M1 := (lay M 11 [aO 0 [.ref 12, .ref 13, .int 200, .int 0, .int 0, .int 0, .int 0, .null, .null, .null, .null, .null, .null, .int 0, .null], aI 16 (fun _ => 0), aI 6 (fun _ => 0)])) (lay_set (by decide) (by decide) rfl) ?_
  refine fr_aload_n (pc := 37) rfl dX0_init_37 ?_
  refine fr_iconst (pc := 38) (v := 0) rfl dX0_init_38 ?_
  refine fr_put (pc := 39) (ci := 0) (T := TX0) (k0 := 5) (ty := .int) tyX0 tyX0_ok nmX0 rfl hin_X0 (by decide) fl_X0_26 rfl (by decide +kernel) rfl rfl (Nat.le_of_ble_eq_true rfl) (by decide) (lay_at (by decide) rfl) dX0_init_39 ?_
  refine fr_mem (M1 := (lay M 11 [aO 0 [.ref 12, .ref 13, .int 200, .int 0, .int 0, .int 0, .int 0, .null, .null, .null, .null, .null, .null, .int 0, .null], aI 16 (fun _ => 0), aI 6 (fun _ => 0)])) (lay_set (by decide) (by decide) rfl) ?_
  refine fr_aload_n (pc := 42) rfl dX0_init_42 ?_
  refine fr_iconst (pc := 43) (v := 0) rfl dX0_init_43 ?_
  refine fr_put (pc := 44) (ci := 0) (T := TX0) (k0 := 6) (ty := .int) tyX0 tyX0_ok nmX0 rfl hin_X0 (by decide) fl_X0_29 rfl (by decide +kernel) rfl rfl (Nat.le_of_ble_eq_true rfl) (by decide) (lay_at (by decide) rfl) dX0_init_44 ?_
  refine fr_mem (M1 := (lay M 11 [aO 0 [.ref 12, .ref 13, .int 200, .int 0, .int 0, .int 0, .int 0, .null, .null, .null, .null, .null, .null, .int 0, .null], aI 16 (fun _ => 0), aI 6 (fun _ => 0)])) (lay_set (by decide) (by decide) rfl) ?_
  refine fr_aload_n (pc := 47) rfl dX0_init_47 ?_
  refine fr_bipush (pc := 48) (v := 8) rfl dX0_init_48 ?_
  refine fr_newa (N := 8) (pc := 50) wAI (by decide) ⟨by decide, by decide⟩ (by decide) dX0_init_50 ?_
  refine fr_mem (M1 := (lay M 11 [aO 0 [.ref 12, .ref 13, .int 200, .int 0, .int 0, .int 0, .int 0, .null, .null, .null, .null, .null, .null, .int 0, .null], aI 16 (fun _ => 0), aI 6 (fun _ => 0), aI 8 (fun _ => 0)])) (lay_new rfl rfl) ?_
  refine fr_putF (pc := 52) (ci := 0) (T := TX0) (k0 := 7) (ty := (.array .int)) tyX0 tyX0_ok nmX0 rfl hin_X0 (by decide) fl_X0_32 rfl rfl rfl (by decide +kernel) rfl rfl (Nat.le_of_ble_eq_true rfl) (by decide) (lay_at (by decide) rfl) dX0_init_52 ?_
  refine fr_mem (M1 := (lay M 11 [aO 0 [.ref 12, .ref 13, .int 200, .int 0, .int 0, .int 0, .int 0, .ref 14, .null, .null, .null, .null, .null, .int 0, .null], aI 16 (fun _ => 0), aI 6 (fun _ => 0), aI 8 (fun _ => 0)])) (lay_set (by decide) (by decide) rfl) ?_
  refine fr_aload_n (pc := 55) rfl dX0_init_55 ?_
  refine fr_bipush (pc := 56) (v := 8) rfl dX0_init_56 ?_
  refine fr_newa (N := 8) (pc := 58) wAI (by decide) ⟨by decide, by decide⟩ (by decide) dX0_init_58 ?_
  refine fr_mem (M1 := (lay M 11 [aO 0 [.ref 12, .ref 13, .int 200, .int 0, .int 0, .int 0, .int 0, .ref 14, .null, .null, .null, .null, .null, .int 0, .null], aI 16 (fun _ => 0), aI 6 (fun _ => 0), aI 8 (fun _ => 0), aI 8 (fun _ => 0)])) (lay_new rfl rfl) ?_
  refine fr_putF (pc := 60) (ci := 0) (T := TX0) (k0 := 8) (ty := (.array .int)) tyX0 tyX0_ok nmX0 rfl hin_X0 (by decide) fl_X0_35 rfl rfl rfl (by decide +kernel) rfl rfl (Nat.le_of_ble_eq_true rfl) (by decide) (lay_at (by decide) rfl) dX0_init_60 ?_
  refine fr_mem (M1 := (lay M 11 [aO 0 [.ref 12, .ref 13, .int 200, .int 0, .int 0, .int 0, .int 0, .ref 14, .ref 15, .null, .null, .null, .null, .int 0, .null], aI 16 (fun _ => 0), aI 6 (fun _ => 0), aI 8 (fun _ => 0), aI 8 (fun _ => 0)])) (lay_set (by decide) (by decide) rfl) ?_
  refine fr_aload_n (pc := 63) rfl dX0_init_63 ?_
  refine fr_bipush (pc := 64) (v := 8) rfl dX0_init_64 ?_
  refine fr_newa (N := 8) (pc := 66) wAI (by decide) ⟨by decide, by decide⟩ (by decide) dX0_init_66 ?_
  refine fr_mem (M1 := (lay M 11 [aO 0 [.ref 12, .ref 13, .int 200, .int 0, .int 0, .int 0, .int 0, .ref 14, .ref 15, .null, .null, .null, .null, .int 0, .null], aI 16 (fun _ => 0), aI 6 (fun _ => 0), aI 8 (fun _ => 0), aI 8 (fun _ => 0), aI 8 (fun _ => 0)])) (lay_new rfl rfl) ?_
  refine fr_putF (pc := 68) (ci := 0) (T := TX0) (k0 := 9) (ty := (.array .int)) tyX0 tyX0_ok nmX0 rfl hin_X0 (by decide) fl_X0_38 rfl rfl rfl (by decide +kernel) rfl rfl (Nat.le_of_ble_eq_true rfl) (by decide) (lay_at (by decide) rfl) dX0_init_68 ?_
  refine fr_mem (M1 := (lay M 11 [aO 0 [.ref 12, .ref 13, .int 200, .int 0, .int 0, .int 0, .int 0, .ref 14, .ref 15, .ref 16, .null, .null, .null, .int 0, .null], aI 16 (fun _ => 0), aI 6 (fun _ => 0), aI 8 (fun _ => 0), aI 8 (fun _ => 0), aI 8 (fun _ => 0)])) (lay_set (by decide) (by decide) rfl) ?_
  refine fr_aload_n (pc := 71) rfl dX0_init_71 ?_
  refine fr_bipush (pc := 72) (v := 8) rfl dX0_init_72 ?_
  refine fr_newa (N := 8) (pc := 74) wAI (by decide) ⟨by decide, by decide⟩ (by decide) dX0_init_74 ?_
  refine fr_mem (M1 := (lay M 11 [aO 0 [.ref 12, .ref 13, .int 200, .int 0, .int 0, .int 0, .int 0, .ref 14, .ref 15, .ref 16, .null, .null, .null, .int 0, .null], aI 16 (fun _ => 0), aI 6 (fun _ => 0), aI 8 (fun _ => 0), aI 8 (fun _ => 0), aI 8 (fun _ => 0), aI 8 (fun _ => 0)])) (lay_new rfl rfl) ?_
  refine fr_putF (pc := 76) (ci := 0) (T := TX0) (k0 := 10) (ty := (.array .int)) tyX0 tyX0_ok nmX0 rfl hin_X0 (by decide) fl_X0_41 rfl rfl rfl (by decide +kernel) rfl rfl (Nat.le_of_ble_eq_true rfl) (by decide) (lay_at (by decide) rfl) dX0_init_76 ?_
  refine fr_mem (M1 := (lay M 11 [aO 0 [.ref 12, .ref 13, .int 200, .int 0, .int 0, .int 0, .int 0, .ref 14, .ref 15, .ref 16, .ref 17, .null, .null, .int 0, .null], aI 16 (fun _ => 0), aI 6 (fun _ => 0), aI 8 (fun _ => 0), aI 8 (fun _ => 0), aI 8 (fun _ => 0), aI 8 (fun _ => 0)])) (lay_set (by decide) (by decide) rfl) ?_
  refine fr_aload_n (pc := 79) rfl dX0_init_79 ?_
  refine fr_bipush (pc := 80) (v := 8) rfl dX0_init_80 ?_
  refine fr_newa (N := 8) (pc := 82) wAI (by decide) ⟨by decide, by decide⟩ (by decide) dX0_init_82 ?_
  refine fr_mem (M1 := (lay M 11 [aO 0 [.ref 12, .ref 13, .int 200, .int 0, .int 0, .int 0, .int 0, .ref 14, .ref 15, .ref 16, .ref 17, .null, .null, .int 0, .null], aI 16 (fun _ => 0), aI 6 (fun _ => 0), aI 8 (fun _ => 0), aI 8 (fun _ => 0), aI 8 (fun _ => 0), aI 8 (fun _ => 0), aI 8 (fun _ => 0)])) (lay_new rfl rfl) ?_
  refine fr_putF (pc := 84) (ci := 0) (T := TX0) (k0 := 11) (ty := (.array .int)) tyX0 tyX0_ok nmX0 rfl hin_X0 (by decide) fl_X0_44 rfl rfl rfl (by decide +kernel) rfl rfl (Nat.le_of_ble_eq_true rfl) (by decide) (lay_at (by decide) rfl) dX0_init_84 ?_
  refine fr_mem (M1 := (lay M 11 [aO 0 [.ref 12, .ref 13, .int 200, .int 0, .int 0, .int 0, .int 0, .ref 14, .ref 15, .ref 16, .ref 17, .ref 18, .null, .int 0, .null], aI 16 (fun _ => 0), aI 6 (fun _ => 0), aI 8 (fun _ => 0), aI 8 (fun _ => 0), aI 8 (fun _ => 0), aI 8 (fun _ => 0), aI 8 (fun _ => 0)])) (lay_set (by decide) (by decide) rfl) ?_
  refine fr_aload_n (pc := 87) rfl dX0_init_87 ?_
  refine fr_bipush (pc := 88) (v := 8) rfl dX0_init_88 ?_
  refine fr_newa (N := 8) (pc := 90) wAI (by decide) ⟨by decide, by decide⟩ (by decide) dX0_init_90 ?_
  refine fr_mem (M1 := (lay M 11 [aO 0 [.ref 12, .ref 13, .int 200, .int 0, .int 0, .int 0, .int 0, .ref 14, .ref 15, .ref 16, .ref 17, .ref 18, .null, .int 0, .null], aI 16 (fun _ => 0), aI 6 (fun _ => 0), aI 8 (fun _ => 0), aI 8 (fun _ => 0), aI 8 (fun _ => 0), aI 8 (fun _ => 0), aI 8 (fun _ => 0), aI 8 (fun _ => 0)])) (lay_new rfl rfl) ?_
  refine fr_putF (pc := 92) (ci := 0) (T := TX0) (k0 := 12) (ty := (.array .int)) tyX0 tyX0_ok nmX0 rfl hin_X0 (by decide) fl_X0_47 rfl rfl rfl (by decide +kernel) rfl rfl (Nat.le_of_ble_eq_true rfl) (by decide) (lay_at (by decide) rfl) dX0_init_92 ?_
  refine fr_mem (M1 := (lay M 11 [aO 0 [.ref 12, .ref 13, .int 200, .int 0, .int 0, .int 0, .int 0, .ref 14, .ref 15, .ref 16, .ref 17, .ref 18, .ref 19, .int 0, .null], aI 16 (fun _ => 0), aI 6 (fun _ => 0), aI 8 (fun _ => 0), aI 8 (fun _ => 0), aI 8 (fun _ => 0), aI 8 (fun _ => 0), aI 8 (fun _ => 0), aI 8 (fun _ => 0)])) (lay_set (by decide) (by decide) rfl) ?_
  refine fr_aload_n (pc := 95) rfl dX0_init_95 ?_
  refine fr_iconst (pc := 96) (v := 1) rfl dX0_init_96 ?_
  refine fr_put (pc := 97) (ci := 0) (T := TX0) (k0 := 13) (ty := .int) tyX0 tyX0_ok nmX0 rfl hin_X0 (by decide) fl_X0_50 rfl (by decide +kernel) rfl rfl (Nat.le_of_ble_eq_true rfl) (by decide) (lay_at (by decide) rfl) dX0_init_97 ?_
  refine fr_mem (M1 := (lay M 11 [aO 0 [.ref 12, .ref 13, .int 200, .int 0, .int 0, .int 0, .int 0, .ref 14, .ref 15, .ref 16, .ref 17, .ref 18, .ref 19, .int 1, .null], aI 16 (fun _ => 0), aI 6 (fun _ => 0), aI 8 (fun _ => 0), aI 8 (fun _ => 0), aI 8 (fun _ => 0), aI 8 (fun _ => 0), aI 8 (fun _ => 0), aI 8 (fun _ => 0)])) (lay_set (by decide) (by decide) rfl) ?_
  refine fr_aload_n (pc := 100) rfl dX0_init_100 ?_
  refine fr_bipush (pc := 101) (v := 10) rfl dX0_init_101 ?_
  refine fr_newa (N := 10) (pc := 103) wAI (by decide) ⟨by decide, by decide⟩ (by decide) dX0_init_103 ?_
  refine fr_mem (M1 := (lay M 11 [aO 0 [.ref 12, .ref 13, .int 200, .int 0, .int 0, .int 0, .int 0, .ref 14, .ref 15, .ref 16, .ref 17, .ref 18, .ref 19, .int 1, .null], aI 16 (fun _ => 0), aI 6 (fun _ => 0), aI 8 (fun _ => 0), aI 8 (fun _ => 0), aI 8 (fun _ => 0), aI 8 (fun _ => 0), aI 8 (fun _ => 0), aI 8 (fun _ => 0), aI 10 (fun _ => 0)])) (lay_new rfl rfl) ?_
  refine fr_putF (pc := 105) (ci := 0) (T := TX0) (k0 := 14) (ty := (.array .int)) tyX0 tyX0_ok nmX0 rfl hin_X0 (by decide) fl_X0_53 rfl rfl rfl (by decide +kernel) rfl rfl (Nat.le_of_ble_eq_true rfl) (by decide) (lay_at (by decide) rfl) dX0_init_105 ?_
  refine fr_mem (M1 := (lay M 11 [aO 0 [.ref 12, .ref 13, .int 200, .int 0, .int 0, .int 0, .int 0, .ref 14, .ref 15, .ref 16, .ref 17, .ref 18, .ref 19, .int 1, .ref 20], aI 16 (fun _ => 0), aI 6 (fun _ => 0), aI 8 (fun _ => 0), aI 8 (fun _ => 0), aI 8 (fun _ => 0), aI 8 (fun _ => 0), aI 8 (fun _ => 0), aI 8 (fun _ => 0), aI 10 (fun _ => 0)])) (lay_set (by decide) (by decide) rfl) ?_
  refine fr_aload_n (pc := 108) rfl dX0_init_108 ?_
  refine fr_get (pc := 109) (ci := 0) (T := TX0) (k0 := 0) rfl hin_X0 (by decide) fl_X0_9 (by decide) (lay_at (by decide) rfl) rfl dX0_init_109 ?_
  refine fr_bipush (pc := 112) (v := 20) rfl dX0_init_112 ?_
  refine fr_callS0 (pc := 114) [.ref 12, .int 20] [] (c_fill (N := 16) (by decide) (lay_at (by decide) rfl) (by decide)) gc_X0_56 rfl rfl ⟨rfl, rfl, by decide, by decide⟩ (Nat.le_of_ble_eq_true rfl) ⟨by decide, by decide⟩ dX0_init_114 ?_
  refine fr_mem (M1 := (lay M 11 [aO 0 [.ref 12, .ref 13, .int 200, .int 0, .int 0, .int 0, .int 0, .ref 14, .ref 15, .ref 16, .ref 17, .ref 18, .ref 19, .int 1, .ref 20], aI 16 (fun q => if q < 16 then 20 else (fun _ => 0) q), aI 6 (fun _ => 0), aI 8 (fun _ => 0), aI 8 (fun _ => 0), aI 8 (fun _ => 0), aI 8 (fun _ => 0), aI 8 (fun _ => 0), aI 8 (fun _ => 0), aI 10 (fun _ => 0)])) (lay_set (by decide) (by decide) rfl) ?_
  refine fr_aload_n (pc := 117) rfl dX0_init_117 ?_
  refine fr_get (pc := 118) (ci := 0) (T := TX0) (k0 := 1) rfl hin_X0 (by decide) fl_X0_13 (by decide) (lay_at (by decide) rfl) rfl dX0_init_118 ?_
  refine fr_bipush (pc := 121) (v := 26) rfl dX0_init_121 ?_
  refine fr_callS0 (pc := 123) [.ref 13, .int 26] [] (c_fill (N := 6) (by decide) (lay_at (by decide) rfl) (by decide)) gc_X0_56 rfl rfl ⟨rfl, rfl, by decide, by decide⟩ (Nat.le_of_ble_eq_true rfl) ⟨by decide, by decide⟩ dX0_init_123 ?_
  refine fr_mem (M1 := (lay M 11 [aO 0 [.ref 12, .ref 13, .int 200, .int 0, .int 0, .int 0, .int 0, .ref 14, .ref 15, .ref 16, .ref 17, .ref 18, .ref 19, .int 1, .ref 20], aI 16 (fun q => if q < 16 then 20 else (fun _ => 0) q), aI 6 (fun q => if q < 6 then 26 else (fun _ => 0) q), aI 8 (fun _ => 0), aI 8 (fun _ => 0), aI 8 (fun _ => 0), aI 8 (fun _ => 0), aI 8 (fun _ => 0), aI 8 (fun _ => 0), aI 10 (fun _ => 0)])) (lay_set (by decide) (by decide) rfl) ?_
  refine fr_aload_n (pc := 126) rfl dX0_init_126 ?_
  refine fr_get (pc := 127) (ci := 0) (T := TX0) (k0 := 14) rfl hin_X0 (by decide) fl_X0_53 (by decide) (lay_at (by decide) rfl) rfl dX0_init_127 ?_
  refine fr_iconst (pc := 130) (v := (-1)) rfl dX0_init_130 ?_
  refine fr_callS0 (pc := 131) [.ref 20, .int (-1)] [] (c_fill (N := 10) (by decide) (lay_at (by decide) rfl) (by decide)) gc_X0_56 rfl rfl ⟨rfl, rfl, by decide, by decide⟩ (Nat.le_of_ble_eq_true rfl) ⟨by decide, by decide⟩ dX0_init_131 ?_
  refine fr_mem (M1 := (lay M 11 [aO 0 [.ref 12, .ref 13, .int 200, .int 0, .int 0, .int 0, .int 0, .ref 14, .ref 15, .ref 16, .ref 17, .ref 18, .ref 19, .int 1, .ref 20], aI 16 (fun q => if q < 16 then 20 else (fun _ => 0) q), aI 6 (fun q => if q < 6 then 26 else (fun _ => 0) q), aI 8 (fun _ => 0), aI 8 (fun _ => 0), aI 8 (fun _ => 0), aI 8 (fun _ => 0), aI 8 (fun _ => 0), aI 8 (fun _ => 0), aI 10 (fun q => if q < 10 then (-1) else (fun _ => 0) q)])) (lay_set (by decide) (by decide) rfl) ?_
  exact fr_return (pc := 134) rfl rfl dX0_init_134
set_option maxRecDepth 100000 in
theorem n_house21 {Γ : aG} {l : Launch} {M : Nat → aC} : Ev Γ l kX0_init [.ref 21] 22 (lay M 21 [aO 0 [.null, .null, .int 0, .int 0, .int 0, .int 0, .int 0, .null, .null, .null, .null, .null, .null, .int 0, .null]]) none 31 (lay M 21 [aO 0 [.ref 22, .ref 23, .int 200, .int 0, .int 0, .int 0, .int 0, .ref 24, .ref 25, .ref 26, .ref 27, .ref 28, .ref 29, .int 1, .ref 30], aI 16 (fun q => if q < 16 then 20 else (fun _ => 0) q), aI 6 (fun q => if q < 6 then 26 else (fun _ => 0) q), aI 8 (fun _ => 0), aI 8 (fun _ => 0), aI 8 (fun _ => 0), aI 8 (fun _ => 0), aI 8 (fun _ => 0), aI 8 (fun _ => 0), aI 10 (fun q => if q < 10 then (-1) else (fun _ => 0) q)]) := by
  refine Ev.of [(0, .ref 21)] (by decide) (Nat.le_of_ble_eq_true rfl) rfl ?_
  refine fr_aload_n (pc := 0) rfl dX0_init_0 ?_
  refine fr_objInit (pc := 1) gm_X0_1 wO_i wO_c ⟨by decide, by decide⟩ (Nat.le_of_ble_eq_true rfl) dX0_init_1 ?_
  refine fr_aload_n (pc := 4) rfl dX0_init_4 ?_
  refine fr_bipush (pc := 5) (v := 16) rfl dX0_init_5 ?_
  refine fr_newa (N := 16) (pc := 7) wAI (by decide) ⟨by decide, by decide⟩ (by decide) dX0_init_7 ?_
  refine fr_mem (M1 := (lay M 21 [aO 0 [.null, .null, .int 0, .int 0, .int 0, .int 0, .int 0, .null, .null, .null, .null, .null, .null, .int 0, .null], aI 16 (fun _ => 0)])) (lay_new rfl rfl) ?_
  refine fr_putF (pc := 9) (ci := 0) (T := TX0) (k0 := 0) (ty := (.array .int)) tyX0 tyX0_ok nmX0 rfl hin_X0 (by decide) fl_X0_9 rfl rfl rfl (by decide +kernel) rfl rfl (Nat.le_of_ble_eq_true rfl) (by decide) (lay_at (by decide) rfl) dX0_init_9 ?_
  refine fr_mem (M1 := (lay M 21 [aO 0 [.ref 22, .null, .int 0, .int 0, .int 0, .int 0, .int 0, .null, .null, .null, .null, .null, .null, .int 0, .null], aI 16 (fun _ => 0)])) (lay_set (by decide) (by decide) rfl) ?_
  refine fr_aload_n (pc := 12) rfl dX0_init_12 ?_
  refine fr_bipush (pc := 13) (v := 6) rfl dX0_init_13 ?_
  refine fr_newa (N := 6) (pc := 15) wAI (by decide) ⟨by decide, by decide⟩ (by decide) dX0_init_15 ?_
  refine fr_mem (M1 := (lay M 21 [aO 0 [.ref 22, .null, .int 0, .int 0, .int 0, .int 0, .int 0, .null, .null, .null, .null, .null, .null, .int 0, .null], aI 16 (fun _ => 0), aI 6 (fun _ => 0)])) (lay_new rfl rfl) ?_
  refine fr_putF (pc := 17) (ci := 0) (T := TX0) (k0 := 1) (ty := (.array .int)) tyX0 tyX0_ok nmX0 rfl hin_X0 (by decide) fl_X0_13 rfl rfl rfl (by decide +kernel) rfl rfl (Nat.le_of_ble_eq_true rfl) (by decide) (lay_at (by decide) rfl) dX0_init_17 ?_
  refine fr_mem (M1 := (lay M 21 [aO 0 [.ref 22, .ref 23, .int 0, .int 0, .int 0, .int 0, .int 0, .null, .null, .null, .null, .null, .null, .int 0, .null], aI 16 (fun _ => 0), aI 6 (fun _ => 0)])) (lay_set (by decide) (by decide) rfl) ?_
  refine fr_aload_n (pc := 20) rfl dX0_init_20 ?_
  refine fr_sipush (pc := 21) (v := 200) rfl dX0_init_21 ?_
  refine fr_put (pc := 24) (ci := 0) (T := TX0) (k0 := 2) (ty := .int) tyX0 tyX0_ok nmX0 rfl hin_X0 (by decide) fl_X0_16 rfl (by decide +kernel) rfl rfl (Nat.le_of_ble_eq_true rfl) (by decide) (lay_at (by decide) rfl) dX0_init_24 ?_
  refine fr_mem (M1 := (lay M 21 [aO 0 [.ref 22, .ref 23, .int 200, .int 0, .int 0, .int 0, .int 0, .null, .null, .null, .null, .null, .null, .int 0, .null], aI 16 (fun _ => 0), aI 6 (fun _ => 0)])) (lay_set (by decide) (by decide) rfl) ?_
  refine fr_aload_n (pc := 27) rfl dX0_init_27 ?_
  refine fr_iconst (pc := 28) (v := 0) rfl dX0_init_28 ?_
  refine fr_put (pc := 29) (ci := 0) (T := TX0) (k0 := 3) (ty := .int) tyX0 tyX0_ok nmX0 rfl hin_X0 (by decide) fl_X0_20 rfl (by decide +kernel) rfl rfl (Nat.le_of_ble_eq_true rfl) (by decide) (lay_at (by decide) rfl) dX0_init_29 ?_
  refine fr_mem (M1 := (lay M 21 [aO 0 [.ref 22, .ref 23, .int 200, .int 0, .int 0, .int 0, .int 0, .null, .null, .null, .null, .null, .null, .int 0, .null], aI 16 (fun _ => 0), aI 6 (fun _ => 0)])) (lay_set (by decide) (by decide) rfl) ?_
  refine fr_aload_n (pc := 32) rfl dX0_init_32 ?_
  refine fr_iconst (pc := 33) (v := 0) rfl dX0_init_33 ?_
  refine fr_put (pc := 34) (ci := 0) (T := TX0) (k0 := 4) (ty := .int) tyX0 tyX0_ok nmX0 rfl hin_X0 (by decide) fl_X0_23 rfl (by decide +kernel) rfl rfl (Nat.le_of_ble_eq_true rfl) (by decide) (lay_at (by decide) rfl) dX0_init_34 ?_
  refine fr_mem (M1 := (lay M 21 [aO 0 [.ref 22, .ref 23, .int 200, .int 0, .int 0, .int 0, .int 0, .null, .null, .null, .null, .null, .null, .int 0, .null], aI 16 (fun _ => 0), aI 6 (fun _ => 0)])) (lay_set (by decide) (by decide) rfl) ?_
  refine fr_aload_n (pc := 37) rfl dX0_init_37 ?_
  refine fr_iconst (pc := 38) (v := 0) rfl dX0_init_38 ?_
  refine fr_put (pc := 39) (ci := 0) (T := TX0) (k0 := 5) (ty := .int) tyX0 tyX0_ok nmX0 rfl hin_X0 (by decide) fl_X0_26 rfl (by decide +kernel) rfl rfl (Nat.le_of_ble_eq_true rfl) (by decide) (lay_at (by decide) rfl) dX0_init_39 ?_
  refine fr_mem (M1 := (lay M 21 [aO 0 [.ref 22, .ref 23, .int 200, .int 0, .int 0, .int 0, .int 0, .null, .null, .null, .null, .null, .null, .int 0, .null], aI 16 (fun _ => 0), aI 6 (fun _ => 0)])) (lay_set (by decide) (by decide) rfl) ?_
  refine fr_aload_n (pc := 42) rfl dX0_init_42 ?_
  refine fr_iconst (pc := 43) (v := 0) rfl dX0_init_43 ?_
  refine fr_put (pc := 44) (ci := 0) (T := TX0) (k0 := 6) (ty := .int) tyX0 tyX0_ok nmX0 rfl hin_X0 (by decide) fl_X0_29 rfl (by decide +kernel) rfl rfl (Nat.le_of_ble_eq_true rfl) (by decide) (lay_at (by decide) rfl) dX0_init_44 ?_
  refine fr_mem (M1 := (lay M 21 [aO 0 [.ref 22, .ref 23, .int 200, .int 0, .int 0, .int 0, .int 0, .null, .null, .null, .null, .null, .null, .int 0, .null], aI 16 (fun _ => 0), aI 6 (fun _ => 0)])) (lay_set (by decide) (by decide) rfl) ?_
  refine fr_aload_n (pc := 47) rfl dX0_init_47 ?_
  refine fr_bipush (pc := 48) (v := 8) rfl dX0_init_48 ?_
  refine fr_newa (N := 8) (pc := 50) wAI (by decide) ⟨by decide, by decide⟩ (by decide) dX0_init_50 ?_
  refine fr_mem (M1 := (lay M 21 [aO 0 [.ref 22, .ref 23, .int 200, .int 0, .int 0, .int 0, .int 0, .null, .null, .null, .null, .null, .null, .int 0, .null], aI 16 (fun _ => 0), aI 6 (fun _ => 0), aI 8 (fun _ => 0)])) (lay_new rfl rfl) ?_
  refine fr_putF (pc := 52) (ci := 0) (T := TX0) (k0 := 7) (ty := (.array .int)) tyX0 tyX0_ok nmX0 rfl hin_X0 (by decide) fl_X0_32 rfl rfl rfl (by decide +kernel) rfl rfl (Nat.le_of_ble_eq_true rfl) (by decide) (lay_at (by decide) rfl) dX0_init_52 ?_
  refine fr_mem (M1 := (lay M 21 [aO 0 [.ref 22, .ref 23, .int 200, .int 0, .int 0, .int 0, .int 0, .ref 24, .null, .null, .null, .null, .null, .int 0, .null], aI 16 (fun _ => 0), aI 6 (fun _ => 0), aI 8 (fun _ => 0)])) (lay_set (by decide) (by decide) rfl) ?_
  refine fr_aload_n (pc := 55) rfl dX0_init_55 ?_
  refine fr_bipush (pc := 56) (v := 8) rfl dX0_init_56 ?_
  refine fr_newa (N := 8) (pc := 58) wAI (by decide) ⟨by decide, by decide⟩ (by decide) dX0_init_58 ?_
  refine fr_mem (M1 := (lay M 21 [aO 0 [.ref 22, .ref 23, .int 200, .int 0, .int 0, .int 0, .int 0, .ref 24, .null, .null, .null, .null, .null, .int 0, .null], aI 16 (fun _ => 0), aI 6 (fun _ => 0), aI 8 (fun _ => 0), aI 8 (fun _ => 0)])) (lay_new rfl rfl) ?_
  refine fr_putF (pc := 60) (ci := 0) (T := TX0) (k0 := 8) (ty := (.array .int)) tyX0 tyX0_ok nmX0 rfl hin_X0 (by decide) fl_X0_35 rfl rfl rfl (by decide +kernel) rfl rfl (Nat.le_of_ble_eq_true rfl) (by decide) (lay_at (by decide) rfl) dX0_init_60 ?_
  refine fr_mem (M1 := (lay M 21 [aO 0 [.ref 22, .ref 23, .int 200, .int 0, .int 0, .int 0, .int 0, .ref 24, .ref 25, .null, .null, .null, .null, .int 0, .null], aI 16 (fun _ => 0), aI 6 (fun _ => 0), aI 8 (fun _ => 0), aI 8 (fun _ => 0)])) (lay_set (by decide) (by decide) rfl) ?_
  refine fr_aload_n (pc := 63) rfl dX0_init_63 ?_
  refine fr_bipush (pc := 64) (v := 8) rfl dX0_init_64 ?_
  refine fr_newa (N := 8) (pc := 66) wAI (by decide) ⟨by decide, by decide⟩ (by decide) dX0_init_66 ?_
  refine fr_mem (M1 := (lay M 21 [aO 0 [.ref 22, .ref 23, .int 200, .int 0, .int 0, .int 0, .int 0, .ref 24, .ref 25, .null, .null, .null, .null, .int 0, .null], aI 16 (fun _ => 0), aI 6 (fun _ => 0), aI 8 (fun _ => 0), aI 8 (fun _ => 0), aI 8 (fun _ => 0)])) (lay_new rfl rfl) ?_
  refine fr_putF (pc := 68) (ci := 0) (T := TX0) (k0 := 9) (ty := (.array .int)) tyX0 tyX0_ok nmX0 rfl hin_X0 (by decide) fl_X0_38 rfl rfl rfl (by decide +kernel) rfl rfl (Nat.le_of_ble_eq_true rfl) (by decide) (lay_at (by decide) rfl) dX0_init_68 ?_
  refine fr_mem (M1 := (lay M 21 [aO 0 [.ref 22, .ref 23, .int 200, .int 0, .int 0, .int 0, .int 0, .ref 24, .ref 25, .ref 26, .null, .null, .null, .int 0, .null], aI 16 (fun _ => 0), aI 6 (fun _ => 0), aI 8 (fun _ => 0), aI 8 (fun _ => 0), aI 8 (fun _ => 0)])) (lay_set (by decide) (by decide) rfl) ?_
  refine fr_aload_n (pc := 71) rfl dX0_init_71 ?_
  refine fr_bipush (pc := 72) (v := 8) rfl dX0_init_72 ?_
  refine fr_newa (N := 8) (pc := 74) wAI (by decide) ⟨by decide, by decide⟩ (by decide) dX0_init_74 ?_
  refine fr_mem (M1 := (lay M 21 [aO 0 [.ref 22, .ref 23, .int 200, .int 0, .int 0, .int 0, .int 0, .ref 24, .ref 25, .ref 26, .null, .null, .null, .int 0, .null], aI 16 (fun _ => 0), aI 6 (fun _ => 0), aI 8 (fun _ => 0), aI 8 (fun _ => 0), aI 8 (fun _ => 0), aI 8 (fun _ => 0)])) (lay_new rfl rfl) ?_
  refine fr_putF (pc := 76) (ci := 0) (T := TX0) (k0 := 10) (ty := (.array .int)) tyX0 tyX0_ok nmX0 rfl hin_X0 (by decide) fl_X0_41 rfl rfl rfl (by decide +kernel) rfl rfl (Nat.le_of_ble_eq_true rfl) (by decide) (lay_at (by decide) rfl) dX0_init_76 ?_
  refine fr_mem (M1 := (lay M 21 [aO 0 [.ref 22, .ref 23, .int 200, .int 0, .int 0, .int 0, .int 0, .ref 24, .ref 25, .ref 26, .ref 27, .null, .null, .int 0, .null], aI 16 (fun _ => 0), aI 6 (fun _ => 0), aI 8 (fun _ => 0), aI 8 (fun _ => 0), aI 8 (fun _ => 0), aI 8 (fun _ => 0)])) (lay_set (by decide) (by decide) rfl) ?_
  refine fr_aload_n (pc := 79) rfl dX0_init_79 ?_
  refine fr_bipush (pc := 80) (v := 8) rfl dX0_init_80 ?_
  refine fr_newa (N := 8) (pc := 82) wAI (by decide) ⟨by decide, by decide⟩ (by decide) dX0_init_82 ?_
  refine fr_mem (M1 := (lay M 21 [aO 0 [.ref 22, .ref 23, .int 200, .int 0, .int 0, .int 0, .int 0, .ref 24, .ref 25, .ref 26, .ref 27, .null, .null, .int 0, .null], aI 16 (fun _ => 0), aI 6 (fun _ => 0), aI 8 (fun _ => 0), aI 8 (fun _ => 0), aI 8 (fun _ => 0), aI 8 (fun _ => 0), aI 8 (fun _ => 0)])) (lay_new rfl rfl) ?_
  refine fr_putF (pc := 84) (ci := 0) (T := TX0) (k0 := 11) (ty := (.array .int)) tyX0 tyX0_ok nmX0 rfl hin_X0 (by decide) fl_X0_44 rfl rfl rfl (by decide +kernel) rfl rfl (Nat.le_of_ble_eq_true rfl) (by decide) (lay_at (by decide) rfl) dX0_init_84 ?_
  refine fr_mem (M1 := (lay M 21 [aO 0 [.ref 22, .ref 23, .int 200, .int 0, .int 0, .int 0, .int 0, .ref 24, .ref 25, .ref 26, .ref 27, .ref 28, .null, .int 0, .null], aI 16 (fun _ => 0), aI 6 (fun _ => 0), aI 8 (fun _ => 0), aI 8 (fun _ => 0), aI 8 (fun _ => 0), aI 8 (fun _ => 0), aI 8 (fun _ => 0)])) (lay_set (by decide) (by decide) rfl) ?_
  refine fr_aload_n (pc := 87) rfl dX0_init_87 ?_
  refine fr_bipush (pc := 88) (v := 8) rfl dX0_init_88 ?_
  refine fr_newa (N := 8) (pc := 90) wAI (by decide) ⟨by decide, by decide⟩ (by decide) dX0_init_90 ?_
  refine fr_mem (M1 := (lay M 21 [aO 0 [.ref 22, .ref 23, .int 200, .int 0, .int 0, .int 0, .int 0, .ref 24, .ref 25, .ref 26, .ref 27, .ref 28, .null, .int 0, .null], aI 16 (fun _ => 0), aI 6 (fun _ => 0), aI 8 (fun _ => 0), aI 8 (fun _ => 0), aI 8 (fun _ => 0), aI 8 (fun _ => 0), aI 8 (fun _ => 0), aI 8 (fun _ => 0)])) (lay_new rfl rfl) ?_
  refine fr_putF (pc := 92) (ci := 0) (T := TX0) (k0 := 12) (ty := (.array .int)) tyX0 tyX0_ok nmX0 rfl hin_X0 (by decide) fl_X0_47 rfl rfl rfl (by decide +kernel) rfl rfl (Nat.le_of_ble_eq_true rfl) (by decide) (lay_at (by decide) rfl) dX0_init_92 ?_
  refine fr_mem (M1 := (lay M 21 [aO 0 [.ref 22, .ref 23, .int 200, .int 0, .int 0, .int 0, .int 0, .ref 24, .ref 25, .ref 26, .ref 27, .ref 28, .ref 29, .int 0, .null], aI 16 (fun _ => 0), aI 6 (fun _ => 0), aI 8 (fun _ => 0), aI 8 (fun _ => 0), aI 8 (fun _ => 0), aI 8 (fun _ => 0), aI 8 (fun _ => 0), aI 8 (fun _ => 0)])) (lay_set (by decide) (by decide) rfl) ?_
  refine fr_aload_n (pc := 95) rfl dX0_init_95 ?_
  refine fr_iconst (pc := 96) (v := 1) rfl dX0_init_96 ?_
  refine fr_put (pc := 97) (ci := 0) (T := TX0) (k0 := 13) (ty := .int) tyX0 tyX0_ok nmX0 rfl hin_X0 (by decide) fl_X0_50 rfl (by decide +kernel) rfl rfl (Nat.le_of_ble_eq_true rfl) (by decide) (lay_at (by decide) rfl) dX0_init_97 ?_
  refine fr_mem (M1 := (lay M 21 [aO 0 [.ref 22, .ref 23, .int 200, .int 0, .int 0, .int 0, .int 0, .ref 24, .ref 25, .ref 26, .ref 27, .ref 28, .ref 29, .int 1, .null], aI 16 (fun _ => 0), aI 6 (fun _ => 0), aI 8 (fun _ => 0), aI 8 (fun _ => 0), aI 8 (fun _ => 0), aI 8 (fun _ => 0), aI 8 (fun _ => 0), aI 8 (fun _ => 0)])) (lay_set (by decide) (by decide) rfl) ?_
  refine fr_aload_n (pc := 100) rfl dX0_init_100 ?_
  refine fr_bipush (pc := 101) (v := 10) rfl dX0_init_101 ?_
  refine fr_newa (N := 10) (pc := 103) wAI (by decide) ⟨by decide, by decide⟩ (by decide) dX0_init_103 ?_
  refine fr_mem (M1 := (lay M 21 [aO 0 [.ref 22, .ref 23, .int 200, .int 0, .int 0, .int 0, .int 0, .ref 24, .ref 25, .ref 26, .ref 27, .ref 28, .ref 29, .int 1, .null], aI 16 (fun _ => 0), aI 6 (fun _ => 0), aI 8 (fun _ => 0), aI 8 (fun _ => 0), aI 8 (fun _ => 0), aI 8 (fun _ => 0), aI 8 (fun _ => 0), aI 8 (fun _ => 0), aI 10 (fun _ => 0)])) (lay_new rfl rfl) ?_
  refine fr_putF (pc := 105) (ci := 0) (T := TX0) (k0 := 14) (ty := (.array .int)) tyX0 tyX0_ok nmX0 rfl hin_X0 (by decide) fl_X0_53 rfl rfl rfl (by decide +kernel) rfl rfl (Nat.le_of_ble_eq_true rfl) (by decide) (lay_at (by decide) rfl) dX0_init_105 ?_
  refine fr_mem (M1 := (lay M 21 [aO 0 [.ref 22, .ref 23, .int 200, .int 0, .int 0, .int 0, .int 0, .ref 24, .ref 25, .ref 26, .ref 27, .ref 28, .ref 29, .int 1, .ref 30], aI 16 (fun _ => 0), aI 6 (fun _ => 0), aI 8 (fun _ => 0), aI 8 (fun _ => 0), aI 8 (fun _ => 0), aI 8 (fun _ => 0), aI 8 (fun _ => 0), aI 8 (fun _ => 0), aI 10 (fun _ => 0)])) (lay_set (by decide) (by decide) rfl) ?_
  refine fr_aload_n (pc := 108) rfl dX0_init_108 ?_
  refine fr_get (pc := 109) (ci := 0) (T := TX0) (k0 := 0) rfl hin_X0 (by decide) fl_X0_9 (by decide) (lay_at (by decide) rfl) rfl dX0_init_109 ?_
  refine fr_bipush (pc := 112) (v := 20) rfl dX0_init_112 ?_
  refine fr_callS0 (pc := 114) [.ref 22, .int 20] [] (c_fill (N := 16) (by decide) (lay_at (by decide) rfl) (by decide)) gc_X0_56 rfl rfl ⟨rfl, rfl, by decide, by decide⟩ (Nat.le_of_ble_eq_true rfl) ⟨by decide, by decide⟩ dX0_init_114 ?_
  refine fr_mem (M1 := (lay M 21 [aO 0 [.ref 22, .ref 23, .int 200, .int 0, .int 0, .int 0, .int 0, .ref 24, .ref 25, .ref 26, .ref 27, .ref 28, .ref 29, .int 1, .ref 30], aI 16 (fun q => if q < 16 then 20 else (fun _ => 0) q), aI 6 (fun _ => 0), aI 8 (fun _ => 0), aI 8 (fun _ => 0), aI 8 (fun _ => 0), aI 8 (fun _ => 0), aI 8 (fun _ => 0), aI 8 (fun _ => 0), aI 10 (fun _ => 0)])) (lay_set (by decide) (by decide) rfl) ?_
  refine fr_aload_n (pc := 117) rfl dX0_init_117 ?_
  refine fr_get (pc := 118) (ci := 0) (T := TX0) (k0 := 1) rfl hin_X0 (by decide) fl_X0_13 (by decide) (lay_at (by decide) rfl) rfl dX0_init_118 ?_
  refine fr_bipush (pc := 121) (v := 26) rfl dX0_init_121 ?_
  refine fr_callS0 (pc := 123) [.ref 23, .int 26] [] (c_fill (N := 6) (by decide) (lay_at (by decide) rfl) (by decide)) gc_X0_56 rfl rfl ⟨rfl, rfl, by decide, by decide⟩ (Nat.le_of_ble_eq_true rfl) ⟨by decide, by decide⟩ dX0_init_123 ?_
  refine fr_mem (M1 := (lay M 21 [aO 0 [.ref 22, .ref 23, .int 200, .int 0, .int 0, .int 0, .int 0, .ref 24, .ref 25, .ref 26, .ref 27, .ref 28, .ref 29, .int 1, .ref 30], aI 16 (fun q => if q < 16 then 20 else (fun _ => 0) q), aI 6 (fun q => if q < 6 then 26 else (fun _ => 0) q), aI 8 (fun _ => 0), aI 8 (fun _ => 0), aI 8 (fun _ => 0), aI 8 (fun _ => 0), aI 8 (fun _ => 0), aI 8 (fun _ => 0), aI 10 (fun _ => 0)])) (lay_set (by decide) (by decide) rfl) ?_
  refine fr_aload_n (pc := 126) rfl dX0_init_126 ?_
  refine fr_get (pc := 127) (ci := 0) (T := TX0) (k0 := 14) rfl hin_X0 (by decide) fl_X0_53 (by decide) (lay_at (by decide) rfl) rfl dX0_init_127 ?_
  refine fr_iconst (pc := 130) (v := (-1)) rfl dX0_init_130 ?_
  refine fr_callS0 (pc := 131) [.ref 30, .int (-1)] [] (c_fill (N := 10) (by decide) (lay_at (by decide) rfl) (by decide)) gc_X0_56 rfl rfl ⟨rfl, rfl, by decide, by decide⟩ (Nat.le_of_ble_eq_true rfl) ⟨by decide, by decide⟩ dX0_init_131 ?_
  refine fr_mem (M1 := (lay M 21 [aO 0 [.ref 22, .ref 23, .int 200, .int 0, .int 0, .int 0, .int 0, .ref 24, .ref 25, .ref 26, .ref 27, .ref 28, .ref 29, .int 1, .ref 30], aI 16 (fun q => if q < 16 then 20 else (fun _ => 0) q), aI 6 (fun q => if q < 6 then 26 else (fun _ => 0) q), aI 8 (fun _ => 0), aI 8 (fun _ => 0), aI 8 (fun _ => 0), aI 8 (fun _ => 0), aI 8 (fun _ => 0), aI 8 (fun _ => 0), aI 10 (fun q => if q < 10 then (-1) else (fun _ => 0) q)])) (lay_set (by decide) (by decide) rfl) ?_
  exact fr_return (pc := 134) rfl rfl dX0_init_134
