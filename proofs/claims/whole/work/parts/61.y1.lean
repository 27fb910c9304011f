set_option maxRecDepth 100000 in
theorem c_X5_within {Γ : aG} {l : Launch} {M : Nat → aC} {v a b : Int32} : Ev Γ l mX5_within [.int v, .int a, .int b] 54 M (some (.int (bI (wi v a b = true)))) 54 M := by
  refine Ev.of [(0, .int v), (1, .int a), (2, .int b)] (by decide) (Nat.le_of_ble_eq_true rfl) rfl ?_
  refine fr_iload_n (pc := 0) rfl dX5_within_0 ?_
  refine fr_iload_n (pc := 1) rfl dX5_within_1 ?_
  refine fr_icmp_lt (pc := 2) 14 (by decide) dX5_within_2 (fun h2 => ?_) (fun h2 => ?_)
  · refine fr_iconst (pc := 14) (v := 0) rfl dX5_within_14 ?_
    exact fr_ireturn (pc := 15) rfl (by unfold wi; first | exact (bI_f (by simp only [decide_eq_true_eq]; exact fun q => q.1 h2)).symm | exact (bI_f (by simp only [decide_eq_true_eq]; exact fun q => q.2 h7)).symm | exact (bI_t (by simp only [decide_eq_true_eq]; exact ⟨h2, h7⟩)).symm) rfl rfl dX5_within_15
  · refine fr_iload_n (pc := 5) rfl dX5_within_5 ?_
    refine fr_iload_n (pc := 6) rfl dX5_within_6 ?_
    refine fr_icmp_gt (pc := 7) 14 (by decide) dX5_within_7 (fun h7 => ?_) (fun h7 => ?_)
    · refine fr_iconst (pc := 14) (v := 0) rfl dX5_within_14 ?_
      exact fr_ireturn (pc := 15) rfl (by unfold wi; first | exact (bI_f (by simp only [decide_eq_true_eq]; exact fun q => q.1 h2)).symm | exact (bI_f (by simp only [decide_eq_true_eq]; exact fun q => q.2 h7)).symm | exact (bI_t (by simp only [decide_eq_true_eq]; exact ⟨h2, h7⟩)).symm) rfl rfl dX5_within_15
    · refine fr_iconst (pc := 10) (v := 1) rfl dX5_within_10 ?_
      refine fr_goto (pc := 11) 15 (by decide) dX5_within_11 ?_
      exact fr_ireturn (pc := 15) rfl (by unfold wi; first | exact (bI_f (by simp only [decide_eq_true_eq]; exact fun q => q.1 h2)).symm | exact (bI_f (by simp only [decide_eq_true_eq]; exact fun q => q.2 h7)).symm | exact (bI_t (by simp only [decide_eq_true_eq]; exact ⟨h2, h7⟩)).symm) rfl rfl dX5_within_15
set_option maxRecDepth 100000 in
theorem c_X5_isCell {Γ : aG} {l : Launch} {M : Nat → aC} {v : Int32} : Ev Γ l mX5_isCell [.int v] 54 M (some (.int (bI (wi v 0 15 = true)))) 54 M := by
  refine Ev.of [(0, .int v)] (by decide) (Nat.le_of_ble_eq_true rfl) rfl ?_
  refine fr_iload_n (pc := 0) rfl dX5_isCell_0 ?_
  refine fr_iconst (pc := 1) (v := 0) rfl dX5_isCell_1 ?_
  refine fr_bipush (pc := 2) (v := 15) rfl dX5_isCell_2 ?_
  refine fr_callS0 (pc := 4) [.int v, .int 0, .int 15] [] (c_X5_within) gc_X5_70 rfl rfl ⟨rfl, rfl, by decide, by decide⟩ (Nat.le_of_ble_eq_true rfl) ⟨by decide, by decide⟩ dX5_isCell_4 ?_
  exact fr_ireturn (pc := 7) rfl rfl rfl bI_nar dX5_isCell_7
set_option maxRecDepth 100000 in
theorem c_X5_isMeasure {Γ : aG} {l : Launch} {M : Nat → aC} {v : Int32} : Ev Γ l mX5_isMeasure [.int v] 54 M (some (.int (bI (wi v 16 36 = true)))) 54 M := by
  refine Ev.of [(0, .int v)] (by decide) (Nat.le_of_ble_eq_true rfl) rfl ?_
  refine fr_iload_n (pc := 0) rfl dX5_isMeasure_0 ?_
  refine fr_bipush (pc := 1) (v := 16) rfl dX5_isMeasure_1 ?_
  refine fr_bipush (pc := 3) (v := 36) rfl dX5_isMeasure_3 ?_
  refine fr_callS0 (pc := 5) [.int v, .int 16, .int 36] [] (c_X5_within) gc_X5_70 rfl rfl ⟨rfl, rfl, by decide, by decide⟩ (Nat.le_of_ble_eq_true rfl) ⟨by decide, by decide⟩ dX5_isMeasure_5 ?_
  exact fr_ireturn (pc := 8) rfl rfl rfl bI_nar dX5_isMeasure_8
set_option maxRecDepth 100000 in
theorem c_X5_isOften {Γ : aG} {l : Launch} {M : Nat → aC} {v : Int32} : Ev Γ l mX5_isOften [.int v] 54 M (some (.int (bI (wi v 0 9999 = true)))) 54 M := by
  refine Ev.of [(0, .int v)] (by decide) (Nat.le_of_ble_eq_true rfl) rfl ?_
  refine fr_iload_n (pc := 0) rfl dX5_isOften_0 ?_
  refine fr_iconst (pc := 1) (v := 0) rfl dX5_isOften_1 ?_
  refine fr_sipush (pc := 2) (v := 9999) rfl dX5_isOften_2 ?_
  refine fr_callS0 (pc := 5) [.int v, .int 0, .int 9999] [] (c_X5_within) gc_X5_70 rfl rfl ⟨rfl, rfl, by decide, by decide⟩ (Nat.le_of_ble_eq_true rfl) ⟨by decide, by decide⟩ dX5_isOften_5 ?_
  exact fr_ireturn (pc := 8) rfl rfl rfl bI_nar dX5_isOften_8
set_option maxRecDepth 100000 in
theorem c_X5_isBase {Γ : aG} {l : Launch} {M : Nat → aC} {v : Int32} : Ev Γ l mX5_isBase [.int v] 54 M (some (.int (bI (wi v 0 40 = true)))) 54 M := by
  refine Ev.of [(0, .int v)] (by decide) (Nat.le_of_ble_eq_true rfl) rfl ?_
  refine fr_iload_n (pc := 0) rfl dX5_isBase_0 ?_
  refine fr_iconst (pc := 1) (v := 0) rfl dX5_isBase_1 ?_
  refine fr_bipush (pc := 2) (v := 40) rfl dX5_isBase_2 ?_
  refine fr_callS0 (pc := 4) [.int v, .int 0, .int 40] [] (c_X5_within) gc_X5_70 rfl rfl ⟨rfl, rfl, by decide, by decide⟩ (Nat.le_of_ble_eq_true rfl) ⟨by decide, by decide⟩ dX5_isBase_4 ?_
  exact fr_ireturn (pc := 7) rfl rfl rfl bI_nar dX5_isBase_7
set_option maxRecDepth 100000 in
theorem c_X5_isPlace {Γ : aG} {l : Launch} {M : Nat → aC} {v : Int32} : Ev Γ l mX5_isPlace [.int v] 54 M (some (.int (bI (wi v 0 5 = true)))) 54 M := by
  refine Ev.of [(0, .int v)] (by decide) (Nat.le_of_ble_eq_true rfl) rfl ?_
  refine fr_iload_n (pc := 0) rfl dX5_isPlace_0 ?_
  refine fr_iconst (pc := 1) (v := 0) rfl dX5_isPlace_1 ?_
  refine fr_iconst (pc := 2) (v := 5) rfl dX5_isPlace_2 ?_
  refine fr_callS0 (pc := 3) [.int v, .int 0, .int 5] [] (c_X5_within) gc_X5_70 rfl rfl ⟨rfl, rfl, by decide, by decide⟩ (Nat.le_of_ble_eq_true rfl) ⟨by decide, by decide⟩ dX5_isPlace_3 ?_
  exact fr_ireturn (pc := 6) rfl rfl rfl bI_nar dX5_isPlace_6
set_option maxRecDepth 100000 in
theorem c_X5_isKind {Γ : aG} {l : Launch} {M : Nat → aC} {v : Int32} : Ev Γ l mX5_isKind [.int v] 54 M (some (.int (bI (wi v 0 6 = true)))) 54 M := by
  refine Ev.of [(0, .int v)] (by decide) (Nat.le_of_ble_eq_true rfl) rfl ?_
  refine fr_iload_n (pc := 0) rfl dX5_isKind_0 ?_
  refine fr_iconst (pc := 1) (v := 0) rfl dX5_isKind_1 ?_
  refine fr_bipush (pc := 2) (v := 6) rfl dX5_isKind_2 ?_
  refine fr_callS0 (pc := 4) [.int v, .int 0, .int 6] [] (c_X5_within) gc_X5_70 rfl rfl ⟨rfl, rfl, by decide, by decide⟩ (Nat.le_of_ble_eq_true rfl) ⟨by decide, by decide⟩ dX5_isKind_4 ?_
  exact fr_ireturn (pc := 7) rfl rfl rfl bI_nar dX5_isKind_7
set_option maxRecDepth 100000 in
theorem c_X5_isThought {Γ : aG} {l : Launch} {M : Nat → aC} {v : Int32} : Ev Γ l mX5_isThought [.int v] 54 M (some (.int (bI (wi v 0 60 = true)))) 54 M := by
  refine Ev.of [(0, .int v)] (by decide) (Nat.le_of_ble_eq_true rfl) rfl ?_
  refine fr_iload_n (pc := 0) rfl dX5_isThought_0 ?_
  refine fr_iconst (pc := 1) (v := 0) rfl dX5_isThought_1 ?_
  refine fr_bipush (pc := 2) (v := 60) rfl dX5_isThought_2 ?_
  refine fr_callS0 (pc := 4) [.int v, .int 0, .int 60] [] (c_X5_within) gc_X5_70 rfl rfl ⟨rfl, rfl, by decide, by decide⟩ (Nat.le_of_ble_eq_true rfl) ⟨by decide, by decide⟩ dX5_isThought_4 ?_
  exact fr_ireturn (pc := 7) rfl rfl rfl bI_nar dX5_isThought_7
set_option maxRecDepth 100000 in
theorem c_X5_isSpot {Γ : aG} {l : Launch} {M : Nat → aC} {v : Int32} : Ev Γ l mX5_isSpot [.int v] 54 M (some (.int (bI (wi v 0 9 = true)))) 54 M := by
  refine Ev.of [(0, .int v)] (by decide) (Nat.le_of_ble_eq_true rfl) rfl ?_
  refine fr_iload_n (pc := 0) rfl dX5_isSpot_0 ?_
  refine fr_iconst (pc := 1) (v := 0) rfl dX5_isSpot_1 ?_
  refine fr_bipush (pc := 2) (v := 9) rfl dX5_isSpot_2 ?_
  refine fr_callS0 (pc := 4) [.int v, .int 0, .int 9] [] (c_X5_within) gc_X5_70 rfl rfl ⟨rfl, rfl, by decide, by decide⟩ (Nat.le_of_ble_eq_true rfl) ⟨by decide, by decide⟩ dX5_isSpot_4 ?_
  exact fr_ireturn (pc := 7) rfl rfl rfl bI_nar dX5_isSpot_7
set_option maxRecDepth 100000 in
theorem c_X5_isSheet {Γ : aG} {l : Launch} {M : Nat → aC} {v : Int32} : Ev Γ l mX5_isSheet [.int v] 54 M (some (.int (bI (wi v 0 3 = true)))) 54 M := by
  refine Ev.of [(0, .int v)] (by decide) (Nat.le_of_ble_eq_true rfl) rfl ?_
  refine fr_iload_n (pc := 0) rfl dX5_isSheet_0 ?_
  refine fr_iconst (pc := 1) (v := 0) rfl dX5_isSheet_1 ?_
  refine fr_iconst (pc := 2) (v := 3) rfl dX5_isSheet_2 ?_
  refine fr_callS0 (pc := 3) [.int v, .int 0, .int 3] [] (c_X5_within) gc_X5_70 rfl rfl ⟨rfl, rfl, by decide, by decide⟩ (Nat.le_of_ble_eq_true rfl) ⟨by decide, by decide⟩ dX5_isSheet_3 ?_
  exact fr_ireturn (pc := 6) rfl rfl rfl bI_nar dX5_isSheet_6
theorem fd_ix {k : Nat} (hk : k < 7) : (-1000001 : Int32) - (-1000001 - nI k) + 1 = nI (k + 1) := by
  rcases (show k = 0 ∨ k = 1 ∨ k = 2 ∨ k = 3 ∨ k = 4 ∨ k = 5 ∨ k = 6 by omega) with rfl | rfl | rfl | rfl | rfl | rfl | rfl <;> decide
theorem fr_dup2x {Γ : aG} {l : Launch} {μ : aM} {pc : Nat} {L : List (Nat × Value)} {st : List Value} {n k1 k2 : Nat} {M : Nat → aC} {r : Option Value} {n' : Nat} {M' : Nat → aC} {x z : Int32} {i : Nat} (h : x = z) (k : Fr Γ l μ pc L (.int z :: .ref i :: st) n k1 k2 M r n' M') : Fr Γ l μ pc L (.int x :: .ref i :: st) n k1 k2 M r n' M' := h ▸ k
set_option maxRecDepth 100000 in
theorem c_X5_finding {Γ : aG} {l : Launch} {M : Nat → aC} {r : rT} {kr ar : Nat → Int32} {ik : Int32} {fi b : Nat → Int32} {ln : Int32} {S : sT} {it mv : Nat → Int32} {Q : yQ} {k : Nat} (hk : k < 7) : Ev Γ l mX5_finding [.ref 42, .int (-1000001 - nI k)] 54 (yM M r kr ar ik fi b ln S it mv Q) (some (.int (-1000001 - nI k))) 54 (yM M r kr ar ik (upd fi k (fi k + 1)) b ln S it mv Q) := by
  refine Ev.of [(0, .ref 42), (1, .int (-1000001 - nI k))] (by decide) (Nat.le_of_ble_eq_true rfl) rfl ?_
  refine fr_aload_n (pc := 0) rfl dX5_finding_0 ?_
  refine fr_get (pc := 1) (ci := 4) (T := TX5) (k0 := 4) rfl hin_X5 (by decide) fl_X5_19 (by decide) y_42 rfl dX5_finding_1 ?_
  refine fr_ldc (pc := 4) kc_X5_60 dX5_finding_4 ?_
  refine fr_iload_n (pc := 6) rfl dX5_finding_6 ?_
  refine fr_isub (pc := 7) dX5_finding_7 ?_
  refine fr_iconst (pc := 8) (v := 1) rfl dX5_finding_8 ?_
  refine fr_iadd (pc := 9) dX5_finding_9 ?_
  refine fr_eq (z := nI (k + 1)) (fd_ix hk) ?_
  refine fr_dup2 (pc := 10) rfl rfl dX5_finding_10 ?_
  refine fr_iald (pc := 11) (k + 1) rfl (by decide) y_46 (by first | assumption | omega) (by decide) dX5_finding_11 ?_
  refine fr_iconst (pc := 12) (v := 1) rfl dX5_finding_12 ?_
  refine fr_iadd (pc := 13) dX5_finding_13 ?_
  refine fr_iast (pc := 14) (k + 1) rfl (by decide) y_46 (by first | assumption | omega) (by decide) dX5_finding_14 ?_
  refine fr_aload_n (pc := 15) rfl dX5_finding_15 ?_
  refine fr_get (pc := 16) (ci := 4) (T := TX5) (k0 := 4) rfl hin_X5 (by decide) fl_X5_19 (by decide) ((if_neg (by decide)).trans y_42) rfl dX5_finding_16 ?_
  refine fr_iconst (pc := 19) (v := 0) rfl dX5_finding_19 ?_
  refine fr_dup2 (pc := 20) rfl rfl dX5_finding_20 ?_
  refine fr_iald (pc := 21) 0 rfl (by decide) a_us (by decide) (by decide) dX5_finding_21 ?_
  refine fr_iconst (pc := 22) (v := 1) rfl dX5_finding_22 ?_
  refine fr_iadd (pc := 23) dX5_finding_23 ?_
  refine fr_iast (pc := 24) 0 rfl (by decide) a_us (by decide) (by decide) dX5_finding_24 ?_
  refine fr_mem (M1 := (yM M r kr ar ik (upd fi k (fi k + 1)) b ln S it mv Q)) (by rw [a_upup, fo_up hk]; exact y_r46) ?_
  refine fr_iload_n (pc := 25) rfl dX5_finding_25 ?_
  exact fr_ireturn (pc := 26) rfl rfl rfl rfl dX5_finding_26
theorem c_fnd0 {Γ : aG} {l : Launch} {M : Nat → aC} {r : rT} {kr ar : Nat → Int32} {ik : Int32} {fi b : Nat → Int32} {ln : Int32} {S : sT} {it mv : Nat → Int32} {Q : yQ} : Ev Γ l mX5_finding [.ref 42, .int (-1000001)] 54 (yM M r kr ar ik fi b ln S it mv Q) (some (.int (-1000001 - nI 0))) 54 (yM M r kr ar ik (upd fi 0 (fi 0 + 1)) b ln S it mv Q) := c_X5_finding (k := 0) (by decide)
theorem c_fnd1 {Γ : aG} {l : Launch} {M : Nat → aC} {r : rT} {kr ar : Nat → Int32} {ik : Int32} {fi b : Nat → Int32} {ln : Int32} {S : sT} {it mv : Nat → Int32} {Q : yQ} : Ev Γ l mX5_finding [.ref 42, .int (-1000002)] 54 (yM M r kr ar ik fi b ln S it mv Q) (some (.int (-1000001 - nI 1))) 54 (yM M r kr ar ik (upd fi 1 (fi 1 + 1)) b ln S it mv Q) := c_X5_finding (k := 1) (by decide)
theorem c_fnd2 {Γ : aG} {l : Launch} {M : Nat → aC} {r : rT} {kr ar : Nat → Int32} {ik : Int32} {fi b : Nat → Int32} {ln : Int32} {S : sT} {it mv : Nat → Int32} {Q : yQ} : Ev Γ l mX5_finding [.ref 42, .int (-1000003)] 54 (yM M r kr ar ik fi b ln S it mv Q) (some (.int (-1000001 - nI 2))) 54 (yM M r kr ar ik (upd fi 2 (fi 2 + 1)) b ln S it mv Q) := c_X5_finding (k := 2) (by decide)
theorem c_fnd3 {Γ : aG} {l : Launch} {M : Nat → aC} {r : rT} {kr ar : Nat → Int32} {ik : Int32} {fi b : Nat → Int32} {ln : Int32} {S : sT} {it mv : Nat → Int32} {Q : yQ} : Ev Γ l mX5_finding [.ref 42, .int (-1000004)] 54 (yM M r kr ar ik fi b ln S it mv Q) (some (.int (-1000001 - nI 3))) 54 (yM M r kr ar ik (upd fi 3 (fi 3 + 1)) b ln S it mv Q) := c_X5_finding (k := 3) (by decide)
theorem c_fnd4 {Γ : aG} {l : Launch} {M : Nat → aC} {r : rT} {kr ar : Nat → Int32} {ik : Int32} {fi b : Nat → Int32} {ln : Int32} {S : sT} {it mv : Nat → Int32} {Q : yQ} : Ev Γ l mX5_finding [.ref 42, .int (-1000005)] 54 (yM M r kr ar ik fi b ln S it mv Q) (some (.int (-1000001 - nI 4))) 54 (yM M r kr ar ik (upd fi 4 (fi 4 + 1)) b ln S it mv Q) := c_X5_finding (k := 4) (by decide)
theorem c_fnd5 {Γ : aG} {l : Launch} {M : Nat → aC} {r : rT} {kr ar : Nat → Int32} {ik : Int32} {fi b : Nat → Int32} {ln : Int32} {S : sT} {it mv : Nat → Int32} {Q : yQ} : Ev Γ l mX5_finding [.ref 42, .int (-1000006)] 54 (yM M r kr ar ik fi b ln S it mv Q) (some (.int (-1000001 - nI 5))) 54 (yM M r kr ar ik (upd fi 5 (fi 5 + 1)) b ln S it mv Q) := c_X5_finding (k := 5) (by decide)
theorem c_fnd6 {Γ : aG} {l : Launch} {M : Nat → aC} {r : rT} {kr ar : Nat → Int32} {ik : Int32} {fi b : Nat → Int32} {ln : Int32} {S : sT} {it mv : Nat → Int32} {Q : yQ} : Ev Γ l mX5_finding [.ref 42, .int (-1000007)] 54 (yM M r kr ar ik fi b ln S it mv Q) (some (.int (-1000001 - nI 6))) 54 (yM M r kr ar ik (upd fi 6 (fi 6 + 1)) b ln S it mv Q) := c_X5_finding (k := 6) (by decide)
set_option maxRecDepth 100000 in
theorem c_X5_become {Γ : aG} {l : Launch} {M : Nat → aC} {r : rT} {kr ar : Nat → Int32} {ik : Int32} {fi b : Nat → Int32} {ln : Int32} {S : sT} {it mv : Nat → Int32} {Q : yQ} {p q i : Nat} {v : Int32} (hp : p < 86) (h : ph p = (q, i))  : Ev Γ l mX5_become [.ref 42, .int (nI p), .int v] 54 (yM M r kr ar ik fi b ln S it mv Q) (some (.int (r q i))) 54 (yM M (u2 r q i v) kr ar ik fi b ln S it mv Q) := by
  refine Ev.of [(0, .ref 42), (1, .int (nI p)), (2, .int v)] (by decide) (Nat.le_of_ble_eq_true rfl) rfl ?_
  refine fr_aload_n (pc := 0) rfl dX5_become_0 ?_
  refine fr_get (pc := 1) (ci := 4) (T := TX5) (k0 := 0) rfl hin_X5 (by decide) fl_X5_9 (by decide) y_42 rfl dX5_become_1 ?_
  refine fr_iload_n (pc := 4) rfl dX5_become_4 ?_
  refine fr_iald (pc := 5) p rfl (by decide) y_43 (by first | assumption | omega) (by decide) dX5_become_5 ?_
  refine fr_eq (z := r q i) (row_at h) ?_
  refine fr_nm (fun x3_6 e_x3_6 => ?_)
  refine fr_istore_n (pc := 6) [(3, .int x3_6), (0, .ref 42), (1, .int (nI p)), (2, .int v)] (by decide) rfl dX5_become_6 ?_
  refine fr_aload_n (pc := 7) rfl dX5_become_7 ?_
  refine fr_get (pc := 8) (ci := 4) (T := TX5) (k0 := 0) rfl hin_X5 (by decide) fl_X5_9 (by decide) y_42 rfl dX5_become_8 ?_
  refine fr_iload_n (pc := 11) rfl dX5_become_11 ?_
  refine fr_iload_n (pc := 12) rfl dX5_become_12 ?_
  refine fr_iast (pc := 13) p rfl (by decide) y_43 (by first | assumption | omega) (by decide) dX5_become_13 ?_
  refine fr_mem (y_u43 h) ?_
  refine fr_iload_n (pc := 14) rfl dX5_become_14 ?_
  exact fr_ireturn (pc := 15) rfl e_x3_6 rfl rfl dX5_become_15
/-- the cells of the reference, by what is; beside it what is kept, put aside, told, moved, read -/
def yF (M : Nat → aC) (kr ar it mv : Nat → Int32) (Q : yQ) (σ : sS) : Nat → aC := yM M σ.1 kr ar σ.2.2.1 σ.2.2.2.2.2.2 σ.2.2.2.2.1 σ.2.2.2.2.2.1 σ.2.2.2.1 it mv Q
set_option maxRecDepth 100000 in
theorem c_X5_orNone {Γ : aG} {l : Launch} {M : Nat → aC} {r : rT} {kr ar : Nat → Int32} {rk : rT} {ik : Int32} {fi b : Nat → Int32} {ln : Int32} {S : sT} {it mv : Nat → Int32} {Q : yQ} {v : Int32}  : Ev Γ l mX5_orNone [.ref 42, .int v] 54 (yM M r kr ar ik fi b ln S it mv Q) (some (.int (orN (r, rk, ik, S, b, ln, fi) v).1)) 54 (yF M kr ar it mv Q (orN (r, rk, ik, S, b, ln, fi) v).2) := by
  refine Ev.of [(0, .ref 42), (1, .int v)] (by decide) (Nat.le_of_ble_eq_true rfl) rfl ?_
  refine fr_iload_n (pc := 0) rfl dX5_orNone_0 ?_
  refine fr_if_ge (pc := 1) 13 (by decide) dX5_orNone_1 (fun h1 => ?_) (fun h1 => ?_)
  · have h2 : ¬ v < 0 := Int32.not_lt.mpr h1
    refine fr_iload_n (pc := 13) rfl dX5_orNone_13 ?_
    exact fr_ireturn (pc := 14) rfl (by simp only [orN, fb, yF, h2, if_true, if_false, not_true_eq_false, not_false_eq_true, or_true, true_or, or_false, false_or, and_true, true_and, and_false, false_and, or_self, and_self, eq_self] <;> rfl) (by simp only [orN, fb, yF, h2, if_true, if_false, not_true_eq_false, not_false_eq_true, or_true, true_or, or_false, false_or, and_true, true_and, and_false, false_and, or_self, and_self, eq_self] <;> rfl) rfl dX5_orNone_14
  · have h2 : v < 0 := Int32.not_le.mp h1
    refine fr_aload_n (pc := 4) rfl dX5_orNone_4 ?_
    refine fr_ldc (pc := 5) kc_X5_65 dX5_orNone_5 ?_
    refine fr_callV0 (pc := 7) (ci := 4) (T := TX5) (N := 20) [.int (-1000004)] [] (c_fnd3) gc_X5_66 rfl rfl ⟨rfl, rfl, by decide, by decide⟩ (Nat.le_of_ble_eq_true rfl) rfl (by decide) y_42 ⟨by decide, by decide⟩ dX5_orNone_7 ?_
    refine fr_goto (pc := 10) 14 (by decide) dX5_orNone_10 ?_
    exact fr_ireturn (pc := 14) rfl (by simp only [orN, fb, yF, h2, if_true, if_false, not_true_eq_false, not_false_eq_true, or_true, true_or, or_false, false_or, and_true, true_and, and_false, false_and, or_self, and_self, eq_self] <;> rfl) (by simp only [orN, fb, yF, h2, if_true, if_false, not_true_eq_false, not_false_eq_true, or_true, true_or, or_false, false_or, and_true, true_and, and_false, false_and, or_self, and_self, eq_self] <;> rfl) rfl dX5_orNone_14
def cpf (f g : Nat → Int32) (k : Nat) : Nat → Int32 := fun p => if p < k then f p else g p
theorem cpf_up {f g : Nat → Int32} {k : Nat} : upd (cpf f g k) k (f k) = cpf f g (k + 1) := by
  funext p
  unfold upd cpf
  by_cases e : p = k
  · rw [if_pos e, if_pos (by omega), e]
  · rw [if_neg e]
    by_cases e2 : p < k
    · rw [if_pos e2, if_pos (by omega)]
    · rw [if_neg e2, if_neg (by omega)]
theorem a_ups {M : Nat → aC} {i : Nat} {x : aC} (h : M i = x) : M = a_up M i x := by
  funext j
  unfold a_up
  split
  · rename_i e; rw [e, h]
  · rfl
set_option maxRecDepth 100000 in
theorem cr_loop {Γ : aG} {l : Launch} {M : Nat → aC} {f g : Nat → Int32} {i0 i1 : Nat} (hi0 : i0 < 54) (hi1 : i1 < 54) (hne : ¬ i0 = i1) (h0 : M i0 = aI 86 f) : ∀ (j k : Nat), k + j = 86 → Fr Γ l mX5_copyRow 2 [(0, .ref i0), (1, .ref i1), (2, .int (nI k))] [] 54 0 0 (a_up M i1 (aI 86 (cpf f g k))) none 54 (a_up M i1 (aI 86 f)) := by
  intro j
  induction j with
  | zero =>
    intro k hk
    refine fr_iload_n (pc := 2) rfl dX5_copyRow_2 ?_
    refine fr_bipush (pc := 3) (v := 86) rfl dX5_copyRow_3 ?_
    refine fr_icmp_ge (pc := 5) 20 (by decide) dX5_copyRow_5 (fun h5 => ?_) (fun h5 => ?_)
    · refine fr_ext f a_us (fun p hp => if_pos (by omega)) ?_
      exact fr_return (pc := 20) rfl a_upup dX5_copyRow_20
    · exact absurd (nI_le (a := 86) (b := k) (by omega) (by omega)) h5
  | succ j ih =>
    intro k hk
    refine fr_iload_n (pc := 2) rfl dX5_copyRow_2 ?_
    refine fr_bipush (pc := 3) (v := 86) rfl dX5_copyRow_3 ?_
    refine fr_icmp_ge (pc := 5) 20 (by decide) dX5_copyRow_5 (fun h5 => ?_) (fun h5 => ?_)
    · exact absurd h5 (nI_ge (a := k) (b := 86) (by omega) (by omega))
    · refine fr_aload_n (pc := 8) rfl dX5_copyRow_8 ?_
      refine fr_iload_n (pc := 9) rfl dX5_copyRow_9 ?_
      refine fr_aload_n (pc := 10) rfl dX5_copyRow_10 ?_
      refine fr_iload_n (pc := 11) rfl dX5_copyRow_11 ?_
      refine fr_iald (pc := 12) k rfl hi0 ((if_neg hne).trans h0) (by first | assumption | omega) (by decide) dX5_copyRow_12 ?_
      refine fr_iast (pc := 13) k rfl hi1 a_us (by first | assumption | omega) (by decide) dX5_copyRow_13 ?_
      refine fr_mem (by rw [a_upup, cpf_up]) ?_
      refine fr_iinc (pc := 14) (v := nI (k + 1)) [(2, .int (nI (k + 1))), (0, .ref i0), (1, .ref i1)] rfl (nI_1 k) (by decide) rfl dX5_copyRow_14 ?_
      refine fr_goto (pc := 17) 2 (by decide) dX5_copyRow_17 ?_
      exact fr_sub [1, 2, 0] rfl (ih (k + 1) (by omega))
set_option maxRecDepth 100000 in
theorem c_X5_copyRow {Γ : aG} {l : Launch} {M : Nat → aC} {f g : Nat → Int32} {i0 i1 : Nat} (hi0 : i0 < 54) (hi1 : i1 < 54) (hne : ¬ i0 = i1) (h0 : M i0 = aI 86 f) (h1 : M i1 = aI 86 g) : Ev Γ l mX5_copyRow [.ref i0, .ref i1] 54 M none 54 (a_up M i1 (aI 86 f)) := by
  refine Ev.of [(0, .ref i0), (1, .ref i1)] (by decide) (Nat.le_of_ble_eq_true rfl) rfl ?_
  refine fr_mem (M1 := a_up M i1 (aI 86 (cpf f g 0))) (a_ups h1) ?_
  refine fr_iconst (pc := 0) (v := 0) rfl dX5_copyRow_0 ?_
  refine fr_istore_n (pc := 1) [(2, .int 0), (0, .ref i0), (1, .ref i1)] (by decide) rfl dX5_copyRow_1 ?_
  exact fr_sub [1, 2, 0] rfl (cr_loop hi0 hi1 hne h0 86 0 rfl)
theorem c_cp_na {Γ : aG} {l : Launch} {M : Nat → aC} {r : rT} {kr ar : Nat → Int32} {ik : Int32} {fi b : Nat → Int32} {ln : Int32} {S : sT} {it mv : Nat → Int32} {Q : yQ} : Ev Γ l mX5_copyRow [.ref 43, .ref 45] 54 (yM M r kr ar ik fi b ln S it mv Q) none 54 (yM M r kr (row r) ik fi b ln S it mv Q) := by
  rw [← y_r45 (ar := ar)]
  exact c_X5_copyRow (M := (yM M r kr ar ik fi b ln S it mv Q)) (by decide) (by decide) (by decide) y_43 y_45
theorem c_cp_an {Γ : aG} {l : Launch} {M : Nat → aC} {r : rT} {kr : Nat → Int32} {ik : Int32} {fi b : Nat → Int32} {ln : Int32} {S : sT} {it mv : Nat → Int32} {Q : yQ} {r0 : rT} : Ev Γ l mX5_copyRow [.ref 45, .ref 43] 54 (yM M r kr (row r0) ik fi b ln S it mv Q) none 54 (yM M r0 kr (row r0) ik fi b ln S it mv Q) := by
  rw [← y_r43 (r := r)]
  exact c_X5_copyRow (M := (yM M r kr (row r0) ik fi b ln S it mv Q)) (by decide) (by decide) (by decide) y_45 y_43
theorem c_cp_nk {Γ : aG} {l : Launch} {M : Nat → aC} {r : rT} {kr ar : Nat → Int32} {ik : Int32} {fi b : Nat → Int32} {ln : Int32} {S : sT} {it mv : Nat → Int32} {Q : yQ} : Ev Γ l mX5_copyRow [.ref 43, .ref 44] 54 (yM M r kr ar ik fi b ln S it mv Q) none 54 (yM M r (row r) ar ik fi b ln S it mv Q) := by
  rw [← y_r44 (kr := kr)]
  exact c_X5_copyRow (M := (yM M r kr ar ik fi b ln S it mv Q)) (by decide) (by decide) (by decide) y_43 y_44
theorem c_cp_kn {Γ : aG} {l : Launch} {M : Nat → aC} {r : rT} {ar : Nat → Int32} {ik : Int32} {fi b : Nat → Int32} {ln : Int32} {S : sT} {it mv : Nat → Int32} {Q : yQ} {r0 : rT} : Ev Γ l mX5_copyRow [.ref 44, .ref 43] 54 (yM M r (row r0) ar ik fi b ln S it mv Q) none 54 (yM M r0 (row r0) ar ik fi b ln S it mv Q) := by
  rw [← y_r43 (r := r)]
  exact c_X5_copyRow (M := (yM M r (row r0) ar ik fi b ln S it mv Q)) (by decide) (by decide) (by decide) y_44 y_43
set_option maxRecDepth 100000 in
theorem c_X5_putBack {Γ : aG} {l : Launch} {M : Nat → aC} {r : rT} {kr : Nat → Int32} {ik : Int32} {fi b : Nat → Int32} {ln : Int32} {S : sT} {it mv : Nat → Int32} {Q : yQ} {r0 : rT} {v : Int32}  : Ev Γ l mX5_putBack [.ref 42, .int v] 54 (yM M r kr (row r0) ik fi b ln S it mv Q) (some (.int v)) 54 (yM M r0 kr (row r0) ik fi b ln S it mv Q) := by
  refine Ev.of [(0, .ref 42), (1, .int v)] (by decide) (Nat.le_of_ble_eq_true rfl) rfl ?_
  refine fr_aload_n (pc := 0) rfl dX5_putBack_0 ?_
  refine fr_get (pc := 1) (ci := 4) (T := TX5) (k0 := 2) rfl hin_X5 (by decide) fl_X5_16 (by decide) y_42 rfl dX5_putBack_1 ?_
  refine fr_aload_n (pc := 4) rfl dX5_putBack_4 ?_
  refine fr_get (pc := 5) (ci := 4) (T := TX5) (k0 := 0) rfl hin_X5 (by decide) fl_X5_9 (by decide) y_42 rfl dX5_putBack_5 ?_
  refine fr_callS0 (pc := 8) [.ref 45, .ref 43] [] (c_cp_an) gc_X5_61 rfl rfl ⟨rfl, rfl, by decide, by decide⟩ (Nat.le_of_ble_eq_true rfl) ⟨by decide, by decide⟩ dX5_putBack_8 ?_
  refine fr_iload_n (pc := 11) rfl dX5_putBack_11 ?_
  exact fr_ireturn (pc := 12) rfl rfl rfl rfl dX5_putBack_12
theorem ga_eq {g k : Nat} : (38 : Int32) + 6 * nI g + nI k = nI (38 + 6 * g + k) := by
  rw [show (38 : Int32) = nI 38 from rfl, show (6 : Int32) * nI g = nI (6 * g) from (Int32.ofNat_mul 6 g).symm, nI_add, nI_add]
set_option maxRecDepth 100000 in
theorem c_X5_guestAt {Γ : aG} {l : Launch} {M : Nat → aC} {g k : Nat}  : Ev Γ l mX5_guestAt [.int (nI g), .int (nI k)] 54 M (some (.int (nI (38 + 6 * g + k)))) 54 M := by
  refine Ev.of [(0, .int (nI g)), (1, .int (nI k))] (by decide) (Nat.le_of_ble_eq_true rfl) rfl ?_
  refine fr_bipush (pc := 0) (v := 38) rfl dX5_guestAt_0 ?_
  refine fr_bipush (pc := 2) (v := 6) rfl dX5_guestAt_2 ?_
  refine fr_iload_n (pc := 4) rfl dX5_guestAt_4 ?_
  refine fr_imul (pc := 5) dX5_guestAt_5 ?_
  refine fr_iadd (pc := 6) dX5_guestAt_6 ?_
  refine fr_iload_n (pc := 7) rfl dX5_guestAt_7 ?_
  refine fr_iadd (pc := 8) dX5_guestAt_8 ?_
  exact fr_ireturn (pc := 9) rfl ga_eq rfl rfl dX5_guestAt_9
set_option maxRecDepth 100000 in
theorem c_X5_guestIs {Γ : aG} {l : Launch} {M : Nat → aC} {r : rT} {kr ar : Nat → Int32} {ik : Int32} {fi b : Nat → Int32} {ln : Int32} {S : sT} {it mv : Nat → Int32} {Q : yQ} {g k : Nat} (hg : g < 8) (hk : k < 6)  : Ev Γ l mX5_guestIs [.ref 42, .int (nI g), .int (nI k)] 54 (yM M r kr ar ik fi b ln S it mv Q) (some (.int (r (2 + k) g))) 54 (yM M r kr ar ik fi b ln S it mv Q) := by
  refine Ev.of [(0, .ref 42), (1, .int (nI g)), (2, .int (nI k))] (by decide) (Nat.le_of_ble_eq_true rfl) rfl ?_
  refine fr_aload_n (pc := 0) rfl dX5_guestIs_0 ?_
  refine fr_get (pc := 1) (ci := 4) (T := TX5) (k0 := 0) rfl hin_X5 (by decide) fl_X5_9 (by decide) y_42 rfl dX5_guestIs_1 ?_
  refine fr_iload_n (pc := 4) rfl dX5_guestIs_4 ?_
  refine fr_iload_n (pc := 5) rfl dX5_guestIs_5 ?_
  refine fr_callS0 (pc := 6) [.int (nI g), .int (nI k)] [.ref 43] (c_X5_guestAt (g := g) (k := k)) gc_X5_106 rfl rfl ⟨rfl, rfl, by decide, by decide⟩ (Nat.le_of_ble_eq_true rfl) ⟨by decide, by decide⟩ dX5_guestIs_6 ?_
  refine fr_iald (pc := 9) (38 + 6 * g + k) rfl (by decide) y_43 (by first | assumption | omega) (by decide) dX5_guestIs_9 ?_
  refine fr_eq (z := r (2 + k) g) (row_at (ph_g (k := k) (by first | decide | assumption | omega))) ?_
  exact fr_ireturn (pc := 10) rfl rfl rfl rfl dX5_guestIs_10
set_option maxRecDepth 100000 in
theorem c_X5_isGuest {Γ : aG} {l : Launch} {M : Nat → aC} {r : rT} {kr ar : Nat → Int32} {ik : Int32} {fi b : Nat → Int32} {ln : Int32} {S : sT} {it mv : Nat → Int32} {Q : yQ} {g : Int32}  : Ev Γ l mX5_isGuest [.ref 42, .int g] 54 (yM M r kr ar ik fi b ln S it mv Q) (some (.int (bI (wi g 0 (r 9 1 - 1) = true)))) 54 (yM M r kr ar ik fi b ln S it mv Q) := by
  refine Ev.of [(0, .ref 42), (1, .int g)] (by decide) (Nat.le_of_ble_eq_true rfl) rfl ?_
  refine fr_iload_n (pc := 0) rfl dX5_isGuest_0 ?_
  refine fr_iconst (pc := 1) (v := 0) rfl dX5_isGuest_1 ?_
  refine fr_aload_n (pc := 2) rfl dX5_isGuest_2 ?_
  refine fr_get (pc := 3) (ci := 4) (T := TX5) (k0 := 0) rfl hin_X5 (by decide) fl_X5_9 (by decide) y_42 rfl dX5_isGuest_3 ?_
  refine fr_iconst (pc := 6) (v := 1) rfl dX5_isGuest_6 ?_
  refine fr_iald (pc := 7) 1 rfl (by decide) y_43 (by decide) (by decide) dX5_isGuest_7 ?_
  refine fr_eq (z := r 9 1) (row_at (ph_l (by decide))) ?_
  refine fr_iconst (pc := 8) (v := 1) rfl dX5_isGuest_8 ?_
  refine fr_isub (pc := 9) dX5_isGuest_9 ?_
  refine fr_callS0 (pc := 10) [.int g, .int 0, .int ((r 9 1) - 1)] [] (c_X5_within) gc_X5_70 rfl rfl ⟨rfl, rfl, by decide, by decide⟩ (Nat.le_of_ble_eq_true rfl) ⟨by decide, by decide⟩ dX5_isGuest_10 ?_
  exact fr_ireturn (pc := 13) rfl rfl rfl bI_nar dX5_isGuest_13
set_option maxRecDepth 100000 in
theorem c_X5_isIn {Γ : aG} {l : Launch} {M : Nat → aC} {r : rT} {kr ar : Nat → Int32} {ik : Int32} {fi b : Nat → Int32} {ln : Int32} {S : sT} {it mv : Nat → Int32} {Q : yQ} {g : Nat} (hg : g < 8)  : Ev Γ l mX5_isIn [.ref 42, .int (nI g)] 54 (yM M r kr ar ik fi b ln S it mv Q) (some (.int (bI (r 7 g = 0)))) 54 (yM M r kr ar ik fi b ln S it mv Q) := by
  refine Ev.of [(0, .ref 42), (1, .int (nI g))] (by decide) (Nat.le_of_ble_eq_true rfl) rfl ?_
  refine fr_aload_n (pc := 0) rfl dX5_isIn_0 ?_
  refine fr_iload_n (pc := 1) rfl dX5_isIn_1 ?_
  refine fr_iconst (pc := 2) (v := 5) rfl dX5_isIn_2 ?_
  refine fr_callV0 (pc := 3) (ci := 4) (T := TX5) (N := 20) [.int (nI g), .int 5] [] (c_X5_guestIs (k := 5) (by first | assumption | omega) (by first | decide | assumption | omega)) gc_X5_116 rfl rfl ⟨rfl, rfl, by decide, by decide⟩ (Nat.le_of_ble_eq_true rfl) rfl (by decide) y_42 ⟨by decide, by decide⟩ dX5_isIn_3 ?_
  refine fr_if_ne (pc := 6) 13 (by decide) dX5_isIn_6 (fun h6 => ?_) (fun h6 => ?_)
  · refine fr_iconst (pc := 13) (v := 0) rfl dX5_isIn_13 ?_
    exact fr_ireturn (pc := 14) rfl (bI_f h6).symm rfl rfl dX5_isIn_14
  · refine fr_iconst (pc := 9) (v := 1) rfl dX5_isIn_9 ?_
    refine fr_goto (pc := 10) 14 (by decide) dX5_isIn_10 ?_
    exact fr_ireturn (pc := 14) rfl (bI_t h6).symm rfl rfl dX5_isIn_14
