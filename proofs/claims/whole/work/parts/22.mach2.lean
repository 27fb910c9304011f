section A4
variable {Γ : aG} {l : Launch} {y : MethodName} {cc : ByteArray} {nL : Nat} {ret : Option FieldType} {R : Room} {mc ms : Nat} {pc : Nat} {L : List (Nat × Value)} {st : List Value} {n k1 k2 : Nat} {M : Nat → aC} {r : Option Value} {n' : Nat} {M' : Nat → aC}
theorem fr_aaldI {i N : Nat} {f : Nat → Option Nat} {v : Nat} {x : Int32} (j : Nat) (hx : x = nI j) (hi : i < n) (hM : M i = aR 1 N f) (hj : j < N) (hN : N < 2 ^ 31) (hv : f j = some v) (hd : decode cc pc = .ok (.aaload, 1)) (k : Fr Γ l (y, cc, nL, ret, R, mc, ms) (pc + 1) L (.ref v :: st) n k1 k2 M r n' M') : Fr Γ l (y, cc, nL, ret, R, mc, ms) pc L (.int x :: .ref i :: st) n k1 k2 M r n' M' := by
  intro p e s m args below meth c H locs ls C w hl
  subst hx
  have h1 : (a_w Γ n M)[i]? = some (a_ad Γ i, .inl (Γ.2.2.1 1, N, .inr (.inr (.inr (.inr (fun j => (f j).map (a_ad Γ))))))) := by rw [a_w_at hi, hM, a_ad_lt (Nat.lt_of_lt_of_le hi w.2.2.2)]; rfl
  have hc : (nI j).toNatClampNeg = j := nI_clamp (Nat.lt_trans hj hN)
  refine W.aald (v := .ref (a_ad Γ v)) (ty := .array .int) C.1 C.2.1 (w.1 i _ h1) ((C.2.2.2.2.2.2.2.2.2.2.2.2.2.2.2.1.2 1 _ rfl).1 N (fun j => va_rf ((f j).map (a_ad Γ)))) rfl (fun q => by cases q) (by show ¬ (nI j < 0 ∨ (arrV _ _ _).slots.size ≤ _); rw [arrV_size]; exact vp_in_nI hj hN) (by show (arrV _ _ _).slots[_]? = _; rw [hc, arrV_read _ _ hj]; show some (va_rf ((f j).map (a_ad Γ))) = _; rw [hv]; rfl) rfl rfl hd ?_
  exact k p e s m args below meth c H locs ls C w hl
theorem fr_ldcS {ix k0 : Nat} (hk : k0 < 26) (ho : (a_ss k0).1 = y.cls) (hx : (a_ss k0).2.1 = ix) (hd : decode cc pc = .ok (.ldc ix, 2)) (k : Fr Γ l (y, cc, nL, ret, R, mc, ms) (pc + 2) L (.ref (2000 + k0) :: st) n k1 k2 M r n' M') : Fr Γ l (y, cc, nL, ret, R, mc, ms) pc L st n k1 k2 M r n' M' := by
  intro p e s m args below meth c H locs ls C w hl
  have e1 : a_ad Γ (2000 + k0) = Γ.2.2.2 (2000 + k0) := if_neg (by omega)
  have hz := (C.2.2.2.2.2.2.2.2.2.1 k0 hk).1
  rw [ho, hx, ← e1] at hz
  exact va_ldcS C.1 C.2.1 C.2.2.2.2.1 hz hd (k p e s m args below meth c H locs ls C w hl)
theorem fr_sgv {ix k0 : Nat} (hk : k0 < 26) (hw : Cond.fieldLink y.cls ix "java/lang/String" "value" "[B" ∈ tG) (hd : decode cc pc = .ok (.getfield ix, 3)) (k : Fr Γ l (y, cc, nL, ret, R, mc, ms) (pc + 3) L (.ref (3000 + k0) :: st) n k1 k2 M r n' M') : Fr Γ l (y, cc, nL, ret, R, mc, ms) pc L (.ref (2000 + k0) :: st) n k1 k2 M r n' M' := by
  intro p e s m args below meth c H locs ls C w hl
  have e1 : a_ad Γ (2000 + k0) = Γ.2.2.2 (2000 + k0) := if_neg (by omega)
  have e2 : a_ad Γ (3000 + k0) = Γ.2.2.2 (3000 + k0) := if_neg (by omega)
  have hz := (C.2.2.2.2.2.2.2.2.2.1 k0 hk).2.2.2.1
  rw [← e1, ← e2] at hz
  exact vk_getf C.1 C.2.1 hz w.2.2.1 C.2.2.2.2.1 (C.2.2.2.2.2.1 _ hw) (fun _ h => h) hd (k p e s m args below meth c H locs ls C w hl)
theorem fr_sgc {ix k0 : Nat} (hk : k0 < 26) (hw : Cond.fieldLink y.cls ix "java/lang/String" "coder" "B" ∈ tG) (hd : decode cc pc = .ok (.getfield ix, 3)) (k : Fr Γ l (y, cc, nL, ret, R, mc, ms) (pc + 3) L (.int 0 :: st) n k1 k2 M r n' M') : Fr Γ l (y, cc, nL, ret, R, mc, ms) pc L (.ref (2000 + k0) :: st) n k1 k2 M r n' M' := by
  intro p e s m args below meth c H locs ls C w hl
  have e1 : a_ad Γ (2000 + k0) = Γ.2.2.2 (2000 + k0) := if_neg (by omega)
  have hz := (C.2.2.2.2.2.2.2.2.2.1 k0 hk).2.2.1
  rw [← e1] at hz
  exact vk_getf C.1 C.2.1 hz w.2.2.1 C.2.2.2.2.1 (C.2.2.2.2.2.1 _ hw) (fun _ h => h) hd (k p e s m args below meth c H locs ls C w hl)
theorem fr_slen {k0 : Nat} (hk : k0 < 26) (hd : decode cc pc = .ok (.arraylength, 1)) (k : Fr Γ l (y, cc, nL, ret, R, mc, ms) (pc + 1) L (.int (nI (a_ss k0).2.2.2.length) :: st) n k1 k2 M r n' M') : Fr Γ l (y, cc, nL, ret, R, mc, ms) pc L (.ref (3000 + k0) :: st) n k1 k2 M r n' M' := by
  intro p e s m args below meth c H locs ls C w hl
  have e2 : a_ad Γ (3000 + k0) = Γ.2.2.2 (3000 + k0) := if_neg (by omega)
  have hz := (C.2.2.2.2.2.2.2.2.2.1 k0 hk).2.2.2.2
  rw [← e2] at hz
  exact va_tlen C.1 C.2.1 hz w.2.2.1 rfl hd (k p e s m args below meth c H locs ls C w hl)
theorem fr_sbald {k0 : Nat} {x : Int32} (j : Nat) (hx : x = nI j) (hk : k0 < 26) (hj : j < (a_ss k0).2.2.2.length) (hJ : j < 100) (hd : decode cc pc = .ok (.baload, 1)) (k : Fr Γ l (y, cc, nL, ret, R, mc, ms) (pc + 1) L (.int ((a_ss k0).2.2.2.getD j 0) :: st) n k1 k2 M r n' M') : Fr Γ l (y, cc, nL, ret, R, mc, ms) pc L (.int x :: .ref (3000 + k0) :: st) n k1 k2 M r n' M' := by
  intro p e s m args below meth c H locs ls C w hl
  subst hx
  have e2 : a_ad Γ (3000 + k0) = Γ.2.2.2 (3000 + k0) := if_neg (by omega)
  have hz := (C.2.2.2.2.2.2.2.2.2.1 k0 hk).2.2.2.2
  rw [← e2] at hz
  have hc : (nI j).toNatClampNeg = j := nI_clamp (by omega)
  refine va_tb C.1 C.2.1 hz w.2.2.1 (v := .int ((a_ss k0).2.2.2.getD j 0)) (fun q => ?_) (by rw [hc]) hd (k p e s m args below meth c H locs ls C w hl)
  rcases q with q | q
  · exact nI_pos (by omega) q
  · rw [hc] at q; omega
theorem fr_gsC {ix : Nat} (hw : Cond.fieldLink y.cls ix "java/lang/String" "COMPACT_STRINGS" "Z" ∈ tG) (hd : decode cc pc = .ok (.getstatic ix, 3)) (k : Fr Γ l (y, cc, nL, ret, R, mc, ms) (pc + 3) L (.int 1 :: st) n k1 k2 M r n' M') : Fr Γ l (y, cc, nL, ret, R, mc, ms) pc L st n k1 k2 M r n' M' := by
  intro p e s m args below meth c H locs ls C w hl
  exact va_gets C.1 C.2.1 C.2.2.2.2.2.2.2.2.2.2.1.1 w.2.2.1 C.2.2.2.2.1 (C.2.2.2.2.2.1 _ hw) (fun _ h => h) hd (k p e s m args below meth c H locs ls C w hl)
theorem fr_gsF {ix : Nat} (hw : Cond.fieldLink y.cls ix "jdk/internal/util/Preconditions" "SIOOBE_FORMATTER" "Ljava/util/function/BiFunction;" ∈ tG) (hd : decode cc pc = .ok (.getstatic ix, 3)) (k : ∀ v : Value, v.category = 1 → Fr Γ l (y, cc, nL, ret, R, mc, ms) (pc + 3) L (v :: st) n k1 k2 M r n' M') : Fr Γ l (y, cc, nL, ret, R, mc, ms) pc L st n k1 k2 M r n' M' := by
  intro p e s m args below meth c H locs ls C w hl
  rcases C.2.2.2.2.2.2.2.2.2.2.2.1 with hz | hz
  · exact va_gets C.1 C.2.1 hz w.2.2.1 C.2.2.2.2.1 (C.2.2.2.2.2.1 _ hw) (fun _ h => h) hd (k .null rfl p e s m args below meth c H locs ls C w hl)
  · have e2 : a_ad Γ 4000 = Γ.2.2.2 4000 := if_neg (by omega)
    rw [← e2] at hz
    exact va_gets C.1 C.2.1 hz w.2.2.1 C.2.2.2.2.1 (C.2.2.2.2.2.1 _ hw) (fun _ h => h) hd (k (.ref 4000) rfl p e s m args below meth c H locs ls C w hl)
theorem fr_callK {ix a k0 : Nat} {x : MethodName} {b : ByteArray} {nL1 : Nat} {rt : Option FieldType} {R1 : Room} {v : Option Value} {M1 : Nat → aC} (As : List Value) (rest : List Value) (hk : k0 < 26) (hE : Ev Γ l (x, b, nL1, rt, R1, 0, 0) (.ref (2000 + k0) :: As) n M v n M1) (g : g_V y.cls ix x b nL1 rt a) (hx : x.cls = "java/lang/String") (hst : st = As.reverse ++ .ref (2000 + k0) :: rest) (ha : As.length = a) (hR : R1.cells = 0 ∧ R1.slots = 0 ∧ R1.frames + 1 ≤ R.frames ∧ 8 + (nL1 + 11) + R1.locals ≤ R.locals) (hw8 : (rest.map fun v => v.category).sum ≤ 8) (hk12 : k1 ≤ R.cells ∧ k2 ≤ R.slots) (hd : decode cc pc = .ok (.invokevirtual ix, 3)) (k : Fr Γ l (y, cc, nL, ret, R, mc, ms) (pc + 3) L (v.toList ++ rest) n k1 k2 M1 r n' M') : Fr Γ l (y, cc, nL, ret, R, mc, ms) pc L st n k1 k2 M r n' M' := by
  intro p e s m args below meth c H locs ls C w hl
  refine a_sz C.2.2.2.2.2.2.2.2.2.2.2.2.2.2.2.2 w (fun hz => ?_)
  have hcat : 2 * (F0 m pc ls (st.map (a_v Γ))).monitorRoom + ((rest.map (a_v Γ)).map fun v => v.category).sum ≤ 8 := by
    have e1 : ((rest.map (a_v Γ)).map fun v => v.category) = rest.map fun v => v.category := by
      rw [List.map_map]
      exact List.map_congr_left (fun v _ => a_v_cat Γ v)
    rw [e1]
    show 2 * 0 + _ ≤ 8
    rw [Nat.mul_zero, Nat.zero_add]
    exact hw8
  have cb := callB_of (s := s) (args := args) (own := y.cls) (index := ix) (y := x) (bytes := b) (maxL := nL1) (ret := rt) (ws := .code x b nL1 rt :: tG) (ws' := tG) (rm := R1) (mc := 0) (ms := 0) (R := R) a C.2.2.2.2.2.1 (tG_good g.2.2.2.2.1 (fun w h => h)) rfl hR.1 hR.2.1 (C.2.2.2.2.2.1 _ g.2.2.2.1) (C.2.2.2.2.2.1 _ g.1) ⟨g.2.2.2.2.2.1, g.2.2.2.2.2.2.1, g.2.2.2.2.2.2.2⟩ ⟨hR.2.2.1, hR.2.2.2⟩
  have e1 : a_ad Γ (2000 + k0) = Γ.2.2.2 (2000 + k0) := if_neg (by omega)
  have hrec : ∃ cell : Cell, H[a_ad Γ (2000 + k0)]? = some cell ∧ cell.vm.isStatics = false ∧ s.vm.findClass x.cls = some cell.cls := by
    obtain ⟨cell, h1, h2, h3, -⟩ := ((C.2.2.2.2.2.2.2.2.2.1 k0 hk).2.1).kept w.2.2.1.2.1
    rw [← e1] at h1
    exact ⟨cell, h1, h2, by rw [hx]; exact h3⟩
  refine a_call (va_runV (b := a_ad Γ (2000 + k0)) (C := x.cls) (As := As.map (a_v Γ)) (rest := rest.map (a_v Γ)) ⟨C.1, C.2.1, C.2.2.2.1, C.2.2.2.2.1, C.2.2.2.2.2.1⟩ hE ⟨cb, C.2.2.2.2.2.1 _ g.2.1, C.2.2.2.2.2.1 _ g.2.2.1⟩ ⟨a_blind, hrec, a_pre C.2.2.2.2.2.2.2.2 w hz⟩ rfl (by rw [List.length_map]; exact ha) hl.1 (by show st.map (a_v Γ) = _; rw [hst, List.map_append, List.map_reverse]; rfl) hcat hd ⟨hk12.1, hk12.2⟩) w.2.2.1 (fun H1 locs1 q1 q2 q3 => ?_)
  have e2 : (v.map (a_v Γ)).toList ++ rest.map (a_v Γ) = (v.toList ++ rest).map (a_v Γ) := by cases v <;> rfl
  rw [e2]
  exact k p e s m args below meth c H1 locs1 ls C ⟨q1, w.2.1, q3, q2⟩ hl
theorem fr_sclen (hd : decode cc pc = .ok (.arraylength, 1)) (k : Fr Γ l (y, cc, nL, ret, R, mc, ms) (pc + 1) L (.int (nI (Γ.2.2.2 6000)) :: st) n k1 k2 M r n' M') : Fr Γ l (y, cc, nL, ret, R, mc, ms) pc L (.ref 5000 :: st) n k1 k2 M r n' M' := by
  intro p e s m args below meth c H locs ls C w hl
  have e2 : a_ad Γ 5000 = Γ.2.2.2 5000 := if_neg (by omega)
  have hz := C.2.2.2.2.2.2.2.2.2.2.1.2
  rw [← e2] at hz
  exact va_tlen C.1 C.2.1 hz w.2.2.1 rfl hd (k p e s m args below meth c H locs ls C w hl)
theorem fr_scld {x : Int32} (j : Nat) (hx : x = nI j) (hj : j < Γ.2.2.2 6000) (hJ : j < 2 ^ 31) (hd : decode cc pc = .ok (.iaload, 1)) (k : Fr Γ l (y, cc, nL, ret, R, mc, ms) (pc + 1) L (.int (nI (Γ.2.2.2 (7000 + j))) :: st) n k1 k2 M r n' M') : Fr Γ l (y, cc, nL, ret, R, mc, ms) pc L (.int x :: .ref 5000 :: st) n k1 k2 M r n' M' := by
  intro p e s m args below meth c H locs ls C w hl
  subst hx
  have e2 : a_ad Γ 5000 = Γ.2.2.2 5000 := if_neg (by omega)
  have hz := C.2.2.2.2.2.2.2.2.2.2.1.2
  rw [← e2] at hz
  have hc : (nI j).toNatClampNeg = j := nI_clamp hJ
  refine va_ti C.1 C.2.1 hz w.2.2.1 (v := .int (nI (Γ.2.2.2 (7000 + j)))) (fun q => ?_) (by rw [hc]) hd (k p e s m args below meth c H locs ls C w hl)
  rcases q with q | q
  · exact nI_pos hJ q
  · rw [hc] at q; omega
end A4
