theorem out4 (c : ClassId) (h : Nat) : Jvm.Free.Multi.outerC c 4 h 4 = arrV c 4 (fun j => .ref (h + 1 + j)) := by
  show (((({ cls := c, slots := Array.replicate 4 .null, vm := .none } : Cell).setSlot 0 (.ref (h + 1 + 0))).setSlot 1 (.ref (h + 1 + 1))).setSlot 2 (.ref (h + 1 + 2))).setSlot 3 (.ref (h + 1 + 3)) = _
  rw [arrV_new, arrV_store, arrV_store, arrV_store, arrV_store]
  unfold arrV
  congr 2
  funext j
  match j with
  | ⟨0, _⟩ => rfl
  | ⟨1, _⟩ => rfl
  | ⟨2, _⟩ => rfl
  | ⟨3, _⟩ => rfl
section A7
variable {Γ : aG} {l : Launch} {y : MethodName} {cc : ByteArray} {nL : Nat} {ret : Option FieldType} {R : Room} {mc ms : Nat} {pc : Nat} {L : List (Nat × Value)} {st : List Value} {n k1 k2 : Nat} {M : Nat → aC} {r : Option Value} {n' : Nat} {M' : Nat → aC}
theorem m5_lt {q : Nat} (h : q < n) : (a_up (a_up (a_up (a_up (a_up M n (aR 1 4 (fun i => some (n + 1 + i)))) (n + 1) (aI 40 (fun _ => 0))) (n + 2) (aI 40 (fun _ => 0))) (n + 3) (aI 40 (fun _ => 0))) (n + 4) (aI 40 (fun _ => 0))) q = M q := by
  unfold a_up
  rw [if_neg (by omega), if_neg (by omega), if_neg (by omega), if_neg (by omega), if_neg (by omega)]
theorem m5_n : (a_up (a_up (a_up (a_up (a_up M n (aR 1 4 (fun i => some (n + 1 + i)))) (n + 1) (aI 40 (fun _ => 0))) (n + 2) (aI 40 (fun _ => 0))) (n + 3) (aI 40 (fun _ => 0))) (n + 4) (aI 40 (fun _ => 0))) n = (aR 1 4 (fun i => some (n + 1 + i))) := by
  unfold a_up
  rw [if_neg (by omega), if_neg (by omega), if_neg (by omega), if_neg (by omega), if_pos rfl]
theorem m5_r {i : Nat} (h : i < 4) : (a_up (a_up (a_up (a_up (a_up M n (aR 1 4 (fun i => some (n + 1 + i)))) (n + 1) (aI 40 (fun _ => 0))) (n + 2) (aI 40 (fun _ => 0))) (n + 3) (aI 40 (fun _ => 0))) (n + 4) (aI 40 (fun _ => 0))) (n + 1 + i) = aI 40 (fun _ => 0) := by
  rcases (show i = 0 ∨ i = 1 ∨ i = 2 ∨ i = 3 by omega) with rfl | rfl | rfl | rfl
  · unfold a_up; rw [if_neg (by omega), if_neg (by omega), if_neg (by omega), if_pos (by omega)]
  · unfold a_up; rw [if_neg (by omega), if_neg (by omega), if_pos (by omega)]
  · unfold a_up; rw [if_neg (by omega), if_pos (by omega)]
  · unfold a_up; rw [if_pos (by omega)]
theorem fr_mna {ix : Nat} (h1 : Cond.classLink y.cls ix "[[I" ∈ tG) (hR : k1 + 5 ≤ R.cells ∧ k2 + 164 ≤ R.slots) (hn : n + 5 ≤ 1000) (hd : decode cc pc = .ok (.multianewarray ix 2, 4)) (k : Fr Γ l (y, cc, nL, ret, R, mc, ms) (pc + 4) L (.ref n :: st) (n + 5) (k1 + 5) (k2 + 164) (a_up (a_up (a_up (a_up (a_up M n (aR 1 4 (fun i => some (n + 1 + i)))) (n + 1) (aI 40 (fun _ => 0))) (n + 2) (aI 40 (fun _ => 0))) (n + 3) (aI 40 (fun _ => 0))) (n + 4) (aI 40 (fun _ => 0))) r n' M') : Fr Γ l (y, cc, nL, ret, R, mc, ms) pc L (.int 40 :: .int 4 :: st) n k1 k2 M r n' M' := by
  intro p e s m args below meth c H locs ls C w hl
  refine a_sz C.2.2.2.2.2.2.2.2.2.2.2.2.2.2.2.2 w (fun hz => ?_)
  intro T hT Xs
  obtain ⟨vm₁, cA, comp, -, fA, fC, hO, -, X', step⟩ := Xs.multianewarray2F (ty := .int) C.1 C.2.2.2.2.1 (C.2.2.2.2.2.1 _ h1) (show (Cond.arrayOver (.array .int)).before args s = true from C.2.2.2.2.2.2.2.2.2.2.2.2.2.2.1) (C.2.2.2.2.2.1 _ wAI) (g := F0 m pc ls (.int 40 :: .int 4 :: st.map (a_v Γ))) rfl (by rw [C.2.1]; exact hd) rfl (by decide) (by decide) (by decide) (by decide) (by decide) rfl rfl hR.1 hR.2
  have hc0 : comp = Γ.2.2.1 0 := Option.some.inj (fC.symm.trans (C.2.2.2.2.2.2.2.2.2.2.2.2.2.2.2.1.2 0 _ rfl).2)
  have hc1 : cA = Γ.2.2.1 1 := Option.some.inj (fA.symm.trans (C.2.2.2.2.2.2.2.2.2.2.2.2.2.2.2.1.2 1 _ rfl).2)
  subst hc0
  subst hc1
  have hTh : (T.setVm vm₁).heap = H := hT
  have f2 := (Jvm.Free.Multi.fill_facts (T.setVm vm₁) (Γ.2.2.1 1) (Γ.2.2.1 0) 4 40 (.int 0) 4).2.1
  have f1 := (Jvm.Free.Multi.fill_facts (T.setVm vm₁) (Γ.2.2.1 1) (Γ.2.2.1 0) 4 40 (.int 0) 4).1
  have hold : ∀ x : Nat, x < H.size → (Jvm.Free.Multi.fill (T.setVm vm₁) (Γ.2.2.1 1) (Γ.2.2.1 0) 4 40 (.int 0) 4).heap[x]? = H[x]? := fun x hx => by
    have := Jvm.Free.Multi.fill_old (T.setVm vm₁) (Γ.2.2.1 1) (Γ.2.2.1 0) 4 40 (.int 0) (a := x) (by rw [hTh]; exact hx) 4
    rw [hTh] at this
    exact this
  have hrow : ∀ j : Nat, j < 4 → (Jvm.Free.Multi.fill (T.setVm vm₁) (Γ.2.2.1 1) (Γ.2.2.1 0) 4 40 (.int 0) 4).heap[H.size + 1 + j]? = some (vp_cell (Γ.2.2.1 0) (40, .inl (fun _ => 0))) := fun j hj => by
    have := Jvm.Free.Multi.fill_inner (T.setVm vm₁) (Γ.2.2.1 1) (Γ.2.2.1 0) 4 40 (.int 0) 4 j hj
    rw [hTh] at this
    rw [vp_cell_i, this]
    exact congrArg some (arrV_new _ _ _)
  rw [hTh] at f1 f2
  generalize hF : Jvm.Free.Multi.fill (T.setVm vm₁) (Γ.2.2.1 1) (Γ.2.2.1 0) 4 40 (.int 0) 4 = F at f1 f2 hold hrow
  have X2 : Stand p l e R s m args below meth c F locs (k1 + 5) (k2 + 164) := hF ▸ X'
  have hP0 := w.1.kept (fun k9 x hx => hold x.1 ((w.1 k9 x hx).lt))
  have hP : va_P Γ.1 vwCl (a_w Γ (n + 5) (a_up (a_up (a_up (a_up (a_up M n (aR 1 4 (fun i => some (n + 1 + i)))) (n + 1) (aI 40 (fun _ => 0))) (n + 2) (aI 40 (fun _ => 0))) (n + 3) (aI 40 (fun _ => 0))) (n + 4) (aI 40 (fun _ => 0)))) F.heap := by
    intro q x hx
    obtain ⟨hq, rfl⟩ := a_w_of hx
    rcases Nat.lt_or_ge q n with h | h
    · rw [m5_lt h]
      exact hP0 q _ (a_w_at h)
    · rcases Nat.eq_or_lt_of_le h with h | h
      · subst h
        rw [m5_n]
        show F.heap[Γ.2.1 + n]? = some (vp_cell (Γ.2.2.1 1) (4, .inr (.inr (.inr (.inr (fun j => (some (n + 1 + j)).map (a_ad Γ)))))))
        rw [← hz, f2, vp_cell_q, out4]
        refine congrArg some ?_
        unfold arrV
        congr 2
        funext j
        show Value.ref (H.size + 1 + j.1) = Value.ref (a_ad Γ (n + 1 + j.1))
        rw [a_ad_lt (show n + 1 + j.1 < 1000 by have := j.2; omega), hz, show Γ.2.1 + n + 1 + j.1 = Γ.2.1 + (n + 1 + j.1) by omega]
      · obtain ⟨i, hi, rfl⟩ : ∃ i, i < 4 ∧ q = n + 1 + i := ⟨q - n - 1, by omega, by omega⟩
        rw [m5_r hi]
        show F.heap[Γ.2.1 + (n + 1 + i)]? = some (vp_cell (Γ.2.2.1 0) (40, .inl (fun _ => 0)))
        rw [← hrow i hi, hz, show Γ.2.1 + n + 1 + i = Γ.2.1 + (n + 1 + i) by omega]
  have hS : va_S (a_A Γ) s.heap F.heap locs := ⟨Nat.le_trans w.2.2.1.1 (by omega), fun x g1 g2 => (hold x (Nat.lt_of_lt_of_le g1 w.2.2.1.1)).trans (w.2.2.1.2.1 x g1 g2), w.2.2.1.2.2⟩
  have kk := k p e s m args below meth c F.heap locs ls C ⟨hP, by have := w.2.1; omega, hS, hn⟩ hl
  rw [show ((Value.ref n :: st).map (a_v Γ)) = .ref (a_ad Γ n) :: st.map (a_v Γ) from rfl, a_ad_lt (Γ := Γ) (show n < 1000 by omega), ← hz, ← hT] at kk
  obtain ⟨t, a1, b1⟩ := kk F rfl X2
  have a2 := a1
  rw [← hF] at a2
  exact ⟨t, step t a2, b1⟩
end A7
