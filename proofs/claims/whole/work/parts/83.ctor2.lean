section A6
variable {Γ : aG} {l : Launch} {y : MethodName} {cc : ByteArray} {nL : Nat} {ret : Option FieldType} {R : Room} {mc ms : Nat} {pc : Nat} {L : List (Nat × Value)} {st : List Value} {n k1 k2 : Nat} {M : Nat → aC} {r : Option Value} {n' : Nat} {M' : Nat → aC}
theorem fr_newR {ix N : Nat} (h1 : Cond.classLink y.cls ix "java/lang/String" ∈ tG) (hN : N < 2 ^ 20) (hR : k1 + 1 ≤ R.cells ∧ k2 + N ≤ R.slots) (hn : n + 1 ≤ 1000) (hd : decode cc pc = .ok (.anewarray ix, 3)) (k : Fr Γ l (y, cc, nL, ret, R, mc, ms) (pc + 3) L (.ref n :: st) (n + 1) (k1 + 1) (k2 + N) (a_up M n (aR 2 N (fun _ => none))) r n' M') : Fr Γ l (y, cc, nL, ret, R, mc, ms) pc L (.int (nI N) :: st) n k1 k2 M r n' M' := by
  intro p e s m args below meth c H locs ls C w hl
  refine a_sz C.2.2.2.2.2.2.2.2.2.2.2.2.2.2.2.2 w (fun hz => ?_)
  have hcl : (nI N).toNatClampNeg = N := nI_clamp (by omega)
  refine W.anew C.1 C.2.1 C.2.2.2.2.1 (C.2.2.2.2.2.1 _ h1) (va_AO.use C.2.2.2.2.2.2.2.2.2.2.2.2.2.1) (g := F0 m pc ls (.int (nI N) :: st.map (a_v Γ))) rfl hd rfl (nI_pos (by omega)) (by rw [hcl]; omega) hR.1 (by rw [hcl]; exact hR.2) fun cA kA comp f1 f2 f3 f4 => ?_
  rw [hcl]
  generalize hH1 : H.push ({ cls := cA, slots := Array.replicate N .null, vm := .none } : Cell) = H1
  have z1 : H1.size = H.size + 1 := by rw [← hH1, Array.size_push]
  have e1 : H1[H.size]? = some (arrV cA N (fun _ => .null)) := by rw [← hH1, Array.getElem?_push_size, ← arrV_new]
  have o1 : ∀ x, x < H.size → H1[x]? = H[x]? := fun x hx => by rw [← hH1, Array.getElem?_push_lt hx, Array.getElem?_eq_getElem hx]
  have hcA : cA = Γ.2.2.1 2 := by
    obtain ⟨_, _, _, _, _, h9⟩ := (C.2.2.2.2.2.2.2.2.2.2.2.2.2.2.2.1.2 2 _ rfl).2
    exact Option.some.inj (f1.symm.trans h9)
  have hk : ∀ (k : Nat) (x : Nat × va_E), (a_w Γ n M)[k]? = some x → H1[x.1]? = H[x.1]? := fun k x hx => o1 x.1 ((w.1 k x hx).lt)
  have hP : va_P Γ.1 vwCl (a_w Γ (n + 1) (a_up M n (aR 2 N (fun _ => none)))) H1 := by
    rw [← a_w_push]
    refine (w.1.kept hk).app (fun k x hx => ?_)
    have hz2 : k < 1 := (List.getElem?_eq_some_iff.mp hx).1
    rw [show k = 0 by omega] at hx
    cases hx
    show H1[Γ.2.1 + n]? = some (vp_cell (Γ.2.2.1 2) (N, .inr (.inr (.inr (.inr (fun _ => none))))))
    rw [← hz, ← hcA]
    exact e1
  have hS : va_S (a_A Γ) s.heap H1 locs := ⟨Nat.le_trans w.2.2.1.1 (by omega), fun x g1 g2 => (o1 x (Nat.lt_of_lt_of_le g1 w.2.2.1.1)).trans (w.2.2.1.2.1 x g1 g2), w.2.2.1.2.2⟩
  have kk := k p e s m args below meth c H1 locs ls C ⟨hP, by have := w.2.1; omega, hS, hn⟩ hl
  rw [show ((Value.ref n :: st).map (a_v Γ)) = .ref (a_ad Γ n) :: st.map (a_v Γ) from rfl, a_ad_lt (Γ := Γ) (show n < 1000 by omega), ← hz] at kk
  exact kk
theorem fr_aastS {i N k0 : Nat} {f : Nat → Option Nat} {z : Int32} (j : Nat) (hz : z = nI j) (hi : i < n) (hM : M i = aR 2 N f) (hj : j < N) (hN : N < 2 ^ 31) (hk : k0 < 26) (hd : decode cc pc = .ok (.aastore, 1)) (k : Fr Γ l (y, cc, nL, ret, R, mc, ms) (pc + 1) L st n k1 k2 (a_up M i (aR 2 N (va_up f j (some (2000 + k0))))) r n' M') : Fr Γ l (y, cc, nL, ret, R, mc, ms) pc L (.ref (2000 + k0) :: .int z :: .ref i :: st) n k1 k2 M r n' M' := by
  intro p e s m args below meth c H locs ls C w hl
  subst hz
  have h1 : (a_w Γ n M)[i]? = some (a_ad Γ i, .inl (Γ.2.2.1 2, N, .inr (.inr (.inr (.inr (fun j => (f j).map (a_ad Γ))))))) := by rw [a_w_at hi, hM, a_ad_lt (Nat.lt_of_lt_of_le hi w.2.2.2)]; rfl
  have e1 : a_ad Γ (2000 + k0) = Γ.2.2.2 (2000 + k0) := if_neg (by omega)
  have hrec : ∃ cell : Cell, H[a_ad Γ (2000 + k0)]? = some cell ∧ cell.vm.isStatics = false ∧ s.vm.findClass "java/lang/String" = some cell.cls := by
    obtain ⟨cell, h1, h2, h3, -⟩ := ((C.2.2.2.2.2.2.2.2.2.1 k0 hk).2.1).kept w.2.2.1.2.1
    rw [← e1] at h1
    exact ⟨cell, h1, h2, h3⟩
  refine vb_astq C.1 C.2.1 C.2.2.2.2.2.2.2.2.2.2.2.2.2.2.2.1 w.1 a_w_D w.2.2.1 i 2 (E := "java/lang/String") (C := "java/lang/String") h1 rfl hrec (fun comp c0 g1 g2 => by cases g1.symm.trans g2; exact va_asg _ _) (vp_in_nI hj hN) hd (fun H1 locs1 q1 _ q3 => ?_)
  rw [nI_clamp (Nat.lt_trans hj hN)] at q1
  have e2 : (a_w Γ n M).set i (a_ad Γ i, .inl (Γ.2.2.1 2, N, .inr (.inr (.inr (.inr (va_up (fun j => (f j).map (a_ad Γ)) j (some (a_ad Γ (2000 + k0))))))))) = a_w Γ n (a_up M i (aR 2 N (va_up f j (some (2000 + k0))))) := by
    rw [← a_w_set, a_ad_lt (Nat.lt_of_lt_of_le hi w.2.2.2)]
    congr 1
    show (Γ.2.1 + i, (Sum.inl (Γ.2.2.1 2, N, .inr (.inr (.inr (.inr _)))) : va_E)) = (Γ.2.1 + i, Sum.inl (Γ.2.2.1 2, N, .inr (.inr (.inr (.inr (fun q => (va_up f j (some (2000 + k0)) q).map (a_ad Γ)))))))
    congr 8
    funext q
    unfold va_up
    split <;> rfl
  rw [e2] at q1
  exact k p e s m args below meth c H1 locs1 ls C ⟨q1, w.2.1, q3, w.2.2.2⟩ hl
end A6
