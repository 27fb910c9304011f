set_option maxRecDepth 100000 in
theorem lay_x {M : Nat → aC} : (lay M 0 [aO 3 [.ref 1, .ref 11, .ref 21, .int 0, .ref 31, .ref 39, .ref 41], aO 0 [.ref 2, .ref 3, .int 200, .int 0, .int 0, .int 0, .int 0, .ref 4, .ref 5, .ref 6, .ref 7, .ref 8, .ref 9, .int 1, .ref 10], aI 16 (fun q => if q < 16 then 20 else (fun _ => 0) q), aI 6 (fun q => if q < 6 then 26 else (fun _ => 0) q), aI 8 (fun _ => 0), aI 8 (fun _ => 0), aI 8 (fun _ => 0), aI 8 (fun _ => 0), aI 8 (fun _ => 0), aI 8 (fun _ => 0), aI 10 (fun q => if q < 10 then (-1) else (fun _ => 0) q), aO 0 [.ref 12, .ref 13, .int 200, .int 0, .int 0, .int 0, .int 0, .ref 14, .ref 15, .ref 16, .ref 17, .ref 18, .ref 19, .int 1, .ref 20], aI 16 (fun q => if q < 16 then 20 else (fun _ => 0) q), aI 6 (fun q => if q < 6 then 26 else (fun _ => 0) q), aI 8 (fun _ => 0), aI 8 (fun _ => 0), aI 8 (fun _ => 0), aI 8 (fun _ => 0), aI 8 (fun _ => 0), aI 8 (fun _ => 0), aI 10 (fun q => if q < 10 then (-1) else (fun _ => 0) q), aO 0 [.ref 22, .ref 23, .int 200, .int 0, .int 0, .int 0, .int 0, .ref 24, .ref 25, .ref 26, .ref 27, .ref 28, .ref 29, .int 1, .ref 30], aI 16 (fun q => if q < 16 then 20 else (fun _ => 0) q), aI 6 (fun q => if q < 6 then 26 else (fun _ => 0) q), aI 8 (fun _ => 0), aI 8 (fun _ => 0), aI 8 (fun _ => 0), aI 8 (fun _ => 0), aI 8 (fun _ => 0), aI 8 (fun _ => 0), aI 10 (fun q => if q < 10 then (-1) else (fun _ => 0) q), aO 1 [.ref 32, .ref 37, .ref 38], aR 1 4 (fun i => some (33 + i)), aI 40 (fun _ => 0), aI 40 (fun _ => 0), aI 40 (fun _ => 0), aI 40 (fun _ => 0), aI 4 (fun _ => 0), aI 4 (fun _ => 0), aO 2 [.ref 40, .int 0, .int 0, .int 0, .int 0, .int 0], aI 120 (fun _ => 0), aI 7 (fun _ => 0)]) = (xM M r0 r0 r0 0 zS (z1, 0, 0, 0, 0, 0) z1) := by
  refine x_ext (lt42 rfl rfl rfl rfl rfl rfl rfl rfl rfl rfl rfl rfl rfl rfl rfl rfl rfl rfl rfl rfl rfl rfl rfl rfl rfl rfl rfl rfl rfl rfl rfl rfl rfl rfl rfl rfl rfl rfl rfl rfl rfl rfl) (fun i hi => ?_)
  rw [x_hi hi]
  unfold lay
  rw [if_neg (by omega), List.getElem?_eq_none (by show 42 ≤ i - 0; omega)]
  rfl
theorem wf_r0 : wf r0 := by
  have z : ∀ N : Nat, 0 < N → N < 2 ^ 31 → okv (0 : Int32) N := fun N h1 h2 => okv_nI (a := 0) h1 h2
  refine ⟨z _ (by decide) (by decide), z _ (by decide) (by decide), fun g hg => z _ (by decide) (by decide), fun g hg => z _ (by decide) (by decide), fun g hg => z _ (by decide) (by decide), fun g hg => z _ (by decide) (by decide), fun i hi => Or.inl ?_⟩
  show flf (-1) 10 i = -1
  exact if_pos hi
def σ0 : sS := (r0, r0, 0, zS, z1, 0, z1)
theorem sI_0 : sI σ0 := ⟨wf_r0, wf_r0, ⟨fun s _ => okv_nI (a := 0) (by decide) (by decide), fun s _ => Or.inl rfl⟩, okv_nI (a := 0) (by decide) (by decide), fun p => by show ¬ (0 : Int32) < 0; decide⟩
/-- both sides' cells may be laid in either order -/
theorem xy {M : Nat → aC} {r1 rk t : rT} {ik : Int32} {S : sT} {T : tT} {fi : Nat → Int32} {r : rT} {kr ar : Nat → Int32} {ik' : Int32} {fi' b : Nat → Int32} {ln : Int32} {S' : sT} {it mv : Nat → Int32} {Q : yQ} : xM (yM M r kr ar ik' fi' b ln S' it mv Q) r1 rk t ik S T fi = yM (xM M r1 rk t ik S T fi) r kr ar ik' fi' b ln S' it mv Q := by
  unfold yM xM xB putH
  rw [blk_comm (j := 42) (n := 12) (by omega), blk_comm (j := 42) (n := 12) (by omega), blk_comm (j := 42) (n := 12) (by omega), blk_comm (j := 42) (n := 12) (by omega), blk_comm (j := 42) (n := 12) (by omega), blk_comm (j := 42) (n := 12) (by omega), blk_comm (j := 42) (n := 12) (by omega)]
