def kp (σ τ : sS) : Prop := τ.2.1 = σ.2.1 ∧ τ.2.2.1 = σ.2.2.1
def lM (M : Nat → aC) (σ : sS) (t : rT) (J : Int32 × Int32 × Int32 × Int32) (kr ar it mv : Nat → Int32) (Q : yQ) : Nat → aC := yF (xF M t J σ) kr ar it mv Q σ
def lI (σ : sS) (kr : Nat → Int32) : Prop := sI σ ∧ (σ.2.2.1 = 0 ∨ kr = row σ.2.1)
theorem lI_kp {σ τ : sS} {kr : Nat → Int32} (h : lI σ kr) (hi : sI τ) (hk : kp σ τ) : lI τ kr := ⟨hi, by rw [hk.1, hk.2]; exact h.2⟩
theorem lM_x {M : Nat → aC} {r rk t : rT} {ik : Int32} {S : sT} {b : Nat → Int32} {ln : Int32} {J : Int32 × Int32 × Int32 × Int32} {fi : Nat → Int32} {kr ar it mv : Nat → Int32} {Q : yQ} : xM (yM M r kr ar ik fi b ln S it mv Q) r rk t ik S (b, ln, J) fi = lM M (r, rk, ik, S, b, ln, fi) t J kr ar it mv Q := xy
theorem xF_y {M : Nat → aC} {r : rT} {ik : Int32} {S : sT} {b : Nat → Int32} {ln : Int32} {fi : Nat → Int32} {kr ar it mv : Nat → Int32} {Q : yQ} {t : rT} {J : Int32 × Int32 × Int32 × Int32} {σ : sS} : xF (yM M r kr ar ik fi b ln S it mv Q) t J σ = yM (xF M t J σ) r kr ar ik fi b ln S it mv Q := xy
theorem lM_0 {M : Nat → aC} {r rk t : rT} {ik : Int32} {S : sT} {b : Nat → Int32} {ln : Int32} {J : Int32 × Int32 × Int32 × Int32} {fi : Nat → Int32} {kr ar it mv : Nat → Int32} {Q : yQ} : lM M (r, rk, ik, S, b, ln, fi) t J kr ar it mv Q 0 = aO 3 [.ref 1, .ref 11, .ref 21, .int ik, .ref 31, .ref 39, .ref 41] := (congrFun lM_x 0).symm.trans x_0
def lK (Γ : aG) (l : Launch) (M : Nat → aC) (k : Nat) : Prop := ∀ (σ : sS) (t : rT) (J : Int32 × Int32 × Int32 × Int32) (kr ar it mv : Nat → Int32) (Q : yQ), lI σ kr → ∃ M' : Nat → aC, Fr Γ l kL_law 1416 [(0, .ref 5000), (1, .ref 0), (2, .ref 42), (3, .int (nI k))] [] 54 54 1701 (lM M σ t J kr ar it mv Q) (some (.int 1)) 54 M'
theorem kp_set {σ : sS} {a1 a2 : Int32} : kp σ (sp_set σ a1 a2).2 := by
  unfold sp_set
  try unfold orN
  repeat' split
  all_goals exact ⟨rfl, rfl⟩
theorem lq_set {Γ : aG} {l : Launch} {M : Nat → aC} {k : Nat} {σ : sS} {t : rT} {J : Int32 × Int32 × Int32 × Int32} {kr ar it mv : Nat → Int32} {Q : yQ} (hk : k + 6 ≤ Γ.2.2.2 6000) (hN : Γ.2.2.2 6000 ≤ 3072) (h : lI σ kr) (K : lK Γ l M k) : ∃ M' : Nat → aC, Fr Γ l kL_law 212 [(0, .ref 5000), (1, .ref 0), (2, .ref 42), (3, .int (nI k))] [] 54 54 1701 (lM M σ t J kr ar it mv Q) (some (.int 1)) 54 M' := by
  obtain ⟨r, rk, ik, S, b, ln, fi⟩ := σ
  have e : Ev Γ l mX4_set [.ref 0, .int (sci Γ (k + 1)), .int (sci Γ (k + 2))] 54 (xM (yM M r kr ar ik fi b ln S it mv Q) r rk t ik S (b, ln, J) fi) (some (.int (sp_set (r, rk, ik, S, b, ln, fi) (sci Γ (k + 1)) (sci Γ (k + 2))).1)) 54 (xF (yM M r kr ar ik fi b ln S it mv Q) t J (sp_set (r, rk, ik, S, b, ln, fi) (sci Γ (k + 1)) (sci Γ (k + 2))).2) := x_set 
  rw [lM_x, xF_y] at e
  have ex := e
  clear e
  have e : Ev Γ l mX5_set [.ref 42, .int (sci Γ (k + 1)), .int (sci Γ (k + 2))] 54 (yM (xF M t J (sp_set (r, rk, ik, S, b, ln, fi) (sci Γ (k + 1)) (sci Γ (k + 2))).2) r kr ar ik fi b ln S it mv Q) (some (.int (sp_set (r, rk, ik, S, b, ln, fi) (sci Γ (k + 1)) (sci Γ (k + 2))).1)) 54 (yF (xF M t J (sp_set (r, rk, ik, S, b, ln, fi) (sci Γ (k + 1)) (sci Γ (k + 2))).2) kr ar it mv Q (sp_set (r, rk, ik, S, b, ln, fi) (sci Γ (k + 1)) (sci Γ (k + 2))).2) := y_set 
  obtain ⟨M', kk⟩ := K (sp_set (r, rk, ik, S, b, ln, fi) (sci Γ (k + 1)) (sci Γ (k + 2))).2 t J kr ar it mv Q (lI_kp h (i_set h.1) kp_set)
  exact ⟨M', lc_set hk hN ex e lM_0 y_42 kk⟩
theorem kp_cell {σ : sS} {a1 a2 : Int32} : kp σ (sp_cell σ a1 a2).2 := by
  unfold sp_cell
  try unfold orN
  repeat' split
  all_goals exact ⟨rfl, rfl⟩
theorem lq_cell {Γ : aG} {l : Launch} {M : Nat → aC} {k : Nat} {σ : sS} {t : rT} {J : Int32 × Int32 × Int32 × Int32} {kr ar it mv : Nat → Int32} {Q : yQ} (hk : k + 6 ≤ Γ.2.2.2 6000) (hN : Γ.2.2.2 6000 ≤ 3072) (h : lI σ kr) (K : lK Γ l M k) : ∃ M' : Nat → aC, Fr Γ l kL_law 245 [(0, .ref 5000), (1, .ref 0), (2, .ref 42), (3, .int (nI k))] [] 54 54 1701 (lM M σ t J kr ar it mv Q) (some (.int 1)) 54 M' := by
  obtain ⟨r, rk, ik, S, b, ln, fi⟩ := σ
  have e : Ev Γ l mX4_cell [.ref 0, .int (sci Γ (k + 1)), .int (sci Γ (k + 2))] 54 (xM (yM M r kr ar ik fi b ln S it mv Q) r rk t ik S (b, ln, J) fi) (some (.int (sp_cell (r, rk, ik, S, b, ln, fi) (sci Γ (k + 1)) (sci Γ (k + 2))).1)) 54 (xF (yM M r kr ar ik fi b ln S it mv Q) t J (sp_cell (r, rk, ik, S, b, ln, fi) (sci Γ (k + 1)) (sci Γ (k + 2))).2) := x_cell 
  rw [lM_x, xF_y] at e
  have ex := e
  clear e
  have e : Ev Γ l mX5_cell [.ref 42, .int (sci Γ (k + 1)), .int (sci Γ (k + 2))] 54 (yM (xF M t J (sp_cell (r, rk, ik, S, b, ln, fi) (sci Γ (k + 1)) (sci Γ (k + 2))).2) r kr ar ik fi b ln S it mv Q) (some (.int (sp_cell (r, rk, ik, S, b, ln, fi) (sci Γ (k + 1)) (sci Γ (k + 2))).1)) 54 (yF (xF M t J (sp_cell (r, rk, ik, S, b, ln, fi) (sci Γ (k + 1)) (sci Γ (k + 2))).2) kr ar it mv Q (sp_cell (r, rk, ik, S, b, ln, fi) (sci Γ (k + 1)) (sci Γ (k + 2))).2) := y_cell 
  obtain ⟨M', kk⟩ := K (sp_cell (r, rk, ik, S, b, ln, fi) (sci Γ (k + 1)) (sci Γ (k + 2))).2 t J kr ar it mv Q (lI_kp h (i_cell h.1) kp_cell)
  exact ⟨M', lc_cell hk hN ex e lM_0 y_42 kk⟩
theorem kp_measure {σ : sS} {a1 a2 : Int32} : kp σ (sp_measure σ a1 a2).2 := by
  unfold sp_measure
  try unfold orN
  repeat' split
  all_goals exact ⟨rfl, rfl⟩
theorem lq_measure {Γ : aG} {l : Launch} {M : Nat → aC} {k : Nat} {σ : sS} {t : rT} {J : Int32 × Int32 × Int32 × Int32} {kr ar it mv : Nat → Int32} {Q : yQ} (hk : k + 6 ≤ Γ.2.2.2 6000) (hN : Γ.2.2.2 6000 ≤ 3072) (h : lI σ kr) (K : lK Γ l M k) : ∃ M' : Nat → aC, Fr Γ l kL_law 278 [(0, .ref 5000), (1, .ref 0), (2, .ref 42), (3, .int (nI k))] [] 54 54 1701 (lM M σ t J kr ar it mv Q) (some (.int 1)) 54 M' := by
  obtain ⟨r, rk, ik, S, b, ln, fi⟩ := σ
  have e : Ev Γ l mX4_measure [.ref 0, .int (sci Γ (k + 1)), .int (sci Γ (k + 2))] 54 (xM (yM M r kr ar ik fi b ln S it mv Q) r rk t ik S (b, ln, J) fi) (some (.int (sp_measure (r, rk, ik, S, b, ln, fi) (sci Γ (k + 1)) (sci Γ (k + 2))).1)) 54 (xF (yM M r kr ar ik fi b ln S it mv Q) t J (sp_measure (r, rk, ik, S, b, ln, fi) (sci Γ (k + 1)) (sci Γ (k + 2))).2) := x_measure 
  rw [lM_x, xF_y] at e
  have ex := e
  clear e
  have e : Ev Γ l mX5_measure [.ref 42, .int (sci Γ (k + 1)), .int (sci Γ (k + 2))] 54 (yM (xF M t J (sp_measure (r, rk, ik, S, b, ln, fi) (sci Γ (k + 1)) (sci Γ (k + 2))).2) r kr ar ik fi b ln S it mv Q) (some (.int (sp_measure (r, rk, ik, S, b, ln, fi) (sci Γ (k + 1)) (sci Γ (k + 2))).1)) 54 (yF (xF M t J (sp_measure (r, rk, ik, S, b, ln, fi) (sci Γ (k + 1)) (sci Γ (k + 2))).2) kr ar it mv Q (sp_measure (r, rk, ik, S, b, ln, fi) (sci Γ (k + 1)) (sci Γ (k + 2))).2) := y_measure 
  obtain ⟨M', kk⟩ := K (sp_measure (r, rk, ik, S, b, ln, fi) (sci Γ (k + 1)) (sci Γ (k + 2))).2 t J kr ar it mv Q (lI_kp h (i_measure h.1) kp_measure)
  exact ⟨M', lc_measure hk hN ex e lM_0 y_42 kk⟩
theorem kp_listed {σ : sS} {a1 : Int32} : kp σ (sp_listed σ a1).2 := by
  unfold sp_listed
  try unfold orN
  repeat' split
  all_goals exact ⟨rfl, rfl⟩
theorem lq_listed {Γ : aG} {l : Launch} {M : Nat → aC} {k : Nat} {σ : sS} {t : rT} {J : Int32 × Int32 × Int32 × Int32} {kr ar it mv : Nat → Int32} {Q : yQ} (hk : k + 6 ≤ Γ.2.2.2 6000) (hN : Γ.2.2.2 6000 ≤ 3072) (h : lI σ kr) (K : lK Γ l M k) : ∃ M' : Nat → aC, Fr Γ l kL_law 311 [(0, .ref 5000), (1, .ref 0), (2, .ref 42), (3, .int (nI k))] [] 54 54 1701 (lM M σ t J kr ar it mv Q) (some (.int 1)) 54 M' := by
  obtain ⟨r, rk, ik, S, b, ln, fi⟩ := σ
  have e : Ev Γ l mX4_listed [.ref 0, .int (sci Γ (k + 1))] 54 (xM (yM M r kr ar ik fi b ln S it mv Q) r rk t ik S (b, ln, J) fi) (some (.int (sp_listed (r, rk, ik, S, b, ln, fi) (sci Γ (k + 1))).1)) 54 (xF (yM M r kr ar ik fi b ln S it mv Q) t J (sp_listed (r, rk, ik, S, b, ln, fi) (sci Γ (k + 1))).2) := x_listed 
  rw [lM_x, xF_y] at e
  have ex := e
  clear e
  have e : Ev Γ l mX5_listed [.ref 42, .int (sci Γ (k + 1))] 54 (yM (xF M t J (sp_listed (r, rk, ik, S, b, ln, fi) (sci Γ (k + 1))).2) r kr ar ik fi b ln S it mv Q) (some (.int (sp_listed (r, rk, ik, S, b, ln, fi) (sci Γ (k + 1))).1)) 54 (yF (xF M t J (sp_listed (r, rk, ik, S, b, ln, fi) (sci Γ (k + 1))).2) kr ar it mv Q (sp_listed (r, rk, ik, S, b, ln, fi) (sci Γ (k + 1))).2) := y_listed 
  obtain ⟨M', kk⟩ := K (sp_listed (r, rk, ik, S, b, ln, fi) (sci Γ (k + 1))).2 t J kr ar it mv Q (lI_kp h (i_listed h.1) kp_listed)
  exact ⟨M', lc_listed hk hN ex e lM_0 y_42 kk⟩
theorem kp_wide {σ : sS} {a1 a2 : Int32} : kp σ (sp_wide σ a1 a2).2 := by
  unfold sp_wide
  try unfold orN
  repeat' split
  all_goals exact ⟨rfl, rfl⟩
theorem lq_wide {Γ : aG} {l : Launch} {M : Nat → aC} {k : Nat} {σ : sS} {t : rT} {J : Int32 × Int32 × Int32 × Int32} {kr ar it mv : Nat → Int32} {Q : yQ} (hk : k + 6 ≤ Γ.2.2.2 6000) (hN : Γ.2.2.2 6000 ≤ 3072) (h : lI σ kr) (K : lK Γ l M k) : ∃ M' : Nat → aC, Fr Γ l kL_law 334 [(0, .ref 5000), (1, .ref 0), (2, .ref 42), (3, .int (nI k))] [] 54 54 1701 (lM M σ t J kr ar it mv Q) (some (.int 1)) 54 M' := by
  obtain ⟨r, rk, ik, S, b, ln, fi⟩ := σ
  have e : Ev Γ l mX4_wide [.ref 0, .int (sci Γ (k + 1)), .int (sci Γ (k + 2))] 54 (xM (yM M r kr ar ik fi b ln S it mv Q) r rk t ik S (b, ln, J) fi) (some (.int (sp_wide (r, rk, ik, S, b, ln, fi) (sci Γ (k + 1)) (sci Γ (k + 2))).1)) 54 (xF (yM M r kr ar ik fi b ln S it mv Q) t J (sp_wide (r, rk, ik, S, b, ln, fi) (sci Γ (k + 1)) (sci Γ (k + 2))).2) := x_wide 
  rw [lM_x, xF_y] at e
  have ex := e
  clear e
  have e : Ev Γ l mX5_wide [.ref 42, .int (sci Γ (k + 1)), .int (sci Γ (k + 2))] 54 (yM (xF M t J (sp_wide (r, rk, ik, S, b, ln, fi) (sci Γ (k + 1)) (sci Γ (k + 2))).2) r kr ar ik fi b ln S it mv Q) (some (.int (sp_wide (r, rk, ik, S, b, ln, fi) (sci Γ (k + 1)) (sci Γ (k + 2))).1)) 54 (yF (xF M t J (sp_wide (r, rk, ik, S, b, ln, fi) (sci Γ (k + 1)) (sci Γ (k + 2))).2) kr ar it mv Q (sp_wide (r, rk, ik, S, b, ln, fi) (sci Γ (k + 1)) (sci Γ (k + 2))).2) := y_wide 
  obtain ⟨M', kk⟩ := K (sp_wide (r, rk, ik, S, b, ln, fi) (sci Γ (k + 1)) (sci Γ (k + 2))).2 t J kr ar it mv Q (lI_kp h (i_wide h.1) kp_wide)
  exact ⟨M', lc_wide hk hN ex e lM_0 y_42 kk⟩
theorem kp_guest {σ : sS} {a1 a2 : Int32} : kp σ (sp_guest σ a1 a2).2 := by
  unfold sp_guest
  try unfold orN
  repeat' split
  all_goals exact ⟨rfl, rfl⟩
theorem lq_guest {Γ : aG} {l : Launch} {M : Nat → aC} {k : Nat} {σ : sS} {t : rT} {J : Int32 × Int32 × Int32 × Int32} {kr ar it mv : Nat → Int32} {Q : yQ} (hk : k + 6 ≤ Γ.2.2.2 6000) (hN : Γ.2.2.2 6000 ≤ 3072) (h : lI σ kr) (K : lK Γ l M k) : ∃ M' : Nat → aC, Fr Γ l kL_law 367 [(0, .ref 5000), (1, .ref 0), (2, .ref 42), (3, .int (nI k))] [] 54 54 1701 (lM M σ t J kr ar it mv Q) (some (.int 1)) 54 M' := by
  obtain ⟨r, rk, ik, S, b, ln, fi⟩ := σ
  have e : Ev Γ l mX4_guest [.ref 0, .int (sci Γ (k + 1)), .int (sci Γ (k + 2))] 54 (xM (yM M r kr ar ik fi b ln S it mv Q) r rk t ik S (b, ln, J) fi) (some (.int (sp_guest (r, rk, ik, S, b, ln, fi) (sci Γ (k + 1)) (sci Γ (k + 2))).1)) 54 (xF (yM M r kr ar ik fi b ln S it mv Q) t J (sp_guest (r, rk, ik, S, b, ln, fi) (sci Γ (k + 1)) (sci Γ (k + 2))).2) := x_guest h.1.1
  rw [lM_x, xF_y] at e
  have ex := e
  clear e
  have e : Ev Γ l mX5_guest [.ref 42, .int (sci Γ (k + 1)), .int (sci Γ (k + 2))] 54 (yM (xF M t J (sp_guest (r, rk, ik, S, b, ln, fi) (sci Γ (k + 1)) (sci Γ (k + 2))).2) r kr ar ik fi b ln S it mv Q) (some (.int (sp_guest (r, rk, ik, S, b, ln, fi) (sci Γ (k + 1)) (sci Γ (k + 2))).1)) 54 (yF (xF M t J (sp_guest (r, rk, ik, S, b, ln, fi) (sci Γ (k + 1)) (sci Γ (k + 2))).2) kr ar it mv Q (sp_guest (r, rk, ik, S, b, ln, fi) (sci Γ (k + 1)) (sci Γ (k + 2))).2) := y_guest h.1.1
  obtain ⟨M', kk⟩ := K (sp_guest (r, rk, ik, S, b, ln, fi) (sci Γ (k + 1)) (sci Γ (k + 2))).2 t J kr ar it mv Q (lI_kp h (i_guest h.1) kp_guest)
  exact ⟨M', lc_guest hk hN ex e lM_0 y_42 kk⟩
theorem kp_of {σ : sS} {a1 a2 : Int32} : kp σ (sp_of σ a1 a2).2 := by
  unfold sp_of
  try unfold orN
  repeat' split
  all_goals exact ⟨rfl, rfl⟩
theorem lq_of {Γ : aG} {l : Launch} {M : Nat → aC} {k : Nat} {σ : sS} {t : rT} {J : Int32 × Int32 × Int32 × Int32} {kr ar it mv : Nat → Int32} {Q : yQ} (hk : k + 6 ≤ Γ.2.2.2 6000) (hN : Γ.2.2.2 6000 ≤ 3072) (h : lI σ kr) (K : lK Γ l M k) : ∃ M' : Nat → aC, Fr Γ l kL_law 400 [(0, .ref 5000), (1, .ref 0), (2, .ref 42), (3, .int (nI k))] [] 54 54 1701 (lM M σ t J kr ar it mv Q) (some (.int 1)) 54 M' := by
  obtain ⟨r, rk, ik, S, b, ln, fi⟩ := σ
  have e : Ev Γ l mX4_of [.ref 0, .int (sci Γ (k + 1)), .int (sci Γ (k + 2))] 54 (xM (yM M r kr ar ik fi b ln S it mv Q) r rk t ik S (b, ln, J) fi) (some (.int (sp_of (r, rk, ik, S, b, ln, fi) (sci Γ (k + 1)) (sci Γ (k + 2))).1)) 54 (xF (yM M r kr ar ik fi b ln S it mv Q) t J (sp_of (r, rk, ik, S, b, ln, fi) (sci Γ (k + 1)) (sci Γ (k + 2))).2) := x_of h.1.1
  rw [lM_x, xF_y] at e
  have ex := e
  clear e
  have e : Ev Γ l mX5_of [.ref 42, .int (sci Γ (k + 1)), .int (sci Γ (k + 2))] 54 (yM (xF M t J (sp_of (r, rk, ik, S, b, ln, fi) (sci Γ (k + 1)) (sci Γ (k + 2))).2) r kr ar ik fi b ln S it mv Q) (some (.int (sp_of (r, rk, ik, S, b, ln, fi) (sci Γ (k + 1)) (sci Γ (k + 2))).1)) 54 (yF (xF M t J (sp_of (r, rk, ik, S, b, ln, fi) (sci Γ (k + 1)) (sci Γ (k + 2))).2) kr ar it mv Q (sp_of (r, rk, ik, S, b, ln, fi) (sci Γ (k + 1)) (sci Γ (k + 2))).2) := y_of h.1.1
  obtain ⟨M', kk⟩ := K (sp_of (r, rk, ik, S, b, ln, fi) (sci Γ (k + 1)) (sci Γ (k + 2))).2 t J kr ar it mv Q (lI_kp h (i_of h.1) kp_of)
  exact ⟨M', lc_of hk hN ex e lM_0 y_42 kk⟩
theorem kp_change {σ : sS} {a1 a2 a3 : Int32} : kp σ (sp_change σ a1 a2 a3).2 := by
  unfold sp_change
  try unfold orN
  repeat' split
  all_goals exact ⟨rfl, rfl⟩
theorem lq_change {Γ : aG} {l : Launch} {M : Nat → aC} {k : Nat} {σ : sS} {t : rT} {J : Int32 × Int32 × Int32 × Int32} {kr ar it mv : Nat → Int32} {Q : yQ} (hk : k + 6 ≤ Γ.2.2.2 6000) (hN : Γ.2.2.2 6000 ≤ 3072) (h : lI σ kr) (K : lK Γ l M k) : ∃ M' : Nat → aC, Fr Γ l kL_law 433 [(0, .ref 5000), (1, .ref 0), (2, .ref 42), (3, .int (nI k))] [] 54 54 1701 (lM M σ t J kr ar it mv Q) (some (.int 1)) 54 M' := by
  obtain ⟨r, rk, ik, S, b, ln, fi⟩ := σ
  have e : Ev Γ l mX4_change [.ref 0, .int (sci Γ (k + 1)), .int (sci Γ (k + 2)), .int (sci Γ (k + 3))] 54 (xM (yM M r kr ar ik fi b ln S it mv Q) r rk t ik S (b, ln, J) fi) (some (.int (sp_change (r, rk, ik, S, b, ln, fi) (sci Γ (k + 1)) (sci Γ (k + 2)) (sci Γ (k + 3))).1)) 54 (xF (yM M r kr ar ik fi b ln S it mv Q) t J (sp_change (r, rk, ik, S, b, ln, fi) (sci Γ (k + 1)) (sci Γ (k + 2)) (sci Γ (k + 3))).2) := x_change h.1.1
  rw [lM_x, xF_y] at e
  have ex := e
  clear e
  have e : Ev Γ l mX5_change [.ref 42, .int (sci Γ (k + 1)), .int (sci Γ (k + 2)), .int (sci Γ (k + 3))] 54 (yM (xF M t J (sp_change (r, rk, ik, S, b, ln, fi) (sci Γ (k + 1)) (sci Γ (k + 2)) (sci Γ (k + 3))).2) r kr ar ik fi b ln S it mv Q) (some (.int (sp_change (r, rk, ik, S, b, ln, fi) (sci Γ (k + 1)) (sci Γ (k + 2)) (sci Γ (k + 3))).1)) 54 (yF (xF M t J (sp_change (r, rk, ik, S, b, ln, fi) (sci Γ (k + 1)) (sci Γ (k + 2)) (sci Γ (k + 3))).2) kr ar it mv Q (sp_change (r, rk, ik, S, b, ln, fi) (sci Γ (k + 1)) (sci Γ (k + 2)) (sci Γ (k + 3))).2) := y_change h.1.1
  obtain ⟨M', kk⟩ := K (sp_change (r, rk, ik, S, b, ln, fi) (sci Γ (k + 1)) (sci Γ (k + 2)) (sci Γ (k + 3))).2 t J kr ar it mv Q (lI_kp h (i_change h.1) kp_change)
  exact ⟨M', lc_change hk hN ex e lM_0 y_42 kk⟩
theorem kp_reach {σ : sS} {a1 a2 : Int32} : kp σ (sp_reach σ a1 a2).2 := by
  unfold sp_reach
  try unfold orN
  repeat' split
  all_goals exact ⟨rfl, rfl⟩
theorem lq_reach {Γ : aG} {l : Launch} {M : Nat → aC} {k : Nat} {σ : sS} {t : rT} {J : Int32 × Int32 × Int32 × Int32} {kr ar it mv : Nat → Int32} {Q : yQ} (hk : k + 6 ≤ Γ.2.2.2 6000) (hN : Γ.2.2.2 6000 ≤ 3072) (h : lI σ kr) (K : lK Γ l M k) : ∃ M' : Nat → aC, Fr Γ l kL_law 476 [(0, .ref 5000), (1, .ref 0), (2, .ref 42), (3, .int (nI k))] [] 54 54 1701 (lM M σ t J kr ar it mv Q) (some (.int 1)) 54 M' := by
  obtain ⟨r, rk, ik, S, b, ln, fi⟩ := σ
  have e : Ev Γ l mX4_reach [.ref 0, .int (sci Γ (k + 1)), .int (sci Γ (k + 2))] 54 (xM (yM M r kr ar ik fi b ln S it mv Q) r rk t ik S (b, ln, J) fi) (some (.int (sp_reach (r, rk, ik, S, b, ln, fi) (sci Γ (k + 1)) (sci Γ (k + 2))).1)) 54 (xF (yM M r kr ar ik fi b ln S it mv Q) t J (sp_reach (r, rk, ik, S, b, ln, fi) (sci Γ (k + 1)) (sci Γ (k + 2))).2) := x_reach h.1.1
  rw [lM_x, xF_y] at e
  have ex := e
  clear e
  have e : Ev Γ l mX5_reach [.ref 42, .int (sci Γ (k + 1)), .int (sci Γ (k + 2))] 54 (yM (xF M t J (sp_reach (r, rk, ik, S, b, ln, fi) (sci Γ (k + 1)) (sci Γ (k + 2))).2) r kr ar ik fi b ln S it mv Q) (some (.int (sp_reach (r, rk, ik, S, b, ln, fi) (sci Γ (k + 1)) (sci Γ (k + 2))).1)) 54 (yF (xF M t J (sp_reach (r, rk, ik, S, b, ln, fi) (sci Γ (k + 1)) (sci Γ (k + 2))).2) kr ar it mv Q (sp_reach (r, rk, ik, S, b, ln, fi) (sci Γ (k + 1)) (sci Γ (k + 2))).2) := y_reach h.1.1
  obtain ⟨M', kk⟩ := K (sp_reach (r, rk, ik, S, b, ln, fi) (sci Γ (k + 1)) (sci Γ (k + 2))).2 t J kr ar it mv Q (lI_kp h (i_reach h.1) kp_reach)
  exact ⟨M', lc_reach hk hN ex e lM_0 y_42 kk⟩
theorem kp_go {σ : sS} {a1 : Int32} : kp σ (sp_go σ a1).2 := by
  unfold sp_go
  try unfold orN
  repeat' split
  all_goals exact ⟨rfl, rfl⟩
theorem lq_go {Γ : aG} {l : Launch} {M : Nat → aC} {k : Nat} {σ : sS} {t : rT} {J : Int32 × Int32 × Int32 × Int32} {kr ar it mv : Nat → Int32} {Q : yQ} (hk : k + 6 ≤ Γ.2.2.2 6000) (hN : Γ.2.2.2 6000 ≤ 3072) (h : lI σ kr) (K : lK Γ l M k) : ∃ M' : Nat → aC, Fr Γ l kL_law 509 [(0, .ref 5000), (1, .ref 0), (2, .ref 42), (3, .int (nI k))] [] 54 54 1701 (lM M σ t J kr ar it mv Q) (some (.int 1)) 54 M' := by
  obtain ⟨r, rk, ik, S, b, ln, fi⟩ := σ
  have e : Ev Γ l mX4_go [.ref 0, .int (sci Γ (k + 1))] 54 (xM (yM M r kr ar ik fi b ln S it mv Q) r rk t ik S (b, ln, J) fi) (some (.int (sp_go (r, rk, ik, S, b, ln, fi) (sci Γ (k + 1))).1)) 54 (xF (yM M r kr ar ik fi b ln S it mv Q) t J (sp_go (r, rk, ik, S, b, ln, fi) (sci Γ (k + 1))).2) := x_go h.1.1
  rw [lM_x, xF_y] at e
  have ex := e
  clear e
  have e : Ev Γ l mX5_go [.ref 42, .int (sci Γ (k + 1))] 54 (yM (xF M t J (sp_go (r, rk, ik, S, b, ln, fi) (sci Γ (k + 1))).2) r kr ar ik fi b ln S it mv Q) (some (.int (sp_go (r, rk, ik, S, b, ln, fi) (sci Γ (k + 1))).1)) 54 (yF (xF M t J (sp_go (r, rk, ik, S, b, ln, fi) (sci Γ (k + 1))).2) kr ar it mv Q (sp_go (r, rk, ik, S, b, ln, fi) (sci Γ (k + 1))).2) := y_go h.1.1
  obtain ⟨M', kk⟩ := K (sp_go (r, rk, ik, S, b, ln, fi) (sci Γ (k + 1))).2 t J kr ar it mv Q (lI_kp h (i_go h.1) kp_go)
  exact ⟨M', lc_go hk hN ex e lM_0 y_42 kk⟩
theorem kp_now {σ : sS} {a1 : Int32} : kp σ (sp_now σ a1).2 := by
  unfold sp_now
  try unfold orN
  repeat' split
  all_goals exact ⟨rfl, rfl⟩
theorem lq_now {Γ : aG} {l : Launch} {M : Nat → aC} {k : Nat} {σ : sS} {t : rT} {J : Int32 × Int32 × Int32 × Int32} {kr ar it mv : Nat → Int32} {Q : yQ} (hk : k + 6 ≤ Γ.2.2.2 6000) (hN : Γ.2.2.2 6000 ≤ 3072) (h : lI σ kr) (K : lK Γ l M k) : ∃ M' : Nat → aC, Fr Γ l kL_law 532 [(0, .ref 5000), (1, .ref 0), (2, .ref 42), (3, .int (nI k))] [] 54 54 1701 (lM M σ t J kr ar it mv Q) (some (.int 1)) 54 M' := by
  obtain ⟨r, rk, ik, S, b, ln, fi⟩ := σ
  have e : Ev Γ l mX4_now [.ref 0, .int (sci Γ (k + 1))] 54 (xM (yM M r kr ar ik fi b ln S it mv Q) r rk t ik S (b, ln, J) fi) (some (.int (sp_now (r, rk, ik, S, b, ln, fi) (sci Γ (k + 1))).1)) 54 (xF (yM M r kr ar ik fi b ln S it mv Q) t J (sp_now (r, rk, ik, S, b, ln, fi) (sci Γ (k + 1))).2) := x_now h.1.1
  rw [lM_x, xF_y] at e
  have ex := e
  clear e
  have e : Ev Γ l mX5_now [.ref 42, .int (sci Γ (k + 1))] 54 (yM (xF M t J (sp_now (r, rk, ik, S, b, ln, fi) (sci Γ (k + 1))).2) r kr ar ik fi b ln S it mv Q) (some (.int (sp_now (r, rk, ik, S, b, ln, fi) (sci Γ (k + 1))).1)) 54 (yF (xF M t J (sp_now (r, rk, ik, S, b, ln, fi) (sci Γ (k + 1))).2) kr ar it mv Q (sp_now (r, rk, ik, S, b, ln, fi) (sci Γ (k + 1))).2) := y_now h.1.1
  obtain ⟨M', kk⟩ := K (sp_now (r, rk, ik, S, b, ln, fi) (sci Γ (k + 1))).2 t J kr ar it mv Q (lI_kp h (i_now h.1) kp_now)
  exact ⟨M', lc_now hk hN ex e lM_0 y_42 kk⟩
theorem kp_ahead {σ : sS} {a1 a2 a3 : Int32} : kp σ (sp_ahead σ a1 a2 a3).2 := by
  unfold sp_ahead
  try unfold orN
  repeat' split
  all_goals exact ⟨rfl, rfl⟩
theorem lq_ahead {Γ : aG} {l : Launch} {M : Nat → aC} {k : Nat} {σ : sS} {t : rT} {J : Int32 × Int32 × Int32 × Int32} {kr ar it mv : Nat → Int32} {Q : yQ} (hk : k + 6 ≤ Γ.2.2.2 6000) (hN : Γ.2.2.2 6000 ≤ 3072) (h : lI σ kr) (K : lK Γ l M k) : ∃ M' : Nat → aC, Fr Γ l kL_law 555 [(0, .ref 5000), (1, .ref 0), (2, .ref 42), (3, .int (nI k))] [] 54 54 1701 (lM M σ t J kr ar it mv Q) (some (.int 1)) 54 M' := by
  obtain ⟨r, rk, ik, S, b, ln, fi⟩ := σ
  have e : Ev Γ l mX4_ahead [.ref 0, .int (sci Γ (k + 1)), .int (sci Γ (k + 2)), .int (sci Γ (k + 3))] 54 (xM (yM M r kr ar ik fi b ln S it mv Q) r rk t ik S (b, ln, J) fi) (some (.int (sp_ahead (r, rk, ik, S, b, ln, fi) (sci Γ (k + 1)) (sci Γ (k + 2)) (sci Γ (k + 3))).1)) 54 (xF (yM M r kr ar ik fi b ln S it mv Q) (if sG (r, rk, ik, S, b, ln, fi) (sci Γ (k + 1)) = true ∧ ((sci Γ (k + 2)) = 1 ∨ (sci Γ (k + 2)) = 4 ∨ (sci Γ (k + 2)) = 6) ∧ wi (sci Γ (k + 3)) 0 100 = true then s_hours (sci Γ (k + 3)).toNatClampNeg r else t) J (sp_ahead (r, rk, ik, S, b, ln, fi) (sci Γ (k + 1)) (sci Γ (k + 2)) (sci Γ (k + 3))).2) := x_ahead h.1.1
  rw [lM_x, xF_y] at e
  have ex := e
  clear e
  have e : Ev Γ l mX5_ahead [.ref 42, .int (sci Γ (k + 1)), .int (sci Γ (k + 2)), .int (sci Γ (k + 3))] 54 (yM (xF M (if sG (r, rk, ik, S, b, ln, fi) (sci Γ (k + 1)) = true ∧ ((sci Γ (k + 2)) = 1 ∨ (sci Γ (k + 2)) = 4 ∨ (sci Γ (k + 2)) = 6) ∧ wi (sci Γ (k + 3)) 0 100 = true then s_hours (sci Γ (k + 3)).toNatClampNeg r else t) J (sp_ahead (r, rk, ik, S, b, ln, fi) (sci Γ (k + 1)) (sci Γ (k + 2)) (sci Γ (k + 3))).2) r kr ar ik fi b ln S it mv Q) (some (.int (sp_ahead (r, rk, ik, S, b, ln, fi) (sci Γ (k + 1)) (sci Γ (k + 2)) (sci Γ (k + 3))).1)) 54 (yF (xF M (if sG (r, rk, ik, S, b, ln, fi) (sci Γ (k + 1)) = true ∧ ((sci Γ (k + 2)) = 1 ∨ (sci Γ (k + 2)) = 4 ∨ (sci Γ (k + 2)) = 6) ∧ wi (sci Γ (k + 3)) 0 100 = true then s_hours (sci Γ (k + 3)).toNatClampNeg r else t) J (sp_ahead (r, rk, ik, S, b, ln, fi) (sci Γ (k + 1)) (sci Γ (k + 2)) (sci Γ (k + 3))).2) kr (if sG (r, rk, ik, S, b, ln, fi) (sci Γ (k + 1)) = true ∧ ((sci Γ (k + 2)) = 1 ∨ (sci Γ (k + 2)) = 4 ∨ (sci Γ (k + 2)) = 6) ∧ wi (sci Γ (k + 3)) 0 100 = true then row r else ar) it mv Q (sp_ahead (r, rk, ik, S, b, ln, fi) (sci Γ (k + 1)) (sci Γ (k + 2)) (sci Γ (k + 3))).2) := y_ahead h.1.1
  obtain ⟨M', kk⟩ := K (sp_ahead (r, rk, ik, S, b, ln, fi) (sci Γ (k + 1)) (sci Γ (k + 2)) (sci Γ (k + 3))).2 (if sG (r, rk, ik, S, b, ln, fi) (sci Γ (k + 1)) = true ∧ ((sci Γ (k + 2)) = 1 ∨ (sci Γ (k + 2)) = 4 ∨ (sci Γ (k + 2)) = 6) ∧ wi (sci Γ (k + 3)) 0 100 = true then s_hours (sci Γ (k + 3)).toNatClampNeg r else t) J kr (if sG (r, rk, ik, S, b, ln, fi) (sci Γ (k + 1)) = true ∧ ((sci Γ (k + 2)) = 1 ∨ (sci Γ (k + 2)) = 4 ∨ (sci Γ (k + 2)) = 6) ∧ wi (sci Γ (k + 3)) 0 100 = true then row r else ar) it mv Q (lI_kp h (i_ahead h.1) kp_ahead)
  exact ⟨M', lc_ahead hk hN ex e lM_0 y_42 kk⟩
theorem kp_strain {σ : sS} {a1 : Int32} : kp σ (sp_strain σ a1).2 := by
  unfold sp_strain
  try unfold orN
  repeat' split
  all_goals exact ⟨rfl, rfl⟩
theorem lq_strain {Γ : aG} {l : Launch} {M : Nat → aC} {k : Nat} {σ : sS} {t : rT} {J : Int32 × Int32 × Int32 × Int32} {kr ar it mv : Nat → Int32} {Q : yQ} (hk : k + 6 ≤ Γ.2.2.2 6000) (hN : Γ.2.2.2 6000 ≤ 3072) (h : lI σ kr) (K : lK Γ l M k) : ∃ M' : Nat → aC, Fr Γ l kL_law 598 [(0, .ref 5000), (1, .ref 0), (2, .ref 42), (3, .int (nI k))] [] 54 54 1701 (lM M σ t J kr ar it mv Q) (some (.int 1)) 54 M' := by
  obtain ⟨r, rk, ik, S, b, ln, fi⟩ := σ
  have e : Ev Γ l mX4_strain [.ref 0, .int (sci Γ (k + 1))] 54 (xM (yM M r kr ar ik fi b ln S it mv Q) r rk t ik S (b, ln, J) fi) (some (.int (sp_strain (r, rk, ik, S, b, ln, fi) (sci Γ (k + 1))).1)) 54 (xF (yM M r kr ar ik fi b ln S it mv Q) (if wi (sci Γ (k + 1)) 0 100 = true then s_hours (sci Γ (k + 1)).toNatClampNeg r else t) J (sp_strain (r, rk, ik, S, b, ln, fi) (sci Γ (k + 1))).2) := x_strain h.1.1
  rw [lM_x, xF_y] at e
  have ex := e
  clear e
  have e : Ev Γ l mX5_strain [.ref 42, .int (sci Γ (k + 1))] 54 (yM (xF M (if wi (sci Γ (k + 1)) 0 100 = true then s_hours (sci Γ (k + 1)).toNatClampNeg r else t) J (sp_strain (r, rk, ik, S, b, ln, fi) (sci Γ (k + 1))).2) r kr ar ik fi b ln S it mv Q) (some (.int (sp_strain (r, rk, ik, S, b, ln, fi) (sci Γ (k + 1))).1)) 54 (yF (xF M (if wi (sci Γ (k + 1)) 0 100 = true then s_hours (sci Γ (k + 1)).toNatClampNeg r else t) J (sp_strain (r, rk, ik, S, b, ln, fi) (sci Γ (k + 1))).2) kr (if wi (sci Γ (k + 1)) 0 100 = true then row r else ar) it mv Q (sp_strain (r, rk, ik, S, b, ln, fi) (sci Γ (k + 1))).2) := y_strain h.1.1
  obtain ⟨M', kk⟩ := K (sp_strain (r, rk, ik, S, b, ln, fi) (sci Γ (k + 1))).2 (if wi (sci Γ (k + 1)) 0 100 = true then s_hours (sci Γ (k + 1)).toNatClampNeg r else t) J kr (if wi (sci Γ (k + 1)) 0 100 = true then row r else ar) it mv Q (lI_kp h (i_strain h.1) kp_strain)
  exact ⟨M', lc_strain hk hN ex e lM_0 y_42 kk⟩
theorem kp_snaps {σ : sS} : kp σ (sp_snaps σ).2 := by
  unfold sp_snaps
  try unfold orN
  repeat' split
  all_goals exact ⟨rfl, rfl⟩
theorem lq_snaps {Γ : aG} {l : Launch} {M : Nat → aC} {k : Nat} {σ : sS} {t : rT} {J : Int32 × Int32 × Int32 × Int32} {kr ar it mv : Nat → Int32} {Q : yQ} (hk : k + 6 ≤ Γ.2.2.2 6000) (hN : Γ.2.2.2 6000 ≤ 3072) (h : lI σ kr) (K : lK Γ l M k) : ∃ M' : Nat → aC, Fr Γ l kL_law 621 [(0, .ref 5000), (1, .ref 0), (2, .ref 42), (3, .int (nI k))] [] 54 54 1701 (lM M σ t J kr ar it mv Q) (some (.int 1)) 54 M' := by
  obtain ⟨r, rk, ik, S, b, ln, fi⟩ := σ
  obtain ⟨t', e⟩ : ∃ (t' : rT), Ev Γ l mX4_snaps [.ref 0] 54 (xM (yM M r kr ar ik fi b ln S it mv Q) r rk t ik S (b, ln, J) fi) (some (.int (sp_snaps (r, rk, ik, S, b, ln, fi)).1)) 54 (xF (yM M r kr ar ik fi b ln S it mv Q) t' J (sp_snaps (r, rk, ik, S, b, ln, fi)).2) := x_snaps h.1.1
  rw [lM_x, xF_y] at e
  have ex := e
  clear e
  obtain ⟨ar', e⟩ : ∃ (ar' : Nat → Int32), Ev Γ l mX5_snaps [.ref 42] 54 (yM (xF M t' J (sp_snaps (r, rk, ik, S, b, ln, fi)).2) r kr ar ik fi b ln S it mv Q) (some (.int (sp_snaps (r, rk, ik, S, b, ln, fi)).1)) 54 (yF (xF M t' J (sp_snaps (r, rk, ik, S, b, ln, fi)).2) kr ar' it mv Q (sp_snaps (r, rk, ik, S, b, ln, fi)).2) := y_snaps h.1.1
  obtain ⟨M', kk⟩ := K (sp_snaps (r, rk, ik, S, b, ln, fi)).2 t' J kr ar' it mv Q (lI_kp h (i_snaps h.1) kp_snaps)
  exact ⟨M', lc_snaps hk hN ex e lM_0 y_42 kk⟩
theorem kp_comes {σ : sS} {a1 a2 : Int32} : kp σ (sp_comes σ a1 a2).2 := by
  unfold sp_comes
  try unfold orN
  repeat' split
  all_goals exact ⟨rfl, rfl⟩
theorem lq_comes {Γ : aG} {l : Launch} {M : Nat → aC} {k : Nat} {σ : sS} {t : rT} {J : Int32 × Int32 × Int32 × Int32} {kr ar it mv : Nat → Int32} {Q : yQ} (hk : k + 6 ≤ Γ.2.2.2 6000) (hN : Γ.2.2.2 6000 ≤ 3072) (h : lI σ kr) (K : lK Γ l M k) : ∃ M' : Nat → aC, Fr Γ l kL_law 634 [(0, .ref 5000), (1, .ref 0), (2, .ref 42), (3, .int (nI k))] [] 54 54 1701 (lM M σ t J kr ar it mv Q) (some (.int 1)) 54 M' := by
  obtain ⟨r, rk, ik, S, b, ln, fi⟩ := σ
  obtain ⟨t', e⟩ : ∃ (t' : rT), Ev Γ l mX4_comes [.ref 0, .int (sci Γ (k + 1)), .int (sci Γ (k + 2))] 54 (xM (yM M r kr ar ik fi b ln S it mv Q) r rk t ik S (b, ln, J) fi) (some (.int (sp_comes (r, rk, ik, S, b, ln, fi) (sci Γ (k + 1)) (sci Γ (k + 2))).1)) 54 (xF (yM M r kr ar ik fi b ln S it mv Q) t' J (sp_comes (r, rk, ik, S, b, ln, fi) (sci Γ (k + 1)) (sci Γ (k + 2))).2) := x_comes h.1.1
  rw [lM_x, xF_y] at e
  have ex := e
  clear e
  obtain ⟨ar', e⟩ : ∃ (ar' : Nat → Int32), Ev Γ l mX5_comes [.ref 42, .int (sci Γ (k + 1)), .int (sci Γ (k + 2))] 54 (yM (xF M t' J (sp_comes (r, rk, ik, S, b, ln, fi) (sci Γ (k + 1)) (sci Γ (k + 2))).2) r kr ar ik fi b ln S it mv Q) (some (.int (sp_comes (r, rk, ik, S, b, ln, fi) (sci Γ (k + 1)) (sci Γ (k + 2))).1)) 54 (yF (xF M t' J (sp_comes (r, rk, ik, S, b, ln, fi) (sci Γ (k + 1)) (sci Γ (k + 2))).2) kr ar' it mv Q (sp_comes (r, rk, ik, S, b, ln, fi) (sci Γ (k + 1)) (sci Γ (k + 2))).2) := y_comes h.1.1
  obtain ⟨M', kk⟩ := K (sp_comes (r, rk, ik, S, b, ln, fi) (sci Γ (k + 1)) (sci Γ (k + 2))).2 t' J kr ar' it mv Q (lI_kp h (i_comes h.1) kp_comes)
  exact ⟨M', lc_comes hk hN ex e lM_0 y_42 kk⟩
theorem kp_stuck {σ : sS} {a1 a2 : Int32} : kp σ (sp_stuck σ a1 a2).2 := by
  unfold sp_stuck
  try unfold orN
  repeat' split
  all_goals exact ⟨rfl, rfl⟩
theorem lq_stuck {Γ : aG} {l : Launch} {M : Nat → aC} {k : Nat} {σ : sS} {t : rT} {J : Int32 × Int32 × Int32 × Int32} {kr ar it mv : Nat → Int32} {Q : yQ} (hk : k + 6 ≤ Γ.2.2.2 6000) (hN : Γ.2.2.2 6000 ≤ 3072) (h : lI σ kr) (K : lK Γ l M k) : ∃ M' : Nat → aC, Fr Γ l kL_law 667 [(0, .ref 5000), (1, .ref 0), (2, .ref 42), (3, .int (nI k))] [] 54 54 1701 (lM M σ t J kr ar it mv Q) (some (.int 1)) 54 M' := by
  obtain ⟨r, rk, ik, S, b, ln, fi⟩ := σ
  obtain ⟨t', e⟩ : ∃ (t' : rT), Ev Γ l mX4_stuck [.ref 0, .int (sci Γ (k + 1)), .int (sci Γ (k + 2))] 54 (xM (yM M r kr ar ik fi b ln S it mv Q) r rk t ik S (b, ln, J) fi) (some (.int (sp_stuck (r, rk, ik, S, b, ln, fi) (sci Γ (k + 1)) (sci Γ (k + 2))).1)) 54 (xF (yM M r kr ar ik fi b ln S it mv Q) t' J (sp_stuck (r, rk, ik, S, b, ln, fi) (sci Γ (k + 1)) (sci Γ (k + 2))).2) := x_stuck h.1.1
  rw [lM_x, xF_y] at e
  have ex := e
  clear e
  obtain ⟨ar', e⟩ : ∃ (ar' : Nat → Int32), Ev Γ l mX5_stuck [.ref 42, .int (sci Γ (k + 1)), .int (sci Γ (k + 2))] 54 (yM (xF M t' J (sp_stuck (r, rk, ik, S, b, ln, fi) (sci Γ (k + 1)) (sci Γ (k + 2))).2) r kr ar ik fi b ln S it mv Q) (some (.int (sp_stuck (r, rk, ik, S, b, ln, fi) (sci Γ (k + 1)) (sci Γ (k + 2))).1)) 54 (yF (xF M t' J (sp_stuck (r, rk, ik, S, b, ln, fi) (sci Γ (k + 1)) (sci Γ (k + 2))).2) kr ar' it mv Q (sp_stuck (r, rk, ik, S, b, ln, fi) (sci Γ (k + 1)) (sci Γ (k + 2))).2) := y_stuck h.1.1
  obtain ⟨M', kk⟩ := K (sp_stuck (r, rk, ik, S, b, ln, fi) (sci Γ (k + 1)) (sci Γ (k + 2))).2 t' J kr ar' it mv Q (lI_kp h (i_stuck h.1) kp_stuck)
  exact ⟨M', lc_stuck hk hN ex e lM_0 y_42 kk⟩
theorem kp_tight {σ : sS} {a1 a2 : Int32} : kp σ (sp_tight σ a1 a2).2 := by
  unfold sp_tight
  try unfold orN
  repeat' split
  all_goals exact ⟨rfl, rfl⟩
theorem lq_tight {Γ : aG} {l : Launch} {M : Nat → aC} {k : Nat} {σ : sS} {t : rT} {J : Int32 × Int32 × Int32 × Int32} {kr ar it mv : Nat → Int32} {Q : yQ} (hk : k + 6 ≤ Γ.2.2.2 6000) (hN : Γ.2.2.2 6000 ≤ 3072) (h : lI σ kr) (K : lK Γ l M k) : ∃ M' : Nat → aC, Fr Γ l kL_law 700 [(0, .ref 5000), (1, .ref 0), (2, .ref 42), (3, .int (nI k))] [] 54 54 1701 (lM M σ t J kr ar it mv Q) (some (.int 1)) 54 M' := by
  obtain ⟨r, rk, ik, S, b, ln, fi⟩ := σ
  obtain ⟨t', e⟩ : ∃ (t' : rT), Ev Γ l mX4_tight [.ref 0, .int (sci Γ (k + 1)), .int (sci Γ (k + 2))] 54 (xM (yM M r kr ar ik fi b ln S it mv Q) r rk t ik S (b, ln, J) fi) (some (.int (sp_tight (r, rk, ik, S, b, ln, fi) (sci Γ (k + 1)) (sci Γ (k + 2))).1)) 54 (xF (yM M r kr ar ik fi b ln S it mv Q) t' J (sp_tight (r, rk, ik, S, b, ln, fi) (sci Γ (k + 1)) (sci Γ (k + 2))).2) := x_tight h.1.1
  rw [lM_x, xF_y] at e
  have ex := e
  clear e
  obtain ⟨ar', e⟩ : ∃ (ar' : Nat → Int32), Ev Γ l mX5_tight [.ref 42, .int (sci Γ (k + 1)), .int (sci Γ (k + 2))] 54 (yM (xF M t' J (sp_tight (r, rk, ik, S, b, ln, fi) (sci Γ (k + 1)) (sci Γ (k + 2))).2) r kr ar ik fi b ln S it mv Q) (some (.int (sp_tight (r, rk, ik, S, b, ln, fi) (sci Γ (k + 1)) (sci Γ (k + 2))).1)) 54 (yF (xF M t' J (sp_tight (r, rk, ik, S, b, ln, fi) (sci Γ (k + 1)) (sci Γ (k + 2))).2) kr ar' it mv Q (sp_tight (r, rk, ik, S, b, ln, fi) (sci Γ (k + 1)) (sci Γ (k + 2))).2) := y_tight h.1.1
  obtain ⟨M', kk⟩ := K (sp_tight (r, rk, ik, S, b, ln, fi) (sci Γ (k + 1)) (sci Γ (k + 2))).2 t' J kr ar' it mv Q (lI_kp h (i_tight h.1) kp_tight)
  exact ⟨M', lc_tight hk hN ex e lM_0 y_42 kk⟩
theorem kp_measureFor {σ : sS} {a1 a2 : Int32} : kp σ (sp_measureFor σ a1 a2).2 := by
  unfold sp_measureFor
  try unfold orN
  repeat' split
  all_goals exact ⟨rfl, rfl⟩
theorem lq_measureFor {Γ : aG} {l : Launch} {M : Nat → aC} {k : Nat} {σ : sS} {t : rT} {J : Int32 × Int32 × Int32 × Int32} {kr ar it mv : Nat → Int32} {Q : yQ} (hk : k + 6 ≤ Γ.2.2.2 6000) (hN : Γ.2.2.2 6000 ≤ 3072) (h : lI σ kr) (K : lK Γ l M k) : ∃ M' : Nat → aC, Fr Γ l kL_law 733 [(0, .ref 5000), (1, .ref 0), (2, .ref 42), (3, .int (nI k))] [] 54 54 1701 (lM M σ t J kr ar it mv Q) (some (.int 1)) 54 M' := by
  obtain ⟨r, rk, ik, S, b, ln, fi⟩ := σ
  obtain ⟨t', e⟩ : ∃ (t' : rT), Ev Γ l mX4_measureFor [.ref 0, .int (sci Γ (k + 1)), .int (sci Γ (k + 2))] 54 (xM (yM M r kr ar ik fi b ln S it mv Q) r rk t ik S (b, ln, J) fi) (some (.int (sp_measureFor (r, rk, ik, S, b, ln, fi) (sci Γ (k + 1)) (sci Γ (k + 2))).1)) 54 (xF (yM M r kr ar ik fi b ln S it mv Q) t' J (sp_measureFor (r, rk, ik, S, b, ln, fi) (sci Γ (k + 1)) (sci Γ (k + 2))).2) := x_measureFor h.1.1
  rw [lM_x, xF_y] at e
  have ex := e
  clear e
  obtain ⟨ar', e⟩ : ∃ (ar' : Nat → Int32), Ev Γ l mX5_measureFor [.ref 42, .int (sci Γ (k + 1)), .int (sci Γ (k + 2))] 54 (yM (xF M t' J (sp_measureFor (r, rk, ik, S, b, ln, fi) (sci Γ (k + 1)) (sci Γ (k + 2))).2) r kr ar ik fi b ln S it mv Q) (some (.int (sp_measureFor (r, rk, ik, S, b, ln, fi) (sci Γ (k + 1)) (sci Γ (k + 2))).1)) 54 (yF (xF M t' J (sp_measureFor (r, rk, ik, S, b, ln, fi) (sci Γ (k + 1)) (sci Γ (k + 2))).2) kr ar' it mv Q (sp_measureFor (r, rk, ik, S, b, ln, fi) (sci Γ (k + 1)) (sci Γ (k + 2))).2) := y_measureFor h.1.1
  obtain ⟨M', kk⟩ := K (sp_measureFor (r, rk, ik, S, b, ln, fi) (sci Γ (k + 1)) (sci Γ (k + 2))).2 t' J kr ar' it mv Q (lI_kp h (i_measureFor h.1) kp_measureFor)
  exact ⟨M', lc_measureFor hk hN ex e lM_0 y_42 kk⟩
theorem kp_kindFor {σ : sS} {a1 a2 : Int32} : kp σ (sp_kindFor σ a1 a2).2 := by
  unfold sp_kindFor
  try unfold orN
  repeat' split
  all_goals exact ⟨rfl, rfl⟩
theorem lq_kindFor {Γ : aG} {l : Launch} {M : Nat → aC} {k : Nat} {σ : sS} {t : rT} {J : Int32 × Int32 × Int32 × Int32} {kr ar it mv : Nat → Int32} {Q : yQ} (hk : k + 6 ≤ Γ.2.2.2 6000) (hN : Γ.2.2.2 6000 ≤ 3072) (h : lI σ kr) (K : lK Γ l M k) : ∃ M' : Nat → aC, Fr Γ l kL_law 766 [(0, .ref 5000), (1, .ref 0), (2, .ref 42), (3, .int (nI k))] [] 54 54 1701 (lM M σ t J kr ar it mv Q) (some (.int 1)) 54 M' := by
  obtain ⟨r, rk, ik, S, b, ln, fi⟩ := σ
  obtain ⟨t', e⟩ : ∃ (t' : rT), Ev Γ l mX4_kindFor [.ref 0, .int (sci Γ (k + 1)), .int (sci Γ (k + 2))] 54 (xM (yM M r kr ar ik fi b ln S it mv Q) r rk t ik S (b, ln, J) fi) (some (.int (sp_kindFor (r, rk, ik, S, b, ln, fi) (sci Γ (k + 1)) (sci Γ (k + 2))).1)) 54 (xF (yM M r kr ar ik fi b ln S it mv Q) t' J (sp_kindFor (r, rk, ik, S, b, ln, fi) (sci Γ (k + 1)) (sci Γ (k + 2))).2) := x_kindFor h.1.1
  rw [lM_x, xF_y] at e
  have ex := e
  clear e
  obtain ⟨ar', e⟩ : ∃ (ar' : Nat → Int32), Ev Γ l mX5_kindFor [.ref 42, .int (sci Γ (k + 1)), .int (sci Γ (k + 2))] 54 (yM (xF M t' J (sp_kindFor (r, rk, ik, S, b, ln, fi) (sci Γ (k + 1)) (sci Γ (k + 2))).2) r kr ar ik fi b ln S it mv Q) (some (.int (sp_kindFor (r, rk, ik, S, b, ln, fi) (sci Γ (k + 1)) (sci Γ (k + 2))).1)) 54 (yF (xF M t' J (sp_kindFor (r, rk, ik, S, b, ln, fi) (sci Γ (k + 1)) (sci Γ (k + 2))).2) kr ar' it mv Q (sp_kindFor (r, rk, ik, S, b, ln, fi) (sci Γ (k + 1)) (sci Γ (k + 2))).2) := y_kindFor h.1.1
  obtain ⟨M', kk⟩ := K (sp_kindFor (r, rk, ik, S, b, ln, fi) (sci Γ (k + 1)) (sci Γ (k + 2))).2 t' J kr ar' it mv Q (lI_kp h (i_kindFor h.1) kp_kindFor)
  exact ⟨M', lc_kindFor hk hN ex e lM_0 y_42 kk⟩
theorem kp_sizeFor {σ : sS} {a1 a2 : Int32} : kp σ (sp_sizeFor σ a1 a2).2 := by
  unfold sp_sizeFor
  try unfold orN
  repeat' split
  all_goals exact ⟨rfl, rfl⟩
theorem lq_sizeFor {Γ : aG} {l : Launch} {M : Nat → aC} {k : Nat} {σ : sS} {t : rT} {J : Int32 × Int32 × Int32 × Int32} {kr ar it mv : Nat → Int32} {Q : yQ} (hk : k + 6 ≤ Γ.2.2.2 6000) (hN : Γ.2.2.2 6000 ≤ 3072) (h : lI σ kr) (K : lK Γ l M k) : ∃ M' : Nat → aC, Fr Γ l kL_law 799 [(0, .ref 5000), (1, .ref 0), (2, .ref 42), (3, .int (nI k))] [] 54 54 1701 (lM M σ t J kr ar it mv Q) (some (.int 1)) 54 M' := by
  obtain ⟨r, rk, ik, S, b, ln, fi⟩ := σ
  obtain ⟨t', e⟩ : ∃ (t' : rT), Ev Γ l mX4_sizeFor [.ref 0, .int (sci Γ (k + 1)), .int (sci Γ (k + 2))] 54 (xM (yM M r kr ar ik fi b ln S it mv Q) r rk t ik S (b, ln, J) fi) (some (.int (sp_sizeFor (r, rk, ik, S, b, ln, fi) (sci Γ (k + 1)) (sci Γ (k + 2))).1)) 54 (xF (yM M r kr ar ik fi b ln S it mv Q) t' J (sp_sizeFor (r, rk, ik, S, b, ln, fi) (sci Γ (k + 1)) (sci Γ (k + 2))).2) := x_sizeFor h.1.1
  rw [lM_x, xF_y] at e
  have ex := e
  clear e
  obtain ⟨ar', e⟩ : ∃ (ar' : Nat → Int32), Ev Γ l mX5_sizeFor [.ref 42, .int (sci Γ (k + 1)), .int (sci Γ (k + 2))] 54 (yM (xF M t' J (sp_sizeFor (r, rk, ik, S, b, ln, fi) (sci Γ (k + 1)) (sci Γ (k + 2))).2) r kr ar ik fi b ln S it mv Q) (some (.int (sp_sizeFor (r, rk, ik, S, b, ln, fi) (sci Γ (k + 1)) (sci Γ (k + 2))).1)) 54 (yF (xF M t' J (sp_sizeFor (r, rk, ik, S, b, ln, fi) (sci Γ (k + 1)) (sci Γ (k + 2))).2) kr ar' it mv Q (sp_sizeFor (r, rk, ik, S, b, ln, fi) (sci Γ (k + 1)) (sci Γ (k + 2))).2) := y_sizeFor h.1.1
  obtain ⟨M', kk⟩ := K (sp_sizeFor (r, rk, ik, S, b, ln, fi) (sci Γ (k + 1)) (sci Γ (k + 2))).2 t' J kr ar' it mv Q (lI_kp h (i_sizeFor h.1) kp_sizeFor)
  exact ⟨M', lc_sizeFor hk hN ex e lM_0 y_42 kk⟩
theorem kp_send {σ : sS} {a1 : Int32} : kp σ (sp_send σ a1).2 := by
  unfold sp_send
  try unfold orN
  repeat' split
  all_goals exact ⟨rfl, rfl⟩
theorem lq_send {Γ : aG} {l : Launch} {M : Nat → aC} {k : Nat} {σ : sS} {t : rT} {J : Int32 × Int32 × Int32 × Int32} {kr ar it mv : Nat → Int32} {Q : yQ} (hk : k + 6 ≤ Γ.2.2.2 6000) (hN : Γ.2.2.2 6000 ≤ 3072) (h : lI σ kr) (K : lK Γ l M k) : ∃ M' : Nat → aC, Fr Γ l kL_law 832 [(0, .ref 5000), (1, .ref 0), (2, .ref 42), (3, .int (nI k))] [] 54 54 1701 (lM M σ t J kr ar it mv Q) (some (.int 1)) 54 M' := by
  obtain ⟨r, rk, ik, S, b, ln, fi⟩ := σ
  obtain ⟨t', e⟩ : ∃ (t' : rT), Ev Γ l mX4_send [.ref 0, .int (sci Γ (k + 1))] 54 (xM (yM M r kr ar ik fi b ln S it mv Q) r rk t ik S (b, ln, J) fi) (some (.int (sp_send (r, rk, ik, S, b, ln, fi) (sci Γ (k + 1))).1)) 54 (xF (yM M r kr ar ik fi b ln S it mv Q) t' J (sp_send (r, rk, ik, S, b, ln, fi) (sci Γ (k + 1))).2) := x_send h.1.1
  rw [lM_x, xF_y] at e
  have ex := e
  clear e
  obtain ⟨ar', e⟩ : ∃ (ar' : Nat → Int32), Ev Γ l mX5_send [.ref 42, .int (sci Γ (k + 1))] 54 (yM (xF M t' J (sp_send (r, rk, ik, S, b, ln, fi) (sci Γ (k + 1))).2) r kr ar ik fi b ln S it mv Q) (some (.int (sp_send (r, rk, ik, S, b, ln, fi) (sci Γ (k + 1))).1)) 54 (yF (xF M t' J (sp_send (r, rk, ik, S, b, ln, fi) (sci Γ (k + 1))).2) kr ar' it mv Q (sp_send (r, rk, ik, S, b, ln, fi) (sci Γ (k + 1))).2) := y_send h.1.1
  obtain ⟨M', kk⟩ := K (sp_send (r, rk, ik, S, b, ln, fi) (sci Γ (k + 1))).2 t' J kr ar' it mv Q (lI_kp h (i_send h.1) kp_send)
  exact ⟨M', lc_send hk hN ex e lM_0 y_42 kk⟩
theorem kp_fits {σ : sS} {a1 a2 : Int32} : kp σ (sp_fits σ a1 a2).2 := by
  unfold sp_fits
  try unfold orN
  repeat' split
  all_goals exact ⟨rfl, rfl⟩
theorem lq_fits {Γ : aG} {l : Launch} {M : Nat → aC} {k : Nat} {σ : sS} {t : rT} {J : Int32 × Int32 × Int32 × Int32} {kr ar it mv : Nat → Int32} {Q : yQ} (hk : k + 6 ≤ Γ.2.2.2 6000) (hN : Γ.2.2.2 6000 ≤ 3072) (h : lI σ kr) (K : lK Γ l M k) : ∃ M' : Nat → aC, Fr Γ l kL_law 855 [(0, .ref 5000), (1, .ref 0), (2, .ref 42), (3, .int (nI k))] [] 54 54 1701 (lM M σ t J kr ar it mv Q) (some (.int 1)) 54 M' := by
  obtain ⟨r, rk, ik, S, b, ln, fi⟩ := σ
  obtain ⟨t', e⟩ : ∃ (t' : rT), Ev Γ l mX4_fits [.ref 0, .int (sci Γ (k + 1)), .int (sci Γ (k + 2))] 54 (xM (yM M r kr ar ik fi b ln S it mv Q) r rk t ik S (b, ln, J) fi) (some (.int (sp_fits (r, rk, ik, S, b, ln, fi) (sci Γ (k + 1)) (sci Γ (k + 2))).1)) 54 (xF (yM M r kr ar ik fi b ln S it mv Q) t' J (sp_fits (r, rk, ik, S, b, ln, fi) (sci Γ (k + 1)) (sci Γ (k + 2))).2) := x_fits h.1.1 h.1.2.2.1
  rw [lM_x, xF_y] at e
  have ex := e
  clear e
  obtain ⟨ar', e⟩ : ∃ (ar' : Nat → Int32), Ev Γ l mX5_fits [.ref 42, .int (sci Γ (k + 1)), .int (sci Γ (k + 2))] 54 (yM (xF M t' J (sp_fits (r, rk, ik, S, b, ln, fi) (sci Γ (k + 1)) (sci Γ (k + 2))).2) r kr ar ik fi b ln S it mv Q) (some (.int (sp_fits (r, rk, ik, S, b, ln, fi) (sci Γ (k + 1)) (sci Γ (k + 2))).1)) 54 (yF (xF M t' J (sp_fits (r, rk, ik, S, b, ln, fi) (sci Γ (k + 1)) (sci Γ (k + 2))).2) kr ar' it mv Q (sp_fits (r, rk, ik, S, b, ln, fi) (sci Γ (k + 1)) (sci Γ (k + 2))).2) := y_fits h.1.2.2.1 h.1.1
  obtain ⟨M', kk⟩ := K (sp_fits (r, rk, ik, S, b, ln, fi) (sci Γ (k + 1)) (sci Γ (k + 2))).2 t' J kr ar' it mv Q (lI_kp h (i_fits h.1) kp_fits)
  exact ⟨M', lc_fits hk hN ex e lM_0 y_42 kk⟩
theorem kp_kinds {σ : sS} {a1 a2 : Int32} : kp σ (sp_kinds σ a1 a2).2 := by
  unfold sp_kinds
  try unfold orN
  repeat' split
  all_goals exact ⟨rfl, rfl⟩
theorem lq_kinds {Γ : aG} {l : Launch} {M : Nat → aC} {k : Nat} {σ : sS} {t : rT} {J : Int32 × Int32 × Int32 × Int32} {kr ar it mv : Nat → Int32} {Q : yQ} (hk : k + 6 ≤ Γ.2.2.2 6000) (hN : Γ.2.2.2 6000 ≤ 3072) (h : lI σ kr) (K : lK Γ l M k) : ∃ M' : Nat → aC, Fr Γ l kL_law 888 [(0, .ref 5000), (1, .ref 0), (2, .ref 42), (3, .int (nI k))] [] 54 54 1701 (lM M σ t J kr ar it mv Q) (some (.int 1)) 54 M' := by
  obtain ⟨r, rk, ik, S, b, ln, fi⟩ := σ
  obtain ⟨t', e⟩ : ∃ (t' : rT), Ev Γ l mX4_kinds [.ref 0, .int (sci Γ (k + 1)), .int (sci Γ (k + 2))] 54 (xM (yM M r kr ar ik fi b ln S it mv Q) r rk t ik S (b, ln, J) fi) (some (.int (sp_kinds (r, rk, ik, S, b, ln, fi) (sci Γ (k + 1)) (sci Γ (k + 2))).1)) 54 (xF (yM M r kr ar ik fi b ln S it mv Q) t' J (sp_kinds (r, rk, ik, S, b, ln, fi) (sci Γ (k + 1)) (sci Γ (k + 2))).2) := x_kinds h.1.1 h.1.2.2.1
  rw [lM_x, xF_y] at e
  have ex := e
  clear e
  obtain ⟨ar', e⟩ : ∃ (ar' : Nat → Int32), Ev Γ l mX5_kinds [.ref 42, .int (sci Γ (k + 1)), .int (sci Γ (k + 2))] 54 (yM (xF M t' J (sp_kinds (r, rk, ik, S, b, ln, fi) (sci Γ (k + 1)) (sci Γ (k + 2))).2) r kr ar ik fi b ln S it mv Q) (some (.int (sp_kinds (r, rk, ik, S, b, ln, fi) (sci Γ (k + 1)) (sci Γ (k + 2))).1)) 54 (yF (xF M t' J (sp_kinds (r, rk, ik, S, b, ln, fi) (sci Γ (k + 1)) (sci Γ (k + 2))).2) kr ar' it mv Q (sp_kinds (r, rk, ik, S, b, ln, fi) (sci Γ (k + 1)) (sci Γ (k + 2))).2) := y_kinds h.1.2.2.1 h.1.1
  obtain ⟨M', kk⟩ := K (sp_kinds (r, rk, ik, S, b, ln, fi) (sci Γ (k + 1)) (sci Γ (k + 2))).2 t' J kr ar' it mv Q (lI_kp h (i_kinds h.1) kp_kinds)
  exact ⟨M', lc_kinds hk hN ex e lM_0 y_42 kk⟩
theorem kp_party {σ : sS} {a1 : Int32} : kp σ (sp_party σ a1).2 := by
  unfold sp_party
  try unfold orN
  repeat' split
  all_goals exact ⟨rfl, rfl⟩
theorem lq_party {Γ : aG} {l : Launch} {M : Nat → aC} {k : Nat} {σ : sS} {t : rT} {J : Int32 × Int32 × Int32 × Int32} {kr ar it mv : Nat → Int32} {Q : yQ} (hk : k + 6 ≤ Γ.2.2.2 6000) (hN : Γ.2.2.2 6000 ≤ 3072) (h : lI σ kr) (K : lK Γ l M k) : ∃ M' : Nat → aC, Fr Γ l kL_law 921 [(0, .ref 5000), (1, .ref 0), (2, .ref 42), (3, .int (nI k))] [] 54 54 1701 (lM M σ t J kr ar it mv Q) (some (.int 1)) 54 M' := by
  obtain ⟨r, rk, ik, S, b, ln, fi⟩ := σ
  have e : Ev Γ l mX4_party [.ref 0, .int (sci Γ (k + 1))] 54 (xM (yM M r kr ar ik fi b ln S it mv Q) r rk t ik S (b, ln, J) fi) (some (.int (sp_party (r, rk, ik, S, b, ln, fi) (sci Γ (k + 1))).1)) 54 (xF (yM M r kr ar ik fi b ln S it mv Q) t J (sp_party (r, rk, ik, S, b, ln, fi) (sci Γ (k + 1))).2) := x_party h.1.1
  rw [lM_x, xF_y] at e
  have ex := e
  clear e
  have e : Ev Γ l mX5_party [.ref 42, .int (sci Γ (k + 1))] 54 (yM (xF M t J (sp_party (r, rk, ik, S, b, ln, fi) (sci Γ (k + 1))).2) r kr ar ik fi b ln S it mv Q) (some (.int (sp_party (r, rk, ik, S, b, ln, fi) (sci Γ (k + 1))).1)) 54 (yF (xF M t J (sp_party (r, rk, ik, S, b, ln, fi) (sci Γ (k + 1))).2) kr ar it mv Q (sp_party (r, rk, ik, S, b, ln, fi) (sci Γ (k + 1))).2) := y_party h.1.1
  obtain ⟨M', kk⟩ := K (sp_party (r, rk, ik, S, b, ln, fi) (sci Γ (k + 1))).2 t J kr ar it mv Q (lI_kp h (i_party h.1) kp_party)
  exact ⟨M', lc_party hk hN ex e lM_0 y_42 kk⟩
theorem kp_odds {σ : sS} {a1 a2 a3 : Int32} : kp σ (sp_odds σ a1 a2 a3).2 := by
  unfold sp_odds
  try unfold orN
  repeat' split
  all_goals exact ⟨rfl, rfl⟩
theorem lq_odds {Γ : aG} {l : Launch} {M : Nat → aC} {k : Nat} {σ : sS} {t : rT} {J : Int32 × Int32 × Int32 × Int32} {kr ar it mv : Nat → Int32} {Q : yQ} (hk : k + 6 ≤ Γ.2.2.2 6000) (hN : Γ.2.2.2 6000 ≤ 3072) (h : lI σ kr) (K : lK Γ l M k) : ∃ M' : Nat → aC, Fr Γ l kL_law 944 [(0, .ref 5000), (1, .ref 0), (2, .ref 42), (3, .int (nI k))] [] 54 54 1701 (lM M σ t J kr ar it mv Q) (some (.int 1)) 54 M' := by
  obtain ⟨r, rk, ik, S, b, ln, fi⟩ := σ
  have e : Ev Γ l mX4_odds [.ref 0, .int (sci Γ (k + 1)), .int (sci Γ (k + 2)), .int (sci Γ (k + 3))] 54 (xM (yM M r kr ar ik fi b ln S it mv Q) r rk t ik S (b, ln, J) fi) (some (.long (sp_odds (r, rk, ik, S, b, ln, fi) (sci Γ (k + 1)) (sci Γ (k + 2)) (sci Γ (k + 3))).1)) 54 (xF (yM M r kr ar ik fi b ln S it mv Q) t J (sp_odds (r, rk, ik, S, b, ln, fi) (sci Γ (k + 1)) (sci Γ (k + 2)) (sci Γ (k + 3))).2) := x_odds h.1.1
  rw [lM_x, xF_y] at e
  have ex := e
  clear e
  have e : Ev Γ l mX5_odds [.ref 42, .int (sci Γ (k + 1)), .int (sci Γ (k + 2)), .int (sci Γ (k + 3))] 54 (yM (xF M t J (sp_odds (r, rk, ik, S, b, ln, fi) (sci Γ (k + 1)) (sci Γ (k + 2)) (sci Γ (k + 3))).2) r kr ar ik fi b ln S it mv Q) (some (.long (sp_odds (r, rk, ik, S, b, ln, fi) (sci Γ (k + 1)) (sci Γ (k + 2)) (sci Γ (k + 3))).1)) 54 (yF (xF M t J (sp_odds (r, rk, ik, S, b, ln, fi) (sci Γ (k + 1)) (sci Γ (k + 2)) (sci Γ (k + 3))).2) kr ar it mv Q (sp_odds (r, rk, ik, S, b, ln, fi) (sci Γ (k + 1)) (sci Γ (k + 2)) (sci Γ (k + 3))).2) := y_odds h.1.1
  obtain ⟨M', kk⟩ := K (sp_odds (r, rk, ik, S, b, ln, fi) (sci Γ (k + 1)) (sci Γ (k + 2)) (sci Γ (k + 3))).2 t J kr ar it mv Q (lI_kp h (i_odds h.1) kp_odds)
  exact ⟨M', lc_odds hk hN ex e lM_0 y_42 kk⟩
theorem kp_seed {σ : sS} {a1 : Int32} : kp σ (sp_seed σ a1).2 := by
  unfold sp_seed
  try unfold orN
  repeat' split
  all_goals exact ⟨rfl, rfl⟩
theorem lq_seed {Γ : aG} {l : Launch} {M : Nat → aC} {k : Nat} {σ : sS} {t : rT} {J : Int32 × Int32 × Int32 × Int32} {kr ar it mv : Nat → Int32} {Q : yQ} (hk : k + 6 ≤ Γ.2.2.2 6000) (hN : Γ.2.2.2 6000 ≤ 3072) (h : lI σ kr) (K : lK Γ l M k) : ∃ M' : Nat → aC, Fr Γ l kL_law 988 [(0, .ref 5000), (1, .ref 0), (2, .ref 42), (3, .int (nI k))] [] 54 54 1701 (lM M σ t J kr ar it mv Q) (some (.int 1)) 54 M' := by
  obtain ⟨r, rk, ik, S, b, ln, fi⟩ := σ
  have e : Ev Γ l mX4_seed [.ref 0, .int (sci Γ (k + 1))] 54 (xM (yM M r kr ar ik fi b ln S it mv Q) r rk t ik S (b, ln, J) fi) (some (.int (sp_seed (r, rk, ik, S, b, ln, fi) (sci Γ (k + 1))).1)) 54 (xF (yM M r kr ar ik fi b ln S it mv Q) t J (sp_seed (r, rk, ik, S, b, ln, fi) (sci Γ (k + 1))).2) := x_seed 
  rw [lM_x, xF_y] at e
  have ex := e
  clear e
  have e : Ev Γ l mX5_seed [.ref 42, .int (sci Γ (k + 1))] 54 (yM (xF M t J (sp_seed (r, rk, ik, S, b, ln, fi) (sci Γ (k + 1))).2) r kr ar ik fi b ln S it mv Q) (some (.int (sp_seed (r, rk, ik, S, b, ln, fi) (sci Γ (k + 1))).1)) 54 (yF (xF M t J (sp_seed (r, rk, ik, S, b, ln, fi) (sci Γ (k + 1))).2) kr ar it mv Q (sp_seed (r, rk, ik, S, b, ln, fi) (sci Γ (k + 1))).2) := y_seed 
  obtain ⟨M', kk⟩ := K (sp_seed (r, rk, ik, S, b, ln, fi) (sci Γ (k + 1))).2 t J kr ar it mv Q (lI_kp h (i_seed h.1) kp_seed)
  exact ⟨M', lc_seed hk hN ex e lM_0 y_42 kk⟩
theorem kp_feed {σ : sS} {a1 a2 : Int32} : kp σ (sp_feed σ a1 a2).2 := by
  unfold sp_feed
  try unfold orN
  repeat' split
  all_goals exact ⟨rfl, rfl⟩
theorem lq_feed {Γ : aG} {l : Launch} {M : Nat → aC} {k : Nat} {σ : sS} {t : rT} {J : Int32 × Int32 × Int32 × Int32} {kr ar it mv : Nat → Int32} {Q : yQ} (hk : k + 6 ≤ Γ.2.2.2 6000) (hN : Γ.2.2.2 6000 ≤ 3072) (h : lI σ kr) (K : lK Γ l M k) : ∃ M' : Nat → aC, Fr Γ l kL_law 1011 [(0, .ref 5000), (1, .ref 0), (2, .ref 42), (3, .int (nI k))] [] 54 54 1701 (lM M σ t J kr ar it mv Q) (some (.int 1)) 54 M' := by
  obtain ⟨r, rk, ik, S, b, ln, fi⟩ := σ
  have e : Ev Γ l mX4_feed [.ref 0, .int (sci Γ (k + 1)), .int (sci Γ (k + 2))] 54 (xM (yM M r kr ar ik fi b ln S it mv Q) r rk t ik S (b, ln, J) fi) (some (.int (sp_feed (r, rk, ik, S, b, ln, fi) (sci Γ (k + 1)) (sci Γ (k + 2))).1)) 54 (xF (yM M r kr ar ik fi b ln S it mv Q) t J (sp_feed (r, rk, ik, S, b, ln, fi) (sci Γ (k + 1)) (sci Γ (k + 2))).2) := x_feed h.1.2.2.2.1
  rw [lM_x, xF_y] at e
  have ex := e
  clear e
  have e : Ev Γ l mX5_feed [.ref 42, .int (sci Γ (k + 1)), .int (sci Γ (k + 2))] 54 (yM (xF M t J (sp_feed (r, rk, ik, S, b, ln, fi) (sci Γ (k + 1)) (sci Γ (k + 2))).2) r kr ar ik fi b ln S it mv Q) (some (.int (sp_feed (r, rk, ik, S, b, ln, fi) (sci Γ (k + 1)) (sci Γ (k + 2))).1)) 54 (yF (xF M t J (sp_feed (r, rk, ik, S, b, ln, fi) (sci Γ (k + 1)) (sci Γ (k + 2))).2) kr ar it mv Q (sp_feed (r, rk, ik, S, b, ln, fi) (sci Γ (k + 1)) (sci Γ (k + 2))).2) := y_feed h.1.2.2.2.1
  obtain ⟨M', kk⟩ := K (sp_feed (r, rk, ik, S, b, ln, fi) (sci Γ (k + 1)) (sci Γ (k + 2))).2 t J kr ar it mv Q (lI_kp h (i_feed h.1) kp_feed)
  exact ⟨M', lc_feed hk hN ex e lM_0 y_42 kk⟩
theorem kp_wipe {σ : sS} : kp σ (sp_wipe σ).2 := by
  unfold sp_wipe
  try unfold orN
  repeat' split
  all_goals exact ⟨rfl, rfl⟩
theorem lq_wipe {Γ : aG} {l : Launch} {M : Nat → aC} {k : Nat} {σ : sS} {t : rT} {J : Int32 × Int32 × Int32 × Int32} {kr ar it mv : Nat → Int32} {Q : yQ} (hk : k + 6 ≤ Γ.2.2.2 6000) (hN : Γ.2.2.2 6000 ≤ 3072) (h : lI σ kr) (K : lK Γ l M k) : ∃ M' : Nat → aC, Fr Γ l kL_law 1044 [(0, .ref 5000), (1, .ref 0), (2, .ref 42), (3, .int (nI k))] [] 54 54 1701 (lM M σ t J kr ar it mv Q) (some (.int 1)) 54 M' := by
  obtain ⟨r, rk, ik, S, b, ln, fi⟩ := σ
  have e : Ev Γ l mX4_wipe [.ref 0] 54 (xM (yM M r kr ar ik fi b ln S it mv Q) r rk t ik S (b, ln, J) fi) (some (.int (sp_wipe (r, rk, ik, S, b, ln, fi)).1)) 54 (xF (yM M r kr ar ik fi b ln S it mv Q) t J (sp_wipe (r, rk, ik, S, b, ln, fi)).2) := x_wipe 
  rw [lM_x, xF_y] at e
  have ex := e
  clear e
  have e : Ev Γ l mX5_wipe [.ref 42] 54 (yM (xF M t J (sp_wipe (r, rk, ik, S, b, ln, fi)).2) r kr ar ik fi b ln S it mv Q) (some (.int (sp_wipe (r, rk, ik, S, b, ln, fi)).1)) 54 (yF (xF M t J (sp_wipe (r, rk, ik, S, b, ln, fi)).2) kr ar it mv Q (sp_wipe (r, rk, ik, S, b, ln, fi)).2) := y_wipe 
  obtain ⟨M', kk⟩ := K (sp_wipe (r, rk, ik, S, b, ln, fi)).2 t J kr ar it mv Q (lI_kp h (i_wipe h.1) kp_wipe)
  exact ⟨M', lc_wipe hk hN ex e lM_0 y_42 kk⟩
theorem kp_text {σ : sS} : kp σ (sp_text σ).2 := by
  unfold sp_text
  try unfold orN
  repeat' split
  all_goals exact ⟨rfl, rfl⟩
theorem lq_text {Γ : aG} {l : Launch} {M : Nat → aC} {k : Nat} {σ : sS} {t : rT} {J : Int32 × Int32 × Int32 × Int32} {kr ar it mv : Nat → Int32} {Q : yQ} (hk : k + 6 ≤ Γ.2.2.2 6000) (hN : Γ.2.2.2 6000 ≤ 3072) (h : lI σ kr) (K : lK Γ l M k) : ∃ M' : Nat → aC, Fr Γ l kL_law 1057 [(0, .ref 5000), (1, .ref 0), (2, .ref 42), (3, .int (nI k))] [] 54 54 1701 (lM M σ t J kr ar it mv Q) (some (.int 1)) 54 M' := by
  obtain ⟨r, rk, ik, S, b, ln, fi⟩ := σ
  obtain ⟨t', J', e⟩ : ∃ (t' : rT) (J' : Int32 × Int32 × Int32 × Int32), Ev Γ l mX4_text [.ref 0] 54 (xM (yM M r kr ar ik fi b ln S it mv Q) r rk t ik S (b, ln, J) fi) (some (.int (sp_text (r, rk, ik, S, b, ln, fi)).1)) 54 (xF (yM M r kr ar ik fi b ln S it mv Q) t' J' (sp_text (r, rk, ik, S, b, ln, fi)).2) := x_text h.1.1 h.1.2.2.2.1
  rw [lM_x, xF_y] at e
  have ex := e
  clear e
  obtain ⟨it', Q', e⟩ : ∃ (it' : Nat → Int32) (Q' : yQ), Ev Γ l mX5_text [.ref 42] 54 (yM (xF M t' J' (sp_text (r, rk, ik, S, b, ln, fi)).2) r kr ar ik fi b ln S it mv Q) (some (.int (sp_text (r, rk, ik, S, b, ln, fi)).1)) 54 (yF (xF M t' J' (sp_text (r, rk, ik, S, b, ln, fi)).2) kr ar it' mv Q' (sp_text (r, rk, ik, S, b, ln, fi)).2) := y_text h.1.1 h.1.2.2.2.1 (fun p _ => h.1.2.2.2.2 p)
  obtain ⟨M', kk⟩ := K (sp_text (r, rk, ik, S, b, ln, fi)).2 t' J' kr ar it' mv Q' (lI_kp h (i_text h.1) kp_text)
  exact ⟨M', lc_text hk hN ex e lM_0 y_42 kk⟩
theorem kp_hold {σ : sS} {a1 a2 : Int32} : kp σ (sp_hold σ a1 a2).2 := by
  unfold sp_hold
  try unfold orN
  repeat' split
  all_goals exact ⟨rfl, rfl⟩
theorem lq_hold {Γ : aG} {l : Launch} {M : Nat → aC} {k : Nat} {σ : sS} {t : rT} {J : Int32 × Int32 × Int32 × Int32} {kr ar it mv : Nat → Int32} {Q : yQ} (hk : k + 6 ≤ Γ.2.2.2 6000) (hN : Γ.2.2.2 6000 ≤ 3072) (h : lI σ kr) (K : lK Γ l M k) : ∃ M' : Nat → aC, Fr Γ l kL_law 1070 [(0, .ref 5000), (1, .ref 0), (2, .ref 42), (3, .int (nI k))] [] 54 54 1701 (lM M σ t J kr ar it mv Q) (some (.int 1)) 54 M' := by
  obtain ⟨r, rk, ik, S, b, ln, fi⟩ := σ
  have e : Ev Γ l mX4_hold [.ref 0, .int (sci Γ (k + 1)), .int (sci Γ (k + 2))] 54 (xM (yM M r kr ar ik fi b ln S it mv Q) r rk t ik S (b, ln, J) fi) (some (.int (sp_hold (r, rk, ik, S, b, ln, fi) (sci Γ (k + 1)) (sci Γ (k + 2))).1)) 54 (xF (yM M r kr ar ik fi b ln S it mv Q) t J (sp_hold (r, rk, ik, S, b, ln, fi) (sci Γ (k + 1)) (sci Γ (k + 2))).2) := x_hold 
  rw [lM_x, xF_y] at e
  have ex := e
  clear e
  have e : Ev Γ l mX5_hold [.ref 42, .int (sci Γ (k + 1)), .int (sci Γ (k + 2))] 54 (yM (xF M t J (sp_hold (r, rk, ik, S, b, ln, fi) (sci Γ (k + 1)) (sci Γ (k + 2))).2) r kr ar ik fi b ln S it mv Q) (some (.int (sp_hold (r, rk, ik, S, b, ln, fi) (sci Γ (k + 1)) (sci Γ (k + 2))).1)) 54 (yF (xF M t J (sp_hold (r, rk, ik, S, b, ln, fi) (sci Γ (k + 1)) (sci Γ (k + 2))).2) kr ar it mv Q (sp_hold (r, rk, ik, S, b, ln, fi) (sci Γ (k + 1)) (sci Γ (k + 2))).2) := y_hold 
  obtain ⟨M', kk⟩ := K (sp_hold (r, rk, ik, S, b, ln, fi) (sci Γ (k + 1)) (sci Γ (k + 2))).2 t J kr ar it mv Q (lI_kp h (i_hold h.1) kp_hold)
  exact ⟨M', lc_hold hk hN ex e lM_0 y_42 kk⟩
theorem kp_as {σ : sS} {a1 a2 : Int32} : kp σ (sp_as σ a1 a2).2 := by
  unfold sp_as
  try unfold orN
  repeat' split
  all_goals exact ⟨rfl, rfl⟩
theorem lq_as {Γ : aG} {l : Launch} {M : Nat → aC} {k : Nat} {σ : sS} {t : rT} {J : Int32 × Int32 × Int32 × Int32} {kr ar it mv : Nat → Int32} {Q : yQ} (hk : k + 6 ≤ Γ.2.2.2 6000) (hN : Γ.2.2.2 6000 ≤ 3072) (h : lI σ kr) (K : lK Γ l M k) : ∃ M' : Nat → aC, Fr Γ l kL_law 1103 [(0, .ref 5000), (1, .ref 0), (2, .ref 42), (3, .int (nI k))] [] 54 54 1701 (lM M σ t J kr ar it mv Q) (some (.int 1)) 54 M' := by
  obtain ⟨r, rk, ik, S, b, ln, fi⟩ := σ
  have e : Ev Γ l mX4_as [.ref 0, .int (sci Γ (k + 1)), .int (sci Γ (k + 2))] 54 (xM (yM M r kr ar ik fi b ln S it mv Q) r rk t ik S (b, ln, J) fi) (some (.int (sp_as (r, rk, ik, S, b, ln, fi) (sci Γ (k + 1)) (sci Γ (k + 2))).1)) 54 (xF (yM M r kr ar ik fi b ln S it mv Q) t J (sp_as (r, rk, ik, S, b, ln, fi) (sci Γ (k + 1)) (sci Γ (k + 2))).2) := x_as h.1.1
  rw [lM_x, xF_y] at e
  have ex := e
  clear e
  have e : Ev Γ l mX5_as [.ref 42, .int (sci Γ (k + 1)), .int (sci Γ (k + 2))] 54 (yM (xF M t J (sp_as (r, rk, ik, S, b, ln, fi) (sci Γ (k + 1)) (sci Γ (k + 2))).2) r kr ar ik fi b ln S it mv Q) (some (.int (sp_as (r, rk, ik, S, b, ln, fi) (sci Γ (k + 1)) (sci Γ (k + 2))).1)) 54 (yF (xF M t J (sp_as (r, rk, ik, S, b, ln, fi) (sci Γ (k + 1)) (sci Γ (k + 2))).2) kr ar it mv Q (sp_as (r, rk, ik, S, b, ln, fi) (sci Γ (k + 1)) (sci Γ (k + 2))).2) := y_as h.1.1
  obtain ⟨M', kk⟩ := K (sp_as (r, rk, ik, S, b, ln, fi) (sci Γ (k + 1)) (sci Γ (k + 2))).2 t J kr ar it mv Q (lI_kp h (i_as h.1) kp_as)
  exact ⟨M', lc_as hk hN ex e lM_0 y_42 kk⟩
theorem kp_sheet {σ : sS} {a1 a2 a3 : Int32} : kp σ (sp_sheet σ a1 a2 a3).2 := by
  unfold sp_sheet
  try unfold orN
  repeat' split
  all_goals exact ⟨rfl, rfl⟩
theorem lq_sheet {Γ : aG} {l : Launch} {M : Nat → aC} {k : Nat} {σ : sS} {t : rT} {J : Int32 × Int32 × Int32 × Int32} {kr ar it mv : Nat → Int32} {Q : yQ} (hk : k + 6 ≤ Γ.2.2.2 6000) (hN : Γ.2.2.2 6000 ≤ 3072) (h : lI σ kr) (K : lK Γ l M k) : ∃ M' : Nat → aC, Fr Γ l kL_law 1136 [(0, .ref 5000), (1, .ref 0), (2, .ref 42), (3, .int (nI k))] [] 54 54 1701 (lM M σ t J kr ar it mv Q) (some (.int 1)) 54 M' := by
  obtain ⟨r, rk, ik, S, b, ln, fi⟩ := σ
  have e : Ev Γ l mX4_sheet [.ref 0, .int (sci Γ (k + 1)), .int (sci Γ (k + 2)), .int (sci Γ (k + 3))] 54 (xM (yM M r kr ar ik fi b ln S it mv Q) r rk t ik S (b, ln, J) fi) (some (.int (sp_sheet (r, rk, ik, S, b, ln, fi) (sci Γ (k + 1)) (sci Γ (k + 2)) (sci Γ (k + 3))).1)) 54 (xF (yM M r kr ar ik fi b ln S it mv Q) t J (sp_sheet (r, rk, ik, S, b, ln, fi) (sci Γ (k + 1)) (sci Γ (k + 2)) (sci Γ (k + 3))).2) := x_sheet 
  rw [lM_x, xF_y] at e
  have ex := e
  clear e
  have e : Ev Γ l mX5_sheet [.ref 42, .int (sci Γ (k + 1)), .int (sci Γ (k + 2)), .int (sci Γ (k + 3))] 54 (yM (xF M t J (sp_sheet (r, rk, ik, S, b, ln, fi) (sci Γ (k + 1)) (sci Γ (k + 2)) (sci Γ (k + 3))).2) r kr ar ik fi b ln S it mv Q) (some (.int (sp_sheet (r, rk, ik, S, b, ln, fi) (sci Γ (k + 1)) (sci Γ (k + 2)) (sci Γ (k + 3))).1)) 54 (yF (xF M t J (sp_sheet (r, rk, ik, S, b, ln, fi) (sci Γ (k + 1)) (sci Γ (k + 2)) (sci Γ (k + 3))).2) kr ar it mv Q (sp_sheet (r, rk, ik, S, b, ln, fi) (sci Γ (k + 1)) (sci Γ (k + 2)) (sci Γ (k + 3))).2) := y_sheet 
  obtain ⟨M', kk⟩ := K (sp_sheet (r, rk, ik, S, b, ln, fi) (sci Γ (k + 1)) (sci Γ (k + 2)) (sci Γ (k + 3))).2 t J kr ar it mv Q (lI_kp h (i_sheet h.1) kp_sheet)
  exact ⟨M', lc_sheet hk hN ex e lM_0 y_42 kk⟩
theorem kp_write {σ : sS} {a1 a2 a3 : Int32} : kp σ (sp_write σ a1 a2 a3).2 := by
  unfold sp_write
  try unfold orN
  repeat' split
  all_goals exact ⟨rfl, rfl⟩
theorem lq_write {Γ : aG} {l : Launch} {M : Nat → aC} {k : Nat} {σ : sS} {t : rT} {J : Int32 × Int32 × Int32 × Int32} {kr ar it mv : Nat → Int32} {Q : yQ} (hk : k + 6 ≤ Γ.2.2.2 6000) (hN : Γ.2.2.2 6000 ≤ 3072) (h : lI σ kr) (K : lK Γ l M k) : ∃ M' : Nat → aC, Fr Γ l kL_law 1179 [(0, .ref 5000), (1, .ref 0), (2, .ref 42), (3, .int (nI k))] [] 54 54 1701 (lM M σ t J kr ar it mv Q) (some (.int 1)) 54 M' := by
  obtain ⟨r, rk, ik, S, b, ln, fi⟩ := σ
  have e : Ev Γ l mX4_write [.ref 0, .int (sci Γ (k + 1)), .int (sci Γ (k + 2)), .int (sci Γ (k + 3))] 54 (xM (yM M r kr ar ik fi b ln S it mv Q) r rk t ik S (b, ln, J) fi) (some (.int (sp_write (r, rk, ik, S, b, ln, fi) (sci Γ (k + 1)) (sci Γ (k + 2)) (sci Γ (k + 3))).1)) 54 (xF (yM M r kr ar ik fi b ln S it mv Q) t J (sp_write (r, rk, ik, S, b, ln, fi) (sci Γ (k + 1)) (sci Γ (k + 2)) (sci Γ (k + 3))).2) := x_write h.1.2.2.1
  rw [lM_x, xF_y] at e
  have ex := e
  clear e
  have e : Ev Γ l mX5_write [.ref 42, .int (sci Γ (k + 1)), .int (sci Γ (k + 2)), .int (sci Γ (k + 3))] 54 (yM (xF M t J (sp_write (r, rk, ik, S, b, ln, fi) (sci Γ (k + 1)) (sci Γ (k + 2)) (sci Γ (k + 3))).2) r kr ar ik fi b ln S it mv Q) (some (.int (sp_write (r, rk, ik, S, b, ln, fi) (sci Γ (k + 1)) (sci Γ (k + 2)) (sci Γ (k + 3))).1)) 54 (yF (xF M t J (sp_write (r, rk, ik, S, b, ln, fi) (sci Γ (k + 1)) (sci Γ (k + 2)) (sci Γ (k + 3))).2) kr ar it mv Q (sp_write (r, rk, ik, S, b, ln, fi) (sci Γ (k + 1)) (sci Γ (k + 2)) (sci Γ (k + 3))).2) := y_write h.1.2.2.1
  obtain ⟨M', kk⟩ := K (sp_write (r, rk, ik, S, b, ln, fi) (sci Γ (k + 1)) (sci Γ (k + 2)) (sci Γ (k + 3))).2 t J kr ar it mv Q (lI_kp h (i_write h.1) kp_write)
  exact ⟨M', lc_write hk hN ex e lM_0 y_42 kk⟩
theorem kp_copy {σ : sS} {a1 a2 a3 a4 a5 : Int32} : kp σ (sp_copy σ a1 a2 a3 a4 a5).2 := by
  unfold sp_copy
  try unfold orN
  repeat' split
  all_goals exact ⟨rfl, rfl⟩
theorem lq_copy {Γ : aG} {l : Launch} {M : Nat → aC} {k : Nat} {σ : sS} {t : rT} {J : Int32 × Int32 × Int32 × Int32} {kr ar it mv : Nat → Int32} {Q : yQ} (hk : k + 6 ≤ Γ.2.2.2 6000) (hN : Γ.2.2.2 6000 ≤ 3072) (h : lI σ kr) (K : lK Γ l M k) : ∃ M' : Nat → aC, Fr Γ l kL_law 1222 [(0, .ref 5000), (1, .ref 0), (2, .ref 42), (3, .int (nI k))] [] 54 54 1701 (lM M σ t J kr ar it mv Q) (some (.int 1)) 54 M' := by
  obtain ⟨r, rk, ik, S, b, ln, fi⟩ := σ
  have e : Ev Γ l mX4_copy [.ref 0, .int (sci Γ (k + 1)), .int (sci Γ (k + 2)), .int (sci Γ (k + 3)), .int (sci Γ (k + 4)), .int (sci Γ (k + 5))] 54 (xM (yM M r kr ar ik fi b ln S it mv Q) r rk t ik S (b, ln, J) fi) (some (.int (sp_copy (r, rk, ik, S, b, ln, fi) (sci Γ (k + 1)) (sci Γ (k + 2)) (sci Γ (k + 3)) (sci Γ (k + 4)) (sci Γ (k + 5))).1)) 54 (xF (yM M r kr ar ik fi b ln S it mv Q) t J (sp_copy (r, rk, ik, S, b, ln, fi) (sci Γ (k + 1)) (sci Γ (k + 2)) (sci Γ (k + 3)) (sci Γ (k + 4)) (sci Γ (k + 5))).2) := x_copy h.1.2.2.1
  rw [lM_x, xF_y] at e
  have ex := e
  clear e
  obtain ⟨mv', e⟩ : ∃ (mv' : Nat → Int32), Ev Γ l mX5_copy [.ref 42, .int (sci Γ (k + 1)), .int (sci Γ (k + 2)), .int (sci Γ (k + 3)), .int (sci Γ (k + 4)), .int (sci Γ (k + 5))] 54 (yM (xF M t J (sp_copy (r, rk, ik, S, b, ln, fi) (sci Γ (k + 1)) (sci Γ (k + 2)) (sci Γ (k + 3)) (sci Γ (k + 4)) (sci Γ (k + 5))).2) r kr ar ik fi b ln S it mv Q) (some (.int (sp_copy (r, rk, ik, S, b, ln, fi) (sci Γ (k + 1)) (sci Γ (k + 2)) (sci Γ (k + 3)) (sci Γ (k + 4)) (sci Γ (k + 5))).1)) 54 (yF (xF M t J (sp_copy (r, rk, ik, S, b, ln, fi) (sci Γ (k + 1)) (sci Γ (k + 2)) (sci Γ (k + 3)) (sci Γ (k + 4)) (sci Γ (k + 5))).2) kr ar it mv' Q (sp_copy (r, rk, ik, S, b, ln, fi) (sci Γ (k + 1)) (sci Γ (k + 2)) (sci Γ (k + 3)) (sci Γ (k + 4)) (sci Γ (k + 5))).2) := y_copy h.1.2.2.1
  obtain ⟨M', kk⟩ := K (sp_copy (r, rk, ik, S, b, ln, fi) (sci Γ (k + 1)) (sci Γ (k + 2)) (sci Γ (k + 3)) (sci Γ (k + 4)) (sci Γ (k + 5))).2 t J kr ar it mv' Q (lI_kp h (i_copy h.1) kp_copy)
  exact ⟨M', lc_copy hk hN ex e lM_0 y_42 kk⟩
theorem kp_load {σ : sS} {a1 : Int32} : kp σ (sp_load σ a1).2 := by
  unfold sp_load
  try unfold orN
  repeat' split
  all_goals exact ⟨rfl, rfl⟩
theorem lq_load {Γ : aG} {l : Launch} {M : Nat → aC} {k : Nat} {σ : sS} {t : rT} {J : Int32 × Int32 × Int32 × Int32} {kr ar it mv : Nat → Int32} {Q : yQ} (hk : k + 6 ≤ Γ.2.2.2 6000) (hN : Γ.2.2.2 6000 ≤ 3072) (h : lI σ kr) (K : lK Γ l M k) : ∃ M' : Nat → aC, Fr Γ l kL_law 1285 [(0, .ref 5000), (1, .ref 0), (2, .ref 42), (3, .int (nI k))] [] 54 54 1701 (lM M σ t J kr ar it mv Q) (some (.int 1)) 54 M' := by
  obtain ⟨r, rk, ik, S, b, ln, fi⟩ := σ
  have e : Ev Γ l mX4_load [.ref 0, .int (sci Γ (k + 1))] 54 (xM (yM M r kr ar ik fi b ln S it mv Q) r rk t ik S (b, ln, J) fi) (some (.int (sp_load (r, rk, ik, S, b, ln, fi) (sci Γ (k + 1))).1)) 54 (xF (yM M r kr ar ik fi b ln S it mv Q) t J (sp_load (r, rk, ik, S, b, ln, fi) (sci Γ (k + 1))).2) := x_load h.1.2.2.1
  rw [lM_x, xF_y] at e
  have ex := e
  clear e
  have e : Ev Γ l mX5_load [.ref 42, .int (sci Γ (k + 1))] 54 (yM (xF M t J (sp_load (r, rk, ik, S, b, ln, fi) (sci Γ (k + 1))).2) r kr ar ik fi b ln S it mv Q) (some (.int (sp_load (r, rk, ik, S, b, ln, fi) (sci Γ (k + 1))).1)) 54 (yF (xF M t J (sp_load (r, rk, ik, S, b, ln, fi) (sci Γ (k + 1))).2) kr ar it mv Q (sp_load (r, rk, ik, S, b, ln, fi) (sci Γ (k + 1))).2) := y_load h.1.2.2.1
  obtain ⟨M', kk⟩ := K (sp_load (r, rk, ik, S, b, ln, fi) (sci Γ (k + 1))).2 t J kr ar it mv Q (lI_kp h (i_load h.1) kp_load)
  exact ⟨M', lc_load hk hN ex e lM_0 y_42 kk⟩
theorem kp_judge {σ : sS} {a1 : Int32} : kp σ (sp_judge σ a1).2 := by
  unfold sp_judge
  try unfold orN
  repeat' split
  all_goals exact ⟨rfl, rfl⟩
theorem lq_judge {Γ : aG} {l : Launch} {M : Nat → aC} {k : Nat} {σ : sS} {t : rT} {J : Int32 × Int32 × Int32 × Int32} {kr ar it mv : Nat → Int32} {Q : yQ} (hk : k + 6 ≤ Γ.2.2.2 6000) (hN : Γ.2.2.2 6000 ≤ 3072) (h : lI σ kr) (K : lK Γ l M k) : ∃ M' : Nat → aC, Fr Γ l kL_law 1308 [(0, .ref 5000), (1, .ref 0), (2, .ref 42), (3, .int (nI k))] [] 54 54 1701 (lM M σ t J kr ar it mv Q) (some (.int 1)) 54 M' := by
  obtain ⟨r, rk, ik, S, b, ln, fi⟩ := σ
  have e : Ev Γ l mX4_judge [.ref 0, .int (sci Γ (k + 1))] 54 (xM (yM M r kr ar ik fi b ln S it mv Q) r rk t ik S (b, ln, J) fi) (some (.int (sp_judge (r, rk, ik, S, b, ln, fi) (sci Γ (k + 1))).1)) 54 (xF (yM M r kr ar ik fi b ln S it mv Q) t J (sp_judge (r, rk, ik, S, b, ln, fi) (sci Γ (k + 1))).2) := x_judge h.1.1 h.1.2.2.1
  rw [lM_x, xF_y] at e
  have ex := e
  clear e
  have e : Ev Γ l mX5_judge [.ref 42, .int (sci Γ (k + 1))] 54 (yM (xF M t J (sp_judge (r, rk, ik, S, b, ln, fi) (sci Γ (k + 1))).2) r kr ar ik fi b ln S it mv Q) (some (.int (sp_judge (r, rk, ik, S, b, ln, fi) (sci Γ (k + 1))).1)) 54 (yF (xF M t J (sp_judge (r, rk, ik, S, b, ln, fi) (sci Γ (k + 1))).2) kr ar it mv Q (sp_judge (r, rk, ik, S, b, ln, fi) (sci Γ (k + 1))).2) := y_judge h.1.2.2.1 h.1.1
  obtain ⟨M', kk⟩ := K (sp_judge (r, rk, ik, S, b, ln, fi) (sci Γ (k + 1))).2 t J kr ar it mv Q (lI_kp h (i_judge h.1) kp_judge)
  exact ⟨M', lc_judge hk hN ex e lM_0 y_42 kk⟩
theorem lq_image {Γ : aG} {l : Launch} {M : Nat → aC} {k : Nat} {σ : sS} {t : rT} {J : Int32 × Int32 × Int32 × Int32} {kr ar it mv : Nat → Int32} {Q : yQ} (hk : k + 6 ≤ Γ.2.2.2 6000) (hN : Γ.2.2.2 6000 ≤ 3072) (h : lI σ kr) (K : lK Γ l M k) : ∃ M' : Nat → aC, Fr Γ l kL_law 1331 [(0, .ref 5000), (1, .ref 0), (2, .ref 42), (3, .int (nI k))] [] 54 54 1701 (lM M σ t J kr ar it mv Q) (some (.int 1)) 54 M' := by
  obtain ⟨r, rk, ik, S, b, ln, fi⟩ := σ
  have e : Ev Γ l mX4_image [.ref 0] 54 (xM (yM M r kr ar ik fi b ln S it mv Q) r rk t ik S (b, ln, J) fi) (some (.int (sp_image (r, rk, ik, S, b, ln, fi)).1)) 54 (xF (yM M r kr ar ik fi b ln S it mv Q) t J (sp_image (r, rk, ik, S, b, ln, fi)).2) := x_image 
  rw [lM_x, xF_y] at e
  have ex := e
  clear e
  have e : Ev Γ l mX5_image [.ref 42] 54 (yM (xF M t J (sp_image (r, rk, ik, S, b, ln, fi)).2) r kr ar ik fi b ln S it mv Q) (some (.int (sp_image (r, rk, ik, S, b, ln, fi)).1)) 54 (yF (xF M t J (sp_image (r, rk, ik, S, b, ln, fi)).2) (row r) ar it mv Q (sp_image (r, rk, ik, S, b, ln, fi)).2) := y_image 
  obtain ⟨M', kk⟩ := K (sp_image (r, rk, ik, S, b, ln, fi)).2 t J (row r) ar it mv Q ⟨i_image h.1, Or.inr rfl⟩
  exact ⟨M', lc_image hk hN ex e lM_0 y_42 kk⟩
theorem kp_undo {σ : sS} : kp σ (sp_undo σ).2 := by
  unfold sp_undo
  try unfold orN
  repeat' split
  all_goals exact ⟨rfl, rfl⟩
theorem lq_undo {Γ : aG} {l : Launch} {M : Nat → aC} {k : Nat} {σ : sS} {t : rT} {J : Int32 × Int32 × Int32 × Int32} {kr ar it mv : Nat → Int32} {Q : yQ} (hk : k + 6 ≤ Γ.2.2.2 6000) (hN : Γ.2.2.2 6000 ≤ 3072) (h : lI σ kr) (K : lK Γ l M k) : ∃ M' : Nat → aC, Fr Γ l kL_law 1344 [(0, .ref 5000), (1, .ref 0), (2, .ref 42), (3, .int (nI k))] [] 54 54 1701 (lM M σ t J kr ar it mv Q) (some (.int 1)) 54 M' := by
  obtain ⟨r, rk, ik, S, b, ln, fi⟩ := σ
  have e : Ev Γ l mX4_undo [.ref 0] 54 (xM (yM M r kr ar ik fi b ln S it mv Q) r rk t ik S (b, ln, J) fi) (some (.int (sp_undo (r, rk, ik, S, b, ln, fi)).1)) 54 (xF (yM M r kr ar ik fi b ln S it mv Q) t J (sp_undo (r, rk, ik, S, b, ln, fi)).2) := x_undo 
  rw [lM_x, xF_y] at e
  have ex := e
  clear e
  have e : Ev Γ l mX5_undo [.ref 42] 54 (yM (xF M t J (sp_undo (r, rk, ik, S, b, ln, fi)).2) r kr ar ik fi b ln S it mv Q) (some (.int (sp_undo (r, rk, ik, S, b, ln, fi)).1)) 54 (yF (xF M t J (sp_undo (r, rk, ik, S, b, ln, fi)).2) kr ar it mv Q (sp_undo (r, rk, ik, S, b, ln, fi)).2) := by
    rcases h.2 with h0 | h0
    · exact y_undo0 h0
    · have h1 : kr = row rk := h0
      subst h1
      exact y_undo
  obtain ⟨M', kk⟩ := K (sp_undo (r, rk, ik, S, b, ln, fi)).2 t J kr ar it mv Q (lI_kp h (i_undo h.1) kp_undo)
  exact ⟨M', lc_undo hk hN ex e lM_0 y_42 kk⟩
theorem lq_tear {Γ : aG} {l : Launch} {M : Nat → aC} {k : Nat} {σ : sS} {t : rT} {J : Int32 × Int32 × Int32 × Int32} {kr ar it mv : Nat → Int32} {Q : yQ} (hk : k + 6 ≤ Γ.2.2.2 6000) (hN : Γ.2.2.2 6000 ≤ 3072) (h : lI σ kr) (K : lK Γ l M k) : ∃ M' : Nat → aC, Fr Γ l kL_law 1357 [(0, .ref 5000), (1, .ref 0), (2, .ref 42), (3, .int (nI k))] [] 54 54 1701 (lM M σ t J kr ar it mv Q) (some (.int 1)) 54 M' := by
  obtain ⟨r, rk, ik, S, b, ln, fi⟩ := σ
  have e : Ev Γ l mX4_tear [.ref 0] 54 (xM (yM M r kr ar ik fi b ln S it mv Q) r rk t ik S (b, ln, J) fi) (some (.int (sp_tear (r, rk, ik, S, b, ln, fi)).1)) 54 (xF (yM M r kr ar ik fi b ln S it mv Q) t J (sp_tear (r, rk, ik, S, b, ln, fi)).2) := x_tear 
  rw [lM_x, xF_y] at e
  have ex := e
  clear e
  have e : Ev Γ l mX5_tear [.ref 42] 54 (yM (xF M t J (sp_tear (r, rk, ik, S, b, ln, fi)).2) r kr ar ik fi b ln S it mv Q) (some (.int (sp_tear (r, rk, ik, S, b, ln, fi)).1)) 54 (yF (xF M t J (sp_tear (r, rk, ik, S, b, ln, fi)).2) kr ar it mv Q (sp_tear (r, rk, ik, S, b, ln, fi)).2) := y_tear 
  obtain ⟨M', kk⟩ := K (sp_tear (r, rk, ik, S, b, ln, fi)).2 t J kr ar it mv Q ⟨i_tear h.1, Or.inl rfl⟩
  exact ⟨M', lc_tear hk hN ex e lM_0 y_42 kk⟩
theorem kp_count {σ : sS} {a1 : Int32} : kp σ (sp_count σ a1).2 := by
  unfold sp_count
  try unfold orN
  repeat' split
  all_goals exact ⟨rfl, rfl⟩
theorem lq_count {Γ : aG} {l : Launch} {M : Nat → aC} {k : Nat} {σ : sS} {t : rT} {J : Int32 × Int32 × Int32 × Int32} {kr ar it mv : Nat → Int32} {Q : yQ} (hk : k + 6 ≤ Γ.2.2.2 6000) (hN : Γ.2.2.2 6000 ≤ 3072) (h : lI σ kr) (K : lK Γ l M k) : ∃ M' : Nat → aC, Fr Γ l kL_law 1370 [(0, .ref 5000), (1, .ref 0), (2, .ref 42), (3, .int (nI k))] [] 54 54 1701 (lM M σ t J kr ar it mv Q) (some (.int 1)) 54 M' := by
  obtain ⟨r, rk, ik, S, b, ln, fi⟩ := σ
  have e : Ev Γ l mX4_count [.ref 0, .int (sci Γ (k + 1))] 54 (xM (yM M r kr ar ik fi b ln S it mv Q) r rk t ik S (b, ln, J) fi) (some (.int (sp_count (r, rk, ik, S, b, ln, fi) (sci Γ (k + 1))).1)) 54 (xF (yM M r kr ar ik fi b ln S it mv Q) t J (sp_count (r, rk, ik, S, b, ln, fi) (sci Γ (k + 1))).2) := x_count h.1.1
  rw [lM_x, xF_y] at e
  have ex := e
  clear e
  have e : Ev Γ l mX5_count [.ref 42, .int (sci Γ (k + 1))] 54 (yM (xF M t J (sp_count (r, rk, ik, S, b, ln, fi) (sci Γ (k + 1))).2) r kr ar ik fi b ln S it mv Q) (some (.int (sp_count (r, rk, ik, S, b, ln, fi) (sci Γ (k + 1))).1)) 54 (yF (xF M t J (sp_count (r, rk, ik, S, b, ln, fi) (sci Γ (k + 1))).2) kr ar it mv Q (sp_count (r, rk, ik, S, b, ln, fi) (sci Γ (k + 1))).2) := y_count h.1.1
  obtain ⟨M', kk⟩ := K (sp_count (r, rk, ik, S, b, ln, fi) (sci Γ (k + 1))).2 t J kr ar it mv Q (lI_kp h (i_count h.1) kp_count)
  exact ⟨M', lc_count hk hN ex e lM_0 y_42 kk⟩
theorem kp_status {σ : sS} {a1 : Int32} : kp σ (sp_status σ a1).2 := by
  unfold sp_status
  try unfold orN
  repeat' split
  all_goals exact ⟨rfl, rfl⟩
theorem lq_status {Γ : aG} {l : Launch} {M : Nat → aC} {k : Nat} {σ : sS} {t : rT} {J : Int32 × Int32 × Int32 × Int32} {kr ar it mv : Nat → Int32} {Q : yQ} (hk : k + 6 ≤ Γ.2.2.2 6000) (hN : Γ.2.2.2 6000 ≤ 3072) (h : lI σ kr) (K : lK Γ l M k) : ∃ M' : Nat → aC, Fr Γ l kL_law 1393 [(0, .ref 5000), (1, .ref 0), (2, .ref 42), (3, .int (nI k))] [] 54 54 1701 (lM M σ t J kr ar it mv Q) (some (.int 1)) 54 M' := by
  obtain ⟨r, rk, ik, S, b, ln, fi⟩ := σ
  have e : Ev Γ l mX4_status [.ref 0, .int (sci Γ (k + 1))] 54 (xM (yM M r kr ar ik fi b ln S it mv Q) r rk t ik S (b, ln, J) fi) (some (.int (sp_status (r, rk, ik, S, b, ln, fi) (sci Γ (k + 1))).1)) 54 (xF (yM M r kr ar ik fi b ln S it mv Q) t J (sp_status (r, rk, ik, S, b, ln, fi) (sci Γ (k + 1))).2) := x_status 
  rw [lM_x, xF_y] at e
  have ex := e
  clear e
  have e : Ev Γ l mX5_status [.ref 42, .int (sci Γ (k + 1))] 54 (yM (xF M t J (sp_status (r, rk, ik, S, b, ln, fi) (sci Γ (k + 1))).2) r kr ar ik fi b ln S it mv Q) (some (.int (sp_status (r, rk, ik, S, b, ln, fi) (sci Γ (k + 1))).1)) 54 (yF (xF M t J (sp_status (r, rk, ik, S, b, ln, fi) (sci Γ (k + 1))).2) kr ar it mv Q (sp_status (r, rk, ik, S, b, ln, fi) (sci Γ (k + 1))).2) := y_status 
  obtain ⟨M', kk⟩ := K (sp_status (r, rk, ik, S, b, ln, fi) (sci Γ (k + 1))).2 t J kr ar it mv Q (lI_kp h (i_status h.1) kp_status)
  exact ⟨M', lc_status hk hN ex e lM_0 y_42 kk⟩
