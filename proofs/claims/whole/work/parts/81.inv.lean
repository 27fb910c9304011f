/-! ===== what stays so ===== -/
def sI (σ : sS) : Prop := wf σ.1 ∧ wf σ.2.1 ∧ wS σ.2.2.2.1 ∧ okv σ.2.2.2.2.2.1 121 ∧ ∀ p, ¬ σ.2.2.2.2.1 p < 0
theorem wi_ok {x M : Int32} {N : Nat} (h : wi x 0 M = true) (hM : M.toInt = N) (hN : N < 1000000) : okv x (N + 1) := by
  obtain ⟨j, hj, rfl⟩ := wi_nI (N := N) h hM
  exact okv_nI (by omega) (by omega)
theorem sI_fb {σ : sS} {k : Nat} (h : sI σ) : sI (fb σ k).2 := h
theorem sI_or {σ : sS} {v : Int32} (h : sI σ) : sI (orN σ v).2 := by
  unfold orN
  split
  · exact sI_fb h
  · exact h
theorem sI_sr {σ : sS} {r : rT} (h : sI σ) (w : wf r) : sI (sr σ r) := ⟨w, h.2⟩
theorem sI_if {σ : sS} {c : Prop} [Decidable c] {A B : Int32 × sS} (hA : c → sI A.2) (hB : ¬ c → sI B.2) : sI (if c then A else B).2 := by
  split
  · rename_i h; exact hA h
  · rename_i h; exact hB h
theorem wf_9 {r : rT} {i : Nat} {v : Int32} (w : wf r) (hi : 2 ≤ i) : wf (u2 r 9 i v) := wf_u w (fun _ => by omega) (fun z => by omega) (fun z => by omega) (fun z => by omega) (fun z => by omega) (by decide)
theorem wf_01 {r : rT} {q i : Nat} {v : Int32} (w : wf r) (hq : q < 2) : wf (u2 r q i v) := wf_u w (fun z => by omega) (fun z => by omega) (fun z => by omega) (fun z => by omega) (fun z => by omega) (by omega)
section INV
variable {σ : sS} (h : sI σ)
theorem i_set {a v : Int32} (h : sI σ) : sI (sp_set σ a v).2 := by
  unfold sp_set
  refine sI_if (σ := σ) (fun _ => ?_) (fun _ => sI_fb h)
  refine sI_if (σ := σ) (fun _ => sI_sr h (wf_9 h.1 (by decide))) (fun _ => ?_)
  exact sI_if (σ := σ) (fun _ => sI_sr h (wf_9 h.1 (by decide))) (fun _ => sI_sr h (wf_9 h.1 (by decide)))
theorem i_cell {a v : Int32} (h : sI σ) : sI (sp_cell σ a v).2 := sI_if (σ := σ) (fun _ => sI_sr h (wf_01 h.1 (by decide))) (fun _ => sI_fb h)
theorem i_measure {a v : Int32} (h : sI σ) : sI (sp_measure σ a v).2 := sI_if (σ := σ) (fun _ => sI_sr h (wf_01 h.1 (by decide))) (fun _ => sI_fb h)
theorem i_listed {a : Int32} (h : sI σ) : sI (sp_listed σ a).2 := sI_if (σ := σ) (fun _ => h) (fun _ => sI_fb h)
theorem i_wide {a v : Int32} (h : sI σ) : sI (sp_wide σ a v).2 := sI_if (σ := σ) (fun _ => h) (fun _ => sI_fb h)
theorem i_guest {k c : Int32} (h : sI σ) : sI (sp_guest σ k c).2 := by
  unfold sp_guest
  refine sI_if (σ := σ) (fun q => ?_) (fun _ => sI_fb h)
  refine sI_if (σ := σ) (fun q2 => ?_) (fun _ => sI_fb h)
  refine sI_sr h (wf_add h.1 ?_ (wi_ok (N := 6) q.1 rfl (by decide)) (wi_ok (N := 15) q.2 rfl (by decide)))
  have q3 := q2
  rw [h.1.ct] at q3
  exact (nI_ltI (b := 8) (by have := h.1.ctl; omega) (by decide)).mp q3
theorem i_of {a v : Int32} (h : sI σ) : sI (sp_of σ a v).2 := sI_if (σ := σ) (fun _ => h) (fun _ => sI_fb h)
theorem i_change {g a v : Int32} (h : sI σ) : sI (sp_change σ g a v).2 := by
  refine sI_if (σ := σ) (fun q => ?_) (fun _ => sI_fb h)
  obtain ⟨q1, q2, q3⟩ := q
  obtain ⟨j, hj, rfl⟩ := wi_nI (N := 5) q2 rfl
  have e : (nI j).toNatClampNeg = j := nI_clamp (by omega)
  refine sI_sr h ?_
  rw [e]
  refine wf_u h.1 (fun z => by omega) (fun z => ?_) (fun z => ?_) (fun z => ?_) (fun z => ?_) (by omega)
  · obtain rfl : j = 0 := by omega
    exact wi_ok (N := 6) q3 rfl (by decide)
  · obtain rfl : j = 1 := by omega
    exact wi_ok (N := 15) q3 rfl (by decide)
  · obtain rfl : j = 3 := by omega
    exact wi_ok (N := 15) q3 rfl (by decide)
  · obtain rfl : j = 4 := by omega
    exact wi_ok (N := 9999) q3 rfl (by decide)
theorem i_reach {a v : Int32} (h : sI σ) : sI (sp_reach σ a v).2 := sI_if (σ := σ) (fun _ => h) (fun _ => sI_fb h)
theorem i_go {n : Int32} (h : sI σ) : sI (sp_go σ n).2 := sI_if (σ := σ) (fun _ => sI_if (σ := σ) (fun _ => sI_fb h) (fun _ => sI_sr h (wf_hours _ _ h.1))) (fun _ => sI_fb h)
theorem i_now {a : Int32} (h : sI σ) : sI (sp_now σ a).2 := by
  unfold sp_now
  repeat' split
  all_goals first | exact h | exact sI_fb h
theorem i_ahead {g a n : Int32} (h : sI σ) : sI (sp_ahead σ g a n).2 := sI_if (σ := σ) (fun _ => h) (fun _ => sI_fb h)
theorem i_strain {n : Int32} (h : sI σ) : sI (sp_strain σ n).2 := sI_if (σ := σ) (fun _ => h) (fun _ => sI_fb h)
theorem i_snaps (h : sI σ) : sI (sp_snaps σ).2 := sI_or h
theorem i_comes {g c : Int32} (h : sI σ) : sI (sp_comes σ g c).2 := sI_if (σ := σ) (fun _ => sI_or h) (fun _ => sI_fb h)
theorem i_stuck {g c : Int32} (h : sI σ) : sI (sp_stuck σ g c).2 := sI_if (σ := σ) (fun _ => sI_or h) (fun _ => sI_fb h)
theorem i_tight {g c : Int32} (h : sI σ) : sI (sp_tight σ g c).2 := sI_if (σ := σ) (fun _ => sI_or h) (fun _ => sI_fb h)
theorem i_measureFor {g c : Int32} (h : sI σ) : sI (sp_measureFor σ g c).2 := sI_if (σ := σ) (fun _ => sI_or h) (fun _ => sI_fb h)
theorem i_kindFor {g c : Int32} (h : sI σ) : sI (sp_kindFor σ g c).2 := sI_if (σ := σ) (fun _ => h) (fun _ => sI_fb h)
theorem i_sizeFor {g c : Int32} (h : sI σ) : sI (sp_sizeFor σ g c).2 := sI_if (σ := σ) (fun _ => sI_or h) (fun _ => sI_fb h)
theorem i_send {n : Int32} (h : sI σ) : sI (sp_send σ n).2 := sI_if (σ := σ) (fun _ => sI_or h) (fun _ => sI_fb h)
theorem i_fits {g c : Int32} (h : sI σ) : sI (sp_fits σ g c).2 := sI_if (σ := σ) (fun _ => sI_if (σ := σ) (fun _ => sI_fb h) (fun _ => sI_if (σ := σ) (fun _ => h) (fun _ => sI_fb h))) (fun _ => sI_fb h)
theorem i_kinds {g c : Int32} (h : sI σ) : sI (sp_kinds σ g c).2 := sI_if (σ := σ) (fun _ => sI_if (σ := σ) (fun _ => sI_fb h) (fun _ => sI_if (σ := σ) (fun _ => h) (fun _ => sI_fb h))) (fun _ => sI_fb h)
theorem wf_prt : ∀ (n : Nat) (r : rT), wf r → wf (s_prt n r) := by
  intro n
  induction n with
  | zero => intro r w; exact w
  | succ n ih => intro r w; exact ih _ (wf_party w)
theorem i_party {n : Int32} (h : sI σ) : sI (sp_party σ n).2 := sI_if (σ := σ) (fun _ => sI_if (σ := σ) (fun _ => sI_fb h) (fun _ => sI_sr h (wf_prt _ _ h.1))) (fun _ => sI_fb h)
theorem i_odds {g n w : Int32} (h : sI σ) : sI (sp_odds σ g n w).2 := by
  unfold sp_odds
  split
  · exact h
  · exact sI_fb h
theorem i_seed {v : Int32} (h : sI σ) : sI (sp_seed σ v).2 := sI_sr h (wf_9 h.1 (by decide))
theorem and255 (x : Int32) : ¬ x &&& 255 < 0 := by
  have e : (x &&& 255).toBitVec.toNat < 256 := by
    show (x.toBitVec &&& 255#32).toNat < 256
    rw [BitVec.toNat_and]
    exact Nat.lt_of_le_of_lt Nat.and_le_right (by decide)
  rw [lt_i, show (0 : Int32).toInt = 0 from by decide]
  show ¬ (x &&& 255).toBitVec.toInt < 0
  rw [BitVec.toInt_eq_toNat_cond, if_pos (by omega)]
  omega
theorem feed_ok (x : Int32) : ∀ (n k : Nat) (b : Nat → Int32), k + n ≤ 120 → (∀ p, ¬ b p < 0) → okv (s_feed x n b (nI k)).2 121 ∧ ∀ p, ¬ (s_feed x n b (nI k)).1 p < 0 := by
  intro n
  induction n with
  | zero => intro k b hk hb; exact ⟨okv_nI (by omega) (by decide), hb⟩
  | succ n ih =>
    intro k b hk hb
    rw [s_feed, nI_1]
    refine ih (k + 1) _ (by omega) (fun p => ?_)
    unfold upd
    split
    · exact and255 _
    · exact hb p
theorem i_feed {x n : Int32} (h : sI σ) : sI (sp_feed σ x n).2 := by
  refine sI_if (σ := σ) (fun q => ?_) (fun _ => sI_fb h)
  refine sI_if (σ := σ) (fun _ => sI_fb h) (fun q2 => ?_)
  obtain ⟨r, rk, ik, S, b, ln, fi⟩ := σ
  obtain ⟨j, hj, rfl⟩ := wi_1 (N := 4) q rfl
  have e : (nI j).toNatClampNeg = j := nI_clamp (by omega)
  obtain ⟨h1, h2, h3, ⟨h4, h5⟩, h6⟩ := h
  dsimp only at h4 h5 h6 q2 ⊢
  generalize ln.toNatClampNeg = k at h4 h5
  subst h4
  rw [show (120 : Int32) - nI k = nI (120 - k) from pk_sub (a := 120) (by omega), nI_ltI (by omega) (by omega)] at q2
  rw [e]
  have hf := feed_ok x j k b (by omega) h6
  exact ⟨h1, h2, h3, hf.1, hf.2⟩
theorem i_wipe (h : sI σ) : sI (sp_wipe σ).2 := ⟨h.1, h.2.1, h.2.2.1, okv_nI (a := 0) (by decide) (by decide), h.2.2.2.2⟩
theorem i_text (h : sI σ) : sI (sp_text σ).2 := by
  refine ⟨?_, h.2.1, h.2.2.1, okv_nI (a := 0) (by decide) (by decide), h.2.2.2.2⟩
  show wf (if _ then _ else _)
  split
  · exact h.1
  · exact (pr_og (Φ := tw σ.2.2.2.2.2.1.toNatClampNeg) (fun _ => twM) 120 1 _ _ (tw_n (Nat.zero_le _)).1 h.1).2
theorem i_hold {s g : Int32} (h : sI σ) : sI (sp_hold σ s g).2 := by
  refine sI_if (σ := σ) (fun q => ?_) (fun _ => sI_fb h)
  refine sI_sr h (wf_u2 h.1 (fun z => by omega) (fun z => by omega) (fun z => by omega) (fun z => by omega) (fun z => by omega) (fun z => by omega) (fun _ => ?_))
  rcases q.2 with q | q
  · exact Or.inl q
  · obtain ⟨i, hi, rfl⟩ := sG_nI h.1 q
    exact Or.inr (okv_nI hi (by have := h.1.ctl; omega))
theorem i_as {s g : Int32} (h : sI σ) : sI (sp_as σ s g).2 := sI_if (σ := σ) (fun _ => sI_if (σ := σ) (fun _ => sI_if (σ := σ) (fun _ => h) (fun _ => sI_fb h)) (fun _ => sI_fb h)) (fun _ => sI_fb h)
theorem i_sheet {s q n : Int32} (h : sI σ) : sI (sp_sheet σ s q n).2 := by
  refine sI_if (σ := σ) (fun hc => ?_) (fun _ => sI_fb h)
  refine sI_if (σ := σ) (fun _ => sI_fb h) (fun h0 => ?_)
  refine sI_if (σ := σ) (fun _ => sI_fb h) (fun h4 => ?_)
  have hq := of_decide_eq_true hc.2
  refine ⟨h.1, h.2.1, ⟨fun i hi => ?_, fun i hi => ?_⟩, h.2.2.2⟩
  · show okv (upd σ.2.2.2.1.2.2 s.toNatClampNeg _ i) 41
    unfold upd
    split
    · split
      · exact okv_nI (a := 0) (by decide) (by decide)
      · exact wi_ok (N := 40) (decide_eq_true ⟨h0, h4⟩) rfl (by decide)
    · exact h.2.2.1.1 i hi
  · show upd σ.2.2.2.1.2.1 s.toNatClampNeg q i = 0 ∨ upd σ.2.2.2.1.2.1 s.toNatClampNeg q i = 8 ∨ upd σ.2.2.2.1.2.1 s.toNatClampNeg q i = 16 ∨ upd σ.2.2.2.1.2.1 s.toNatClampNeg q i = 32
    unfold upd
    by_cases e : i = s.toNatClampNeg
    · rw [if_pos e]; exact hq
    · rw [if_neg e]; exact h.2.2.1.2 i hi
theorem sI_S {nu : Nat → Nat → Int32} (h : sI σ) : sI (sS4 σ (nu, σ.2.2.2.1.2)) := ⟨h.1, h.2.1, h.2.2.1, h.2.2.2⟩
theorem i_write {s i v : Int32} (h : sI σ) : sI (sp_write σ s i v).2 := sI_if (σ := σ) (fun _ => sI_if (σ := σ) (fun _ => sI_fb h) (fun _ => sI_if (σ := σ) (fun _ => sI_S h) (fun _ => sI_fb h))) (fun _ => sI_fb h)
theorem i_copy {s f t g n : Int32} (h : sI σ) : sI (sp_copy σ s f t g n).2 := sI_if (σ := σ) (fun _ => sI_if (σ := σ) (fun _ => sI_fb h) (fun _ => sI_if (σ := σ) (fun _ => sI_if (σ := σ) (fun _ => sI_S h) (fun _ => sI_fb h)) (fun _ => sI_fb h))) (fun _ => sI_fb h)
theorem wf_load {f : Nat → Int32} : ∀ (k c : Nat) (r : rT), wf r → wf (s_load f k c r).2 := by
  intro k
  induction k with
  | zero => intro c r w; exact w
  | succ k ih =>
    intro c r w
    rw [s_load]
    split
    · exact ih _ _ (wf_01 w (by decide))
    · exact w
theorem i_load {s : Int32} (h : sI σ) : sI (sp_load σ s).2 := sI_if (σ := σ) (fun _ => sI_if (σ := σ) (fun _ => sI_fb h) (fun _ => sI_sr h (wf_load _ _ _ h.1))) (fun _ => sI_fb h)
theorem i_judge {s : Int32} (h : sI σ) : sI (sp_judge σ s).2 := sI_if (σ := σ) (fun _ => sI_if (σ := σ) (fun _ => sI_fb h) (fun _ => h)) (fun _ => sI_fb h)
theorem i_image (h : sI σ) : sI (sp_image σ).2 := ⟨h.1, h.1, h.2.2⟩
theorem i_undo (h : sI σ) : sI (sp_undo σ).2 := sI_if (σ := σ) (fun _ => sI_fb h) (fun _ => sI_sr h h.2.1)
theorem i_tear (h : sI σ) : sI (sp_tear σ).2 := ⟨h.1, h.2.1, h.2.2⟩
theorem i_count {a : Int32} (h : sI σ) : sI (sp_count σ a).2 := by
  unfold sp_count
  repeat' split
  all_goals first | exact h | exact sI_fb h
theorem i_status {a : Int32} (h : sI σ) : sI (sp_status σ a).2 := sI_if (σ := σ) (fun _ => sI_if (σ := σ) (fun _ => h) (fun _ => h)) (fun _ => sI_fb h)
end INV
