section TOG
variable {b : Nat → Int32} {Φ : tk → Prop} {nx : tk → tk}
theorem pp_og (hx : ∀ T, Φ T → Φ (nx T)) {q N : Nat} {lo hi : Int32} {T : tk} {t : rT} (hT : Φ T) (w : wf t) (hq : q < 2) : Φ (p_pair nx q N lo hi T t).2.1 ∧ wf (p_pair nx q N lo hi T t).2.2 := by
  unfold p_pair
  split
  · split
    · exact ⟨hx _ (hx _ (hx _ hT)), wf_u w (fun h => by omega) (fun h => by omega) (fun h => by omega) (fun h => by omega) (fun h => by omega) (by omega)⟩
    · exact ⟨hx _ (hx _ hT), w⟩
  · exact ⟨hx _ hT, w⟩
theorem pt_og (hx : ∀ T, Φ T → Φ (nx T)) {wd : List Int32} {q g : Nat} {lo hi : Int32} {T : tk} {t : rT} (hT : Φ T) (w : wf t) (hq : q = 4 ∨ q = 5 ∧ ¬ lo < 0 ∧ hi = nI 16 - 1) : Φ (p_trait b nx wd q g lo hi T t).2.1 ∧ wf (p_trait b nx wd q g lo hi T t).2.2 := by
  unfold p_trait
  split
  · split
    · rename_i h1 h2
      refine ⟨hx _ (hx _ hT), wf_u w (fun h => by omega) (fun h => by omega) (fun h => by omega) (fun h => ?_) (fun h => by omega) (by omega)⟩
      rcases hq with hq | hq
      · omega
      · exact num_ok (by decide) h2 hq.2.1 hq.2.2
    · exact ⟨hx _ hT, w⟩
  · exact ⟨hT, w⟩
theorem pg_og (hx : ∀ T, Φ T → Φ (nx T)) {k c : Int32} {T : tk} {t : rT} (hT : Φ T) (w : wf t) (hc : cnt t < 8) (hk : okv k 7) (ha : okv c 16) : Φ (p_g2 b nx k c T t).2.1 ∧ wf (p_g2 b nx k c T t).2.2 := by
  have h1 := pt_og (b := b) (wd := (a_ss 8).2.2.2) (q := 4) (g := cnt t) (lo := 1) (hi := 40) hx hT (wf_add w hc hk ha) (Or.inl rfl)
  unfold p_g2 p_g3
  split
  · exact pt_og hx h1.1 h1.2 (Or.inr ⟨rfl, by decide, by decide⟩)
  · exact h1
theorem pu_og (hx : ∀ T, Φ T → Φ (nx T)) {k : Int32} {T : tk} {t : rT} (hT : Φ T) (w : wf t) (hk : okv k 7) : Φ (p_guest b nx k T t).2.1 ∧ wf (p_guest b nx k T t).2.2 := by
  unfold p_guest
  split
  · rename_i h
    have hc : cnt t < 8 := by
      rw [w.ct] at h
      exact (nI_ltI (b := 8) (by have := w.ctl; omega) (by decide)).mp h
    split
    · split
      · rename_i h2
        exact pg_og hx (hx _ (hx _ (hx _ hT))) w hc hk (num_ok (by decide) h2 (by decide) (by decide))
      · exact ⟨hx _ (hx _ hT), w⟩
    · exact pg_og hx (hx _ hT) w hc hk (okv_nI (a := 0) (by decide) (by decide))
  · exact ⟨hT, w⟩
theorem pi_og (hx : ∀ T, Φ T → Φ (nx T)) {T : tk} {t : rT} (hT : Φ T) (w : wf t) : Φ (p_item b nx T t).2.1 ∧ wf (p_item b nx T t).2.2 := by
  unfold p_item
  split
  · split
    · exact pp_og hx hT w (by decide)
    · split
      · exact pp_og hx hT w (by decide)
      · split
        · split
          · exact ⟨hx _ (hx _ hT), wf_u w (fun h => by omega) (fun h => by omega) (fun h => by omega) (fun h => by omega) (fun h => by omega) (by decide)⟩
          · exact ⟨hx _ hT, w⟩
        · exact ⟨hT, w⟩
  · rename_i h
    exact pu_og hx hT w (kt_ok 7 0 rfl h)
theorem pr_og (hx : ∀ T, Φ T → Φ (nx T)) : ∀ (f i : Nat) (T : tk) (t : rT), Φ T → wf t → Φ (p_read b nx f i T t).2.1 ∧ wf (p_read b nx f i T t).2.2 := by
  intro f
  induction f with
  | zero => intro i T t hT w; exact ⟨hT, w⟩
  | succ f ih =>
    intro i T t hT w
    have h1 := pi_og (b := b) hx hT w
    rw [p_read]
    split
    · split
      · exact h1
      · split
        · exact ih _ _ _ (hx _ h1.1) h1.2
        · exact h1
    · exact h1
end TOG
/-- a token in its place, that tells what stands at its begin -/
def tz (b : Nat → Int32) (L : Nat) (T : tk) : Prop := tw L T ∧ (T.2.2.1 = 3 → b T.1 = 59 ∧ T.1 < L) ∧ (T.2.2.1 = 4 → ¬ b T.1 = 59 ∧ T.1 < L) ∧ (T.2.2.1 = 3 → T.2.1 = T.1 + 1)
theorem tz_n {b : Nat → Int32} {L p : Nat} {n : Int32} (h : p ≤ L) : tz b L (tkn b L p n) := by
  refine ⟨(tw_n h).1, ?_⟩
  unfold tkn tk_at
  split
  · rename_i hl
    split
    · exact ⟨fun h => absurd (show (1 : Nat) = 3 from h) (by decide), fun h => absurd (show (1 : Nat) = 4 from h) (by decide), fun h => absurd (show (1 : Nat) = 3 from h) (by decide)⟩
    · split
      · exact ⟨fun h => absurd (show (2 : Nat) = 3 from h) (by decide), fun h => absurd (show (2 : Nat) = 4 from h) (by decide), fun h => absurd (show (2 : Nat) = 3 from h) (by decide)⟩
      · split
        · rename_i h9
          exact ⟨fun _ => ⟨h9, hl⟩, fun h => absurd (show (3 : Nat) = 4 from h) (by decide), fun _ => rfl⟩
        · rename_i h9
          exact ⟨fun h => absurd (show (4 : Nat) = 3 from h) (by decide), fun _ => ⟨h9, hl⟩, fun h => absurd (show (4 : Nat) = 3 from h) (by decide)⟩
  · exact ⟨fun h => absurd (show (0 : Nat) = 3 from h) (by decide), fun h => absurd (show (0 : Nat) = 4 from h) (by decide), fun h => absurd (show (0 : Nat) = 3 from h) (by decide)⟩
theorem tz_x {b : Nat → Int32} {L : Nat} (T : tk) (h : tz b L T) : tz b L (nxM b L T) := tz_n h.1.2.1
/-- a token that begins no sooner than c -/
def tg (L c : Nat) (T : tk) : Prop := tw L T ∧ c ≤ T.1
theorem tg_x {b : Nat → Int32} {L c : Nat} (T : tk) (h : tg L c T) : tg L c (nxM b L T) := ⟨(tw_n h.1.2.1).1, Nat.le_trans h.2 (Nat.le_trans h.1.1 (tw_n (b := b) (n := 0) h.1.2.1).2)⟩
theorem tg_1 {b : Nat → Int32} {L : Nat} {T : tk} (h : tw L T) (h1 : T.1 + 1 ≤ T.2.1) : tg L (T.1 + 1) (nxM b L T) := ⟨(tw_n h.2.1).1, Nat.le_trans h1 (tw_n (b := b) (n := 0) h.2.1).2⟩
theorem wd_len : ∀ k : Nat, k < 13 → 1 ≤ (a_ss k).2.2.2.length := by decide +kernel
theorem is_len {b : Nat → Int32} {T : tk} {k : Nat} (hk : k < 13) (h : tk_is b T (a_ss k).2.2.2 = true) : T.1 + 1 ≤ T.2.1 := by
  have h1 := (is_1 h).2
  have h2 := wd_len k hk
  omega
theorem kt_len {b : Nat → Int32} {T : tk} : ∀ (j k : Nat), k + j = 7 → ¬ s_kt b T j k < 0 → T.1 + 1 ≤ T.2.1 := by
  intro j
  induction j with
  | zero => intro k _ h; exact absurd (show (-1 : Int32) < 0 by decide) h
  | succ j ih =>
    intro k hk h
    rw [s_kt] at h
    split at h
    · rename_i q
      exact is_len (k := wk k) (by unfold wk; split <;> omega) q
    · exact ih (k + 1) (by omega) h
theorem pg_pos {b : Nat → Int32} {L c : Nat} {k x : Int32} {T : tk} {t : rT} (hT : tg L c T) : tg L c (p_g2 b (nxM b L) k x T t).2.1 := by
  have h1 : tg L c (p_trait b (nxM b L) (a_ss 8).2.2.2 4 (cnt t) 1 40 T (s_add t k x)).2.1 := by
    unfold p_trait
    split
    · split
      · exact tg_x _ (tg_x _ hT)
      · exact tg_x _ hT
    · exact hT
  unfold p_g2 p_g3
  split
  · generalize p_trait b (nxM b L) (a_ss 8).2.2.2 4 (cnt t) 1 40 T (s_add t k x) = P at h1 ⊢
    unfold p_trait
    split
    · split
      · exact tg_x _ (tg_x _ h1)
      · exact tg_x _ h1
    · exact h1
  · exact h1
/-- an item that went well moves the reading on -/
theorem pi_pos {b : Nat → Int32} {L : Nat} {T : tk} {t : rT} (hT : tw L T) (h : (p_item b (nxM b L) T t).1 = true) : T.1 + 1 ≤ (p_item b (nxM b L) T t).2.1.1 := by
  unfold p_item at h ⊢
  split at h
  · rename_i h0
    rw [if_pos h0]
    split at h
    · rename_i w1
      rw [if_pos w1]
      have g1 := tg_1 (b := b) hT (is_len (by decide) w1)
      unfold p_pair
      split
      · split
        · exact (tg_x _ (tg_x _ g1)).2
        · exact (tg_x _ g1).2
      · exact g1.2
    · rename_i w1
      rw [if_neg w1]
      split at h
      · rename_i w2
        rw [if_pos w2]
        have g1 := tg_1 (b := b) hT (is_len (by decide) w2)
        unfold p_pair
        split
        · split
          · exact (tg_x _ (tg_x _ g1)).2
          · exact (tg_x _ g1).2
        · exact g1.2
      · rename_i w2
        rw [if_neg w2]
        split at h
        · rename_i w3
          rw [if_pos w3]
          have g1 := tg_1 (b := b) hT (is_len (by decide) w3)
          split
          · exact (tg_x _ g1).2
          · exact g1.2
        · cases h
  · rename_i h0
    rw [if_neg h0]
    have g1 := tg_1 (b := b) hT (kt_len 7 0 rfl h0)
    unfold p_guest at h ⊢
    split at h
    · rename_i z0
      rw [if_pos z0]
      split
      · split
        · exact (pg_pos (tg_x _ (tg_x _ g1))).2
        · exact (tg_x _ g1).2
      · exact (pg_pos g1).2
    · cases h
theorem ok10 {it : Nat → Int32} {k : Nat} {t : rT} (h : okI it k t) (e : it (4 * k) = 10) : okv (it (4 * k + 1)) 16 := by
  rcases h with h | h | h | h
  · exact h.2
  · exact absurd (e.symm.trans h.1) (by decide)
  · exact absurd (e.symm.trans h) (by decide)
  · exact absurd e h.1
theorem ok11 {it : Nat → Int32} {k : Nat} {t : rT} (h : okI it k t) (e : it (4 * k) = 11) : okv (it (4 * k + 1)) 6 := by
  rcases h with h | h | h | h
  · exact absurd (e.symm.trans h.1) (by decide)
  · exact h.2
  · exact absurd (e.symm.trans h) (by decide)
  · exact absurd e h.2.1
theorem okd {it : Nat → Int32} {k : Nat} {t : rT} (h : okI it k t) (h0 : ¬ it (4 * k) = 10) (h1 : ¬ it (4 * k) = 11) (h2 : ¬ it (4 * k) = 12) : wf t ∧ cnt t < 8 := by
  rcases h with h | h | h | h
  · exact absurd h.1 h0
  · exact absurd h.1 h1
  · exact absurd h h2
  · exact h.2.2.2
theorem pl_o {x : Int32} (c : Nat) (h : x = nI x.toNatClampNeg) : nI c + x = nI (c + x.toNatClampNeg) := (congrArg (nI c + ·) h).trans (nI_add _ _)
