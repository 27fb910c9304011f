/-! ===== texts: places, ranges, registers ===== -/
theorem okv_mono {x : Int32} {N N' : Nat} (h : okv x N) (hN : N ≤ N') : okv x N' := ⟨h.1, Nat.lt_of_lt_of_le h.2 hN⟩
theorem wf_inc {r : rT} (w : wf r) (hc : cnt r < 8) : wf (u2 r 9 1 (r 9 1 + 1)) := by
  have e : r 9 1 + 1 = nI (cnt r + 1) := by rw [w.ct, nI_1]
  have ec : cnt (u2 r 9 1 (r 9 1 + 1)) = cnt r + 1 := by
    show (r 9 1 + 1).toNatClampNeg = _
    rw [e]
    exact nI_clamp (by omega)
  refine ⟨w.1, ?_, w.2.2.1, w.2.2.2.1, w.2.2.2.2.1, w.2.2.2.2.2.1, fun i hi => ?_⟩
  · show okv (r 9 1 + 1) 9
    rw [e]
    exact okv_nI (by omega) (by decide)
  · rw [ec]
    rcases w.2.2.2.2.2.2 i hi with h | h
    · exact Or.inl h
    · exact Or.inr (okv_mono h (by omega))
theorem wf_u {r : rT} {q i : Nat} {v : Int32} (w : wf r) (h0 : q = 9 → 3 ≤ i ∨ i = 2) (h2 : q = 2 → okv v 7) (h3 : q = 3 → okv v 16) (h5 : q = 5 → okv v 16) (h6 : q = 6 → okv v 10000) (h8 : ¬ q = 8) : wf (u2 r q i v) :=
  wf_u2 w (fun a c => by have := h0 a; omega) (fun a => by have := h0 a; omega) h2 h3 h5 h6 (fun a => absurd a h8)
theorem wf_add {r : rT} {k c : Int32} (w : wf r) (hc : cnt r < 8) (hk : okv k 7) (ha : okv c 16) : wf (s_add r k c) := by
  have w1 : wf (u2 r 2 (cnt r) k) := wf_u w (fun h => by omega) (fun _ => hk) (fun h => by omega) (fun h => by omega) (fun h => by omega) (by decide)
  have w2 : wf (u2 (u2 r 2 (cnt r) k) 3 (cnt r) c) := wf_u w1 (fun h => by omega) (fun h => by omega) (fun _ => ha) (fun h => by omega) (fun h => by omega) (by decide)
  have w3 : wf (u2 (u2 (u2 r 2 (cnt r) k) 3 (cnt r) c) 4 (cnt r) 10) := wf_u w2 (fun h => by omega) (fun h => by omega) (fun h => by omega) (fun h => by omega) (fun h => by omega) (by decide)
  have w4 : wf (u2 (u2 (u2 (u2 r 2 (cnt r) k) 3 (cnt r) c) 4 (cnt r) 10) 5 (cnt r) c) := wf_u w3 (fun h => by omega) (fun h => by omega) (fun h => by omega) (fun _ => ha) (fun h => by omega) (by decide)
  have w5 : wf (u2 (u2 (u2 (u2 (u2 r 2 (cnt r) k) 3 (cnt r) c) 4 (cnt r) 10) 5 (cnt r) c) 6 (cnt r) 0) := wf_u w4 (fun h => by omega) (fun h => by omega) (fun h => by omega) (fun h => by omega) (fun _ => okv_nI (a := 0) (by decide) (by decide)) (by decide)
  have w6 : wf (u2 (u2 (u2 (u2 (u2 (u2 r 2 (cnt r) k) 3 (cnt r) c) 4 (cnt r) 10) 5 (cnt r) c) 6 (cnt r) 0) 7 (cnt r) 0) := wf_u w5 (fun h => by omega) (fun h => by omega) (fun h => by omega) (fun h => by omega) (fun h => by omega) (by decide)
  exact wf_inc w6 hc
theorem num_ok {T : tk} {lo hi : Int32} {N : Nat} (hN : N < 1000) (h : tk_num T lo hi = true) (hl : ¬ lo < 0) (hh : hi = nI N - 1) : okv T.2.2.2 N := by
  refine tk_nI hN ?_
  unfold tk_num at h ⊢
  split at h
  · rename_i q
    rw [if_pos q]
    have h := of_decide_eq_true h
    refine decide_eq_true ⟨?_, by rw [← hh]; exact h.2⟩
    intro z
    exact h.1 (Int32.lt_of_lt_of_le z (Int32.not_lt.mp hl))
  · cases h
theorem kt_ok {b : Nat → Int32} {T : tk} : ∀ (j k : Nat), k + j = 7 → ¬ s_kt b T j k < 0 → okv (s_kt b T j k) 7 := by
  intro j
  induction j with
  | zero => intro k _ h; exact absurd (show (-1 : Int32) < 0 by decide) h
  | succ j ih =>
    intro k hk h
    rw [s_kt] at h ⊢
    split at h
    · rename_i q
      rw [if_pos q]
      exact okv_nI (by omega) (by decide)
    · rename_i q
      rw [if_neg q]
      exact ih (k + 1) (by omega) h
section TOK
variable {b : Nat → Int32} {L : Nat} {nx : tk → tk}
theorem pp_ok (hx : ∀ T, tw L T → tw L (nx T)) {q N : Nat} {lo hi : Int32} {T : tk} {t : rT} (hT : tw L T) (w : wf t) (hq : q < 2) : tw L (p_pair nx q N lo hi T t).2.1 ∧ wf (p_pair nx q N lo hi T t).2.2 := by
  unfold p_pair
  split
  · split
    · exact ⟨hx _ (hx _ (hx _ hT)), wf_u w (fun h => by omega) (fun h => by omega) (fun h => by omega) (fun h => by omega) (fun h => by omega) (by omega)⟩
    · exact ⟨hx _ (hx _ hT), w⟩
  · exact ⟨hx _ hT, w⟩
theorem pt_ok (hx : ∀ T, tw L T → tw L (nx T)) {wd : List Int32} {q g : Nat} {lo hi : Int32} {T : tk} {t : rT} (hT : tw L T) (w : wf t) (hq : q = 4 ∨ q = 5 ∧ ¬ lo < 0 ∧ hi = nI 16 - 1) : tw L (p_trait b nx wd q g lo hi T t).2.1 ∧ wf (p_trait b nx wd q g lo hi T t).2.2 := by
  unfold p_trait
  split
  · split
    · rename_i h1 h2
      refine ⟨hx _ (hx _ hT), wf_u w (fun h => by omega) (fun h => by omega) (fun h => by omega) (fun h => ?_) (fun h => by omega) (by omega)⟩
      rcases hq with hq | hq
      · omega
      · exact num_ok (by decide) h2 hq.2.1 hq.2.2
    · exact ⟨hx _ hT, w⟩
  · exact ⟨hT, w⟩
theorem pg_ok (hx : ∀ T, tw L T → tw L (nx T)) {k c : Int32} {T : tk} {t : rT} (hT : tw L T) (w : wf t) (hc : cnt t < 8) (hk : okv k 7) (ha : okv c 16) : tw L (p_g2 b nx k c T t).2.1 ∧ wf (p_g2 b nx k c T t).2.2 := by
  have h1 := pt_ok (b := b) (wd := (a_ss 8).2.2.2) (q := 4) (g := cnt t) (lo := 1) (hi := 40) hx hT (wf_add w hc hk ha) (Or.inl rfl)
  unfold p_g2 p_g3
  split
  · exact pt_ok hx h1.1 h1.2 (Or.inr ⟨rfl, by decide, by decide⟩)
  · exact h1
theorem pu_ok (hx : ∀ T, tw L T → tw L (nx T)) {k : Int32} {T : tk} {t : rT} (hT : tw L T) (w : wf t) (hk : okv k 7) : tw L (p_guest b nx k T t).2.1 ∧ wf (p_guest b nx k T t).2.2 := by
  unfold p_guest
  split
  · rename_i h
    have hc : cnt t < 8 := by
      rw [w.ct] at h
      exact (nI_ltI (b := 8) (by have := w.ctl; omega) (by decide)).mp h
    split
    · split
      · rename_i h2
        exact pg_ok hx (hx _ (hx _ (hx _ hT))) w hc hk (num_ok (by decide) h2 (by decide) (by decide))
      · exact ⟨hx _ (hx _ hT), w⟩
    · exact pg_ok hx (hx _ hT) w hc hk (okv_nI (a := 0) (by decide) (by decide))
  · exact ⟨hT, w⟩
theorem pi_ok (hx : ∀ T, tw L T → tw L (nx T)) {T : tk} {t : rT} (hT : tw L T) (w : wf t) : tw L (p_item b nx T t).2.1 ∧ wf (p_item b nx T t).2.2 := by
  unfold p_item
  split
  · split
    · exact pp_ok hx hT w (by decide)
    · split
      · exact pp_ok hx hT w (by decide)
      · split
        · split
          · exact ⟨hx _ (hx _ hT), wf_u w (fun h => by omega) (fun h => by omega) (fun h => by omega) (fun h => by omega) (fun h => by omega) (by decide)⟩
          · exact ⟨hx _ hT, w⟩
        · exact ⟨hT, w⟩
  · rename_i h
    exact pu_ok hx hT w (kt_ok 7 0 rfl h)
theorem pr_ok (hx : ∀ T, tw L T → tw L (nx T)) : ∀ (f i : Nat) (T : tk) (t : rT), tw L T → wf t → tw L (p_read b nx f i T t).2.1 ∧ wf (p_read b nx f i T t).2.2 := by
  intro f
  induction f with
  | zero => intro i T t hT w; exact ⟨hT, w⟩
  | succ f ih =>
    intro i T t hT w
    have h1 := pi_ok (b := b) hx hT w
    rw [p_read]
    split
    · split
      · exact h1
      · split
        · exact ih _ _ _ (hx _ h1.1) h1.2
        · exact h1
    · exact h1
end TOK
/-- two tokens that read alike -/
def tq (T T' : tk) : Prop := T.1 = T'.1 ∧ T.2.1 = T'.2.1 ∧ T.2.2.1 = T'.2.2.1 ∧ (T.2.2.1 = 2 → T.2.2.2 = T'.2.2.2)
def tR (P P' : Bool × tk × rT) : Prop := P.1 = P'.1 ∧ tq P.2.1 P'.2.1 ∧ P.2.2 = P'.2.2
theorem tq_is {b : Nat → Int32} {T T' : tk} {w : List Int32} (h : tq T T') : tk_is b T w = tk_is b T' w := by
  unfold tk_is; rw [h.1, h.2.1, h.2.2.1]
theorem tq_num {T T' : tk} {lo hi : Int32} (h : tq T T') : tk_num T lo hi = tk_num T' lo hi := by
  unfold tk_num
  rw [← h.2.2.1]
  split
  · rename_i q; rw [h.2.2.2 q]
  · rfl
theorem num_2 {T : tk} {lo hi : Int32} (h : tk_num T lo hi = true) : T.2.2.1 = 2 := by
  unfold tk_num at h
  split at h
  · assumption
  · cases h
theorem tq_kt {b : Nat → Int32} {T T' : tk} (h : tq T T') : ∀ (j k : Nat), s_kt b T j k = s_kt b T' j k := by
  intro j
  induction j with
  | zero => intro k; rfl
  | succ j ih => intro k; rw [s_kt, s_kt, tq_is h, ih]
section TQ
variable {b : Nat → Int32} {nx nx' : tk → tk}
theorem pp_q (hx : ∀ T T', tq T T' → tq (nx T) (nx' T')) {q N : Nat} {lo hi : Int32} {T T' : tk} {t : rT} (h : tq T T') : tR (p_pair nx q N lo hi T t) (p_pair nx' q N lo hi T' t) := by
  have h1 := hx _ _ h
  have h2 := hx _ _ h1
  unfold p_pair
  rw [← tq_num h1, ← tq_num h2]
  split
  · rename_i q1
    split
    · rename_i q2
      refine ⟨rfl, hx _ _ h2, ?_⟩
      show u2 t q _ _ = u2 t q _ _
      rw [h1.2.2.2 (num_2 q1), h2.2.2.2 (num_2 q2)]
    · exact ⟨rfl, h2, rfl⟩
  · exact ⟨rfl, h1, rfl⟩
theorem pt_q (hx : ∀ T T', tq T T' → tq (nx T) (nx' T')) {wd : List Int32} {q g : Nat} {lo hi : Int32} {T T' : tk} {t : rT} (h : tq T T') : tR (p_trait b nx wd q g lo hi T t) (p_trait b nx' wd q g lo hi T' t) := by
  have h1 := hx _ _ h
  unfold p_trait
  rw [← tq_is h, ← tq_num h1]
  split
  · split
    · rename_i q1 q2
      refine ⟨rfl, hx _ _ h1, ?_⟩
      show u2 t q _ _ = u2 t q _ _
      rw [h1.2.2.2 (num_2 q2)]
    · exact ⟨rfl, h1, rfl⟩
  · exact ⟨rfl, h, rfl⟩
theorem pg_q (hx : ∀ T T', tq T T' → tq (nx T) (nx' T')) {k c : Int32} {T T' : tk} {t : rT} (h : tq T T') : tR (p_g2 b nx k c T t) (p_g2 b nx' k c T' t) := by
  have h1 := pt_q (b := b) (wd := (a_ss 8).2.2.2) (q := 4) (g := cnt t) (lo := 1) (hi := 40) (t := s_add t k c) hx h
  unfold p_g2 p_g3
  rw [← h1.1]
  split
  · rw [← h1.2.2]
    exact pt_q hx h1.2.1
  · exact ⟨rfl, h1.2.1, h1.2.2⟩
theorem pu_q (hx : ∀ T T', tq T T' → tq (nx T) (nx' T')) {k : Int32} {T T' : tk} {t : rT} (h : tq T T') : tR (p_guest b nx k T t) (p_guest b nx' k T' t) := by
  have h1 := hx _ _ h
  have h2 := hx _ _ h1
  unfold p_guest
  rw [← tq_is h1, ← tq_num h2]
  split
  · split
    · split
      · rename_i q2
        rw [← h2.2.2.2 (num_2 q2)]
        exact pg_q hx (hx _ _ h2)
      · exact ⟨rfl, h2, rfl⟩
    · exact pg_q hx h1
  · exact ⟨rfl, h, rfl⟩
theorem pi_q (hx : ∀ T T', tq T T' → tq (nx T) (nx' T')) {T T' : tk} {t : rT} (h : tq T T') : tR (p_item b nx T t) (p_item b nx' T' t) := by
  have h1 := hx _ _ h
  unfold p_item
  rw [← tq_kt h, ← tq_is h, ← tq_is h, ← tq_is h, ← tq_num h1]
  split
  · split
    · exact pp_q hx h
    · split
      · exact pp_q hx h
      · split
        · split
          · rename_i q2
            refine ⟨rfl, hx _ _ h1, ?_⟩
            show u2 t 9 3 _ = u2 t 9 3 _
            rw [h1.2.2.2 (num_2 q2)]
          · exact ⟨rfl, h1, rfl⟩
        · exact ⟨rfl, h, rfl⟩
  · exact pu_q hx h
theorem pr_q (hx : ∀ T T', tq T T' → tq (nx T) (nx' T')) : ∀ (f i : Nat) (T T' : tk) (t : rT), tq T T' → (p_read b nx f i T t).1 = (p_read b nx' f i T' t).1 ∧ (p_read b nx f i T t).2.2 = (p_read b nx' f i T' t).2.2 := by
  intro f
  induction f with
  | zero => intro i T T' t h; refine ⟨?_, rfl⟩; show -1 - nI T.1 = -1 - nI T'.1; rw [h.1]
  | succ f ih =>
    intro i T T' t h
    have h1 := pi_q (b := b) (t := t) hx h
    rw [p_read, p_read, ← h1.1, ← h1.2.1.2.2.1, ← h1.2.1.1, ← h1.2.2]
    split
    · split
      · exact ⟨rfl, h1.2.2⟩
      · split
        · exact ih _ _ _ _ (hx _ _ h1.2.1)
        · exact ⟨rfl, h1.2.2⟩
    · exact ⟨rfl, h1.2.2⟩
end TQ
theorem tkn_q {b : Nat → Int32} {L p : Nat} {n n' : Int32} : tq (tkn b L p n) (tkn b L p n') := by
  unfold tkn tk_at tq
  split
  · split
    · exact ⟨rfl, rfl, rfl, fun h => absurd (show (1 : Nat) = 2 from h) (by decide)⟩
    · split
      · exact ⟨rfl, rfl, rfl, fun _ => rfl⟩
      · split
        · exact ⟨rfl, rfl, rfl, fun h => absurd (show (3 : Nat) = 2 from h) (by decide)⟩
        · exact ⟨rfl, rfl, rfl, fun h => absurd (show (4 : Nat) = 2 from h) (by decide)⟩
  · exact ⟨rfl, rfl, rfl, fun h => absurd (show (0 : Nat) = 2 from h) (by decide)⟩
theorem nx_q {b : Nat → Int32} {L : Nat} (T T' : tk) (h : tq T T') : tq (nxC b L T) (nxM b L T') := by
  unfold nxC nxM
  rw [h.2.1]
  exact tkn_q
def p_all (b : Nat → Int32) (L : Nat) (r : rT) : Int32 × tk × rT := p_read b (nxM b L) 120 1 (tkn b L 0 0) r
def sp_text (σ : sS) : Int32 × sS := ((p_all σ.2.2.2.2.1 σ.2.2.2.2.2.1.toNatClampNeg σ.1).1, (if (p_all σ.2.2.2.2.1 σ.2.2.2.2.2.1.toNatClampNeg σ.1).1 < 0 then σ.1 else (p_all σ.2.2.2.2.1 σ.2.2.2.2.2.1.toNatClampNeg σ.1).2.2, σ.2.1, σ.2.2.1, σ.2.2.2.1, σ.2.2.2.2.1, 0, σ.2.2.2.2.2.2))
