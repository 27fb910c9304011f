/-! ===== ranges, divisors ===== -/
theorem cmp_gt {x y : Int64} : 0 < lg_cmp x y ↔ y < x := by
  unfold lg_cmp
  by_cases h : x > y
  · rw [if_pos h]; exact ⟨fun _ => h, fun _ => by decide⟩
  · rw [if_neg h]
    refine ⟨fun z => ?_, fun z => absurd z h⟩
    by_cases h2 : x = y
    · rw [if_pos h2] at z; exact absurd z (by decide)
    · rw [if_neg h2] at z; exact absurd z (by decide)
theorem rg {S : sT} (v : wS S) {s : Nat} (hs : s < 4) {f n : Int32} (hf : ¬ f < 0) (hn : ¬ n < 0) : sR S s f n = true ↔ ¬ 0 < lg_cmp (f.toInt64 + n.toInt64) (S.2.2 s).toInt64 := by
  obtain ⟨h1, h2⟩ := v.1 s hs
  generalize hq : (S.2.2 s).toNatClampNeg = L at h1 h2
  obtain ⟨a, ha, rfl⟩ := nI_of hf
  obtain ⟨q, hq, rfl⟩ := nI_of hn
  unfold sR
  rw [decide_eq_true_eq, h1, cmp_gt, nI_l ha, nI_l hq, nI_l (by omega), lN_add]
  rw [Int64.lt_iff_toInt_lt, show (lN (a + q)).toInt = ((a + q : Nat) : Int) from lg_ofNat_toInt (by omega), lN_toInt (show L < 2 ^ 31 by omega)]
  rw [nI_ltI (by omega) (by omega)]
  constructor
  · intro ⟨_, _, g3, g4⟩
    rw [pk_sub (show q ≤ L by omega), nI_ltI (by omega) (by omega)] at g4
    omega
  · intro g
    refine ⟨hf, hn, by omega, ?_⟩
    rw [pk_sub (show q ≤ L by omega), nI_ltI (by omega) (by omega)]
    omega
theorem cy_up {nu : Nat → Nat → Int32} {s t a c k : Nat} : u2 (v2 nu t (va_cpy (nu s) (nu t) a c k)) t (c + k) (nu s (a + k)) = v2 nu t (va_cpy (nu s) (nu t) a c (k + 1)) := by
  funext x p
  rw [u2_at]
  unfold v2 va_cpy
  by_cases h1 : x = t
  · by_cases h2 : p = c + k
    · rw [if_pos ⟨h1, h2⟩, if_pos h1, if_pos (by omega), show a + (p - c) = a + k by omega]
    · rw [if_neg (fun z => h2 z.2), if_pos h1, if_pos h1]
      by_cases h3 : c ≤ p ∧ p < c + k
      · rw [if_pos h3, if_pos (by omega)]
      · rw [if_neg h3, if_neg (by omega)]
  · rw [if_neg (fun z => h1 z.1), if_neg h1, if_neg h1]
theorem cy_0 {nu : Nat → Nat → Int32} {s t a c : Nat} : v2 nu t (va_cpy (nu s) (nu t) a c 0) = nu := by
  funext x
  unfold v2
  split
  · rename_i h; rw [h]; funext p; exact if_neg (by omega)
  · rfl
theorem mta_and {r : rT} {g m : Nat} : s_reach r g (nI m) >>> (nI (nat r 5 g) &&& 31) &&& 1 = s_mta r g m := by
  unfold s_mta
  rcases and1 (s_reach r g (nI m) >>> (nI (nat r 5 g) &&& 31)) with e | e
  · rw [e, if_neg (by decide)]
  · rw [e, if_pos rfl]
