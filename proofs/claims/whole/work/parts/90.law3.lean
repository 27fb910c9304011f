set_option maxRecDepth 100000 in
theorem lw_sw {Γ : aG} {l : Launch} {M : Nat → aC} {k : Nat} {σ : sS} {t : rT} {J : Int32 × Int32 × Int32 × Int32} {kr ar it mv : Nat → Int32} {Q : yQ} (hk : k + 6 ≤ Γ.2.2.2 6000) (hN : Γ.2.2.2 6000 ≤ 3072) (h : lI σ kr) (K : lK Γ l M k) (v : Int32) : ∃ M' : Nat → aC, Fr Γ l kL_law 33 [(0, .ref 5000), (1, .ref 0), (2, .ref 42), (3, .int (nI k))] [.int v] 54 54 1701 (lM M σ t J kr ar it mv Q) (some (.int 1)) 54 M' := by
  by_cases h0 : v = 0
  · obtain ⟨M', kk⟩ := lq_set (t := t) (J := J) (ar := ar) (it := it) (mv := mv) (Q := Q) hk hN h K
    exact ⟨M', fr_tIn (pc := 33) 212 (by rw [h0]; decide) (by rw [h0]; decide) (by rw [h0]; rfl) (by decide) dL_law_33 kk⟩
  by_cases h1 : v = 1
  · obtain ⟨M', kk⟩ := lq_cell (t := t) (J := J) (ar := ar) (it := it) (mv := mv) (Q := Q) hk hN h K
    exact ⟨M', fr_tIn (pc := 33) 245 (by rw [h1]; decide) (by rw [h1]; decide) (by rw [h1]; rfl) (by decide) dL_law_33 kk⟩
  by_cases h2 : v = 2
  · obtain ⟨M', kk⟩ := lq_measure (t := t) (J := J) (ar := ar) (it := it) (mv := mv) (Q := Q) hk hN h K
    exact ⟨M', fr_tIn (pc := 33) 278 (by rw [h2]; decide) (by rw [h2]; decide) (by rw [h2]; rfl) (by decide) dL_law_33 kk⟩
  by_cases h3 : v = 3
  · obtain ⟨M', kk⟩ := lq_listed (t := t) (J := J) (ar := ar) (it := it) (mv := mv) (Q := Q) hk hN h K
    exact ⟨M', fr_tIn (pc := 33) 311 (by rw [h3]; decide) (by rw [h3]; decide) (by rw [h3]; rfl) (by decide) dL_law_33 kk⟩
  by_cases h4 : v = 4
  · obtain ⟨M', kk⟩ := lq_wide (t := t) (J := J) (ar := ar) (it := it) (mv := mv) (Q := Q) hk hN h K
    exact ⟨M', fr_tIn (pc := 33) 334 (by rw [h4]; decide) (by rw [h4]; decide) (by rw [h4]; rfl) (by decide) dL_law_33 kk⟩
  by_cases h5 : v = 5
  · obtain ⟨M', kk⟩ := lq_guest (t := t) (J := J) (ar := ar) (it := it) (mv := mv) (Q := Q) hk hN h K
    exact ⟨M', fr_tIn (pc := 33) 367 (by rw [h5]; decide) (by rw [h5]; decide) (by rw [h5]; rfl) (by decide) dL_law_33 kk⟩
  by_cases h6 : v = 6
  · obtain ⟨M', kk⟩ := lq_of (t := t) (J := J) (ar := ar) (it := it) (mv := mv) (Q := Q) hk hN h K
    exact ⟨M', fr_tIn (pc := 33) 400 (by rw [h6]; decide) (by rw [h6]; decide) (by rw [h6]; rfl) (by decide) dL_law_33 kk⟩
  by_cases h7 : v = 7
  · obtain ⟨M', kk⟩ := lq_change (t := t) (J := J) (ar := ar) (it := it) (mv := mv) (Q := Q) hk hN h K
    exact ⟨M', fr_tIn (pc := 33) 433 (by rw [h7]; decide) (by rw [h7]; decide) (by rw [h7]; rfl) (by decide) dL_law_33 kk⟩
  by_cases h8 : v = 8
  · obtain ⟨M', kk⟩ := lq_reach (t := t) (J := J) (ar := ar) (it := it) (mv := mv) (Q := Q) hk hN h K
    exact ⟨M', fr_tIn (pc := 33) 476 (by rw [h8]; decide) (by rw [h8]; decide) (by rw [h8]; rfl) (by decide) dL_law_33 kk⟩
  by_cases h9 : v = 9
  · obtain ⟨M', kk⟩ := lq_go (t := t) (J := J) (ar := ar) (it := it) (mv := mv) (Q := Q) hk hN h K
    exact ⟨M', fr_tIn (pc := 33) 509 (by rw [h9]; decide) (by rw [h9]; decide) (by rw [h9]; rfl) (by decide) dL_law_33 kk⟩
  by_cases h10 : v = 10
  · obtain ⟨M', kk⟩ := lq_now (t := t) (J := J) (ar := ar) (it := it) (mv := mv) (Q := Q) hk hN h K
    exact ⟨M', fr_tIn (pc := 33) 532 (by rw [h10]; decide) (by rw [h10]; decide) (by rw [h10]; rfl) (by decide) dL_law_33 kk⟩
  by_cases h11 : v = 11
  · obtain ⟨M', kk⟩ := lq_ahead (t := t) (J := J) (ar := ar) (it := it) (mv := mv) (Q := Q) hk hN h K
    exact ⟨M', fr_tIn (pc := 33) 555 (by rw [h11]; decide) (by rw [h11]; decide) (by rw [h11]; rfl) (by decide) dL_law_33 kk⟩
  by_cases h12 : v = 12
  · obtain ⟨M', kk⟩ := lq_strain (t := t) (J := J) (ar := ar) (it := it) (mv := mv) (Q := Q) hk hN h K
    exact ⟨M', fr_tIn (pc := 33) 598 (by rw [h12]; decide) (by rw [h12]; decide) (by rw [h12]; rfl) (by decide) dL_law_33 kk⟩
  by_cases h13 : v = 13
  · obtain ⟨M', kk⟩ := lq_snaps (t := t) (J := J) (ar := ar) (it := it) (mv := mv) (Q := Q) hk hN h K
    exact ⟨M', fr_tIn (pc := 33) 621 (by rw [h13]; decide) (by rw [h13]; decide) (by rw [h13]; rfl) (by decide) dL_law_33 kk⟩
  by_cases h14 : v = 14
  · obtain ⟨M', kk⟩ := lq_comes (t := t) (J := J) (ar := ar) (it := it) (mv := mv) (Q := Q) hk hN h K
    exact ⟨M', fr_tIn (pc := 33) 634 (by rw [h14]; decide) (by rw [h14]; decide) (by rw [h14]; rfl) (by decide) dL_law_33 kk⟩
  by_cases h15 : v = 15
  · obtain ⟨M', kk⟩ := lq_stuck (t := t) (J := J) (ar := ar) (it := it) (mv := mv) (Q := Q) hk hN h K
    exact ⟨M', fr_tIn (pc := 33) 667 (by rw [h15]; decide) (by rw [h15]; decide) (by rw [h15]; rfl) (by decide) dL_law_33 kk⟩
  by_cases h16 : v = 16
  · obtain ⟨M', kk⟩ := lq_tight (t := t) (J := J) (ar := ar) (it := it) (mv := mv) (Q := Q) hk hN h K
    exact ⟨M', fr_tIn (pc := 33) 700 (by rw [h16]; decide) (by rw [h16]; decide) (by rw [h16]; rfl) (by decide) dL_law_33 kk⟩
  by_cases h17 : v = 17
  · obtain ⟨M', kk⟩ := lq_measureFor (t := t) (J := J) (ar := ar) (it := it) (mv := mv) (Q := Q) hk hN h K
    exact ⟨M', fr_tIn (pc := 33) 733 (by rw [h17]; decide) (by rw [h17]; decide) (by rw [h17]; rfl) (by decide) dL_law_33 kk⟩
  by_cases h18 : v = 18
  · obtain ⟨M', kk⟩ := lq_kindFor (t := t) (J := J) (ar := ar) (it := it) (mv := mv) (Q := Q) hk hN h K
    exact ⟨M', fr_tIn (pc := 33) 766 (by rw [h18]; decide) (by rw [h18]; decide) (by rw [h18]; rfl) (by decide) dL_law_33 kk⟩
  by_cases h19 : v = 19
  · obtain ⟨M', kk⟩ := lq_sizeFor (t := t) (J := J) (ar := ar) (it := it) (mv := mv) (Q := Q) hk hN h K
    exact ⟨M', fr_tIn (pc := 33) 799 (by rw [h19]; decide) (by rw [h19]; decide) (by rw [h19]; rfl) (by decide) dL_law_33 kk⟩
  by_cases h20 : v = 20
  · obtain ⟨M', kk⟩ := lq_send (t := t) (J := J) (ar := ar) (it := it) (mv := mv) (Q := Q) hk hN h K
    exact ⟨M', fr_tIn (pc := 33) 832 (by rw [h20]; decide) (by rw [h20]; decide) (by rw [h20]; rfl) (by decide) dL_law_33 kk⟩
  by_cases h21 : v = 21
  · obtain ⟨M', kk⟩ := lq_fits (t := t) (J := J) (ar := ar) (it := it) (mv := mv) (Q := Q) hk hN h K
    exact ⟨M', fr_tIn (pc := 33) 855 (by rw [h21]; decide) (by rw [h21]; decide) (by rw [h21]; rfl) (by decide) dL_law_33 kk⟩
  by_cases h22 : v = 22
  · obtain ⟨M', kk⟩ := lq_kinds (t := t) (J := J) (ar := ar) (it := it) (mv := mv) (Q := Q) hk hN h K
    exact ⟨M', fr_tIn (pc := 33) 888 (by rw [h22]; decide) (by rw [h22]; decide) (by rw [h22]; rfl) (by decide) dL_law_33 kk⟩
  by_cases h23 : v = 23
  · obtain ⟨M', kk⟩ := lq_party (t := t) (J := J) (ar := ar) (it := it) (mv := mv) (Q := Q) hk hN h K
    exact ⟨M', fr_tIn (pc := 33) 921 (by rw [h23]; decide) (by rw [h23]; decide) (by rw [h23]; rfl) (by decide) dL_law_33 kk⟩
  by_cases h24 : v = 24
  · obtain ⟨M', kk⟩ := lq_odds (t := t) (J := J) (ar := ar) (it := it) (mv := mv) (Q := Q) hk hN h K
    exact ⟨M', fr_tIn (pc := 33) 944 (by rw [h24]; decide) (by rw [h24]; decide) (by rw [h24]; rfl) (by decide) dL_law_33 kk⟩
  by_cases h25 : v = 25
  · obtain ⟨M', kk⟩ := lq_seed (t := t) (J := J) (ar := ar) (it := it) (mv := mv) (Q := Q) hk hN h K
    exact ⟨M', fr_tIn (pc := 33) 988 (by rw [h25]; decide) (by rw [h25]; decide) (by rw [h25]; rfl) (by decide) dL_law_33 kk⟩
  by_cases h26 : v = 26
  · obtain ⟨M', kk⟩ := lq_feed (t := t) (J := J) (ar := ar) (it := it) (mv := mv) (Q := Q) hk hN h K
    exact ⟨M', fr_tIn (pc := 33) 1011 (by rw [h26]; decide) (by rw [h26]; decide) (by rw [h26]; rfl) (by decide) dL_law_33 kk⟩
  by_cases h27 : v = 27
  · obtain ⟨M', kk⟩ := lq_wipe (t := t) (J := J) (ar := ar) (it := it) (mv := mv) (Q := Q) hk hN h K
    exact ⟨M', fr_tIn (pc := 33) 1044 (by rw [h27]; decide) (by rw [h27]; decide) (by rw [h27]; rfl) (by decide) dL_law_33 kk⟩
  by_cases h28 : v = 28
  · obtain ⟨M', kk⟩ := lq_text (t := t) (J := J) (ar := ar) (it := it) (mv := mv) (Q := Q) hk hN h K
    exact ⟨M', fr_tIn (pc := 33) 1057 (by rw [h28]; decide) (by rw [h28]; decide) (by rw [h28]; rfl) (by decide) dL_law_33 kk⟩
  by_cases h29 : v = 29
  · obtain ⟨M', kk⟩ := lq_hold (t := t) (J := J) (ar := ar) (it := it) (mv := mv) (Q := Q) hk hN h K
    exact ⟨M', fr_tIn (pc := 33) 1070 (by rw [h29]; decide) (by rw [h29]; decide) (by rw [h29]; rfl) (by decide) dL_law_33 kk⟩
  by_cases h30 : v = 30
  · obtain ⟨M', kk⟩ := lq_as (t := t) (J := J) (ar := ar) (it := it) (mv := mv) (Q := Q) hk hN h K
    exact ⟨M', fr_tIn (pc := 33) 1103 (by rw [h30]; decide) (by rw [h30]; decide) (by rw [h30]; rfl) (by decide) dL_law_33 kk⟩
  by_cases h31 : v = 31
  · obtain ⟨M', kk⟩ := lq_sheet (t := t) (J := J) (ar := ar) (it := it) (mv := mv) (Q := Q) hk hN h K
    exact ⟨M', fr_tIn (pc := 33) 1136 (by rw [h31]; decide) (by rw [h31]; decide) (by rw [h31]; rfl) (by decide) dL_law_33 kk⟩
  by_cases h32 : v = 32
  · obtain ⟨M', kk⟩ := lq_write (t := t) (J := J) (ar := ar) (it := it) (mv := mv) (Q := Q) hk hN h K
    exact ⟨M', fr_tIn (pc := 33) 1179 (by rw [h32]; decide) (by rw [h32]; decide) (by rw [h32]; rfl) (by decide) dL_law_33 kk⟩
  by_cases h33 : v = 33
  · obtain ⟨M', kk⟩ := lq_copy (t := t) (J := J) (ar := ar) (it := it) (mv := mv) (Q := Q) hk hN h K
    exact ⟨M', fr_tIn (pc := 33) 1222 (by rw [h33]; decide) (by rw [h33]; decide) (by rw [h33]; rfl) (by decide) dL_law_33 kk⟩
  by_cases h34 : v = 34
  · obtain ⟨M', kk⟩ := lq_load (t := t) (J := J) (ar := ar) (it := it) (mv := mv) (Q := Q) hk hN h K
    exact ⟨M', fr_tIn (pc := 33) 1285 (by rw [h34]; decide) (by rw [h34]; decide) (by rw [h34]; rfl) (by decide) dL_law_33 kk⟩
  by_cases h35 : v = 35
  · obtain ⟨M', kk⟩ := lq_judge (t := t) (J := J) (ar := ar) (it := it) (mv := mv) (Q := Q) hk hN h K
    exact ⟨M', fr_tIn (pc := 33) 1308 (by rw [h35]; decide) (by rw [h35]; decide) (by rw [h35]; rfl) (by decide) dL_law_33 kk⟩
  by_cases h36 : v = 36
  · obtain ⟨M', kk⟩ := lq_image (t := t) (J := J) (ar := ar) (it := it) (mv := mv) (Q := Q) hk hN h K
    exact ⟨M', fr_tIn (pc := 33) 1331 (by rw [h36]; decide) (by rw [h36]; decide) (by rw [h36]; rfl) (by decide) dL_law_33 kk⟩
  by_cases h37 : v = 37
  · obtain ⟨M', kk⟩ := lq_undo (t := t) (J := J) (ar := ar) (it := it) (mv := mv) (Q := Q) hk hN h K
    exact ⟨M', fr_tIn (pc := 33) 1344 (by rw [h37]; decide) (by rw [h37]; decide) (by rw [h37]; rfl) (by decide) dL_law_33 kk⟩
  by_cases h38 : v = 38
  · obtain ⟨M', kk⟩ := lq_tear (t := t) (J := J) (ar := ar) (it := it) (mv := mv) (Q := Q) hk hN h K
    exact ⟨M', fr_tIn (pc := 33) 1357 (by rw [h38]; decide) (by rw [h38]; decide) (by rw [h38]; rfl) (by decide) dL_law_33 kk⟩
  by_cases h39 : v = 39
  · obtain ⟨M', kk⟩ := lq_count (t := t) (J := J) (ar := ar) (it := it) (mv := mv) (Q := Q) hk hN h K
    exact ⟨M', fr_tIn (pc := 33) 1370 (by rw [h39]; decide) (by rw [h39]; decide) (by rw [h39]; rfl) (by decide) dL_law_33 kk⟩
  by_cases h40 : v = 40
  · obtain ⟨M', kk⟩ := lq_status (t := t) (J := J) (ar := ar) (it := it) (mv := mv) (Q := Q) hk hN h K
    exact ⟨M', fr_tIn (pc := 33) 1393 (by rw [h40]; decide) (by rw [h40]; decide) (by rw [h40]; rfl) (by decide) dL_law_33 kk⟩
  obtain ⟨M', kk⟩ := K σ t J kr ar it mv Q h
  exact ⟨M', fr_tOut (pc := 33) 1416 (sw_0_40 h0 h1 h2 h3 h4 h5 h6 h7 h8 h9 h10 h11 h12 h13 h14 h15 h16 h17 h18 h19 h20 h21 h22 h23 h24 h25 h26 h27 h28 h29 h30 h31 h32 h33 h34 h35 h36 h37 h38 h39 h40) (by decide) dL_law_33 kk⟩
theorem sc_gt {k N : Nat} (hk : k ≤ 3072) (hN : N ≤ 3072) : nI N - 6 < nI k ↔ ¬ k + 6 ≤ N := by
  rw [Int32.lt_iff_toInt_lt, Int32.toInt_sub, nI_toInt (by omega), nI_toInt (by omega), show (6 : Int32).toInt = 6 from rfl, Int.bmod_def]
  omega
theorem lay_nil {M : Nat → aC} {j : Nat} : lay M j [] = M := by
  funext i
  unfold lay
  split
  · rfl
  · rfl
set_option maxRecDepth 100000 in
theorem lw_loop {Γ : aG} {l : Launch} {M : Nat → aC} (hN : Γ.2.2.2 6000 ≤ 3072) : ∀ (j k : Nat) (σ : sS) (t : rT) (J : Int32 × Int32 × Int32 × Int32) (kr ar it mv : Nat → Int32) (Q : yQ), k ≤ Γ.2.2.2 6000 → Γ.2.2.2 6000 ≤ k + 6 * j → lI σ kr → ∃ M' : Nat → aC, Fr Γ l kL_law 18 [(0, .ref 5000), (1, .ref 0), (2, .ref 42), (3, .int (nI k))] [] 54 54 1701 (lM M σ t J kr ar it mv Q) (some (.int 1)) 54 M' := by
  intro j
  induction j with
  | zero =>
    intro k σ t J kr ar it mv Q hk hj h
    have hc : ¬ k + 6 ≤ Γ.2.2.2 6000 := by omega
    refine ⟨(lM M σ t J kr ar it mv Q), ?_⟩
    refine fr_iload_n (pc := 18) rfl dL_law_18 ?_
    refine fr_aload_n (pc := 19) rfl dL_law_19 ?_
    refine fr_sclen (pc := 20) dL_law_20 ?_
    refine fr_bipush (pc := 21) (v := 6) rfl dL_law_21 ?_
    refine fr_isub (pc := 23) dL_law_23 ?_
    refine fr_icmp_gt (pc := 24) 1422 (by decide) dL_law_24 (fun h24 => ?_) (fun h24 => ?_)
    · refine fr_iconst (pc := 1422) (v := 1) rfl dL_law_1422 ?_
      exact fr_ireturn (pc := 1423) rfl rfl rfl rfl dL_law_1423
    · exact absurd ((sc_gt (by omega) hN).mpr hc) h24
  | succ j ih =>
    intro k σ t J kr ar it mv Q hk hj h
    by_cases hc : k + 6 ≤ Γ.2.2.2 6000
    · have K : lK Γ l M k := by
        intro σ1 t1 J1 kr1 ar1 it1 mv1 Q1 h1
        obtain ⟨M', kk⟩ := ih (k + 6) σ1 t1 J1 kr1 ar1 it1 mv1 Q1 hc (by omega) h1
        refine ⟨M', ?_⟩
        refine fr_iinc (pc := 1416) (v := nI (k + 6)) [(3, .int (nI (k + 6))), (0, .ref 5000), (1, .ref 0), (2, .ref 42)] rfl (nI_add k 6) (by decide) rfl dL_law_1416 ?_
        refine fr_goto (pc := 1419) 18 (by decide) dL_law_1419 ?_
        exact fr_sub [1, 2, 3, 0] rfl (kk)
      obtain ⟨M', kk⟩ := lw_sw (t := t) (J := J) (ar := ar) (it := it) (mv := mv) (Q := Q) hc hN h K (sci Γ k &&& 63)
      refine ⟨M', ?_⟩
      refine fr_iload_n (pc := 18) rfl dL_law_18 ?_
      refine fr_aload_n (pc := 19) rfl dL_law_19 ?_
      refine fr_sclen (pc := 20) dL_law_20 ?_
      refine fr_bipush (pc := 21) (v := 6) rfl dL_law_21 ?_
      refine fr_isub (pc := 23) dL_law_23 ?_
      refine fr_icmp_gt (pc := 24) 1422 (by decide) dL_law_24 (fun h24 => ?_) (fun h24 => ?_)
      · exact absurd hc ((sc_gt (by omega) hN).mp h24)
      · refine fr_aload_n (pc := 27) rfl dL_law_27 ?_
        refine fr_iload_n (pc := 28) rfl dL_law_28 ?_
        refine fr_scl (pc := 29) k rfl (by omega) (by omega) dL_law_29 ?_
        refine fr_bipush (pc := 30) (v := 63) rfl dL_law_30 ?_
        refine fr_iand (pc := 32) dL_law_32 ?_
        exact kk
    · skip
      refine ⟨(lM M σ t J kr ar it mv Q), ?_⟩
      refine fr_iload_n (pc := 18) rfl dL_law_18 ?_
      refine fr_aload_n (pc := 19) rfl dL_law_19 ?_
      refine fr_sclen (pc := 20) dL_law_20 ?_
      refine fr_bipush (pc := 21) (v := 6) rfl dL_law_21 ?_
      refine fr_isub (pc := 23) dL_law_23 ?_
      refine fr_icmp_gt (pc := 24) 1422 (by decide) dL_law_24 (fun h24 => ?_) (fun h24 => ?_)
      · refine fr_iconst (pc := 1422) (v := 1) rfl dL_law_1422 ?_
        exact fr_ireturn (pc := 1423) rfl rfl rfl rfl dL_law_1423
      · exact absurd ((sc_gt (by omega) hN).mpr hc) h24
set_option maxRecDepth 100000 in
theorem lw_all {Γ : aG} {l : Launch} {M : Nat → aC} (hN : Γ.2.2.2 6000 ≤ 3072) : ∃ M' : Nat → aC, Fr Γ l kL_law 0 [(0, .ref 5000)] [] 0 0 0 (lay M 0 []) (some (.int 1)) 54 M' := by
  obtain ⟨M', kk⟩ := lw_loop (Γ := Γ) (l := l) (M := M) hN 512 0 σ0 r0 (0, 0, 0, 0) z1 z1 z1 z1 (0, 0, 0, 0, 0, 0, 0) (Nat.zero_le _) (by omega) ⟨sI_0, Or.inl rfl⟩
  refine ⟨M', ?_⟩
  refine fr_new (pc := 0) (ci := 3) (T := TX4) (Cn := "LacedHouse") (N := 7) [.null, .null, .null, .int 0, .null, .null, .null] tyX4 tyX4_ok rfl hin_X4 (tG_in (by decide +kernel) (by decide +kernel)) (tG_in (by decide +kernel) (by decide +kernel)) (tG_in (by decide +kernel) (by decide +kernel)) dfX4 ⟨by decide, by decide⟩ (by decide) dL_law_0 ?_
  refine fr_mem (M1 := (lay M 0 [aO 3 [.null, .null, .null, .int 0, .null, .null, .null]])) (lay_new rfl rfl) ?_
  refine fr_dup (pc := 3) rfl dL_law_3 ?_
  refine fr_callI (pc := 4) [] [.ref 0] (n_laced) gc_L_9 rfl rfl ⟨rfl, rfl, by decide, by decide, by decide, by decide⟩ (Nat.le_of_ble_eq_true rfl) rfl dL_law_4 ?_
  refine fr_astore_n (pc := 7) [(1, .ref 0), (0, .ref 5000)] (by decide) rfl dL_law_7 ?_
  refine fr_mem (M1 := (lay (xM M r0 r0 r0 0 zS (z1, 0, 0, 0, 0, 0) z1) 42 [])) (lay_x.trans lay_nil.symm) ?_
  refine fr_new (pc := 8) (ci := 4) (T := TX5) (Cn := "LacedHouseModel") (N := 20) [.null, .null, .null, .int 0, .null, .null, .int 0, .int 0, .int 0, .int 0, .int 0, .int 0, .null, .null, .int 0, .int 0, .null, .null, .null, .null] tyX5 tyX5_ok rfl hin_X5 (tG_in (by decide +kernel) (by decide +kernel)) (tG_in (by decide +kernel) (by decide +kernel)) (tG_in (by decide +kernel) (by decide +kernel)) dfX5 ⟨by decide, by decide⟩ (by decide) dL_law_8 ?_
  refine fr_mem (M1 := (lay (xM M r0 r0 r0 0 zS (z1, 0, 0, 0, 0, 0) z1) 42 [aO 4 [.null, .null, .null, .int 0, .null, .null, .int 0, .int 0, .int 0, .int 0, .int 0, .int 0, .null, .null, .int 0, .int 0, .null, .null, .null, .null]])) (lay_new rfl rfl) ?_
  refine fr_dup (pc := 11) rfl dL_law_11 ?_
  refine fr_callI (pc := 12) [] [.ref 42] (n_model) gc_L_12 rfl rfl ⟨rfl, rfl, by decide, by decide, by decide, by decide⟩ (Nat.le_of_ble_eq_true rfl) rfl dL_law_12 ?_
  refine fr_astore_n (pc := 15) [(2, .ref 42), (1, .ref 0), (0, .ref 5000)] (by decide) rfl dL_law_15 ?_
  refine fr_iconst (pc := 16) (v := 0) rfl dL_law_16 ?_
  refine fr_eq (z := nI 0) rfl ?_
  refine fr_istore_n (pc := 17) [(3, .int (nI 0)), (2, .ref 42), (1, .ref 0), (0, .ref 5000)] (by decide) rfl dL_law_17 ?_
  refine fr_mem (M1 := lM M σ0 r0 (0, 0, 0, 0) z1 z1 z1 z1 (0, 0, 0, 0, 0, 0, 0)) rfl ?_
  exact fr_sub [3, 2, 1, 0] rfl (kk)
