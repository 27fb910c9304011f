abbrev yL_law : MethodName := ⟨"LacedHouseLaw", "law", "([I)Z"⟩
abbrev kL_law : aM := (yL_law, cL_law, 4, some .boolean, ({ frames := 13, cells := 600000, slots := 7302250, locals := 486 } : Room), 54, 1701)
/-- the script's int at j -/
def sci (Γ : aG) (j : Nat) : Int32 := nI (Γ.2.2.2 (7000 + j))
section AL
variable {Γ : aG} {l : Launch} {y : MethodName} {cc : ByteArray} {nL : Nat} {ret : Option FieldType} {R : Room} {mc ms : Nat} {pc : Nat} {L : List (Nat × Value)} {st : List Value} {n k1 k2 : Nat} {M : Nat → aC} {r : Option Value} {n' : Nat} {M' : Nat → aC}
theorem fr_scl {x : Int32} (j : Nat) (hx : x = nI j) (hj : j < Γ.2.2.2 6000) (hJ : j < 2 ^ 31) (hd : decode cc pc = .ok (.iaload, 1)) (k : Fr Γ l (y, cc, nL, ret, R, mc, ms) (pc + 1) L (.int (sci Γ j) :: st) n k1 k2 M r n' M') : Fr Γ l (y, cc, nL, ret, R, mc, ms) pc L (.int x :: .ref 5000 :: st) n k1 k2 M r n' M' := fr_scld j hx hj hJ hd k
end AL
theorem lg_self (v : Int64) : lg_cmp v v = 0 := by
  unfold lg_cmp
  rw [if_neg Int64.lt_irrefl, if_pos rfl]
set_option maxRecDepth 100000 in
theorem y_undo0 {Γ : aG} {l : Launch} {M : Nat → aC} {r : rT} {kr ar : Nat → Int32} {rk : rT} {ik : Int32} {fi b : Nat → Int32} {ln : Int32} {S : sT} {it mv : Nat → Int32} {Q : yQ} (h0 : ik = 0)  : Ev Γ l mX5_undo [.ref 42] 54 (yM M r kr ar ik fi b ln S it mv Q) (some (.int (sp_undo (r, rk, ik, S, b, ln, fi)).1)) 54 (yF M kr ar it mv Q (sp_undo (r, rk, ik, S, b, ln, fi)).2) := by
  refine Ev.of [(0, .ref 42)] (by decide) (Nat.le_of_ble_eq_true rfl) rfl ?_
  refine fr_aload_n (pc := 0) rfl dX5_undo_0 ?_
  refine fr_get (pc := 1) (ci := 4) (T := TX5) (k0 := 3) rfl hin_X5 (by decide) fl_X5_310 (by decide) y_42 rfl dX5_undo_1 ?_
  refine fr_if_ne (pc := 4) 14 (by decide) dX5_undo_4 (fun h4 => ?_) (fun h4 => ?_)
  · exact absurd h0 h4
  · refine fr_aload_n (pc := 7) rfl dX5_undo_7 ?_
    refine fr_ldc (pc := 8) kc_X5_65 dX5_undo_8 ?_
    refine fr_callV0 (pc := 10) (ci := 4) (T := TX5) (N := 20) [.int (-1000004)] [] (c_fnd3) gc_X5_66 rfl rfl ⟨rfl, rfl, by decide, by decide⟩ (Nat.le_of_ble_eq_true rfl) rfl (by decide) y_42 ⟨by decide, by decide⟩ dX5_undo_10 ?_
    exact fr_ireturn (pc := 13) rfl (by simp only [sp_undo, fb, sr, sG, sS4, yF, eq_true h4, if_true, if_false, not_true_eq_false, not_false_eq_true, or_true, true_or, or_false, false_or, and_true, true_and, and_false, false_and, or_self, and_self, eq_self] <;> rfl) (by simp only [sp_undo, fb, sr, sG, sS4, yF, eq_true h4, if_true, if_false, not_true_eq_false, not_false_eq_true, or_true, true_or, or_false, false_or, and_true, true_and, and_false, false_and, or_self, and_self, eq_self] <;> rfl) rfl dX5_undo_13
set_option maxRecDepth 100000 in
theorem lc_set {Γ : aG} {l : Launch} {k : Nat} {M0 M1 M2 M' : Nat → aC} {v : Int32} {f0 f1 : List Value} (hk : k + 6 ≤ Γ.2.2.2 6000) (hN : Γ.2.2.2 6000 ≤ 3072) (ex : Ev Γ l mX4_set [.ref 0, .int (sci Γ (k + 1)), .int (sci Γ (k + 2))] 54 M0 (some (.int v)) 54 M1) (ey : Ev Γ l mX5_set [.ref 42, .int (sci Γ (k + 1)), .int (sci Γ (k + 2))] 54 M1 (some (.int v)) 54 M2) (h0 : M0 0 = aO 3 f0) (h42 : M1 42 = aO 4 f1) (kk : Fr Γ l kL_law 1416 [(0, .ref 5000), (1, .ref 0), (2, .ref 42), (3, .int (nI k))] [] 54 54 1701 M2 (some (.int 1)) 54 M') : Fr Γ l kL_law 212 [(0, .ref 5000), (1, .ref 0), (2, .ref 42), (3, .int (nI k))] [] 54 54 1701 M0 (some (.int 1)) 54 M' := by
  refine fr_aload_n (pc := 212) rfl dL_law_212 ?_
  refine fr_aload_n (pc := 213) rfl dL_law_213 ?_
  refine fr_iload_n (pc := 214) rfl dL_law_214 ?_
  refine fr_iconst (pc := 215) (v := 1) rfl dL_law_215 ?_
  refine fr_iadd (pc := 216) dL_law_216 ?_
  refine fr_eq (z := nI (k + 1)) (nI_add k 1) ?_
  refine fr_scl (pc := 217) (k + 1) rfl (by omega) (by omega) dL_law_217 ?_
  refine fr_aload_n (pc := 218) rfl dL_law_218 ?_
  refine fr_iload_n (pc := 219) rfl dL_law_219 ?_
  refine fr_iconst (pc := 220) (v := 2) rfl dL_law_220 ?_
  refine fr_iadd (pc := 221) dL_law_221 ?_
  refine fr_eq (z := nI (k + 2)) (nI_add k 2) ?_
  refine fr_scl (pc := 222) (k + 2) rfl (by omega) (by omega) dL_law_222 ?_
  refine fr_callV0 (pc := 223) (ci := 3) (T := TX4) (N := 7) [.int (sci Γ (k + 1)), .int (sci Γ (k + 2))] [] (ex) gc_L_13 rfl rfl ⟨rfl, rfl, by decide, by decide⟩ (Nat.le_of_ble_eq_true rfl) rfl (by decide) h0 ⟨by decide, by decide⟩ dL_law_223 ?_
  refine fr_aload_n (pc := 226) rfl dL_law_226 ?_
  refine fr_aload_n (pc := 227) rfl dL_law_227 ?_
  refine fr_iload_n (pc := 228) rfl dL_law_228 ?_
  refine fr_iconst (pc := 229) (v := 1) rfl dL_law_229 ?_
  refine fr_iadd (pc := 230) dL_law_230 ?_
  refine fr_eq (z := nI (k + 1)) (nI_add k 1) ?_
  refine fr_scl (pc := 231) (k + 1) rfl (by omega) (by omega) dL_law_231 ?_
  refine fr_aload_n (pc := 232) rfl dL_law_232 ?_
  refine fr_iload_n (pc := 233) rfl dL_law_233 ?_
  refine fr_iconst (pc := 234) (v := 2) rfl dL_law_234 ?_
  refine fr_iadd (pc := 235) dL_law_235 ?_
  refine fr_eq (z := nI (k + 2)) (nI_add k 2) ?_
  refine fr_scl (pc := 236) (k + 2) rfl (by omega) (by omega) dL_law_236 ?_
  refine fr_callV0 (pc := 237) (ci := 4) (T := TX5) (N := 20) [.int (sci Γ (k + 1)), .int (sci Γ (k + 2))] [.int v] (ey) gc_L_17 rfl rfl ⟨rfl, rfl, by decide, by decide⟩ (Nat.le_of_ble_eq_true rfl) rfl (by decide) h42 ⟨by decide, by decide⟩ dL_law_237 ?_
  refine fr_icmp_eq (pc := 240) 1416 (by decide) dL_law_240 (fun h240 => ?_) (fun h240 => ?_)
  · exact kk
  · exact absurd rfl h240
set_option maxRecDepth 100000 in
theorem lc_cell {Γ : aG} {l : Launch} {k : Nat} {M0 M1 M2 M' : Nat → aC} {v : Int32} {f0 f1 : List Value} (hk : k + 6 ≤ Γ.2.2.2 6000) (hN : Γ.2.2.2 6000 ≤ 3072) (ex : Ev Γ l mX4_cell [.ref 0, .int (sci Γ (k + 1)), .int (sci Γ (k + 2))] 54 M0 (some (.int v)) 54 M1) (ey : Ev Γ l mX5_cell [.ref 42, .int (sci Γ (k + 1)), .int (sci Γ (k + 2))] 54 M1 (some (.int v)) 54 M2) (h0 : M0 0 = aO 3 f0) (h42 : M1 42 = aO 4 f1) (kk : Fr Γ l kL_law 1416 [(0, .ref 5000), (1, .ref 0), (2, .ref 42), (3, .int (nI k))] [] 54 54 1701 M2 (some (.int 1)) 54 M') : Fr Γ l kL_law 245 [(0, .ref 5000), (1, .ref 0), (2, .ref 42), (3, .int (nI k))] [] 54 54 1701 M0 (some (.int 1)) 54 M' := by
  refine fr_aload_n (pc := 245) rfl dL_law_245 ?_
  refine fr_aload_n (pc := 246) rfl dL_law_246 ?_
  refine fr_iload_n (pc := 247) rfl dL_law_247 ?_
  refine fr_iconst (pc := 248) (v := 1) rfl dL_law_248 ?_
  refine fr_iadd (pc := 249) dL_law_249 ?_
  refine fr_eq (z := nI (k + 1)) (nI_add k 1) ?_
  refine fr_scl (pc := 250) (k + 1) rfl (by omega) (by omega) dL_law_250 ?_
  refine fr_aload_n (pc := 251) rfl dL_law_251 ?_
  refine fr_iload_n (pc := 252) rfl dL_law_252 ?_
  refine fr_iconst (pc := 253) (v := 2) rfl dL_law_253 ?_
  refine fr_iadd (pc := 254) dL_law_254 ?_
  refine fr_eq (z := nI (k + 2)) (nI_add k 2) ?_
  refine fr_scl (pc := 255) (k + 2) rfl (by omega) (by omega) dL_law_255 ?_
  refine fr_callV0 (pc := 256) (ci := 3) (T := TX4) (N := 7) [.int (sci Γ (k + 1)), .int (sci Γ (k + 2))] [] (ex) gc_L_18 rfl rfl ⟨rfl, rfl, by decide, by decide⟩ (Nat.le_of_ble_eq_true rfl) rfl (by decide) h0 ⟨by decide, by decide⟩ dL_law_256 ?_
  refine fr_aload_n (pc := 259) rfl dL_law_259 ?_
  refine fr_aload_n (pc := 260) rfl dL_law_260 ?_
  refine fr_iload_n (pc := 261) rfl dL_law_261 ?_
  refine fr_iconst (pc := 262) (v := 1) rfl dL_law_262 ?_
  refine fr_iadd (pc := 263) dL_law_263 ?_
  refine fr_eq (z := nI (k + 1)) (nI_add k 1) ?_
  refine fr_scl (pc := 264) (k + 1) rfl (by omega) (by omega) dL_law_264 ?_
  refine fr_aload_n (pc := 265) rfl dL_law_265 ?_
  refine fr_iload_n (pc := 266) rfl dL_law_266 ?_
  refine fr_iconst (pc := 267) (v := 2) rfl dL_law_267 ?_
  refine fr_iadd (pc := 268) dL_law_268 ?_
  refine fr_eq (z := nI (k + 2)) (nI_add k 2) ?_
  refine fr_scl (pc := 269) (k + 2) rfl (by omega) (by omega) dL_law_269 ?_
  refine fr_callV0 (pc := 270) (ci := 4) (T := TX5) (N := 20) [.int (sci Γ (k + 1)), .int (sci Γ (k + 2))] [.int v] (ey) gc_L_21 rfl rfl ⟨rfl, rfl, by decide, by decide⟩ (Nat.le_of_ble_eq_true rfl) rfl (by decide) h42 ⟨by decide, by decide⟩ dL_law_270 ?_
  refine fr_icmp_eq (pc := 273) 1416 (by decide) dL_law_273 (fun h273 => ?_) (fun h273 => ?_)
  · exact kk
  · exact absurd rfl h273
set_option maxRecDepth 100000 in
theorem lc_measure {Γ : aG} {l : Launch} {k : Nat} {M0 M1 M2 M' : Nat → aC} {v : Int32} {f0 f1 : List Value} (hk : k + 6 ≤ Γ.2.2.2 6000) (hN : Γ.2.2.2 6000 ≤ 3072) (ex : Ev Γ l mX4_measure [.ref 0, .int (sci Γ (k + 1)), .int (sci Γ (k + 2))] 54 M0 (some (.int v)) 54 M1) (ey : Ev Γ l mX5_measure [.ref 42, .int (sci Γ (k + 1)), .int (sci Γ (k + 2))] 54 M1 (some (.int v)) 54 M2) (h0 : M0 0 = aO 3 f0) (h42 : M1 42 = aO 4 f1) (kk : Fr Γ l kL_law 1416 [(0, .ref 5000), (1, .ref 0), (2, .ref 42), (3, .int (nI k))] [] 54 54 1701 M2 (some (.int 1)) 54 M') : Fr Γ l kL_law 278 [(0, .ref 5000), (1, .ref 0), (2, .ref 42), (3, .int (nI k))] [] 54 54 1701 M0 (some (.int 1)) 54 M' := by
  refine fr_aload_n (pc := 278) rfl dL_law_278 ?_
  refine fr_aload_n (pc := 279) rfl dL_law_279 ?_
  refine fr_iload_n (pc := 280) rfl dL_law_280 ?_
  refine fr_iconst (pc := 281) (v := 1) rfl dL_law_281 ?_
  refine fr_iadd (pc := 282) dL_law_282 ?_
  refine fr_eq (z := nI (k + 1)) (nI_add k 1) ?_
  refine fr_scl (pc := 283) (k + 1) rfl (by omega) (by omega) dL_law_283 ?_
  refine fr_aload_n (pc := 284) rfl dL_law_284 ?_
  refine fr_iload_n (pc := 285) rfl dL_law_285 ?_
  refine fr_iconst (pc := 286) (v := 2) rfl dL_law_286 ?_
  refine fr_iadd (pc := 287) dL_law_287 ?_
  refine fr_eq (z := nI (k + 2)) (nI_add k 2) ?_
  refine fr_scl (pc := 288) (k + 2) rfl (by omega) (by omega) dL_law_288 ?_
  refine fr_callV0 (pc := 289) (ci := 3) (T := TX4) (N := 7) [.int (sci Γ (k + 1)), .int (sci Γ (k + 2))] [] (ex) gc_L_22 rfl rfl ⟨rfl, rfl, by decide, by decide⟩ (Nat.le_of_ble_eq_true rfl) rfl (by decide) h0 ⟨by decide, by decide⟩ dL_law_289 ?_
  refine fr_aload_n (pc := 292) rfl dL_law_292 ?_
  refine fr_aload_n (pc := 293) rfl dL_law_293 ?_
  refine fr_iload_n (pc := 294) rfl dL_law_294 ?_
  refine fr_iconst (pc := 295) (v := 1) rfl dL_law_295 ?_
  refine fr_iadd (pc := 296) dL_law_296 ?_
  refine fr_eq (z := nI (k + 1)) (nI_add k 1) ?_
  refine fr_scl (pc := 297) (k + 1) rfl (by omega) (by omega) dL_law_297 ?_
  refine fr_aload_n (pc := 298) rfl dL_law_298 ?_
  refine fr_iload_n (pc := 299) rfl dL_law_299 ?_
  refine fr_iconst (pc := 300) (v := 2) rfl dL_law_300 ?_
  refine fr_iadd (pc := 301) dL_law_301 ?_
  refine fr_eq (z := nI (k + 2)) (nI_add k 2) ?_
  refine fr_scl (pc := 302) (k + 2) rfl (by omega) (by omega) dL_law_302 ?_
  refine fr_callV0 (pc := 303) (ci := 4) (T := TX5) (N := 20) [.int (sci Γ (k + 1)), .int (sci Γ (k + 2))] [.int v] (ey) gc_L_25 rfl rfl ⟨rfl, rfl, by decide, by decide⟩ (Nat.le_of_ble_eq_true rfl) rfl (by decide) h42 ⟨by decide, by decide⟩ dL_law_303 ?_
  refine fr_icmp_eq (pc := 306) 1416 (by decide) dL_law_306 (fun h306 => ?_) (fun h306 => ?_)
  · exact kk
  · exact absurd rfl h306
set_option maxRecDepth 100000 in
theorem lc_listed {Γ : aG} {l : Launch} {k : Nat} {M0 M1 M2 M' : Nat → aC} {v : Int32} {f0 f1 : List Value} (hk : k + 6 ≤ Γ.2.2.2 6000) (hN : Γ.2.2.2 6000 ≤ 3072) (ex : Ev Γ l mX4_listed [.ref 0, .int (sci Γ (k + 1))] 54 M0 (some (.int v)) 54 M1) (ey : Ev Γ l mX5_listed [.ref 42, .int (sci Γ (k + 1))] 54 M1 (some (.int v)) 54 M2) (h0 : M0 0 = aO 3 f0) (h42 : M1 42 = aO 4 f1) (kk : Fr Γ l kL_law 1416 [(0, .ref 5000), (1, .ref 0), (2, .ref 42), (3, .int (nI k))] [] 54 54 1701 M2 (some (.int 1)) 54 M') : Fr Γ l kL_law 311 [(0, .ref 5000), (1, .ref 0), (2, .ref 42), (3, .int (nI k))] [] 54 54 1701 M0 (some (.int 1)) 54 M' := by
  refine fr_aload_n (pc := 311) rfl dL_law_311 ?_
  refine fr_aload_n (pc := 312) rfl dL_law_312 ?_
  refine fr_iload_n (pc := 313) rfl dL_law_313 ?_
  refine fr_iconst (pc := 314) (v := 1) rfl dL_law_314 ?_
  refine fr_iadd (pc := 315) dL_law_315 ?_
  refine fr_eq (z := nI (k + 1)) (nI_add k 1) ?_
  refine fr_scl (pc := 316) (k + 1) rfl (by omega) (by omega) dL_law_316 ?_
  refine fr_callV0 (pc := 317) (ci := 3) (T := TX4) (N := 7) [.int (sci Γ (k + 1))] [] (ex) gc_L_26 rfl rfl ⟨rfl, rfl, by decide, by decide⟩ (Nat.le_of_ble_eq_true rfl) rfl (by decide) h0 ⟨by decide, by decide⟩ dL_law_317 ?_
  refine fr_aload_n (pc := 320) rfl dL_law_320 ?_
  refine fr_aload_n (pc := 321) rfl dL_law_321 ?_
  refine fr_iload_n (pc := 322) rfl dL_law_322 ?_
  refine fr_iconst (pc := 323) (v := 1) rfl dL_law_323 ?_
  refine fr_iadd (pc := 324) dL_law_324 ?_
  refine fr_eq (z := nI (k + 1)) (nI_add k 1) ?_
  refine fr_scl (pc := 325) (k + 1) rfl (by omega) (by omega) dL_law_325 ?_
  refine fr_callV0 (pc := 326) (ci := 4) (T := TX5) (N := 20) [.int (sci Γ (k + 1))] [.int v] (ey) gc_L_30 rfl rfl ⟨rfl, rfl, by decide, by decide⟩ (Nat.le_of_ble_eq_true rfl) rfl (by decide) h42 ⟨by decide, by decide⟩ dL_law_326 ?_
  refine fr_icmp_eq (pc := 329) 1416 (by decide) dL_law_329 (fun h329 => ?_) (fun h329 => ?_)
  · exact kk
  · exact absurd rfl h329
set_option maxRecDepth 100000 in
theorem lc_wide {Γ : aG} {l : Launch} {k : Nat} {M0 M1 M2 M' : Nat → aC} {v : Int32} {f0 f1 : List Value} (hk : k + 6 ≤ Γ.2.2.2 6000) (hN : Γ.2.2.2 6000 ≤ 3072) (ex : Ev Γ l mX4_wide [.ref 0, .int (sci Γ (k + 1)), .int (sci Γ (k + 2))] 54 M0 (some (.int v)) 54 M1) (ey : Ev Γ l mX5_wide [.ref 42, .int (sci Γ (k + 1)), .int (sci Γ (k + 2))] 54 M1 (some (.int v)) 54 M2) (h0 : M0 0 = aO 3 f0) (h42 : M1 42 = aO 4 f1) (kk : Fr Γ l kL_law 1416 [(0, .ref 5000), (1, .ref 0), (2, .ref 42), (3, .int (nI k))] [] 54 54 1701 M2 (some (.int 1)) 54 M') : Fr Γ l kL_law 334 [(0, .ref 5000), (1, .ref 0), (2, .ref 42), (3, .int (nI k))] [] 54 54 1701 M0 (some (.int 1)) 54 M' := by
  refine fr_aload_n (pc := 334) rfl dL_law_334 ?_
  refine fr_aload_n (pc := 335) rfl dL_law_335 ?_
  refine fr_iload_n (pc := 336) rfl dL_law_336 ?_
  refine fr_iconst (pc := 337) (v := 1) rfl dL_law_337 ?_
  refine fr_iadd (pc := 338) dL_law_338 ?_
  refine fr_eq (z := nI (k + 1)) (nI_add k 1) ?_
  refine fr_scl (pc := 339) (k + 1) rfl (by omega) (by omega) dL_law_339 ?_
  refine fr_aload_n (pc := 340) rfl dL_law_340 ?_
  refine fr_iload_n (pc := 341) rfl dL_law_341 ?_
  refine fr_iconst (pc := 342) (v := 2) rfl dL_law_342 ?_
  refine fr_iadd (pc := 343) dL_law_343 ?_
  refine fr_eq (z := nI (k + 2)) (nI_add k 2) ?_
  refine fr_scl (pc := 344) (k + 2) rfl (by omega) (by omega) dL_law_344 ?_
  refine fr_callV0 (pc := 345) (ci := 3) (T := TX4) (N := 7) [.int (sci Γ (k + 1)), .int (sci Γ (k + 2))] [] (ex) gc_L_31 rfl rfl ⟨rfl, rfl, by decide, by decide⟩ (Nat.le_of_ble_eq_true rfl) rfl (by decide) h0 ⟨by decide, by decide⟩ dL_law_345 ?_
  refine fr_aload_n (pc := 348) rfl dL_law_348 ?_
  refine fr_aload_n (pc := 349) rfl dL_law_349 ?_
  refine fr_iload_n (pc := 350) rfl dL_law_350 ?_
  refine fr_iconst (pc := 351) (v := 1) rfl dL_law_351 ?_
  refine fr_iadd (pc := 352) dL_law_352 ?_
  refine fr_eq (z := nI (k + 1)) (nI_add k 1) ?_
  refine fr_scl (pc := 353) (k + 1) rfl (by omega) (by omega) dL_law_353 ?_
  refine fr_aload_n (pc := 354) rfl dL_law_354 ?_
  refine fr_iload_n (pc := 355) rfl dL_law_355 ?_
  refine fr_iconst (pc := 356) (v := 2) rfl dL_law_356 ?_
  refine fr_iadd (pc := 357) dL_law_357 ?_
  refine fr_eq (z := nI (k + 2)) (nI_add k 2) ?_
  refine fr_scl (pc := 358) (k + 2) rfl (by omega) (by omega) dL_law_358 ?_
  refine fr_callV0 (pc := 359) (ci := 4) (T := TX5) (N := 20) [.int (sci Γ (k + 1)), .int (sci Γ (k + 2))] [.int v] (ey) gc_L_34 rfl rfl ⟨rfl, rfl, by decide, by decide⟩ (Nat.le_of_ble_eq_true rfl) rfl (by decide) h42 ⟨by decide, by decide⟩ dL_law_359 ?_
  refine fr_icmp_eq (pc := 362) 1416 (by decide) dL_law_362 (fun h362 => ?_) (fun h362 => ?_)
  · exact kk
  · exact absurd rfl h362
set_option maxRecDepth 100000 in
theorem lc_guest {Γ : aG} {l : Launch} {k : Nat} {M0 M1 M2 M' : Nat → aC} {v : Int32} {f0 f1 : List Value} (hk : k + 6 ≤ Γ.2.2.2 6000) (hN : Γ.2.2.2 6000 ≤ 3072) (ex : Ev Γ l mX4_guest [.ref 0, .int (sci Γ (k + 1)), .int (sci Γ (k + 2))] 54 M0 (some (.int v)) 54 M1) (ey : Ev Γ l mX5_guest [.ref 42, .int (sci Γ (k + 1)), .int (sci Γ (k + 2))] 54 M1 (some (.int v)) 54 M2) (h0 : M0 0 = aO 3 f0) (h42 : M1 42 = aO 4 f1) (kk : Fr Γ l kL_law 1416 [(0, .ref 5000), (1, .ref 0), (2, .ref 42), (3, .int (nI k))] [] 54 54 1701 M2 (some (.int 1)) 54 M') : Fr Γ l kL_law 367 [(0, .ref 5000), (1, .ref 0), (2, .ref 42), (3, .int (nI k))] [] 54 54 1701 M0 (some (.int 1)) 54 M' := by
  refine fr_aload_n (pc := 367) rfl dL_law_367 ?_
  refine fr_aload_n (pc := 368) rfl dL_law_368 ?_
  refine fr_iload_n (pc := 369) rfl dL_law_369 ?_
  refine fr_iconst (pc := 370) (v := 1) rfl dL_law_370 ?_
  refine fr_iadd (pc := 371) dL_law_371 ?_
  refine fr_eq (z := nI (k + 1)) (nI_add k 1) ?_
  refine fr_scl (pc := 372) (k + 1) rfl (by omega) (by omega) dL_law_372 ?_
  refine fr_aload_n (pc := 373) rfl dL_law_373 ?_
  refine fr_iload_n (pc := 374) rfl dL_law_374 ?_
  refine fr_iconst (pc := 375) (v := 2) rfl dL_law_375 ?_
  refine fr_iadd (pc := 376) dL_law_376 ?_
  refine fr_eq (z := nI (k + 2)) (nI_add k 2) ?_
  refine fr_scl (pc := 377) (k + 2) rfl (by omega) (by omega) dL_law_377 ?_
  refine fr_callV0 (pc := 378) (ci := 3) (T := TX4) (N := 7) [.int (sci Γ (k + 1)), .int (sci Γ (k + 2))] [] (ex) gc_L_35 rfl rfl ⟨rfl, rfl, by decide, by decide⟩ (Nat.le_of_ble_eq_true rfl) rfl (by decide) h0 ⟨by decide, by decide⟩ dL_law_378 ?_
  refine fr_aload_n (pc := 381) rfl dL_law_381 ?_
  refine fr_aload_n (pc := 382) rfl dL_law_382 ?_
  refine fr_iload_n (pc := 383) rfl dL_law_383 ?_
  refine fr_iconst (pc := 384) (v := 1) rfl dL_law_384 ?_
  refine fr_iadd (pc := 385) dL_law_385 ?_
  refine fr_eq (z := nI (k + 1)) (nI_add k 1) ?_
  refine fr_scl (pc := 386) (k + 1) rfl (by omega) (by omega) dL_law_386 ?_
  refine fr_aload_n (pc := 387) rfl dL_law_387 ?_
  refine fr_iload_n (pc := 388) rfl dL_law_388 ?_
  refine fr_iconst (pc := 389) (v := 2) rfl dL_law_389 ?_
  refine fr_iadd (pc := 390) dL_law_390 ?_
  refine fr_eq (z := nI (k + 2)) (nI_add k 2) ?_
  refine fr_scl (pc := 391) (k + 2) rfl (by omega) (by omega) dL_law_391 ?_
  refine fr_callV0 (pc := 392) (ci := 4) (T := TX5) (N := 20) [.int (sci Γ (k + 1)), .int (sci Γ (k + 2))] [.int v] (ey) gc_L_38 rfl rfl ⟨rfl, rfl, by decide, by decide⟩ (Nat.le_of_ble_eq_true rfl) rfl (by decide) h42 ⟨by decide, by decide⟩ dL_law_392 ?_
  refine fr_icmp_eq (pc := 395) 1416 (by decide) dL_law_395 (fun h395 => ?_) (fun h395 => ?_)
  · exact kk
  · exact absurd rfl h395
set_option maxRecDepth 100000 in
theorem lc_of {Γ : aG} {l : Launch} {k : Nat} {M0 M1 M2 M' : Nat → aC} {v : Int32} {f0 f1 : List Value} (hk : k + 6 ≤ Γ.2.2.2 6000) (hN : Γ.2.2.2 6000 ≤ 3072) (ex : Ev Γ l mX4_of [.ref 0, .int (sci Γ (k + 1)), .int (sci Γ (k + 2))] 54 M0 (some (.int v)) 54 M1) (ey : Ev Γ l mX5_of [.ref 42, .int (sci Γ (k + 1)), .int (sci Γ (k + 2))] 54 M1 (some (.int v)) 54 M2) (h0 : M0 0 = aO 3 f0) (h42 : M1 42 = aO 4 f1) (kk : Fr Γ l kL_law 1416 [(0, .ref 5000), (1, .ref 0), (2, .ref 42), (3, .int (nI k))] [] 54 54 1701 M2 (some (.int 1)) 54 M') : Fr Γ l kL_law 400 [(0, .ref 5000), (1, .ref 0), (2, .ref 42), (3, .int (nI k))] [] 54 54 1701 M0 (some (.int 1)) 54 M' := by
  refine fr_aload_n (pc := 400) rfl dL_law_400 ?_
  refine fr_aload_n (pc := 401) rfl dL_law_401 ?_
  refine fr_iload_n (pc := 402) rfl dL_law_402 ?_
  refine fr_iconst (pc := 403) (v := 1) rfl dL_law_403 ?_
  refine fr_iadd (pc := 404) dL_law_404 ?_
  refine fr_eq (z := nI (k + 1)) (nI_add k 1) ?_
  refine fr_scl (pc := 405) (k + 1) rfl (by omega) (by omega) dL_law_405 ?_
  refine fr_aload_n (pc := 406) rfl dL_law_406 ?_
  refine fr_iload_n (pc := 407) rfl dL_law_407 ?_
  refine fr_iconst (pc := 408) (v := 2) rfl dL_law_408 ?_
  refine fr_iadd (pc := 409) dL_law_409 ?_
  refine fr_eq (z := nI (k + 2)) (nI_add k 2) ?_
  refine fr_scl (pc := 410) (k + 2) rfl (by omega) (by omega) dL_law_410 ?_
  refine fr_callV0 (pc := 411) (ci := 3) (T := TX4) (N := 7) [.int (sci Γ (k + 1)), .int (sci Γ (k + 2))] [] (ex) gc_L_39 rfl rfl ⟨rfl, rfl, by decide, by decide⟩ (Nat.le_of_ble_eq_true rfl) rfl (by decide) h0 ⟨by decide, by decide⟩ dL_law_411 ?_
  refine fr_aload_n (pc := 414) rfl dL_law_414 ?_
  refine fr_aload_n (pc := 415) rfl dL_law_415 ?_
  refine fr_iload_n (pc := 416) rfl dL_law_416 ?_
  refine fr_iconst (pc := 417) (v := 1) rfl dL_law_417 ?_
  refine fr_iadd (pc := 418) dL_law_418 ?_
  refine fr_eq (z := nI (k + 1)) (nI_add k 1) ?_
  refine fr_scl (pc := 419) (k + 1) rfl (by omega) (by omega) dL_law_419 ?_
  refine fr_aload_n (pc := 420) rfl dL_law_420 ?_
  refine fr_iload_n (pc := 421) rfl dL_law_421 ?_
  refine fr_iconst (pc := 422) (v := 2) rfl dL_law_422 ?_
  refine fr_iadd (pc := 423) dL_law_423 ?_
  refine fr_eq (z := nI (k + 2)) (nI_add k 2) ?_
  refine fr_scl (pc := 424) (k + 2) rfl (by omega) (by omega) dL_law_424 ?_
  refine fr_callV0 (pc := 425) (ci := 4) (T := TX5) (N := 20) [.int (sci Γ (k + 1)), .int (sci Γ (k + 2))] [.int v] (ey) gc_L_42 rfl rfl ⟨rfl, rfl, by decide, by decide⟩ (Nat.le_of_ble_eq_true rfl) rfl (by decide) h42 ⟨by decide, by decide⟩ dL_law_425 ?_
  refine fr_icmp_eq (pc := 428) 1416 (by decide) dL_law_428 (fun h428 => ?_) (fun h428 => ?_)
  · exact kk
  · exact absurd rfl h428
set_option maxRecDepth 100000 in
theorem lc_change {Γ : aG} {l : Launch} {k : Nat} {M0 M1 M2 M' : Nat → aC} {v : Int32} {f0 f1 : List Value} (hk : k + 6 ≤ Γ.2.2.2 6000) (hN : Γ.2.2.2 6000 ≤ 3072) (ex : Ev Γ l mX4_change [.ref 0, .int (sci Γ (k + 1)), .int (sci Γ (k + 2)), .int (sci Γ (k + 3))] 54 M0 (some (.int v)) 54 M1) (ey : Ev Γ l mX5_change [.ref 42, .int (sci Γ (k + 1)), .int (sci Γ (k + 2)), .int (sci Γ (k + 3))] 54 M1 (some (.int v)) 54 M2) (h0 : M0 0 = aO 3 f0) (h42 : M1 42 = aO 4 f1) (kk : Fr Γ l kL_law 1416 [(0, .ref 5000), (1, .ref 0), (2, .ref 42), (3, .int (nI k))] [] 54 54 1701 M2 (some (.int 1)) 54 M') : Fr Γ l kL_law 433 [(0, .ref 5000), (1, .ref 0), (2, .ref 42), (3, .int (nI k))] [] 54 54 1701 M0 (some (.int 1)) 54 M' := by
  refine fr_aload_n (pc := 433) rfl dL_law_433 ?_
  refine fr_aload_n (pc := 434) rfl dL_law_434 ?_
  refine fr_iload_n (pc := 435) rfl dL_law_435 ?_
  refine fr_iconst (pc := 436) (v := 1) rfl dL_law_436 ?_
  refine fr_iadd (pc := 437) dL_law_437 ?_
  refine fr_eq (z := nI (k + 1)) (nI_add k 1) ?_
  refine fr_scl (pc := 438) (k + 1) rfl (by omega) (by omega) dL_law_438 ?_
  refine fr_aload_n (pc := 439) rfl dL_law_439 ?_
  refine fr_iload_n (pc := 440) rfl dL_law_440 ?_
  refine fr_iconst (pc := 441) (v := 2) rfl dL_law_441 ?_
  refine fr_iadd (pc := 442) dL_law_442 ?_
  refine fr_eq (z := nI (k + 2)) (nI_add k 2) ?_
  refine fr_scl (pc := 443) (k + 2) rfl (by omega) (by omega) dL_law_443 ?_
  refine fr_aload_n (pc := 444) rfl dL_law_444 ?_
  refine fr_iload_n (pc := 445) rfl dL_law_445 ?_
  refine fr_iconst (pc := 446) (v := 3) rfl dL_law_446 ?_
  refine fr_iadd (pc := 447) dL_law_447 ?_
  refine fr_eq (z := nI (k + 3)) (nI_add k 3) ?_
  refine fr_scl (pc := 448) (k + 3) rfl (by omega) (by omega) dL_law_448 ?_
  refine fr_callV0 (pc := 449) (ci := 3) (T := TX4) (N := 7) [.int (sci Γ (k + 1)), .int (sci Γ (k + 2)), .int (sci Γ (k + 3))] [] (ex) gc_L_43 rfl rfl ⟨rfl, rfl, by decide, by decide⟩ (Nat.le_of_ble_eq_true rfl) rfl (by decide) h0 ⟨by decide, by decide⟩ dL_law_449 ?_
  refine fr_aload_n (pc := 452) rfl dL_law_452 ?_
  refine fr_aload_n (pc := 453) rfl dL_law_453 ?_
  refine fr_iload_n (pc := 454) rfl dL_law_454 ?_
  refine fr_iconst (pc := 455) (v := 1) rfl dL_law_455 ?_
  refine fr_iadd (pc := 456) dL_law_456 ?_
  refine fr_eq (z := nI (k + 1)) (nI_add k 1) ?_
  refine fr_scl (pc := 457) (k + 1) rfl (by omega) (by omega) dL_law_457 ?_
  refine fr_aload_n (pc := 458) rfl dL_law_458 ?_
  refine fr_iload_n (pc := 459) rfl dL_law_459 ?_
  refine fr_iconst (pc := 460) (v := 2) rfl dL_law_460 ?_
  refine fr_iadd (pc := 461) dL_law_461 ?_
  refine fr_eq (z := nI (k + 2)) (nI_add k 2) ?_
  refine fr_scl (pc := 462) (k + 2) rfl (by omega) (by omega) dL_law_462 ?_
  refine fr_aload_n (pc := 463) rfl dL_law_463 ?_
  refine fr_iload_n (pc := 464) rfl dL_law_464 ?_
  refine fr_iconst (pc := 465) (v := 3) rfl dL_law_465 ?_
  refine fr_iadd (pc := 466) dL_law_466 ?_
  refine fr_eq (z := nI (k + 3)) (nI_add k 3) ?_
  refine fr_scl (pc := 467) (k + 3) rfl (by omega) (by omega) dL_law_467 ?_
  refine fr_callV0 (pc := 468) (ci := 4) (T := TX5) (N := 20) [.int (sci Γ (k + 1)), .int (sci Γ (k + 2)), .int (sci Γ (k + 3))] [.int v] (ey) gc_L_47 rfl rfl ⟨rfl, rfl, by decide, by decide⟩ (Nat.le_of_ble_eq_true rfl) rfl (by decide) h42 ⟨by decide, by decide⟩ dL_law_468 ?_
  refine fr_icmp_eq (pc := 471) 1416 (by decide) dL_law_471 (fun h471 => ?_) (fun h471 => ?_)
  · exact kk
  · exact absurd rfl h471
set_option maxRecDepth 100000 in
theorem lc_reach {Γ : aG} {l : Launch} {k : Nat} {M0 M1 M2 M' : Nat → aC} {v : Int32} {f0 f1 : List Value} (hk : k + 6 ≤ Γ.2.2.2 6000) (hN : Γ.2.2.2 6000 ≤ 3072) (ex : Ev Γ l mX4_reach [.ref 0, .int (sci Γ (k + 1)), .int (sci Γ (k + 2))] 54 M0 (some (.int v)) 54 M1) (ey : Ev Γ l mX5_reach [.ref 42, .int (sci Γ (k + 1)), .int (sci Γ (k + 2))] 54 M1 (some (.int v)) 54 M2) (h0 : M0 0 = aO 3 f0) (h42 : M1 42 = aO 4 f1) (kk : Fr Γ l kL_law 1416 [(0, .ref 5000), (1, .ref 0), (2, .ref 42), (3, .int (nI k))] [] 54 54 1701 M2 (some (.int 1)) 54 M') : Fr Γ l kL_law 476 [(0, .ref 5000), (1, .ref 0), (2, .ref 42), (3, .int (nI k))] [] 54 54 1701 M0 (some (.int 1)) 54 M' := by
  refine fr_aload_n (pc := 476) rfl dL_law_476 ?_
  refine fr_aload_n (pc := 477) rfl dL_law_477 ?_
  refine fr_iload_n (pc := 478) rfl dL_law_478 ?_
  refine fr_iconst (pc := 479) (v := 1) rfl dL_law_479 ?_
  refine fr_iadd (pc := 480) dL_law_480 ?_
  refine fr_eq (z := nI (k + 1)) (nI_add k 1) ?_
  refine fr_scl (pc := 481) (k + 1) rfl (by omega) (by omega) dL_law_481 ?_
  refine fr_aload_n (pc := 482) rfl dL_law_482 ?_
  refine fr_iload_n (pc := 483) rfl dL_law_483 ?_
  refine fr_iconst (pc := 484) (v := 2) rfl dL_law_484 ?_
  refine fr_iadd (pc := 485) dL_law_485 ?_
  refine fr_eq (z := nI (k + 2)) (nI_add k 2) ?_
  refine fr_scl (pc := 486) (k + 2) rfl (by omega) (by omega) dL_law_486 ?_
  refine fr_callV0 (pc := 487) (ci := 3) (T := TX4) (N := 7) [.int (sci Γ (k + 1)), .int (sci Γ (k + 2))] [] (ex) gc_L_48 rfl rfl ⟨rfl, rfl, by decide, by decide⟩ (Nat.le_of_ble_eq_true rfl) rfl (by decide) h0 ⟨by decide, by decide⟩ dL_law_487 ?_
  refine fr_aload_n (pc := 490) rfl dL_law_490 ?_
  refine fr_aload_n (pc := 491) rfl dL_law_491 ?_
  refine fr_iload_n (pc := 492) rfl dL_law_492 ?_
  refine fr_iconst (pc := 493) (v := 1) rfl dL_law_493 ?_
  refine fr_iadd (pc := 494) dL_law_494 ?_
  refine fr_eq (z := nI (k + 1)) (nI_add k 1) ?_
  refine fr_scl (pc := 495) (k + 1) rfl (by omega) (by omega) dL_law_495 ?_
  refine fr_aload_n (pc := 496) rfl dL_law_496 ?_
  refine fr_iload_n (pc := 497) rfl dL_law_497 ?_
  refine fr_iconst (pc := 498) (v := 2) rfl dL_law_498 ?_
  refine fr_iadd (pc := 499) dL_law_499 ?_
  refine fr_eq (z := nI (k + 2)) (nI_add k 2) ?_
  refine fr_scl (pc := 500) (k + 2) rfl (by omega) (by omega) dL_law_500 ?_
  refine fr_callV0 (pc := 501) (ci := 4) (T := TX5) (N := 20) [.int (sci Γ (k + 1)), .int (sci Γ (k + 2))] [.int v] (ey) gc_L_51 rfl rfl ⟨rfl, rfl, by decide, by decide⟩ (Nat.le_of_ble_eq_true rfl) rfl (by decide) h42 ⟨by decide, by decide⟩ dL_law_501 ?_
  refine fr_icmp_eq (pc := 504) 1416 (by decide) dL_law_504 (fun h504 => ?_) (fun h504 => ?_)
  · exact kk
  · exact absurd rfl h504
set_option maxRecDepth 100000 in
theorem lc_go {Γ : aG} {l : Launch} {k : Nat} {M0 M1 M2 M' : Nat → aC} {v : Int32} {f0 f1 : List Value} (hk : k + 6 ≤ Γ.2.2.2 6000) (hN : Γ.2.2.2 6000 ≤ 3072) (ex : Ev Γ l mX4_go [.ref 0, .int (sci Γ (k + 1))] 54 M0 (some (.int v)) 54 M1) (ey : Ev Γ l mX5_go [.ref 42, .int (sci Γ (k + 1))] 54 M1 (some (.int v)) 54 M2) (h0 : M0 0 = aO 3 f0) (h42 : M1 42 = aO 4 f1) (kk : Fr Γ l kL_law 1416 [(0, .ref 5000), (1, .ref 0), (2, .ref 42), (3, .int (nI k))] [] 54 54 1701 M2 (some (.int 1)) 54 M') : Fr Γ l kL_law 509 [(0, .ref 5000), (1, .ref 0), (2, .ref 42), (3, .int (nI k))] [] 54 54 1701 M0 (some (.int 1)) 54 M' := by
  refine fr_aload_n (pc := 509) rfl dL_law_509 ?_
  refine fr_aload_n (pc := 510) rfl dL_law_510 ?_
  refine fr_iload_n (pc := 511) rfl dL_law_511 ?_
  refine fr_iconst (pc := 512) (v := 1) rfl dL_law_512 ?_
  refine fr_iadd (pc := 513) dL_law_513 ?_
  refine fr_eq (z := nI (k + 1)) (nI_add k 1) ?_
  refine fr_scl (pc := 514) (k + 1) rfl (by omega) (by omega) dL_law_514 ?_
  refine fr_callV0 (pc := 515) (ci := 3) (T := TX4) (N := 7) [.int (sci Γ (k + 1))] [] (ex) gc_L_52 rfl rfl ⟨rfl, rfl, by decide, by decide⟩ (Nat.le_of_ble_eq_true rfl) rfl (by decide) h0 ⟨by decide, by decide⟩ dL_law_515 ?_
  refine fr_aload_n (pc := 518) rfl dL_law_518 ?_
  refine fr_aload_n (pc := 519) rfl dL_law_519 ?_
  refine fr_iload_n (pc := 520) rfl dL_law_520 ?_
  refine fr_iconst (pc := 521) (v := 1) rfl dL_law_521 ?_
  refine fr_iadd (pc := 522) dL_law_522 ?_
  refine fr_eq (z := nI (k + 1)) (nI_add k 1) ?_
  refine fr_scl (pc := 523) (k + 1) rfl (by omega) (by omega) dL_law_523 ?_
  refine fr_callV0 (pc := 524) (ci := 4) (T := TX5) (N := 20) [.int (sci Γ (k + 1))] [.int v] (ey) gc_L_55 rfl rfl ⟨rfl, rfl, by decide, by decide⟩ (Nat.le_of_ble_eq_true rfl) rfl (by decide) h42 ⟨by decide, by decide⟩ dL_law_524 ?_
  refine fr_icmp_eq (pc := 527) 1416 (by decide) dL_law_527 (fun h527 => ?_) (fun h527 => ?_)
  · exact kk
  · exact absurd rfl h527
set_option maxRecDepth 100000 in
theorem lc_now {Γ : aG} {l : Launch} {k : Nat} {M0 M1 M2 M' : Nat → aC} {v : Int32} {f0 f1 : List Value} (hk : k + 6 ≤ Γ.2.2.2 6000) (hN : Γ.2.2.2 6000 ≤ 3072) (ex : Ev Γ l mX4_now [.ref 0, .int (sci Γ (k + 1))] 54 M0 (some (.int v)) 54 M1) (ey : Ev Γ l mX5_now [.ref 42, .int (sci Γ (k + 1))] 54 M1 (some (.int v)) 54 M2) (h0 : M0 0 = aO 3 f0) (h42 : M1 42 = aO 4 f1) (kk : Fr Γ l kL_law 1416 [(0, .ref 5000), (1, .ref 0), (2, .ref 42), (3, .int (nI k))] [] 54 54 1701 M2 (some (.int 1)) 54 M') : Fr Γ l kL_law 532 [(0, .ref 5000), (1, .ref 0), (2, .ref 42), (3, .int (nI k))] [] 54 54 1701 M0 (some (.int 1)) 54 M' := by
  refine fr_aload_n (pc := 532) rfl dL_law_532 ?_
  refine fr_aload_n (pc := 533) rfl dL_law_533 ?_
  refine fr_iload_n (pc := 534) rfl dL_law_534 ?_
  refine fr_iconst (pc := 535) (v := 1) rfl dL_law_535 ?_
  refine fr_iadd (pc := 536) dL_law_536 ?_
  refine fr_eq (z := nI (k + 1)) (nI_add k 1) ?_
  refine fr_scl (pc := 537) (k + 1) rfl (by omega) (by omega) dL_law_537 ?_
  refine fr_callV0 (pc := 538) (ci := 3) (T := TX4) (N := 7) [.int (sci Γ (k + 1))] [] (ex) gc_L_56 rfl rfl ⟨rfl, rfl, by decide, by decide⟩ (Nat.le_of_ble_eq_true rfl) rfl (by decide) h0 ⟨by decide, by decide⟩ dL_law_538 ?_
  refine fr_aload_n (pc := 541) rfl dL_law_541 ?_
  refine fr_aload_n (pc := 542) rfl dL_law_542 ?_
  refine fr_iload_n (pc := 543) rfl dL_law_543 ?_
  refine fr_iconst (pc := 544) (v := 1) rfl dL_law_544 ?_
  refine fr_iadd (pc := 545) dL_law_545 ?_
  refine fr_eq (z := nI (k + 1)) (nI_add k 1) ?_
  refine fr_scl (pc := 546) (k + 1) rfl (by omega) (by omega) dL_law_546 ?_
  refine fr_callV0 (pc := 547) (ci := 4) (T := TX5) (N := 20) [.int (sci Γ (k + 1))] [.int v] (ey) gc_L_59 rfl rfl ⟨rfl, rfl, by decide, by decide⟩ (Nat.le_of_ble_eq_true rfl) rfl (by decide) h42 ⟨by decide, by decide⟩ dL_law_547 ?_
  refine fr_icmp_eq (pc := 550) 1416 (by decide) dL_law_550 (fun h550 => ?_) (fun h550 => ?_)
  · exact kk
  · exact absurd rfl h550
set_option maxRecDepth 100000 in
theorem lc_ahead {Γ : aG} {l : Launch} {k : Nat} {M0 M1 M2 M' : Nat → aC} {v : Int32} {f0 f1 : List Value} (hk : k + 6 ≤ Γ.2.2.2 6000) (hN : Γ.2.2.2 6000 ≤ 3072) (ex : Ev Γ l mX4_ahead [.ref 0, .int (sci Γ (k + 1)), .int (sci Γ (k + 2)), .int (sci Γ (k + 3))] 54 M0 (some (.int v)) 54 M1) (ey : Ev Γ l mX5_ahead [.ref 42, .int (sci Γ (k + 1)), .int (sci Γ (k + 2)), .int (sci Γ (k + 3))] 54 M1 (some (.int v)) 54 M2) (h0 : M0 0 = aO 3 f0) (h42 : M1 42 = aO 4 f1) (kk : Fr Γ l kL_law 1416 [(0, .ref 5000), (1, .ref 0), (2, .ref 42), (3, .int (nI k))] [] 54 54 1701 M2 (some (.int 1)) 54 M') : Fr Γ l kL_law 555 [(0, .ref 5000), (1, .ref 0), (2, .ref 42), (3, .int (nI k))] [] 54 54 1701 M0 (some (.int 1)) 54 M' := by
  refine fr_aload_n (pc := 555) rfl dL_law_555 ?_
  refine fr_aload_n (pc := 556) rfl dL_law_556 ?_
  refine fr_iload_n (pc := 557) rfl dL_law_557 ?_
  refine fr_iconst (pc := 558) (v := 1) rfl dL_law_558 ?_
  refine fr_iadd (pc := 559) dL_law_559 ?_
  refine fr_eq (z := nI (k + 1)) (nI_add k 1) ?_
  refine fr_scl (pc := 560) (k + 1) rfl (by omega) (by omega) dL_law_560 ?_
  refine fr_aload_n (pc := 561) rfl dL_law_561 ?_
  refine fr_iload_n (pc := 562) rfl dL_law_562 ?_
  refine fr_iconst (pc := 563) (v := 2) rfl dL_law_563 ?_
  refine fr_iadd (pc := 564) dL_law_564 ?_
  refine fr_eq (z := nI (k + 2)) (nI_add k 2) ?_
  refine fr_scl (pc := 565) (k + 2) rfl (by omega) (by omega) dL_law_565 ?_
  refine fr_aload_n (pc := 566) rfl dL_law_566 ?_
  refine fr_iload_n (pc := 567) rfl dL_law_567 ?_
  refine fr_iconst (pc := 568) (v := 3) rfl dL_law_568 ?_
  refine fr_iadd (pc := 569) dL_law_569 ?_
  refine fr_eq (z := nI (k + 3)) (nI_add k 3) ?_
  refine fr_scl (pc := 570) (k + 3) rfl (by omega) (by omega) dL_law_570 ?_
  refine fr_callV0 (pc := 571) (ci := 3) (T := TX4) (N := 7) [.int (sci Γ (k + 1)), .int (sci Γ (k + 2)), .int (sci Γ (k + 3))] [] (ex) gc_L_60 rfl rfl ⟨rfl, rfl, by decide, by decide⟩ (Nat.le_of_ble_eq_true rfl) rfl (by decide) h0 ⟨by decide, by decide⟩ dL_law_571 ?_
  refine fr_aload_n (pc := 574) rfl dL_law_574 ?_
  refine fr_aload_n (pc := 575) rfl dL_law_575 ?_
  refine fr_iload_n (pc := 576) rfl dL_law_576 ?_
  refine fr_iconst (pc := 577) (v := 1) rfl dL_law_577 ?_
  refine fr_iadd (pc := 578) dL_law_578 ?_
  refine fr_eq (z := nI (k + 1)) (nI_add k 1) ?_
  refine fr_scl (pc := 579) (k + 1) rfl (by omega) (by omega) dL_law_579 ?_
  refine fr_aload_n (pc := 580) rfl dL_law_580 ?_
  refine fr_iload_n (pc := 581) rfl dL_law_581 ?_
  refine fr_iconst (pc := 582) (v := 2) rfl dL_law_582 ?_
  refine fr_iadd (pc := 583) dL_law_583 ?_
  refine fr_eq (z := nI (k + 2)) (nI_add k 2) ?_
  refine fr_scl (pc := 584) (k + 2) rfl (by omega) (by omega) dL_law_584 ?_
  refine fr_aload_n (pc := 585) rfl dL_law_585 ?_
  refine fr_iload_n (pc := 586) rfl dL_law_586 ?_
  refine fr_iconst (pc := 587) (v := 3) rfl dL_law_587 ?_
  refine fr_iadd (pc := 588) dL_law_588 ?_
  refine fr_eq (z := nI (k + 3)) (nI_add k 3) ?_
  refine fr_scl (pc := 589) (k + 3) rfl (by omega) (by omega) dL_law_589 ?_
  refine fr_callV0 (pc := 590) (ci := 4) (T := TX5) (N := 20) [.int (sci Γ (k + 1)), .int (sci Γ (k + 2)), .int (sci Γ (k + 3))] [.int v] (ey) gc_L_63 rfl rfl ⟨rfl, rfl, by decide, by decide⟩ (Nat.le_of_ble_eq_true rfl) rfl (by decide) h42 ⟨by decide, by decide⟩ dL_law_590 ?_
  refine fr_icmp_eq (pc := 593) 1416 (by decide) dL_law_593 (fun h593 => ?_) (fun h593 => ?_)
  · exact kk
  · exact absurd rfl h593
set_option maxRecDepth 100000 in
theorem lc_strain {Γ : aG} {l : Launch} {k : Nat} {M0 M1 M2 M' : Nat → aC} {v : Int32} {f0 f1 : List Value} (hk : k + 6 ≤ Γ.2.2.2 6000) (hN : Γ.2.2.2 6000 ≤ 3072) (ex : Ev Γ l mX4_strain [.ref 0, .int (sci Γ (k + 1))] 54 M0 (some (.int v)) 54 M1) (ey : Ev Γ l mX5_strain [.ref 42, .int (sci Γ (k + 1))] 54 M1 (some (.int v)) 54 M2) (h0 : M0 0 = aO 3 f0) (h42 : M1 42 = aO 4 f1) (kk : Fr Γ l kL_law 1416 [(0, .ref 5000), (1, .ref 0), (2, .ref 42), (3, .int (nI k))] [] 54 54 1701 M2 (some (.int 1)) 54 M') : Fr Γ l kL_law 598 [(0, .ref 5000), (1, .ref 0), (2, .ref 42), (3, .int (nI k))] [] 54 54 1701 M0 (some (.int 1)) 54 M' := by
  refine fr_aload_n (pc := 598) rfl dL_law_598 ?_
  refine fr_aload_n (pc := 599) rfl dL_law_599 ?_
  refine fr_iload_n (pc := 600) rfl dL_law_600 ?_
  refine fr_iconst (pc := 601) (v := 1) rfl dL_law_601 ?_
  refine fr_iadd (pc := 602) dL_law_602 ?_
  refine fr_eq (z := nI (k + 1)) (nI_add k 1) ?_
  refine fr_scl (pc := 603) (k + 1) rfl (by omega) (by omega) dL_law_603 ?_
  refine fr_callV0 (pc := 604) (ci := 3) (T := TX4) (N := 7) [.int (sci Γ (k + 1))] [] (ex) gc_L_64 rfl rfl ⟨rfl, rfl, by decide, by decide⟩ (Nat.le_of_ble_eq_true rfl) rfl (by decide) h0 ⟨by decide, by decide⟩ dL_law_604 ?_
  refine fr_aload_n (pc := 607) rfl dL_law_607 ?_
  refine fr_aload_n (pc := 608) rfl dL_law_608 ?_
  refine fr_iload_n (pc := 609) rfl dL_law_609 ?_
  refine fr_iconst (pc := 610) (v := 1) rfl dL_law_610 ?_
  refine fr_iadd (pc := 611) dL_law_611 ?_
  refine fr_eq (z := nI (k + 1)) (nI_add k 1) ?_
  refine fr_scl (pc := 612) (k + 1) rfl (by omega) (by omega) dL_law_612 ?_
  refine fr_callV0 (pc := 613) (ci := 4) (T := TX5) (N := 20) [.int (sci Γ (k + 1))] [.int v] (ey) gc_L_67 rfl rfl ⟨rfl, rfl, by decide, by decide⟩ (Nat.le_of_ble_eq_true rfl) rfl (by decide) h42 ⟨by decide, by decide⟩ dL_law_613 ?_
  refine fr_icmp_eq (pc := 616) 1416 (by decide) dL_law_616 (fun h616 => ?_) (fun h616 => ?_)
  · exact kk
  · exact absurd rfl h616
set_option maxRecDepth 100000 in
theorem lc_snaps {Γ : aG} {l : Launch} {k : Nat} {M0 M1 M2 M' : Nat → aC} {v : Int32} {f0 f1 : List Value} (hk : k + 6 ≤ Γ.2.2.2 6000) (hN : Γ.2.2.2 6000 ≤ 3072) (ex : Ev Γ l mX4_snaps [.ref 0] 54 M0 (some (.int v)) 54 M1) (ey : Ev Γ l mX5_snaps [.ref 42] 54 M1 (some (.int v)) 54 M2) (h0 : M0 0 = aO 3 f0) (h42 : M1 42 = aO 4 f1) (kk : Fr Γ l kL_law 1416 [(0, .ref 5000), (1, .ref 0), (2, .ref 42), (3, .int (nI k))] [] 54 54 1701 M2 (some (.int 1)) 54 M') : Fr Γ l kL_law 621 [(0, .ref 5000), (1, .ref 0), (2, .ref 42), (3, .int (nI k))] [] 54 54 1701 M0 (some (.int 1)) 54 M' := by
  refine fr_aload_n (pc := 621) rfl dL_law_621 ?_
  refine fr_callV0 (pc := 622) (ci := 3) (T := TX4) (N := 7) [] [] (ex) gc_L_68 rfl rfl ⟨rfl, rfl, by decide, by decide⟩ (Nat.le_of_ble_eq_true rfl) rfl (by decide) h0 ⟨by decide, by decide⟩ dL_law_622 ?_
  refine fr_aload_n (pc := 625) rfl dL_law_625 ?_
  refine fr_callV0 (pc := 626) (ci := 4) (T := TX5) (N := 20) [] [.int v] (ey) gc_L_72 rfl rfl ⟨rfl, rfl, by decide, by decide⟩ (Nat.le_of_ble_eq_true rfl) rfl (by decide) h42 ⟨by decide, by decide⟩ dL_law_626 ?_
  refine fr_icmp_eq (pc := 629) 1416 (by decide) dL_law_629 (fun h629 => ?_) (fun h629 => ?_)
  · exact kk
  · exact absurd rfl h629
set_option maxRecDepth 100000 in
theorem lc_comes {Γ : aG} {l : Launch} {k : Nat} {M0 M1 M2 M' : Nat → aC} {v : Int32} {f0 f1 : List Value} (hk : k + 6 ≤ Γ.2.2.2 6000) (hN : Γ.2.2.2 6000 ≤ 3072) (ex : Ev Γ l mX4_comes [.ref 0, .int (sci Γ (k + 1)), .int (sci Γ (k + 2))] 54 M0 (some (.int v)) 54 M1) (ey : Ev Γ l mX5_comes [.ref 42, .int (sci Γ (k + 1)), .int (sci Γ (k + 2))] 54 M1 (some (.int v)) 54 M2) (h0 : M0 0 = aO 3 f0) (h42 : M1 42 = aO 4 f1) (kk : Fr Γ l kL_law 1416 [(0, .ref 5000), (1, .ref 0), (2, .ref 42), (3, .int (nI k))] [] 54 54 1701 M2 (some (.int 1)) 54 M') : Fr Γ l kL_law 634 [(0, .ref 5000), (1, .ref 0), (2, .ref 42), (3, .int (nI k))] [] 54 54 1701 M0 (some (.int 1)) 54 M' := by
  refine fr_aload_n (pc := 634) rfl dL_law_634 ?_
  refine fr_aload_n (pc := 635) rfl dL_law_635 ?_
  refine fr_iload_n (pc := 636) rfl dL_law_636 ?_
  refine fr_iconst (pc := 637) (v := 1) rfl dL_law_637 ?_
  refine fr_iadd (pc := 638) dL_law_638 ?_
  refine fr_eq (z := nI (k + 1)) (nI_add k 1) ?_
  refine fr_scl (pc := 639) (k + 1) rfl (by omega) (by omega) dL_law_639 ?_
  refine fr_aload_n (pc := 640) rfl dL_law_640 ?_
  refine fr_iload_n (pc := 641) rfl dL_law_641 ?_
  refine fr_iconst (pc := 642) (v := 2) rfl dL_law_642 ?_
  refine fr_iadd (pc := 643) dL_law_643 ?_
  refine fr_eq (z := nI (k + 2)) (nI_add k 2) ?_
  refine fr_scl (pc := 644) (k + 2) rfl (by omega) (by omega) dL_law_644 ?_
  refine fr_callV0 (pc := 645) (ci := 3) (T := TX4) (N := 7) [.int (sci Γ (k + 1)), .int (sci Γ (k + 2))] [] (ex) gc_L_73 rfl rfl ⟨rfl, rfl, by decide, by decide⟩ (Nat.le_of_ble_eq_true rfl) rfl (by decide) h0 ⟨by decide, by decide⟩ dL_law_645 ?_
  refine fr_aload_n (pc := 648) rfl dL_law_648 ?_
  refine fr_aload_n (pc := 649) rfl dL_law_649 ?_
  refine fr_iload_n (pc := 650) rfl dL_law_650 ?_
  refine fr_iconst (pc := 651) (v := 1) rfl dL_law_651 ?_
  refine fr_iadd (pc := 652) dL_law_652 ?_
  refine fr_eq (z := nI (k + 1)) (nI_add k 1) ?_
  refine fr_scl (pc := 653) (k + 1) rfl (by omega) (by omega) dL_law_653 ?_
  refine fr_aload_n (pc := 654) rfl dL_law_654 ?_
  refine fr_iload_n (pc := 655) rfl dL_law_655 ?_
  refine fr_iconst (pc := 656) (v := 2) rfl dL_law_656 ?_
  refine fr_iadd (pc := 657) dL_law_657 ?_
  refine fr_eq (z := nI (k + 2)) (nI_add k 2) ?_
  refine fr_scl (pc := 658) (k + 2) rfl (by omega) (by omega) dL_law_658 ?_
  refine fr_callV0 (pc := 659) (ci := 4) (T := TX5) (N := 20) [.int (sci Γ (k + 1)), .int (sci Γ (k + 2))] [.int v] (ey) gc_L_76 rfl rfl ⟨rfl, rfl, by decide, by decide⟩ (Nat.le_of_ble_eq_true rfl) rfl (by decide) h42 ⟨by decide, by decide⟩ dL_law_659 ?_
  refine fr_icmp_eq (pc := 662) 1416 (by decide) dL_law_662 (fun h662 => ?_) (fun h662 => ?_)
  · exact kk
  · exact absurd rfl h662
set_option maxRecDepth 100000 in
theorem lc_stuck {Γ : aG} {l : Launch} {k : Nat} {M0 M1 M2 M' : Nat → aC} {v : Int32} {f0 f1 : List Value} (hk : k + 6 ≤ Γ.2.2.2 6000) (hN : Γ.2.2.2 6000 ≤ 3072) (ex : Ev Γ l mX4_stuck [.ref 0, .int (sci Γ (k + 1)), .int (sci Γ (k + 2))] 54 M0 (some (.int v)) 54 M1) (ey : Ev Γ l mX5_stuck [.ref 42, .int (sci Γ (k + 1)), .int (sci Γ (k + 2))] 54 M1 (some (.int v)) 54 M2) (h0 : M0 0 = aO 3 f0) (h42 : M1 42 = aO 4 f1) (kk : Fr Γ l kL_law 1416 [(0, .ref 5000), (1, .ref 0), (2, .ref 42), (3, .int (nI k))] [] 54 54 1701 M2 (some (.int 1)) 54 M') : Fr Γ l kL_law 667 [(0, .ref 5000), (1, .ref 0), (2, .ref 42), (3, .int (nI k))] [] 54 54 1701 M0 (some (.int 1)) 54 M' := by
  refine fr_aload_n (pc := 667) rfl dL_law_667 ?_
  refine fr_aload_n (pc := 668) rfl dL_law_668 ?_
  refine fr_iload_n (pc := 669) rfl dL_law_669 ?_
  refine fr_iconst (pc := 670) (v := 1) rfl dL_law_670 ?_
  refine fr_iadd (pc := 671) dL_law_671 ?_
  refine fr_eq (z := nI (k + 1)) (nI_add k 1) ?_
  refine fr_scl (pc := 672) (k + 1) rfl (by omega) (by omega) dL_law_672 ?_
  refine fr_aload_n (pc := 673) rfl dL_law_673 ?_
  refine fr_iload_n (pc := 674) rfl dL_law_674 ?_
  refine fr_iconst (pc := 675) (v := 2) rfl dL_law_675 ?_
  refine fr_iadd (pc := 676) dL_law_676 ?_
  refine fr_eq (z := nI (k + 2)) (nI_add k 2) ?_
  refine fr_scl (pc := 677) (k + 2) rfl (by omega) (by omega) dL_law_677 ?_
  refine fr_callV0 (pc := 678) (ci := 3) (T := TX4) (N := 7) [.int (sci Γ (k + 1)), .int (sci Γ (k + 2))] [] (ex) gc_L_77 rfl rfl ⟨rfl, rfl, by decide, by decide⟩ (Nat.le_of_ble_eq_true rfl) rfl (by decide) h0 ⟨by decide, by decide⟩ dL_law_678 ?_
  refine fr_aload_n (pc := 681) rfl dL_law_681 ?_
  refine fr_aload_n (pc := 682) rfl dL_law_682 ?_
  refine fr_iload_n (pc := 683) rfl dL_law_683 ?_
  refine fr_iconst (pc := 684) (v := 1) rfl dL_law_684 ?_
  refine fr_iadd (pc := 685) dL_law_685 ?_
  refine fr_eq (z := nI (k + 1)) (nI_add k 1) ?_
  refine fr_scl (pc := 686) (k + 1) rfl (by omega) (by omega) dL_law_686 ?_
  refine fr_aload_n (pc := 687) rfl dL_law_687 ?_
  refine fr_iload_n (pc := 688) rfl dL_law_688 ?_
  refine fr_iconst (pc := 689) (v := 2) rfl dL_law_689 ?_
  refine fr_iadd (pc := 690) dL_law_690 ?_
  refine fr_eq (z := nI (k + 2)) (nI_add k 2) ?_
  refine fr_scl (pc := 691) (k + 2) rfl (by omega) (by omega) dL_law_691 ?_
  refine fr_callV0 (pc := 692) (ci := 4) (T := TX5) (N := 20) [.int (sci Γ (k + 1)), .int (sci Γ (k + 2))] [.int v] (ey) gc_L_80 rfl rfl ⟨rfl, rfl, by decide, by decide⟩ (Nat.le_of_ble_eq_true rfl) rfl (by decide) h42 ⟨by decide, by decide⟩ dL_law_692 ?_
  refine fr_icmp_eq (pc := 695) 1416 (by decide) dL_law_695 (fun h695 => ?_) (fun h695 => ?_)
  · exact kk
  · exact absurd rfl h695
set_option maxRecDepth 100000 in
theorem lc_tight {Γ : aG} {l : Launch} {k : Nat} {M0 M1 M2 M' : Nat → aC} {v : Int32} {f0 f1 : List Value} (hk : k + 6 ≤ Γ.2.2.2 6000) (hN : Γ.2.2.2 6000 ≤ 3072) (ex : Ev Γ l mX4_tight [.ref 0, .int (sci Γ (k + 1)), .int (sci Γ (k + 2))] 54 M0 (some (.int v)) 54 M1) (ey : Ev Γ l mX5_tight [.ref 42, .int (sci Γ (k + 1)), .int (sci Γ (k + 2))] 54 M1 (some (.int v)) 54 M2) (h0 : M0 0 = aO 3 f0) (h42 : M1 42 = aO 4 f1) (kk : Fr Γ l kL_law 1416 [(0, .ref 5000), (1, .ref 0), (2, .ref 42), (3, .int (nI k))] [] 54 54 1701 M2 (some (.int 1)) 54 M') : Fr Γ l kL_law 700 [(0, .ref 5000), (1, .ref 0), (2, .ref 42), (3, .int (nI k))] [] 54 54 1701 M0 (some (.int 1)) 54 M' := by
  refine fr_aload_n (pc := 700) rfl dL_law_700 ?_
  refine fr_aload_n (pc := 701) rfl dL_law_701 ?_
  refine fr_iload_n (pc := 702) rfl dL_law_702 ?_
  refine fr_iconst (pc := 703) (v := 1) rfl dL_law_703 ?_
  refine fr_iadd (pc := 704) dL_law_704 ?_
  refine fr_eq (z := nI (k + 1)) (nI_add k 1) ?_
  refine fr_scl (pc := 705) (k + 1) rfl (by omega) (by omega) dL_law_705 ?_
  refine fr_aload_n (pc := 706) rfl dL_law_706 ?_
  refine fr_iload_n (pc := 707) rfl dL_law_707 ?_
  refine fr_iconst (pc := 708) (v := 2) rfl dL_law_708 ?_
  refine fr_iadd (pc := 709) dL_law_709 ?_
  refine fr_eq (z := nI (k + 2)) (nI_add k 2) ?_
  refine fr_scl (pc := 710) (k + 2) rfl (by omega) (by omega) dL_law_710 ?_
  refine fr_callV0 (pc := 711) (ci := 3) (T := TX4) (N := 7) [.int (sci Γ (k + 1)), .int (sci Γ (k + 2))] [] (ex) gc_L_81 rfl rfl ⟨rfl, rfl, by decide, by decide⟩ (Nat.le_of_ble_eq_true rfl) rfl (by decide) h0 ⟨by decide, by decide⟩ dL_law_711 ?_
  refine fr_aload_n (pc := 714) rfl dL_law_714 ?_
  refine fr_aload_n (pc := 715) rfl dL_law_715 ?_
  refine fr_iload_n (pc := 716) rfl dL_law_716 ?_
  refine fr_iconst (pc := 717) (v := 1) rfl dL_law_717 ?_
  refine fr_iadd (pc := 718) dL_law_718 ?_
  refine fr_eq (z := nI (k + 1)) (nI_add k 1) ?_
  refine fr_scl (pc := 719) (k + 1) rfl (by omega) (by omega) dL_law_719 ?_
  refine fr_aload_n (pc := 720) rfl dL_law_720 ?_
  refine fr_iload_n (pc := 721) rfl dL_law_721 ?_
  refine fr_iconst (pc := 722) (v := 2) rfl dL_law_722 ?_
  refine fr_iadd (pc := 723) dL_law_723 ?_
  refine fr_eq (z := nI (k + 2)) (nI_add k 2) ?_
  refine fr_scl (pc := 724) (k + 2) rfl (by omega) (by omega) dL_law_724 ?_
  refine fr_callV0 (pc := 725) (ci := 4) (T := TX5) (N := 20) [.int (sci Γ (k + 1)), .int (sci Γ (k + 2))] [.int v] (ey) gc_L_84 rfl rfl ⟨rfl, rfl, by decide, by decide⟩ (Nat.le_of_ble_eq_true rfl) rfl (by decide) h42 ⟨by decide, by decide⟩ dL_law_725 ?_
  refine fr_icmp_eq (pc := 728) 1416 (by decide) dL_law_728 (fun h728 => ?_) (fun h728 => ?_)
  · exact kk
  · exact absurd rfl h728
set_option maxRecDepth 100000 in
theorem lc_measureFor {Γ : aG} {l : Launch} {k : Nat} {M0 M1 M2 M' : Nat → aC} {v : Int32} {f0 f1 : List Value} (hk : k + 6 ≤ Γ.2.2.2 6000) (hN : Γ.2.2.2 6000 ≤ 3072) (ex : Ev Γ l mX4_measureFor [.ref 0, .int (sci Γ (k + 1)), .int (sci Γ (k + 2))] 54 M0 (some (.int v)) 54 M1) (ey : Ev Γ l mX5_measureFor [.ref 42, .int (sci Γ (k + 1)), .int (sci Γ (k + 2))] 54 M1 (some (.int v)) 54 M2) (h0 : M0 0 = aO 3 f0) (h42 : M1 42 = aO 4 f1) (kk : Fr Γ l kL_law 1416 [(0, .ref 5000), (1, .ref 0), (2, .ref 42), (3, .int (nI k))] [] 54 54 1701 M2 (some (.int 1)) 54 M') : Fr Γ l kL_law 733 [(0, .ref 5000), (1, .ref 0), (2, .ref 42), (3, .int (nI k))] [] 54 54 1701 M0 (some (.int 1)) 54 M' := by
  refine fr_aload_n (pc := 733) rfl dL_law_733 ?_
  refine fr_aload_n (pc := 734) rfl dL_law_734 ?_
  refine fr_iload_n (pc := 735) rfl dL_law_735 ?_
  refine fr_iconst (pc := 736) (v := 1) rfl dL_law_736 ?_
  refine fr_iadd (pc := 737) dL_law_737 ?_
  refine fr_eq (z := nI (k + 1)) (nI_add k 1) ?_
  refine fr_scl (pc := 738) (k + 1) rfl (by omega) (by omega) dL_law_738 ?_
  refine fr_aload_n (pc := 739) rfl dL_law_739 ?_
  refine fr_iload_n (pc := 740) rfl dL_law_740 ?_
  refine fr_iconst (pc := 741) (v := 2) rfl dL_law_741 ?_
  refine fr_iadd (pc := 742) dL_law_742 ?_
  refine fr_eq (z := nI (k + 2)) (nI_add k 2) ?_
  refine fr_scl (pc := 743) (k + 2) rfl (by omega) (by omega) dL_law_743 ?_
  refine fr_callV0 (pc := 744) (ci := 3) (T := TX4) (N := 7) [.int (sci Γ (k + 1)), .int (sci Γ (k + 2))] [] (ex) gc_L_85 rfl rfl ⟨rfl, rfl, by decide, by decide⟩ (Nat.le_of_ble_eq_true rfl) rfl (by decide) h0 ⟨by decide, by decide⟩ dL_law_744 ?_
  refine fr_aload_n (pc := 747) rfl dL_law_747 ?_
  refine fr_aload_n (pc := 748) rfl dL_law_748 ?_
  refine fr_iload_n (pc := 749) rfl dL_law_749 ?_
  refine fr_iconst (pc := 750) (v := 1) rfl dL_law_750 ?_
  refine fr_iadd (pc := 751) dL_law_751 ?_
  refine fr_eq (z := nI (k + 1)) (nI_add k 1) ?_
  refine fr_scl (pc := 752) (k + 1) rfl (by omega) (by omega) dL_law_752 ?_
  refine fr_aload_n (pc := 753) rfl dL_law_753 ?_
  refine fr_iload_n (pc := 754) rfl dL_law_754 ?_
  refine fr_iconst (pc := 755) (v := 2) rfl dL_law_755 ?_
  refine fr_iadd (pc := 756) dL_law_756 ?_
  refine fr_eq (z := nI (k + 2)) (nI_add k 2) ?_
  refine fr_scl (pc := 757) (k + 2) rfl (by omega) (by omega) dL_law_757 ?_
  refine fr_callV0 (pc := 758) (ci := 4) (T := TX5) (N := 20) [.int (sci Γ (k + 1)), .int (sci Γ (k + 2))] [.int v] (ey) gc_L_88 rfl rfl ⟨rfl, rfl, by decide, by decide⟩ (Nat.le_of_ble_eq_true rfl) rfl (by decide) h42 ⟨by decide, by decide⟩ dL_law_758 ?_
  refine fr_icmp_eq (pc := 761) 1416 (by decide) dL_law_761 (fun h761 => ?_) (fun h761 => ?_)
  · exact kk
  · exact absurd rfl h761
set_option maxRecDepth 100000 in
theorem lc_kindFor {Γ : aG} {l : Launch} {k : Nat} {M0 M1 M2 M' : Nat → aC} {v : Int32} {f0 f1 : List Value} (hk : k + 6 ≤ Γ.2.2.2 6000) (hN : Γ.2.2.2 6000 ≤ 3072) (ex : Ev Γ l mX4_kindFor [.ref 0, .int (sci Γ (k + 1)), .int (sci Γ (k + 2))] 54 M0 (some (.int v)) 54 M1) (ey : Ev Γ l mX5_kindFor [.ref 42, .int (sci Γ (k + 1)), .int (sci Γ (k + 2))] 54 M1 (some (.int v)) 54 M2) (h0 : M0 0 = aO 3 f0) (h42 : M1 42 = aO 4 f1) (kk : Fr Γ l kL_law 1416 [(0, .ref 5000), (1, .ref 0), (2, .ref 42), (3, .int (nI k))] [] 54 54 1701 M2 (some (.int 1)) 54 M') : Fr Γ l kL_law 766 [(0, .ref 5000), (1, .ref 0), (2, .ref 42), (3, .int (nI k))] [] 54 54 1701 M0 (some (.int 1)) 54 M' := by
  refine fr_aload_n (pc := 766) rfl dL_law_766 ?_
  refine fr_aload_n (pc := 767) rfl dL_law_767 ?_
  refine fr_iload_n (pc := 768) rfl dL_law_768 ?_
  refine fr_iconst (pc := 769) (v := 1) rfl dL_law_769 ?_
  refine fr_iadd (pc := 770) dL_law_770 ?_
  refine fr_eq (z := nI (k + 1)) (nI_add k 1) ?_
  refine fr_scl (pc := 771) (k + 1) rfl (by omega) (by omega) dL_law_771 ?_
  refine fr_aload_n (pc := 772) rfl dL_law_772 ?_
  refine fr_iload_n (pc := 773) rfl dL_law_773 ?_
  refine fr_iconst (pc := 774) (v := 2) rfl dL_law_774 ?_
  refine fr_iadd (pc := 775) dL_law_775 ?_
  refine fr_eq (z := nI (k + 2)) (nI_add k 2) ?_
  refine fr_scl (pc := 776) (k + 2) rfl (by omega) (by omega) dL_law_776 ?_
  refine fr_callV0 (pc := 777) (ci := 3) (T := TX4) (N := 7) [.int (sci Γ (k + 1)), .int (sci Γ (k + 2))] [] (ex) gc_L_89 rfl rfl ⟨rfl, rfl, by decide, by decide⟩ (Nat.le_of_ble_eq_true rfl) rfl (by decide) h0 ⟨by decide, by decide⟩ dL_law_777 ?_
  refine fr_aload_n (pc := 780) rfl dL_law_780 ?_
  refine fr_aload_n (pc := 781) rfl dL_law_781 ?_
  refine fr_iload_n (pc := 782) rfl dL_law_782 ?_
  refine fr_iconst (pc := 783) (v := 1) rfl dL_law_783 ?_
  refine fr_iadd (pc := 784) dL_law_784 ?_
  refine fr_eq (z := nI (k + 1)) (nI_add k 1) ?_
  refine fr_scl (pc := 785) (k + 1) rfl (by omega) (by omega) dL_law_785 ?_
  refine fr_aload_n (pc := 786) rfl dL_law_786 ?_
  refine fr_iload_n (pc := 787) rfl dL_law_787 ?_
  refine fr_iconst (pc := 788) (v := 2) rfl dL_law_788 ?_
  refine fr_iadd (pc := 789) dL_law_789 ?_
  refine fr_eq (z := nI (k + 2)) (nI_add k 2) ?_
  refine fr_scl (pc := 790) (k + 2) rfl (by omega) (by omega) dL_law_790 ?_
  refine fr_callV0 (pc := 791) (ci := 4) (T := TX5) (N := 20) [.int (sci Γ (k + 1)), .int (sci Γ (k + 2))] [.int v] (ey) gc_L_92 rfl rfl ⟨rfl, rfl, by decide, by decide⟩ (Nat.le_of_ble_eq_true rfl) rfl (by decide) h42 ⟨by decide, by decide⟩ dL_law_791 ?_
  refine fr_icmp_eq (pc := 794) 1416 (by decide) dL_law_794 (fun h794 => ?_) (fun h794 => ?_)
  · exact kk
  · exact absurd rfl h794
set_option maxRecDepth 100000 in
theorem lc_sizeFor {Γ : aG} {l : Launch} {k : Nat} {M0 M1 M2 M' : Nat → aC} {v : Int32} {f0 f1 : List Value} (hk : k + 6 ≤ Γ.2.2.2 6000) (hN : Γ.2.2.2 6000 ≤ 3072) (ex : Ev Γ l mX4_sizeFor [.ref 0, .int (sci Γ (k + 1)), .int (sci Γ (k + 2))] 54 M0 (some (.int v)) 54 M1) (ey : Ev Γ l mX5_sizeFor [.ref 42, .int (sci Γ (k + 1)), .int (sci Γ (k + 2))] 54 M1 (some (.int v)) 54 M2) (h0 : M0 0 = aO 3 f0) (h42 : M1 42 = aO 4 f1) (kk : Fr Γ l kL_law 1416 [(0, .ref 5000), (1, .ref 0), (2, .ref 42), (3, .int (nI k))] [] 54 54 1701 M2 (some (.int 1)) 54 M') : Fr Γ l kL_law 799 [(0, .ref 5000), (1, .ref 0), (2, .ref 42), (3, .int (nI k))] [] 54 54 1701 M0 (some (.int 1)) 54 M' := by
  refine fr_aload_n (pc := 799) rfl dL_law_799 ?_
  refine fr_aload_n (pc := 800) rfl dL_law_800 ?_
  refine fr_iload_n (pc := 801) rfl dL_law_801 ?_
  refine fr_iconst (pc := 802) (v := 1) rfl dL_law_802 ?_
  refine fr_iadd (pc := 803) dL_law_803 ?_
  refine fr_eq (z := nI (k + 1)) (nI_add k 1) ?_
  refine fr_scl (pc := 804) (k + 1) rfl (by omega) (by omega) dL_law_804 ?_
  refine fr_aload_n (pc := 805) rfl dL_law_805 ?_
  refine fr_iload_n (pc := 806) rfl dL_law_806 ?_
  refine fr_iconst (pc := 807) (v := 2) rfl dL_law_807 ?_
  refine fr_iadd (pc := 808) dL_law_808 ?_
  refine fr_eq (z := nI (k + 2)) (nI_add k 2) ?_
  refine fr_scl (pc := 809) (k + 2) rfl (by omega) (by omega) dL_law_809 ?_
  refine fr_callV0 (pc := 810) (ci := 3) (T := TX4) (N := 7) [.int (sci Γ (k + 1)), .int (sci Γ (k + 2))] [] (ex) gc_L_93 rfl rfl ⟨rfl, rfl, by decide, by decide⟩ (Nat.le_of_ble_eq_true rfl) rfl (by decide) h0 ⟨by decide, by decide⟩ dL_law_810 ?_
  refine fr_aload_n (pc := 813) rfl dL_law_813 ?_
  refine fr_aload_n (pc := 814) rfl dL_law_814 ?_
  refine fr_iload_n (pc := 815) rfl dL_law_815 ?_
  refine fr_iconst (pc := 816) (v := 1) rfl dL_law_816 ?_
  refine fr_iadd (pc := 817) dL_law_817 ?_
  refine fr_eq (z := nI (k + 1)) (nI_add k 1) ?_
  refine fr_scl (pc := 818) (k + 1) rfl (by omega) (by omega) dL_law_818 ?_
  refine fr_aload_n (pc := 819) rfl dL_law_819 ?_
  refine fr_iload_n (pc := 820) rfl dL_law_820 ?_
  refine fr_iconst (pc := 821) (v := 2) rfl dL_law_821 ?_
  refine fr_iadd (pc := 822) dL_law_822 ?_
  refine fr_eq (z := nI (k + 2)) (nI_add k 2) ?_
  refine fr_scl (pc := 823) (k + 2) rfl (by omega) (by omega) dL_law_823 ?_
  refine fr_callV0 (pc := 824) (ci := 4) (T := TX5) (N := 20) [.int (sci Γ (k + 1)), .int (sci Γ (k + 2))] [.int v] (ey) gc_L_96 rfl rfl ⟨rfl, rfl, by decide, by decide⟩ (Nat.le_of_ble_eq_true rfl) rfl (by decide) h42 ⟨by decide, by decide⟩ dL_law_824 ?_
  refine fr_icmp_eq (pc := 827) 1416 (by decide) dL_law_827 (fun h827 => ?_) (fun h827 => ?_)
  · exact kk
  · exact absurd rfl h827
set_option maxRecDepth 100000 in
theorem lc_send {Γ : aG} {l : Launch} {k : Nat} {M0 M1 M2 M' : Nat → aC} {v : Int32} {f0 f1 : List Value} (hk : k + 6 ≤ Γ.2.2.2 6000) (hN : Γ.2.2.2 6000 ≤ 3072) (ex : Ev Γ l mX4_send [.ref 0, .int (sci Γ (k + 1))] 54 M0 (some (.int v)) 54 M1) (ey : Ev Γ l mX5_send [.ref 42, .int (sci Γ (k + 1))] 54 M1 (some (.int v)) 54 M2) (h0 : M0 0 = aO 3 f0) (h42 : M1 42 = aO 4 f1) (kk : Fr Γ l kL_law 1416 [(0, .ref 5000), (1, .ref 0), (2, .ref 42), (3, .int (nI k))] [] 54 54 1701 M2 (some (.int 1)) 54 M') : Fr Γ l kL_law 832 [(0, .ref 5000), (1, .ref 0), (2, .ref 42), (3, .int (nI k))] [] 54 54 1701 M0 (some (.int 1)) 54 M' := by
  refine fr_aload_n (pc := 832) rfl dL_law_832 ?_
  refine fr_aload_n (pc := 833) rfl dL_law_833 ?_
  refine fr_iload_n (pc := 834) rfl dL_law_834 ?_
  refine fr_iconst (pc := 835) (v := 1) rfl dL_law_835 ?_
  refine fr_iadd (pc := 836) dL_law_836 ?_
  refine fr_eq (z := nI (k + 1)) (nI_add k 1) ?_
  refine fr_scl (pc := 837) (k + 1) rfl (by omega) (by omega) dL_law_837 ?_
  refine fr_callV0 (pc := 838) (ci := 3) (T := TX4) (N := 7) [.int (sci Γ (k + 1))] [] (ex) gc_L_97 rfl rfl ⟨rfl, rfl, by decide, by decide⟩ (Nat.le_of_ble_eq_true rfl) rfl (by decide) h0 ⟨by decide, by decide⟩ dL_law_838 ?_
  refine fr_aload_n (pc := 841) rfl dL_law_841 ?_
  refine fr_aload_n (pc := 842) rfl dL_law_842 ?_
  refine fr_iload_n (pc := 843) rfl dL_law_843 ?_
  refine fr_iconst (pc := 844) (v := 1) rfl dL_law_844 ?_
  refine fr_iadd (pc := 845) dL_law_845 ?_
  refine fr_eq (z := nI (k + 1)) (nI_add k 1) ?_
  refine fr_scl (pc := 846) (k + 1) rfl (by omega) (by omega) dL_law_846 ?_
  refine fr_callV0 (pc := 847) (ci := 4) (T := TX5) (N := 20) [.int (sci Γ (k + 1))] [.int v] (ey) gc_L_100 rfl rfl ⟨rfl, rfl, by decide, by decide⟩ (Nat.le_of_ble_eq_true rfl) rfl (by decide) h42 ⟨by decide, by decide⟩ dL_law_847 ?_
  refine fr_icmp_eq (pc := 850) 1416 (by decide) dL_law_850 (fun h850 => ?_) (fun h850 => ?_)
  · exact kk
  · exact absurd rfl h850
set_option maxRecDepth 100000 in
theorem lc_fits {Γ : aG} {l : Launch} {k : Nat} {M0 M1 M2 M' : Nat → aC} {v : Int32} {f0 f1 : List Value} (hk : k + 6 ≤ Γ.2.2.2 6000) (hN : Γ.2.2.2 6000 ≤ 3072) (ex : Ev Γ l mX4_fits [.ref 0, .int (sci Γ (k + 1)), .int (sci Γ (k + 2))] 54 M0 (some (.int v)) 54 M1) (ey : Ev Γ l mX5_fits [.ref 42, .int (sci Γ (k + 1)), .int (sci Γ (k + 2))] 54 M1 (some (.int v)) 54 M2) (h0 : M0 0 = aO 3 f0) (h42 : M1 42 = aO 4 f1) (kk : Fr Γ l kL_law 1416 [(0, .ref 5000), (1, .ref 0), (2, .ref 42), (3, .int (nI k))] [] 54 54 1701 M2 (some (.int 1)) 54 M') : Fr Γ l kL_law 855 [(0, .ref 5000), (1, .ref 0), (2, .ref 42), (3, .int (nI k))] [] 54 54 1701 M0 (some (.int 1)) 54 M' := by
  refine fr_aload_n (pc := 855) rfl dL_law_855 ?_
  refine fr_aload_n (pc := 856) rfl dL_law_856 ?_
  refine fr_iload_n (pc := 857) rfl dL_law_857 ?_
  refine fr_iconst (pc := 858) (v := 1) rfl dL_law_858 ?_
  refine fr_iadd (pc := 859) dL_law_859 ?_
  refine fr_eq (z := nI (k + 1)) (nI_add k 1) ?_
  refine fr_scl (pc := 860) (k + 1) rfl (by omega) (by omega) dL_law_860 ?_
  refine fr_aload_n (pc := 861) rfl dL_law_861 ?_
  refine fr_iload_n (pc := 862) rfl dL_law_862 ?_
  refine fr_iconst (pc := 863) (v := 2) rfl dL_law_863 ?_
  refine fr_iadd (pc := 864) dL_law_864 ?_
  refine fr_eq (z := nI (k + 2)) (nI_add k 2) ?_
  refine fr_scl (pc := 865) (k + 2) rfl (by omega) (by omega) dL_law_865 ?_
  refine fr_callV0 (pc := 866) (ci := 3) (T := TX4) (N := 7) [.int (sci Γ (k + 1)), .int (sci Γ (k + 2))] [] (ex) gc_L_101 rfl rfl ⟨rfl, rfl, by decide, by decide⟩ (Nat.le_of_ble_eq_true rfl) rfl (by decide) h0 ⟨by decide, by decide⟩ dL_law_866 ?_
  refine fr_aload_n (pc := 869) rfl dL_law_869 ?_
  refine fr_aload_n (pc := 870) rfl dL_law_870 ?_
  refine fr_iload_n (pc := 871) rfl dL_law_871 ?_
  refine fr_iconst (pc := 872) (v := 1) rfl dL_law_872 ?_
  refine fr_iadd (pc := 873) dL_law_873 ?_
  refine fr_eq (z := nI (k + 1)) (nI_add k 1) ?_
  refine fr_scl (pc := 874) (k + 1) rfl (by omega) (by omega) dL_law_874 ?_
  refine fr_aload_n (pc := 875) rfl dL_law_875 ?_
  refine fr_iload_n (pc := 876) rfl dL_law_876 ?_
  refine fr_iconst (pc := 877) (v := 2) rfl dL_law_877 ?_
  refine fr_iadd (pc := 878) dL_law_878 ?_
  refine fr_eq (z := nI (k + 2)) (nI_add k 2) ?_
  refine fr_scl (pc := 879) (k + 2) rfl (by omega) (by omega) dL_law_879 ?_
  refine fr_callV0 (pc := 880) (ci := 4) (T := TX5) (N := 20) [.int (sci Γ (k + 1)), .int (sci Γ (k + 2))] [.int v] (ey) gc_L_104 rfl rfl ⟨rfl, rfl, by decide, by decide⟩ (Nat.le_of_ble_eq_true rfl) rfl (by decide) h42 ⟨by decide, by decide⟩ dL_law_880 ?_
  refine fr_icmp_eq (pc := 883) 1416 (by decide) dL_law_883 (fun h883 => ?_) (fun h883 => ?_)
  · exact kk
  · exact absurd rfl h883
set_option maxRecDepth 100000 in
theorem lc_kinds {Γ : aG} {l : Launch} {k : Nat} {M0 M1 M2 M' : Nat → aC} {v : Int32} {f0 f1 : List Value} (hk : k + 6 ≤ Γ.2.2.2 6000) (hN : Γ.2.2.2 6000 ≤ 3072) (ex : Ev Γ l mX4_kinds [.ref 0, .int (sci Γ (k + 1)), .int (sci Γ (k + 2))] 54 M0 (some (.int v)) 54 M1) (ey : Ev Γ l mX5_kinds [.ref 42, .int (sci Γ (k + 1)), .int (sci Γ (k + 2))] 54 M1 (some (.int v)) 54 M2) (h0 : M0 0 = aO 3 f0) (h42 : M1 42 = aO 4 f1) (kk : Fr Γ l kL_law 1416 [(0, .ref 5000), (1, .ref 0), (2, .ref 42), (3, .int (nI k))] [] 54 54 1701 M2 (some (.int 1)) 54 M') : Fr Γ l kL_law 888 [(0, .ref 5000), (1, .ref 0), (2, .ref 42), (3, .int (nI k))] [] 54 54 1701 M0 (some (.int 1)) 54 M' := by
  refine fr_aload_n (pc := 888) rfl dL_law_888 ?_
  refine fr_aload_n (pc := 889) rfl dL_law_889 ?_
  refine fr_iload_n (pc := 890) rfl dL_law_890 ?_
  refine fr_iconst (pc := 891) (v := 1) rfl dL_law_891 ?_
  refine fr_iadd (pc := 892) dL_law_892 ?_
  refine fr_eq (z := nI (k + 1)) (nI_add k 1) ?_
  refine fr_scl (pc := 893) (k + 1) rfl (by omega) (by omega) dL_law_893 ?_
  refine fr_aload_n (pc := 894) rfl dL_law_894 ?_
  refine fr_iload_n (pc := 895) rfl dL_law_895 ?_
  refine fr_iconst (pc := 896) (v := 2) rfl dL_law_896 ?_
  refine fr_iadd (pc := 897) dL_law_897 ?_
  refine fr_eq (z := nI (k + 2)) (nI_add k 2) ?_
  refine fr_scl (pc := 898) (k + 2) rfl (by omega) (by omega) dL_law_898 ?_
  refine fr_callV0 (pc := 899) (ci := 3) (T := TX4) (N := 7) [.int (sci Γ (k + 1)), .int (sci Γ (k + 2))] [] (ex) gc_L_105 rfl rfl ⟨rfl, rfl, by decide, by decide⟩ (Nat.le_of_ble_eq_true rfl) rfl (by decide) h0 ⟨by decide, by decide⟩ dL_law_899 ?_
  refine fr_aload_n (pc := 902) rfl dL_law_902 ?_
  refine fr_aload_n (pc := 903) rfl dL_law_903 ?_
  refine fr_iload_n (pc := 904) rfl dL_law_904 ?_
  refine fr_iconst (pc := 905) (v := 1) rfl dL_law_905 ?_
  refine fr_iadd (pc := 906) dL_law_906 ?_
  refine fr_eq (z := nI (k + 1)) (nI_add k 1) ?_
  refine fr_scl (pc := 907) (k + 1) rfl (by omega) (by omega) dL_law_907 ?_
  refine fr_aload_n (pc := 908) rfl dL_law_908 ?_
  refine fr_iload_n (pc := 909) rfl dL_law_909 ?_
  refine fr_iconst (pc := 910) (v := 2) rfl dL_law_910 ?_
  refine fr_iadd (pc := 911) dL_law_911 ?_
  refine fr_eq (z := nI (k + 2)) (nI_add k 2) ?_
  refine fr_scl (pc := 912) (k + 2) rfl (by omega) (by omega) dL_law_912 ?_
  refine fr_callV0 (pc := 913) (ci := 4) (T := TX5) (N := 20) [.int (sci Γ (k + 1)), .int (sci Γ (k + 2))] [.int v] (ey) gc_L_108 rfl rfl ⟨rfl, rfl, by decide, by decide⟩ (Nat.le_of_ble_eq_true rfl) rfl (by decide) h42 ⟨by decide, by decide⟩ dL_law_913 ?_
  refine fr_icmp_eq (pc := 916) 1416 (by decide) dL_law_916 (fun h916 => ?_) (fun h916 => ?_)
  · exact kk
  · exact absurd rfl h916
set_option maxRecDepth 100000 in
theorem lc_party {Γ : aG} {l : Launch} {k : Nat} {M0 M1 M2 M' : Nat → aC} {v : Int32} {f0 f1 : List Value} (hk : k + 6 ≤ Γ.2.2.2 6000) (hN : Γ.2.2.2 6000 ≤ 3072) (ex : Ev Γ l mX4_party [.ref 0, .int (sci Γ (k + 1))] 54 M0 (some (.int v)) 54 M1) (ey : Ev Γ l mX5_party [.ref 42, .int (sci Γ (k + 1))] 54 M1 (some (.int v)) 54 M2) (h0 : M0 0 = aO 3 f0) (h42 : M1 42 = aO 4 f1) (kk : Fr Γ l kL_law 1416 [(0, .ref 5000), (1, .ref 0), (2, .ref 42), (3, .int (nI k))] [] 54 54 1701 M2 (some (.int 1)) 54 M') : Fr Γ l kL_law 921 [(0, .ref 5000), (1, .ref 0), (2, .ref 42), (3, .int (nI k))] [] 54 54 1701 M0 (some (.int 1)) 54 M' := by
  refine fr_aload_n (pc := 921) rfl dL_law_921 ?_
  refine fr_aload_n (pc := 922) rfl dL_law_922 ?_
  refine fr_iload_n (pc := 923) rfl dL_law_923 ?_
  refine fr_iconst (pc := 924) (v := 1) rfl dL_law_924 ?_
  refine fr_iadd (pc := 925) dL_law_925 ?_
  refine fr_eq (z := nI (k + 1)) (nI_add k 1) ?_
  refine fr_scl (pc := 926) (k + 1) rfl (by omega) (by omega) dL_law_926 ?_
  refine fr_callV0 (pc := 927) (ci := 3) (T := TX4) (N := 7) [.int (sci Γ (k + 1))] [] (ex) gc_L_109 rfl rfl ⟨rfl, rfl, by decide, by decide⟩ (Nat.le_of_ble_eq_true rfl) rfl (by decide) h0 ⟨by decide, by decide⟩ dL_law_927 ?_
  refine fr_aload_n (pc := 930) rfl dL_law_930 ?_
  refine fr_aload_n (pc := 931) rfl dL_law_931 ?_
  refine fr_iload_n (pc := 932) rfl dL_law_932 ?_
  refine fr_iconst (pc := 933) (v := 1) rfl dL_law_933 ?_
  refine fr_iadd (pc := 934) dL_law_934 ?_
  refine fr_eq (z := nI (k + 1)) (nI_add k 1) ?_
  refine fr_scl (pc := 935) (k + 1) rfl (by omega) (by omega) dL_law_935 ?_
  refine fr_callV0 (pc := 936) (ci := 4) (T := TX5) (N := 20) [.int (sci Γ (k + 1))] [.int v] (ey) gc_L_112 rfl rfl ⟨rfl, rfl, by decide, by decide⟩ (Nat.le_of_ble_eq_true rfl) rfl (by decide) h42 ⟨by decide, by decide⟩ dL_law_936 ?_
  refine fr_icmp_eq (pc := 939) 1416 (by decide) dL_law_939 (fun h939 => ?_) (fun h939 => ?_)
  · exact kk
  · exact absurd rfl h939
set_option maxRecDepth 100000 in
theorem lc_odds {Γ : aG} {l : Launch} {k : Nat} {M0 M1 M2 M' : Nat → aC} {v : Int64} {f0 f1 : List Value} (hk : k + 6 ≤ Γ.2.2.2 6000) (hN : Γ.2.2.2 6000 ≤ 3072) (ex : Ev Γ l mX4_odds [.ref 0, .int (sci Γ (k + 1)), .int (sci Γ (k + 2)), .int (sci Γ (k + 3))] 54 M0 (some (.long v)) 54 M1) (ey : Ev Γ l mX5_odds [.ref 42, .int (sci Γ (k + 1)), .int (sci Γ (k + 2)), .int (sci Γ (k + 3))] 54 M1 (some (.long v)) 54 M2) (h0 : M0 0 = aO 3 f0) (h42 : M1 42 = aO 4 f1) (kk : Fr Γ l kL_law 1416 [(0, .ref 5000), (1, .ref 0), (2, .ref 42), (3, .int (nI k))] [] 54 54 1701 M2 (some (.int 1)) 54 M') : Fr Γ l kL_law 944 [(0, .ref 5000), (1, .ref 0), (2, .ref 42), (3, .int (nI k))] [] 54 54 1701 M0 (some (.int 1)) 54 M' := by
  refine fr_aload_n (pc := 944) rfl dL_law_944 ?_
  refine fr_aload_n (pc := 945) rfl dL_law_945 ?_
  refine fr_iload_n (pc := 946) rfl dL_law_946 ?_
  refine fr_iconst (pc := 947) (v := 1) rfl dL_law_947 ?_
  refine fr_iadd (pc := 948) dL_law_948 ?_
  refine fr_eq (z := nI (k + 1)) (nI_add k 1) ?_
  refine fr_scl (pc := 949) (k + 1) rfl (by omega) (by omega) dL_law_949 ?_
  refine fr_aload_n (pc := 950) rfl dL_law_950 ?_
  refine fr_iload_n (pc := 951) rfl dL_law_951 ?_
  refine fr_iconst (pc := 952) (v := 2) rfl dL_law_952 ?_
  refine fr_iadd (pc := 953) dL_law_953 ?_
  refine fr_eq (z := nI (k + 2)) (nI_add k 2) ?_
  refine fr_scl (pc := 954) (k + 2) rfl (by omega) (by omega) dL_law_954 ?_
  refine fr_aload_n (pc := 955) rfl dL_law_955 ?_
  refine fr_iload_n (pc := 956) rfl dL_law_956 ?_
  refine fr_iconst (pc := 957) (v := 3) rfl dL_law_957 ?_
  refine fr_iadd (pc := 958) dL_law_958 ?_
  refine fr_eq (z := nI (k + 3)) (nI_add k 3) ?_
  refine fr_scl (pc := 959) (k + 3) rfl (by omega) (by omega) dL_law_959 ?_
  refine fr_callV0 (pc := 960) (ci := 3) (T := TX4) (N := 7) [.int (sci Γ (k + 1)), .int (sci Γ (k + 2)), .int (sci Γ (k + 3))] [] (ex) gc_L_113 rfl rfl ⟨rfl, rfl, by decide, by decide⟩ (Nat.le_of_ble_eq_true rfl) rfl (by decide) h0 ⟨by decide, by decide⟩ dL_law_960 ?_
  refine fr_aload_n (pc := 963) rfl dL_law_963 ?_
  refine fr_aload_n (pc := 964) rfl dL_law_964 ?_
  refine fr_iload_n (pc := 965) rfl dL_law_965 ?_
  refine fr_iconst (pc := 966) (v := 1) rfl dL_law_966 ?_
  refine fr_iadd (pc := 967) dL_law_967 ?_
  refine fr_eq (z := nI (k + 1)) (nI_add k 1) ?_
  refine fr_scl (pc := 968) (k + 1) rfl (by omega) (by omega) dL_law_968 ?_
  refine fr_aload_n (pc := 969) rfl dL_law_969 ?_
  refine fr_iload_n (pc := 970) rfl dL_law_970 ?_
  refine fr_iconst (pc := 971) (v := 2) rfl dL_law_971 ?_
  refine fr_iadd (pc := 972) dL_law_972 ?_
  refine fr_eq (z := nI (k + 2)) (nI_add k 2) ?_
  refine fr_scl (pc := 973) (k + 2) rfl (by omega) (by omega) dL_law_973 ?_
  refine fr_aload_n (pc := 974) rfl dL_law_974 ?_
  refine fr_iload_n (pc := 975) rfl dL_law_975 ?_
  refine fr_iconst (pc := 976) (v := 3) rfl dL_law_976 ?_
  refine fr_iadd (pc := 977) dL_law_977 ?_
  refine fr_eq (z := nI (k + 3)) (nI_add k 3) ?_
  refine fr_scl (pc := 978) (k + 3) rfl (by omega) (by omega) dL_law_978 ?_
  refine fr_callV0 (pc := 979) (ci := 4) (T := TX5) (N := 20) [.int (sci Γ (k + 1)), .int (sci Γ (k + 2)), .int (sci Γ (k + 3))] [.long v] (ey) gc_L_117 rfl rfl ⟨rfl, rfl, by decide, by decide⟩ (Nat.le_of_ble_eq_true rfl) rfl (by decide) h42 ⟨by decide, by decide⟩ dL_law_979 ?_
  refine fr_lcmp (pc := 982) dL_law_982 ?_
  refine fr_if_eq (pc := 983) 1416 (by decide) dL_law_983 (fun h983 => ?_) (fun h983 => ?_)
  · exact kk
  · exact absurd (lg_self v) h983
set_option maxRecDepth 100000 in
theorem lc_seed {Γ : aG} {l : Launch} {k : Nat} {M0 M1 M2 M' : Nat → aC} {v : Int32} {f0 f1 : List Value} (hk : k + 6 ≤ Γ.2.2.2 6000) (hN : Γ.2.2.2 6000 ≤ 3072) (ex : Ev Γ l mX4_seed [.ref 0, .int (sci Γ (k + 1))] 54 M0 (some (.int v)) 54 M1) (ey : Ev Γ l mX5_seed [.ref 42, .int (sci Γ (k + 1))] 54 M1 (some (.int v)) 54 M2) (h0 : M0 0 = aO 3 f0) (h42 : M1 42 = aO 4 f1) (kk : Fr Γ l kL_law 1416 [(0, .ref 5000), (1, .ref 0), (2, .ref 42), (3, .int (nI k))] [] 54 54 1701 M2 (some (.int 1)) 54 M') : Fr Γ l kL_law 988 [(0, .ref 5000), (1, .ref 0), (2, .ref 42), (3, .int (nI k))] [] 54 54 1701 M0 (some (.int 1)) 54 M' := by
  refine fr_aload_n (pc := 988) rfl dL_law_988 ?_
  refine fr_aload_n (pc := 989) rfl dL_law_989 ?_
  refine fr_iload_n (pc := 990) rfl dL_law_990 ?_
  refine fr_iconst (pc := 991) (v := 1) rfl dL_law_991 ?_
  refine fr_iadd (pc := 992) dL_law_992 ?_
  refine fr_eq (z := nI (k + 1)) (nI_add k 1) ?_
  refine fr_scl (pc := 993) (k + 1) rfl (by omega) (by omega) dL_law_993 ?_
  refine fr_callV0 (pc := 994) (ci := 3) (T := TX4) (N := 7) [.int (sci Γ (k + 1))] [] (ex) gc_L_118 rfl rfl ⟨rfl, rfl, by decide, by decide⟩ (Nat.le_of_ble_eq_true rfl) rfl (by decide) h0 ⟨by decide, by decide⟩ dL_law_994 ?_
  refine fr_aload_n (pc := 997) rfl dL_law_997 ?_
  refine fr_aload_n (pc := 998) rfl dL_law_998 ?_
  refine fr_iload_n (pc := 999) rfl dL_law_999 ?_
  refine fr_iconst (pc := 1000) (v := 1) rfl dL_law_1000 ?_
  refine fr_iadd (pc := 1001) dL_law_1001 ?_
  refine fr_eq (z := nI (k + 1)) (nI_add k 1) ?_
  refine fr_scl (pc := 1002) (k + 1) rfl (by omega) (by omega) dL_law_1002 ?_
  refine fr_callV0 (pc := 1003) (ci := 4) (T := TX5) (N := 20) [.int (sci Γ (k + 1))] [.int v] (ey) gc_L_121 rfl rfl ⟨rfl, rfl, by decide, by decide⟩ (Nat.le_of_ble_eq_true rfl) rfl (by decide) h42 ⟨by decide, by decide⟩ dL_law_1003 ?_
  refine fr_icmp_eq (pc := 1006) 1416 (by decide) dL_law_1006 (fun h1006 => ?_) (fun h1006 => ?_)
  · exact kk
  · exact absurd rfl h1006
set_option maxRecDepth 100000 in
theorem lc_feed {Γ : aG} {l : Launch} {k : Nat} {M0 M1 M2 M' : Nat → aC} {v : Int32} {f0 f1 : List Value} (hk : k + 6 ≤ Γ.2.2.2 6000) (hN : Γ.2.2.2 6000 ≤ 3072) (ex : Ev Γ l mX4_feed [.ref 0, .int (sci Γ (k + 1)), .int (sci Γ (k + 2))] 54 M0 (some (.int v)) 54 M1) (ey : Ev Γ l mX5_feed [.ref 42, .int (sci Γ (k + 1)), .int (sci Γ (k + 2))] 54 M1 (some (.int v)) 54 M2) (h0 : M0 0 = aO 3 f0) (h42 : M1 42 = aO 4 f1) (kk : Fr Γ l kL_law 1416 [(0, .ref 5000), (1, .ref 0), (2, .ref 42), (3, .int (nI k))] [] 54 54 1701 M2 (some (.int 1)) 54 M') : Fr Γ l kL_law 1011 [(0, .ref 5000), (1, .ref 0), (2, .ref 42), (3, .int (nI k))] [] 54 54 1701 M0 (some (.int 1)) 54 M' := by
  refine fr_aload_n (pc := 1011) rfl dL_law_1011 ?_
  refine fr_aload_n (pc := 1012) rfl dL_law_1012 ?_
  refine fr_iload_n (pc := 1013) rfl dL_law_1013 ?_
  refine fr_iconst (pc := 1014) (v := 1) rfl dL_law_1014 ?_
  refine fr_iadd (pc := 1015) dL_law_1015 ?_
  refine fr_eq (z := nI (k + 1)) (nI_add k 1) ?_
  refine fr_scl (pc := 1016) (k + 1) rfl (by omega) (by omega) dL_law_1016 ?_
  refine fr_aload_n (pc := 1017) rfl dL_law_1017 ?_
  refine fr_iload_n (pc := 1018) rfl dL_law_1018 ?_
  refine fr_iconst (pc := 1019) (v := 2) rfl dL_law_1019 ?_
  refine fr_iadd (pc := 1020) dL_law_1020 ?_
  refine fr_eq (z := nI (k + 2)) (nI_add k 2) ?_
  refine fr_scl (pc := 1021) (k + 2) rfl (by omega) (by omega) dL_law_1021 ?_
  refine fr_callV0 (pc := 1022) (ci := 3) (T := TX4) (N := 7) [.int (sci Γ (k + 1)), .int (sci Γ (k + 2))] [] (ex) gc_L_122 rfl rfl ⟨rfl, rfl, by decide, by decide⟩ (Nat.le_of_ble_eq_true rfl) rfl (by decide) h0 ⟨by decide, by decide⟩ dL_law_1022 ?_
  refine fr_aload_n (pc := 1025) rfl dL_law_1025 ?_
  refine fr_aload_n (pc := 1026) rfl dL_law_1026 ?_
  refine fr_iload_n (pc := 1027) rfl dL_law_1027 ?_
  refine fr_iconst (pc := 1028) (v := 1) rfl dL_law_1028 ?_
  refine fr_iadd (pc := 1029) dL_law_1029 ?_
  refine fr_eq (z := nI (k + 1)) (nI_add k 1) ?_
  refine fr_scl (pc := 1030) (k + 1) rfl (by omega) (by omega) dL_law_1030 ?_
  refine fr_aload_n (pc := 1031) rfl dL_law_1031 ?_
  refine fr_iload_n (pc := 1032) rfl dL_law_1032 ?_
  refine fr_iconst (pc := 1033) (v := 2) rfl dL_law_1033 ?_
  refine fr_iadd (pc := 1034) dL_law_1034 ?_
  refine fr_eq (z := nI (k + 2)) (nI_add k 2) ?_
  refine fr_scl (pc := 1035) (k + 2) rfl (by omega) (by omega) dL_law_1035 ?_
  refine fr_callV0 (pc := 1036) (ci := 4) (T := TX5) (N := 20) [.int (sci Γ (k + 1)), .int (sci Γ (k + 2))] [.int v] (ey) gc_L_125 rfl rfl ⟨rfl, rfl, by decide, by decide⟩ (Nat.le_of_ble_eq_true rfl) rfl (by decide) h42 ⟨by decide, by decide⟩ dL_law_1036 ?_
  refine fr_icmp_eq (pc := 1039) 1416 (by decide) dL_law_1039 (fun h1039 => ?_) (fun h1039 => ?_)
  · exact kk
  · exact absurd rfl h1039
set_option maxRecDepth 100000 in
theorem lc_wipe {Γ : aG} {l : Launch} {k : Nat} {M0 M1 M2 M' : Nat → aC} {v : Int32} {f0 f1 : List Value} (hk : k + 6 ≤ Γ.2.2.2 6000) (hN : Γ.2.2.2 6000 ≤ 3072) (ex : Ev Γ l mX4_wipe [.ref 0] 54 M0 (some (.int v)) 54 M1) (ey : Ev Γ l mX5_wipe [.ref 42] 54 M1 (some (.int v)) 54 M2) (h0 : M0 0 = aO 3 f0) (h42 : M1 42 = aO 4 f1) (kk : Fr Γ l kL_law 1416 [(0, .ref 5000), (1, .ref 0), (2, .ref 42), (3, .int (nI k))] [] 54 54 1701 M2 (some (.int 1)) 54 M') : Fr Γ l kL_law 1044 [(0, .ref 5000), (1, .ref 0), (2, .ref 42), (3, .int (nI k))] [] 54 54 1701 M0 (some (.int 1)) 54 M' := by
  refine fr_aload_n (pc := 1044) rfl dL_law_1044 ?_
  refine fr_callV0 (pc := 1045) (ci := 3) (T := TX4) (N := 7) [] [] (ex) gc_L_126 rfl rfl ⟨rfl, rfl, by decide, by decide⟩ (Nat.le_of_ble_eq_true rfl) rfl (by decide) h0 ⟨by decide, by decide⟩ dL_law_1045 ?_
  refine fr_aload_n (pc := 1048) rfl dL_law_1048 ?_
  refine fr_callV0 (pc := 1049) (ci := 4) (T := TX5) (N := 20) [] [.int v] (ey) gc_L_129 rfl rfl ⟨rfl, rfl, by decide, by decide⟩ (Nat.le_of_ble_eq_true rfl) rfl (by decide) h42 ⟨by decide, by decide⟩ dL_law_1049 ?_
  refine fr_icmp_eq (pc := 1052) 1416 (by decide) dL_law_1052 (fun h1052 => ?_) (fun h1052 => ?_)
  · exact kk
  · exact absurd rfl h1052
set_option maxRecDepth 100000 in
theorem lc_text {Γ : aG} {l : Launch} {k : Nat} {M0 M1 M2 M' : Nat → aC} {v : Int32} {f0 f1 : List Value} (hk : k + 6 ≤ Γ.2.2.2 6000) (hN : Γ.2.2.2 6000 ≤ 3072) (ex : Ev Γ l mX4_text [.ref 0] 54 M0 (some (.int v)) 54 M1) (ey : Ev Γ l mX5_text [.ref 42] 54 M1 (some (.int v)) 54 M2) (h0 : M0 0 = aO 3 f0) (h42 : M1 42 = aO 4 f1) (kk : Fr Γ l kL_law 1416 [(0, .ref 5000), (1, .ref 0), (2, .ref 42), (3, .int (nI k))] [] 54 54 1701 M2 (some (.int 1)) 54 M') : Fr Γ l kL_law 1057 [(0, .ref 5000), (1, .ref 0), (2, .ref 42), (3, .int (nI k))] [] 54 54 1701 M0 (some (.int 1)) 54 M' := by
  refine fr_aload_n (pc := 1057) rfl dL_law_1057 ?_
  refine fr_callV0 (pc := 1058) (ci := 3) (T := TX4) (N := 7) [] [] (ex) gc_L_130 rfl rfl ⟨rfl, rfl, by decide, by decide⟩ (Nat.le_of_ble_eq_true rfl) rfl (by decide) h0 ⟨by decide, by decide⟩ dL_law_1058 ?_
  refine fr_aload_n (pc := 1061) rfl dL_law_1061 ?_
  refine fr_callV0 (pc := 1062) (ci := 4) (T := TX5) (N := 20) [] [.int v] (ey) gc_L_133 rfl rfl ⟨rfl, rfl, by decide, by decide⟩ (Nat.le_of_ble_eq_true rfl) rfl (by decide) h42 ⟨by decide, by decide⟩ dL_law_1062 ?_
  refine fr_icmp_eq (pc := 1065) 1416 (by decide) dL_law_1065 (fun h1065 => ?_) (fun h1065 => ?_)
  · exact kk
  · exact absurd rfl h1065
set_option maxRecDepth 100000 in
theorem lc_hold {Γ : aG} {l : Launch} {k : Nat} {M0 M1 M2 M' : Nat → aC} {v : Int32} {f0 f1 : List Value} (hk : k + 6 ≤ Γ.2.2.2 6000) (hN : Γ.2.2.2 6000 ≤ 3072) (ex : Ev Γ l mX4_hold [.ref 0, .int (sci Γ (k + 1)), .int (sci Γ (k + 2))] 54 M0 (some (.int v)) 54 M1) (ey : Ev Γ l mX5_hold [.ref 42, .int (sci Γ (k + 1)), .int (sci Γ (k + 2))] 54 M1 (some (.int v)) 54 M2) (h0 : M0 0 = aO 3 f0) (h42 : M1 42 = aO 4 f1) (kk : Fr Γ l kL_law 1416 [(0, .ref 5000), (1, .ref 0), (2, .ref 42), (3, .int (nI k))] [] 54 54 1701 M2 (some (.int 1)) 54 M') : Fr Γ l kL_law 1070 [(0, .ref 5000), (1, .ref 0), (2, .ref 42), (3, .int (nI k))] [] 54 54 1701 M0 (some (.int 1)) 54 M' := by
  refine fr_aload_n (pc := 1070) rfl dL_law_1070 ?_
  refine fr_aload_n (pc := 1071) rfl dL_law_1071 ?_
  refine fr_iload_n (pc := 1072) rfl dL_law_1072 ?_
  refine fr_iconst (pc := 1073) (v := 1) rfl dL_law_1073 ?_
  refine fr_iadd (pc := 1074) dL_law_1074 ?_
  refine fr_eq (z := nI (k + 1)) (nI_add k 1) ?_
  refine fr_scl (pc := 1075) (k + 1) rfl (by omega) (by omega) dL_law_1075 ?_
  refine fr_aload_n (pc := 1076) rfl dL_law_1076 ?_
  refine fr_iload_n (pc := 1077) rfl dL_law_1077 ?_
  refine fr_iconst (pc := 1078) (v := 2) rfl dL_law_1078 ?_
  refine fr_iadd (pc := 1079) dL_law_1079 ?_
  refine fr_eq (z := nI (k + 2)) (nI_add k 2) ?_
  refine fr_scl (pc := 1080) (k + 2) rfl (by omega) (by omega) dL_law_1080 ?_
  refine fr_callV0 (pc := 1081) (ci := 3) (T := TX4) (N := 7) [.int (sci Γ (k + 1)), .int (sci Γ (k + 2))] [] (ex) gc_L_134 rfl rfl ⟨rfl, rfl, by decide, by decide⟩ (Nat.le_of_ble_eq_true rfl) rfl (by decide) h0 ⟨by decide, by decide⟩ dL_law_1081 ?_
  refine fr_aload_n (pc := 1084) rfl dL_law_1084 ?_
  refine fr_aload_n (pc := 1085) rfl dL_law_1085 ?_
  refine fr_iload_n (pc := 1086) rfl dL_law_1086 ?_
  refine fr_iconst (pc := 1087) (v := 1) rfl dL_law_1087 ?_
  refine fr_iadd (pc := 1088) dL_law_1088 ?_
  refine fr_eq (z := nI (k + 1)) (nI_add k 1) ?_
  refine fr_scl (pc := 1089) (k + 1) rfl (by omega) (by omega) dL_law_1089 ?_
  refine fr_aload_n (pc := 1090) rfl dL_law_1090 ?_
  refine fr_iload_n (pc := 1091) rfl dL_law_1091 ?_
  refine fr_iconst (pc := 1092) (v := 2) rfl dL_law_1092 ?_
  refine fr_iadd (pc := 1093) dL_law_1093 ?_
  refine fr_eq (z := nI (k + 2)) (nI_add k 2) ?_
  refine fr_scl (pc := 1094) (k + 2) rfl (by omega) (by omega) dL_law_1094 ?_
  refine fr_callV0 (pc := 1095) (ci := 4) (T := TX5) (N := 20) [.int (sci Γ (k + 1)), .int (sci Γ (k + 2))] [.int v] (ey) gc_L_137 rfl rfl ⟨rfl, rfl, by decide, by decide⟩ (Nat.le_of_ble_eq_true rfl) rfl (by decide) h42 ⟨by decide, by decide⟩ dL_law_1095 ?_
  refine fr_icmp_eq (pc := 1098) 1416 (by decide) dL_law_1098 (fun h1098 => ?_) (fun h1098 => ?_)
  · exact kk
  · exact absurd rfl h1098
set_option maxRecDepth 100000 in
theorem lc_as {Γ : aG} {l : Launch} {k : Nat} {M0 M1 M2 M' : Nat → aC} {v : Int32} {f0 f1 : List Value} (hk : k + 6 ≤ Γ.2.2.2 6000) (hN : Γ.2.2.2 6000 ≤ 3072) (ex : Ev Γ l mX4_as [.ref 0, .int (sci Γ (k + 1)), .int (sci Γ (k + 2))] 54 M0 (some (.int v)) 54 M1) (ey : Ev Γ l mX5_as [.ref 42, .int (sci Γ (k + 1)), .int (sci Γ (k + 2))] 54 M1 (some (.int v)) 54 M2) (h0 : M0 0 = aO 3 f0) (h42 : M1 42 = aO 4 f1) (kk : Fr Γ l kL_law 1416 [(0, .ref 5000), (1, .ref 0), (2, .ref 42), (3, .int (nI k))] [] 54 54 1701 M2 (some (.int 1)) 54 M') : Fr Γ l kL_law 1103 [(0, .ref 5000), (1, .ref 0), (2, .ref 42), (3, .int (nI k))] [] 54 54 1701 M0 (some (.int 1)) 54 M' := by
  refine fr_aload_n (pc := 1103) rfl dL_law_1103 ?_
  refine fr_aload_n (pc := 1104) rfl dL_law_1104 ?_
  refine fr_iload_n (pc := 1105) rfl dL_law_1105 ?_
  refine fr_iconst (pc := 1106) (v := 1) rfl dL_law_1106 ?_
  refine fr_iadd (pc := 1107) dL_law_1107 ?_
  refine fr_eq (z := nI (k + 1)) (nI_add k 1) ?_
  refine fr_scl (pc := 1108) (k + 1) rfl (by omega) (by omega) dL_law_1108 ?_
  refine fr_aload_n (pc := 1109) rfl dL_law_1109 ?_
  refine fr_iload_n (pc := 1110) rfl dL_law_1110 ?_
  refine fr_iconst (pc := 1111) (v := 2) rfl dL_law_1111 ?_
  refine fr_iadd (pc := 1112) dL_law_1112 ?_
  refine fr_eq (z := nI (k + 2)) (nI_add k 2) ?_
  refine fr_scl (pc := 1113) (k + 2) rfl (by omega) (by omega) dL_law_1113 ?_
  refine fr_callV0 (pc := 1114) (ci := 3) (T := TX4) (N := 7) [.int (sci Γ (k + 1)), .int (sci Γ (k + 2))] [] (ex) gc_L_138 rfl rfl ⟨rfl, rfl, by decide, by decide⟩ (Nat.le_of_ble_eq_true rfl) rfl (by decide) h0 ⟨by decide, by decide⟩ dL_law_1114 ?_
  refine fr_aload_n (pc := 1117) rfl dL_law_1117 ?_
  refine fr_aload_n (pc := 1118) rfl dL_law_1118 ?_
  refine fr_iload_n (pc := 1119) rfl dL_law_1119 ?_
  refine fr_iconst (pc := 1120) (v := 1) rfl dL_law_1120 ?_
  refine fr_iadd (pc := 1121) dL_law_1121 ?_
  refine fr_eq (z := nI (k + 1)) (nI_add k 1) ?_
  refine fr_scl (pc := 1122) (k + 1) rfl (by omega) (by omega) dL_law_1122 ?_
  refine fr_aload_n (pc := 1123) rfl dL_law_1123 ?_
  refine fr_iload_n (pc := 1124) rfl dL_law_1124 ?_
  refine fr_iconst (pc := 1125) (v := 2) rfl dL_law_1125 ?_
  refine fr_iadd (pc := 1126) dL_law_1126 ?_
  refine fr_eq (z := nI (k + 2)) (nI_add k 2) ?_
  refine fr_scl (pc := 1127) (k + 2) rfl (by omega) (by omega) dL_law_1127 ?_
  refine fr_callV0 (pc := 1128) (ci := 4) (T := TX5) (N := 20) [.int (sci Γ (k + 1)), .int (sci Γ (k + 2))] [.int v] (ey) gc_L_141 rfl rfl ⟨rfl, rfl, by decide, by decide⟩ (Nat.le_of_ble_eq_true rfl) rfl (by decide) h42 ⟨by decide, by decide⟩ dL_law_1128 ?_
  refine fr_icmp_eq (pc := 1131) 1416 (by decide) dL_law_1131 (fun h1131 => ?_) (fun h1131 => ?_)
  · exact kk
  · exact absurd rfl h1131
set_option maxRecDepth 100000 in
theorem lc_sheet {Γ : aG} {l : Launch} {k : Nat} {M0 M1 M2 M' : Nat → aC} {v : Int32} {f0 f1 : List Value} (hk : k + 6 ≤ Γ.2.2.2 6000) (hN : Γ.2.2.2 6000 ≤ 3072) (ex : Ev Γ l mX4_sheet [.ref 0, .int (sci Γ (k + 1)), .int (sci Γ (k + 2)), .int (sci Γ (k + 3))] 54 M0 (some (.int v)) 54 M1) (ey : Ev Γ l mX5_sheet [.ref 42, .int (sci Γ (k + 1)), .int (sci Γ (k + 2)), .int (sci Γ (k + 3))] 54 M1 (some (.int v)) 54 M2) (h0 : M0 0 = aO 3 f0) (h42 : M1 42 = aO 4 f1) (kk : Fr Γ l kL_law 1416 [(0, .ref 5000), (1, .ref 0), (2, .ref 42), (3, .int (nI k))] [] 54 54 1701 M2 (some (.int 1)) 54 M') : Fr Γ l kL_law 1136 [(0, .ref 5000), (1, .ref 0), (2, .ref 42), (3, .int (nI k))] [] 54 54 1701 M0 (some (.int 1)) 54 M' := by
  refine fr_aload_n (pc := 1136) rfl dL_law_1136 ?_
  refine fr_aload_n (pc := 1137) rfl dL_law_1137 ?_
  refine fr_iload_n (pc := 1138) rfl dL_law_1138 ?_
  refine fr_iconst (pc := 1139) (v := 1) rfl dL_law_1139 ?_
  refine fr_iadd (pc := 1140) dL_law_1140 ?_
  refine fr_eq (z := nI (k + 1)) (nI_add k 1) ?_
  refine fr_scl (pc := 1141) (k + 1) rfl (by omega) (by omega) dL_law_1141 ?_
  refine fr_aload_n (pc := 1142) rfl dL_law_1142 ?_
  refine fr_iload_n (pc := 1143) rfl dL_law_1143 ?_
  refine fr_iconst (pc := 1144) (v := 2) rfl dL_law_1144 ?_
  refine fr_iadd (pc := 1145) dL_law_1145 ?_
  refine fr_eq (z := nI (k + 2)) (nI_add k 2) ?_
  refine fr_scl (pc := 1146) (k + 2) rfl (by omega) (by omega) dL_law_1146 ?_
  refine fr_aload_n (pc := 1147) rfl dL_law_1147 ?_
  refine fr_iload_n (pc := 1148) rfl dL_law_1148 ?_
  refine fr_iconst (pc := 1149) (v := 3) rfl dL_law_1149 ?_
  refine fr_iadd (pc := 1150) dL_law_1150 ?_
  refine fr_eq (z := nI (k + 3)) (nI_add k 3) ?_
  refine fr_scl (pc := 1151) (k + 3) rfl (by omega) (by omega) dL_law_1151 ?_
  refine fr_callV0 (pc := 1152) (ci := 3) (T := TX4) (N := 7) [.int (sci Γ (k + 1)), .int (sci Γ (k + 2)), .int (sci Γ (k + 3))] [] (ex) gc_L_142 rfl rfl ⟨rfl, rfl, by decide, by decide⟩ (Nat.le_of_ble_eq_true rfl) rfl (by decide) h0 ⟨by decide, by decide⟩ dL_law_1152 ?_
  refine fr_aload_n (pc := 1155) rfl dL_law_1155 ?_
  refine fr_aload_n (pc := 1156) rfl dL_law_1156 ?_
  refine fr_iload_n (pc := 1157) rfl dL_law_1157 ?_
  refine fr_iconst (pc := 1158) (v := 1) rfl dL_law_1158 ?_
  refine fr_iadd (pc := 1159) dL_law_1159 ?_
  refine fr_eq (z := nI (k + 1)) (nI_add k 1) ?_
  refine fr_scl (pc := 1160) (k + 1) rfl (by omega) (by omega) dL_law_1160 ?_
  refine fr_aload_n (pc := 1161) rfl dL_law_1161 ?_
  refine fr_iload_n (pc := 1162) rfl dL_law_1162 ?_
  refine fr_iconst (pc := 1163) (v := 2) rfl dL_law_1163 ?_
  refine fr_iadd (pc := 1164) dL_law_1164 ?_
  refine fr_eq (z := nI (k + 2)) (nI_add k 2) ?_
  refine fr_scl (pc := 1165) (k + 2) rfl (by omega) (by omega) dL_law_1165 ?_
  refine fr_aload_n (pc := 1166) rfl dL_law_1166 ?_
  refine fr_iload_n (pc := 1167) rfl dL_law_1167 ?_
  refine fr_iconst (pc := 1168) (v := 3) rfl dL_law_1168 ?_
  refine fr_iadd (pc := 1169) dL_law_1169 ?_
  refine fr_eq (z := nI (k + 3)) (nI_add k 3) ?_
  refine fr_scl (pc := 1170) (k + 3) rfl (by omega) (by omega) dL_law_1170 ?_
  refine fr_callV0 (pc := 1171) (ci := 4) (T := TX5) (N := 20) [.int (sci Γ (k + 1)), .int (sci Γ (k + 2)), .int (sci Γ (k + 3))] [.int v] (ey) gc_L_145 rfl rfl ⟨rfl, rfl, by decide, by decide⟩ (Nat.le_of_ble_eq_true rfl) rfl (by decide) h42 ⟨by decide, by decide⟩ dL_law_1171 ?_
  refine fr_icmp_eq (pc := 1174) 1416 (by decide) dL_law_1174 (fun h1174 => ?_) (fun h1174 => ?_)
  · exact kk
  · exact absurd rfl h1174
set_option maxRecDepth 100000 in
theorem lc_write {Γ : aG} {l : Launch} {k : Nat} {M0 M1 M2 M' : Nat → aC} {v : Int32} {f0 f1 : List Value} (hk : k + 6 ≤ Γ.2.2.2 6000) (hN : Γ.2.2.2 6000 ≤ 3072) (ex : Ev Γ l mX4_write [.ref 0, .int (sci Γ (k + 1)), .int (sci Γ (k + 2)), .int (sci Γ (k + 3))] 54 M0 (some (.int v)) 54 M1) (ey : Ev Γ l mX5_write [.ref 42, .int (sci Γ (k + 1)), .int (sci Γ (k + 2)), .int (sci Γ (k + 3))] 54 M1 (some (.int v)) 54 M2) (h0 : M0 0 = aO 3 f0) (h42 : M1 42 = aO 4 f1) (kk : Fr Γ l kL_law 1416 [(0, .ref 5000), (1, .ref 0), (2, .ref 42), (3, .int (nI k))] [] 54 54 1701 M2 (some (.int 1)) 54 M') : Fr Γ l kL_law 1179 [(0, .ref 5000), (1, .ref 0), (2, .ref 42), (3, .int (nI k))] [] 54 54 1701 M0 (some (.int 1)) 54 M' := by
  refine fr_aload_n (pc := 1179) rfl dL_law_1179 ?_
  refine fr_aload_n (pc := 1180) rfl dL_law_1180 ?_
  refine fr_iload_n (pc := 1181) rfl dL_law_1181 ?_
  refine fr_iconst (pc := 1182) (v := 1) rfl dL_law_1182 ?_
  refine fr_iadd (pc := 1183) dL_law_1183 ?_
  refine fr_eq (z := nI (k + 1)) (nI_add k 1) ?_
  refine fr_scl (pc := 1184) (k + 1) rfl (by omega) (by omega) dL_law_1184 ?_
  refine fr_aload_n (pc := 1185) rfl dL_law_1185 ?_
  refine fr_iload_n (pc := 1186) rfl dL_law_1186 ?_
  refine fr_iconst (pc := 1187) (v := 2) rfl dL_law_1187 ?_
  refine fr_iadd (pc := 1188) dL_law_1188 ?_
  refine fr_eq (z := nI (k + 2)) (nI_add k 2) ?_
  refine fr_scl (pc := 1189) (k + 2) rfl (by omega) (by omega) dL_law_1189 ?_
  refine fr_aload_n (pc := 1190) rfl dL_law_1190 ?_
  refine fr_iload_n (pc := 1191) rfl dL_law_1191 ?_
  refine fr_iconst (pc := 1192) (v := 3) rfl dL_law_1192 ?_
  refine fr_iadd (pc := 1193) dL_law_1193 ?_
  refine fr_eq (z := nI (k + 3)) (nI_add k 3) ?_
  refine fr_scl (pc := 1194) (k + 3) rfl (by omega) (by omega) dL_law_1194 ?_
  refine fr_callV0 (pc := 1195) (ci := 3) (T := TX4) (N := 7) [.int (sci Γ (k + 1)), .int (sci Γ (k + 2)), .int (sci Γ (k + 3))] [] (ex) gc_L_146 rfl rfl ⟨rfl, rfl, by decide, by decide⟩ (Nat.le_of_ble_eq_true rfl) rfl (by decide) h0 ⟨by decide, by decide⟩ dL_law_1195 ?_
  refine fr_aload_n (pc := 1198) rfl dL_law_1198 ?_
  refine fr_aload_n (pc := 1199) rfl dL_law_1199 ?_
  refine fr_iload_n (pc := 1200) rfl dL_law_1200 ?_
  refine fr_iconst (pc := 1201) (v := 1) rfl dL_law_1201 ?_
  refine fr_iadd (pc := 1202) dL_law_1202 ?_
  refine fr_eq (z := nI (k + 1)) (nI_add k 1) ?_
  refine fr_scl (pc := 1203) (k + 1) rfl (by omega) (by omega) dL_law_1203 ?_
  refine fr_aload_n (pc := 1204) rfl dL_law_1204 ?_
  refine fr_iload_n (pc := 1205) rfl dL_law_1205 ?_
  refine fr_iconst (pc := 1206) (v := 2) rfl dL_law_1206 ?_
  refine fr_iadd (pc := 1207) dL_law_1207 ?_
  refine fr_eq (z := nI (k + 2)) (nI_add k 2) ?_
  refine fr_scl (pc := 1208) (k + 2) rfl (by omega) (by omega) dL_law_1208 ?_
  refine fr_aload_n (pc := 1209) rfl dL_law_1209 ?_
  refine fr_iload_n (pc := 1210) rfl dL_law_1210 ?_
  refine fr_iconst (pc := 1211) (v := 3) rfl dL_law_1211 ?_
  refine fr_iadd (pc := 1212) dL_law_1212 ?_
  refine fr_eq (z := nI (k + 3)) (nI_add k 3) ?_
  refine fr_scl (pc := 1213) (k + 3) rfl (by omega) (by omega) dL_law_1213 ?_
  refine fr_callV0 (pc := 1214) (ci := 4) (T := TX5) (N := 20) [.int (sci Γ (k + 1)), .int (sci Γ (k + 2)), .int (sci Γ (k + 3))] [.int v] (ey) gc_L_149 rfl rfl ⟨rfl, rfl, by decide, by decide⟩ (Nat.le_of_ble_eq_true rfl) rfl (by decide) h42 ⟨by decide, by decide⟩ dL_law_1214 ?_
  refine fr_icmp_eq (pc := 1217) 1416 (by decide) dL_law_1217 (fun h1217 => ?_) (fun h1217 => ?_)
  · exact kk
  · exact absurd rfl h1217
set_option maxRecDepth 100000 in
theorem lc_copy {Γ : aG} {l : Launch} {k : Nat} {M0 M1 M2 M' : Nat → aC} {v : Int32} {f0 f1 : List Value} (hk : k + 6 ≤ Γ.2.2.2 6000) (hN : Γ.2.2.2 6000 ≤ 3072) (ex : Ev Γ l mX4_copy [.ref 0, .int (sci Γ (k + 1)), .int (sci Γ (k + 2)), .int (sci Γ (k + 3)), .int (sci Γ (k + 4)), .int (sci Γ (k + 5))] 54 M0 (some (.int v)) 54 M1) (ey : Ev Γ l mX5_copy [.ref 42, .int (sci Γ (k + 1)), .int (sci Γ (k + 2)), .int (sci Γ (k + 3)), .int (sci Γ (k + 4)), .int (sci Γ (k + 5))] 54 M1 (some (.int v)) 54 M2) (h0 : M0 0 = aO 3 f0) (h42 : M1 42 = aO 4 f1) (kk : Fr Γ l kL_law 1416 [(0, .ref 5000), (1, .ref 0), (2, .ref 42), (3, .int (nI k))] [] 54 54 1701 M2 (some (.int 1)) 54 M') : Fr Γ l kL_law 1222 [(0, .ref 5000), (1, .ref 0), (2, .ref 42), (3, .int (nI k))] [] 54 54 1701 M0 (some (.int 1)) 54 M' := by
  refine fr_aload_n (pc := 1222) rfl dL_law_1222 ?_
  refine fr_aload_n (pc := 1223) rfl dL_law_1223 ?_
  refine fr_iload_n (pc := 1224) rfl dL_law_1224 ?_
  refine fr_iconst (pc := 1225) (v := 1) rfl dL_law_1225 ?_
  refine fr_iadd (pc := 1226) dL_law_1226 ?_
  refine fr_eq (z := nI (k + 1)) (nI_add k 1) ?_
  refine fr_scl (pc := 1227) (k + 1) rfl (by omega) (by omega) dL_law_1227 ?_
  refine fr_aload_n (pc := 1228) rfl dL_law_1228 ?_
  refine fr_iload_n (pc := 1229) rfl dL_law_1229 ?_
  refine fr_iconst (pc := 1230) (v := 2) rfl dL_law_1230 ?_
  refine fr_iadd (pc := 1231) dL_law_1231 ?_
  refine fr_eq (z := nI (k + 2)) (nI_add k 2) ?_
  refine fr_scl (pc := 1232) (k + 2) rfl (by omega) (by omega) dL_law_1232 ?_
  refine fr_aload_n (pc := 1233) rfl dL_law_1233 ?_
  refine fr_iload_n (pc := 1234) rfl dL_law_1234 ?_
  refine fr_iconst (pc := 1235) (v := 3) rfl dL_law_1235 ?_
  refine fr_iadd (pc := 1236) dL_law_1236 ?_
  refine fr_eq (z := nI (k + 3)) (nI_add k 3) ?_
  refine fr_scl (pc := 1237) (k + 3) rfl (by omega) (by omega) dL_law_1237 ?_
  refine fr_aload_n (pc := 1238) rfl dL_law_1238 ?_
  refine fr_iload_n (pc := 1239) rfl dL_law_1239 ?_
  refine fr_iconst (pc := 1240) (v := 4) rfl dL_law_1240 ?_
  refine fr_iadd (pc := 1241) dL_law_1241 ?_
  refine fr_eq (z := nI (k + 4)) (nI_add k 4) ?_
  refine fr_scl (pc := 1242) (k + 4) rfl (by omega) (by omega) dL_law_1242 ?_
  refine fr_aload_n (pc := 1243) rfl dL_law_1243 ?_
  refine fr_iload_n (pc := 1244) rfl dL_law_1244 ?_
  refine fr_iconst (pc := 1245) (v := 5) rfl dL_law_1245 ?_
  refine fr_iadd (pc := 1246) dL_law_1246 ?_
  refine fr_eq (z := nI (k + 5)) (nI_add k 5) ?_
  refine fr_scl (pc := 1247) (k + 5) rfl (by omega) (by omega) dL_law_1247 ?_
  refine fr_callV0 (pc := 1248) (ci := 3) (T := TX4) (N := 7) [.int (sci Γ (k + 1)), .int (sci Γ (k + 2)), .int (sci Γ (k + 3)), .int (sci Γ (k + 4)), .int (sci Γ (k + 5))] [] (ex) gc_L_150 rfl rfl ⟨rfl, rfl, by decide, by decide⟩ (Nat.le_of_ble_eq_true rfl) rfl (by decide) h0 ⟨by decide, by decide⟩ dL_law_1248 ?_
  refine fr_aload_n (pc := 1251) rfl dL_law_1251 ?_
  refine fr_aload_n (pc := 1252) rfl dL_law_1252 ?_
  refine fr_iload_n (pc := 1253) rfl dL_law_1253 ?_
  refine fr_iconst (pc := 1254) (v := 1) rfl dL_law_1254 ?_
  refine fr_iadd (pc := 1255) dL_law_1255 ?_
  refine fr_eq (z := nI (k + 1)) (nI_add k 1) ?_
  refine fr_scl (pc := 1256) (k + 1) rfl (by omega) (by omega) dL_law_1256 ?_
  refine fr_aload_n (pc := 1257) rfl dL_law_1257 ?_
  refine fr_iload_n (pc := 1258) rfl dL_law_1258 ?_
  refine fr_iconst (pc := 1259) (v := 2) rfl dL_law_1259 ?_
  refine fr_iadd (pc := 1260) dL_law_1260 ?_
  refine fr_eq (z := nI (k + 2)) (nI_add k 2) ?_
  refine fr_scl (pc := 1261) (k + 2) rfl (by omega) (by omega) dL_law_1261 ?_
  refine fr_aload_n (pc := 1262) rfl dL_law_1262 ?_
  refine fr_iload_n (pc := 1263) rfl dL_law_1263 ?_
  refine fr_iconst (pc := 1264) (v := 3) rfl dL_law_1264 ?_
  refine fr_iadd (pc := 1265) dL_law_1265 ?_
  refine fr_eq (z := nI (k + 3)) (nI_add k 3) ?_
  refine fr_scl (pc := 1266) (k + 3) rfl (by omega) (by omega) dL_law_1266 ?_
  refine fr_aload_n (pc := 1267) rfl dL_law_1267 ?_
  refine fr_iload_n (pc := 1268) rfl dL_law_1268 ?_
  refine fr_iconst (pc := 1269) (v := 4) rfl dL_law_1269 ?_
  refine fr_iadd (pc := 1270) dL_law_1270 ?_
  refine fr_eq (z := nI (k + 4)) (nI_add k 4) ?_
  refine fr_scl (pc := 1271) (k + 4) rfl (by omega) (by omega) dL_law_1271 ?_
  refine fr_aload_n (pc := 1272) rfl dL_law_1272 ?_
  refine fr_iload_n (pc := 1273) rfl dL_law_1273 ?_
  refine fr_iconst (pc := 1274) (v := 5) rfl dL_law_1274 ?_
  refine fr_iadd (pc := 1275) dL_law_1275 ?_
  refine fr_eq (z := nI (k + 5)) (nI_add k 5) ?_
  refine fr_scl (pc := 1276) (k + 5) rfl (by omega) (by omega) dL_law_1276 ?_
  refine fr_callV0 (pc := 1277) (ci := 4) (T := TX5) (N := 20) [.int (sci Γ (k + 1)), .int (sci Γ (k + 2)), .int (sci Γ (k + 3)), .int (sci Γ (k + 4)), .int (sci Γ (k + 5))] [.int v] (ey) gc_L_154 rfl rfl ⟨rfl, rfl, by decide, by decide⟩ (Nat.le_of_ble_eq_true rfl) rfl (by decide) h42 ⟨by decide, by decide⟩ dL_law_1277 ?_
  refine fr_icmp_eq (pc := 1280) 1416 (by decide) dL_law_1280 (fun h1280 => ?_) (fun h1280 => ?_)
  · exact kk
  · exact absurd rfl h1280
set_option maxRecDepth 100000 in
theorem lc_load {Γ : aG} {l : Launch} {k : Nat} {M0 M1 M2 M' : Nat → aC} {v : Int32} {f0 f1 : List Value} (hk : k + 6 ≤ Γ.2.2.2 6000) (hN : Γ.2.2.2 6000 ≤ 3072) (ex : Ev Γ l mX4_load [.ref 0, .int (sci Γ (k + 1))] 54 M0 (some (.int v)) 54 M1) (ey : Ev Γ l mX5_load [.ref 42, .int (sci Γ (k + 1))] 54 M1 (some (.int v)) 54 M2) (h0 : M0 0 = aO 3 f0) (h42 : M1 42 = aO 4 f1) (kk : Fr Γ l kL_law 1416 [(0, .ref 5000), (1, .ref 0), (2, .ref 42), (3, .int (nI k))] [] 54 54 1701 M2 (some (.int 1)) 54 M') : Fr Γ l kL_law 1285 [(0, .ref 5000), (1, .ref 0), (2, .ref 42), (3, .int (nI k))] [] 54 54 1701 M0 (some (.int 1)) 54 M' := by
  refine fr_aload_n (pc := 1285) rfl dL_law_1285 ?_
  refine fr_aload_n (pc := 1286) rfl dL_law_1286 ?_
  refine fr_iload_n (pc := 1287) rfl dL_law_1287 ?_
  refine fr_iconst (pc := 1288) (v := 1) rfl dL_law_1288 ?_
  refine fr_iadd (pc := 1289) dL_law_1289 ?_
  refine fr_eq (z := nI (k + 1)) (nI_add k 1) ?_
  refine fr_scl (pc := 1290) (k + 1) rfl (by omega) (by omega) dL_law_1290 ?_
  refine fr_callV0 (pc := 1291) (ci := 3) (T := TX4) (N := 7) [.int (sci Γ (k + 1))] [] (ex) gc_L_155 rfl rfl ⟨rfl, rfl, by decide, by decide⟩ (Nat.le_of_ble_eq_true rfl) rfl (by decide) h0 ⟨by decide, by decide⟩ dL_law_1291 ?_
  refine fr_aload_n (pc := 1294) rfl dL_law_1294 ?_
  refine fr_aload_n (pc := 1295) rfl dL_law_1295 ?_
  refine fr_iload_n (pc := 1296) rfl dL_law_1296 ?_
  refine fr_iconst (pc := 1297) (v := 1) rfl dL_law_1297 ?_
  refine fr_iadd (pc := 1298) dL_law_1298 ?_
  refine fr_eq (z := nI (k + 1)) (nI_add k 1) ?_
  refine fr_scl (pc := 1299) (k + 1) rfl (by omega) (by omega) dL_law_1299 ?_
  refine fr_callV0 (pc := 1300) (ci := 4) (T := TX5) (N := 20) [.int (sci Γ (k + 1))] [.int v] (ey) gc_L_158 rfl rfl ⟨rfl, rfl, by decide, by decide⟩ (Nat.le_of_ble_eq_true rfl) rfl (by decide) h42 ⟨by decide, by decide⟩ dL_law_1300 ?_
  refine fr_icmp_eq (pc := 1303) 1416 (by decide) dL_law_1303 (fun h1303 => ?_) (fun h1303 => ?_)
  · exact kk
  · exact absurd rfl h1303
set_option maxRecDepth 100000 in
theorem lc_judge {Γ : aG} {l : Launch} {k : Nat} {M0 M1 M2 M' : Nat → aC} {v : Int32} {f0 f1 : List Value} (hk : k + 6 ≤ Γ.2.2.2 6000) (hN : Γ.2.2.2 6000 ≤ 3072) (ex : Ev Γ l mX4_judge [.ref 0, .int (sci Γ (k + 1))] 54 M0 (some (.int v)) 54 M1) (ey : Ev Γ l mX5_judge [.ref 42, .int (sci Γ (k + 1))] 54 M1 (some (.int v)) 54 M2) (h0 : M0 0 = aO 3 f0) (h42 : M1 42 = aO 4 f1) (kk : Fr Γ l kL_law 1416 [(0, .ref 5000), (1, .ref 0), (2, .ref 42), (3, .int (nI k))] [] 54 54 1701 M2 (some (.int 1)) 54 M') : Fr Γ l kL_law 1308 [(0, .ref 5000), (1, .ref 0), (2, .ref 42), (3, .int (nI k))] [] 54 54 1701 M0 (some (.int 1)) 54 M' := by
  refine fr_aload_n (pc := 1308) rfl dL_law_1308 ?_
  refine fr_aload_n (pc := 1309) rfl dL_law_1309 ?_
  refine fr_iload_n (pc := 1310) rfl dL_law_1310 ?_
  refine fr_iconst (pc := 1311) (v := 1) rfl dL_law_1311 ?_
  refine fr_iadd (pc := 1312) dL_law_1312 ?_
  refine fr_eq (z := nI (k + 1)) (nI_add k 1) ?_
  refine fr_scl (pc := 1313) (k + 1) rfl (by omega) (by omega) dL_law_1313 ?_
  refine fr_callV0 (pc := 1314) (ci := 3) (T := TX4) (N := 7) [.int (sci Γ (k + 1))] [] (ex) gc_L_159 rfl rfl ⟨rfl, rfl, by decide, by decide⟩ (Nat.le_of_ble_eq_true rfl) rfl (by decide) h0 ⟨by decide, by decide⟩ dL_law_1314 ?_
  refine fr_aload_n (pc := 1317) rfl dL_law_1317 ?_
  refine fr_aload_n (pc := 1318) rfl dL_law_1318 ?_
  refine fr_iload_n (pc := 1319) rfl dL_law_1319 ?_
  refine fr_iconst (pc := 1320) (v := 1) rfl dL_law_1320 ?_
  refine fr_iadd (pc := 1321) dL_law_1321 ?_
  refine fr_eq (z := nI (k + 1)) (nI_add k 1) ?_
  refine fr_scl (pc := 1322) (k + 1) rfl (by omega) (by omega) dL_law_1322 ?_
  refine fr_callV0 (pc := 1323) (ci := 4) (T := TX5) (N := 20) [.int (sci Γ (k + 1))] [.int v] (ey) gc_L_162 rfl rfl ⟨rfl, rfl, by decide, by decide⟩ (Nat.le_of_ble_eq_true rfl) rfl (by decide) h42 ⟨by decide, by decide⟩ dL_law_1323 ?_
  refine fr_icmp_eq (pc := 1326) 1416 (by decide) dL_law_1326 (fun h1326 => ?_) (fun h1326 => ?_)
  · exact kk
  · exact absurd rfl h1326
set_option maxRecDepth 100000 in
theorem lc_image {Γ : aG} {l : Launch} {k : Nat} {M0 M1 M2 M' : Nat → aC} {v : Int32} {f0 f1 : List Value} (hk : k + 6 ≤ Γ.2.2.2 6000) (hN : Γ.2.2.2 6000 ≤ 3072) (ex : Ev Γ l mX4_image [.ref 0] 54 M0 (some (.int v)) 54 M1) (ey : Ev Γ l mX5_image [.ref 42] 54 M1 (some (.int v)) 54 M2) (h0 : M0 0 = aO 3 f0) (h42 : M1 42 = aO 4 f1) (kk : Fr Γ l kL_law 1416 [(0, .ref 5000), (1, .ref 0), (2, .ref 42), (3, .int (nI k))] [] 54 54 1701 M2 (some (.int 1)) 54 M') : Fr Γ l kL_law 1331 [(0, .ref 5000), (1, .ref 0), (2, .ref 42), (3, .int (nI k))] [] 54 54 1701 M0 (some (.int 1)) 54 M' := by
  refine fr_aload_n (pc := 1331) rfl dL_law_1331 ?_
  refine fr_callV0 (pc := 1332) (ci := 3) (T := TX4) (N := 7) [] [] (ex) gc_L_163 rfl rfl ⟨rfl, rfl, by decide, by decide⟩ (Nat.le_of_ble_eq_true rfl) rfl (by decide) h0 ⟨by decide, by decide⟩ dL_law_1332 ?_
  refine fr_aload_n (pc := 1335) rfl dL_law_1335 ?_
  refine fr_callV0 (pc := 1336) (ci := 4) (T := TX5) (N := 20) [] [.int v] (ey) gc_L_166 rfl rfl ⟨rfl, rfl, by decide, by decide⟩ (Nat.le_of_ble_eq_true rfl) rfl (by decide) h42 ⟨by decide, by decide⟩ dL_law_1336 ?_
  refine fr_icmp_eq (pc := 1339) 1416 (by decide) dL_law_1339 (fun h1339 => ?_) (fun h1339 => ?_)
  · exact kk
  · exact absurd rfl h1339
set_option maxRecDepth 100000 in
theorem lc_undo {Γ : aG} {l : Launch} {k : Nat} {M0 M1 M2 M' : Nat → aC} {v : Int32} {f0 f1 : List Value} (hk : k + 6 ≤ Γ.2.2.2 6000) (hN : Γ.2.2.2 6000 ≤ 3072) (ex : Ev Γ l mX4_undo [.ref 0] 54 M0 (some (.int v)) 54 M1) (ey : Ev Γ l mX5_undo [.ref 42] 54 M1 (some (.int v)) 54 M2) (h0 : M0 0 = aO 3 f0) (h42 : M1 42 = aO 4 f1) (kk : Fr Γ l kL_law 1416 [(0, .ref 5000), (1, .ref 0), (2, .ref 42), (3, .int (nI k))] [] 54 54 1701 M2 (some (.int 1)) 54 M') : Fr Γ l kL_law 1344 [(0, .ref 5000), (1, .ref 0), (2, .ref 42), (3, .int (nI k))] [] 54 54 1701 M0 (some (.int 1)) 54 M' := by
  refine fr_aload_n (pc := 1344) rfl dL_law_1344 ?_
  refine fr_callV0 (pc := 1345) (ci := 3) (T := TX4) (N := 7) [] [] (ex) gc_L_167 rfl rfl ⟨rfl, rfl, by decide, by decide⟩ (Nat.le_of_ble_eq_true rfl) rfl (by decide) h0 ⟨by decide, by decide⟩ dL_law_1345 ?_
  refine fr_aload_n (pc := 1348) rfl dL_law_1348 ?_
  refine fr_callV0 (pc := 1349) (ci := 4) (T := TX5) (N := 20) [] [.int v] (ey) gc_L_170 rfl rfl ⟨rfl, rfl, by decide, by decide⟩ (Nat.le_of_ble_eq_true rfl) rfl (by decide) h42 ⟨by decide, by decide⟩ dL_law_1349 ?_
  refine fr_icmp_eq (pc := 1352) 1416 (by decide) dL_law_1352 (fun h1352 => ?_) (fun h1352 => ?_)
  · exact kk
  · exact absurd rfl h1352
set_option maxRecDepth 100000 in
theorem lc_tear {Γ : aG} {l : Launch} {k : Nat} {M0 M1 M2 M' : Nat → aC} {v : Int32} {f0 f1 : List Value} (hk : k + 6 ≤ Γ.2.2.2 6000) (hN : Γ.2.2.2 6000 ≤ 3072) (ex : Ev Γ l mX4_tear [.ref 0] 54 M0 (some (.int v)) 54 M1) (ey : Ev Γ l mX5_tear [.ref 42] 54 M1 (some (.int v)) 54 M2) (h0 : M0 0 = aO 3 f0) (h42 : M1 42 = aO 4 f1) (kk : Fr Γ l kL_law 1416 [(0, .ref 5000), (1, .ref 0), (2, .ref 42), (3, .int (nI k))] [] 54 54 1701 M2 (some (.int 1)) 54 M') : Fr Γ l kL_law 1357 [(0, .ref 5000), (1, .ref 0), (2, .ref 42), (3, .int (nI k))] [] 54 54 1701 M0 (some (.int 1)) 54 M' := by
  refine fr_aload_n (pc := 1357) rfl dL_law_1357 ?_
  refine fr_callV0 (pc := 1358) (ci := 3) (T := TX4) (N := 7) [] [] (ex) gc_L_171 rfl rfl ⟨rfl, rfl, by decide, by decide⟩ (Nat.le_of_ble_eq_true rfl) rfl (by decide) h0 ⟨by decide, by decide⟩ dL_law_1358 ?_
  refine fr_aload_n (pc := 1361) rfl dL_law_1361 ?_
  refine fr_callV0 (pc := 1362) (ci := 4) (T := TX5) (N := 20) [] [.int v] (ey) gc_L_174 rfl rfl ⟨rfl, rfl, by decide, by decide⟩ (Nat.le_of_ble_eq_true rfl) rfl (by decide) h42 ⟨by decide, by decide⟩ dL_law_1362 ?_
  refine fr_icmp_eq (pc := 1365) 1416 (by decide) dL_law_1365 (fun h1365 => ?_) (fun h1365 => ?_)
  · exact kk
  · exact absurd rfl h1365
set_option maxRecDepth 100000 in
theorem lc_count {Γ : aG} {l : Launch} {k : Nat} {M0 M1 M2 M' : Nat → aC} {v : Int32} {f0 f1 : List Value} (hk : k + 6 ≤ Γ.2.2.2 6000) (hN : Γ.2.2.2 6000 ≤ 3072) (ex : Ev Γ l mX4_count [.ref 0, .int (sci Γ (k + 1))] 54 M0 (some (.int v)) 54 M1) (ey : Ev Γ l mX5_count [.ref 42, .int (sci Γ (k + 1))] 54 M1 (some (.int v)) 54 M2) (h0 : M0 0 = aO 3 f0) (h42 : M1 42 = aO 4 f1) (kk : Fr Γ l kL_law 1416 [(0, .ref 5000), (1, .ref 0), (2, .ref 42), (3, .int (nI k))] [] 54 54 1701 M2 (some (.int 1)) 54 M') : Fr Γ l kL_law 1370 [(0, .ref 5000), (1, .ref 0), (2, .ref 42), (3, .int (nI k))] [] 54 54 1701 M0 (some (.int 1)) 54 M' := by
  refine fr_aload_n (pc := 1370) rfl dL_law_1370 ?_
  refine fr_aload_n (pc := 1371) rfl dL_law_1371 ?_
  refine fr_iload_n (pc := 1372) rfl dL_law_1372 ?_
  refine fr_iconst (pc := 1373) (v := 1) rfl dL_law_1373 ?_
  refine fr_iadd (pc := 1374) dL_law_1374 ?_
  refine fr_eq (z := nI (k + 1)) (nI_add k 1) ?_
  refine fr_scl (pc := 1375) (k + 1) rfl (by omega) (by omega) dL_law_1375 ?_
  refine fr_callV0 (pc := 1376) (ci := 3) (T := TX4) (N := 7) [.int (sci Γ (k + 1))] [] (ex) gc_L_175 rfl rfl ⟨rfl, rfl, by decide, by decide⟩ (Nat.le_of_ble_eq_true rfl) rfl (by decide) h0 ⟨by decide, by decide⟩ dL_law_1376 ?_
  refine fr_aload_n (pc := 1379) rfl dL_law_1379 ?_
  refine fr_aload_n (pc := 1380) rfl dL_law_1380 ?_
  refine fr_iload_n (pc := 1381) rfl dL_law_1381 ?_
  refine fr_iconst (pc := 1382) (v := 1) rfl dL_law_1382 ?_
  refine fr_iadd (pc := 1383) dL_law_1383 ?_
  refine fr_eq (z := nI (k + 1)) (nI_add k 1) ?_
  refine fr_scl (pc := 1384) (k + 1) rfl (by omega) (by omega) dL_law_1384 ?_
  refine fr_callV0 (pc := 1385) (ci := 4) (T := TX5) (N := 20) [.int (sci Γ (k + 1))] [.int v] (ey) gc_L_178 rfl rfl ⟨rfl, rfl, by decide, by decide⟩ (Nat.le_of_ble_eq_true rfl) rfl (by decide) h42 ⟨by decide, by decide⟩ dL_law_1385 ?_
  refine fr_icmp_eq (pc := 1388) 1416 (by decide) dL_law_1388 (fun h1388 => ?_) (fun h1388 => ?_)
  · exact kk
  · exact absurd rfl h1388
set_option maxRecDepth 100000 in
theorem lc_status {Γ : aG} {l : Launch} {k : Nat} {M0 M1 M2 M' : Nat → aC} {v : Int32} {f0 f1 : List Value} (hk : k + 6 ≤ Γ.2.2.2 6000) (hN : Γ.2.2.2 6000 ≤ 3072) (ex : Ev Γ l mX4_status [.ref 0, .int (sci Γ (k + 1))] 54 M0 (some (.int v)) 54 M1) (ey : Ev Γ l mX5_status [.ref 42, .int (sci Γ (k + 1))] 54 M1 (some (.int v)) 54 M2) (h0 : M0 0 = aO 3 f0) (h42 : M1 42 = aO 4 f1) (kk : Fr Γ l kL_law 1416 [(0, .ref 5000), (1, .ref 0), (2, .ref 42), (3, .int (nI k))] [] 54 54 1701 M2 (some (.int 1)) 54 M') : Fr Γ l kL_law 1393 [(0, .ref 5000), (1, .ref 0), (2, .ref 42), (3, .int (nI k))] [] 54 54 1701 M0 (some (.int 1)) 54 M' := by
  refine fr_aload_n (pc := 1393) rfl dL_law_1393 ?_
  refine fr_aload_n (pc := 1394) rfl dL_law_1394 ?_
  refine fr_iload_n (pc := 1395) rfl dL_law_1395 ?_
  refine fr_iconst (pc := 1396) (v := 1) rfl dL_law_1396 ?_
  refine fr_iadd (pc := 1397) dL_law_1397 ?_
  refine fr_eq (z := nI (k + 1)) (nI_add k 1) ?_
  refine fr_scl (pc := 1398) (k + 1) rfl (by omega) (by omega) dL_law_1398 ?_
  refine fr_callV0 (pc := 1399) (ci := 3) (T := TX4) (N := 7) [.int (sci Γ (k + 1))] [] (ex) gc_L_179 rfl rfl ⟨rfl, rfl, by decide, by decide⟩ (Nat.le_of_ble_eq_true rfl) rfl (by decide) h0 ⟨by decide, by decide⟩ dL_law_1399 ?_
  refine fr_aload_n (pc := 1402) rfl dL_law_1402 ?_
  refine fr_aload_n (pc := 1403) rfl dL_law_1403 ?_
  refine fr_iload_n (pc := 1404) rfl dL_law_1404 ?_
  refine fr_iconst (pc := 1405) (v := 1) rfl dL_law_1405 ?_
  refine fr_iadd (pc := 1406) dL_law_1406 ?_
  refine fr_eq (z := nI (k + 1)) (nI_add k 1) ?_
  refine fr_scl (pc := 1407) (k + 1) rfl (by omega) (by omega) dL_law_1407 ?_
  refine fr_callV0 (pc := 1408) (ci := 4) (T := TX5) (N := 20) [.int (sci Γ (k + 1))] [.int v] (ey) gc_L_182 rfl rfl ⟨rfl, rfl, by decide, by decide⟩ (Nat.le_of_ble_eq_true rfl) rfl (by decide) h42 ⟨by decide, by decide⟩ dL_law_1408 ?_
  refine fr_icmp_eq (pc := 1411) 1416 (by decide) dL_law_1411 (fun h1411 => ?_) (fun h1411 => ?_)
  · exact kk
  · exact absurd rfl h1411
