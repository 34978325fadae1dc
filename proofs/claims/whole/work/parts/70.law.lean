/-! ===== the law, case by case ===== -/
theorem wL_at {L : Nat → Nat → Int64} {w : Int32} : wL L (.inl w) 131 (nI 0).toNatClampNeg = w.toInt64 := by
  show gUp L 131 0 w.toInt64 131 0 = _
  rw [gUp_at]; exact if_pos rfl
theorem wE_at {L : Nat → Nat → Int64} {w : Int32} : wE L (.inl w) 131 (nI 0).toNatClampNeg = if w = 0 then 0 else 1 := by
  show gUp L 131 0 (if w = 0 then 0 else 1) 131 0 = _
  rw [gUp_at]; exact if_pos rfl
theorem wD_at {D : Nat → Nat → UInt64} {w : UInt64} : wD D (.inl w) 132 (nI 0).toNatClampNeg = w := by
  show gUp D 132 0 w 132 0 = _
  rw [gUp_at]; exact if_pos rfl
theorem cd_lt {o : Int32 ⊕ Nat} {N : Nat} (h : ∀ k, o = .inr k → k < N) (hN : N < 100) : cdO o < 200 := by
  cases o with
  | inl w => show 0 < 200; decide
  | inr k =>
    have := h k rfl
    show k + 1 < 200
    omega
theorem cd_0 {o : Int32 ⊕ Nat} (h : cdO o = 0) : ∃ w, o = .inl w := by
  cases o with
  | inl w => exact ⟨w, rfl⟩
  | inr k => exact absurd h (Nat.succ_ne_zero k)
/-- the constant rows are what they are -/
theorem g_row {G : gG} {Y : gY} {d pc : Nat} {al : List (Option Value)} {st : List Value} {h : gH} {kc ks : Nat} {Q : gQ} (k : (∀ j, j < 3 → h.2.2.1 j = G.2.2.2.2.2 j) → gGo G Y d pc al st h kc ks Q) : gGo G Y d pc al st h kc ks Q := by
  intro p l e R s m args below meth c QS mc ms ad0 C E ad ls sk H locs cells slots ha hL hs hR hV h1 h2
  exact k (fun j hj => (hR.2.1 j hj).2.2) p l e R s m args below meth c QS mc ms ad0 C E ad ls sk H locs cells slots ha hL hs hR hV h1 h2
section
variable {G : gG} {n : Nat} {I : Nat → Nat → Int32} {L : Nat → Nat → Int64} {D : Nat → Nat → UInt64}
theorem lc_clear (hR0 : Rel I) {k : Nat} (hk : 4 * k + 4 ≤ n) (hn : n ≤ 2048) {kc ks : Nat} {Q : gQ} (kn : ∀ J L2 D2, Rel J → gGo G gYlaw 40 2393 [some (.ref 0), some (.ref 3), some (.ref 114), some (.ref 131), some (.ref 132), some (.int (nI (4 * k))), none, none, none] [] (hp n J L2 D2) kc ks Q) : gGo G gYlaw 40 224 [some (.ref 0), some (.ref 3), some (.ref 114), some (.ref 131), some (.ref 132), some (.int (nI (4 * k))), none, none, none] [] (hp n I L D) (kc + 1) (ks + 6) Q := by
  obtain ⟨V, C, H, m, T, t, e, K, l, Ls, hR⟩ := hR0
  obtain ⟨o, P, ho, hx, hm⟩ := b_clear (G := G) (n := n) hR
  refine g_aload_n (pc := 224) dL_law_224 rfl rfl ?_
  refine g_callV (av := []) (st := []) (ci := 2) (pc := 225) dL_law_225 mt_X2_clear lk_L_134 im_X2_clear se_X2_clear (by decide) s_3 (by decide) rfl np_X2_clear gc_0 (Nat.le_of_ble_eq_true rfl) (Nat.le_of_ble_eq_true rfl) ⟨Nat.le_add_left 1 _, Nat.le_add_left 6 _⟩ (g_deep (show 20 ≤ 39 by decide) (hx L D)) (fun v' h9 _ q => ?_) (fun X h9 q => ?_)
  · obtain ⟨J, ⟨q1, rfl⟩, hP⟩ := q
    cases o with
    | inr z => exact absurd (ho z rfl) (Nat.not_lt_zero z)
    | inl w =>
      have q2 : (Sum.inl v' : Option Value ⊕ String) = .inl (some (.int w)) := q1
      cases q2
      refine g_aload_n (pc := 228) dL_law_228 rfl rfl ?_
      refine g_riV (av := []) (pc := 229) dL_law_229 mt_X3_clear lk_L_137 im_X3_clear se_X3_clear np_X3_clear s_114 (by decide) (by decide) rfl gc_0 (Nat.le_of_ble_eq_true rfl) (Nat.le_of_ble_eq_true rfl) (gRi_deep (show 20 ≤ 39 by decide) (hm J hP L D)) ?_
      rintro v K2 ⟨hK2, hth, hv⟩
      refine g_icmp_eq (tgt := 2393) (pc := 232) dL_law_232 (by decide) (fun c232 => ?_) (fun c232 => ?_)
      rotate_left
      · exact absurd (hv w rfl).symm c232
      exact g_bud (by omega) (by omega) (kn _ _ _ hK2)
  · obtain ⟨J, ⟨q1, -⟩, -⟩ := q
    cases o with
    | inr z => exact absurd (ho z rfl) (Nat.not_lt_zero z)
    | inl w =>
      have q2 : (Sum.inr X : Option Value ⊕ String) = .inl (some (.int w)) := q1
      cases q2
theorem lc_append (hR0 : Rel I) {k : Nat} (hk : 4 * k + 4 ≤ n) (hn : n ≤ 2048) {kc ks : Nat} {Q : gQ} (kn : ∀ J L2 D2, Rel J → gGo G gYlaw 40 2393 [some (.ref 0), some (.ref 3), some (.ref 114), some (.ref 131), some (.ref 132), some (.int (nI (4 * k))), none, none, none] [] (hp n J L2 D2) kc ks Q) : gGo G gYlaw 40 237 [some (.ref 0), some (.ref 3), some (.ref 114), some (.ref 131), some (.ref 132), some (.int (nI (4 * k))), none, none, none] [] (hp n I L D) (kc + 1) (ks + 6) Q := by
  obtain ⟨V, C, H, m, T, t, e, K, l, Ls, hR⟩ := hR0
  have hc65 : (I 0 (4 * k + 1)).toBitVec.toNat % 65536 < 65536 := Nat.mod_lt _ (by decide)
  obtain ⟨o, P, ho, hx, hm⟩ := b_append (G := G) (n := n) hR hc65
  have hcd := cd_lt ho (by decide)
  refine g_row (fun g0 => ?_)
  refine g_aload_n (pc := 237) dL_law_237 rfl rfl ?_
  refine g_aload_n (pc := 238) dL_law_238 rfl rfl ?_
  refine g_iload (pc := 239) dL_law_239 rfl ?_
  refine g_iconst (v := nI 1) (pc := 241) dL_law_241 rfl ?_
  refine g_iaddN (pc := 242) dL_law_242 ?_
  refine g_ialoadKN (pc := 243) dL_law_243 s_0 (by decide) (by omega) (by omega) rfl ?_
  refine g_i2c (pc := 244) dL_law_244 ?_
  rw [pk_char]
  refine g_aload_n (pc := 245) dL_law_245 rfl rfl ?_
  refine g_callH (av := [.ref 3, .int (nI ((I 0 (4 * k + 1)).toBitVec.toNat % 65536)), .ref 131]) (st := []) (pc := 246) dL_law_246 mh_L_append lk_L_138p sf_L_append rfl np_L_append (gc_r (gc_i (gc_r gc_0))) (Nat.le_of_ble_eq_true rfl) (Nat.le_of_ble_eq_true rfl) ⟨Nat.le_add_left 1 _, Nat.le_add_left 6 _⟩ (g_deep (show 21 ≤ 39 by decide) (w_append ho (hx L D))) (fun v' h9 _ q => ?_) (fun X h9 q => ?_)
  · obtain ⟨J, ⟨q1, rfl⟩, hP⟩ := q
    cases q1
    refine g_row (fun g1 => ?_)
    have hJ0 : J 0 = I 0 := (g1 0 (by decide)).trans (g0 0 (by decide)).symm
    refine g_istore (pc := 249) dL_law_249 (Nat.le_of_ble_eq_true rfl) rfl ?_
    refine g_aload_n (pc := 251) dL_law_251 rfl rfl ?_
    refine g_aload_n (pc := 252) dL_law_252 rfl rfl ?_
    refine g_iload (pc := 253) dL_law_253 rfl ?_
    refine g_iconst (v := nI 1) (pc := 255) dL_law_255 rfl ?_
    refine g_iaddN (pc := 256) dL_law_256 ?_
    refine g_ialoadKN (pc := 257) dL_law_257 s_0 (by decide) (by omega) (by omega) (congrFun hJ0 (4 * k + 1)) ?_
    refine g_i2c (pc := 258) dL_law_258 ?_
    rw [pk_char]
    refine g_riV (av := [.int _]) (pc := 259) dL_law_259 mt_X3_append lk_L_143 im_X3_append se_X3_append np_X3_append s_114 (by decide) (by decide) rfl (gc_i gc_0) (Nat.le_of_ble_eq_true rfl) (Nat.le_of_ble_eq_true rfl) (gRi_deep (show 20 ≤ 39 by decide) (hm J hP (wL L o) D)) ?_
    rintro v K2 ⟨hK2, hth, hv⟩
    refine g_istore (pc := 262) dL_law_262 (Nat.le_of_ble_eq_true rfl) rfl ?_
    refine g_aload_n (pc := 264) dL_law_264 rfl rfl ?_
    refine g_fV (av := []) (pc := 265) dL_law_265 mt_X3_thrown lk_L_144 im_X3_thrown se_X3_thrown np_X3_thrown s_114 (by decide) (by decide) rfl gc_0 (Nat.le_of_ble_eq_true rfl) (Nat.le_of_ble_eq_true rfl) ⟨Nat.zero_le _, Nat.zero_le _⟩ m_X3_thrown ?_
    rw [hth]
    refine g_iload (pc := 268) dL_law_268 rfl ?_
    refine g_icmp_eqN (tgt := 275) (pc := 270) dL_law_270 (by decide) (by omega) (by omega) (fun c270 => ?_) (fun c270 => ?_)
    rotate_left
    · exact absurd rfl c270
    refine g_iload (pc := 275) dL_law_275 rfl ?_
    refine g_if_neN (tgt := 292) (pc := 277) dL_law_277 (by decide) (by omega) (fun c277 => ?_) (fun c277 => ?_)
    · refine g_goto (tgt := 2393) (pc := 292) dL_law_292 (by decide) ?_
      refine g_fg 6 (g_fg 7 ?_)
      exact g_bud (by omega) (by omega) (kn _ _ _ hK2)
    · obtain ⟨w, rfl⟩ := cd_0 c277
      have hvw := hv w rfl
      subst hvw
      refine g_aload_n (pc := 280) dL_law_280 rfl rfl ?_
      refine g_iconst (v := nI 0) (pc := 281) dL_law_281 rfl ?_
      refine g_laload (pc := 282) dL_law_282 s_131 (by decide) (vp_in_nI (by decide) (by decide)) ?_
      rw [wL_at]
      refine g_iload (pc := 283) dL_law_283 rfl ?_
      refine g_i2l (pc := 285) dL_law_285 ?_
      refine g_lcmp (pc := 286) dL_law_286 ?_
      refine g_if_eq (tgt := 292) (pc := 287) dL_law_287 (by decide) (fun c287 => ?_) (fun c287 => ?_)
      · refine g_goto (tgt := 2393) (pc := 292) dL_law_292 (by decide) ?_
        refine g_fg 6 (g_fg 7 ?_)
        exact g_bud (by omega) (by omega) (kn _ _ _ hK2)
      · exact absurd ((lg_cmp_eq _ _).mpr rfl) c287
  · obtain ⟨J, ⟨q1, -⟩, -⟩ := q
    cases q1
theorem lc_store (hR0 : Rel I) {k : Nat} (hk : 4 * k + 4 ≤ n) (hn : n ≤ 2048) {kc ks : Nat} {Q : gQ} (kn : ∀ J L2 D2, Rel J → gGo G gYlaw 40 2393 [some (.ref 0), some (.ref 3), some (.ref 114), some (.ref 131), some (.ref 132), some (.int (nI (4 * k))), none, none, none] [] (hp n J L2 D2) kc ks Q) : gGo G gYlaw 40 295 [some (.ref 0), some (.ref 3), some (.ref 114), some (.ref 131), some (.ref 132), some (.int (nI (4 * k))), none, none, none] [] (hp n I L D) (kc + 1) (ks + 6) Q := by
  obtain ⟨V, C, H, m, T, t, e, K, l, Ls, hR⟩ := hR0
  obtain ⟨o, P, ho, hx, hm⟩ := b_store (G := G) (n := n) hR 
  have hcd := cd_lt ho (by decide)
  refine g_aload_n (pc := 295) dL_law_295 rfl rfl ?_
  refine g_aload_n (pc := 296) dL_law_296 rfl rfl ?_
  refine g_callH (av := [.ref 3, .ref 131]) (st := []) (pc := 297) dL_law_297 mh_L_store lk_L_147p sf_L_store rfl np_L_store (gc_r (gc_r gc_0)) (Nat.le_of_ble_eq_true rfl) (Nat.le_of_ble_eq_true rfl) ⟨Nat.le_add_left 1 _, Nat.le_add_left 6 _⟩ (g_deep (show 21 ≤ 39 by decide) (w_store ho (hx L D))) (fun v' h9 _ q => ?_) (fun X h9 q => ?_)
  · obtain ⟨J, ⟨q1, rfl⟩, hP⟩ := q
    cases q1
    refine g_istore (pc := 300) dL_law_300 (Nat.le_of_ble_eq_true rfl) rfl ?_
    refine g_aload_n (pc := 302) dL_law_302 rfl rfl ?_
    refine g_riV (av := []) (pc := 303) dL_law_303 mt_X3_store lk_L_150 im_X3_store se_X3_store np_X3_store s_114 (by decide) (by decide) rfl gc_0 (Nat.le_of_ble_eq_true rfl) (Nat.le_of_ble_eq_true rfl) (gRi_deep (show 20 ≤ 39 by decide) (hm J hP (wL L o) D)) ?_
    rintro v K2 ⟨hK2, hth, hv⟩
    refine g_istore (pc := 306) dL_law_306 (Nat.le_of_ble_eq_true rfl) rfl ?_
    refine g_aload_n (pc := 308) dL_law_308 rfl rfl ?_
    refine g_fV (av := []) (pc := 309) dL_law_309 mt_X3_thrown lk_L_144 im_X3_thrown se_X3_thrown np_X3_thrown s_114 (by decide) (by decide) rfl gc_0 (Nat.le_of_ble_eq_true rfl) (Nat.le_of_ble_eq_true rfl) ⟨Nat.zero_le _, Nat.zero_le _⟩ m_X3_thrown ?_
    rw [hth]
    refine g_iload (pc := 312) dL_law_312 rfl ?_
    refine g_icmp_eqN (tgt := 319) (pc := 314) dL_law_314 (by decide) (by omega) (by omega) (fun c314 => ?_) (fun c314 => ?_)
    rotate_left
    · exact absurd rfl c314
    refine g_iload (pc := 319) dL_law_319 rfl ?_
    refine g_if_neN (tgt := 336) (pc := 321) dL_law_321 (by decide) (by omega) (fun c321 => ?_) (fun c321 => ?_)
    · refine g_goto (tgt := 2393) (pc := 336) dL_law_336 (by decide) ?_
      refine g_fg 6 (g_fg 7 ?_)
      exact g_bud (by omega) (by omega) (kn _ _ _ hK2)
    · obtain ⟨w, rfl⟩ := cd_0 c321
      have hvw := hv w rfl
      subst hvw
      refine g_aload_n (pc := 324) dL_law_324 rfl rfl ?_
      refine g_iconst (v := nI 0) (pc := 325) dL_law_325 rfl ?_
      refine g_laload (pc := 326) dL_law_326 s_131 (by decide) (vp_in_nI (by decide) (by decide)) ?_
      rw [wL_at]
      refine g_iload (pc := 327) dL_law_327 rfl ?_
      refine g_i2l (pc := 329) dL_law_329 ?_
      refine g_lcmp (pc := 330) dL_law_330 ?_
      refine g_if_eq (tgt := 336) (pc := 331) dL_law_331 (by decide) (fun c331 => ?_) (fun c331 => ?_)
      · refine g_goto (tgt := 2393) (pc := 336) dL_law_336 (by decide) ?_
        refine g_fg 6 (g_fg 7 ?_)
        exact g_bud (by omega) (by omega) (kn _ _ _ hK2)
      · exact absurd ((lg_cmp_eq _ _).mpr rfl) c331
  · obtain ⟨J, ⟨q1, -⟩, -⟩ := q
    cases q1
theorem lc_errorPosition (hR0 : Rel I) {k : Nat} (hk : 4 * k + 4 ≤ n) (hn : n ≤ 2048) {kc ks : Nat} {Q : gQ} (kn : ∀ J L2 D2, Rel J → gGo G gYlaw 40 2393 [some (.ref 0), some (.ref 3), some (.ref 114), some (.ref 131), some (.ref 132), some (.int (nI (4 * k))), none, none, none] [] (hp n J L2 D2) kc ks Q) : gGo G gYlaw 40 339 [some (.ref 0), some (.ref 3), some (.ref 114), some (.ref 131), some (.ref 132), some (.int (nI (4 * k))), none, none, none] [] (hp n I L D) (kc + 1) (ks + 6) Q := by
  obtain ⟨V, C, H, m, T, t, e, K, l, Ls, hR⟩ := hR0
  obtain ⟨o, P, ho, hx, hm⟩ := b_errorPosition (G := G) (n := n) hR 
  have hcd := cd_lt ho (by decide)
  refine g_aload_n (pc := 339) dL_law_339 rfl rfl ?_
  refine g_aload_n (pc := 340) dL_law_340 rfl rfl ?_
  refine g_callH (av := [.ref 3, .ref 131]) (st := []) (pc := 341) dL_law_341 mh_L_errorPosition lk_L_151p sf_L_errorPosition rfl np_L_errorPosition (gc_r (gc_r gc_0)) (Nat.le_of_ble_eq_true rfl) (Nat.le_of_ble_eq_true rfl) ⟨Nat.le_add_left 1 _, Nat.le_add_left 6 _⟩ (g_deep (show 21 ≤ 39 by decide) (w_errorPosition ho (hx L D))) (fun v' h9 _ q => ?_) (fun X h9 q => ?_)
  · obtain ⟨J, ⟨q1, rfl⟩, hP⟩ := q
    cases q1
    refine g_istore (pc := 344) dL_law_344 (Nat.le_of_ble_eq_true rfl) rfl ?_
    refine g_aload_n (pc := 346) dL_law_346 rfl rfl ?_
    refine g_riV (av := []) (pc := 347) dL_law_347 mt_X3_errorPosition lk_L_153 im_X3_errorPosition se_X3_errorPosition np_X3_errorPosition s_114 (by decide) (by decide) rfl gc_0 (Nat.le_of_ble_eq_true rfl) (Nat.le_of_ble_eq_true rfl) (gRi_deep (show 20 ≤ 39 by decide) (hm J hP (wL L o) D)) ?_
    rintro v K2 ⟨hK2, hth, hv⟩
    refine g_istore (pc := 350) dL_law_350 (Nat.le_of_ble_eq_true rfl) rfl ?_
    refine g_aload_n (pc := 352) dL_law_352 rfl rfl ?_
    refine g_fV (av := []) (pc := 353) dL_law_353 mt_X3_thrown lk_L_144 im_X3_thrown se_X3_thrown np_X3_thrown s_114 (by decide) (by decide) rfl gc_0 (Nat.le_of_ble_eq_true rfl) (Nat.le_of_ble_eq_true rfl) ⟨Nat.zero_le _, Nat.zero_le _⟩ m_X3_thrown ?_
    rw [hth]
    refine g_iload (pc := 356) dL_law_356 rfl ?_
    refine g_icmp_eqN (tgt := 363) (pc := 358) dL_law_358 (by decide) (by omega) (by omega) (fun c358 => ?_) (fun c358 => ?_)
    rotate_left
    · exact absurd rfl c358
    refine g_iload (pc := 363) dL_law_363 rfl ?_
    refine g_if_neN (tgt := 380) (pc := 365) dL_law_365 (by decide) (by omega) (fun c365 => ?_) (fun c365 => ?_)
    · refine g_goto (tgt := 2393) (pc := 380) dL_law_380 (by decide) ?_
      refine g_fg 6 (g_fg 7 ?_)
      exact g_bud (by omega) (by omega) (kn _ _ _ hK2)
    · obtain ⟨w, rfl⟩ := cd_0 c365
      have hvw := hv w rfl
      subst hvw
      refine g_aload_n (pc := 368) dL_law_368 rfl rfl ?_
      refine g_iconst (v := nI 0) (pc := 369) dL_law_369 rfl ?_
      refine g_laload (pc := 370) dL_law_370 s_131 (by decide) (vp_in_nI (by decide) (by decide)) ?_
      rw [wL_at]
      refine g_iload (pc := 371) dL_law_371 rfl ?_
      refine g_i2l (pc := 373) dL_law_373 ?_
      refine g_lcmp (pc := 374) dL_law_374 ?_
      refine g_if_eq (tgt := 380) (pc := 375) dL_law_375 (by decide) (fun c375 => ?_) (fun c375 => ?_)
      · refine g_goto (tgt := 2393) (pc := 380) dL_law_380 (by decide) ?_
        refine g_fg 6 (g_fg 7 ?_)
        exact g_bud (by omega) (by omega) (kn _ _ _ hK2)
      · exact absurd ((lg_cmp_eq _ _).mpr rfl) c375
  · obtain ⟨J, ⟨q1, -⟩, -⟩ := q
    cases q1
theorem lc_remove (hR0 : Rel I) {k : Nat} (hk : 4 * k + 4 ≤ n) (hn : n ≤ 2048) {kc ks : Nat} {Q : gQ} (kn : ∀ J L2 D2, Rel J → gGo G gYlaw 40 2393 [some (.ref 0), some (.ref 3), some (.ref 114), some (.ref 131), some (.ref 132), some (.int (nI (4 * k))), none, none, none] [] (hp n J L2 D2) kc ks Q) : gGo G gYlaw 40 383 [some (.ref 0), some (.ref 3), some (.ref 114), some (.ref 131), some (.ref 132), some (.int (nI (4 * k))), none, none, none] [] (hp n I L D) (kc + 1) (ks + 6) Q := by
  obtain ⟨V, C, H, m, T, t, e, K, l, Ls, hR⟩ := hR0
  obtain ⟨o, P, ho, hx, hm⟩ := b_remove (G := G) (n := n) hR (I 0 (4 * k + 1))
  have hcd := cd_lt ho (by decide)
  refine g_row (fun g0 => ?_)
  refine g_aload_n (pc := 383) dL_law_383 rfl rfl ?_
  refine g_aload_n (pc := 384) dL_law_384 rfl rfl ?_
  refine g_iload (pc := 385) dL_law_385 rfl ?_
  refine g_iconst (v := nI 1) (pc := 387) dL_law_387 rfl ?_
  refine g_iaddN (pc := 388) dL_law_388 ?_
  refine g_ialoadKN (pc := 389) dL_law_389 s_0 (by decide) (by omega) (by omega) rfl ?_
  refine g_aload_n (pc := 390) dL_law_390 rfl rfl ?_
  refine g_callH (av := [.ref 3, .int (I 0 (4 * k + 1)), .ref 131]) (st := []) (pc := 391) dL_law_391 mh_L_remove lk_L_154p sf_L_remove rfl np_L_remove (gc_r (gc_i (gc_r gc_0))) (Nat.le_of_ble_eq_true rfl) (Nat.le_of_ble_eq_true rfl) ⟨Nat.le_add_left 1 _, Nat.le_add_left 6 _⟩ (g_deep (show 21 ≤ 39 by decide) (w_remove ho (hx L D))) (fun v' h9 _ q => ?_) (fun X h9 q => ?_)
  · obtain ⟨J, ⟨q1, rfl⟩, hP⟩ := q
    cases q1
    refine g_row (fun g1 => ?_)
    have hJ0 : J 0 = I 0 := (g1 0 (by decide)).trans (g0 0 (by decide)).symm
    refine g_istore (pc := 394) dL_law_394 (Nat.le_of_ble_eq_true rfl) rfl ?_
    refine g_aload_n (pc := 396) dL_law_396 rfl rfl ?_
    refine g_aload_n (pc := 397) dL_law_397 rfl rfl ?_
    refine g_iload (pc := 398) dL_law_398 rfl ?_
    refine g_iconst (v := nI 1) (pc := 400) dL_law_400 rfl ?_
    refine g_iaddN (pc := 401) dL_law_401 ?_
    refine g_ialoadKN (pc := 402) dL_law_402 s_0 (by decide) (by omega) (by omega) (congrFun hJ0 (4 * k + 1)) ?_
    refine g_riV (av := [.int _]) (pc := 403) dL_law_403 mt_X3_remove lk_L_157 im_X3_remove se_X3_remove np_X3_remove s_114 (by decide) (by decide) rfl (gc_i gc_0) (Nat.le_of_ble_eq_true rfl) (Nat.le_of_ble_eq_true rfl) (gRi_deep (show 20 ≤ 39 by decide) (hm J hP (wL L o) D)) ?_
    rintro v K2 ⟨hK2, hth, hv⟩
    refine g_istore (pc := 406) dL_law_406 (Nat.le_of_ble_eq_true rfl) rfl ?_
    refine g_aload_n (pc := 408) dL_law_408 rfl rfl ?_
    refine g_fV (av := []) (pc := 409) dL_law_409 mt_X3_thrown lk_L_144 im_X3_thrown se_X3_thrown np_X3_thrown s_114 (by decide) (by decide) rfl gc_0 (Nat.le_of_ble_eq_true rfl) (Nat.le_of_ble_eq_true rfl) ⟨Nat.zero_le _, Nat.zero_le _⟩ m_X3_thrown ?_
    rw [hth]
    refine g_iload (pc := 412) dL_law_412 rfl ?_
    refine g_icmp_eqN (tgt := 419) (pc := 414) dL_law_414 (by decide) (by omega) (by omega) (fun c414 => ?_) (fun c414 => ?_)
    rotate_left
    · exact absurd rfl c414
    refine g_iload (pc := 419) dL_law_419 rfl ?_
    refine g_if_neN (tgt := 436) (pc := 421) dL_law_421 (by decide) (by omega) (fun c421 => ?_) (fun c421 => ?_)
    · refine g_goto (tgt := 2393) (pc := 436) dL_law_436 (by decide) ?_
      refine g_fg 6 (g_fg 7 ?_)
      exact g_bud (by omega) (by omega) (kn _ _ _ hK2)
    · obtain ⟨w, rfl⟩ := cd_0 c421
      have hvw := hv w rfl
      subst hvw
      refine g_aload_n (pc := 424) dL_law_424 rfl rfl ?_
      refine g_iconst (v := nI 0) (pc := 425) dL_law_425 rfl ?_
      refine g_laload (pc := 426) dL_law_426 s_131 (by decide) (vp_in_nI (by decide) (by decide)) ?_
      rw [wL_at]
      refine g_iload (pc := 427) dL_law_427 rfl ?_
      refine g_i2l (pc := 429) dL_law_429 ?_
      refine g_lcmp (pc := 430) dL_law_430 ?_
      refine g_if_eq (tgt := 436) (pc := 431) dL_law_431 (by decide) (fun c431 => ?_) (fun c431 => ?_)
      · refine g_goto (tgt := 2393) (pc := 436) dL_law_436 (by decide) ?_
        refine g_fg 6 (g_fg 7 ?_)
        exact g_bud (by omega) (by omega) (kn _ _ _ hK2)
      · exact absurd ((lg_cmp_eq _ _).mpr rfl) c431
  · obtain ⟨J, ⟨q1, -⟩, -⟩ := q
    cases q1
theorem lc_file (hR0 : Rel I) {k : Nat} (hk : 4 * k + 4 ≤ n) (hn : n ≤ 2048) {kc ks : Nat} {Q : gQ} (kn : ∀ J L2 D2, Rel J → gGo G gYlaw 40 2393 [some (.ref 0), some (.ref 3), some (.ref 114), some (.ref 131), some (.ref 132), some (.int (nI (4 * k))), none, none, none] [] (hp n J L2 D2) kc ks Q) : gGo G gYlaw 40 439 [some (.ref 0), some (.ref 3), some (.ref 114), some (.ref 131), some (.ref 132), some (.int (nI (4 * k))), none, none, none] [] (hp n I L D) (kc + 1) (ks + 6) Q := by
  obtain ⟨V, C, H, m, T, t, e, K, l, Ls, hR⟩ := hR0
  obtain ⟨o, P, ho, hx, hm⟩ := b_file (G := G) (n := n) hR (I 0 (4 * k + 1)) (I 0 (4 * k + 2))
  have hcd := cd_lt ho (by decide)
  refine g_row (fun g0 => ?_)
  refine g_aload_n (pc := 439) dL_law_439 rfl rfl ?_
  refine g_aload_n (pc := 440) dL_law_440 rfl rfl ?_
  refine g_iload (pc := 441) dL_law_441 rfl ?_
  refine g_iconst (v := nI 1) (pc := 443) dL_law_443 rfl ?_
  refine g_iaddN (pc := 444) dL_law_444 ?_
  refine g_ialoadKN (pc := 445) dL_law_445 s_0 (by decide) (by omega) (by omega) rfl ?_
  refine g_aload_n (pc := 446) dL_law_446 rfl rfl ?_
  refine g_iload (pc := 447) dL_law_447 rfl ?_
  refine g_iconst (v := nI 2) (pc := 449) dL_law_449 rfl ?_
  refine g_iaddN (pc := 450) dL_law_450 ?_
  refine g_ialoadKN (pc := 451) dL_law_451 s_0 (by decide) (by omega) (by omega) rfl ?_
  refine g_aload_n (pc := 452) dL_law_452 rfl rfl ?_
  refine g_callH (av := [.ref 3, .int (I 0 (4 * k + 1)), .int (I 0 (4 * k + 2)), .ref 131]) (st := []) (pc := 453) dL_law_453 mh_L_file lk_L_158p sf_L_file rfl np_L_file (gc_r (gc_i (gc_i (gc_r gc_0)))) (Nat.le_of_ble_eq_true rfl) (Nat.le_of_ble_eq_true rfl) ⟨Nat.le_add_left 1 _, Nat.le_add_left 6 _⟩ (g_deep (show 21 ≤ 39 by decide) (w_file ho (hx L D))) (fun v' h9 _ q => ?_) (fun X h9 q => ?_)
  · obtain ⟨J, ⟨q1, rfl⟩, hP⟩ := q
    cases q1
    refine g_row (fun g1 => ?_)
    have hJ0 : J 0 = I 0 := (g1 0 (by decide)).trans (g0 0 (by decide)).symm
    refine g_istore (pc := 456) dL_law_456 (Nat.le_of_ble_eq_true rfl) rfl ?_
    refine g_aload_n (pc := 458) dL_law_458 rfl rfl ?_
    refine g_aload_n (pc := 459) dL_law_459 rfl rfl ?_
    refine g_iload (pc := 460) dL_law_460 rfl ?_
    refine g_iconst (v := nI 1) (pc := 462) dL_law_462 rfl ?_
    refine g_iaddN (pc := 463) dL_law_463 ?_
    refine g_ialoadKN (pc := 464) dL_law_464 s_0 (by decide) (by omega) (by omega) (congrFun hJ0 (4 * k + 1)) ?_
    refine g_aload_n (pc := 465) dL_law_465 rfl rfl ?_
    refine g_iload (pc := 466) dL_law_466 rfl ?_
    refine g_iconst (v := nI 2) (pc := 468) dL_law_468 rfl ?_
    refine g_iaddN (pc := 469) dL_law_469 ?_
    refine g_ialoadKN (pc := 470) dL_law_470 s_0 (by decide) (by omega) (by omega) (congrFun hJ0 (4 * k + 2)) ?_
    refine g_riV (av := [.int _, .int _]) (pc := 471) dL_law_471 mt_X3_file lk_L_161 im_X3_file se_X3_file np_X3_file s_114 (by decide) (by decide) rfl (gc_i (gc_i gc_0)) (Nat.le_of_ble_eq_true rfl) (Nat.le_of_ble_eq_true rfl) (gRi_deep (show 20 ≤ 39 by decide) (hm J hP (wL L o) D)) ?_
    rintro v K2 ⟨hK2, hth, hv⟩
    refine g_istore (pc := 474) dL_law_474 (Nat.le_of_ble_eq_true rfl) rfl ?_
    refine g_aload_n (pc := 476) dL_law_476 rfl rfl ?_
    refine g_fV (av := []) (pc := 477) dL_law_477 mt_X3_thrown lk_L_144 im_X3_thrown se_X3_thrown np_X3_thrown s_114 (by decide) (by decide) rfl gc_0 (Nat.le_of_ble_eq_true rfl) (Nat.le_of_ble_eq_true rfl) ⟨Nat.zero_le _, Nat.zero_le _⟩ m_X3_thrown ?_
    rw [hth]
    refine g_iload (pc := 480) dL_law_480 rfl ?_
    refine g_icmp_eqN (tgt := 487) (pc := 482) dL_law_482 (by decide) (by omega) (by omega) (fun c482 => ?_) (fun c482 => ?_)
    rotate_left
    · exact absurd rfl c482
    refine g_iload (pc := 487) dL_law_487 rfl ?_
    refine g_if_neN (tgt := 504) (pc := 489) dL_law_489 (by decide) (by omega) (fun c489 => ?_) (fun c489 => ?_)
    · refine g_goto (tgt := 2393) (pc := 504) dL_law_504 (by decide) ?_
      refine g_fg 6 (g_fg 7 ?_)
      exact g_bud (by omega) (by omega) (kn _ _ _ hK2)
    · obtain ⟨w, rfl⟩ := cd_0 c489
      have hvw := hv w rfl
      subst hvw
      refine g_aload_n (pc := 492) dL_law_492 rfl rfl ?_
      refine g_iconst (v := nI 0) (pc := 493) dL_law_493 rfl ?_
      refine g_laload (pc := 494) dL_law_494 s_131 (by decide) (vp_in_nI (by decide) (by decide)) ?_
      rw [wL_at]
      refine g_iload (pc := 495) dL_law_495 rfl ?_
      refine g_i2l (pc := 497) dL_law_497 ?_
      refine g_lcmp (pc := 498) dL_law_498 ?_
      refine g_if_eq (tgt := 504) (pc := 499) dL_law_499 (by decide) (fun c499 => ?_) (fun c499 => ?_)
      · refine g_goto (tgt := 2393) (pc := 504) dL_law_504 (by decide) ?_
        refine g_fg 6 (g_fg 7 ?_)
        exact g_bud (by omega) (by omega) (kn _ _ _ hK2)
      · exact absurd ((lg_cmp_eq _ _).mpr rfl) c499
  · obtain ⟨J, ⟨q1, -⟩, -⟩ := q
    cases q1
theorem lc_files (hR0 : Rel I) {k : Nat} (hk : 4 * k + 4 ≤ n) (hn : n ≤ 2048) {kc ks : Nat} {Q : gQ} (kn : ∀ J L2 D2, Rel J → gGo G gYlaw 40 2393 [some (.ref 0), some (.ref 3), some (.ref 114), some (.ref 131), some (.ref 132), some (.int (nI (4 * k))), none, none, none] [] (hp n J L2 D2) kc ks Q) : gGo G gYlaw 40 507 [some (.ref 0), some (.ref 3), some (.ref 114), some (.ref 131), some (.ref 132), some (.int (nI (4 * k))), none, none, none] [] (hp n I L D) (kc + 1) (ks + 6) Q := by
  obtain ⟨V, C, H, m, T, t, e, K, l, Ls, hR⟩ := hR0
  obtain ⟨o, P, ho, hx, hm⟩ := b_files (G := G) (n := n) hR
  refine g_aload_n (pc := 507) dL_law_507 rfl rfl ?_
  refine g_callV (av := []) (st := []) (ci := 2) (pc := 508) dL_law_508 mt_X2_files lk_L_162 im_X2_files se_X2_files (by decide) s_3 (by decide) rfl np_X2_files gc_0 (Nat.le_of_ble_eq_true rfl) (Nat.le_of_ble_eq_true rfl) ⟨Nat.le_add_left 1 _, Nat.le_add_left 6 _⟩ (g_deep (show 20 ≤ 39 by decide) (hx L D)) (fun v' h9 _ q => ?_) (fun X h9 q => ?_)
  · obtain ⟨J, ⟨q1, rfl⟩, hP⟩ := q
    cases o with
    | inr z => exact absurd (ho z rfl) (Nat.not_lt_zero z)
    | inl w =>
      have q2 : (Sum.inl v' : Option Value ⊕ String) = .inl (some (.int w)) := q1
      cases q2
      refine g_aload_n (pc := 511) dL_law_511 rfl rfl ?_
      refine g_riV (av := []) (pc := 512) dL_law_512 mt_X3_files lk_L_165 im_X3_files se_X3_files np_X3_files s_114 (by decide) (by decide) rfl gc_0 (Nat.le_of_ble_eq_true rfl) (Nat.le_of_ble_eq_true rfl) (gRi_deep (show 20 ≤ 39 by decide) (hm J hP L D)) ?_
      rintro v K2 ⟨hK2, hth, hv⟩
      refine g_icmp_eq (tgt := 2393) (pc := 515) dL_law_515 (by decide) (fun c515 => ?_) (fun c515 => ?_)
      rotate_left
      · exact absurd (hv w rfl).symm c515
      exact g_bud (by omega) (by omega) (kn _ _ _ hK2)
  · obtain ⟨J, ⟨q1, -⟩, -⟩ := q
    cases o with
    | inr z => exact absurd (ho z rfl) (Nat.not_lt_zero z)
    | inl w =>
      have q2 : (Sum.inr X : Option Value ⊕ String) = .inl (some (.int w)) := q1
      cases q2
theorem lc_cellOf (hR0 : Rel I) {k : Nat} (hk : 4 * k + 4 ≤ n) (hn : n ≤ 2048) {kc ks : Nat} {Q : gQ} (kn : ∀ J L2 D2, Rel J → gGo G gYlaw 40 2393 [some (.ref 0), some (.ref 3), some (.ref 114), some (.ref 131), some (.ref 132), some (.int (nI (4 * k))), none, none, none] [] (hp n J L2 D2) kc ks Q) : gGo G gYlaw 40 520 [some (.ref 0), some (.ref 3), some (.ref 114), some (.ref 131), some (.ref 132), some (.int (nI (4 * k))), none, none, none] [] (hp n I L D) (kc + 1) (ks + 6) Q := by
  obtain ⟨V, C, H, m, T, t, e, K, l, Ls, hR⟩ := hR0
  obtain ⟨o, P, ho, hx, hm⟩ := b_cellOf (G := G) (n := n) hR (I 0 (4 * k + 1)) (I 0 (4 * k + 2)) (I 0 (4 * k + 3))
  have hcd := cd_lt ho (by decide)
  refine g_row (fun g0 => ?_)
  refine g_aload_n (pc := 520) dL_law_520 rfl rfl ?_
  refine g_aload_n (pc := 521) dL_law_521 rfl rfl ?_
  refine g_iload (pc := 522) dL_law_522 rfl ?_
  refine g_iconst (v := nI 1) (pc := 524) dL_law_524 rfl ?_
  refine g_iaddN (pc := 525) dL_law_525 ?_
  refine g_ialoadKN (pc := 526) dL_law_526 s_0 (by decide) (by omega) (by omega) rfl ?_
  refine g_aload_n (pc := 527) dL_law_527 rfl rfl ?_
  refine g_iload (pc := 528) dL_law_528 rfl ?_
  refine g_iconst (v := nI 2) (pc := 530) dL_law_530 rfl ?_
  refine g_iaddN (pc := 531) dL_law_531 ?_
  refine g_ialoadKN (pc := 532) dL_law_532 s_0 (by decide) (by omega) (by omega) rfl ?_
  refine g_aload_n (pc := 533) dL_law_533 rfl rfl ?_
  refine g_iload (pc := 534) dL_law_534 rfl ?_
  refine g_iconst (v := nI 3) (pc := 536) dL_law_536 rfl ?_
  refine g_iaddN (pc := 537) dL_law_537 ?_
  refine g_ialoadKN (pc := 538) dL_law_538 s_0 (by decide) (by omega) (by omega) rfl ?_
  refine g_aload_n (pc := 539) dL_law_539 rfl rfl ?_
  refine g_callH (av := [.ref 3, .int (I 0 (4 * k + 1)), .int (I 0 (4 * k + 2)), .int (I 0 (4 * k + 3)), .ref 131]) (st := []) (pc := 540) dL_law_540 mh_L_cellOf lk_L_166p sf_L_cellOf rfl np_L_cellOf (gc_r (gc_i (gc_i (gc_i (gc_r gc_0))))) (Nat.le_of_ble_eq_true rfl) (Nat.le_of_ble_eq_true rfl) ⟨Nat.le_add_left 1 _, Nat.le_add_left 6 _⟩ (g_deep (show 21 ≤ 39 by decide) (w_cellOf ho (hx L D))) (fun v' h9 _ q => ?_) (fun X h9 q => ?_)
  · obtain ⟨J, ⟨q1, rfl⟩, hP⟩ := q
    cases q1
    refine g_row (fun g1 => ?_)
    have hJ0 : J 0 = I 0 := (g1 0 (by decide)).trans (g0 0 (by decide)).symm
    refine g_istore (pc := 543) dL_law_543 (Nat.le_of_ble_eq_true rfl) rfl ?_
    refine g_aload_n (pc := 545) dL_law_545 rfl rfl ?_
    refine g_aload_n (pc := 546) dL_law_546 rfl rfl ?_
    refine g_iload (pc := 547) dL_law_547 rfl ?_
    refine g_iconst (v := nI 1) (pc := 549) dL_law_549 rfl ?_
    refine g_iaddN (pc := 550) dL_law_550 ?_
    refine g_ialoadKN (pc := 551) dL_law_551 s_0 (by decide) (by omega) (by omega) (congrFun hJ0 (4 * k + 1)) ?_
    refine g_aload_n (pc := 552) dL_law_552 rfl rfl ?_
    refine g_iload (pc := 553) dL_law_553 rfl ?_
    refine g_iconst (v := nI 2) (pc := 555) dL_law_555 rfl ?_
    refine g_iaddN (pc := 556) dL_law_556 ?_
    refine g_ialoadKN (pc := 557) dL_law_557 s_0 (by decide) (by omega) (by omega) (congrFun hJ0 (4 * k + 2)) ?_
    refine g_aload_n (pc := 558) dL_law_558 rfl rfl ?_
    refine g_iload (pc := 559) dL_law_559 rfl ?_
    refine g_iconst (v := nI 3) (pc := 561) dL_law_561 rfl ?_
    refine g_iaddN (pc := 562) dL_law_562 ?_
    refine g_ialoadKN (pc := 563) dL_law_563 s_0 (by decide) (by omega) (by omega) (congrFun hJ0 (4 * k + 3)) ?_
    refine g_riV (av := [.int _, .int _, .int _]) (pc := 564) dL_law_564 mt_X3_cellOf lk_L_169 im_X3_cellOf se_X3_cellOf np_X3_cellOf s_114 (by decide) (by decide) rfl (gc_i (gc_i (gc_i gc_0))) (Nat.le_of_ble_eq_true rfl) (Nat.le_of_ble_eq_true rfl) (gRi_deep (show 20 ≤ 39 by decide) (hm J hP (wL L o) D)) ?_
    rintro v K2 ⟨hK2, hth, hv⟩
    refine g_istore (pc := 567) dL_law_567 (Nat.le_of_ble_eq_true rfl) rfl ?_
    refine g_aload_n (pc := 569) dL_law_569 rfl rfl ?_
    refine g_fV (av := []) (pc := 570) dL_law_570 mt_X3_thrown lk_L_144 im_X3_thrown se_X3_thrown np_X3_thrown s_114 (by decide) (by decide) rfl gc_0 (Nat.le_of_ble_eq_true rfl) (Nat.le_of_ble_eq_true rfl) ⟨Nat.zero_le _, Nat.zero_le _⟩ m_X3_thrown ?_
    rw [hth]
    refine g_iload (pc := 573) dL_law_573 rfl ?_
    refine g_icmp_eqN (tgt := 580) (pc := 575) dL_law_575 (by decide) (by omega) (by omega) (fun c575 => ?_) (fun c575 => ?_)
    rotate_left
    · exact absurd rfl c575
    refine g_iload (pc := 580) dL_law_580 rfl ?_
    refine g_if_neN (tgt := 597) (pc := 582) dL_law_582 (by decide) (by omega) (fun c582 => ?_) (fun c582 => ?_)
    · refine g_goto (tgt := 2393) (pc := 597) dL_law_597 (by decide) ?_
      refine g_fg 6 (g_fg 7 ?_)
      exact g_bud (by omega) (by omega) (kn _ _ _ hK2)
    · obtain ⟨w, rfl⟩ := cd_0 c582
      have hvw := hv w rfl
      subst hvw
      refine g_aload_n (pc := 585) dL_law_585 rfl rfl ?_
      refine g_iconst (v := nI 0) (pc := 586) dL_law_586 rfl ?_
      refine g_laload (pc := 587) dL_law_587 s_131 (by decide) (vp_in_nI (by decide) (by decide)) ?_
      rw [wL_at]
      refine g_iload (pc := 588) dL_law_588 rfl ?_
      refine g_i2l (pc := 590) dL_law_590 ?_
      refine g_lcmp (pc := 591) dL_law_591 ?_
      refine g_if_eq (tgt := 597) (pc := 592) dL_law_592 (by decide) (fun c592 => ?_) (fun c592 => ?_)
      · refine g_goto (tgt := 2393) (pc := 597) dL_law_597 (by decide) ?_
        refine g_fg 6 (g_fg 7 ?_)
        exact g_bud (by omega) (by omega) (kn _ _ _ hK2)
      · exact absurd ((lg_cmp_eq _ _).mpr rfl) c592
  · obtain ⟨J, ⟨q1, -⟩, -⟩ := q
    cases q1
theorem lc_owner (hR0 : Rel I) {k : Nat} (hk : 4 * k + 4 ≤ n) (hn : n ≤ 2048) {kc ks : Nat} {Q : gQ} (kn : ∀ J L2 D2, Rel J → gGo G gYlaw 40 2393 [some (.ref 0), some (.ref 3), some (.ref 114), some (.ref 131), some (.ref 132), some (.int (nI (4 * k))), none, none, none] [] (hp n J L2 D2) kc ks Q) : gGo G gYlaw 40 600 [some (.ref 0), some (.ref 3), some (.ref 114), some (.ref 131), some (.ref 132), some (.int (nI (4 * k))), none, none, none] [] (hp n I L D) (kc + 1) (ks + 6) Q := by
  obtain ⟨V, C, H, m, T, t, e, K, l, Ls, hR⟩ := hR0
  obtain ⟨o, P, ho, hx, hm⟩ := b_owner (G := G) (n := n) hR (I 0 (4 * k + 1))
  have hcd := cd_lt ho (by decide)
  refine g_row (fun g0 => ?_)
  refine g_aload_n (pc := 600) dL_law_600 rfl rfl ?_
  refine g_aload_n (pc := 601) dL_law_601 rfl rfl ?_
  refine g_iload (pc := 602) dL_law_602 rfl ?_
  refine g_iconst (v := nI 1) (pc := 604) dL_law_604 rfl ?_
  refine g_iaddN (pc := 605) dL_law_605 ?_
  refine g_ialoadKN (pc := 606) dL_law_606 s_0 (by decide) (by omega) (by omega) rfl ?_
  refine g_aload_n (pc := 607) dL_law_607 rfl rfl ?_
  refine g_callH (av := [.ref 3, .int (I 0 (4 * k + 1)), .ref 131]) (st := []) (pc := 608) dL_law_608 mh_L_owner lk_L_170p sf_L_owner rfl np_L_owner (gc_r (gc_i (gc_r gc_0))) (Nat.le_of_ble_eq_true rfl) (Nat.le_of_ble_eq_true rfl) ⟨Nat.le_add_left 1 _, Nat.le_add_left 6 _⟩ (g_deep (show 21 ≤ 39 by decide) (w_owner ho (hx L D))) (fun v' h9 _ q => ?_) (fun X h9 q => ?_)
  · obtain ⟨J, ⟨q1, rfl⟩, hP⟩ := q
    cases q1
    refine g_row (fun g1 => ?_)
    have hJ0 : J 0 = I 0 := (g1 0 (by decide)).trans (g0 0 (by decide)).symm
    refine g_istore (pc := 611) dL_law_611 (Nat.le_of_ble_eq_true rfl) rfl ?_
    refine g_aload_n (pc := 613) dL_law_613 rfl rfl ?_
    refine g_aload_n (pc := 614) dL_law_614 rfl rfl ?_
    refine g_iload (pc := 615) dL_law_615 rfl ?_
    refine g_iconst (v := nI 1) (pc := 617) dL_law_617 rfl ?_
    refine g_iaddN (pc := 618) dL_law_618 ?_
    refine g_ialoadKN (pc := 619) dL_law_619 s_0 (by decide) (by omega) (by omega) (congrFun hJ0 (4 * k + 1)) ?_
    refine g_riV (av := [.int _]) (pc := 620) dL_law_620 mt_X3_owner lk_L_172 im_X3_owner se_X3_owner np_X3_owner s_114 (by decide) (by decide) rfl (gc_i gc_0) (Nat.le_of_ble_eq_true rfl) (Nat.le_of_ble_eq_true rfl) (gRi_deep (show 20 ≤ 39 by decide) (hm J hP (wL L o) D)) ?_
    rintro v K2 ⟨hK2, hth, hv⟩
    refine g_istore (pc := 623) dL_law_623 (Nat.le_of_ble_eq_true rfl) rfl ?_
    refine g_aload_n (pc := 625) dL_law_625 rfl rfl ?_
    refine g_fV (av := []) (pc := 626) dL_law_626 mt_X3_thrown lk_L_144 im_X3_thrown se_X3_thrown np_X3_thrown s_114 (by decide) (by decide) rfl gc_0 (Nat.le_of_ble_eq_true rfl) (Nat.le_of_ble_eq_true rfl) ⟨Nat.zero_le _, Nat.zero_le _⟩ m_X3_thrown ?_
    rw [hth]
    refine g_iload (pc := 629) dL_law_629 rfl ?_
    refine g_icmp_eqN (tgt := 636) (pc := 631) dL_law_631 (by decide) (by omega) (by omega) (fun c631 => ?_) (fun c631 => ?_)
    rotate_left
    · exact absurd rfl c631
    refine g_iload (pc := 636) dL_law_636 rfl ?_
    refine g_if_neN (tgt := 653) (pc := 638) dL_law_638 (by decide) (by omega) (fun c638 => ?_) (fun c638 => ?_)
    · refine g_goto (tgt := 2393) (pc := 653) dL_law_653 (by decide) ?_
      refine g_fg 6 (g_fg 7 ?_)
      exact g_bud (by omega) (by omega) (kn _ _ _ hK2)
    · obtain ⟨w, rfl⟩ := cd_0 c638
      have hvw := hv w rfl
      subst hvw
      refine g_aload_n (pc := 641) dL_law_641 rfl rfl ?_
      refine g_iconst (v := nI 0) (pc := 642) dL_law_642 rfl ?_
      refine g_laload (pc := 643) dL_law_643 s_131 (by decide) (vp_in_nI (by decide) (by decide)) ?_
      rw [wL_at]
      refine g_iload (pc := 644) dL_law_644 rfl ?_
      refine g_i2l (pc := 646) dL_law_646 ?_
      refine g_lcmp (pc := 647) dL_law_647 ?_
      refine g_if_eq (tgt := 653) (pc := 648) dL_law_648 (by decide) (fun c648 => ?_) (fun c648 => ?_)
      · refine g_goto (tgt := 2393) (pc := 653) dL_law_653 (by decide) ?_
        refine g_fg 6 (g_fg 7 ?_)
        exact g_bud (by omega) (by omega) (kn _ _ _ hK2)
      · exact absurd ((lg_cmp_eq _ _).mpr rfl) c648
  · obtain ⟨J, ⟨q1, -⟩, -⟩ := q
    cases q1
theorem lc_placeOf (hR0 : Rel I) {k : Nat} (hk : 4 * k + 4 ≤ n) (hn : n ≤ 2048) {kc ks : Nat} {Q : gQ} (kn : ∀ J L2 D2, Rel J → gGo G gYlaw 40 2393 [some (.ref 0), some (.ref 3), some (.ref 114), some (.ref 131), some (.ref 132), some (.int (nI (4 * k))), none, none, none] [] (hp n J L2 D2) kc ks Q) : gGo G gYlaw 40 656 [some (.ref 0), some (.ref 3), some (.ref 114), some (.ref 131), some (.ref 132), some (.int (nI (4 * k))), none, none, none] [] (hp n I L D) (kc + 1) (ks + 6) Q := by
  obtain ⟨V, C, H, m, T, t, e, K, l, Ls, hR⟩ := hR0
  obtain ⟨o, P, ho, hx, hm⟩ := b_placeOf (G := G) (n := n) hR (I 0 (4 * k + 1))
  have hcd := cd_lt ho (by decide)
  refine g_row (fun g0 => ?_)
  refine g_aload_n (pc := 656) dL_law_656 rfl rfl ?_
  refine g_aload_n (pc := 657) dL_law_657 rfl rfl ?_
  refine g_iload (pc := 658) dL_law_658 rfl ?_
  refine g_iconst (v := nI 1) (pc := 660) dL_law_660 rfl ?_
  refine g_iaddN (pc := 661) dL_law_661 ?_
  refine g_ialoadKN (pc := 662) dL_law_662 s_0 (by decide) (by omega) (by omega) rfl ?_
  refine g_aload_n (pc := 663) dL_law_663 rfl rfl ?_
  refine g_callH (av := [.ref 3, .int (I 0 (4 * k + 1)), .ref 131]) (st := []) (pc := 664) dL_law_664 mh_L_placeOf lk_L_173p sf_L_placeOf rfl np_L_placeOf (gc_r (gc_i (gc_r gc_0))) (Nat.le_of_ble_eq_true rfl) (Nat.le_of_ble_eq_true rfl) ⟨Nat.le_add_left 1 _, Nat.le_add_left 6 _⟩ (g_deep (show 21 ≤ 39 by decide) (w_placeOf ho (hx L D))) (fun v' h9 _ q => ?_) (fun X h9 q => ?_)
  · obtain ⟨J, ⟨q1, rfl⟩, hP⟩ := q
    cases q1
    refine g_row (fun g1 => ?_)
    have hJ0 : J 0 = I 0 := (g1 0 (by decide)).trans (g0 0 (by decide)).symm
    refine g_istore (pc := 667) dL_law_667 (Nat.le_of_ble_eq_true rfl) rfl ?_
    refine g_aload_n (pc := 669) dL_law_669 rfl rfl ?_
    refine g_aload_n (pc := 670) dL_law_670 rfl rfl ?_
    refine g_iload (pc := 671) dL_law_671 rfl ?_
    refine g_iconst (v := nI 1) (pc := 673) dL_law_673 rfl ?_
    refine g_iaddN (pc := 674) dL_law_674 ?_
    refine g_ialoadKN (pc := 675) dL_law_675 s_0 (by decide) (by omega) (by omega) (congrFun hJ0 (4 * k + 1)) ?_
    refine g_riV (av := [.int _]) (pc := 676) dL_law_676 mt_X3_placeOf lk_L_175 im_X3_placeOf se_X3_placeOf np_X3_placeOf s_114 (by decide) (by decide) rfl (gc_i gc_0) (Nat.le_of_ble_eq_true rfl) (Nat.le_of_ble_eq_true rfl) (gRi_deep (show 20 ≤ 39 by decide) (hm J hP (wL L o) D)) ?_
    rintro v K2 ⟨hK2, hth, hv⟩
    refine g_istore (pc := 679) dL_law_679 (Nat.le_of_ble_eq_true rfl) rfl ?_
    refine g_aload_n (pc := 681) dL_law_681 rfl rfl ?_
    refine g_fV (av := []) (pc := 682) dL_law_682 mt_X3_thrown lk_L_144 im_X3_thrown se_X3_thrown np_X3_thrown s_114 (by decide) (by decide) rfl gc_0 (Nat.le_of_ble_eq_true rfl) (Nat.le_of_ble_eq_true rfl) ⟨Nat.zero_le _, Nat.zero_le _⟩ m_X3_thrown ?_
    rw [hth]
    refine g_iload (pc := 685) dL_law_685 rfl ?_
    refine g_icmp_eqN (tgt := 692) (pc := 687) dL_law_687 (by decide) (by omega) (by omega) (fun c687 => ?_) (fun c687 => ?_)
    rotate_left
    · exact absurd rfl c687
    refine g_iload (pc := 692) dL_law_692 rfl ?_
    refine g_if_neN (tgt := 709) (pc := 694) dL_law_694 (by decide) (by omega) (fun c694 => ?_) (fun c694 => ?_)
    · refine g_goto (tgt := 2393) (pc := 709) dL_law_709 (by decide) ?_
      refine g_fg 6 (g_fg 7 ?_)
      exact g_bud (by omega) (by omega) (kn _ _ _ hK2)
    · obtain ⟨w, rfl⟩ := cd_0 c694
      have hvw := hv w rfl
      subst hvw
      refine g_aload_n (pc := 697) dL_law_697 rfl rfl ?_
      refine g_iconst (v := nI 0) (pc := 698) dL_law_698 rfl ?_
      refine g_laload (pc := 699) dL_law_699 s_131 (by decide) (vp_in_nI (by decide) (by decide)) ?_
      rw [wL_at]
      refine g_iload (pc := 700) dL_law_700 rfl ?_
      refine g_i2l (pc := 702) dL_law_702 ?_
      refine g_lcmp (pc := 703) dL_law_703 ?_
      refine g_if_eq (tgt := 709) (pc := 704) dL_law_704 (by decide) (fun c704 => ?_) (fun c704 => ?_)
      · refine g_goto (tgt := 2393) (pc := 709) dL_law_709 (by decide) ?_
        refine g_fg 6 (g_fg 7 ?_)
        exact g_bud (by omega) (by omega) (kn _ _ _ hK2)
      · exact absurd ((lg_cmp_eq _ _).mpr rfl) c704
  · obtain ⟨J, ⟨q1, -⟩, -⟩ := q
    cases q1
theorem lc_room (hR0 : Rel I) {k : Nat} (hk : 4 * k + 4 ≤ n) (hn : n ≤ 2048) {kc ks : Nat} {Q : gQ} (kn : ∀ J L2 D2, Rel J → gGo G gYlaw 40 2393 [some (.ref 0), some (.ref 3), some (.ref 114), some (.ref 131), some (.ref 132), some (.int (nI (4 * k))), none, none, none] [] (hp n J L2 D2) kc ks Q) : gGo G gYlaw 40 712 [some (.ref 0), some (.ref 3), some (.ref 114), some (.ref 131), some (.ref 132), some (.int (nI (4 * k))), none, none, none] [] (hp n I L D) (kc + 1) (ks + 6) Q := by
  obtain ⟨V, C, H, m, T, t, e, K, l, Ls, hR⟩ := hR0
  obtain ⟨o, P, ho, hx, hm⟩ := b_room (G := G) (n := n) hR
  refine g_aload_n (pc := 712) dL_law_712 rfl rfl ?_
  refine g_callV (av := []) (st := []) (ci := 2) (pc := 713) dL_law_713 mt_X2_room lk_L_176 im_X2_room se_X2_room (by decide) s_3 (by decide) rfl np_X2_room gc_0 (Nat.le_of_ble_eq_true rfl) (Nat.le_of_ble_eq_true rfl) ⟨Nat.le_add_left 1 _, Nat.le_add_left 6 _⟩ (g_deep (show 20 ≤ 39 by decide) (hx L D)) (fun v' h9 _ q => ?_) (fun X h9 q => ?_)
  · obtain ⟨J, ⟨q1, rfl⟩, hP⟩ := q
    cases o with
    | inr z => exact absurd (ho z rfl) (Nat.not_lt_zero z)
    | inl w =>
      have q2 : (Sum.inl v' : Option Value ⊕ String) = .inl (some (.int w)) := q1
      cases q2
      refine g_aload_n (pc := 716) dL_law_716 rfl rfl ?_
      refine g_riV (av := []) (pc := 717) dL_law_717 mt_X3_room lk_L_179 im_X3_room se_X3_room np_X3_room s_114 (by decide) (by decide) rfl gc_0 (Nat.le_of_ble_eq_true rfl) (Nat.le_of_ble_eq_true rfl) (gRi_deep (show 20 ≤ 39 by decide) (hm J hP L D)) ?_
      rintro v K2 ⟨hK2, hth, hv⟩
      refine g_icmp_eq (tgt := 2393) (pc := 720) dL_law_720 (by decide) (fun c720 => ?_) (fun c720 => ?_)
      rotate_left
      · exact absurd (hv w rfl).symm c720
      exact g_bud (by omega) (by omega) (kn _ _ _ hK2)
  · obtain ⟨J, ⟨q1, -⟩, -⟩ := q
    cases o with
    | inr z => exact absurd (ho z rfl) (Nat.not_lt_zero z)
    | inl w =>
      have q2 : (Sum.inr X : Option Value ⊕ String) = .inl (some (.int w)) := q1
      cases q2
theorem lc_symbol (hR0 : Rel I) {k : Nat} (hk : 4 * k + 4 ≤ n) (hn : n ≤ 2048) {kc ks : Nat} {Q : gQ} (kn : ∀ J L2 D2, Rel J → gGo G gYlaw 40 2393 [some (.ref 0), some (.ref 3), some (.ref 114), some (.ref 131), some (.ref 132), some (.int (nI (4 * k))), none, none, none] [] (hp n J L2 D2) kc ks Q) : gGo G gYlaw 40 725 [some (.ref 0), some (.ref 3), some (.ref 114), some (.ref 131), some (.ref 132), some (.int (nI (4 * k))), none, none, none] [] (hp n I L D) (kc + 1) (ks + 6) Q := by
  obtain ⟨V, C, H, m, T, t, e, K, l, Ls, hR⟩ := hR0
  obtain ⟨o, P, ho, hx, hm⟩ := b_symbol (G := G) (n := n) hR (I 0 (4 * k + 1))
  have hcd := cd_lt ho (by decide)
  refine g_row (fun g0 => ?_)
  refine g_aload_n (pc := 725) dL_law_725 rfl rfl ?_
  refine g_aload_n (pc := 726) dL_law_726 rfl rfl ?_
  refine g_iload (pc := 727) dL_law_727 rfl ?_
  refine g_iconst (v := nI 1) (pc := 729) dL_law_729 rfl ?_
  refine g_iaddN (pc := 730) dL_law_730 ?_
  refine g_ialoadKN (pc := 731) dL_law_731 s_0 (by decide) (by omega) (by omega) rfl ?_
  refine g_aload_n (pc := 732) dL_law_732 rfl rfl ?_
  refine g_callH (av := [.ref 3, .int (I 0 (4 * k + 1)), .ref 131]) (st := []) (pc := 733) dL_law_733 mh_L_symbol lk_L_180p sf_L_symbol rfl np_L_symbol (gc_r (gc_i (gc_r gc_0))) (Nat.le_of_ble_eq_true rfl) (Nat.le_of_ble_eq_true rfl) ⟨Nat.le_add_left 1 _, Nat.le_add_left 6 _⟩ (g_deep (show 21 ≤ 39 by decide) (w_symbol ho (hx L D))) (fun v' h9 _ q => ?_) (fun X h9 q => ?_)
  · obtain ⟨J, ⟨q1, rfl⟩, hP⟩ := q
    cases q1
    refine g_row (fun g1 => ?_)
    have hJ0 : J 0 = I 0 := (g1 0 (by decide)).trans (g0 0 (by decide)).symm
    refine g_istore (pc := 736) dL_law_736 (Nat.le_of_ble_eq_true rfl) rfl ?_
    refine g_aload_n (pc := 738) dL_law_738 rfl rfl ?_
    refine g_aload_n (pc := 739) dL_law_739 rfl rfl ?_
    refine g_iload (pc := 740) dL_law_740 rfl ?_
    refine g_iconst (v := nI 1) (pc := 742) dL_law_742 rfl ?_
    refine g_iaddN (pc := 743) dL_law_743 ?_
    refine g_ialoadKN (pc := 744) dL_law_744 s_0 (by decide) (by omega) (by omega) (congrFun hJ0 (4 * k + 1)) ?_
    refine g_riV (av := [.int _]) (pc := 745) dL_law_745 mt_X3_symbol lk_L_182 im_X3_symbol se_X3_symbol np_X3_symbol s_114 (by decide) (by decide) rfl (gc_i gc_0) (Nat.le_of_ble_eq_true rfl) (Nat.le_of_ble_eq_true rfl) (gRi_deep (show 20 ≤ 39 by decide) (hm J hP (wL L o) D)) ?_
    rintro v K2 ⟨hK2, hth, hv⟩
    refine g_istore (pc := 748) dL_law_748 (Nat.le_of_ble_eq_true rfl) rfl ?_
    refine g_aload_n (pc := 750) dL_law_750 rfl rfl ?_
    refine g_fV (av := []) (pc := 751) dL_law_751 mt_X3_thrown lk_L_144 im_X3_thrown se_X3_thrown np_X3_thrown s_114 (by decide) (by decide) rfl gc_0 (Nat.le_of_ble_eq_true rfl) (Nat.le_of_ble_eq_true rfl) ⟨Nat.zero_le _, Nat.zero_le _⟩ m_X3_thrown ?_
    rw [hth]
    refine g_iload (pc := 754) dL_law_754 rfl ?_
    refine g_icmp_eqN (tgt := 761) (pc := 756) dL_law_756 (by decide) (by omega) (by omega) (fun c756 => ?_) (fun c756 => ?_)
    rotate_left
    · exact absurd rfl c756
    refine g_iload (pc := 761) dL_law_761 rfl ?_
    refine g_if_neN (tgt := 778) (pc := 763) dL_law_763 (by decide) (by omega) (fun c763 => ?_) (fun c763 => ?_)
    · refine g_goto (tgt := 2393) (pc := 778) dL_law_778 (by decide) ?_
      refine g_fg 6 (g_fg 7 ?_)
      exact g_bud (by omega) (by omega) (kn _ _ _ hK2)
    · obtain ⟨w, rfl⟩ := cd_0 c763
      have hvw := hv w rfl
      subst hvw
      refine g_aload_n (pc := 766) dL_law_766 rfl rfl ?_
      refine g_iconst (v := nI 0) (pc := 767) dL_law_767 rfl ?_
      refine g_laload (pc := 768) dL_law_768 s_131 (by decide) (vp_in_nI (by decide) (by decide)) ?_
      rw [wL_at]
      refine g_iload (pc := 769) dL_law_769 rfl ?_
      refine g_i2l (pc := 771) dL_law_771 ?_
      refine g_lcmp (pc := 772) dL_law_772 ?_
      refine g_if_eq (tgt := 778) (pc := 773) dL_law_773 (by decide) (fun c773 => ?_) (fun c773 => ?_)
      · refine g_goto (tgt := 2393) (pc := 778) dL_law_778 (by decide) ?_
        refine g_fg 6 (g_fg 7 ?_)
        exact g_bud (by omega) (by omega) (kn _ _ _ hK2)
      · exact absurd ((lg_cmp_eq _ _).mpr rfl) c773
  · obtain ⟨J, ⟨q1, -⟩, -⟩ := q
    cases q1
theorem lc_isErased (hR0 : Rel I) {k : Nat} (hk : 4 * k + 4 ≤ n) (hn : n ≤ 2048) {kc ks : Nat} {Q : gQ} (kn : ∀ J L2 D2, Rel J → gGo G gYlaw 40 2393 [some (.ref 0), some (.ref 3), some (.ref 114), some (.ref 131), some (.ref 132), some (.int (nI (4 * k))), none, none, none] [] (hp n J L2 D2) kc ks Q) : gGo G gYlaw 40 781 [some (.ref 0), some (.ref 3), some (.ref 114), some (.ref 131), some (.ref 132), some (.int (nI (4 * k))), none, none, none] [] (hp n I L D) (kc + 1) (ks + 6) Q := by
  obtain ⟨V, C, H, m, T, t, e, K, l, Ls, hR⟩ := hR0
  obtain ⟨o, P, ho, hx, hm⟩ := b_isErased (G := G) (n := n) hR (I 0 (4 * k + 1))
  have hcd := cd_lt ho (by decide)
  refine g_row (fun g0 => ?_)
  refine g_aload_n (pc := 781) dL_law_781 rfl rfl ?_
  refine g_aload_n (pc := 782) dL_law_782 rfl rfl ?_
  refine g_iload (pc := 783) dL_law_783 rfl ?_
  refine g_iconst (v := nI 1) (pc := 785) dL_law_785 rfl ?_
  refine g_iaddN (pc := 786) dL_law_786 ?_
  refine g_ialoadKN (pc := 787) dL_law_787 s_0 (by decide) (by omega) (by omega) rfl ?_
  refine g_aload_n (pc := 788) dL_law_788 rfl rfl ?_
  refine g_callH (av := [.ref 3, .int (I 0 (4 * k + 1)), .ref 131]) (st := []) (pc := 789) dL_law_789 mh_L_isErased lk_L_183p sf_L_isErased rfl np_L_isErased (gc_r (gc_i (gc_r gc_0))) (Nat.le_of_ble_eq_true rfl) (Nat.le_of_ble_eq_true rfl) ⟨Nat.le_add_left 1 _, Nat.le_add_left 6 _⟩ (g_deep (show 21 ≤ 39 by decide) (w_isErased ho (hx L D))) (fun v' h9 _ q => ?_) (fun X h9 q => ?_)
  · obtain ⟨J, ⟨q1, rfl⟩, hP⟩ := q
    cases q1
    refine g_row (fun g1 => ?_)
    have hJ0 : J 0 = I 0 := (g1 0 (by decide)).trans (g0 0 (by decide)).symm
    refine g_istore (pc := 792) dL_law_792 (Nat.le_of_ble_eq_true rfl) rfl ?_
    refine g_aload_n (pc := 794) dL_law_794 rfl rfl ?_
    refine g_aload_n (pc := 795) dL_law_795 rfl rfl ?_
    refine g_iload (pc := 796) dL_law_796 rfl ?_
    refine g_iconst (v := nI 1) (pc := 798) dL_law_798 rfl ?_
    refine g_iaddN (pc := 799) dL_law_799 ?_
    refine g_ialoadKN (pc := 800) dL_law_800 s_0 (by decide) (by omega) (by omega) (congrFun hJ0 (4 * k + 1)) ?_
    refine g_riV (av := [.int _]) (pc := 801) dL_law_801 mt_X3_isErased lk_L_185 im_X3_isErased se_X3_isErased np_X3_isErased s_114 (by decide) (by decide) rfl (gc_i gc_0) (Nat.le_of_ble_eq_true rfl) (Nat.le_of_ble_eq_true rfl) (gRi_deep (show 20 ≤ 39 by decide) (hm J hP (wE L o) D)) ?_
    rintro v K2 ⟨hK2, hth, hv⟩
    refine g_istore (pc := 804) dL_law_804 (Nat.le_of_ble_eq_true rfl) rfl ?_
    refine g_aload_n (pc := 806) dL_law_806 rfl rfl ?_
    refine g_fV (av := []) (pc := 807) dL_law_807 mt_X3_thrown lk_L_144 im_X3_thrown se_X3_thrown np_X3_thrown s_114 (by decide) (by decide) rfl gc_0 (Nat.le_of_ble_eq_true rfl) (Nat.le_of_ble_eq_true rfl) ⟨Nat.zero_le _, Nat.zero_le _⟩ m_X3_thrown ?_
    rw [hth]
    refine g_iload (pc := 810) dL_law_810 rfl ?_
    refine g_icmp_eqN (tgt := 817) (pc := 812) dL_law_812 (by decide) (by omega) (by omega) (fun c812 => ?_) (fun c812 => ?_)
    rotate_left
    · exact absurd rfl c812
    refine g_iload (pc := 817) dL_law_817 rfl ?_
    refine g_if_neN (tgt := 841) (pc := 819) dL_law_819 (by decide) (by omega) (fun c819 => ?_) (fun c819 => ?_)
    · refine g_goto (tgt := 2393) (pc := 841) dL_law_841 (by decide) ?_
      refine g_fg 6 (g_fg 7 ?_)
      exact g_bud (by omega) (by omega) (kn _ _ _ hK2)
    · obtain ⟨w, rfl⟩ := cd_0 c819
      have hvw := hv w rfl
      subst hvw
      refine g_aload_n (pc := 822) dL_law_822 rfl rfl ?_
      refine g_iconst (v := nI 0) (pc := 823) dL_law_823 rfl ?_
      refine g_laload (pc := 824) dL_law_824 s_131 (by decide) (vp_in_nI (by decide) (by decide)) ?_
      rw [wE_at]
      refine g_iload (pc := 825) dL_law_825 rfl ?_
      refine g_if_eq (tgt := 834) (pc := 827) dL_law_827 (by decide) (fun c827 => ?_) (fun c827 => ?_)
      · refine g_lconst (pc := 834) dL_law_834 rfl ?_
        refine g_lcmp (pc := 835) dL_law_835 ?_
        refine g_if_eq (tgt := 841) (pc := 836) dL_law_836 (by decide) (fun c836 => ?_) (fun c836 => ?_)
        · refine g_goto (tgt := 2393) (pc := 841) dL_law_841 (by decide) ?_
          refine g_fg 6 (g_fg 7 ?_)
          exact g_bud (by omega) (by omega) (kn _ _ _ hK2)
        · first
            | exact absurd ((lg_cmp_eq _ _).mpr (by rw [if_pos (by assumption)]; rfl)) c836
            | exact absurd ((lg_cmp_eq _ _).mpr (by rw [if_neg (by assumption)]; rfl)) c836
      · refine g_lconst (pc := 830) dL_law_830 rfl ?_
        refine g_goto (tgt := 835) (pc := 831) dL_law_831 (by decide) ?_
        refine g_lcmp (pc := 835) dL_law_835 ?_
        refine g_if_eq (tgt := 841) (pc := 836) dL_law_836 (by decide) (fun c836 => ?_) (fun c836 => ?_)
        · refine g_goto (tgt := 2393) (pc := 841) dL_law_841 (by decide) ?_
          refine g_fg 6 (g_fg 7 ?_)
          exact g_bud (by omega) (by omega) (kn _ _ _ hK2)
        · first
            | exact absurd ((lg_cmp_eq _ _).mpr (by rw [if_pos (by assumption)]; rfl)) c836
            | exact absurd ((lg_cmp_eq _ _).mpr (by rw [if_neg (by assumption)]; rfl)) c836
  · obtain ⟨J, ⟨q1, -⟩, -⟩ := q
    cases q1
theorem lc_flip (hR0 : Rel I) {k : Nat} (hk : 4 * k + 4 ≤ n) (hn : n ≤ 2048) {kc ks : Nat} {Q : gQ} (kn : ∀ J L2 D2, Rel J → gGo G gYlaw 40 2393 [some (.ref 0), some (.ref 3), some (.ref 114), some (.ref 131), some (.ref 132), some (.int (nI (4 * k))), none, none, none] [] (hp n J L2 D2) kc ks Q) : gGo G gYlaw 40 844 [some (.ref 0), some (.ref 3), some (.ref 114), some (.ref 131), some (.ref 132), some (.int (nI (4 * k))), none, none, none] [] (hp n I L D) (kc + 1) (ks + 6) Q := by
  obtain ⟨V, C, H, m, T, t, e, K, l, Ls, hR⟩ := hR0
  obtain ⟨o, P, ho, hx, hm⟩ := b_flip (G := G) (n := n) hR (I 0 (4 * k + 1)) (I 0 (4 * k + 2))
  have hcd := cd_lt ho (by decide)
  refine g_row (fun g0 => ?_)
  refine g_aload_n (pc := 844) dL_law_844 rfl rfl ?_
  refine g_aload_n (pc := 845) dL_law_845 rfl rfl ?_
  refine g_iload (pc := 846) dL_law_846 rfl ?_
  refine g_iconst (v := nI 1) (pc := 848) dL_law_848 rfl ?_
  refine g_iaddN (pc := 849) dL_law_849 ?_
  refine g_ialoadKN (pc := 850) dL_law_850 s_0 (by decide) (by omega) (by omega) rfl ?_
  refine g_aload_n (pc := 851) dL_law_851 rfl rfl ?_
  refine g_iload (pc := 852) dL_law_852 rfl ?_
  refine g_iconst (v := nI 2) (pc := 854) dL_law_854 rfl ?_
  refine g_iaddN (pc := 855) dL_law_855 ?_
  refine g_ialoadKN (pc := 856) dL_law_856 s_0 (by decide) (by omega) (by omega) rfl ?_
  refine g_aload_n (pc := 857) dL_law_857 rfl rfl ?_
  refine g_callH (av := [.ref 3, .int (I 0 (4 * k + 1)), .int (I 0 (4 * k + 2)), .ref 131]) (st := []) (pc := 858) dL_law_858 mh_L_flip lk_L_186p sf_L_flip rfl np_L_flip (gc_r (gc_i (gc_i (gc_r gc_0)))) (Nat.le_of_ble_eq_true rfl) (Nat.le_of_ble_eq_true rfl) ⟨Nat.le_add_left 1 _, Nat.le_add_left 6 _⟩ (g_deep (show 21 ≤ 39 by decide) (w_flip ho (hx L D))) (fun v' h9 _ q => ?_) (fun X h9 q => ?_)
  · obtain ⟨J, ⟨q1, rfl⟩, hP⟩ := q
    cases q1
    refine g_row (fun g1 => ?_)
    have hJ0 : J 0 = I 0 := (g1 0 (by decide)).trans (g0 0 (by decide)).symm
    refine g_istore (pc := 861) dL_law_861 (Nat.le_of_ble_eq_true rfl) rfl ?_
    refine g_aload_n (pc := 863) dL_law_863 rfl rfl ?_
    refine g_aload_n (pc := 864) dL_law_864 rfl rfl ?_
    refine g_iload (pc := 865) dL_law_865 rfl ?_
    refine g_iconst (v := nI 1) (pc := 867) dL_law_867 rfl ?_
    refine g_iaddN (pc := 868) dL_law_868 ?_
    refine g_ialoadKN (pc := 869) dL_law_869 s_0 (by decide) (by omega) (by omega) (congrFun hJ0 (4 * k + 1)) ?_
    refine g_aload_n (pc := 870) dL_law_870 rfl rfl ?_
    refine g_iload (pc := 871) dL_law_871 rfl ?_
    refine g_iconst (v := nI 2) (pc := 873) dL_law_873 rfl ?_
    refine g_iaddN (pc := 874) dL_law_874 ?_
    refine g_ialoadKN (pc := 875) dL_law_875 s_0 (by decide) (by omega) (by omega) (congrFun hJ0 (4 * k + 2)) ?_
    refine g_riV (av := [.int _, .int _]) (pc := 876) dL_law_876 mt_X3_flip lk_L_188 im_X3_flip se_X3_flip np_X3_flip s_114 (by decide) (by decide) rfl (gc_i (gc_i gc_0)) (Nat.le_of_ble_eq_true rfl) (Nat.le_of_ble_eq_true rfl) (gRi_deep (show 20 ≤ 39 by decide) (hm J hP (wL L o) D)) ?_
    rintro v K2 ⟨hK2, hth, hv⟩
    refine g_istore (pc := 879) dL_law_879 (Nat.le_of_ble_eq_true rfl) rfl ?_
    refine g_aload_n (pc := 881) dL_law_881 rfl rfl ?_
    refine g_fV (av := []) (pc := 882) dL_law_882 mt_X3_thrown lk_L_144 im_X3_thrown se_X3_thrown np_X3_thrown s_114 (by decide) (by decide) rfl gc_0 (Nat.le_of_ble_eq_true rfl) (Nat.le_of_ble_eq_true rfl) ⟨Nat.zero_le _, Nat.zero_le _⟩ m_X3_thrown ?_
    rw [hth]
    refine g_iload (pc := 885) dL_law_885 rfl ?_
    refine g_icmp_eqN (tgt := 892) (pc := 887) dL_law_887 (by decide) (by omega) (by omega) (fun c887 => ?_) (fun c887 => ?_)
    rotate_left
    · exact absurd rfl c887
    refine g_iload (pc := 892) dL_law_892 rfl ?_
    refine g_if_neN (tgt := 909) (pc := 894) dL_law_894 (by decide) (by omega) (fun c894 => ?_) (fun c894 => ?_)
    · refine g_goto (tgt := 2393) (pc := 909) dL_law_909 (by decide) ?_
      refine g_fg 6 (g_fg 7 ?_)
      exact g_bud (by omega) (by omega) (kn _ _ _ hK2)
    · obtain ⟨w, rfl⟩ := cd_0 c894
      have hvw := hv w rfl
      subst hvw
      refine g_aload_n (pc := 897) dL_law_897 rfl rfl ?_
      refine g_iconst (v := nI 0) (pc := 898) dL_law_898 rfl ?_
      refine g_laload (pc := 899) dL_law_899 s_131 (by decide) (vp_in_nI (by decide) (by decide)) ?_
      rw [wL_at]
      refine g_iload (pc := 900) dL_law_900 rfl ?_
      refine g_i2l (pc := 902) dL_law_902 ?_
      refine g_lcmp (pc := 903) dL_law_903 ?_
      refine g_if_eq (tgt := 909) (pc := 904) dL_law_904 (by decide) (fun c904 => ?_) (fun c904 => ?_)
      · refine g_goto (tgt := 2393) (pc := 909) dL_law_909 (by decide) ?_
        refine g_fg 6 (g_fg 7 ?_)
        exact g_bud (by omega) (by omega) (kn _ _ _ hK2)
      · exact absurd ((lg_cmp_eq _ _).mpr rfl) c904
  · obtain ⟨J, ⟨q1, -⟩, -⟩ := q
    cases q1
theorem lc_erase (hR0 : Rel I) {k : Nat} (hk : 4 * k + 4 ≤ n) (hn : n ≤ 2048) {kc ks : Nat} {Q : gQ} (kn : ∀ J L2 D2, Rel J → gGo G gYlaw 40 2393 [some (.ref 0), some (.ref 3), some (.ref 114), some (.ref 131), some (.ref 132), some (.int (nI (4 * k))), none, none, none] [] (hp n J L2 D2) kc ks Q) : gGo G gYlaw 40 912 [some (.ref 0), some (.ref 3), some (.ref 114), some (.ref 131), some (.ref 132), some (.int (nI (4 * k))), none, none, none] [] (hp n I L D) (kc + 1) (ks + 6) Q := by
  obtain ⟨V, C, H, m, T, t, e, K, l, Ls, hR⟩ := hR0
  obtain ⟨o, P, ho, hx, hm⟩ := b_erase (G := G) (n := n) hR (I 0 (4 * k + 1))
  have hcd := cd_lt ho (by decide)
  refine g_row (fun g0 => ?_)
  refine g_aload_n (pc := 912) dL_law_912 rfl rfl ?_
  refine g_aload_n (pc := 913) dL_law_913 rfl rfl ?_
  refine g_iload (pc := 914) dL_law_914 rfl ?_
  refine g_iconst (v := nI 1) (pc := 916) dL_law_916 rfl ?_
  refine g_iaddN (pc := 917) dL_law_917 ?_
  refine g_ialoadKN (pc := 918) dL_law_918 s_0 (by decide) (by omega) (by omega) rfl ?_
  refine g_aload_n (pc := 919) dL_law_919 rfl rfl ?_
  refine g_callH (av := [.ref 3, .int (I 0 (4 * k + 1)), .ref 131]) (st := []) (pc := 920) dL_law_920 mh_L_erase lk_L_189p sf_L_erase rfl np_L_erase (gc_r (gc_i (gc_r gc_0))) (Nat.le_of_ble_eq_true rfl) (Nat.le_of_ble_eq_true rfl) ⟨Nat.le_add_left 1 _, Nat.le_add_left 6 _⟩ (g_deep (show 21 ≤ 39 by decide) (w_erase ho (hx L D))) (fun v' h9 _ q => ?_) (fun X h9 q => ?_)
  · obtain ⟨J, ⟨q1, rfl⟩, hP⟩ := q
    cases q1
    refine g_row (fun g1 => ?_)
    have hJ0 : J 0 = I 0 := (g1 0 (by decide)).trans (g0 0 (by decide)).symm
    refine g_istore (pc := 923) dL_law_923 (Nat.le_of_ble_eq_true rfl) rfl ?_
    refine g_aload_n (pc := 925) dL_law_925 rfl rfl ?_
    refine g_aload_n (pc := 926) dL_law_926 rfl rfl ?_
    refine g_iload (pc := 927) dL_law_927 rfl ?_
    refine g_iconst (v := nI 1) (pc := 929) dL_law_929 rfl ?_
    refine g_iaddN (pc := 930) dL_law_930 ?_
    refine g_ialoadKN (pc := 931) dL_law_931 s_0 (by decide) (by omega) (by omega) (congrFun hJ0 (4 * k + 1)) ?_
    refine g_riV (av := [.int _]) (pc := 932) dL_law_932 mt_X3_erase lk_L_191 im_X3_erase se_X3_erase np_X3_erase s_114 (by decide) (by decide) rfl (gc_i gc_0) (Nat.le_of_ble_eq_true rfl) (Nat.le_of_ble_eq_true rfl) (gRi_deep (show 20 ≤ 39 by decide) (hm J hP (wL L o) D)) ?_
    rintro v K2 ⟨hK2, hth, hv⟩
    refine g_istore (pc := 935) dL_law_935 (Nat.le_of_ble_eq_true rfl) rfl ?_
    refine g_aload_n (pc := 937) dL_law_937 rfl rfl ?_
    refine g_fV (av := []) (pc := 938) dL_law_938 mt_X3_thrown lk_L_144 im_X3_thrown se_X3_thrown np_X3_thrown s_114 (by decide) (by decide) rfl gc_0 (Nat.le_of_ble_eq_true rfl) (Nat.le_of_ble_eq_true rfl) ⟨Nat.zero_le _, Nat.zero_le _⟩ m_X3_thrown ?_
    rw [hth]
    refine g_iload (pc := 941) dL_law_941 rfl ?_
    refine g_icmp_eqN (tgt := 948) (pc := 943) dL_law_943 (by decide) (by omega) (by omega) (fun c943 => ?_) (fun c943 => ?_)
    rotate_left
    · exact absurd rfl c943
    refine g_iload (pc := 948) dL_law_948 rfl ?_
    refine g_if_neN (tgt := 965) (pc := 950) dL_law_950 (by decide) (by omega) (fun c950 => ?_) (fun c950 => ?_)
    · refine g_goto (tgt := 2393) (pc := 965) dL_law_965 (by decide) ?_
      refine g_fg 6 (g_fg 7 ?_)
      exact g_bud (by omega) (by omega) (kn _ _ _ hK2)
    · obtain ⟨w, rfl⟩ := cd_0 c950
      have hvw := hv w rfl
      subst hvw
      refine g_aload_n (pc := 953) dL_law_953 rfl rfl ?_
      refine g_iconst (v := nI 0) (pc := 954) dL_law_954 rfl ?_
      refine g_laload (pc := 955) dL_law_955 s_131 (by decide) (vp_in_nI (by decide) (by decide)) ?_
      rw [wL_at]
      refine g_iload (pc := 956) dL_law_956 rfl ?_
      refine g_i2l (pc := 958) dL_law_958 ?_
      refine g_lcmp (pc := 959) dL_law_959 ?_
      refine g_if_eq (tgt := 965) (pc := 960) dL_law_960 (by decide) (fun c960 => ?_) (fun c960 => ?_)
      · refine g_goto (tgt := 2393) (pc := 965) dL_law_965 (by decide) ?_
        refine g_fg 6 (g_fg 7 ?_)
        exact g_bud (by omega) (by omega) (kn _ _ _ hK2)
      · exact absurd ((lg_cmp_eq _ _).mpr rfl) c960
  · obtain ⟨J, ⟨q1, -⟩, -⟩ := q
    cases q1
theorem lc_burst (hR0 : Rel I) {k : Nat} (hk : 4 * k + 4 ≤ n) (hn : n ≤ 2048) {kc ks : Nat} {Q : gQ} (kn : ∀ J L2 D2, Rel J → gGo G gYlaw 40 2393 [some (.ref 0), some (.ref 3), some (.ref 114), some (.ref 131), some (.ref 132), some (.int (nI (4 * k))), none, none, none] [] (hp n J L2 D2) kc ks Q) : gGo G gYlaw 40 968 [some (.ref 0), some (.ref 3), some (.ref 114), some (.ref 131), some (.ref 132), some (.int (nI (4 * k))), none, none, none] [] (hp n I L D) (kc + 1) (ks + 6) Q := by
  obtain ⟨V, C, H, m, T, t, e, K, l, Ls, hR⟩ := hR0
  obtain ⟨o, P, ho, hx, hm⟩ := b_burst (G := G) (n := n) hR (I 0 (4 * k + 1)) (I 0 (4 * k + 2)) (I 0 (4 * k + 3))
  have hcd := cd_lt ho (by decide)
  refine g_row (fun g0 => ?_)
  refine g_aload_n (pc := 968) dL_law_968 rfl rfl ?_
  refine g_aload_n (pc := 969) dL_law_969 rfl rfl ?_
  refine g_iload (pc := 970) dL_law_970 rfl ?_
  refine g_iconst (v := nI 1) (pc := 972) dL_law_972 rfl ?_
  refine g_iaddN (pc := 973) dL_law_973 ?_
  refine g_ialoadKN (pc := 974) dL_law_974 s_0 (by decide) (by omega) (by omega) rfl ?_
  refine g_aload_n (pc := 975) dL_law_975 rfl rfl ?_
  refine g_iload (pc := 976) dL_law_976 rfl ?_
  refine g_iconst (v := nI 2) (pc := 978) dL_law_978 rfl ?_
  refine g_iaddN (pc := 979) dL_law_979 ?_
  refine g_ialoadKN (pc := 980) dL_law_980 s_0 (by decide) (by omega) (by omega) rfl ?_
  refine g_aload_n (pc := 981) dL_law_981 rfl rfl ?_
  refine g_iload (pc := 982) dL_law_982 rfl ?_
  refine g_iconst (v := nI 3) (pc := 984) dL_law_984 rfl ?_
  refine g_iaddN (pc := 985) dL_law_985 ?_
  refine g_ialoadKN (pc := 986) dL_law_986 s_0 (by decide) (by omega) (by omega) rfl ?_
  refine g_aload_n (pc := 987) dL_law_987 rfl rfl ?_
  refine g_callH (av := [.ref 3, .int (I 0 (4 * k + 1)), .int (I 0 (4 * k + 2)), .int (I 0 (4 * k + 3)), .ref 131]) (st := []) (pc := 988) dL_law_988 mh_L_burst lk_L_192p sf_L_burst rfl np_L_burst (gc_r (gc_i (gc_i (gc_i (gc_r gc_0))))) (Nat.le_of_ble_eq_true rfl) (Nat.le_of_ble_eq_true rfl) ⟨Nat.le_add_left 1 _, Nat.le_add_left 6 _⟩ (g_deep (show 21 ≤ 39 by decide) (w_burst ho (hx L D))) (fun v' h9 _ q => ?_) (fun X h9 q => ?_)
  · obtain ⟨J, ⟨q1, rfl⟩, hP⟩ := q
    cases q1
    refine g_row (fun g1 => ?_)
    have hJ0 : J 0 = I 0 := (g1 0 (by decide)).trans (g0 0 (by decide)).symm
    refine g_istore (pc := 991) dL_law_991 (Nat.le_of_ble_eq_true rfl) rfl ?_
    refine g_aload_n (pc := 993) dL_law_993 rfl rfl ?_
    refine g_aload_n (pc := 994) dL_law_994 rfl rfl ?_
    refine g_iload (pc := 995) dL_law_995 rfl ?_
    refine g_iconst (v := nI 1) (pc := 997) dL_law_997 rfl ?_
    refine g_iaddN (pc := 998) dL_law_998 ?_
    refine g_ialoadKN (pc := 999) dL_law_999 s_0 (by decide) (by omega) (by omega) (congrFun hJ0 (4 * k + 1)) ?_
    refine g_aload_n (pc := 1000) dL_law_1000 rfl rfl ?_
    refine g_iload (pc := 1001) dL_law_1001 rfl ?_
    refine g_iconst (v := nI 2) (pc := 1003) dL_law_1003 rfl ?_
    refine g_iaddN (pc := 1004) dL_law_1004 ?_
    refine g_ialoadKN (pc := 1005) dL_law_1005 s_0 (by decide) (by omega) (by omega) (congrFun hJ0 (4 * k + 2)) ?_
    refine g_aload_n (pc := 1006) dL_law_1006 rfl rfl ?_
    refine g_iload (pc := 1007) dL_law_1007 rfl ?_
    refine g_iconst (v := nI 3) (pc := 1009) dL_law_1009 rfl ?_
    refine g_iaddN (pc := 1010) dL_law_1010 ?_
    refine g_ialoadKN (pc := 1011) dL_law_1011 s_0 (by decide) (by omega) (by omega) (congrFun hJ0 (4 * k + 3)) ?_
    refine g_riV (av := [.int _, .int _, .int _]) (pc := 1012) dL_law_1012 mt_X3_burst lk_L_194 im_X3_burst se_X3_burst np_X3_burst s_114 (by decide) (by decide) rfl (gc_i (gc_i (gc_i gc_0))) (Nat.le_of_ble_eq_true rfl) (Nat.le_of_ble_eq_true rfl) (gRi_deep (show 20 ≤ 39 by decide) (hm J hP (wL L o) D)) ?_
    rintro v K2 ⟨hK2, hth, hv⟩
    refine g_istore (pc := 1015) dL_law_1015 (Nat.le_of_ble_eq_true rfl) rfl ?_
    refine g_aload_n (pc := 1017) dL_law_1017 rfl rfl ?_
    refine g_fV (av := []) (pc := 1018) dL_law_1018 mt_X3_thrown lk_L_144 im_X3_thrown se_X3_thrown np_X3_thrown s_114 (by decide) (by decide) rfl gc_0 (Nat.le_of_ble_eq_true rfl) (Nat.le_of_ble_eq_true rfl) ⟨Nat.zero_le _, Nat.zero_le _⟩ m_X3_thrown ?_
    rw [hth]
    refine g_iload (pc := 1021) dL_law_1021 rfl ?_
    refine g_icmp_eqN (tgt := 1028) (pc := 1023) dL_law_1023 (by decide) (by omega) (by omega) (fun c1023 => ?_) (fun c1023 => ?_)
    rotate_left
    · exact absurd rfl c1023
    refine g_iload (pc := 1028) dL_law_1028 rfl ?_
    refine g_if_neN (tgt := 1045) (pc := 1030) dL_law_1030 (by decide) (by omega) (fun c1030 => ?_) (fun c1030 => ?_)
    · refine g_goto (tgt := 2393) (pc := 1045) dL_law_1045 (by decide) ?_
      refine g_fg 6 (g_fg 7 ?_)
      exact g_bud (by omega) (by omega) (kn _ _ _ hK2)
    · obtain ⟨w, rfl⟩ := cd_0 c1030
      have hvw := hv w rfl
      subst hvw
      refine g_aload_n (pc := 1033) dL_law_1033 rfl rfl ?_
      refine g_iconst (v := nI 0) (pc := 1034) dL_law_1034 rfl ?_
      refine g_laload (pc := 1035) dL_law_1035 s_131 (by decide) (vp_in_nI (by decide) (by decide)) ?_
      rw [wL_at]
      refine g_iload (pc := 1036) dL_law_1036 rfl ?_
      refine g_i2l (pc := 1038) dL_law_1038 ?_
      refine g_lcmp (pc := 1039) dL_law_1039 ?_
      refine g_if_eq (tgt := 1045) (pc := 1040) dL_law_1040 (by decide) (fun c1040 => ?_) (fun c1040 => ?_)
      · refine g_goto (tgt := 2393) (pc := 1045) dL_law_1045 (by decide) ?_
        refine g_fg 6 (g_fg 7 ?_)
        exact g_bud (by omega) (by omega) (kn _ _ _ hK2)
      · exact absurd ((lg_cmp_eq _ _).mpr rfl) c1040
  · obtain ⟨J, ⟨q1, -⟩, -⟩ := q
    cases q1
theorem lc_wrong (hR0 : Rel I) {k : Nat} (hk : 4 * k + 4 ≤ n) (hn : n ≤ 2048) {kc ks : Nat} {Q : gQ} (kn : ∀ J L2 D2, Rel J → gGo G gYlaw 40 2393 [some (.ref 0), some (.ref 3), some (.ref 114), some (.ref 131), some (.ref 132), some (.int (nI (4 * k))), none, none, none] [] (hp n J L2 D2) kc ks Q) : gGo G gYlaw 40 1048 [some (.ref 0), some (.ref 3), some (.ref 114), some (.ref 131), some (.ref 132), some (.int (nI (4 * k))), none, none, none] [] (hp n I L D) (kc + 1) (ks + 6) Q := by
  obtain ⟨V, C, H, m, T, t, e, K, l, Ls, hR⟩ := hR0
  obtain ⟨o, P, ho, hx, hm⟩ := b_wrong (G := G) (n := n) hR (I 0 (4 * k + 1))
  have hcd := cd_lt ho (by decide)
  refine g_row (fun g0 => ?_)
  refine g_aload_n (pc := 1048) dL_law_1048 rfl rfl ?_
  refine g_aload_n (pc := 1049) dL_law_1049 rfl rfl ?_
  refine g_iload (pc := 1050) dL_law_1050 rfl ?_
  refine g_iconst (v := nI 1) (pc := 1052) dL_law_1052 rfl ?_
  refine g_iaddN (pc := 1053) dL_law_1053 ?_
  refine g_ialoadKN (pc := 1054) dL_law_1054 s_0 (by decide) (by omega) (by omega) rfl ?_
  refine g_aload_n (pc := 1055) dL_law_1055 rfl rfl ?_
  refine g_callH (av := [.ref 3, .int (I 0 (4 * k + 1)), .ref 131]) (st := []) (pc := 1056) dL_law_1056 mh_L_wrong lk_L_195p sf_L_wrong rfl np_L_wrong (gc_r (gc_i (gc_r gc_0))) (Nat.le_of_ble_eq_true rfl) (Nat.le_of_ble_eq_true rfl) ⟨Nat.le_add_left 1 _, Nat.le_add_left 6 _⟩ (g_deep (show 21 ≤ 39 by decide) (w_wrong ho (hx L D))) (fun v' h9 _ q => ?_) (fun X h9 q => ?_)
  · obtain ⟨J, ⟨q1, rfl⟩, hP⟩ := q
    cases q1
    refine g_row (fun g1 => ?_)
    have hJ0 : J 0 = I 0 := (g1 0 (by decide)).trans (g0 0 (by decide)).symm
    refine g_istore (pc := 1059) dL_law_1059 (Nat.le_of_ble_eq_true rfl) rfl ?_
    refine g_aload_n (pc := 1061) dL_law_1061 rfl rfl ?_
    refine g_aload_n (pc := 1062) dL_law_1062 rfl rfl ?_
    refine g_iload (pc := 1063) dL_law_1063 rfl ?_
    refine g_iconst (v := nI 1) (pc := 1065) dL_law_1065 rfl ?_
    refine g_iaddN (pc := 1066) dL_law_1066 ?_
    refine g_ialoadKN (pc := 1067) dL_law_1067 s_0 (by decide) (by omega) (by omega) (congrFun hJ0 (4 * k + 1)) ?_
    refine g_riV (av := [.int _]) (pc := 1068) dL_law_1068 mt_X3_wrong lk_L_197 im_X3_wrong se_X3_wrong np_X3_wrong s_114 (by decide) (by decide) rfl (gc_i gc_0) (Nat.le_of_ble_eq_true rfl) (Nat.le_of_ble_eq_true rfl) (gRi_deep (show 20 ≤ 39 by decide) (hm J hP (wL L o) D)) ?_
    rintro v K2 ⟨hK2, hth, hv⟩
    refine g_istore (pc := 1071) dL_law_1071 (Nat.le_of_ble_eq_true rfl) rfl ?_
    refine g_aload_n (pc := 1073) dL_law_1073 rfl rfl ?_
    refine g_fV (av := []) (pc := 1074) dL_law_1074 mt_X3_thrown lk_L_144 im_X3_thrown se_X3_thrown np_X3_thrown s_114 (by decide) (by decide) rfl gc_0 (Nat.le_of_ble_eq_true rfl) (Nat.le_of_ble_eq_true rfl) ⟨Nat.zero_le _, Nat.zero_le _⟩ m_X3_thrown ?_
    rw [hth]
    refine g_iload (pc := 1077) dL_law_1077 rfl ?_
    refine g_icmp_eqN (tgt := 1084) (pc := 1079) dL_law_1079 (by decide) (by omega) (by omega) (fun c1079 => ?_) (fun c1079 => ?_)
    rotate_left
    · exact absurd rfl c1079
    refine g_iload (pc := 1084) dL_law_1084 rfl ?_
    refine g_if_neN (tgt := 1101) (pc := 1086) dL_law_1086 (by decide) (by omega) (fun c1086 => ?_) (fun c1086 => ?_)
    · refine g_goto (tgt := 2393) (pc := 1101) dL_law_1101 (by decide) ?_
      refine g_fg 6 (g_fg 7 ?_)
      exact g_bud (by omega) (by omega) (kn _ _ _ hK2)
    · obtain ⟨w, rfl⟩ := cd_0 c1086
      have hvw := hv w rfl
      subst hvw
      refine g_aload_n (pc := 1089) dL_law_1089 rfl rfl ?_
      refine g_iconst (v := nI 0) (pc := 1090) dL_law_1090 rfl ?_
      refine g_laload (pc := 1091) dL_law_1091 s_131 (by decide) (vp_in_nI (by decide) (by decide)) ?_
      rw [wL_at]
      refine g_iload (pc := 1092) dL_law_1092 rfl ?_
      refine g_i2l (pc := 1094) dL_law_1094 ?_
      refine g_lcmp (pc := 1095) dL_law_1095 ?_
      refine g_if_eq (tgt := 1101) (pc := 1096) dL_law_1096 (by decide) (fun c1096 => ?_) (fun c1096 => ?_)
      · refine g_goto (tgt := 2393) (pc := 1101) dL_law_1101 (by decide) ?_
        refine g_fg 6 (g_fg 7 ?_)
        exact g_bud (by omega) (by omega) (kn _ _ _ hK2)
      · exact absurd ((lg_cmp_eq _ _).mpr rfl) c1096
  · obtain ⟨J, ⟨q1, -⟩, -⟩ := q
    cases q1
theorem lc_erased (hR0 : Rel I) {k : Nat} (hk : 4 * k + 4 ≤ n) (hn : n ≤ 2048) {kc ks : Nat} {Q : gQ} (kn : ∀ J L2 D2, Rel J → gGo G gYlaw 40 2393 [some (.ref 0), some (.ref 3), some (.ref 114), some (.ref 131), some (.ref 132), some (.int (nI (4 * k))), none, none, none] [] (hp n J L2 D2) kc ks Q) : gGo G gYlaw 40 1104 [some (.ref 0), some (.ref 3), some (.ref 114), some (.ref 131), some (.ref 132), some (.int (nI (4 * k))), none, none, none] [] (hp n I L D) (kc + 1) (ks + 6) Q := by
  obtain ⟨V, C, H, m, T, t, e, K, l, Ls, hR⟩ := hR0
  obtain ⟨o, P, ho, hx, hm⟩ := b_erased (G := G) (n := n) hR (I 0 (4 * k + 1))
  have hcd := cd_lt ho (by decide)
  refine g_row (fun g0 => ?_)
  refine g_aload_n (pc := 1104) dL_law_1104 rfl rfl ?_
  refine g_aload_n (pc := 1105) dL_law_1105 rfl rfl ?_
  refine g_iload (pc := 1106) dL_law_1106 rfl ?_
  refine g_iconst (v := nI 1) (pc := 1108) dL_law_1108 rfl ?_
  refine g_iaddN (pc := 1109) dL_law_1109 ?_
  refine g_ialoadKN (pc := 1110) dL_law_1110 s_0 (by decide) (by omega) (by omega) rfl ?_
  refine g_aload_n (pc := 1111) dL_law_1111 rfl rfl ?_
  refine g_callH (av := [.ref 3, .int (I 0 (4 * k + 1)), .ref 131]) (st := []) (pc := 1112) dL_law_1112 mh_L_erased lk_L_198p sf_L_erased rfl np_L_erased (gc_r (gc_i (gc_r gc_0))) (Nat.le_of_ble_eq_true rfl) (Nat.le_of_ble_eq_true rfl) ⟨Nat.le_add_left 1 _, Nat.le_add_left 6 _⟩ (g_deep (show 21 ≤ 39 by decide) (w_erased ho (hx L D))) (fun v' h9 _ q => ?_) (fun X h9 q => ?_)
  · obtain ⟨J, ⟨q1, rfl⟩, hP⟩ := q
    cases q1
    refine g_row (fun g1 => ?_)
    have hJ0 : J 0 = I 0 := (g1 0 (by decide)).trans (g0 0 (by decide)).symm
    refine g_istore (pc := 1115) dL_law_1115 (Nat.le_of_ble_eq_true rfl) rfl ?_
    refine g_aload_n (pc := 1117) dL_law_1117 rfl rfl ?_
    refine g_aload_n (pc := 1118) dL_law_1118 rfl rfl ?_
    refine g_iload (pc := 1119) dL_law_1119 rfl ?_
    refine g_iconst (v := nI 1) (pc := 1121) dL_law_1121 rfl ?_
    refine g_iaddN (pc := 1122) dL_law_1122 ?_
    refine g_ialoadKN (pc := 1123) dL_law_1123 s_0 (by decide) (by omega) (by omega) (congrFun hJ0 (4 * k + 1)) ?_
    refine g_riV (av := [.int _]) (pc := 1124) dL_law_1124 mt_X3_erased lk_L_200 im_X3_erased se_X3_erased np_X3_erased s_114 (by decide) (by decide) rfl (gc_i gc_0) (Nat.le_of_ble_eq_true rfl) (Nat.le_of_ble_eq_true rfl) (gRi_deep (show 20 ≤ 39 by decide) (hm J hP (wL L o) D)) ?_
    rintro v K2 ⟨hK2, hth, hv⟩
    refine g_istore (pc := 1127) dL_law_1127 (Nat.le_of_ble_eq_true rfl) rfl ?_
    refine g_aload_n (pc := 1129) dL_law_1129 rfl rfl ?_
    refine g_fV (av := []) (pc := 1130) dL_law_1130 mt_X3_thrown lk_L_144 im_X3_thrown se_X3_thrown np_X3_thrown s_114 (by decide) (by decide) rfl gc_0 (Nat.le_of_ble_eq_true rfl) (Nat.le_of_ble_eq_true rfl) ⟨Nat.zero_le _, Nat.zero_le _⟩ m_X3_thrown ?_
    rw [hth]
    refine g_iload (pc := 1133) dL_law_1133 rfl ?_
    refine g_icmp_eqN (tgt := 1140) (pc := 1135) dL_law_1135 (by decide) (by omega) (by omega) (fun c1135 => ?_) (fun c1135 => ?_)
    rotate_left
    · exact absurd rfl c1135
    refine g_iload (pc := 1140) dL_law_1140 rfl ?_
    refine g_if_neN (tgt := 1157) (pc := 1142) dL_law_1142 (by decide) (by omega) (fun c1142 => ?_) (fun c1142 => ?_)
    · refine g_goto (tgt := 2393) (pc := 1157) dL_law_1157 (by decide) ?_
      refine g_fg 6 (g_fg 7 ?_)
      exact g_bud (by omega) (by omega) (kn _ _ _ hK2)
    · obtain ⟨w, rfl⟩ := cd_0 c1142
      have hvw := hv w rfl
      subst hvw
      refine g_aload_n (pc := 1145) dL_law_1145 rfl rfl ?_
      refine g_iconst (v := nI 0) (pc := 1146) dL_law_1146 rfl ?_
      refine g_laload (pc := 1147) dL_law_1147 s_131 (by decide) (vp_in_nI (by decide) (by decide)) ?_
      rw [wL_at]
      refine g_iload (pc := 1148) dL_law_1148 rfl ?_
      refine g_i2l (pc := 1150) dL_law_1150 ?_
      refine g_lcmp (pc := 1151) dL_law_1151 ?_
      refine g_if_eq (tgt := 1157) (pc := 1152) dL_law_1152 (by decide) (fun c1152 => ?_) (fun c1152 => ?_)
      · refine g_goto (tgt := 2393) (pc := 1157) dL_law_1157 (by decide) ?_
        refine g_fg 6 (g_fg 7 ?_)
        exact g_bud (by omega) (by omega) (kn _ _ _ hK2)
      · exact absurd ((lg_cmp_eq _ _).mpr rfl) c1152
  · obtain ⟨J, ⟨q1, -⟩, -⟩ := q
    cases q1
theorem lc_sum (hR0 : Rel I) {k : Nat} (hk : 4 * k + 4 ≤ n) (hn : n ≤ 2048) {kc ks : Nat} {Q : gQ} (kn : ∀ J L2 D2, Rel J → gGo G gYlaw 40 2393 [some (.ref 0), some (.ref 3), some (.ref 114), some (.ref 131), some (.ref 132), some (.int (nI (4 * k))), none, none, none] [] (hp n J L2 D2) kc ks Q) : gGo G gYlaw 40 1160 [some (.ref 0), some (.ref 3), some (.ref 114), some (.ref 131), some (.ref 132), some (.int (nI (4 * k))), none, none, none] [] (hp n I L D) (kc + 1) (ks + 6) Q := by
  obtain ⟨V, C, H, m, T, t, e, K, l, Ls, hR⟩ := hR0
  obtain ⟨o, P, ho, hx, hm⟩ := b_sum (G := G) (n := n) hR (I 0 (4 * k + 1)) (I 0 (4 * k + 2)) (I 0 (4 * k + 3))
  have hcd := cd_lt ho (by decide)
  refine g_row (fun g0 => ?_)
  refine g_aload_n (pc := 1160) dL_law_1160 rfl rfl ?_
  refine g_aload_n (pc := 1161) dL_law_1161 rfl rfl ?_
  refine g_iload (pc := 1162) dL_law_1162 rfl ?_
  refine g_iconst (v := nI 1) (pc := 1164) dL_law_1164 rfl ?_
  refine g_iaddN (pc := 1165) dL_law_1165 ?_
  refine g_ialoadKN (pc := 1166) dL_law_1166 s_0 (by decide) (by omega) (by omega) rfl ?_
  refine g_aload_n (pc := 1167) dL_law_1167 rfl rfl ?_
  refine g_iload (pc := 1168) dL_law_1168 rfl ?_
  refine g_iconst (v := nI 2) (pc := 1170) dL_law_1170 rfl ?_
  refine g_iaddN (pc := 1171) dL_law_1171 ?_
  refine g_ialoadKN (pc := 1172) dL_law_1172 s_0 (by decide) (by omega) (by omega) rfl ?_
  refine g_aload_n (pc := 1173) dL_law_1173 rfl rfl ?_
  refine g_iload (pc := 1174) dL_law_1174 rfl ?_
  refine g_iconst (v := nI 3) (pc := 1176) dL_law_1176 rfl ?_
  refine g_iaddN (pc := 1177) dL_law_1177 ?_
  refine g_ialoadKN (pc := 1178) dL_law_1178 s_0 (by decide) (by omega) (by omega) rfl ?_
  refine g_aload_n (pc := 1179) dL_law_1179 rfl rfl ?_
  refine g_callH (av := [.ref 3, .int (I 0 (4 * k + 1)), .int (I 0 (4 * k + 2)), .int (I 0 (4 * k + 3)), .ref 131]) (st := []) (pc := 1180) dL_law_1180 mh_L_sum lk_L_201p sf_L_sum rfl np_L_sum (gc_r (gc_i (gc_i (gc_i (gc_r gc_0))))) (Nat.le_of_ble_eq_true rfl) (Nat.le_of_ble_eq_true rfl) ⟨Nat.le_add_left 1 _, Nat.le_add_left 6 _⟩ (g_deep (show 21 ≤ 39 by decide) (w_sum ho (hx L D))) (fun v' h9 _ q => ?_) (fun X h9 q => ?_)
  · obtain ⟨J, ⟨q1, rfl⟩, hP⟩ := q
    cases q1
    refine g_row (fun g1 => ?_)
    have hJ0 : J 0 = I 0 := (g1 0 (by decide)).trans (g0 0 (by decide)).symm
    refine g_istore (pc := 1183) dL_law_1183 (Nat.le_of_ble_eq_true rfl) rfl ?_
    refine g_aload_n (pc := 1185) dL_law_1185 rfl rfl ?_
    refine g_aload_n (pc := 1186) dL_law_1186 rfl rfl ?_
    refine g_iload (pc := 1187) dL_law_1187 rfl ?_
    refine g_iconst (v := nI 1) (pc := 1189) dL_law_1189 rfl ?_
    refine g_iaddN (pc := 1190) dL_law_1190 ?_
    refine g_ialoadKN (pc := 1191) dL_law_1191 s_0 (by decide) (by omega) (by omega) (congrFun hJ0 (4 * k + 1)) ?_
    refine g_aload_n (pc := 1192) dL_law_1192 rfl rfl ?_
    refine g_iload (pc := 1193) dL_law_1193 rfl ?_
    refine g_iconst (v := nI 2) (pc := 1195) dL_law_1195 rfl ?_
    refine g_iaddN (pc := 1196) dL_law_1196 ?_
    refine g_ialoadKN (pc := 1197) dL_law_1197 s_0 (by decide) (by omega) (by omega) (congrFun hJ0 (4 * k + 2)) ?_
    refine g_aload_n (pc := 1198) dL_law_1198 rfl rfl ?_
    refine g_iload (pc := 1199) dL_law_1199 rfl ?_
    refine g_iconst (v := nI 3) (pc := 1201) dL_law_1201 rfl ?_
    refine g_iaddN (pc := 1202) dL_law_1202 ?_
    refine g_ialoadKN (pc := 1203) dL_law_1203 s_0 (by decide) (by omega) (by omega) (congrFun hJ0 (4 * k + 3)) ?_
    refine g_riV (av := [.int _, .int _, .int _]) (pc := 1204) dL_law_1204 mt_X3_sum lk_L_203 im_X3_sum se_X3_sum np_X3_sum s_114 (by decide) (by decide) rfl (gc_i (gc_i (gc_i gc_0))) (Nat.le_of_ble_eq_true rfl) (Nat.le_of_ble_eq_true rfl) (gRi_deep (show 20 ≤ 39 by decide) (hm J hP (wL L o) D)) ?_
    rintro v K2 ⟨hK2, hth, hv⟩
    refine g_istore (pc := 1207) dL_law_1207 (Nat.le_of_ble_eq_true rfl) rfl ?_
    refine g_aload_n (pc := 1209) dL_law_1209 rfl rfl ?_
    refine g_fV (av := []) (pc := 1210) dL_law_1210 mt_X3_thrown lk_L_144 im_X3_thrown se_X3_thrown np_X3_thrown s_114 (by decide) (by decide) rfl gc_0 (Nat.le_of_ble_eq_true rfl) (Nat.le_of_ble_eq_true rfl) ⟨Nat.zero_le _, Nat.zero_le _⟩ m_X3_thrown ?_
    rw [hth]
    refine g_iload (pc := 1213) dL_law_1213 rfl ?_
    refine g_icmp_eqN (tgt := 1220) (pc := 1215) dL_law_1215 (by decide) (by omega) (by omega) (fun c1215 => ?_) (fun c1215 => ?_)
    rotate_left
    · exact absurd rfl c1215
    refine g_iload (pc := 1220) dL_law_1220 rfl ?_
    refine g_if_neN (tgt := 1237) (pc := 1222) dL_law_1222 (by decide) (by omega) (fun c1222 => ?_) (fun c1222 => ?_)
    · refine g_goto (tgt := 2393) (pc := 1237) dL_law_1237 (by decide) ?_
      refine g_fg 6 (g_fg 7 ?_)
      exact g_bud (by omega) (by omega) (kn _ _ _ hK2)
    · obtain ⟨w, rfl⟩ := cd_0 c1222
      have hvw := hv w rfl
      subst hvw
      refine g_aload_n (pc := 1225) dL_law_1225 rfl rfl ?_
      refine g_iconst (v := nI 0) (pc := 1226) dL_law_1226 rfl ?_
      refine g_laload (pc := 1227) dL_law_1227 s_131 (by decide) (vp_in_nI (by decide) (by decide)) ?_
      rw [wL_at]
      refine g_iload (pc := 1228) dL_law_1228 rfl ?_
      refine g_i2l (pc := 1230) dL_law_1230 ?_
      refine g_lcmp (pc := 1231) dL_law_1231 ?_
      refine g_if_eq (tgt := 1237) (pc := 1232) dL_law_1232 (by decide) (fun c1232 => ?_) (fun c1232 => ?_)
      · refine g_goto (tgt := 2393) (pc := 1237) dL_law_1237 (by decide) ?_
        refine g_fg 6 (g_fg 7 ?_)
        exact g_bud (by omega) (by omega) (kn _ _ _ hK2)
      · exact absurd ((lg_cmp_eq _ _).mpr rfl) c1232
  · obtain ⟨J, ⟨q1, -⟩, -⟩ := q
    cases q1
theorem lc_decoded (hR0 : Rel I) {k : Nat} (hk : 4 * k + 4 ≤ n) (hn : n ≤ 2048) {kc ks : Nat} {Q : gQ} (kn : ∀ J L2 D2, Rel J → gGo G gYlaw 40 2393 [some (.ref 0), some (.ref 3), some (.ref 114), some (.ref 131), some (.ref 132), some (.int (nI (4 * k))), none, none, none] [] (hp n J L2 D2) kc ks Q) : gGo G gYlaw 40 1240 [some (.ref 0), some (.ref 3), some (.ref 114), some (.ref 131), some (.ref 132), some (.int (nI (4 * k))), none, none, none] [] (hp n I L D) (kc + 1) (ks + 6) Q := by
  obtain ⟨V, C, H, m, T, t, e, K, l, Ls, hR⟩ := hR0
  obtain ⟨o, P, ho, hx, hm⟩ := b_decoded (G := G) (n := n) hR (I 0 (4 * k + 1)) (I 0 (4 * k + 2)) (I 0 (4 * k + 3))
  have hcd := cd_lt ho (by decide)
  refine g_row (fun g0 => ?_)
  refine g_aload_n (pc := 1240) dL_law_1240 rfl rfl ?_
  refine g_aload_n (pc := 1241) dL_law_1241 rfl rfl ?_
  refine g_iload (pc := 1242) dL_law_1242 rfl ?_
  refine g_iconst (v := nI 1) (pc := 1244) dL_law_1244 rfl ?_
  refine g_iaddN (pc := 1245) dL_law_1245 ?_
  refine g_ialoadKN (pc := 1246) dL_law_1246 s_0 (by decide) (by omega) (by omega) rfl ?_
  refine g_aload_n (pc := 1247) dL_law_1247 rfl rfl ?_
  refine g_iload (pc := 1248) dL_law_1248 rfl ?_
  refine g_iconst (v := nI 2) (pc := 1250) dL_law_1250 rfl ?_
  refine g_iaddN (pc := 1251) dL_law_1251 ?_
  refine g_ialoadKN (pc := 1252) dL_law_1252 s_0 (by decide) (by omega) (by omega) rfl ?_
  refine g_aload_n (pc := 1253) dL_law_1253 rfl rfl ?_
  refine g_iload (pc := 1254) dL_law_1254 rfl ?_
  refine g_iconst (v := nI 3) (pc := 1256) dL_law_1256 rfl ?_
  refine g_iaddN (pc := 1257) dL_law_1257 ?_
  refine g_ialoadKN (pc := 1258) dL_law_1258 s_0 (by decide) (by omega) (by omega) rfl ?_
  refine g_aload_n (pc := 1259) dL_law_1259 rfl rfl ?_
  refine g_callH (av := [.ref 3, .int (I 0 (4 * k + 1)), .int (I 0 (4 * k + 2)), .int (I 0 (4 * k + 3)), .ref 131]) (st := []) (pc := 1260) dL_law_1260 mh_L_decoded lk_L_204p sf_L_decoded rfl np_L_decoded (gc_r (gc_i (gc_i (gc_i (gc_r gc_0))))) (Nat.le_of_ble_eq_true rfl) (Nat.le_of_ble_eq_true rfl) ⟨Nat.le_add_left 1 _, Nat.le_add_left 6 _⟩ (g_deep (show 21 ≤ 39 by decide) (w_decoded ho (hx L D))) (fun v' h9 _ q => ?_) (fun X h9 q => ?_)
  · obtain ⟨J, ⟨q1, rfl⟩, hP⟩ := q
    cases q1
    refine g_row (fun g1 => ?_)
    have hJ0 : J 0 = I 0 := (g1 0 (by decide)).trans (g0 0 (by decide)).symm
    refine g_istore (pc := 1263) dL_law_1263 (Nat.le_of_ble_eq_true rfl) rfl ?_
    refine g_aload_n (pc := 1265) dL_law_1265 rfl rfl ?_
    refine g_aload_n (pc := 1266) dL_law_1266 rfl rfl ?_
    refine g_iload (pc := 1267) dL_law_1267 rfl ?_
    refine g_iconst (v := nI 1) (pc := 1269) dL_law_1269 rfl ?_
    refine g_iaddN (pc := 1270) dL_law_1270 ?_
    refine g_ialoadKN (pc := 1271) dL_law_1271 s_0 (by decide) (by omega) (by omega) (congrFun hJ0 (4 * k + 1)) ?_
    refine g_aload_n (pc := 1272) dL_law_1272 rfl rfl ?_
    refine g_iload (pc := 1273) dL_law_1273 rfl ?_
    refine g_iconst (v := nI 2) (pc := 1275) dL_law_1275 rfl ?_
    refine g_iaddN (pc := 1276) dL_law_1276 ?_
    refine g_ialoadKN (pc := 1277) dL_law_1277 s_0 (by decide) (by omega) (by omega) (congrFun hJ0 (4 * k + 2)) ?_
    refine g_aload_n (pc := 1278) dL_law_1278 rfl rfl ?_
    refine g_iload (pc := 1279) dL_law_1279 rfl ?_
    refine g_iconst (v := nI 3) (pc := 1281) dL_law_1281 rfl ?_
    refine g_iaddN (pc := 1282) dL_law_1282 ?_
    refine g_ialoadKN (pc := 1283) dL_law_1283 s_0 (by decide) (by omega) (by omega) (congrFun hJ0 (4 * k + 3)) ?_
    refine g_riV (av := [.int _, .int _, .int _]) (pc := 1284) dL_law_1284 mt_X3_decoded lk_L_206 im_X3_decoded se_X3_decoded np_X3_decoded s_114 (by decide) (by decide) rfl (gc_i (gc_i (gc_i gc_0))) (Nat.le_of_ble_eq_true rfl) (Nat.le_of_ble_eq_true rfl) (gRi_deep (show 20 ≤ 39 by decide) (hm J hP (wL L o) D)) ?_
    rintro v K2 ⟨hK2, hth, hv⟩
    refine g_istore (pc := 1287) dL_law_1287 (Nat.le_of_ble_eq_true rfl) rfl ?_
    refine g_aload_n (pc := 1289) dL_law_1289 rfl rfl ?_
    refine g_fV (av := []) (pc := 1290) dL_law_1290 mt_X3_thrown lk_L_144 im_X3_thrown se_X3_thrown np_X3_thrown s_114 (by decide) (by decide) rfl gc_0 (Nat.le_of_ble_eq_true rfl) (Nat.le_of_ble_eq_true rfl) ⟨Nat.zero_le _, Nat.zero_le _⟩ m_X3_thrown ?_
    rw [hth]
    refine g_iload (pc := 1293) dL_law_1293 rfl ?_
    refine g_icmp_eqN (tgt := 1300) (pc := 1295) dL_law_1295 (by decide) (by omega) (by omega) (fun c1295 => ?_) (fun c1295 => ?_)
    rotate_left
    · exact absurd rfl c1295
    refine g_iload (pc := 1300) dL_law_1300 rfl ?_
    refine g_if_neN (tgt := 1317) (pc := 1302) dL_law_1302 (by decide) (by omega) (fun c1302 => ?_) (fun c1302 => ?_)
    · refine g_goto (tgt := 2393) (pc := 1317) dL_law_1317 (by decide) ?_
      refine g_fg 6 (g_fg 7 ?_)
      exact g_bud (by omega) (by omega) (kn _ _ _ hK2)
    · obtain ⟨w, rfl⟩ := cd_0 c1302
      have hvw := hv w rfl
      subst hvw
      refine g_aload_n (pc := 1305) dL_law_1305 rfl rfl ?_
      refine g_iconst (v := nI 0) (pc := 1306) dL_law_1306 rfl ?_
      refine g_laload (pc := 1307) dL_law_1307 s_131 (by decide) (vp_in_nI (by decide) (by decide)) ?_
      rw [wL_at]
      refine g_iload (pc := 1308) dL_law_1308 rfl ?_
      refine g_i2l (pc := 1310) dL_law_1310 ?_
      refine g_lcmp (pc := 1311) dL_law_1311 ?_
      refine g_if_eq (tgt := 1317) (pc := 1312) dL_law_1312 (by decide) (fun c1312 => ?_) (fun c1312 => ?_)
      · refine g_goto (tgt := 2393) (pc := 1317) dL_law_1317 (by decide) ?_
        refine g_fg 6 (g_fg 7 ?_)
        exact g_bud (by omega) (by omega) (kn _ _ _ hK2)
      · exact absurd ((lg_cmp_eq _ _).mpr rfl) c1312
  · obtain ⟨J, ⟨q1, -⟩, -⟩ := q
    cases q1
theorem lc_found (hR0 : Rel I) {k : Nat} (hk : 4 * k + 4 ≤ n) (hn : n ≤ 2048) {kc ks : Nat} {Q : gQ} (kn : ∀ J L2 D2, Rel J → gGo G gYlaw 40 2393 [some (.ref 0), some (.ref 3), some (.ref 114), some (.ref 131), some (.ref 132), some (.int (nI (4 * k))), none, none, none] [] (hp n J L2 D2) kc ks Q) : gGo G gYlaw 40 1320 [some (.ref 0), some (.ref 3), some (.ref 114), some (.ref 131), some (.ref 132), some (.int (nI (4 * k))), none, none, none] [] (hp n I L D) (kc + 1) (ks + 6) Q := by
  obtain ⟨V, C, H, m, T, t, e, K, l, Ls, hR⟩ := hR0
  obtain ⟨o, P, ho, hx, hm⟩ := b_found (G := G) (n := n) hR (I 0 (4 * k + 1)) (I 0 (4 * k + 2)) (I 0 (4 * k + 3))
  have hcd := cd_lt ho (by decide)
  refine g_row (fun g0 => ?_)
  refine g_aload_n (pc := 1320) dL_law_1320 rfl rfl ?_
  refine g_aload_n (pc := 1321) dL_law_1321 rfl rfl ?_
  refine g_iload (pc := 1322) dL_law_1322 rfl ?_
  refine g_iconst (v := nI 1) (pc := 1324) dL_law_1324 rfl ?_
  refine g_iaddN (pc := 1325) dL_law_1325 ?_
  refine g_ialoadKN (pc := 1326) dL_law_1326 s_0 (by decide) (by omega) (by omega) rfl ?_
  refine g_aload_n (pc := 1327) dL_law_1327 rfl rfl ?_
  refine g_iload (pc := 1328) dL_law_1328 rfl ?_
  refine g_iconst (v := nI 2) (pc := 1330) dL_law_1330 rfl ?_
  refine g_iaddN (pc := 1331) dL_law_1331 ?_
  refine g_ialoadKN (pc := 1332) dL_law_1332 s_0 (by decide) (by omega) (by omega) rfl ?_
  refine g_aload_n (pc := 1333) dL_law_1333 rfl rfl ?_
  refine g_iload (pc := 1334) dL_law_1334 rfl ?_
  refine g_iconst (v := nI 3) (pc := 1336) dL_law_1336 rfl ?_
  refine g_iaddN (pc := 1337) dL_law_1337 ?_
  refine g_ialoadKN (pc := 1338) dL_law_1338 s_0 (by decide) (by omega) (by omega) rfl ?_
  refine g_aload_n (pc := 1339) dL_law_1339 rfl rfl ?_
  refine g_callH (av := [.ref 3, .int (I 0 (4 * k + 1)), .int (I 0 (4 * k + 2)), .int (I 0 (4 * k + 3)), .ref 131]) (st := []) (pc := 1340) dL_law_1340 mh_L_found lk_L_207p sf_L_found rfl np_L_found (gc_r (gc_i (gc_i (gc_i (gc_r gc_0))))) (Nat.le_of_ble_eq_true rfl) (Nat.le_of_ble_eq_true rfl) ⟨Nat.le_add_left 1 _, Nat.le_add_left 6 _⟩ (g_deep (show 21 ≤ 39 by decide) (w_found ho (hx L D))) (fun v' h9 _ q => ?_) (fun X h9 q => ?_)
  · obtain ⟨J, ⟨q1, rfl⟩, hP⟩ := q
    cases q1
    refine g_row (fun g1 => ?_)
    have hJ0 : J 0 = I 0 := (g1 0 (by decide)).trans (g0 0 (by decide)).symm
    refine g_istore (pc := 1343) dL_law_1343 (Nat.le_of_ble_eq_true rfl) rfl ?_
    refine g_aload_n (pc := 1345) dL_law_1345 rfl rfl ?_
    refine g_aload_n (pc := 1346) dL_law_1346 rfl rfl ?_
    refine g_iload (pc := 1347) dL_law_1347 rfl ?_
    refine g_iconst (v := nI 1) (pc := 1349) dL_law_1349 rfl ?_
    refine g_iaddN (pc := 1350) dL_law_1350 ?_
    refine g_ialoadKN (pc := 1351) dL_law_1351 s_0 (by decide) (by omega) (by omega) (congrFun hJ0 (4 * k + 1)) ?_
    refine g_aload_n (pc := 1352) dL_law_1352 rfl rfl ?_
    refine g_iload (pc := 1353) dL_law_1353 rfl ?_
    refine g_iconst (v := nI 2) (pc := 1355) dL_law_1355 rfl ?_
    refine g_iaddN (pc := 1356) dL_law_1356 ?_
    refine g_ialoadKN (pc := 1357) dL_law_1357 s_0 (by decide) (by omega) (by omega) (congrFun hJ0 (4 * k + 2)) ?_
    refine g_aload_n (pc := 1358) dL_law_1358 rfl rfl ?_
    refine g_iload (pc := 1359) dL_law_1359 rfl ?_
    refine g_iconst (v := nI 3) (pc := 1361) dL_law_1361 rfl ?_
    refine g_iaddN (pc := 1362) dL_law_1362 ?_
    refine g_ialoadKN (pc := 1363) dL_law_1363 s_0 (by decide) (by omega) (by omega) (congrFun hJ0 (4 * k + 3)) ?_
    refine g_riV (av := [.int _, .int _, .int _]) (pc := 1364) dL_law_1364 mt_X3_found lk_L_209 im_X3_found se_X3_found np_X3_found s_114 (by decide) (by decide) rfl (gc_i (gc_i (gc_i gc_0))) (Nat.le_of_ble_eq_true rfl) (Nat.le_of_ble_eq_true rfl) (gRi_deep (show 20 ≤ 39 by decide) (hm J hP (wL L o) D)) ?_
    rintro v K2 ⟨hK2, hth, hv⟩
    refine g_istore (pc := 1367) dL_law_1367 (Nat.le_of_ble_eq_true rfl) rfl ?_
    refine g_aload_n (pc := 1369) dL_law_1369 rfl rfl ?_
    refine g_fV (av := []) (pc := 1370) dL_law_1370 mt_X3_thrown lk_L_144 im_X3_thrown se_X3_thrown np_X3_thrown s_114 (by decide) (by decide) rfl gc_0 (Nat.le_of_ble_eq_true rfl) (Nat.le_of_ble_eq_true rfl) ⟨Nat.zero_le _, Nat.zero_le _⟩ m_X3_thrown ?_
    rw [hth]
    refine g_iload (pc := 1373) dL_law_1373 rfl ?_
    refine g_icmp_eqN (tgt := 1380) (pc := 1375) dL_law_1375 (by decide) (by omega) (by omega) (fun c1375 => ?_) (fun c1375 => ?_)
    rotate_left
    · exact absurd rfl c1375
    refine g_iload (pc := 1380) dL_law_1380 rfl ?_
    refine g_if_neN (tgt := 1397) (pc := 1382) dL_law_1382 (by decide) (by omega) (fun c1382 => ?_) (fun c1382 => ?_)
    · refine g_goto (tgt := 2393) (pc := 1397) dL_law_1397 (by decide) ?_
      refine g_fg 6 (g_fg 7 ?_)
      exact g_bud (by omega) (by omega) (kn _ _ _ hK2)
    · obtain ⟨w, rfl⟩ := cd_0 c1382
      have hvw := hv w rfl
      subst hvw
      refine g_aload_n (pc := 1385) dL_law_1385 rfl rfl ?_
      refine g_iconst (v := nI 0) (pc := 1386) dL_law_1386 rfl ?_
      refine g_laload (pc := 1387) dL_law_1387 s_131 (by decide) (vp_in_nI (by decide) (by decide)) ?_
      rw [wL_at]
      refine g_iload (pc := 1388) dL_law_1388 rfl ?_
      refine g_i2l (pc := 1390) dL_law_1390 ?_
      refine g_lcmp (pc := 1391) dL_law_1391 ?_
      refine g_if_eq (tgt := 1397) (pc := 1392) dL_law_1392 (by decide) (fun c1392 => ?_) (fun c1392 => ?_)
      · refine g_goto (tgt := 2393) (pc := 1397) dL_law_1397 (by decide) ?_
        refine g_fg 6 (g_fg 7 ?_)
        exact g_bud (by omega) (by omega) (kn _ _ _ hK2)
      · exact absurd ((lg_cmp_eq _ _).mpr rfl) c1392
  · obtain ⟨J, ⟨q1, -⟩, -⟩ := q
    cases q1
theorem lc_read (hR0 : Rel I) {k : Nat} (hk : 4 * k + 4 ≤ n) (hn : n ≤ 2048) {kc ks : Nat} {Q : gQ} (kn : ∀ J L2 D2, Rel J → gGo G gYlaw 40 2393 [some (.ref 0), some (.ref 3), some (.ref 114), some (.ref 131), some (.ref 132), some (.int (nI (4 * k))), none, none, none] [] (hp n J L2 D2) kc ks Q) : gGo G gYlaw 40 1400 [some (.ref 0), some (.ref 3), some (.ref 114), some (.ref 131), some (.ref 132), some (.int (nI (4 * k))), none, none, none] [] (hp n I L D) (kc + 1) (ks + 6) Q := by
  obtain ⟨V, C, H, m, T, t, e, K, l, Ls, hR⟩ := hR0
  obtain ⟨o, P, ho, hx, hm⟩ := b_read (G := G) (n := n) hR (I 0 (4 * k + 1)) (I 0 (4 * k + 2))
  have hcd := cd_lt ho (by decide)
  refine g_row (fun g0 => ?_)
  refine g_aload_n (pc := 1400) dL_law_1400 rfl rfl ?_
  refine g_aload_n (pc := 1401) dL_law_1401 rfl rfl ?_
  refine g_iload (pc := 1402) dL_law_1402 rfl ?_
  refine g_iconst (v := nI 1) (pc := 1404) dL_law_1404 rfl ?_
  refine g_iaddN (pc := 1405) dL_law_1405 ?_
  refine g_ialoadKN (pc := 1406) dL_law_1406 s_0 (by decide) (by omega) (by omega) rfl ?_
  refine g_aload_n (pc := 1407) dL_law_1407 rfl rfl ?_
  refine g_iload (pc := 1408) dL_law_1408 rfl ?_
  refine g_iconst (v := nI 2) (pc := 1410) dL_law_1410 rfl ?_
  refine g_iaddN (pc := 1411) dL_law_1411 ?_
  refine g_ialoadKN (pc := 1412) dL_law_1412 s_0 (by decide) (by omega) (by omega) rfl ?_
  refine g_aload_n (pc := 1413) dL_law_1413 rfl rfl ?_
  refine g_callH (av := [.ref 3, .int (I 0 (4 * k + 1)), .int (I 0 (4 * k + 2)), .ref 131]) (st := []) (pc := 1414) dL_law_1414 mh_L_read lk_L_210p sf_L_read rfl np_L_read (gc_r (gc_i (gc_i (gc_r gc_0)))) (Nat.le_of_ble_eq_true rfl) (Nat.le_of_ble_eq_true rfl) ⟨Nat.le_add_left 1 _, Nat.le_add_left 6 _⟩ (g_deep (show 21 ≤ 39 by decide) (w_read ho (hx L D))) (fun v' h9 _ q => ?_) (fun X h9 q => ?_)
  · obtain ⟨J, ⟨q1, rfl⟩, hP⟩ := q
    cases q1
    refine g_row (fun g1 => ?_)
    have hJ0 : J 0 = I 0 := (g1 0 (by decide)).trans (g0 0 (by decide)).symm
    refine g_istore (pc := 1417) dL_law_1417 (Nat.le_of_ble_eq_true rfl) rfl ?_
    refine g_aload_n (pc := 1419) dL_law_1419 rfl rfl ?_
    refine g_aload_n (pc := 1420) dL_law_1420 rfl rfl ?_
    refine g_iload (pc := 1421) dL_law_1421 rfl ?_
    refine g_iconst (v := nI 1) (pc := 1423) dL_law_1423 rfl ?_
    refine g_iaddN (pc := 1424) dL_law_1424 ?_
    refine g_ialoadKN (pc := 1425) dL_law_1425 s_0 (by decide) (by omega) (by omega) (congrFun hJ0 (4 * k + 1)) ?_
    refine g_aload_n (pc := 1426) dL_law_1426 rfl rfl ?_
    refine g_iload (pc := 1427) dL_law_1427 rfl ?_
    refine g_iconst (v := nI 2) (pc := 1429) dL_law_1429 rfl ?_
    refine g_iaddN (pc := 1430) dL_law_1430 ?_
    refine g_ialoadKN (pc := 1431) dL_law_1431 s_0 (by decide) (by omega) (by omega) (congrFun hJ0 (4 * k + 2)) ?_
    refine g_riV (av := [.int _, .int _]) (pc := 1432) dL_law_1432 mt_X3_read lk_L_212 im_X3_read se_X3_read np_X3_read s_114 (by decide) (by decide) rfl (gc_i (gc_i gc_0)) (Nat.le_of_ble_eq_true rfl) (Nat.le_of_ble_eq_true rfl) (gRi_deep (show 20 ≤ 39 by decide) (hm J hP (wL L o) D)) ?_
    rintro v K2 ⟨hK2, hth, hv⟩
    refine g_istore (pc := 1435) dL_law_1435 (Nat.le_of_ble_eq_true rfl) rfl ?_
    refine g_aload_n (pc := 1437) dL_law_1437 rfl rfl ?_
    refine g_fV (av := []) (pc := 1438) dL_law_1438 mt_X3_thrown lk_L_144 im_X3_thrown se_X3_thrown np_X3_thrown s_114 (by decide) (by decide) rfl gc_0 (Nat.le_of_ble_eq_true rfl) (Nat.le_of_ble_eq_true rfl) ⟨Nat.zero_le _, Nat.zero_le _⟩ m_X3_thrown ?_
    rw [hth]
    refine g_iload (pc := 1441) dL_law_1441 rfl ?_
    refine g_icmp_eqN (tgt := 1448) (pc := 1443) dL_law_1443 (by decide) (by omega) (by omega) (fun c1443 => ?_) (fun c1443 => ?_)
    rotate_left
    · exact absurd rfl c1443
    refine g_iload (pc := 1448) dL_law_1448 rfl ?_
    refine g_if_neN (tgt := 1465) (pc := 1450) dL_law_1450 (by decide) (by omega) (fun c1450 => ?_) (fun c1450 => ?_)
    · refine g_goto (tgt := 2393) (pc := 1465) dL_law_1465 (by decide) ?_
      refine g_fg 6 (g_fg 7 ?_)
      exact g_bud (by omega) (by omega) (kn _ _ _ hK2)
    · obtain ⟨w, rfl⟩ := cd_0 c1450
      have hvw := hv w rfl
      subst hvw
      refine g_aload_n (pc := 1453) dL_law_1453 rfl rfl ?_
      refine g_iconst (v := nI 0) (pc := 1454) dL_law_1454 rfl ?_
      refine g_laload (pc := 1455) dL_law_1455 s_131 (by decide) (vp_in_nI (by decide) (by decide)) ?_
      rw [wL_at]
      refine g_iload (pc := 1456) dL_law_1456 rfl ?_
      refine g_i2l (pc := 1458) dL_law_1458 ?_
      refine g_lcmp (pc := 1459) dL_law_1459 ?_
      refine g_if_eq (tgt := 1465) (pc := 1460) dL_law_1460 (by decide) (fun c1460 => ?_) (fun c1460 => ?_)
      · refine g_goto (tgt := 2393) (pc := 1465) dL_law_1465 (by decide) ?_
        refine g_fg 6 (g_fg 7 ?_)
        exact g_bud (by omega) (by omega) (kn _ _ _ hK2)
      · exact absurd ((lg_cmp_eq _ _).mpr rfl) c1460
  · obtain ⟨J, ⟨q1, -⟩, -⟩ := q
    cases q1
theorem lc_condition (hR0 : Rel I) {k : Nat} (hk : 4 * k + 4 ≤ n) (hn : n ≤ 2048) {kc ks : Nat} {Q : gQ} (kn : ∀ J L2 D2, Rel J → gGo G gYlaw 40 2393 [some (.ref 0), some (.ref 3), some (.ref 114), some (.ref 131), some (.ref 132), some (.int (nI (4 * k))), none, none, none] [] (hp n J L2 D2) kc ks Q) : gGo G gYlaw 40 1468 [some (.ref 0), some (.ref 3), some (.ref 114), some (.ref 131), some (.ref 132), some (.int (nI (4 * k))), none, none, none] [] (hp n I L D) (kc + 1) (ks + 6) Q := by
  obtain ⟨V, C, H, m, T, t, e, K, l, Ls, hR⟩ := hR0
  obtain ⟨o, P, ho, hx, hm⟩ := b_condition (G := G) (n := n) hR (I 0 (4 * k + 1))
  have hcd := cd_lt ho (by decide)
  refine g_row (fun g0 => ?_)
  refine g_aload_n (pc := 1468) dL_law_1468 rfl rfl ?_
  refine g_aload_n (pc := 1469) dL_law_1469 rfl rfl ?_
  refine g_iload (pc := 1470) dL_law_1470 rfl ?_
  refine g_iconst (v := nI 1) (pc := 1472) dL_law_1472 rfl ?_
  refine g_iaddN (pc := 1473) dL_law_1473 ?_
  refine g_ialoadKN (pc := 1474) dL_law_1474 s_0 (by decide) (by omega) (by omega) rfl ?_
  refine g_aload_n (pc := 1475) dL_law_1475 rfl rfl ?_
  refine g_callH (av := [.ref 3, .int (I 0 (4 * k + 1)), .ref 131]) (st := []) (pc := 1476) dL_law_1476 mh_L_condition lk_L_213p sf_L_condition rfl np_L_condition (gc_r (gc_i (gc_r gc_0))) (Nat.le_of_ble_eq_true rfl) (Nat.le_of_ble_eq_true rfl) ⟨Nat.le_add_left 1 _, Nat.le_add_left 6 _⟩ (g_deep (show 21 ≤ 39 by decide) (w_condition ho (hx L D))) (fun v' h9 _ q => ?_) (fun X h9 q => ?_)
  · obtain ⟨J, ⟨q1, rfl⟩, hP⟩ := q
    cases q1
    refine g_row (fun g1 => ?_)
    have hJ0 : J 0 = I 0 := (g1 0 (by decide)).trans (g0 0 (by decide)).symm
    refine g_istore (pc := 1479) dL_law_1479 (Nat.le_of_ble_eq_true rfl) rfl ?_
    refine g_aload_n (pc := 1481) dL_law_1481 rfl rfl ?_
    refine g_aload_n (pc := 1482) dL_law_1482 rfl rfl ?_
    refine g_iload (pc := 1483) dL_law_1483 rfl ?_
    refine g_iconst (v := nI 1) (pc := 1485) dL_law_1485 rfl ?_
    refine g_iaddN (pc := 1486) dL_law_1486 ?_
    refine g_ialoadKN (pc := 1487) dL_law_1487 s_0 (by decide) (by omega) (by omega) (congrFun hJ0 (4 * k + 1)) ?_
    refine g_riV (av := [.int _]) (pc := 1488) dL_law_1488 mt_X3_condition lk_L_215 im_X3_condition se_X3_condition np_X3_condition s_114 (by decide) (by decide) rfl (gc_i gc_0) (Nat.le_of_ble_eq_true rfl) (Nat.le_of_ble_eq_true rfl) (gRi_deep (show 20 ≤ 39 by decide) (hm J hP (wL L o) D)) ?_
    rintro v K2 ⟨hK2, hth, hv⟩
    refine g_istore (pc := 1491) dL_law_1491 (Nat.le_of_ble_eq_true rfl) rfl ?_
    refine g_aload_n (pc := 1493) dL_law_1493 rfl rfl ?_
    refine g_fV (av := []) (pc := 1494) dL_law_1494 mt_X3_thrown lk_L_144 im_X3_thrown se_X3_thrown np_X3_thrown s_114 (by decide) (by decide) rfl gc_0 (Nat.le_of_ble_eq_true rfl) (Nat.le_of_ble_eq_true rfl) ⟨Nat.zero_le _, Nat.zero_le _⟩ m_X3_thrown ?_
    rw [hth]
    refine g_iload (pc := 1497) dL_law_1497 rfl ?_
    refine g_icmp_eqN (tgt := 1504) (pc := 1499) dL_law_1499 (by decide) (by omega) (by omega) (fun c1499 => ?_) (fun c1499 => ?_)
    rotate_left
    · exact absurd rfl c1499
    refine g_iload (pc := 1504) dL_law_1504 rfl ?_
    refine g_if_neN (tgt := 1521) (pc := 1506) dL_law_1506 (by decide) (by omega) (fun c1506 => ?_) (fun c1506 => ?_)
    · refine g_goto (tgt := 2393) (pc := 1521) dL_law_1521 (by decide) ?_
      refine g_fg 6 (g_fg 7 ?_)
      exact g_bud (by omega) (by omega) (kn _ _ _ hK2)
    · obtain ⟨w, rfl⟩ := cd_0 c1506
      have hvw := hv w rfl
      subst hvw
      refine g_aload_n (pc := 1509) dL_law_1509 rfl rfl ?_
      refine g_iconst (v := nI 0) (pc := 1510) dL_law_1510 rfl ?_
      refine g_laload (pc := 1511) dL_law_1511 s_131 (by decide) (vp_in_nI (by decide) (by decide)) ?_
      rw [wL_at]
      refine g_iload (pc := 1512) dL_law_1512 rfl ?_
      refine g_i2l (pc := 1514) dL_law_1514 ?_
      refine g_lcmp (pc := 1515) dL_law_1515 ?_
      refine g_if_eq (tgt := 1521) (pc := 1516) dL_law_1516 (by decide) (fun c1516 => ?_) (fun c1516 => ?_)
      · refine g_goto (tgt := 2393) (pc := 1521) dL_law_1521 (by decide) ?_
        refine g_fg 6 (g_fg 7 ?_)
        exact g_bud (by omega) (by omega) (kn _ _ _ hK2)
      · exact absurd ((lg_cmp_eq _ _).mpr rfl) c1516
  · obtain ⟨J, ⟨q1, -⟩, -⟩ := q
    cases q1
theorem lc_undecodable (hR0 : Rel I) {k : Nat} (hk : 4 * k + 4 ≤ n) (hn : n ≤ 2048) {kc ks : Nat} {Q : gQ} (kn : ∀ J L2 D2, Rel J → gGo G gYlaw 40 2393 [some (.ref 0), some (.ref 3), some (.ref 114), some (.ref 131), some (.ref 132), some (.int (nI (4 * k))), none, none, none] [] (hp n J L2 D2) kc ks Q) : gGo G gYlaw 40 1524 [some (.ref 0), some (.ref 3), some (.ref 114), some (.ref 131), some (.ref 132), some (.int (nI (4 * k))), none, none, none] [] (hp n I L D) (kc + 1) (ks + 6) Q := by
  obtain ⟨V, C, H, m, T, t, e, K, l, Ls, hR⟩ := hR0
  obtain ⟨o, P, ho, hx, hm⟩ := b_undecodable (G := G) (n := n) hR (I 0 (4 * k + 1))
  have hcd := cd_lt ho (by decide)
  refine g_row (fun g0 => ?_)
  refine g_aload_n (pc := 1524) dL_law_1524 rfl rfl ?_
  refine g_aload_n (pc := 1525) dL_law_1525 rfl rfl ?_
  refine g_iload (pc := 1526) dL_law_1526 rfl ?_
  refine g_iconst (v := nI 1) (pc := 1528) dL_law_1528 rfl ?_
  refine g_iaddN (pc := 1529) dL_law_1529 ?_
  refine g_ialoadKN (pc := 1530) dL_law_1530 s_0 (by decide) (by omega) (by omega) rfl ?_
  refine g_aload_n (pc := 1531) dL_law_1531 rfl rfl ?_
  refine g_callH (av := [.ref 3, .int (I 0 (4 * k + 1)), .ref 131]) (st := []) (pc := 1532) dL_law_1532 mh_L_undecodable lk_L_216p sf_L_undecodable rfl np_L_undecodable (gc_r (gc_i (gc_r gc_0))) (Nat.le_of_ble_eq_true rfl) (Nat.le_of_ble_eq_true rfl) ⟨Nat.le_add_left 1 _, Nat.le_add_left 6 _⟩ (g_deep (show 21 ≤ 39 by decide) (w_undecodable ho (hx L D))) (fun v' h9 _ q => ?_) (fun X h9 q => ?_)
  · obtain ⟨J, ⟨q1, rfl⟩, hP⟩ := q
    cases q1
    refine g_row (fun g1 => ?_)
    have hJ0 : J 0 = I 0 := (g1 0 (by decide)).trans (g0 0 (by decide)).symm
    refine g_istore (pc := 1535) dL_law_1535 (Nat.le_of_ble_eq_true rfl) rfl ?_
    refine g_aload_n (pc := 1537) dL_law_1537 rfl rfl ?_
    refine g_aload_n (pc := 1538) dL_law_1538 rfl rfl ?_
    refine g_iload (pc := 1539) dL_law_1539 rfl ?_
    refine g_iconst (v := nI 1) (pc := 1541) dL_law_1541 rfl ?_
    refine g_iaddN (pc := 1542) dL_law_1542 ?_
    refine g_ialoadKN (pc := 1543) dL_law_1543 s_0 (by decide) (by omega) (by omega) (congrFun hJ0 (4 * k + 1)) ?_
    refine g_riV (av := [.int _]) (pc := 1544) dL_law_1544 mt_X3_undecodable lk_L_218 im_X3_undecodable se_X3_undecodable np_X3_undecodable s_114 (by decide) (by decide) rfl (gc_i gc_0) (Nat.le_of_ble_eq_true rfl) (Nat.le_of_ble_eq_true rfl) (gRi_deep (show 20 ≤ 39 by decide) (hm J hP (wL L o) D)) ?_
    rintro v K2 ⟨hK2, hth, hv⟩
    refine g_istore (pc := 1547) dL_law_1547 (Nat.le_of_ble_eq_true rfl) rfl ?_
    refine g_aload_n (pc := 1549) dL_law_1549 rfl rfl ?_
    refine g_fV (av := []) (pc := 1550) dL_law_1550 mt_X3_thrown lk_L_144 im_X3_thrown se_X3_thrown np_X3_thrown s_114 (by decide) (by decide) rfl gc_0 (Nat.le_of_ble_eq_true rfl) (Nat.le_of_ble_eq_true rfl) ⟨Nat.zero_le _, Nat.zero_le _⟩ m_X3_thrown ?_
    rw [hth]
    refine g_iload (pc := 1553) dL_law_1553 rfl ?_
    refine g_icmp_eqN (tgt := 1560) (pc := 1555) dL_law_1555 (by decide) (by omega) (by omega) (fun c1555 => ?_) (fun c1555 => ?_)
    rotate_left
    · exact absurd rfl c1555
    refine g_iload (pc := 1560) dL_law_1560 rfl ?_
    refine g_if_neN (tgt := 1577) (pc := 1562) dL_law_1562 (by decide) (by omega) (fun c1562 => ?_) (fun c1562 => ?_)
    · refine g_goto (tgt := 2393) (pc := 1577) dL_law_1577 (by decide) ?_
      refine g_fg 6 (g_fg 7 ?_)
      exact g_bud (by omega) (by omega) (kn _ _ _ hK2)
    · obtain ⟨w, rfl⟩ := cd_0 c1562
      have hvw := hv w rfl
      subst hvw
      refine g_aload_n (pc := 1565) dL_law_1565 rfl rfl ?_
      refine g_iconst (v := nI 0) (pc := 1566) dL_law_1566 rfl ?_
      refine g_laload (pc := 1567) dL_law_1567 s_131 (by decide) (vp_in_nI (by decide) (by decide)) ?_
      rw [wL_at]
      refine g_iload (pc := 1568) dL_law_1568 rfl ?_
      refine g_i2l (pc := 1570) dL_law_1570 ?_
      refine g_lcmp (pc := 1571) dL_law_1571 ?_
      refine g_if_eq (tgt := 1577) (pc := 1572) dL_law_1572 (by decide) (fun c1572 => ?_) (fun c1572 => ?_)
      · refine g_goto (tgt := 2393) (pc := 1577) dL_law_1577 (by decide) ?_
        refine g_fg 6 (g_fg 7 ?_)
        exact g_bud (by omega) (by omega) (kn _ _ _ hK2)
      · exact absurd ((lg_cmp_eq _ _).mpr rfl) c1572
  · obtain ⟨J, ⟨q1, -⟩, -⟩ := q
    cases q1
theorem lc_margin (hR0 : Rel I) {k : Nat} (hk : 4 * k + 4 ≤ n) (hn : n ≤ 2048) {kc ks : Nat} {Q : gQ} (kn : ∀ J L2 D2, Rel J → gGo G gYlaw 40 2393 [some (.ref 0), some (.ref 3), some (.ref 114), some (.ref 131), some (.ref 132), some (.int (nI (4 * k))), none, none, none] [] (hp n J L2 D2) kc ks Q) : gGo G gYlaw 40 1580 [some (.ref 0), some (.ref 3), some (.ref 114), some (.ref 131), some (.ref 132), some (.int (nI (4 * k))), none, none, none] [] (hp n I L D) (kc + 1) (ks + 6) Q := by
  obtain ⟨V, C, H, m, T, t, e, K, l, Ls, hR⟩ := hR0
  obtain ⟨o, P, ho, hx, hm⟩ := b_margin (G := G) (n := n) hR (I 0 (4 * k + 1)) (I 0 (4 * k + 2))
  have hcd := cd_lt ho (by decide)
  refine g_row (fun g0 => ?_)
  refine g_aload_n (pc := 1580) dL_law_1580 rfl rfl ?_
  refine g_aload_n (pc := 1581) dL_law_1581 rfl rfl ?_
  refine g_iload (pc := 1582) dL_law_1582 rfl ?_
  refine g_iconst (v := nI 1) (pc := 1584) dL_law_1584 rfl ?_
  refine g_iaddN (pc := 1585) dL_law_1585 ?_
  refine g_ialoadKN (pc := 1586) dL_law_1586 s_0 (by decide) (by omega) (by omega) rfl ?_
  refine g_aload_n (pc := 1587) dL_law_1587 rfl rfl ?_
  refine g_iload (pc := 1588) dL_law_1588 rfl ?_
  refine g_iconst (v := nI 2) (pc := 1590) dL_law_1590 rfl ?_
  refine g_iaddN (pc := 1591) dL_law_1591 ?_
  refine g_ialoadKN (pc := 1592) dL_law_1592 s_0 (by decide) (by omega) (by omega) rfl ?_
  refine g_aload_n (pc := 1593) dL_law_1593 rfl rfl ?_
  refine g_callH (av := [.ref 3, .int (I 0 (4 * k + 1)), .int (I 0 (4 * k + 2)), .ref 131]) (st := []) (pc := 1594) dL_law_1594 mh_L_margin lk_L_219p sf_L_margin rfl np_L_margin (gc_r (gc_i (gc_i (gc_r gc_0)))) (Nat.le_of_ble_eq_true rfl) (Nat.le_of_ble_eq_true rfl) ⟨Nat.le_add_left 1 _, Nat.le_add_left 6 _⟩ (g_deep (show 21 ≤ 39 by decide) (w_margin ho (hx L D))) (fun v' h9 _ q => ?_) (fun X h9 q => ?_)
  · obtain ⟨J, ⟨q1, rfl⟩, hP⟩ := q
    cases q1
    refine g_row (fun g1 => ?_)
    have hJ0 : J 0 = I 0 := (g1 0 (by decide)).trans (g0 0 (by decide)).symm
    refine g_istore (pc := 1597) dL_law_1597 (Nat.le_of_ble_eq_true rfl) rfl ?_
    refine g_aload_n (pc := 1599) dL_law_1599 rfl rfl ?_
    refine g_aload_n (pc := 1600) dL_law_1600 rfl rfl ?_
    refine g_iload (pc := 1601) dL_law_1601 rfl ?_
    refine g_iconst (v := nI 1) (pc := 1603) dL_law_1603 rfl ?_
    refine g_iaddN (pc := 1604) dL_law_1604 ?_
    refine g_ialoadKN (pc := 1605) dL_law_1605 s_0 (by decide) (by omega) (by omega) (congrFun hJ0 (4 * k + 1)) ?_
    refine g_aload_n (pc := 1606) dL_law_1606 rfl rfl ?_
    refine g_iload (pc := 1607) dL_law_1607 rfl ?_
    refine g_iconst (v := nI 2) (pc := 1609) dL_law_1609 rfl ?_
    refine g_iaddN (pc := 1610) dL_law_1610 ?_
    refine g_ialoadKN (pc := 1611) dL_law_1611 s_0 (by decide) (by omega) (by omega) (congrFun hJ0 (4 * k + 2)) ?_
    refine g_riV (av := [.int _, .int _]) (pc := 1612) dL_law_1612 mt_X3_margin lk_L_221 im_X3_margin se_X3_margin np_X3_margin s_114 (by decide) (by decide) rfl (gc_i (gc_i gc_0)) (Nat.le_of_ble_eq_true rfl) (Nat.le_of_ble_eq_true rfl) (gRi_deep (show 20 ≤ 39 by decide) (hm J hP (wL L o) D)) ?_
    rintro v K2 ⟨hK2, hth, hv⟩
    refine g_istore (pc := 1615) dL_law_1615 (Nat.le_of_ble_eq_true rfl) rfl ?_
    refine g_aload_n (pc := 1617) dL_law_1617 rfl rfl ?_
    refine g_fV (av := []) (pc := 1618) dL_law_1618 mt_X3_thrown lk_L_144 im_X3_thrown se_X3_thrown np_X3_thrown s_114 (by decide) (by decide) rfl gc_0 (Nat.le_of_ble_eq_true rfl) (Nat.le_of_ble_eq_true rfl) ⟨Nat.zero_le _, Nat.zero_le _⟩ m_X3_thrown ?_
    rw [hth]
    refine g_iload (pc := 1621) dL_law_1621 rfl ?_
    refine g_icmp_eqN (tgt := 1628) (pc := 1623) dL_law_1623 (by decide) (by omega) (by omega) (fun c1623 => ?_) (fun c1623 => ?_)
    rotate_left
    · exact absurd rfl c1623
    refine g_iload (pc := 1628) dL_law_1628 rfl ?_
    refine g_if_neN (tgt := 1645) (pc := 1630) dL_law_1630 (by decide) (by omega) (fun c1630 => ?_) (fun c1630 => ?_)
    · refine g_goto (tgt := 2393) (pc := 1645) dL_law_1645 (by decide) ?_
      refine g_fg 6 (g_fg 7 ?_)
      exact g_bud (by omega) (by omega) (kn _ _ _ hK2)
    · obtain ⟨w, rfl⟩ := cd_0 c1630
      have hvw := hv w rfl
      subst hvw
      refine g_aload_n (pc := 1633) dL_law_1633 rfl rfl ?_
      refine g_iconst (v := nI 0) (pc := 1634) dL_law_1634 rfl ?_
      refine g_laload (pc := 1635) dL_law_1635 s_131 (by decide) (vp_in_nI (by decide) (by decide)) ?_
      rw [wL_at]
      refine g_iload (pc := 1636) dL_law_1636 rfl ?_
      refine g_i2l (pc := 1638) dL_law_1638 ?_
      refine g_lcmp (pc := 1639) dL_law_1639 ?_
      refine g_if_eq (tgt := 1645) (pc := 1640) dL_law_1640 (by decide) (fun c1640 => ?_) (fun c1640 => ?_)
      · refine g_goto (tgt := 2393) (pc := 1645) dL_law_1645 (by decide) ?_
        refine g_fg 6 (g_fg 7 ?_)
        exact g_bud (by omega) (by omega) (kn _ _ _ hK2)
      · exact absurd ((lg_cmp_eq _ _).mpr rfl) c1640
  · obtain ⟨J, ⟨q1, -⟩, -⟩ := q
    cases q1
theorem lc_burstLimit (hR0 : Rel I) {k : Nat} (hk : 4 * k + 4 ≤ n) (hn : n ≤ 2048) {kc ks : Nat} {Q : gQ} (kn : ∀ J L2 D2, Rel J → gGo G gYlaw 40 2393 [some (.ref 0), some (.ref 3), some (.ref 114), some (.ref 131), some (.ref 132), some (.int (nI (4 * k))), none, none, none] [] (hp n J L2 D2) kc ks Q) : gGo G gYlaw 40 1648 [some (.ref 0), some (.ref 3), some (.ref 114), some (.ref 131), some (.ref 132), some (.int (nI (4 * k))), none, none, none] [] (hp n I L D) (kc + 1) (ks + 6) Q := by
  obtain ⟨V, C, H, m, T, t, e, K, l, Ls, hR⟩ := hR0
  obtain ⟨o, P, ho, hx, hm⟩ := b_burstLimit (G := G) (n := n) hR (I 0 (4 * k + 1))
  have hcd := cd_lt ho (by decide)
  refine g_row (fun g0 => ?_)
  refine g_aload_n (pc := 1648) dL_law_1648 rfl rfl ?_
  refine g_aload_n (pc := 1649) dL_law_1649 rfl rfl ?_
  refine g_iload (pc := 1650) dL_law_1650 rfl ?_
  refine g_iconst (v := nI 1) (pc := 1652) dL_law_1652 rfl ?_
  refine g_iaddN (pc := 1653) dL_law_1653 ?_
  refine g_ialoadKN (pc := 1654) dL_law_1654 s_0 (by decide) (by omega) (by omega) rfl ?_
  refine g_aload_n (pc := 1655) dL_law_1655 rfl rfl ?_
  refine g_callH (av := [.ref 3, .int (I 0 (4 * k + 1)), .ref 131]) (st := []) (pc := 1656) dL_law_1656 mh_L_burstLimit lk_L_222p sf_L_burstLimit rfl np_L_burstLimit (gc_r (gc_i (gc_r gc_0))) (Nat.le_of_ble_eq_true rfl) (Nat.le_of_ble_eq_true rfl) ⟨Nat.le_add_left 1 _, Nat.le_add_left 6 _⟩ (g_deep (show 21 ≤ 39 by decide) (w_burstLimit ho (hx L D))) (fun v' h9 _ q => ?_) (fun X h9 q => ?_)
  · obtain ⟨J, ⟨q1, rfl⟩, hP⟩ := q
    cases q1
    refine g_row (fun g1 => ?_)
    have hJ0 : J 0 = I 0 := (g1 0 (by decide)).trans (g0 0 (by decide)).symm
    refine g_istore (pc := 1659) dL_law_1659 (Nat.le_of_ble_eq_true rfl) rfl ?_
    refine g_aload_n (pc := 1661) dL_law_1661 rfl rfl ?_
    refine g_aload_n (pc := 1662) dL_law_1662 rfl rfl ?_
    refine g_iload (pc := 1663) dL_law_1663 rfl ?_
    refine g_iconst (v := nI 1) (pc := 1665) dL_law_1665 rfl ?_
    refine g_iaddN (pc := 1666) dL_law_1666 ?_
    refine g_ialoadKN (pc := 1667) dL_law_1667 s_0 (by decide) (by omega) (by omega) (congrFun hJ0 (4 * k + 1)) ?_
    refine g_riV (av := [.int _]) (pc := 1668) dL_law_1668 mt_X3_burstLimit lk_L_224 im_X3_burstLimit se_X3_burstLimit np_X3_burstLimit s_114 (by decide) (by decide) rfl (gc_i gc_0) (Nat.le_of_ble_eq_true rfl) (Nat.le_of_ble_eq_true rfl) (gRi_deep (show 20 ≤ 39 by decide) (hm J hP (wL L o) D)) ?_
    rintro v K2 ⟨hK2, hth, hv⟩
    refine g_istore (pc := 1671) dL_law_1671 (Nat.le_of_ble_eq_true rfl) rfl ?_
    refine g_aload_n (pc := 1673) dL_law_1673 rfl rfl ?_
    refine g_fV (av := []) (pc := 1674) dL_law_1674 mt_X3_thrown lk_L_144 im_X3_thrown se_X3_thrown np_X3_thrown s_114 (by decide) (by decide) rfl gc_0 (Nat.le_of_ble_eq_true rfl) (Nat.le_of_ble_eq_true rfl) ⟨Nat.zero_le _, Nat.zero_le _⟩ m_X3_thrown ?_
    rw [hth]
    refine g_iload (pc := 1677) dL_law_1677 rfl ?_
    refine g_icmp_eqN (tgt := 1684) (pc := 1679) dL_law_1679 (by decide) (by omega) (by omega) (fun c1679 => ?_) (fun c1679 => ?_)
    rotate_left
    · exact absurd rfl c1679
    refine g_iload (pc := 1684) dL_law_1684 rfl ?_
    refine g_if_neN (tgt := 1701) (pc := 1686) dL_law_1686 (by decide) (by omega) (fun c1686 => ?_) (fun c1686 => ?_)
    · refine g_goto (tgt := 2393) (pc := 1701) dL_law_1701 (by decide) ?_
      refine g_fg 6 (g_fg 7 ?_)
      exact g_bud (by omega) (by omega) (kn _ _ _ hK2)
    · obtain ⟨w, rfl⟩ := cd_0 c1686
      have hvw := hv w rfl
      subst hvw
      refine g_aload_n (pc := 1689) dL_law_1689 rfl rfl ?_
      refine g_iconst (v := nI 0) (pc := 1690) dL_law_1690 rfl ?_
      refine g_laload (pc := 1691) dL_law_1691 s_131 (by decide) (vp_in_nI (by decide) (by decide)) ?_
      rw [wL_at]
      refine g_iload (pc := 1692) dL_law_1692 rfl ?_
      refine g_i2l (pc := 1694) dL_law_1694 ?_
      refine g_lcmp (pc := 1695) dL_law_1695 ?_
      refine g_if_eq (tgt := 1701) (pc := 1696) dL_law_1696 (by decide) (fun c1696 => ?_) (fun c1696 => ?_)
      · refine g_goto (tgt := 2393) (pc := 1701) dL_law_1701 (by decide) ?_
        refine g_fg 6 (g_fg 7 ?_)
        exact g_bud (by omega) (by omega) (kn _ _ _ hK2)
      · exact absurd ((lg_cmp_eq _ _).mpr rfl) c1696
  · obtain ⟨J, ⟨q1, -⟩, -⟩ := q
    cases q1
theorem lc_advance (hR0 : Rel I) {k : Nat} (hk : 4 * k + 4 ≤ n) (hn : n ≤ 2048) {kc ks : Nat} {Q : gQ} (kn : ∀ J L2 D2, Rel J → gGo G gYlaw 40 2393 [some (.ref 0), some (.ref 3), some (.ref 114), some (.ref 131), some (.ref 132), some (.int (nI (4 * k))), none, none, none] [] (hp n J L2 D2) kc ks Q) : gGo G gYlaw 40 1704 [some (.ref 0), some (.ref 3), some (.ref 114), some (.ref 131), some (.ref 132), some (.int (nI (4 * k))), none, none, none] [] (hp n I L D) (kc + 1) (ks + 6) Q := by
  obtain ⟨V, C, H, m, T, t, e, K, l, Ls, hR⟩ := hR0
  obtain ⟨o, P, ho, hx, hm⟩ := b_advance (G := G) (n := n) hR (I 0 (4 * k + 1))
  have hcd := cd_lt ho (by decide)
  refine g_row (fun g0 => ?_)
  refine g_aload_n (pc := 1704) dL_law_1704 rfl rfl ?_
  refine g_aload_n (pc := 1705) dL_law_1705 rfl rfl ?_
  refine g_iload (pc := 1706) dL_law_1706 rfl ?_
  refine g_iconst (v := nI 1) (pc := 1708) dL_law_1708 rfl ?_
  refine g_iaddN (pc := 1709) dL_law_1709 ?_
  refine g_ialoadKN (pc := 1710) dL_law_1710 s_0 (by decide) (by omega) (by omega) rfl ?_
  refine g_aload_n (pc := 1711) dL_law_1711 rfl rfl ?_
  refine g_callH (av := [.ref 3, .int (I 0 (4 * k + 1)), .ref 131]) (st := []) (pc := 1712) dL_law_1712 mh_L_advance lk_L_225p sf_L_advance rfl np_L_advance (gc_r (gc_i (gc_r gc_0))) (Nat.le_of_ble_eq_true rfl) (Nat.le_of_ble_eq_true rfl) ⟨Nat.le_add_left 1 _, Nat.le_add_left 6 _⟩ (g_deep (show 21 ≤ 39 by decide) (w_advance ho (hx L D))) (fun v' h9 _ q => ?_) (fun X h9 q => ?_)
  · obtain ⟨J, ⟨q1, rfl⟩, hP⟩ := q
    cases q1
    refine g_row (fun g1 => ?_)
    have hJ0 : J 0 = I 0 := (g1 0 (by decide)).trans (g0 0 (by decide)).symm
    refine g_istore (pc := 1715) dL_law_1715 (Nat.le_of_ble_eq_true rfl) rfl ?_
    refine g_aload_n (pc := 1717) dL_law_1717 rfl rfl ?_
    refine g_aload_n (pc := 1718) dL_law_1718 rfl rfl ?_
    refine g_iload (pc := 1719) dL_law_1719 rfl ?_
    refine g_iconst (v := nI 1) (pc := 1721) dL_law_1721 rfl ?_
    refine g_iaddN (pc := 1722) dL_law_1722 ?_
    refine g_ialoadKN (pc := 1723) dL_law_1723 s_0 (by decide) (by omega) (by omega) (congrFun hJ0 (4 * k + 1)) ?_
    refine g_riV (av := [.int _]) (pc := 1724) dL_law_1724 mt_X3_advance lk_L_227 im_X3_advance se_X3_advance np_X3_advance s_114 (by decide) (by decide) rfl (gc_i gc_0) (Nat.le_of_ble_eq_true rfl) (Nat.le_of_ble_eq_true rfl) (gRi_deep (show 20 ≤ 39 by decide) (hm J hP (wL L o) D)) ?_
    rintro v K2 ⟨hK2, hth, hv⟩
    refine g_istore (pc := 1727) dL_law_1727 (Nat.le_of_ble_eq_true rfl) rfl ?_
    refine g_aload_n (pc := 1729) dL_law_1729 rfl rfl ?_
    refine g_fV (av := []) (pc := 1730) dL_law_1730 mt_X3_thrown lk_L_144 im_X3_thrown se_X3_thrown np_X3_thrown s_114 (by decide) (by decide) rfl gc_0 (Nat.le_of_ble_eq_true rfl) (Nat.le_of_ble_eq_true rfl) ⟨Nat.zero_le _, Nat.zero_le _⟩ m_X3_thrown ?_
    rw [hth]
    refine g_iload (pc := 1733) dL_law_1733 rfl ?_
    refine g_icmp_eqN (tgt := 1740) (pc := 1735) dL_law_1735 (by decide) (by omega) (by omega) (fun c1735 => ?_) (fun c1735 => ?_)
    rotate_left
    · exact absurd rfl c1735
    refine g_iload (pc := 1740) dL_law_1740 rfl ?_
    refine g_if_neN (tgt := 1757) (pc := 1742) dL_law_1742 (by decide) (by omega) (fun c1742 => ?_) (fun c1742 => ?_)
    · refine g_goto (tgt := 2393) (pc := 1757) dL_law_1757 (by decide) ?_
      refine g_fg 6 (g_fg 7 ?_)
      exact g_bud (by omega) (by omega) (kn _ _ _ hK2)
    · obtain ⟨w, rfl⟩ := cd_0 c1742
      have hvw := hv w rfl
      subst hvw
      refine g_aload_n (pc := 1745) dL_law_1745 rfl rfl ?_
      refine g_iconst (v := nI 0) (pc := 1746) dL_law_1746 rfl ?_
      refine g_laload (pc := 1747) dL_law_1747 s_131 (by decide) (vp_in_nI (by decide) (by decide)) ?_
      rw [wL_at]
      refine g_iload (pc := 1748) dL_law_1748 rfl ?_
      refine g_i2l (pc := 1750) dL_law_1750 ?_
      refine g_lcmp (pc := 1751) dL_law_1751 ?_
      refine g_if_eq (tgt := 1757) (pc := 1752) dL_law_1752 (by decide) (fun c1752 => ?_) (fun c1752 => ?_)
      · refine g_goto (tgt := 2393) (pc := 1757) dL_law_1757 (by decide) ?_
        refine g_fg 6 (g_fg 7 ?_)
        exact g_bud (by omega) (by omega) (kn _ _ _ hK2)
      · exact absurd ((lg_cmp_eq _ _).mpr rfl) c1752
  · obtain ⟨J, ⟨q1, -⟩, -⟩ := q
    cases q1
theorem lc_scrub (hR0 : Rel I) {k : Nat} (hk : 4 * k + 4 ≤ n) (hn : n ≤ 2048) {kc ks : Nat} {Q : gQ} (kn : ∀ J L2 D2, Rel J → gGo G gYlaw 40 2393 [some (.ref 0), some (.ref 3), some (.ref 114), some (.ref 131), some (.ref 132), some (.int (nI (4 * k))), none, none, none] [] (hp n J L2 D2) kc ks Q) : gGo G gYlaw 40 1760 [some (.ref 0), some (.ref 3), some (.ref 114), some (.ref 131), some (.ref 132), some (.int (nI (4 * k))), none, none, none] [] (hp n I L D) (kc + 1) (ks + 6) Q := by
  obtain ⟨V, C, H, m, T, t, e, K, l, Ls, hR⟩ := hR0
  obtain ⟨o, P, ho, hx, hm⟩ := b_scrub (G := G) (n := n) hR (I 0 (4 * k + 1))
  have hcd := cd_lt ho (by decide)
  refine g_row (fun g0 => ?_)
  refine g_aload_n (pc := 1760) dL_law_1760 rfl rfl ?_
  refine g_aload_n (pc := 1761) dL_law_1761 rfl rfl ?_
  refine g_iload (pc := 1762) dL_law_1762 rfl ?_
  refine g_iconst (v := nI 1) (pc := 1764) dL_law_1764 rfl ?_
  refine g_iaddN (pc := 1765) dL_law_1765 ?_
  refine g_ialoadKN (pc := 1766) dL_law_1766 s_0 (by decide) (by omega) (by omega) rfl ?_
  refine g_aload_n (pc := 1767) dL_law_1767 rfl rfl ?_
  refine g_callH (av := [.ref 3, .int (I 0 (4 * k + 1)), .ref 131]) (st := []) (pc := 1768) dL_law_1768 mh_L_scrub lk_L_228p sf_L_scrub rfl np_L_scrub (gc_r (gc_i (gc_r gc_0))) (Nat.le_of_ble_eq_true rfl) (Nat.le_of_ble_eq_true rfl) ⟨Nat.le_add_left 1 _, Nat.le_add_left 6 _⟩ (g_deep (show 21 ≤ 39 by decide) (w_scrub ho (hx L D))) (fun v' h9 _ q => ?_) (fun X h9 q => ?_)
  · obtain ⟨J, ⟨q1, rfl⟩, hP⟩ := q
    cases q1
    refine g_row (fun g1 => ?_)
    have hJ0 : J 0 = I 0 := (g1 0 (by decide)).trans (g0 0 (by decide)).symm
    refine g_istore (pc := 1771) dL_law_1771 (Nat.le_of_ble_eq_true rfl) rfl ?_
    refine g_aload_n (pc := 1773) dL_law_1773 rfl rfl ?_
    refine g_aload_n (pc := 1774) dL_law_1774 rfl rfl ?_
    refine g_iload (pc := 1775) dL_law_1775 rfl ?_
    refine g_iconst (v := nI 1) (pc := 1777) dL_law_1777 rfl ?_
    refine g_iaddN (pc := 1778) dL_law_1778 ?_
    refine g_ialoadKN (pc := 1779) dL_law_1779 s_0 (by decide) (by omega) (by omega) (congrFun hJ0 (4 * k + 1)) ?_
    refine g_riV (av := [.int _]) (pc := 1780) dL_law_1780 mt_X3_scrub lk_L_230 im_X3_scrub se_X3_scrub np_X3_scrub s_114 (by decide) (by decide) rfl (gc_i gc_0) (Nat.le_of_ble_eq_true rfl) (Nat.le_of_ble_eq_true rfl) (gRi_deep (show 20 ≤ 39 by decide) (hm J hP (wL L o) D)) ?_
    rintro v K2 ⟨hK2, hth, hv⟩
    refine g_istore (pc := 1783) dL_law_1783 (Nat.le_of_ble_eq_true rfl) rfl ?_
    refine g_aload_n (pc := 1785) dL_law_1785 rfl rfl ?_
    refine g_fV (av := []) (pc := 1786) dL_law_1786 mt_X3_thrown lk_L_144 im_X3_thrown se_X3_thrown np_X3_thrown s_114 (by decide) (by decide) rfl gc_0 (Nat.le_of_ble_eq_true rfl) (Nat.le_of_ble_eq_true rfl) ⟨Nat.zero_le _, Nat.zero_le _⟩ m_X3_thrown ?_
    rw [hth]
    refine g_iload (pc := 1789) dL_law_1789 rfl ?_
    refine g_icmp_eqN (tgt := 1796) (pc := 1791) dL_law_1791 (by decide) (by omega) (by omega) (fun c1791 => ?_) (fun c1791 => ?_)
    rotate_left
    · exact absurd rfl c1791
    refine g_iload (pc := 1796) dL_law_1796 rfl ?_
    refine g_if_neN (tgt := 1813) (pc := 1798) dL_law_1798 (by decide) (by omega) (fun c1798 => ?_) (fun c1798 => ?_)
    · refine g_goto (tgt := 2393) (pc := 1813) dL_law_1813 (by decide) ?_
      refine g_fg 6 (g_fg 7 ?_)
      exact g_bud (by omega) (by omega) (kn _ _ _ hK2)
    · obtain ⟨w, rfl⟩ := cd_0 c1798
      have hvw := hv w rfl
      subst hvw
      refine g_aload_n (pc := 1801) dL_law_1801 rfl rfl ?_
      refine g_iconst (v := nI 0) (pc := 1802) dL_law_1802 rfl ?_
      refine g_laload (pc := 1803) dL_law_1803 s_131 (by decide) (vp_in_nI (by decide) (by decide)) ?_
      rw [wL_at]
      refine g_iload (pc := 1804) dL_law_1804 rfl ?_
      refine g_i2l (pc := 1806) dL_law_1806 ?_
      refine g_lcmp (pc := 1807) dL_law_1807 ?_
      refine g_if_eq (tgt := 1813) (pc := 1808) dL_law_1808 (by decide) (fun c1808 => ?_) (fun c1808 => ?_)
      · refine g_goto (tgt := 2393) (pc := 1813) dL_law_1813 (by decide) ?_
        refine g_fg 6 (g_fg 7 ?_)
        exact g_bud (by omega) (by omega) (kn _ _ _ hK2)
      · exact absurd ((lg_cmp_eq _ _).mpr rfl) c1808
  · obtain ⟨J, ⟨q1, -⟩, -⟩ := q
    cases q1
theorem lc_report (hR0 : Rel I) {k : Nat} (hk : 4 * k + 4 ≤ n) (hn : n ≤ 2048) {kc ks : Nat} {Q : gQ} (kn : ∀ J L2 D2, Rel J → gGo G gYlaw 40 2393 [some (.ref 0), some (.ref 3), some (.ref 114), some (.ref 131), some (.ref 132), some (.int (nI (4 * k))), none, none, none] [] (hp n J L2 D2) kc ks Q) : gGo G gYlaw 40 1816 [some (.ref 0), some (.ref 3), some (.ref 114), some (.ref 131), some (.ref 132), some (.int (nI (4 * k))), none, none, none] [] (hp n I L D) (kc + 1) (ks + 6) Q := by
  obtain ⟨V, C, H, m, T, t, e, K, l, Ls, hR⟩ := hR0
  obtain ⟨o, P, ho, hx, hm⟩ := b_report (G := G) (n := n) hR (I 0 (4 * k + 1)) (I 0 (4 * k + 2))
  have hcd := cd_lt ho (by decide)
  refine g_row (fun g0 => ?_)
  refine g_aload_n (pc := 1816) dL_law_1816 rfl rfl ?_
  refine g_aload_n (pc := 1817) dL_law_1817 rfl rfl ?_
  refine g_iload (pc := 1818) dL_law_1818 rfl ?_
  refine g_iconst (v := nI 1) (pc := 1820) dL_law_1820 rfl ?_
  refine g_iaddN (pc := 1821) dL_law_1821 ?_
  refine g_ialoadKN (pc := 1822) dL_law_1822 s_0 (by decide) (by omega) (by omega) rfl ?_
  refine g_aload_n (pc := 1823) dL_law_1823 rfl rfl ?_
  refine g_iload (pc := 1824) dL_law_1824 rfl ?_
  refine g_iconst (v := nI 2) (pc := 1826) dL_law_1826 rfl ?_
  refine g_iaddN (pc := 1827) dL_law_1827 ?_
  refine g_ialoadKN (pc := 1828) dL_law_1828 s_0 (by decide) (by omega) (by omega) rfl ?_
  refine g_aload_n (pc := 1829) dL_law_1829 rfl rfl ?_
  refine g_callH (av := [.ref 3, .int (I 0 (4 * k + 1)), .int (I 0 (4 * k + 2)), .ref 131]) (st := []) (pc := 1830) dL_law_1830 mh_L_report lk_L_231p sf_L_report rfl np_L_report (gc_r (gc_i (gc_i (gc_r gc_0)))) (Nat.le_of_ble_eq_true rfl) (Nat.le_of_ble_eq_true rfl) ⟨Nat.le_add_left 1 _, Nat.le_add_left 6 _⟩ (g_deep (show 21 ≤ 39 by decide) (w_report ho (hx L D))) (fun v' h9 _ q => ?_) (fun X h9 q => ?_)
  · obtain ⟨J, ⟨q1, rfl⟩, hP⟩ := q
    cases q1
    refine g_row (fun g1 => ?_)
    have hJ0 : J 0 = I 0 := (g1 0 (by decide)).trans (g0 0 (by decide)).symm
    refine g_istore (pc := 1833) dL_law_1833 (Nat.le_of_ble_eq_true rfl) rfl ?_
    refine g_aload_n (pc := 1835) dL_law_1835 rfl rfl ?_
    refine g_aload_n (pc := 1836) dL_law_1836 rfl rfl ?_
    refine g_iload (pc := 1837) dL_law_1837 rfl ?_
    refine g_iconst (v := nI 1) (pc := 1839) dL_law_1839 rfl ?_
    refine g_iaddN (pc := 1840) dL_law_1840 ?_
    refine g_ialoadKN (pc := 1841) dL_law_1841 s_0 (by decide) (by omega) (by omega) (congrFun hJ0 (4 * k + 1)) ?_
    refine g_aload_n (pc := 1842) dL_law_1842 rfl rfl ?_
    refine g_iload (pc := 1843) dL_law_1843 rfl ?_
    refine g_iconst (v := nI 2) (pc := 1845) dL_law_1845 rfl ?_
    refine g_iaddN (pc := 1846) dL_law_1846 ?_
    refine g_ialoadKN (pc := 1847) dL_law_1847 s_0 (by decide) (by omega) (by omega) (congrFun hJ0 (4 * k + 2)) ?_
    refine g_riV (av := [.int _, .int _]) (pc := 1848) dL_law_1848 mt_X3_report lk_L_233 im_X3_report se_X3_report np_X3_report s_114 (by decide) (by decide) rfl (gc_i (gc_i gc_0)) (Nat.le_of_ble_eq_true rfl) (Nat.le_of_ble_eq_true rfl) (gRi_deep (show 20 ≤ 39 by decide) (hm J hP (wL L o) D)) ?_
    rintro v K2 ⟨hK2, hth, hv⟩
    refine g_istore (pc := 1851) dL_law_1851 (Nat.le_of_ble_eq_true rfl) rfl ?_
    refine g_aload_n (pc := 1853) dL_law_1853 rfl rfl ?_
    refine g_fV (av := []) (pc := 1854) dL_law_1854 mt_X3_thrown lk_L_144 im_X3_thrown se_X3_thrown np_X3_thrown s_114 (by decide) (by decide) rfl gc_0 (Nat.le_of_ble_eq_true rfl) (Nat.le_of_ble_eq_true rfl) ⟨Nat.zero_le _, Nat.zero_le _⟩ m_X3_thrown ?_
    rw [hth]
    refine g_iload (pc := 1857) dL_law_1857 rfl ?_
    refine g_icmp_eqN (tgt := 1864) (pc := 1859) dL_law_1859 (by decide) (by omega) (by omega) (fun c1859 => ?_) (fun c1859 => ?_)
    rotate_left
    · exact absurd rfl c1859
    refine g_iload (pc := 1864) dL_law_1864 rfl ?_
    refine g_if_neN (tgt := 1881) (pc := 1866) dL_law_1866 (by decide) (by omega) (fun c1866 => ?_) (fun c1866 => ?_)
    · refine g_goto (tgt := 2393) (pc := 1881) dL_law_1881 (by decide) ?_
      refine g_fg 6 (g_fg 7 ?_)
      exact g_bud (by omega) (by omega) (kn _ _ _ hK2)
    · obtain ⟨w, rfl⟩ := cd_0 c1866
      have hvw := hv w rfl
      subst hvw
      refine g_aload_n (pc := 1869) dL_law_1869 rfl rfl ?_
      refine g_iconst (v := nI 0) (pc := 1870) dL_law_1870 rfl ?_
      refine g_laload (pc := 1871) dL_law_1871 s_131 (by decide) (vp_in_nI (by decide) (by decide)) ?_
      rw [wL_at]
      refine g_iload (pc := 1872) dL_law_1872 rfl ?_
      refine g_i2l (pc := 1874) dL_law_1874 ?_
      refine g_lcmp (pc := 1875) dL_law_1875 ?_
      refine g_if_eq (tgt := 1881) (pc := 1876) dL_law_1876 (by decide) (fun c1876 => ?_) (fun c1876 => ?_)
      · refine g_goto (tgt := 2393) (pc := 1881) dL_law_1881 (by decide) ?_
        refine g_fg 6 (g_fg 7 ?_)
        exact g_bud (by omega) (by omega) (kn _ _ _ hK2)
      · exact absurd ((lg_cmp_eq _ _).mpr rfl) c1876
  · obtain ⟨J, ⟨q1, -⟩, -⟩ := q
    cases q1
theorem lc_reportLines (hR0 : Rel I) {k : Nat} (hk : 4 * k + 4 ≤ n) (hn : n ≤ 2048) {kc ks : Nat} {Q : gQ} (kn : ∀ J L2 D2, Rel J → gGo G gYlaw 40 2393 [some (.ref 0), some (.ref 3), some (.ref 114), some (.ref 131), some (.ref 132), some (.int (nI (4 * k))), none, none, none] [] (hp n J L2 D2) kc ks Q) : gGo G gYlaw 40 1884 [some (.ref 0), some (.ref 3), some (.ref 114), some (.ref 131), some (.ref 132), some (.int (nI (4 * k))), none, none, none] [] (hp n I L D) (kc + 1) (ks + 6) Q := by
  obtain ⟨V, C, H, m, T, t, e, K, l, Ls, hR⟩ := hR0
  obtain ⟨o, P, ho, hx, hm⟩ := b_reportLines (G := G) (n := n) hR
  refine g_aload_n (pc := 1884) dL_law_1884 rfl rfl ?_
  refine g_callV (av := []) (st := []) (ci := 2) (pc := 1885) dL_law_1885 mt_X2_reportLines lk_L_234 im_X2_reportLines se_X2_reportLines (by decide) s_3 (by decide) rfl np_X2_reportLines gc_0 (Nat.le_of_ble_eq_true rfl) (Nat.le_of_ble_eq_true rfl) ⟨Nat.le_add_left 1 _, Nat.le_add_left 6 _⟩ (g_deep (show 20 ≤ 39 by decide) (hx L D)) (fun v' h9 _ q => ?_) (fun X h9 q => ?_)
  · obtain ⟨J, ⟨q1, rfl⟩, hP⟩ := q
    cases o with
    | inr z => exact absurd (ho z rfl) (Nat.not_lt_zero z)
    | inl w =>
      have q2 : (Sum.inl v' : Option Value ⊕ String) = .inl (some (.int w)) := q1
      cases q2
      refine g_aload_n (pc := 1888) dL_law_1888 rfl rfl ?_
      refine g_riV (av := []) (pc := 1889) dL_law_1889 mt_X3_reportLines lk_L_237 im_X3_reportLines se_X3_reportLines np_X3_reportLines s_114 (by decide) (by decide) rfl gc_0 (Nat.le_of_ble_eq_true rfl) (Nat.le_of_ble_eq_true rfl) (gRi_deep (show 20 ≤ 39 by decide) (hm J hP L D)) ?_
      rintro v K2 ⟨hK2, hth, hv⟩
      refine g_icmp_eq (tgt := 2393) (pc := 1892) dL_law_1892 (by decide) (fun c1892 => ?_) (fun c1892 => ?_)
      rotate_left
      · exact absurd (hv w rfl).symm c1892
      exact g_bud (by omega) (by omega) (kn _ _ _ hK2)
  · obtain ⟨J, ⟨q1, -⟩, -⟩ := q
    cases o with
    | inr z => exact absurd (ho z rfl) (Nat.not_lt_zero z)
    | inl w =>
      have q2 : (Sum.inr X : Option Value ⊕ String) = .inl (some (.int w)) := q1
      cases q2
theorem lc_repair (hR0 : Rel I) {k : Nat} (hk : 4 * k + 4 ≤ n) (hn : n ≤ 2048) {kc ks : Nat} {Q : gQ} (kn : ∀ J L2 D2, Rel J → gGo G gYlaw 40 2393 [some (.ref 0), some (.ref 3), some (.ref 114), some (.ref 131), some (.ref 132), some (.int (nI (4 * k))), none, none, none] [] (hp n J L2 D2) kc ks Q) : gGo G gYlaw 40 1897 [some (.ref 0), some (.ref 3), some (.ref 114), some (.ref 131), some (.ref 132), some (.int (nI (4 * k))), none, none, none] [] (hp n I L D) (kc + 1) (ks + 6) Q := by
  obtain ⟨V, C, H, m, T, t, e, K, l, Ls, hR⟩ := hR0
  obtain ⟨o, P, ho, hx, hm⟩ := b_repair (G := G) (n := n) hR (I 0 (4 * k + 1)) (I 0 (4 * k + 2))
  have hcd := cd_lt ho (by decide)
  refine g_row (fun g0 => ?_)
  refine g_aload_n (pc := 1897) dL_law_1897 rfl rfl ?_
  refine g_aload_n (pc := 1898) dL_law_1898 rfl rfl ?_
  refine g_iload (pc := 1899) dL_law_1899 rfl ?_
  refine g_iconst (v := nI 1) (pc := 1901) dL_law_1901 rfl ?_
  refine g_iaddN (pc := 1902) dL_law_1902 ?_
  refine g_ialoadKN (pc := 1903) dL_law_1903 s_0 (by decide) (by omega) (by omega) rfl ?_
  refine g_aload_n (pc := 1904) dL_law_1904 rfl rfl ?_
  refine g_iload (pc := 1905) dL_law_1905 rfl ?_
  refine g_iconst (v := nI 2) (pc := 1907) dL_law_1907 rfl ?_
  refine g_iaddN (pc := 1908) dL_law_1908 ?_
  refine g_ialoadKN (pc := 1909) dL_law_1909 s_0 (by decide) (by omega) (by omega) rfl ?_
  refine g_aload_n (pc := 1910) dL_law_1910 rfl rfl ?_
  refine g_callH (av := [.ref 3, .int (I 0 (4 * k + 1)), .int (I 0 (4 * k + 2)), .ref 131]) (st := []) (pc := 1911) dL_law_1911 mh_L_repair lk_L_238p sf_L_repair rfl np_L_repair (gc_r (gc_i (gc_i (gc_r gc_0)))) (Nat.le_of_ble_eq_true rfl) (Nat.le_of_ble_eq_true rfl) ⟨Nat.le_add_left 1 _, Nat.le_add_left 6 _⟩ (g_deep (show 21 ≤ 39 by decide) (w_repair ho (hx L D))) (fun v' h9 _ q => ?_) (fun X h9 q => ?_)
  · obtain ⟨J, ⟨q1, rfl⟩, hP⟩ := q
    cases q1
    refine g_row (fun g1 => ?_)
    have hJ0 : J 0 = I 0 := (g1 0 (by decide)).trans (g0 0 (by decide)).symm
    refine g_istore (pc := 1914) dL_law_1914 (Nat.le_of_ble_eq_true rfl) rfl ?_
    refine g_aload_n (pc := 1916) dL_law_1916 rfl rfl ?_
    refine g_aload_n (pc := 1917) dL_law_1917 rfl rfl ?_
    refine g_iload (pc := 1918) dL_law_1918 rfl ?_
    refine g_iconst (v := nI 1) (pc := 1920) dL_law_1920 rfl ?_
    refine g_iaddN (pc := 1921) dL_law_1921 ?_
    refine g_ialoadKN (pc := 1922) dL_law_1922 s_0 (by decide) (by omega) (by omega) (congrFun hJ0 (4 * k + 1)) ?_
    refine g_aload_n (pc := 1923) dL_law_1923 rfl rfl ?_
    refine g_iload (pc := 1924) dL_law_1924 rfl ?_
    refine g_iconst (v := nI 2) (pc := 1926) dL_law_1926 rfl ?_
    refine g_iaddN (pc := 1927) dL_law_1927 ?_
    refine g_ialoadKN (pc := 1928) dL_law_1928 s_0 (by decide) (by omega) (by omega) (congrFun hJ0 (4 * k + 2)) ?_
    refine g_riV (av := [.int _, .int _]) (pc := 1929) dL_law_1929 mt_X3_repair lk_L_240 im_X3_repair se_X3_repair np_X3_repair s_114 (by decide) (by decide) rfl (gc_i (gc_i gc_0)) (Nat.le_of_ble_eq_true rfl) (Nat.le_of_ble_eq_true rfl) (gRi_deep (show 20 ≤ 39 by decide) (hm J hP (wL L o) D)) ?_
    rintro v K2 ⟨hK2, hth, hv⟩
    refine g_istore (pc := 1932) dL_law_1932 (Nat.le_of_ble_eq_true rfl) rfl ?_
    refine g_aload_n (pc := 1934) dL_law_1934 rfl rfl ?_
    refine g_fV (av := []) (pc := 1935) dL_law_1935 mt_X3_thrown lk_L_144 im_X3_thrown se_X3_thrown np_X3_thrown s_114 (by decide) (by decide) rfl gc_0 (Nat.le_of_ble_eq_true rfl) (Nat.le_of_ble_eq_true rfl) ⟨Nat.zero_le _, Nat.zero_le _⟩ m_X3_thrown ?_
    rw [hth]
    refine g_iload (pc := 1938) dL_law_1938 rfl ?_
    refine g_icmp_eqN (tgt := 1945) (pc := 1940) dL_law_1940 (by decide) (by omega) (by omega) (fun c1940 => ?_) (fun c1940 => ?_)
    rotate_left
    · exact absurd rfl c1940
    refine g_iload (pc := 1945) dL_law_1945 rfl ?_
    refine g_if_neN (tgt := 1962) (pc := 1947) dL_law_1947 (by decide) (by omega) (fun c1947 => ?_) (fun c1947 => ?_)
    · refine g_goto (tgt := 2393) (pc := 1962) dL_law_1962 (by decide) ?_
      refine g_fg 6 (g_fg 7 ?_)
      exact g_bud (by omega) (by omega) (kn _ _ _ hK2)
    · obtain ⟨w, rfl⟩ := cd_0 c1947
      have hvw := hv w rfl
      subst hvw
      refine g_aload_n (pc := 1950) dL_law_1950 rfl rfl ?_
      refine g_iconst (v := nI 0) (pc := 1951) dL_law_1951 rfl ?_
      refine g_laload (pc := 1952) dL_law_1952 s_131 (by decide) (vp_in_nI (by decide) (by decide)) ?_
      rw [wL_at]
      refine g_iload (pc := 1953) dL_law_1953 rfl ?_
      refine g_i2l (pc := 1955) dL_law_1955 ?_
      refine g_lcmp (pc := 1956) dL_law_1956 ?_
      refine g_if_eq (tgt := 1962) (pc := 1957) dL_law_1957 (by decide) (fun c1957 => ?_) (fun c1957 => ?_)
      · refine g_goto (tgt := 2393) (pc := 1962) dL_law_1962 (by decide) ?_
        refine g_fg 6 (g_fg 7 ?_)
        exact g_bud (by omega) (by omega) (kn _ _ _ hK2)
      · exact absurd ((lg_cmp_eq _ _).mpr rfl) c1957
  · obtain ⟨J, ⟨q1, -⟩, -⟩ := q
    cases q1
theorem lc_checked (hR0 : Rel I) {k : Nat} (hk : 4 * k + 4 ≤ n) (hn : n ≤ 2048) {kc ks : Nat} {Q : gQ} (kn : ∀ J L2 D2, Rel J → gGo G gYlaw 40 2393 [some (.ref 0), some (.ref 3), some (.ref 114), some (.ref 131), some (.ref 132), some (.int (nI (4 * k))), none, none, none] [] (hp n J L2 D2) kc ks Q) : gGo G gYlaw 40 1965 [some (.ref 0), some (.ref 3), some (.ref 114), some (.ref 131), some (.ref 132), some (.int (nI (4 * k))), none, none, none] [] (hp n I L D) (kc + 1) (ks + 6) Q := by
  obtain ⟨V, C, H, m, T, t, e, K, l, Ls, hR⟩ := hR0
  obtain ⟨o, P, ho, hx, hm⟩ := b_checked (G := G) (n := n) hR (I 0 (4 * k + 1)) (I 0 (4 * k + 2))
  have hcd := cd_lt ho (by decide)
  refine g_row (fun g0 => ?_)
  refine g_aload_n (pc := 1965) dL_law_1965 rfl rfl ?_
  refine g_aload_n (pc := 1966) dL_law_1966 rfl rfl ?_
  refine g_iload (pc := 1967) dL_law_1967 rfl ?_
  refine g_iconst (v := nI 1) (pc := 1969) dL_law_1969 rfl ?_
  refine g_iaddN (pc := 1970) dL_law_1970 ?_
  refine g_ialoadKN (pc := 1971) dL_law_1971 s_0 (by decide) (by omega) (by omega) rfl ?_
  refine g_aload_n (pc := 1972) dL_law_1972 rfl rfl ?_
  refine g_iload (pc := 1973) dL_law_1973 rfl ?_
  refine g_iconst (v := nI 2) (pc := 1975) dL_law_1975 rfl ?_
  refine g_iaddN (pc := 1976) dL_law_1976 ?_
  refine g_ialoadKN (pc := 1977) dL_law_1977 s_0 (by decide) (by omega) (by omega) rfl ?_
  refine g_aload_n (pc := 1978) dL_law_1978 rfl rfl ?_
  refine g_callH (av := [.ref 3, .int (I 0 (4 * k + 1)), .int (I 0 (4 * k + 2)), .ref 131]) (st := []) (pc := 1979) dL_law_1979 mh_L_checked lk_L_241p sf_L_checked rfl np_L_checked (gc_r (gc_i (gc_i (gc_r gc_0)))) (Nat.le_of_ble_eq_true rfl) (Nat.le_of_ble_eq_true rfl) ⟨Nat.le_add_left 1 _, Nat.le_add_left 6 _⟩ (g_deep (show 21 ≤ 39 by decide) (w_checked ho (hx L D))) (fun v' h9 _ q => ?_) (fun X h9 q => ?_)
  · obtain ⟨J, ⟨q1, rfl⟩, hP⟩ := q
    cases q1
    refine g_row (fun g1 => ?_)
    have hJ0 : J 0 = I 0 := (g1 0 (by decide)).trans (g0 0 (by decide)).symm
    refine g_istore (pc := 1982) dL_law_1982 (Nat.le_of_ble_eq_true rfl) rfl ?_
    refine g_aload_n (pc := 1984) dL_law_1984 rfl rfl ?_
    refine g_aload_n (pc := 1985) dL_law_1985 rfl rfl ?_
    refine g_iload (pc := 1986) dL_law_1986 rfl ?_
    refine g_iconst (v := nI 1) (pc := 1988) dL_law_1988 rfl ?_
    refine g_iaddN (pc := 1989) dL_law_1989 ?_
    refine g_ialoadKN (pc := 1990) dL_law_1990 s_0 (by decide) (by omega) (by omega) (congrFun hJ0 (4 * k + 1)) ?_
    refine g_aload_n (pc := 1991) dL_law_1991 rfl rfl ?_
    refine g_iload (pc := 1992) dL_law_1992 rfl ?_
    refine g_iconst (v := nI 2) (pc := 1994) dL_law_1994 rfl ?_
    refine g_iaddN (pc := 1995) dL_law_1995 ?_
    refine g_ialoadKN (pc := 1996) dL_law_1996 s_0 (by decide) (by omega) (by omega) (congrFun hJ0 (4 * k + 2)) ?_
    refine g_riV (av := [.int _, .int _]) (pc := 1997) dL_law_1997 mt_X3_checked lk_L_243 im_X3_checked se_X3_checked np_X3_checked s_114 (by decide) (by decide) rfl (gc_i (gc_i gc_0)) (Nat.le_of_ble_eq_true rfl) (Nat.le_of_ble_eq_true rfl) (gRi_deep (show 20 ≤ 39 by decide) (hm J hP (wL L o) D)) ?_
    rintro v K2 ⟨hK2, hth, hv⟩
    refine g_istore (pc := 2000) dL_law_2000 (Nat.le_of_ble_eq_true rfl) rfl ?_
    refine g_aload_n (pc := 2002) dL_law_2002 rfl rfl ?_
    refine g_fV (av := []) (pc := 2003) dL_law_2003 mt_X3_thrown lk_L_144 im_X3_thrown se_X3_thrown np_X3_thrown s_114 (by decide) (by decide) rfl gc_0 (Nat.le_of_ble_eq_true rfl) (Nat.le_of_ble_eq_true rfl) ⟨Nat.zero_le _, Nat.zero_le _⟩ m_X3_thrown ?_
    rw [hth]
    refine g_iload (pc := 2006) dL_law_2006 rfl ?_
    refine g_icmp_eqN (tgt := 2013) (pc := 2008) dL_law_2008 (by decide) (by omega) (by omega) (fun c2008 => ?_) (fun c2008 => ?_)
    rotate_left
    · exact absurd rfl c2008
    refine g_iload (pc := 2013) dL_law_2013 rfl ?_
    refine g_if_neN (tgt := 2030) (pc := 2015) dL_law_2015 (by decide) (by omega) (fun c2015 => ?_) (fun c2015 => ?_)
    · refine g_goto (tgt := 2393) (pc := 2030) dL_law_2030 (by decide) ?_
      refine g_fg 6 (g_fg 7 ?_)
      exact g_bud (by omega) (by omega) (kn _ _ _ hK2)
    · obtain ⟨w, rfl⟩ := cd_0 c2015
      have hvw := hv w rfl
      subst hvw
      refine g_aload_n (pc := 2018) dL_law_2018 rfl rfl ?_
      refine g_iconst (v := nI 0) (pc := 2019) dL_law_2019 rfl ?_
      refine g_laload (pc := 2020) dL_law_2020 s_131 (by decide) (vp_in_nI (by decide) (by decide)) ?_
      rw [wL_at]
      refine g_iload (pc := 2021) dL_law_2021 rfl ?_
      refine g_i2l (pc := 2023) dL_law_2023 ?_
      refine g_lcmp (pc := 2024) dL_law_2024 ?_
      refine g_if_eq (tgt := 2030) (pc := 2025) dL_law_2025 (by decide) (fun c2025 => ?_) (fun c2025 => ?_)
      · refine g_goto (tgt := 2393) (pc := 2030) dL_law_2030 (by decide) ?_
        refine g_fg 6 (g_fg 7 ?_)
        exact g_bud (by omega) (by omega) (kn _ _ _ hK2)
      · exact absurd ((lg_cmp_eq _ _).mpr rfl) c2025
  · obtain ⟨J, ⟨q1, -⟩, -⟩ := q
    cases q1
theorem lc_nextToCheck (hR0 : Rel I) {k : Nat} (hk : 4 * k + 4 ≤ n) (hn : n ≤ 2048) {kc ks : Nat} {Q : gQ} (kn : ∀ J L2 D2, Rel J → gGo G gYlaw 40 2393 [some (.ref 0), some (.ref 3), some (.ref 114), some (.ref 131), some (.ref 132), some (.int (nI (4 * k))), none, none, none] [] (hp n J L2 D2) kc ks Q) : gGo G gYlaw 40 2033 [some (.ref 0), some (.ref 3), some (.ref 114), some (.ref 131), some (.ref 132), some (.int (nI (4 * k))), none, none, none] [] (hp n I L D) (kc + 1) (ks + 6) Q := by
  obtain ⟨V, C, H, m, T, t, e, K, l, Ls, hR⟩ := hR0
  obtain ⟨o, P, ho, hx, hm⟩ := b_nextToCheck (G := G) (n := n) hR 
  have hcd := cd_lt ho (by decide)
  refine g_aload_n (pc := 2033) dL_law_2033 rfl rfl ?_
  refine g_aload_n (pc := 2034) dL_law_2034 rfl rfl ?_
  refine g_callH (av := [.ref 3, .ref 131]) (st := []) (pc := 2035) dL_law_2035 mh_L_nextToCheck lk_L_244p sf_L_nextToCheck rfl np_L_nextToCheck (gc_r (gc_r gc_0)) (Nat.le_of_ble_eq_true rfl) (Nat.le_of_ble_eq_true rfl) ⟨Nat.le_add_left 1 _, Nat.le_add_left 6 _⟩ (g_deep (show 21 ≤ 39 by decide) (w_nextToCheck ho (hx L D))) (fun v' h9 _ q => ?_) (fun X h9 q => ?_)
  · obtain ⟨J, ⟨q1, rfl⟩, hP⟩ := q
    cases q1
    refine g_istore (pc := 2038) dL_law_2038 (Nat.le_of_ble_eq_true rfl) rfl ?_
    refine g_aload_n (pc := 2040) dL_law_2040 rfl rfl ?_
    refine g_riV (av := []) (pc := 2041) dL_law_2041 mt_X3_nextToCheck lk_L_246 im_X3_nextToCheck se_X3_nextToCheck np_X3_nextToCheck s_114 (by decide) (by decide) rfl gc_0 (Nat.le_of_ble_eq_true rfl) (Nat.le_of_ble_eq_true rfl) (gRi_deep (show 20 ≤ 39 by decide) (hm J hP (wL L o) D)) ?_
    rintro v K2 ⟨hK2, hth, hv⟩
    refine g_istore (pc := 2044) dL_law_2044 (Nat.le_of_ble_eq_true rfl) rfl ?_
    refine g_aload_n (pc := 2046) dL_law_2046 rfl rfl ?_
    refine g_fV (av := []) (pc := 2047) dL_law_2047 mt_X3_thrown lk_L_144 im_X3_thrown se_X3_thrown np_X3_thrown s_114 (by decide) (by decide) rfl gc_0 (Nat.le_of_ble_eq_true rfl) (Nat.le_of_ble_eq_true rfl) ⟨Nat.zero_le _, Nat.zero_le _⟩ m_X3_thrown ?_
    rw [hth]
    refine g_iload (pc := 2050) dL_law_2050 rfl ?_
    refine g_icmp_eqN (tgt := 2057) (pc := 2052) dL_law_2052 (by decide) (by omega) (by omega) (fun c2052 => ?_) (fun c2052 => ?_)
    rotate_left
    · exact absurd rfl c2052
    refine g_iload (pc := 2057) dL_law_2057 rfl ?_
    refine g_if_neN (tgt := 2074) (pc := 2059) dL_law_2059 (by decide) (by omega) (fun c2059 => ?_) (fun c2059 => ?_)
    · refine g_goto (tgt := 2393) (pc := 2074) dL_law_2074 (by decide) ?_
      refine g_fg 6 (g_fg 7 ?_)
      exact g_bud (by omega) (by omega) (kn _ _ _ hK2)
    · obtain ⟨w, rfl⟩ := cd_0 c2059
      have hvw := hv w rfl
      subst hvw
      refine g_aload_n (pc := 2062) dL_law_2062 rfl rfl ?_
      refine g_iconst (v := nI 0) (pc := 2063) dL_law_2063 rfl ?_
      refine g_laload (pc := 2064) dL_law_2064 s_131 (by decide) (vp_in_nI (by decide) (by decide)) ?_
      rw [wL_at]
      refine g_iload (pc := 2065) dL_law_2065 rfl ?_
      refine g_i2l (pc := 2067) dL_law_2067 ?_
      refine g_lcmp (pc := 2068) dL_law_2068 ?_
      refine g_if_eq (tgt := 2074) (pc := 2069) dL_law_2069 (by decide) (fun c2069 => ?_) (fun c2069 => ?_)
      · refine g_goto (tgt := 2393) (pc := 2074) dL_law_2074 (by decide) ?_
        refine g_fg 6 (g_fg 7 ?_)
        exact g_bud (by omega) (by omega) (kn _ _ _ hK2)
      · exact absurd ((lg_cmp_eq _ _).mpr rfl) c2069
  · obtain ⟨J, ⟨q1, -⟩, -⟩ := q
    cases q1
theorem lc_needed (hR0 : Rel I) {k : Nat} (hk : 4 * k + 4 ≤ n) (hn : n ≤ 2048) {kc ks : Nat} {Q : gQ} (kn : ∀ J L2 D2, Rel J → gGo G gYlaw 40 2393 [some (.ref 0), some (.ref 3), some (.ref 114), some (.ref 131), some (.ref 132), some (.int (nI (4 * k))), none, none, none] [] (hp n J L2 D2) kc ks Q) : gGo G gYlaw 40 2077 [some (.ref 0), some (.ref 3), some (.ref 114), some (.ref 131), some (.ref 132), some (.int (nI (4 * k))), none, none, none] [] (hp n I L D) (kc + 1) (ks + 6) Q := by
  obtain ⟨V, C, H, m, T, t, e, K, l, Ls, hR⟩ := hR0
  obtain ⟨o, P, ho, hx, hm⟩ := b_needed (G := G) (n := n) hR
  refine g_aload_n (pc := 2077) dL_law_2077 rfl rfl ?_
  refine g_callV (av := []) (st := []) (ci := 2) (pc := 2078) dL_law_2078 mt_X2_needed lk_L_247 im_X2_needed se_X2_needed (by decide) s_3 (by decide) rfl np_X2_needed gc_0 (Nat.le_of_ble_eq_true rfl) (Nat.le_of_ble_eq_true rfl) ⟨Nat.le_add_left 1 _, Nat.le_add_left 6 _⟩ (g_deep (show 20 ≤ 39 by decide) (hx L D)) (fun v' h9 _ q => ?_) (fun X h9 q => ?_)
  · obtain ⟨J, ⟨q1, rfl⟩, hP⟩ := q
    cases o with
    | inr z => exact absurd (ho z rfl) (Nat.not_lt_zero z)
    | inl w =>
      have q2 : (Sum.inl v' : Option Value ⊕ String) = .inl (some (.int w)) := q1
      cases q2
      refine g_aload_n (pc := 2081) dL_law_2081 rfl rfl ?_
      refine g_riV (av := []) (pc := 2082) dL_law_2082 mt_X3_needed lk_L_250 im_X3_needed se_X3_needed np_X3_needed s_114 (by decide) (by decide) rfl gc_0 (Nat.le_of_ble_eq_true rfl) (Nat.le_of_ble_eq_true rfl) (gRi_deep (show 20 ≤ 39 by decide) (hm J hP L D)) ?_
      rintro v K2 ⟨hK2, hth, hv⟩
      refine g_icmp_eq (tgt := 2393) (pc := 2085) dL_law_2085 (by decide) (fun c2085 => ?_) (fun c2085 => ?_)
      rotate_left
      · exact absurd (hv w rfl).symm c2085
      exact g_bud (by omega) (by omega) (kn _ _ _ hK2)
  · obtain ⟨J, ⟨q1, -⟩, -⟩ := q
    cases o with
    | inr z => exact absurd (ho z rfl) (Nat.not_lt_zero z)
    | inl w =>
      have q2 : (Sum.inr X : Option Value ⊕ String) = .inl (some (.int w)) := q1
      cases q2
theorem lc_account (hR0 : Rel I) {k : Nat} (hk : 4 * k + 4 ≤ n) (hn : n ≤ 2048) {kc ks : Nat} {Q : gQ} (kn : ∀ J L2 D2, Rel J → gGo G gYlaw 40 2393 [some (.ref 0), some (.ref 3), some (.ref 114), some (.ref 131), some (.ref 132), some (.int (nI (4 * k))), none, none, none] [] (hp n J L2 D2) kc ks Q) : gGo G gYlaw 40 2090 [some (.ref 0), some (.ref 3), some (.ref 114), some (.ref 131), some (.ref 132), some (.int (nI (4 * k))), none, none, none] [] (hp n I L D) (kc + 1) (ks + 6) Q := by
  obtain ⟨V, C, H, m, T, t, e, K, l, Ls, hR⟩ := hR0
  obtain ⟨o, P, ho, hx, hm⟩ := b_account (G := G) (n := n) hR (I 0 (4 * k + 1))
  have hcd := cd_lt ho (by decide)
  refine g_row (fun g0 => ?_)
  refine g_aload_n (pc := 2090) dL_law_2090 rfl rfl ?_
  refine g_aload_n (pc := 2091) dL_law_2091 rfl rfl ?_
  refine g_iload (pc := 2092) dL_law_2092 rfl ?_
  refine g_iconst (v := nI 1) (pc := 2094) dL_law_2094 rfl ?_
  refine g_iaddN (pc := 2095) dL_law_2095 ?_
  refine g_ialoadKN (pc := 2096) dL_law_2096 s_0 (by decide) (by omega) (by omega) rfl ?_
  refine g_aload_n (pc := 2097) dL_law_2097 rfl rfl ?_
  refine g_callH (av := [.ref 3, .int (I 0 (4 * k + 1)), .ref 131]) (st := []) (pc := 2098) dL_law_2098 mh_L_account lk_L_251p sf_L_account rfl np_L_account (gc_r (gc_i (gc_r gc_0))) (Nat.le_of_ble_eq_true rfl) (Nat.le_of_ble_eq_true rfl) ⟨Nat.le_add_left 1 _, Nat.le_add_left 6 _⟩ (g_deep (show 21 ≤ 39 by decide) (w_account ho (hx L D))) (fun v' h9 _ q => ?_) (fun X h9 q => ?_)
  · obtain ⟨J, ⟨q1, rfl⟩, hP⟩ := q
    cases q1
    refine g_row (fun g1 => ?_)
    have hJ0 : J 0 = I 0 := (g1 0 (by decide)).trans (g0 0 (by decide)).symm
    refine g_istore (pc := 2101) dL_law_2101 (Nat.le_of_ble_eq_true rfl) rfl ?_
    refine g_aload_n (pc := 2103) dL_law_2103 rfl rfl ?_
    refine g_aload_n (pc := 2104) dL_law_2104 rfl rfl ?_
    refine g_iload (pc := 2105) dL_law_2105 rfl ?_
    refine g_iconst (v := nI 1) (pc := 2107) dL_law_2107 rfl ?_
    refine g_iaddN (pc := 2108) dL_law_2108 ?_
    refine g_ialoadKN (pc := 2109) dL_law_2109 s_0 (by decide) (by omega) (by omega) (congrFun hJ0 (4 * k + 1)) ?_
    refine g_riV (av := [.int _]) (pc := 2110) dL_law_2110 mt_X3_account lk_L_253 im_X3_account se_X3_account np_X3_account s_114 (by decide) (by decide) rfl (gc_i gc_0) (Nat.le_of_ble_eq_true rfl) (Nat.le_of_ble_eq_true rfl) (gRi_deep (show 20 ≤ 39 by decide) (hm J hP (wL L o) D)) ?_
    rintro v K2 ⟨hK2, hth, hv⟩
    refine g_istore (pc := 2113) dL_law_2113 (Nat.le_of_ble_eq_true rfl) rfl ?_
    refine g_aload_n (pc := 2115) dL_law_2115 rfl rfl ?_
    refine g_fV (av := []) (pc := 2116) dL_law_2116 mt_X3_thrown lk_L_144 im_X3_thrown se_X3_thrown np_X3_thrown s_114 (by decide) (by decide) rfl gc_0 (Nat.le_of_ble_eq_true rfl) (Nat.le_of_ble_eq_true rfl) ⟨Nat.zero_le _, Nat.zero_le _⟩ m_X3_thrown ?_
    rw [hth]
    refine g_iload (pc := 2119) dL_law_2119 rfl ?_
    refine g_icmp_eqN (tgt := 2126) (pc := 2121) dL_law_2121 (by decide) (by omega) (by omega) (fun c2121 => ?_) (fun c2121 => ?_)
    rotate_left
    · exact absurd rfl c2121
    refine g_iload (pc := 2126) dL_law_2126 rfl ?_
    refine g_if_neN (tgt := 2143) (pc := 2128) dL_law_2128 (by decide) (by omega) (fun c2128 => ?_) (fun c2128 => ?_)
    · refine g_goto (tgt := 2393) (pc := 2143) dL_law_2143 (by decide) ?_
      refine g_fg 6 (g_fg 7 ?_)
      exact g_bud (by omega) (by omega) (kn _ _ _ hK2)
    · obtain ⟨w, rfl⟩ := cd_0 c2128
      have hvw := hv w rfl
      subst hvw
      refine g_aload_n (pc := 2131) dL_law_2131 rfl rfl ?_
      refine g_iconst (v := nI 0) (pc := 2132) dL_law_2132 rfl ?_
      refine g_laload (pc := 2133) dL_law_2133 s_131 (by decide) (vp_in_nI (by decide) (by decide)) ?_
      rw [wL_at]
      refine g_iload (pc := 2134) dL_law_2134 rfl ?_
      refine g_i2l (pc := 2136) dL_law_2136 ?_
      refine g_lcmp (pc := 2137) dL_law_2137 ?_
      refine g_if_eq (tgt := 2143) (pc := 2138) dL_law_2138 (by decide) (fun c2138 => ?_) (fun c2138 => ?_)
      · refine g_goto (tgt := 2393) (pc := 2143) dL_law_2143 (by decide) ?_
        refine g_fg 6 (g_fg 7 ?_)
        exact g_bud (by omega) (by omega) (kn _ _ _ hK2)
      · exact absurd ((lg_cmp_eq _ _).mpr rfl) c2138
  · obtain ⟨J, ⟨q1, -⟩, -⟩ := q
    cases q1
theorem lc_day (hR0 : Rel I) {k : Nat} (hk : 4 * k + 4 ≤ n) (hn : n ≤ 2048) {kc ks : Nat} {Q : gQ} (kn : ∀ J L2 D2, Rel J → gGo G gYlaw 40 2393 [some (.ref 0), some (.ref 3), some (.ref 114), some (.ref 131), some (.ref 132), some (.int (nI (4 * k))), none, none, none] [] (hp n J L2 D2) kc ks Q) : gGo G gYlaw 40 2146 [some (.ref 0), some (.ref 3), some (.ref 114), some (.ref 131), some (.ref 132), some (.int (nI (4 * k))), none, none, none] [] (hp n I L D) (kc + 1) (ks + 6) Q := by
  obtain ⟨V, C, H, m, T, t, e, K, l, Ls, hR⟩ := hR0
  obtain ⟨o, P, ho, hx, hm⟩ := b_day (G := G) (n := n) hR
  refine g_aload_n (pc := 2146) dL_law_2146 rfl rfl ?_
  refine g_callV (av := []) (st := []) (ci := 2) (pc := 2147) dL_law_2147 mt_X2_day lk_L_254 im_X2_day se_X2_day (by decide) s_3 (by decide) rfl np_X2_day gc_0 (Nat.le_of_ble_eq_true rfl) (Nat.le_of_ble_eq_true rfl) ⟨Nat.le_add_left 1 _, Nat.le_add_left 6 _⟩ (g_deep (show 20 ≤ 39 by decide) (hx L D)) (fun v' h9 _ q => ?_) (fun X h9 q => ?_)
  · obtain ⟨J, ⟨q1, rfl⟩, hP⟩ := q
    cases o with
    | inr z => exact absurd (ho z rfl) (Nat.not_lt_zero z)
    | inl w =>
      have q2 : (Sum.inl v' : Option Value ⊕ String) = .inl (some (.int w)) := q1
      cases q2
      refine g_aload_n (pc := 2150) dL_law_2150 rfl rfl ?_
      refine g_riV (av := []) (pc := 2151) dL_law_2151 mt_X3_day lk_L_257 im_X3_day se_X3_day np_X3_day s_114 (by decide) (by decide) rfl gc_0 (Nat.le_of_ble_eq_true rfl) (Nat.le_of_ble_eq_true rfl) (gRi_deep (show 20 ≤ 39 by decide) (hm J hP L D)) ?_
      rintro v K2 ⟨hK2, hth, hv⟩
      refine g_icmp_eq (tgt := 2393) (pc := 2154) dL_law_2154 (by decide) (fun c2154 => ?_) (fun c2154 => ?_)
      rotate_left
      · exact absurd (hv w rfl).symm c2154
      exact g_bud (by omega) (by omega) (kn _ _ _ hK2)
  · obtain ⟨J, ⟨q1, -⟩, -⟩ := q
    cases o with
    | inr z => exact absurd (ho z rfl) (Nat.not_lt_zero z)
    | inl w =>
      have q2 : (Sum.inr X : Option Value ⊕ String) = .inl (some (.int w)) := q1
      cases q2
theorem lc_health (hR0 : Rel I) {k : Nat} (hk : 4 * k + 4 ≤ n) (hn : n ≤ 2048) {kc ks : Nat} {Q : gQ} (kn : ∀ J L2 D2, Rel J → gGo G gYlaw 40 2393 [some (.ref 0), some (.ref 3), some (.ref 114), some (.ref 131), some (.ref 132), some (.int (nI (4 * k))), none, none, none] [] (hp n J L2 D2) kc ks Q) : gGo G gYlaw 40 2159 [some (.ref 0), some (.ref 3), some (.ref 114), some (.ref 131), some (.ref 132), some (.int (nI (4 * k))), none, none, none] [] (hp n I L D) (kc + 1) (ks + 6) Q := by
  obtain ⟨V, C, H, m, T, t, e, K, l, Ls, hR⟩ := hR0
  obtain ⟨o, P, hx, hm⟩ := b_health (G := G) (n := n) hR
  refine g_aload_n (pc := 2159) dL_law_2159 rfl rfl ?_
  refine g_aload (pc := 2160) dL_law_2160 rfl ?_
  refine g_callH (av := [.ref 3, .ref 132]) (st := []) (pc := 2162) dL_law_2162 mh_L_health lk_L_258p sf_L_health rfl np_L_health (gc_r (gc_r gc_0)) (Nat.le_of_ble_eq_true rfl) (Nat.le_of_ble_eq_true rfl) ⟨Nat.le_add_left 1 _, Nat.le_add_left 6 _⟩ (g_deep (show 21 ≤ 39 by decide) (w_health (hx L D))) (fun v' h9 _ q => ?_) (fun X h9 q => ?_)
  · obtain ⟨J, ⟨q1, rfl⟩, hP⟩ := q
    obtain ⟨K2, v, hm2, hK2, hth, hv⟩ := hm J hP L (wD D o)
    cases q1
    cases o with
    | inr z =>
      have hth2 : K2 114 0 = nI 1 := hth
      show gGo _ _ _ _ _ [.int (nI 1)] _ _ _ _
      refine g_istore (pc := 2165) dL_law_2165 (Nat.le_of_ble_eq_true rfl) rfl ?_
      refine g_aload_n (pc := 2167) dL_law_2167 rfl rfl ?_
      refine g_fV (av := []) (pc := 2168) dL_law_2168 mt_X3_health lk_L_261 im_X3_health se_X3_health np_X3_health s_114 (by decide) (by decide) rfl gc_0 (Nat.le_of_ble_eq_true rfl) (Nat.le_of_ble_eq_true rfl) ⟨Nat.zero_le _, Nat.zero_le _⟩ (gFn_deep (show 20 ≤ 39 by decide) hm2) ?_
      refine g_dstore (pc := 2171) dL_law_2171 (Nat.le_of_ble_eq_true rfl) rfl ?_
      refine g_aload_n (pc := 2173) dL_law_2173 rfl rfl ?_
      refine g_fV (av := []) (pc := 2174) dL_law_2174 mt_X3_thrown lk_L_144 im_X3_thrown se_X3_thrown np_X3_thrown s_114 (by decide) (by decide) rfl gc_0 (Nat.le_of_ble_eq_true rfl) (Nat.le_of_ble_eq_true rfl) ⟨Nat.zero_le _, Nat.zero_le _⟩ (m_X3_thrown) ?_
      rw [hth2]
      refine g_iload (pc := 2177) dL_law_2177 rfl ?_
      refine g_icmp_eqN (tgt := 2184) (pc := 2179) dL_law_2179 (by decide) (by decide) (by decide) (fun c2179 => ?_) (fun c2179 => ?_)
      rotate_left
      · exact absurd rfl c2179
      refine g_iload (pc := 2184) dL_law_2184 rfl ?_
      refine g_if_neN (tgt := 2221) (pc := 2186) dL_law_2186 (by decide) (by decide) (fun c2186 => ?_) (fun c2186 => ?_)
      rotate_left
      · exact absurd c2186 (by decide)
      refine g_goto (tgt := 2393) (pc := 2221) dL_law_2221 (by decide) ?_
      refine g_fg 6 (g_fg 7 ?_)
      exact g_bud (by omega) (by omega) (kn _ _ _ hK2)
    | inl w =>
      have hvw := (hv w rfl).1
      subst hvw
      have hth2 : K2 114 0 = nI 0 := hth
      show gGo _ _ _ _ _ [.int (nI 0)] _ _ _ _
      refine g_istore (pc := 2165) dL_law_2165 (Nat.le_of_ble_eq_true rfl) rfl ?_
      refine g_aload_n (pc := 2167) dL_law_2167 rfl rfl ?_
      refine g_fV (av := []) (pc := 2168) dL_law_2168 mt_X3_health lk_L_261 im_X3_health se_X3_health np_X3_health s_114 (by decide) (by decide) rfl gc_0 (Nat.le_of_ble_eq_true rfl) (Nat.le_of_ble_eq_true rfl) ⟨Nat.zero_le _, Nat.zero_le _⟩ (gFn_deep (show 20 ≤ 39 by decide) hm2) ?_
      refine g_dstore (pc := 2171) dL_law_2171 (Nat.le_of_ble_eq_true rfl) rfl ?_
      refine g_aload_n (pc := 2173) dL_law_2173 rfl rfl ?_
      refine g_fV (av := []) (pc := 2174) dL_law_2174 mt_X3_thrown lk_L_144 im_X3_thrown se_X3_thrown np_X3_thrown s_114 (by decide) (by decide) rfl gc_0 (Nat.le_of_ble_eq_true rfl) (Nat.le_of_ble_eq_true rfl) ⟨Nat.zero_le _, Nat.zero_le _⟩ (m_X3_thrown) ?_
      rw [hth2]
      refine g_iload (pc := 2177) dL_law_2177 rfl ?_
      refine g_icmp_eqN (tgt := 2184) (pc := 2179) dL_law_2179 (by decide) (by decide) (by decide) (fun c2179 => ?_) (fun c2179 => ?_)
      rotate_left
      · exact absurd rfl c2179
      refine g_iload (pc := 2184) dL_law_2184 rfl ?_
      refine g_if_neN (tgt := 2221) (pc := 2186) dL_law_2186 (by decide) (by decide) (fun c2186 => ?_) (fun c2186 => ?_)
      · exact absurd rfl c2186
      refine g_aload (pc := 2189) dL_law_2189 rfl ?_
      refine g_iconst (v := nI 0) (pc := 2191) dL_law_2191 rfl ?_
      refine g_daload (pc := 2192) dL_law_2192 s_132 (by decide) (vp_in_nI (by decide) (by decide)) ?_
      rw [wD_at]
      refine g_dload (pc := 2193) dL_law_2193 rfl ?_
      refine g_dcmp (pc := 2195) dL_law_2195 ?_
      refine g_if_eq (tgt := 2221) (pc := 2196) dL_law_2196 (by decide) (fun c2196 => ?_) (fun c2196 => ?_)
      · refine g_goto (tgt := 2393) (pc := 2221) dL_law_2221 (by decide) ?_
        refine g_fg 6 (g_fg 7 ?_)
        exact g_bud (by omega) (by omega) (kn _ _ _ hK2)
      · refine g_aload (pc := 2199) dL_law_2199 rfl ?_
        refine g_iconst (v := nI 0) (pc := 2201) dL_law_2201 rfl ?_
        refine g_daload (pc := 2202) dL_law_2202 s_132 (by decide) (vp_in_nI (by decide) (by decide)) ?_
        rw [wD_at]
        refine g_aload (pc := 2203) dL_law_2203 rfl ?_
        refine g_iconst (v := nI 0) (pc := 2205) dL_law_2205 rfl ?_
        refine g_daload (pc := 2206) dL_law_2206 s_132 (by decide) (vp_in_nI (by decide) (by decide)) ?_
        rw [wD_at]
        refine g_dcmp (pc := 2207) dL_law_2207 ?_
        refine g_if_eq (tgt := 2219) (pc := 2208) dL_law_2208 (by decide) (fun c2208 => ?_) (fun c2208 => ?_)
        · exact absurd c2208 c2196
        · refine g_dload (pc := 2211) dL_law_2211 rfl ?_
          refine g_dload (pc := 2213) dL_law_2213 rfl ?_
          refine g_dcmp (pc := 2215) dL_law_2215 ?_
          refine g_if_ne (tgt := 2221) (pc := 2216) dL_law_2216 (by decide) (fun c2216 => ?_) (fun c2216 => ?_)
          · refine g_goto (tgt := 2393) (pc := 2221) dL_law_2221 (by decide) ?_
            refine g_fg 6 (g_fg 7 ?_)
            exact g_bud (by omega) (by omega) (kn _ _ _ hK2)
          · exact absurd c2216 c2196
  · obtain ⟨J, ⟨q1, -⟩, -⟩ := q
    cases q1
theorem lc_describe (hR0 : Rel I) {k : Nat} (hk : 4 * k + 4 ≤ n) (hn : n ≤ 2048) {kc ks : Nat} {Q : gQ} (kn : ∀ J L2 D2, Rel J → gGo G gYlaw 40 2393 [some (.ref 0), some (.ref 3), some (.ref 114), some (.ref 131), some (.ref 132), some (.int (nI (4 * k))), none, none, none] [] (hp n J L2 D2) kc ks Q) : gGo G gYlaw 40 2224 [some (.ref 0), some (.ref 3), some (.ref 114), some (.ref 131), some (.ref 132), some (.int (nI (4 * k))), none, none, none] [] (hp n I L D) (kc + 1) (ks + 6) Q := by
  obtain ⟨V, C, H, m, T, t, e, K, l, Ls, hR⟩ := hR0
  obtain ⟨o, P, ho, hx, hm⟩ := b_describe (G := G) (n := n) hR (I 0 (4 * k + 1)) (I 0 (4 * k + 2))
  have hcd := cd_lt ho (by decide)
  refine g_row (fun g0 => ?_)
  refine g_aload_n (pc := 2224) dL_law_2224 rfl rfl ?_
  refine g_aload_n (pc := 2225) dL_law_2225 rfl rfl ?_
  refine g_iload (pc := 2226) dL_law_2226 rfl ?_
  refine g_iconst (v := nI 1) (pc := 2228) dL_law_2228 rfl ?_
  refine g_iaddN (pc := 2229) dL_law_2229 ?_
  refine g_ialoadKN (pc := 2230) dL_law_2230 s_0 (by decide) (by omega) (by omega) rfl ?_
  refine g_aload_n (pc := 2231) dL_law_2231 rfl rfl ?_
  refine g_iload (pc := 2232) dL_law_2232 rfl ?_
  refine g_iconst (v := nI 2) (pc := 2234) dL_law_2234 rfl ?_
  refine g_iaddN (pc := 2235) dL_law_2235 ?_
  refine g_ialoadKN (pc := 2236) dL_law_2236 s_0 (by decide) (by omega) (by omega) rfl ?_
  refine g_aload_n (pc := 2237) dL_law_2237 rfl rfl ?_
  refine g_callH (av := [.ref 3, .int (I 0 (4 * k + 1)), .int (I 0 (4 * k + 2)), .ref 131]) (st := []) (pc := 2238) dL_law_2238 mh_L_describe lk_L_262p sf_L_describe rfl np_L_describe (gc_r (gc_i (gc_i (gc_r gc_0)))) (Nat.le_of_ble_eq_true rfl) (Nat.le_of_ble_eq_true rfl) ⟨Nat.le_add_left 1 _, Nat.le_add_left 6 _⟩ (g_deep (show 21 ≤ 39 by decide) (w_describe ho (hx L D))) (fun v' h9 _ q => ?_) (fun X h9 q => ?_)
  · obtain ⟨J, ⟨q1, rfl⟩, hP⟩ := q
    cases q1
    refine g_row (fun g1 => ?_)
    have hJ0 : J 0 = I 0 := (g1 0 (by decide)).trans (g0 0 (by decide)).symm
    refine g_istore (pc := 2241) dL_law_2241 (Nat.le_of_ble_eq_true rfl) rfl ?_
    refine g_aload_n (pc := 2243) dL_law_2243 rfl rfl ?_
    refine g_aload_n (pc := 2244) dL_law_2244 rfl rfl ?_
    refine g_iload (pc := 2245) dL_law_2245 rfl ?_
    refine g_iconst (v := nI 1) (pc := 2247) dL_law_2247 rfl ?_
    refine g_iaddN (pc := 2248) dL_law_2248 ?_
    refine g_ialoadKN (pc := 2249) dL_law_2249 s_0 (by decide) (by omega) (by omega) (congrFun hJ0 (4 * k + 1)) ?_
    refine g_aload_n (pc := 2250) dL_law_2250 rfl rfl ?_
    refine g_iload (pc := 2251) dL_law_2251 rfl ?_
    refine g_iconst (v := nI 2) (pc := 2253) dL_law_2253 rfl ?_
    refine g_iaddN (pc := 2254) dL_law_2254 ?_
    refine g_ialoadKN (pc := 2255) dL_law_2255 s_0 (by decide) (by omega) (by omega) (congrFun hJ0 (4 * k + 2)) ?_
    refine g_riV (av := [.int _, .int _]) (pc := 2256) dL_law_2256 mt_X3_describe lk_L_264 im_X3_describe se_X3_describe np_X3_describe s_114 (by decide) (by decide) rfl (gc_i (gc_i gc_0)) (Nat.le_of_ble_eq_true rfl) (Nat.le_of_ble_eq_true rfl) (gRi_deep (show 20 ≤ 39 by decide) (hm J hP (wL L o) D)) ?_
    rintro v K2 ⟨hK2, hth, hv⟩
    refine g_istore (pc := 2259) dL_law_2259 (Nat.le_of_ble_eq_true rfl) rfl ?_
    refine g_aload_n (pc := 2261) dL_law_2261 rfl rfl ?_
    refine g_fV (av := []) (pc := 2262) dL_law_2262 mt_X3_thrown lk_L_144 im_X3_thrown se_X3_thrown np_X3_thrown s_114 (by decide) (by decide) rfl gc_0 (Nat.le_of_ble_eq_true rfl) (Nat.le_of_ble_eq_true rfl) ⟨Nat.zero_le _, Nat.zero_le _⟩ m_X3_thrown ?_
    rw [hth]
    refine g_iload (pc := 2265) dL_law_2265 rfl ?_
    refine g_icmp_eqN (tgt := 2272) (pc := 2267) dL_law_2267 (by decide) (by omega) (by omega) (fun c2267 => ?_) (fun c2267 => ?_)
    rotate_left
    · exact absurd rfl c2267
    refine g_iload (pc := 2272) dL_law_2272 rfl ?_
    refine g_if_neN (tgt := 2289) (pc := 2274) dL_law_2274 (by decide) (by omega) (fun c2274 => ?_) (fun c2274 => ?_)
    · refine g_goto (tgt := 2393) (pc := 2289) dL_law_2289 (by decide) ?_
      refine g_fg 6 (g_fg 7 ?_)
      exact g_bud (by omega) (by omega) (kn _ _ _ hK2)
    · obtain ⟨w, rfl⟩ := cd_0 c2274
      have hvw := hv w rfl
      subst hvw
      refine g_aload_n (pc := 2277) dL_law_2277 rfl rfl ?_
      refine g_iconst (v := nI 0) (pc := 2278) dL_law_2278 rfl ?_
      refine g_laload (pc := 2279) dL_law_2279 s_131 (by decide) (vp_in_nI (by decide) (by decide)) ?_
      rw [wL_at]
      refine g_iload (pc := 2280) dL_law_2280 rfl ?_
      refine g_i2l (pc := 2282) dL_law_2282 ?_
      refine g_lcmp (pc := 2283) dL_law_2283 ?_
      refine g_if_eq (tgt := 2289) (pc := 2284) dL_law_2284 (by decide) (fun c2284 => ?_) (fun c2284 => ?_)
      · refine g_goto (tgt := 2393) (pc := 2289) dL_law_2289 (by decide) ?_
        refine g_fg 6 (g_fg 7 ?_)
        exact g_bud (by omega) (by omega) (kn _ _ _ hK2)
      · exact absurd ((lg_cmp_eq _ _).mpr rfl) c2284
  · obtain ⟨J, ⟨q1, -⟩, -⟩ := q
    cases q1
theorem lc_undo (hR0 : Rel I) {k : Nat} (hk : 4 * k + 4 ≤ n) (hn : n ≤ 2048) {kc ks : Nat} {Q : gQ} (kn : ∀ J L2 D2, Rel J → gGo G gYlaw 40 2393 [some (.ref 0), some (.ref 3), some (.ref 114), some (.ref 131), some (.ref 132), some (.int (nI (4 * k))), none, none, none] [] (hp n J L2 D2) kc ks Q) : gGo G gYlaw 40 2292 [some (.ref 0), some (.ref 3), some (.ref 114), some (.ref 131), some (.ref 132), some (.int (nI (4 * k))), none, none, none] [] (hp n I L D) (kc + 1) (ks + 6) Q := by
  obtain ⟨V, C, H, m, T, t, e, K, l, Ls, hR⟩ := hR0
  obtain ⟨o, P, ho, hx, hm⟩ := b_undo (G := G) (n := n) hR 
  have hcd := cd_lt ho (by decide)
  refine g_aload_n (pc := 2292) dL_law_2292 rfl rfl ?_
  refine g_aload_n (pc := 2293) dL_law_2293 rfl rfl ?_
  refine g_callH (av := [.ref 3, .ref 131]) (st := []) (pc := 2294) dL_law_2294 mh_L_undo lk_L_265p sf_L_undo rfl np_L_undo (gc_r (gc_r gc_0)) (Nat.le_of_ble_eq_true rfl) (Nat.le_of_ble_eq_true rfl) ⟨Nat.le_add_left 1 _, Nat.le_add_left 6 _⟩ (g_deep (show 21 ≤ 39 by decide) (w_undo ho (hx L D))) (fun v' h9 _ q => ?_) (fun X h9 q => ?_)
  · obtain ⟨J, ⟨q1, rfl⟩, hP⟩ := q
    cases q1
    refine g_istore (pc := 2297) dL_law_2297 (Nat.le_of_ble_eq_true rfl) rfl ?_
    refine g_aload_n (pc := 2299) dL_law_2299 rfl rfl ?_
    refine g_riV (av := []) (pc := 2300) dL_law_2300 mt_X3_undo lk_L_267 im_X3_undo se_X3_undo np_X3_undo s_114 (by decide) (by decide) rfl gc_0 (Nat.le_of_ble_eq_true rfl) (Nat.le_of_ble_eq_true rfl) (gRi_deep (show 20 ≤ 39 by decide) (hm J hP (wL L o) D)) ?_
    rintro v K2 ⟨hK2, hth, hv⟩
    refine g_istore (pc := 2303) dL_law_2303 (Nat.le_of_ble_eq_true rfl) rfl ?_
    refine g_aload_n (pc := 2305) dL_law_2305 rfl rfl ?_
    refine g_fV (av := []) (pc := 2306) dL_law_2306 mt_X3_thrown lk_L_144 im_X3_thrown se_X3_thrown np_X3_thrown s_114 (by decide) (by decide) rfl gc_0 (Nat.le_of_ble_eq_true rfl) (Nat.le_of_ble_eq_true rfl) ⟨Nat.zero_le _, Nat.zero_le _⟩ m_X3_thrown ?_
    rw [hth]
    refine g_iload (pc := 2309) dL_law_2309 rfl ?_
    refine g_icmp_eqN (tgt := 2316) (pc := 2311) dL_law_2311 (by decide) (by omega) (by omega) (fun c2311 => ?_) (fun c2311 => ?_)
    rotate_left
    · exact absurd rfl c2311
    refine g_iload (pc := 2316) dL_law_2316 rfl ?_
    refine g_if_neN (tgt := 2333) (pc := 2318) dL_law_2318 (by decide) (by omega) (fun c2318 => ?_) (fun c2318 => ?_)
    · refine g_goto (tgt := 2393) (pc := 2333) dL_law_2333 (by decide) ?_
      refine g_fg 6 (g_fg 7 ?_)
      exact g_bud (by omega) (by omega) (kn _ _ _ hK2)
    · obtain ⟨w, rfl⟩ := cd_0 c2318
      have hvw := hv w rfl
      subst hvw
      refine g_aload_n (pc := 2321) dL_law_2321 rfl rfl ?_
      refine g_iconst (v := nI 0) (pc := 2322) dL_law_2322 rfl ?_
      refine g_laload (pc := 2323) dL_law_2323 s_131 (by decide) (vp_in_nI (by decide) (by decide)) ?_
      rw [wL_at]
      refine g_iload (pc := 2324) dL_law_2324 rfl ?_
      refine g_i2l (pc := 2326) dL_law_2326 ?_
      refine g_lcmp (pc := 2327) dL_law_2327 ?_
      refine g_if_eq (tgt := 2333) (pc := 2328) dL_law_2328 (by decide) (fun c2328 => ?_) (fun c2328 => ?_)
      · refine g_goto (tgt := 2393) (pc := 2333) dL_law_2333 (by decide) ?_
        refine g_fg 6 (g_fg 7 ?_)
        exact g_bud (by omega) (by omega) (kn _ _ _ hK2)
      · exact absurd ((lg_cmp_eq _ _).mpr rfl) c2328
  · obtain ⟨J, ⟨q1, -⟩, -⟩ := q
    cases q1
theorem lc_save (hR0 : Rel I) {k : Nat} (hk : 4 * k + 4 ≤ n) (hn : n ≤ 2048) {kc ks : Nat} {Q : gQ} (kn : ∀ J L2 D2, Rel J → gGo G gYlaw 40 2393 [some (.ref 0), some (.ref 3), some (.ref 114), some (.ref 131), some (.ref 132), some (.int (nI (4 * k))), none, none, none] [] (hp n J L2 D2) kc ks Q) : gGo G gYlaw 40 2336 [some (.ref 0), some (.ref 3), some (.ref 114), some (.ref 131), some (.ref 132), some (.int (nI (4 * k))), none, none, none] [] (hp n I L D) (kc + 1) (ks + 6) Q := by
  obtain ⟨V, C, H, m, T, t, e, K, l, Ls, hR⟩ := hR0
  obtain ⟨o, P, ho, hx, hm⟩ := b_save (G := G) (n := n) hR
  refine g_aload_n (pc := 2336) dL_law_2336 rfl rfl ?_
  refine g_callV (av := []) (st := []) (ci := 2) (pc := 2337) dL_law_2337 mt_X2_save lk_L_268 im_X2_save se_X2_save (by decide) s_3 (by decide) rfl np_X2_save gc_0 (Nat.le_of_ble_eq_true rfl) (Nat.le_of_ble_eq_true rfl) ⟨Nat.le_add_left 1 _, Nat.le_add_left 6 _⟩ (g_deep (show 20 ≤ 39 by decide) (hx L D)) (fun v' h9 _ q => ?_) (fun X h9 q => ?_)
  · obtain ⟨J, ⟨q1, rfl⟩, hP⟩ := q
    cases o with
    | inr z => exact absurd (ho z rfl) (Nat.not_lt_zero z)
    | inl w =>
      have q2 : (Sum.inl v' : Option Value ⊕ String) = .inl (some (.int w)) := q1
      cases q2
      refine g_aload_n (pc := 2340) dL_law_2340 rfl rfl ?_
      refine g_riV (av := []) (pc := 2341) dL_law_2341 mt_X3_save lk_L_271 im_X3_save se_X3_save np_X3_save s_114 (by decide) (by decide) rfl gc_0 (Nat.le_of_ble_eq_true rfl) (Nat.le_of_ble_eq_true rfl) (gRi_deep (show 20 ≤ 39 by decide) (hm J hP L D)) ?_
      rintro v K2 ⟨hK2, hth, hv⟩
      refine g_icmp_eq (tgt := 2393) (pc := 2344) dL_law_2344 (by decide) (fun c2344 => ?_) (fun c2344 => ?_)
      rotate_left
      · exact absurd (hv w rfl).symm c2344
      exact g_bud (by omega) (by omega) (kn _ _ _ hK2)
  · obtain ⟨J, ⟨q1, -⟩, -⟩ := q
    cases o with
    | inr z => exact absurd (ho z rfl) (Nat.not_lt_zero z)
    | inl w =>
      have q2 : (Sum.inr X : Option Value ⊕ String) = .inl (some (.int w)) := q1
      cases q2
theorem lc_restore (hR0 : Rel I) {k : Nat} (hk : 4 * k + 4 ≤ n) (hn : n ≤ 2048) {kc ks : Nat} {Q : gQ} (kn : ∀ J L2 D2, Rel J → gGo G gYlaw 40 2393 [some (.ref 0), some (.ref 3), some (.ref 114), some (.ref 131), some (.ref 132), some (.int (nI (4 * k))), none, none, none] [] (hp n J L2 D2) kc ks Q) : gGo G gYlaw 40 2349 [some (.ref 0), some (.ref 3), some (.ref 114), some (.ref 131), some (.ref 132), some (.int (nI (4 * k))), none, none, none] [] (hp n I L D) (kc + 1) (ks + 6) Q := by
  obtain ⟨V, C, H, m, T, t, e, K, l, Ls, hR⟩ := hR0
  obtain ⟨o, P, ho, hx, hm⟩ := b_restore (G := G) (n := n) hR 
  have hcd := cd_lt ho (by decide)
  refine g_aload_n (pc := 2349) dL_law_2349 rfl rfl ?_
  refine g_aload_n (pc := 2350) dL_law_2350 rfl rfl ?_
  refine g_callH (av := [.ref 3, .ref 131]) (st := []) (pc := 2351) dL_law_2351 mh_L_restore lk_L_272p sf_L_restore rfl np_L_restore (gc_r (gc_r gc_0)) (Nat.le_of_ble_eq_true rfl) (Nat.le_of_ble_eq_true rfl) ⟨Nat.le_add_left 1 _, Nat.le_add_left 6 _⟩ (g_deep (show 21 ≤ 39 by decide) (w_restore ho (hx L D))) (fun v' h9 _ q => ?_) (fun X h9 q => ?_)
  · obtain ⟨J, ⟨q1, rfl⟩, hP⟩ := q
    cases q1
    refine g_istore (pc := 2354) dL_law_2354 (Nat.le_of_ble_eq_true rfl) rfl ?_
    refine g_aload_n (pc := 2356) dL_law_2356 rfl rfl ?_
    refine g_riV (av := []) (pc := 2357) dL_law_2357 mt_X3_restore lk_L_274 im_X3_restore se_X3_restore np_X3_restore s_114 (by decide) (by decide) rfl gc_0 (Nat.le_of_ble_eq_true rfl) (Nat.le_of_ble_eq_true rfl) (gRi_deep (show 20 ≤ 39 by decide) (hm J hP (wL L o) D)) ?_
    rintro v K2 ⟨hK2, hth, hv⟩
    refine g_istore (pc := 2360) dL_law_2360 (Nat.le_of_ble_eq_true rfl) rfl ?_
    refine g_aload_n (pc := 2362) dL_law_2362 rfl rfl ?_
    refine g_fV (av := []) (pc := 2363) dL_law_2363 mt_X3_thrown lk_L_144 im_X3_thrown se_X3_thrown np_X3_thrown s_114 (by decide) (by decide) rfl gc_0 (Nat.le_of_ble_eq_true rfl) (Nat.le_of_ble_eq_true rfl) ⟨Nat.zero_le _, Nat.zero_le _⟩ m_X3_thrown ?_
    rw [hth]
    refine g_iload (pc := 2366) dL_law_2366 rfl ?_
    refine g_icmp_eqN (tgt := 2373) (pc := 2368) dL_law_2368 (by decide) (by omega) (by omega) (fun c2368 => ?_) (fun c2368 => ?_)
    rotate_left
    · exact absurd rfl c2368
    refine g_iload (pc := 2373) dL_law_2373 rfl ?_
    refine g_if_neN (tgt := 2390) (pc := 2375) dL_law_2375 (by decide) (by omega) (fun c2375 => ?_) (fun c2375 => ?_)
    · refine g_goto (tgt := 2393) (pc := 2390) dL_law_2390 (by decide) ?_
      refine g_fg 6 (g_fg 7 ?_)
      exact g_bud (by omega) (by omega) (kn _ _ _ hK2)
    · obtain ⟨w, rfl⟩ := cd_0 c2375
      have hvw := hv w rfl
      subst hvw
      refine g_aload_n (pc := 2378) dL_law_2378 rfl rfl ?_
      refine g_iconst (v := nI 0) (pc := 2379) dL_law_2379 rfl ?_
      refine g_laload (pc := 2380) dL_law_2380 s_131 (by decide) (vp_in_nI (by decide) (by decide)) ?_
      rw [wL_at]
      refine g_iload (pc := 2381) dL_law_2381 rfl ?_
      refine g_i2l (pc := 2383) dL_law_2383 ?_
      refine g_lcmp (pc := 2384) dL_law_2384 ?_
      refine g_if_eq (tgt := 2390) (pc := 2385) dL_law_2385 (by decide) (fun c2385 => ?_) (fun c2385 => ?_)
      · refine g_goto (tgt := 2393) (pc := 2390) dL_law_2390 (by decide) ?_
        refine g_fg 6 (g_fg 7 ?_)
        exact g_bud (by omega) (by omega) (kn _ _ _ hK2)
      · exact absurd ((lg_cmp_eq _ _).mpr rfl) c2385
  · obtain ⟨J, ⟨q1, -⟩, -⟩ := q
    cases q1
theorem l_2393 {Q : gQ} {k kc ks : Nat} (kn : gGo G gYlaw 40 28 [some (.ref 0), some (.ref 3), some (.ref 114), some (.ref 131), some (.ref 132), some (.int (nI (4 * (k + 1)))), none, none, none] [] (hp n I L D) kc ks Q) : gGo G gYlaw 40 2393 [some (.ref 0), some (.ref 3), some (.ref 114), some (.ref 131), some (.ref 132), some (.int (nI (4 * k))), none, none, none] [] (hp n I L D) kc ks Q := by
  refine g_iinc (pc := 2393) dL_law_2393 (Nat.le_of_ble_eq_true rfl) rfl (show nI (4 * k) + Int32.ofInt 4 = nI (4 * (k + 1)) from nI_add _ _) rfl ?_
  refine g_goto (tgt := 28) (pc := 2396) dL_law_2396 (by decide) ?_
  exact kn
theorem l_28_out {Q : gQ} {k kc ks : Nat} (hn : n ≤ 2048) (hk : ¬ 4 * k + 4 ≤ n) (hk5 : k ≤ 512) (hq : ∀ h, Q (.inl (some (.int 1))) h) : gGo G gYlaw 40 28 [some (.ref 0), some (.ref 3), some (.ref 114), some (.ref 131), some (.ref 132), some (.int (nI (4 * k))), none, none, none] [] (hp n I L D) kc ks Q := by
  by_cases h4 : 4 ≤ n
  · skip
    refine g_iload (pc := 28) dL_law_28 rfl ?_
    refine g_aload_n (pc := 30) dL_law_30 rfl rfl ?_
    refine g_alenK (pc := 31) dL_law_31 s_0 (by decide) ?_
    show gGo _ _ _ _ _ [.int (nI n), .int (nI (4 * k))] _ _ _ _
    refine g_iconst (v := nI 4) (pc := 32) dL_law_32 rfl ?_
    refine g_isubN (pc := 33) dL_law_33 (by omega) ?_
    refine g_icmp_gtN (tgt := 2399) (pc := 34) dL_law_34 (by decide) (by omega) (by omega) (fun c34 => ?_) (fun c34 => ?_)
    rotate_left
    · omega
    refine g_iconst (v := nI 1) (pc := 2399) dL_law_2399 rfl ?_
    refine g_iret (pc := 2400) dL_law_2400 rfl rfl ?_
    exact hq _
  · have hneg := pk_sneg (a := n) (b := 4) (by decide) (by omega)
    refine g_iload (pc := 28) dL_law_28 rfl ?_
    refine g_aload_n (pc := 30) dL_law_30 rfl rfl ?_
    refine g_alenK (pc := 31) dL_law_31 s_0 (by decide) ?_
    show gGo _ _ _ _ _ (.int (nI n) :: _) _ _ _ _
    refine g_iconst (v := nI 4) (pc := 32) dL_law_32 rfl ?_
    refine g_isub (pc := 33) dL_law_33 ?_
    refine g_icmp_gt (tgt := 2399) (pc := 34) dL_law_34 (by decide) (fun c34 => ?_) (fun c34 => ?_)
    rotate_left
    · rw [Int32.lt_iff_toInt_lt] at c34 hneg
      rw [nI_toInt (show 4 * k < 2 ^ 31 by omega)] at c34
      have e0 : (0 : Int32).toInt = 0 := rfl
      omega
    refine g_iconst (v := nI 1) (pc := 2399) dL_law_2399 rfl ?_
    refine g_iret (pc := 2400) dL_law_2400 rfl rfl ?_
    exact hq _
theorem l_28_in {Q : gQ} {k kc ks j : Nat} (hn : n ≤ 2048) (hk : 4 * k + 4 ≤ n) (hj : I 0 (4 * k) &&& nI 63 = nI j) (kn : gGo G gYlaw 40 44 [some (.ref 0), some (.ref 3), some (.ref 114), some (.ref 131), some (.ref 132), some (.int (nI (4 * k))), none, none, none] [.int (nI j)] (hp n I L D) kc ks Q) : gGo G gYlaw 40 28 [some (.ref 0), some (.ref 3), some (.ref 114), some (.ref 131), some (.ref 132), some (.int (nI (4 * k))), none, none, none] [] (hp n I L D) kc ks Q := by
  refine g_iload (pc := 28) dL_law_28 rfl ?_
  refine g_aload_n (pc := 30) dL_law_30 rfl rfl ?_
  refine g_alenK (pc := 31) dL_law_31 s_0 (by decide) ?_
  show gGo _ _ _ _ _ [.int (nI n), .int (nI (4 * k))] _ _ _ _
  refine g_iconst (v := nI 4) (pc := 32) dL_law_32 rfl ?_
  refine g_isubN (pc := 33) dL_law_33 (by omega) ?_
  refine g_icmp_gtN (tgt := 2399) (pc := 34) dL_law_34 (by decide) (by omega) (by omega) (fun c34 => ?_) (fun c34 => ?_)
  · omega
  refine g_aload_n (pc := 37) dL_law_37 rfl rfl ?_
  refine g_iload (pc := 38) dL_law_38 rfl ?_
  refine g_ialoadKN (pc := 40) dL_law_40 s_0 (by decide) (by omega) (by omega) rfl ?_
  refine g_bipush (v := nI 63) (pc := 41) dL_law_41 rfl ?_
  refine g_iand (pc := 43) dL_law_43 ?_
  rw [hj]
  exact kn
theorem l_44 {Q : gQ} {k kc ks j : Nat} (hR : Rel I) (hn : n ≤ 2048) (hk : 4 * k + 4 ≤ n) (hj : j < 64) (kn : ∀ J L2 D2, Rel J → gGo G gYlaw 40 2393 [some (.ref 0), some (.ref 3), some (.ref 114), some (.ref 131), some (.ref 132), some (.int (nI (4 * k))), none, none, none] [] (hp n J L2 D2) kc ks Q) : gGo G gYlaw 40 44 [some (.ref 0), some (.ref 3), some (.ref 114), some (.ref 131), some (.ref 132), some (.int (nI (4 * k))), none, none, none] [.int (nI j)] (hp n I L D) (kc + 1) (ks + 6) Q := by
  rcases (by omega : j = 0 ∨ j = 1 ∨ j = 2 ∨ j = 3 ∨ j = 4 ∨ j = 5 ∨ j = 6 ∨ j = 7 ∨ j = 8 ∨ j = 9 ∨ j = 10 ∨ j = 11 ∨ j = 12 ∨ j = 13 ∨ j = 14 ∨ j = 15 ∨ j = 16 ∨ j = 17 ∨ j = 18 ∨ j = 19 ∨ j = 20 ∨ j = 21 ∨ j = 22 ∨ j = 23 ∨ j = 24 ∨ j = 25 ∨ j = 26 ∨ j = 27 ∨ j = 28 ∨ j = 29 ∨ j = 30 ∨ j = 31 ∨ j = 32 ∨ j = 33 ∨ j = 34 ∨ j = 35 ∨ j = 36 ∨ j = 37 ∨ j = 38 ∨ j = 39 ∨ j = 40 ∨ 41 ≤ j) with z | z | z | z | z | z | z | z | z | z | z | z | z | z | z | z | z | z | z | z | z | z | z | z | z | z | z | z | z | z | z | z | z | z | z | z | z | z | z | z | z | z
  · subst z
    exact g_tabIn (pc := 44) (tgt := 224) dL_law_44 (by decide) (by decide) rfl (by decide) (lc_clear hR hk hn kn)
  · subst z
    exact g_tabIn (pc := 44) (tgt := 237) dL_law_44 (by decide) (by decide) rfl (by decide) (lc_append hR hk hn kn)
  · subst z
    exact g_tabIn (pc := 44) (tgt := 295) dL_law_44 (by decide) (by decide) rfl (by decide) (lc_store hR hk hn kn)
  · subst z
    exact g_tabIn (pc := 44) (tgt := 339) dL_law_44 (by decide) (by decide) rfl (by decide) (lc_errorPosition hR hk hn kn)
  · subst z
    exact g_tabIn (pc := 44) (tgt := 383) dL_law_44 (by decide) (by decide) rfl (by decide) (lc_remove hR hk hn kn)
  · subst z
    exact g_tabIn (pc := 44) (tgt := 439) dL_law_44 (by decide) (by decide) rfl (by decide) (lc_file hR hk hn kn)
  · subst z
    exact g_tabIn (pc := 44) (tgt := 507) dL_law_44 (by decide) (by decide) rfl (by decide) (lc_files hR hk hn kn)
  · subst z
    exact g_tabIn (pc := 44) (tgt := 520) dL_law_44 (by decide) (by decide) rfl (by decide) (lc_cellOf hR hk hn kn)
  · subst z
    exact g_tabIn (pc := 44) (tgt := 600) dL_law_44 (by decide) (by decide) rfl (by decide) (lc_owner hR hk hn kn)
  · subst z
    exact g_tabIn (pc := 44) (tgt := 656) dL_law_44 (by decide) (by decide) rfl (by decide) (lc_placeOf hR hk hn kn)
  · subst z
    exact g_tabIn (pc := 44) (tgt := 712) dL_law_44 (by decide) (by decide) rfl (by decide) (lc_room hR hk hn kn)
  · subst z
    exact g_tabIn (pc := 44) (tgt := 725) dL_law_44 (by decide) (by decide) rfl (by decide) (lc_symbol hR hk hn kn)
  · subst z
    exact g_tabIn (pc := 44) (tgt := 781) dL_law_44 (by decide) (by decide) rfl (by decide) (lc_isErased hR hk hn kn)
  · subst z
    exact g_tabIn (pc := 44) (tgt := 844) dL_law_44 (by decide) (by decide) rfl (by decide) (lc_flip hR hk hn kn)
  · subst z
    exact g_tabIn (pc := 44) (tgt := 912) dL_law_44 (by decide) (by decide) rfl (by decide) (lc_erase hR hk hn kn)
  · subst z
    exact g_tabIn (pc := 44) (tgt := 968) dL_law_44 (by decide) (by decide) rfl (by decide) (lc_burst hR hk hn kn)
  · subst z
    exact g_tabIn (pc := 44) (tgt := 1048) dL_law_44 (by decide) (by decide) rfl (by decide) (lc_wrong hR hk hn kn)
  · subst z
    exact g_tabIn (pc := 44) (tgt := 1104) dL_law_44 (by decide) (by decide) rfl (by decide) (lc_erased hR hk hn kn)
  · subst z
    exact g_tabIn (pc := 44) (tgt := 1160) dL_law_44 (by decide) (by decide) rfl (by decide) (lc_sum hR hk hn kn)
  · subst z
    exact g_tabIn (pc := 44) (tgt := 1240) dL_law_44 (by decide) (by decide) rfl (by decide) (lc_decoded hR hk hn kn)
  · subst z
    exact g_tabIn (pc := 44) (tgt := 1320) dL_law_44 (by decide) (by decide) rfl (by decide) (lc_found hR hk hn kn)
  · subst z
    exact g_tabIn (pc := 44) (tgt := 1400) dL_law_44 (by decide) (by decide) rfl (by decide) (lc_read hR hk hn kn)
  · subst z
    exact g_tabIn (pc := 44) (tgt := 1468) dL_law_44 (by decide) (by decide) rfl (by decide) (lc_condition hR hk hn kn)
  · subst z
    exact g_tabIn (pc := 44) (tgt := 1524) dL_law_44 (by decide) (by decide) rfl (by decide) (lc_undecodable hR hk hn kn)
  · subst z
    exact g_tabIn (pc := 44) (tgt := 1580) dL_law_44 (by decide) (by decide) rfl (by decide) (lc_margin hR hk hn kn)
  · subst z
    exact g_tabIn (pc := 44) (tgt := 1648) dL_law_44 (by decide) (by decide) rfl (by decide) (lc_burstLimit hR hk hn kn)
  · subst z
    exact g_tabIn (pc := 44) (tgt := 1704) dL_law_44 (by decide) (by decide) rfl (by decide) (lc_advance hR hk hn kn)
  · subst z
    exact g_tabIn (pc := 44) (tgt := 1760) dL_law_44 (by decide) (by decide) rfl (by decide) (lc_scrub hR hk hn kn)
  · subst z
    exact g_tabIn (pc := 44) (tgt := 1816) dL_law_44 (by decide) (by decide) rfl (by decide) (lc_report hR hk hn kn)
  · subst z
    exact g_tabIn (pc := 44) (tgt := 1884) dL_law_44 (by decide) (by decide) rfl (by decide) (lc_reportLines hR hk hn kn)
  · subst z
    exact g_tabIn (pc := 44) (tgt := 1897) dL_law_44 (by decide) (by decide) rfl (by decide) (lc_repair hR hk hn kn)
  · subst z
    exact g_tabIn (pc := 44) (tgt := 1965) dL_law_44 (by decide) (by decide) rfl (by decide) (lc_checked hR hk hn kn)
  · subst z
    exact g_tabIn (pc := 44) (tgt := 2033) dL_law_44 (by decide) (by decide) rfl (by decide) (lc_nextToCheck hR hk hn kn)
  · subst z
    exact g_tabIn (pc := 44) (tgt := 2077) dL_law_44 (by decide) (by decide) rfl (by decide) (lc_needed hR hk hn kn)
  · subst z
    exact g_tabIn (pc := 44) (tgt := 2090) dL_law_44 (by decide) (by decide) rfl (by decide) (lc_account hR hk hn kn)
  · subst z
    exact g_tabIn (pc := 44) (tgt := 2146) dL_law_44 (by decide) (by decide) rfl (by decide) (lc_day hR hk hn kn)
  · subst z
    exact g_tabIn (pc := 44) (tgt := 2159) dL_law_44 (by decide) (by decide) rfl (by decide) (lc_health hR hk hn kn)
  · subst z
    exact g_tabIn (pc := 44) (tgt := 2224) dL_law_44 (by decide) (by decide) rfl (by decide) (lc_describe hR hk hn kn)
  · subst z
    exact g_tabIn (pc := 44) (tgt := 2292) dL_law_44 (by decide) (by decide) rfl (by decide) (lc_undo hR hk hn kn)
  · subst z
    exact g_tabIn (pc := 44) (tgt := 2336) dL_law_44 (by decide) (by decide) rfl (by decide) (lc_save hR hk hn kn)
  · subst z
    exact g_tabIn (pc := 44) (tgt := 2349) dL_law_44 (by decide) (by decide) rfl (by decide) (lc_restore hR hk hn kn)
  · exact g_tabOut (pc := 44) (tgt := 2393) dL_law_44 (Or.inr (by rw [nI_toInt (by omega)]; omega)) (by decide) (g_bud (by omega) (by omega) (kn _ _ _ hR))
theorem l_loop {Q : gQ} (hn : n ≤ 2048) (hq : ∀ h, Q (.inl (some (.int 1))) h) (r : Nat) : ∀ (k : Nat) (I : Nat → Nat → Int32) (L : Nat → Nat → Int64) (D : Nat → Nat → UInt64), k + r = 512 → Rel I → gGo G gYlaw 40 28 [some (.ref 0), some (.ref 3), some (.ref 114), some (.ref 131), some (.ref 132), some (.int (nI (4 * k))), none, none, none] [] (hp n I L D) r (6 * r) Q := by
  induction r with
  | zero =>
    intro k I L D hk hR
    exact l_28_out hn (by omega) (by omega) hq
  | succ r ih =>
    intro k I L D hk hR
    by_cases h4 : 4 * k + 4 ≤ n
    · obtain ⟨j, hj, ej⟩ := pk_andE (I 0 (4 * k)) (m := nI 63) 6 (by decide)
      exact l_28_in hn h4 ej (l_44 (kc := r) (ks := 6 * r) hR hn h4 hj (fun J L2 D2 hJ => l_2393 (ih (k + 1) J L2 D2 (by omega) hJ)))
    · exact l_28_out hn h4 (by omega) hq
end

