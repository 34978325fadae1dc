/-! ===== the reference: whether a set explains (the end) ===== -/
section
variable {G : gG} {d n : Nat} {I : Nat → Nat → Int32} {L : Nat → Nat → Int64} {D : Nat → Nat → UInt64} {V : Nat → Nat}
theorem l_X3_sol4 {S c m z : Nat} {s : Nat → F6} {I0 : Nat → Nat → Int32} (h0 : Sm [126, 127, 128] I0 I) (hz : I 114 23 = nI z) (h14 : z ≤ 14) (hSz : S < 2 ^ z) (hc : I 114 24 = nI c) (hc6 : c ≤ 6) (hm : m ≤ c) (hm2 : m = nS S 14) (hpl : ∀ a, a < m → I 126 a = nI (plS S a)) {M M0 : mT} (hR : Rw I M) (hM0 : M0of M0 S m c s) (hE : ∀ w, Eqs M c w ↔ Eqs M0 c w) (hU : Uc M c m) : gGo G YX3_isSolved d 333 [some (.ref 114), some (.int (nI S)), some (.int (nI m)), some (.int (nI m)), none, none, none, none, none] [] (hp n I L D) 0 0 (fun o g => ∃ v J, (o = .inl (some (.int v)) ∧ g = hp n J L D) ∧ ((v = nI 1 ∧ ∃ x, Sol s c S x ∧ ∀ i, i < z → J 127 i = fI (x i)) ∨ (v = nI 0 ∧ ¬ Sv s c S)) ∧ Sm [126, 127, 128] I0 J ∧ ∃ M, Rw J M) := by
  have hmz : m = nS S z := by rw [hm2]; exact nS_z hSz h14
  refine g_iload_n (pc := 333) dX3_isSolved_333 rfl rfl ?_
  refine g_istore_n (pc := 334) dX3_isSolved_334 rfl (Nat.le_of_ble_eq_true rfl) rfl ?_
  refine g_loop (c - m) (fun t (_ : Unit) => ∀ i, m ≤ i → i < m + t → M i 7 = 0) (fun t _ => [some (.ref 114), some (.int (nI S)), some (.int (nI m)), some (.int (nI (m + t))), none, none, none, none, none]) (fun _ => hp n I L D) (fun t _ ht hti kt => ?_) (fun _ hti => ?_) 0 () (Nat.zero_le _) (fun i h1 h2 => absurd h2 (by omega))
  · have hv := hR (m + t) 7 (by omega) (by decide)
    have hlt := (M (m + t) 7).isLt
    refine g_iload_n (pc := 335) dX3_isSolved_335 rfl rfl ?_
    refine g_aload_n (pc := 336) dX3_isSolved_336 rfl rfl ?_
    refine g_getIV (pc := 337) dX3_isSolved_337 fl_X3_135 s_114 (by decide) rfl hc ?_
    refine g_icmp_geN (tgt := 366) (pc := 340) dX3_isSolved_340 (by decide) (by omega) (by omega) (fun c340 => ?_) (fun c340 => ?_)
    · omega
    refine g_aload_n (pc := 343) dX3_isSolved_343 rfl rfl ?_
    refine g_getR (pc := 344) dX3_isSolved_344 fl_X3_54 s_114 (by decide) rfl t_114_21 ?_
    refine g_bipush (v := nI 8) (pc := 347) dX3_isSolved_347 rfl ?_
    refine g_iload_n (pc := 349) dX3_isSolved_349 rfl rfl ?_
    refine g_imulN (pc := 350) dX3_isSolved_350 ?_
    refine g_bipush (v := nI 7) (pc := 351) dX3_isSolved_351 rfl ?_
    refine g_iaddN (pc := 353) dX3_isSolved_353 ?_
    refine g_ialoadN (pc := 354) dX3_isSolved_354 s_128 (by decide) (by omega) (by decide) (show _ = nI (M (m + t) 7).val from hv) ?_
    refine g_if_eqN (tgt := 360) (pc := 355) dX3_isSolved_355 (by decide) (by omega) (fun c355 => ?_) (fun c355 => ?_)
    · refine g_iincN (pc := 360) dX3_isSolved_360 (Nat.le_of_ble_eq_true rfl) rfl rfl ?_
      refine g_goto (tgt := 335) (pc := 363) dX3_isSolved_363 (by decide) ?_
      refine kt () (fun i h1 h2 => ?_)
      rcases Nat.lt_or_ge i (m + t) with q | q
      · exact hti i h1 q
      · rw [show i = m + t by omega]; exact Fin.ext c355
    · refine g_iconst (v := nI 0) (pc := 358) dX3_isSolved_358 rfl ?_
      refine g_iret (pc := 359) dX3_isSolved_359 rfl rfl ?_
      refine ⟨_, _, ⟨rfl, rfl⟩, ?_⟩
      refine ⟨Or.inr ⟨rfl, ?_⟩, h0, M, hR⟩
      subst hm2
      exact fin_no hM0 hm hc6 hE hU (j := nS S 14 + t) (by omega) (by omega) (fun e => c355 (by rw [e]; rfl))
  · have hsol : Sol s c S (fun i => if S.testBit i = true ∧ i < 14 then M (nS S i) 7 else 0) := by
      subst hm2
      exact fin_yes hM0 hm hc6 hE hU (fun j h1 h2 => hti j h1 (by omega))
    refine g_iload_n (pc := 335) dX3_isSolved_335 rfl rfl ?_
    refine g_aload_n (pc := 336) dX3_isSolved_336 rfl rfl ?_
    refine g_getIV (pc := 337) dX3_isSolved_337 fl_X3_135 s_114 (by decide) rfl hc ?_
    refine g_icmp_geN (tgt := 366) (pc := 340) dX3_isSolved_340 (by decide) (by omega) (by omega) (fun c340 => ?_) (fun c340 => ?_)
    rotate_left
    · omega
    refine g_iconst (v := nI 0) (pc := 366) dX3_isSolved_366 rfl ?_
    refine g_istore_n (pc := 367) dX3_isSolved_367 rfl (Nat.le_of_ble_eq_true rfl) rfl ?_
    refine g_loop z (fun k J => Sm [127] I J ∧ ∀ i, i < k → J 127 i = nI 0) (fun k _ => [some (.ref 114), some (.int (nI S)), some (.int (nI m)), some (.int (nI k)), none, none, none, none, none]) (fun J => hp n J L D) (fun k J hk hJ kn => ?_) (fun J hJ => ?_) 0 I (Nat.zero_le _) ⟨Sm.rfl, fun i h => absurd h (Nat.not_lt_zero i)⟩
    · obtain ⟨s1, s2⟩ := hJ
      have hz1 : J 114 23 = nI z := by rw [s1 114 (by decide)]; exact hz
      refine g_iload_n (pc := 368) dX3_isSolved_368 rfl rfl ?_
      refine g_aload_n (pc := 369) dX3_isSolved_369 rfl rfl ?_
      refine g_getIV (pc := 370) dX3_isSolved_370 fl_X3_133 s_114 (by decide) rfl hz1 ?_
      refine g_icmp_geN (tgt := 389) (pc := 373) dX3_isSolved_373 (by decide) (by omega) (by omega) (fun c373 => ?_) (fun c373 => ?_)
      · omega
      refine g_aload_n (pc := 376) dX3_isSolved_376 rfl rfl ?_
      refine g_getR (pc := 377) dX3_isSolved_377 fl_X3_51 s_114 (by decide) rfl t_114_20 ?_
      refine g_iload_n (pc := 380) dX3_isSolved_380 rfl rfl ?_
      refine g_iconst (v := nI 0) (pc := 381) dX3_isSolved_381 rfl ?_
      refine g_iastoreN (pc := 382) dX3_isSolved_382 s_127 (by decide) (by omega) (by decide) ?_
      refine g_iincN (pc := 383) dX3_isSolved_383 (Nat.le_of_ble_eq_true rfl) rfl rfl ?_
      refine g_goto (tgt := 368) (pc := 386) dX3_isSolved_386 (by decide) ?_
      refine kn _ ⟨Sm.up (by decide) s1, fun i hi => ?_⟩
      rw [gUp_c]
      by_cases e : i = k
      · rw [if_pos e]
      · rw [if_neg e]; exact s2 i (by omega)
    · obtain ⟨s1, s2⟩ := hJ
      have hz1 : J 114 23 = nI z := by rw [s1 114 (by decide)]; exact hz
      refine g_iload_n (pc := 368) dX3_isSolved_368 rfl rfl ?_
      refine g_aload_n (pc := 369) dX3_isSolved_369 rfl rfl ?_
      refine g_getIV (pc := 370) dX3_isSolved_370 fl_X3_133 s_114 (by decide) rfl hz1 ?_
      refine g_icmp_geN (tgt := 389) (pc := 373) dX3_isSolved_373 (by decide) (by omega) (by omega) (fun c373 => ?_) (fun c373 => ?_)
      rotate_left
      · omega
      refine g_iconst (v := nI 0) (pc := 389) dX3_isSolved_389 rfl ?_
      refine g_istore_n (pc := 390) dX3_isSolved_390 rfl (Nat.le_of_ble_eq_true rfl) rfl ?_
      refine g_loop m (fun k J => Sm [127] I J ∧ ∀ i, i < z → J 127 i = fI (if S.testBit i = true ∧ nS S i < k then M (nS S i) 7 else 0)) (fun k _ => [some (.ref 114), some (.int (nI S)), some (.int (nI m)), some (.int (nI k)), none, none, none, none, none]) (fun J => hp n J L D) (fun k J hk hJ kn => ?_) (fun J hJ => ?_) 0 J (Nat.zero_le _) ⟨s1, fun i hi => by rw [if_neg (fun q => absurd q.2 (Nat.not_lt_zero _))]; exact s2 i hi⟩
      · obtain ⟨s1, s2⟩ := hJ
        have hp1 : J 126 k = nI (plS S k) := by rw [s1 126 (by decide)]; exact hpl k hk
        have hp2 := plS_lt h14 (show k < nS S z by omega)
        have hv : J 128 (8 * k + 7) = fI (M k 7) := by rw [s1 128 (by decide)]; exact hR k 7 (by omega) (by decide)
        refine g_iload_n (pc := 391) dX3_isSolved_391 rfl rfl ?_
        refine g_iload_n (pc := 392) dX3_isSolved_392 rfl rfl ?_
        refine g_icmp_geN (tgt := 425) (pc := 393) dX3_isSolved_393 (by decide) (by omega) (by omega) (fun c393 => ?_) (fun c393 => ?_)
        · omega
        refine g_aload_n (pc := 396) dX3_isSolved_396 rfl rfl ?_
        refine g_getR (pc := 397) dX3_isSolved_397 fl_X3_51 s_114 (by decide) rfl t_114_20 ?_
        refine g_aload_n (pc := 400) dX3_isSolved_400 rfl rfl ?_
        refine g_getR (pc := 401) dX3_isSolved_401 fl_X3_48 s_114 (by decide) rfl t_114_19 ?_
        refine g_iload_n (pc := 404) dX3_isSolved_404 rfl rfl ?_
        refine g_ialoadN (pc := 405) dX3_isSolved_405 s_126 (by decide) (by omega) (by decide) hp1 ?_
        refine g_aload_n (pc := 406) dX3_isSolved_406 rfl rfl ?_
        refine g_getR (pc := 407) dX3_isSolved_407 fl_X3_54 s_114 (by decide) rfl t_114_21 ?_
        refine g_bipush (v := nI 8) (pc := 410) dX3_isSolved_410 rfl ?_
        refine g_iload_n (pc := 412) dX3_isSolved_412 rfl rfl ?_
        refine g_imulN (pc := 413) dX3_isSolved_413 ?_
        refine g_bipush (v := nI 7) (pc := 414) dX3_isSolved_414 rfl ?_
        refine g_iaddN (pc := 416) dX3_isSolved_416 ?_
        refine g_ialoadN (pc := 417) dX3_isSolved_417 s_128 (by decide) (by omega) (by decide) hv ?_
        refine g_iastoreN (pc := 418) dX3_isSolved_418 s_127 (by decide) (by omega) (by decide) ?_
        refine g_iincN (pc := 419) dX3_isSolved_419 (Nat.le_of_ble_eq_true rfl) rfl rfl ?_
        refine g_goto (tgt := 391) (pc := 422) dX3_isSolved_422 (by decide) ?_
        refine kn _ ⟨Sm.up (by decide) s1, fun i hi => ?_⟩
        rw [gUp_c]
        by_cases e : i = plS S k
        · rw [if_pos e, if_pos ⟨by rw [e]; exact hp2.2.1, by rw [e, hp2.2.2]; exact Nat.lt_succ_self k⟩, e, hp2.2.2]
        · rw [if_neg e, s2 i hi]
          congr 1
          by_cases q : S.testBit i = true ∧ nS S i < k
          · rw [if_pos q, if_pos ⟨q.1, by omega⟩]
          · rw [if_neg q]
            refine (if_neg (fun z9 => ?_)).symm
            refine e (nS_inj z9.1 hp2.2.1 ?_)
            rw [hp2.2.2]
            have q2 : ¬ nS S i < k := fun w => q ⟨z9.1, w⟩
            have := z9.2
            omega
      · obtain ⟨s1, s2⟩ := hJ
        refine g_iload_n (pc := 391) dX3_isSolved_391 rfl rfl ?_
        refine g_iload_n (pc := 392) dX3_isSolved_392 rfl rfl ?_
        refine g_icmp_geN (tgt := 425) (pc := 393) dX3_isSolved_393 (by decide) (by omega) (by omega) (fun c393 => ?_) (fun c393 => ?_)
        rotate_left
        · omega
        refine g_iconst (v := nI 1) (pc := 425) dX3_isSolved_425 rfl ?_
        refine g_iret (pc := 426) dX3_isSolved_426 rfl rfl ?_
        refine ⟨_, _, ⟨rfl, rfl⟩, ?_⟩
        refine ⟨Or.inl ⟨rfl, _, hsol, fun i hi => ?_⟩, Sm.trans h0 (s1.mono (by decide)), M, hR.s (s1 128 (by decide))⟩
        rw [s2 i hi]
        congr 1
        by_cases q : S.testBit i = true
        · have := nS_lt q hi
          rw [if_pos ⟨q, by omega⟩, if_pos ⟨q, by omega⟩]
        · rw [if_neg (fun w => q w.1), if_neg (fun w => q w.1)]
theorem m_X3_isSolved {S c z : Nat} {s : Nat → F6} (hT : Tb I) (hz : I 114 23 = nI z) (h14 : z ≤ 14) (hSz : S < 2 ^ z) (hc : I 114 24 = nI c) (hc6 : c ≤ 6) (hm : nS S 14 ≤ c) (hs : ∀ j, j < c → I 129 j = fI (s j)) {M : mT} (hR : Rw I M) : gRi G YX3_isSolved (d + 1) [.ref 114, .int (nI S)] n I L D (fun v J => ((v = nI 1 ∧ ∃ x, Sol s c S x ∧ ∀ i, i < z → J 127 i = fI (x i)) ∨ (v = nI 0 ∧ ¬ Sv s c S)) ∧ Sm [126, 127, 128] I J ∧ ∃ M, Rw J M) := by
  have hmz : nS S z = nS S 14 := (nS_z hSz h14).symm
  have hS31 : S < 2 ^ 31 := Nat.lt_of_lt_of_le hSz (Nat.le_trans (Nat.pow_le_pow_right (by decide) h14) (by decide))
  refine l_X3_sol1 hz h14 hS31 (fun J1 s1 hpl => ?_)
  rw [hmz] at hpl ⊢
  refine l_X3_sol2 (s := s) (hT.s s1 (by decide) (by decide) (by decide)) (by rw [s1 114 (by decide)]; exact hc) hc6 hm rfl hpl (fun j hj => by rw [s1 129 (by decide)]; exact hs j hj) (hR.s (s1 128 (by decide))) (fun J2 M0 s2 hR2 hM0 => ?_)
  have s12 : Sm [126, 127, 128] I J2 := Sm.trans (s1.mono (by decide)) (s2.mono (by decide))
  refine l_X3_sol3 (s := s) (by rw [s12 114 (by decide)]; exact hc) (hT.s s12 (by decide) (by decide) (by decide)) hc6 hm rfl hR2 hM0 (fun J3 M s3 hR3 hE hU => ?_)
  have s13 : Sm [126, 127, 128] I J3 := Sm.trans s12 (s3.mono (by decide))
  exact l_X3_sol4 s13 (by rw [s13 114 (by decide)]; exact hz) h14 hSz (by rw [s13 114 (by decide)]; exact hc) hc6 hm rfl (fun a ha => by rw [s3 126 (by decide), s2 126 (by decide)]; exact hpl a ha) hR3 hM0 hE hU
end

