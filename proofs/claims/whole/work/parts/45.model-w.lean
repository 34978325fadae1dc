/-! ===== the reference stores ===== -/
def stG (T : Nat → Nat) (n c b i : Nat) : F6 := if c ≤ i ∧ 8 * b + i - c < n then fF (syV (T (4 + (8 * b + i - c)))) else 0
noncomputable def stY (T : Nat → Nat) (n c b i : Nat) : F6 := fa (stG T n c b i) (stX (smF (stG T n c b) (c + 8)) c i)
def slT (T : Nat → Nat) : Nat → Nat
  | 0 => 1
  | k + 1 => (slT T k * 17 + syV (T (4 + k))) % 251
theorem slT_le (T : Nat → Nat) : ∀ k, slT T k ≤ 250
  | 0 => (by decide : 1 ≤ 250)
  | k + 1 => by
    have := Nat.mod_lt (slT T k * 17 + syV (T (4 + k))) (show 0 < 251 by decide)
    unfold slT
    omega
noncomputable def stB (W : Nat → Nat) (T : Nat → Nat) (f n c : Nat) : Nat → Nat → Nat
  | 0 => W
  | b + 1 => mnV (uV (stB W T f n c b) (10 * f + (6 + b)) (W 800)) f b (2 ^ (c + 8) - 1) (stY T n c b) (c + 8)
/-- what is known of a file that has been entered -/
def stK (W : Nat → Nat) (f n c : Nat) : Prop := WF W ∧ f < 8 ∧ W (10 * f) = 1 ∧ bl W f = (n + 7) / 8 ∧ sz W f = c + 8
theorem stB_ok {W T : Nat → Nat} {f n c : Nat} (h : stK W f n c) : ∀ b, b ≤ (n + 7) / 8 → stK (stB W T f n c b) f n c ∧ (∀ k, k < 6 → stB W T f n c b (10 * f + k) = W (10 * f + k)) ∧ stB W T f n c b 800 = W 800
  | 0, _ => ⟨h, fun _ _ => rfl, rfl⟩
  | b + 1, hb => by
    obtain ⟨⟨h1, h2, h3, h4, h5⟩, i2, i3⟩ := stB_ok (T := T) h b (by omega)
    have hbb : b < bl (stB W T f n c b) f := by rw [h4]; omega
    have hb4 : b < 4 := Nat.lt_of_lt_of_le hbb (bl_le (h1.1 f h2))
    have g := chk_geo (V := stB W T f n c b) (f := f) hb4 (W 800)
    have hWW : WF (uV (stB W T f n c b) (10 * f + (6 + b)) (W 800)) := by rw [← i3]; exact WF_chk h1 h2 h3 hb4
    have h1u : uV (stB W T f n c b) (10 * f + (6 + b)) (W 800) (10 * f) = 1 := by rw [uV_n (by omega)]; exact h3
    have hbu : b < bl (uV (stB W T f n c b) (10 * f + (6 + b)) (W 800)) f := by rw [g.1]; exact hbb
    have hsu : c + 8 ≤ sz (uV (stB W T f n c b) (10 * f + (6 + b)) (W 800)) f := by rw [g.2.1, h5]; exact Nat.le_refl _
    have lo : ∀ i, i < 80 ∨ 800 ≤ i → stB W T f n c (b + 1) i = uV (stB W T f n c b) (10 * f + (6 + b)) (W 800) i := fun i hi => mnV_lo (hWW.1 f h2) h1u hbu hi (c + 8) hsu
    have l6 : ∀ k, k < 6 → stB W T f n c (b + 1) (10 * f + k) = stB W T f n c b (10 * f + k) := fun k hk => by rw [lo _ (Or.inl (by omega)), uV_n (by omega)]
    have eb : bl (stB W T f n c (b + 1)) f = bl (stB W T f n c b) f := by unfold bl; rw [l6 1 (by decide)]
    have es : sz (stB W T f n c (b + 1)) f = sz (stB W T f n c b) f := by unfold sz; rw [l6 2 (by decide)]
    refine ⟨⟨WF_mn hWW h2 h1u hbu (c + 8) hsu, h2, (l6 0 (by decide)).trans h3, eb.trans h4, es.trans h5⟩, fun k hk => (l6 k hk).trans (i2 k hk), ?_⟩
    rw [lo 800 (Or.inr (by decide)), uV_n (by omega)]; exact i3
theorem bit1 {z k : Nat} (h : k < z) : (2 ^ z - 1).testBit k = true := by rw [Nat.testBit_two_pow_sub_one]; simp [h]
def FF (V : Nat → Nat) (f : Nat) : Prop := f ≤ 8 ∧ (∀ i, i < f → V (10 * i) = 1) ∧ (f < 8 → ¬ V (10 * f) = 1)
theorem FF_one {V : Nat → Nat} {f g : Nat} (h : FF V f) (k : FF V g) : f = g := by
  rcases Nat.lt_trichotomy f g with q | q | q
  · exact absurd (k.2.1 f q) (h.2.2 (by have := k.1; omega))
  · exact q
  · exact absurd (h.2.1 g q) (k.2.2 (by have := h.1; omega))
theorem FF_ex (V : Nat → Nat) : ∃ f, FF V f := by
  have main : ∀ k, k ≤ 8 → (∀ i, i < 8 - k → V (10 * i) = 1) → ∃ f, FF V f := by
    intro k
    induction k with
    | zero => intro _ h; exact ⟨8, Nat.le_refl _, h, fun q => absurd q (Nat.lt_irrefl _)⟩
    | succ k ih =>
      intro hk h
      rcases Classical.em (V (10 * (8 - (k + 1))) = 1) with q | q
      · refine ih (by omega) (fun i hi => ?_)
        rcases Nat.lt_or_ge i (8 - (k + 1)) with w | w
        · exact h i w
        · rw [show i = 8 - (k + 1) by omega]; exact q
      · exact ⟨8 - (k + 1), by omega, h, fun _ => q⟩
  exact main 8 (Nat.le_refl _) (fun i hi => absurd hi (by omega))
section
variable {G : gG} {d n0 : Nat} {I : Nat → Nat → Int32} {L : Nat → Nat → Int64} {D : Nat → Nat → UInt64} {V : Nat → Nat}
theorem l_st_b3 {Q : gQ} {f n c dp fs sl b : Nat} {W T : Nat → Nat} {C : Nat → Int32} {x9 : Value} {v : Int32} (hx9 : x9 = .int v) (hK : stK W f n c) (hc6 : c ≤ 6) (hb : b < (n + 7) / 8) (hV : Vok I W) (hC : Cok I C) (hz : I 114 23 = nI (c + 8)) {X : Nat → F6} (hX : ∀ i, i < c + 8 → I 125 i = fI (X i))
    (kn : ∀ J, Vok J (mnV W f b (2 ^ (c + 8) - 1) X (c + 8)) → Cok J (addC C 7 (nI (c + 8))) → Sm [115] I J → gGo G YX3_store (d + 5) 348 [some (.ref 114), some (.int (nI c)), some (.int (nI dp)), some (.int (nI n)), some (.int (nI f)), some (.int (nI fs)), some (.int (nI (10 * f))), some (.int (nI sl)), some (.int (nI (b + 1))), none, none] [] (hp n0 J L D) 0 0 Q) : gGo G YX3_store (d + 5) 489 [some (.ref 114), some (.int (nI c)), some (.int (nI dp)), some (.int (nI n)), some (.int (nI f)), some (.int (nI fs)), some (.int (nI (10 * f))), some (.int (nI sl)), some (.int (nI b)), some x9, none] [] (hp n0 I L D) 0 0 Q := by
  subst hx9
  obtain ⟨h1, h2, h3, h4, h5⟩ := hK
  have hw := h1.1 f h2
  have hbb : b < bl W f := by rw [h4]; exact hb
  have hlo : ∀ k, k ≤ c + 8 → ∀ i, (i < 80 ∨ 800 ≤ i) → mnV W f b (2 ^ (c + 8) - 1) X k i = W i := fun k hk i hi => mnV_lo hw h3 hbb hi k (by rw [h5]; exact hk)
  refine g_iconst (v := nI 0) (pc := 489) dX3_store_489 rfl ?_
  refine g_istore (pc := 490) dX3_store_490 (Nat.le_of_ble_eq_true rfl) rfl ?_
  refine g_loop (c + 8) (fun k J => Vok J (mnV W f b (2 ^ (c + 8) - 1) X k) ∧ Cok J (addC C 7 (nI k)) ∧ Sm [115] I J) (fun k _ => [some (.ref 114), some (.int (nI c)), some (.int (nI dp)), some (.int (nI n)), some (.int (nI f)), some (.int (nI fs)), some (.int (nI (10 * f))), some (.int (nI sl)), some (.int (nI b)), some (.int v), some (.int (nI k))]) (fun J => hp n0 J L D) (fun k J hk hJ kk => ?_) (fun J hJ => ?_) 0 I (Nat.zero_le _) ⟨hV, by rw [addC_0]; exact hC, Sm.rfl⟩
  · obtain ⟨u1, u2, u3⟩ := hJ
    have hz1 : J 114 23 = nI (c + 8) := by rw [u3 114 (by decide)]; exact hz
    have hWk : WF (mnV W f b (2 ^ (c + 8) - 1) X k) := WF_mn h1 h2 h3 hbb k (by rw [h5]; omega)
    have hl := hlo k (by omega)
    have h1k : mnV W f b (2 ^ (c + 8) - 1) X k (10 * f) = 1 := by rw [hl _ (Or.inl (by omega))]; exact h3
    have hbk : b < bl (mnV W f b (2 ^ (c + 8) - 1) X k) f := by rw [(bl_ext (fun q hq => hl _ (Or.inl (by omega)))).1]; exact hbb
    have hcl := cellN_lt hw h3 hbb (show k < sz W f by rw [h5]; exact hk)
    have hXk : J 125 k = fI (X k) := by rw [u3 125 (by decide)]; exact hX k hk
    refine g_iload (pc := 492) dX3_store_492 rfl ?_
    refine g_aload_n (pc := 494) dX3_store_494 rfl rfl ?_
    refine g_getIV (pc := 495) dX3_store_495 fl_X3_133 s_114 (by decide) rfl hz1 ?_
    refine g_icmp_geN (tgt := 528) (pc := 498) dX3_store_498 (by decide) (by omega) (by omega) (fun c498 => ?_) (fun c498 => ?_)
    · omega
    refine g_aload_n (pc := 501) dX3_store_501 rfl rfl ?_
    refine g_aload_n (pc := 502) dX3_store_502 rfl rfl ?_
    refine g_iload (pc := 503) dX3_store_503 rfl ?_
    refine g_iload (pc := 505) dX3_store_505 rfl ?_
    refine g_iload (pc := 507) dX3_store_507 rfl ?_
    refine g_fV (av := [.int _, .int _, .int _]) (pc := 509) dX3_store_509 mt_X3_cell lk_X3_145 im_X3_cell se_X3_cell np_X3_cell s_114 (by decide) (by decide) rfl (gc_i (gc_i (gc_i gc_0))) (Nat.le_of_ble_eq_true rfl) (Nat.le_of_ble_eq_true rfl) ⟨Nat.zero_le _, Nat.zero_le _⟩ (m_X3_cell u1 hWk h2 h1k hbk) ?_
    rw [cellN_ext (fun q hq => hl _ (Or.inl (by omega)))]
    refine g_aload_n (pc := 512) dX3_store_512 rfl rfl ?_
    refine g_getR (pc := 513) dX3_store_513 fl_X3_45 s_114 (by decide) rfl t_114_18 ?_
    refine g_iload (pc := 516) dX3_store_516 rfl ?_
    refine g_ialoadN (pc := 518) dX3_store_518 s_125 (by decide) (by omega) (by decide) hXk ?_
    refine g_rvV (av := [.int _, .int _]) (pc := 519) dX3_store_519 mt_X3_writes lk_X3_149 im_X3_writes se_X3_writes np_X3_writes s_114 (by decide) (by decide) rfl (gc_i (gc_i gc_0)) (Nat.le_of_ble_eq_true rfl) (Nat.le_of_ble_eq_true rfl) (m_X3_writes u1 u2 hcl) ?_
    rintro I1 ⟨k1, k2, k3⟩
    refine g_iincN (pc := 522) dX3_store_522 (Nat.le_of_ble_eq_true rfl) rfl rfl ?_
    refine g_goto (tgt := 492) (pc := 525) dX3_store_525 (by decide) ?_
    refine kk _ ⟨?_, ?_, Sm.trans u3 k3⟩
    · rw [show mnV W f b (2 ^ (c + 8) - 1) X (k + 1) = wrV (mnV W f b (2 ^ (c + 8) - 1) X k) (cellN W f b k) (X k).val from by
        rw [mnV, if_pos (bit1 hk)]]
      exact k1
    · have e := addC_add (C := C) (k := 7) (x := nI k) (y := nI 1)
      rw [nI_add] at e
      rw [← e]; exact k2
  · obtain ⟨u1, u2, u3⟩ := hJ
    have hz1 : J 114 23 = nI (c + 8) := by rw [u3 114 (by decide)]; exact hz
    refine g_iload (pc := 492) dX3_store_492 rfl ?_
    refine g_aload_n (pc := 494) dX3_store_494 rfl rfl ?_
    refine g_getIV (pc := 495) dX3_store_495 fl_X3_133 s_114 (by decide) rfl hz1 ?_
    refine g_icmp_geN (tgt := 528) (pc := 498) dX3_store_498 (by decide) (by omega) (by omega) (fun c498 => ?_) (fun c498 => ?_)
    rotate_left
    · omega
    refine g_iincN (pc := 528) dX3_store_528 (Nat.le_of_ble_eq_true rfl) rfl rfl ?_
    refine g_goto (tgt := 348) (pc := 531) dX3_store_531 (by decide) ?_
    refine g_fg 9 (g_fg 10 ?_)
    exact kn J u1 u2 u3
theorem l_st_b1 {Q : gQ} {f n c dp fs sl b : Nat} {T : Nat → Nat} (hc6 : c ≤ 6) (hb : b < (n + 7) / 8) (hn : n ≤ 32) (ht : ∀ i, i < n → I 123 i = nI (syV (T (4 + i))) ∧ syV (T (4 + i)) < 16) (hz : I 114 23 = nI (c + 8)) (h25 : I 114 25 = nI 0)
    (kn : ∀ J, (∀ i, i < c + 8 → J 124 i = fI (stG T n c b i)) → J 114 25 = nI (2 ^ c - 1) → Sm [114, 124] I J → Sc 114 [25] I J → gGo G YX3_store (d + 5) 483 [some (.ref 114), some (.int (nI c)), some (.int (nI dp)), some (.int (nI n)), some (.int (nI f)), some (.int (nI fs)), some (.int (nI (10 * f))), some (.int (nI sl)), some (.int (nI b)), some (.int (nI (c + 8))), none] [] (hp n0 J L D) 0 0 Q) : gGo G YX3_store (d + 5) 400 [some (.ref 114), some (.int (nI c)), some (.int (nI dp)), some (.int (nI n)), some (.int (nI f)), some (.int (nI fs)), some (.int (nI (10 * f))), some (.int (nI sl)), some (.int (nI b)), none, none] [] (hp n0 I L D) 0 0 Q := by
  refine g_iconst (v := nI 0) (pc := 400) dX3_store_400 rfl ?_
  refine g_istore (pc := 401) dX3_store_401 (Nat.le_of_ble_eq_true rfl) rfl ?_
  refine g_loop (c + 8) (fun k J => (∀ i, i < k → J 124 i = fI (stG T n c b i)) ∧ J 114 25 = nI (2 ^ (min k c) - 1) ∧ Sm [114, 124] I J ∧ Sc 114 [25] I J) (fun k _ => [some (.ref 114), some (.int (nI c)), some (.int (nI dp)), some (.int (nI n)), some (.int (nI f)), some (.int (nI fs)), some (.int (nI (10 * f))), some (.int (nI sl)), some (.int (nI b)), some (.int (nI k)), none]) (fun J => hp n0 J L D) (fun k J hk hJ kk => ?_) (fun J hJ => ?_) 0 I (Nat.zero_le _) ⟨fun i hi => absurd hi (Nat.not_lt_zero i), by rw [Nat.zero_min]; exact h25, Sm.rfl, Sc.rfl⟩
  · obtain ⟨u1, u2, u3, u4⟩ := hJ
    have hz1 : J 114 23 = nI (c + 8) := by rw [u4 23 (by decide)]; exact hz
    have fin : ∀ (K : Nat → Nat → Int32) (a : F6) (e : Nat), a = stG T n c b k → K = gUp (gUp J 124 k (fI a)) 114 25 (nI e) → e = 2 ^ (min (k + 1) c) - 1 → (∀ i, i < k + 1 → K 124 i = fI (stG T n c b i)) ∧ K 114 25 = nI (2 ^ (min (k + 1) c) - 1) ∧ Sm [114, 124] I K ∧ Sc 114 [25] I K := by
      intro K a e ha hK he
      subst hK
      refine ⟨fun i hi => ?_, by rw [gUp_c, if_pos rfl, he], Sm.up (by decide) (Sm.up (by decide) u3), Sc.up (by decide) (Sc.un (by decide) u4)⟩
      rw [gUp_ne (by decide), gUp_c]
      by_cases e : i = k
      · rw [if_pos e, ha, e]
      · rw [if_neg e]; exact u1 i (by omega)
    have hp1 : 2 ^ (min k c) ≤ 64 := Nat.pow_le_pow_right (n := 2) (by decide) (show min k c ≤ 6 by omega)
    by_cases hkc : k < c
    · have hG : (0 : F6) = stG T n c b k := by unfold stG; rw [if_neg (fun q => absurd q.1 (by omega))]
      have he : (2 ^ (min k c) - 1) ||| 2 ^ k = 2 ^ (min (k + 1) c) - 1 := by rw [Nat.min_eq_left (by omega), Nat.min_eq_left (by omega), two_or]
      refine g_iload (pc := 403) dX3_store_403 rfl ?_
      refine g_aload_n (pc := 405) dX3_store_405 rfl rfl ?_
      refine g_getIV (pc := 406) dX3_store_406 fl_X3_133 s_114 (by decide) rfl hz1 ?_
      refine g_icmp_geN (tgt := 483) (pc := 409) dX3_store_409 (by decide) (by omega) (by omega) (fun c409 => ?_) (fun c409 => ?_)
      · omega
      refine g_bipush (v := nI 8) (pc := 412) dX3_store_412 rfl ?_
      refine g_iload (pc := 414) dX3_store_414 rfl ?_
      refine g_imulN (pc := 416) dX3_store_416 ?_
      refine g_iload (pc := 417) dX3_store_417 rfl ?_
      refine g_iaddN (pc := 419) dX3_store_419 ?_
      refine g_iload_n (pc := 420) dX3_store_420 rfl rfl ?_
      refine g_isub (pc := 421) dX3_store_421 ?_
      refine g_istore (pc := 422) dX3_store_422 (Nat.le_of_ble_eq_true rfl) rfl ?_
      refine g_aload_n (pc := 424) dX3_store_424 rfl rfl ?_
      refine g_getR (pc := 425) dX3_store_425 fl_X3_42 s_114 (by decide) rfl t_114_17 ?_
      refine g_iload (pc := 428) dX3_store_428 rfl ?_
      refine g_iload (pc := 430) dX3_store_430 rfl ?_
      refine g_iload_n (pc := 432) dX3_store_432 rfl rfl ?_
      refine g_icmp_ltN (tgt := 452) (pc := 433) dX3_store_433 (by decide) (by omega) (by omega) (fun c433 => ?_) (fun c433 => ?_)
      rotate_left
      · omega
      refine g_iconst (v := nI 0) (pc := 452) dX3_store_452 rfl ?_
      refine g_iastoreN (pc := 453) dX3_store_453 s_124 (by decide) (by omega) (by decide) ?_
      refine g_aload_n (pc := 454) dX3_store_454 rfl rfl ?_
      refine g_dup (pc := 455) dX3_store_455 rfl ?_
      refine g_getIV (pc := 456) dX3_store_456 fl_X3_138 s_114 (by decide) rfl (show _ = nI (2 ^ (min k c) - 1) from gUp_a (by decide) u2) ?_
      refine g_iload (pc := 459) dX3_store_459 rfl ?_
      refine g_iload_n (pc := 461) dX3_store_461 rfl rfl ?_
      refine g_icmp_geN (tgt := 472) (pc := 462) dX3_store_462 (by decide) (by omega) (by omega) (fun c462 => ?_) (fun c462 => ?_)
      · omega
      refine g_iconst (v := nI 1) (pc := 465) dX3_store_465 rfl ?_
      refine g_iload (pc := 466) dX3_store_466 rfl ?_
      refine g_ishl (pc := 468) dX3_store_468 ?_
      rw [sh_1 k (by omega)]
      refine g_goto (tgt := 473) (pc := 469) dX3_store_469 (by decide) ?_
      refine g_ior (pc := 473) dX3_store_473 ?_
      rw [nI_or]
      refine g_putI (pc := 474) dX3_store_474 fl_X3_138 s_114 (by decide) rfl rfl rfl rfl ?_
      refine g_iincN (pc := 477) dX3_store_477 (Nat.le_of_ble_eq_true rfl) rfl rfl ?_
      refine g_goto (tgt := 403) (pc := 480) dX3_store_480 (by decide) ?_
      refine g_fg 10 ?_
      exact kk _ (fin _ 0 _ hG rfl he)
    · have he : (2 ^ (min k c) - 1) ||| 0 = 2 ^ (min (k + 1) c) - 1 := by rw [Nat.or_zero, Nat.min_eq_right (by omega), Nat.min_eq_right (by omega)]
      have hsb : nI (8 * b + k) - nI c = nI (8 * b + k - c) := pk_sub (by omega)
      refine g_iload (pc := 403) dX3_store_403 rfl ?_
      refine g_aload_n (pc := 405) dX3_store_405 rfl rfl ?_
      refine g_getIV (pc := 406) dX3_store_406 fl_X3_133 s_114 (by decide) rfl hz1 ?_
      refine g_icmp_geN (tgt := 483) (pc := 409) dX3_store_409 (by decide) (by omega) (by omega) (fun c409 => ?_) (fun c409 => ?_)
      · omega
      refine g_bipush (v := nI 8) (pc := 412) dX3_store_412 rfl ?_
      refine g_iload (pc := 414) dX3_store_414 rfl ?_
      refine g_imulN (pc := 416) dX3_store_416 ?_
      refine g_iload (pc := 417) dX3_store_417 rfl ?_
      refine g_iaddN (pc := 419) dX3_store_419 ?_
      refine g_iload_n (pc := 420) dX3_store_420 rfl rfl ?_
      refine g_isubN (pc := 421) dX3_store_421 (by omega) ?_
      refine g_istore (pc := 422) dX3_store_422 (Nat.le_of_ble_eq_true rfl) rfl ?_
      refine g_aload_n (pc := 424) dX3_store_424 rfl rfl ?_
      refine g_getR (pc := 425) dX3_store_425 fl_X3_42 s_114 (by decide) rfl t_114_17 ?_
      refine g_iload (pc := 428) dX3_store_428 rfl ?_
      refine g_iload (pc := 430) dX3_store_430 rfl ?_
      refine g_iload_n (pc := 432) dX3_store_432 rfl rfl ?_
      refine g_icmp_ltN (tgt := 452) (pc := 433) dX3_store_433 (by decide) (by omega) (by omega) (fun c433 => ?_) (fun c433 => ?_)
      · omega
      refine g_iload (pc := 436) dX3_store_436 rfl ?_
      refine g_iload_n (pc := 438) dX3_store_438 rfl rfl ?_
      refine g_icmp_geN (tgt := 452) (pc := 439) dX3_store_439 (by decide) (by omega) (by omega) (fun c439 => ?_) (fun c439 => ?_)
      · have hG : (0 : F6) = stG T n c b k := by unfold stG; rw [if_neg (fun q => absurd q.2 (by omega))]
        refine g_iconst (v := nI 0) (pc := 452) dX3_store_452 rfl ?_
        refine g_iastoreN (pc := 453) dX3_store_453 s_124 (by decide) (by omega) (by decide) ?_
        refine g_aload_n (pc := 454) dX3_store_454 rfl rfl ?_
        refine g_dup (pc := 455) dX3_store_455 rfl ?_
        refine g_getIV (pc := 456) dX3_store_456 fl_X3_138 s_114 (by decide) rfl (show _ = nI (2 ^ (min k c) - 1) from gUp_a (by decide) u2) ?_
        refine g_iload (pc := 459) dX3_store_459 rfl ?_
        refine g_iload_n (pc := 461) dX3_store_461 rfl rfl ?_
        refine g_icmp_geN (tgt := 472) (pc := 462) dX3_store_462 (by decide) (by omega) (by omega) (fun c462 => ?_) (fun c462 => ?_)
        rotate_left
        · omega
        refine g_iconst (v := nI 0) (pc := 472) dX3_store_472 rfl ?_
        refine g_ior (pc := 473) dX3_store_473 ?_
        rw [nI_or]
        refine g_putI (pc := 474) dX3_store_474 fl_X3_138 s_114 (by decide) rfl rfl rfl rfl ?_
        refine g_iincN (pc := 477) dX3_store_477 (Nat.le_of_ble_eq_true rfl) rfl rfl ?_
        refine g_goto (tgt := 403) (pc := 480) dX3_store_480 (by decide) ?_
        refine g_fg 10 ?_
        first
          | exact kk _ (fin _ 0 _ hG rfl he)
          | exact kk _ (fin _ _ _ hG rfl he)
      · have hG : fF (syV (T (4 + (8 * b + k - c)))) = stG T n c b k := by unfold stG; rw [if_pos ⟨by omega, by omega⟩]
        have htl := ht (8 * b + k - c) (by omega)
        refine g_aload_n (pc := 442) dX3_store_442 rfl rfl ?_
        refine g_getR (pc := 443) dX3_store_443 fl_X3_39 s_114 (by decide) rfl t_114_16 ?_
        refine g_iload (pc := 446) dX3_store_446 rfl ?_
        refine g_ialoadN (pc := 448) dX3_store_448 s_123 (by decide) (by omega) (by decide) (show _ = fI (fF (syV (T (4 + (8 * b + k - c))))) from by rw [u3 123 (by decide), htl.1]; exact fF_I (by omega)) ?_
        refine g_goto (tgt := 453) (pc := 449) dX3_store_449 (by decide) ?_
        refine g_iastoreN (pc := 453) dX3_store_453 s_124 (by decide) (by omega) (by decide) ?_
        refine g_aload_n (pc := 454) dX3_store_454 rfl rfl ?_
        refine g_dup (pc := 455) dX3_store_455 rfl ?_
        refine g_getIV (pc := 456) dX3_store_456 fl_X3_138 s_114 (by decide) rfl (show _ = nI (2 ^ (min k c) - 1) from gUp_a (by decide) u2) ?_
        refine g_iload (pc := 459) dX3_store_459 rfl ?_
        refine g_iload_n (pc := 461) dX3_store_461 rfl rfl ?_
        refine g_icmp_geN (tgt := 472) (pc := 462) dX3_store_462 (by decide) (by omega) (by omega) (fun c462 => ?_) (fun c462 => ?_)
        rotate_left
        · omega
        refine g_iconst (v := nI 0) (pc := 472) dX3_store_472 rfl ?_
        refine g_ior (pc := 473) dX3_store_473 ?_
        rw [nI_or]
        refine g_putI (pc := 474) dX3_store_474 fl_X3_138 s_114 (by decide) rfl rfl rfl rfl ?_
        refine g_iincN (pc := 477) dX3_store_477 (Nat.le_of_ble_eq_true rfl) rfl rfl ?_
        refine g_goto (tgt := 403) (pc := 480) dX3_store_480 (by decide) ?_
        refine g_fg 10 ?_
        first
          | exact kk _ (fin _ 0 _ hG rfl he)
          | exact kk _ (fin _ _ _ hG rfl he)
  · obtain ⟨u1, u2, u3, u4⟩ := hJ
    have hz1 : J 114 23 = nI (c + 8) := by rw [u4 23 (by decide)]; exact hz
    refine g_iload (pc := 403) dX3_store_403 rfl ?_
    refine g_aload_n (pc := 405) dX3_store_405 rfl rfl ?_
    refine g_getIV (pc := 406) dX3_store_406 fl_X3_133 s_114 (by decide) rfl hz1 ?_
    refine g_icmp_geN (tgt := 483) (pc := 409) dX3_store_409 (by decide) (by omega) (by omega) (fun c409 => ?_) (fun c409 => ?_)
    rotate_left
    · omega
    exact kn J u1 (by rw [u2, Nat.min_eq_right (by omega)]) u3 u4
end

