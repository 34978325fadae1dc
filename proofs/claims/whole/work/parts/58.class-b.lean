/-! ===== the class's state: reset and enter ===== -/
/-- a file entered, its days set, its seal still 0 -/
def edV (V : Nat → Nat) (f n c dp fs : Nat) : Nat → Nat := fun k => if 10 * f + 6 ≤ k ∧ k < 10 * f + 10 then V 800 else enV V f n c dp fs 0 k
theorem edV_o {V : Nat → Nat} {f n c dp fs k : Nat} (hk : k < 10 * f ∨ 10 * f + 10 ≤ k) : edV V f n c dp fs k = V k := by
  unfold edV
  rw [if_neg (by omega), enV_o (by omega)]
theorem edV_d {V : Nat → Nat} {f n c dp fs k : Nat} (hk : 10 * f + 6 ≤ k ∧ k < 10 * f + 10) : edV V f n c dp fs k = V 800 := if_pos hk
theorem edV_f {V : Nat → Nat} {f n c dp fs : Nat} : edV V f n c dp fs (10 * f) = 1 ∧ edV V f n c dp fs (10 * f + 1) = n ∧ edV V f n c dp fs (10 * f + 2) = c ∧ edV V f n c dp fs (10 * f + 3) = dp ∧ edV V f n c dp fs (10 * f + 4) = 0 ∧ edV V f n c dp fs (10 * f + 5) = fs := by
  unfold edV
  rw [if_neg (by omega), if_neg (by omega), if_neg (by omega), if_neg (by omega), if_neg (by omega), if_neg (by omega)]
  exact enV_f
section
variable {G : gG} {d n : Nat} {I : Nat → Nat → Int32} {L : Nat → Nat → Int64} {D : Nat → Nat → UInt64} {V : Nat → Nat}
variable {C : Nat → Int32}
theorem m_X1_reset (hS : Snap I 4 V C) (hW : WF V) : gRv G YX1_reset (d + 1) [.ref 4] n I L D (fun J => Snap J 4 (fun _ => 0) (fun _ => 0) ∧ Sm [4, 5, 6, 7, 8, 9, 10, 11, 12, 13, 14, 15] I J) := by
  refine g_iconst (v := nI 0) (pc := 0) dX1_reset_0 rfl ?_
  refine g_istore_n (pc := 1) dX1_reset_1 rfl (Nat.le_of_ble_eq_true rfl) rfl ?_
  refine g_loop (σ := (Nat → Nat → Int32) × (Nat → Nat)) 240 (fun k s => Snap s.1 4 s.2 C ∧ WF s.2 ∧ (∀ i, i < k → s.2 (80 + i) = 0 ∧ s.2 (560 + i) = 0 ∧ s.2 (320 + i) = 0) ∧ Sm [4, 5, 6, 7, 8, 9, 10, 11, 12, 13, 14, 15] I s.1) (fun k _ => [some (.ref 4), some (.int (nI k))]) (fun s => hp n s.1 L D) (fun k s hk hs kn => ?_) (fun s hs => ?_) 0 (I, V) (Nat.zero_le _) ⟨hS, hW, fun i hi => absurd hi (Nat.not_lt_zero i), Sm.rfl⟩
  · obtain ⟨J, W⟩ := s
    obtain ⟨u1, u2, u3, u4⟩ := hs
    refine g_iload_n (pc := 2) dX1_reset_2 rfl rfl ?_
    refine g_sipush (v := nI 240) (pc := 3) dX1_reset_3 rfl ?_
    refine g_icmp_geN (tgt := 36) (pc := 6) dX1_reset_6 (by decide) (by omega) (by omega) (fun c6 => ?_) (fun c6 => ?_)
    · omega
    refine g_aload_n (pc := 9) dX1_reset_9 rfl rfl ?_
    refine g_getR (pc := 10) dX1_reset_10 fl_X1_9 s_4 (by decide) rfl t_4_0 ?_
    refine g_iload_n (pc := 13) dX1_reset_13 rfl rfl ?_
    refine g_iconst (v := nI 0) (pc := 14) dX1_reset_14 rfl ?_
    refine g_iastoreN (pc := 15) dX1_reset_15 s_5 (by decide) (by omega) (by decide) ?_
    refine g_aload_n (pc := 16) dX1_reset_16 rfl rfl ?_
    refine g_getR (pc := 17) dX1_reset_17 fl_X1_15 s_4 (by decide) rfl t_4_1 ?_
    refine g_iload_n (pc := 20) dX1_reset_20 rfl rfl ?_
    refine g_iconst (v := nI 0) (pc := 21) dX1_reset_21 rfl ?_
    refine g_iastoreN (pc := 22) dX1_reset_22 s_6 (by decide) (by omega) (by decide) ?_
    refine g_aload_n (pc := 23) dX1_reset_23 rfl rfl ?_
    refine g_getR (pc := 24) dX1_reset_24 fl_X1_18 s_4 (by decide) rfl t_4_2 ?_
    refine g_iload_n (pc := 27) dX1_reset_27 rfl rfl ?_
    refine g_iconst (v := nI 0) (pc := 28) dX1_reset_28 rfl ?_
    refine g_iastoreN (pc := 29) dX1_reset_29 s_7 (by decide) (by omega) (by decide) ?_
    refine g_iincN (pc := 30) dX1_reset_30 (Nat.le_of_ble_eq_true rfl) rfl rfl ?_
    refine g_goto (tgt := 2) (pc := 33) dX1_reset_33 (by decide) ?_
    have s1 := Snap.sym (x := 0) u1 u2.bl4 hk
    have w1 := WF_sym (x := 0) u2 hk (by decide)
    have s2 := Snap.wri (x := 0) s1 w1.bl4 hk
    have w2 := WF_wri (x := 0) w1 hk (by decide)
    have s3 := Snap.era (x := 0) s2 w2.bl4 hk
    have w3 := WF_era (x := 0) w2 hk (by decide)
    refine kn (gUp (gUp (gUp J 5 k (nI 0)) 6 k (nI 0)) 7 k (nI 0), uV (uV (uV W (80 + k) 0) (560 + k) 0) (320 + k) 0) ⟨s3, w3, fun i hi => ?_, (by repeat' first | assumption | exact Sm.rfl | exact Sc.rfl | refine Sm.up (by decide) ?_ | refine Sc.up (by decide) ?_ | refine Sc.un (by decide) ?_)⟩
    show uV (uV (uV W (80 + k) 0) (560 + k) 0) (320 + k) 0 (80 + i) = 0 ∧ uV (uV (uV W (80 + k) 0) (560 + k) 0) (320 + k) 0 (560 + i) = 0 ∧ uV (uV (uV W (80 + k) 0) (560 + k) 0) (320 + k) 0 (320 + i) = 0
    by_cases e : i = k
    · subst e
      exact ⟨by rw [uV_n (by omega), uV_n (by omega), uV_s], by rw [uV_n (by omega), uV_s], uV_s⟩
    · obtain ⟨z1, z2, z3⟩ := u3 i (by omega)
      exact ⟨by rw [uV_n (by omega), uV_n (by omega), uV_n (by omega)]; exact z1, by rw [uV_n (by omega), uV_n (by omega), uV_n (by omega)]; exact z2, by rw [uV_n (by omega), uV_n (by omega), uV_n (by omega)]; exact z3⟩
  · obtain ⟨J, W⟩ := s
    obtain ⟨u1, u2, u3, u4⟩ := hs
    refine g_iload_n (pc := 2) dX1_reset_2 rfl rfl ?_
    refine g_sipush (v := nI 240) (pc := 3) dX1_reset_3 rfl ?_
    refine g_icmp_geN (tgt := 36) (pc := 6) dX1_reset_6 (by decide) (by omega) (by omega) (fun c6 => ?_) (fun c6 => ?_)
    rotate_left
    · omega
    refine g_iconst (v := nI 0) (pc := 36) dX1_reset_36 rfl ?_
    refine g_istore_n (pc := 37) dX1_reset_37 rfl (Nat.le_of_ble_eq_true rfl) rfl ?_
    refine g_loop (σ := (Nat → Nat → Int32) × (Nat → Int32)) 8 (fun k s => Snap s.1 4 W s.2 ∧ (∀ i, i < k → s.2 i = 0) ∧ Sm [4, 5, 6, 7, 8, 9, 10, 11, 12, 13, 14, 15] I s.1) (fun k _ => [some (.ref 4), some (.int (nI k))]) (fun s => hp n s.1 L D) (fun k s hk hs kn => ?_) (fun s hs => ?_) 0 (J, C) (Nat.zero_le _) ⟨u1, fun i hi => absurd hi (Nat.not_lt_zero i), u4⟩
    · obtain ⟨J, E⟩ := s
      obtain ⟨v1, v2, v3⟩ := hs
      dsimp only at v1 v2 v3
      refine g_iload_n (pc := 38) dX1_reset_38 rfl rfl ?_
      refine g_bipush (v := nI 8) (pc := 39) dX1_reset_39 rfl ?_
      refine g_icmp_geN (tgt := 57) (pc := 41) dX1_reset_41 (by decide) (by omega) (by omega) (fun c41 => ?_) (fun c41 => ?_)
      · omega
      refine g_aload_n (pc := 44) dX1_reset_44 rfl rfl ?_
      refine g_getR (pc := 45) dX1_reset_45 fl_X1_21 s_4 (by decide) rfl t_4_3 ?_
      refine g_iload_n (pc := 48) dX1_reset_48 rfl rfl ?_
      refine g_iconst (v := nI 0) (pc := 49) dX1_reset_49 rfl ?_
      refine g_iastoreN (pc := 50) dX1_reset_50 s_8 (by decide) (by omega) (by decide) ?_
      refine g_iincN (pc := 51) dX1_reset_51 (Nat.le_of_ble_eq_true rfl) rfl rfl ?_
      refine g_goto (tgt := 38) (pc := 54) dX1_reset_54 (by decide) ?_
      refine kn (gUp J 8 k (nI 0), uC E k (nI 0)) ⟨Snap.cnt v1 hk, fun i hi => ?_, (by repeat' first | assumption | exact Sm.rfl | exact Sc.rfl | refine Sm.up (by decide) ?_ | refine Sc.up (by decide) ?_ | refine Sc.un (by decide) ?_)⟩
      show uC E k (nI 0) i = 0
      by_cases e : i = k
      · subst e; rw [uC_s]; rfl
      · rw [uC_n e]; exact v2 i (by omega)
    · obtain ⟨J, E⟩ := s
      obtain ⟨v1, v2, v3⟩ := hs
      dsimp only at v1 v2 v3
      refine g_iload_n (pc := 38) dX1_reset_38 rfl rfl ?_
      refine g_bipush (v := nI 8) (pc := 39) dX1_reset_39 rfl ?_
      refine g_icmp_geN (tgt := 57) (pc := 41) dX1_reset_41 (by decide) (by omega) (by omega) (fun c41 => ?_) (fun c41 => ?_)
      rotate_left
      · omega
      refine g_iconst (v := nI 0) (pc := 57) dX1_reset_57 rfl ?_
      refine g_istore_n (pc := 58) dX1_reset_58 rfl (Nat.le_of_ble_eq_true rfl) rfl ?_
      refine g_loop (σ := (Nat → Nat → Int32) × (Nat → Nat)) 8 (fun k s => Snap s.1 4 s.2 E ∧ WF s.2 ∧ (∀ x, 80 ≤ x → s.2 x = W x) ∧ (∀ i, i < k → ∀ x, x < 10 → s.2 (10 * i + x) = 0) ∧ Sm [4, 5, 6, 7, 8, 9, 10, 11, 12, 13, 14, 15] I s.1) (fun k _ => [some (.ref 4), some (.int (nI k))]) (fun s => hp n s.1 L D) (fun k s hk hs kn => ?_) (fun s hs => ?_) 0 (J, W) (Nat.zero_le _) ⟨v1, u2, fun _ _ => rfl, fun i hi => absurd hi (Nat.not_lt_zero i), v3⟩
      · obtain ⟨J, W2⟩ := s
        obtain ⟨w1, w2, w3, w4, w5⟩ := hs
        dsimp only at w1 w2 w3 w4 w5
        refine g_iload_n (pc := 59) dX1_reset_59 rfl rfl ?_
        refine g_bipush (v := nI 8) (pc := 60) dX1_reset_60 rfl ?_
        refine g_icmp_geN (tgt := 76) (pc := 62) dX1_reset_62 (by decide) (by omega) (by omega) (fun c62 => ?_) (fun c62 => ?_)
        · omega
        refine g_aload_n (pc := 65) dX1_reset_65 rfl rfl ?_
        refine g_iload_n (pc := 66) dX1_reset_66 rfl rfl ?_
        refine g_rvV (av := [.int _]) (pc := 67) dX1_reset_67 mt_X1_drop lk_X1_55 im_X1_drop se_X1_drop np_X1_drop s_4 (by decide) (by decide) rfl (gc_i gc_0) (Nat.le_of_ble_eq_true rfl) (Nat.le_of_ble_eq_true rfl) (m_X1_drop w1 w2 hk) ?_
        rintro I1 ⟨k1, k2⟩
        refine g_iincN (pc := 70) dX1_reset_70 (Nat.le_of_ble_eq_true rfl) rfl rfl ?_
        refine g_goto (tgt := 59) (pc := 73) dX1_reset_73 (by decide) ?_
        refine kn (I1, rmV W2 k) ⟨k1, WF_rm w2 hk, fun x hx => (rmV_h hk hx).trans (w3 x hx), fun i hi x hx => ?_, Sm.trans w5 (k2.mono (by decide))⟩
        show rmV W2 k (10 * i + x) = 0
        by_cases e : i = k
        · subst e; exact rmV_s hx
        · rw [rmV_o hx e]; exact w4 i (by omega) x hx
      · obtain ⟨J, W2⟩ := s
        obtain ⟨w1, w2, w3, w4, w5⟩ := hs
        dsimp only at w1 w2 w3 w4 w5
        refine g_iload_n (pc := 59) dX1_reset_59 rfl rfl ?_
        refine g_bipush (v := nI 8) (pc := 60) dX1_reset_60 rfl ?_
        refine g_icmp_geN (tgt := 76) (pc := 62) dX1_reset_62 (by decide) (by omega) (by omega) (fun c62 => ?_) (fun c62 => ?_)
        rotate_left
        · omega
        refine g_aload_n (pc := 76) dX1_reset_76 rfl rfl ?_
        refine g_iconst (v := nI 0) (pc := 77) dX1_reset_77 rfl ?_
        refine g_putI (pc := 78) dX1_reset_78 fl_X1_45 s_4 (by decide) rfl rfl rfl rfl ?_
        refine g_vret (pc := 81) dX1_reset_81 rfl ?_
        refine ⟨_, ⟨rfl, rfl⟩, ?_⟩
        refine ⟨Snap.ext (Snap.day (x := 0) w1 w2.bl4) (fun j hj q hq => ?_) (fun k hk _ => ?_) (fun k hk => ?_), (by repeat' first | assumption | exact Sm.rfl | exact Sc.rfl | refine Sm.up (by decide) ?_ | refine Sc.up (by decide) ?_ | refine Sc.un (by decide) ?_)⟩
        · have h0 : bl (uV W2 800 0) j = 0 := by unfold bl; rw [uV_n (by omega), w4 j hj 1 (by decide)]
          rw [h0] at hq; exact absurd hq (Nat.not_lt_zero q)
        · by_cases e : k = 800
          · rw [e, uV_s]
          · rw [uV_n e]
            by_cases e2 : k < 80
            · rw [show k = 10 * (k / 10) + k % 10 by omega, w4 (k / 10) (by omega) _ (Nat.mod_lt _ (by decide))]
            · rw [w3 k (by omega)]
              by_cases e3 : k < 320
              · rw [show k = 80 + (k - 80) by omega, show W (80 + (k - 80)) = 0 from (u3 (k - 80) (by omega)).1]
              · by_cases e4 : k < 560
                · rw [show k = 320 + (k - 320) by omega, show W (320 + (k - 320)) = 0 from (u3 (k - 320) (by omega)).2.2]
                · rw [show k = 560 + (k - 560) by omega, show W (560 + (k - 560)) = 0 from (u3 (k - 560) (by omega)).2.1]
        · exact (v2 k hk).symm
theorem m_X1_enter (hS : Snap I 4 V C) (hW : WF V) {f m c dp fs : Nat} (hf : f < 8) (h0 : ¬ V (10 * f) = 1) (hm : m ≤ 32) (hc : c < 100) (hdp : dp < 100) (hfs : fs < 1000) : gRv G YX1_enter (d + 1) [.ref 4, .int (nI f), .int (nI m), .int (nI c), .int (nI dp), .int (nI fs)] n I L D (fun J => Snap J 4 (edV V f m c dp fs) C ∧ Sm [9, 10, 11, 12, 14, 15] I J) := by
  have hz : ∀ k, k < 10 → V (10 * f + k) = 0 := (hW.1 f hf).2.2.2.2.2.2.2.1 (by have := (hW.1 f hf).1; omega)
  obtain ⟨h1, h2, h3, h4, h5⟩ := hS
  refine g_aload_n (pc := 0) dX1_enter_0 rfl rfl ?_
  refine g_getR (pc := 1) dX1_enter_1 fl_X1_24 s_4 (by decide) rfl t_4_4 ?_
  refine g_iload_n (pc := 4) dX1_enter_4 rfl rfl ?_
  refine g_iload_n (pc := 5) dX1_enter_5 rfl rfl ?_
  refine g_iastoreN (pc := 6) dX1_enter_6 s_9 (by decide) (by omega) (by decide) ?_
  refine g_aload_n (pc := 7) dX1_enter_7 rfl rfl ?_
  refine g_getR (pc := 8) dX1_enter_8 fl_X1_27 s_4 (by decide) rfl t_4_5 ?_
  refine g_iload_n (pc := 11) dX1_enter_11 rfl rfl ?_
  refine g_iload_n (pc := 12) dX1_enter_12 rfl rfl ?_
  refine g_fS (av := [.int _]) (pc := 13) dX1_enter_13 mt_X2_blocksFor lk_X1_71 sf_X2_blocksFor np_X2_blocksFor rfl (gc_i gc_0) (Nat.le_of_ble_eq_true rfl) (Nat.le_of_ble_eq_true rfl) ⟨Nat.zero_le _, Nat.zero_le _⟩ (m_X2_blocksFor (by omega)) ?_
  refine g_iastoreN (pc := 16) dX1_enter_16 s_10 (by decide) (by omega) (by decide) ?_
  refine g_aload_n (pc := 17) dX1_enter_17 rfl rfl ?_
  refine g_getR (pc := 18) dX1_enter_18 fl_X1_30 s_4 (by decide) rfl t_4_6 ?_
  refine g_iload_n (pc := 21) dX1_enter_21 rfl rfl ?_
  refine g_iload_n (pc := 22) dX1_enter_22 rfl rfl ?_
  refine g_iastoreN (pc := 23) dX1_enter_23 s_11 (by decide) (by omega) (by decide) ?_
  refine g_aload_n (pc := 24) dX1_enter_24 rfl rfl ?_
  refine g_getR (pc := 25) dX1_enter_25 fl_X1_33 s_4 (by decide) rfl t_4_7 ?_
  refine g_iload_n (pc := 28) dX1_enter_28 rfl rfl ?_
  refine g_iload (pc := 29) dX1_enter_29 rfl ?_
  refine g_iastoreN (pc := 31) dX1_enter_31 s_12 (by decide) (by omega) (by decide) ?_
  refine g_aload_n (pc := 32) dX1_enter_32 rfl rfl ?_
  refine g_getR (pc := 33) dX1_enter_33 fl_X1_39 s_4 (by decide) rfl t_4_9 ?_
  refine g_iload_n (pc := 36) dX1_enter_36 rfl rfl ?_
  refine g_iload (pc := 37) dX1_enter_37 rfl ?_
  refine g_iastoreN (pc := 39) dX1_enter_39 s_14 (by decide) (by omega) (by decide) ?_
  refine g_iconst (v := nI 0) (pc := 40) dX1_enter_40 rfl ?_
  refine g_istore (pc := 41) dX1_enter_41 (Nat.le_of_ble_eq_true rfl) rfl ?_
  refine g_loop 4 (fun k J => (∀ q, q < k → J 15 (4 * f + q) = nI (V 800)) ∧ (∀ x, x < 4 * f ∨ 4 * f + 4 ≤ x → J 15 x = I 15 x) ∧ ∀ a, a ≠ 15 → J a = gUp (gUp (gUp (gUp (gUp I 9 f (nI m)) 10 f (nI ((m + 7) / 8))) 11 f (nI c)) 12 f (nI dp)) 14 f (nI fs) a) (fun k _ => [some (.ref 4), some (.int (nI f)), some (.int (nI m)), some (.int (nI c)), some (.int (nI dp)), some (.int (nI fs)), some (.int (nI k))]) (fun J => hp n J L D) (fun k J hk hJ kn => ?_) (fun J hJ => ?_) 0 _ (Nat.zero_le _) ⟨fun q hq => absurd hq (Nat.not_lt_zero q), fun x hx => by rw [gUp_ne (by decide), gUp_ne (by decide), gUp_ne (by decide), gUp_ne (by decide), gUp_ne (by decide)], fun _ _ => rfl⟩
  · obtain ⟨u1, u2, u3⟩ := hJ
    have hd : J 4 11 = nI (V 800) := by rw [u3 4 (by decide), gUp_ne (by decide), gUp_ne (by decide), gUp_ne (by decide), gUp_ne (by decide), gUp_ne (by decide)]; exact h5
    refine g_iload (pc := 43) dX1_enter_43 rfl ?_
    refine g_iconst (v := nI 4) (pc := 45) dX1_enter_45 rfl ?_
    refine g_icmp_geN (tgt := 70) (pc := 46) dX1_enter_46 (by decide) (by omega) (by omega) (fun c46 => ?_) (fun c46 => ?_)
    · omega
    refine g_aload_n (pc := 49) dX1_enter_49 rfl rfl ?_
    refine g_getR (pc := 50) dX1_enter_50 fl_X1_42 s_4 (by decide) rfl t_4_10 ?_
    refine g_iload_n (pc := 53) dX1_enter_53 rfl rfl ?_
    refine g_iconst (v := nI 4) (pc := 54) dX1_enter_54 rfl ?_
    refine g_imulN (pc := 55) dX1_enter_55 ?_
    refine g_iload (pc := 56) dX1_enter_56 rfl ?_
    refine g_iaddN (pc := 58) dX1_enter_58 ?_
    refine g_aload_n (pc := 59) dX1_enter_59 rfl rfl ?_
    refine g_getIV (pc := 60) dX1_enter_60 fl_X1_45 s_4 (by decide) rfl hd ?_
    refine g_iastoreN (pc := 63) dX1_enter_63 s_15 (by decide) (by omega) (by decide) ?_
    refine g_iincN (pc := 64) dX1_enter_64 (Nat.le_of_ble_eq_true rfl) rfl rfl ?_
    refine g_goto (tgt := 43) (pc := 67) dX1_enter_67 (by decide) ?_
    refine kn _ ⟨fun q hq => ?_, fun x hx => ?_, fun a ha => ?_⟩
    · rw [gUp_c]
      by_cases e : q = k
      · rw [if_pos (by omega)]
      · rw [if_neg (by omega)]; exact u1 q (by omega)
    · rw [gUp_c, if_neg (by omega)]; exact u2 x hx
    · rw [gUp_ne ha]; exact u3 a ha
  · obtain ⟨u1, u2, u3⟩ := hJ
    have hbm : ∀ q, q < (m + 7) / 8 → q < 4 := fun q hq => by omega
    have hb : ∀ j, j < 8 → bl (edV V f m c dp fs) j = if j = f then (m + 7) / 8 else bl V j := fun j hj => by
      by_cases e : j = f
      · rw [if_pos e, e]; unfold bl; rw [edV_f.2.1]
      · rw [if_neg e]; unfold bl; rw [edV_o (by omega)]
    refine g_iload (pc := 43) dX1_enter_43 rfl ?_
    refine g_iconst (v := nI 4) (pc := 45) dX1_enter_45 rfl ?_
    refine g_icmp_geN (tgt := 70) (pc := 46) dX1_enter_46 (by decide) (by omega) (by omega) (fun c46 => ?_) (fun c46 => ?_)
    rotate_left
    · omega
    refine g_vret (pc := 70) dX1_enter_70 rfl ?_
    refine ⟨_, ⟨rfl, rfl⟩, ?_⟩
    refine ⟨⟨fun i hi => ?_, fun k hk => ?_, fun j hj => ?_, fun j hj q hq => ?_, ?_⟩, fun a ha => ?_⟩
    · rw [edV_o (by omega), edV_o (by omega), edV_o (by omega), u3 (4 + 1) (by decide), u3 (4 + 2) (by decide), u3 (4 + 3) (by decide)]
      rw [gUp_ne (by decide), gUp_ne (by decide), gUp_ne (by decide), gUp_ne (by decide), gUp_ne (by decide), gUp_ne (by decide), gUp_ne (by decide), gUp_ne (by decide), gUp_ne (by decide), gUp_ne (by decide), gUp_ne (by decide), gUp_ne (by decide), gUp_ne (by decide), gUp_ne (by decide), gUp_ne (by decide)]
      exact h1 i hi
    · rw [u3 (4 + 4) (by decide), gUp_ne (by decide), gUp_ne (by decide), gUp_ne (by decide), gUp_ne (by decide), gUp_ne (by decide)]; exact h2 k hk
    · have h9 := h3 j hj
      rw [hb j hj, u3 (4 + 5) (by decide), u3 (4 + 6) (by decide), u3 (4 + 7) (by decide), u3 (4 + 8) (by decide), u3 (4 + 9) (by decide), u3 (4 + 10) (by decide)]
      by_cases e : j = f
      · subst e
        obtain ⟨-, e1, e2, e3, e4, e5⟩ := edV_f (V := V) (f := j) (n := m) (c := c) (dp := dp) (fs := fs)
        rw [e1, e2, e3, e4, e5, if_pos rfl]
        refine ⟨by simp [gUp_get], by simp [gUp_get], by simp [gUp_get], by simp [gUp_get], ?_, by simp [gUp_get]⟩
        have h10 := h9.2.2.2.2.1
        rw [hz 4 (by decide)] at h10
        rw [gUp_ne (by decide), gUp_ne (by decide), gUp_ne (by decide), gUp_ne (by decide), gUp_ne (by decide)]
        exact h10
      · rw [if_neg e, edV_o (by omega), edV_o (by omega), edV_o (by omega), edV_o (by omega), edV_o (by omega)]
        refine ⟨?_, ?_, ?_, ?_, ?_, ?_⟩ <;> simp [gUp_get, e, h9]
    · rw [hb j hj] at hq
      by_cases e : j = f
      · subst e
        rw [if_pos rfl] at hq
        by_cases q4 : q < 4
        · rw [edV_d (by omega)]; exact u1 q q4
        · exact absurd (hbm q hq) q4
      · rw [if_neg e] at hq
        have hbj := hW.bl4 j hj
        rw [edV_o (by omega)]
        show J 15 _ = _
        rw [u2 _ (by omega)]; exact h4 j hj q hq
    · rw [edV_o (by omega), u3 4 (by decide), gUp_ne (by decide), gUp_ne (by decide), gUp_ne (by decide), gUp_ne (by decide), gUp_ne (by decide)]; exact h5
    · by_cases e : a = 15
      · exact absurd (by rw [e]; decide) ha
      · rw [u3 a e, gUp_ne (fun e => ha (by rw [e]; decide)), gUp_ne (fun e => ha (by rw [e]; decide)), gUp_ne (fun e => ha (by rw [e]; decide)), gUp_ne (fun e => ha (by rw [e]; decide)), gUp_ne (fun e => ha (by rw [e]; decide))]
end

