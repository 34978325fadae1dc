/-! ===== the reference: whether a set explains ===== -/
def Rw (J : Nat → Nat → Int32) (M : mT) : Prop := ∀ j x, j < 7 → x < 8 → J 128 (8 * j + x) = fI (M j x)
def um (M : mT) (j x : Nat) (a : F6) : mT := fun r y => if r = j ∧ y = x then a else M r y
theorem Rw.up {J : Nat → Nat → Int32} {M : mT} {j x : Nat} {a : F6} (h : Rw J M) (hx : x < 8) : Rw (gUp J 128 (8 * j + x) (fI a)) (um M j x a) := fun r y hr hy => by
  rw [gUp_c]
  unfold um
  by_cases e : r = j ∧ y = x
  · rw [if_pos e, if_pos (by omega)]
  · rw [if_neg e, if_neg (by omega)]; exact h r y hr hy
theorem Rw.ext {J : Nat → Nat → Int32} {M N : mT} (h : Rw J M) (e : ∀ j x, j < 7 → x < 8 → M j x = N j x) : Rw J N := fun j x hj hx => by rw [← e j x hj hx]; exact h j x hj hx
theorem Rw.s {I J : Nat → Nat → Int32} {M : mT} (h : Rw I M) (e : J 128 = I 128) : Rw J M := fun j x hj hx => by rw [e]; exact h j x hj hx
theorem bq_t {b : Bool} (h : ¬ (if b = true then 1 else 0) = 0) : b = true := by cases b <;> simp at h ⊢
theorem bq_f {b : Bool} (h : (if b = true then 1 else 0) = 0) : b = false := by cases b <;> simp at h ⊢
theorem plS_lt {S k z : Nat} (hz : z ≤ 14) (hk : k < nS S z) : plS S k < z ∧ S.testBit (plS S k) = true ∧ nS S (plS S k) = k := by
  obtain ⟨i, h1, h2, h3⟩ := nS_sur hk
  rw [← h3, plS_nS h2 (by omega)]
  exact ⟨h1, h2, rfl⟩
section
variable {G : gG} {d n : Nat} {I : Nat → Nat → Int32} {L : Nat → Nat → Int64} {D : Nat → Nat → UInt64} {V : Nat → Nat}
theorem l_X3_sol1 {Q : gQ} {S z : Nat} (hz : I 114 23 = nI z) (h14 : z ≤ 14) (hS : S < 2 ^ 31) (kx : ∀ J, Sm [126] I J → (∀ a, a < nS S z → J 126 a = nI (plS S a)) → gGo G YX3_isSolved d 39 [some (.ref 114), some (.int (nI S)), some (.int (nI (nS S z))), some (.int (nI z)), none, none, none, none, none] [] (hp n J L D) 0 0 Q) : gGo G YX3_isSolved d 0 [some (.ref 114), some (.int (nI S)), none, none, none, none, none, none, none] [] (hp n I L D) 0 0 Q := by
  refine g_iconst (v := nI 0) (pc := 0) dX3_isSolved_0 rfl ?_
  refine g_istore_n (pc := 1) dX3_isSolved_1 rfl (Nat.le_of_ble_eq_true rfl) rfl ?_
  refine g_iconst (v := nI 0) (pc := 2) dX3_isSolved_2 rfl ?_
  refine g_istore_n (pc := 3) dX3_isSolved_3 rfl (Nat.le_of_ble_eq_true rfl) rfl ?_
  refine g_loop z (fun k J => Sm [126] I J ∧ ∀ i, i < k → S.testBit i = true → J 126 (nS S i) = nI i) (fun k _ => [some (.ref 114), some (.int (nI S)), some (.int (nI (nS S k))), some (.int (nI k)), none, none, none, none, none]) (fun J => hp n J L D) (fun k J hk hJ kn => ?_) (fun J hJ => ?_) 0 I (Nat.zero_le _) ⟨Sm.rfl, fun i hi => absurd hi (Nat.not_lt_zero i)⟩
  · obtain ⟨s1, s2⟩ := hJ
    have hz1 : J 114 23 = nI z := by rw [s1 114 (by decide)]; exact hz
    have hl := nS_le S k
    refine g_iload_n (pc := 4) dX3_isSolved_4 rfl rfl ?_
    refine g_aload_n (pc := 5) dX3_isSolved_5 rfl rfl ?_
    refine g_getIV (pc := 6) dX3_isSolved_6 fl_X3_133 s_114 (by decide) rfl hz1 ?_
    refine g_icmp_geN (tgt := 39) (pc := 9) dX3_isSolved_9 (by decide) (by omega) (by omega) (fun c9 => ?_) (fun c9 => ?_)
    · omega
    refine g_iload_n (pc := 12) dX3_isSolved_12 rfl rfl ?_
    refine g_iload_n (pc := 13) dX3_isSolved_13 rfl rfl ?_
    refine g_ishr (pc := 14) dX3_isSolved_14 ?_
    refine g_iconst (v := nI 1) (pc := 15) dX3_isSolved_15 rfl ?_
    refine g_iand (pc := 16) dX3_isSolved_16 ?_
    rw [bt_n hS (by omega)]
    refine g_if_neN (tgt := 23) (pc := 17) dX3_isSolved_17 (by decide) (by split <;> decide) (fun c17 => ?_) (fun c17 => ?_)
    · have hb := bq_t c17
      refine g_aload_n (pc := 23) dX3_isSolved_23 rfl rfl ?_
      refine g_getR (pc := 24) dX3_isSolved_24 fl_X3_48 s_114 (by decide) rfl t_114_19 ?_
      refine g_iload_n (pc := 27) dX3_isSolved_27 rfl rfl ?_
      refine g_iload_n (pc := 28) dX3_isSolved_28 rfl rfl ?_
      refine g_iastoreN (pc := 29) dX3_isSolved_29 s_126 (by decide) (by omega) (by decide) ?_
      refine g_iincN (pc := 30) dX3_isSolved_30 (Nat.le_of_ble_eq_true rfl) rfl rfl ?_
      refine g_iincN (pc := 33) dX3_isSolved_33 (Nat.le_of_ble_eq_true rfl) rfl rfl ?_
      refine g_goto (tgt := 4) (pc := 36) dX3_isSolved_36 (by decide) ?_
      first
        | exact kn _ ⟨s1, fun i hi hbi => by
            rcases Nat.lt_or_ge i k with q | q
            · exact s2 i q hbi
            · rw [show i = k by omega, hb] at hbi; cases hbi⟩
        | (rw [nS_t hb] at kn
           exact kn _ ⟨(by repeat' first | assumption | exact Sm.rfl | exact Sc.rfl | refine Sm.up (by decide) ?_ | refine Sc.up (by decide) ?_ | refine Sc.un (by decide) ?_), fun i hi hbi => by
            rw [gUp_c]
            by_cases e : i = k
            · rw [if_pos (by rw [e]), e]
            · have := nS_lt hbi (show i < k by omega)
              rw [if_neg (by omega)]
              exact s2 i (by omega) hbi⟩)
    · have hb := bq_f c17
      rw [nS_f hb] at kn
      refine g_goto (tgt := 33) (pc := 20) dX3_isSolved_20 (by decide) ?_
      refine g_iincN (pc := 33) dX3_isSolved_33 (Nat.le_of_ble_eq_true rfl) rfl rfl ?_
      refine g_goto (tgt := 4) (pc := 36) dX3_isSolved_36 (by decide) ?_
      first
        | exact kn _ ⟨s1, fun i hi hbi => by
            rcases Nat.lt_or_ge i k with q | q
            · exact s2 i q hbi
            · rw [show i = k by omega, hb] at hbi; cases hbi⟩
        | (rw [nS_t hb] at kn
           exact kn _ ⟨(by repeat' first | assumption | exact Sm.rfl | exact Sc.rfl | refine Sm.up (by decide) ?_ | refine Sc.up (by decide) ?_ | refine Sc.un (by decide) ?_), fun i hi hbi => by
            rw [gUp_c]
            by_cases e : i = k
            · rw [if_pos (by rw [e]), e]
            · have := nS_lt hbi (show i < k by omega)
              rw [if_neg (by omega)]
              exact s2 i (by omega) hbi⟩)
  · obtain ⟨s1, s2⟩ := hJ
    have hz1 : J 114 23 = nI z := by rw [s1 114 (by decide)]; exact hz
    refine g_iload_n (pc := 4) dX3_isSolved_4 rfl rfl ?_
    refine g_aload_n (pc := 5) dX3_isSolved_5 rfl rfl ?_
    refine g_getIV (pc := 6) dX3_isSolved_6 fl_X3_133 s_114 (by decide) rfl hz1 ?_
    refine g_icmp_geN (tgt := 39) (pc := 9) dX3_isSolved_9 (by decide) (by omega) (by omega) (fun c9 => ?_) (fun c9 => ?_)
    rotate_left
    · exact absurd (Nat.le_refl _) c9
    exact kx J s1 (fun a ha => by
      obtain ⟨i, h1, h2, h3⟩ := nS_sur ha
      have := s2 i h1 h2
      rw [h3] at this
      rw [this, ← h3, plS_nS h2 (by omega)])
theorem l_X3_sol2 {Q : gQ} {S c m z : Nat} {s : Nat → F6} (hT : Tb I) (hc : I 114 24 = nI c) (hc6 : c ≤ 6) (hm : m ≤ c) (hm2 : m = nS S 14) (hpl : ∀ a, a < m → I 126 a = nI (plS S a)) (hs : ∀ j, j < c → I 129 j = fI (s j)) {M : mT} (hR : Rw I M) (kx : ∀ J M, Sm [128] I J → Rw J M → M0of M S m c s → gGo G YX3_isSolved (d + 1) 113 [some (.ref 114), some (.int (nI S)), some (.int (nI m)), some (.int (nI c)), none, none, none, none, none] [] (hp n J L D) 0 0 Q) : gGo G YX3_isSolved (d + 1) 39 [some (.ref 114), some (.int (nI S)), some (.int (nI m)), some (.int (nI z)), none, none, none, none, none] [] (hp n I L D) 0 0 Q := by
  have hplt : ∀ a, a < m → plS S a < 14 := fun a ha => (plS_lt (z := 14) (Nat.le_refl _) (by omega)).1
  refine g_iconst (v := nI 0) (pc := 39) dX3_isSolved_39 rfl ?_
  refine g_istore_n (pc := 40) dX3_isSolved_40 rfl (Nat.le_of_ble_eq_true rfl) rfl ?_
  refine g_loop c (fun j J => Sm [128] I J ∧ ∃ M, Rw J M ∧ M0of M S m j s) (fun j _ => [some (.ref 114), some (.int (nI S)), some (.int (nI m)), some (.int (nI j)), none, none, none, none, none]) (fun J => hp n J L D) (fun j J hj hJ kn => ?_) (fun J hJ => ?_) 0 I (Nat.zero_le _) ⟨Sm.rfl, M, hR, fun i hi => absurd hi (Nat.not_lt_zero i)⟩
  · obtain ⟨s1, M, hR, hM⟩ := hJ
    have hc1 : J 114 24 = nI c := by rw [s1 114 (by decide)]; exact hc
    refine g_iload_n (pc := 41) dX3_isSolved_41 rfl rfl ?_
    refine g_aload_n (pc := 42) dX3_isSolved_42 rfl rfl ?_
    refine g_getIV (pc := 43) dX3_isSolved_43 fl_X3_135 s_114 (by decide) rfl hc1 ?_
    refine g_icmp_geN (tgt := 113) (pc := 46) dX3_isSolved_46 (by decide) (by omega) (by omega) (fun c46 => ?_) (fun c46 => ?_)
    · omega
    refine g_iconst (v := nI 0) (pc := 49) dX3_isSolved_49 rfl ?_
    refine g_istore (pc := 50) dX3_isSolved_50 (Nat.le_of_ble_eq_true rfl) rfl ?_
    refine g_loop m (fun k J => Sm [128] I J ∧ ∃ M, Rw J M ∧ M0of M S m j s ∧ ∀ a, a < k → M j a = fp (plS S a * j)) (fun k _ => [some (.ref 114), some (.int (nI S)), some (.int (nI m)), some (.int (nI j)), some (.int (nI k)), none, none, none, none]) (fun J => hp n J L D) (fun k J hk hJ kb => ?_) (fun J hJ => ?_) 0 J (Nat.zero_le _) ⟨s1, M, hR, hM, fun i hi => absurd hi (Nat.not_lt_zero i)⟩
    · obtain ⟨s1, M, hR, hM, hMj⟩ := hJ
      have hTJ : Tb J := hT.s s1 (by decide) (by decide) (by decide)
      have hp1 : J 126 k = nI (plS S k) := by rw [s1 126 (by decide)]; exact hpl k hk
      have hp2 := hplt k hk
      have hb9 : plS S k * j < 2 ^ 31 := Nat.lt_of_le_of_lt (Nat.mul_le_mul (show plS S k ≤ 14 by omega) (show j ≤ 6 by omega)) (by decide)
      refine g_iload (pc := 52) dX3_isSolved_52 rfl ?_
      refine g_iload_n (pc := 54) dX3_isSolved_54 rfl rfl ?_
      refine g_icmp_geN (tgt := 89) (pc := 55) dX3_isSolved_55 (by decide) (by omega) (by omega) (fun c55 => ?_) (fun c55 => ?_)
      · omega
      refine g_aload_n (pc := 58) dX3_isSolved_58 rfl rfl ?_
      refine g_getR (pc := 59) dX3_isSolved_59 fl_X3_54 s_114 (by decide) rfl t_114_21 ?_
      refine g_bipush (v := nI 8) (pc := 62) dX3_isSolved_62 rfl ?_
      refine g_iload_n (pc := 64) dX3_isSolved_64 rfl rfl ?_
      refine g_imulN (pc := 65) dX3_isSolved_65 ?_
      refine g_iload (pc := 66) dX3_isSolved_66 rfl ?_
      refine g_iaddN (pc := 68) dX3_isSolved_68 ?_
      refine g_aload_n (pc := 69) dX3_isSolved_69 rfl rfl ?_
      refine g_aload_n (pc := 70) dX3_isSolved_70 rfl rfl ?_
      refine g_getR (pc := 71) dX3_isSolved_71 fl_X3_48 s_114 (by decide) rfl t_114_19 ?_
      refine g_iload (pc := 74) dX3_isSolved_74 rfl ?_
      refine g_ialoadN (pc := 76) dX3_isSolved_76 s_126 (by decide) (by omega) (by decide) hp1 ?_
      refine g_iload_n (pc := 77) dX3_isSolved_77 rfl rfl ?_
      refine g_imulN (pc := 78) dX3_isSolved_78 ?_
      refine g_fV (av := [.int _]) (pc := 79) dX3_isSolved_79 mt_X3_power lk_X3_169 im_X3_power se_X3_power np_X3_power s_114 (by decide) (by decide) rfl (gc_i gc_0) (Nat.le_of_ble_eq_true rfl) (Nat.le_of_ble_eq_true rfl) ⟨Nat.zero_le _, Nat.zero_le _⟩ (m_X3_power hTJ hb9) ?_
      refine g_iastoreN (pc := 82) dX3_isSolved_82 s_128 (by decide) (by omega) (by decide) ?_
      refine g_iincN (pc := 83) dX3_isSolved_83 (Nat.le_of_ble_eq_true rfl) rfl rfl ?_
      refine g_goto (tgt := 52) (pc := 86) dX3_isSolved_86 (by decide) ?_
      refine kb _ ⟨Sm.up (by decide) s1, um M j k (fp (plS S k * j)), hR.up (by omega), fun i hi => ⟨fun a ha => ?_, ?_⟩, fun a ha => ?_⟩
      · show (if i = j ∧ a = k then _ else M i a) = _
        rw [if_neg (by omega)]; exact (hM i hi).1 a ha
      · show (if i = j ∧ 7 = k then _ else M i 7) = _
        rw [if_neg (by omega)]; exact (hM i hi).2
      · show (if j = j ∧ a = k then _ else M j a) = _
        by_cases e : a = k
        · rw [if_pos ⟨rfl, e⟩, e]
        · rw [if_neg (fun q => e q.2)]; exact hMj a (by omega)
    · obtain ⟨s1, M, hR, hM, hMj⟩ := hJ
      have hs1 : J 129 j = fI (s j) := by rw [s1 129 (by decide)]; exact hs j hj
      refine g_iload (pc := 52) dX3_isSolved_52 rfl ?_
      refine g_iload_n (pc := 54) dX3_isSolved_54 rfl rfl ?_
      refine g_icmp_geN (tgt := 89) (pc := 55) dX3_isSolved_55 (by decide) (by omega) (by omega) (fun c55 => ?_) (fun c55 => ?_)
      rotate_left
      · omega
      refine g_aload_n (pc := 89) dX3_isSolved_89 rfl rfl ?_
      refine g_getR (pc := 90) dX3_isSolved_90 fl_X3_54 s_114 (by decide) rfl t_114_21 ?_
      refine g_bipush (v := nI 8) (pc := 93) dX3_isSolved_93 rfl ?_
      refine g_iload_n (pc := 95) dX3_isSolved_95 rfl rfl ?_
      refine g_imulN (pc := 96) dX3_isSolved_96 ?_
      refine g_bipush (v := nI 7) (pc := 97) dX3_isSolved_97 rfl ?_
      refine g_iaddN (pc := 99) dX3_isSolved_99 ?_
      refine g_aload_n (pc := 100) dX3_isSolved_100 rfl rfl ?_
      refine g_getR (pc := 101) dX3_isSolved_101 fl_X3_57 s_114 (by decide) rfl t_114_22 ?_
      refine g_iload_n (pc := 104) dX3_isSolved_104 rfl rfl ?_
      refine g_ialoadN (pc := 105) dX3_isSolved_105 s_129 (by decide) (by omega) (by decide) hs1 ?_
      refine g_iastoreN (pc := 106) dX3_isSolved_106 s_128 (by decide) (by omega) (by decide) ?_
      refine g_iincN (pc := 107) dX3_isSolved_107 (Nat.le_of_ble_eq_true rfl) rfl rfl ?_
      refine g_goto (tgt := 41) (pc := 110) dX3_isSolved_110 (by decide) ?_
      refine g_fg 4 ?_
      refine kn _ ⟨Sm.up (by decide) s1, um M j 7 (s j), hR.up (by decide), fun i hi => ?_⟩
      by_cases e : i = j
      · subst e
        refine ⟨fun a ha => ?_, ?_⟩
        · show (if i = i ∧ a = 7 then _ else M i a) = _
          rw [if_neg (by omega)]; exact hMj a ha
        · show (if i = i ∧ 7 = 7 then _ else M i 7) = _
          rw [if_pos ⟨rfl, rfl⟩]
      · refine ⟨fun a ha => ?_, ?_⟩
        · show (if i = j ∧ a = 7 then _ else M i a) = _
          rw [if_neg (fun q => e q.1)]; exact (hM i (by omega)).1 a ha
        · show (if i = j ∧ 7 = 7 then _ else M i 7) = _
          rw [if_neg (fun q => e q.1)]; exact (hM i (by omega)).2
  · obtain ⟨s1, M, hR, hM⟩ := hJ
    have hc1 : J 114 24 = nI c := by rw [s1 114 (by decide)]; exact hc
    refine g_iload_n (pc := 41) dX3_isSolved_41 rfl rfl ?_
    refine g_aload_n (pc := 42) dX3_isSolved_42 rfl rfl ?_
    refine g_getIV (pc := 43) dX3_isSolved_43 fl_X3_135 s_114 (by decide) rfl hc1 ?_
    refine g_icmp_geN (tgt := 113) (pc := 46) dX3_isSolved_46 (by decide) (by omega) (by omega) (fun c46 => ?_) (fun c46 => ?_)
    rotate_left
    · omega
    exact kx J M s1 hR hM
theorem l_X3_sol3b {Q : gQ} {S c m k q : Nat} (hc : I 114 24 = nI c) (hT : Tb I) (hc6 : c ≤ 6) (hm : m ≤ c) (hk : k < m) (hq : q < c) {M1 : mT} {inv : F6} (hR : Rw I M1) (kx : ∀ J, Sm [128] I J → Rw J (G2 M1 k c) → gGo G YX3_isSolved (d + 1) 115 [some (.ref 114), some (.int (nI S)), some (.int (nI m)), some (.int (nI (k + 1))), none, none, none, none, none] [] (hp n J L D) 0 0 Q) : gGo G YX3_isSolved (d + 1) 239 [some (.ref 114), some (.int (nI S)), some (.int (nI m)), some (.int (nI k)), some (.int (nI q)), some (.int (fI inv)), some (.int (nI 8)), none, none] [] (hp n I L D) 0 0 Q := by
  refine g_iconst (v := nI 0) (pc := 239) dX3_isSolved_239 rfl ?_
  refine g_istore (pc := 240) dX3_isSolved_240 (Nat.le_of_ble_eq_true rfl) rfl ?_
  refine g_loop c (fun j J => Sm [128] I J ∧ Rw J (G2 M1 k j)) (fun j _ => [some (.ref 114), some (.int (nI S)), some (.int (nI m)), some (.int (nI k)), some (.int (nI q)), some (.int (fI inv)), some (.int (nI j)), none, none]) (fun J => hp n J L D) (fun j J hj hJ kn => ?_) (fun J hJ => ?_) 0 I (Nat.zero_le _) ⟨Sm.rfl, hR.ext (fun r y _ _ => by unfold G2; rw [if_neg (fun z => absurd z.1 (Nat.not_lt_zero r))])⟩
  · obtain ⟨s1, hR1⟩ := hJ
    have hc1 : J 114 24 = nI c := by rw [s1 114 (by decide)]; exact hc
    have hjk : J 128 (8 * j + k) = fI (M1 j k) := by rw [hR1 j k (by omega) (by omega)]; unfold G2; rw [if_neg (fun z => absurd z.1 (Nat.lt_irrefl j))]
    by_cases ejk : j = k
    · have e9 : ∀ r y, r < 7 → y < 8 → G2 M1 k j r y = G2 M1 k (j + 1) r y := fun r y _ _ => by
        unfold G2
        by_cases z : r < j ∧ r ≠ k
        · rw [if_pos z, if_pos ⟨by omega, z.2⟩]
        · rw [if_neg z, if_neg (fun w => z ⟨by omega, w.2⟩)]
      refine g_iload (pc := 242) dX3_isSolved_242 rfl ?_
      refine g_aload_n (pc := 244) dX3_isSolved_244 rfl rfl ?_
      refine g_getIV (pc := 245) dX3_isSolved_245 fl_X3_135 s_114 (by decide) rfl hc1 ?_
      refine g_icmp_geN (tgt := 327) (pc := 248) dX3_isSolved_248 (by decide) (by omega) (by omega) (fun c248 => ?_) (fun c248 => ?_)
      · omega
      refine g_aload_n (pc := 251) dX3_isSolved_251 rfl rfl ?_
      refine g_getR (pc := 252) dX3_isSolved_252 fl_X3_54 s_114 (by decide) rfl t_114_21 ?_
      refine g_bipush (v := nI 8) (pc := 255) dX3_isSolved_255 rfl ?_
      refine g_iload (pc := 257) dX3_isSolved_257 rfl ?_
      refine g_imulN (pc := 259) dX3_isSolved_259 ?_
      refine g_iload_n (pc := 260) dX3_isSolved_260 rfl rfl ?_
      refine g_iaddN (pc := 261) dX3_isSolved_261 ?_
      refine g_ialoadN (pc := 262) dX3_isSolved_262 s_128 (by decide) (by omega) (by decide) hjk ?_
      refine g_istore (pc := 263) dX3_isSolved_263 (Nat.le_of_ble_eq_true rfl) rfl ?_
      refine g_iconst (v := nI 0) (pc := 265) dX3_isSolved_265 rfl ?_
      refine g_istore (pc := 266) dX3_isSolved_266 (Nat.le_of_ble_eq_true rfl) rfl ?_
      refine g_iload (pc := 268) dX3_isSolved_268 rfl ?_
      refine g_bipush (v := nI 8) (pc := 270) dX3_isSolved_270 rfl ?_
      refine g_icmp_geN (tgt := 321) (pc := 272) dX3_isSolved_272 (by decide) (by omega) (by omega) (fun c272 => ?_) (fun c272 => ?_)
      · exact absurd c272 (by decide)
      · refine g_iload (pc := 275) dX3_isSolved_275 rfl ?_
        refine g_iload_n (pc := 277) dX3_isSolved_277 rfl rfl ?_
        refine g_icmp_eqN (tgt := 321) (pc := 278) dX3_isSolved_278 (by decide) (by omega) (by omega) (fun c278 => ?_) (fun c278 => ?_)
        rotate_left
        · exact absurd ejk c278
        refine g_iincN (pc := 321) dX3_isSolved_321 (Nat.le_of_ble_eq_true rfl) rfl rfl ?_
        refine g_goto (tgt := 242) (pc := 324) dX3_isSolved_324 (by decide) ?_
        refine g_fg 7 (g_fg 8 ?_)
        exact kn _ ⟨s1, hR1.ext e9⟩
    · skip
      refine g_iload (pc := 242) dX3_isSolved_242 rfl ?_
      refine g_aload_n (pc := 244) dX3_isSolved_244 rfl rfl ?_
      refine g_getIV (pc := 245) dX3_isSolved_245 fl_X3_135 s_114 (by decide) rfl hc1 ?_
      refine g_icmp_geN (tgt := 327) (pc := 248) dX3_isSolved_248 (by decide) (by omega) (by omega) (fun c248 => ?_) (fun c248 => ?_)
      · omega
      refine g_aload_n (pc := 251) dX3_isSolved_251 rfl rfl ?_
      refine g_getR (pc := 252) dX3_isSolved_252 fl_X3_54 s_114 (by decide) rfl t_114_21 ?_
      refine g_bipush (v := nI 8) (pc := 255) dX3_isSolved_255 rfl ?_
      refine g_iload (pc := 257) dX3_isSolved_257 rfl ?_
      refine g_imulN (pc := 259) dX3_isSolved_259 ?_
      refine g_iload_n (pc := 260) dX3_isSolved_260 rfl rfl ?_
      refine g_iaddN (pc := 261) dX3_isSolved_261 ?_
      refine g_ialoadN (pc := 262) dX3_isSolved_262 s_128 (by decide) (by omega) (by decide) hjk ?_
      refine g_istore (pc := 263) dX3_isSolved_263 (Nat.le_of_ble_eq_true rfl) rfl ?_
      refine g_iconst (v := nI 0) (pc := 265) dX3_isSolved_265 rfl ?_
      refine g_istore (pc := 266) dX3_isSolved_266 (Nat.le_of_ble_eq_true rfl) rfl ?_
      refine g_loop 8 (fun x J => Sm [128] I J ∧ Rw J (fun r y => if r = j ∧ y < x then fa (M1 j y) (fm (M1 j k) (M1 k y)) else G2 M1 k j r y)) (fun x _ => [some (.ref 114), some (.int (nI S)), some (.int (nI m)), some (.int (nI k)), some (.int (nI q)), some (.int (fI inv)), some (.int (nI j)), some (.int (fI (M1 j k))), some (.int (nI x))]) (fun J => hp n J L D) (fun x J hx hJ kb => ?_) (fun J hJ => ?_) 0 J (Nat.zero_le _) ⟨s1, hR1.ext (fun r y _ _ => by rw [if_neg (fun z => absurd z.2 (Nat.not_lt_zero y))])⟩
      · obtain ⟨s1, hR1⟩ := hJ
        have hTJ : Tb J := hT.s s1 (by decide) (by decide) (by decide)
        have h1 : J 128 (8 * j + x) = fI (M1 j x) := (hR1 j x (by omega) (by omega)).trans (congrArg fI (by
          show (if j = j ∧ x < x then _ else G2 M1 k j j x) = _
          rw [if_neg (fun z => absurd z.2 (Nat.lt_irrefl x))]
          unfold G2
          rw [if_neg (fun z => absurd z.1 (Nat.lt_irrefl j))]))
        have h2 : J 128 (8 * k + x) = fI (M1 k x) := (hR1 k x (by omega) (by omega)).trans (congrArg fI (by
          show (if k = j ∧ x < x then _ else G2 M1 k j k x) = _
          rw [if_neg (fun z => ejk z.1.symm)]
          unfold G2
          rw [if_neg (fun z => z.2 rfl)]))
        refine g_iload (pc := 268) dX3_isSolved_268 rfl ?_
        refine g_bipush (v := nI 8) (pc := 270) dX3_isSolved_270 rfl ?_
        refine g_icmp_geN (tgt := 321) (pc := 272) dX3_isSolved_272 (by decide) (by omega) (by omega) (fun c272 => ?_) (fun c272 => ?_)
        · omega
        refine g_iload (pc := 275) dX3_isSolved_275 rfl ?_
        refine g_iload_n (pc := 277) dX3_isSolved_277 rfl rfl ?_
        refine g_icmp_eqN (tgt := 321) (pc := 278) dX3_isSolved_278 (by decide) (by omega) (by omega) (fun c278 => ?_) (fun c278 => ?_)
        · exact absurd c278 ejk
        refine g_aload_n (pc := 281) dX3_isSolved_281 rfl rfl ?_
        refine g_getR (pc := 282) dX3_isSolved_282 fl_X3_54 s_114 (by decide) rfl t_114_21 ?_
        refine g_bipush (v := nI 8) (pc := 285) dX3_isSolved_285 rfl ?_
        refine g_iload (pc := 287) dX3_isSolved_287 rfl ?_
        refine g_imulN (pc := 289) dX3_isSolved_289 ?_
        refine g_iload (pc := 290) dX3_isSolved_290 rfl ?_
        refine g_iaddN (pc := 292) dX3_isSolved_292 ?_
        refine g_dup2 (pc := 293) dX3_isSolved_293 rfl rfl ?_
        refine g_ialoadN (pc := 294) dX3_isSolved_294 s_128 (by decide) (by omega) (by decide) h1 ?_
        refine g_aload_n (pc := 295) dX3_isSolved_295 rfl rfl ?_
        refine g_iload (pc := 296) dX3_isSolved_296 rfl ?_
        refine g_aload_n (pc := 298) dX3_isSolved_298 rfl rfl ?_
        refine g_getR (pc := 299) dX3_isSolved_299 fl_X3_54 s_114 (by decide) rfl t_114_21 ?_
        refine g_bipush (v := nI 8) (pc := 302) dX3_isSolved_302 rfl ?_
        refine g_iload_n (pc := 304) dX3_isSolved_304 rfl rfl ?_
        refine g_imulN (pc := 305) dX3_isSolved_305 ?_
        refine g_iload (pc := 306) dX3_isSolved_306 rfl ?_
        refine g_iaddN (pc := 308) dX3_isSolved_308 ?_
        refine g_ialoadN (pc := 309) dX3_isSolved_309 s_128 (by decide) (by omega) (by decide) h2 ?_
        refine g_fV (av := [.int _, .int _]) (pc := 310) dX3_isSolved_310 mt_X3_times lk_X3_172 im_X3_times se_X3_times np_X3_times s_114 (by decide) (by decide) rfl (gc_i (gc_i gc_0)) (Nat.le_of_ble_eq_true rfl) (Nat.le_of_ble_eq_true rfl) ⟨Nat.zero_le _, Nat.zero_le _⟩ (m_X3_times hTJ) ?_
        refine g_ixor (pc := 313) dX3_isSolved_313 ?_
        rw [fI_x]
        refine g_iastoreN (pc := 314) dX3_isSolved_314 s_128 (by decide) (by omega) (by decide) ?_
        refine g_iincN (pc := 315) dX3_isSolved_315 (Nat.le_of_ble_eq_true rfl) rfl rfl ?_
        refine g_goto (tgt := 268) (pc := 318) dX3_isSolved_318 (by decide) ?_
        refine kb _ ⟨Sm.up (by decide) s1, (hR1.up hx).ext (fun r y hr hy => ?_)⟩
        show (if r = j ∧ y = x then _ else if r = j ∧ y < x then _ else _) = _
        by_cases e : r = j ∧ y = x
        · rw [if_pos e, if_pos (by omega), e.2]
        · rw [if_neg e]
          by_cases e2 : r = j ∧ y < x
          · rw [if_pos e2, if_pos (by omega)]
          · rw [if_neg e2, if_neg (by omega)]
      · obtain ⟨s1, hR1⟩ := hJ
        refine g_iload (pc := 268) dX3_isSolved_268 rfl ?_
        refine g_bipush (v := nI 8) (pc := 270) dX3_isSolved_270 rfl ?_
        refine g_icmp_geN (tgt := 321) (pc := 272) dX3_isSolved_272 (by decide) (by omega) (by omega) (fun c272 => ?_) (fun c272 => ?_)
        rotate_left
        · omega
        refine g_iincN (pc := 321) dX3_isSolved_321 (Nat.le_of_ble_eq_true rfl) rfl rfl ?_
        refine g_goto (tgt := 242) (pc := 324) dX3_isSolved_324 (by decide) ?_
        refine g_fg 7 (g_fg 8 ?_)
        refine kn _ ⟨s1, hR1.ext (fun r y hr hy => ?_)⟩
        unfold G2
        by_cases e : r = j
        · subst e
          rw [if_pos ⟨rfl, hy⟩, if_pos ⟨by omega, ejk⟩]
        · rw [if_neg (fun z => e z.1)]
          by_cases z : r < j ∧ r ≠ k
          · rw [if_pos z, if_pos ⟨by omega, z.2⟩]
          · rw [if_neg z, if_neg (fun w => z ⟨by omega, w.2⟩)]
  · obtain ⟨s1, hR1⟩ := hJ
    have hc1 : J 114 24 = nI c := by rw [s1 114 (by decide)]; exact hc
    refine g_iload (pc := 242) dX3_isSolved_242 rfl ?_
    refine g_aload_n (pc := 244) dX3_isSolved_244 rfl rfl ?_
    refine g_getIV (pc := 245) dX3_isSolved_245 fl_X3_135 s_114 (by decide) rfl hc1 ?_
    refine g_icmp_geN (tgt := 327) (pc := 248) dX3_isSolved_248 (by decide) (by omega) (by omega) (fun c248 => ?_) (fun c248 => ?_)
    rotate_left
    · omega
    refine g_iincN (pc := 327) dX3_isSolved_327 (Nat.le_of_ble_eq_true rfl) rfl rfl ?_
    refine g_goto (tgt := 115) (pc := 330) dX3_isSolved_330 (by decide) ?_
    refine g_fg 4 (g_fg 5 (g_fg 6 ?_))
    exact kx J s1 hR1
theorem l_X3_sol3a {Q : gQ} {S c m k q : Nat} (hc : I 114 24 = nI c) (hT : Tb I) (hc6 : c ≤ 6) (hm : m ≤ c) (hk : k < m) (hkq : k ≤ q) (hq : q < c) {M : mT} (hR : Rw I M) (hp0 : M q k ≠ 0) (kx : ∀ J, Sm [128] I J → Rw J (G2 (G1 M k q (fv (M q k))) k c) → gGo G YX3_isSolved (d + 1) 115 [some (.ref 114), some (.int (nI S)), some (.int (nI m)), some (.int (nI (k + 1))), none, none, none, none, none] [] (hp n J L D) 0 0 Q) : gGo G YX3_isSolved (d + 1) 144 [some (.ref 114), some (.int (nI S)), some (.int (nI m)), some (.int (nI k)), some (.int (nI q)), none, none, none, none] [] (hp n I L D) 0 0 Q := by
  have hqk := hR q k (by omega) (by omega)
  have hlt := (M q k).isLt
  refine g_aload_n (pc := 144) dX3_isSolved_144 rfl rfl ?_
  refine g_getR (pc := 145) dX3_isSolved_145 fl_X3_36 s_114 (by decide) rfl t_114_13 ?_
  refine g_aload_n (pc := 148) dX3_isSolved_148 rfl rfl ?_
  refine g_getR (pc := 149) dX3_isSolved_149 fl_X3_54 s_114 (by decide) rfl t_114_21 ?_
  refine g_bipush (v := nI 8) (pc := 152) dX3_isSolved_152 rfl ?_
  refine g_iload (pc := 154) dX3_isSolved_154 rfl ?_
  refine g_imulN (pc := 156) dX3_isSolved_156 ?_
  refine g_iload_n (pc := 157) dX3_isSolved_157 rfl rfl ?_
  refine g_iaddN (pc := 158) dX3_isSolved_158 ?_
  refine g_ialoadN (pc := 159) dX3_isSolved_159 s_128 (by decide) (by omega) (by decide) (show _ = nI (M q k).val from hqk) ?_
  refine g_ialoadN (pc := 160) dX3_isSolved_160 s_122 (by decide) (by omega) (by decide) (hT.2.2 _ hp0) ?_
  refine g_istore (pc := 161) dX3_isSolved_161 (Nat.le_of_ble_eq_true rfl) rfl ?_
  refine g_iconst (v := nI 0) (pc := 163) dX3_isSolved_163 rfl ?_
  refine g_istore (pc := 164) dX3_isSolved_164 (Nat.le_of_ble_eq_true rfl) rfl ?_
  refine g_loop 8 (fun x J => Sm [128] I J ∧ Rw J (fun j y => if y < x then G1 M k q (fv (M q k)) j y else M j y)) (fun x _ => [some (.ref 114), some (.int (nI S)), some (.int (nI m)), some (.int (nI k)), some (.int (nI q)), some (.int (fI (fv (M q k)))), some (.int (nI x)), none, none]) (fun J => hp n J L D) (fun x J hx hJ kb => ?_) (fun J hJ => ?_) 0 I (Nat.zero_le _) ⟨Sm.rfl, hR.ext (fun r y _ _ => by rw [if_neg (Nat.not_lt_zero y)])⟩
  · obtain ⟨s1, hR1⟩ := hJ
    have hTJ : Tb J := hT.s s1 (by decide) (by decide) (by decide)
    have h1 : J 128 (8 * q + x) = fI (M q x) := (hR1 q x (by omega) (by omega)).trans (congrArg fI (if_neg (Nat.lt_irrefl x)))
    have h2 : J 128 (8 * k + x) = fI (M k x) := (hR1 k x (by omega) (by omega)).trans (congrArg fI (if_neg (Nat.lt_irrefl x)))
    refine g_iload (pc := 166) dX3_isSolved_166 rfl ?_
    refine g_bipush (v := nI 8) (pc := 168) dX3_isSolved_168 rfl ?_
    refine g_icmp_geN (tgt := 239) (pc := 170) dX3_isSolved_170 (by decide) (by omega) (by omega) (fun c170 => ?_) (fun c170 => ?_)
    · omega
    refine g_aload_n (pc := 173) dX3_isSolved_173 rfl rfl ?_
    refine g_aload_n (pc := 174) dX3_isSolved_174 rfl rfl ?_
    refine g_getR (pc := 175) dX3_isSolved_175 fl_X3_54 s_114 (by decide) rfl t_114_21 ?_
    refine g_bipush (v := nI 8) (pc := 178) dX3_isSolved_178 rfl ?_
    refine g_iload (pc := 180) dX3_isSolved_180 rfl ?_
    refine g_imulN (pc := 182) dX3_isSolved_182 ?_
    refine g_iload (pc := 183) dX3_isSolved_183 rfl ?_
    refine g_iaddN (pc := 185) dX3_isSolved_185 ?_
    refine g_ialoadN (pc := 186) dX3_isSolved_186 s_128 (by decide) (by omega) (by decide) h1 ?_
    refine g_iload (pc := 187) dX3_isSolved_187 rfl ?_
    refine g_fV (av := [.int _, .int _]) (pc := 189) dX3_isSolved_189 mt_X3_times lk_X3_172 im_X3_times se_X3_times np_X3_times s_114 (by decide) (by decide) rfl (gc_i (gc_i gc_0)) (Nat.le_of_ble_eq_true rfl) (Nat.le_of_ble_eq_true rfl) ⟨Nat.zero_le _, Nat.zero_le _⟩ (m_X3_times hTJ) ?_
    refine g_istore (pc := 192) dX3_isSolved_192 (Nat.le_of_ble_eq_true rfl) rfl ?_
    refine g_aload_n (pc := 194) dX3_isSolved_194 rfl rfl ?_
    refine g_getR (pc := 195) dX3_isSolved_195 fl_X3_54 s_114 (by decide) rfl t_114_21 ?_
    refine g_bipush (v := nI 8) (pc := 198) dX3_isSolved_198 rfl ?_
    refine g_iload (pc := 200) dX3_isSolved_200 rfl ?_
    refine g_imulN (pc := 202) dX3_isSolved_202 ?_
    refine g_iload (pc := 203) dX3_isSolved_203 rfl ?_
    refine g_iaddN (pc := 205) dX3_isSolved_205 ?_
    refine g_aload_n (pc := 206) dX3_isSolved_206 rfl rfl ?_
    refine g_getR (pc := 207) dX3_isSolved_207 fl_X3_54 s_114 (by decide) rfl t_114_21 ?_
    refine g_bipush (v := nI 8) (pc := 210) dX3_isSolved_210 rfl ?_
    refine g_iload_n (pc := 212) dX3_isSolved_212 rfl rfl ?_
    refine g_imulN (pc := 213) dX3_isSolved_213 ?_
    refine g_iload (pc := 214) dX3_isSolved_214 rfl ?_
    refine g_iaddN (pc := 216) dX3_isSolved_216 ?_
    refine g_ialoadN (pc := 217) dX3_isSolved_217 s_128 (by decide) (by omega) (by decide) h2 ?_
    refine g_iastoreN (pc := 218) dX3_isSolved_218 s_128 (by decide) (by omega) (by decide) ?_
    refine g_aload_n (pc := 219) dX3_isSolved_219 rfl rfl ?_
    refine g_getR (pc := 220) dX3_isSolved_220 fl_X3_54 s_114 (by decide) rfl t_114_21 ?_
    refine g_bipush (v := nI 8) (pc := 223) dX3_isSolved_223 rfl ?_
    refine g_iload_n (pc := 225) dX3_isSolved_225 rfl rfl ?_
    refine g_imulN (pc := 226) dX3_isSolved_226 ?_
    refine g_iload (pc := 227) dX3_isSolved_227 rfl ?_
    refine g_iaddN (pc := 229) dX3_isSolved_229 ?_
    refine g_iload (pc := 230) dX3_isSolved_230 rfl ?_
    refine g_iastoreN (pc := 232) dX3_isSolved_232 s_128 (by decide) (by omega) (by decide) ?_
    refine g_iincN (pc := 233) dX3_isSolved_233 (Nat.le_of_ble_eq_true rfl) rfl rfl ?_
    refine g_goto (tgt := 166) (pc := 236) dX3_isSolved_236 (by decide) ?_
    refine g_fg 7 ?_
    refine kb _ ⟨Sm.up (by decide) (Sm.up (by decide) s1), ((hR1.up hx).up hx).ext (fun r y hr hy => ?_)⟩
    show (if r = k ∧ y = x then _ else if r = q ∧ y = x then _ else if y < x then _ else _) = _
    by_cases e0 : y = x
    · subst e0
      rw [if_pos (Nat.lt_succ_self y), if_neg (Nat.lt_irrefl y)]
      unfold G1
      by_cases e1 : r = k
      · rw [if_pos ⟨e1, rfl⟩, if_pos e1]
      · rw [if_neg (fun z => e1 z.1), if_neg e1]
        by_cases e2 : r = q
        · rw [if_pos ⟨e2, rfl⟩, if_pos e2]
        · rw [if_neg (fun z => e2 z.1), if_neg e2]
    · rw [if_neg (fun z => e0 z.2), if_neg (fun z => e0 z.2)]
      by_cases e1 : y < x
      · rw [if_pos e1, if_pos (by omega)]
      · rw [if_neg e1, if_neg (by omega)]
  · obtain ⟨s1, hR1⟩ := hJ
    refine g_iload (pc := 166) dX3_isSolved_166 rfl ?_
    refine g_bipush (v := nI 8) (pc := 168) dX3_isSolved_168 rfl ?_
    refine g_icmp_geN (tgt := 239) (pc := 170) dX3_isSolved_170 (by decide) (by omega) (by omega) (fun c170 => ?_) (fun c170 => ?_)
    rotate_left
    · omega
    refine l_X3_sol3b (M1 := G1 M k q (fv (M q k))) (by rw [s1 114 (by decide)]; exact hc) (hT.s s1 (by decide) (by decide) (by decide)) hc6 hm hk hq (hR1.ext (fun r y _ hy => by rw [if_pos hy])) (fun K s2 hK => kx K (Sm.trans s1 s2) hK)
theorem l_X3_sol3 {Q : gQ} {S c m : Nat} {s : Nat → F6} (hc : I 114 24 = nI c) (hT : Tb I) (hc6 : c ≤ 6) (hm : m ≤ c) (hm2 : m = nS S 14) {M0 : mT} (hR : Rw I M0) (hM0 : M0of M0 S m c s) (kx : ∀ J M, Sm [128] I J → Rw J M → (∀ w, Eqs M c w ↔ Eqs M0 c w) → Uc M c m → gGo G YX3_isSolved (d + 1) 333 [some (.ref 114), some (.int (nI S)), some (.int (nI m)), some (.int (nI m)), none, none, none, none, none] [] (hp n J L D) 0 0 Q) : gGo G YX3_isSolved (d + 1) 113 [some (.ref 114), some (.int (nI S)), some (.int (nI m)), some (.int (nI c)), none, none, none, none, none] [] (hp n I L D) 0 0 Q := by
  have hInd : Ind M0 m c := by subst hm2; exact Ind_van hM0 hm hc6
  refine g_iconst (v := nI 0) (pc := 113) dX3_isSolved_113 rfl ?_
  refine g_istore_n (pc := 114) dX3_isSolved_114 rfl (Nat.le_of_ble_eq_true rfl) rfl ?_
  refine g_loop m (fun k J => Sm [128] I J ∧ ∃ M, Rw J M ∧ (∀ w, Eqs M c w ↔ Eqs M0 c w) ∧ Uc M c k) (fun k _ => [some (.ref 114), some (.int (nI S)), some (.int (nI m)), some (.int (nI k)), none, none, none, none, none]) (fun J => hp n J L D) (fun k J hk hJ kn => ?_) (fun J hJ => ?_) 0 I (Nat.zero_le _) ⟨Sm.rfl, M0, hR, fun w => Iff.rfl, fun a ha => absurd ha (Nat.not_lt_zero a)⟩
  · obtain ⟨s1, M, hR1, hE, hU⟩ := hJ
    obtain ⟨p, hp1, hp2, hp3⟩ := pivot hE hInd hU hk hm hc6
    have hTJ : Tb J := hT.s s1 (by decide) (by decide) (by decide)
    have hc1 : J 114 24 = nI c := by rw [s1 114 (by decide)]; exact hc
    have K144 : ∀ q, k ≤ q → q < c → M q k ≠ 0 → gGo G YX3_isSolved (d + 1) 144 [some (.ref 114), some (.int (nI S)), some (.int (nI m)), some (.int (nI k)), some (.int (nI q)), none, none, none, none] [] (hp n J L D) 0 0 Q := fun q h1 h2 h3 =>
      l_X3_sol3a hc1 hTJ hc6 hm hk h1 h2 hR1 h3 (fun K s2 hK => kn K ⟨Sm.trans s1 s2, _, hK, fun w => ((G2_eq (by omega)).trans (G1_eq (by omega) h2 (fv_nz _ h3))).trans (hE w), Uc_step hU (by omega) h1 h2 h3⟩)
    refine g_iload_n (pc := 115) dX3_isSolved_115 rfl rfl ?_
    refine g_iload_n (pc := 116) dX3_isSolved_116 rfl rfl ?_
    refine g_icmp_geN (tgt := 333) (pc := 117) dX3_isSolved_117 (by decide) (by omega) (by omega) (fun c117 => ?_) (fun c117 => ?_)
    · omega
    refine g_iload_n (pc := 120) dX3_isSolved_120 rfl rfl ?_
    refine g_istore (pc := 121) dX3_isSolved_121 (Nat.le_of_ble_eq_true rfl) rfl ?_
    refine g_loop (p - k) (fun t (_ : Unit) => True) (fun t _ => [some (.ref 114), some (.int (nI S)), some (.int (nI m)), some (.int (nI k)), some (.int (nI (k + t))), none, none, none, none]) (fun _ => hp n J L D) (fun t _ ht _ kt => ?_) (fun _ _ => ?_) 0 () (Nat.zero_le _) trivial
    · have hv := hR1 (k + t) k (by omega) (by omega)
      have hlt := (M (k + t) k).isLt
      refine g_aload_n (pc := 123) dX3_isSolved_123 rfl rfl ?_
      refine g_getR (pc := 124) dX3_isSolved_124 fl_X3_54 s_114 (by decide) rfl t_114_21 ?_
      refine g_bipush (v := nI 8) (pc := 127) dX3_isSolved_127 rfl ?_
      refine g_iload (pc := 129) dX3_isSolved_129 rfl ?_
      refine g_imulN (pc := 131) dX3_isSolved_131 ?_
      refine g_iload_n (pc := 132) dX3_isSolved_132 rfl rfl ?_
      refine g_iaddN (pc := 133) dX3_isSolved_133 ?_
      refine g_ialoadN (pc := 134) dX3_isSolved_134 s_128 (by decide) (by omega) (by decide) (show _ = nI (M (k + t) k).val from hv) ?_
      refine g_if_neN (tgt := 144) (pc := 135) dX3_isSolved_135 (by decide) (by omega) (fun c135 => ?_) (fun c135 => ?_)
      · exact K144 (k + t) (by omega) (by omega) (fun e => c135 (by rw [e]; rfl))
      · refine g_iincN (pc := 138) dX3_isSolved_138 (Nat.le_of_ble_eq_true rfl) rfl rfl ?_
        refine g_goto (tgt := 123) (pc := 141) dX3_isSolved_141 (by decide) ?_
        exact kt () trivial
    · have hv := hR1 (k + (p - k)) k (by omega) (by omega)
      have hlt := (M (k + (p - k)) k).isLt
      have hne : M (k + (p - k)) k ≠ 0 := by rw [show k + (p - k) = p by omega]; exact hp3
      refine g_aload_n (pc := 123) dX3_isSolved_123 rfl rfl ?_
      refine g_getR (pc := 124) dX3_isSolved_124 fl_X3_54 s_114 (by decide) rfl t_114_21 ?_
      refine g_bipush (v := nI 8) (pc := 127) dX3_isSolved_127 rfl ?_
      refine g_iload (pc := 129) dX3_isSolved_129 rfl ?_
      refine g_imulN (pc := 131) dX3_isSolved_131 ?_
      refine g_iload_n (pc := 132) dX3_isSolved_132 rfl rfl ?_
      refine g_iaddN (pc := 133) dX3_isSolved_133 ?_
      refine g_ialoadN (pc := 134) dX3_isSolved_134 s_128 (by decide) (by omega) (by decide) (show _ = nI (M (k + (p - k)) k).val from hv) ?_
      refine g_if_neN (tgt := 144) (pc := 135) dX3_isSolved_135 (by decide) (by omega) (fun c135 => ?_) (fun c135 => ?_)
      · exact K144 (k + (p - k)) (by omega) (by omega) hne
      · exact absurd (Fin.ext c135) hne
  · obtain ⟨s1, M, hR1, hE, hU⟩ := hJ
    refine g_iload_n (pc := 115) dX3_isSolved_115 rfl rfl ?_
    refine g_iload_n (pc := 116) dX3_isSolved_116 rfl rfl ?_
    refine g_icmp_geN (tgt := 333) (pc := 117) dX3_isSolved_117 (by decide) (by omega) (by omega) (fun c117 => ?_) (fun c117 => ?_)
    rotate_left
    · omega
    exact kx J M s1 hR1 hE hU
end

