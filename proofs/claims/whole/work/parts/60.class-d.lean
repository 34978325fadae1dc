/-! ===== the class: questions that decode ===== -/
def Qs (I J : Nat → Nat → Int32) : Prop := Sm [29, 30, 31, 32, 33, 34, 35, 36, 37, 41] I J
theorem Qs.r {I : Nat → Nat → Int32} : Qs I I := Sm.rfl
theorem Qs.t {I J K : Nat → Nat → Int32} (h : Qs I J) (k : Qs J K) : Qs I K := Sm.trans h k
theorem Qs.s {I J : Nat → Nat → Int32} {V : Nat → Nat} {C : Nat → Int32} (h : Qs I J) (hS : Snap I 4 V C) : Snap J 4 V C := hS.s (fun i hi => h _ (by intro q; simp at q; omega))
theorem Qs.k {I J : Nat → Nat → Int32} (h : Qs I J) (hK : Kt I) : Kt J := hK.s h (by decide) (by decide)
theorem dQ.q {V : Nat → Nat} {f b : Nat} {I J : Nat → Nat → Int32} {v : Int32} (h : dQ V f b I v J) : Qs I J := h.2.2.2.2.2.mono (by decide)
section
variable {G : gG} {d n : Nat} {I : Nat → Nat → Int32} {L : Nat → Nat → Int64} {D : Nat → Nat → UInt64} {V : Nat → Nat}
variable {C : Nat → Int32}
theorem m_X0_dmg {f b : Nat} {v : Int32} {J : Nat → Nat → Int32} (h : dQ V f b J v I) (hsz : sz V f ≤ 14) : gFn G YX0_damageCount (d + 1) [.ref 29] (hp n I L D) (.inl (some (.int (nI (dmN V f b))))) (hp n I L D) 0 0 := by
  obtain ⟨-, k1, k2, k3, k4, k5⟩ := h
  by_cases hd : isD V f b = true
  · have hl : dcE V f b ||| erN V f b < 16384 := Nat.lt_of_lt_of_le (meS_lt hd) (p14 hsz)
    rw [show dmN V f b = nS (dcE V f b ||| erN V f b) 14 by unfold dmN; rw [if_pos hd]; exact (meS_n hd).symm]
    exact m_X0_damageCount_t (k3 hd).2.1 (k3 hd).1 k2 hl
  · rw [show dmN V f b = 0 by unfold dmN; rw [if_neg hd]]
    exact m_X0_damageCount_f (k4 hd)
theorem m_X2_sum_1 (hS : Snap I 4 V C) (hW : WF V) {f b q : Int32} (hb : ¬ ∃ j k i, j < 8 ∧ V (10 * j) = 1 ∧ k < bl V j ∧ i < V (10 * j + 2) ∧ f = nI j ∧ b = nI k ∧ q = nI i) : gX G YX2_sum (d + 9) [.ref 3, .int f, .int b, .int q] n I L D (.inr "java/lang/IndexOutOfBoundsException") (fun J => J = I) := by
  by_cases hq : ∃ j k, j < 8 ∧ V (10 * j) = 1 ∧ k < bl V j ∧ f = nI j ∧ b = nI k
  · obtain ⟨j, k, hj, h1, hk, rfl, rfl⟩ := hq
    have hc6 := (hW.1 j hj).2.2.1
    refine g_aload_n (pc := 0) dX2_sum_0 rfl rfl ?_
    refine g_getR (pc := 1) dX2_sum_1 fl_X2_12 s_3 (by decide) rfl t_3_0 ?_
    refine g_iload_n (pc := 4) dX2_sum_4 rfl rfl ?_
    refine g_iload_n (pc := 5) dX2_sum_5 rfl rfl ?_
    refine g_fV (av := [.int _, .int _]) (pc := 6) dX2_sum_6 mt_X1_hasBlock lk_X2_202 im_X1_hasBlock se_X1_hasBlock np_X1_hasBlock s_4 (by decide) (by decide) rfl (gc_i (gc_i gc_0)) (Nat.le_of_ble_eq_true rfl) (Nat.le_of_ble_eq_true rfl) ⟨Nat.zero_le _, Nat.zero_le _⟩ (m_X1_hasBlock_t hS hW hj h1 hk) ?_
    refine g_if_eqN (tgt := 29) (pc := 9) dX2_sum_9 (by decide) (by omega) (fun c9 => ?_) (fun c9 => ?_)
    · exact absurd c9 (by decide)
    · refine g_iload_n (pc := 12) dX2_sum_12 rfl rfl ?_
      refine g_if_lt (tgt := 29) (pc := 13) dX2_sum_13 (by decide) (fun c13 => ?_) (fun c13 => ?_)
      · refine g_throw (pc := 29) th_X2_sum_29 (Nat.le_of_ble_eq_true rfl) (Nat.le_of_ble_eq_true rfl) ?_
        exact ⟨_, ⟨rfl, rfl⟩, rfl⟩
      · obtain ⟨i, hi31, rfl⟩ := nI_of c13
        refine g_iload_n (pc := 16) dX2_sum_16 rfl rfl ?_
        refine g_aload_n (pc := 17) dX2_sum_17 rfl rfl ?_
        refine g_getR (pc := 18) dX2_sum_18 fl_X2_12 s_3 (by decide) rfl t_3_0 ?_
        refine g_getR (pc := 21) dX2_sum_21 fl_X2_132 s_4 (by decide) rfl t_4_6 ?_
        refine g_iload_n (pc := 24) dX2_sum_24 rfl rfl ?_
        refine g_ialoadN (pc := 25) dX2_sum_25 s_11 (by decide) (by omega) (by decide) (hS.2.2.1 j hj).2.2.1 ?_
        refine g_icmp_lt (tgt := 39) (pc := 26) dX2_sum_26 (by decide) (fun c26 => ?_) (fun c26 => ?_)
        · exact absurd ⟨j, k, i, hj, h1, hk, (nI_ltI hi31 (by omega)).mp c26, rfl, rfl, rfl⟩ hb
        · refine g_throw (pc := 29) th_X2_sum_29 (Nat.le_of_ble_eq_true rfl) (Nat.le_of_ble_eq_true rfl) ?_
          exact ⟨_, ⟨rfl, rfl⟩, rfl⟩
  · skip
    refine g_aload_n (pc := 0) dX2_sum_0 rfl rfl ?_
    refine g_getR (pc := 1) dX2_sum_1 fl_X2_12 s_3 (by decide) rfl t_3_0 ?_
    refine g_iload_n (pc := 4) dX2_sum_4 rfl rfl ?_
    refine g_iload_n (pc := 5) dX2_sum_5 rfl rfl ?_
    refine g_fV (av := [.int _, .int _]) (pc := 6) dX2_sum_6 mt_X1_hasBlock lk_X2_202 im_X1_hasBlock se_X1_hasBlock np_X1_hasBlock s_4 (by decide) (by decide) rfl (gc_i (gc_i gc_0)) (Nat.le_of_ble_eq_true rfl) (Nat.le_of_ble_eq_true rfl) ⟨Nat.zero_le _, Nat.zero_le _⟩ (m_X1_hasBlock_f hS hW hq) ?_
    refine g_if_eqN (tgt := 29) (pc := 9) dX2_sum_9 (by decide) (by omega) (fun c9 => ?_) (fun c9 => ?_)
    · refine g_throw (pc := 29) th_X2_sum_29 (Nat.le_of_ble_eq_true rfl) (Nat.le_of_ble_eq_true rfl) ?_
      exact ⟨_, ⟨rfl, rfl⟩, rfl⟩
    · exact absurd c9 (by decide)
theorem m_X2_sum_0 (hK : Kt I) (hS : Snap I 4 V C) (hW : WF V) {j b : Nat} (hj : j < 8) (h1 : V (10 * j) = 1) (hb : b < bl V j) {q : Nat} (hq : q < V (10 * j + 2)) : gX G YX2_sum (d + 9) [.ref 3, .int (nI j), .int (nI b), .int (nI q)] n I L D (.inl (some (.int (fI (smF (gF V j b) (sz V j) q))))) (fun J => Qs I J) := by
  have hc6 := (hW.1 j hj).2.2.1
  refine g_aload_n (pc := 0) dX2_sum_0 rfl rfl ?_
  refine g_getR (pc := 1) dX2_sum_1 fl_X2_12 s_3 (by decide) rfl t_3_0 ?_
  refine g_iload_n (pc := 4) dX2_sum_4 rfl rfl ?_
  refine g_iload_n (pc := 5) dX2_sum_5 rfl rfl ?_
  refine g_fV (av := [.int _, .int _]) (pc := 6) dX2_sum_6 mt_X1_hasBlock lk_X2_202 im_X1_hasBlock se_X1_hasBlock np_X1_hasBlock s_4 (by decide) (by decide) rfl (gc_i (gc_i gc_0)) (Nat.le_of_ble_eq_true rfl) (Nat.le_of_ble_eq_true rfl) ⟨Nat.zero_le _, Nat.zero_le _⟩ (m_X1_hasBlock_t hS hW hj h1 hb) ?_
  refine g_if_eqN (tgt := 29) (pc := 9) dX2_sum_9 (by decide) (by omega) (fun c9 => ?_) (fun c9 => ?_)
  · exact absurd c9 (by decide)
  · refine g_iload_n (pc := 12) dX2_sum_12 rfl rfl ?_
    refine g_if_ltN (tgt := 29) (pc := 13) dX2_sum_13 (by decide) (by omega) (fun c13 => ?_) (fun c13 => ?_)
    · omega
    · refine g_iload_n (pc := 16) dX2_sum_16 rfl rfl ?_
      refine g_aload_n (pc := 17) dX2_sum_17 rfl rfl ?_
      refine g_getR (pc := 18) dX2_sum_18 fl_X2_12 s_3 (by decide) rfl t_3_0 ?_
      refine g_getR (pc := 21) dX2_sum_21 fl_X2_132 s_4 (by decide) rfl t_4_6 ?_
      refine g_iload_n (pc := 24) dX2_sum_24 rfl rfl ?_
      refine g_ialoadN (pc := 25) dX2_sum_25 s_11 (by decide) (by omega) (by decide) (hS.2.2.1 j hj).2.2.1 ?_
      refine g_icmp_ltN (tgt := 39) (pc := 26) dX2_sum_26 (by decide) (by omega) (by omega) (fun c26 => ?_) (fun c26 => ?_)
      rotate_left
      · omega
      refine g_aload_n (pc := 39) dX2_sum_39 rfl rfl ?_
      refine g_getR (pc := 40) dX2_sum_40 fl_X2_26 s_3 (by decide) rfl t_3_3 ?_
      refine g_aload_n (pc := 43) dX2_sum_43 rfl rfl ?_
      refine g_getR (pc := 44) dX2_sum_44 fl_X2_12 s_3 (by decide) rfl t_3_0 ?_
      refine g_iload_n (pc := 47) dX2_sum_47 rfl rfl ?_
      refine g_iload_n (pc := 48) dX2_sum_48 rfl rfl ?_
      refine g_rvV (av := [.ref 4, .int _, .int _]) (pc := 49) dX2_sum_49 mt_X0_load lk_X2_208 im_X0_load se_X0_load np_X0_load s_29 (by decide) (by decide) rfl (gc_r (gc_i (gc_i gc_0))) (Nat.le_of_ble_eq_true rfl) (Nat.le_of_ble_eq_true rfl) (m_X0_load hK hS hW hj h1 hb) ?_
      rintro I1 ⟨q1, q2, q3, q4, q5, q6, q7, q8⟩
      refine g_aload_n (pc := 52) dX2_sum_52 rfl rfl ?_
      refine g_getR (pc := 53) dX2_sum_53 fl_X2_26 s_3 (by decide) rfl t_3_3 ?_
      refine g_getR (pc := 56) dX2_sum_56 fl_X2_212 s_29 (by decide) rfl t_29_2 ?_
      refine g_iload_n (pc := 59) dX2_sum_59 rfl rfl ?_
      refine g_ialoadN (pc := 60) dX2_sum_60 s_32 (by decide) (by omega) (by decide) (q7 q (by omega)) ?_
      refine g_iret (pc := 61) dX2_sum_61 rfl rfl ?_
      exact ⟨_, ⟨rfl, rfl⟩, q8.mono (by decide)⟩
theorem m_X2_decoded_1 (hS : Snap I 4 V C) (hW : WF V) {f b q : Int32} (hb : ¬ ∃ j k, j < 8 ∧ V (10 * j) = 1 ∧ k < bl V j ∧ f = nI j ∧ b = nI k) : gX G YX2_decoded (d + 9) [.ref 3, .int f, .int b, .int q] n I L D (.inr "java/lang/IndexOutOfBoundsException") (fun J => J = I) := by
  refine g_aload_n (pc := 0) dX2_decoded_0 rfl rfl ?_
  refine g_getR (pc := 1) dX2_decoded_1 fl_X2_12 s_3 (by decide) rfl t_3_0 ?_
  refine g_iload_n (pc := 4) dX2_decoded_4 rfl rfl ?_
  refine g_iload_n (pc := 5) dX2_decoded_5 rfl rfl ?_
  refine g_fV (av := [.int _, .int _]) (pc := 6) dX2_decoded_6 mt_X1_hasBlock lk_X2_202 im_X1_hasBlock se_X1_hasBlock np_X1_hasBlock s_4 (by decide) (by decide) rfl (gc_i (gc_i gc_0)) (Nat.le_of_ble_eq_true rfl) (Nat.le_of_ble_eq_true rfl) ⟨Nat.zero_le _, Nat.zero_le _⟩ (m_X1_hasBlock_f hS hW hb) ?_
  refine g_if_neN (tgt := 22) (pc := 9) dX2_decoded_9 (by decide) (by omega) (fun c9 => ?_) (fun c9 => ?_)
  · exact absurd c9 (by decide)
  · refine g_throw (pc := 12) th_X2_decoded_12 (Nat.le_of_ble_eq_true rfl) (Nat.le_of_ble_eq_true rfl) ?_
    exact ⟨_, ⟨rfl, rfl⟩, rfl⟩
theorem m_X2_decoded_2 (hS : Snap I 4 V C) (hW : WF V) {j b : Nat} (hj : j < 8) (h1 : V (10 * j) = 1) (hb : b < bl V j) {q : Int32} (hq : ¬ (nI 0 ≤ q ∧ q ≤ nI 2)) : gX G YX2_decoded (d + 9) [.ref 3, .int (nI j), .int (nI b), .int q] n I L D (.inr "java/lang/IllegalArgumentException") (fun J => J = I) := by
  rw [Int32.le_iff_toInt_le, Int32.le_iff_toInt_le] at hq
  have e0 : (nI 0).toInt = 0 := rfl
  have e00 : (0 : Int32).toInt = 0 := rfl
  have e2 : (nI 2).toInt = 2 := rfl
  refine g_aload_n (pc := 0) dX2_decoded_0 rfl rfl ?_
  refine g_getR (pc := 1) dX2_decoded_1 fl_X2_12 s_3 (by decide) rfl t_3_0 ?_
  refine g_iload_n (pc := 4) dX2_decoded_4 rfl rfl ?_
  refine g_iload_n (pc := 5) dX2_decoded_5 rfl rfl ?_
  refine g_fV (av := [.int _, .int _]) (pc := 6) dX2_decoded_6 mt_X1_hasBlock lk_X2_202 im_X1_hasBlock se_X1_hasBlock np_X1_hasBlock s_4 (by decide) (by decide) rfl (gc_i (gc_i gc_0)) (Nat.le_of_ble_eq_true rfl) (Nat.le_of_ble_eq_true rfl) ⟨Nat.zero_le _, Nat.zero_le _⟩ (m_X1_hasBlock_t hS hW hj h1 hb) ?_
  refine g_if_neN (tgt := 22) (pc := 9) dX2_decoded_9 (by decide) (by omega) (fun c9 => ?_) (fun c9 => ?_)
  · refine g_iload_n (pc := 22) dX2_decoded_22 rfl rfl ?_
    refine g_if_lt (tgt := 31) (pc := 23) dX2_decoded_23 (by decide) (fun c23 => ?_) (fun c23 => ?_)
    · refine g_throw (pc := 31) th_X2_decoded_31 (Nat.le_of_ble_eq_true rfl) (Nat.le_of_ble_eq_true rfl) ?_
      exact ⟨_, ⟨rfl, rfl⟩, rfl⟩
    · refine g_iload_n (pc := 26) dX2_decoded_26 rfl rfl ?_
      refine g_iconst (v := nI 2) (pc := 27) dX2_decoded_27 rfl ?_
      refine g_icmp_le (tgt := 41) (pc := 28) dX2_decoded_28 (by decide) (fun c28 => ?_) (fun c28 => ?_)
      · rw [Int32.lt_iff_toInt_lt] at c23
        rw [Int32.le_iff_toInt_le] at c28
        exact absurd hq (by omega)
      · refine g_throw (pc := 31) th_X2_decoded_31 (Nat.le_of_ble_eq_true rfl) (Nat.le_of_ble_eq_true rfl) ?_
        exact ⟨_, ⟨rfl, rfl⟩, rfl⟩
  · exact absurd c9 (by decide)
theorem m_X2_decoded_3 (hK : Kt I) (hS : Snap I 4 V C) (hW : WF V) {j b : Nat} (hj : j < 8) (h1 : V (10 * j) = 1) (hb : b < bl V j) {q : Nat} (hq : q ≤ 2) (hq0 : ¬ q = 0) (hd : ¬ isD V j b = true) : gX G YX2_decoded (d + 9) [.ref 3, .int (nI j), .int (nI b), .int (nI q)] n I L D (.inr "java/util/NoSuchElementException") (fun J => Qs I J) := by
  refine g_aload_n (pc := 0) dX2_decoded_0 rfl rfl ?_
  refine g_getR (pc := 1) dX2_decoded_1 fl_X2_12 s_3 (by decide) rfl t_3_0 ?_
  refine g_iload_n (pc := 4) dX2_decoded_4 rfl rfl ?_
  refine g_iload_n (pc := 5) dX2_decoded_5 rfl rfl ?_
  refine g_fV (av := [.int _, .int _]) (pc := 6) dX2_decoded_6 mt_X1_hasBlock lk_X2_202 im_X1_hasBlock se_X1_hasBlock np_X1_hasBlock s_4 (by decide) (by decide) rfl (gc_i (gc_i gc_0)) (Nat.le_of_ble_eq_true rfl) (Nat.le_of_ble_eq_true rfl) ⟨Nat.zero_le _, Nat.zero_le _⟩ (m_X1_hasBlock_t hS hW hj h1 hb) ?_
  refine g_if_neN (tgt := 22) (pc := 9) dX2_decoded_9 (by decide) (by omega) (fun c9 => ?_) (fun c9 => ?_)
  · refine g_iload_n (pc := 22) dX2_decoded_22 rfl rfl ?_
    refine g_if_ltN (tgt := 31) (pc := 23) dX2_decoded_23 (by decide) (by omega) (fun c23 => ?_) (fun c23 => ?_)
    · omega
    · refine g_iload_n (pc := 26) dX2_decoded_26 rfl rfl ?_
      refine g_iconst (v := nI 2) (pc := 27) dX2_decoded_27 rfl ?_
      refine g_icmp_leN (tgt := 41) (pc := 28) dX2_decoded_28 (by decide) (by omega) (by omega) (fun c28 => ?_) (fun c28 => ?_)
      rotate_left
      · omega
      refine g_aload_n (pc := 41) dX2_decoded_41 rfl rfl ?_
      refine g_getR (pc := 42) dX2_decoded_42 fl_X2_26 s_3 (by decide) rfl t_3_3 ?_
      refine g_aload_n (pc := 45) dX2_decoded_45 rfl rfl ?_
      refine g_getR (pc := 46) dX2_decoded_46 fl_X2_12 s_3 (by decide) rfl t_3_0 ?_
      refine g_iload_n (pc := 49) dX2_decoded_49 rfl rfl ?_
      refine g_iload_n (pc := 50) dX2_decoded_50 rfl rfl ?_
      refine g_riV (av := [.ref 4, .int _, .int _]) (pc := 51) dX2_decoded_51 mt_X0_decode lk_X2_219 im_X0_decode se_X0_decode np_X0_decode s_29 (by decide) (by decide) rfl (gc_r (gc_i (gc_i gc_0))) (Nat.le_of_ble_eq_true rfl) (Nat.le_of_ble_eq_true rfl) (m_X0_decode hK hS hW hj h1 hb) ?_
      rintro _ I1 ⟨rfl, k1, k2, k3, k4, k5⟩
      refine g_istore (pc := 54) dX2_decoded_54 (Nat.le_of_ble_eq_true rfl) rfl ?_
      refine g_iload_n (pc := 56) dX2_decoded_56 rfl rfl ?_
      refine g_if_neN (tgt := 71) (pc := 57) dX2_decoded_57 (by decide) (by omega) (fun c57 => ?_) (fun c57 => ?_)
      rotate_left
      · omega
      refine g_iload (pc := 71) dX2_decoded_71 rfl ?_
      refine g_if_neB (tgt := 86) (pc := 73) dX2_decoded_73 (by decide) (fun c73 => ?_) (fun c73 => ?_)
      · exact absurd c73 hd
      refine g_throw (pc := 76) th_X2_decoded_76 (Nat.le_of_ble_eq_true rfl) (Nat.le_of_ble_eq_true rfl) ?_
      exact ⟨_, ⟨rfl, rfl⟩, k5.mono (by decide)⟩
  · exact absurd c9 (by decide)
theorem m_X2_decoded_0 (hK : Kt I) (hS : Snap I 4 V C) (hW : WF V) {j b : Nat} (hj : j < 8) (h1 : V (10 * j) = 1) (hb : b < bl V j) {q : Nat} (hq : q ≤ 2) (hd : q = 0 ∨ isD V j b = true) : gX G YX2_decoded (d + 9) [.ref 3, .int (nI j), .int (nI b), .int (nI q)] n I L D (.inl (some (.int (nI (dqV V j b q))))) (fun J => Qs I J) := by
  have hw := hW.1 j hj
  have hsz := sz_le hw
  have hbl := bl_le hw
  have hc6 := hw.2.2.1
  have hel : erN V j b < 16384 := Nat.lt_of_lt_of_le erN_lt (p14 hsz.1)
  have hde : isD V j b = true → dcE V j b < 16384 := fun h => Nat.lt_of_lt_of_le (dc_some h).1 (p14 hsz.1)
  refine g_aload_n (pc := 0) dX2_decoded_0 rfl rfl ?_
  refine g_getR (pc := 1) dX2_decoded_1 fl_X2_12 s_3 (by decide) rfl t_3_0 ?_
  refine g_iload_n (pc := 4) dX2_decoded_4 rfl rfl ?_
  refine g_iload_n (pc := 5) dX2_decoded_5 rfl rfl ?_
  refine g_fV (av := [.int _, .int _]) (pc := 6) dX2_decoded_6 mt_X1_hasBlock lk_X2_202 im_X1_hasBlock se_X1_hasBlock np_X1_hasBlock s_4 (by decide) (by decide) rfl (gc_i (gc_i gc_0)) (Nat.le_of_ble_eq_true rfl) (Nat.le_of_ble_eq_true rfl) ⟨Nat.zero_le _, Nat.zero_le _⟩ (m_X1_hasBlock_t hS hW hj h1 hb) ?_
  refine g_if_neN (tgt := 22) (pc := 9) dX2_decoded_9 (by decide) (by omega) (fun c9 => ?_) (fun c9 => ?_)
  · refine g_iload_n (pc := 22) dX2_decoded_22 rfl rfl ?_
    refine g_if_ltN (tgt := 31) (pc := 23) dX2_decoded_23 (by decide) (by omega) (fun c23 => ?_) (fun c23 => ?_)
    · omega
    · refine g_iload_n (pc := 26) dX2_decoded_26 rfl rfl ?_
      refine g_iconst (v := nI 2) (pc := 27) dX2_decoded_27 rfl ?_
      refine g_icmp_leN (tgt := 41) (pc := 28) dX2_decoded_28 (by decide) (by omega) (by omega) (fun c28 => ?_) (fun c28 => ?_)
      rotate_left
      · omega
      refine g_aload_n (pc := 41) dX2_decoded_41 rfl rfl ?_
      refine g_getR (pc := 42) dX2_decoded_42 fl_X2_26 s_3 (by decide) rfl t_3_3 ?_
      refine g_aload_n (pc := 45) dX2_decoded_45 rfl rfl ?_
      refine g_getR (pc := 46) dX2_decoded_46 fl_X2_12 s_3 (by decide) rfl t_3_0 ?_
      refine g_iload_n (pc := 49) dX2_decoded_49 rfl rfl ?_
      refine g_iload_n (pc := 50) dX2_decoded_50 rfl rfl ?_
      refine g_riV (av := [.ref 4, .int _, .int _]) (pc := 51) dX2_decoded_51 mt_X0_decode lk_X2_219 im_X0_decode se_X0_decode np_X0_decode s_29 (by decide) (by decide) rfl (gc_r (gc_i (gc_i gc_0))) (Nat.le_of_ble_eq_true rfl) (Nat.le_of_ble_eq_true rfl) (m_X0_decode hK hS hW hj h1 hb) ?_
      rintro _ I1 ⟨rfl, k1, k2, k3, k4, k5⟩
      refine g_istore (pc := 54) dX2_decoded_54 (Nat.le_of_ble_eq_true rfl) rfl ?_
      refine g_iload_n (pc := 56) dX2_decoded_56 rfl rfl ?_
      refine g_if_neN (tgt := 71) (pc := 57) dX2_decoded_57 (by decide) (by omega) (fun c57 => ?_) (fun c57 => ?_)
      · have hd2 := hd.resolve_left c57
        refine g_iload (pc := 71) dX2_decoded_71 rfl ?_
        refine g_if_neB (tgt := 86) (pc := 73) dX2_decoded_73 (by decide) (fun c73 => ?_) (fun c73 => ?_)
        · refine g_iload_n (pc := 86) dX2_decoded_86 rfl rfl ?_
          refine g_iconst (v := nI 1) (pc := 87) dX2_decoded_87 rfl ?_
          refine g_icmp_neN (tgt := 104) (pc := 88) dX2_decoded_88 (by decide) (by omega) (by omega) (fun c88 => ?_) (fun c88 => ?_)
          · refine g_aload_n (pc := 104) dX2_decoded_104 rfl rfl ?_
            refine g_getR (pc := 105) dX2_decoded_105 fl_X2_26 s_3 (by decide) rfl t_3_3 ?_
            refine g_getIV (pc := 108) dX2_decoded_108 fl_X2_233 s_29 (by decide) rfl (k3 hd2).1 ?_
            refine g_iret (pc := 111) dX2_decoded_111 rfl rfl ?_
            refine ⟨_, ⟨?_, rfl⟩, k5.mono (by decide)⟩
            unfold dqV
            rw [if_neg c57, if_pos hd2]
            first
              | (rw [if_neg c88]; done)
              | (rw [if_pos c88]; rfl)
          · refine g_aload_n (pc := 91) dX2_decoded_91 rfl rfl ?_
            refine g_getR (pc := 92) dX2_decoded_92 fl_X2_26 s_3 (by decide) rfl t_3_3 ?_
            refine g_getIV (pc := 95) dX2_decoded_95 fl_X2_233 s_29 (by decide) rfl (k3 hd2).1 ?_
            refine g_fS (av := [.int _]) (pc := 98) dX2_decoded_98 mt_J6_bitCount_0f7a4 lk_X2_226 sf_J6_bitCount_0f7a4 np_J6_bitCount_0f7a4 rfl (gc_i gc_0) (Nat.le_of_ble_eq_true rfl) (Nat.le_of_ble_eq_true rfl) ⟨Nat.zero_le _, Nat.zero_le _⟩ (m_J6_bitCount (hde hd2)) ?_
            refine g_goto (tgt := 111) (pc := 101) dX2_decoded_101 (by decide) ?_
            refine g_iret (pc := 111) dX2_decoded_111 rfl rfl ?_
            refine ⟨_, ⟨?_, rfl⟩, k5.mono (by decide)⟩
            unfold dqV
            rw [if_neg c57, if_pos hd2]
            first
              | (rw [if_neg c88]; done)
              | (rw [if_pos c88]; rfl)
        · exact absurd hd2 c73
      · refine g_aload_n (pc := 60) dX2_decoded_60 rfl rfl ?_
        refine g_getR (pc := 61) dX2_decoded_61 fl_X2_26 s_3 (by decide) rfl t_3_3 ?_
        refine g_getIV (pc := 64) dX2_decoded_64 fl_X2_223 s_29 (by decide) rfl k2 ?_
        refine g_fS (av := [.int _]) (pc := 67) dX2_decoded_67 mt_J6_bitCount_0f7a4 lk_X2_226 sf_J6_bitCount_0f7a4 np_J6_bitCount_0f7a4 rfl (gc_i gc_0) (Nat.le_of_ble_eq_true rfl) (Nat.le_of_ble_eq_true rfl) ⟨Nat.zero_le _, Nat.zero_le _⟩ (m_J6_bitCount hel) ?_
        refine g_iret (pc := 70) dX2_decoded_70 rfl rfl ?_
        exact ⟨_, ⟨by unfold dqV; rw [if_pos c57]; rfl, rfl⟩, k5.mono (by decide)⟩
  · exact absurd c9 (by decide)
theorem m_X2_found_1 (hS : Snap I 4 V C) (hW : WF V) {f b i : Int32} (hb : ¬ ∃ j k l, j < 8 ∧ V (10 * j) = 1 ∧ k < bl V j ∧ l < sz V j ∧ f = nI j ∧ b = nI k ∧ i = nI l) : gX G YX2_found (d + 9) [.ref 3, .int f, .int b, .int i] n I L D (.inr "java/lang/IndexOutOfBoundsException") (fun J => J = I) := by
  refine g_aload_n (pc := 0) dX2_found_0 rfl rfl ?_
  refine g_getR (pc := 1) dX2_found_1 fl_X2_12 s_3 (by decide) rfl t_3_0 ?_
  refine g_iload_n (pc := 4) dX2_found_4 rfl rfl ?_
  refine g_iload_n (pc := 5) dX2_found_5 rfl rfl ?_
  refine g_iload_n (pc := 6) dX2_found_6 rfl rfl ?_
  refine g_fV (av := [.int _, .int _, .int _]) (pc := 7) dX2_found_7 mt_X1_hasPosition lk_X2_152 im_X1_hasPosition se_X1_hasPosition np_X1_hasPosition s_4 (by decide) (by decide) rfl (gc_i (gc_i (gc_i gc_0))) (Nat.le_of_ble_eq_true rfl) (Nat.le_of_ble_eq_true rfl) ⟨Nat.zero_le _, Nat.zero_le _⟩ (m_X1_hasPosition_f hS hW hb) ?_
  refine g_if_neN (tgt := 23) (pc := 10) dX2_found_10 (by decide) (by omega) (fun c10 => ?_) (fun c10 => ?_)
  · exact absurd c10 (by decide)
  · refine g_throw (pc := 13) th_X2_found_13 (Nat.le_of_ble_eq_true rfl) (Nat.le_of_ble_eq_true rfl) ?_
    exact ⟨_, ⟨rfl, rfl⟩, rfl⟩
theorem m_X2_found_2 (hK : Kt I) (hS : Snap I 4 V C) (hW : WF V) {j b i : Nat} (hj : j < 8) (h1 : V (10 * j) = 1) (hb : b < bl V j) (hi : i < sz V j) (hd : ¬ isD V j b = true) : gX G YX2_found (d + 9) [.ref 3, .int (nI j), .int (nI b), .int (nI i)] n I L D (.inr "java/util/NoSuchElementException") (fun J => Qs I J) := by
  have hsz := sz_le (hW.1 j hj)
  refine g_aload_n (pc := 0) dX2_found_0 rfl rfl ?_
  refine g_getR (pc := 1) dX2_found_1 fl_X2_12 s_3 (by decide) rfl t_3_0 ?_
  refine g_iload_n (pc := 4) dX2_found_4 rfl rfl ?_
  refine g_iload_n (pc := 5) dX2_found_5 rfl rfl ?_
  refine g_iload_n (pc := 6) dX2_found_6 rfl rfl ?_
  refine g_fV (av := [.int _, .int _, .int _]) (pc := 7) dX2_found_7 mt_X1_hasPosition lk_X2_152 im_X1_hasPosition se_X1_hasPosition np_X1_hasPosition s_4 (by decide) (by decide) rfl (gc_i (gc_i (gc_i gc_0))) (Nat.le_of_ble_eq_true rfl) (Nat.le_of_ble_eq_true rfl) ⟨Nat.zero_le _, Nat.zero_le _⟩ (m_X1_hasPosition_t hS hW hj h1 hb hi) ?_
  refine g_if_neN (tgt := 23) (pc := 10) dX2_found_10 (by decide) (by omega) (fun c10 => ?_) (fun c10 => ?_)
  · refine g_aload_n (pc := 23) dX2_found_23 rfl rfl ?_
    refine g_getR (pc := 24) dX2_found_24 fl_X2_26 s_3 (by decide) rfl t_3_3 ?_
    refine g_aload_n (pc := 27) dX2_found_27 rfl rfl ?_
    refine g_getR (pc := 28) dX2_found_28 fl_X2_12 s_3 (by decide) rfl t_3_0 ?_
    refine g_iload_n (pc := 31) dX2_found_31 rfl rfl ?_
    refine g_iload_n (pc := 32) dX2_found_32 rfl rfl ?_
    refine g_riV (av := [.ref 4, .int _, .int _]) (pc := 33) dX2_found_33 mt_X0_decode lk_X2_219 im_X0_decode se_X0_decode np_X0_decode s_29 (by decide) (by decide) rfl (gc_r (gc_i (gc_i gc_0))) (Nat.le_of_ble_eq_true rfl) (Nat.le_of_ble_eq_true rfl) (m_X0_decode hK hS hW hj h1 hb) ?_
    rintro _ I1 ⟨rfl, k1, k2, k3, k4, k5⟩
    refine g_if_neB (tgt := 49) (pc := 36) dX2_found_36 (by decide) (fun c36 => ?_) (fun c36 => ?_)
    · exact absurd c36 hd
    refine g_throw (pc := 39) th_X2_found_39 (Nat.le_of_ble_eq_true rfl) (Nat.le_of_ble_eq_true rfl) ?_
    exact ⟨_, ⟨rfl, rfl⟩, k5.mono (by decide)⟩
  · exact absurd c10 (by decide)
theorem m_X2_found_0 (hK : Kt I) (hS : Snap I 4 V C) (hW : WF V) {j b i : Nat} (hj : j < 8) (h1 : V (10 * j) = 1) (hb : b < bl V j) (hi : i < sz V j) (hd : isD V j b = true) : gX G YX2_found (d + 9) [.ref 3, .int (nI j), .int (nI b), .int (nI i)] n I L D (.inl (some (.int (nI (foV V j b i))))) (fun J => Qs I J) := by
  have hsz := sz_le (hW.1 j hj)
  refine g_aload_n (pc := 0) dX2_found_0 rfl rfl ?_
  refine g_getR (pc := 1) dX2_found_1 fl_X2_12 s_3 (by decide) rfl t_3_0 ?_
  refine g_iload_n (pc := 4) dX2_found_4 rfl rfl ?_
  refine g_iload_n (pc := 5) dX2_found_5 rfl rfl ?_
  refine g_iload_n (pc := 6) dX2_found_6 rfl rfl ?_
  refine g_fV (av := [.int _, .int _, .int _]) (pc := 7) dX2_found_7 mt_X1_hasPosition lk_X2_152 im_X1_hasPosition se_X1_hasPosition np_X1_hasPosition s_4 (by decide) (by decide) rfl (gc_i (gc_i (gc_i gc_0))) (Nat.le_of_ble_eq_true rfl) (Nat.le_of_ble_eq_true rfl) ⟨Nat.zero_le _, Nat.zero_le _⟩ (m_X1_hasPosition_t hS hW hj h1 hb hi) ?_
  refine g_if_neN (tgt := 23) (pc := 10) dX2_found_10 (by decide) (by omega) (fun c10 => ?_) (fun c10 => ?_)
  · refine g_aload_n (pc := 23) dX2_found_23 rfl rfl ?_
    refine g_getR (pc := 24) dX2_found_24 fl_X2_26 s_3 (by decide) rfl t_3_3 ?_
    refine g_aload_n (pc := 27) dX2_found_27 rfl rfl ?_
    refine g_getR (pc := 28) dX2_found_28 fl_X2_12 s_3 (by decide) rfl t_3_0 ?_
    refine g_iload_n (pc := 31) dX2_found_31 rfl rfl ?_
    refine g_iload_n (pc := 32) dX2_found_32 rfl rfl ?_
    refine g_riV (av := [.ref 4, .int _, .int _]) (pc := 33) dX2_found_33 mt_X0_decode lk_X2_219 im_X0_decode se_X0_decode np_X0_decode s_29 (by decide) (by decide) rfl (gc_r (gc_i (gc_i gc_0))) (Nat.le_of_ble_eq_true rfl) (Nat.le_of_ble_eq_true rfl) (m_X0_decode hK hS hW hj h1 hb) ?_
    rintro _ I1 ⟨rfl, k1, k2, k3, k4, k5⟩
    refine g_if_neB (tgt := 49) (pc := 36) dX2_found_36 (by decide) (fun c36 => ?_) (fun c36 => ?_)
    rotate_left
    · exact absurd hd c36
    refine g_aload_n (pc := 49) dX2_found_49 rfl rfl ?_
    refine g_getR (pc := 50) dX2_found_50 fl_X2_26 s_3 (by decide) rfl t_3_3 ?_
    refine g_getR (pc := 53) dX2_found_53 fl_X2_236 s_29 (by decide) rfl t_29_1 ?_
    refine g_iload_n (pc := 56) dX2_found_56 rfl rfl ?_
    refine g_ialoadN (pc := 57) dX2_found_57 s_31 (by decide) (by omega) (by decide) ((k3 hd).2.2 i hi) ?_
    refine g_iret (pc := 58) dX2_found_58 rfl rfl ?_
    exact ⟨_, ⟨by unfold foV; rw [if_pos hd]; rfl, rfl⟩, k5.mono (by decide)⟩
  · exact absurd c10 (by decide)
theorem m_X2_read_1 (hS : Snap I 4 V C) (hW : WF V) {f i : Int32} (hb : ¬ ∃ j l, j < 8 ∧ V (10 * j) = 1 ∧ l < V (10 * j + 1) ∧ f = nI j ∧ i = nI l) : gX G YX2_read (d + 9) [.ref 3, .int f, .int i] n I L D (.inr "java/lang/IndexOutOfBoundsException") (fun J => J = I) := by
  by_cases hf : isFi V f
  · obtain ⟨j, hj, rfl⟩ := nI_7 hf.1
    have h1 := (isFi_n hj).mp hf
    have hn2 := (hW.1 j hj).2.1
    refine g_aload_n (pc := 0) dX2_read_0 rfl rfl ?_
    refine g_getR (pc := 1) dX2_read_1 fl_X2_12 s_3 (by decide) rfl t_3_0 ?_
    refine g_iload_n (pc := 4) dX2_read_4 rfl rfl ?_
    refine g_fV (av := [.int _]) (pc := 5) dX2_read_5 mt_X1_hasFile lk_X2_117 im_X1_hasFile se_X1_hasFile np_X1_hasFile s_4 (by decide) (by decide) rfl (gc_i gc_0) (Nat.le_of_ble_eq_true rfl) (Nat.le_of_ble_eq_true rfl) ⟨Nat.zero_le _, Nat.zero_le _⟩ (m_X1_hasFileN hS hW hj) ?_
    refine g_if_eqB (tgt := 28) (pc := 8) dX2_read_8 (by decide) (fun c8 => ?_) (fun c8 => ?_)
    · exact absurd h1 c8
    refine g_iload_n (pc := 11) dX2_read_11 rfl rfl ?_
    refine g_if_lt (tgt := 28) (pc := 12) dX2_read_12 (by decide) (fun c12 => ?_) (fun c12 => ?_)
    · refine g_throw (pc := 28) th_X2_read_28 (Nat.le_of_ble_eq_true rfl) (Nat.le_of_ble_eq_true rfl) ?_
      exact ⟨_, ⟨rfl, rfl⟩, rfl⟩
    · obtain ⟨l, hl31, rfl⟩ := nI_of c12
      refine g_iload_n (pc := 15) dX2_read_15 rfl rfl ?_
      refine g_aload_n (pc := 16) dX2_read_16 rfl rfl ?_
      refine g_getR (pc := 17) dX2_read_17 fl_X2_12 s_3 (by decide) rfl t_3_0 ?_
      refine g_getR (pc := 20) dX2_read_20 fl_X2_129 s_4 (by decide) rfl t_4_4 ?_
      refine g_iload_n (pc := 23) dX2_read_23 rfl rfl ?_
      refine g_ialoadN (pc := 24) dX2_read_24 s_9 (by decide) (by omega) (by decide) (hS.2.2.1 j hj).1 ?_
      refine g_icmp_lt (tgt := 38) (pc := 25) dX2_read_25 (by decide) (fun c25 => ?_) (fun c25 => ?_)
      · exact absurd ⟨j, l, hj, h1, (nI_ltI hl31 (by omega)).mp c25, rfl, rfl⟩ hb
      · refine g_throw (pc := 28) th_X2_read_28 (Nat.le_of_ble_eq_true rfl) (Nat.le_of_ble_eq_true rfl) ?_
        exact ⟨_, ⟨rfl, rfl⟩, rfl⟩
  · skip
    refine g_aload_n (pc := 0) dX2_read_0 rfl rfl ?_
    refine g_getR (pc := 1) dX2_read_1 fl_X2_12 s_3 (by decide) rfl t_3_0 ?_
    refine g_iload_n (pc := 4) dX2_read_4 rfl rfl ?_
    refine g_fV (av := [.int _]) (pc := 5) dX2_read_5 mt_X1_hasFile lk_X2_117 im_X1_hasFile se_X1_hasFile np_X1_hasFile s_4 (by decide) (by decide) rfl (gc_i gc_0) (Nat.le_of_ble_eq_true rfl) (Nat.le_of_ble_eq_true rfl) ⟨Nat.zero_le _, Nat.zero_le _⟩ (m_X1_hasFile hS hW) ?_
    refine g_if_eqB (tgt := 28) (pc := 8) dX2_read_8 (by decide) (fun c8 => ?_) (fun c8 => ?_)
    · refine g_throw (pc := 28) th_X2_read_28 (Nat.le_of_ble_eq_true rfl) (Nat.le_of_ble_eq_true rfl) ?_
      exact ⟨_, ⟨rfl, rfl⟩, rfl⟩
    · exact absurd c8 hf
theorem m_X2_read_2 (hK : Kt I) (hS : Snap I 4 V C) (hW : WF V) {j i : Nat} (hj : j < 8) (h1 : V (10 * j) = 1) (hi : i < V (10 * j + 1)) (hd : ¬ isD V j (i / 8) = true) : gX G YX2_read (d + 9) [.ref 3, .int (nI j), .int (nI i)] n I L D (.inr "java/util/NoSuchElementException") (fun J => Qs I J) := by
  have hw := hW.1 j hj
  have hn2 := hw.2.1
  have hc6 := hw.2.2.1
  have hsz : sz V j = V (10 * j + 2) + 8 := rfl
  have hb : i / 8 < bl V j := by unfold bl; omega
  refine g_aload_n (pc := 0) dX2_read_0 rfl rfl ?_
  refine g_getR (pc := 1) dX2_read_1 fl_X2_12 s_3 (by decide) rfl t_3_0 ?_
  refine g_iload_n (pc := 4) dX2_read_4 rfl rfl ?_
  refine g_fV (av := [.int _]) (pc := 5) dX2_read_5 mt_X1_hasFile lk_X2_117 im_X1_hasFile se_X1_hasFile np_X1_hasFile s_4 (by decide) (by decide) rfl (gc_i gc_0) (Nat.le_of_ble_eq_true rfl) (Nat.le_of_ble_eq_true rfl) ⟨Nat.zero_le _, Nat.zero_le _⟩ (m_X1_hasFileN hS hW hj) ?_
  refine g_if_eqB (tgt := 28) (pc := 8) dX2_read_8 (by decide) (fun c8 => ?_) (fun c8 => ?_)
  · exact absurd h1 c8
  refine g_iload_n (pc := 11) dX2_read_11 rfl rfl ?_
  refine g_if_ltN (tgt := 28) (pc := 12) dX2_read_12 (by decide) (by omega) (fun c12 => ?_) (fun c12 => ?_)
  · omega
  · refine g_iload_n (pc := 15) dX2_read_15 rfl rfl ?_
    refine g_aload_n (pc := 16) dX2_read_16 rfl rfl ?_
    refine g_getR (pc := 17) dX2_read_17 fl_X2_12 s_3 (by decide) rfl t_3_0 ?_
    refine g_getR (pc := 20) dX2_read_20 fl_X2_129 s_4 (by decide) rfl t_4_4 ?_
    refine g_iload_n (pc := 23) dX2_read_23 rfl rfl ?_
    refine g_ialoadN (pc := 24) dX2_read_24 s_9 (by decide) (by omega) (by decide) (hS.2.2.1 j hj).1 ?_
    refine g_icmp_ltN (tgt := 38) (pc := 25) dX2_read_25 (by decide) (by omega) (by omega) (fun c25 => ?_) (fun c25 => ?_)
    rotate_left
    · omega
    refine g_aload_n (pc := 38) dX2_read_38 rfl rfl ?_
    refine g_getR (pc := 39) dX2_read_39 fl_X2_26 s_3 (by decide) rfl t_3_3 ?_
    refine g_aload_n (pc := 42) dX2_read_42 rfl rfl ?_
    refine g_getR (pc := 43) dX2_read_43 fl_X2_12 s_3 (by decide) rfl t_3_0 ?_
    refine g_iload_n (pc := 46) dX2_read_46 rfl rfl ?_
    refine g_iload_n (pc := 47) dX2_read_47 rfl rfl ?_
    refine g_bipush (v := nI 8) (pc := 48) dX2_read_48 rfl ?_
    refine g_idivN (pc := 50) dX2_read_50 (by omega) (by omega) (by omega) ?_
    refine g_riV (av := [.ref 4, .int _, .int _]) (pc := 51) dX2_read_51 mt_X0_decode lk_X2_219 im_X0_decode se_X0_decode np_X0_decode s_29 (by decide) (by decide) rfl (gc_r (gc_i (gc_i gc_0))) (Nat.le_of_ble_eq_true rfl) (Nat.le_of_ble_eq_true rfl) (m_X0_decode hK hS hW hj h1 hb) ?_
    rintro _ I1 ⟨rfl, k1, k2, k3, k4, k5⟩
    refine g_if_neB (tgt := 67) (pc := 54) dX2_read_54 (by decide) (fun c54 => ?_) (fun c54 => ?_)
    · exact absurd c54 hd
    refine g_throw (pc := 57) th_X2_read_57 (Nat.le_of_ble_eq_true rfl) (Nat.le_of_ble_eq_true rfl) ?_
    exact ⟨_, ⟨rfl, rfl⟩, k5.mono (by decide)⟩
theorem m_X2_read_0 (hK : Kt I) (hS : Snap I 4 V C) (hW : WF V) {j i : Nat} (hj : j < 8) (h1 : V (10 * j) = 1) (hi : i < V (10 * j + 1)) (hd : isD V j (i / 8) = true) : gX G YX2_read (d + 9) [.ref 3, .int (nI j), .int (nI i)] n I L D (.inl (some (.int (nI (foV V j (i / 8) (V (10 * j + 2) + i % 8)))))) (fun J => Qs I J) := by
  have hw := hW.1 j hj
  have hn2 := hw.2.1
  have hc6 := hw.2.2.1
  have hsz : sz V j = V (10 * j + 2) + 8 := rfl
  have hb : i / 8 < bl V j := by unfold bl; omega
  refine g_aload_n (pc := 0) dX2_read_0 rfl rfl ?_
  refine g_getR (pc := 1) dX2_read_1 fl_X2_12 s_3 (by decide) rfl t_3_0 ?_
  refine g_iload_n (pc := 4) dX2_read_4 rfl rfl ?_
  refine g_fV (av := [.int _]) (pc := 5) dX2_read_5 mt_X1_hasFile lk_X2_117 im_X1_hasFile se_X1_hasFile np_X1_hasFile s_4 (by decide) (by decide) rfl (gc_i gc_0) (Nat.le_of_ble_eq_true rfl) (Nat.le_of_ble_eq_true rfl) ⟨Nat.zero_le _, Nat.zero_le _⟩ (m_X1_hasFileN hS hW hj) ?_
  refine g_if_eqB (tgt := 28) (pc := 8) dX2_read_8 (by decide) (fun c8 => ?_) (fun c8 => ?_)
  · exact absurd h1 c8
  refine g_iload_n (pc := 11) dX2_read_11 rfl rfl ?_
  refine g_if_ltN (tgt := 28) (pc := 12) dX2_read_12 (by decide) (by omega) (fun c12 => ?_) (fun c12 => ?_)
  · omega
  · refine g_iload_n (pc := 15) dX2_read_15 rfl rfl ?_
    refine g_aload_n (pc := 16) dX2_read_16 rfl rfl ?_
    refine g_getR (pc := 17) dX2_read_17 fl_X2_12 s_3 (by decide) rfl t_3_0 ?_
    refine g_getR (pc := 20) dX2_read_20 fl_X2_129 s_4 (by decide) rfl t_4_4 ?_
    refine g_iload_n (pc := 23) dX2_read_23 rfl rfl ?_
    refine g_ialoadN (pc := 24) dX2_read_24 s_9 (by decide) (by omega) (by decide) (hS.2.2.1 j hj).1 ?_
    refine g_icmp_ltN (tgt := 38) (pc := 25) dX2_read_25 (by decide) (by omega) (by omega) (fun c25 => ?_) (fun c25 => ?_)
    rotate_left
    · omega
    refine g_aload_n (pc := 38) dX2_read_38 rfl rfl ?_
    refine g_getR (pc := 39) dX2_read_39 fl_X2_26 s_3 (by decide) rfl t_3_3 ?_
    refine g_aload_n (pc := 42) dX2_read_42 rfl rfl ?_
    refine g_getR (pc := 43) dX2_read_43 fl_X2_12 s_3 (by decide) rfl t_3_0 ?_
    refine g_iload_n (pc := 46) dX2_read_46 rfl rfl ?_
    refine g_iload_n (pc := 47) dX2_read_47 rfl rfl ?_
    refine g_bipush (v := nI 8) (pc := 48) dX2_read_48 rfl ?_
    refine g_idivN (pc := 50) dX2_read_50 (by omega) (by omega) (by omega) ?_
    refine g_riV (av := [.ref 4, .int _, .int _]) (pc := 51) dX2_read_51 mt_X0_decode lk_X2_219 im_X0_decode se_X0_decode np_X0_decode s_29 (by decide) (by decide) rfl (gc_r (gc_i (gc_i gc_0))) (Nat.le_of_ble_eq_true rfl) (Nat.le_of_ble_eq_true rfl) (m_X0_decode hK hS hW hj h1 hb) ?_
    rintro _ I1 ⟨rfl, k1, k2, k3, k4, k5⟩
    refine g_if_neB (tgt := 67) (pc := 54) dX2_read_54 (by decide) (fun c54 => ?_) (fun c54 => ?_)
    rotate_left
    · exact absurd hd c54
    refine g_aload_n (pc := 67) dX2_read_67 rfl rfl ?_
    refine g_getR (pc := 68) dX2_read_68 fl_X2_26 s_3 (by decide) rfl t_3_3 ?_
    refine g_getR (pc := 71) dX2_read_71 fl_X2_236 s_29 (by decide) rfl t_29_1 ?_
    refine g_aload_n (pc := 74) dX2_read_74 rfl rfl ?_
    refine g_getR (pc := 75) dX2_read_75 fl_X2_12 s_3 (by decide) rfl t_3_0 ?_
    refine g_getR (pc := 78) dX2_read_78 fl_X2_132 s_4 (by decide) rfl t_4_6 ?_
    refine g_iload_n (pc := 81) dX2_read_81 rfl rfl ?_
    refine g_ialoadN (pc := 82) dX2_read_82 s_11 (by decide) (by omega) (by decide) (((Qs.s (Sm.mono k5 (by decide)) hS).2.2.1 j hj).2.2.1) ?_
    refine g_iload_n (pc := 83) dX2_read_83 rfl rfl ?_
    refine g_bipush (v := nI 8) (pc := 84) dX2_read_84 rfl ?_
    refine g_iremN (pc := 86) dX2_read_86 (by omega) (by omega) (by omega) ?_
    refine g_iaddN (pc := 87) dX2_read_87 ?_
    refine g_ialoadN (pc := 88) dX2_read_88 s_31 (by decide) (by omega) (by decide) ((k3 hd).2.2 _ (by omega)) ?_
    refine g_iret (pc := 89) dX2_read_89 rfl rfl ?_
    exact ⟨_, ⟨by unfold foV; rw [if_pos hd]; rfl, rfl⟩, k5.mono (by decide)⟩
theorem m_X2_margin_1 (hS : Snap I 4 V C) (hW : WF V) {f b : Int32} (hb : ¬ ∃ j k, j < 8 ∧ V (10 * j) = 1 ∧ k < bl V j ∧ f = nI j ∧ b = nI k) : gX G YX2_margin (d + 9) [.ref 3, .int f, .int b] n I L D (.inr "java/lang/IndexOutOfBoundsException") (fun J => J = I) := by
  refine g_aload_n (pc := 0) dX2_margin_0 rfl rfl ?_
  refine g_getR (pc := 1) dX2_margin_1 fl_X2_12 s_3 (by decide) rfl t_3_0 ?_
  refine g_iload_n (pc := 4) dX2_margin_4 rfl rfl ?_
  refine g_iload_n (pc := 5) dX2_margin_5 rfl rfl ?_
  refine g_fV (av := [.int _, .int _]) (pc := 6) dX2_margin_6 mt_X1_hasBlock lk_X2_202 im_X1_hasBlock se_X1_hasBlock np_X1_hasBlock s_4 (by decide) (by decide) rfl (gc_i (gc_i gc_0)) (Nat.le_of_ble_eq_true rfl) (Nat.le_of_ble_eq_true rfl) ⟨Nat.zero_le _, Nat.zero_le _⟩ (m_X1_hasBlock_f hS hW hb) ?_
  refine g_if_neN (tgt := 22) (pc := 9) dX2_margin_9 (by decide) (by omega) (fun c9 => ?_) (fun c9 => ?_)
  · exact absurd c9 (by decide)
  · refine g_throw (pc := 12) th_X2_margin_12 (Nat.le_of_ble_eq_true rfl) (Nat.le_of_ble_eq_true rfl) ?_
    exact ⟨_, ⟨rfl, rfl⟩, rfl⟩
theorem m_X2_margin_2 (hK : Kt I) (hS : Snap I 4 V C) (hW : WF V) {j b : Nat} (hj : j < 8) (h1 : V (10 * j) = 1) (hb : b < bl V j) (hd : ¬ isD V j b = true) : gX G YX2_margin (d + 9) [.ref 3, .int (nI j), .int (nI b)] n I L D (.inr "java/util/NoSuchElementException") (fun J => Qs I J) := by
  refine g_aload_n (pc := 0) dX2_margin_0 rfl rfl ?_
  refine g_getR (pc := 1) dX2_margin_1 fl_X2_12 s_3 (by decide) rfl t_3_0 ?_
  refine g_iload_n (pc := 4) dX2_margin_4 rfl rfl ?_
  refine g_iload_n (pc := 5) dX2_margin_5 rfl rfl ?_
  refine g_fV (av := [.int _, .int _]) (pc := 6) dX2_margin_6 mt_X1_hasBlock lk_X2_202 im_X1_hasBlock se_X1_hasBlock np_X1_hasBlock s_4 (by decide) (by decide) rfl (gc_i (gc_i gc_0)) (Nat.le_of_ble_eq_true rfl) (Nat.le_of_ble_eq_true rfl) ⟨Nat.zero_le _, Nat.zero_le _⟩ (m_X1_hasBlock_t hS hW hj h1 hb) ?_
  refine g_if_neN (tgt := 22) (pc := 9) dX2_margin_9 (by decide) (by omega) (fun c9 => ?_) (fun c9 => ?_)
  · refine g_aload_n (pc := 22) dX2_margin_22 rfl rfl ?_
    refine g_getR (pc := 23) dX2_margin_23 fl_X2_26 s_3 (by decide) rfl t_3_3 ?_
    refine g_aload_n (pc := 26) dX2_margin_26 rfl rfl ?_
    refine g_getR (pc := 27) dX2_margin_27 fl_X2_12 s_3 (by decide) rfl t_3_0 ?_
    refine g_iload_n (pc := 30) dX2_margin_30 rfl rfl ?_
    refine g_iload_n (pc := 31) dX2_margin_31 rfl rfl ?_
    refine g_riV (av := [.ref 4, .int _, .int _]) (pc := 32) dX2_margin_32 mt_X0_decode lk_X2_219 im_X0_decode se_X0_decode np_X0_decode s_29 (by decide) (by decide) rfl (gc_r (gc_i (gc_i gc_0))) (Nat.le_of_ble_eq_true rfl) (Nat.le_of_ble_eq_true rfl) (m_X0_decode hK hS hW hj h1 hb) ?_
    rintro _ I1 ⟨rfl, k1, k2, k3, k4, k5⟩
    refine g_if_neB (tgt := 48) (pc := 35) dX2_margin_35 (by decide) (fun c35 => ?_) (fun c35 => ?_)
    · exact absurd c35 hd
    refine g_throw (pc := 38) th_X2_margin_38 (Nat.le_of_ble_eq_true rfl) (Nat.le_of_ble_eq_true rfl) ?_
    exact ⟨_, ⟨rfl, rfl⟩, k5.mono (by decide)⟩
  · exact absurd c9 (by decide)
theorem m_X2_margin_0 (hK : Kt I) (hS : Snap I 4 V C) (hW : WF V) {j b : Nat} (hj : j < 8) (h1 : V (10 * j) = 1) (hb : b < bl V j) (hd : isD V j b = true) : gX G YX2_margin (d + 9) [.ref 3, .int (nI j), .int (nI b)] n I L D (.inl (some (.int (nI (maV V j b))))) (fun J => Qs I J) := by
  have hw := hW.1 j hj
  have hsz := sz_le hw
  have hbl := bl_le hw
  have hc6 := hw.2.2.1
  have hel : erN V j b < 16384 := Nat.lt_of_lt_of_le erN_lt (p14 hsz.1)
  have hde : dcE V j b < 16384 := Nat.lt_of_lt_of_le (dc_some hd).1 (p14 hsz.1)
  have hle := (dc_some hd).2.2
  have e1 : nS (dcE V j b) 14 = dcN V j b := rfl
  have e2 : nS (erN V j b) 14 = ern V j b := rfl
  refine g_aload_n (pc := 0) dX2_margin_0 rfl rfl ?_
  refine g_getR (pc := 1) dX2_margin_1 fl_X2_12 s_3 (by decide) rfl t_3_0 ?_
  refine g_iload_n (pc := 4) dX2_margin_4 rfl rfl ?_
  refine g_iload_n (pc := 5) dX2_margin_5 rfl rfl ?_
  refine g_fV (av := [.int _, .int _]) (pc := 6) dX2_margin_6 mt_X1_hasBlock lk_X2_202 im_X1_hasBlock se_X1_hasBlock np_X1_hasBlock s_4 (by decide) (by decide) rfl (gc_i (gc_i gc_0)) (Nat.le_of_ble_eq_true rfl) (Nat.le_of_ble_eq_true rfl) ⟨Nat.zero_le _, Nat.zero_le _⟩ (m_X1_hasBlock_t hS hW hj h1 hb) ?_
  refine g_if_neN (tgt := 22) (pc := 9) dX2_margin_9 (by decide) (by omega) (fun c9 => ?_) (fun c9 => ?_)
  · refine g_aload_n (pc := 22) dX2_margin_22 rfl rfl ?_
    refine g_getR (pc := 23) dX2_margin_23 fl_X2_26 s_3 (by decide) rfl t_3_3 ?_
    refine g_aload_n (pc := 26) dX2_margin_26 rfl rfl ?_
    refine g_getR (pc := 27) dX2_margin_27 fl_X2_12 s_3 (by decide) rfl t_3_0 ?_
    refine g_iload_n (pc := 30) dX2_margin_30 rfl rfl ?_
    refine g_iload_n (pc := 31) dX2_margin_31 rfl rfl ?_
    refine g_riV (av := [.ref 4, .int _, .int _]) (pc := 32) dX2_margin_32 mt_X0_decode lk_X2_219 im_X0_decode se_X0_decode np_X0_decode s_29 (by decide) (by decide) rfl (gc_r (gc_i (gc_i gc_0))) (Nat.le_of_ble_eq_true rfl) (Nat.le_of_ble_eq_true rfl) (m_X0_decode hK hS hW hj h1 hb) ?_
    rintro _ I1 ⟨rfl, k1, k2, k3, k4, k5⟩
    refine g_if_neB (tgt := 48) (pc := 35) dX2_margin_35 (by decide) (fun c35 => ?_) (fun c35 => ?_)
    rotate_left
    · exact absurd hd c35
    refine g_aload_n (pc := 48) dX2_margin_48 rfl rfl ?_
    refine g_getR (pc := 49) dX2_margin_49 fl_X2_12 s_3 (by decide) rfl t_3_0 ?_
    refine g_getR (pc := 52) dX2_margin_52 fl_X2_132 s_4 (by decide) rfl t_4_6 ?_
    refine g_iload_n (pc := 55) dX2_margin_55 rfl rfl ?_
    refine g_ialoadN (pc := 56) dX2_margin_56 s_11 (by decide) (by omega) (by decide) (((Qs.s (Sm.mono k5 (by decide)) hS).2.2.1 j hj).2.2.1) ?_
    refine g_iconst (v := nI 2) (pc := 57) dX2_margin_57 rfl ?_
    refine g_aload_n (pc := 58) dX2_margin_58 rfl rfl ?_
    refine g_getR (pc := 59) dX2_margin_59 fl_X2_26 s_3 (by decide) rfl t_3_3 ?_
    refine g_getIV (pc := 62) dX2_margin_62 fl_X2_233 s_29 (by decide) rfl (k3 hd).1 ?_
    refine g_fS (av := [.int _]) (pc := 65) dX2_margin_65 mt_J6_bitCount_0f7a4 lk_X2_226 sf_J6_bitCount_0f7a4 np_J6_bitCount_0f7a4 rfl (gc_i gc_0) (Nat.le_of_ble_eq_true rfl) (Nat.le_of_ble_eq_true rfl) ⟨Nat.zero_le _, Nat.zero_le _⟩ (m_J6_bitCount hde) ?_
    rw [e1]
    refine g_imulN (pc := 68) dX2_margin_68 ?_
    refine g_isubN (pc := 69) dX2_margin_69 (by omega) ?_
    refine g_aload_n (pc := 70) dX2_margin_70 rfl rfl ?_
    refine g_getR (pc := 71) dX2_margin_71 fl_X2_26 s_3 (by decide) rfl t_3_3 ?_
    refine g_getIV (pc := 74) dX2_margin_74 fl_X2_223 s_29 (by decide) rfl k2 ?_
    refine g_fS (av := [.int _]) (pc := 77) dX2_margin_77 mt_J6_bitCount_0f7a4 lk_X2_226 sf_J6_bitCount_0f7a4 np_J6_bitCount_0f7a4 rfl (gc_i gc_0) (Nat.le_of_ble_eq_true rfl) (Nat.le_of_ble_eq_true rfl) ⟨Nat.zero_le _, Nat.zero_le _⟩ (m_J6_bitCount hel) ?_
    rw [e2]
    refine g_isubN (pc := 80) dX2_margin_80 (by omega) ?_
    refine g_iret (pc := 81) dX2_margin_81 rfl rfl ?_
    exact ⟨_, ⟨by unfold maV; rw [if_pos hd], rfl⟩, k5.mono (by decide)⟩
  · exact absurd c9 (by decide)
theorem m_X2_lostBlocks (hK : Kt I) (hS : Snap I 4 V C) (hW : WF V) {j : Nat} (hj : j < 8) (h1 : V (10 * j) = 1) : gRi G YX2_lostBlocks (d + 7) [.ref 3, .int (nI j)] n I L D (fun v J => v = nI (udN V j (bl V j)) ∧ Qs I J) := by
  have hbl := bl_le (hW.1 j hj)
  refine g_iconst (v := nI 0) (pc := 0) dX2_lostBlocks_0 rfl ?_
  refine g_istore_n (pc := 1) dX2_lostBlocks_1 rfl (Nat.le_of_ble_eq_true rfl) rfl ?_
  refine g_iconst (v := nI 0) (pc := 2) dX2_lostBlocks_2 rfl ?_
  refine g_istore_n (pc := 3) dX2_lostBlocks_3 rfl (Nat.le_of_ble_eq_true rfl) rfl ?_
  refine g_loop (bl V j) (fun k J => Qs I J) (fun k _ => [some (.ref 3), some (.int (nI j)), some (.int (nI (udN V j k))), some (.int (nI k))]) (fun J => hp n J L D) (fun b J hb hJ kn => ?_) (fun J hJ => ?_) 0 I (Nat.zero_le _) Qs.r
  · have hSJ := hJ.s hS
    have hKJ := hJ.k hK
    refine g_iload_n (pc := 4) dX2_lostBlocks_4 rfl rfl ?_
    refine g_aload_n (pc := 5) dX2_lostBlocks_5 rfl rfl ?_
    refine g_getR (pc := 6) dX2_lostBlocks_6 fl_X2_12 s_3 (by decide) rfl t_3_0 ?_
    refine g_getR (pc := 9) dX2_lostBlocks_9 fl_X2_141 s_4 (by decide) rfl t_4_5 ?_
    refine g_iload_n (pc := 12) dX2_lostBlocks_12 rfl rfl ?_
    refine g_ialoadN (pc := 13) dX2_lostBlocks_13 s_10 (by decide) (by omega) (by decide) (hSJ.2.2.1 j hj).2.1 ?_
    refine g_icmp_geN (tgt := 45) (pc := 14) dX2_lostBlocks_14 (by decide) (by omega) (by omega) (fun c14 => ?_) (fun c14 => ?_)
    · omega
    refine g_aload_n (pc := 17) dX2_lostBlocks_17 rfl rfl ?_
    refine g_getR (pc := 18) dX2_lostBlocks_18 fl_X2_26 s_3 (by decide) rfl t_3_3 ?_
    refine g_aload_n (pc := 21) dX2_lostBlocks_21 rfl rfl ?_
    refine g_getR (pc := 22) dX2_lostBlocks_22 fl_X2_12 s_3 (by decide) rfl t_3_0 ?_
    refine g_iload_n (pc := 25) dX2_lostBlocks_25 rfl rfl ?_
    refine g_iload_n (pc := 26) dX2_lostBlocks_26 rfl rfl ?_
    refine g_riV (av := [.ref 4, .int _, .int _]) (pc := 27) dX2_lostBlocks_27 mt_X0_decode lk_X2_219 im_X0_decode se_X0_decode np_X0_decode s_29 (by decide) (by decide) rfl (gc_r (gc_i (gc_i gc_0))) (Nat.le_of_ble_eq_true rfl) (Nat.le_of_ble_eq_true rfl) (m_X0_decode hKJ hSJ hW hj h1 hb) ?_
    rintro _ I1 ⟨rfl, k1, k2, k3, k4, k5⟩
    refine g_if_neB (tgt := 39) (pc := 30) dX2_lostBlocks_30 (by decide) (fun c30 => ?_) (fun c30 => ?_)
    · have e : udN V j (b + 1) = udN V j b := by rw [udN, if_pos c30, Nat.or_zero]
      rw [e] at kn
      refine g_iincN (pc := 39) dX2_lostBlocks_39 (Nat.le_of_ble_eq_true rfl) rfl rfl ?_
      refine g_goto (tgt := 4) (pc := 42) dX2_lostBlocks_42 (by decide) ?_
      exact kn _ (hJ.t (k5.mono (by decide)))
    · have e : udN V j (b + 1) = udN V j b ||| 2 ^ b := by rw [udN, if_neg c30]
      rw [e] at kn
      refine g_iload_n (pc := 33) dX2_lostBlocks_33 rfl rfl ?_
      refine g_iconst (v := nI 1) (pc := 34) dX2_lostBlocks_34 rfl ?_
      refine g_iload_n (pc := 35) dX2_lostBlocks_35 rfl rfl ?_
      refine g_ishl (pc := 36) dX2_lostBlocks_36 ?_
      rw [sh_1 b (by omega)]
      refine g_ior (pc := 37) dX2_lostBlocks_37 ?_
      rw [nI_or]
      refine g_istore_n (pc := 38) dX2_lostBlocks_38 rfl (Nat.le_of_ble_eq_true rfl) rfl ?_
      refine g_iincN (pc := 39) dX2_lostBlocks_39 (Nat.le_of_ble_eq_true rfl) rfl rfl ?_
      refine g_goto (tgt := 4) (pc := 42) dX2_lostBlocks_42 (by decide) ?_
      exact kn _ (hJ.t (k5.mono (by decide)))
  · have hSJ := hJ.s hS
    refine g_iload_n (pc := 4) dX2_lostBlocks_4 rfl rfl ?_
    refine g_aload_n (pc := 5) dX2_lostBlocks_5 rfl rfl ?_
    refine g_getR (pc := 6) dX2_lostBlocks_6 fl_X2_12 s_3 (by decide) rfl t_3_0 ?_
    refine g_getR (pc := 9) dX2_lostBlocks_9 fl_X2_141 s_4 (by decide) rfl t_4_5 ?_
    refine g_iload_n (pc := 12) dX2_lostBlocks_12 rfl rfl ?_
    refine g_ialoadN (pc := 13) dX2_lostBlocks_13 s_10 (by decide) (by omega) (by decide) (hSJ.2.2.1 j hj).2.1 ?_
    refine g_icmp_geN (tgt := 45) (pc := 14) dX2_lostBlocks_14 (by decide) (by omega) (by omega) (fun c14 => ?_) (fun c14 => ?_)
    rotate_left
    · omega
    refine g_iload_n (pc := 45) dX2_lostBlocks_45 rfl rfl ?_
    refine g_iret (pc := 46) dX2_lostBlocks_46 rfl rfl ?_
    refine ⟨_, _, ⟨rfl, rfl⟩, ?_⟩
    exact ⟨rfl, hJ⟩
theorem m_X2_undecodable_1 (hS : Snap I 4 V C) (hW : WF V) {f : Int32} (hf : ¬ isFi V f) : gX G YX2_undecodable (d + 9) [.ref 3, .int f] n I L D (.inr "java/lang/IndexOutOfBoundsException") (fun J => J = I) := by
  refine g_aload_n (pc := 0) dX2_undecodable_0 rfl rfl ?_
  refine g_getR (pc := 1) dX2_undecodable_1 fl_X2_12 s_3 (by decide) rfl t_3_0 ?_
  refine g_iload_n (pc := 4) dX2_undecodable_4 rfl rfl ?_
  refine g_fV (av := [.int _]) (pc := 5) dX2_undecodable_5 mt_X1_hasFile lk_X2_117 im_X1_hasFile se_X1_hasFile np_X1_hasFile s_4 (by decide) (by decide) rfl (gc_i gc_0) (Nat.le_of_ble_eq_true rfl) (Nat.le_of_ble_eq_true rfl) ⟨Nat.zero_le _, Nat.zero_le _⟩ (m_X1_hasFile hS hW) ?_
  refine g_if_neB (tgt := 21) (pc := 8) dX2_undecodable_8 (by decide) (fun c8 => ?_) (fun c8 => ?_)
  · exact absurd c8 hf
  · refine g_throw (pc := 11) th_X2_undecodable_11 (Nat.le_of_ble_eq_true rfl) (Nat.le_of_ble_eq_true rfl) ?_
    exact ⟨_, ⟨rfl, rfl⟩, rfl⟩
theorem m_X2_undecodable_0 (hK : Kt I) (hS : Snap I 4 V C) (hW : WF V) {j : Nat} (hj : j < 8) (h1 : V (10 * j) = 1) : gX G YX2_undecodable (d + 9) [.ref 3, .int (nI j)] n I L D (.inl (some (.int (nI (udN V j (bl V j)))))) (fun J => Qs I J) := by
  refine g_aload_n (pc := 0) dX2_undecodable_0 rfl rfl ?_
  refine g_getR (pc := 1) dX2_undecodable_1 fl_X2_12 s_3 (by decide) rfl t_3_0 ?_
  refine g_iload_n (pc := 4) dX2_undecodable_4 rfl rfl ?_
  refine g_fV (av := [.int _]) (pc := 5) dX2_undecodable_5 mt_X1_hasFile lk_X2_117 im_X1_hasFile se_X1_hasFile np_X1_hasFile s_4 (by decide) (by decide) rfl (gc_i gc_0) (Nat.le_of_ble_eq_true rfl) (Nat.le_of_ble_eq_true rfl) ⟨Nat.zero_le _, Nat.zero_le _⟩ (m_X1_hasFileN hS hW hj) ?_
  refine g_if_neB (tgt := 21) (pc := 8) dX2_undecodable_8 (by decide) (fun c8 => ?_) (fun c8 => ?_)
  rotate_left
  · exact absurd h1 c8
  refine g_aload_n (pc := 21) dX2_undecodable_21 rfl rfl ?_
  refine g_iload_n (pc := 22) dX2_undecodable_22 rfl rfl ?_
  refine g_riV (av := [.int _]) (pc := 23) dX2_undecodable_23 mt_X2_lostBlocks lk_X2_247 im_X2_lostBlocks se_X2_lostBlocks np_X2_lostBlocks s_3 (by decide) (by decide) rfl (gc_i gc_0) (Nat.le_of_ble_eq_true rfl) (Nat.le_of_ble_eq_true rfl) (m_X2_lostBlocks hK hS hW hj h1) ?_
  rintro _ I1 ⟨rfl, hQ⟩
  refine g_iret (pc := 26) dX2_undecodable_26 rfl rfl ?_
  exact ⟨_, ⟨rfl, rfl⟩, hQ⟩
theorem m_X2_needed (hK : Kt I) (hS : Snap I 4 V C) (hW : WF V) : gX G YX2_needed (d + 9) [.ref 3] n I L D (.inl (some (.int (nI (ndF V 8))))) (fun J => Qs I J) := by
  have h8 := hW.2.2.1
  refine g_iconst (v := nI 0) (pc := 0) dX2_needed_0 rfl ?_
  refine g_istore_n (pc := 1) dX2_needed_1 rfl (Nat.le_of_ble_eq_true rfl) rfl ?_
  refine g_iconst (v := nI 0) (pc := 2) dX2_needed_2 rfl ?_
  refine g_istore_n (pc := 3) dX2_needed_3 rfl (Nat.le_of_ble_eq_true rfl) rfl ?_
  refine g_loop 8 (fun k J => Qs I J) (fun k _ => [some (.ref 3), some (.int (nI (ndF V k))), some (.int (nI k)), none]) (fun J => hp n J L D) (fun j J hj hJ kn => ?_) (fun J hJ => ?_) 0 I (Nat.zero_le _) Qs.r
  · have hw := hW.1 j hj
    have hbl := bl_le hw
    have hnf := ndF_le hW j (by omega)
    have hfe : ndF V (j + 1) = ndB V j (ndF V j) (bl V j) := by
      show ndB V j (ndF V j) (if V (10 * j) = 1 then bl V j else 0) = _
      by_cases h1 : V (10 * j) = 1
      · rw [if_pos h1]
      · rw [if_neg h1, bl_0 hw h1]
    refine g_iload_n (pc := 4) dX2_needed_4 rfl rfl ?_
    refine g_bipush (v := nI 8) (pc := 5) dX2_needed_5 rfl ?_
    refine g_icmp_geN (tgt := 75) (pc := 7) dX2_needed_7 (by decide) (by omega) (by omega) (fun c7 => ?_) (fun c7 => ?_)
    · omega
    refine g_iconst (v := nI 0) (pc := 10) dX2_needed_10 rfl ?_
    refine g_istore_n (pc := 11) dX2_needed_11 rfl (Nat.le_of_ble_eq_true rfl) rfl ?_
    refine g_loop (bl V j) (fun k J => Qs I J) (fun k _ => [some (.ref 3), some (.int (nI (ndB V j (ndF V j) k))), some (.int (nI j)), some (.int (nI k))]) (fun J => hp n J L D) (fun b J hb hJ kb => ?_) (fun J hJ => ?_) 0 J (Nat.zero_le _) hJ
    · have hSJ := hJ.s hS
      have hKJ := hJ.k hK
      have h1 : V (10 * j) = 1 := by
        by_cases q : V (10 * j) = 1
        · exact q
        · rw [bl_0 hw q] at hb; exact absurd hb (Nat.not_lt_zero b)
      have hnb := ndB_le (s := ndF V j) hw b
      have hdd : dmN V j b ≤ 6 := dd_le hw
      refine g_iload_n (pc := 12) dX2_needed_12 rfl rfl ?_
      refine g_aload_n (pc := 13) dX2_needed_13 rfl rfl ?_
      refine g_getR (pc := 14) dX2_needed_14 fl_X2_12 s_3 (by decide) rfl t_3_0 ?_
      refine g_getR (pc := 17) dX2_needed_17 fl_X2_141 s_4 (by decide) rfl t_4_5 ?_
      refine g_iload_n (pc := 20) dX2_needed_20 rfl rfl ?_
      refine g_ialoadN (pc := 21) dX2_needed_21 s_10 (by decide) (by omega) (by decide) (hSJ.2.2.1 j hj).2.1 ?_
      refine g_icmp_geN (tgt := 69) (pc := 22) dX2_needed_22 (by decide) (by omega) (by omega) (fun c22 => ?_) (fun c22 => ?_)
      · omega
      refine g_aload_n (pc := 25) dX2_needed_25 rfl rfl ?_
      refine g_getR (pc := 26) dX2_needed_26 fl_X2_12 s_3 (by decide) rfl t_3_0 ?_
      refine g_iload_n (pc := 29) dX2_needed_29 rfl rfl ?_
      refine g_iload_n (pc := 30) dX2_needed_30 rfl rfl ?_
      refine g_fV (av := [.int _, .int _]) (pc := 31) dX2_needed_31 mt_X1_isDue lk_X2_287 im_X1_isDue se_X1_isDue np_X1_isDue s_4 (by decide) (by decide) rfl (gc_i (gc_i gc_0)) (Nat.le_of_ble_eq_true rfl) (Nat.le_of_ble_eq_true rfl) ⟨Nat.zero_le _, Nat.zero_le _⟩ (m_X1_isDue hSJ hW hj hb) ?_
      refine g_if_eqB (tgt := 63) (pc := 34) dX2_needed_34 (by decide) (fun c34 => ?_) (fun c34 => ?_)
      · have e : ndB V j (ndF V j) (b + 1) = ndB V j (ndF V j) b := by rw [ndB, if_pos (Decidable.not_not.mp c34)]
        rw [e] at kb
        refine g_iincN (pc := 63) dX2_needed_63 (Nat.le_of_ble_eq_true rfl) rfl rfl ?_
        refine g_goto (tgt := 12) (pc := 66) dX2_needed_66 (by decide) ?_
        first
          | exact kb _ (hJ.t hQ.q)
          | exact kb _ hJ
      · have e : ndB V j (ndF V j) (b + 1) = ndB V j (ndF V j) b + (1 + dmN V j b) := by rw [ndB, if_neg c34]; rfl
        rw [e] at kb
        refine g_aload_n (pc := 37) dX2_needed_37 rfl rfl ?_
        refine g_getR (pc := 38) dX2_needed_38 fl_X2_26 s_3 (by decide) rfl t_3_3 ?_
        refine g_aload_n (pc := 41) dX2_needed_41 rfl rfl ?_
        refine g_getR (pc := 42) dX2_needed_42 fl_X2_12 s_3 (by decide) rfl t_3_0 ?_
        refine g_iload_n (pc := 45) dX2_needed_45 rfl rfl ?_
        refine g_iload_n (pc := 46) dX2_needed_46 rfl rfl ?_
        refine g_riV (av := [.ref 4, .int _, .int _]) (pc := 47) dX2_needed_47 mt_X0_decode lk_X2_219 im_X0_decode se_X0_decode np_X0_decode s_29 (by decide) (by decide) rfl (gc_r (gc_i (gc_i gc_0))) (Nat.le_of_ble_eq_true rfl) (Nat.le_of_ble_eq_true rfl) (m_X0_decode hKJ hSJ hW hj h1 hb) ?_
        rintro v9 I1 hQ
        refine g_pop (pc := 50) dX2_needed_50 rfl ?_
        refine g_iload_n (pc := 51) dX2_needed_51 rfl rfl ?_
        refine g_iconst (v := nI 1) (pc := 52) dX2_needed_52 rfl ?_
        refine g_aload_n (pc := 53) dX2_needed_53 rfl rfl ?_
        refine g_getR (pc := 54) dX2_needed_54 fl_X2_26 s_3 (by decide) rfl t_3_3 ?_
        refine g_fV (av := []) (pc := 57) dX2_needed_57 mt_X0_damageCount lk_X2_241 im_X0_damageCount se_X0_damageCount np_X0_damageCount s_29 (by decide) (by decide) rfl gc_0 (Nat.le_of_ble_eq_true rfl) (Nat.le_of_ble_eq_true rfl) ⟨Nat.zero_le _, Nat.zero_le _⟩ (m_X0_dmg hQ (sz_le hw).1) ?_
        refine g_iaddN (pc := 60) dX2_needed_60 ?_
        refine g_iaddN (pc := 61) dX2_needed_61 ?_
        refine g_istore_n (pc := 62) dX2_needed_62 rfl (Nat.le_of_ble_eq_true rfl) rfl ?_
        refine g_iincN (pc := 63) dX2_needed_63 (Nat.le_of_ble_eq_true rfl) rfl rfl ?_
        refine g_goto (tgt := 12) (pc := 66) dX2_needed_66 (by decide) ?_
        first
          | exact kb _ (hJ.t hQ.q)
          | exact kb _ hJ
    · have hSJ := hJ.s hS
      rw [← hfe]
      refine g_iload_n (pc := 12) dX2_needed_12 rfl rfl ?_
      refine g_aload_n (pc := 13) dX2_needed_13 rfl rfl ?_
      refine g_getR (pc := 14) dX2_needed_14 fl_X2_12 s_3 (by decide) rfl t_3_0 ?_
      refine g_getR (pc := 17) dX2_needed_17 fl_X2_141 s_4 (by decide) rfl t_4_5 ?_
      refine g_iload_n (pc := 20) dX2_needed_20 rfl rfl ?_
      refine g_ialoadN (pc := 21) dX2_needed_21 s_10 (by decide) (by omega) (by decide) (hSJ.2.2.1 j hj).2.1 ?_
      refine g_icmp_geN (tgt := 69) (pc := 22) dX2_needed_22 (by decide) (by omega) (by omega) (fun c22 => ?_) (fun c22 => ?_)
      rotate_left
      · omega
      refine g_iincN (pc := 69) dX2_needed_69 (Nat.le_of_ble_eq_true rfl) rfl rfl ?_
      refine g_goto (tgt := 4) (pc := 72) dX2_needed_72 (by decide) ?_
      refine g_fg 3 ?_
      exact kn _ hJ
  · skip
    refine g_iload_n (pc := 4) dX2_needed_4 rfl rfl ?_
    refine g_bipush (v := nI 8) (pc := 5) dX2_needed_5 rfl ?_
    refine g_icmp_geN (tgt := 75) (pc := 7) dX2_needed_7 (by decide) (by omega) (by omega) (fun c7 => ?_) (fun c7 => ?_)
    rotate_left
    · exact absurd (Nat.le_refl _) c7
    refine g_iload_n (pc := 75) dX2_needed_75 rfl rfl ?_
    refine g_iret (pc := 76) dX2_needed_76 rfl rfl ?_
    exact ⟨_, ⟨rfl, rfl⟩, hJ⟩
theorem m_X2_dataIn (hS : Snap I 4 V C) (hW : WF V) {j b : Nat} (hj : j < 8) (h1 : V (10 * j) = 1) (hb : b < bl V j) : gFn G YX2_dataIn d [.ref 3, .int (nI j), .int (nI b)] (hp n I L D) (.inl (some (.int (nI (min 8 (V (10 * j + 1) - 8 * b)))))) (hp n I L D) 0 0 := by
  have hn2 := (hW.1 j hj).2.1
  have hbb : b < (V (10 * j + 1) + 7) / 8 := hb
  have e : V (10 * j + 1) - b * 8 = V (10 * j + 1) - 8 * b := by omega
  refine g_bipush (v := nI 8) (pc := 0) dX2_dataIn_0 rfl ?_
  refine g_aload_n (pc := 2) dX2_dataIn_2 rfl rfl ?_
  refine g_getR (pc := 3) dX2_dataIn_3 fl_X2_12 s_3 (by decide) rfl t_3_0 ?_
  refine g_getR (pc := 6) dX2_dataIn_6 fl_X2_129 s_4 (by decide) rfl t_4_4 ?_
  refine g_iload_n (pc := 9) dX2_dataIn_9 rfl rfl ?_
  refine g_ialoadN (pc := 10) dX2_dataIn_10 s_9 (by decide) (by omega) (by decide) (hS.2.2.1 j hj).1 ?_
  refine g_iload_n (pc := 11) dX2_dataIn_11 rfl rfl ?_
  refine g_bipush (v := nI 8) (pc := 12) dX2_dataIn_12 rfl ?_
  refine g_imulN (pc := 14) dX2_dataIn_14 ?_
  refine g_isubN (pc := 15) dX2_dataIn_15 (by omega) ?_
  rw [e]
  refine g_mminN (pc := 16) dX2_dataIn_16 lkm_X2_min (Nat.le_of_ble_eq_true rfl) (by omega) (by omega) ?_
  refine g_iret (pc := 19) dX2_dataIn_19 rfl rfl ?_
  first | exact ⟨rfl, rfl⟩ | exact ⟨by rw [bI_t (by first | assumption | omega)], rfl⟩ | exact ⟨by rw [bI_f (by first | assumption | omega)], rfl⟩
theorem m_X2_sealBehind (hS : Snap I 4 V C) (hW : WF V) {j b : Nat} (hj : j < 8) (h1 : V (10 * j) = 1) (hb : b < bl V j) {S : Nat → Nat} {R : Nat → F6} (hS0 : ∀ i, S i ≤ 250) (hR : ∀ i, i < 8 → I 31 (V (10 * j + 2) + i) = fI (R i)) (hs : ∀ i, i < min 8 (V (10 * j + 1) - 8 * b) → S (i + 1) = (S i * 17 + (R i).val) % 251) : gFn G YX2_sealBehind (d + 1) [.ref 3, .int (nI (S 0)), .int (nI j), .int (nI b)] (hp n I L D) (.inl (some (.int (nI (S (min 8 (V (10 * j + 1) - 8 * b))))))) (hp n I L D) 0 0 := by
  have hc6 := (hW.1 j hj).2.2.1
  have hm8 : min 8 (V (10 * j + 1) - 8 * b) ≤ 8 := Nat.min_le_left _ _
  refine g_iload_n (pc := 0) dX2_sealBehind_0 rfl rfl ?_
  refine g_istore (pc := 1) dX2_sealBehind_1 (Nat.le_of_ble_eq_true rfl) rfl ?_
  refine g_iconst (v := nI 0) (pc := 3) dX2_sealBehind_3 rfl ?_
  refine g_istore (pc := 4) dX2_sealBehind_4 (Nat.le_of_ble_eq_true rfl) rfl ?_
  refine g_loop (min 8 (V (10 * j + 1) - 8 * b)) (fun _ (_ : Unit) => True) (fun k _ => [some (.ref 3), some (.int (nI (S 0))), some (.int (nI j)), some (.int (nI b)), some (.int (nI (S k))), some (.int (nI k))]) (fun _ => hp n I L D) (fun i _ hi _ kn => ?_) (fun _ _ => ?_) 0 () (Nat.zero_le _) trivial
  · have hlt := (R i).isLt
    have hsl := hS0 i
    refine g_iload (pc := 6) dX2_sealBehind_6 rfl ?_
    refine g_aload_n (pc := 8) dX2_sealBehind_8 rfl rfl ?_
    refine g_iload_n (pc := 9) dX2_sealBehind_9 rfl rfl ?_
    refine g_iload_n (pc := 10) dX2_sealBehind_10 rfl rfl ?_
    refine g_fV (av := [.int _, .int _]) (pc := 11) dX2_sealBehind_11 mt_X2_dataIn lk_X2_329 im_X2_dataIn se_X2_dataIn np_X2_dataIn s_3 (by decide) (by decide) rfl (gc_i (gc_i gc_0)) (Nat.le_of_ble_eq_true rfl) (Nat.le_of_ble_eq_true rfl) ⟨Nat.zero_le _, Nat.zero_le _⟩ (m_X2_dataIn hS hW hj h1 hb) ?_
    refine g_icmp_geN (tgt := 55) (pc := 14) dX2_sealBehind_14 (by decide) (by omega) (by omega) (fun c14 => ?_) (fun c14 => ?_)
    · omega
    refine g_iload (pc := 17) dX2_sealBehind_17 rfl ?_
    refine g_bipush (v := nI 17) (pc := 19) dX2_sealBehind_19 rfl ?_
    refine g_imulN (pc := 21) dX2_sealBehind_21 ?_
    refine g_aload_n (pc := 22) dX2_sealBehind_22 rfl rfl ?_
    refine g_getR (pc := 23) dX2_sealBehind_23 fl_X2_26 s_3 (by decide) rfl t_3_3 ?_
    refine g_getR (pc := 26) dX2_sealBehind_26 fl_X2_236 s_29 (by decide) rfl t_29_1 ?_
    refine g_aload_n (pc := 29) dX2_sealBehind_29 rfl rfl ?_
    refine g_getR (pc := 30) dX2_sealBehind_30 fl_X2_12 s_3 (by decide) rfl t_3_0 ?_
    refine g_getR (pc := 33) dX2_sealBehind_33 fl_X2_132 s_4 (by decide) rfl t_4_6 ?_
    refine g_iload_n (pc := 36) dX2_sealBehind_36 rfl rfl ?_
    refine g_ialoadN (pc := 37) dX2_sealBehind_37 s_11 (by decide) (by omega) (by decide) (hS.2.2.1 j hj).2.2.1 ?_
    refine g_iload (pc := 38) dX2_sealBehind_38 rfl ?_
    refine g_iaddN (pc := 40) dX2_sealBehind_40 ?_
    refine g_ialoadN (pc := 41) dX2_sealBehind_41 s_31 (by decide) (by omega) (by decide) (show _ = nI (R i).val from hR i (by omega)) ?_
    refine g_iaddN (pc := 42) dX2_sealBehind_42 ?_
    refine g_sipush (v := nI 251) (pc := 43) dX2_sealBehind_43 rfl ?_
    refine g_iremN (pc := 46) dX2_sealBehind_46 (by omega) (by omega) (by omega) ?_
    rw [← hs i hi]
    refine g_istore (pc := 47) dX2_sealBehind_47 (Nat.le_of_ble_eq_true rfl) rfl ?_
    refine g_iincN (pc := 49) dX2_sealBehind_49 (Nat.le_of_ble_eq_true rfl) rfl rfl ?_
    refine g_goto (tgt := 6) (pc := 52) dX2_sealBehind_52 (by decide) ?_
    exact kn () trivial
  · have hsl := hS0 (min 8 (V (10 * j + 1) - 8 * b))
    refine g_iload (pc := 6) dX2_sealBehind_6 rfl ?_
    refine g_aload_n (pc := 8) dX2_sealBehind_8 rfl rfl ?_
    refine g_iload_n (pc := 9) dX2_sealBehind_9 rfl rfl ?_
    refine g_iload_n (pc := 10) dX2_sealBehind_10 rfl rfl ?_
    refine g_fV (av := [.int _, .int _]) (pc := 11) dX2_sealBehind_11 mt_X2_dataIn lk_X2_329 im_X2_dataIn se_X2_dataIn np_X2_dataIn s_3 (by decide) (by decide) rfl (gc_i (gc_i gc_0)) (Nat.le_of_ble_eq_true rfl) (Nat.le_of_ble_eq_true rfl) ⟨Nat.zero_le _, Nat.zero_le _⟩ (m_X2_dataIn hS hW hj h1 hb) ?_
    refine g_icmp_geN (tgt := 55) (pc := 14) dX2_sealBehind_14 (by decide) (by omega) (by omega) (fun c14 => ?_) (fun c14 => ?_)
    rotate_left
    · omega
    refine g_iload (pc := 55) dX2_sealBehind_55 rfl ?_
    refine g_iret (pc := 57) dX2_sealBehind_57 rfl rfl ?_
    first | exact ⟨rfl, rfl⟩ | exact ⟨by rw [bI_t (by first | assumption | omega)], rfl⟩ | exact ⟨by rw [bI_f (by first | assumption | omega)], rfl⟩
theorem m_X2_condition_1 (hS : Snap I 4 V C) (hW : WF V) {f : Int32} (hf : ¬ isFi V f) : gX G YX2_condition (d + 9) [.ref 3, .int f] n I L D (.inr "java/lang/IndexOutOfBoundsException") (fun J => J = I) := by
  refine g_aload_n (pc := 0) dX2_condition_0 rfl rfl ?_
  refine g_getR (pc := 1) dX2_condition_1 fl_X2_12 s_3 (by decide) rfl t_3_0 ?_
  refine g_iload_n (pc := 4) dX2_condition_4 rfl rfl ?_
  refine g_fV (av := [.int _]) (pc := 5) dX2_condition_5 mt_X1_hasFile lk_X2_117 im_X1_hasFile se_X1_hasFile np_X1_hasFile s_4 (by decide) (by decide) rfl (gc_i gc_0) (Nat.le_of_ble_eq_true rfl) (Nat.le_of_ble_eq_true rfl) ⟨Nat.zero_le _, Nat.zero_le _⟩ (m_X1_hasFile hS hW) ?_
  refine g_if_neB (tgt := 21) (pc := 8) dX2_condition_8 (by decide) (fun c8 => ?_) (fun c8 => ?_)
  · exact absurd c8 hf
  · refine g_throw (pc := 11) th_X2_condition_11 (Nat.le_of_ble_eq_true rfl) (Nat.le_of_ble_eq_true rfl) ?_
    exact ⟨_, ⟨rfl, rfl⟩, rfl⟩
noncomputable def dmS (V : Nat → Nat) (j : Nat) : Nat → Nat
  | 0 => 0
  | b + 1 => dmS V j b + dmN V j b
theorem dmS_le {V : Nat → Nat} {j : Nat} (hw : WFj V j) : ∀ b, dmS V j b ≤ 6 * b
  | 0 => Nat.le_refl _
  | b + 1 => by
    have h1 := dmS_le hw b
    have h2 : dmN V j b ≤ 6 := dd_le hw
    show dmS V j b + dmN V j b ≤ _
    omega
theorem dmS_al {V : Nat → Nat} {j : Nat} (hw : WFj V j) : ∀ b, (∀ k, k < b → isD V j k = true) → (dmS V j b = 0 ↔ ¬ alN V j b = 0)
  | 0, _ => ⟨fun _ => by unfold alN; decide, fun _ => rfl⟩
  | b + 1, h => by
    have h1 := dmS_al hw b (fun k hk => h k (by omega))
    have hd := h b (Nat.lt_succ_self b)
    have e : dmN V j b = dcN V j b + ern V j b := by unfold dmN; rw [if_pos hd]
    have he : ern V j b = 0 ↔ erN V j b = 0 := by
      refine ⟨fun q => nS_none (Nat.lt_of_lt_of_le erN_lt (p14 (sz_le hw).1)) q, fun q => ?_⟩
      unfold ern
      rw [q]
      decide
    show dmS V j b + dmN V j b = 0 ↔ ¬ (if erN V j b = 0 ∧ dcN V j b = 0 then alN V j b else 0) = 0
    by_cases q : erN V j b = 0 ∧ dcN V j b = 0
    · rw [if_pos q, e, q.2, he.mpr q.1]
      simpa using h1
    · rw [if_neg q, e]
      refine ⟨fun w => absurd ⟨he.mp (by omega), by omega⟩ q, fun w => absurd rfl w⟩
theorem m_X2_condition_0 (hK : Kt I) (hS : Snap I 4 V C) (hW : WF V) {j : Nat} (hj : j < 8) (h1 : V (10 * j) = 1) : gX G YX2_condition (d + 9) [.ref 3, .int (nI j)] n I L D (.inl (some (.int (nI (coV V j))))) (fun J => Qs I J) := by
  have hw := hW.1 j hj
  have hbl := bl_le hw
  have hn2 := hw.2.1
  have h4 := hw.2.2.2.2.1
  have hsz := sz_le hw
  have hszc : sz V j = V (10 * j + 2) + 8 := rfl
  have hbl2 : bl V j = (V (10 * j + 1) + 7) / 8 := rfl
  refine g_aload_n (pc := 0) dX2_condition_0 rfl rfl ?_
  refine g_getR (pc := 1) dX2_condition_1 fl_X2_12 s_3 (by decide) rfl t_3_0 ?_
  refine g_iload_n (pc := 4) dX2_condition_4 rfl rfl ?_
  refine g_fV (av := [.int _]) (pc := 5) dX2_condition_5 mt_X1_hasFile lk_X2_117 im_X1_hasFile se_X1_hasFile np_X1_hasFile s_4 (by decide) (by decide) rfl (gc_i gc_0) (Nat.le_of_ble_eq_true rfl) (Nat.le_of_ble_eq_true rfl) ⟨Nat.zero_le _, Nat.zero_le _⟩ (m_X1_hasFileN hS hW hj) ?_
  refine g_if_neB (tgt := 21) (pc := 8) dX2_condition_8 (by decide) (fun c8 => ?_) (fun c8 => ?_)
  rotate_left
  · exact absurd h1 c8
  refine g_iconst (v := nI 1) (pc := 21) dX2_condition_21 rfl ?_
  refine g_istore_n (pc := 22) dX2_condition_22 rfl (Nat.le_of_ble_eq_true rfl) rfl ?_
  refine g_iconst (v := nI 0) (pc := 23) dX2_condition_23 rfl ?_
  refine g_istore_n (pc := 24) dX2_condition_24 rfl (Nat.le_of_ble_eq_true rfl) rfl ?_
  refine g_iconst (v := nI 0) (pc := 25) dX2_condition_25 rfl ?_
  refine g_istore (pc := 26) dX2_condition_26 (Nat.le_of_ble_eq_true rfl) rfl ?_
  refine g_loop (bl V j) (fun k J => Qs I J ∧ ∀ b, b < k → isD V j b = true) (fun k _ => [some (.ref 3), some (.int (nI j)), some (.int (nI (slN V j (min (8 * k) (V (10 * j + 1)))))), some (.int (nI (dmS V j k))), some (.int (nI k))]) (fun J => hp n J L D) (fun b J hb hJ kn => ?_) (fun J hJ => ?_) 0 I (Nat.zero_le _) ⟨Qs.r, fun b hb => absurd hb (Nat.not_lt_zero b)⟩
  · obtain ⟨u1, u2⟩ := hJ
    have hSJ := u1.s hS
    have hKJ := u1.k hK
    have hds := dmS_le hw b
    have hdd : dmN V j b ≤ 6 := dd_le hw
    refine g_iload (pc := 28) dX2_condition_28 rfl ?_
    refine g_aload_n (pc := 30) dX2_condition_30 rfl rfl ?_
    refine g_getR (pc := 31) dX2_condition_31 fl_X2_12 s_3 (by decide) rfl t_3_0 ?_
    refine g_getR (pc := 34) dX2_condition_34 fl_X2_141 s_4 (by decide) rfl t_4_5 ?_
    refine g_iload_n (pc := 37) dX2_condition_37 rfl rfl ?_
    refine g_ialoadN (pc := 38) dX2_condition_38 s_10 (by decide) (by omega) (by decide) (hSJ.2.2.1 j hj).2.1 ?_
    refine g_icmp_geN (tgt := 86) (pc := 39) dX2_condition_39 (by decide) (by omega) (by omega) (fun c39 => ?_) (fun c39 => ?_)
    · omega
    refine g_aload_n (pc := 42) dX2_condition_42 rfl rfl ?_
    refine g_getR (pc := 43) dX2_condition_43 fl_X2_26 s_3 (by decide) rfl t_3_3 ?_
    refine g_aload_n (pc := 46) dX2_condition_46 rfl rfl ?_
    refine g_getR (pc := 47) dX2_condition_47 fl_X2_12 s_3 (by decide) rfl t_3_0 ?_
    refine g_iload_n (pc := 50) dX2_condition_50 rfl rfl ?_
    refine g_iload (pc := 51) dX2_condition_51 rfl ?_
    refine g_riV (av := [.ref 4, .int _, .int _]) (pc := 53) dX2_condition_53 mt_X0_decode lk_X2_219 im_X0_decode se_X0_decode np_X0_decode s_29 (by decide) (by decide) rfl (gc_r (gc_i (gc_i gc_0))) (Nat.le_of_ble_eq_true rfl) (Nat.le_of_ble_eq_true rfl) (m_X0_decode hKJ hSJ hW hj h1 hb) ?_
    rintro _ I1 ⟨rfl, k1, k2, k3, k4, k5⟩
    refine g_if_neB (tgt := 61) (pc := 56) dX2_condition_56 (by decide) (fun c56 => ?_) (fun c56 => ?_)
    rotate_left
    · refine g_iconst (v := nI 3) (pc := 59) dX2_condition_59 rfl ?_
      refine g_iret (pc := 60) dX2_condition_60 rfl rfl ?_
      exact ⟨_, ⟨by unfold coV; rw [if_neg (fun q => c56 ((udN_wh _).mp q b hb))], rfl⟩, u1.t (k5.mono (by decide))⟩
    have hQ : dQ V j b J (bI (isD V j b = true)) I1 := ⟨rfl, k1, k2, k3, k4, k5⟩
    have hS1 := hQ.q.s hSJ
    have e0 : min (8 * b) (V (10 * j + 1)) = 8 * b := by omega
    have e1 : 8 * b + min 8 (V (10 * j + 1) - 8 * b) = min (8 * (b + 1)) (V (10 * j + 1)) := by omega
    have hsb := m_X2_sealBehind (G := G) (d := d + 7) (n := n) (L := L) (D := D) hS1 hW hj h1 hb (S := fun i => slN V j (8 * b + i)) (R := fun i => dcX V j b (V (10 * j + 2) + i)) (fun i => slN_le V j _) (fun i hi => (k3 c56).2.2 _ (by omega)) (fun i hi => by
      show slN V j (8 * b + i + 1) = _
      rw [slN, show (8 * b + i) / 8 = b by omega, show (8 * b + i) % 8 = i by omega])
    simp only [Nat.add_zero] at hsb
    rw [e0]
    rw [e1] at hsb
    refine g_iload_n (pc := 61) dX2_condition_61 rfl rfl ?_
    refine g_aload_n (pc := 62) dX2_condition_62 rfl rfl ?_
    refine g_getR (pc := 63) dX2_condition_63 fl_X2_26 s_3 (by decide) rfl t_3_3 ?_
    refine g_fV (av := []) (pc := 66) dX2_condition_66 mt_X0_damageCount lk_X2_241 im_X0_damageCount se_X0_damageCount np_X0_damageCount s_29 (by decide) (by decide) rfl gc_0 (Nat.le_of_ble_eq_true rfl) (Nat.le_of_ble_eq_true rfl) ⟨Nat.zero_le _, Nat.zero_le _⟩ (m_X0_dmg hQ hsz.1) ?_
    refine g_iaddN (pc := 69) dX2_condition_69 ?_
    refine g_istore_n (pc := 70) dX2_condition_70 rfl (Nat.le_of_ble_eq_true rfl) rfl ?_
    refine g_aload_n (pc := 71) dX2_condition_71 rfl rfl ?_
    refine g_iload_n (pc := 72) dX2_condition_72 rfl rfl ?_
    refine g_iload_n (pc := 73) dX2_condition_73 rfl rfl ?_
    refine g_iload (pc := 74) dX2_condition_74 rfl ?_
    refine g_fV (av := [.int _, .int _, .int _]) (pc := 76) dX2_condition_76 mt_X2_sealBehind lk_X2_244 im_X2_sealBehind se_X2_sealBehind np_X2_sealBehind s_3 (by decide) (by decide) rfl (gc_i (gc_i (gc_i gc_0))) (Nat.le_of_ble_eq_true rfl) (Nat.le_of_ble_eq_true rfl) ⟨Nat.zero_le _, Nat.zero_le _⟩ hsb ?_
    refine g_istore_n (pc := 79) dX2_condition_79 rfl (Nat.le_of_ble_eq_true rfl) rfl ?_
    refine g_iincN (pc := 80) dX2_condition_80 (Nat.le_of_ble_eq_true rfl) rfl rfl ?_
    refine g_goto (tgt := 28) (pc := 83) dX2_condition_83 (by decide) ?_
    refine kn _ ⟨u1.t hQ.q, fun k hk => ?_⟩
    rcases Nat.lt_or_ge k b with w | w
    · exact u2 k w
    · rw [show k = b by omega]; exact c56
  · obtain ⟨u1, u2⟩ := hJ
    have hSJ := u1.s hS
    have hds := dmS_le hw (bl V j)
    have hsl := slN_le V j (V (10 * j + 1))
    have e0 : min (8 * bl V j) (V (10 * j + 1)) = V (10 * j + 1) := by omega
    have hal := dmS_al hw (bl V j) u2
    have hud := (udN_wh (bl V j)).mpr u2
    rw [e0]
    refine g_iload (pc := 28) dX2_condition_28 rfl ?_
    refine g_aload_n (pc := 30) dX2_condition_30 rfl rfl ?_
    refine g_getR (pc := 31) dX2_condition_31 fl_X2_12 s_3 (by decide) rfl t_3_0 ?_
    refine g_getR (pc := 34) dX2_condition_34 fl_X2_141 s_4 (by decide) rfl t_4_5 ?_
    refine g_iload_n (pc := 37) dX2_condition_37 rfl rfl ?_
    refine g_ialoadN (pc := 38) dX2_condition_38 s_10 (by decide) (by omega) (by decide) (hSJ.2.2.1 j hj).2.1 ?_
    refine g_icmp_geN (tgt := 86) (pc := 39) dX2_condition_39 (by decide) (by omega) (by omega) (fun c39 => ?_) (fun c39 => ?_)
    rotate_left
    · omega
    refine g_iload_n (pc := 86) dX2_condition_86 rfl rfl ?_
    refine g_aload_n (pc := 87) dX2_condition_87 rfl rfl ?_
    refine g_getR (pc := 88) dX2_condition_88 fl_X2_12 s_3 (by decide) rfl t_3_0 ?_
    refine g_getR (pc := 91) dX2_condition_91 fl_X2_138 s_4 (by decide) rfl t_4_8 ?_
    refine g_iload_n (pc := 94) dX2_condition_94 rfl rfl ?_
    refine g_ialoadN (pc := 95) dX2_condition_95 s_13 (by decide) (by omega) (by decide) (hSJ.2.2.1 j hj).2.2.2.2.1 ?_
    refine g_icmp_eqN (tgt := 101) (pc := 96) dX2_condition_96 (by decide) (by omega) (by omega) (fun c96 => ?_) (fun c96 => ?_)
    · refine g_iload_n (pc := 101) dX2_condition_101 rfl rfl ?_
      refine g_if_neN (tgt := 109) (pc := 102) dX2_condition_102 (by decide) (by omega) (fun c102 => ?_) (fun c102 => ?_)
      · refine g_iconst (v := nI 1) (pc := 109) dX2_condition_109 rfl ?_
        refine g_iret (pc := 110) dX2_condition_110 rfl rfl ?_
        refine ⟨_, ⟨?_, rfl⟩, u1⟩
        unfold coV
        rw [if_pos hud]
        first
          | (rw [if_neg c96]; done)
          | (rw [if_pos c96, if_pos (Decidable.not_not.mp (fun q => c102 (hal.mpr q)))]; done)
          | (rw [if_pos c96, if_neg (hal.mp c102)]; done)
      · refine g_iconst (v := nI 0) (pc := 105) dX2_condition_105 rfl ?_
        refine g_goto (tgt := 110) (pc := 106) dX2_condition_106 (by decide) ?_
        refine g_iret (pc := 110) dX2_condition_110 rfl rfl ?_
        refine ⟨_, ⟨?_, rfl⟩, u1⟩
        unfold coV
        rw [if_pos hud]
        first
          | (rw [if_neg c96]; done)
          | (rw [if_pos c96, if_pos (Decidable.not_not.mp (fun q => c102 (hal.mpr q)))]; done)
          | (rw [if_pos c96, if_neg (hal.mp c102)]; done)
    · refine g_iconst (v := nI 2) (pc := 99) dX2_condition_99 rfl ?_
      refine g_iret (pc := 100) dX2_condition_100 rfl rfl ?_
      refine ⟨_, ⟨?_, rfl⟩, u1⟩
      unfold coV
      rw [if_pos hud]
      first
        | (rw [if_neg c96]; done)
        | (rw [if_pos c96, if_pos (Decidable.not_not.mp (fun q => c102 (hal.mpr q)))]; done)
        | (rw [if_pos c96, if_neg (hal.mp c102)]; done)
end

