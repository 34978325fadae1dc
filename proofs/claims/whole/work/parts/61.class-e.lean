/-! ===== the class: describe, burstLimit ===== -/
theorem cnt_split {p q r : Nat → Bool} : ∀ {k : Nat}, (∀ i, i < k → (p i = true ↔ q i = true ∨ r i = true) ∧ ¬ (q i = true ∧ r i = true)) → cnt p k = cnt q k + cnt r k
  | 0, _ => rfl
  | k + 1, h => by
    have ih := cnt_split (p := p) (q := q) (r := r) (k := k) (fun i hi => h i (by omega))
    obtain ⟨h1, h2⟩ := h k (Nat.lt_succ_self k)
    cases hq : q k <;> cases hr : r k <;> cases hp : p k <;> rw [hq, hr, hp] at h1 <;> simp at h1
    · rw [cnt_f hp, cnt_f hq, cnt_f hr]; omega
    · rw [cnt_t hp, cnt_f hq, cnt_t hr]; omega
    · rw [cnt_t hp, cnt_t hq, cnt_f hr]; omega
    · exact absurd ⟨hq, hr⟩ h2
theorem cnt_1 {r : Nat → Bool} {i0 : Nat} : ∀ {k : Nat}, i0 < k → r i0 = true → (∀ i, i < k → i ≠ i0 → r i = false) → cnt r k = 1
  | 0, h, _, _ => absurd h (Nat.not_lt_zero _)
  | k + 1, h, ht, hf => by
    by_cases e : i0 = k
    · subst e
      rw [cnt_t ht, cnt_z (fun i hi => hf i (by omega) (by omega))]
    · rw [cnt_f (hf k (Nat.lt_succ_self k) (fun q => e q.symm)), cnt_1 (by omega) ht (fun i hi hn => hf i (by omega) hn)]
def ov (V : Nat → Nat) (j fr ln b : Nat) : Nat := ovB V j fr ln b (sz V j)
theorem ov_0 {V : Nat → Nat} {j fr b : Nat} : ov V j fr 0 b = 0 := cnt_z (fun i _ => decide_eq_false (by omega))
theorem ov_up {V : Nat → Nat} {j fr ln b : Nat} (hw : WFj V j) (h1 : V (10 * j) = 1) (hb : b < bl V j) (hc : V (10 * j + 5) ≤ fr + ln ∧ fr + ln < V (10 * j + 5) + ce V j) : ov V j fr (ln + 1) b = ov V j fr ln b + (if plB V j (fr + ln) = b then 1 else 0) := by
  have hs : ov V j fr (ln + 1) b = ov V j fr ln b + cnt (fun i => decide (cellN V j b i = fr + ln)) (sz V j) := by
    refine cnt_split (fun i hi => ?_)
    simp only [decide_eq_true_eq]
    constructor
    · omega
    · omega
  obtain ⟨e1, e2, e3⟩ := geo_ex hw h1 hc
  rw [hs]
  by_cases e : plB V j (fr + ln) = b
  · rw [if_pos e, cnt_1 (i0 := plI V j (fr + ln)) e2 (decide_eq_true (by rw [← e]; exact e3)) (fun i hi hn => decide_eq_false (fun q => hn ?_))]
    have := (geo_pl hw h1 hb hi).2.2
    rw [q] at this
    exact this.symm
  · rw [if_neg e, cnt_z (fun i hi => decide_eq_false (fun q => e ?_))]
    have := (geo_pl hw h1 hb hi).2.1
    rw [q] at this
    exact this
theorem isBL_ex (V : Nat → Nat) (j : Nat) : ∃ r, isBL V j r := by
  by_cases h : ∀ ln, 1 ≤ ln → ln ≤ ce V j → ∀ fr, V (10 * j + 5) ≤ fr → fr + ln ≤ V (10 * j + 5) + ce V j → isSt V j fr ln
  · exact ⟨ce V j, Nat.le_refl _, h, fun q => absurd q (Nat.lt_irrefl _)⟩
  · have hex : ∃ k, ¬ ∀ ln, 1 ≤ ln → ln ≤ k → ∀ fr, V (10 * j + 5) ≤ fr → fr + ln ≤ V (10 * j + 5) + ce V j → isSt V j fr ln := ⟨_, h⟩
    obtain ⟨k, hk, hm⟩ := pk_least _ hex
    have hkc : k ≤ ce V j := by
      rcases Nat.lt_or_ge (ce V j) k with w | w
      · exact absurd h (hm _ w)
      · exact w
    have hk0 : 1 ≤ k := by
      rcases Nat.lt_or_ge k 1 with w | w
      · exact absurd (fun ln q1 q2 => absurd q1 (by omega)) hk
      · exact w
    have hp := Classical.not_not.mp (hm (k - 1) (by omega))
    refine ⟨k - 1, by omega, hp, fun _ => ?_⟩
    rw [show k - 1 + 1 = k by omega]
    refine Classical.byContradiction (fun hno => hk (fun ln q1 q2 fr q3 q4 => ?_))
    by_cases e : ln = k
    · subst e
      exact Classical.byContradiction (fun q => hno ⟨fr, q3, q4, q⟩)
    · exact hp ln q1 (by omega) fr q3 q4
section
variable {G : gG} {d n : Nat} {I : Nat → Nat → Int32} {L : Nat → Nat → Int64} {D : Nat → Nat → UInt64} {V : Nat → Nat}
variable {C : Nat → Int32}
theorem l_X2_head_0 (hS : Snap I 4 V C) (hW : WF V) {j : Nat} (hj : j < 8) (h1 : V (10 * j) = 1) : gFn G YX2_headCharacter d [.ref 3, .int (nI j), .int (nI 0)] (hp n I L D) (.inl (some (.int (nI (48 + V (10 * j + 2)))))) (hp n I L D) 0 0 := by
  have hc6 := (hW.1 j hj).2.2.1
  have hc4 := (hW.1 j hj).2.2.2.1
  refine g_iload_n (pc := 0) dX2_headCharacter_0 rfl rfl ?_
  refine g_tabIn (pc := 1) (tgt := 28) dX2_headCharacter_1 (by decide) (by decide) rfl (by decide) ?_
  refine g_bipush (v := nI 48) (pc := 28) dX2_headCharacter_28 rfl ?_
  refine g_aload_n (pc := 30) dX2_headCharacter_30 rfl rfl ?_
  refine g_getR (pc := 31) dX2_headCharacter_31 fl_X2_12 s_3 (by decide) rfl t_3_0 ?_
  refine g_getR (pc := 34) dX2_headCharacter_34 fl_X2_132 s_4 (by decide) rfl t_4_6 ?_
  refine g_iload_n (pc := 37) dX2_headCharacter_37 rfl rfl ?_
  refine g_ialoadN (pc := 38) dX2_headCharacter_38 s_11 (by decide) (by omega) (by decide) (hS.2.2.1 j hj).2.2.1 ?_
  refine g_iaddN (pc := 39) dX2_headCharacter_39 ?_
  refine g_iret (pc := 40) dX2_headCharacter_40 rfl rfl ?_
  first | exact ⟨rfl, rfl⟩ | exact ⟨by rw [bI_t (by first | assumption | omega)], rfl⟩ | exact ⟨by rw [bI_f (by first | assumption | omega)], rfl⟩
theorem l_X2_head_1 (hS : Snap I 4 V C) (hW : WF V) {j : Nat} (hj : j < 8) (h1 : V (10 * j) = 1) : gFn G YX2_headCharacter d [.ref 3, .int (nI j), .int (nI 1)] (hp n I L D) (.inl (some (.int (nI 42)))) (hp n I L D) 0 0 := by
  have hc6 := (hW.1 j hj).2.2.1
  have hc4 := (hW.1 j hj).2.2.2.1
  refine g_iload_n (pc := 0) dX2_headCharacter_0 rfl rfl ?_
  refine g_tabIn (pc := 1) (tgt := 41) dX2_headCharacter_1 (by decide) (by decide) rfl (by decide) ?_
  refine g_bipush (v := nI 42) (pc := 41) dX2_headCharacter_41 rfl ?_
  refine g_iret (pc := 43) dX2_headCharacter_43 rfl rfl ?_
  first | exact ⟨rfl, rfl⟩ | exact ⟨by rw [bI_t (by first | assumption | omega)], rfl⟩ | exact ⟨by rw [bI_f (by first | assumption | omega)], rfl⟩
theorem l_X2_head_2 (hS : Snap I 4 V C) (hW : WF V) {j : Nat} (hj : j < 8) (h1 : V (10 * j) = 1) : gFn G YX2_headCharacter d [.ref 3, .int (nI j), .int (nI 2)] (hp n I L D) (.inl (some (.int (nI (48 + V (10 * j + 3)))))) (hp n I L D) 0 0 := by
  have hc6 := (hW.1 j hj).2.2.1
  have hc4 := (hW.1 j hj).2.2.2.1
  refine g_iload_n (pc := 0) dX2_headCharacter_0 rfl rfl ?_
  refine g_tabIn (pc := 1) (tgt := 44) dX2_headCharacter_1 (by decide) (by decide) rfl (by decide) ?_
  refine g_bipush (v := nI 48) (pc := 44) dX2_headCharacter_44 rfl ?_
  refine g_aload_n (pc := 46) dX2_headCharacter_46 rfl rfl ?_
  refine g_getR (pc := 47) dX2_headCharacter_47 fl_X2_12 s_3 (by decide) rfl t_3_0 ?_
  refine g_getR (pc := 50) dX2_headCharacter_50 fl_X2_135 s_4 (by decide) rfl t_4_7 ?_
  refine g_iload_n (pc := 53) dX2_headCharacter_53 rfl rfl ?_
  refine g_ialoadN (pc := 54) dX2_headCharacter_54 s_12 (by decide) (by omega) (by decide) (hS.2.2.1 j hj).2.2.2.1 ?_
  refine g_iaddN (pc := 55) dX2_headCharacter_55 ?_
  refine g_iret (pc := 56) dX2_headCharacter_56 rfl rfl ?_
  first | exact ⟨rfl, rfl⟩ | exact ⟨by rw [bI_t (by first | assumption | omega)], rfl⟩ | exact ⟨by rw [bI_f (by first | assumption | omega)], rfl⟩
theorem l_X2_head_3 (hS : Snap I 4 V C) (hW : WF V) {j : Nat} (hj : j < 8) (h1 : V (10 * j) = 1) : gFn G YX2_headCharacter d [.ref 3, .int (nI j), .int (nI 3)] (hp n I L D) (.inl (some (.int (nI 58)))) (hp n I L D) 0 0 := by
  have hc6 := (hW.1 j hj).2.2.1
  have hc4 := (hW.1 j hj).2.2.2.1
  refine g_iload_n (pc := 0) dX2_headCharacter_0 rfl rfl ?_
  refine g_tabOut (pc := 1) (tgt := 57) dX2_headCharacter_1 (by decide) (by decide) ?_
  refine g_bipush (v := nI 58) (pc := 57) dX2_headCharacter_57 rfl ?_
  refine g_iret (pc := 59) dX2_headCharacter_59 rfl rfl ?_
  first | exact ⟨rfl, rfl⟩ | exact ⟨by rw [bI_t (by first | assumption | omega)], rfl⟩ | exact ⟨by rw [bI_f (by first | assumption | omega)], rfl⟩
theorem m_X2_headCharacter (hS : Snap I 4 V C) (hW : WF V) {j : Nat} (hj : j < 8) (h1 : V (10 * j) = 1) {i : Nat} (hi : i < 4) : gFn G YX2_headCharacter d [.ref 3, .int (nI j), .int (nI i)] (hp n I L D) (.inl (some (.int (nI (deV V j i))))) (hp n I L D) 0 0 := by
  rcases (by omega : i = 0 ∨ i = 1 ∨ i = 2 ∨ i = 3) with q | q | q | q <;> subst q
  · exact l_X2_head_0 hS hW hj h1
  · exact l_X2_head_1 hS hW hj h1
  · exact l_X2_head_2 hS hW hj h1
  · exact l_X2_head_3 hS hW hj h1
theorem deV_4 {V : Nat → Nat} {j i : Nat} : deV V j (i + 4) = if (dcX V j (i / 8) (V (10 * j + 2) + i % 8)).val < 10 then 48 + (dcX V j (i / 8) (V (10 * j + 2) + i % 8)).val else 97 + (dcX V j (i / 8) (V (10 * j + 2) + i % 8)).val - 10 := by
  unfold deV
  rw [if_neg (by omega), if_neg (by omega), if_neg (by omega), if_neg (by omega), show i + 4 - 4 = i by omega]
theorem m_X2_dataCharacter (hK : Kt I) (hS : Snap I 4 V C) (hW : WF V) {j : Nat} (hj : j < 8) (h1 : V (10 * j) = 1) {i : Nat} (hi : i < V (10 * j + 1)) (hd : isD V j (i / 8) = true) : gRi G YX2_dataCharacter (d + 7) [.ref 3, .int (nI j), .int (nI i)] n I L D (fun v J => v = nI (deV V j (i + 4)) ∧ Qs I J) := by
  have hw := hW.1 j hj
  have hn2 := hw.2.1
  have hc6 := hw.2.2.1
  have hsz : sz V j = V (10 * j + 2) + 8 := rfl
  have hb : i / 8 < bl V j := by unfold bl; omega
  have hlt := (dcX V j (i / 8) (V (10 * j + 2) + i % 8)).isLt
  refine g_aload_n (pc := 0) dX2_dataCharacter_0 rfl rfl ?_
  refine g_getR (pc := 1) dX2_dataCharacter_1 fl_X2_26 s_3 (by decide) rfl t_3_3 ?_
  refine g_aload_n (pc := 4) dX2_dataCharacter_4 rfl rfl ?_
  refine g_getR (pc := 5) dX2_dataCharacter_5 fl_X2_12 s_3 (by decide) rfl t_3_0 ?_
  refine g_iload_n (pc := 8) dX2_dataCharacter_8 rfl rfl ?_
  refine g_iload_n (pc := 9) dX2_dataCharacter_9 rfl rfl ?_
  refine g_bipush (v := nI 8) (pc := 10) dX2_dataCharacter_10 rfl ?_
  refine g_idivN (pc := 12) dX2_dataCharacter_12 (by omega) (by omega) (by omega) ?_
  refine g_riV (av := [.ref 4, .int _, .int _]) (pc := 13) dX2_dataCharacter_13 mt_X0_decode lk_X2_219 im_X0_decode se_X0_decode np_X0_decode s_29 (by decide) (by decide) rfl (gc_r (gc_i (gc_i gc_0))) (Nat.le_of_ble_eq_true rfl) (Nat.le_of_ble_eq_true rfl) (m_X0_decode hK hS hW hj h1 hb) ?_
  rintro _ I1 ⟨rfl, k1, k2, k3, k4, k5⟩
  refine g_pop (pc := 16) dX2_dataCharacter_16 rfl ?_
  refine g_aload_n (pc := 17) dX2_dataCharacter_17 rfl rfl ?_
  refine g_getR (pc := 18) dX2_dataCharacter_18 fl_X2_26 s_3 (by decide) rfl t_3_3 ?_
  refine g_getR (pc := 21) dX2_dataCharacter_21 fl_X2_236 s_29 (by decide) rfl t_29_1 ?_
  refine g_aload_n (pc := 24) dX2_dataCharacter_24 rfl rfl ?_
  refine g_getR (pc := 25) dX2_dataCharacter_25 fl_X2_12 s_3 (by decide) rfl t_3_0 ?_
  refine g_getR (pc := 28) dX2_dataCharacter_28 fl_X2_132 s_4 (by decide) rfl t_4_6 ?_
  refine g_iload_n (pc := 31) dX2_dataCharacter_31 rfl rfl ?_
  refine g_ialoadN (pc := 32) dX2_dataCharacter_32 s_11 (by decide) (by omega) (by decide) (((Qs.s (Sm.mono k5 (by decide)) hS).2.2.1 j hj).2.2.1) ?_
  refine g_iload_n (pc := 33) dX2_dataCharacter_33 rfl rfl ?_
  refine g_bipush (v := nI 8) (pc := 34) dX2_dataCharacter_34 rfl ?_
  refine g_iremN (pc := 36) dX2_dataCharacter_36 (by omega) (by omega) (by omega) ?_
  refine g_iaddN (pc := 37) dX2_dataCharacter_37 ?_
  refine g_ialoadN (pc := 38) dX2_dataCharacter_38 s_31 (by decide) (by omega) (by decide) (show _ = nI (dcX V j (i / 8) (V (10 * j + 2) + i % 8)).val from (k3 hd).2.2 _ (by omega)) ?_
  refine g_istore_n (pc := 39) dX2_dataCharacter_39 rfl (Nat.le_of_ble_eq_true rfl) rfl ?_
  refine g_iload_n (pc := 40) dX2_dataCharacter_40 rfl rfl ?_
  refine g_bipush (v := nI 10) (pc := 41) dX2_dataCharacter_41 rfl ?_
  refine g_icmp_geN (tgt := 53) (pc := 43) dX2_dataCharacter_43 (by decide) (by omega) (by omega) (fun c43 => ?_) (fun c43 => ?_)
  · refine g_bipush (v := nI 97) (pc := 53) dX2_dataCharacter_53 rfl ?_
    refine g_iload_n (pc := 55) dX2_dataCharacter_55 rfl rfl ?_
    refine g_iaddN (pc := 56) dX2_dataCharacter_56 ?_
    refine g_bipush (v := nI 10) (pc := 57) dX2_dataCharacter_57 rfl ?_
    refine g_isubN (pc := 59) dX2_dataCharacter_59 (by omega) ?_
    refine g_iret (pc := 60) dX2_dataCharacter_60 rfl rfl ?_
    refine ⟨_, _, ⟨rfl, rfl⟩, ?_⟩
    first
      | exact ⟨by rw [deV_4, if_pos (by omega)], k5.mono (by decide)⟩
      | exact ⟨by rw [deV_4, if_neg (by omega)], k5.mono (by decide)⟩
  · refine g_bipush (v := nI 48) (pc := 46) dX2_dataCharacter_46 rfl ?_
    refine g_iload_n (pc := 48) dX2_dataCharacter_48 rfl rfl ?_
    refine g_iaddN (pc := 49) dX2_dataCharacter_49 ?_
    refine g_goto (tgt := 60) (pc := 50) dX2_dataCharacter_50 (by decide) ?_
    refine g_iret (pc := 60) dX2_dataCharacter_60 rfl rfl ?_
    refine ⟨_, _, ⟨rfl, rfl⟩, ?_⟩
    first
      | exact ⟨by rw [deV_4, if_pos (by omega)], k5.mono (by decide)⟩
      | exact ⟨by rw [deV_4, if_neg (by omega)], k5.mono (by decide)⟩
theorem m_X2_describe_1 (hS : Snap I 4 V C) (hW : WF V) {f i : Int32} (hf : ¬ isFi V f) : gX G YX2_describe (d + 9) [.ref 3, .int f, .int i] n I L D (.inr "java/lang/IndexOutOfBoundsException") (fun J => J = I) := by
  refine g_aload_n (pc := 0) dX2_describe_0 rfl rfl ?_
  refine g_getR (pc := 1) dX2_describe_1 fl_X2_12 s_3 (by decide) rfl t_3_0 ?_
  refine g_iload_n (pc := 4) dX2_describe_4 rfl rfl ?_
  refine g_fV (av := [.int _]) (pc := 5) dX2_describe_5 mt_X1_hasFile lk_X2_117 im_X1_hasFile se_X1_hasFile np_X1_hasFile s_4 (by decide) (by decide) rfl (gc_i gc_0) (Nat.le_of_ble_eq_true rfl) (Nat.le_of_ble_eq_true rfl) ⟨Nat.zero_le _, Nat.zero_le _⟩ (m_X1_hasFile hS hW) ?_
  refine g_if_neB (tgt := 21) (pc := 8) dX2_describe_8 (by decide) (fun c8 => ?_) (fun c8 => ?_)
  · exact absurd c8 hf
  · refine g_throw (pc := 11) th_X2_describe_11 (Nat.le_of_ble_eq_true rfl) (Nat.le_of_ble_eq_true rfl) ?_
    exact ⟨_, ⟨rfl, rfl⟩, rfl⟩
theorem m_X2_describe_2 (hK : Kt I) (hS : Snap I 4 V C) (hW : WF V) {j : Nat} (hj : j < 8) (h1 : V (10 * j) = 1) (hu : ¬ udN V j (bl V j) = 0) {i : Int32} : gX G YX2_describe (d + 9) [.ref 3, .int (nI j), .int i] n I L D (.inr "java/lang/IllegalStateException") (fun J => Qs I J) := by
  have hul := udN_le (V := V) (j := j) (bl V j)
  have hbl := bl_le (hW.1 j hj)
  have hp4 : 2 ^ bl V j ≤ 16 := Nat.pow_le_pow_right (n := 2) (by decide) hbl
  refine g_aload_n (pc := 0) dX2_describe_0 rfl rfl ?_
  refine g_getR (pc := 1) dX2_describe_1 fl_X2_12 s_3 (by decide) rfl t_3_0 ?_
  refine g_iload_n (pc := 4) dX2_describe_4 rfl rfl ?_
  refine g_fV (av := [.int _]) (pc := 5) dX2_describe_5 mt_X1_hasFile lk_X2_117 im_X1_hasFile se_X1_hasFile np_X1_hasFile s_4 (by decide) (by decide) rfl (gc_i gc_0) (Nat.le_of_ble_eq_true rfl) (Nat.le_of_ble_eq_true rfl) ⟨Nat.zero_le _, Nat.zero_le _⟩ (m_X1_hasFileN hS hW hj) ?_
  refine g_if_neB (tgt := 21) (pc := 8) dX2_describe_8 (by decide) (fun c8 => ?_) (fun c8 => ?_)
  rotate_left
  · exact absurd h1 c8
  refine g_aload_n (pc := 21) dX2_describe_21 rfl rfl ?_
  refine g_iload_n (pc := 22) dX2_describe_22 rfl rfl ?_
  refine g_riV (av := [.int _]) (pc := 23) dX2_describe_23 mt_X2_lostBlocks lk_X2_247 im_X2_lostBlocks se_X2_lostBlocks np_X2_lostBlocks s_3 (by decide) (by decide) rfl (gc_i gc_0) (Nat.le_of_ble_eq_true rfl) (Nat.le_of_ble_eq_true rfl) (m_X2_lostBlocks hK hS hW hj h1) ?_
  rintro _ I1 ⟨rfl, hQ⟩
  refine g_if_eqN (tgt := 40) (pc := 26) dX2_describe_26 (by decide) (by omega) (fun c26 => ?_) (fun c26 => ?_)
  · exact absurd c26 hu
  · refine g_throw (pc := 29) th_X2_describe_29 (Nat.le_of_ble_eq_true rfl) (Nat.le_of_ble_eq_true rfl) ?_
    exact ⟨_, ⟨rfl, rfl⟩, hQ⟩
theorem m_X2_describe_3 (hK : Kt I) (hS : Snap I 4 V C) (hW : WF V) {j : Nat} (hj : j < 8) (h1 : V (10 * j) = 1) (hu : udN V j (bl V j) = 0) {i : Int32} (hi : ¬ (-1 ≤ i ∧ i ≤ nI (V (10 * j + 1) + 3))) : gX G YX2_describe (d + 9) [.ref 3, .int (nI j), .int i] n I L D (.inr "java/util/NoSuchElementException") (fun J => Qs I J) := by
  have hul := udN_le (V := V) (j := j) (bl V j)
  have hbl := bl_le (hW.1 j hj)
  have hp4 : 2 ^ bl V j ≤ 16 := Nat.pow_le_pow_right (n := 2) (by decide) hbl
  have hn2 := (hW.1 j hj).2.1
  rw [Int32.le_iff_toInt_le, Int32.le_iff_toInt_le, nI_toInt (by omega)] at hi
  have em : (-1 : Int32).toInt = -1 := rfl
  have e0 : (0 : Int32).toInt = 0 := rfl
  have en : (nI (4 + V (10 * j + 1))).toInt = ((4 + V (10 * j + 1) : Nat) : Int) := nI_toInt (by omega)
  refine g_aload_n (pc := 0) dX2_describe_0 rfl rfl ?_
  refine g_getR (pc := 1) dX2_describe_1 fl_X2_12 s_3 (by decide) rfl t_3_0 ?_
  refine g_iload_n (pc := 4) dX2_describe_4 rfl rfl ?_
  refine g_fV (av := [.int _]) (pc := 5) dX2_describe_5 mt_X1_hasFile lk_X2_117 im_X1_hasFile se_X1_hasFile np_X1_hasFile s_4 (by decide) (by decide) rfl (gc_i gc_0) (Nat.le_of_ble_eq_true rfl) (Nat.le_of_ble_eq_true rfl) ⟨Nat.zero_le _, Nat.zero_le _⟩ (m_X1_hasFileN hS hW hj) ?_
  refine g_if_neB (tgt := 21) (pc := 8) dX2_describe_8 (by decide) (fun c8 => ?_) (fun c8 => ?_)
  rotate_left
  · exact absurd h1 c8
  refine g_aload_n (pc := 21) dX2_describe_21 rfl rfl ?_
  refine g_iload_n (pc := 22) dX2_describe_22 rfl rfl ?_
  refine g_riV (av := [.int _]) (pc := 23) dX2_describe_23 mt_X2_lostBlocks lk_X2_247 im_X2_lostBlocks se_X2_lostBlocks np_X2_lostBlocks s_3 (by decide) (by decide) rfl (gc_i gc_0) (Nat.le_of_ble_eq_true rfl) (Nat.le_of_ble_eq_true rfl) (m_X2_lostBlocks hK hS hW hj h1) ?_
  rintro _ I1 ⟨rfl, hQ⟩
  refine g_if_eqN (tgt := 40) (pc := 26) dX2_describe_26 (by decide) (by omega) (fun c26 => ?_) (fun c26 => ?_)
  rotate_left
  · exact absurd hu c26
  refine g_iconst (v := nI 4) (pc := 40) dX2_describe_40 rfl ?_
  refine g_aload_n (pc := 41) dX2_describe_41 rfl rfl ?_
  refine g_getR (pc := 42) dX2_describe_42 fl_X2_12 s_3 (by decide) rfl t_3_0 ?_
  refine g_getR (pc := 45) dX2_describe_45 fl_X2_129 s_4 (by decide) rfl t_4_4 ?_
  refine g_iload_n (pc := 48) dX2_describe_48 rfl rfl ?_
  refine g_ialoadN (pc := 49) dX2_describe_49 s_9 (by decide) (by omega) (by decide) ((hQ.s hS).2.2.1 j hj).1 ?_
  refine g_iaddN (pc := 50) dX2_describe_50 ?_
  refine g_istore_n (pc := 51) dX2_describe_51 rfl (Nat.le_of_ble_eq_true rfl) rfl ?_
  refine g_iload_n (pc := 52) dX2_describe_52 rfl rfl ?_
  refine g_iconst (v := (-1)) (pc := 53) dX2_describe_53 rfl ?_
  refine g_icmp_ne (tgt := 59) (pc := 54) dX2_describe_54 (by decide) (fun c54 => ?_) (fun c54 => ?_)
  rotate_left
  · exact absurd ⟨by rw [c54]; decide, by rw [c54, em]; omega⟩ hi
  refine g_iload_n (pc := 59) dX2_describe_59 rfl rfl ?_
  refine g_if_lt (tgt := 68) (pc := 60) dX2_describe_60 (by decide) (fun c60 => ?_) (fun c60 => ?_)
  · refine g_throw (pc := 68) th_X2_describe_68 (Nat.le_of_ble_eq_true rfl) (Nat.le_of_ble_eq_true rfl) ?_
    exact ⟨_, ⟨rfl, rfl⟩, hQ⟩
  · refine g_iload_n (pc := 63) dX2_describe_63 rfl rfl ?_
    refine g_iload_n (pc := 64) dX2_describe_64 rfl rfl ?_
    refine g_icmp_lt (tgt := 79) (pc := 65) dX2_describe_65 (by decide) (fun c65 => ?_) (fun c65 => ?_)
    · rw [Int32.lt_iff_toInt_lt] at c60 c65
      exact absurd hi (by omega)
    · refine g_throw (pc := 68) th_X2_describe_68 (Nat.le_of_ble_eq_true rfl) (Nat.le_of_ble_eq_true rfl) ?_
      exact ⟨_, ⟨rfl, rfl⟩, hQ⟩
theorem m_X2_describe_m (hK : Kt I) (hS : Snap I 4 V C) (hW : WF V) {j : Nat} (hj : j < 8) (h1 : V (10 * j) = 1) (hu : udN V j (bl V j) = 0) : gX G YX2_describe (d + 9) [.ref 3, .int (nI j), .int (-1)] n I L D (.inl (some (.int (nI (V (10 * j + 1) + 4))))) (fun J => Qs I J) := by
  have hul := udN_le (V := V) (j := j) (bl V j)
  have hbl := bl_le (hW.1 j hj)
  have hp4 : 2 ^ bl V j ≤ 16 := Nat.pow_le_pow_right (n := 2) (by decide) hbl
  have hn2 := (hW.1 j hj).2.1
  refine g_aload_n (pc := 0) dX2_describe_0 rfl rfl ?_
  refine g_getR (pc := 1) dX2_describe_1 fl_X2_12 s_3 (by decide) rfl t_3_0 ?_
  refine g_iload_n (pc := 4) dX2_describe_4 rfl rfl ?_
  refine g_fV (av := [.int _]) (pc := 5) dX2_describe_5 mt_X1_hasFile lk_X2_117 im_X1_hasFile se_X1_hasFile np_X1_hasFile s_4 (by decide) (by decide) rfl (gc_i gc_0) (Nat.le_of_ble_eq_true rfl) (Nat.le_of_ble_eq_true rfl) ⟨Nat.zero_le _, Nat.zero_le _⟩ (m_X1_hasFileN hS hW hj) ?_
  refine g_if_neB (tgt := 21) (pc := 8) dX2_describe_8 (by decide) (fun c8 => ?_) (fun c8 => ?_)
  rotate_left
  · exact absurd h1 c8
  refine g_aload_n (pc := 21) dX2_describe_21 rfl rfl ?_
  refine g_iload_n (pc := 22) dX2_describe_22 rfl rfl ?_
  refine g_riV (av := [.int _]) (pc := 23) dX2_describe_23 mt_X2_lostBlocks lk_X2_247 im_X2_lostBlocks se_X2_lostBlocks np_X2_lostBlocks s_3 (by decide) (by decide) rfl (gc_i gc_0) (Nat.le_of_ble_eq_true rfl) (Nat.le_of_ble_eq_true rfl) (m_X2_lostBlocks hK hS hW hj h1) ?_
  rintro _ I1 ⟨rfl, hQ⟩
  refine g_if_eqN (tgt := 40) (pc := 26) dX2_describe_26 (by decide) (by omega) (fun c26 => ?_) (fun c26 => ?_)
  rotate_left
  · exact absurd hu c26
  refine g_iconst (v := nI 4) (pc := 40) dX2_describe_40 rfl ?_
  refine g_aload_n (pc := 41) dX2_describe_41 rfl rfl ?_
  refine g_getR (pc := 42) dX2_describe_42 fl_X2_12 s_3 (by decide) rfl t_3_0 ?_
  refine g_getR (pc := 45) dX2_describe_45 fl_X2_129 s_4 (by decide) rfl t_4_4 ?_
  refine g_iload_n (pc := 48) dX2_describe_48 rfl rfl ?_
  refine g_ialoadN (pc := 49) dX2_describe_49 s_9 (by decide) (by omega) (by decide) ((hQ.s hS).2.2.1 j hj).1 ?_
  refine g_iaddN (pc := 50) dX2_describe_50 ?_
  refine g_istore_n (pc := 51) dX2_describe_51 rfl (Nat.le_of_ble_eq_true rfl) rfl ?_
  refine g_iload_n (pc := 52) dX2_describe_52 rfl rfl ?_
  refine g_iconst (v := (-1)) (pc := 53) dX2_describe_53 rfl ?_
  refine g_icmp_ne (tgt := 59) (pc := 54) dX2_describe_54 (by decide) (fun c54 => ?_) (fun c54 => ?_)
  · exact absurd rfl c54
  refine g_iload_n (pc := 57) dX2_describe_57 rfl rfl ?_
  refine g_iret (pc := 58) dX2_describe_58 rfl rfl ?_
  exact ⟨_, ⟨by rw [Nat.add_comm 4], rfl⟩, hQ⟩
theorem m_X2_describe_0 (hK : Kt I) (hS : Snap I 4 V C) (hW : WF V) {j : Nat} (hj : j < 8) (h1 : V (10 * j) = 1) (hu : udN V j (bl V j) = 0) {i : Nat} (hi : i ≤ V (10 * j + 1) + 3) : gX G YX2_describe (d + 9) [.ref 3, .int (nI j), .int (nI i)] n I L D (.inl (some (.int (nI (deV V j i))))) (fun J => Qs I J) := by
  have hul := udN_le (V := V) (j := j) (bl V j)
  have hbl := bl_le (hW.1 j hj)
  have hp4 : 2 ^ bl V j ≤ 16 := Nat.pow_le_pow_right (n := 2) (by decide) hbl
  have hn2 := (hW.1 j hj).2.1
  have hbb : bl V j = (V (10 * j + 1) + 7) / 8 := rfl
  have hne : ¬ nI i = -1 := fun e => by
    have e2 := congrArg Int32.toInt e
    rw [nI_toInt (by omega)] at e2
    have e3 : (-1 : Int32).toInt = -1 := rfl
    omega
  have hwh := (udN_wh (bl V j)).mp hu
  refine g_aload_n (pc := 0) dX2_describe_0 rfl rfl ?_
  refine g_getR (pc := 1) dX2_describe_1 fl_X2_12 s_3 (by decide) rfl t_3_0 ?_
  refine g_iload_n (pc := 4) dX2_describe_4 rfl rfl ?_
  refine g_fV (av := [.int _]) (pc := 5) dX2_describe_5 mt_X1_hasFile lk_X2_117 im_X1_hasFile se_X1_hasFile np_X1_hasFile s_4 (by decide) (by decide) rfl (gc_i gc_0) (Nat.le_of_ble_eq_true rfl) (Nat.le_of_ble_eq_true rfl) ⟨Nat.zero_le _, Nat.zero_le _⟩ (m_X1_hasFileN hS hW hj) ?_
  refine g_if_neB (tgt := 21) (pc := 8) dX2_describe_8 (by decide) (fun c8 => ?_) (fun c8 => ?_)
  rotate_left
  · exact absurd h1 c8
  refine g_aload_n (pc := 21) dX2_describe_21 rfl rfl ?_
  refine g_iload_n (pc := 22) dX2_describe_22 rfl rfl ?_
  refine g_riV (av := [.int _]) (pc := 23) dX2_describe_23 mt_X2_lostBlocks lk_X2_247 im_X2_lostBlocks se_X2_lostBlocks np_X2_lostBlocks s_3 (by decide) (by decide) rfl (gc_i gc_0) (Nat.le_of_ble_eq_true rfl) (Nat.le_of_ble_eq_true rfl) (m_X2_lostBlocks hK hS hW hj h1) ?_
  rintro _ I1 ⟨rfl, hQ⟩
  refine g_if_eqN (tgt := 40) (pc := 26) dX2_describe_26 (by decide) (by omega) (fun c26 => ?_) (fun c26 => ?_)
  rotate_left
  · exact absurd hu c26
  refine g_iconst (v := nI 4) (pc := 40) dX2_describe_40 rfl ?_
  refine g_aload_n (pc := 41) dX2_describe_41 rfl rfl ?_
  refine g_getR (pc := 42) dX2_describe_42 fl_X2_12 s_3 (by decide) rfl t_3_0 ?_
  refine g_getR (pc := 45) dX2_describe_45 fl_X2_129 s_4 (by decide) rfl t_4_4 ?_
  refine g_iload_n (pc := 48) dX2_describe_48 rfl rfl ?_
  refine g_ialoadN (pc := 49) dX2_describe_49 s_9 (by decide) (by omega) (by decide) ((hQ.s hS).2.2.1 j hj).1 ?_
  refine g_iaddN (pc := 50) dX2_describe_50 ?_
  refine g_istore_n (pc := 51) dX2_describe_51 rfl (Nat.le_of_ble_eq_true rfl) rfl ?_
  refine g_iload_n (pc := 52) dX2_describe_52 rfl rfl ?_
  refine g_iconst (v := (-1)) (pc := 53) dX2_describe_53 rfl ?_
  refine g_icmp_ne (tgt := 59) (pc := 54) dX2_describe_54 (by decide) (fun c54 => ?_) (fun c54 => ?_)
  rotate_left
  · exact absurd c54 hne
  refine g_iload_n (pc := 59) dX2_describe_59 rfl rfl ?_
  refine g_if_ltN (tgt := 68) (pc := 60) dX2_describe_60 (by decide) (by omega) (fun c60 => ?_) (fun c60 => ?_)
  · omega
  refine g_iload_n (pc := 63) dX2_describe_63 rfl rfl ?_
  refine g_iload_n (pc := 64) dX2_describe_64 rfl rfl ?_
  refine g_icmp_ltN (tgt := 79) (pc := 65) dX2_describe_65 (by decide) (by omega) (by omega) (fun c65 => ?_) (fun c65 => ?_)
  rotate_left
  · omega
  refine g_iload_n (pc := 79) dX2_describe_79 rfl rfl ?_
  refine g_iconst (v := nI 4) (pc := 80) dX2_describe_80 rfl ?_
  refine g_icmp_geN (tgt := 93) (pc := 81) dX2_describe_81 (by decide) (by omega) (by omega) (fun c81 => ?_) (fun c81 => ?_)
  · refine g_aload_n (pc := 93) dX2_describe_93 rfl rfl ?_
    refine g_iload_n (pc := 94) dX2_describe_94 rfl rfl ?_
    refine g_iload_n (pc := 95) dX2_describe_95 rfl rfl ?_
    refine g_iconst (v := nI 4) (pc := 96) dX2_describe_96 rfl ?_
    refine g_isubN (pc := 97) dX2_describe_97 (by omega) ?_
    refine g_riV (av := [.int _, .int _]) (pc := 98) dX2_describe_98 mt_X2_dataCharacter lk_X2_304 im_X2_dataCharacter se_X2_dataCharacter np_X2_dataCharacter s_3 (by decide) (by decide) rfl (gc_i (gc_i gc_0)) (Nat.le_of_ble_eq_true rfl) (Nat.le_of_ble_eq_true rfl) (gRi_deep (by omega) (m_X2_dataCharacter (d := d) (i := i - 4) (hQ.k hK) (hQ.s hS) hW hj h1 (by omega) (hwh _ (by omega)))) ?_
    rintro _ I2 ⟨rfl, hQ2⟩
    refine g_iret (pc := 101) dX2_describe_101 rfl rfl ?_
    first
      | exact ⟨_, ⟨rfl, rfl⟩, hQ⟩
      | exact ⟨_, ⟨by rw [show i - 4 + 4 = i by omega], rfl⟩, hQ.t hQ2⟩
  · refine g_aload_n (pc := 84) dX2_describe_84 rfl rfl ?_
    refine g_iload_n (pc := 85) dX2_describe_85 rfl rfl ?_
    refine g_iload_n (pc := 86) dX2_describe_86 rfl rfl ?_
    refine g_fV (av := [.int _, .int _]) (pc := 87) dX2_describe_87 mt_X2_headCharacter lk_X2_301 im_X2_headCharacter se_X2_headCharacter np_X2_headCharacter s_3 (by decide) (by decide) rfl (gc_i (gc_i gc_0)) (Nat.le_of_ble_eq_true rfl) (Nat.le_of_ble_eq_true rfl) ⟨Nat.zero_le _, Nat.zero_le _⟩ (m_X2_headCharacter (hQ.s hS) hW hj h1 (by omega)) ?_
    refine g_goto (tgt := 101) (pc := 90) dX2_describe_90 (by decide) ?_
    refine g_iret (pc := 101) dX2_describe_101 rfl rfl ?_
    first
      | exact ⟨_, ⟨rfl, rfl⟩, hQ⟩
      | exact ⟨_, ⟨by rw [show i - 4 + 4 = i by omega], rfl⟩, hQ.t hQ2⟩
theorem m_X2_standingFrom (hS : Snap I 4 V C) (hW : WF V) {j : Nat} (hj : j < 8) (h1 : V (10 * j) = 1) {fr lim : Nat} (hfr : V (10 * j + 5) ≤ fr ∧ fr < V (10 * j + 5) + ce V j) (hl : lim ≤ ce V j) : gRi G YX2_standingFrom (d + 5) [.ref 3, .int (nI j), .int (nI fr), .int (nI lim)] n I L D (fun v J => (∃ r, v = nI r ∧ r ≤ lim ∧ (∀ ln, ln ≤ r → fr + ln ≤ V (10 * j + 5) + ce V j → isSt V j fr ln) ∧ (r < lim → fr + (r + 1) ≤ V (10 * j + 5) + ce V j ∧ ¬ isSt V j fr (r + 1))) ∧ Sm [41] I J) := by
  have hw := hW.1 j hj
  have hbl := bl_le hw
  have hsz := sz_le hw
  have hc6 := hw.2.2.1
  have h54 := (hw.2.2.2.2.2.2.2.2 h1).2.2.2
  have hcl := ce_le hw
  have hSs : ∀ J, Sm [41] I J → Snap J 4 V C := fun J h => hS.s (fun i hi => h _ (by intro q; simp at q; omega))
  refine g_iconst (v := nI 0) (pc := 0) dX2_standingFrom_0 rfl ?_
  refine g_istore (pc := 1) dX2_standingFrom_1 (Nat.le_of_ble_eq_true rfl) rfl ?_
  refine g_loop 4 (fun k J => (∀ b, b < k → J 41 b = nI 0) ∧ Sm [41] I J) (fun k _ => [some (.ref 3), some (.int (nI j)), some (.int (nI fr)), some (.int (nI lim)), some (.int (nI k)), none]) (fun J => hp n J L D) (fun k J hk hJ kn => ?_) (fun J hJ => ?_) 0 I (Nat.zero_le _) ⟨fun b hb => absurd hb (Nat.not_lt_zero b), Sm.rfl⟩
  · obtain ⟨u1, u2⟩ := hJ
    refine g_iload (pc := 3) dX2_standingFrom_3 rfl ?_
    refine g_iconst (v := nI 4) (pc := 5) dX2_standingFrom_5 rfl ?_
    refine g_icmp_geN (tgt := 23) (pc := 6) dX2_standingFrom_6 (by decide) (by omega) (by omega) (fun c6 => ?_) (fun c6 => ?_)
    · omega
    refine g_aload_n (pc := 9) dX2_standingFrom_9 rfl rfl ?_
    refine g_getR (pc := 10) dX2_standingFrom_10 fl_X2_38 s_3 (by decide) rfl t_3_6 ?_
    refine g_iload (pc := 13) dX2_standingFrom_13 rfl ?_
    refine g_iconst (v := nI 0) (pc := 15) dX2_standingFrom_15 rfl ?_
    refine g_iastoreN (pc := 16) dX2_standingFrom_16 s_41 (by decide) (by omega) (by decide) ?_
    refine g_iincN (pc := 17) dX2_standingFrom_17 (Nat.le_of_ble_eq_true rfl) rfl rfl ?_
    refine g_goto (tgt := 3) (pc := 20) dX2_standingFrom_20 (by decide) ?_
    refine kn _ ⟨fun b hb => ?_, Sm.up (by decide) u2⟩
    rw [gUp_c]
    by_cases e : b = k
    · rw [if_pos e]
    · rw [if_neg e]; exact u1 b (by omega)
  · obtain ⟨u1, u2⟩ := hJ
    refine g_iload (pc := 3) dX2_standingFrom_3 rfl ?_
    refine g_iconst (v := nI 4) (pc := 5) dX2_standingFrom_5 rfl ?_
    refine g_icmp_geN (tgt := 23) (pc := 6) dX2_standingFrom_6 (by decide) (by omega) (by omega) (fun c6 => ?_) (fun c6 => ?_)
    rotate_left
    · omega
    refine g_iconst (v := nI 0) (pc := 23) dX2_standingFrom_23 rfl ?_
    refine g_istore (pc := 24) dX2_standingFrom_24 (Nat.le_of_ble_eq_true rfl) rfl ?_
    refine g_loop lim (fun k J => (∀ b, b < bl V j → J 41 b = nI (ov V j fr k b)) ∧ (∀ ln, ln ≤ k → fr + ln ≤ V (10 * j + 5) + ce V j → isSt V j fr ln) ∧ Sm [41] I J) (fun k _ => [some (.ref 3), some (.int (nI j)), some (.int (nI fr)), some (.int (nI lim)), some (.int (nI k)), none]) (fun J => hp n J L D) (fun k J hk hJ kn => ?_) (fun J hJ => ?_) 0 J (Nat.zero_le _) ⟨fun b hb => by rw [ov_0]; exact u1 b (by omega), fun ln hln _ b hb => by rw [show ln = 0 by omega, show ovB V j fr 0 b (sz V j) = 0 from ov_0]; exact Nat.zero_le _, u2⟩
    · obtain ⟨v1, v2, v3⟩ := hJ
      have hSJ := hSs J v3
      by_cases hend : fr + k < V (10 * j + 5) + ce V j
      · obtain ⟨g1, g2, g3⟩ := geo_ex hw h1 (c := fr + k) ⟨by omega, hend⟩
        have hov : ∀ b, b < bl V j → ov V j fr k b ≤ V (10 * j + 2) := v2 k (Nat.le_refl _) (by omega)
        have hob := hov _ g1
        have hup : ∀ b, b < bl V j → ov V j fr (k + 1) b = ov V j fr k b + (if plB V j (fr + k) = b then 1 else 0) := fun b hb => ov_up hw h1 hb ⟨by omega, hend⟩
        have hSK : ∀ x y, Snap (gUp J 41 x y) 4 V C := fun x y => hSs _ (Sm.up (by decide) v3)
        refine g_iload (pc := 26) dX2_standingFrom_26 rfl ?_
        refine g_iload_n (pc := 28) dX2_standingFrom_28 rfl rfl ?_
        refine g_icmp_geN (tgt := 103) (pc := 29) dX2_standingFrom_29 (by decide) (by omega) (by omega) (fun c29 => ?_) (fun c29 => ?_)
        · omega
        refine g_iload_n (pc := 32) dX2_standingFrom_32 rfl rfl ?_
        refine g_iload (pc := 33) dX2_standingFrom_33 rfl ?_
        refine g_iaddN (pc := 35) dX2_standingFrom_35 ?_
        refine g_aload_n (pc := 36) dX2_standingFrom_36 rfl rfl ?_
        refine g_getR (pc := 37) dX2_standingFrom_37 fl_X2_12 s_3 (by decide) rfl t_3_0 ?_
        refine g_iload_n (pc := 40) dX2_standingFrom_40 rfl rfl ?_
        refine g_fV (av := [.int _]) (pc := 41) dX2_standingFrom_41 mt_X1_areaEnd lk_X2_196 im_X1_areaEnd se_X1_areaEnd np_X1_areaEnd s_4 (by decide) (by decide) rfl (gc_i gc_0) (Nat.le_of_ble_eq_true rfl) (Nat.le_of_ble_eq_true rfl) ⟨Nat.zero_le _, Nat.zero_le _⟩ (m_X1_areaEnd hSJ hW hj) ?_
        refine g_icmp_geN (tgt := 103) (pc := 44) dX2_standingFrom_44 (by decide) (by omega) (by omega) (fun c44 => ?_) (fun c44 => ?_)
        · omega
        refine g_aload_n (pc := 47) dX2_standingFrom_47 rfl rfl ?_
        refine g_getR (pc := 48) dX2_standingFrom_48 fl_X2_12 s_3 (by decide) rfl t_3_0 ?_
        refine g_iload_n (pc := 51) dX2_standingFrom_51 rfl rfl ?_
        refine g_iload_n (pc := 52) dX2_standingFrom_52 rfl rfl ?_
        refine g_iload (pc := 53) dX2_standingFrom_53 rfl ?_
        refine g_iaddN (pc := 55) dX2_standingFrom_55 ?_
        refine g_fV (av := [.int _, .int _]) (pc := 56) dX2_standingFrom_56 mt_X1_placeInFile lk_X2_172 im_X1_placeInFile se_X1_placeInFile np_X1_placeInFile s_4 (by decide) (by decide) rfl (gc_i (gc_i gc_0)) (Nat.le_of_ble_eq_true rfl) (Nat.le_of_ble_eq_true rfl) ⟨Nat.zero_le _, Nat.zero_le _⟩ (m_X1_placeInFile hSJ hW hj h1 ⟨by omega, hend⟩) ?_
        refine g_bipush (v := nI 100) (pc := 59) dX2_standingFrom_59 rfl ?_
        refine g_idivN (pc := 61) dX2_standingFrom_61 (by omega) (by omega) (by omega) ?_
        rw [show (100 * plB V j (fr + k) + plI V j (fr + k)) / 100 = plB V j (fr + k) by omega]
        refine g_istore (pc := 62) dX2_standingFrom_62 (Nat.le_of_ble_eq_true rfl) rfl ?_
        refine g_aload_n (pc := 64) dX2_standingFrom_64 rfl rfl ?_
        refine g_getR (pc := 65) dX2_standingFrom_65 fl_X2_38 s_3 (by decide) rfl t_3_6 ?_
        refine g_iload (pc := 68) dX2_standingFrom_68 rfl ?_
        refine g_dup2 (pc := 70) dX2_standingFrom_70 rfl rfl ?_
        refine g_ialoadN (pc := 71) dX2_standingFrom_71 s_41 (by decide) (by omega) (by decide) (v1 _ g1) ?_
        refine g_iconst (v := nI 1) (pc := 72) dX2_standingFrom_72 rfl ?_
        refine g_iaddN (pc := 73) dX2_standingFrom_73 ?_
        refine g_iastoreN (pc := 74) dX2_standingFrom_74 s_41 (by decide) (by omega) (by decide) ?_
        refine g_aload_n (pc := 75) dX2_standingFrom_75 rfl rfl ?_
        refine g_getR (pc := 76) dX2_standingFrom_76 fl_X2_38 s_3 (by decide) rfl t_3_6 ?_
        refine g_iload (pc := 79) dX2_standingFrom_79 rfl ?_
        refine g_ialoadN (pc := 81) dX2_standingFrom_81 s_41 (by decide) (by omega) (by decide) (show _ = nI (ov V j fr k (plB V j (fr + k)) + 1) from by rw [gUp_c, if_pos rfl]) ?_
        refine g_aload_n (pc := 82) dX2_standingFrom_82 rfl rfl ?_
        refine g_getR (pc := 83) dX2_standingFrom_83 fl_X2_12 s_3 (by decide) rfl t_3_0 ?_
        refine g_getR (pc := 86) dX2_standingFrom_86 fl_X2_132 s_4 (by decide) rfl t_4_6 ?_
        refine g_iload_n (pc := 89) dX2_standingFrom_89 rfl rfl ?_
        refine g_ialoadN (pc := 90) dX2_standingFrom_90 s_11 (by decide) (by omega) (by decide) ((hSK _ _).2.2.1 j hj).2.2.1 ?_
        refine g_icmp_leN (tgt := 97) (pc := 91) dX2_standingFrom_91 (by decide) (by omega) (by omega) (fun c91 => ?_) (fun c91 => ?_)
        · refine g_iincN (pc := 97) dX2_standingFrom_97 (Nat.le_of_ble_eq_true rfl) rfl rfl ?_
          refine g_goto (tgt := 26) (pc := 100) dX2_standingFrom_100 (by decide) ?_
          refine g_fg 5 ?_
          refine kn _ ⟨fun b hb => ?_, fun ln hln hle => ?_, Sm.up (by decide) v3⟩
          · rw [gUp_c, hup b hb]
            by_cases e : b = plB V j (fr + k)
            · rw [if_pos e, e, if_pos rfl]
            · rw [if_neg e, if_neg (fun q => e q.symm)]; exact v1 b hb
          · rcases Nat.lt_or_ge ln (k + 1) with w | w
            · exact v2 ln (by omega) hle
            · rw [show ln = k + 1 by omega]
              intro b hb
              show ov V j fr (k + 1) b ≤ _
              rw [hup b hb]
              by_cases e : plB V j (fr + k) = b
              · rw [if_pos e, ← e]; omega
              · rw [if_neg e]; exact hov b hb
        · refine g_iload (pc := 94) dX2_standingFrom_94 rfl ?_
          refine g_iret (pc := 96) dX2_standingFrom_96 rfl rfl ?_
          refine ⟨_, _, ⟨rfl, rfl⟩, ?_⟩
          refine ⟨⟨k, rfl, by omega, v2, fun _ => ⟨by omega, fun q => ?_⟩⟩, Sm.up (by decide) v3⟩
          have h9 : ov V j fr (k + 1) (plB V j (fr + k)) ≤ _ := q _ g1
          rw [hup _ g1, if_pos rfl] at h9
          omega
      · skip
        refine g_iload (pc := 26) dX2_standingFrom_26 rfl ?_
        refine g_iload_n (pc := 28) dX2_standingFrom_28 rfl rfl ?_
        refine g_icmp_geN (tgt := 103) (pc := 29) dX2_standingFrom_29 (by decide) (by omega) (by omega) (fun c29 => ?_) (fun c29 => ?_)
        · omega
        refine g_iload_n (pc := 32) dX2_standingFrom_32 rfl rfl ?_
        refine g_iload (pc := 33) dX2_standingFrom_33 rfl ?_
        refine g_iaddN (pc := 35) dX2_standingFrom_35 ?_
        refine g_aload_n (pc := 36) dX2_standingFrom_36 rfl rfl ?_
        refine g_getR (pc := 37) dX2_standingFrom_37 fl_X2_12 s_3 (by decide) rfl t_3_0 ?_
        refine g_iload_n (pc := 40) dX2_standingFrom_40 rfl rfl ?_
        refine g_fV (av := [.int _]) (pc := 41) dX2_standingFrom_41 mt_X1_areaEnd lk_X2_196 im_X1_areaEnd se_X1_areaEnd np_X1_areaEnd s_4 (by decide) (by decide) rfl (gc_i gc_0) (Nat.le_of_ble_eq_true rfl) (Nat.le_of_ble_eq_true rfl) ⟨Nat.zero_le _, Nat.zero_le _⟩ (m_X1_areaEnd hSJ hW hj) ?_
        refine g_icmp_geN (tgt := 103) (pc := 44) dX2_standingFrom_44 (by decide) (by omega) (by omega) (fun c44 => ?_) (fun c44 => ?_)
        rotate_left
        · omega
        refine g_iload_n (pc := 103) dX2_standingFrom_103 rfl rfl ?_
        refine g_iret (pc := 104) dX2_standingFrom_104 rfl rfl ?_
        refine ⟨_, _, ⟨rfl, rfl⟩, ?_⟩
        exact ⟨⟨lim, rfl, Nat.le_refl _, fun ln h1 h2 => v2 ln (by omega) h2, fun q => absurd q (Nat.lt_irrefl _)⟩, v3⟩
    · obtain ⟨v1, v2, v3⟩ := hJ
      refine g_iload (pc := 26) dX2_standingFrom_26 rfl ?_
      refine g_iload_n (pc := 28) dX2_standingFrom_28 rfl rfl ?_
      refine g_icmp_geN (tgt := 103) (pc := 29) dX2_standingFrom_29 (by decide) (by omega) (by omega) (fun c29 => ?_) (fun c29 => ?_)
      rotate_left
      · omega
      refine g_iload_n (pc := 103) dX2_standingFrom_103 rfl rfl ?_
      refine g_iret (pc := 104) dX2_standingFrom_104 rfl rfl ?_
      refine ⟨_, _, ⟨rfl, rfl⟩, ?_⟩
      exact ⟨⟨lim, rfl, Nat.le_refl _, v2, fun q => absurd q (Nat.lt_irrefl _)⟩, v3⟩
theorem m_X2_burstLimit_1 (hS : Snap I 4 V C) (hW : WF V) {f : Int32} (hf : ¬ isFi V f) : gX G YX2_burstLimit (d + 9) [.ref 3, .int f] n I L D (.inr "java/lang/IndexOutOfBoundsException") (fun J => J = I) := by
  refine g_aload_n (pc := 0) dX2_burstLimit_0 rfl rfl ?_
  refine g_getR (pc := 1) dX2_burstLimit_1 fl_X2_12 s_3 (by decide) rfl t_3_0 ?_
  refine g_iload_n (pc := 4) dX2_burstLimit_4 rfl rfl ?_
  refine g_fV (av := [.int _]) (pc := 5) dX2_burstLimit_5 mt_X1_hasFile lk_X2_117 im_X1_hasFile se_X1_hasFile np_X1_hasFile s_4 (by decide) (by decide) rfl (gc_i gc_0) (Nat.le_of_ble_eq_true rfl) (Nat.le_of_ble_eq_true rfl) ⟨Nat.zero_le _, Nat.zero_le _⟩ (m_X1_hasFile hS hW) ?_
  refine g_if_neB (tgt := 21) (pc := 8) dX2_burstLimit_8 (by decide) (fun c8 => ?_) (fun c8 => ?_)
  · exact absurd c8 hf
  · refine g_throw (pc := 11) th_X2_burstLimit_11 (Nat.le_of_ble_eq_true rfl) (Nat.le_of_ble_eq_true rfl) ?_
    exact ⟨_, ⟨rfl, rfl⟩, rfl⟩
theorem m_X2_burstLimit_0 (hS : Snap I 4 V C) (hW : WF V) {j : Nat} (hj : j < 8) (h1 : V (10 * j) = 1) {r : Nat} (hr : isBL V j r) : gX G YX2_burstLimit (d + 9) [.ref 3, .int (nI j)] n I L D (.inl (some (.int (nI r)))) (fun J => Qs I J) := by
  have hw := hW.1 j hj
  have h54 := (hw.2.2.2.2.2.2.2.2 h1).2.2.2
  have hcl := ce_le hw
  have hSs : ∀ J, Sm [41] I J → Snap J 4 V C := fun J h => hS.s (fun i hi => h _ (by intro q; simp at q; omega))
  refine g_aload_n (pc := 0) dX2_burstLimit_0 rfl rfl ?_
  refine g_getR (pc := 1) dX2_burstLimit_1 fl_X2_12 s_3 (by decide) rfl t_3_0 ?_
  refine g_iload_n (pc := 4) dX2_burstLimit_4 rfl rfl ?_
  refine g_fV (av := [.int _]) (pc := 5) dX2_burstLimit_5 mt_X1_hasFile lk_X2_117 im_X1_hasFile se_X1_hasFile np_X1_hasFile s_4 (by decide) (by decide) rfl (gc_i gc_0) (Nat.le_of_ble_eq_true rfl) (Nat.le_of_ble_eq_true rfl) ⟨Nat.zero_le _, Nat.zero_le _⟩ (m_X1_hasFileN hS hW hj) ?_
  refine g_if_neB (tgt := 21) (pc := 8) dX2_burstLimit_8 (by decide) (fun c8 => ?_) (fun c8 => ?_)
  rotate_left
  · exact absurd h1 c8
  refine g_aload_n (pc := 21) dX2_burstLimit_21 rfl rfl ?_
  refine g_getR (pc := 22) dX2_burstLimit_22 fl_X2_12 s_3 (by decide) rfl t_3_0 ?_
  refine g_iload_n (pc := 25) dX2_burstLimit_25 rfl rfl ?_
  refine g_fV (av := [.int _]) (pc := 26) dX2_burstLimit_26 mt_X1_areaSize lk_X2_147 im_X1_areaSize se_X1_areaSize np_X1_areaSize s_4 (by decide) (by decide) rfl (gc_i gc_0) (Nat.le_of_ble_eq_true rfl) (Nat.le_of_ble_eq_true rfl) ⟨Nat.zero_le _, Nat.zero_le _⟩ (m_X1_areaSize hS hW hj) ?_
  refine g_istore_n (pc := 29) dX2_burstLimit_29 rfl (Nat.le_of_ble_eq_true rfl) rfl ?_
  refine g_aload_n (pc := 30) dX2_burstLimit_30 rfl rfl ?_
  refine g_getR (pc := 31) dX2_burstLimit_31 fl_X2_12 s_3 (by decide) rfl t_3_0 ?_
  refine g_iload_n (pc := 34) dX2_burstLimit_34 rfl rfl ?_
  refine g_fV (av := [.int _]) (pc := 35) dX2_burstLimit_35 mt_X1_areaStart lk_X2_193 im_X1_areaStart se_X1_areaStart np_X1_areaStart s_4 (by decide) (by decide) rfl (gc_i gc_0) (Nat.le_of_ble_eq_true rfl) (Nat.le_of_ble_eq_true rfl) ⟨Nat.zero_le _, Nat.zero_le _⟩ (m_X1_areaStart hS hj) ?_
  refine g_istore_n (pc := 38) dX2_burstLimit_38 rfl (Nat.le_of_ble_eq_true rfl) rfl ?_
  refine g_loop (σ := (Nat → Nat → Int32) × Nat) (V (10 * j + 5) + ce V j) (fun fr s => V (10 * j + 5) ≤ fr ∧ Sm [41] I s.1 ∧ s.2 ≤ ce V j ∧ (∀ f, V (10 * j + 5) ≤ f → f < fr → ∀ ln, ln ≤ s.2 → f + ln ≤ V (10 * j + 5) + ce V j → isSt V j f ln) ∧ (s.2 < ce V j → ∃ f, V (10 * j + 5) ≤ f ∧ f + (s.2 + 1) ≤ V (10 * j + 5) + ce V j ∧ ¬ isSt V j f (s.2 + 1))) (fun fr s => [some (.ref 3), some (.int (nI j)), some (.int (nI s.2)), some (.int (nI fr))]) (fun s => hp n s.1 L D) (fun fr s hk hs kn => ?_) (fun s hs => ?_) (V (10 * j + 5)) (I, ce V j) (Nat.le_add_right _ _) ⟨Nat.le_refl _, Sm.rfl, Nat.le_refl _, fun f h1 h2 => absurd h2 (by omega), fun q => absurd q (Nat.lt_irrefl _)⟩
  · obtain ⟨J, lim⟩ := s
    obtain ⟨u0, u1, u2, u3, u4⟩ := hs
    have hSJ := hSs J u1
    refine g_iload_n (pc := 39) dX2_burstLimit_39 rfl rfl ?_
    refine g_aload_n (pc := 40) dX2_burstLimit_40 rfl rfl ?_
    refine g_getR (pc := 41) dX2_burstLimit_41 fl_X2_12 s_3 (by decide) rfl t_3_0 ?_
    refine g_iload_n (pc := 44) dX2_burstLimit_44 rfl rfl ?_
    refine g_fV (av := [.int _]) (pc := 45) dX2_burstLimit_45 mt_X1_areaEnd lk_X2_196 im_X1_areaEnd se_X1_areaEnd np_X1_areaEnd s_4 (by decide) (by decide) rfl (gc_i gc_0) (Nat.le_of_ble_eq_true rfl) (Nat.le_of_ble_eq_true rfl) ⟨Nat.zero_le _, Nat.zero_le _⟩ (m_X1_areaEnd hSJ hW hj) ?_
    refine g_icmp_geN (tgt := 65) (pc := 48) dX2_burstLimit_48 (by decide) (by omega) (by omega) (fun c48 => ?_) (fun c48 => ?_)
    · omega
    refine g_aload_n (pc := 51) dX2_burstLimit_51 rfl rfl ?_
    refine g_iload_n (pc := 52) dX2_burstLimit_52 rfl rfl ?_
    refine g_iload_n (pc := 53) dX2_burstLimit_53 rfl rfl ?_
    refine g_iload_n (pc := 54) dX2_burstLimit_54 rfl rfl ?_
    refine g_riV (av := [.int _, .int _, .int _]) (pc := 55) dX2_burstLimit_55 mt_X2_standingFrom lk_X2_250 im_X2_standingFrom se_X2_standingFrom np_X2_standingFrom s_3 (by decide) (by decide) rfl (gc_i (gc_i (gc_i gc_0))) (Nat.le_of_ble_eq_true rfl) (Nat.le_of_ble_eq_true rfl) (m_X2_standingFrom hSJ hW hj h1 (fr := fr) (lim := lim) ⟨by omega, hk⟩ u2) ?_
    rintro _ I1 ⟨⟨q, rfl, k1, k2, k3⟩, k4⟩
    refine g_istore_n (pc := 58) dX2_burstLimit_58 rfl (Nat.le_of_ble_eq_true rfl) rfl ?_
    refine g_iincN (pc := 59) dX2_burstLimit_59 (Nat.le_of_ble_eq_true rfl) rfl rfl ?_
    refine g_goto (tgt := 39) (pc := 62) dX2_burstLimit_62 (by decide) ?_
    refine kn (I1, q) ⟨by omega, Sm.trans u1 k4, by show q ≤ _; omega, fun f g1 g2 ln g3 g4 => ?_, fun g => ?_⟩
    · have g3' : ln ≤ q := g3
      rcases Nat.lt_or_ge f fr with w | w
      · exact u3 f g1 w ln (Nat.le_trans g3' k1) g4
      · rw [show f = fr by omega] at g4 ⊢
        exact k2 ln g3' g4
    · have g' : q < ce V j := g
      by_cases e : q = lim
      · subst e
        exact u4 g'
      · obtain ⟨w1, w2⟩ := k3 (by omega)
        exact ⟨fr, u0, w1, w2⟩
  · obtain ⟨J, lim⟩ := s
    obtain ⟨u0, u1, u2, u3, u4⟩ := hs
    have hSJ := hSs J u1
    have hb : isBL V j lim := ⟨u2, fun ln g1 g2 fr g3 g4 => u3 fr g3 (by omega) ln g2 g4, u4⟩
    have e := isBL_one hb hr
    refine g_iload_n (pc := 39) dX2_burstLimit_39 rfl rfl ?_
    refine g_aload_n (pc := 40) dX2_burstLimit_40 rfl rfl ?_
    refine g_getR (pc := 41) dX2_burstLimit_41 fl_X2_12 s_3 (by decide) rfl t_3_0 ?_
    refine g_iload_n (pc := 44) dX2_burstLimit_44 rfl rfl ?_
    refine g_fV (av := [.int _]) (pc := 45) dX2_burstLimit_45 mt_X1_areaEnd lk_X2_196 im_X1_areaEnd se_X1_areaEnd np_X1_areaEnd s_4 (by decide) (by decide) rfl (gc_i gc_0) (Nat.le_of_ble_eq_true rfl) (Nat.le_of_ble_eq_true rfl) ⟨Nat.zero_le _, Nat.zero_le _⟩ (m_X1_areaEnd hSJ hW hj) ?_
    refine g_icmp_geN (tgt := 65) (pc := 48) dX2_burstLimit_48 (by decide) (by omega) (by omega) (fun c48 => ?_) (fun c48 => ?_)
    rotate_left
    · omega
    refine g_iload_n (pc := 65) dX2_burstLimit_65 rfl rfl ?_
    refine g_iret (pc := 66) dX2_burstLimit_66 rfl rfl ?_
    exact ⟨_, ⟨by rw [e], rfl⟩, u1.mono (by decide)⟩
end

