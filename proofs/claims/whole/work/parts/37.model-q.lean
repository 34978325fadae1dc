/-! ===== whole files: condition, describe ===== -/
theorem udN_le {V : Nat → Nat} {j : Nat} : ∀ b, udN V j b < 2 ^ b
  | 0 => (by decide : 0 < 2 ^ 0)
  | b + 1 => by
    have ih := udN_le (V := V) (j := j) b
    have e : 2 ^ (b + 1) = 2 ^ b * 2 := Nat.pow_succ 2 b
    unfold udN
    split
    · rw [Nat.or_zero]; omega
    · exact Nat.or_lt_two_pow (by omega) (by omega)
theorem udN_wh {V : Nat → Nat} {j : Nat} : ∀ k, udN V j k = 0 ↔ ∀ b, b < k → isD V j b = true
  | 0 => ⟨fun _ b hb => absurd hb (Nat.not_lt_zero b), fun _ => rfl⟩
  | k + 1 => by
    have ih := udN_wh (V := V) (j := j) k
    unfold udN
    by_cases h : isD V j k = true
    · rw [if_pos h, Nat.or_zero, ih]
      refine ⟨fun q b hb => ?_, fun q b hb => q b (by omega)⟩
      rcases Nat.lt_or_ge b k with w | w
      · exact q b w
      · rw [show b = k by omega]; exact h
    · rw [if_neg h]
      refine ⟨fun q => ?_, fun q => absurd (q k (Nat.lt_succ_self k)) h⟩
      have h1 : 2 ^ k ≤ udN V j k ||| 2 ^ k := Nat.right_le_or
      have h2 : 0 < 2 ^ k := Nat.pow_pos (by decide)
      omega
noncomputable def coV (V : Nat → Nat) (j : Nat) : Nat := if udN V j (bl V j) = 0 then (if slN V j (V (10 * j + 1)) = V (10 * j + 4) then (if alN V j (bl V j) = 0 then 1 else 0) else 2) else 3
noncomputable def deV (V : Nat → Nat) (j i : Nat) : Nat := if i = 1 then 42 else if i = 3 then 58 else if i = 0 then 48 + V (10 * j + 2) else if i = 2 then 48 + V (10 * j + 3) else if (dcX V j ((i - 4) / 8) (V (10 * j + 2) + (i - 4) % 8)).val < 10 then 48 + (dcX V j ((i - 4) / 8) (V (10 * j + 2) + (i - 4) % 8)).val else 97 + (dcX V j ((i - 4) / 8) (V (10 * j + 2) + (i - 4) % 8)).val - 10
def dW (I J : Nat → Nat → Int32) : Prop := Sm [114, 124, 125, 126, 127, 128, 129, 130] I J ∧ Sc 114 [23, 24, 25, 26, 27, 28, 30] I J ∧ ∃ M, Rw J M
theorem dK.w {I J : Nat → Nat → Int32} (h : dK I J) : dW I J := ⟨h.1.mono (by decide), h.2.1.mono (by decide), h.2.2⟩
theorem dW.t {I J K : Nat → Nat → Int32} (h : dW I J) (k : dW J K) : dW I K := ⟨Sm.trans h.1 k.1, Sc.trans h.2.1 k.2.1, k.2.2⟩
theorem dW.a {I J : Nat → Nat → Int32} {x : Int32} (h : dW I J) : dW I (gUp J 114 30 x) := ⟨Sm.up (by decide) h.1, Sc.up (by decide) h.2.1, by
  obtain ⟨M, hM⟩ := h.2.2
  exact ⟨M, hM.s (gUp_ne (by decide))⟩⟩
theorem dW.y {I J : Nat → Nat → Int32} {x : Int32} {j : Nat} (h : dW I J) : dW I (gUp J 130 j x) := ⟨Sm.up (by decide) h.1, Sc.un (by decide) h.2.1, by
  obtain ⟨M, hM⟩ := h.2.2
  exact ⟨M, hM.s (gUp_ne (by decide))⟩⟩
theorem dW.v {I J : Nat → Nat → Int32} {V : Nat → Nat} (h : dW I J) (hV : Vok I V) : Vok J V := hV.s h.1 (by decide)
theorem dW.x {I J : Nat → Nat → Int32} (h : dW I J) (hX : MX I) : MX J := ⟨hX.1.s h.1 (by decide) (by decide) (by decide), h.2.2⟩
theorem dW.q {I J : Nat → Nat → Int32} {k : Nat} (h : dW (gUp I 114 0 (nI k)) J) : QF I J k := ⟨Sm.trans (Sm.up (by decide) Sm.rfl) h.1, Sc.trans (Sc.up (by decide) Sc.rfl) (h.2.1.mono (by decide)), by rw [h.2.1 0 (by decide), gUp_c, if_pos rfl], h.2.2⟩
theorem al_and {V : Nat → Nat} {j b : Nat} : nI (alN V j b) &&& bI (erN V j b = 0 ∧ dcN V j b = 0) = nI (alN V j (b + 1)) := by
  by_cases h : erN V j b = 0 ∧ dcN V j b = 0
  · rw [bI_t h, show alN V j (b + 1) = alN V j b from by rw [alN, if_pos h]]
    rcases alN_01 V j b with e | e <;> rw [e] <;> rfl
  · rw [bI_f h, show alN V j (b + 1) = 0 from by rw [alN, if_neg h]]
    rcases alN_01 V j b with e | e <;> rw [e] <;> rfl
theorem al_nar {V : Nat → Nat} {j b : Nat} : narrow .boolean (.int (nI (alN V j b))) = .int (nI (alN V j b)) := by
  rcases alN_01 V j b with e | e <;> rw [e] <;> rfl
theorem al_fit {V : Nat → Nat} {j b : Nat} : fits .boolean (.int (nI (alN V j b))) = true := by
  rcases alN_01 V j b with e | e <;> rw [e] <;> rfl
section
variable {G : gG} {d n : Nat} {I : Nat → Nat → Int32} {L : Nat → Nat → Int64} {D : Nat → Nat → UInt64} {V : Nat → Nat}
theorem m_X3_isWhole (hV : Vok I V) (hW : WF V) (hX : MX I) {j : Nat} (hj : j < 8) (h1 : V (10 * j) = 1) : gRi G YX3_isWhole (d + 5) [.ref 114, .int (nI j)] n I L D (fun v J => dW I J ∧ v = bI (udN V j (bl V j) = 0) ∧ (udN V j (bl V j) = 0 → J 114 30 = nI (alN V j (bl V j)) ∧ ∀ i, i < 8 * bl V j → J 130 i = fI (dcX V j (i / 8) (V (10 * j + 2) + i % 8)))) := by
  have hw := hW.1 j hj
  have hbl := bl_le hw
  have hsz := sz_le hw
  have hc6 := hw.2.2.1
  refine g_aload_n (pc := 0) dX3_isWhole_0 rfl rfl ?_
  refine g_iconst (v := nI 1) (pc := 1) dX3_isWhole_1 rfl ?_
  refine g_putI (pc := 2) dX3_isWhole_2 fl_X3_204 s_114 (by decide) rfl rfl rfl rfl ?_
  refine g_iconst (v := nI 0) (pc := 5) dX3_isWhole_5 rfl ?_
  refine g_istore_n (pc := 6) dX3_isWhole_6 rfl (Nat.le_of_ble_eq_true rfl) rfl ?_
  refine g_loop (bl V j) (fun b J => dW I J ∧ (∀ i, i < b → isD V j i = true) ∧ J 114 30 = nI (alN V j b) ∧ ∀ i, i < 8 * b → J 130 i = fI (dcX V j (i / 8) (V (10 * j + 2) + i % 8))) (fun k _ => [some (.ref 114), some (.int (nI j)), some (.int (nI k)), none]) (fun J => hp n J L D) (fun b J hb hJ kn => ?_) (fun J hJ => ?_) 0 _ (Nat.zero_le _) ⟨dW.a (dK.w (dK.r hX)), fun i hi => absurd hi (Nat.not_lt_zero i), by rw [gUp_c, if_pos rfl]; rfl, fun i hi => absurd hi (Nat.not_lt_zero i)⟩
  · obtain ⟨u1, u2, u3, u4⟩ := hJ
    have hVJ : Vok J V := u1.v hV
    have he := erN_lt (V := V) (j := j) (b := b)
    have hp9 := p14 hsz.1
    have hdn : dcN V j b ≤ 14 := nS_le _ _
    refine g_iload_n (pc := 7) dX3_isWhole_7 rfl rfl ?_
    refine g_aload_n (pc := 8) dX3_isWhole_8 rfl rfl ?_
    refine g_iload_n (pc := 9) dX3_isWhole_9 rfl rfl ?_
    refine g_fV (av := [.int _]) (pc := 10) dX3_isWhole_10 mt_X3_blocks lk_X3_80 im_X3_blocks se_X3_blocks np_X3_blocks s_114 (by decide) (by decide) rfl (gc_i gc_0) (Nat.le_of_ble_eq_true rfl) (Nat.le_of_ble_eq_true rfl) ⟨Nat.zero_le _, Nat.zero_le _⟩ (m_X3_blocks hVJ hW hj) ?_
    refine g_icmp_geN (tgt := 82) (pc := 13) dX3_isWhole_13 (by decide) (by omega) (by omega) (fun c13 => ?_) (fun c13 => ?_)
    · omega
    refine g_aload_n (pc := 16) dX3_isWhole_16 rfl rfl ?_
    refine g_iload_n (pc := 17) dX3_isWhole_17 rfl rfl ?_
    refine g_iload_n (pc := 18) dX3_isWhole_18 rfl rfl ?_
    refine g_riV (av := [.int _, .int _]) (pc := 19) dX3_isWhole_19 mt_X3_isDecoded_ lk_X3_202 im_X3_isDecoded_ se_X3_isDecoded_ np_X3_isDecoded_ s_114 (by decide) (by decide) rfl (gc_i (gc_i gc_0)) (Nat.le_of_ble_eq_true rfl) (Nat.le_of_ble_eq_true rfl) (m_X3_isDecoded_ hVJ hW (u1.x hX) hj h1 hb) ?_
    rintro _ I1 ⟨rfl, k1, k2, k3, k4, k5, k6⟩
    have u1b : dW I I1 := u1.t k1.w
    have u3b : I1 114 30 = nI (alN V j b) := by rw [k1.2.1 30 (by decide)]; exact u3
    refine g_if_neB (tgt := 27) (pc := 22) dX3_isWhole_22 (by decide) (fun c22 => ?_) (fun c22 => ?_)
    rotate_left
    · refine g_iconst (v := nI 0) (pc := 25) dX3_isWhole_25 rfl ?_
      refine g_iret (pc := 26) dX3_isWhole_26 rfl rfl ?_
      refine ⟨_, _, ⟨rfl, rfl⟩, ?_⟩
      have hn : ¬ udN V j (bl V j) = 0 := fun q => c22 ((udN_wh (bl V j)).mp q b hb)
      exact ⟨u1b, (bI_f hn).symm, fun q => absurd q hn⟩
    refine g_aload_n (pc := 27) dX3_isWhole_27 rfl rfl ?_
    refine g_dup (pc := 28) dX3_isWhole_28 rfl ?_
    refine g_getIV (pc := 29) dX3_isWhole_29 fl_X3_204 s_114 (by decide) rfl u3b ?_
    refine g_aload_n (pc := 32) dX3_isWhole_32 rfl rfl ?_
    refine g_fV (av := []) (pc := 33) dX3_isWhole_33 mt_X3_isClean lk_X3_207 im_X3_isClean se_X3_isClean np_X3_isClean s_114 (by decide) (by decide) rfl gc_0 (Nat.le_of_ble_eq_true rfl) (Nat.le_of_ble_eq_true rfl) ⟨Nat.zero_le _, Nat.zero_le _⟩ (m_X3_isClean k4 (k6 c22).2.1 (by omega) (by omega)) ?_
    refine g_iand (pc := 36) dX3_isWhole_36 ?_
    rw [al_and]
    refine g_putI (pc := 37) dX3_isWhole_37 fl_X3_204 s_114 (by decide) rfl rfl al_nar al_fit ?_
    refine g_iconst (v := nI 0) (pc := 40) dX3_isWhole_40 rfl ?_
    refine g_istore_n (pc := 41) dX3_isWhole_41 rfl (Nat.le_of_ble_eq_true rfl) rfl ?_
    refine g_loop 8 (fun i J => dW I J ∧ J 114 30 = nI (alN V j (b + 1)) ∧ J 114 24 = nI (V (10 * j + 2)) ∧ J 125 = I1 125 ∧ ∀ i', i' < 8 * b + i → J 130 i' = fI (dcX V j (i' / 8) (V (10 * j + 2) + i' % 8))) (fun k _ => [some (.ref 114), some (.int (nI j)), some (.int (nI b)), some (.int (nI k))]) (fun J => hp n J L D) (fun i J hi hJ kb => ?_) (fun J hJ => ?_) 0 _ (Nat.zero_le _) ⟨u1b.a, by rw [gUp_c, if_pos rfl], gUp_k (by decide) k3, gUp_ne (by decide), fun i hi => gUp_a (by decide) (by rw [k1.1 130 (by decide)]; exact u4 i (by omega))⟩
    · obtain ⟨v1, v2, v3, v4, v5⟩ := hJ
      have hf : J 125 (V (10 * j + 2) + i) = fI (dcX V j b (V (10 * j + 2) + i)) := by rw [v4]; exact (k6 c22).2.2 _ (by unfold sz; omega)
      refine g_iload_n (pc := 42) dX3_isWhole_42 rfl rfl ?_
      refine g_bipush (v := nI 8) (pc := 43) dX3_isWhole_43 rfl ?_
      refine g_icmp_geN (tgt := 76) (pc := 45) dX3_isWhole_45 (by decide) (by omega) (by omega) (fun c45 => ?_) (fun c45 => ?_)
      · omega
      refine g_aload_n (pc := 48) dX3_isWhole_48 rfl rfl ?_
      refine g_getR (pc := 49) dX3_isWhole_49 fl_X3_60 s_114 (by decide) rfl t_114_29 ?_
      refine g_bipush (v := nI 8) (pc := 52) dX3_isWhole_52 rfl ?_
      refine g_iload_n (pc := 54) dX3_isWhole_54 rfl rfl ?_
      refine g_imulN (pc := 55) dX3_isWhole_55 ?_
      refine g_iload_n (pc := 56) dX3_isWhole_56 rfl rfl ?_
      refine g_iaddN (pc := 57) dX3_isWhole_57 ?_
      refine g_aload_n (pc := 58) dX3_isWhole_58 rfl rfl ?_
      refine g_getR (pc := 59) dX3_isWhole_59 fl_X3_45 s_114 (by decide) rfl t_114_18 ?_
      refine g_aload_n (pc := 62) dX3_isWhole_62 rfl rfl ?_
      refine g_getIV (pc := 63) dX3_isWhole_63 fl_X3_135 s_114 (by decide) rfl v3 ?_
      refine g_iload_n (pc := 66) dX3_isWhole_66 rfl rfl ?_
      refine g_iaddN (pc := 67) dX3_isWhole_67 ?_
      refine g_ialoadN (pc := 68) dX3_isWhole_68 s_125 (by decide) (by omega) (by decide) hf ?_
      refine g_iastoreN (pc := 69) dX3_isWhole_69 s_130 (by decide) (by omega) (by decide) ?_
      refine g_iincN (pc := 70) dX3_isWhole_70 (Nat.le_of_ble_eq_true rfl) rfl rfl ?_
      refine g_goto (tgt := 42) (pc := 73) dX3_isWhole_73 (by decide) ?_
      refine kb _ ⟨v1.y, gUp_a (by decide) v2, gUp_a (by decide) v3, (gUp_ne (by decide)).trans v4, fun i' hi' => ?_⟩
      rw [gUp_c]
      by_cases e : i' = 8 * b + i
      · rw [if_pos e, show i' / 8 = b by omega, show i' % 8 = i by omega]
      · rw [if_neg e]; exact v5 i' (by omega)
    · obtain ⟨v1, v2, v3, v4, v5⟩ := hJ
      refine g_iload_n (pc := 42) dX3_isWhole_42 rfl rfl ?_
      refine g_bipush (v := nI 8) (pc := 43) dX3_isWhole_43 rfl ?_
      refine g_icmp_geN (tgt := 76) (pc := 45) dX3_isWhole_45 (by decide) (by omega) (by omega) (fun c45 => ?_) (fun c45 => ?_)
      rotate_left
      · omega
      refine g_iincN (pc := 76) dX3_isWhole_76 (Nat.le_of_ble_eq_true rfl) rfl rfl ?_
      refine g_goto (tgt := 7) (pc := 79) dX3_isWhole_79 (by decide) ?_
      refine g_fg 3 ?_
      refine kn _ ⟨v1, fun i hi => ?_, v2, fun i hi => v5 i (by omega)⟩
      rcases Nat.lt_or_ge i b with w | w
      · exact u2 i w
      · rw [show i = b by omega]; exact c22
  · obtain ⟨u1, u2, u3, u4⟩ := hJ
    have hVJ : Vok J V := u1.v hV
    refine g_iload_n (pc := 7) dX3_isWhole_7 rfl rfl ?_
    refine g_aload_n (pc := 8) dX3_isWhole_8 rfl rfl ?_
    refine g_iload_n (pc := 9) dX3_isWhole_9 rfl rfl ?_
    refine g_fV (av := [.int _]) (pc := 10) dX3_isWhole_10 mt_X3_blocks lk_X3_80 im_X3_blocks se_X3_blocks np_X3_blocks s_114 (by decide) (by decide) rfl (gc_i gc_0) (Nat.le_of_ble_eq_true rfl) (Nat.le_of_ble_eq_true rfl) ⟨Nat.zero_le _, Nat.zero_le _⟩ (m_X3_blocks hVJ hW hj) ?_
    refine g_icmp_geN (tgt := 82) (pc := 13) dX3_isWhole_13 (by decide) (by omega) (by omega) (fun c13 => ?_) (fun c13 => ?_)
    rotate_left
    · omega
    refine g_iconst (v := nI 1) (pc := 82) dX3_isWhole_82 rfl ?_
    refine g_iret (pc := 83) dX3_isWhole_83 rfl rfl ?_
    refine ⟨_, _, ⟨rfl, rfl⟩, ?_⟩
    exact ⟨u1, (bI_t ((udN_wh (bl V j)).mpr u2)).symm, fun _ => ⟨u3, u4⟩⟩
theorem m_X3_condition_1 (hV : Vok I V) (hW : WF V) {f : Int32} (h : ¬ isFi V f) : gFn G YX3_condition (d + 6) [.ref 114, .int f] (hp n I L D) (.inl (some (.int (nI 0)))) (hp n (gUp I 114 0 (nI 1)) L D) 0 0 := by
  refine g_aload_n (pc := 0) dX3_condition_0 rfl rfl ?_
  refine g_aload_n (pc := 1) dX3_condition_1 rfl rfl ?_
  refine g_iload_n (pc := 2) dX3_condition_2 rfl rfl ?_
  refine g_fV (av := [.int _]) (pc := 3) dX3_condition_3 mt_X3_isFile lk_X3_87 im_X3_isFile se_X3_isFile np_X3_isFile s_114 (by decide) (by decide) rfl (gc_i gc_0) (Nat.le_of_ble_eq_true rfl) (Nat.le_of_ble_eq_true rfl) ⟨Nat.zero_le _, Nat.zero_le _⟩ (m_X3_isFile hV hW) ?_
  refine g_if_eqB (tgt := 13) (pc := 6) dX3_condition_6 (by decide) (fun c6 => ?_) (fun c6 => ?_)
  · refine g_iconst (v := nI 1) (pc := 13) dX3_condition_13 rfl ?_
    refine g_putI (pc := 14) dX3_condition_14 fl_X3_67 s_114 (by decide) rfl rfl rfl rfl ?_
    refine g_aload_n (pc := 17) dX3_condition_17 rfl rfl ?_
    refine g_getIV (pc := 18) dX3_condition_18 fl_X3_67 s_114 (by decide) rfl (show _ = nI 1 from rfl) ?_
    refine g_iconst (v := nI 1) (pc := 21) dX3_condition_21 rfl ?_
    refine g_icmp_neN (tgt := 27) (pc := 22) dX3_condition_22 (by decide) (by omega) (by omega) (fun c22 => ?_) (fun c22 => ?_)
    · exact absurd c22 (by decide)
    · refine g_iconst (v := nI 0) (pc := 25) dX3_condition_25 rfl ?_
      refine g_iret (pc := 26) dX3_condition_26 rfl rfl ?_
      first | exact ⟨rfl, rfl⟩ | exact ⟨by rw [bI_t (by first | assumption | omega)], rfl⟩ | exact ⟨by rw [bI_f (by first | assumption | omega)], rfl⟩
  · exact absurd c6 h
theorem m_X3_condition_0 (hV : Vok I V) (hW : WF V) (hX : MX I) {j : Nat} (hj : j < 8) (h1 : V (10 * j) = 1) : gRi G YX3_condition (d + 6) [.ref 114, .int (nI j)] n I L D (fun v J => v = nI (coV V j) ∧ QF I J 0) := by
  have hw := hW.1 j hj
  have hbl := bl_le hw
  have hn2 := hw.2.1
  have h4 := hw.2.2.2.2.1
  refine g_aload_n (pc := 0) dX3_condition_0 rfl rfl ?_
  refine g_aload_n (pc := 1) dX3_condition_1 rfl rfl ?_
  refine g_iload_n (pc := 2) dX3_condition_2 rfl rfl ?_
  refine g_fV (av := [.int _]) (pc := 3) dX3_condition_3 mt_X3_isFile lk_X3_87 im_X3_isFile se_X3_isFile np_X3_isFile s_114 (by decide) (by decide) rfl (gc_i gc_0) (Nat.le_of_ble_eq_true rfl) (Nat.le_of_ble_eq_true rfl) ⟨Nat.zero_le _, Nat.zero_le _⟩ (m_X3_isFileN hV hW hj) ?_
  refine g_if_eqB (tgt := 13) (pc := 6) dX3_condition_6 (by decide) (fun c6 => ?_) (fun c6 => ?_)
  · exact absurd h1 c6
  refine g_iconst (v := nI 0) (pc := 9) dX3_condition_9 rfl ?_
  refine g_goto (tgt := 14) (pc := 10) dX3_condition_10 (by decide) ?_
  refine g_putI (pc := 14) dX3_condition_14 fl_X3_67 s_114 (by decide) rfl rfl rfl rfl ?_
  refine g_aload_n (pc := 17) dX3_condition_17 rfl rfl ?_
  refine g_getIV (pc := 18) dX3_condition_18 fl_X3_67 s_114 (by decide) rfl (show _ = nI 0 from rfl) ?_
  refine g_iconst (v := nI 1) (pc := 21) dX3_condition_21 rfl ?_
  refine g_icmp_neN (tgt := 27) (pc := 22) dX3_condition_22 (by decide) (by omega) (by omega) (fun c22 => ?_) (fun c22 => ?_)
  rotate_left
  · exact absurd c22 (by decide)
  refine g_aload_n (pc := 27) dX3_condition_27 rfl rfl ?_
  refine g_iload_n (pc := 28) dX3_condition_28 rfl rfl ?_
  refine g_riV (av := [.int _]) (pc := 29) dX3_condition_29 mt_X3_isWhole lk_X3_210 im_X3_isWhole se_X3_isWhole np_X3_isWhole s_114 (by decide) (by decide) rfl (gc_i gc_0) (Nat.le_of_ble_eq_true rfl) (Nat.le_of_ble_eq_true rfl) (m_X3_isWhole hV.f hW hX.no hj h1) ?_
  rintro _ I1 ⟨k1, rfl, k2⟩
  refine g_if_neB (tgt := 37) (pc := 32) dX3_condition_32 (by decide) (fun c32 => ?_) (fun c32 => ?_)
  rotate_left
  · refine g_iconst (v := nI 3) (pc := 35) dX3_condition_35 rfl ?_
    refine g_iret (pc := 36) dX3_condition_36 rfl rfl ?_
    refine ⟨_, _, ⟨rfl, rfl⟩, ?_⟩
    exact ⟨by unfold coV; rw [if_neg c32], k1.q⟩
  refine g_iconst (v := nI 1) (pc := 37) dX3_condition_37 rfl ?_
  refine g_istore_n (pc := 38) dX3_condition_38 rfl (Nat.le_of_ble_eq_true rfl) rfl ?_
  refine g_iconst (v := nI 0) (pc := 39) dX3_condition_39 rfl ?_
  refine g_istore_n (pc := 40) dX3_condition_40 rfl (Nat.le_of_ble_eq_true rfl) rfl ?_
  have hV1 : Vok I1 V := k1.v hV.f
  refine g_loop (V (10 * j + 1)) (fun _ (_ : Unit) => True) (fun k _ => [some (.ref 114), some (.int (nI j)), some (.int (nI (slN V j k))), some (.int (nI k))]) (fun _ => hp n I1 L D) (fun i _ hi _ kn => ?_) (fun _ _ => ?_) 0 () (Nat.zero_le _) trivial
  · have hv := (k2 c32).2 i (by unfold bl; omega)
    have hlt := (dcX V j (i / 8) (V (10 * j + 2) + i % 8)).isLt
    have hsl := slN_le V j i
    refine g_iload_n (pc := 41) dX3_condition_41 rfl rfl ?_
    refine g_aload_n (pc := 42) dX3_condition_42 rfl rfl ?_
    refine g_iload_n (pc := 43) dX3_condition_43 rfl rfl ?_
    refine g_iconst (v := nI 1) (pc := 44) dX3_condition_44 rfl ?_
    refine g_fV (av := [.int _, .int _]) (pc := 45) dX3_condition_45 mt_X3_of lk_X3_77 im_X3_of se_X3_of np_X3_of s_114 (by decide) (by decide) rfl (gc_i (gc_i gc_0)) (Nat.le_of_ble_eq_true rfl) (Nat.le_of_ble_eq_true rfl) ⟨Nat.zero_le _, Nat.zero_le _⟩ (m_X3_of hV1 (j := j) (w := 1) hj (by decide)) ?_
    refine g_icmp_geN (tgt := 73) (pc := 48) dX3_condition_48 (by decide) (by omega) (by omega) (fun c48 => ?_) (fun c48 => ?_)
    · omega
    refine g_iload_n (pc := 51) dX3_condition_51 rfl rfl ?_
    refine g_bipush (v := nI 17) (pc := 52) dX3_condition_52 rfl ?_
    refine g_imulN (pc := 54) dX3_condition_54 ?_
    refine g_aload_n (pc := 55) dX3_condition_55 rfl rfl ?_
    refine g_getR (pc := 56) dX3_condition_56 fl_X3_60 s_114 (by decide) rfl t_114_29 ?_
    refine g_iload_n (pc := 59) dX3_condition_59 rfl rfl ?_
    refine g_ialoadN (pc := 60) dX3_condition_60 s_130 (by decide) (by omega) (by decide) (show _ = nI (dcX V j (i / 8) (V (10 * j + 2) + i % 8)).val from hv) ?_
    refine g_iaddN (pc := 61) dX3_condition_61 ?_
    refine g_sipush (v := nI 251) (pc := 62) dX3_condition_62 rfl ?_
    refine g_iremN (pc := 65) dX3_condition_65 (by omega) (by omega) (by omega) ?_
    refine g_istore_n (pc := 66) dX3_condition_66 rfl (Nat.le_of_ble_eq_true rfl) rfl ?_
    refine g_iincN (pc := 67) dX3_condition_67 (Nat.le_of_ble_eq_true rfl) rfl rfl ?_
    refine g_goto (tgt := 41) (pc := 70) dX3_condition_70 (by decide) ?_
    exact kn () trivial
  · have hsl := slN_le V j (V (10 * j + 1))
    have hal := alN_01 V j (bl V j)
    refine g_iload_n (pc := 41) dX3_condition_41 rfl rfl ?_
    refine g_aload_n (pc := 42) dX3_condition_42 rfl rfl ?_
    refine g_iload_n (pc := 43) dX3_condition_43 rfl rfl ?_
    refine g_iconst (v := nI 1) (pc := 44) dX3_condition_44 rfl ?_
    refine g_fV (av := [.int _, .int _]) (pc := 45) dX3_condition_45 mt_X3_of lk_X3_77 im_X3_of se_X3_of np_X3_of s_114 (by decide) (by decide) rfl (gc_i (gc_i gc_0)) (Nat.le_of_ble_eq_true rfl) (Nat.le_of_ble_eq_true rfl) ⟨Nat.zero_le _, Nat.zero_le _⟩ (m_X3_of hV1 (j := j) (w := 1) hj (by decide)) ?_
    refine g_icmp_geN (tgt := 73) (pc := 48) dX3_condition_48 (by decide) (by omega) (by omega) (fun c48 => ?_) (fun c48 => ?_)
    rotate_left
    · omega
    refine g_iload_n (pc := 73) dX3_condition_73 rfl rfl ?_
    refine g_aload_n (pc := 74) dX3_condition_74 rfl rfl ?_
    refine g_iload_n (pc := 75) dX3_condition_75 rfl rfl ?_
    refine g_iconst (v := nI 4) (pc := 76) dX3_condition_76 rfl ?_
    refine g_fV (av := [.int _, .int _]) (pc := 77) dX3_condition_77 mt_X3_of lk_X3_77 im_X3_of se_X3_of np_X3_of s_114 (by decide) (by decide) rfl (gc_i (gc_i gc_0)) (Nat.le_of_ble_eq_true rfl) (Nat.le_of_ble_eq_true rfl) ⟨Nat.zero_le _, Nat.zero_le _⟩ (m_X3_of hV1 (j := j) (w := 4) hj (by decide)) ?_
    refine g_icmp_eqN (tgt := 87) (pc := 80) dX3_condition_80 (by decide) (by omega) (by omega) (fun c80 => ?_) (fun c80 => ?_)
    · refine g_aload_n (pc := 87) dX3_condition_87 rfl rfl ?_
      refine g_getIV (pc := 88) dX3_condition_88 fl_X3_204 s_114 (by decide) rfl (k2 c32).1 ?_
      refine g_if_eqN (tgt := 98) (pc := 91) dX3_condition_91 (by decide) (by omega) (fun c91 => ?_) (fun c91 => ?_)
      · refine g_iconst (v := nI 1) (pc := 98) dX3_condition_98 rfl ?_
        refine g_iret (pc := 99) dX3_condition_99 rfl rfl ?_
        refine ⟨_, _, ⟨rfl, rfl⟩, ?_⟩
        refine ⟨?_, k1.q⟩
        unfold coV
        rw [if_pos c32]
        first
          | (rw [if_neg c80]; done)
          | (rw [if_pos c80, if_pos c91]; done)
          | (rw [if_pos c80, if_neg c91]; done)
      · refine g_iconst (v := nI 0) (pc := 94) dX3_condition_94 rfl ?_
        refine g_goto (tgt := 99) (pc := 95) dX3_condition_95 (by decide) ?_
        refine g_iret (pc := 99) dX3_condition_99 rfl rfl ?_
        refine ⟨_, _, ⟨rfl, rfl⟩, ?_⟩
        refine ⟨?_, k1.q⟩
        unfold coV
        rw [if_pos c32]
        first
          | (rw [if_neg c80]; done)
          | (rw [if_pos c80, if_pos c91]; done)
          | (rw [if_pos c80, if_neg c91]; done)
    · refine g_iconst (v := nI 2) (pc := 83) dX3_condition_83 rfl ?_
      refine g_goto (tgt := 99) (pc := 84) dX3_condition_84 (by decide) ?_
      refine g_iret (pc := 99) dX3_condition_99 rfl rfl ?_
      refine ⟨_, _, ⟨rfl, rfl⟩, ?_⟩
      refine ⟨?_, k1.q⟩
      unfold coV
      rw [if_pos c32]
      first
        | (rw [if_neg c80]; done)
        | (rw [if_pos c80, if_pos c91]; done)
        | (rw [if_pos c80, if_neg c91]; done)
theorem m_X3_describe_1 (hV : Vok I V) (hW : WF V) {f i : Int32} (h : ¬ isFi V f) : gFn G YX3_describe (d + 6) [.ref 114, .int f, .int i] (hp n I L D) (.inl (some (.int (nI 0)))) (hp n (gUp I 114 0 (nI 1)) L D) 0 0 := by
  refine g_aload_n (pc := 0) dX3_describe_0 rfl rfl ?_
  refine g_aload_n (pc := 1) dX3_describe_1 rfl rfl ?_
  refine g_iload_n (pc := 2) dX3_describe_2 rfl rfl ?_
  refine g_fV (av := [.int _]) (pc := 3) dX3_describe_3 mt_X3_isFile lk_X3_87 im_X3_isFile se_X3_isFile np_X3_isFile s_114 (by decide) (by decide) rfl (gc_i gc_0) (Nat.le_of_ble_eq_true rfl) (Nat.le_of_ble_eq_true rfl) ⟨Nat.zero_le _, Nat.zero_le _⟩ (m_X3_isFile hV hW) ?_
  refine g_if_eqB (tgt := 13) (pc := 6) dX3_describe_6 (by decide) (fun c6 => ?_) (fun c6 => ?_)
  · refine g_iconst (v := nI 1) (pc := 13) dX3_describe_13 rfl ?_
    refine g_putI (pc := 14) dX3_describe_14 fl_X3_67 s_114 (by decide) rfl rfl rfl rfl ?_
    refine g_aload_n (pc := 17) dX3_describe_17 rfl rfl ?_
    refine g_getIV (pc := 18) dX3_describe_18 fl_X3_67 s_114 (by decide) rfl (show _ = nI 1 from rfl) ?_
    refine g_iconst (v := nI 1) (pc := 21) dX3_describe_21 rfl ?_
    refine g_icmp_neN (tgt := 27) (pc := 22) dX3_describe_22 (by decide) (by omega) (by omega) (fun c22 => ?_) (fun c22 => ?_)
    · exact absurd c22 (by decide)
    · refine g_iconst (v := nI 0) (pc := 25) dX3_describe_25 rfl ?_
      refine g_iret (pc := 26) dX3_describe_26 rfl rfl ?_
      first | exact ⟨rfl, rfl⟩ | exact ⟨by rw [bI_t (by first | assumption | omega)], rfl⟩ | exact ⟨by rw [bI_f (by first | assumption | omega)], rfl⟩
  · exact absurd c6 h
theorem m_X3_describe_2 (hV : Vok I V) (hW : WF V) (hX : MX I) {j : Nat} (hj : j < 8) (h1 : V (10 * j) = 1) (hu : ¬ udN V j (bl V j) = 0) {i : Int32} : gRi G YX3_describe (d + 6) [.ref 114, .int (nI j), .int i] n I L D (fun v J => v = nI 0 ∧ QF I J 2) := by
  refine g_aload_n (pc := 0) dX3_describe_0 rfl rfl ?_
  refine g_aload_n (pc := 1) dX3_describe_1 rfl rfl ?_
  refine g_iload_n (pc := 2) dX3_describe_2 rfl rfl ?_
  refine g_fV (av := [.int _]) (pc := 3) dX3_describe_3 mt_X3_isFile lk_X3_87 im_X3_isFile se_X3_isFile np_X3_isFile s_114 (by decide) (by decide) rfl (gc_i gc_0) (Nat.le_of_ble_eq_true rfl) (Nat.le_of_ble_eq_true rfl) ⟨Nat.zero_le _, Nat.zero_le _⟩ (m_X3_isFileN hV hW hj) ?_
  refine g_if_eqB (tgt := 13) (pc := 6) dX3_describe_6 (by decide) (fun c6 => ?_) (fun c6 => ?_)
  · exact absurd h1 c6
  refine g_iconst (v := nI 0) (pc := 9) dX3_describe_9 rfl ?_
  refine g_goto (tgt := 14) (pc := 10) dX3_describe_10 (by decide) ?_
  refine g_putI (pc := 14) dX3_describe_14 fl_X3_67 s_114 (by decide) rfl rfl rfl rfl ?_
  refine g_aload_n (pc := 17) dX3_describe_17 rfl rfl ?_
  refine g_getIV (pc := 18) dX3_describe_18 fl_X3_67 s_114 (by decide) rfl (show _ = nI 0 from rfl) ?_
  refine g_iconst (v := nI 1) (pc := 21) dX3_describe_21 rfl ?_
  refine g_icmp_neN (tgt := 27) (pc := 22) dX3_describe_22 (by decide) (by omega) (by omega) (fun c22 => ?_) (fun c22 => ?_)
  rotate_left
  · exact absurd c22 (by decide)
  refine g_aload_n (pc := 27) dX3_describe_27 rfl rfl ?_
  refine g_iload_n (pc := 28) dX3_describe_28 rfl rfl ?_
  refine g_riV (av := [.int _]) (pc := 29) dX3_describe_29 mt_X3_isWhole lk_X3_210 im_X3_isWhole se_X3_isWhole np_X3_isWhole s_114 (by decide) (by decide) rfl (gc_i gc_0) (Nat.le_of_ble_eq_true rfl) (Nat.le_of_ble_eq_true rfl) (m_X3_isWhole hV.f hW hX.no hj h1) ?_
  rintro _ I1 ⟨k1, rfl, k2⟩
  refine g_if_neB (tgt := 41) (pc := 32) dX3_describe_32 (by decide) (fun c32 => ?_) (fun c32 => ?_)
  · exact absurd c32 hu
  refine g_aload_n (pc := 35) dX3_describe_35 rfl rfl ?_
  refine g_iconst (v := nI 2) (pc := 36) dX3_describe_36 rfl ?_
  refine g_fV (av := [.int _]) (pc := 37) dX3_describe_37 mt_X3_no lk_X3_124 im_X3_no se_X3_no np_X3_no s_114 (by decide) (by decide) rfl (gc_i gc_0) (Nat.le_of_ble_eq_true rfl) (Nat.le_of_ble_eq_true rfl) ⟨Nat.zero_le _, Nat.zero_le _⟩ (m_X3_no) ?_
  refine g_iret (pc := 40) dX3_describe_40 rfl rfl ?_
  refine ⟨_, _, ⟨rfl, rfl⟩, ?_⟩
  exact ⟨rfl, k1.q.no⟩
theorem m_X3_describe_3 (hV : Vok I V) (hW : WF V) (hX : MX I) {j : Nat} (hj : j < 8) (h1 : V (10 * j) = 1) (hu : udN V j (bl V j) = 0) {i : Int32} (hi : ¬ (-1 ≤ i ∧ i ≤ nI (V (10 * j + 1) + 3))) : gRi G YX3_describe (d + 6) [.ref 114, .int (nI j), .int i] n I L D (fun v J => v = nI 0 ∧ QF I J 3) := by
  refine g_aload_n (pc := 0) dX3_describe_0 rfl rfl ?_
  refine g_aload_n (pc := 1) dX3_describe_1 rfl rfl ?_
  refine g_iload_n (pc := 2) dX3_describe_2 rfl rfl ?_
  refine g_fV (av := [.int _]) (pc := 3) dX3_describe_3 mt_X3_isFile lk_X3_87 im_X3_isFile se_X3_isFile np_X3_isFile s_114 (by decide) (by decide) rfl (gc_i gc_0) (Nat.le_of_ble_eq_true rfl) (Nat.le_of_ble_eq_true rfl) ⟨Nat.zero_le _, Nat.zero_le _⟩ (m_X3_isFileN hV hW hj) ?_
  refine g_if_eqB (tgt := 13) (pc := 6) dX3_describe_6 (by decide) (fun c6 => ?_) (fun c6 => ?_)
  · exact absurd h1 c6
  refine g_iconst (v := nI 0) (pc := 9) dX3_describe_9 rfl ?_
  refine g_goto (tgt := 14) (pc := 10) dX3_describe_10 (by decide) ?_
  refine g_putI (pc := 14) dX3_describe_14 fl_X3_67 s_114 (by decide) rfl rfl rfl rfl ?_
  refine g_aload_n (pc := 17) dX3_describe_17 rfl rfl ?_
  refine g_getIV (pc := 18) dX3_describe_18 fl_X3_67 s_114 (by decide) rfl (show _ = nI 0 from rfl) ?_
  refine g_iconst (v := nI 1) (pc := 21) dX3_describe_21 rfl ?_
  refine g_icmp_neN (tgt := 27) (pc := 22) dX3_describe_22 (by decide) (by omega) (by omega) (fun c22 => ?_) (fun c22 => ?_)
  rotate_left
  · exact absurd c22 (by decide)
  refine g_aload_n (pc := 27) dX3_describe_27 rfl rfl ?_
  refine g_iload_n (pc := 28) dX3_describe_28 rfl rfl ?_
  refine g_riV (av := [.int _]) (pc := 29) dX3_describe_29 mt_X3_isWhole lk_X3_210 im_X3_isWhole se_X3_isWhole np_X3_isWhole s_114 (by decide) (by decide) rfl (gc_i gc_0) (Nat.le_of_ble_eq_true rfl) (Nat.le_of_ble_eq_true rfl) (m_X3_isWhole hV.f hW hX.no hj h1) ?_
  rintro _ I1 ⟨k1, rfl, k2⟩
  refine g_if_neB (tgt := 41) (pc := 32) dX3_describe_32 (by decide) (fun c32 => ?_) (fun c32 => ?_)
  rotate_left
  · exact absurd hu c32
  refine g_iload_n (pc := 41) dX3_describe_41 rfl rfl ?_
  refine g_iconst (v := (-1)) (pc := 42) dX3_describe_42 rfl ?_
  refine g_aload_n (pc := 43) dX3_describe_43 rfl rfl ?_
  refine g_iload_n (pc := 44) dX3_describe_44 rfl rfl ?_
  refine g_iconst (v := nI 1) (pc := 45) dX3_describe_45 rfl ?_
  refine g_fV (av := [.int _, .int _]) (pc := 46) dX3_describe_46 mt_X3_of lk_X3_77 im_X3_of se_X3_of np_X3_of s_114 (by decide) (by decide) rfl (gc_i (gc_i gc_0)) (Nat.le_of_ble_eq_true rfl) (Nat.le_of_ble_eq_true rfl) ⟨Nat.zero_le _, Nat.zero_le _⟩ (m_X3_of (k1.v hV.f) (j := j) (w := 1) hj (by decide)) ?_
  refine g_iconst (v := nI 3) (pc := 49) dX3_describe_49 rfl ?_
  refine g_iaddN (pc := 50) dX3_describe_50 ?_
  refine g_fS (av := [.int _, .int _, .int _]) (pc := 51) dX3_describe_51 mt_X3_isIn lk_X3_73 sf_X3_isIn np_X3_isIn rfl (gc_i (gc_i (gc_i gc_0))) (Nat.le_of_ble_eq_true rfl) (Nat.le_of_ble_eq_true rfl) ⟨Nat.zero_le _, Nat.zero_le _⟩ (m_X3_isIn) ?_
  refine g_if_neB (tgt := 63) (pc := 54) dX3_describe_54 (by decide) (fun c54 => ?_) (fun c54 => ?_)
  · exact absurd c54 hi
  refine g_aload_n (pc := 57) dX3_describe_57 rfl rfl ?_
  refine g_iconst (v := nI 3) (pc := 58) dX3_describe_58 rfl ?_
  refine g_fV (av := [.int _]) (pc := 59) dX3_describe_59 mt_X3_no lk_X3_124 im_X3_no se_X3_no np_X3_no s_114 (by decide) (by decide) rfl (gc_i gc_0) (Nat.le_of_ble_eq_true rfl) (Nat.le_of_ble_eq_true rfl) ⟨Nat.zero_le _, Nat.zero_le _⟩ (m_X3_no) ?_
  refine g_iret (pc := 62) dX3_describe_62 rfl rfl ?_
  refine ⟨_, _, ⟨rfl, rfl⟩, ?_⟩
  exact ⟨rfl, k1.q.no⟩
theorem m_X3_describe_m (hV : Vok I V) (hW : WF V) (hX : MX I) {j : Nat} (hj : j < 8) (h1 : V (10 * j) = 1) (hu : udN V j (bl V j) = 0) : gRi G YX3_describe (d + 6) [.ref 114, .int (nI j), .int (-1)] n I L D (fun v J => v = nI (V (10 * j + 1) + 4) ∧ QF I J 0) := by
  have hn2 := (hW.1 j hj).2.1
  have hin : (-1 : Int32) ≤ -1 ∧ (-1 : Int32) ≤ nI (V (10 * j + 1) + 3) := ⟨by decide, by
    rw [Int32.le_iff_toInt_le, nI_toInt (by omega)]
    have e : (-1 : Int32).toInt = -1 := rfl
    omega⟩
  refine g_aload_n (pc := 0) dX3_describe_0 rfl rfl ?_
  refine g_aload_n (pc := 1) dX3_describe_1 rfl rfl ?_
  refine g_iload_n (pc := 2) dX3_describe_2 rfl rfl ?_
  refine g_fV (av := [.int _]) (pc := 3) dX3_describe_3 mt_X3_isFile lk_X3_87 im_X3_isFile se_X3_isFile np_X3_isFile s_114 (by decide) (by decide) rfl (gc_i gc_0) (Nat.le_of_ble_eq_true rfl) (Nat.le_of_ble_eq_true rfl) ⟨Nat.zero_le _, Nat.zero_le _⟩ (m_X3_isFileN hV hW hj) ?_
  refine g_if_eqB (tgt := 13) (pc := 6) dX3_describe_6 (by decide) (fun c6 => ?_) (fun c6 => ?_)
  · exact absurd h1 c6
  refine g_iconst (v := nI 0) (pc := 9) dX3_describe_9 rfl ?_
  refine g_goto (tgt := 14) (pc := 10) dX3_describe_10 (by decide) ?_
  refine g_putI (pc := 14) dX3_describe_14 fl_X3_67 s_114 (by decide) rfl rfl rfl rfl ?_
  refine g_aload_n (pc := 17) dX3_describe_17 rfl rfl ?_
  refine g_getIV (pc := 18) dX3_describe_18 fl_X3_67 s_114 (by decide) rfl (show _ = nI 0 from rfl) ?_
  refine g_iconst (v := nI 1) (pc := 21) dX3_describe_21 rfl ?_
  refine g_icmp_neN (tgt := 27) (pc := 22) dX3_describe_22 (by decide) (by omega) (by omega) (fun c22 => ?_) (fun c22 => ?_)
  rotate_left
  · exact absurd c22 (by decide)
  refine g_aload_n (pc := 27) dX3_describe_27 rfl rfl ?_
  refine g_iload_n (pc := 28) dX3_describe_28 rfl rfl ?_
  refine g_riV (av := [.int _]) (pc := 29) dX3_describe_29 mt_X3_isWhole lk_X3_210 im_X3_isWhole se_X3_isWhole np_X3_isWhole s_114 (by decide) (by decide) rfl (gc_i gc_0) (Nat.le_of_ble_eq_true rfl) (Nat.le_of_ble_eq_true rfl) (m_X3_isWhole hV.f hW hX.no hj h1) ?_
  rintro _ I1 ⟨k1, rfl, k2⟩
  refine g_if_neB (tgt := 41) (pc := 32) dX3_describe_32 (by decide) (fun c32 => ?_) (fun c32 => ?_)
  rotate_left
  · exact absurd hu c32
  refine g_iload_n (pc := 41) dX3_describe_41 rfl rfl ?_
  refine g_iconst (v := (-1)) (pc := 42) dX3_describe_42 rfl ?_
  refine g_aload_n (pc := 43) dX3_describe_43 rfl rfl ?_
  refine g_iload_n (pc := 44) dX3_describe_44 rfl rfl ?_
  refine g_iconst (v := nI 1) (pc := 45) dX3_describe_45 rfl ?_
  refine g_fV (av := [.int _, .int _]) (pc := 46) dX3_describe_46 mt_X3_of lk_X3_77 im_X3_of se_X3_of np_X3_of s_114 (by decide) (by decide) rfl (gc_i (gc_i gc_0)) (Nat.le_of_ble_eq_true rfl) (Nat.le_of_ble_eq_true rfl) ⟨Nat.zero_le _, Nat.zero_le _⟩ (m_X3_of (k1.v hV.f) (j := j) (w := 1) hj (by decide)) ?_
  refine g_iconst (v := nI 3) (pc := 49) dX3_describe_49 rfl ?_
  refine g_iaddN (pc := 50) dX3_describe_50 ?_
  refine g_fS (av := [.int _, .int _, .int _]) (pc := 51) dX3_describe_51 mt_X3_isIn lk_X3_73 sf_X3_isIn np_X3_isIn rfl (gc_i (gc_i (gc_i gc_0))) (Nat.le_of_ble_eq_true rfl) (Nat.le_of_ble_eq_true rfl) ⟨Nat.zero_le _, Nat.zero_le _⟩ (m_X3_isIn) ?_
  refine g_if_neB (tgt := 63) (pc := 54) dX3_describe_54 (by decide) (fun c54 => ?_) (fun c54 => ?_)
  rotate_left
  · exact absurd hin c54
  refine g_iload_n (pc := 63) dX3_describe_63 rfl rfl ?_
  refine g_iconst (v := (-1)) (pc := 64) dX3_describe_64 rfl ?_
  refine g_icmp_ne (tgt := 77) (pc := 65) dX3_describe_65 (by decide) (fun c65 => ?_) (fun c65 => ?_)
  · exact absurd rfl c65
  refine g_aload_n (pc := 68) dX3_describe_68 rfl rfl ?_
  refine g_iload_n (pc := 69) dX3_describe_69 rfl rfl ?_
  refine g_iconst (v := nI 1) (pc := 70) dX3_describe_70 rfl ?_
  refine g_fV (av := [.int _, .int _]) (pc := 71) dX3_describe_71 mt_X3_of lk_X3_77 im_X3_of se_X3_of np_X3_of s_114 (by decide) (by decide) rfl (gc_i (gc_i gc_0)) (Nat.le_of_ble_eq_true rfl) (Nat.le_of_ble_eq_true rfl) ⟨Nat.zero_le _, Nat.zero_le _⟩ (m_X3_of (k1.v hV.f) (j := j) (w := 1) hj (by decide)) ?_
  refine g_iconst (v := nI 4) (pc := 74) dX3_describe_74 rfl ?_
  refine g_iaddN (pc := 75) dX3_describe_75 ?_
  refine g_iret (pc := 76) dX3_describe_76 rfl rfl ?_
  refine ⟨_, _, ⟨rfl, rfl⟩, ?_⟩
  exact ⟨rfl, k1.q⟩
theorem m_X3_describe_0 (hV : Vok I V) (hW : WF V) (hX : MX I) {j i : Nat} (hj : j < 8) (h1 : V (10 * j) = 1) (hu : udN V j (bl V j) = 0) (hi : i ≤ V (10 * j + 1) + 3) : gRi G YX3_describe (d + 6) [.ref 114, .int (nI j), .int (nI i)] n I L D (fun v J => v = nI (deV V j i) ∧ QF I J 0) := by
  have hn2 := (hW.1 j hj).2.1
  have hin : (-1 : Int32) ≤ nI i ∧ nI i ≤ nI (V (10 * j + 1) + 3) := ⟨by
    rw [Int32.le_iff_toInt_le, nI_toInt (by omega)]
    have e : (-1 : Int32).toInt = -1 := rfl
    omega, nI_le hi (by omega)⟩
  have hne : ¬ nI i = -1 := fun q => by
    have := congrArg Int32.toInt q
    rw [nI_toInt (by omega)] at this
    have e : (-1 : Int32).toInt = -1 := rfl
    omega
  refine g_aload_n (pc := 0) dX3_describe_0 rfl rfl ?_
  refine g_aload_n (pc := 1) dX3_describe_1 rfl rfl ?_
  refine g_iload_n (pc := 2) dX3_describe_2 rfl rfl ?_
  refine g_fV (av := [.int _]) (pc := 3) dX3_describe_3 mt_X3_isFile lk_X3_87 im_X3_isFile se_X3_isFile np_X3_isFile s_114 (by decide) (by decide) rfl (gc_i gc_0) (Nat.le_of_ble_eq_true rfl) (Nat.le_of_ble_eq_true rfl) ⟨Nat.zero_le _, Nat.zero_le _⟩ (m_X3_isFileN hV hW hj) ?_
  refine g_if_eqB (tgt := 13) (pc := 6) dX3_describe_6 (by decide) (fun c6 => ?_) (fun c6 => ?_)
  · exact absurd h1 c6
  refine g_iconst (v := nI 0) (pc := 9) dX3_describe_9 rfl ?_
  refine g_goto (tgt := 14) (pc := 10) dX3_describe_10 (by decide) ?_
  refine g_putI (pc := 14) dX3_describe_14 fl_X3_67 s_114 (by decide) rfl rfl rfl rfl ?_
  refine g_aload_n (pc := 17) dX3_describe_17 rfl rfl ?_
  refine g_getIV (pc := 18) dX3_describe_18 fl_X3_67 s_114 (by decide) rfl (show _ = nI 0 from rfl) ?_
  refine g_iconst (v := nI 1) (pc := 21) dX3_describe_21 rfl ?_
  refine g_icmp_neN (tgt := 27) (pc := 22) dX3_describe_22 (by decide) (by omega) (by omega) (fun c22 => ?_) (fun c22 => ?_)
  rotate_left
  · exact absurd c22 (by decide)
  refine g_aload_n (pc := 27) dX3_describe_27 rfl rfl ?_
  refine g_iload_n (pc := 28) dX3_describe_28 rfl rfl ?_
  refine g_riV (av := [.int _]) (pc := 29) dX3_describe_29 mt_X3_isWhole lk_X3_210 im_X3_isWhole se_X3_isWhole np_X3_isWhole s_114 (by decide) (by decide) rfl (gc_i gc_0) (Nat.le_of_ble_eq_true rfl) (Nat.le_of_ble_eq_true rfl) (m_X3_isWhole hV.f hW hX.no hj h1) ?_
  rintro _ I1 ⟨k1, rfl, k2⟩
  refine g_if_neB (tgt := 41) (pc := 32) dX3_describe_32 (by decide) (fun c32 => ?_) (fun c32 => ?_)
  rotate_left
  · exact absurd hu c32
  refine g_iload_n (pc := 41) dX3_describe_41 rfl rfl ?_
  refine g_iconst (v := (-1)) (pc := 42) dX3_describe_42 rfl ?_
  refine g_aload_n (pc := 43) dX3_describe_43 rfl rfl ?_
  refine g_iload_n (pc := 44) dX3_describe_44 rfl rfl ?_
  refine g_iconst (v := nI 1) (pc := 45) dX3_describe_45 rfl ?_
  refine g_fV (av := [.int _, .int _]) (pc := 46) dX3_describe_46 mt_X3_of lk_X3_77 im_X3_of se_X3_of np_X3_of s_114 (by decide) (by decide) rfl (gc_i (gc_i gc_0)) (Nat.le_of_ble_eq_true rfl) (Nat.le_of_ble_eq_true rfl) ⟨Nat.zero_le _, Nat.zero_le _⟩ (m_X3_of (k1.v hV.f) (j := j) (w := 1) hj (by decide)) ?_
  refine g_iconst (v := nI 3) (pc := 49) dX3_describe_49 rfl ?_
  refine g_iaddN (pc := 50) dX3_describe_50 ?_
  refine g_fS (av := [.int _, .int _, .int _]) (pc := 51) dX3_describe_51 mt_X3_isIn lk_X3_73 sf_X3_isIn np_X3_isIn rfl (gc_i (gc_i (gc_i gc_0))) (Nat.le_of_ble_eq_true rfl) (Nat.le_of_ble_eq_true rfl) ⟨Nat.zero_le _, Nat.zero_le _⟩ m_X3_isIn ?_
  refine g_if_neB (tgt := 63) (pc := 54) dX3_describe_54 (by decide) (fun c54 => ?_) (fun c54 => ?_)
  rotate_left
  · exact absurd hin c54
  refine g_iload_n (pc := 63) dX3_describe_63 rfl rfl ?_
  refine g_iconst (v := (-1)) (pc := 64) dX3_describe_64 rfl ?_
  refine g_icmp_ne (tgt := 77) (pc := 65) dX3_describe_65 (by decide) (fun c65 => ?_) (fun c65 => ?_)
  rotate_left
  · exact absurd c65 hne
  refine g_iload_n (pc := 77) dX3_describe_77 rfl rfl ?_
  refine g_iconst (v := nI 1) (pc := 78) dX3_describe_78 rfl ?_
  refine g_icmp_neN (tgt := 85) (pc := 79) dX3_describe_79 (by decide) (by omega) (by omega) (fun c79 => ?_) (fun c79 => ?_)
  rotate_left
  · refine g_bipush (v := nI 42) (pc := 82) dX3_describe_82 rfl ?_
    refine g_iret (pc := 84) dX3_describe_84 rfl rfl ?_
    refine ⟨_, _, ⟨rfl, rfl⟩, ?_⟩
    exact ⟨by unfold deV; rw [if_pos c79], k1.q⟩
  refine g_iload_n (pc := 85) dX3_describe_85 rfl rfl ?_
  refine g_iconst (v := nI 3) (pc := 86) dX3_describe_86 rfl ?_
  refine g_icmp_neN (tgt := 93) (pc := 87) dX3_describe_87 (by decide) (by omega) (by omega) (fun c87 => ?_) (fun c87 => ?_)
  rotate_left
  · refine g_bipush (v := nI 58) (pc := 90) dX3_describe_90 rfl ?_
    refine g_iret (pc := 92) dX3_describe_92 rfl rfl ?_
    refine ⟨_, _, ⟨rfl, rfl⟩, ?_⟩
    exact ⟨by unfold deV; rw [if_neg c79, if_pos c87], k1.q⟩
  refine g_iload_n (pc := 93) dX3_describe_93 rfl rfl ?_
  refine g_iconst (v := nI 3) (pc := 94) dX3_describe_94 rfl ?_
  refine g_icmp_geN (tgt := 116) (pc := 95) dX3_describe_95 (by decide) (by omega) (by omega) (fun c95 => ?_) (fun c95 => ?_)
  · have hv := (k2 hu).2 (i - 4) (by unfold bl; omega)
    have hlt := (dcX V j ((i - 4) / 8) (V (10 * j + 2) + (i - 4) % 8)).isLt
    refine g_aload_n (pc := 116) dX3_describe_116 rfl rfl ?_
    refine g_getR (pc := 117) dX3_describe_117 fl_X3_60 s_114 (by decide) rfl t_114_29 ?_
    refine g_iload_n (pc := 120) dX3_describe_120 rfl rfl ?_
    refine g_iconst (v := nI 4) (pc := 121) dX3_describe_121 rfl ?_
    refine g_isubN (pc := 122) dX3_describe_122 (by omega) ?_
    refine g_ialoadN (pc := 123) dX3_describe_123 s_130 (by decide) (by omega) (by decide) (show _ = nI (dcX V j ((i - 4) / 8) (V (10 * j + 2) + (i - 4) % 8)).val from hv) ?_
    refine g_istore_n (pc := 124) dX3_describe_124 rfl (Nat.le_of_ble_eq_true rfl) rfl ?_
    refine g_iload_n (pc := 125) dX3_describe_125 rfl rfl ?_
    refine g_bipush (v := nI 10) (pc := 126) dX3_describe_126 rfl ?_
    refine g_icmp_geN (tgt := 138) (pc := 128) dX3_describe_128 (by decide) (by omega) (by omega) (fun c128 => ?_) (fun c128 => ?_)
    · refine g_bipush (v := nI 97) (pc := 138) dX3_describe_138 rfl ?_
      refine g_iload_n (pc := 140) dX3_describe_140 rfl rfl ?_
      refine g_iaddN (pc := 141) dX3_describe_141 ?_
      refine g_bipush (v := nI 10) (pc := 142) dX3_describe_142 rfl ?_
      refine g_isubN (pc := 144) dX3_describe_144 (by omega) ?_
      refine g_iret (pc := 145) dX3_describe_145 rfl rfl ?_
      refine ⟨_, _, ⟨rfl, rfl⟩, ?_⟩
      refine ⟨?_, k1.q⟩
      unfold deV
      rw [if_neg c79, if_neg c87]
      first
        | (rw [if_pos (show i = 0 by omega)]; done)
        | (rw [if_neg (show ¬ i = 0 by omega), if_pos (show i = 2 by omega)]; done)
        | (rw [if_neg (show ¬ i = 0 by omega), if_neg (show ¬ i = 2 by omega), if_pos (Nat.lt_of_not_le c128)]; done)
        | (rw [if_neg (show ¬ i = 0 by omega), if_neg (show ¬ i = 2 by omega), if_neg (Nat.not_lt.mpr c128)]; done)
    · refine g_bipush (v := nI 48) (pc := 131) dX3_describe_131 rfl ?_
      refine g_iload_n (pc := 133) dX3_describe_133 rfl rfl ?_
      refine g_iaddN (pc := 134) dX3_describe_134 ?_
      refine g_goto (tgt := 145) (pc := 135) dX3_describe_135 (by decide) ?_
      refine g_iret (pc := 145) dX3_describe_145 rfl rfl ?_
      refine ⟨_, _, ⟨rfl, rfl⟩, ?_⟩
      refine ⟨?_, k1.q⟩
      unfold deV
      rw [if_neg c79, if_neg c87]
      first
        | (rw [if_pos (show i = 0 by omega)]; done)
        | (rw [if_neg (show ¬ i = 0 by omega), if_pos (show i = 2 by omega)]; done)
        | (rw [if_neg (show ¬ i = 0 by omega), if_neg (show ¬ i = 2 by omega), if_pos (Nat.lt_of_not_le c128)]; done)
        | (rw [if_neg (show ¬ i = 0 by omega), if_neg (show ¬ i = 2 by omega), if_neg (Nat.not_lt.mpr c128)]; done)
  · refine g_bipush (v := nI 48) (pc := 98) dX3_describe_98 rfl ?_
    refine g_aload_n (pc := 100) dX3_describe_100 rfl rfl ?_
    refine g_iload_n (pc := 101) dX3_describe_101 rfl rfl ?_
    refine g_iload_n (pc := 102) dX3_describe_102 rfl rfl ?_
    refine g_if_neN (tgt := 110) (pc := 103) dX3_describe_103 (by decide) (by omega) (fun c103 => ?_) (fun c103 => ?_)
    · refine g_iconst (v := nI 3) (pc := 110) dX3_describe_110 rfl ?_
      refine g_fV (av := [.int _, .int _]) (pc := 111) dX3_describe_111 mt_X3_of lk_X3_77 im_X3_of se_X3_of np_X3_of s_114 (by decide) (by decide) rfl (gc_i (gc_i gc_0)) (Nat.le_of_ble_eq_true rfl) (Nat.le_of_ble_eq_true rfl) ⟨Nat.zero_le _, Nat.zero_le _⟩ (m_X3_of (k1.v hV.f) (j := j) hj (by decide)) ?_
      refine g_iaddN (pc := 114) dX3_describe_114 ?_
      refine g_iret (pc := 115) dX3_describe_115 rfl rfl ?_
      refine ⟨_, _, ⟨rfl, rfl⟩, ?_⟩
      refine ⟨?_, k1.q⟩
      unfold deV
      rw [if_neg c79, if_neg c87]
      first
        | (rw [if_pos (show i = 0 by omega)]; done)
        | (rw [if_neg (show ¬ i = 0 by omega), if_pos (show i = 2 by omega)]; done)
        | (rw [if_neg (show ¬ i = 0 by omega), if_neg (show ¬ i = 2 by omega), if_pos (Nat.lt_of_not_le c128)]; done)
        | (rw [if_neg (show ¬ i = 0 by omega), if_neg (show ¬ i = 2 by omega), if_neg (Nat.not_lt.mpr c128)]; done)
    · refine g_iconst (v := nI 2) (pc := 106) dX3_describe_106 rfl ?_
      refine g_goto (tgt := 111) (pc := 107) dX3_describe_107 (by decide) ?_
      refine g_fV (av := [.int _, .int _]) (pc := 111) dX3_describe_111 mt_X3_of lk_X3_77 im_X3_of se_X3_of np_X3_of s_114 (by decide) (by decide) rfl (gc_i (gc_i gc_0)) (Nat.le_of_ble_eq_true rfl) (Nat.le_of_ble_eq_true rfl) ⟨Nat.zero_le _, Nat.zero_le _⟩ (m_X3_of (k1.v hV.f) (j := j) hj (by decide)) ?_
      refine g_iaddN (pc := 114) dX3_describe_114 ?_
      refine g_iret (pc := 115) dX3_describe_115 rfl rfl ?_
      refine ⟨_, _, ⟨rfl, rfl⟩, ?_⟩
      refine ⟨?_, k1.q⟩
      unfold deV
      rw [if_neg c79, if_neg c87]
      first
        | (rw [if_pos (show i = 0 by omega)]; done)
        | (rw [if_neg (show ¬ i = 0 by omega), if_pos (show i = 2 by omega)]; done)
        | (rw [if_neg (show ¬ i = 0 by omega), if_neg (show ¬ i = 2 by omega), if_pos (Nat.lt_of_not_le c128)]; done)
        | (rw [if_neg (show ¬ i = 0 by omega), if_neg (show ¬ i = 2 by omega), if_neg (Nat.not_lt.mpr c128)]; done)
end

