/-! ===== sets of errors, by the decoder ===== -/
theorem cand_0 {z er fr E : Nat} (hz : z ≤ 14) : cand z er fr 0 E ↔ E = 0 := by
  constructor
  · rintro ⟨h1, h2, h3, h4⟩
    exact nS_none (Nat.lt_of_lt_of_le h1 (p14 hz)) h4
  · rintro rfl
    exact ⟨Nat.pow_pos (by decide), Nat.zero_and _, fun i _ => Nat.zero_testBit i, by decide⟩
theorem cand_bit {z er fr q E : Nat} (hz : z ≤ 14) (h : cand z er fr (q + 1) E) : ∃ i, fr ≤ i ∧ i < z ∧ E.testBit i = true := by
  obtain ⟨h1, h2, h3, h4⟩ := h
  obtain ⟨i, i1, i2, i3⟩ := nS_sur (S := E) (k := 0) (m := 14) (by omega)
  refine ⟨i, ?_, ?_, i2⟩
  · rcases Nat.lt_or_ge i fr with w | w
    · rw [h3 i w] at i2; cases i2
    · exact w
  · rcases Nat.lt_or_ge i z with w | w
    · exact w
    · rw [Nat.testBit_lt_two_pow (Nat.lt_of_lt_of_le h1 (Nat.pow_le_pow_right (by decide) w))] at i2; cases i2
theorem gRv_deep {G : gG} {Y : gY} {d d' n : Nat} {av : List Value} {I : Nat → Nat → Int32} {L : Nat → Nat → Int64} {D : Nat → Nat → UInt64} {P : (Nat → Nat → Int32) → Prop} (hd : d ≤ d') (k : gRv G Y d av n I L D P) : gRv G Y d' av n I L D P := g_deep hd k
section
variable {G : gG} {d n : Nat} {I : Nat → Nat → Int32} {L : Nat → Nat → Int64} {D : Nat → Nat → UInt64} {V : Nat → Nat}
theorem m_X0_err_3 (hK : Kt I) {s : Nat → F6} {len fr q z er : Nat} (hz : z ≤ 14) (her : er < 16384) (hq : q ≤ 0) (hlen : 2 * q ≤ len) (hl6 : len ≤ 6) (hfr : fr ≤ z) (hs : ∀ j, j < len → I 37 j = fI (s j)) : gRi G YX0_errorSet (d + 2) [.ref 38, .int (nI 3), .int (nI len), .int (nI fr), .int (nI q), .int (nI z), .int (nI er)] n I L D (fun v J => ((∃ E, v = nI E ∧ cand z er fr q E ∧ Sv s len E) ∨ (v = -1 ∧ ∀ E, cand z er fr q E → ¬ Sv s len E)) ∧ Sm [] I J) := by
  by_cases hq0 : q = 0
  · subst hq0
    refine g_iload (pc := 0) dX0_errorSet_0 rfl ?_
    refine g_if_neN (tgt := 21) (pc := 2) dX0_errorSet_2 (by decide) (by omega) (fun c2 => ?_) (fun c2 => ?_)
    · exact absurd rfl c2
    refine g_aload_n (pc := 5) dX0_errorSet_5 rfl rfl ?_
    refine g_iload_n (pc := 6) dX0_errorSet_6 rfl rfl ?_
    refine g_aaload (pc := 7) dX0_errorSet_7 (Or.inl rfl) s_38 (by decide) (vp_in_nI (by decide) (by decide)) (show T0 38 (nI 3).toNatClampNeg = some 37 from t_38_3) ?_
    refine g_iload_n (pc := 8) dX0_errorSet_8 rfl rfl ?_
    refine g_fS (av := [.ref 37, .int _]) (pc := 9) dX0_errorSet_9 mt_X0_isZero lk_X0_99 sf_X0_isZero np_X0_isZero rfl (gc_r (gc_i gc_0)) (Nat.le_of_ble_eq_true rfl) (Nat.le_of_ble_eq_true rfl) ⟨Nat.zero_le _, Nat.zero_le _⟩ (m_X0_isZero_37 hl6 hs) ?_
    refine g_if_eqB (tgt := 19) (pc := 12) dX0_errorSet_12 (by decide) (fun c12 => ?_) (fun c12 => ?_)
    · refine g_iconst (v := (-1)) (pc := 19) dX0_errorSet_19 rfl ?_
      refine g_iret (pc := 20) dX0_errorSet_20 rfl rfl ?_
      refine ⟨_, _, ⟨rfl, rfl⟩, ?_⟩
      skip
      first
        | exact ⟨Or.inl ⟨0, rfl, (cand_0 hz).mpr rfl, Sv_nil.mpr c12⟩, Sm.rfl⟩
        | exact ⟨Or.inr ⟨rfl, fun E hE => by rw [(cand_0 hz).mp hE, Sv_nil]; exact c12⟩, Sm.rfl⟩
    · refine g_iconst (v := nI 0) (pc := 15) dX0_errorSet_15 rfl ?_
      refine g_goto (tgt := 20) (pc := 16) dX0_errorSet_16 (by decide) ?_
      refine g_iret (pc := 20) dX0_errorSet_20 rfl rfl ?_
      refine ⟨_, _, ⟨rfl, rfl⟩, ?_⟩
      skip
      first
        | exact ⟨Or.inl ⟨0, rfl, (cand_0 hz).mpr rfl, Sv_nil.mpr c12⟩, Sm.rfl⟩
        | exact ⟨Or.inr ⟨rfl, fun E hE => by rw [(cand_0 hz).mp hE, Sv_nil]; exact c12⟩, Sm.rfl⟩
  · exact absurd hq (by omega)
theorem m_X0_err_2 (hK : Kt I) {s : Nat → F6} {len fr q z er : Nat} (hz : z ≤ 14) (her : er < 16384) (hq : q ≤ 1) (hlen : 2 * q ≤ len) (hl6 : len ≤ 6) (hfr : fr ≤ z) (hs : ∀ j, j < len → I 36 j = fI (s j)) : gRi G YX0_errorSet (d + 3) [.ref 38, .int (nI 2), .int (nI len), .int (nI fr), .int (nI q), .int (nI z), .int (nI er)] n I L D (fun v J => ((∃ E, v = nI E ∧ cand z er fr q E ∧ Sv s len E) ∨ (v = -1 ∧ ∀ E, cand z er fr q E → ¬ Sv s len E)) ∧ Sm [37] I J) := by
  by_cases hq0 : q = 0
  · subst hq0
    refine g_iload (pc := 0) dX0_errorSet_0 rfl ?_
    refine g_if_neN (tgt := 21) (pc := 2) dX0_errorSet_2 (by decide) (by omega) (fun c2 => ?_) (fun c2 => ?_)
    · exact absurd rfl c2
    refine g_aload_n (pc := 5) dX0_errorSet_5 rfl rfl ?_
    refine g_iload_n (pc := 6) dX0_errorSet_6 rfl rfl ?_
    refine g_aaload (pc := 7) dX0_errorSet_7 (Or.inl rfl) s_38 (by decide) (vp_in_nI (by decide) (by decide)) (show T0 38 (nI 2).toNatClampNeg = some 36 from t_38_2) ?_
    refine g_iload_n (pc := 8) dX0_errorSet_8 rfl rfl ?_
    refine g_fS (av := [.ref 36, .int _]) (pc := 9) dX0_errorSet_9 mt_X0_isZero lk_X0_99 sf_X0_isZero np_X0_isZero rfl (gc_r (gc_i gc_0)) (Nat.le_of_ble_eq_true rfl) (Nat.le_of_ble_eq_true rfl) ⟨Nat.zero_le _, Nat.zero_le _⟩ (m_X0_isZero_36 hl6 hs) ?_
    refine g_if_eqB (tgt := 19) (pc := 12) dX0_errorSet_12 (by decide) (fun c12 => ?_) (fun c12 => ?_)
    · refine g_iconst (v := (-1)) (pc := 19) dX0_errorSet_19 rfl ?_
      refine g_iret (pc := 20) dX0_errorSet_20 rfl rfl ?_
      refine ⟨_, _, ⟨rfl, rfl⟩, ?_⟩
      skip
      first
        | exact ⟨Or.inl ⟨0, rfl, (cand_0 hz).mpr rfl, Sv_nil.mpr c12⟩, Sm.rfl⟩
        | exact ⟨Or.inr ⟨rfl, fun E hE => by rw [(cand_0 hz).mp hE, Sv_nil]; exact c12⟩, Sm.rfl⟩
    · refine g_iconst (v := nI 0) (pc := 15) dX0_errorSet_15 rfl ?_
      refine g_goto (tgt := 20) (pc := 16) dX0_errorSet_16 (by decide) ?_
      refine g_iret (pc := 20) dX0_errorSet_20 rfl rfl ?_
      refine ⟨_, _, ⟨rfl, rfl⟩, ?_⟩
      skip
      first
        | exact ⟨Or.inl ⟨0, rfl, (cand_0 hz).mpr rfl, Sv_nil.mpr c12⟩, Sm.rfl⟩
        | exact ⟨Or.inr ⟨rfl, fun E hE => by rw [(cand_0 hz).mp hE, Sv_nil]; exact c12⟩, Sm.rfl⟩
  · obtain ⟨q, rfl⟩ : ∃ k, q = k + 1 := ⟨q - 1, by omega⟩
    refine g_iload (pc := 0) dX0_errorSet_0 rfl ?_
    refine g_if_neN (tgt := 21) (pc := 2) dX0_errorSet_2 (by decide) (by omega) (fun c2 => ?_) (fun c2 => ?_)
    rotate_left
    · exact absurd c2 hq0
    refine g_iload_n (pc := 21) dX0_errorSet_21 rfl rfl ?_
    refine g_iconst (v := nI 1) (pc := 22) dX0_errorSet_22 rfl ?_
    refine g_iaddN (pc := 23) dX0_errorSet_23 ?_
    refine g_aload_n (pc := 24) dX0_errorSet_24 rfl rfl ?_
    refine g_alen (pc := 25) dX0_errorSet_25 s_38 (by decide) (by decide) ?_
    refine g_icmp_lt (tgt := 31) (pc := 26) dX0_errorSet_26 (by decide) (fun c26 => ?_) (fun c26 => ?_)
    rotate_left
    · exact absurd (show nI (2 + 1) < nI 4 by decide) c26
    refine g_iload_n (pc := 31) dX0_errorSet_31 rfl rfl ?_
    refine g_istore (pc := 32) dX0_errorSet_32 (Nat.le_of_ble_eq_true rfl) rfl ?_
    refine g_loop (z - fr) (fun t J => Sm [37] I J ∧ ∀ E, cand z er fr (q + 1) E → (∃ i, fr ≤ i ∧ i < fr + t ∧ E.testBit i = true) → ¬ Sv s len E) (fun t _ => [some (.ref 38), some (.int (nI 2)), some (.int (nI len)), some (.int (nI fr)), some (.int (nI (q + 1))), some (.int (nI z)), some (.int (nI er)), some (.int (nI (fr + t))), none]) (fun J => hp n J L D) (fun t J ht hJ kn => ?_) (fun J hJ => ?_) 0 I (Nat.zero_le _) ⟨Sm.rfl, fun E _ hE => by obtain ⟨i, i1, i2, i3⟩ := hE; omega⟩
    · obtain ⟨u1, u2⟩ := hJ
      have hKJ : Kt J := hK.s u1 (by decide) (by decide)
      have hsJ : ∀ j, j < len → J 36 j = fI (s j) := fun j hj => by rw [u1 36 (by decide)]; exact hs j hj
      refine g_iload (pc := 34) dX0_errorSet_34 rfl ?_
      refine g_iload (pc := 36) dX0_errorSet_36 rfl ?_
      refine g_icmp_geN (tgt := 108) (pc := 38) dX0_errorSet_38 (by decide) (by omega) (by omega) (fun c38 => ?_) (fun c38 => ?_)
      · omega
      refine g_iload (pc := 41) dX0_errorSet_41 rfl ?_
      refine g_iload (pc := 43) dX0_errorSet_43 rfl ?_
      refine g_ishr (pc := 45) dX0_errorSet_45 ?_
      refine g_iconst (v := nI 1) (pc := 46) dX0_errorSet_46 rfl ?_
      refine g_iand (pc := 47) dX0_errorSet_47 ?_
      rw [bt_n (show er < 2 ^ 31 by omega) (by omega)]
      refine g_if_neN (tgt := 102) (pc := 48) dX0_errorSet_48 (by decide) (by split <;> decide) (fun c48 => ?_) (fun c48 => ?_)
      · have hb := bq_t c48
        refine g_iincN (pc := 102) dX0_errorSet_102 (Nat.le_of_ble_eq_true rfl) rfl rfl ?_
        refine g_goto (tgt := 34) (pc := 105) dX0_errorSet_105 (by decide) ?_
        refine kn _ ⟨u1, fun E hE hb9 => ?_⟩
        obtain ⟨i, i1, i2, i3⟩ := hb9
        rcases Nat.lt_or_ge i (fr + t) with w | w
        · exact u2 E hE ⟨i, i1, w, i3⟩
        · have h2 := hE.2.1
          have : (E &&& er).testBit i = false := by rw [h2]; exact Nat.zero_testBit i
          rw [Nat.testBit_and, i3, show i = fr + t by omega, hb] at this
          cases this
      have hb := bq_f c48
      refine g_aload_n (pc := 51) dX0_errorSet_51 rfl rfl ?_
      refine g_iload_n (pc := 52) dX0_errorSet_52 rfl rfl ?_
      refine g_aaload (pc := 53) dX0_errorSet_53 (Or.inl rfl) s_38 (by decide) (vp_in_nI (by decide) (by decide)) (show T0 38 (nI 2).toNatClampNeg = some 36 from t_38_2) ?_
      refine g_aload_n (pc := 54) dX0_errorSet_54 rfl rfl ?_
      refine g_iload_n (pc := 55) dX0_errorSet_55 rfl rfl ?_
      refine g_iconst (v := nI 1) (pc := 56) dX0_errorSet_56 rfl ?_
      refine g_iaddN (pc := 57) dX0_errorSet_57 ?_
      refine g_aaload (pc := 58) dX0_errorSet_58 (Or.inl rfl) s_38 (by decide) (vp_in_nI (by decide) (by decide)) (show T0 38 (nI (2 + 1)).toNatClampNeg = some 37 from t_38_3) ?_
      refine g_iload (pc := 59) dX0_errorSet_59 rfl ?_
      refine g_iload_n (pc := 61) dX0_errorSet_61 rfl rfl ?_
      refine g_rvS (av := [.ref 36, .ref 37, .int _, .int _]) (pc := 62) dX0_errorSet_62 mt_X0_cancel lk_X0_103 sf_X0_cancel np_X0_cancel rfl (gc_r (gc_r (gc_i (gc_i gc_0)))) (Nat.le_of_ble_eq_true rfl) (Nat.le_of_ble_eq_true rfl) (gRv_deep (by omega) (m_X0_cancel_36_37 (d := 0) hKJ (show fr + t < 15 by omega) hl6 hsJ)) ?_
      rintro I1 ⟨k1, k2⟩
      refine g_aload_n (pc := 65) dX0_errorSet_65 rfl rfl ?_
      refine g_iload_n (pc := 66) dX0_errorSet_66 rfl rfl ?_
      refine g_iconst (v := nI 1) (pc := 67) dX0_errorSet_67 rfl ?_
      refine g_iaddN (pc := 68) dX0_errorSet_68 ?_
      refine g_iload_n (pc := 69) dX0_errorSet_69 rfl rfl ?_
      refine g_iconst (v := nI 1) (pc := 70) dX0_errorSet_70 rfl ?_
      refine g_isubN (pc := 71) dX0_errorSet_71 (by omega) ?_
      refine g_iload (pc := 72) dX0_errorSet_72 rfl ?_
      refine g_iconst (v := nI 1) (pc := 74) dX0_errorSet_74 rfl ?_
      refine g_iaddN (pc := 75) dX0_errorSet_75 ?_
      refine g_iload (pc := 76) dX0_errorSet_76 rfl ?_
      refine g_iconst (v := nI 1) (pc := 78) dX0_errorSet_78 rfl ?_
      refine g_isubN (pc := 79) dX0_errorSet_79 (by omega) ?_
      refine g_iload (pc := 80) dX0_errorSet_80 rfl ?_
      refine g_iload (pc := 82) dX0_errorSet_82 rfl ?_
      refine g_riS (av := [.ref 38, .int _, .int _, .int _, .int _, .int _, .int _]) (pc := 84) dX0_errorSet_84 mt_X0_errorSet lk_X0_86 sf_X0_errorSet np_X0_errorSet rfl (gc_r (gc_i (gc_i (gc_i (gc_i (gc_i (gc_i gc_0))))))) (Nat.le_of_ble_eq_true rfl) (Nat.le_of_ble_eq_true rfl) (m_X0_err_3 (d := d) (s := can (fr + t) s) (len := len - 1) (fr := fr + t + 1) (q := q) (hKJ.s k2 (by decide) (by decide)) hz her (by omega) (by omega) (by omega) (by omega) (fun j hj => k1 j (by omega))) ?_
      rintro v I2 ⟨hv, k3⟩
      have u3 : Sm [37] I I2 := Sm.trans u1 (Sm.trans (k2.mono (by decide)) (k3.mono (by decide)))
      have hle : len = len - 1 + 1 := by omega
      rcases hv with ⟨E, rfl, hE1, hE2⟩ | ⟨rfl, hno⟩
      · have hEl : E < 16384 := Nat.lt_of_lt_of_le hE1.1 (p14 hz)
        obtain ⟨hc1, hc2⟩ := cand_up hz (show fr + t < z by omega) (Nat.le_add_right fr t) hb hE1
        refine g_istore (pc := 87) dX0_errorSet_87 (Nat.le_of_ble_eq_true rfl) rfl ?_
        refine g_iload (pc := 89) dX0_errorSet_89 rfl ?_
        refine g_if_ltN (tgt := 102) (pc := 91) dX0_errorSet_91 (by decide) (by omega) (fun c91 => ?_) (fun c91 => ?_)
        · omega
        refine g_iload (pc := 94) dX0_errorSet_94 rfl ?_
        refine g_iconst (v := nI 1) (pc := 96) dX0_errorSet_96 rfl ?_
        refine g_iload (pc := 97) dX0_errorSet_97 rfl ?_
        refine g_ishl (pc := 99) dX0_errorSet_99 ?_
        rw [sh_1 (fr + t) (by omega)]
        refine g_ior (pc := 100) dX0_errorSet_100 ?_
        rw [nI_or]
        refine g_iret (pc := 101) dX0_errorSet_101 rfl rfl ?_
        refine ⟨_, _, ⟨rfl, rfl⟩, ?_⟩
        refine ⟨Or.inl ⟨_, rfl, hc1, ?_⟩, u3⟩
        rw [hle]
        exact Sv_back (by omega) hc2 hE2
      · skip
        refine g_istore (pc := 87) dX0_errorSet_87 (Nat.le_of_ble_eq_true rfl) rfl ?_
        refine g_iload (pc := 89) dX0_errorSet_89 rfl ?_
        refine g_if_lt (tgt := 102) (pc := 91) dX0_errorSet_91 (by decide) (fun c91 => ?_) (fun c91 => ?_)
        rotate_left
        · exact absurd (show (-1 : Int32) < 0 by decide) c91
        refine g_iincN (pc := 102) dX0_errorSet_102 (Nat.le_of_ble_eq_true rfl) rfl rfl ?_
        refine g_goto (tgt := 34) (pc := 105) dX0_errorSet_105 (by decide) ?_
        refine g_fg 8 ?_
        refine kn _ ⟨u3, fun E hE hb9 hSv => ?_⟩
        obtain ⟨i, i1, i2, i3⟩ := hb9
        rcases Classical.em (∃ k, fr ≤ k ∧ k < fr + t ∧ E.testBit k = true) with w | w
        · exact u2 E hE w hSv
        · have hip : i = fr + t := by
            rcases Nat.lt_or_ge i (fr + t) with w2 | w2
            · exact absurd ⟨i, i1, w2, i3⟩ w
            · omega
          have hlo : ∀ k, k < fr + t → E.testBit k = false := fun k hk => by
            rcases Nat.lt_or_ge k fr with w2 | w2
            · exact hE.2.2.1 k w2
            · cases hbk : E.testBit k
              · rfl
              · exact absurd ⟨k, w2, hk, hbk⟩ w
          obtain ⟨d1, d2, d3⟩ := cand_dn hz (show fr + t < z by omega) hE (hip ▸ i3) hlo
          rw [hle, d2] at hSv
          exact hno _ d1 (Sv_fwd d3 hSv)
    · obtain ⟨u1, u2⟩ := hJ
      refine g_iload (pc := 34) dX0_errorSet_34 rfl ?_
      refine g_iload (pc := 36) dX0_errorSet_36 rfl ?_
      refine g_icmp_geN (tgt := 108) (pc := 38) dX0_errorSet_38 (by decide) (by omega) (by omega) (fun c38 => ?_) (fun c38 => ?_)
      rotate_left
      · omega
      refine g_iconst (v := (-1)) (pc := 108) dX0_errorSet_108 rfl ?_
      refine g_iret (pc := 109) dX0_errorSet_109 rfl rfl ?_
      refine ⟨_, _, ⟨rfl, rfl⟩, ?_⟩
      refine ⟨Or.inr ⟨rfl, fun E hE => ?_⟩, u1⟩
      obtain ⟨i, i1, i2, i3⟩ := cand_bit hz hE
      exact u2 E hE ⟨i, i1, by omega, i3⟩
theorem m_X0_err_1 (hK : Kt I) {s : Nat → F6} {len fr q z er : Nat} (hz : z ≤ 14) (her : er < 16384) (hq : q ≤ 2) (hlen : 2 * q ≤ len) (hl6 : len ≤ 6) (hfr : fr ≤ z) (hs : ∀ j, j < len → I 35 j = fI (s j)) : gRi G YX0_errorSet (d + 4) [.ref 38, .int (nI 1), .int (nI len), .int (nI fr), .int (nI q), .int (nI z), .int (nI er)] n I L D (fun v J => ((∃ E, v = nI E ∧ cand z er fr q E ∧ Sv s len E) ∨ (v = -1 ∧ ∀ E, cand z er fr q E → ¬ Sv s len E)) ∧ Sm [36, 37] I J) := by
  by_cases hq0 : q = 0
  · subst hq0
    refine g_iload (pc := 0) dX0_errorSet_0 rfl ?_
    refine g_if_neN (tgt := 21) (pc := 2) dX0_errorSet_2 (by decide) (by omega) (fun c2 => ?_) (fun c2 => ?_)
    · exact absurd rfl c2
    refine g_aload_n (pc := 5) dX0_errorSet_5 rfl rfl ?_
    refine g_iload_n (pc := 6) dX0_errorSet_6 rfl rfl ?_
    refine g_aaload (pc := 7) dX0_errorSet_7 (Or.inl rfl) s_38 (by decide) (vp_in_nI (by decide) (by decide)) (show T0 38 (nI 1).toNatClampNeg = some 35 from t_38_1) ?_
    refine g_iload_n (pc := 8) dX0_errorSet_8 rfl rfl ?_
    refine g_fS (av := [.ref 35, .int _]) (pc := 9) dX0_errorSet_9 mt_X0_isZero lk_X0_99 sf_X0_isZero np_X0_isZero rfl (gc_r (gc_i gc_0)) (Nat.le_of_ble_eq_true rfl) (Nat.le_of_ble_eq_true rfl) ⟨Nat.zero_le _, Nat.zero_le _⟩ (m_X0_isZero_35 hl6 hs) ?_
    refine g_if_eqB (tgt := 19) (pc := 12) dX0_errorSet_12 (by decide) (fun c12 => ?_) (fun c12 => ?_)
    · refine g_iconst (v := (-1)) (pc := 19) dX0_errorSet_19 rfl ?_
      refine g_iret (pc := 20) dX0_errorSet_20 rfl rfl ?_
      refine ⟨_, _, ⟨rfl, rfl⟩, ?_⟩
      skip
      first
        | exact ⟨Or.inl ⟨0, rfl, (cand_0 hz).mpr rfl, Sv_nil.mpr c12⟩, Sm.rfl⟩
        | exact ⟨Or.inr ⟨rfl, fun E hE => by rw [(cand_0 hz).mp hE, Sv_nil]; exact c12⟩, Sm.rfl⟩
    · refine g_iconst (v := nI 0) (pc := 15) dX0_errorSet_15 rfl ?_
      refine g_goto (tgt := 20) (pc := 16) dX0_errorSet_16 (by decide) ?_
      refine g_iret (pc := 20) dX0_errorSet_20 rfl rfl ?_
      refine ⟨_, _, ⟨rfl, rfl⟩, ?_⟩
      skip
      first
        | exact ⟨Or.inl ⟨0, rfl, (cand_0 hz).mpr rfl, Sv_nil.mpr c12⟩, Sm.rfl⟩
        | exact ⟨Or.inr ⟨rfl, fun E hE => by rw [(cand_0 hz).mp hE, Sv_nil]; exact c12⟩, Sm.rfl⟩
  · obtain ⟨q, rfl⟩ : ∃ k, q = k + 1 := ⟨q - 1, by omega⟩
    refine g_iload (pc := 0) dX0_errorSet_0 rfl ?_
    refine g_if_neN (tgt := 21) (pc := 2) dX0_errorSet_2 (by decide) (by omega) (fun c2 => ?_) (fun c2 => ?_)
    rotate_left
    · exact absurd c2 hq0
    refine g_iload_n (pc := 21) dX0_errorSet_21 rfl rfl ?_
    refine g_iconst (v := nI 1) (pc := 22) dX0_errorSet_22 rfl ?_
    refine g_iaddN (pc := 23) dX0_errorSet_23 ?_
    refine g_aload_n (pc := 24) dX0_errorSet_24 rfl rfl ?_
    refine g_alen (pc := 25) dX0_errorSet_25 s_38 (by decide) (by decide) ?_
    refine g_icmp_lt (tgt := 31) (pc := 26) dX0_errorSet_26 (by decide) (fun c26 => ?_) (fun c26 => ?_)
    rotate_left
    · exact absurd (show nI (1 + 1) < nI 4 by decide) c26
    refine g_iload_n (pc := 31) dX0_errorSet_31 rfl rfl ?_
    refine g_istore (pc := 32) dX0_errorSet_32 (Nat.le_of_ble_eq_true rfl) rfl ?_
    refine g_loop (z - fr) (fun t J => Sm [36, 37] I J ∧ ∀ E, cand z er fr (q + 1) E → (∃ i, fr ≤ i ∧ i < fr + t ∧ E.testBit i = true) → ¬ Sv s len E) (fun t _ => [some (.ref 38), some (.int (nI 1)), some (.int (nI len)), some (.int (nI fr)), some (.int (nI (q + 1))), some (.int (nI z)), some (.int (nI er)), some (.int (nI (fr + t))), none]) (fun J => hp n J L D) (fun t J ht hJ kn => ?_) (fun J hJ => ?_) 0 I (Nat.zero_le _) ⟨Sm.rfl, fun E _ hE => by obtain ⟨i, i1, i2, i3⟩ := hE; omega⟩
    · obtain ⟨u1, u2⟩ := hJ
      have hKJ : Kt J := hK.s u1 (by decide) (by decide)
      have hsJ : ∀ j, j < len → J 35 j = fI (s j) := fun j hj => by rw [u1 35 (by decide)]; exact hs j hj
      refine g_iload (pc := 34) dX0_errorSet_34 rfl ?_
      refine g_iload (pc := 36) dX0_errorSet_36 rfl ?_
      refine g_icmp_geN (tgt := 108) (pc := 38) dX0_errorSet_38 (by decide) (by omega) (by omega) (fun c38 => ?_) (fun c38 => ?_)
      · omega
      refine g_iload (pc := 41) dX0_errorSet_41 rfl ?_
      refine g_iload (pc := 43) dX0_errorSet_43 rfl ?_
      refine g_ishr (pc := 45) dX0_errorSet_45 ?_
      refine g_iconst (v := nI 1) (pc := 46) dX0_errorSet_46 rfl ?_
      refine g_iand (pc := 47) dX0_errorSet_47 ?_
      rw [bt_n (show er < 2 ^ 31 by omega) (by omega)]
      refine g_if_neN (tgt := 102) (pc := 48) dX0_errorSet_48 (by decide) (by split <;> decide) (fun c48 => ?_) (fun c48 => ?_)
      · have hb := bq_t c48
        refine g_iincN (pc := 102) dX0_errorSet_102 (Nat.le_of_ble_eq_true rfl) rfl rfl ?_
        refine g_goto (tgt := 34) (pc := 105) dX0_errorSet_105 (by decide) ?_
        refine kn _ ⟨u1, fun E hE hb9 => ?_⟩
        obtain ⟨i, i1, i2, i3⟩ := hb9
        rcases Nat.lt_or_ge i (fr + t) with w | w
        · exact u2 E hE ⟨i, i1, w, i3⟩
        · have h2 := hE.2.1
          have : (E &&& er).testBit i = false := by rw [h2]; exact Nat.zero_testBit i
          rw [Nat.testBit_and, i3, show i = fr + t by omega, hb] at this
          cases this
      have hb := bq_f c48
      refine g_aload_n (pc := 51) dX0_errorSet_51 rfl rfl ?_
      refine g_iload_n (pc := 52) dX0_errorSet_52 rfl rfl ?_
      refine g_aaload (pc := 53) dX0_errorSet_53 (Or.inl rfl) s_38 (by decide) (vp_in_nI (by decide) (by decide)) (show T0 38 (nI 1).toNatClampNeg = some 35 from t_38_1) ?_
      refine g_aload_n (pc := 54) dX0_errorSet_54 rfl rfl ?_
      refine g_iload_n (pc := 55) dX0_errorSet_55 rfl rfl ?_
      refine g_iconst (v := nI 1) (pc := 56) dX0_errorSet_56 rfl ?_
      refine g_iaddN (pc := 57) dX0_errorSet_57 ?_
      refine g_aaload (pc := 58) dX0_errorSet_58 (Or.inl rfl) s_38 (by decide) (vp_in_nI (by decide) (by decide)) (show T0 38 (nI (1 + 1)).toNatClampNeg = some 36 from t_38_2) ?_
      refine g_iload (pc := 59) dX0_errorSet_59 rfl ?_
      refine g_iload_n (pc := 61) dX0_errorSet_61 rfl rfl ?_
      refine g_rvS (av := [.ref 35, .ref 36, .int _, .int _]) (pc := 62) dX0_errorSet_62 mt_X0_cancel lk_X0_103 sf_X0_cancel np_X0_cancel rfl (gc_r (gc_r (gc_i (gc_i gc_0)))) (Nat.le_of_ble_eq_true rfl) (Nat.le_of_ble_eq_true rfl) (gRv_deep (by omega) (m_X0_cancel_35_36 (d := 0) hKJ (show fr + t < 15 by omega) hl6 hsJ)) ?_
      rintro I1 ⟨k1, k2⟩
      refine g_aload_n (pc := 65) dX0_errorSet_65 rfl rfl ?_
      refine g_iload_n (pc := 66) dX0_errorSet_66 rfl rfl ?_
      refine g_iconst (v := nI 1) (pc := 67) dX0_errorSet_67 rfl ?_
      refine g_iaddN (pc := 68) dX0_errorSet_68 ?_
      refine g_iload_n (pc := 69) dX0_errorSet_69 rfl rfl ?_
      refine g_iconst (v := nI 1) (pc := 70) dX0_errorSet_70 rfl ?_
      refine g_isubN (pc := 71) dX0_errorSet_71 (by omega) ?_
      refine g_iload (pc := 72) dX0_errorSet_72 rfl ?_
      refine g_iconst (v := nI 1) (pc := 74) dX0_errorSet_74 rfl ?_
      refine g_iaddN (pc := 75) dX0_errorSet_75 ?_
      refine g_iload (pc := 76) dX0_errorSet_76 rfl ?_
      refine g_iconst (v := nI 1) (pc := 78) dX0_errorSet_78 rfl ?_
      refine g_isubN (pc := 79) dX0_errorSet_79 (by omega) ?_
      refine g_iload (pc := 80) dX0_errorSet_80 rfl ?_
      refine g_iload (pc := 82) dX0_errorSet_82 rfl ?_
      refine g_riS (av := [.ref 38, .int _, .int _, .int _, .int _, .int _, .int _]) (pc := 84) dX0_errorSet_84 mt_X0_errorSet lk_X0_86 sf_X0_errorSet np_X0_errorSet rfl (gc_r (gc_i (gc_i (gc_i (gc_i (gc_i (gc_i gc_0))))))) (Nat.le_of_ble_eq_true rfl) (Nat.le_of_ble_eq_true rfl) (m_X0_err_2 (d := d) (s := can (fr + t) s) (len := len - 1) (fr := fr + t + 1) (q := q) (hKJ.s k2 (by decide) (by decide)) hz her (by omega) (by omega) (by omega) (by omega) (fun j hj => k1 j (by omega))) ?_
      rintro v I2 ⟨hv, k3⟩
      have u3 : Sm [36, 37] I I2 := Sm.trans u1 (Sm.trans (k2.mono (by decide)) (k3.mono (by decide)))
      have hle : len = len - 1 + 1 := by omega
      rcases hv with ⟨E, rfl, hE1, hE2⟩ | ⟨rfl, hno⟩
      · have hEl : E < 16384 := Nat.lt_of_lt_of_le hE1.1 (p14 hz)
        obtain ⟨hc1, hc2⟩ := cand_up hz (show fr + t < z by omega) (Nat.le_add_right fr t) hb hE1
        refine g_istore (pc := 87) dX0_errorSet_87 (Nat.le_of_ble_eq_true rfl) rfl ?_
        refine g_iload (pc := 89) dX0_errorSet_89 rfl ?_
        refine g_if_ltN (tgt := 102) (pc := 91) dX0_errorSet_91 (by decide) (by omega) (fun c91 => ?_) (fun c91 => ?_)
        · omega
        refine g_iload (pc := 94) dX0_errorSet_94 rfl ?_
        refine g_iconst (v := nI 1) (pc := 96) dX0_errorSet_96 rfl ?_
        refine g_iload (pc := 97) dX0_errorSet_97 rfl ?_
        refine g_ishl (pc := 99) dX0_errorSet_99 ?_
        rw [sh_1 (fr + t) (by omega)]
        refine g_ior (pc := 100) dX0_errorSet_100 ?_
        rw [nI_or]
        refine g_iret (pc := 101) dX0_errorSet_101 rfl rfl ?_
        refine ⟨_, _, ⟨rfl, rfl⟩, ?_⟩
        refine ⟨Or.inl ⟨_, rfl, hc1, ?_⟩, u3⟩
        rw [hle]
        exact Sv_back (by omega) hc2 hE2
      · skip
        refine g_istore (pc := 87) dX0_errorSet_87 (Nat.le_of_ble_eq_true rfl) rfl ?_
        refine g_iload (pc := 89) dX0_errorSet_89 rfl ?_
        refine g_if_lt (tgt := 102) (pc := 91) dX0_errorSet_91 (by decide) (fun c91 => ?_) (fun c91 => ?_)
        rotate_left
        · exact absurd (show (-1 : Int32) < 0 by decide) c91
        refine g_iincN (pc := 102) dX0_errorSet_102 (Nat.le_of_ble_eq_true rfl) rfl rfl ?_
        refine g_goto (tgt := 34) (pc := 105) dX0_errorSet_105 (by decide) ?_
        refine g_fg 8 ?_
        refine kn _ ⟨u3, fun E hE hb9 hSv => ?_⟩
        obtain ⟨i, i1, i2, i3⟩ := hb9
        rcases Classical.em (∃ k, fr ≤ k ∧ k < fr + t ∧ E.testBit k = true) with w | w
        · exact u2 E hE w hSv
        · have hip : i = fr + t := by
            rcases Nat.lt_or_ge i (fr + t) with w2 | w2
            · exact absurd ⟨i, i1, w2, i3⟩ w
            · omega
          have hlo : ∀ k, k < fr + t → E.testBit k = false := fun k hk => by
            rcases Nat.lt_or_ge k fr with w2 | w2
            · exact hE.2.2.1 k w2
            · cases hbk : E.testBit k
              · rfl
              · exact absurd ⟨k, w2, hk, hbk⟩ w
          obtain ⟨d1, d2, d3⟩ := cand_dn hz (show fr + t < z by omega) hE (hip ▸ i3) hlo
          rw [hle, d2] at hSv
          exact hno _ d1 (Sv_fwd d3 hSv)
    · obtain ⟨u1, u2⟩ := hJ
      refine g_iload (pc := 34) dX0_errorSet_34 rfl ?_
      refine g_iload (pc := 36) dX0_errorSet_36 rfl ?_
      refine g_icmp_geN (tgt := 108) (pc := 38) dX0_errorSet_38 (by decide) (by omega) (by omega) (fun c38 => ?_) (fun c38 => ?_)
      rotate_left
      · omega
      refine g_iconst (v := (-1)) (pc := 108) dX0_errorSet_108 rfl ?_
      refine g_iret (pc := 109) dX0_errorSet_109 rfl rfl ?_
      refine ⟨_, _, ⟨rfl, rfl⟩, ?_⟩
      refine ⟨Or.inr ⟨rfl, fun E hE => ?_⟩, u1⟩
      obtain ⟨i, i1, i2, i3⟩ := cand_bit hz hE
      exact u2 E hE ⟨i, i1, by omega, i3⟩
theorem m_X0_err_0 (hK : Kt I) {s : Nat → F6} {len fr q z er : Nat} (hz : z ≤ 14) (her : er < 16384) (hq : q ≤ 3) (hlen : 2 * q ≤ len) (hl6 : len ≤ 6) (hfr : fr ≤ z) (hs : ∀ j, j < len → I 34 j = fI (s j)) : gRi G YX0_errorSet (d + 5) [.ref 38, .int (nI 0), .int (nI len), .int (nI fr), .int (nI q), .int (nI z), .int (nI er)] n I L D (fun v J => ((∃ E, v = nI E ∧ cand z er fr q E ∧ Sv s len E) ∨ (v = -1 ∧ ∀ E, cand z er fr q E → ¬ Sv s len E)) ∧ Sm [35, 36, 37] I J) := by
  by_cases hq0 : q = 0
  · subst hq0
    refine g_iload (pc := 0) dX0_errorSet_0 rfl ?_
    refine g_if_neN (tgt := 21) (pc := 2) dX0_errorSet_2 (by decide) (by omega) (fun c2 => ?_) (fun c2 => ?_)
    · exact absurd rfl c2
    refine g_aload_n (pc := 5) dX0_errorSet_5 rfl rfl ?_
    refine g_iload_n (pc := 6) dX0_errorSet_6 rfl rfl ?_
    refine g_aaload (pc := 7) dX0_errorSet_7 (Or.inl rfl) s_38 (by decide) (vp_in_nI (by decide) (by decide)) (show T0 38 (nI 0).toNatClampNeg = some 34 from t_38_0) ?_
    refine g_iload_n (pc := 8) dX0_errorSet_8 rfl rfl ?_
    refine g_fS (av := [.ref 34, .int _]) (pc := 9) dX0_errorSet_9 mt_X0_isZero lk_X0_99 sf_X0_isZero np_X0_isZero rfl (gc_r (gc_i gc_0)) (Nat.le_of_ble_eq_true rfl) (Nat.le_of_ble_eq_true rfl) ⟨Nat.zero_le _, Nat.zero_le _⟩ (m_X0_isZero_34 hl6 hs) ?_
    refine g_if_eqB (tgt := 19) (pc := 12) dX0_errorSet_12 (by decide) (fun c12 => ?_) (fun c12 => ?_)
    · refine g_iconst (v := (-1)) (pc := 19) dX0_errorSet_19 rfl ?_
      refine g_iret (pc := 20) dX0_errorSet_20 rfl rfl ?_
      refine ⟨_, _, ⟨rfl, rfl⟩, ?_⟩
      skip
      first
        | exact ⟨Or.inl ⟨0, rfl, (cand_0 hz).mpr rfl, Sv_nil.mpr c12⟩, Sm.rfl⟩
        | exact ⟨Or.inr ⟨rfl, fun E hE => by rw [(cand_0 hz).mp hE, Sv_nil]; exact c12⟩, Sm.rfl⟩
    · refine g_iconst (v := nI 0) (pc := 15) dX0_errorSet_15 rfl ?_
      refine g_goto (tgt := 20) (pc := 16) dX0_errorSet_16 (by decide) ?_
      refine g_iret (pc := 20) dX0_errorSet_20 rfl rfl ?_
      refine ⟨_, _, ⟨rfl, rfl⟩, ?_⟩
      skip
      first
        | exact ⟨Or.inl ⟨0, rfl, (cand_0 hz).mpr rfl, Sv_nil.mpr c12⟩, Sm.rfl⟩
        | exact ⟨Or.inr ⟨rfl, fun E hE => by rw [(cand_0 hz).mp hE, Sv_nil]; exact c12⟩, Sm.rfl⟩
  · obtain ⟨q, rfl⟩ : ∃ k, q = k + 1 := ⟨q - 1, by omega⟩
    refine g_iload (pc := 0) dX0_errorSet_0 rfl ?_
    refine g_if_neN (tgt := 21) (pc := 2) dX0_errorSet_2 (by decide) (by omega) (fun c2 => ?_) (fun c2 => ?_)
    rotate_left
    · exact absurd c2 hq0
    refine g_iload_n (pc := 21) dX0_errorSet_21 rfl rfl ?_
    refine g_iconst (v := nI 1) (pc := 22) dX0_errorSet_22 rfl ?_
    refine g_iaddN (pc := 23) dX0_errorSet_23 ?_
    refine g_aload_n (pc := 24) dX0_errorSet_24 rfl rfl ?_
    refine g_alen (pc := 25) dX0_errorSet_25 s_38 (by decide) (by decide) ?_
    refine g_icmp_lt (tgt := 31) (pc := 26) dX0_errorSet_26 (by decide) (fun c26 => ?_) (fun c26 => ?_)
    rotate_left
    · exact absurd (show nI (0 + 1) < nI 4 by decide) c26
    refine g_iload_n (pc := 31) dX0_errorSet_31 rfl rfl ?_
    refine g_istore (pc := 32) dX0_errorSet_32 (Nat.le_of_ble_eq_true rfl) rfl ?_
    refine g_loop (z - fr) (fun t J => Sm [35, 36, 37] I J ∧ ∀ E, cand z er fr (q + 1) E → (∃ i, fr ≤ i ∧ i < fr + t ∧ E.testBit i = true) → ¬ Sv s len E) (fun t _ => [some (.ref 38), some (.int (nI 0)), some (.int (nI len)), some (.int (nI fr)), some (.int (nI (q + 1))), some (.int (nI z)), some (.int (nI er)), some (.int (nI (fr + t))), none]) (fun J => hp n J L D) (fun t J ht hJ kn => ?_) (fun J hJ => ?_) 0 I (Nat.zero_le _) ⟨Sm.rfl, fun E _ hE => by obtain ⟨i, i1, i2, i3⟩ := hE; omega⟩
    · obtain ⟨u1, u2⟩ := hJ
      have hKJ : Kt J := hK.s u1 (by decide) (by decide)
      have hsJ : ∀ j, j < len → J 34 j = fI (s j) := fun j hj => by rw [u1 34 (by decide)]; exact hs j hj
      refine g_iload (pc := 34) dX0_errorSet_34 rfl ?_
      refine g_iload (pc := 36) dX0_errorSet_36 rfl ?_
      refine g_icmp_geN (tgt := 108) (pc := 38) dX0_errorSet_38 (by decide) (by omega) (by omega) (fun c38 => ?_) (fun c38 => ?_)
      · omega
      refine g_iload (pc := 41) dX0_errorSet_41 rfl ?_
      refine g_iload (pc := 43) dX0_errorSet_43 rfl ?_
      refine g_ishr (pc := 45) dX0_errorSet_45 ?_
      refine g_iconst (v := nI 1) (pc := 46) dX0_errorSet_46 rfl ?_
      refine g_iand (pc := 47) dX0_errorSet_47 ?_
      rw [bt_n (show er < 2 ^ 31 by omega) (by omega)]
      refine g_if_neN (tgt := 102) (pc := 48) dX0_errorSet_48 (by decide) (by split <;> decide) (fun c48 => ?_) (fun c48 => ?_)
      · have hb := bq_t c48
        refine g_iincN (pc := 102) dX0_errorSet_102 (Nat.le_of_ble_eq_true rfl) rfl rfl ?_
        refine g_goto (tgt := 34) (pc := 105) dX0_errorSet_105 (by decide) ?_
        refine kn _ ⟨u1, fun E hE hb9 => ?_⟩
        obtain ⟨i, i1, i2, i3⟩ := hb9
        rcases Nat.lt_or_ge i (fr + t) with w | w
        · exact u2 E hE ⟨i, i1, w, i3⟩
        · have h2 := hE.2.1
          have : (E &&& er).testBit i = false := by rw [h2]; exact Nat.zero_testBit i
          rw [Nat.testBit_and, i3, show i = fr + t by omega, hb] at this
          cases this
      have hb := bq_f c48
      refine g_aload_n (pc := 51) dX0_errorSet_51 rfl rfl ?_
      refine g_iload_n (pc := 52) dX0_errorSet_52 rfl rfl ?_
      refine g_aaload (pc := 53) dX0_errorSet_53 (Or.inl rfl) s_38 (by decide) (vp_in_nI (by decide) (by decide)) (show T0 38 (nI 0).toNatClampNeg = some 34 from t_38_0) ?_
      refine g_aload_n (pc := 54) dX0_errorSet_54 rfl rfl ?_
      refine g_iload_n (pc := 55) dX0_errorSet_55 rfl rfl ?_
      refine g_iconst (v := nI 1) (pc := 56) dX0_errorSet_56 rfl ?_
      refine g_iaddN (pc := 57) dX0_errorSet_57 ?_
      refine g_aaload (pc := 58) dX0_errorSet_58 (Or.inl rfl) s_38 (by decide) (vp_in_nI (by decide) (by decide)) (show T0 38 (nI (0 + 1)).toNatClampNeg = some 35 from t_38_1) ?_
      refine g_iload (pc := 59) dX0_errorSet_59 rfl ?_
      refine g_iload_n (pc := 61) dX0_errorSet_61 rfl rfl ?_
      refine g_rvS (av := [.ref 34, .ref 35, .int _, .int _]) (pc := 62) dX0_errorSet_62 mt_X0_cancel lk_X0_103 sf_X0_cancel np_X0_cancel rfl (gc_r (gc_r (gc_i (gc_i gc_0)))) (Nat.le_of_ble_eq_true rfl) (Nat.le_of_ble_eq_true rfl) (gRv_deep (by omega) (m_X0_cancel_34_35 (d := 0) hKJ (show fr + t < 15 by omega) hl6 hsJ)) ?_
      rintro I1 ⟨k1, k2⟩
      refine g_aload_n (pc := 65) dX0_errorSet_65 rfl rfl ?_
      refine g_iload_n (pc := 66) dX0_errorSet_66 rfl rfl ?_
      refine g_iconst (v := nI 1) (pc := 67) dX0_errorSet_67 rfl ?_
      refine g_iaddN (pc := 68) dX0_errorSet_68 ?_
      refine g_iload_n (pc := 69) dX0_errorSet_69 rfl rfl ?_
      refine g_iconst (v := nI 1) (pc := 70) dX0_errorSet_70 rfl ?_
      refine g_isubN (pc := 71) dX0_errorSet_71 (by omega) ?_
      refine g_iload (pc := 72) dX0_errorSet_72 rfl ?_
      refine g_iconst (v := nI 1) (pc := 74) dX0_errorSet_74 rfl ?_
      refine g_iaddN (pc := 75) dX0_errorSet_75 ?_
      refine g_iload (pc := 76) dX0_errorSet_76 rfl ?_
      refine g_iconst (v := nI 1) (pc := 78) dX0_errorSet_78 rfl ?_
      refine g_isubN (pc := 79) dX0_errorSet_79 (by omega) ?_
      refine g_iload (pc := 80) dX0_errorSet_80 rfl ?_
      refine g_iload (pc := 82) dX0_errorSet_82 rfl ?_
      refine g_riS (av := [.ref 38, .int _, .int _, .int _, .int _, .int _, .int _]) (pc := 84) dX0_errorSet_84 mt_X0_errorSet lk_X0_86 sf_X0_errorSet np_X0_errorSet rfl (gc_r (gc_i (gc_i (gc_i (gc_i (gc_i (gc_i gc_0))))))) (Nat.le_of_ble_eq_true rfl) (Nat.le_of_ble_eq_true rfl) (m_X0_err_1 (d := d) (s := can (fr + t) s) (len := len - 1) (fr := fr + t + 1) (q := q) (hKJ.s k2 (by decide) (by decide)) hz her (by omega) (by omega) (by omega) (by omega) (fun j hj => k1 j (by omega))) ?_
      rintro v I2 ⟨hv, k3⟩
      have u3 : Sm [35, 36, 37] I I2 := Sm.trans u1 (Sm.trans (k2.mono (by decide)) (k3.mono (by decide)))
      have hle : len = len - 1 + 1 := by omega
      rcases hv with ⟨E, rfl, hE1, hE2⟩ | ⟨rfl, hno⟩
      · have hEl : E < 16384 := Nat.lt_of_lt_of_le hE1.1 (p14 hz)
        obtain ⟨hc1, hc2⟩ := cand_up hz (show fr + t < z by omega) (Nat.le_add_right fr t) hb hE1
        refine g_istore (pc := 87) dX0_errorSet_87 (Nat.le_of_ble_eq_true rfl) rfl ?_
        refine g_iload (pc := 89) dX0_errorSet_89 rfl ?_
        refine g_if_ltN (tgt := 102) (pc := 91) dX0_errorSet_91 (by decide) (by omega) (fun c91 => ?_) (fun c91 => ?_)
        · omega
        refine g_iload (pc := 94) dX0_errorSet_94 rfl ?_
        refine g_iconst (v := nI 1) (pc := 96) dX0_errorSet_96 rfl ?_
        refine g_iload (pc := 97) dX0_errorSet_97 rfl ?_
        refine g_ishl (pc := 99) dX0_errorSet_99 ?_
        rw [sh_1 (fr + t) (by omega)]
        refine g_ior (pc := 100) dX0_errorSet_100 ?_
        rw [nI_or]
        refine g_iret (pc := 101) dX0_errorSet_101 rfl rfl ?_
        refine ⟨_, _, ⟨rfl, rfl⟩, ?_⟩
        refine ⟨Or.inl ⟨_, rfl, hc1, ?_⟩, u3⟩
        rw [hle]
        exact Sv_back (by omega) hc2 hE2
      · skip
        refine g_istore (pc := 87) dX0_errorSet_87 (Nat.le_of_ble_eq_true rfl) rfl ?_
        refine g_iload (pc := 89) dX0_errorSet_89 rfl ?_
        refine g_if_lt (tgt := 102) (pc := 91) dX0_errorSet_91 (by decide) (fun c91 => ?_) (fun c91 => ?_)
        rotate_left
        · exact absurd (show (-1 : Int32) < 0 by decide) c91
        refine g_iincN (pc := 102) dX0_errorSet_102 (Nat.le_of_ble_eq_true rfl) rfl rfl ?_
        refine g_goto (tgt := 34) (pc := 105) dX0_errorSet_105 (by decide) ?_
        refine g_fg 8 ?_
        refine kn _ ⟨u3, fun E hE hb9 hSv => ?_⟩
        obtain ⟨i, i1, i2, i3⟩ := hb9
        rcases Classical.em (∃ k, fr ≤ k ∧ k < fr + t ∧ E.testBit k = true) with w | w
        · exact u2 E hE w hSv
        · have hip : i = fr + t := by
            rcases Nat.lt_or_ge i (fr + t) with w2 | w2
            · exact absurd ⟨i, i1, w2, i3⟩ w
            · omega
          have hlo : ∀ k, k < fr + t → E.testBit k = false := fun k hk => by
            rcases Nat.lt_or_ge k fr with w2 | w2
            · exact hE.2.2.1 k w2
            · cases hbk : E.testBit k
              · rfl
              · exact absurd ⟨k, w2, hk, hbk⟩ w
          obtain ⟨d1, d2, d3⟩ := cand_dn hz (show fr + t < z by omega) hE (hip ▸ i3) hlo
          rw [hle, d2] at hSv
          exact hno _ d1 (Sv_fwd d3 hSv)
    · obtain ⟨u1, u2⟩ := hJ
      refine g_iload (pc := 34) dX0_errorSet_34 rfl ?_
      refine g_iload (pc := 36) dX0_errorSet_36 rfl ?_
      refine g_icmp_geN (tgt := 108) (pc := 38) dX0_errorSet_38 (by decide) (by omega) (by omega) (fun c38 => ?_) (fun c38 => ?_)
      rotate_left
      · omega
      refine g_iconst (v := (-1)) (pc := 108) dX0_errorSet_108 rfl ?_
      refine g_iret (pc := 109) dX0_errorSet_109 rfl rfl ?_
      refine ⟨_, _, ⟨rfl, rfl⟩, ?_⟩
      refine ⟨Or.inr ⟨rfl, fun E hE => ?_⟩, u1⟩
      obtain ⟨i, i1, i2, i3⟩ := cand_bit hz hE
      exact u2 E hE ⟨i, i1, by omega, i3⟩
end

