/-! ===== the decoder solves and decodes ===== -/
theorem clr_n {S i : Nat} (hS : S < 2 ^ 31) (hi : i < 31) (hb : S.testBit i = true) : nI S &&& (nI (2 ^ i) ^^^ -1) = nI (S ^^^ 2 ^ i) := by
  apply Int32.toBitVec_inj.mp
  show BitVec.ofNat 32 S &&& (BitVec.ofNat 32 (2 ^ i) ^^^ (-1 : Int32).toBitVec) = BitVec.ofNat 32 (S ^^^ 2 ^ i)
  have e : (-1 : Int32).toBitVec = BitVec.allOnes 32 := by decide
  rw [e]
  apply BitVec.eq_of_getLsbD_eq
  intro k hk
  simp only [BitVec.getLsbD_and, BitVec.getLsbD_xor, BitVec.getLsbD_ofNat, BitVec.getLsbD_allOnes, Nat.testBit_xor, hk, decide_true, Bool.true_and, Bool.xor_true]
  by_cases e2 : i = k
  · subst e2
    rw [Nat.testBit_two_pow_self, hb]
    rfl
  · rw [Nat.testBit_two_pow_of_ne e2]
    simp
section
variable {G : gG} {d n : Nat} {I : Nat → Nat → Int32} {L : Nat → Nat → Int64} {D : Nat → Nat → UInt64} {V : Nat → Nat}
variable {C : Nat → Int32}
theorem m_X0_difference (hK : Kt I) {s x : Nat → F6} {S c i : Nat} (hc : I 29 5 = nI c) (hc6 : c ≤ 6) (hs : ∀ j, j < 6 → I 32 j = fI (s j)) (hx : Sol s c S x) (hi : i < 14) (hb : S.testBit i = true) (hSl : S < 16384) (hn : nS S 14 ≤ c) : gRi G YX0_difference (d + 2) [.ref 29, .int (nI i), .int (nI (S ^^^ 2 ^ i))] n I L D (fun v J => v = fI (x i) ∧ Sm [33] I J) := by
  have hA : S ^^^ 2 ^ i < 16384 := Nat.xor_lt_two_pow (n := 14) hSl (Nat.pow_lt_pow_right (by decide) hi)
  have hnA := nS_xor hi hb
  have hbA : (S ^^^ 2 ^ i).testBit i = false := by rw [Nat.testBit_xor, hb, Nat.testBit_two_pow_self]; rfl
  have hpick := cn_pick hx hi hb (by omega)
  have hnz := fcP_nz hi hbA 14 (Nat.le_refl _)
  revert hA hnA hbA hpick hnz
  generalize S ^^^ 2 ^ i = A
  intro hA hnA hbA hpick hnz
  refine g_aload_n (pc := 0) dX0_difference_0 rfl rfl ?_
  refine g_getR (pc := 1) dX0_difference_1 fl_X0_18 s_29 (by decide) rfl t_29_2 ?_
  refine g_iconst (v := nI 0) (pc := 4) dX0_difference_4 rfl ?_
  refine g_aload_n (pc := 5) dX0_difference_5 rfl rfl ?_
  refine g_getR (pc := 6) dX0_difference_6 fl_X0_21 s_29 (by decide) rfl t_29_3 ?_
  refine g_iconst (v := nI 0) (pc := 9) dX0_difference_9 rfl ?_
  refine g_bipush (v := nI 6) (pc := 10) dX0_difference_10 rfl ?_
  refine g_copyN (N := 6) (pc := 12) dX0_difference_12 lkc_X0 s_33 (by decide) s_32 (by decide) (by decide) (by decide) (by decide) (Nat.le_of_ble_eq_true rfl) ?_
  intro J0 u0 v0
  refine g_aload_n (pc := 15) dX0_difference_15 rfl rfl ?_
  refine g_getIV (pc := 16) dX0_difference_16 fl_X0_29 s_29 (by decide) rfl (show _ = nI c from by rw [u0 29 (by decide)]; exact hc) ?_
  refine g_istore_n (pc := 19) dX0_difference_19 rfl (Nat.le_of_ble_eq_true rfl) rfl ?_
  refine g_iconst (v := nI 1) (pc := 20) dX0_difference_20 rfl ?_
  refine g_istore (pc := 21) dX0_difference_21 (Nat.le_of_ble_eq_true rfl) rfl ?_
  refine g_iconst (v := nI 0) (pc := 23) dX0_difference_23 rfl ?_
  refine g_istore (pc := 24) dX0_difference_24 (Nat.le_of_ble_eq_true rfl) rfl ?_
  refine g_loop 14 (fun m J => Sm [33] I J ∧ ∀ j, j < c - nS A m → J 33 j = fI (cnS s A m j)) (fun m _ => [some (.ref 29), some (.int (nI i)), some (.int (nI A)), some (.int (nI (c - nS A m))), some (.int (fI (fcP A i m))), some (.int (nI m))]) (fun J => hp n J L D) (fun m J hm hJ kn => ?_) (fun J hJ => ?_) 0 J0 (Nat.zero_le _) ⟨u0, fun j hj => by rw [v0 j (by omega)]; exact hs j (by omega)⟩
  · obtain ⟨u1, u2⟩ := hJ
    have hKJ : Kt J := hK.s u1 (by decide) (by decide)
    refine g_iload (pc := 26) dX0_difference_26 rfl ?_
    refine g_bipush (v := nI 14) (pc := 28) dX0_difference_28 rfl ?_
    refine g_icmp_geN (tgt := 84) (pc := 30) dX0_difference_30 (by decide) (by omega) (by omega) (fun c30 => ?_) (fun c30 => ?_)
    · omega
    refine g_iload_n (pc := 33) dX0_difference_33 rfl rfl ?_
    refine g_iload (pc := 34) dX0_difference_34 rfl ?_
    refine g_ishr (pc := 36) dX0_difference_36 ?_
    refine g_iconst (v := nI 1) (pc := 37) dX0_difference_37 rfl ?_
    refine g_iand (pc := 38) dX0_difference_38 ?_
    rw [bt_n (show A < 2 ^ 31 by omega) (by omega)]
    refine g_if_eqN (tgt := 78) (pc := 39) dX0_difference_39 (by decide) (by split <;> decide) (fun c39 => ?_) (fun c39 => ?_)
    · have hbt := bq_f c39
      rw [nS_f hbt, cnS_f hbt, show fcP A i (m + 1) = fcP A i m from by rw [fcP, if_neg (by rw [hbt]; decide)]] at kn
      refine g_iincN (pc := 78) dX0_difference_78 (Nat.le_of_ble_eq_true rfl) rfl rfl ?_
      refine g_goto (tgt := 26) (pc := 81) dX0_difference_81 (by decide) ?_
      first
        | exact kn _ ⟨u1, u2⟩
        | exact kn _ ⟨Sm.trans u1 k2, fun j hj => k1 j (by omega)⟩
    · have hbt := bq_t c39
      have hml := nS_lt hbt hm
      rw [nS_t hbt, cnS_t hbt, show fcP A i (m + 1) = fm (fcP A i m) (fa (fp i) (fp m)) from by rw [fcP, if_pos hbt]] at kn
      refine g_aload_n (pc := 42) dX0_difference_42 rfl rfl ?_
      refine g_getR (pc := 43) dX0_difference_43 fl_X0_21 s_29 (by decide) rfl t_29_3 ?_
      refine g_aload_n (pc := 46) dX0_difference_46 rfl rfl ?_
      refine g_getR (pc := 47) dX0_difference_47 fl_X0_21 s_29 (by decide) rfl t_29_3 ?_
      refine g_iload (pc := 50) dX0_difference_50 rfl ?_
      refine g_iload_n (pc := 52) dX0_difference_52 rfl rfl ?_
      refine g_rvS (av := [.ref 33, .ref 33, .int _, .int _]) (pc := 53) dX0_difference_53 mt_X0_cancel lk_X0_103 sf_X0_cancel np_X0_cancel rfl (gc_r (gc_r (gc_i (gc_i gc_0)))) (Nat.le_of_ble_eq_true rfl) (Nat.le_of_ble_eq_true rfl) (m_X0_cancel_33_33 hKJ (show m < 15 by omega) (show c - nS A m ≤ 6 by omega) u2) ?_
      rintro I1 ⟨k1, k2⟩
      have hK1 : Kt I1 := hKJ.s k2 (by decide) (by decide)
      refine g_iinc (pc := 56) dX0_difference_56 (Nat.le_of_ble_eq_true rfl) rfl (nI_pm1 (show 1 ≤ c - nS A m by omega)) rfl ?_
      refine g_iload (pc := 59) dX0_difference_59 rfl ?_
      refine g_powers (pc := 61) dX0_difference_61 (Or.inr ⟨_, fs_X0_93⟩) ?_
      refine g_iload_n (pc := 64) dX0_difference_64 rfl rfl ?_
      refine g_ialoadKN (pc := 65) dX0_difference_65 s_1 (by decide) (by omega) (by decide) (hK1.1 _ (by omega)) ?_
      refine g_powers (pc := 66) dX0_difference_66 (Or.inr ⟨_, fs_X0_93⟩) ?_
      refine g_iload (pc := 69) dX0_difference_69 rfl ?_
      refine g_ialoadKN (pc := 71) dX0_difference_71 s_1 (by decide) (by omega) (by decide) (hK1.1 _ (by omega)) ?_
      refine g_ixor (pc := 72) dX0_difference_72 ?_
      rw [fI_x]
      refine g_fS (av := [.int _, .int _]) (pc := 73) dX0_difference_73 mt_X2_product lk_X0_96 sf_X2_product np_X2_product rfl (gc_i (gc_i gc_0)) (Nat.le_of_ble_eq_true rfl) (Nat.le_of_ble_eq_true rfl) ⟨Nat.zero_le _, Nat.zero_le _⟩ (m_X2_product hK1) ?_
      refine g_istore (pc := 76) dX0_difference_76 (Nat.le_of_ble_eq_true rfl) rfl ?_
      refine g_iincN (pc := 78) dX0_difference_78 (Nat.le_of_ble_eq_true rfl) rfl rfl ?_
      refine g_goto (tgt := 26) (pc := 81) dX0_difference_81 (by decide) ?_
      first
        | exact kn _ ⟨u1, u2⟩
        | exact kn _ ⟨Sm.trans u1 k2, fun j hj => k1 j (by omega)⟩
  · obtain ⟨u1, u2⟩ := hJ
    have hKJ : Kt J := hK.s u1 (by decide) (by decide)
    have h0 := u2 0 (by omega)
    rw [hpick] at h0
    refine g_iload (pc := 26) dX0_difference_26 rfl ?_
    refine g_bipush (v := nI 14) (pc := 28) dX0_difference_28 rfl ?_
    refine g_icmp_geN (tgt := 84) (pc := 30) dX0_difference_30 (by decide) (by omega) (by omega) (fun c30 => ?_) (fun c30 => ?_)
    rotate_left
    · exact absurd (Nat.le_refl _) c30
    refine g_aload_n (pc := 84) dX0_difference_84 rfl rfl ?_
    refine g_getR (pc := 85) dX0_difference_85 fl_X0_21 s_29 (by decide) rfl t_29_3 ?_
    refine g_iconst (v := nI 0) (pc := 88) dX0_difference_88 rfl ?_
    refine g_ialoadN (pc := 89) dX0_difference_89 s_33 (by decide) (by omega) (by decide) h0 ?_
    refine g_iload (pc := 90) dX0_difference_90 rfl ?_
    refine g_fS (av := [.int _, .int _]) (pc := 92) dX0_difference_92 mt_X2_quotient lk_X0_116 sf_X2_quotient np_X2_quotient rfl (gc_i (gc_i gc_0)) (Nat.le_of_ble_eq_true rfl) (Nat.le_of_ble_eq_true rfl) ⟨Nat.zero_le _, Nat.zero_le _⟩ (m_X2_quotient hKJ hnz) ?_
    rw [fm_ass, fm_v _ hnz, fm_1]
    refine g_iret (pc := 95) dX0_difference_95 rfl rfl ?_
    refine ⟨_, _, ⟨rfl, rfl⟩, ?_⟩
    exact ⟨rfl, u1⟩
theorem m_X0_solve (hK : Kt I) {s x g : Nat → F6} {S c : Nat} (hc : I 29 5 = nI c) (hc6 : c ≤ 6) (hs : ∀ j, j < 6 → I 32 j = fI (s j)) (hx : Sol s c S x) (hSl : S < 16384) (hn : nS S 14 ≤ c) (hg : ∀ i, i < 14 → I 30 i = fI (g i)) : gRv G YX0_solve (d + 3) [.ref 29, .int (nI S)] n I L D (fun J => (∀ i, i < 14 → J 31 i = fI (fa (g i) (x i))) ∧ Sm [31, 33] I J) := by
  refine g_iconst (v := nI 0) (pc := 0) dX0_solve_0 rfl ?_
  refine g_istore_n (pc := 1) dX0_solve_1 rfl (Nat.le_of_ble_eq_true rfl) rfl ?_
  refine g_loop 14 (fun k J => (∀ i, i < k → J 31 i = fI (fa (g i) (x i))) ∧ Sm [31, 33] I J) (fun k _ => [some (.ref 29), some (.int (nI S)), some (.int (nI k))]) (fun J => hp n J L D) (fun k J hk hJ kn => ?_) (fun J hJ => ?_) 0 I (Nat.zero_le _) ⟨fun i hi => absurd hi (Nat.not_lt_zero i), Sm.rfl⟩
  · obtain ⟨u1, u2⟩ := hJ
    have hgk : J 30 k = fI (g k) := by rw [u2 30 (by decide)]; exact hg k hk
    have s2 : Sm [31, 33] I (gUp J 31 k (fI (g k))) := Sm.up (by decide) u2
    refine g_iload_n (pc := 2) dX0_solve_2 rfl rfl ?_
    refine g_bipush (v := nI 14) (pc := 3) dX0_solve_3 rfl ?_
    refine g_icmp_geN (tgt := 55) (pc := 5) dX0_solve_5 (by decide) (by omega) (by omega) (fun c5 => ?_) (fun c5 => ?_)
    · omega
    refine g_aload_n (pc := 8) dX0_solve_8 rfl rfl ?_
    refine g_getR (pc := 9) dX0_solve_9 fl_X0_15 s_29 (by decide) rfl t_29_1 ?_
    refine g_iload_n (pc := 12) dX0_solve_12 rfl rfl ?_
    refine g_aload_n (pc := 13) dX0_solve_13 rfl rfl ?_
    refine g_getR (pc := 14) dX0_solve_14 fl_X0_9 s_29 (by decide) rfl t_29_0 ?_
    refine g_iload_n (pc := 17) dX0_solve_17 rfl rfl ?_
    refine g_ialoadN (pc := 18) dX0_solve_18 s_30 (by decide) (by omega) (by decide) hgk ?_
    refine g_iastoreN (pc := 19) dX0_solve_19 s_31 (by decide) (by omega) (by decide) ?_
    refine g_iload_n (pc := 20) dX0_solve_20 rfl rfl ?_
    refine g_iload_n (pc := 21) dX0_solve_21 rfl rfl ?_
    refine g_ishr (pc := 22) dX0_solve_22 ?_
    refine g_iconst (v := nI 1) (pc := 23) dX0_solve_23 rfl ?_
    refine g_iand (pc := 24) dX0_solve_24 ?_
    rw [bt_n (show S < 2 ^ 31 by omega) (by omega)]
    refine g_if_eqN (tgt := 49) (pc := 25) dX0_solve_25 (by decide) (by split <;> decide) (fun c25 => ?_) (fun c25 => ?_)
    · have hbt := bq_f c25
      have hxk : x k = 0 := hx.1 k (Or.inl hbt)
      refine g_iincN (pc := 49) dX0_solve_49 (Nat.le_of_ble_eq_true rfl) rfl rfl ?_
      refine g_goto (tgt := 2) (pc := 52) dX0_solve_52 (by decide) ?_
      first
        | exact kn _ ⟨fun i hi => by
            rw [gUp_c]
            by_cases e : i = k
            · rw [if_pos e, e, hxk, fa_0]
            · rw [if_neg e]; exact u1 i (by omega), s2⟩
        | exact kn _ ⟨fun i hi => by
            rw [gUp_c]
            by_cases e : i = k
            · rw [if_pos e, e]
            · rw [if_neg e, k1 31 (by decide), gUp_c, if_neg e]; exact u1 i (by omega), Sm.up (by decide) (Sm.trans s2 (k1.mono (by decide)))⟩
    · have hbt := bq_t c25
      refine g_aload_n (pc := 28) dX0_solve_28 rfl rfl ?_
      refine g_getR (pc := 29) dX0_solve_29 fl_X0_15 s_29 (by decide) rfl t_29_1 ?_
      refine g_iload_n (pc := 32) dX0_solve_32 rfl rfl ?_
      refine g_dup2 (pc := 33) dX0_solve_33 rfl rfl ?_
      refine g_ialoadN (pc := 34) dX0_solve_34 s_31 (by decide) (by omega) (by decide) (show _ = fI (g k) from by rw [gUp_c, if_pos rfl]) ?_
      refine g_aload_n (pc := 35) dX0_solve_35 rfl rfl ?_
      refine g_iload_n (pc := 36) dX0_solve_36 rfl rfl ?_
      refine g_iload_n (pc := 37) dX0_solve_37 rfl rfl ?_
      refine g_iconst (v := nI 1) (pc := 38) dX0_solve_38 rfl ?_
      refine g_iload_n (pc := 39) dX0_solve_39 rfl rfl ?_
      refine g_ishl (pc := 40) dX0_solve_40 ?_
      rw [sh_1 k (by omega)]
      refine g_iconst (v := (-1)) (pc := 41) dX0_solve_41 rfl ?_
      refine g_ixor (pc := 42) dX0_solve_42 ?_
      refine g_iand (pc := 43) dX0_solve_43 ?_
      rw [clr_n (by omega) (by omega) hbt]
      refine g_riV (av := [.int _, .int _]) (pc := 44) dX0_solve_44 mt_X0_difference lk_X0_113 im_X0_difference se_X0_difference np_X0_difference s_29 (by decide) (by decide) rfl (gc_i (gc_i gc_0)) (Nat.le_of_ble_eq_true rfl) (Nat.le_of_ble_eq_true rfl) (m_X0_difference (hK.s s2 (by decide) (by decide)) (by rw [s2 29 (by decide)]; exact hc) hc6 (fun j hj => by rw [s2 32 (by decide)]; exact hs j hj) hx hk hbt hSl hn) ?_
      rintro _ I1 ⟨rfl, k1⟩
      refine g_ixor (pc := 47) dX0_solve_47 ?_
      rw [fI_x]
      refine g_iastoreN (pc := 48) dX0_solve_48 s_31 (by decide) (by omega) (by decide) ?_
      refine g_iincN (pc := 49) dX0_solve_49 (Nat.le_of_ble_eq_true rfl) rfl rfl ?_
      refine g_goto (tgt := 2) (pc := 52) dX0_solve_52 (by decide) ?_
      first
        | exact kn _ ⟨fun i hi => by
            rw [gUp_c]
            by_cases e : i = k
            · rw [if_pos e, e, hxk, fa_0]
            · rw [if_neg e]; exact u1 i (by omega), s2⟩
        | exact kn _ ⟨fun i hi => by
            rw [gUp_c]
            by_cases e : i = k
            · rw [if_pos e, e]
            · rw [if_neg e, k1 31 (by decide), gUp_c, if_neg e]; exact u1 i (by omega), Sm.up (by decide) (Sm.trans s2 (k1.mono (by decide)))⟩
  · skip
    refine g_iload_n (pc := 2) dX0_solve_2 rfl rfl ?_
    refine g_bipush (v := nI 14) (pc := 3) dX0_solve_3 rfl ?_
    refine g_icmp_geN (tgt := 55) (pc := 5) dX0_solve_5 (by decide) (by omega) (by omega) (fun c5 => ?_) (fun c5 => ?_)
    rotate_left
    · exact absurd (Nat.le_refl _) c5
    refine g_vret (pc := 55) dX0_solve_55 rfl ?_
    refine ⟨_, ⟨rfl, rfl⟩, ?_⟩
    exact hJ
theorem m_X0_cancelErasures (hK : Kt I) {s : Nat → F6} {A c : Nat} (hc : I 29 5 = nI c) (hc6 : c ≤ 6) (he : I 29 6 = nI A) (hA : A < 16384) (hn : nS A 14 ≤ c) (hs : ∀ j, j < 6 → I 32 j = fI (s j)) : gRv G YX0_cancelErasures (d + 2) [.ref 29] n I L D (fun J => (∀ j, j < c - nS A 14 → J 34 j = fI (cnS s A 14 j)) ∧ Sm [34] I J) := by
  refine g_aload_n (pc := 0) dX0_cancelErasures_0 rfl rfl ?_
  refine g_getR (pc := 1) dX0_cancelErasures_1 fl_X0_18 s_29 (by decide) rfl t_29_2 ?_
  refine g_iconst (v := nI 0) (pc := 4) dX0_cancelErasures_4 rfl ?_
  refine g_aload_n (pc := 5) dX0_cancelErasures_5 rfl rfl ?_
  refine g_getR (pc := 6) dX0_cancelErasures_6 fl_X0_26 s_29 (by decide) rfl t_29_4 ?_
  refine g_iconst (v := nI 0) (pc := 9) dX0_cancelErasures_9 rfl ?_
  refine g_aaload (pc := 10) dX0_cancelErasures_10 (Or.inl rfl) s_38 (by decide) (vp_in_nI (by decide) (by decide)) (show T0 38 (nI 0).toNatClampNeg = some 34 from t_38_0) ?_
  refine g_iconst (v := nI 0) (pc := 11) dX0_cancelErasures_11 rfl ?_
  refine g_bipush (v := nI 6) (pc := 12) dX0_cancelErasures_12 rfl ?_
  refine g_copyN (N := 6) (pc := 14) dX0_cancelErasures_14 lkc_X0 s_34 (by decide) s_32 (by decide) (by decide) (by decide) (by decide) (Nat.le_of_ble_eq_true rfl) ?_
  intro J0 u0 v0
  refine g_aload_n (pc := 17) dX0_cancelErasures_17 rfl rfl ?_
  refine g_getIV (pc := 18) dX0_cancelErasures_18 fl_X0_29 s_29 (by decide) rfl (show _ = nI c from by rw [u0 29 (by decide)]; exact hc) ?_
  refine g_istore_n (pc := 21) dX0_cancelErasures_21 rfl (Nat.le_of_ble_eq_true rfl) rfl ?_
  refine g_iconst (v := nI 0) (pc := 22) dX0_cancelErasures_22 rfl ?_
  refine g_istore_n (pc := 23) dX0_cancelErasures_23 rfl (Nat.le_of_ble_eq_true rfl) rfl ?_
  refine g_loop 14 (fun m J => (∀ j, j < c - nS A m → J 34 j = fI (cnS s A m j)) ∧ Sm [34] I J) (fun m _ => [some (.ref 29), some (.int (nI (c - nS A m))), some (.int (nI m))]) (fun J => hp n J L D) (fun m J hm hJ kn => ?_) (fun J hJ => ?_) 0 J0 (Nat.zero_le _) ⟨fun j hj => by rw [v0 j (by omega)]; exact hs j (by omega), u0⟩
  · obtain ⟨u2, u1⟩ := hJ
    have hKJ : Kt J := hK.s u1 (by decide) (by decide)
    have he1 : J 29 6 = nI A := by rw [u1 29 (by decide)]; exact he
    refine g_iload_n (pc := 24) dX0_cancelErasures_24 rfl rfl ?_
    refine g_bipush (v := nI 14) (pc := 25) dX0_cancelErasures_25 rfl ?_
    refine g_icmp_geN (tgt := 67) (pc := 27) dX0_cancelErasures_27 (by decide) (by omega) (by omega) (fun c27 => ?_) (fun c27 => ?_)
    · omega
    refine g_aload_n (pc := 30) dX0_cancelErasures_30 rfl rfl ?_
    refine g_getIV (pc := 31) dX0_cancelErasures_31 fl_X0_33 s_29 (by decide) rfl he1 ?_
    refine g_iload_n (pc := 34) dX0_cancelErasures_34 rfl rfl ?_
    refine g_ishr (pc := 35) dX0_cancelErasures_35 ?_
    refine g_iconst (v := nI 1) (pc := 36) dX0_cancelErasures_36 rfl ?_
    refine g_iand (pc := 37) dX0_cancelErasures_37 ?_
    rw [bt_n (show A < 2 ^ 31 by omega) (by omega)]
    refine g_if_eqN (tgt := 61) (pc := 38) dX0_cancelErasures_38 (by decide) (by split <;> decide) (fun c38 => ?_) (fun c38 => ?_)
    · have hbt := bq_f c38
      rw [nS_f hbt, cnS_f hbt] at kn
      refine g_iincN (pc := 61) dX0_cancelErasures_61 (Nat.le_of_ble_eq_true rfl) rfl rfl ?_
      refine g_goto (tgt := 24) (pc := 64) dX0_cancelErasures_64 (by decide) ?_
      first
        | exact kn _ ⟨u2, u1⟩
        | exact kn _ ⟨fun j hj => k1 j (by omega), Sm.trans u1 k2⟩
    · have hbt := bq_t c38
      have hml := nS_lt hbt hm
      rw [nS_t hbt, cnS_t hbt] at kn
      refine g_aload_n (pc := 41) dX0_cancelErasures_41 rfl rfl ?_
      refine g_getR (pc := 42) dX0_cancelErasures_42 fl_X0_26 s_29 (by decide) rfl t_29_4 ?_
      refine g_iconst (v := nI 0) (pc := 45) dX0_cancelErasures_45 rfl ?_
      refine g_aaload (pc := 46) dX0_cancelErasures_46 (Or.inl rfl) s_38 (by decide) (vp_in_nI (by decide) (by decide)) (show T0 38 (nI 0).toNatClampNeg = some 34 from t_38_0) ?_
      refine g_aload_n (pc := 47) dX0_cancelErasures_47 rfl rfl ?_
      refine g_getR (pc := 48) dX0_cancelErasures_48 fl_X0_26 s_29 (by decide) rfl t_29_4 ?_
      refine g_iconst (v := nI 0) (pc := 51) dX0_cancelErasures_51 rfl ?_
      refine g_aaload (pc := 52) dX0_cancelErasures_52 (Or.inl rfl) s_38 (by decide) (vp_in_nI (by decide) (by decide)) (show T0 38 (nI 0).toNatClampNeg = some 34 from t_38_0) ?_
      refine g_iload_n (pc := 53) dX0_cancelErasures_53 rfl rfl ?_
      refine g_iload_n (pc := 54) dX0_cancelErasures_54 rfl rfl ?_
      refine g_rvS (av := [.ref 34, .ref 34, .int _, .int _]) (pc := 55) dX0_cancelErasures_55 mt_X0_cancel lk_X0_103 sf_X0_cancel np_X0_cancel rfl (gc_r (gc_r (gc_i (gc_i gc_0)))) (Nat.le_of_ble_eq_true rfl) (Nat.le_of_ble_eq_true rfl) (m_X0_cancel_34_34 hKJ (show m < 15 by omega) (show c - nS A m ≤ 6 by omega) u2) ?_
      rintro I1 ⟨k1, k2⟩
      refine g_iinc (pc := 58) dX0_cancelErasures_58 (Nat.le_of_ble_eq_true rfl) rfl (nI_pm1 (show 1 ≤ c - nS A m by omega)) rfl ?_
      refine g_iincN (pc := 61) dX0_cancelErasures_61 (Nat.le_of_ble_eq_true rfl) rfl rfl ?_
      refine g_goto (tgt := 24) (pc := 64) dX0_cancelErasures_64 (by decide) ?_
      first
        | exact kn _ ⟨u2, u1⟩
        | exact kn _ ⟨fun j hj => k1 j (by omega), Sm.trans u1 k2⟩
  · skip
    refine g_iload_n (pc := 24) dX0_cancelErasures_24 rfl rfl ?_
    refine g_bipush (v := nI 14) (pc := 25) dX0_cancelErasures_25 rfl ?_
    refine g_icmp_geN (tgt := 67) (pc := 27) dX0_cancelErasures_27 (by decide) (by omega) (by omega) (fun c27 => ?_) (fun c27 => ?_)
    rotate_left
    · exact absurd (Nat.le_refl _) c27
    refine g_vret (pc := 67) dX0_cancelErasures_67 rfl ?_
    refine ⟨_, ⟨rfl, rfl⟩, ?_⟩
    exact hJ
theorem m_X0_encode (hK : Kt I) {c : Nat} {g : Nat → F6} (hc : I 29 5 = nI c) (hc6 : c ≤ 6) (hg : ∀ i, i < 14 → I 30 i = fI (g i)) : gRv G YX0_encode (d + 4) [.ref 29] n I L D (fun J => (∀ i, i < 14 → J 31 i = fI (fa (g i) (stX (smF g (c + 8)) c i))) ∧ Sm [31, 32, 33] I J) := by
  have hp1 : 2 ^ c ≤ 64 := Nat.pow_le_pow_right (n := 2) (by decide) hc6
  have hp0 : 1 ≤ 2 ^ c := Nat.pow_pos (by decide)
  refine g_aload_n (pc := 0) dX0_encode_0 rfl rfl ?_
  refine g_rvV (av := []) (pc := 1) dX0_encode_1 mt_X0_addSums lk_X0_70 im_X0_addSums se_X0_addSums np_X0_addSums s_29 (by decide) (by decide) rfl gc_0 (Nat.le_of_ble_eq_true rfl) (Nat.le_of_ble_eq_true rfl) (m_X0_addSums hK hc hc6 (fun i hi => hg i (by omega))) ?_
  rintro I1 ⟨k1, k2⟩
  refine g_aload_n (pc := 4) dX0_encode_4 rfl rfl ?_
  refine g_iconst (v := nI 1) (pc := 5) dX0_encode_5 rfl ?_
  refine g_aload_n (pc := 6) dX0_encode_6 rfl rfl ?_
  refine g_getIV (pc := 7) dX0_encode_7 fl_X0_29 s_29 (by decide) rfl (show _ = nI c from by rw [k2 29 (by decide)]; exact hc) ?_
  refine g_ishl (pc := 10) dX0_encode_10 ?_
  rw [sh_1 c (by omega)]
  refine g_iconst (v := nI 1) (pc := 11) dX0_encode_11 rfl ?_
  refine g_isubN (pc := 12) dX0_encode_12 (by omega) ?_
  refine g_rvV (av := [.int _]) (pc := 13) dX0_encode_13 mt_X0_solve lk_X0_90 im_X0_solve se_X0_solve np_X0_solve s_29 (by decide) (by decide) rfl (gc_i gc_0) (Nat.le_of_ble_eq_true rfl) (Nat.le_of_ble_eq_true rfl) (m_X0_solve (hK.s k2 (by decide) (by decide)) (by rw [k2 29 (by decide)]; exact hc) hc6 k1 (stX_sol _ (by omega)) (by omega) (by rw [nS_full c (by omega)]; exact Nat.le_refl _) (fun i hi => by rw [k2 30 (by decide)]; exact hg i hi)) ?_
  rintro I2 ⟨q1, q2⟩
  refine g_vret (pc := 16) dX0_encode_16 rfl ?_
  refine ⟨_, ⟨rfl, rfl⟩, ?_⟩
  exact ⟨q1, Sm.trans (k2.mono (by decide)) (q2.mono (by decide))⟩
theorem m_X0_damageCount_t {E A : Nat} (h8 : I 29 8 = nI 1) (hE : I 29 7 = nI E) (hA : I 29 6 = nI A) (hl : E ||| A < 16384) : gFn G YX0_damageCount (d + 1) [.ref 29] (hp n I L D) (.inl (some (.int (nI (nS (E ||| A) 14))))) (hp n I L D) 0 0 := by
  refine g_aload_n (pc := 0) dX0_damageCount_0 rfl rfl ?_
  refine g_getIV (pc := 1) dX0_damageCount_1 fl_X0_39 s_29 (by decide) rfl h8 ?_
  refine g_if_eqN (tgt := 22) (pc := 4) dX0_damageCount_4 (by decide) (by omega) (fun c4 => ?_) (fun c4 => ?_)
  · exact absurd c4 (by decide)
  refine g_aload_n (pc := 7) dX0_damageCount_7 rfl rfl ?_
  refine g_getIV (pc := 8) dX0_damageCount_8 fl_X0_36 s_29 (by decide) rfl hE ?_
  refine g_aload_n (pc := 11) dX0_damageCount_11 rfl rfl ?_
  refine g_getIV (pc := 12) dX0_damageCount_12 fl_X0_33 s_29 (by decide) rfl hA ?_
  refine g_ior (pc := 15) dX0_damageCount_15 ?_
  rw [nI_or]
  refine g_fS (av := [.int _]) (pc := 16) dX0_damageCount_16 mt_J6_bitCount_0f7a4 lk_X0_77 sf_J6_bitCount_0f7a4 np_J6_bitCount_0f7a4 rfl (gc_i gc_0) (Nat.le_of_ble_eq_true rfl) (Nat.le_of_ble_eq_true rfl) ⟨Nat.zero_le _, Nat.zero_le _⟩ (m_J6_bitCount hl) ?_
  refine g_goto (tgt := 23) (pc := 19) dX0_damageCount_19 (by decide) ?_
  refine g_iret (pc := 23) dX0_damageCount_23 rfl rfl ?_
  first | exact ⟨rfl, rfl⟩ | exact ⟨by rw [bI_t (by first | assumption | omega)], rfl⟩ | exact ⟨by rw [bI_f (by first | assumption | omega)], rfl⟩
theorem m_X0_damageCount_f (h8 : I 29 8 = nI 0) : gFn G YX0_damageCount (d + 1) [.ref 29] (hp n I L D) (.inl (some (.int (nI 0)))) (hp n I L D) 0 0 := by
  refine g_aload_n (pc := 0) dX0_damageCount_0 rfl rfl ?_
  refine g_getIV (pc := 1) dX0_damageCount_1 fl_X0_39 s_29 (by decide) rfl h8 ?_
  refine g_if_eqN (tgt := 22) (pc := 4) dX0_damageCount_4 (by decide) (by omega) (fun c4 => ?_) (fun c4 => ?_)
  · refine g_iconst (v := nI 0) (pc := 22) dX0_damageCount_22 rfl ?_
    refine g_iret (pc := 23) dX0_damageCount_23 rfl rfl ?_
    first | exact ⟨rfl, rfl⟩ | exact ⟨by rw [bI_t (by first | assumption | omega)], rfl⟩ | exact ⟨by rw [bI_f (by first | assumption | omega)], rfl⟩
  · exact absurd rfl c4
end

