/-! ===== the decoder decodes ===== -/
/-- what the decoder holds behind decoding -/
def dQ (V : Nat → Nat) (f b : Nat) (I : Nat → Nat → Int32) (v : Int32) (J : Nat → Nat → Int32) : Prop := v = bI (isD V f b = true) ∧ J 29 5 = nI (V (10 * f + 2)) ∧ J 29 6 = nI (erN V f b) ∧ (isD V f b = true → J 29 7 = nI (dcE V f b) ∧ J 29 8 = nI 1 ∧ ∀ i, i < sz V f → J 31 i = fI (dcX V f b i)) ∧ (¬ isD V f b = true → J 29 8 = nI 0) ∧ Sm [29, 30, 31, 32, 33, 34, 35, 36, 37] I J
theorem isD_t {V : Nat → Nat} {f b E : Nat} {x : Nat → F6} (h : dc V f b = some (E, x)) : isD V f b = true ∧ dcE V f b = E ∧ ∀ i, dcX V f b i = fa (gF V f b i) (x i) := ⟨by unfold isD; rw [h]; rfl, by unfold dcE; rw [h], fun i => by unfold dcX; rw [h]⟩
theorem isD_f {V : Nat → Nat} {f b : Nat} (h : dc V f b = none) : ¬ isD V f b = true := by unfold isD; rw [h]; decide
section
variable {G : gG} {d n : Nat} {I : Nat → Nat → Int32} {L : Nat → Nat → Int64} {D : Nat → Nat → UInt64} {V : Nat → Nat}
variable {C : Nat → Int32}
theorem l_X0_done {Q : gQ} {free k : Nat} {x6 : Option Value} {al1 al2 : Int32} {r1 : Nat} (h8 : I 29 8 = nI 1) (hf : free < 100) (hk : k < 100) (kx : gGo G YX0_decode d 112 [some (.ref 29), some (.ref r1), some (.int al1), some (.int al2), some (.int (nI free)), some (.int (nI k)), x6] [] (hp n I L D) 0 0 Q) : gGo G YX0_decode d 35 [some (.ref 29), some (.ref r1), some (.int al1), some (.int al2), some (.int (nI free)), some (.int (nI k)), x6] [] (hp n I L D) 0 0 Q := by
  refine g_iconst (v := nI 2) (pc := 35) dX0_decode_35 rfl ?_
  refine g_iload (pc := 36) dX0_decode_36 rfl ?_
  refine g_imulN (pc := 38) dX0_decode_38 ?_
  refine g_iload (pc := 39) dX0_decode_39 rfl ?_
  refine g_icmp_gtN (tgt := 112) (pc := 41) dX0_decode_41 (by decide) (by omega) (by omega) (fun c41 => ?_) (fun c41 => ?_)
  · exact kx
  · refine g_aload_n (pc := 44) dX0_decode_44 rfl rfl ?_
    refine g_getIV (pc := 45) dX0_decode_45 fl_X0_39 s_29 (by decide) rfl h8 ?_
    refine g_if_neN (tgt := 112) (pc := 48) dX0_decode_48 (by decide) (by omega) (fun c48 => ?_) (fun c48 => ?_)
    · exact kx
    · exact absurd c48 (by decide)
theorem m_X0_decode (hK : Kt I) (hS : Snap I 4 V C) (hW : WF V) {f b : Nat} (hf : f < 8) (h1 : V (10 * f) = 1) (hb : b < bl V f) : gRi G YX0_decode (d + 6) [.ref 29, .ref 4, .int (nI f), .int (nI b)] n I L D (dQ V f b I) := by
  have hw := hW.1 f hf
  have hc6 := hw.2.2.1
  have hsz := sz_le hw
  have hszc : sz V f = V (10 * f + 2) + 8 := rfl
  have h8c : 8 + V (10 * f + 2) = sz V f := Nat.add_comm _ _
  have hel := erN_lt (V := V) (j := f) (b := b)
  have hp9 := p14 hsz.1
  have hel2 : erN V f b < 16384 := by omega
  have hds := dc_spec V f b
  have hen : ern V f b ≤ 14 := nS_le _ _
  have hen0 : nS (erN V f b) 14 = ern V f b := rfl
  refine g_aload_n (pc := 0) dX0_decode_0 rfl rfl ?_
  refine g_aload_n (pc := 1) dX0_decode_1 rfl rfl ?_
  refine g_iload_n (pc := 2) dX0_decode_2 rfl rfl ?_
  refine g_iload_n (pc := 3) dX0_decode_3 rfl rfl ?_
  refine g_rvV (av := [.ref 4, .int _, .int _]) (pc := 4) dX0_decode_4 mt_X0_load lk_X0_73 im_X0_load se_X0_load np_X0_load s_29 (by decide) (by decide) rfl (gc_r (gc_i (gc_i gc_0))) (Nat.le_of_ble_eq_true rfl) (Nat.le_of_ble_eq_true rfl) (gRv_deep (by omega) (m_X0_load (d := 0) hK hS hW hf h1 hb)) ?_
  rintro I1 ⟨k1, k2, k3, k4, k5, k6, k7, k8⟩
  refine g_aload_n (pc := 7) dX0_decode_7 rfl rfl ?_
  refine g_getIV (pc := 8) dX0_decode_8 fl_X0_29 s_29 (by decide) rfl k1 ?_
  refine g_aload_n (pc := 11) dX0_decode_11 rfl rfl ?_
  refine g_getIV (pc := 12) dX0_decode_12 fl_X0_33 s_29 (by decide) rfl k2 ?_
  refine g_fS (av := [.int _]) (pc := 15) dX0_decode_15 mt_J6_bitCount_0f7a4 lk_X0_77 sf_J6_bitCount_0f7a4 np_J6_bitCount_0f7a4 rfl (gc_i gc_0) (Nat.le_of_ble_eq_true rfl) (Nat.le_of_ble_eq_true rfl) ⟨Nat.zero_le _, Nat.zero_le _⟩ (m_J6_bitCount hel2) ?_
  rw [hen0]
  have hK1 : Kt I1 := hK.s k8 (by decide) (by decide)
  have hgz : ∀ i, i < 14 → I1 30 i = fI (if i < sz V f then gF V f b i else 0) := fun i hi => by
    by_cases q : i < sz V f
    · rw [if_pos q]; exact k5 i q
    · rw [if_neg q]; exact k6 i (by omega) hi
  by_cases hle : ern V f b ≤ V (10 * f + 2)
  · skip
    refine g_isubN (pc := 18) dX0_decode_18 (by omega) ?_
    refine g_istore (pc := 19) dX0_decode_19 (Nat.le_of_ble_eq_true rfl) rfl ?_
    refine g_iload (pc := 21) dX0_decode_21 rfl ?_
    refine g_if_geN (tgt := 28) (pc := 23) dX0_decode_23 (by decide) (by omega) (fun c23 => ?_) (fun c23 => ?_)
    rotate_left
    · omega
    refine g_aload_n (pc := 28) dX0_decode_28 rfl rfl ?_
    refine g_rvV (av := []) (pc := 29) dX0_decode_29 mt_X0_cancelErasures lk_X0_83 im_X0_cancelErasures se_X0_cancelErasures np_X0_cancelErasures s_29 (by decide) (by decide) rfl gc_0 (Nat.le_of_ble_eq_true rfl) (Nat.le_of_ble_eq_true rfl) (gRv_deep (by omega) (m_X0_cancelErasures (d := 0) hK1 k1 hc6 k2 hel2 hle k7)) ?_
    rintro I2 ⟨q1, q2⟩
    refine g_iconst (v := nI 0) (pc := 32) dX0_decode_32 rfl ?_
    refine g_istore (pc := 33) dX0_decode_33 (Nat.le_of_ble_eq_true rfl) rfl ?_
    have s2 : Sm [29, 30, 31, 32, 33, 34, 35, 36, 37] I I2 := Sm.trans (k8.mono (by decide)) (q2.mono (by decide))
    refine g_loop ((V (10 * f + 2) - ern V f b) / 2 + 1) (fun k J => Sm [35, 36, 37] I2 J ∧ ∀ T, T < 2 ^ sz V f → T &&& erN V f b = 0 → nS T 14 < k → ¬ Sv (smF (gF V f b) (sz V f)) (V (10 * f + 2)) (T ||| erN V f b)) (fun k _ => [some (.ref 29), some (.ref 4), some (.int (nI f)), some (.int (nI b)), some (.int (nI (V (10 * f + 2) - ern V f b))), some (.int (nI k)), none]) (fun J => hp n J L D) (fun k J hk hJ kn => ?_) (fun J hJ => ?_) 0 I2 (Nat.zero_le _) ⟨Sm.rfl, fun T _ _ q => absurd q (Nat.not_lt_zero _)⟩
    · obtain ⟨u1, hlow⟩ := hJ
      have z8 : J 29 8 = nI 0 := by rw [u1 29 (by decide), q2 29 (by decide)]; exact k4
      have z5 : J 29 5 = nI (V (10 * f + 2)) := by rw [u1 29 (by decide), q2 29 (by decide)]; exact k1
      have z6 : J 29 6 = nI (erN V f b) := by rw [u1 29 (by decide), q2 29 (by decide)]; exact k2
      have z7 : J 29 7 = nI 0 := by rw [u1 29 (by decide), q2 29 (by decide)]; exact k3
      have hKJ : Kt J := (hK1.s q2 (by decide) (by decide)).s u1 (by decide) (by decide)
      have hrow : ∀ j, j < V (10 * f + 2) - ern V f b → J 34 j = fI (cnS (smF (gF V f b) (sz V f)) (erN V f b) 14 j) := fun j hj => by rw [u1 34 (by decide)]; exact q1 j hj
      refine g_iconst (v := nI 2) (pc := 35) dX0_decode_35 rfl ?_
      refine g_iload (pc := 36) dX0_decode_36 rfl ?_
      refine g_imulN (pc := 38) dX0_decode_38 ?_
      refine g_iload (pc := 39) dX0_decode_39 rfl ?_
      refine g_icmp_gtN (tgt := 112) (pc := 41) dX0_decode_41 (by decide) (by omega) (by omega) (fun c41 => ?_) (fun c41 => ?_)
      · omega
      refine g_aload_n (pc := 44) dX0_decode_44 rfl rfl ?_
      refine g_getIV (pc := 45) dX0_decode_45 fl_X0_39 s_29 (by decide) rfl z8 ?_
      refine g_if_neN (tgt := 112) (pc := 48) dX0_decode_48 (by decide) (by omega) (fun c48 => ?_) (fun c48 => ?_)
      · exact absurd rfl c48
      refine g_aload_n (pc := 51) dX0_decode_51 rfl rfl ?_
      refine g_getR (pc := 52) dX0_decode_52 fl_X0_26 s_29 (by decide) rfl t_29_4 ?_
      refine g_iconst (v := nI 0) (pc := 55) dX0_decode_55 rfl ?_
      refine g_iload (pc := 56) dX0_decode_56 rfl ?_
      refine g_iconst (v := nI 0) (pc := 58) dX0_decode_58 rfl ?_
      refine g_iload (pc := 59) dX0_decode_59 rfl ?_
      refine g_bipush (v := nI 8) (pc := 61) dX0_decode_61 rfl ?_
      refine g_aload_n (pc := 63) dX0_decode_63 rfl rfl ?_
      refine g_getIV (pc := 64) dX0_decode_64 fl_X0_29 s_29 (by decide) rfl z5 ?_
      refine g_iaddN (pc := 67) dX0_decode_67 ?_
      rw [h8c]
      refine g_aload_n (pc := 68) dX0_decode_68 rfl rfl ?_
      refine g_getIV (pc := 69) dX0_decode_69 fl_X0_33 s_29 (by decide) rfl z6 ?_
      refine g_riS (av := [.ref 38, .int _, .int _, .int _, .int _, .int _, .int _]) (pc := 72) dX0_decode_72 mt_X0_errorSet lk_X0_86 sf_X0_errorSet np_X0_errorSet rfl (gc_r (gc_i (gc_i (gc_i (gc_i (gc_i (gc_i gc_0))))))) (Nat.le_of_ble_eq_true rfl) (Nat.le_of_ble_eq_true rfl) (m_X0_err_0 hKJ hsz.1 hel2 (by omega) (by omega) (by omega) (Nat.zero_le _) hrow) ?_
      rintro v J2 ⟨hv, w1⟩
      rcases hv with ⟨E, rfl, hE, hSvE⟩ | ⟨rfl, hno⟩
      · have hE14 : E < 16384 := Nat.lt_of_lt_of_le hE.1 hp9
        have hdis : E &&& erN V f b = 0 := hE.2.1
        obtain ⟨x, hx⟩ := (cn_Sv hel2 hle hdis).mpr hSvE
        have hdr : dc V f b = some (E, x) := DecR_one hsz.1 hds ⟨⟨hE.1, hdis, by rw [hE.2.2.2]; omega⟩, hx, fun T t1 t2 t3 => hlow T t1 t2 (by rw [hE.2.2.2] at t3; exact t3)⟩
        obtain ⟨d1, d2, d3⟩ := isD_t hdr
        have hoc : erN V f b ||| E = E ||| erN V f b := Nat.or_comm _ _
        have hol : E ||| erN V f b < 16384 := Nat.or_lt_two_pow (n := 14) hE14 hel2
        have hon : nS (E ||| erN V f b) 14 ≤ V (10 * f + 2) := by rw [nS_orD hdis, hE.2.2.2]; omega
        have t2 : Sm [35, 36, 37] I2 J2 := Sm.trans u1 w1
        have y5 : J2 29 5 = nI (V (10 * f + 2)) := by rw [t2 29 (by decide), q2 29 (by decide)]; exact k1
        have y6 : J2 29 6 = nI (erN V f b) := by rw [t2 29 (by decide), q2 29 (by decide)]; exact k2
        have y8 : J2 29 8 = nI 0 := by rw [t2 29 (by decide), q2 29 (by decide)]; exact k4
        have hKJ2 : Kt (gUp (gUp J2 29 7 (nI E)) 29 8 (nI 1)) := (hKJ.s w1 (by decide) (by decide)).s (l := [29]) (by repeat' first | assumption | exact Sm.rfl | exact Sc.rfl | refine Sm.up (by decide) ?_ | refine Sc.up (by decide) ?_ | refine Sc.un (by decide) ?_) (by decide) (by decide)
        refine g_istore (pc := 75) dX0_decode_75 (Nat.le_of_ble_eq_true rfl) rfl ?_
        refine g_iload (pc := 77) dX0_decode_77 rfl ?_
        refine g_if_ltN (tgt := 106) (pc := 79) dX0_decode_79 (by decide) (by omega) (fun c79 => ?_) (fun c79 => ?_)
        · omega
        refine g_aload_n (pc := 82) dX0_decode_82 rfl rfl ?_
        refine g_iload (pc := 83) dX0_decode_83 rfl ?_
        refine g_putI (pc := 85) dX0_decode_85 fl_X0_36 s_29 (by decide) rfl rfl rfl rfl ?_
        refine g_aload_n (pc := 88) dX0_decode_88 rfl rfl ?_
        refine g_iconst (v := nI 1) (pc := 89) dX0_decode_89 rfl ?_
        refine g_putI (pc := 90) dX0_decode_90 fl_X0_39 s_29 (by decide) rfl rfl rfl rfl ?_
        refine g_aload_n (pc := 93) dX0_decode_93 rfl rfl ?_
        refine g_aload_n (pc := 94) dX0_decode_94 rfl rfl ?_
        refine g_getIV (pc := 95) dX0_decode_95 fl_X0_33 s_29 (by decide) rfl (gUp_k (by decide) (gUp_k (by decide) y6)) ?_
        refine g_aload_n (pc := 98) dX0_decode_98 rfl rfl ?_
        refine g_getIV (pc := 99) dX0_decode_99 fl_X0_36 s_29 (by decide) rfl (show _ = nI E from gUp_k (by decide) (by rw [gUp_c, if_pos rfl])) ?_
        refine g_ior (pc := 102) dX0_decode_102 ?_
        rw [nI_or, hoc]
        refine g_rvV (av := [.int _]) (pc := 103) dX0_decode_103 mt_X0_solve lk_X0_90 im_X0_solve se_X0_solve np_X0_solve s_29 (by decide) (by decide) rfl (gc_i gc_0) (Nat.le_of_ble_eq_true rfl) (Nat.le_of_ble_eq_true rfl) (gRv_deep (by omega) (m_X0_solve (d := 0) hKJ2 (gUp_k (by decide) (gUp_k (by decide) y5)) hc6 (fun j hj => gUp_a (by decide) (gUp_a (by decide) (by rw [t2 32 (by decide), q2 32 (by decide)]; exact k7 j hj))) hx hol hon (fun i hi => gUp_a (by decide) (gUp_a (by decide) (by rw [t2 30 (by decide), q2 30 (by decide)]; exact hgz i hi))))) ?_
        rintro J3 ⟨r1, r2⟩
        refine g_iincN (pc := 106) dX0_decode_106 (Nat.le_of_ble_eq_true rfl) rfl rfl ?_
        refine g_goto (tgt := 35) (pc := 109) dX0_decode_109 (by decide) ?_
        have v8 : J3 29 8 = nI 1 := by rw [r2 29 (by decide), gUp_c, if_pos rfl]
        refine l_X0_done v8 (by omega) (by omega) ?_
        refine g_aload_n (pc := 112) dX0_decode_112 rfl rfl ?_
        refine g_getIV (pc := 113) dX0_decode_113 fl_X0_39 s_29 (by decide) rfl v8 ?_
        refine g_iret (pc := 116) dX0_decode_116 rfl rfl ?_
        refine ⟨_, _, ⟨rfl, rfl⟩, ?_⟩
        refine ⟨by rw [bI_t d1], ?_, ?_, fun _ => ⟨?_, v8, fun i hi => ?_⟩, fun q => absurd d1 q, ?_⟩
        · rw [r2 29 (by decide)]; exact gUp_k (by decide) (gUp_k (by decide) y5)
        · rw [r2 29 (by decide)]; exact gUp_k (by decide) (gUp_k (by decide) y6)
        · rw [r2 29 (by decide), d2]; exact gUp_k (by decide) (by rw [gUp_c, if_pos rfl])
        · rw [r1 i (by omega), d3 i, if_pos hi]
        · exact Sm.trans s2 (Sm.trans (t2.mono (by decide)) (Sm.trans (Sm.up (by decide) (Sm.up (by decide) Sm.rfl)) (r2.mono (by decide))))
      · skip
        refine g_istore (pc := 75) dX0_decode_75 (Nat.le_of_ble_eq_true rfl) rfl ?_
        refine g_iload (pc := 77) dX0_decode_77 rfl ?_
        refine g_if_lt (tgt := 106) (pc := 79) dX0_decode_79 (by decide) (fun c79 => ?_) (fun c79 => ?_)
        rotate_left
        · exact absurd (show (-1 : Int32) < 0 by decide) c79
        refine g_iincN (pc := 106) dX0_decode_106 (Nat.le_of_ble_eq_true rfl) rfl rfl ?_
        refine g_goto (tgt := 35) (pc := 109) dX0_decode_109 (by decide) ?_
        refine g_fg 6 ?_
        refine kn _ ⟨Sm.trans u1 w1, fun T t1 t2 t3 hSv => ?_⟩
        rcases Nat.lt_or_ge (nS T 14) k with w | w
        · exact hlow T t1 t2 w hSv
        · exact hno T ⟨t1, t2, fun i hi => absurd hi (Nat.not_lt_zero i), by omega⟩ ((cn_Sv hel2 hle t2).mp hSv)
    · obtain ⟨u1, hlow⟩ := hJ
      have hdr : dc V f b = none := DecR_one hsz.1 hds (fun E e1 e2 e3 => hlow E e1 e2 (by omega))
      have z8 : J 29 8 = nI 0 := by rw [u1 29 (by decide), q2 29 (by decide)]; exact k4
      refine g_iconst (v := nI 2) (pc := 35) dX0_decode_35 rfl ?_
      refine g_iload (pc := 36) dX0_decode_36 rfl ?_
      refine g_imulN (pc := 38) dX0_decode_38 ?_
      refine g_iload (pc := 39) dX0_decode_39 rfl ?_
      refine g_icmp_gtN (tgt := 112) (pc := 41) dX0_decode_41 (by decide) (by omega) (by omega) (fun c41 => ?_) (fun c41 => ?_)
      rotate_left
      · omega
      refine g_aload_n (pc := 112) dX0_decode_112 rfl rfl ?_
      refine g_getIV (pc := 113) dX0_decode_113 fl_X0_39 s_29 (by decide) rfl z8 ?_
      refine g_iret (pc := 116) dX0_decode_116 rfl rfl ?_
      refine ⟨_, _, ⟨rfl, rfl⟩, ?_⟩
      refine ⟨by rw [bI_f (isD_f hdr)], ?_, ?_, fun q => absurd q (isD_f hdr), fun _ => z8, Sm.trans s2 (u1.mono (by decide))⟩
      · rw [u1 29 (by decide), q2 29 (by decide)]; exact k1
      · rw [u1 29 (by decide), q2 29 (by decide)]; exact k2
  · have hdr : dc V f b = none := DecR_one hsz.1 hds (fun E e1 e2 e3 => absurd e3 (by omega))
    have hneg := pk_sneg (a := V (10 * f + 2)) (b := ern V f b) (by omega) (by omega)
    refine g_isub (pc := 18) dX0_decode_18 ?_
    refine g_istore (pc := 19) dX0_decode_19 (Nat.le_of_ble_eq_true rfl) rfl ?_
    refine g_iload (pc := 21) dX0_decode_21 rfl ?_
    refine g_if_ge (tgt := 28) (pc := 23) dX0_decode_23 (by decide) (fun c23 => ?_) (fun c23 => ?_)
    · rw [Int32.lt_iff_toInt_lt] at hneg
      rw [Int32.le_iff_toInt_le] at c23
      omega
    · refine g_iconst (v := nI 0) (pc := 26) dX0_decode_26 rfl ?_
      refine g_iret (pc := 27) dX0_decode_27 rfl rfl ?_
      refine ⟨_, _, ⟨rfl, rfl⟩, ?_⟩
      exact ⟨by rw [bI_f (isD_f hdr)], k1, k2, fun q => absurd q (isD_f hdr), fun _ => k4, k8.mono (by decide)⟩
end

