/-! ===== the reference: decoding ===== -/
def decP (J : Nat → Nat → Int32) (v : Int32) (z : Nat) (g : Nat → F6) : Option (Nat × (Nat → F6)) → Prop
  | none => v = nI 0
  | some (E, x) => v = nI 1 ∧ J 114 26 = nI E ∧ J 114 27 = nI (nS E 14) ∧ ∀ i, i < z → J 125 i = fI (fa (g i) (x i))
def decQ (G : gG) (n : Nat) (I : Nat → Nat → Int32) (L : Nat → Nat → Int64) (D : Nat → Nat → UInt64) (z c er : Nat) (g : Nat → F6) : gQ := fun o h => ∃ v J, (o = .inl (some (.int v)) ∧ h = hp n J L D) ∧ ∃ r, DecR (smF g z) c z er r ∧ decP J v z g r ∧ J 114 28 = nI (nS er 14) ∧ Sm [114, 125, 126, 127, 128, 129] I J ∧ Sc 114 [26, 27, 28] I J ∧ ∃ M, Rw J M
/-- what stands while sets are tried -/
def decK (I J : Nat → Nat → Int32) (z c er : Nat) (g : Nat → F6) : Prop := Sm [114, 125, 126, 127, 128, 129] I J ∧ Sc 114 [26, 27, 28] I J ∧ J 114 28 = nI (nS er 14) ∧ (∀ j, j < c → J 129 j = fI (smF g z j)) ∧ ∃ M, Rw J M
theorem decK.f {I J : Nat → Nat → Int32} {z c er j : Nat} {g : Nat → F6} {x : Int32} (h : decK I J z c er g) (hj : j = 26 ∨ j = 27) : decK I (gUp J 114 j x) z c er g := by
  obtain ⟨h1, h2, h3, h4, M, h5⟩ := h
  refine ⟨Sm.up (by decide) h1, Sc.up (by rcases hj with e | e <;> rw [e] <;> decide) h2, gUp_k (by omega) h3, fun i hi => by rw [gUp_ne (by decide)]; exact h4 i hi, M, h5.s (gUp_ne (by decide))⟩
section
variable {G : gG} {d n : Nat} {I : Nat → Nat → Int32} {L : Nat → Nat → Int64} {D : Nat → Nat → UInt64} {V : Nat → Nat}
theorem m_X3_behind_0 {z : Nat} (hz : z < 31) {h : gH} : gFn G YX3_behind d [.int (nI 0), .int (nI z)] h (.inl (some (.int (nI (2 ^ z))))) h 0 0 := by
  refine g_iload_n (pc := 0) dX3_behind_0 rfl rfl ?_
  refine g_if_neN (tgt := 8) (pc := 1) dX3_behind_1 (by decide) (by omega) (fun c1 => ?_) (fun c1 => ?_)
  · exact absurd rfl c1
  · refine g_iconst (v := nI 1) (pc := 4) dX3_behind_4 rfl ?_
    refine g_iload_n (pc := 5) dX3_behind_5 rfl rfl ?_
    refine g_ishl (pc := 6) dX3_behind_6 ?_
    rw [sh_1 z hz]
    refine g_iret (pc := 7) dX3_behind_7 rfl rfl ?_
    first | exact ⟨rfl, rfl⟩ | exact ⟨by rw [bI_t (by first | assumption | omega)], rfl⟩ | exact ⟨by rw [bI_f (by first | assumption | omega)], rfl⟩
theorem m_X3_behind_n {z S : Nat} (hS : S < 16384) (h1 : 1 ≤ nS S 14) (h3 : nS S 14 ≤ 3) {h : gH} : gFn G YX3_behind d [.int (nI S), .int (nI z)] h (.inl (some (.int (nI (bn S))))) h 0 0 := by
  obtain ⟨⟨b1, b2⟩, -⟩ := bn_ok hS h1 h3
  have hS0 : ¬ S = 0 := fun e => by rw [e] at h1; exact absurd h1 (by decide)
  refine g_iload_n (pc := 0) dX3_behind_0 rfl rfl ?_
  refine g_if_neN (tgt := 8) (pc := 1) dX3_behind_1 (by decide) (by omega) (fun c1 => ?_) (fun c1 => ?_)
  · refine g_iload_n (pc := 8) dX3_behind_8 rfl rfl ?_
    refine g_iload_n (pc := 9) dX3_behind_9 rfl rfl ?_
    refine g_ineg (pc := 10) dX3_behind_10 ?_
    refine g_iand (pc := 11) dX3_behind_11 ?_
    refine g_istore_n (pc := 12) dX3_behind_12 rfl (Nat.le_of_ble_eq_true rfl) rfl ?_
    refine g_iload_n (pc := 13) dX3_behind_13 rfl rfl ?_
    refine g_iload_n (pc := 14) dX3_behind_14 rfl rfl ?_
    refine g_iadd (pc := 15) dX3_behind_15 ?_
    refine g_istore_n (pc := 16) dX3_behind_16 rfl (Nat.le_of_ble_eq_true rfl) rfl ?_
    refine g_iload_n (pc := 17) dX3_behind_17 rfl rfl ?_
    refine g_iload_n (pc := 18) dX3_behind_18 rfl rfl ?_
    refine g_ixor (pc := 19) dX3_behind_19 ?_
    refine g_iconst (v := nI 2) (pc := 20) dX3_behind_20 rfl ?_
    refine g_ishr (pc := 21) dX3_behind_21 ?_
    refine g_iload_n (pc := 22) dX3_behind_22 rfl rfl ?_
    refine g_idiv (pc := 23) dX3_behind_23 b2 rfl ?_
    refine g_iload_n (pc := 24) dX3_behind_24 rfl rfl ?_
    refine g_ior (pc := 25) dX3_behind_25 ?_
    refine g_iret (pc := 26) dX3_behind_26 rfl rfl ?_
    exact ⟨by rw [← b1]; rfl, rfl⟩
  · exact absurd c1 hS0
theorem l_X3_dec {z c er e : Nat} {g : Nat → F6} {I0 : Nat → Nat → Int32} (hT : Tb I0) (hz : I0 114 23 = nI z) (h14 : z ≤ 14) (hc : I0 114 24 = nI c) (hc6 : c ≤ 6) (he : I0 114 25 = nI er) (her : er < 2 ^ z) (hg : ∀ i, i < z → I0 124 i = fI (g i)) (hle : 2 * e + nS er 14 ≤ c) (hlow : ∀ T, T < 2 ^ z → T &&& er = 0 → nS T 14 < e → ¬ Sv (smF g z) c (T ||| er))
    (kn : ∀ J, decK I0 J z c er g → J 114 27 = nI (e + 1) → (∀ T, T < 2 ^ z → T &&& er = 0 → nS T 14 < e + 1 → ¬ Sv (smF g z) c (T ||| er)) → gGo G YX3_isDecoded (d + 2) 43 [some (.ref 114), none] [] (hp n J L D) 0 0 (decQ G n I0 L D z c er g)) :
    ∀ (q F : Nat) (J : Nat → Nat → Int32), 32768 - F = q → F < 32768 → decK I0 J z c er g → J 114 27 = nI e → J 114 26 = nI F → (F < 2 ^ z → nS F 14 = e) → (∀ T, T < 2 ^ z → T < F → T &&& er = 0 → nS T 14 = e → ¬ Sv (smF g z) c (T ||| er)) → gGo G YX3_isDecoded (d + 2) 73 [some (.ref 114), none] [] (hp n J L D) 0 0 (decQ G n I0 L D z c er g) := by
  intro q
  induction q using Nat.strongRecOn with
  | _ q ih =>
    intro F J hq hF hK h27 h26 hpc hno
    have hK0 := hK
    obtain ⟨s1, s2, h28, hs, M, hR⟩ := hK
    have h2z : 2 ^ z ≤ 16384 := Nat.pow_le_pow_right (n := 2) (by decide) h14
    have z1 : J 114 23 = nI z := by rw [s2 23 (by decide)]; exact hz
    have c1 : J 114 24 = nI c := by rw [s2 24 (by decide)]; exact hc
    have e1 : J 114 25 = nI er := by rw [s2 25 (by decide)]; exact he
    have hTJ : Tb J := hT.s s1 (by decide) (by decide) (by decide)
    have hgJ : ∀ i, i < z → J 124 i = fI (g i) := fun i hi => by rw [s1 124 (by decide)]; exact hg i hi
    have hFe : F &&& er ≤ F := Nat.and_le_left
    have nx : ∀ J2, decK I0 J2 z c er g → J2 114 27 = nI e → J2 114 26 = nI F → F < 2 ^ z → (F &&& er = 0 → ¬ Sv (smF g z) c (F ||| er)) → gGo G YX3_isDecoded (d + 2) 154 [some (.ref 114), none] [] (hp n J2 L D) 0 0 (decQ G n I0 L D z c er g) := by
      intro J2 hK2 g27 g26 hFz hnF
      have z2 : J2 114 23 = nI z := by rw [hK2.2.1 23 (by decide)]; exact hz
      by_cases he0 : e = 0
      · have hF0 : F = 0 := nS_none (by omega) (by rw [hpc hFz]; exact he0)
        subst hF0
        have hpw : 2 ^ z < 32768 := by omega
        have hpp : 0 < 2 ^ z := Nat.pow_pos (by decide)
        refine g_aload_n (pc := 154) dX3_isDecoded_154 rfl rfl ?_
        refine g_aload_n (pc := 155) dX3_isDecoded_155 rfl rfl ?_
        refine g_getIV (pc := 156) dX3_isDecoded_156 fl_X3_187 s_114 (by decide) rfl g26 ?_
        refine g_aload_n (pc := 159) dX3_isDecoded_159 rfl rfl ?_
        refine g_getIV (pc := 160) dX3_isDecoded_160 fl_X3_133 s_114 (by decide) rfl z2 ?_
        refine g_fS (av := [.int _, .int _]) (pc := 163) dX3_isDecoded_163 mt_X3_behind lk_X3_193 sf_X3_behind np_X3_behind rfl (gc_i (gc_i gc_0)) (Nat.le_of_ble_eq_true rfl) (Nat.le_of_ble_eq_true rfl) ⟨Nat.zero_le _, Nat.zero_le _⟩ (m_X3_behind_0 (by omega)) ?_
        refine g_putI (pc := 166) dX3_isDecoded_166 fl_X3_187 s_114 (by decide) rfl rfl rfl rfl ?_
        refine g_goto (tgt := 73) (pc := 169) dX3_isDecoded_169 (by decide) ?_
        refine ih _ ?_ (2 ^ z) _ rfl hpw (hK2.f (Or.inl rfl)) (gUp_k (by decide) g27) (by rw [gUp_c, if_pos rfl]) (fun w => absurd w (Nat.lt_irrefl _)) (fun T t1 t2 t3 t4 => ?_)
        · omega
        · have : T = 0 := nS_none (by omega) (by rw [t4]; exact he0)
          subst this
          exact hnF t3
      · have hb := bn_ok (S := F) (by omega) (by rw [hpc hFz]; omega) (by rw [hpc hFz]; omega)
        obtain ⟨-, b2, b3, b4, b5⟩ := hb
        refine g_aload_n (pc := 154) dX3_isDecoded_154 rfl rfl ?_
        refine g_aload_n (pc := 155) dX3_isDecoded_155 rfl rfl ?_
        refine g_getIV (pc := 156) dX3_isDecoded_156 fl_X3_187 s_114 (by decide) rfl g26 ?_
        refine g_aload_n (pc := 159) dX3_isDecoded_159 rfl rfl ?_
        refine g_getIV (pc := 160) dX3_isDecoded_160 fl_X3_133 s_114 (by decide) rfl z2 ?_
        refine g_fS (av := [.int _, .int _]) (pc := 163) dX3_isDecoded_163 mt_X3_behind lk_X3_193 sf_X3_behind np_X3_behind rfl (gc_i (gc_i gc_0)) (Nat.le_of_ble_eq_true rfl) (Nat.le_of_ble_eq_true rfl) ⟨Nat.zero_le _, Nat.zero_le _⟩ (m_X3_behind_n (by omega) (by rw [hpc hFz]; omega) (by rw [hpc hFz]; omega)) ?_
        refine g_putI (pc := 166) dX3_isDecoded_166 fl_X3_187 s_114 (by decide) rfl rfl rfl rfl ?_
        refine g_goto (tgt := 73) (pc := 169) dX3_isDecoded_169 (by decide) ?_
        refine ih _ ?_ (bn F) _ rfl b3 (hK2.f (Or.inl rfl)) (gUp_k (by decide) g27) (by rw [gUp_c, if_pos rfl]) (fun w => (b4 (by omega)).trans (hpc hFz)) (fun T t1 t2 t3 t4 => ?_)
        · omega
        · rcases Nat.lt_trichotomy T F with w | w | w
          · exact hno T t1 w t3 t4
          · rw [w] at t3 ⊢; exact hnF t3
          · exact absurd (t4.trans (hpc hFz).symm) (b5 T w t2 (by omega))
    have hor : F < 2 ^ z → F ||| er < 2 ^ z := fun w => Nat.or_lt_two_pow w her
    have hnu : F < 2 ^ z → F &&& er = 0 → nS (F ||| er) 14 ≤ c := fun w w2 => by rw [nS_orD w2, hpc w]; omega
    refine g_aload_n (pc := 73) dX3_isDecoded_73 rfl rfl ?_
    refine g_getIV (pc := 74) dX3_isDecoded_74 fl_X3_187 s_114 (by decide) rfl h26 ?_
    refine g_iconst (v := nI 1) (pc := 77) dX3_isDecoded_77 rfl ?_
    refine g_aload_n (pc := 78) dX3_isDecoded_78 rfl rfl ?_
    refine g_getIV (pc := 79) dX3_isDecoded_79 fl_X3_133 s_114 (by decide) rfl z1 ?_
    refine g_ishl (pc := 82) dX3_isDecoded_82 ?_
    rw [sh_1 z (by omega)]
    refine g_icmp_geN (tgt := 172) (pc := 83) dX3_isDecoded_83 (by decide) (by omega) (by omega) (fun c83 => ?_) (fun c83 => ?_)
    · refine g_aload_n (pc := 172) dX3_isDecoded_172 rfl rfl ?_
      refine g_dup (pc := 173) dX3_isDecoded_173 rfl ?_
      refine g_getIV (pc := 174) dX3_isDecoded_174 fl_X3_184 s_114 (by decide) rfl h27 ?_
      refine g_iconst (v := nI 1) (pc := 177) dX3_isDecoded_177 rfl ?_
      refine g_iaddN (pc := 178) dX3_isDecoded_178 ?_
      refine g_putI (pc := 179) dX3_isDecoded_179 fl_X3_184 s_114 (by decide) rfl rfl rfl rfl ?_
      refine g_goto (tgt := 43) (pc := 182) dX3_isDecoded_182 (by decide) ?_
      exact kn _ (hK0.f (Or.inr rfl)) (by rw [gUp_c, if_pos rfl]) (fun T t1 t2 t3 => by
        rcases Nat.lt_or_ge (nS T 14) e with w | w
        · exact hlow T t1 t2 w
        · exact hno T t1 (by omega) t2 (by omega))
    refine g_aload_n (pc := 86) dX3_isDecoded_86 rfl rfl ?_
    refine g_getIV (pc := 87) dX3_isDecoded_87 fl_X3_187 s_114 (by decide) rfl h26 ?_
    refine g_aload_n (pc := 90) dX3_isDecoded_90 rfl rfl ?_
    refine g_getIV (pc := 91) dX3_isDecoded_91 fl_X3_138 s_114 (by decide) rfl e1 ?_
    refine g_iand (pc := 94) dX3_isDecoded_94 ?_
    rw [nI_and]
    refine g_if_neN (tgt := 154) (pc := 95) dX3_isDecoded_95 (by decide) (by omega) (fun c95 => ?_) (fun c95 => ?_)
    · exact nx J hK0 h27 h26 (by omega) (fun w => absurd w c95)
    refine g_aload_n (pc := 98) dX3_isDecoded_98 rfl rfl ?_
    refine g_aload_n (pc := 99) dX3_isDecoded_99 rfl rfl ?_
    refine g_getIV (pc := 100) dX3_isDecoded_100 fl_X3_187 s_114 (by decide) rfl h26 ?_
    refine g_aload_n (pc := 103) dX3_isDecoded_103 rfl rfl ?_
    refine g_getIV (pc := 104) dX3_isDecoded_104 fl_X3_138 s_114 (by decide) rfl e1 ?_
    refine g_ior (pc := 107) dX3_isDecoded_107 ?_
    rw [nI_or]
    refine g_riV (av := [.int _]) (pc := 108) dX3_isDecoded_108 mt_X3_isSolved lk_X3_190 im_X3_isSolved se_X3_isSolved np_X3_isSolved s_114 (by decide) (by decide) rfl (gc_i gc_0) (Nat.le_of_ble_eq_true rfl) (Nat.le_of_ble_eq_true rfl) (m_X3_isSolved hTJ z1 h14 (hor (by omega)) c1 hc6 (hnu (by omega) c95) hs hR) ?_
    rintro v I2 ⟨hv, k1, M2, hR2⟩
    have hK2 : decK I0 I2 z c er g := ⟨Sm.trans s1 (k1.mono (by decide)), Sc.trans s2 (k1.sc (by decide)), by rw [k1 114 (by decide)]; exact h28, fun j hj => by rw [k1 129 (by decide)]; exact hs j hj, M2, hR2⟩
    have g27 : I2 114 27 = nI e := by rw [k1 114 (by decide)]; exact h27
    have g26 : I2 114 26 = nI F := by rw [k1 114 (by decide)]; exact h26
    have hFz : F < 2 ^ z := by omega
    rcases hv with ⟨rfl, x, hx1, hx2⟩ | ⟨rfl, hx⟩
    · have z2 : I2 114 23 = nI z := by rw [k1 114 (by decide)]; exact z1
      refine g_if_neN (tgt := 117) (pc := 111) dX3_isDecoded_111 (by decide) (by omega) (fun c111 => ?_) (fun c111 => ?_)
      rotate_left
      · exact absurd c111 (by decide)
      refine g_iconst (v := nI 0) (pc := 117) dX3_isDecoded_117 rfl ?_
      refine g_istore_n (pc := 118) dX3_isDecoded_118 rfl (Nat.le_of_ble_eq_true rfl) rfl ?_
      refine g_loop z (fun k J3 => Sm [125] I2 J3 ∧ ∀ i, i < k → J3 125 i = fI (fa (g i) (x i))) (fun k _ => [some (.ref 114), some (.int (nI k))]) (fun J => hp n J L D) (fun k J3 hk hJ kn => ?_) (fun J3 hJ => ?_) 0 I2 (Nat.zero_le _) ⟨Sm.rfl, fun i hi => absurd hi (Nat.not_lt_zero i)⟩
      · obtain ⟨u1, u2⟩ := hJ
        have z3 : J3 114 23 = nI z := by rw [u1 114 (by decide)]; exact z2
        have y1 : J3 124 k = fI (g k) := by rw [u1 124 (by decide), k1 124 (by decide)]; exact hgJ k hk
        have y2 : J3 127 k = fI (x k) := by rw [u1 127 (by decide)]; exact hx2 k hk
        refine g_iload_n (pc := 119) dX3_isDecoded_119 rfl rfl ?_
        refine g_aload_n (pc := 120) dX3_isDecoded_120 rfl rfl ?_
        refine g_getIV (pc := 121) dX3_isDecoded_121 fl_X3_133 s_114 (by decide) rfl z3 ?_
        refine g_icmp_geN (tgt := 152) (pc := 124) dX3_isDecoded_124 (by decide) (by omega) (by omega) (fun c124 => ?_) (fun c124 => ?_)
        · omega
        refine g_aload_n (pc := 127) dX3_isDecoded_127 rfl rfl ?_
        refine g_getR (pc := 128) dX3_isDecoded_128 fl_X3_45 s_114 (by decide) rfl t_114_18 ?_
        refine g_iload_n (pc := 131) dX3_isDecoded_131 rfl rfl ?_
        refine g_aload_n (pc := 132) dX3_isDecoded_132 rfl rfl ?_
        refine g_getR (pc := 133) dX3_isDecoded_133 fl_X3_42 s_114 (by decide) rfl t_114_17 ?_
        refine g_iload_n (pc := 136) dX3_isDecoded_136 rfl rfl ?_
        refine g_ialoadN (pc := 137) dX3_isDecoded_137 s_124 (by decide) (by omega) (by decide) y1 ?_
        refine g_aload_n (pc := 138) dX3_isDecoded_138 rfl rfl ?_
        refine g_getR (pc := 139) dX3_isDecoded_139 fl_X3_51 s_114 (by decide) rfl t_114_20 ?_
        refine g_iload_n (pc := 142) dX3_isDecoded_142 rfl rfl ?_
        refine g_ialoadN (pc := 143) dX3_isDecoded_143 s_127 (by decide) (by omega) (by decide) y2 ?_
        refine g_ixor (pc := 144) dX3_isDecoded_144 ?_
        rw [fI_x]
        refine g_iastoreN (pc := 145) dX3_isDecoded_145 s_125 (by decide) (by omega) (by decide) ?_
        refine g_iincN (pc := 146) dX3_isDecoded_146 (Nat.le_of_ble_eq_true rfl) rfl rfl ?_
        refine g_goto (tgt := 119) (pc := 149) dX3_isDecoded_149 (by decide) ?_
        refine kn _ ⟨Sm.up (by decide) u1, fun i hi => ?_⟩
        rw [gUp_c]
        by_cases w : i = k
        · rw [if_pos w, w]
        · rw [if_neg w]; exact u2 i (by omega)
      · obtain ⟨u1, u2⟩ := hJ
        have z3 : J3 114 23 = nI z := by rw [u1 114 (by decide)]; exact z2
        refine g_iload_n (pc := 119) dX3_isDecoded_119 rfl rfl ?_
        refine g_aload_n (pc := 120) dX3_isDecoded_120 rfl rfl ?_
        refine g_getIV (pc := 121) dX3_isDecoded_121 fl_X3_133 s_114 (by decide) rfl z3 ?_
        refine g_icmp_geN (tgt := 152) (pc := 124) dX3_isDecoded_124 (by decide) (by omega) (by omega) (fun c124 => ?_) (fun c124 => ?_)
        rotate_left
        · omega
        refine g_iconst (v := nI 1) (pc := 152) dX3_isDecoded_152 rfl ?_
        refine g_iret (pc := 153) dX3_isDecoded_153 rfl rfl ?_
        refine ⟨_, _, ⟨rfl, rfl⟩, some (F, x), ⟨⟨hFz, c95, by rw [hpc hFz]; exact hle⟩, hx1, fun T t1 t2 t3 => hlow T t1 t2 (by rw [hpc hFz] at t3; exact t3)⟩, ⟨rfl, ?_, ?_, u2⟩, ?_, ?_, ?_, M2, hR2.s (u1 128 (by decide))⟩
        · rw [u1 114 (by decide)]; exact g26
        · rw [u1 114 (by decide), hpc hFz]; exact g27
        · rw [u1 114 (by decide)]; exact hK2.2.2.1
        · exact Sm.trans hK2.1 (u1.mono (by decide))
        · exact Sc.trans hK2.2.1 (u1.sc (by decide))
    · skip
      refine g_if_neN (tgt := 117) (pc := 111) dX3_isDecoded_111 (by decide) (by omega) (fun c111 => ?_) (fun c111 => ?_)
      · exact absurd rfl c111
      refine g_goto (tgt := 154) (pc := 114) dX3_isDecoded_114 (by decide) ?_
      exact nx I2 hK2 g27 g26 hFz (fun _ => hx)
theorem m_X3_isDecoded {z c er : Nat} {g : Nat → F6} (hT : Tb I) {M : mT} (hR : Rw I M) (hz : I 114 23 = nI z) (h14 : z ≤ 14) (hc : I 114 24 = nI c) (hc6 : c ≤ 6) (he : I 114 25 = nI er) (her : er < 2 ^ z) (hg : ∀ i, i < z → I 124 i = fI (g i)) : gRi G YX3_isDecoded (d + 2) [.ref 114] n I L D (fun v J => ∃ r, DecR (smF g z) c z er r ∧ decP J v z g r ∧ J 114 28 = nI (nS er 14) ∧ Sm [114, 125, 126, 127, 128, 129] I J ∧ Sc 114 [26, 27, 28] I J ∧ ∃ M, Rw J M) := by
  have h2z : 2 ^ z ≤ 16384 := Nat.pow_le_pow_right (n := 2) (by decide) h14
  have hnl := nS_le er 14
  show gGo G YX3_isDecoded (d + 2) 0 _ _ _ _ _ (decQ G n I L D z c er g)
  refine g_aload_n (pc := 0) dX3_isDecoded_0 rfl rfl ?_
  refine g_aload_n (pc := 1) dX3_isDecoded_1 rfl rfl ?_
  refine g_getIV (pc := 2) dX3_isDecoded_2 fl_X3_138 s_114 (by decide) rfl he ?_
  refine g_fS (av := [.int _]) (pc := 5) dX3_isDecoded_5 mt_X3_bits lk_X3_175 sf_X3_bits np_X3_bits rfl (gc_i gc_0) (Nat.le_of_ble_eq_true rfl) (Nat.le_of_ble_eq_true rfl) ⟨Nat.zero_le _, Nat.zero_le _⟩ (m_X3_bits (by omega)) ?_
  refine g_putI (pc := 8) dX3_isDecoded_8 fl_X3_178 s_114 (by decide) rfl rfl rfl rfl ?_
  refine g_iconst (v := nI 0) (pc := 11) dX3_isDecoded_11 rfl ?_
  refine g_istore_n (pc := 12) dX3_isDecoded_12 rfl (Nat.le_of_ble_eq_true rfl) rfl ?_
  refine g_loop c (fun j J => Sm [114, 129] I J ∧ Sc 114 [28] I J ∧ J 114 28 = nI (nS er 14) ∧ ∀ i, i < j → J 129 i = fI (smF g z i)) (fun j _ => [some (.ref 114), some (.int (nI j))]) (fun J => hp n J L D) (fun j J hj hJ kn => ?_) (fun J hJ => ?_) 0 _ (Nat.zero_le _) ⟨(by repeat' first | assumption | exact Sm.rfl | exact Sc.rfl | refine Sm.up (by decide) ?_ | refine Sc.up (by decide) ?_ | refine Sc.un (by decide) ?_), (by repeat' first | assumption | exact Sm.rfl | exact Sc.rfl | refine Sm.up (by decide) ?_ | refine Sc.up (by decide) ?_ | refine Sc.un (by decide) ?_), by rw [gUp_c, if_pos rfl], fun i hi => absurd hi (Nat.not_lt_zero i)⟩
  · obtain ⟨s1, s2, h28, hs⟩ := hJ
    have hc1 : J 114 24 = nI c := by rw [s2 24 (by decide)]; exact hc
    refine g_iload_n (pc := 13) dX3_isDecoded_13 rfl rfl ?_
    refine g_aload_n (pc := 14) dX3_isDecoded_14 rfl rfl ?_
    refine g_getIV (pc := 15) dX3_isDecoded_15 fl_X3_135 s_114 (by decide) rfl hc1 ?_
    refine g_icmp_geN (tgt := 38) (pc := 18) dX3_isDecoded_18 (by decide) (by omega) (by omega) (fun c18 => ?_) (fun c18 => ?_)
    · omega
    refine g_aload_n (pc := 21) dX3_isDecoded_21 rfl rfl ?_
    refine g_getR (pc := 22) dX3_isDecoded_22 fl_X3_57 s_114 (by decide) rfl t_114_22 ?_
    refine g_iload_n (pc := 25) dX3_isDecoded_25 rfl rfl ?_
    refine g_aload_n (pc := 26) dX3_isDecoded_26 rfl rfl ?_
    refine g_iload_n (pc := 27) dX3_isDecoded_27 rfl rfl ?_
    refine g_fV (av := [.int _]) (pc := 28) dX3_isDecoded_28 mt_X3_sumOf lk_X3_181 im_X3_sumOf se_X3_sumOf np_X3_sumOf s_114 (by decide) (by decide) rfl (gc_i gc_0) (Nat.le_of_ble_eq_true rfl) (Nat.le_of_ble_eq_true rfl) ⟨Nat.zero_le _, Nat.zero_le _⟩ (m_X3_sumOf (hT.s s1 (by decide) (by decide) (by decide)) (by rw [s2 23 (by decide)]; exact hz) h14 (by omega) (fun i hi => by rw [s1 124 (by decide)]; exact hg i hi)) ?_
    refine g_iastoreN (pc := 31) dX3_isDecoded_31 s_129 (by decide) (by omega) (by decide) ?_
    refine g_iincN (pc := 32) dX3_isDecoded_32 (Nat.le_of_ble_eq_true rfl) rfl rfl ?_
    refine g_goto (tgt := 13) (pc := 35) dX3_isDecoded_35 (by decide) ?_
    refine kn _ ⟨Sm.up (by decide) s1, Sc.un (by decide) s2, gUp_a (by decide) h28, fun i hi => ?_⟩
    rw [gUp_c]
    by_cases w : i = j
    · rw [if_pos w, w]
    · rw [if_neg w]; exact hs i (by omega)
  · obtain ⟨s1, s2, h28, hs⟩ := hJ
    have hc1 : J 114 24 = nI c := by rw [s2 24 (by decide)]; exact hc
    have hK1 : decK I J z c er g := ⟨s1.mono (by decide), s2.mono (by decide), h28, hs, M, hR.s (s1 128 (by decide))⟩
    refine g_iload_n (pc := 13) dX3_isDecoded_13 rfl rfl ?_
    refine g_aload_n (pc := 14) dX3_isDecoded_14 rfl rfl ?_
    refine g_getIV (pc := 15) dX3_isDecoded_15 fl_X3_135 s_114 (by decide) rfl hc1 ?_
    refine g_icmp_geN (tgt := 38) (pc := 18) dX3_isDecoded_18 (by decide) (by omega) (by omega) (fun c18 => ?_) (fun c18 => ?_)
    rotate_left
    · omega
    refine g_aload_n (pc := 38) dX3_isDecoded_38 rfl rfl ?_
    refine g_iconst (v := nI 0) (pc := 39) dX3_isDecoded_39 rfl ?_
    refine g_putI (pc := 40) dX3_isDecoded_40 fl_X3_184 s_114 (by decide) rfl rfl rfl rfl ?_
    refine g_fg 1 ?_
    refine g_loop ((c + 2 - nS er 14) / 2) (fun e J => decK I J z c er g ∧ J 114 27 = nI e ∧ ∀ T, T < 2 ^ z → T &&& er = 0 → nS T 14 < e → ¬ Sv (smF g z) c (T ||| er)) (fun e _ => [some (.ref 114), none]) (fun J => hp n J L D) (fun e J hel hJ kn => ?_) (fun J hJ => ?_) 0 _ (Nat.zero_le _) ⟨hK1.f (Or.inr rfl), by rw [gUp_c, if_pos rfl], fun T _ _ q => absurd q (Nat.not_lt_zero _)⟩
    · obtain ⟨hK, h27, hlow⟩ := hJ
      have he3 : e < 4 := by omega
      have hp1 : 2 ^ e ≤ 8 := Nat.pow_le_pow_right (n := 2) (by decide) (show e ≤ 3 by omega)
      have hp2 : 1 ≤ 2 ^ e := Nat.pow_pos (by decide)
      refine g_iconst (v := nI 2) (pc := 43) dX3_isDecoded_43 rfl ?_
      refine g_aload_n (pc := 44) dX3_isDecoded_44 rfl rfl ?_
      refine g_getIV (pc := 45) dX3_isDecoded_45 fl_X3_184 s_114 (by decide) rfl h27 ?_
      refine g_imulN (pc := 48) dX3_isDecoded_48 ?_
      refine g_aload_n (pc := 49) dX3_isDecoded_49 rfl rfl ?_
      refine g_getIV (pc := 50) dX3_isDecoded_50 fl_X3_178 s_114 (by decide) rfl hK.2.2.1 ?_
      refine g_iaddN (pc := 53) dX3_isDecoded_53 ?_
      refine g_aload_n (pc := 54) dX3_isDecoded_54 rfl rfl ?_
      refine g_getIV (pc := 55) dX3_isDecoded_55 fl_X3_135 s_114 (by decide) rfl (show _ = nI c from by rw [hK.2.1 24 (by decide)]; exact hc) ?_
      refine g_icmp_gtN (tgt := 185) (pc := 58) dX3_isDecoded_58 (by decide) (by omega) (by omega) (fun c58 => ?_) (fun c58 => ?_)
      · omega
      refine g_aload_n (pc := 61) dX3_isDecoded_61 rfl rfl ?_
      refine g_iconst (v := nI 1) (pc := 62) dX3_isDecoded_62 rfl ?_
      refine g_aload_n (pc := 63) dX3_isDecoded_63 rfl rfl ?_
      refine g_getIV (pc := 64) dX3_isDecoded_64 fl_X3_184 s_114 (by decide) rfl h27 ?_
      refine g_ishl (pc := 67) dX3_isDecoded_67 ?_
      rw [sh_1 e (by omega)]
      refine g_iconst (v := nI 1) (pc := 68) dX3_isDecoded_68 rfl ?_
      refine g_isubN (pc := 69) dX3_isDecoded_69 (by omega) ?_
      refine g_putI (pc := 70) dX3_isDecoded_70 fl_X3_187 s_114 (by decide) rfl rfl rfl rfl ?_
      exact l_X3_dec hT hz h14 hc hc6 he her hg (by omega) hlow (fun J2 a b c => kn J2 ⟨a, b, c⟩) _ (2 ^ e - 1) _ rfl (by omega) (hK.f (Or.inl rfl)) (gUp_k (by decide) h27) (by rw [gUp_c, if_pos rfl]) (fun _ => nS_ones e he3) (fun T _ t2 _ t4 => absurd t4 (nS_first e he3 T t2))
    · obtain ⟨hK, h27, hlow⟩ := hJ
      refine g_iconst (v := nI 2) (pc := 43) dX3_isDecoded_43 rfl ?_
      refine g_aload_n (pc := 44) dX3_isDecoded_44 rfl rfl ?_
      refine g_getIV (pc := 45) dX3_isDecoded_45 fl_X3_184 s_114 (by decide) rfl h27 ?_
      refine g_imulN (pc := 48) dX3_isDecoded_48 ?_
      refine g_aload_n (pc := 49) dX3_isDecoded_49 rfl rfl ?_
      refine g_getIV (pc := 50) dX3_isDecoded_50 fl_X3_178 s_114 (by decide) rfl hK.2.2.1 ?_
      refine g_iaddN (pc := 53) dX3_isDecoded_53 ?_
      refine g_aload_n (pc := 54) dX3_isDecoded_54 rfl rfl ?_
      refine g_getIV (pc := 55) dX3_isDecoded_55 fl_X3_135 s_114 (by decide) rfl (show _ = nI c from by rw [hK.2.1 24 (by decide)]; exact hc) ?_
      refine g_icmp_gtN (tgt := 185) (pc := 58) dX3_isDecoded_58 (by decide) (by omega) (by omega) (fun c58 => ?_) (fun c58 => ?_)
      rotate_left
      · omega
      refine g_iconst (v := nI 0) (pc := 185) dX3_isDecoded_185 rfl ?_
      refine g_iret (pc := 186) dX3_isDecoded_186 rfl rfl ?_
      refine ⟨_, _, ⟨rfl, rfl⟩, none, fun E e1 e2 e3 => hlow E e1 e2 (by omega), rfl, hK.2.2.1, hK.1, hK.2.1, hK.2.2.2.2⟩
end

