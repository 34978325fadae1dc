/-! ===== the reference scrubs (b) ===== -/
section
variable {G : gG} {d n : Nat} {I : Nat → Nat → Int32} {L : Nat → Nat → Int64} {D : Nat → Nat → UInt64} {V : Nat → Nat}
theorem l_X3_scrub2 {I0 : Nat → Nat → Int32} {bud f b left l k m : Nat} {C : Nat → Int32} {Ls : Nat → Int32} (hbud : bud ≤ 200) (hW : WF V) (f1 : f < 8) (f2 : V (10 * f) = 1) (f3 : b < bl V f) (hm : m = dmN V f b) (hlb : left ≤ bud) (hS : SI I0 I bud V C left l Ls) (hd : dM V f b I) (hln : l < 32) (kn : ∀ K, SI I0 K bud (scV V f b) (scC V C f b) (left - dmN V f b) (l + 1) (lnS l f b (scO V f b) (dmN V f b) Ls) → gGo G YX3_scrub (d + 5) 46 [some (.ref 114), some (.int (nI bud)), some (.int (nI (left - dmN V f b))), some (.int (nxI (scV V f b))), none, none, none, none, none] [] (hp n K L D) 0 0 (scQ G n I0 L D bud (scrF k (scV V f b, scC V C f b, left - dmN V f b, l + 1, lnS l f b (scO V f b) (dmN V f b) Ls)))) : gGo G YX3_scrub (d + 5) 111 [some (.ref 114), some (.int (nI bud)), some (.int (nI left)), some (.int (nI (100 * f + b))), some (.int (nI f)), some (.int (nI b)), some (.int (bI (isD V f b = true))), some (.int (nI m)), none] [] (hp n I L D) 0 0 (scQ G n I0 L D bud (if left < dmN V f b then (V, addC C 3 (nI 1), left, l + 1, lnS l f b 3 (dmN V f b) Ls) else scrF k (scV V f b, scC V C f b, left - dmN V f b, l + 1, lnS l f b (scO V f b) (dmN V f b) Ls))) := by
  subst hm
  have hbl := bl_le (hW.1 f f1)
  have hb4 : b < 4 := by omega
  have hdd : dmN V f b ≤ 6 := dd_le (b := b) (hW.1 f f1)
  have h8 := hW.2.2.1
  have hS0 := hS
  obtain ⟨h1, h2, h3, h4, h5, h6, h7, M, h8r⟩ := hS
  refine g_iload (pc := 111) dX3_scrub_111 rfl ?_
  refine g_iload_n (pc := 113) dX3_scrub_113 rfl rfl ?_
  refine g_icmp_leN (tgt := 130) (pc := 114) dX3_scrub_114 (by decide) (by omega) (by omega) (fun c114 => ?_) (fun c114 => ?_)
  rotate_left
  · refine g_aload_n (pc := 117) dX3_scrub_117 rfl rfl ?_
    refine g_iload (pc := 118) dX3_scrub_118 rfl ?_
    refine g_iload (pc := 120) dX3_scrub_120 rfl ?_
    refine g_iconst (v := nI 3) (pc := 122) dX3_scrub_122 rfl ?_
    refine g_iload (pc := 123) dX3_scrub_123 rfl ?_
    refine g_rvV (av := [.int _, .int _, .int _, .int _]) (pc := 125) dX3_scrub_125 mt_X3_tells lk_X3_222 im_X3_tells se_X3_tells np_X3_tells s_114 (by decide) (by decide) rfl (gc_i (gc_i (gc_i (gc_i gc_0)))) (Nat.le_of_ble_eq_true rfl) (Nat.le_of_ble_eq_true rfl) (m_X3_tells h1 h2 h3 (by omega) (by decide)) ?_
    rintro I1 ⟨q1, q2, q3, q4, q5, q6⟩
    refine g_iload_n (pc := 128) dX3_scrub_128 rfl rfl ?_
    refine g_iret (pc := 129) dX3_scrub_129 rfl rfl ?_
    rw [if_pos (show left < dmN V f b by omega)]
    refine ⟨_, _, ⟨rfl, rfl⟩, rfl, q3, by rw [addC_com (by decide)]; exact q4, q1, fun i hi => by rw [q2 i]; exact lnS_ext h4 hi, h5, Sm.trans h6 (q5.mono (by decide)), Sc.trans h7 (q6.mono (by decide)), M, h8r.s (q5 128 (by decide))⟩
  rw [if_neg (show ¬ left < dmN V f b by omega)]
  refine g_aload_n (pc := 130) dX3_scrub_130 rfl rfl ?_
  refine g_getR (pc := 131) dX3_scrub_131 fl_X3_9 s_114 (by decide) rfl t_114_1 ?_
  refine g_bipush (v := nI 10) (pc := 134) dX3_scrub_134 rfl ?_
  refine g_iload (pc := 136) dX3_scrub_136 rfl ?_
  refine g_imulN (pc := 138) dX3_scrub_138 ?_
  refine g_bipush (v := nI 6) (pc := 139) dX3_scrub_139 rfl ?_
  refine g_iaddN (pc := 141) dX3_scrub_141 ?_
  refine g_iload (pc := 142) dX3_scrub_142 rfl ?_
  refine g_iaddN (pc := 144) dX3_scrub_144 ?_
  rw [show 10 * f + 6 + b = 10 * f + (6 + b) by omega]
  refine g_aload_n (pc := 145) dX3_scrub_145 rfl rfl ?_
  refine g_getR (pc := 146) dX3_scrub_146 fl_X3_9 s_114 (by decide) rfl t_114_1 ?_
  refine g_sipush (v := nI 800) (pc := 149) dX3_scrub_149 rfl ?_
  refine g_ialoadN (pc := 152) dX3_scrub_152 s_115 (by decide) (by omega) (by decide) (h1 _ (by omega)) ?_
  refine g_iastoreN (pc := 153) dX3_scrub_153 s_115 (by decide) (by omega) (by decide) ?_
  have hS1 : SI I0 (gUp I 115 (10 * f + (6 + b)) (nI (V 800))) bud (uV V (10 * f + (6 + b)) (V 800)) C left l Ls := ⟨h1.up, h2.lo (by omega), gUp_a (by decide) h3, fun i hi => gUp_a (by decide) (h4 i hi), h5, Sm.up (by decide) h6, Sc.un (by decide) h7, M, h8r.s (gUp_ne (by decide))⟩
  have hd1 : dM V f b (gUp I 115 (10 * f + (6 + b)) (nI (V 800))) := ⟨gUp_a (by decide) hd.1, gUp_a (by decide) hd.2.1, gUp_a (by decide) hd.2.2.1, fun w => ⟨gUp_a (by decide) (hd.2.2.2 w).1, gUp_a (by decide) (hd.2.2.2 w).2.1, fun i hi => gUp_a (by decide) ((hd.2.2.2 w).2.2 i hi)⟩⟩
  have hle : dmN V f b ≤ left := by omega
  refine g_aload_n (pc := 154) dX3_scrub_154 rfl rfl ?_
  refine g_iload (pc := 155) dX3_scrub_155 rfl ?_
  refine g_iload (pc := 157) dX3_scrub_157 rfl ?_
  refine g_iload (pc := 159) dX3_scrub_159 rfl ?_
  refine g_if_neB (tgt := 168) (pc := 161) dX3_scrub_161 (by decide) (fun c161 => ?_) (fun c161 => ?_)
  · refine g_iload (pc := 168) dX3_scrub_168 rfl ?_
    refine g_if_leN (tgt := 177) (pc := 170) dX3_scrub_170 (by decide) (by omega) (fun c170 => ?_) (fun c170 => ?_)
    · have ho : 0 = scO V f b := by unfold scO; rw [if_pos c161, if_neg (by omega)]
      refine g_iconst (v := nI 0) (pc := 177) dX3_scrub_177 rfl ?_
      exact l_X3_scrub3 hbud hW f1 f2 f3 hle ho hS1 hd1 hln kn
    · have ho : 1 = scO V f b := by unfold scO; rw [if_pos c161, if_pos (by omega)]
      refine g_iconst (v := nI 1) (pc := 173) dX3_scrub_173 rfl ?_
      refine g_goto (tgt := 178) (pc := 174) dX3_scrub_174 (by decide) ?_
      exact l_X3_scrub3 hbud hW f1 f2 f3 hle ho hS1 hd1 hln kn
  · have ho : 2 = scO V f b := by unfold scO; rw [if_neg c161]
    refine g_iconst (v := nI 2) (pc := 164) dX3_scrub_164 rfl ?_
    refine g_goto (tgt := 178) (pc := 165) dX3_scrub_165 (by decide) ?_
    exact l_X3_scrub3 hbud hW f1 f2 f3 hle ho hS1 hd1 hln kn
theorem l_X3_scrub {I0 : Nat → Nat → Int32} {bud : Nat} (hX : MX I0) (hbud : bud ≤ 200) : ∀ (k : Nat) (V : Nat → Nat) (C : Nat → Int32) (left l : Nat) (Ls : Nat → Int32) (J : Nat → Nat → Int32), dueN V ≤ k → WF V → l + dueN V ≤ 32 → SI I0 J bud V C left l Ls → gGo G YX3_scrub (d + 5) 46 [some (.ref 114), some (.int (nI bud)), some (.int (nI left)), some (.int (nxI V)), none, none, none, none, none] [] (hp n J L D) 0 0 (scQ G n I0 L D bud (scrF k (V, C, left, l, Ls))) := by
  intro k
  induction k with
  | zero =>
    intro V C left l Ls J hk hW hln hS
    have hx : ¬ (0 : Int32) ≤ nxI V := fun q => by
      obtain ⟨f, b, f1, f2, f3, f4, f5⟩ := nxI_ok q
      have hb4 := bl_le (hW.1 f f1)
      have := cnt_pos (p := due V) (i := 4 * f + b) (n := 32) (by omega) (by
        unfold due
        rw [show (4 * f + b) / 4 = f by omega, show (4 * f + b) % 4 = b by omega]
        exact decide_eq_true ⟨f2, f3, f5⟩)
      unfold dueN at hk
      omega
    refine g_iload_n (pc := 46) dX3_scrub_46 rfl rfl ?_
    refine g_if_lt (tgt := 257) (pc := 47) dX3_scrub_47 (by decide) (fun c47 => ?_) (fun c47 => ?_)
    rotate_left
    · exact absurd (Int32.le_iff_toInt_le.mpr (by rw [Int32.lt_iff_toInt_lt] at c47; omega)) hx
    refine g_iload_n (pc := 257) dX3_scrub_257 rfl rfl ?_
    refine g_iret (pc := 258) dX3_scrub_258 rfl rfl ?_
    refine ⟨_, _, ⟨rfl, rfl⟩, rfl, hS⟩
  | succ k ih =>
    intro V C left l Ls J hk hW hln hS
    have hlb := hS.2.2.2.2.1
    by_cases hgo : (0 : Int32) ≤ nxI V ∧ 0 < left
    · obtain ⟨f, b, f1, f2, f3, f4, f5⟩ := nxI_ok hgo.1
      have hbl := bl_le (hW.1 f f1)
      have hsz := sz_le (hW.1 f f1)
      have hb4 : b < 4 := by omega
      have hl := hgo.2
      rw [scrF_c hgo.1 hl f4 f1 hb4]
      have hdec := due_dec hW f1 f2 f3 f5
      have hcn : dcN V f b ≤ 14 := nS_le _ _
      have hen : ern V f b ≤ 14 := nS_le _ _
      have hxn : ¬ nxI V < 0 := fun q => by
        have := hgo.1
        rw [Int32.lt_iff_toInt_lt] at q
        rw [Int32.le_iff_toInt_le] at this
        omega
      refine g_iload_n (pc := 46) dX3_scrub_46 rfl rfl ?_
      refine g_if_lt (tgt := 257) (pc := 47) dX3_scrub_47 (by decide) (fun c47 => ?_) (fun c47 => ?_)
      · exact absurd c47 hxn
      refine g_iload_n (pc := 50) dX3_scrub_50 rfl rfl ?_
      refine g_if_leN (tgt := 257) (pc := 51) dX3_scrub_51 (by decide) (by omega) (fun c51 => ?_) (fun c51 => ?_)
      · omega
      rw [f4]
      refine g_iload_n (pc := 54) dX3_scrub_54 rfl rfl ?_
      refine g_bipush (v := nI 100) (pc := 55) dX3_scrub_55 rfl ?_
      refine g_idivN (pc := 57) dX3_scrub_57 (by omega) (by omega) (by omega) ?_
      rw [show (100 * f + b) / 100 = f by omega]
      refine g_istore (pc := 58) dX3_scrub_58 (Nat.le_of_ble_eq_true rfl) rfl ?_
      refine g_iload_n (pc := 60) dX3_scrub_60 rfl rfl ?_
      refine g_bipush (v := nI 100) (pc := 61) dX3_scrub_61 rfl ?_
      refine g_iremN (pc := 63) dX3_scrub_63 (by omega) (by omega) (by omega) ?_
      rw [show (100 * f + b) % 100 = b by omega]
      refine g_istore (pc := 64) dX3_scrub_64 (Nat.le_of_ble_eq_true rfl) rfl ?_
      refine g_iinc (pc := 66) dX3_scrub_66 (Nat.le_of_ble_eq_true rfl) rfl (nI_pm1 hl) rfl ?_
      refine g_aload_n (pc := 69) dX3_scrub_69 rfl rfl ?_
      refine g_getR (pc := 70) dX3_scrub_70 fl_X3_9 s_114 (by decide) rfl t_114_1 ?_
      refine g_sipush (v := nI 807) (pc := 73) dX3_scrub_73 rfl ?_
      refine g_dup2 (pc := 76) dX3_scrub_76 rfl rfl ?_
      refine g_iaload (pc := 77) dX3_scrub_77 s_115 (by decide) (vp_in_nI (by decide) (by decide)) ?_
      refine g_iconst (v := nI 1) (pc := 78) dX3_scrub_78 rfl ?_
      refine g_iadd (pc := 79) dX3_scrub_79 ?_
      refine g_iastore (pc := 80) dX3_scrub_80 s_115 (by decide) (vp_in_nI (by decide) (by decide)) ?_
      have hS1 := hS.k hl (y := J 115 (801 + 6) + nI 1) rfl
      have eC : gUp J 115 (nI 807).toNatClampNeg (J 115 (nI 807).toNatClampNeg + nI 1) = gUp J 115 (801 + 6) (J 115 (801 + 6) + nI 1) := rfl
      rw [eC]
      have hXJ : MX (gUp J 115 (801 + 6) (J 115 (801 + 6) + nI 1)) := ⟨hX.1.s hS1.2.2.2.2.2.1 (by decide) (by decide) (by decide), hS1.2.2.2.2.2.2.2⟩
      refine g_aload_n (pc := 81) dX3_scrub_81 rfl rfl ?_
      refine g_iload (pc := 82) dX3_scrub_82 rfl ?_
      refine g_iload (pc := 84) dX3_scrub_84 rfl ?_
      refine g_riV (av := [.int _, .int _]) (pc := 86) dX3_scrub_86 mt_X3_isDecoded_ lk_X3_202 im_X3_isDecoded_ se_X3_isDecoded_ np_X3_isDecoded_ s_114 (by decide) (by decide) rfl (gc_i (gc_i gc_0)) (Nat.le_of_ble_eq_true rfl) (Nat.le_of_ble_eq_true rfl) (m_X3_isDecoded_ hS1.1 hW hXJ f1 f2 f3) ?_
      rintro _ I1 ⟨rfl, k1, k2, k3, k4, k5, k6⟩
      have hS2 := hS1.dk k1
      refine g_istore (pc := 89) dX3_scrub_89 (Nat.le_of_ble_eq_true rfl) rfl ?_
      refine g_iload (pc := 91) dX3_scrub_91 rfl ?_
      refine g_if_eqB (tgt := 108) (pc := 93) dX3_scrub_93 (by decide) (fun c93 => ?_) (fun c93 => ?_)
      · have hm : 0 = dmN V f b := by unfold dmN; rw [if_neg c93]
        refine g_iconst (v := nI 0) (pc := 108) dX3_scrub_108 rfl ?_
        refine g_istore (pc := 109) dX3_scrub_109 (Nat.le_of_ble_eq_true rfl) rfl ?_
        exact l_X3_scrub2 hbud hW f1 f2 f3 hm (by omega) hS2 ⟨k2, k4, k5, k6⟩ (by omega) (fun K hK => ih _ _ _ _ _ K (by omega) (WF_sc hW f1 f2 f3) (by omega) hK)
      · have hm : dcN V f b + ern V f b = dmN V f b := by unfold dmN; rw [if_pos c93]
        refine g_aload_n (pc := 96) dX3_scrub_96 rfl rfl ?_
        refine g_getIV (pc := 97) dX3_scrub_97 fl_X3_184 s_114 (by decide) rfl (k6 c93).2.1 ?_
        refine g_aload_n (pc := 100) dX3_scrub_100 rfl rfl ?_
        refine g_getIV (pc := 101) dX3_scrub_101 fl_X3_178 s_114 (by decide) rfl k5 ?_
        refine g_iaddN (pc := 104) dX3_scrub_104 ?_
        refine g_goto (tgt := 109) (pc := 105) dX3_scrub_105 (by decide) ?_
        refine g_istore (pc := 109) dX3_scrub_109 (Nat.le_of_ble_eq_true rfl) rfl ?_
        exact l_X3_scrub2 hbud hW f1 f2 f3 hm (by omega) hS2 ⟨k2, k4, k5, k6⟩ (by omega) (fun K hK => ih _ _ _ _ _ K (by omega) (WF_sc hW f1 f2 f3) (by omega) hK)
    · have ef : scrF (k + 1) (V, C, left, l, Ls) = (V, C, left, l, Ls) := scrF_f (s := (V, C, left, l, Ls)) hgo
      rw [ef]
      refine g_iload_n (pc := 46) dX3_scrub_46 rfl rfl ?_
      refine g_if_lt (tgt := 257) (pc := 47) dX3_scrub_47 (by decide) (fun c47 => ?_) (fun c47 => ?_)
      · refine g_iload_n (pc := 257) dX3_scrub_257 rfl rfl ?_
        refine g_iret (pc := 258) dX3_scrub_258 rfl rfl ?_
        exact ⟨_, _, ⟨rfl, rfl⟩, rfl, hS⟩
      · refine g_iload_n (pc := 50) dX3_scrub_50 rfl rfl ?_
        refine g_if_leN (tgt := 257) (pc := 51) dX3_scrub_51 (by decide) (by omega) (fun c51 => ?_) (fun c51 => ?_)
        · refine g_iload_n (pc := 257) dX3_scrub_257 rfl rfl ?_
          refine g_iret (pc := 258) dX3_scrub_258 rfl rfl ?_
          exact ⟨_, _, ⟨rfl, rfl⟩, rfl, hS⟩
        · exact absurd ⟨Int32.le_iff_toInt_le.mpr (by rw [Int32.lt_iff_toInt_lt] at c47; omega), by omega⟩ hgo
theorem due_le (V : Nat → Nat) : dueN V ≤ 32 := cnt_le _ _
/-- the whole of scrubbing -/
noncomputable def scF (V : Nat → Nat) (C : Nat → Int32) (bud : Nat) : scT := scrF 32 (V, C, bud, 0, fun _ => 0)
theorem m_X3_scrub_1 {x : Int32} (h : ¬ (nI 0 ≤ x ∧ x ≤ nI 200)) : gFn G YX3_scrub (d + 5) [.ref 114, .int x] (hp n I L D) (.inl (some (.int (nI 0)))) (hp n (gUp I 114 0 (nI 1)) L D) 0 0 := by
  refine g_aload_n (pc := 0) dX3_scrub_0 rfl rfl ?_
  refine g_iload_n (pc := 1) dX3_scrub_1 rfl rfl ?_
  refine g_iconst (v := nI 0) (pc := 2) dX3_scrub_2 rfl ?_
  refine g_sipush (v := nI 200) (pc := 3) dX3_scrub_3 rfl ?_
  refine g_fS (av := [.int _, .int _, .int _]) (pc := 6) dX3_scrub_6 mt_X3_isIn lk_X3_73 sf_X3_isIn np_X3_isIn rfl (gc_i (gc_i (gc_i gc_0))) (Nat.le_of_ble_eq_true rfl) (Nat.le_of_ble_eq_true rfl) ⟨Nat.zero_le _, Nat.zero_le _⟩ (m_X3_isIn) ?_
  refine g_if_eqB (tgt := 16) (pc := 9) dX3_scrub_9 (by decide) (fun c9 => ?_) (fun c9 => ?_)
  · refine g_iconst (v := nI 1) (pc := 16) dX3_scrub_16 rfl ?_
    refine g_putI (pc := 17) dX3_scrub_17 fl_X3_67 s_114 (by decide) rfl rfl rfl rfl ?_
    refine g_aload_n (pc := 20) dX3_scrub_20 rfl rfl ?_
    refine g_getIV (pc := 21) dX3_scrub_21 fl_X3_67 s_114 (by decide) rfl (show _ = nI 1 from rfl) ?_
    refine g_iconst (v := nI 1) (pc := 24) dX3_scrub_24 rfl ?_
    refine g_icmp_neN (tgt := 30) (pc := 25) dX3_scrub_25 (by decide) (by omega) (by omega) (fun c25 => ?_) (fun c25 => ?_)
    · exact absurd c25 (by decide)
    · refine g_iconst (v := nI 0) (pc := 28) dX3_scrub_28 rfl ?_
      refine g_iret (pc := 29) dX3_scrub_29 rfl rfl ?_
      first | exact ⟨rfl, rfl⟩ | exact ⟨by rw [bI_t (by first | assumption | omega)], rfl⟩ | exact ⟨by rw [bI_f (by first | assumption | omega)], rfl⟩
  · exact absurd c9 h
theorem m_X3_scrub_0 {C : Nat → Int32} {H : hT} {m bud : Nat} (hM : Md I V C H m) (hW : WF V) (hX : MX I) (hb : bud ≤ 200) : gRi G YX3_scrub (d + 5) [.ref 114, .int (nI bud)] n I L D (fun v J => v = nI (scF V C bud).2.2.1 ∧ J 114 0 = nI 0 ∧ Md J (scF V C bud).1 (addC (scF V C bud).2.1 6 (nI (bud - (scF V C bud).2.2.1))) (push H m (V, C)) (pm m) ∧ J 114 10 = nI (scF V C bud).2.2.2.1 ∧ (∀ i, i < 4 * (scF V C bud).2.2.2.1 → J 119 i = (scF V C bud).2.2.2.2 i) ∧ MC [114, 115, 117, 119, 124, 125, 126, 127, 128, 129] [0, 4, 10, 23, 24, 25, 26, 27, 28] I J) := by
  have hV := hM.1.1
  refine g_aload_n (pc := 0) dX3_scrub_0 rfl rfl ?_
  refine g_iload_n (pc := 1) dX3_scrub_1 rfl rfl ?_
  refine g_iconst (v := nI 0) (pc := 2) dX3_scrub_2 rfl ?_
  refine g_sipush (v := nI 200) (pc := 3) dX3_scrub_3 rfl ?_
  refine g_fS (av := [.int _, .int _, .int _]) (pc := 6) dX3_scrub_6 mt_X3_isIn lk_X3_73 sf_X3_isIn np_X3_isIn rfl (gc_i (gc_i (gc_i gc_0))) (Nat.le_of_ble_eq_true rfl) (Nat.le_of_ble_eq_true rfl) ⟨Nat.zero_le _, Nat.zero_le _⟩ (m_X3_isInN (by omega) (by decide) (by decide)) ?_
  refine g_if_eqB (tgt := 16) (pc := 9) dX3_scrub_9 (by decide) (fun c9 => ?_) (fun c9 => ?_)
  · exact absurd ⟨Nat.zero_le _, hb⟩ c9
  refine g_iconst (v := nI 0) (pc := 12) dX3_scrub_12 rfl ?_
  refine g_goto (tgt := 17) (pc := 13) dX3_scrub_13 (by decide) ?_
  refine g_putI (pc := 17) dX3_scrub_17 fl_X3_67 s_114 (by decide) rfl rfl rfl rfl ?_
  refine g_aload_n (pc := 20) dX3_scrub_20 rfl rfl ?_
  refine g_getIV (pc := 21) dX3_scrub_21 fl_X3_67 s_114 (by decide) rfl (show _ = nI 0 from rfl) ?_
  refine g_iconst (v := nI 1) (pc := 24) dX3_scrub_24 rfl ?_
  refine g_icmp_neN (tgt := 30) (pc := 25) dX3_scrub_25 (by decide) (by omega) (by omega) (fun c25 => ?_) (fun c25 => ?_)
  rotate_left
  · exact absurd c25 (by decide)
  refine g_aload_n (pc := 30) dX3_scrub_30 rfl rfl ?_
  refine g_rvV (av := []) (pc := 31) dX3_scrub_31 mt_X3_keeps lk_X3_130 im_X3_keeps se_X3_keeps np_X3_keeps s_114 (by decide) (by decide) rfl gc_0 (Nat.le_of_ble_eq_true rfl) (Nat.le_of_ble_eq_true rfl) (m_X3_keeps (H := H) (m := m) (C := C) hM.2.2.1 (by rw [gUp_c, if_neg (by decide)]; exact hM.2.1) (hM.2.2.2.s (gUp_ne (by decide))) hV.f (hM.1.2.o (by decide))) ?_
  rintro I1 ⟨k1, k2, k3, k4⟩
  have hV1 : Vok I1 V := Vok.s (hV.f (j := 0) (x := nI 0)) k1 (by decide)
  have hC1 : Cok I1 C := Cok.s (Cok.o (a := 114) (j := 0) (x := nI 0) (by decide) hM.1.2) k1 (by decide)
  refine g_aload_n (pc := 34) dX3_scrub_34 rfl rfl ?_
  refine g_iconst (v := nI 0) (pc := 35) dX3_scrub_35 rfl ?_
  refine g_putI (pc := 36) dX3_scrub_36 fl_X3_216 s_114 (by decide) rfl rfl rfl rfl ?_
  refine g_iload_n (pc := 39) dX3_scrub_39 rfl rfl ?_
  refine g_istore_n (pc := 40) dX3_scrub_40 rfl (Nat.le_of_ble_eq_true rfl) rfl ?_
  refine g_aload_n (pc := 41) dX3_scrub_41 rfl rfl ?_
  refine g_fV (av := []) (pc := 42) dX3_scrub_42 mt_X3_next lk_X3_219 im_X3_next se_X3_next np_X3_next s_114 (by decide) (by decide) rfl gc_0 (Nat.le_of_ble_eq_true rfl) (Nat.le_of_ble_eq_true rfl) ⟨Nat.zero_le _, Nat.zero_le _⟩ (m_X3_next hV1.f hW) ?_
  refine g_istore_n (pc := 45) dX3_scrub_45 rfl (Nat.le_of_ble_eq_true rfl) rfl ?_
  have hX2 : MX (gUp I1 114 10 (nI 0)) := MX.no ⟨hX.no.1.s k1 (by decide) (by decide) (by decide), by
    obtain ⟨M, hR⟩ := hX.2
    exact ⟨M, hR.s ((k1 128 (by decide)).trans (gUp_ne (by decide)))⟩⟩
  refine g_imp ?_ (l_X3_scrub (I0 := gUp I1 114 10 (nI 0)) hX2 hb 32 V C bud 0 (fun _ => 0) _ (due_le V) hW (by have := due_le V; omega) ⟨hV1.f, by rw [Nat.sub_self, addC_0]; exact hC1.o (by decide), by rw [gUp_c, if_pos rfl], fun i hi => absurd hi (Nat.not_lt_zero i), Nat.le_refl _, Sm.rfl, Sc.rfl, hX2.2⟩)
  rintro o g ⟨v, J, e, hv, s1, s2, s3, s4, s5, s6, s7, s8⟩
  refine ⟨v, J, e, hv, ?_, ⟨⟨s1, s2⟩, ?_, (pm_le hM.2.2.1).1, k4.s ((s6 117 (by decide)).trans (gUp_ne (by decide)))⟩, s3, s4, ?_, ?_, s8⟩
  · rw [s7 0 (by decide), gUp_c, if_neg (by decide), k2 0 (by decide), gUp_c, if_pos rfl]
  · rw [s7 4 (by decide), gUp_c, if_neg (by decide)]; exact k3
  · exact Sm.trans (Sm.up (by decide) Sm.rfl) (Sm.trans (k1.mono (by decide)) (Sm.trans (Sm.up (by decide) Sm.rfl) (s6.mono (by decide))))
  · exact Sc.trans (Sc.up (by decide) Sc.rfl) (Sc.trans (k2.mono (by decide)) (Sc.trans (Sc.up (by decide) Sc.rfl) (s7.mono (by decide))))
end

