/-! ===== the class scrubs ===== -/
def SCr (I J : Nat → Nat → Int32) (V : Nat → Nat) (C : Nat → Int32) (l : Nat) (Ls : Nat → Int32) : Prop := Snap J 4 V C ∧ J 3 8 = nI l ∧ (∀ i, i < 4 * l → J 40 i = Ls i) ∧ Sm [3, 5, 6, 7, 8, 15, 29, 30, 31, 32, 33, 34, 35, 36, 37, 40] I J ∧ Sc 3 [8] I J
/-- where a round of scrubbing ends -/
def SCe (G : gG) (d n : Nat) (I : Nat → Nat → Int32) (L : Nat → Nat → Int64) (D : Nat → Nat → UInt64) (bud : Nat) (Q : gQ) (s : scT) : Prop := ∀ J, WF s.1 → SCr I J s.1 s.2.1 s.2.2.2.1 s.2.2.2.2 → s.2.2.1 ≤ bud → s.2.2.2.1 ≤ 32 → gGo G YX2_scrub (d + 9) 130 [some (.ref 3), some (.int (nI bud)), some (.int (nI s.2.2.1)), none, none, none, none] [] (hp n J L D) 1 6 Q
section
variable {G : gG} {d n : Nat} {I : Nat → Nat → Int32} {L : Nat → Nat → Int64} {D : Nat → Nat → UInt64} {V : Nat → Nat}
variable {C : Nat → Int32} {H : hT} {m o : Nat}
theorem l_X2_scE {Q : gQ} {I0 : Nat → Nat → Int32} {bud left l t : Nat} {Ls : Nat → Int32} {x5 x6 : Option Value} (hb : bud ≤ 200) (hl : left ≤ bud) (ht : t < 32) (hW : WF V) (hS : SCr I0 I V C l Ls) (hl2 : l ≤ 32) (kx : SCe G d n I0 L D bud Q (V, C, left, l, Ls)) : gGo G YX2_scrub (d + 9) 124 [some (.ref 3), some (.int (nI bud)), some (.int (nI left)), some (.int (nI 1)), some (.int (nI t)), x5, x6] [] (hp n I L D) 1 6 Q := by
  have kx2 := kx I hW hS hl hl2
  refine g_iincN (pc := 124) dX2_scrub_124 (Nat.le_of_ble_eq_true rfl) rfl rfl ?_
  refine g_goto (tgt := 38) (pc := 127) dX2_scrub_127 (by decide) ?_
  refine g_iload (pc := 38) dX2_scrub_38 rfl ?_
  refine g_bipush (v := nI 32) (pc := 40) dX2_scrub_40 rfl ?_
  refine g_icmp_geN (tgt := 130) (pc := 42) dX2_scrub_42 (by decide) (by omega) (by omega) (fun c42 => ?_) (fun c42 => ?_)
  · refine g_fg 3 (g_fg 4 (g_fg 5 (g_fg 6 ?_)))
    exact kx2
  · refine g_iload_n (pc := 45) dX2_scrub_45 rfl rfl ?_
    refine g_if_leN (tgt := 130) (pc := 46) dX2_scrub_46 (by decide) (by omega) (fun c46 => ?_) (fun c46 => ?_)
    · refine g_fg 3 (g_fg 4 (g_fg 5 (g_fg 6 ?_)))
      exact kx2
    · refine g_iload_n (pc := 49) dX2_scrub_49 rfl rfl ?_
      refine g_if_ne (tgt := 130) (pc := 50) dX2_scrub_50 (by decide) (fun c50 => ?_) (fun c50 => ?_)
      · refine g_fg 3 (g_fg 4 (g_fg 5 (g_fg 6 ?_)))
        exact kx2
      · exact absurd c50 (by decide)
theorem l_X2_scP {Q : gQ} {I0 : Nat → Nat → Int32} {bud f b left l k : Nat} {Ls : Nat → Int32} (hK : Kt I0) (hb : bud ≤ 200) (hk : k + 1 ≤ 32) (hlk : l + (k + 1) ≤ 32) (hW : WF V) (hS : SCr I0 I V C l Ls) (hle : left ≤ bud) (h0 : 0 < left) (hf : f < 8) (h1 : V (10 * f) = 1) (hb1 : b < bl V f) (hpp : left - 1 < dmN V f b) (kx : SCe G d n I0 L D bud Q (V, addC C 3 (nI 1), left - 1, l + 1, lnS l f b 3 (dmN V f b) Ls)) : gGo G YX2_scrub (d + 9) 87 [some (.ref 3), some (.int (nI bud)), some (.int (nI (left - 1))), some (.int (nI 0)), some (.int (nI (32 - (k + 1)))), some (.int (nI (100 * f + b))), none] [.int (nI (left - 1)), .int (nI b), .int (nI f), .ref 3] (hp n I L D) 1 6 Q := by
  obtain ⟨s1, s2, s3, s4, s5⟩ := id hS
  have hKJ : Kt I := hK.s s4 (by decide) (by decide)
  refine g_riV (av := [.int _, .int _, .int _]) (pc := 87) dX2_scrub_87 mt_X2_scrubBlock lk_X2_265 im_X2_scrubBlock se_X2_scrubBlock np_X2_scrubBlock s_3 (by decide) (by decide) rfl (gc_i (gc_i (gc_i gc_0))) (Nat.le_of_ble_eq_true rfl) (Nat.le_of_ble_eq_true rfl) (gRi_deep (by omega) (m_X2_sb_p (d := d) hKJ s1 hW hf h1 hb1 s2 (by omega) hpp (by omega))) ?_
  rintro _ I1 ⟨rfl, r1, r2, r3, r4, r5, r6⟩
  refine g_istore (pc := 90) dX2_scrub_90 (Nat.le_of_ble_eq_true rfl) rfl ?_
  refine g_iload_n (pc := 92) dX2_scrub_92 rfl rfl ?_
  refine g_iload (pc := 93) dX2_scrub_93 rfl ?_
  refine g_iconst (v := nI 1) (pc := 95) dX2_scrub_95 rfl ?_
  refine g_icmp_neN (tgt := 109) (pc := 96) dX2_scrub_96 (by decide) (by omega) (by omega) (fun c96 => ?_) (fun c96 => ?_)
  rotate_left
  · exact absurd c96 (by decide)
  refine g_iconst (v := nI 0) (pc := 109) dX2_scrub_109 rfl ?_
  refine g_isubN (pc := 110) dX2_scrub_110 (by omega) ?_
  refine g_istore_n (pc := 111) dX2_scrub_111 rfl (Nat.le_of_ble_eq_true rfl) rfl ?_
  refine g_iload (pc := 112) dX2_scrub_112 rfl ?_
  refine g_iconst (v := nI 3) (pc := 114) dX2_scrub_114 rfl ?_
  refine g_icmp_neN (tgt := 122) (pc := 115) dX2_scrub_115 (by decide) (by omega) (by omega) (fun c115 => ?_) (fun c115 => ?_)
  · exact absurd c115 (by decide)
  refine g_iconst (v := nI 1) (pc := 118) dX2_scrub_118 rfl ?_
  refine g_goto (tgt := 123) (pc := 119) dX2_scrub_119 (by decide) ?_
  refine g_istore_n (pc := 123) dX2_scrub_123 rfl (Nat.le_of_ble_eq_true rfl) rfl ?_
  refine l_X2_scE hb (by omega) (by omega) hW ⟨r1, r2, fun i hi => ?_, Sm.trans s4 r4, Sc.trans s5 r5⟩ (by omega) kx
  rw [r3 i]
  exact lnS_ext (l := l) s3 hi
theorem l_X2_scC {Q : gQ} {I0 : Nat → Nat → Int32} {bud f b left l k : Nat} {Ls : Nat → Int32} (hK : Kt I0) (hb : bud ≤ 200) (hk : k + 1 ≤ 32) (hlk : l + (k + 1) ≤ 32) (hW : WF V) (hS : SCr I0 I V C l Ls) (hle : left ≤ bud) (h0 : 0 < left) (hf : f < 8) (h1 : V (10 * f) = 1) (hb1 : b < bl V f) (hd : isD V f b = true) (hz : dmN V f b = 0) (kn : ∀ J, SCr I0 J (scV V f b) (scC V C f b) (l + 1) (lnS l f b (scO V f b) (dmN V f b) Ls) → gGo G YX2_scrub (d + 9) 38 [some (.ref 3), some (.int (nI bud)), some (.int (nI (left - 1 - dmN V f b))), some (.int (nI 0)), some (.int (nI (32 - k))), none, none] [] (hp n J L D) 1 6 Q) : gGo G YX2_scrub (d + 9) 87 [some (.ref 3), some (.int (nI bud)), some (.int (nI (left - 1))), some (.int (nI 0)), some (.int (nI (32 - (k + 1)))), some (.int (nI (100 * f + b))), none] [.int (nI (left - 1)), .int (nI b), .int (nI f), .ref 3] (hp n I L D) 1 6 Q := by
  obtain ⟨s1, s2, s3, s4, s5⟩ := id hS
  have hKJ : Kt I := hK.s s4 (by decide) (by decide)
  have ek : 32 - (k + 1) + 1 = 32 - k := by omega
  have e1 : scO V f b = 0 := by unfold scO; rw [if_pos hd, if_neg (by omega)]
  have e2 : scV V f b = uV V (10 * f + (6 + b)) (V 800) := by unfold scV; rw [if_pos hz]
  have e3 : scC V C f b = addC C 0 (nI 1) := by unfold scC; rw [if_pos hz, e1]
  rw [e1, e2, e3] at kn
  refine g_riV (av := [.int _, .int _, .int _]) (pc := 87) dX2_scrub_87 mt_X2_scrubBlock lk_X2_265 im_X2_scrubBlock se_X2_scrubBlock np_X2_scrubBlock s_3 (by decide) (by decide) rfl (gc_i (gc_i (gc_i gc_0))) (Nat.le_of_ble_eq_true rfl) (Nat.le_of_ble_eq_true rfl) (gRi_deep (by omega) (m_X2_sb_c (d := d) hKJ s1 hW hf h1 hb1 s2 (by omega) hd hz)) ?_
  rintro _ I1 ⟨rfl, r1, r2, r3, r4, r5, r6⟩
  refine g_istore (pc := 90) dX2_scrub_90 (Nat.le_of_ble_eq_true rfl) rfl ?_
  refine g_iload_n (pc := 92) dX2_scrub_92 rfl rfl ?_
  refine g_iload (pc := 93) dX2_scrub_93 rfl ?_
  refine g_iconst (v := nI 1) (pc := 95) dX2_scrub_95 rfl ?_
  refine g_icmp_neN (tgt := 109) (pc := 96) dX2_scrub_96 (by decide) (by omega) (by omega) (fun c96 => ?_) (fun c96 => ?_)
  rotate_left
  · exact absurd c96 (by decide)
  refine g_iconst (v := nI 0) (pc := 109) dX2_scrub_109 rfl ?_
  refine g_isubN (pc := 110) dX2_scrub_110 (by omega) ?_
  rw [show left - 1 - 0 = left - 1 - dmN V f b by omega]
  refine g_istore_n (pc := 111) dX2_scrub_111 rfl (Nat.le_of_ble_eq_true rfl) rfl ?_
  refine g_iload (pc := 112) dX2_scrub_112 rfl ?_
  refine g_iconst (v := nI 3) (pc := 114) dX2_scrub_114 rfl ?_
  refine g_icmp_neN (tgt := 122) (pc := 115) dX2_scrub_115 (by decide) (by omega) (by omega) (fun c115 => ?_) (fun c115 => ?_)
  rotate_left
  · exact absurd c115 (by decide)
  refine g_iconst (v := nI 0) (pc := 122) dX2_scrub_122 rfl ?_
  refine g_istore_n (pc := 123) dX2_scrub_123 rfl (Nat.le_of_ble_eq_true rfl) rfl ?_
  refine g_iincN (pc := 124) dX2_scrub_124 (Nat.le_of_ble_eq_true rfl) rfl rfl ?_
  refine g_goto (tgt := 38) (pc := 127) dX2_scrub_127 (by decide) ?_
  rw [ek]
  refine g_fg 5 (g_fg 6 ?_)
  refine kn I1 ⟨r1, r2, fun i hi => ?_, Sm.trans s4 r4, Sc.trans s5 r5⟩
  rw [r3 i]
  exact lnS_ext (l := l) s3 hi
theorem l_X2_scL {Q : gQ} {I0 : Nat → Nat → Int32} {bud f b left l k : Nat} {Ls : Nat → Int32} (hK : Kt I0) (hb : bud ≤ 200) (hk : k + 1 ≤ 32) (hlk : l + (k + 1) ≤ 32) (hW : WF V) (hS : SCr I0 I V C l Ls) (hle : left ≤ bud) (h0 : 0 < left) (hf : f < 8) (h1 : V (10 * f) = 1) (hb1 : b < bl V f) (hd : ¬ isD V f b = true) (kn : ∀ J, SCr I0 J (scV V f b) (scC V C f b) (l + 1) (lnS l f b (scO V f b) (dmN V f b) Ls) → gGo G YX2_scrub (d + 9) 38 [some (.ref 3), some (.int (nI bud)), some (.int (nI (left - 1 - dmN V f b))), some (.int (nI 0)), some (.int (nI (32 - k))), none, none] [] (hp n J L D) 1 6 Q) : gGo G YX2_scrub (d + 9) 87 [some (.ref 3), some (.int (nI bud)), some (.int (nI (left - 1))), some (.int (nI 0)), some (.int (nI (32 - (k + 1)))), some (.int (nI (100 * f + b))), none] [.int (nI (left - 1)), .int (nI b), .int (nI f), .ref 3] (hp n I L D) 1 6 Q := by
  obtain ⟨s1, s2, s3, s4, s5⟩ := id hS
  have hKJ : Kt I := hK.s s4 (by decide) (by decide)
  have ek : 32 - (k + 1) + 1 = 32 - k := by omega
  have hz : dmN V f b = 0 := by unfold dmN; rw [if_neg hd]
  have e1 : scO V f b = 2 := by unfold scO; rw [if_neg hd]
  have e2 : scV V f b = uV V (10 * f + (6 + b)) (V 800) := by unfold scV; rw [if_pos hz]
  have e3 : scC V C f b = addC C 2 (nI 1) := by unfold scC; rw [if_pos hz, e1]
  rw [e1, e2, e3] at kn
  refine g_riV (av := [.int _, .int _, .int _]) (pc := 87) dX2_scrub_87 mt_X2_scrubBlock lk_X2_265 im_X2_scrubBlock se_X2_scrubBlock np_X2_scrubBlock s_3 (by decide) (by decide) rfl (gc_i (gc_i (gc_i gc_0))) (Nat.le_of_ble_eq_true rfl) (Nat.le_of_ble_eq_true rfl) (gRi_deep (by omega) (m_X2_sb_l (d := d) hKJ s1 hW hf h1 hb1 s2 (by omega) hd)) ?_
  rintro _ I1 ⟨rfl, r1, r2, r3, r4, r5, r6⟩
  refine g_istore (pc := 90) dX2_scrub_90 (Nat.le_of_ble_eq_true rfl) rfl ?_
  refine g_iload_n (pc := 92) dX2_scrub_92 rfl rfl ?_
  refine g_iload (pc := 93) dX2_scrub_93 rfl ?_
  refine g_iconst (v := nI 1) (pc := 95) dX2_scrub_95 rfl ?_
  refine g_icmp_neN (tgt := 109) (pc := 96) dX2_scrub_96 (by decide) (by omega) (by omega) (fun c96 => ?_) (fun c96 => ?_)
  rotate_left
  · exact absurd c96 (by decide)
  refine g_iconst (v := nI 0) (pc := 109) dX2_scrub_109 rfl ?_
  refine g_isubN (pc := 110) dX2_scrub_110 (by omega) ?_
  rw [show left - 1 - 0 = left - 1 - dmN V f b by omega]
  refine g_istore_n (pc := 111) dX2_scrub_111 rfl (Nat.le_of_ble_eq_true rfl) rfl ?_
  refine g_iload (pc := 112) dX2_scrub_112 rfl ?_
  refine g_iconst (v := nI 3) (pc := 114) dX2_scrub_114 rfl ?_
  refine g_icmp_neN (tgt := 122) (pc := 115) dX2_scrub_115 (by decide) (by omega) (by omega) (fun c115 => ?_) (fun c115 => ?_)
  rotate_left
  · exact absurd c115 (by decide)
  refine g_iconst (v := nI 0) (pc := 122) dX2_scrub_122 rfl ?_
  refine g_istore_n (pc := 123) dX2_scrub_123 rfl (Nat.le_of_ble_eq_true rfl) rfl ?_
  refine g_iincN (pc := 124) dX2_scrub_124 (Nat.le_of_ble_eq_true rfl) rfl rfl ?_
  refine g_goto (tgt := 38) (pc := 127) dX2_scrub_127 (by decide) ?_
  rw [ek]
  refine g_fg 5 (g_fg 6 ?_)
  refine kn I1 ⟨r1, r2, fun i hi => ?_, Sm.trans s4 r4, Sc.trans s5 r5⟩
  rw [r3 i]
  exact lnS_ext (l := l) s3 hi
theorem l_X2_scR {Q : gQ} {I0 : Nat → Nat → Int32} {bud f b left l k : Nat} {Ls : Nat → Int32} (hK : Kt I0) (hb : bud ≤ 200) (hk : k + 1 ≤ 32) (hlk : l + (k + 1) ≤ 32) (hW : WF V) (hS : SCr I0 I V C l Ls) (hle : left ≤ bud) (h0 : 0 < left) (hf : f < 8) (h1 : V (10 * f) = 1) (hb1 : b < bl V f) (hpp : ¬ left - 1 < dmN V f b) (hd : isD V f b = true) (hz : ¬ dmN V f b = 0) (kn : ∀ J, SCr I0 J (scV V f b) (scC V C f b) (l + 1) (lnS l f b (scO V f b) (dmN V f b) Ls) → gGo G YX2_scrub (d + 9) 38 [some (.ref 3), some (.int (nI bud)), some (.int (nI (left - 1 - dmN V f b))), some (.int (nI 0)), some (.int (nI (32 - k))), none, none] [] (hp n J L D) 1 6 Q) : gGo G YX2_scrub (d + 9) 87 [some (.ref 3), some (.int (nI bud)), some (.int (nI (left - 1))), some (.int (nI 0)), some (.int (nI (32 - (k + 1)))), some (.int (nI (100 * f + b))), none] [.int (nI (left - 1)), .int (nI b), .int (nI f), .ref 3] (hp n I L D) 1 6 Q := by
  obtain ⟨s1, s2, s3, s4, s5⟩ := id hS
  have hKJ : Kt I := hK.s s4 (by decide) (by decide)
  have ek : 32 - (k + 1) + 1 = 32 - k := by omega
  have hb4 : b < 4 := Nat.lt_of_lt_of_le hb1 (bl_le (hW.1 f hf))
  have hd6 : dmN V f b ≤ 6 := dd_le (hW.1 f hf)
  have e1 : scO V f b = 1 := by unfold scO; rw [if_pos hd, if_pos (by omega)]
  have e2 : scV V f b = uV (meV V V f b) (10 * f + (6 + b)) (V 800) := by
    unfold scV
    rw [if_neg hz]
    unfold meV
    exact mnV_uV (hW.1 f hf) h1 hb1 hf hb4 _ (Nat.le_refl _)
  have e3 : scC V C f b = addC (addC (addC (addC C 7 (nI (dmN V f b))) 4 (nI (dcN V f b))) 5 (nI (ern V f b))) 1 (nI 1) := by
    unfold scC
    rw [if_neg hz, e1, addC_com (k := 1) (l := 7) (by decide), addC_com (k := 1) (l := 4) (by decide), addC_com (k := 1) (l := 5) (by decide)]
  rw [e1, e2, e3] at kn
  refine g_riV (av := [.int _, .int _, .int _]) (pc := 87) dX2_scrub_87 mt_X2_scrubBlock lk_X2_265 im_X2_scrubBlock se_X2_scrubBlock np_X2_scrubBlock s_3 (by decide) (by decide) rfl (gc_i (gc_i (gc_i gc_0))) (Nat.le_of_ble_eq_true rfl) (Nat.le_of_ble_eq_true rfl) (gRi_deep (by omega) (m_X2_sb_r (d := d) hKJ s1 hW hf h1 hb1 s2 (by omega) hd (by omega) (by omega) (by omega))) ?_
  rintro _ I1 ⟨rfl, r1, r2, r3, r4, r5, r6⟩
  refine g_istore (pc := 90) dX2_scrub_90 (Nat.le_of_ble_eq_true rfl) rfl ?_
  refine g_iload_n (pc := 92) dX2_scrub_92 rfl rfl ?_
  refine g_iload (pc := 93) dX2_scrub_93 rfl ?_
  refine g_iconst (v := nI 1) (pc := 95) dX2_scrub_95 rfl ?_
  refine g_icmp_neN (tgt := 109) (pc := 96) dX2_scrub_96 (by decide) (by omega) (by omega) (fun c96 => ?_) (fun c96 => ?_)
  · exact absurd c96 (by decide)
  refine g_aload_n (pc := 99) dX2_scrub_99 rfl rfl ?_
  refine g_getR (pc := 100) dX2_scrub_100 fl_X2_26 s_3 (by decide) rfl t_3_3 ?_
  refine g_fV (av := []) (pc := 103) dX2_scrub_103 mt_X0_damageCount lk_X2_241 im_X0_damageCount se_X0_damageCount np_X0_damageCount s_29 (by decide) (by decide) rfl gc_0 (Nat.le_of_ble_eq_true rfl) (Nat.le_of_ble_eq_true rfl) ⟨Nat.zero_le _, Nat.zero_le _⟩ (m_X0_dm r6 (sz_le (hW.1 f hf)).1) ?_
  refine g_goto (tgt := 110) (pc := 106) dX2_scrub_106 (by decide) ?_
  refine g_isubN (pc := 110) dX2_scrub_110 (by omega) ?_
  refine g_istore_n (pc := 111) dX2_scrub_111 rfl (Nat.le_of_ble_eq_true rfl) rfl ?_
  refine g_iload (pc := 112) dX2_scrub_112 rfl ?_
  refine g_iconst (v := nI 3) (pc := 114) dX2_scrub_114 rfl ?_
  refine g_icmp_neN (tgt := 122) (pc := 115) dX2_scrub_115 (by decide) (by omega) (by omega) (fun c115 => ?_) (fun c115 => ?_)
  rotate_left
  · exact absurd c115 (by decide)
  refine g_iconst (v := nI 0) (pc := 122) dX2_scrub_122 rfl ?_
  refine g_istore_n (pc := 123) dX2_scrub_123 rfl (Nat.le_of_ble_eq_true rfl) rfl ?_
  refine g_iincN (pc := 124) dX2_scrub_124 (Nat.le_of_ble_eq_true rfl) rfl rfl ?_
  refine g_goto (tgt := 38) (pc := 127) dX2_scrub_127 (by decide) ?_
  rw [ek]
  refine g_fg 5 (g_fg 6 ?_)
  refine kn I1 ⟨r1, r2, fun i hi => ?_, Sm.trans s4 r4, Sc.trans s5 r5⟩
  rw [r3 i]
  exact lnS_ext (l := l) s3 hi
theorem l_X2_scN {Q : gQ} {I0 : Nat → Nat → Int32} {bud f b left l k : Nat} {Ls : Nat → Int32} (hK : Kt I0) (hb : bud ≤ 200) (hk : k + 1 ≤ 32) (hlk : l + (k + 1) ≤ 32) (hW : WF V) (hS : SCr I0 I V C l Ls) (hle : left ≤ bud) (h0 : 0 < left) (hf : f < 8) (h1 : V (10 * f) = 1) (hb1 : b < bl V f) (hdue : nxI V = nI (100 * f + b)) (kn : gGo G YX2_scrub (d + 9) 87 [some (.ref 3), some (.int (nI bud)), some (.int (nI (left - 1))), some (.int (nI 0)), some (.int (nI (32 - (k + 1)))), some (.int (nI (100 * f + b))), none] [.int (nI (left - 1)), .int (nI b), .int (nI f), .ref 3] (hp n I L D) 1 6 Q) : gGo G YX2_scrub (d + 9) 38 [some (.ref 3), some (.int (nI bud)), some (.int (nI left)), some (.int (nI 0)), some (.int (nI (32 - (k + 1)))), none, none] [] (hp n I L D) 1 6 Q := by
  have hb4 : b < 4 := Nat.lt_of_lt_of_le hb1 (bl_le (hW.1 f hf))
  have q1 : (100 * f + b) / 100 = f := by omega
  have q2 : (100 * f + b) % 100 = b := by omega
  refine g_iload (pc := 38) dX2_scrub_38 rfl ?_
  refine g_bipush (v := nI 32) (pc := 40) dX2_scrub_40 rfl ?_
  refine g_icmp_geN (tgt := 130) (pc := 42) dX2_scrub_42 (by decide) (by omega) (by omega) (fun c42 => ?_) (fun c42 => ?_)
  · omega
  refine g_iload_n (pc := 45) dX2_scrub_45 rfl rfl ?_
  refine g_if_leN (tgt := 130) (pc := 46) dX2_scrub_46 (by decide) (by omega) (fun c46 => ?_) (fun c46 => ?_)
  · omega
  refine g_iload_n (pc := 49) dX2_scrub_49 rfl rfl ?_
  refine g_if_ne (tgt := 130) (pc := 50) dX2_scrub_50 (by decide) (fun c50 => ?_) (fun c50 => ?_)
  · exact absurd rfl c50
  refine g_aload_n (pc := 53) dX2_scrub_53 rfl rfl ?_
  refine g_getR (pc := 54) dX2_scrub_54 fl_X2_12 s_3 (by decide) rfl t_3_0 ?_
  refine g_fV (av := []) (pc := 57) dX2_scrub_57 mt_X1_blockToCheck lk_X2_262 im_X1_blockToCheck se_X1_blockToCheck np_X1_blockToCheck s_4 (by decide) (by decide) rfl gc_0 (Nat.le_of_ble_eq_true rfl) (Nat.le_of_ble_eq_true rfl) ⟨Nat.zero_le _, Nat.zero_le _⟩ (m_X1_blockToCheck hS.1 hW) ?_
  rw [hdue]
  refine g_istore (pc := 60) dX2_scrub_60 (Nat.le_of_ble_eq_true rfl) rfl ?_
  refine g_iload (pc := 62) dX2_scrub_62 rfl ?_
  refine g_if_geN (tgt := 72) (pc := 64) dX2_scrub_64 (by decide) (by omega) (fun c64 => ?_) (fun c64 => ?_)
  rotate_left
  · omega
  refine g_iinc (pc := 72) dX2_scrub_72 (Nat.le_of_ble_eq_true rfl) rfl (nI_pm1 (show 1 ≤ left by omega)) rfl ?_
  refine g_aload_n (pc := 75) dX2_scrub_75 rfl rfl ?_
  refine g_iload (pc := 76) dX2_scrub_76 rfl ?_
  refine g_bipush (v := nI 100) (pc := 78) dX2_scrub_78 rfl ?_
  refine g_idivN (pc := 80) dX2_scrub_80 (by omega) (by omega) (by omega) ?_
  rw [q1]
  refine g_iload (pc := 81) dX2_scrub_81 rfl ?_
  refine g_bipush (v := nI 100) (pc := 83) dX2_scrub_83 rfl ?_
  refine g_iremN (pc := 85) dX2_scrub_85 (by omega) (by omega) (by omega) ?_
  rw [q2]
  refine g_iload_n (pc := 86) dX2_scrub_86 rfl rfl ?_
  exact kn
theorem l_X2_scZ {Q : gQ} {I0 : Nat → Nat → Int32} {bud left l k : Nat} {Ls : Nat → Int32} (hb : bud ≤ 200) (hk : k + 1 ≤ 32) (hlk : l + (k + 1) ≤ 32) (hW : WF V) (hS : SCr I0 I V C l Ls) (hle : left ≤ bud) (h0 : ¬ ((0 : Int32) ≤ nxI V ∧ 0 < left)) (kx : SCe G d n I0 L D bud Q (V, C, left, l, Ls)) : gGo G YX2_scrub (d + 9) 38 [some (.ref 3), some (.int (nI bud)), some (.int (nI left)), some (.int (nI 0)), some (.int (nI (32 - (k + 1)))), none, none] [] (hp n I L D) 1 6 Q := by
  have kx2 := kx I hW hS hle (by show l ≤ 32; omega)
  by_cases hl0 : 0 < left
  · have hn : ¬ (0 : Int32) ≤ nxI V := fun q => h0 ⟨q, hl0⟩
    refine g_iload (pc := 38) dX2_scrub_38 rfl ?_
    refine g_bipush (v := nI 32) (pc := 40) dX2_scrub_40 rfl ?_
    refine g_icmp_geN (tgt := 130) (pc := 42) dX2_scrub_42 (by decide) (by omega) (by omega) (fun c42 => ?_) (fun c42 => ?_)
    · omega
    refine g_iload_n (pc := 45) dX2_scrub_45 rfl rfl ?_
    refine g_if_leN (tgt := 130) (pc := 46) dX2_scrub_46 (by decide) (by omega) (fun c46 => ?_) (fun c46 => ?_)
    · omega
    refine g_iload_n (pc := 49) dX2_scrub_49 rfl rfl ?_
    refine g_if_ne (tgt := 130) (pc := 50) dX2_scrub_50 (by decide) (fun c50 => ?_) (fun c50 => ?_)
    · exact absurd rfl c50
    refine g_aload_n (pc := 53) dX2_scrub_53 rfl rfl ?_
    refine g_getR (pc := 54) dX2_scrub_54 fl_X2_12 s_3 (by decide) rfl t_3_0 ?_
    refine g_fV (av := []) (pc := 57) dX2_scrub_57 mt_X1_blockToCheck lk_X2_262 im_X1_blockToCheck se_X1_blockToCheck np_X1_blockToCheck s_4 (by decide) (by decide) rfl gc_0 (Nat.le_of_ble_eq_true rfl) (Nat.le_of_ble_eq_true rfl) ⟨Nat.zero_le _, Nat.zero_le _⟩ (m_X1_blockToCheck hS.1 hW) ?_
    refine g_istore (pc := 60) dX2_scrub_60 (Nat.le_of_ble_eq_true rfl) rfl ?_
    refine g_iload (pc := 62) dX2_scrub_62 rfl ?_
    refine g_if_ge (tgt := 72) (pc := 64) dX2_scrub_64 (by decide) (fun c64 => ?_) (fun c64 => ?_)
    · exact absurd c64 hn
    refine g_iconst (v := nI 1) (pc := 67) dX2_scrub_67 rfl ?_
    refine g_istore_n (pc := 68) dX2_scrub_68 rfl (Nat.le_of_ble_eq_true rfl) rfl ?_
    refine g_goto (tgt := 124) (pc := 69) dX2_scrub_69 (by decide) ?_
    exact l_X2_scE hb hle (by omega) hW hS (by omega) kx
  · skip
    refine g_iload (pc := 38) dX2_scrub_38 rfl ?_
    refine g_bipush (v := nI 32) (pc := 40) dX2_scrub_40 rfl ?_
    refine g_icmp_geN (tgt := 130) (pc := 42) dX2_scrub_42 (by decide) (by omega) (by omega) (fun c42 => ?_) (fun c42 => ?_)
    · omega
    refine g_iload_n (pc := 45) dX2_scrub_45 rfl rfl ?_
    refine g_if_leN (tgt := 130) (pc := 46) dX2_scrub_46 (by decide) (by omega) (fun c46 => ?_) (fun c46 => ?_)
    rotate_left
    · omega
    refine g_fg 3 (g_fg 4 ?_)
    exact kx2
theorem l_X2_scrub {Q : gQ} {I0 : Nat → Nat → Int32} {bud : Nat} (hK : Kt I0) (hb : bud ≤ 200) (k : Nat) : ∀ (V : Nat → Nat) (C : Nat → Int32) (left l : Nat) (Ls : Nat → Int32) (I : Nat → Nat → Int32), k ≤ 32 → l + k ≤ 32 → WF V → SCr I0 I V C l Ls → left ≤ bud → SCe G d n I0 L D bud Q (scrF k (V, C, left, l, Ls)) → gGo G YX2_scrub (d + 9) 38 [some (.ref 3), some (.int (nI bud)), some (.int (nI left)), some (.int (nI 0)), some (.int (nI (32 - k))), none, none] [] (hp n I L D) 1 6 Q := by
  induction k with
  | zero =>
    intro V C left l Ls I _ hlk hW hS hle kx
    have kx2 := kx I hW hS hle hlk
    refine g_iload (pc := 38) dX2_scrub_38 rfl ?_
    refine g_bipush (v := nI 32) (pc := 40) dX2_scrub_40 rfl ?_
    refine g_icmp_geN (tgt := 130) (pc := 42) dX2_scrub_42 (by decide) (by omega) (by omega) (fun c42 => ?_) (fun c42 => ?_)
    rotate_left
    · omega
    refine g_fg 3 (g_fg 4 ?_)
    exact kx2
  | succ k ih =>
    intro V C left l Ls I hk hlk hW hS hle kx
    by_cases h0 : (0 : Int32) ≤ nxI V ∧ 0 < left
    · obtain ⟨f, b, hf, h1, hb1, hx, hdue⟩ := nxI_ok h0.1
      have hb4 : b < 4 := Nat.lt_of_lt_of_le hb1 (bl_le (hW.1 f hf))
      have hstep := scrF_c (C := C) (left := left) (l := l) (Ls := Ls) (k := k) h0.1 h0.2 hx hf hb4
      rw [hstep] at kx
      refine l_X2_scN hK hb hk hlk hW hS hle h0.2 hf h1 hb1 hx ?_
      by_cases hpp : left - 1 < dmN V f b
      · rw [if_pos hpp] at kx
        exact l_X2_scP hK hb hk hlk hW hS hle h0.2 hf h1 hb1 hpp kx
      · rw [if_neg hpp] at kx
        have hWs := WF_sc hW hf h1 hb1
        have kn := fun J hJ => ih (scV V f b) (scC V C f b) (left - 1 - dmN V f b) (l + 1) (lnS l f b (scO V f b) (dmN V f b) Ls) J (by omega) (by omega) hWs hJ (by omega) kx
        by_cases hd : isD V f b = true
        · by_cases hz : dmN V f b = 0
          · exact l_X2_scC hK hb hk hlk hW hS hle h0.2 hf h1 hb1 hd hz kn
          · exact l_X2_scR hK hb hk hlk hW hS hle h0.2 hf h1 hb1 hpp hd hz kn
        · exact l_X2_scL hK hb hk hlk hW hS hle h0.2 hf h1 hb1 hd kn
    · rw [scrF_f (s := (V, C, left, l, Ls)) h0] at kx
      exact l_X2_scZ hb hk hlk hW hS hle h0 kx
theorem m_X2_scrub_1 {x : Int32} (h : ¬ (nI 0 ≤ x ∧ x ≤ nI 200)) : gX G YX2_scrub (d + 9) [.ref 3, .int x] n I L D (.inr "java/lang/IllegalArgumentException") (fun J => J = I) := by
  rw [Int32.le_iff_toInt_le, Int32.le_iff_toInt_le] at h
  have e0 : (nI 0).toInt = 0 := rfl
  have e00 : (0 : Int32).toInt = 0 := rfl
  refine g_iload_n (pc := 0) dX2_scrub_0 rfl rfl ?_
  refine g_if_lt (tgt := 11) (pc := 1) dX2_scrub_1 (by decide) (fun c1 => ?_) (fun c1 => ?_)
  · refine g_throw (pc := 11) th_X2_scrub_11 (Nat.le_of_ble_eq_true rfl) (Nat.le_of_ble_eq_true rfl) ?_
    exact ⟨_, ⟨rfl, rfl⟩, rfl⟩
  · refine g_iload_n (pc := 4) dX2_scrub_4 rfl rfl ?_
    refine g_sipush (v := nI 200) (pc := 5) dX2_scrub_5 rfl ?_
    refine g_icmp_le (tgt := 22) (pc := 8) dX2_scrub_8 (by decide) (fun c8 => ?_) (fun c8 => ?_)
    · rw [Int32.lt_iff_toInt_lt] at c1
      rw [Int32.le_iff_toInt_le] at c8
      exact absurd h (by omega)
    · refine g_throw (pc := 11) th_X2_scrub_11 (Nat.le_of_ble_eq_true rfl) (Nat.le_of_ble_eq_true rfl) ?_
      exact ⟨_, ⟨rfl, rfl⟩, rfl⟩
def Fsc (I J : Nat → Nat → Int32) : Prop := (∀ a, a < 3 ∨ (16 ≤ a ∧ a < 29) ∨ a = 39 ∨ 114 ≤ a → J a = I a) ∧ Sc 3 [8, 11, 12] I J
theorem m_X2_scrub_0 {bud : Nat} (hK : Kt I) (h : Cs I V C H m o) (hW : WF V) (hb : bud ≤ 200) : gX G YX2_scrub (d + 9) [.ref 3, .int (nI bud)] n I L D (.inl (some (.int (nI (scF V C bud).2.2.1)))) (fun J => (∃ o2, Cs J (scF V C bud).1 (addC (scF V C bud).2.1 6 (nI (bud - (scF V C bud).2.2.1))) (push H m (V, C)) (pm m) o2) ∧ WF (scF V C bud).1 ∧ J 3 8 = nI (scF V C bud).2.2.2.1 ∧ (scF V C bud).2.2.2.1 ≤ 32 ∧ (∀ i, i < 4 * (scF V C bud).2.2.2.1 → J 40 i = (scF V C bud).2.2.2.2 i) ∧ Fsc I J) := by
  refine g_iload_n (pc := 0) dX2_scrub_0 rfl rfl ?_
  refine g_if_ltN (tgt := 11) (pc := 1) dX2_scrub_1 (by decide) (by omega) (fun c1 => ?_) (fun c1 => ?_)
  · omega
  refine g_iload_n (pc := 4) dX2_scrub_4 rfl rfl ?_
  refine g_sipush (v := nI 200) (pc := 5) dX2_scrub_5 rfl ?_
  refine g_icmp_leN (tgt := 22) (pc := 8) dX2_scrub_8 (by decide) (by omega) (by omega) (fun c8 => ?_) (fun c8 => ?_)
  rotate_left
  · omega
  refine g_aload_n (pc := 22) dX2_scrub_22 rfl rfl ?_
  refine g_rvV (av := []) (pc := 23) dX2_scrub_23 mt_X2_remember lk_X2_101 im_X2_remember se_X2_remember np_X2_remember s_3 (by decide) (by decide) rfl gc_0 (Nat.le_of_ble_eq_true rfl) (Nat.le_of_ble_eq_true rfl) (m_X2_remember h hW) ?_
  rintro I1 ⟨⟨o2, hC1⟩, hR⟩
  refine g_aload_n (pc := 26) dX2_scrub_26 rfl rfl ?_
  refine g_iconst (v := nI 0) (pc := 27) dX2_scrub_27 rfl ?_
  refine g_putI (pc := 28) dX2_scrub_28 fl_X2_45 s_3 (by decide) rfl rfl rfl rfl ?_
  refine g_iload_n (pc := 31) dX2_scrub_31 rfl rfl ?_
  refine g_istore_n (pc := 32) dX2_scrub_32 rfl (Nat.le_of_ble_eq_true rfl) rfl ?_
  refine g_iconst (v := nI 0) (pc := 33) dX2_scrub_33 rfl ?_
  refine g_istore_n (pc := 34) dX2_scrub_34 rfl (Nat.le_of_ble_eq_true rfl) rfl ?_
  refine g_iconst (v := nI 0) (pc := 35) dX2_scrub_35 rfl ?_
  refine g_istore (pc := 36) dX2_scrub_36 (Nat.le_of_ble_eq_true rfl) rfl ?_
  refine l_X2_scrub (I0 := gUp I1 3 8 (nI 0)) (d := d) ?_ hb 32 V C bud 0 (fun _ => 0) _ (Nat.le_refl _) (by decide) hW ⟨Snap.s hC1.1 (fun i hi => gUp_ne (by omega)), by rw [gUp_c, if_pos rfl], fun i hi => absurd hi (Nat.not_lt_zero i), Sm.rfl, Sc.rfl⟩ (Nat.le_refl _) (fun J w1 w2 w3 w4 => ?_)
  · exact hK.e (by rw [gUp_ne (by decide), hR.1 1 (by omega)]) (by rw [gUp_ne (by decide), hR.1 2 (by omega)])
  · obtain ⟨r1, r2, r3, r4, r5⟩ := w2
    have hcv : ∀ z : scT, scF V C bud = z → scrF 32 (V, C, bud, 0, fun _ => 0) = z := fun z h => h
    change gGo G YX2_scrub (d + 9) 130 [some (.ref 3), some (.int (nI bud)), some (.int (nI (scF V C bud).2.2.1)), none, none, none, none] [] (hp n J L D) 1 6 _
    change WF (scF V C bud).1 at w1
    change Snap J 4 (scF V C bud).1 (scF V C bud).2.1 at r1
    change J 3 8 = nI (scF V C bud).2.2.2.1 at r2
    change ∀ i, i < 4 * (scF V C bud).2.2.2.1 → J 40 i = (scF V C bud).2.2.2.2 i at r3
    change (scF V C bud).2.2.1 ≤ bud at w3
    change (scF V C bud).2.2.2.1 ≤ 32 at w4
    generalize scF V C bud = s at w1 r1 r2 r3 w3 w4 ⊢
    have hC2 : Cs J s.1 s.2.1 (push H m (V, C)) (pm m) o2 := hC1.f r1 (fun a h1 h2 => by rw [r4 a (by intro q; simp at q; omega), gUp_ne (by omega)]) (by rw [r5 11 (by decide), gUp_c, if_neg (by decide)]) (by rw [r5 12 (by decide), gUp_c, if_neg (by decide)])
    refine g_aload_n (pc := 130) dX2_scrub_130 rfl rfl ?_
    refine g_getR (pc := 131) dX2_scrub_131 fl_X2_12 s_3 (by decide) rfl t_3_0 ?_
    refine g_getR (pc := 134) dX2_scrub_134 fl_X2_268 s_4 (by decide) rfl t_4_3 ?_
    refine g_bipush (v := nI 6) (pc := 137) dX2_scrub_137 rfl ?_
    refine g_dup2 (pc := 139) dX2_scrub_139 rfl rfl ?_
    refine g_ialoadN (pc := 140) dX2_scrub_140 s_8 (by decide) (by omega) (by decide) (r1.2.1 6 (by decide)) ?_
    refine g_iload_n (pc := 141) dX2_scrub_141 rfl rfl ?_
    refine g_iload_n (pc := 142) dX2_scrub_142 rfl rfl ?_
    refine g_isubN (pc := 143) dX2_scrub_143 (by omega) ?_
    refine g_iadd (pc := 144) dX2_scrub_144 ?_
    refine g_iastoreN (pc := 145) dX2_scrub_145 s_8 (by decide) (by omega) (by decide) ?_
    refine g_iload_n (pc := 146) dX2_scrub_146 rfl rfl ?_
    refine g_iret (pc := 147) dX2_scrub_147 rfl rfl ?_
    refine ⟨_, ⟨rfl, rfl⟩, ⟨o2, hC2.f (Snap.cnt r1 (by decide)) (fun a h1 h2 => gUp_ne (by omega)) (by rw [gUp_ne (by decide)]) (by rw [gUp_ne (by decide)])⟩, w1, by rw [gUp_ne (by decide)]; exact r2, w4, fun i hi => by rw [gUp_ne (by decide)]; exact r3 i hi, fun a ha => ?_, fun j hj => ?_⟩
    · rw [gUp_ne (by omega), r4 a (by intro q; simp at q; omega), gUp_ne (by omega)]; exact hR.1 a (by omega)
    · rw [gUp_ne (by decide), r5 j (by intro q; simp at q; exact hj (by rw [q]; decide)), gUp_c, if_neg (fun e => hj (by rw [e]; decide))]
      exact hR.2 j (by intro q; simp at q; exact hj (by simp; omega))
end

