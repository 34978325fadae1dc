/-! ===== the reference stores (b) ===== -/
section
variable {G : gG} {d n0 : Nat} {I : Nat → Nat → Int32} {L : Nat → Nat → Int64} {D : Nat → Nat → UInt64} {V : Nat → Nat}
/-- what blocks leave -/
def stS (I J : Nat → Nat → Int32) : Prop := Sm [114, 115, 124, 125, 126, 127, 128, 129] I J ∧ Sc 114 [23, 24, 25, 26, 27, 28] I J ∧ ∃ M, Rw J M
theorem l_st_blk {Q : gQ} {f n c dp fs sl : Nat} {W T : Nat → Nat} {C : Nat → Int32} (hX : MX I) (hK : stK W f n c) (hc6 : c ≤ 6) (hn : n ≤ 32) (hV : Vok I W) (hC : Cok I C) (ht : ∀ i, i < n → I 123 i = nI (syV (T (4 + i))) ∧ syV (T (4 + i)) < 16)
    (kn : ∀ J, Vok J (stB W T f n c ((n + 7) / 8)) → Cok J (addC C 7 (nI ((n + 7) / 8 * (c + 8)))) → stS I J → gGo G YX3_store (d + 5) 534 [some (.ref 114), some (.int (nI c)), some (.int (nI dp)), some (.int (nI n)), some (.int (nI f)), some (.int (nI fs)), some (.int (nI (10 * f))), some (.int (nI sl)), some (.int (nI ((n + 7) / 8))), none, none] [] (hp n0 J L D) 0 0 Q) : gGo G YX3_store (d + 5) 345 [some (.ref 114), some (.int (nI c)), some (.int (nI dp)), some (.int (nI n)), some (.int (nI f)), some (.int (nI fs)), some (.int (nI (10 * f))), some (.int (nI sl)), some (.int (nI n)), none, none] [] (hp n0 I L D) 0 0 Q := by
  have f8 := hK.2.1
  have hday := hK.1.2.2.1
  refine g_iconst (v := nI 0) (pc := 345) dX3_store_345 rfl ?_
  refine g_istore (pc := 346) dX3_store_346 (Nat.le_of_ble_eq_true rfl) rfl ?_
  refine g_loop ((n + 7) / 8) (fun b J => Vok J (stB W T f n c b) ∧ Cok J (addC C 7 (nI (b * (c + 8)))) ∧ stS I J) (fun b _ => [some (.ref 114), some (.int (nI c)), some (.int (nI dp)), some (.int (nI n)), some (.int (nI f)), some (.int (nI fs)), some (.int (nI (10 * f))), some (.int (nI sl)), some (.int (nI b)), none, none]) (fun J => hp n0 J L D) (fun b J hb hJ kk => ?_) (fun J hJ => ?_) 0 I (Nat.zero_le _) ⟨hV, by rw [Nat.zero_mul, addC_0]; exact hC, Sm.rfl, Sc.rfl, hX.2⟩
  · obtain ⟨u1, u2, u3, u4, u5⟩ := hJ
    obtain ⟨kb, kb6, kb8⟩ := stB_ok (T := T) hK b (by omega)
    have hbb : b < bl (stB W T f n c b) f := by rw [kb.2.2.2.1]; exact hb
    have hb4 : b < 4 := Nat.lt_of_lt_of_le hbb (bl_le (kb.1.1 f f8))
    have g := chk_geo (V := stB W T f n c b) (f := f) hb4 (W 800)
    have hWW : WF (uV (stB W T f n c b) (10 * f + (6 + b)) (W 800)) := by rw [← kb8]; exact WF_chk kb.1 f8 kb.2.2.1 hb4
    have hKu : stK (uV (stB W T f n c b) (10 * f + (6 + b)) (W 800)) f n c := ⟨hWW, f8, by rw [uV_n (by omega)]; exact kb.2.2.1, by rw [g.1]; exact kb.2.2.2.1, by rw [g.2.1]; exact kb.2.2.2.2⟩
    have hV2 : Vok (gUp J 115 (10 * f + (6 + b)) (nI (W 800))) (uV (stB W T f n c b) (10 * f + (6 + b)) (W 800)) := u1.up
    refine g_iload (pc := 348) dX3_store_348 rfl ?_
    refine g_aload_n (pc := 350) dX3_store_350 rfl rfl ?_
    refine g_iload (pc := 351) dX3_store_351 rfl ?_
    refine g_fV (av := [.int _]) (pc := 353) dX3_store_353 mt_X3_blocks lk_X3_80 im_X3_blocks se_X3_blocks np_X3_blocks s_114 (by decide) (by decide) rfl (gc_i gc_0) (Nat.le_of_ble_eq_true rfl) (Nat.le_of_ble_eq_true rfl) ⟨Nat.zero_le _, Nat.zero_le _⟩ (m_X3_blocks u1 kb.1 f8) ?_
    rw [kb.2.2.2.1]
    refine g_icmp_geN (tgt := 534) (pc := 356) dX3_store_356 (by decide) (by omega) (by omega) (fun c356 => ?_) (fun c356 => ?_)
    · omega
    refine g_aload_n (pc := 359) dX3_store_359 rfl rfl ?_
    refine g_getR (pc := 360) dX3_store_360 fl_X3_9 s_114 (by decide) rfl t_114_1 ?_
    refine g_iload (pc := 363) dX3_store_363 rfl ?_
    refine g_bipush (v := nI 6) (pc := 365) dX3_store_365 rfl ?_
    refine g_iaddN (pc := 367) dX3_store_367 ?_
    refine g_iload (pc := 368) dX3_store_368 rfl ?_
    refine g_iaddN (pc := 370) dX3_store_370 ?_
    rw [show 10 * f + 6 + b = 10 * f + (6 + b) by omega]
    refine g_aload_n (pc := 371) dX3_store_371 rfl rfl ?_
    refine g_getR (pc := 372) dX3_store_372 fl_X3_9 s_114 (by decide) rfl t_114_1 ?_
    refine g_sipush (v := nI 800) (pc := 375) dX3_store_375 rfl ?_
    refine g_ialoadN (pc := 378) dX3_store_378 s_115 (by decide) (by omega) (by decide) ((u1 800 (by decide)).trans (by rw [kb8])) ?_
    refine g_iastoreN (pc := 379) dX3_store_379 s_115 (by decide) (by omega) (by decide) ?_
    refine g_aload_n (pc := 380) dX3_store_380 rfl rfl ?_
    refine g_aload_n (pc := 381) dX3_store_381 rfl rfl ?_
    refine g_iload (pc := 382) dX3_store_382 rfl ?_
    refine g_fV (av := [.int _]) (pc := 384) dX3_store_384 mt_X3_size lk_X3_84 im_X3_size se_X3_size np_X3_size s_114 (by decide) (by decide) rfl (gc_i gc_0) (Nat.le_of_ble_eq_true rfl) (Nat.le_of_ble_eq_true rfl) ⟨Nat.zero_le _, Nat.zero_le _⟩ (m_X3_size hV2 f8) ?_
    rw [hKu.2.2.2.2]
    refine g_putI (pc := 387) dX3_store_387 fl_X3_133 s_114 (by decide) rfl rfl rfl rfl ?_
    refine g_aload_n (pc := 390) dX3_store_390 rfl rfl ?_
    refine g_iload_n (pc := 391) dX3_store_391 rfl rfl ?_
    refine g_putI (pc := 392) dX3_store_392 fl_X3_135 s_114 (by decide) rfl rfl rfl rfl ?_
    refine g_aload_n (pc := 395) dX3_store_395 rfl rfl ?_
    refine g_iconst (v := nI 0) (pc := 396) dX3_store_396 rfl ?_
    refine g_putI (pc := 397) dX3_store_397 fl_X3_138 s_114 (by decide) rfl rfl rfl rfl ?_
    have hT0 : Sm [114, 115] J (gUp (gUp (gUp (gUp J 115 (10 * f + (6 + b)) (nI (W 800))) 114 23 (nI (c + 8))) 114 24 (nI c)) 114 25 (nI 0)) := (by repeat' first | assumption | exact Sm.rfl | exact Sc.rfl | refine Sm.up (by decide) ?_ | refine Sc.up (by decide) ?_ | refine Sc.un (by decide) ?_)
    have hT1 : Sc 114 [23, 24, 25] J (gUp (gUp (gUp (gUp J 115 (10 * f + (6 + b)) (nI (W 800))) 114 23 (nI (c + 8))) 114 24 (nI c)) 114 25 (nI 0)) := (by repeat' first | assumption | exact Sm.rfl | exact Sc.rfl | refine Sm.up (by decide) ?_ | refine Sc.up (by decide) ?_ | refine Sc.un (by decide) ?_)
    refine l_st_b1 (T := T) hc6 hb hn (fun i hi => ⟨by rw [hT0 123 (by decide), u3 123 (by decide)]; exact (ht i hi).1, (ht i hi).2⟩) (gUp_k (by decide) (gUp_k (by decide) (by rw [gUp_c, if_pos rfl]))) (by rw [gUp_c, if_pos rfl]) (fun J1 q1 q2 q3 q4 => ?_)
    have hz1 : J1 114 23 = nI (c + 8) := by rw [q4 23 (by decide)]; exact gUp_k (by decide) (gUp_k (by decide) (by rw [gUp_c, if_pos rfl]))
    have hc1 : J1 114 24 = nI c := by rw [q4 24 (by decide)]; exact gUp_k (by decide) (by rw [gUp_c, if_pos rfl])
    have s1 : Sm [114, 115, 124] J J1 := Sm.trans (hT0.mono (by decide)) (q3.mono (by decide))
    have s2 : Sc 114 [23, 24, 25] J J1 := Sc.trans hT1 (q4.mono (by decide))
    have hTb : Tb J1 := (hX.1.s u3 (by decide) (by decide) (by decide)).s s1 (by decide) (by decide) (by decide)
    obtain ⟨M, hR⟩ := u5
    have hV3 : Vok J1 (uV (stB W T f n c b) (10 * f + (6 + b)) (W 800)) := fun k hk => by
      rw [q3 115 (by decide), gUp_ne (by decide), gUp_ne (by decide), gUp_ne (by decide)]; exact hV2 k hk
    have hC3 : Cok J1 (addC C 7 (nI (b * (c + 8)))) := fun k hk => by
      rw [q3 115 (by decide), gUp_ne (by decide), gUp_ne (by decide), gUp_ne (by decide), gUp_c, if_neg (by omega)]; exact u2 k hk
    have hpw : 2 ^ c - 1 < 2 ^ (c + 8) := Nat.lt_of_lt_of_le (Nat.sub_lt (Nat.pow_pos (by decide)) (by decide)) (Nat.pow_le_pow_right (by decide) (by omega))
    refine g_aload_n (pc := 483) dX3_store_483 rfl rfl ?_
    refine g_riV (av := []) (pc := 484) dX3_store_484 mt_X3_isDecoded lk_X3_141 im_X3_isDecoded se_X3_isDecoded np_X3_isDecoded s_114 (by decide) (by decide) rfl gc_0 (Nat.le_of_ble_eq_true rfl) (Nat.le_of_ble_eq_true rfl) (gRi_deep (by omega) (m_X3_isDecoded (d := 0) (g := stG T n c b) (er := 2 ^ c - 1) hTb (hR.s (s1 128 (by decide))) hz1 (by omega) hc1 hc6 q2 hpw q1)) ?_
    rintro v J2 ⟨r, r1, r2, r3, r4, r5, M2, r6⟩
    refine g_istore (pc := 487) dX3_store_487 (Nat.le_of_ble_eq_true rfl) rfl ?_
    have hr := enc_one (by omega) (by omega) r1
    subst hr
    obtain ⟨p1, p2, p3, p4⟩ := r2
    refine l_st_b3 (T := T) (X := stY T n c b) rfl hKu hc6 hb (hV3.s r4 (by decide)) (hC3.s r4 (by decide)) (by rw [r5 23 (by decide)]; exact hz1) p4 (fun J3 w1 w2 w3 => kk J3 ⟨w1, ?_, ?_, ?_, M2, r6.s (w3 128 (by decide))⟩)
    · rw [Nat.add_mul, Nat.one_mul, ← nI_add, ← addC_add]; exact w2
    · exact Sm.trans u3 (Sm.trans (s1.mono (by decide)) (Sm.trans (r4.mono (by decide)) (w3.mono (by decide))))
    · exact Sc.trans u4 (Sc.trans (s2.mono (by decide)) (Sc.trans (r5.mono (by decide)) (w3.sc (by decide))))
  · obtain ⟨u1, u2, u3⟩ := hJ
    obtain ⟨kb, kb6, kb8⟩ := stB_ok (T := T) hK ((n + 7) / 8) (Nat.le_refl _)
    refine g_iload (pc := 348) dX3_store_348 rfl ?_
    refine g_aload_n (pc := 350) dX3_store_350 rfl rfl ?_
    refine g_iload (pc := 351) dX3_store_351 rfl ?_
    refine g_fV (av := [.int _]) (pc := 353) dX3_store_353 mt_X3_blocks lk_X3_80 im_X3_blocks se_X3_blocks np_X3_blocks s_114 (by decide) (by decide) rfl (gc_i gc_0) (Nat.le_of_ble_eq_true rfl) (Nat.le_of_ble_eq_true rfl) ⟨Nat.zero_le _, Nat.zero_le _⟩ (m_X3_blocks u1 kb.1 f8) ?_
    rw [kb.2.2.2.1]
    refine g_icmp_geN (tgt := 534) (pc := 356) dX3_store_356 (by decide) (by omega) (by omega) (fun c356 => ?_) (fun c356 => ?_)
    rotate_left
    · omega
    exact kn J u1 u2 u3
theorem l_st_free {Q : gQ} {c dp n f : Nat} (hV : Vok I V) (hW : WF V) (hF : FF V f) (kn : gGo G YX3_store (d + 5) 199 [some (.ref 114), some (.int (nI c)), some (.int (nI dp)), some (.int (nI n)), some (.int (nI f)), none, none, none, none, none, none] [] (hp n0 I L D) 0 0 Q) : gGo G YX3_store (d + 5) 174 [some (.ref 114), some (.int (nI c)), some (.int (nI dp)), some (.int (nI n)), none, none, none, none, none, none, none] [] (hp n0 I L D) 0 0 Q := by
  have hf8 := hF.1
  refine g_iconst (v := nI 0) (pc := 174) dX3_store_174 rfl ?_
  refine g_istore (pc := 175) dX3_store_175 (Nat.le_of_ble_eq_true rfl) rfl ?_
  refine g_loop f (fun _ (_ : Unit) => True) (fun k _ => [some (.ref 114), some (.int (nI c)), some (.int (nI dp)), some (.int (nI n)), some (.int (nI k)), none, none, none, none, none, none]) (fun _ => hp n0 I L D) (fun k _ hk _ kk => ?_) (fun _ _ => ?_) 0 () (Nat.zero_le _) trivial
  · skip
    refine g_iload (pc := 177) dX3_store_177 rfl ?_
    refine g_bipush (v := nI 8) (pc := 179) dX3_store_179 rfl ?_
    refine g_icmp_geN (tgt := 199) (pc := 181) dX3_store_181 (by decide) (by omega) (by omega) (fun c181 => ?_) (fun c181 => ?_)
    · omega
    refine g_aload_n (pc := 184) dX3_store_184 rfl rfl ?_
    refine g_iload (pc := 185) dX3_store_185 rfl ?_
    refine g_fV (av := [.int _]) (pc := 187) dX3_store_187 mt_X3_isFile lk_X3_87 im_X3_isFile se_X3_isFile np_X3_isFile s_114 (by decide) (by decide) rfl (gc_i gc_0) (Nat.le_of_ble_eq_true rfl) (Nat.le_of_ble_eq_true rfl) ⟨Nat.zero_le _, Nat.zero_le _⟩ (m_X3_isFileN hV hW (by omega)) ?_
    refine g_if_eqB (tgt := 199) (pc := 190) dX3_store_190 (by decide) (fun c190 => ?_) (fun c190 => ?_)
    · exact absurd (hF.2.1 k hk) c190
    refine g_iincN (pc := 193) dX3_store_193 (Nat.le_of_ble_eq_true rfl) rfl rfl ?_
    refine g_goto (tgt := 177) (pc := 196) dX3_store_196 (by decide) ?_
    exact kk () trivial
  · by_cases h8 : f = 8
    · skip
      refine g_iload (pc := 177) dX3_store_177 rfl ?_
      refine g_bipush (v := nI 8) (pc := 179) dX3_store_179 rfl ?_
      refine g_icmp_geN (tgt := 199) (pc := 181) dX3_store_181 (by decide) (by omega) (by omega) (fun c181 => ?_) (fun c181 => ?_)
      rotate_left
      · omega
      exact kn
    · skip
      refine g_iload (pc := 177) dX3_store_177 rfl ?_
      refine g_bipush (v := nI 8) (pc := 179) dX3_store_179 rfl ?_
      refine g_icmp_geN (tgt := 199) (pc := 181) dX3_store_181 (by decide) (by omega) (by omega) (fun c181 => ?_) (fun c181 => ?_)
      · omega
      refine g_aload_n (pc := 184) dX3_store_184 rfl rfl ?_
      refine g_iload (pc := 185) dX3_store_185 rfl ?_
      refine g_fV (av := [.int _]) (pc := 187) dX3_store_187 mt_X3_isFile lk_X3_87 im_X3_isFile se_X3_isFile np_X3_isFile s_114 (by decide) (by decide) rfl (gc_i gc_0) (Nat.le_of_ble_eq_true rfl) (Nat.le_of_ble_eq_true rfl) ⟨Nat.zero_le _, Nat.zero_le _⟩ (m_X3_isFileN hV hW (by omega)) ?_
      refine g_if_eqB (tgt := 199) (pc := 190) dX3_store_190 (by decide) (fun c190 => ?_) (fun c190 => ?_)
      rotate_left
      · exact absurd c190 (hF.2.2 (by omega))
      exact kn
/-- storing is refused -/
def stN (I J : Nat → Nat → Int32) : Prop := J 114 0 = nI 2 ∧ J 114 8 = nI 0 ∧ Sm [114, 123] I J ∧ Sc 114 [0, 8, 14, 15] I J
theorem PE_fit {T : Nat → Nat} {t : Nat} (hP : PE T t none) : 5 ≤ t ∧ t ≤ 36 ∧ (49 ≤ T 0 ∧ T 0 ≤ 54) ∧ (49 ≤ T 2 ∧ T 2 ≤ 52) ∧ ∀ i, i < t - 4 → isSy (T (4 + i)) = true := by
  obtain ⟨h1, h2⟩ := hP
  have h0 := h2 0 (by omega)
  have h3 := h2 2 (by omega)
  unfold fitC at h0 h3
  rw [if_pos rfl] at h0
  rw [if_neg (by decide), if_neg (by decide), if_pos rfl] at h3
  have h36 : t ≤ 36 := by
    have := ((fit4 (T := T) (i := t - 1) (by omega)).mp (h2 (t - 1) (by omega))).1
    omega
  exact ⟨h1, h36, h0, h3, fun i hi => ((fit4 (by omega)).mp (h2 (4 + i) (by omega))).2⟩
theorem m_X3_store_1 {T : Nat → Nat} {t p : Nat} (hT : Tx I 118 T t) (ht : I 114 8 = nI t) (hP : PE T t (some p)) : gRi G YX3_store (d + 5) [.ref 114] n0 I L D (fun _ J => stE I J p) :=
  l_st_parse (d := d + 3) (Q := stEQ G n0 I L D p) hT ht hP (fun q e o h k => by cases e; exact k) (fun e => by cases e)
theorem m_X3_store_2 {T : Nat → Nat} {t f : Nat} (hV : Vok I V) (hW : WF V) (hT : Tx I 118 T t) (ht : I 114 8 = nI t) (hP : PE T t none) (hF : FF V f) (hN : f = 8 ∨ ¬ (0 : Int32) ≤ arI V ((t - 4 + 7) / 8 * (T 0 - 48 + 8))) : gRi G YX3_store (d + 5) [.ref 114] n0 I L D (fun _ J => stN I J) := by
  obtain ⟨h5, h36, hc, hd, hs⟩ := PE_fit hP
  have hf8 := hF.1
  refine l_st_parse (d := d + 3) hT ht hP (fun q e => by cases e) (fun _ J hO => ?_)
  obtain ⟨o1, o2, o3, o4, o5⟩ := hO
  have hV1 : Vok J V := hV.s o4 (by decide)
  refine l_st_free hV1 hW hF ?_
  have hb : (t - 4 + 7) / 8 ≤ 4 := by omega
  have hm : (t - 4 + 7) / 8 * (T 0 - 48 + 8) < 1000 := Nat.lt_of_le_of_lt (Nat.mul_le_mul hb (show T 0 - 48 + 8 ≤ 14 by omega)) (by decide)
  have hq : t - 4 + 8 - 1 = t - 4 + 7 := by omega
  refine g_aload_n (pc := 199) dX3_store_199 rfl rfl ?_
  refine g_iload_n (pc := 200) dX3_store_200 rfl rfl ?_
  refine g_bipush (v := nI 8) (pc := 201) dX3_store_201 rfl ?_
  refine g_iaddN (pc := 203) dX3_store_203 ?_
  refine g_iconst (v := nI 1) (pc := 204) dX3_store_204 rfl ?_
  refine g_isubN (pc := 205) dX3_store_205 (by omega) ?_
  rw [hq]
  refine g_bipush (v := nI 8) (pc := 206) dX3_store_206 rfl ?_
  refine g_idivN (pc := 208) dX3_store_208 (by omega) (by omega) (by omega) ?_
  refine g_iload_n (pc := 209) dX3_store_209 rfl rfl ?_
  refine g_bipush (v := nI 8) (pc := 210) dX3_store_210 rfl ?_
  refine g_iaddN (pc := 212) dX3_store_212 ?_
  refine g_imulN (pc := 213) dX3_store_213 ?_
  refine g_fV (av := [.int _]) (pc := 214) dX3_store_214 mt_X3_area lk_X3_127 im_X3_area se_X3_area np_X3_area s_114 (by decide) (by decide) rfl (gc_i gc_0) (Nat.le_of_ble_eq_true rfl) (Nat.le_of_ble_eq_true rfl) ⟨Nat.zero_le _, Nat.zero_le _⟩ (m_X3_area hV1 hW hm) ?_
  refine g_istore (pc := 217) dX3_store_217 (Nat.le_of_ble_eq_true rfl) rfl ?_
  refine g_iload (pc := 219) dX3_store_219 rfl ?_
  refine g_bipush (v := nI 8) (pc := 221) dX3_store_221 rfl ?_
  refine g_icmp_eqN (tgt := 231) (pc := 223) dX3_store_223 (by decide) (by omega) (by omega) (fun c223 => ?_) (fun c223 => ?_)
  · refine g_aload_n (pc := 231) dX3_store_231 rfl rfl ?_
    refine g_iconst (v := nI 2) (pc := 232) dX3_store_232 rfl ?_
    refine g_fV (av := [.int _]) (pc := 233) dX3_store_233 mt_X3_no lk_X3_124 im_X3_no se_X3_no np_X3_no s_114 (by decide) (by decide) rfl (gc_i gc_0) (Nat.le_of_ble_eq_true rfl) (Nat.le_of_ble_eq_true rfl) ⟨Nat.zero_le _, Nat.zero_le _⟩ (m_X3_no) ?_
    refine g_iret (pc := 236) dX3_store_236 rfl rfl ?_
    refine ⟨_, _, ⟨rfl, rfl⟩, ?_⟩
    exact ⟨by rw [gUp_c, if_pos rfl], gUp_k (by decide) o2, Sm.up (by decide) o4, Sc.up (by decide) o5⟩
  · refine g_iload (pc := 226) dX3_store_226 rfl ?_
    refine g_if_ge (tgt := 237) (pc := 228) dX3_store_228 (by decide) (fun c228 => ?_) (fun c228 => ?_)
    · exact absurd hN (fun q => q.elim (fun e => c223 e) (fun e => e c228))
    · refine g_aload_n (pc := 231) dX3_store_231 rfl rfl ?_
      refine g_iconst (v := nI 2) (pc := 232) dX3_store_232 rfl ?_
      refine g_fV (av := [.int _]) (pc := 233) dX3_store_233 mt_X3_no lk_X3_124 im_X3_no se_X3_no np_X3_no s_114 (by decide) (by decide) rfl (gc_i gc_0) (Nat.le_of_ble_eq_true rfl) (Nat.le_of_ble_eq_true rfl) ⟨Nat.zero_le _, Nat.zero_le _⟩ (m_X3_no) ?_
      refine g_iret (pc := 236) dX3_store_236 rfl rfl ?_
      refine ⟨_, _, ⟨rfl, rfl⟩, ?_⟩
      exact ⟨by rw [gUp_c, if_pos rfl], gUp_k (by decide) o2, Sm.up (by decide) o4, Sc.up (by decide) o5⟩
noncomputable def stF (V : Nat → Nat) (T : Nat → Nat) (t f fs : Nat) : Nat → Nat := stB (enV V f (t - 4) (T 0 - 48) (T 2 - 48) fs (slT T (t - 4))) T f (t - 4) (T 0 - 48) ((t - 4 + 7) / 8)
theorem st_K {V T : Nat → Nat} {t f fs : Nat} (hW : WF V) (hP : PE T t none) (hF : FF V f) (hf : f < 8) (hfs : arI V ((t - 4 + 7) / 8 * (T 0 - 48 + 8)) = nI fs) (hle : fs ≤ 240) : stK (enV V f (t - 4) (T 0 - 48) (T 2 - 48) fs (slT T (t - 4))) f (t - 4) (T 0 - 48) ∧ fs ≤ 240 := by
  obtain ⟨h5, h36, hc, hd, hs⟩ := PE_fit hP
  obtain ⟨fs2, e, h1, h2⟩ := arI_ok (V := V) (m := (t - 4 + 7) / 8 * (T 0 - 48 + 8)) (by rw [hfs]; exact nI_pos' (by omega))
  have e2 : fs = fs2 := (nI_eq (by omega) (by omega)).mp (hfs.symm.trans e)
  have g := en_geo (V := V) (f := f) (n := t - 4) (c := T 0 - 48) (dp := T 2 - 48) (fs := fs) (sl := slT T (t - 4))
  rw [← e2] at h1 h2
  exact ⟨⟨WF_en hW hf (hF.2.2 hf) (by omega) (by omega) (by omega) (slT_le _ _) h1 h2, hf, enV_f.1, g.1, g.2.1⟩, hle⟩
theorem m_X3_store_0 {T : Nat → Nat} {t f fs m : Nat} {C : Nat → Int32} {H : hT} (hM : Md I V C H m) (hW : WF V) (hX : MX I) (hT : Tx I 118 T t) (ht : I 114 8 = nI t) (hP : PE T t none) (hF : FF V f) (hf : f < 8) (hfl : fs ≤ 240) (hfs : arI V ((t - 4 + 7) / 8 * (T 0 - 48 + 8)) = nI fs) : gRi G YX3_store (d + 5) [.ref 114] n0 I L D (fun v J => v = nI f ∧ J 114 0 = nI 0 ∧ Md J (stF V T t f fs) (addC C 7 (nI ((t - 4 + 7) / 8 * (T 0 - 48 + 8)))) (push H m (V, C)) (pm m) ∧ J 114 8 = nI 0 ∧ MC [114, 115, 117, 123, 124, 125, 126, 127, 128, 129] [0, 4, 8, 14, 15, 23, 24, 25, 26, 27, 28] I J) := by
  obtain ⟨h5, h36, hc, hd, hs⟩ := PE_fit hP
  have h0 : (0 : Int32) ≤ arI V ((t - 4 + 7) / 8 * (T 0 - 48 + 8)) := by rw [hfs]; exact nI_pos' (by omega)
  have hK := (st_K hW hP hF hf hfs hfl).1
  have hV := hM.1.1
  refine l_st_parse (d := d + 3) hT ht hP (fun q e => by cases e) (fun _ J hO => ?_)
  obtain ⟨o1, o2, o3, o4, o5⟩ := hO
  have hV1 : Vok J V := hV.s o4 (by decide)
  have hC1 : Cok J C := hM.1.2.s o4 (by decide)
  have hXJ : MX J := ⟨hX.1.s o4 (by decide) (by decide) (by decide), by
    obtain ⟨M, hR⟩ := hX.2
    exact ⟨M, hR.s (o4 128 (by decide))⟩⟩
  refine l_st_free hV1 hW hF ?_
  have hb : (t - 4 + 7) / 8 ≤ 4 := by omega
  have hm : (t - 4 + 7) / 8 * (T 0 - 48 + 8) < 1000 := Nat.lt_of_le_of_lt (Nat.mul_le_mul hb (show T 0 - 48 + 8 ≤ 14 by omega)) (by decide)
  have hq : t - 4 + 8 - 1 = t - 4 + 7 := by omega
  refine g_aload_n (pc := 199) dX3_store_199 rfl rfl ?_
  refine g_iload_n (pc := 200) dX3_store_200 rfl rfl ?_
  refine g_bipush (v := nI 8) (pc := 201) dX3_store_201 rfl ?_
  refine g_iaddN (pc := 203) dX3_store_203 ?_
  refine g_iconst (v := nI 1) (pc := 204) dX3_store_204 rfl ?_
  refine g_isubN (pc := 205) dX3_store_205 (by omega) ?_
  rw [hq]
  refine g_bipush (v := nI 8) (pc := 206) dX3_store_206 rfl ?_
  refine g_idivN (pc := 208) dX3_store_208 (by omega) (by omega) (by omega) ?_
  refine g_iload_n (pc := 209) dX3_store_209 rfl rfl ?_
  refine g_bipush (v := nI 8) (pc := 210) dX3_store_210 rfl ?_
  refine g_iaddN (pc := 212) dX3_store_212 ?_
  refine g_imulN (pc := 213) dX3_store_213 ?_
  refine g_fV (av := [.int _]) (pc := 214) dX3_store_214 mt_X3_area lk_X3_127 im_X3_area se_X3_area np_X3_area s_114 (by decide) (by decide) rfl (gc_i gc_0) (Nat.le_of_ble_eq_true rfl) (Nat.le_of_ble_eq_true rfl) ⟨Nat.zero_le _, Nat.zero_le _⟩ (m_X3_area hV1 hW hm) ?_
  rw [hfs]
  refine g_istore (pc := 217) dX3_store_217 (Nat.le_of_ble_eq_true rfl) rfl ?_
  refine g_iload (pc := 219) dX3_store_219 rfl ?_
  refine g_bipush (v := nI 8) (pc := 221) dX3_store_221 rfl ?_
  refine g_icmp_eqN (tgt := 231) (pc := 223) dX3_store_223 (by decide) (by omega) (by omega) (fun c223 => ?_) (fun c223 => ?_)
  · omega
  refine g_iload (pc := 226) dX3_store_226 rfl ?_
  refine g_if_geN (tgt := 237) (pc := 228) dX3_store_228 (by decide) (by omega) (fun c228 => ?_) (fun c228 => ?_)
  rotate_left
  · omega
  refine g_aload_n (pc := 237) dX3_store_237 rfl rfl ?_
  refine g_rvV (av := []) (pc := 238) dX3_store_238 mt_X3_keeps lk_X3_130 im_X3_keeps se_X3_keeps np_X3_keeps s_114 (by decide) (by decide) rfl gc_0 (Nat.le_of_ble_eq_true rfl) (Nat.le_of_ble_eq_true rfl) (m_X3_keeps (H := H) (m := m) (C := C) hM.2.2.1 (by rw [o5 4 (by decide)]; exact hM.2.1) (hM.2.2.2.s (o4 117 (by decide))) hV1 hC1) ?_
  rintro I1 ⟨k1, k2, k3, k4⟩
  have hV2 : Vok I1 V := hV1.s k1 (by decide)
  have hC2 : Cok I1 C := hC1.s k1 (by decide)
  refine g_bipush (v := nI 10) (pc := 241) dX3_store_241 rfl ?_
  refine g_iload (pc := 243) dX3_store_243 rfl ?_
  refine g_imulN (pc := 245) dX3_store_245 ?_
  refine g_istore (pc := 246) dX3_store_246 (Nat.le_of_ble_eq_true rfl) rfl ?_
  refine g_aload_n (pc := 248) dX3_store_248 rfl rfl ?_
  refine g_getR (pc := 249) dX3_store_249 fl_X3_9 s_114 (by decide) rfl t_114_1 ?_
  refine g_iload (pc := 252) dX3_store_252 rfl ?_
  refine g_iconst (v := nI 1) (pc := 254) dX3_store_254 rfl ?_
  refine g_iastoreN (pc := 255) dX3_store_255 s_115 (by decide) (by omega) (by decide) ?_
  refine g_aload_n (pc := 256) dX3_store_256 rfl rfl ?_
  refine g_getR (pc := 257) dX3_store_257 fl_X3_9 s_114 (by decide) rfl t_114_1 ?_
  refine g_iload (pc := 260) dX3_store_260 rfl ?_
  refine g_iconst (v := nI 1) (pc := 262) dX3_store_262 rfl ?_
  refine g_iaddN (pc := 263) dX3_store_263 ?_
  refine g_iload_n (pc := 264) dX3_store_264 rfl rfl ?_
  refine g_iastoreN (pc := 265) dX3_store_265 s_115 (by decide) (by omega) (by decide) ?_
  refine g_aload_n (pc := 266) dX3_store_266 rfl rfl ?_
  refine g_getR (pc := 267) dX3_store_267 fl_X3_9 s_114 (by decide) rfl t_114_1 ?_
  refine g_iload (pc := 270) dX3_store_270 rfl ?_
  refine g_iconst (v := nI 2) (pc := 272) dX3_store_272 rfl ?_
  refine g_iaddN (pc := 273) dX3_store_273 ?_
  refine g_iload_n (pc := 274) dX3_store_274 rfl rfl ?_
  refine g_iastoreN (pc := 275) dX3_store_275 s_115 (by decide) (by omega) (by decide) ?_
  refine g_aload_n (pc := 276) dX3_store_276 rfl rfl ?_
  refine g_getR (pc := 277) dX3_store_277 fl_X3_9 s_114 (by decide) rfl t_114_1 ?_
  refine g_iload (pc := 280) dX3_store_280 rfl ?_
  refine g_iconst (v := nI 3) (pc := 282) dX3_store_282 rfl ?_
  refine g_iaddN (pc := 283) dX3_store_283 ?_
  refine g_iload_n (pc := 284) dX3_store_284 rfl rfl ?_
  refine g_iastoreN (pc := 285) dX3_store_285 s_115 (by decide) (by omega) (by decide) ?_
  refine g_aload_n (pc := 286) dX3_store_286 rfl rfl ?_
  refine g_getR (pc := 287) dX3_store_287 fl_X3_9 s_114 (by decide) rfl t_114_1 ?_
  refine g_iload (pc := 290) dX3_store_290 rfl ?_
  refine g_iconst (v := nI 5) (pc := 292) dX3_store_292 rfl ?_
  refine g_iaddN (pc := 293) dX3_store_293 ?_
  refine g_iload (pc := 294) dX3_store_294 rfl ?_
  refine g_iastoreN (pc := 296) dX3_store_296 s_115 (by decide) (by omega) (by decide) ?_
  skip
  have hVa := ((((hV2.up (k := 10 * f) (x := 1)).up (k := 10 * f + 1) (x := t - 4)).up (k := 10 * f + 2) (x := T 0 - 48)).up (k := 10 * f + 3) (x := T 2 - 48)).up (k := 10 * f + 5) (x := fs)
  have hCa : Cok (gUp (gUp (gUp (gUp (gUp I1 115 (10 * f) (nI 1)) 115 (10 * f + 1) (nI (t - 4))) 115 (10 * f + 2) (nI (T 0 - 48))) 115 (10 * f + 3) (nI (T 2 - 48))) 115 (10 * f + 5) (nI fs)) C := Cok.lo (by omega) (Cok.lo (by omega) (Cok.lo (by omega) (Cok.lo (by omega) (Cok.lo (by omega) hC2))))
  have hSa : Sm [115] I1 (gUp (gUp (gUp (gUp (gUp I1 115 (10 * f) (nI 1)) 115 (10 * f + 1) (nI (t - 4))) 115 (10 * f + 2) (nI (T 0 - 48))) 115 (10 * f + 3) (nI (T 2 - 48))) 115 (10 * f + 5) (nI fs)) := (by repeat' first | assumption | exact Sm.rfl | exact Sc.rfl | refine Sm.up (by decide) ?_ | refine Sc.up (by decide) ?_ | refine Sc.un (by decide) ?_)
  revert hVa hCa hSa
  generalize gUp (gUp (gUp (gUp (gUp I1 115 (10 * f) (nI 1)) 115 (10 * f + 1) (nI (t - 4))) 115 (10 * f + 2) (nI (T 0 - 48))) 115 (10 * f + 3) (nI (T 2 - 48))) 115 (10 * f + 5) (nI fs) = I2
  intro hVa hCa hSa
  have htl : ∀ i, i < t - 4 → I2 123 i = nI (syV (T (4 + i))) ∧ syV (T (4 + i)) < 16 := fun i hi => ⟨by rw [hSa 123 (by decide), k1 123 (by decide)]; exact o3 i hi, syV_lt (hs i hi)⟩
  refine g_iconst (v := nI 1) (pc := 297) dX3_store_297 rfl ?_
  refine g_istore (pc := 298) dX3_store_298 (Nat.le_of_ble_eq_true rfl) rfl ?_
  refine g_iconst (v := nI 0) (pc := 300) dX3_store_300 rfl ?_
  refine g_istore (pc := 301) dX3_store_301 (Nat.le_of_ble_eq_true rfl) rfl ?_
  refine g_loop (t - 4) (fun _ (_ : Unit) => True) (fun k _ => [some (.ref 114), some (.int (nI (T 0 - 48))), some (.int (nI (T 2 - 48))), some (.int (nI (t - 4))), some (.int (nI f)), some (.int (nI fs)), some (.int (nI (10 * f))), some (.int (nI (slT T k))), some (.int (nI k)), none, none]) (fun _ => hp n0 I2 L D) (fun k _ hk _ kk => ?_) (fun _ _ => ?_) 0 () (Nat.zero_le _) trivial
  · have hw := htl k hk
    have hsl := slT_le T k
    refine g_iload (pc := 303) dX3_store_303 rfl ?_
    refine g_iload_n (pc := 305) dX3_store_305 rfl rfl ?_
    refine g_icmp_geN (tgt := 334) (pc := 306) dX3_store_306 (by decide) (by omega) (by omega) (fun c306 => ?_) (fun c306 => ?_)
    · omega
    refine g_iload (pc := 309) dX3_store_309 rfl ?_
    refine g_bipush (v := nI 17) (pc := 311) dX3_store_311 rfl ?_
    refine g_imulN (pc := 313) dX3_store_313 ?_
    refine g_aload_n (pc := 314) dX3_store_314 rfl rfl ?_
    refine g_getR (pc := 315) dX3_store_315 fl_X3_39 s_114 (by decide) rfl t_114_16 ?_
    refine g_iload (pc := 318) dX3_store_318 rfl ?_
    refine g_ialoadN (pc := 320) dX3_store_320 s_123 (by decide) (by omega) (by decide) hw.1 ?_
    refine g_iaddN (pc := 321) dX3_store_321 ?_
    refine g_sipush (v := nI 251) (pc := 322) dX3_store_322 rfl ?_
    refine g_iremN (pc := 325) dX3_store_325 (by omega) (by omega) (by omega) ?_
    refine g_istore (pc := 326) dX3_store_326 (Nat.le_of_ble_eq_true rfl) rfl ?_
    refine g_iincN (pc := 328) dX3_store_328 (Nat.le_of_ble_eq_true rfl) rfl rfl ?_
    refine g_goto (tgt := 303) (pc := 331) dX3_store_331 (by decide) ?_
    exact kk () trivial
  · have hsl := slT_le T (t - 4)
    refine g_iload (pc := 303) dX3_store_303 rfl ?_
    refine g_iload_n (pc := 305) dX3_store_305 rfl rfl ?_
    refine g_icmp_geN (tgt := 334) (pc := 306) dX3_store_306 (by decide) (by omega) (by omega) (fun c306 => ?_) (fun c306 => ?_)
    rotate_left
    · omega
    refine g_aload_n (pc := 334) dX3_store_334 rfl rfl ?_
    refine g_getR (pc := 335) dX3_store_335 fl_X3_9 s_114 (by decide) rfl t_114_1 ?_
    refine g_iload (pc := 338) dX3_store_338 rfl ?_
    refine g_iconst (v := nI 4) (pc := 340) dX3_store_340 rfl ?_
    refine g_iaddN (pc := 341) dX3_store_341 ?_
    refine g_iload (pc := 342) dX3_store_342 rfl ?_
    refine g_iastoreN (pc := 344) dX3_store_344 s_115 (by decide) (by omega) (by decide) ?_
    have hSb : Sm [115] I1 (gUp I2 115 (10 * f + 4) (nI (slT T (t - 4)))) := Sm.up (by decide) hSa
    have hXb : MX (gUp I2 115 (10 * f + 4) (nI (slT T (t - 4)))) := ⟨(hXJ.1.s k1 (by decide) (by decide) (by decide)).s hSb (by decide) (by decide) (by decide), by
      obtain ⟨M, hR⟩ := hXJ.2
      exact ⟨M, hR.s ((hSb 128 (by decide)).trans (k1 128 (by decide)))⟩⟩
    refine l_st_blk (T := T) hXb hK (by omega) (by omega) hVa.up (hCa.lo (by omega)) (fun i hi => ⟨gUp_a (by decide) (htl i hi).1, (htl i hi).2⟩) (fun J2 w1 w2 w3 => ?_)
    obtain ⟨z1, z2, z3⟩ := w3
    refine g_iload (pc := 534) dX3_store_534 rfl ?_
    refine g_iret (pc := 536) dX3_store_536 rfl rfl ?_
    refine ⟨_, _, ⟨rfl, rfl⟩, ?_⟩
    refine ⟨rfl, ?_, ⟨⟨w1, w2⟩, ?_, (pm_le hM.2.2.1).1, k4.s ((z1 117 (by decide)).trans (hSb 117 (by decide)))⟩, ?_, ?_, ?_, z3⟩
    · rw [z2 0 (by decide), hSb 114 (by decide), k2 0 (by decide)]; exact o1
    · rw [z2 4 (by decide), hSb 114 (by decide)]; exact k3
    · rw [z2 8 (by decide), hSb 114 (by decide), k2 8 (by decide)]; exact o2
    · exact Sm.trans (o4.mono (by decide)) (Sm.trans (k1.mono (by decide)) (Sm.trans (hSb.mono (by decide)) (z1.mono (by decide))))
    · exact Sc.trans (o5.mono (by decide)) (Sc.trans (k2.mono (by decide)) (Sc.trans (hSb.sc (by decide)) (z2.mono (by decide))))
end

