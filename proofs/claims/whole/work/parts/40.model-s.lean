/-! ===== the reference scrubs ===== -/
theorem nI_pm1 {a : Nat} (h : 1 ≤ a) : nI a + Int32.ofInt (-1) = nI (a - 1) := by
  obtain ⟨k, rfl⟩ : ∃ k, a = k + 1 := ⟨a - 1, by omega⟩
  exact pk_m1 k
theorem lnS_eq {J : Nat → Nat → Int32} {l : Nat} {f b o m : Nat} (i : Nat) : gUp (gUp (gUp (gUp J 119 (4 * l) (nI f)) 119 (4 * l + 1) (nI b)) 119 (4 * l + 2) (nI o)) 119 (4 * l + 3) (nI m) 119 i = lnS l f b o m (J 119) i := by
  rw [gUp_c, gUp_c, gUp_c, gUp_c]
  rfl
theorem scO_3 {V : Nat → Nat} {f b : Nat} : scO V f b < 8 := by
  unfold scO
  split
  · split <;> decide
  · decide
theorem scC_k {V : Nat → Nat} {C : Nat → Int32} {f b : Nat} {x : Int32} : scC V (addC C 6 x) f b = addC (scC V C f b) 6 x := by
  have ho : scO V f b ≠ 6 := by
    unfold scO
    split
    · split <;> decide
    · decide
  unfold scC
  split
  · exact addC_com (fun e => ho e.symm)
  · rw [addC_com (C := C) (fun e => ho e.symm), addC_com (k := 6) (l := 7) (by decide), addC_com (k := 6) (l := 4) (by decide), addC_com (k := 6) (l := 5) (by decide)]
/-- what the loop of scrubbing keeps -/
def SI (I J : Nat → Nat → Int32) (bud : Nat) (V : Nat → Nat) (C : Nat → Int32) (left l : Nat) (Ls : Nat → Int32) : Prop := Vok J V ∧ Cok J (addC C 6 (nI (bud - left))) ∧ J 114 10 = nI l ∧ (∀ i, i < 4 * l → J 119 i = Ls i) ∧ left ≤ bud ∧ Sm [114, 115, 119, 124, 125, 126, 127, 128, 129] I J ∧ Sc 114 [10, 23, 24, 25, 26, 27, 28] I J ∧ ∃ M, Rw J M
def scQ (G : gG) (n : Nat) (I : Nat → Nat → Int32) (L : Nat → Nat → Int64) (D : Nat → Nat → UInt64) (bud : Nat) (s : scT) : gQ := fun o h => ∃ v J, (o = .inl (some (.int v)) ∧ h = hp n J L D) ∧ v = nI s.2.2.1 ∧ SI I J bud s.1 s.2.1 s.2.2.1 s.2.2.2.1 s.2.2.2.2
theorem SI.dk {I0 J K : Nat → Nat → Int32} {bud : Nat} {V : Nat → Nat} {C : Nat → Int32} {left l : Nat} {Ls : Nat → Int32} (h : SI I0 J bud V C left l Ls) (k : dK J K) : SI I0 K bud V C left l Ls := by
  obtain ⟨h1, h2, h3, h4, h5, h6, h7, h8⟩ := h
  exact ⟨k.v h1, h2.s k.1 (by decide), by rw [k.2.1 10 (by decide)]; exact h3, fun i hi => by rw [k.1 119 (by decide)]; exact h4 i hi, h5, Sm.trans h6 (k.1.mono (by decide)), Sc.trans h7 (k.2.1.mono (by decide)), k.2.2⟩
theorem SI.k {I0 J : Nat → Nat → Int32} {bud : Nat} {V : Nat → Nat} {C : Nat → Int32} {left l : Nat} {Ls : Nat → Int32} {y : Int32} (h : SI I0 J bud V C left l Ls) (hl : 0 < left) (hy : y = J 115 (801 + 6) + nI 1) : SI I0 (gUp J 115 (801 + 6) y) bud V C (left - 1) l Ls := by
  obtain ⟨h1, h2, h3, h4, h5, h6, h7, M, h8⟩ := h
  refine ⟨h1.hi (by decide), ?_, gUp_a (by decide) h3, fun i hi => gUp_a (by decide) (h4 i hi), by omega, Sm.up (by decide) h6, Sc.un (by decide) h7, M, h8.s (gUp_ne (by decide))⟩
  have := h2.add (k := 6) (x := nI 1) (y := y) (by decide) hy
  rw [addC_add, nI_add] at this
  rw [show bud - (left - 1) = bud - left + 1 by omega]
  exact this
theorem scrF_c {k : Nat} {V : Nat → Nat} {C : Nat → Int32} {left l : Nat} {Ls : Nat → Int32} {f b : Nat} (h0 : (0 : Int32) ≤ nxI V) (hl : 0 < left) (hx : nxI V = nI (100 * f + b)) (hf : f < 8) (hb : b < 4) : scrF (k + 1) (V, C, left, l, Ls) = if left - 1 < dmN V f b then (V, addC C 3 (nI 1), left - 1, l + 1, lnS l f b 3 (dmN V f b) Ls) else scrF k (scV V f b, scC V C f b, left - 1 - dmN V f b, l + 1, lnS l f b (scO V f b) (dmN V f b) Ls) := scrF_t (s := (V, C, left, l, Ls)) h0 hl hx hf hb
theorem lnS_ext {l f b o m i : Nat} {A B : Nat → Int32} (h : ∀ i, i < 4 * l → A i = B i) (hi : i < 4 * (l + 1)) : lnS l f b o m A i = lnS l f b o m B i := by
  unfold lnS
  by_cases e1 : i = 4 * l + 3
  · rw [if_pos e1, if_pos e1]
  · rw [if_neg e1, if_neg e1]
    by_cases e2 : i = 4 * l + 2
    · rw [if_pos e2, if_pos e2]
    · rw [if_neg e2, if_neg e2]
      by_cases e3 : i = 4 * l + 1
      · rw [if_pos e3, if_pos e3]
      · rw [if_neg e3, if_neg e3]
        by_cases e4 : i = 4 * l
        · rw [if_pos e4, if_pos e4]
        · rw [if_neg e4, if_neg e4]; exact h i (by omega)
theorem scO_6 {V : Nat → Nat} {f b : Nat} : scO V f b ≠ 6 := by
  unfold scO
  split
  · split <;> decide
  · decide
/-- what decoding has laid for mending -/
def dM (V : Nat → Nat) (f b : Nat) (I : Nat → Nat → Int32) : Prop := I 114 23 = nI (sz V f) ∧ I 114 25 = nI (erN V f b) ∧ I 114 28 = nI (ern V f b) ∧ (isD V f b = true → I 114 26 = nI (dcE V f b) ∧ I 114 27 = nI (dcN V f b) ∧ ∀ i, i < sz V f → I 125 i = fI (dcX V f b i))
section
variable {G : gG} {d n : Nat} {I : Nat → Nat → Int32} {L : Nat → Nat → Int64} {D : Nat → Nat → UInt64} {V : Nat → Nat}
theorem m_X3_tells {C : Nat → Int32} {f b o m l : Nat} (hV : Vok I V) (hC : Cok I C) (h10 : I 114 10 = nI l) (hl : l < 40) (ho : o < 8) : gRv G YX3_tells d [.ref 114, .int (nI f), .int (nI b), .int (nI o), .int (nI m)] n I L D (fun J => J 114 10 = nI (l + 1) ∧ (∀ i, J 119 i = lnS l f b o m (I 119) i) ∧ Vok J V ∧ Cok J (addC C o (nI 1)) ∧ Sm [114, 115, 119] I J ∧ Sc 114 [10] I J) := by
  refine g_aload_n (pc := 0) dX3_tells_0 rfl rfl ?_
  refine g_getR (pc := 1) dX3_tells_1 fl_X3_27 s_114 (by decide) rfl t_114_9 ?_
  refine g_iconst (v := nI 4) (pc := 4) dX3_tells_4 rfl ?_
  refine g_aload_n (pc := 5) dX3_tells_5 rfl rfl ?_
  refine g_getIV (pc := 6) dX3_tells_6 fl_X3_216 s_114 (by decide) rfl h10 ?_
  refine g_imulN (pc := 9) dX3_tells_9 ?_
  refine g_iload_n (pc := 10) dX3_tells_10 rfl rfl ?_
  refine g_iastoreN (pc := 11) dX3_tells_11 s_119 (by decide) (by omega) (by decide) ?_
  refine g_aload_n (pc := 12) dX3_tells_12 rfl rfl ?_
  refine g_getR (pc := 13) dX3_tells_13 fl_X3_27 s_114 (by decide) rfl t_114_9 ?_
  refine g_iconst (v := nI 4) (pc := 16) dX3_tells_16 rfl ?_
  refine g_aload_n (pc := 17) dX3_tells_17 rfl rfl ?_
  refine g_getIV (pc := 18) dX3_tells_18 fl_X3_216 s_114 (by decide) rfl (gUp_a (by decide) h10) ?_
  refine g_imulN (pc := 21) dX3_tells_21 ?_
  refine g_iconst (v := nI 1) (pc := 22) dX3_tells_22 rfl ?_
  refine g_iaddN (pc := 23) dX3_tells_23 ?_
  refine g_iload_n (pc := 24) dX3_tells_24 rfl rfl ?_
  refine g_iastoreN (pc := 25) dX3_tells_25 s_119 (by decide) (by omega) (by decide) ?_
  refine g_aload_n (pc := 26) dX3_tells_26 rfl rfl ?_
  refine g_getR (pc := 27) dX3_tells_27 fl_X3_27 s_114 (by decide) rfl t_114_9 ?_
  refine g_iconst (v := nI 4) (pc := 30) dX3_tells_30 rfl ?_
  refine g_aload_n (pc := 31) dX3_tells_31 rfl rfl ?_
  refine g_getIV (pc := 32) dX3_tells_32 fl_X3_216 s_114 (by decide) rfl (gUp_a (by decide) (gUp_a (by decide) h10)) ?_
  refine g_imulN (pc := 35) dX3_tells_35 ?_
  refine g_iconst (v := nI 2) (pc := 36) dX3_tells_36 rfl ?_
  refine g_iaddN (pc := 37) dX3_tells_37 ?_
  refine g_iload_n (pc := 38) dX3_tells_38 rfl rfl ?_
  refine g_iastoreN (pc := 39) dX3_tells_39 s_119 (by decide) (by omega) (by decide) ?_
  refine g_aload_n (pc := 40) dX3_tells_40 rfl rfl ?_
  refine g_getR (pc := 41) dX3_tells_41 fl_X3_27 s_114 (by decide) rfl t_114_9 ?_
  refine g_iconst (v := nI 4) (pc := 44) dX3_tells_44 rfl ?_
  refine g_aload_n (pc := 45) dX3_tells_45 rfl rfl ?_
  refine g_getIV (pc := 46) dX3_tells_46 fl_X3_216 s_114 (by decide) rfl (gUp_a (by decide) (gUp_a (by decide) (gUp_a (by decide) h10))) ?_
  refine g_imulN (pc := 49) dX3_tells_49 ?_
  refine g_iconst (v := nI 3) (pc := 50) dX3_tells_50 rfl ?_
  refine g_iaddN (pc := 51) dX3_tells_51 ?_
  refine g_iload (pc := 52) dX3_tells_52 rfl ?_
  refine g_iastoreN (pc := 54) dX3_tells_54 s_119 (by decide) (by omega) (by decide) ?_
  refine g_aload_n (pc := 55) dX3_tells_55 rfl rfl ?_
  refine g_dup (pc := 56) dX3_tells_56 rfl ?_
  refine g_getIV (pc := 57) dX3_tells_57 fl_X3_216 s_114 (by decide) rfl (gUp_a (by decide) (gUp_a (by decide) (gUp_a (by decide) (gUp_a (by decide) h10)))) ?_
  refine g_iconst (v := nI 1) (pc := 60) dX3_tells_60 rfl ?_
  refine g_iaddN (pc := 61) dX3_tells_61 ?_
  refine g_putI (pc := 62) dX3_tells_62 fl_X3_216 s_114 (by decide) rfl rfl rfl rfl ?_
  refine g_aload_n (pc := 65) dX3_tells_65 rfl rfl ?_
  refine g_getR (pc := 66) dX3_tells_66 fl_X3_9 s_114 (by decide) rfl t_114_1 ?_
  refine g_sipush (v := nI 801) (pc := 69) dX3_tells_69 rfl ?_
  refine g_iload_n (pc := 72) dX3_tells_72 rfl rfl ?_
  refine g_iaddN (pc := 73) dX3_tells_73 ?_
  refine g_dup2 (pc := 74) dX3_tells_74 rfl rfl ?_
  refine g_ialoadN (pc := 75) dX3_tells_75 s_115 (by decide) (by omega) (by decide) rfl ?_
  refine g_iconst (v := nI 1) (pc := 76) dX3_tells_76 rfl ?_
  refine g_iadd (pc := 77) dX3_tells_77 ?_
  refine g_iastoreN (pc := 78) dX3_tells_78 s_115 (by decide) (by omega) (by decide) ?_
  refine g_vret (pc := 79) dX3_tells_79 rfl ?_
  refine ⟨_, ⟨rfl, rfl⟩, ?_⟩
  refine ⟨?_, fun i => ?_, ?_, ?_, (by repeat' first | assumption | exact Sm.rfl | exact Sc.rfl | refine Sm.up (by decide) ?_ | refine Sc.up (by decide) ?_ | refine Sc.un (by decide) ?_), (by repeat' first | assumption | exact Sm.rfl | exact Sc.rfl | refine Sm.up (by decide) ?_ | refine Sc.up (by decide) ?_ | refine Sc.un (by decide) ?_)⟩
  · rw [gUp_ne (by decide), gUp_c, if_pos rfl]
  · rw [gUp_ne (by decide), gUp_ne (by decide)]; exact lnS_eq i
  · exact Vok.hi (by omega) (((((hV.o (by decide)).o (by decide)).o (by decide)).o (by decide)).o (by decide))
  · exact Cok.add (((((hC.o (by decide)).o (by decide)).o (by decide)).o (by decide)).o (by decide)) ho rfl
theorem l_X3_scrub4 {I0 : Nat → Nat → Int32} {bud f b left l : Nat} {C : Nat → Int32} {Ls : Nat → Int32} {bd : Int32} (hbud : bud ≤ 200) (hW : WF V) (f1 : f < 8) (f2 : V (10 * f) = 1) (f3 : b < bl V f) (hle : dmN V f b ≤ left) (hlb : left ≤ bud) (hm0 : ¬ dmN V f b = 0) (h1 : Vok I (uV V (10 * f + (6 + b)) (V 800))) (h2 : Cok I (addC (addC C (scO V f b) (nI 1)) 6 (nI (bud - left)))) (h3 : I 114 10 = nI (l + 1)) (h4 : ∀ i, i < 4 * (l + 1) → I 119 i = Ls i) (h6 : Sm [114, 115, 119, 124, 125, 126, 127, 128, 129] I0 I) (h7 : Sc 114 [10, 23, 24, 25, 26, 27, 28] I0 I) (h8 : ∃ M, Rw I M) (hd : dM V f b I) {Q : gQ} (kn : ∀ K, SI I0 K bud (scV V f b) (scC V C f b) (left - dmN V f b) (l + 1) Ls → gGo G YX3_scrub (d + 5) 46 [some (.ref 114), some (.int (nI bud)), some (.int (nI (left - dmN V f b))), some (.int (nxI (scV V f b))), none, none, none, none, none] [] (hp n K L D) 0 0 Q) : gGo G YX3_scrub (d + 5) 191 [some (.ref 114), some (.int (nI bud)), some (.int (nI left)), some (.int (nI (100 * f + b))), some (.int (nI f)), some (.int (nI b)), some (.int bd), some (.int (nI (dmN V f b))), none] [] (hp n I L D) 0 0 Q := by
  have hbl := bl_le (hW.1 f f1)
  have hb4 : b < 4 := by omega
  have g := chk_geo (V := V) (f := f) hb4 (V 800)
  have hWW := WF_chk hW f1 f2 hb4
  have hW1 : uV V (10 * f + (6 + b)) (V 800) (10 * f) = 1 := by rw [uV_n (by omega)]; exact f2
  have hWb : b < bl (uV V (10 * f + (6 + b)) (V 800)) f := by rw [g.1]; exact f3
  have hWS := WF_sc hW f1 f2 f3
  have hdt : isD V f b = true := Classical.byContradiction (fun q => hm0 (by unfold dmN; rw [if_neg q]))
  have hmn : nS (meS V f b) 14 = dmN V f b := by rw [meS_n hdt]; unfold dmN; rw [if_pos hdt]
  obtain ⟨k2, k4, k5, k6⟩ := hd
  obtain ⟨k6a, k6b, k6c⟩ := k6 hdt
  obtain ⟨M, h8⟩ := h8
  refine g_aload_n (pc := 191) dX3_scrub_191 rfl rfl ?_
  refine g_iload (pc := 192) dX3_scrub_192 rfl ?_
  refine g_iload (pc := 194) dX3_scrub_194 rfl ?_
  refine g_riV (av := [.int _, .int _]) (pc := 196) dX3_scrub_196 mt_X3_mends lk_X3_226 im_X3_mends se_X3_mends np_X3_mends s_114 (by decide) (by decide) rfl (gc_i (gc_i gc_0)) (Nat.le_of_ble_eq_true rfl) (Nat.le_of_ble_eq_true rfl) (m_X3_mends (S := meS V f b) (z := sz V f) (X := dcX V f b) h1 h2 hWW f1 hW1 hWb k2 g.2.1.symm k6a k4 rfl (meS_lt hdt) k6c) ?_
  rintro _ I2 ⟨rfl, r1, r2, r3⟩
  rw [hmn] at r2 ⊢
  refine g_istore (pc := 199) dX3_scrub_199 (Nat.le_of_ble_eq_true rfl) rfl ?_
  refine g_iload_n (pc := 201) dX3_scrub_201 rfl rfl ?_
  refine g_iload (pc := 202) dX3_scrub_202 rfl ?_
  refine g_isubN (pc := 204) dX3_scrub_204 (by omega) ?_
  refine g_istore_n (pc := 205) dX3_scrub_205 rfl (Nat.le_of_ble_eq_true rfl) rfl ?_
  refine g_aload_n (pc := 206) dX3_scrub_206 rfl rfl ?_
  refine g_getR (pc := 207) dX3_scrub_207 fl_X3_9 s_114 (by decide) rfl t_114_1 ?_
  refine g_sipush (v := nI 805) (pc := 210) dX3_scrub_210 rfl ?_
  refine g_dup2 (pc := 213) dX3_scrub_213 rfl rfl ?_
  refine g_iaload (pc := 214) dX3_scrub_214 s_115 (by decide) (vp_in_nI (by decide) (by decide)) ?_
  refine g_aload_n (pc := 215) dX3_scrub_215 rfl rfl ?_
  refine g_getIV (pc := 216) dX3_scrub_216 fl_X3_184 s_114 (by decide) rfl (show _ = nI (dcN V f b) from by rw [r3 114 (by decide)]; exact k6b) ?_
  refine g_iadd (pc := 219) dX3_scrub_219 ?_
  refine g_iastore (pc := 220) dX3_scrub_220 s_115 (by decide) (vp_in_nI (by decide) (by decide)) ?_
  refine g_aload_n (pc := 221) dX3_scrub_221 rfl rfl ?_
  refine g_getR (pc := 222) dX3_scrub_222 fl_X3_9 s_114 (by decide) rfl t_114_1 ?_
  refine g_sipush (v := nI 806) (pc := 225) dX3_scrub_225 rfl ?_
  refine g_dup2 (pc := 228) dX3_scrub_228 rfl rfl ?_
  refine g_iaload (pc := 229) dX3_scrub_229 s_115 (by decide) (vp_in_nI (by decide) (by decide)) ?_
  refine g_aload_n (pc := 230) dX3_scrub_230 rfl rfl ?_
  refine g_getIV (pc := 231) dX3_scrub_231 fl_X3_178 s_114 (by decide) rfl (show _ = nI (ern V f b) from gUp_a (by decide) (by rw [r3 114 (by decide)]; exact k5)) ?_
  refine g_iadd (pc := 234) dX3_scrub_234 ?_
  refine g_iastore (pc := 235) dX3_scrub_235 s_115 (by decide) (vp_in_nI (by decide) (by decide)) ?_
  refine g_aload_n (pc := 236) dX3_scrub_236 rfl rfl ?_
  refine g_getR (pc := 237) dX3_scrub_237 fl_X3_9 s_114 (by decide) rfl t_114_1 ?_
  refine g_sipush (v := nI 807) (pc := 240) dX3_scrub_240 rfl ?_
  refine g_dup2 (pc := 243) dX3_scrub_243 rfl rfl ?_
  refine g_iaload (pc := 244) dX3_scrub_244 s_115 (by decide) (vp_in_nI (by decide) (by decide)) ?_
  refine g_iload (pc := 245) dX3_scrub_245 rfl ?_
  refine g_iadd (pc := 247) dX3_scrub_247 ?_
  refine g_iastore (pc := 248) dX3_scrub_248 s_115 (by decide) (vp_in_nI (by decide) (by decide)) ?_
  skip
  have e5 : (nI 805).toNatClampNeg = 801 + 4 := rfl
  have e6 : (nI 806).toNatClampNeg = 801 + 5 := rfl
  have e7 : (nI 807).toNatClampNeg = 801 + 6 := rfl
  rw [e5, e6, e7]
  have r2a := r2.add (k := 4) (x := nI (dcN V f b)) (by decide) rfl
  have r2b := r2a.add (k := 5) (x := nI (ern V f b)) (by decide) rfl
  have r2c := r2b.add (k := 6) (x := nI (dmN V f b)) (by decide) rfl
  have hSf : SI I0 (gUp (gUp (gUp I2 115 (801 + 4) (I2 115 (801 + 4) + nI (dcN V f b))) 115 (801 + 5) ((gUp I2 115 (801 + 4) (I2 115 (801 + 4) + nI (dcN V f b))) 115 (801 + 5) + nI (ern V f b))) 115 (801 + 6) ((gUp (gUp I2 115 (801 + 4) (I2 115 (801 + 4) + nI (dcN V f b))) 115 (801 + 5) ((gUp I2 115 (801 + 4) (I2 115 (801 + 4) + nI (dcN V f b))) 115 (801 + 5) + nI (ern V f b))) 115 (801 + 6) + nI (dmN V f b))) bud (scV V f b) (scC V C f b) (left - dmN V f b) (l + 1) Ls := by
    refine ⟨?_, ?_, ?_, ?_, by omega, ?_, ?_, M, ?_⟩
    · exact Vok.hi (k := 801 + 6) (by decide) (Vok.hi (k := 801 + 5) (by decide) (Vok.hi (k := 801 + 4) (by decide) (by rw [show scV V f b = meV (uV V (10 * f + (6 + b)) (V 800)) V f b from if_neg hm0]; exact r1)))
    · have eC : addC (scC V C f b) 6 (nI (bud - (left - dmN V f b))) = addC (addC (addC (uC (addC (addC C (scO V f b) (nI 1)) 6 (nI (bud - left))) 7 (addC (addC C (scO V f b) (nI 1)) 6 (nI (bud - left)) 7 + nI (dmN V f b))) 4 (nI (dcN V f b))) 5 (nI (ern V f b))) 6 (nI (dmN V f b)) := by
        show _ = addC (addC (addC (addC (addC (addC C (scO V f b) (nI 1)) 6 (nI (bud - left))) 7 (nI (dmN V f b))) 4 (nI (dcN V f b))) 5 (nI (ern V f b))) 6 (nI (dmN V f b))
        rw [addC_com (k := 6) (l := 7) (by decide), addC_com (k := 6) (l := 4) (by decide), addC_com (k := 6) (l := 5) (by decide), addC_add, nI_add]
        unfold scC
        rw [if_neg hm0, show bud - left + dmN V f b = bud - (left - dmN V f b) by omega]
      rw [eC]
      exact r2c
    · rw [gUp_ne (by decide), gUp_ne (by decide), gUp_ne (by decide), r3 114 (by decide)]; exact h3
    · intro i hi
      rw [gUp_ne (by decide), gUp_ne (by decide), gUp_ne (by decide), r3 119 (by decide)]; exact h4 i hi
    · exact Sm.up (by decide) (Sm.up (by decide) (Sm.up (by decide) (Sm.trans h6 (r3.mono (by decide)))))
    · exact Sc.un (by decide) (Sc.un (by decide) (Sc.un (by decide) (Sc.trans h7 (r3.sc (by decide)))))
    · exact h8.s ((gUp_ne (by decide)).trans ((gUp_ne (by decide)).trans ((gUp_ne (by decide)).trans (r3 128 (by decide)))))
  refine g_aload_n (pc := 249) dX3_scrub_249 rfl rfl ?_
  refine g_fV (av := []) (pc := 250) dX3_scrub_250 mt_X3_next lk_X3_219 im_X3_next se_X3_next np_X3_next s_114 (by decide) (by decide) rfl gc_0 (Nat.le_of_ble_eq_true rfl) (Nat.le_of_ble_eq_true rfl) ⟨Nat.zero_le _, Nat.zero_le _⟩ (m_X3_next hSf.1 hWS) ?_
  refine g_istore_n (pc := 253) dX3_scrub_253 rfl (Nat.le_of_ble_eq_true rfl) rfl ?_
  refine g_goto (tgt := 46) (pc := 254) dX3_scrub_254 (by decide) ?_
  refine g_fg 4 (g_fg 5 (g_fg 6 (g_fg 7 (g_fg 8 ?_))))
  exact kn _ hSf
theorem l_X3_scrub3 {I0 : Nat → Nat → Int32} {bud f b left l o : Nat} {C : Nat → Int32} {Ls : Nat → Int32} {bd : Int32} (hbud : bud ≤ 200) (hW : WF V) (f1 : f < 8) (f2 : V (10 * f) = 1) (f3 : b < bl V f) (hle : dmN V f b ≤ left) (ho : o = scO V f b) (hS : SI I0 I bud (uV V (10 * f + (6 + b)) (V 800)) C left l Ls) (hd : dM V f b I) (hln : l < 32) {Q : gQ} (kn : ∀ K, SI I0 K bud (scV V f b) (scC V C f b) (left - dmN V f b) (l + 1) (lnS l f b (scO V f b) (dmN V f b) Ls) → gGo G YX3_scrub (d + 5) 46 [some (.ref 114), some (.int (nI bud)), some (.int (nI (left - dmN V f b))), some (.int (nxI (scV V f b))), none, none, none, none, none] [] (hp n K L D) 0 0 Q) : gGo G YX3_scrub (d + 5) 178 [some (.ref 114), some (.int (nI bud)), some (.int (nI left)), some (.int (nI (100 * f + b))), some (.int (nI f)), some (.int (nI b)), some (.int bd), some (.int (nI (dmN V f b))), none] [.int (nI o), .int (nI b), .int (nI f), .ref 114] (hp n I L D) 0 0 Q := by
  have ho8 : o < 8 := by rw [ho]; exact scO_3
  have hWS := WF_sc hW f1 f2 f3
  obtain ⟨h1, h2, h3, h4, h5, h6, h7, M, h8⟩ := hS
  refine g_iload (pc := 178) dX3_scrub_178 rfl ?_
  refine g_rvV (av := [.int _, .int _, .int _, .int _]) (pc := 180) dX3_scrub_180 mt_X3_tells lk_X3_222 im_X3_tells se_X3_tells np_X3_tells s_114 (by decide) (by decide) rfl (gc_i (gc_i (gc_i (gc_i gc_0)))) (Nat.le_of_ble_eq_true rfl) (Nat.le_of_ble_eq_true rfl) (m_X3_tells h1 h2 h3 (by omega) ho8) ?_
  rintro I1 ⟨q1, q2, q3, q4, q5, q6⟩
  have qL : ∀ i, i < 4 * (l + 1) → I1 119 i = lnS l f b (scO V f b) (dmN V f b) Ls i := fun i hi => by rw [q2 i, ← ho]; exact lnS_ext h4 hi
  have q4b : Cok I1 (addC (addC C (scO V f b) (nI 1)) 6 (nI (bud - left))) := by rw [addC_com scO_6, ← ho]; exact q4
  have u6 : Sm [114, 115, 119, 124, 125, 126, 127, 128, 129] I0 I1 := Sm.trans h6 (q5.mono (by decide))
  have u7 : Sc 114 [10, 23, 24, 25, 26, 27, 28] I0 I1 := Sc.trans h7 (q6.mono (by decide))
  have u8 : Rw I1 M := h8.s (q5 128 (by decide))
  have hd1 : dM V f b I1 := ⟨by rw [q6 23 (by decide)]; exact hd.1, by rw [q6 25 (by decide)]; exact hd.2.1, by rw [q6 28 (by decide)]; exact hd.2.2.1, fun w => ⟨by rw [q6 26 (by decide)]; exact (hd.2.2.2 w).1, by rw [q6 27 (by decide)]; exact (hd.2.2.2 w).2.1, fun i hi => by rw [q5 125 (by decide)]; exact (hd.2.2.2 w).2.2 i hi⟩⟩
  refine g_iload (pc := 183) dX3_scrub_183 rfl ?_
  refine g_if_neN (tgt := 191) (pc := 185) dX3_scrub_185 (by decide) (by omega) (fun c185 => ?_) (fun c185 => ?_)
  rotate_left
  · have eV : scV V f b = uV V (10 * f + (6 + b)) (V 800) := if_pos c185
    have eC : scC V C f b = addC C (scO V f b) (nI 1) := if_pos c185
    have eL : left - dmN V f b = left := by rw [c185]; rfl
    rw [eV, eC, eL] at kn
    rw [eV] at hWS
    refine g_goto (tgt := 249) (pc := 188) dX3_scrub_188 (by decide) ?_
    refine g_aload_n (pc := 249) dX3_scrub_249 rfl rfl ?_
    refine g_fV (av := []) (pc := 250) dX3_scrub_250 mt_X3_next lk_X3_219 im_X3_next se_X3_next np_X3_next s_114 (by decide) (by decide) rfl gc_0 (Nat.le_of_ble_eq_true rfl) (Nat.le_of_ble_eq_true rfl) ⟨Nat.zero_le _, Nat.zero_le _⟩ (m_X3_next q3 hWS) ?_
    refine g_istore_n (pc := 253) dX3_scrub_253 rfl (Nat.le_of_ble_eq_true rfl) rfl ?_
    refine g_goto (tgt := 46) (pc := 254) dX3_scrub_254 (by decide) ?_
    refine g_fg 4 (g_fg 5 (g_fg 6 (g_fg 7 ?_)))
    exact kn I1 ⟨q3, q4b, q1, qL, h5, u6, u7, M, u8⟩
  exact l_X3_scrub4 hbud hW f1 f2 f3 hle h5 c185 q3 q4b q1 qL u6 u7 ⟨M, u8⟩ hd1 kn
end

