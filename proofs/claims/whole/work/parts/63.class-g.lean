/-! ===== the class: repair and scrubbing ===== -/
theorem Kt.e {I J : Nat → Nat → Int32} (h : Kt I) (e1 : J 1 = I 1) (e2 : J 2 = I 2) : Kt J := ⟨fun k hk => by rw [e1]; exact h.1 k hk, fun a => by rw [e2]; exact h.2 a⟩
/-- what a change with decoding leaves -/
def Fdc (I J : Nat → Nat → Int32) : Prop := (∀ a, a < 3 ∨ (16 ≤ a ∧ a < 29) ∨ a = 39 ∨ a = 40 ∨ 114 ≤ a → J a = I a) ∧ Sc 3 [11, 12] I J
theorem Fdc.t {I J K : Nat → Nat → Int32} (h : Fdc I J) (k : Fdc J K) : Fdc I K := ⟨fun a ha => (k.1 a ha).trans (h.1 a ha), Sc.trans h.2 k.2⟩
theorem Fc.d {I J : Nat → Nat → Int32} (h : Fc I J) : Fdc I J := ⟨fun a ha => h.1 a (by omega), h.2⟩
theorem Qs.d {I J : Nat → Nat → Int32} (h : Qs I J) : Fdc I J := ⟨fun a ha => h a (by intro q; simp at q; omega), h.sc (by decide)⟩
theorem Qs.c {I J : Nat → Nat → Int32} {V : Nat → Nat} {C : Nat → Int32} {H : hT} {m o : Nat} (h : Qs I J) (k : Cs I V C H m o) : Cs J V C H m o := k.f (h.s k.1) (fun a h1 h2 => h a (by intro q; simp at q; omega)) (by rw [h 3 (by decide)]) (by rw [h 3 (by decide)])
/-- what the decoder holds, of use behind decoding -/
def dM0 (V : Nat → Nat) (f b : Nat) (I : Nat → Nat → Int32) : Prop := I 29 6 = nI (erN V f b) ∧ (isD V f b = true → I 29 7 = nI (dcE V f b) ∧ I 29 8 = nI 1 ∧ ∀ i, i < sz V f → I 31 i = fI (dcX V f b i)) ∧ (¬ isD V f b = true → I 29 8 = nI 0)
theorem dQ.m {V : Nat → Nat} {f b : Nat} {I J : Nat → Nat → Int32} {v : Int32} (h : dQ V f b I v J) : dM0 V f b J := ⟨h.2.2.1, h.2.2.2.1, h.2.2.2.2.1⟩
theorem dM0.s {V : Nat → Nat} {f b : Nat} {I J : Nat → Nat → Int32} (h : dM0 V f b I) (e : J 29 = I 29) (e2 : J 31 = I 31) : dM0 V f b J := ⟨by rw [e]; exact h.1, fun q => by rw [e, e2]; exact h.2.1 q, fun q => by rw [e]; exact h.2.2 q⟩
theorem Snap.chk {I : Nat → Nat → Int32} {V : Nat → Nat} {C : Nat → Int32} {f b x : Nat} (h : Snap I 4 V C) (hbl : ∀ j, j < 8 → bl V j ≤ 4) (hf : f < 8) (hb : b < 4) : Snap (gUp I 15 (4 * f + b) (nI x)) 4 (uV V (10 * f + (6 + b)) x) C := by
  obtain ⟨h1, h2, h3, h4, h5⟩ := h
  have hbb : ∀ j, j < 8 → bl (uV V (10 * f + (6 + b)) x) j = bl V j := fun j hj => by unfold bl; rw [uV_n (by omega)]
  refine ⟨fun i hi => ?_, fun k hk => ?_, fun j hj => ?_, fun j hj q hq => ?_, ?_⟩
  · rw [gUp_ne (by decide), gUp_ne (by decide), gUp_ne (by decide), uV_n (by omega), uV_n (by omega), uV_n (by omega)]; exact h1 i hi
  · rw [gUp_ne (by decide)]; exact h2 k hk
  · rw [gUp_ne (by decide), gUp_ne (by decide), gUp_ne (by decide), gUp_ne (by decide), gUp_ne (by decide), gUp_ne (by decide), hbb j hj, uV_n (by omega), uV_n (by omega), uV_n (by omega), uV_n (by omega), uV_n (by omega)]; exact h3 j hj
  · rw [hbb j hj] at hq
    have hb4 := hbl j hj
    show gUp I 15 (4 * f + b) (nI x) 15 _ = _
    rw [gUp_c]
    by_cases e : 4 * j + q = 4 * f + b
    · rw [if_pos e, show 10 * j + (6 + q) = 10 * f + (6 + b) by omega, uV_s]
    · rw [if_neg e, uV_n (by omega)]; exact h4 j hj q hq
  · rw [gUp_ne (by decide), uV_n (by omega)]; exact h5
theorem wrV_uV {V : Nat → Nat} {k x c y : Nat} (hk : k < 80) (hc : c < 240) : wrV (uV V k x) c y = uV (wrV V c y) k x := by
  funext i
  unfold wrV uV
  by_cases e : i = k
  · have n1 : ¬ i = 560 + c := by omega
    have n2 : ¬ i = 320 + c := by omega
    have n3 : ¬ i = 80 + c := by omega
    simp only [if_neg n1, if_neg n2, if_neg n3, if_pos e]
  · simp only [if_neg e]
theorem mnV_uV {V : Nat → Nat} {j b S x q : Nat} {X : Nat → F6} (hw : WFj V j) (h1 : V (10 * j) = 1) (hb : b < bl V j) (hj : j < 8) (hq : q < 4) : ∀ k, k ≤ sz V j → mnV (uV V (10 * j + (6 + q)) x) j b S X k = uV (mnV V j b S X k) (10 * j + (6 + q)) x
  | 0, _ => rfl
  | k + 1, hk => by
    have ih := mnV_uV (S := S) (x := x) (X := X) hw h1 hb hj hq k (by omega)
    have hcl := cellN_lt hw h1 hb (i := k) (by omega)
    have hcu := (chk_geo (V := V) (f := j) hq x).2.2 b k
    rw [mnV, mnV, ih, hcu]
    by_cases ht : S.testBit k = true
    · rw [if_pos ht, if_pos ht]
      exact wrV_uV (by omega) hcl
    · rw [if_neg ht, if_neg ht]
section
variable {G : gG} {d n : Nat} {I : Nat → Nat → Int32} {L : Nat → Nat → Int64} {D : Nat → Nat → UInt64} {V : Nat → Nat}
variable {C : Nat → Int32} {H : hT} {m o : Nat}
theorem m_X0_dm {f b : Nat} (h : dM0 V f b I) (hsz : sz V f ≤ 14) : gFn G YX0_damageCount (d + 1) [.ref 29] (hp n I L D) (.inl (some (.int (nI (dmN V f b))))) (hp n I L D) 0 0 := by
  obtain ⟨k2, k3, k4⟩ := h
  by_cases hd : isD V f b = true
  · have hl : dcE V f b ||| erN V f b < 16384 := Nat.lt_of_lt_of_le (meS_lt hd) (p14 hsz)
    rw [show dmN V f b = nS (dcE V f b ||| erN V f b) 14 by unfold dmN; rw [if_pos hd]; exact (meS_n hd).symm]
    exact m_X0_damageCount_t (k3 hd).2.1 (k3 hd).1 k2 hl
  · rw [show dmN V f b = 0 by unfold dmN; rw [if_neg hd]]
    exact m_X0_damageCount_f (k4 hd)
theorem m_X2_writeFound (hS : Snap I 4 V C) (hW : WF V) {j b : Nat} (hj : j < 8) (h1 : V (10 * j) = 1) (hb : b < bl V j) {S : Nat} (hSl : S < 2 ^ sz V j) {X : Nat → F6} (hX : ∀ i, i < sz V j → I 31 i = fI (X i)) : gRv G YX2_writeFound (d + 4) [.ref 3, .int (nI j), .int (nI b), .int (nI S)] n I L D (fun J => Snap J 4 (mnV V j b S X (sz V j)) (addC C 7 (nI (nS S 14))) ∧ Sm [5, 6, 7, 8] I J) := by
  have hw := hW.1 j hj
  have hsz := sz_le hw
  have hp9 := p14 (show sz V j ≤ 14 by omega)
  refine g_iconst (v := nI 0) (pc := 0) dX2_writeFound_0 rfl ?_
  refine g_istore (pc := 1) dX2_writeFound_1 (Nat.le_of_ble_eq_true rfl) rfl ?_
  refine g_loop (sz V j) (fun k J => Snap J 4 (mnV V j b S X k) C ∧ Sm [5, 6, 7] I J) (fun k _ => [some (.ref 3), some (.int (nI j)), some (.int (nI b)), some (.int (nI S)), some (.int (nI k))]) (fun J => hp n J L D) (fun k J hk hJ kn => ?_) (fun J hJ => ?_) 0 I (Nat.zero_le _) ⟨hS, Sm.rfl⟩
  · obtain ⟨u1, u2⟩ := hJ
    have hWk := WF_mn (S := S) (X := X) hW hj h1 hb k (by omega)
    have hlo : ∀ i, i < 80 → mnV V j b S X k i = V i := fun i hi => mnV_lo hw h1 hb (Or.inl hi) k (by omega)
    have e0 : sz (mnV V j b S X k) j = sz V j := by unfold sz; rw [hlo _ (by omega)]
    have eb : bl (mnV V j b S X k) j = bl V j := by unfold bl; rw [hlo _ (by omega)]
    have ec : cellN (mnV V j b S X k) j b k = cellN V j b k := cellN_ext (fun i hi => hlo _ (by omega))
    have hcl := cellN_lt hw h1 hb (i := k) hk
    have hbs := m_X1_blockSize (G := G) (d := d + 3) (n := n) (L := L) (D := D) u1 hWk hj
    rw [e0] at hbs
    have hca := m_X1_cellAt (G := G) (d := d + 2) (n := n) (L := L) (D := D) (b := b) (i := k) u1 hWk hj (by rw [hlo _ (by omega)]; exact h1) (by rw [eb]; exact hb)
    rw [ec] at hca
    refine g_iload (pc := 3) dX2_writeFound_3 rfl ?_
    refine g_aload_n (pc := 5) dX2_writeFound_5 rfl rfl ?_
    refine g_getR (pc := 6) dX2_writeFound_6 fl_X2_12 s_3 (by decide) rfl t_3_0 ?_
    refine g_iload_n (pc := 9) dX2_writeFound_9 rfl rfl ?_
    refine g_fV (av := [.int _]) (pc := 10) dX2_writeFound_10 mt_X1_blockSize lk_X2_323 im_X1_blockSize se_X1_blockSize np_X1_blockSize s_4 (by decide) (by decide) rfl (gc_i gc_0) (Nat.le_of_ble_eq_true rfl) (Nat.le_of_ble_eq_true rfl) ⟨Nat.zero_le _, Nat.zero_le _⟩ hbs ?_
    refine g_icmp_geN (tgt := 59) (pc := 13) dX2_writeFound_13 (by decide) (by omega) (by omega) (fun c13 => ?_) (fun c13 => ?_)
    · omega
    refine g_iload_n (pc := 16) dX2_writeFound_16 rfl rfl ?_
    refine g_iload (pc := 17) dX2_writeFound_17 rfl ?_
    refine g_ishr (pc := 19) dX2_writeFound_19 ?_
    refine g_iconst (v := nI 1) (pc := 20) dX2_writeFound_20 rfl ?_
    refine g_iand (pc := 21) dX2_writeFound_21 ?_
    rw [bt_n (show S < 2 ^ 31 by omega) (by omega)]
    refine g_if_eqN (tgt := 53) (pc := 22) dX2_writeFound_22 (by decide) (by split <;> decide) (fun c22 => ?_) (fun c22 => ?_)
    · have hbt := bq_f c22
      have e : mnV V j b S X (k + 1) = mnV V j b S X k := by rw [mnV, if_neg (by rw [hbt]; decide)]
      rw [e] at kn
      refine g_iincN (pc := 53) dX2_writeFound_53 (Nat.le_of_ble_eq_true rfl) rfl rfl ?_
      refine g_goto (tgt := 3) (pc := 56) dX2_writeFound_56 (by decide) ?_
      first
        | exact kn _ ⟨k1, Sm.trans u2 k2⟩
        | exact kn _ ⟨u1, u2⟩
    · have hbt := bq_t c22
      have e : mnV V j b S X (k + 1) = wrV (mnV V j b S X k) (cellN V j b k) (X k).val := by rw [mnV, if_pos hbt]
      rw [e] at kn
      refine g_aload_n (pc := 25) dX2_writeFound_25 rfl rfl ?_
      refine g_getR (pc := 26) dX2_writeFound_26 fl_X2_12 s_3 (by decide) rfl t_3_0 ?_
      refine g_aload_n (pc := 29) dX2_writeFound_29 rfl rfl ?_
      refine g_getR (pc := 30) dX2_writeFound_30 fl_X2_12 s_3 (by decide) rfl t_3_0 ?_
      refine g_iload_n (pc := 33) dX2_writeFound_33 rfl rfl ?_
      refine g_iload_n (pc := 34) dX2_writeFound_34 rfl rfl ?_
      refine g_iload (pc := 35) dX2_writeFound_35 rfl ?_
      refine g_fV (av := [.int _, .int _, .int _]) (pc := 37) dX2_writeFound_37 mt_X1_cellAt lk_X2_158 im_X1_cellAt se_X1_cellAt np_X1_cellAt s_4 (by decide) (by decide) rfl (gc_i (gc_i (gc_i gc_0))) (Nat.le_of_ble_eq_true rfl) (Nat.le_of_ble_eq_true rfl) ⟨Nat.zero_le _, Nat.zero_le _⟩ hca ?_
      refine g_aload_n (pc := 40) dX2_writeFound_40 rfl rfl ?_
      refine g_getR (pc := 41) dX2_writeFound_41 fl_X2_26 s_3 (by decide) rfl t_3_3 ?_
      refine g_getR (pc := 44) dX2_writeFound_44 fl_X2_236 s_29 (by decide) rfl t_29_1 ?_
      refine g_iload (pc := 47) dX2_writeFound_47 rfl ?_
      refine g_ialoadN (pc := 49) dX2_writeFound_49 s_31 (by decide) (by omega) (by decide) (show _ = fI (X k) from by rw [u2 31 (by decide)]; exact hX k hk) ?_
      refine g_rvV (av := [.int _, .int _]) (pc := 50) dX2_writeFound_50 mt_X1_write lk_X2_343 im_X1_write se_X1_write np_X1_write s_4 (by decide) (by decide) rfl (gc_i (gc_i gc_0)) (Nat.le_of_ble_eq_true rfl) (Nat.le_of_ble_eq_true rfl) (m_X1_write u1 hWk hcl) ?_
      rintro I2 ⟨k1, k2⟩
      refine g_iincN (pc := 53) dX2_writeFound_53 (Nat.le_of_ble_eq_true rfl) rfl rfl ?_
      refine g_goto (tgt := 3) (pc := 56) dX2_writeFound_56 (by decide) ?_
      first
        | exact kn _ ⟨k1, Sm.trans u2 k2⟩
        | exact kn _ ⟨u1, u2⟩
  · obtain ⟨u1, u2⟩ := hJ
    have hWk := WF_mn (S := S) (X := X) hW hj h1 hb (sz V j) (Nat.le_refl _)
    have e0 : sz (mnV V j b S X (sz V j)) j = sz V j := by
      show mnV V j b S X (sz V j) (10 * j + 2) + 8 = _
      rw [mnV_lo hw h1 hb (Or.inl (by omega)) _ (Nat.le_refl _)]; rfl
    have hbs := m_X1_blockSize (G := G) (d := d + 3) (n := n) (L := L) (D := D) u1 hWk hj
    rw [e0] at hbs
    refine g_iload (pc := 3) dX2_writeFound_3 rfl ?_
    refine g_aload_n (pc := 5) dX2_writeFound_5 rfl rfl ?_
    refine g_getR (pc := 6) dX2_writeFound_6 fl_X2_12 s_3 (by decide) rfl t_3_0 ?_
    refine g_iload_n (pc := 9) dX2_writeFound_9 rfl rfl ?_
    refine g_fV (av := [.int _]) (pc := 10) dX2_writeFound_10 mt_X1_blockSize lk_X2_323 im_X1_blockSize se_X1_blockSize np_X1_blockSize s_4 (by decide) (by decide) rfl (gc_i gc_0) (Nat.le_of_ble_eq_true rfl) (Nat.le_of_ble_eq_true rfl) ⟨Nat.zero_le _, Nat.zero_le _⟩ hbs ?_
    refine g_icmp_geN (tgt := 59) (pc := 13) dX2_writeFound_13 (by decide) (by omega) (by omega) (fun c13 => ?_) (fun c13 => ?_)
    rotate_left
    · omega
    refine g_aload_n (pc := 59) dX2_writeFound_59 rfl rfl ?_
    refine g_getR (pc := 60) dX2_writeFound_60 fl_X2_12 s_3 (by decide) rfl t_3_0 ?_
    refine g_getR (pc := 63) dX2_writeFound_63 fl_X2_268 s_4 (by decide) rfl t_4_3 ?_
    refine g_bipush (v := nI 7) (pc := 66) dX2_writeFound_66 rfl ?_
    refine g_dup2 (pc := 68) dX2_writeFound_68 rfl rfl ?_
    refine g_ialoadN (pc := 69) dX2_writeFound_69 s_8 (by decide) (by omega) (by decide) (u1.2.1 7 (by decide)) ?_
    refine g_iload_n (pc := 70) dX2_writeFound_70 rfl rfl ?_
    refine g_fS (av := [.int _]) (pc := 71) dX2_writeFound_71 mt_J6_bitCount_0f7a4 lk_X2_226 sf_J6_bitCount_0f7a4 np_J6_bitCount_0f7a4 rfl (gc_i gc_0) (Nat.le_of_ble_eq_true rfl) (Nat.le_of_ble_eq_true rfl) ⟨Nat.zero_le _, Nat.zero_le _⟩ (m_J6_bitCount (show S < 16384 by omega)) ?_
    refine g_iadd (pc := 74) dX2_writeFound_74 ?_
    refine g_iastoreN (pc := 75) dX2_writeFound_75 s_8 (by decide) (by omega) (by decide) ?_
    refine g_vret (pc := 76) dX2_writeFound_76 rfl ?_
    refine ⟨_, ⟨rfl, rfl⟩, ?_⟩
    exact ⟨Snap.cnt u1 (by decide), Sm.up (by decide) (u2.mono (by decide))⟩
theorem m_X2_repair_1 (hS : Snap I 4 V C) (hW : WF V) {f b : Int32} (hb : ¬ ∃ j k, j < 8 ∧ V (10 * j) = 1 ∧ k < bl V j ∧ f = nI j ∧ b = nI k) : gX G YX2_repair (d + 9) [.ref 3, .int f, .int b] n I L D (.inr "java/lang/IndexOutOfBoundsException") (fun J => J = I) := by
  refine g_aload_n (pc := 0) dX2_repair_0 rfl rfl ?_
  refine g_getR (pc := 1) dX2_repair_1 fl_X2_12 s_3 (by decide) rfl t_3_0 ?_
  refine g_iload_n (pc := 4) dX2_repair_4 rfl rfl ?_
  refine g_iload_n (pc := 5) dX2_repair_5 rfl rfl ?_
  refine g_fV (av := [.int _, .int _]) (pc := 6) dX2_repair_6 mt_X1_hasBlock lk_X2_202 im_X1_hasBlock se_X1_hasBlock np_X1_hasBlock s_4 (by decide) (by decide) rfl (gc_i (gc_i gc_0)) (Nat.le_of_ble_eq_true rfl) (Nat.le_of_ble_eq_true rfl) ⟨Nat.zero_le _, Nat.zero_le _⟩ (m_X1_hasBlock_f hS hW hb) ?_
  refine g_if_neN (tgt := 22) (pc := 9) dX2_repair_9 (by decide) (by omega) (fun c9 => ?_) (fun c9 => ?_)
  · exact absurd c9 (by decide)
  · refine g_throw (pc := 12) th_X2_repair_12 (Nat.le_of_ble_eq_true rfl) (Nat.le_of_ble_eq_true rfl) ?_
    exact ⟨_, ⟨rfl, rfl⟩, rfl⟩
theorem m_X2_repair_2 (hK : Kt I) (hS : Snap I 4 V C) (hW : WF V) {j b : Nat} (hj : j < 8) (h1 : V (10 * j) = 1) (hb : b < bl V j) (hd : ¬ isD V j b = true) : gX G YX2_repair (d + 9) [.ref 3, .int (nI j), .int (nI b)] n I L D (.inr "java/lang/UnsupportedOperationException") (fun J => Qs I J) := by
  refine g_aload_n (pc := 0) dX2_repair_0 rfl rfl ?_
  refine g_getR (pc := 1) dX2_repair_1 fl_X2_12 s_3 (by decide) rfl t_3_0 ?_
  refine g_iload_n (pc := 4) dX2_repair_4 rfl rfl ?_
  refine g_iload_n (pc := 5) dX2_repair_5 rfl rfl ?_
  refine g_fV (av := [.int _, .int _]) (pc := 6) dX2_repair_6 mt_X1_hasBlock lk_X2_202 im_X1_hasBlock se_X1_hasBlock np_X1_hasBlock s_4 (by decide) (by decide) rfl (gc_i (gc_i gc_0)) (Nat.le_of_ble_eq_true rfl) (Nat.le_of_ble_eq_true rfl) ⟨Nat.zero_le _, Nat.zero_le _⟩ (m_X1_hasBlock_t hS hW hj h1 hb) ?_
  refine g_if_neN (tgt := 22) (pc := 9) dX2_repair_9 (by decide) (by omega) (fun c9 => ?_) (fun c9 => ?_)
  · refine g_aload_n (pc := 22) dX2_repair_22 rfl rfl ?_
    refine g_getR (pc := 23) dX2_repair_23 fl_X2_26 s_3 (by decide) rfl t_3_3 ?_
    refine g_aload_n (pc := 26) dX2_repair_26 rfl rfl ?_
    refine g_getR (pc := 27) dX2_repair_27 fl_X2_12 s_3 (by decide) rfl t_3_0 ?_
    refine g_iload_n (pc := 30) dX2_repair_30 rfl rfl ?_
    refine g_iload_n (pc := 31) dX2_repair_31 rfl rfl ?_
    refine g_riV (av := [.ref 4, .int _, .int _]) (pc := 32) dX2_repair_32 mt_X0_decode lk_X2_219 im_X0_decode se_X0_decode np_X0_decode s_29 (by decide) (by decide) rfl (gc_r (gc_i (gc_i gc_0))) (Nat.le_of_ble_eq_true rfl) (Nat.le_of_ble_eq_true rfl) (m_X0_decode hK hS hW hj h1 hb) ?_
    rintro _ I1 ⟨rfl, k1, k2, k3, k4, k5⟩
    refine g_if_neB (tgt := 48) (pc := 35) dX2_repair_35 (by decide) (fun c35 => ?_) (fun c35 => ?_)
    · exact absurd c35 hd
    refine g_throw (pc := 38) th_X2_repair_38 (Nat.le_of_ble_eq_true rfl) (Nat.le_of_ble_eq_true rfl) ?_
    exact ⟨_, ⟨rfl, rfl⟩, k5.mono (by decide)⟩
  · exact absurd c9 (by decide)
theorem m_X2_repair_0 (hK : Kt I) (h : Cs I V C H m o) (hW : WF V) {j b : Nat} (hj : j < 8) (h1 : V (10 * j) = 1) (hb : b < bl V j) (hd : isD V j b = true) : gX G YX2_repair (d + 9) [.ref 3, .int (nI j), .int (nI b)] n I L D (.inl (some (.int (nI (dcN V j b + ern V j b))))) (fun J => (∃ o2, Cs J (meV V V j b) (addC C 7 (nI (dcN V j b + ern V j b))) (push H m (V, C)) (pm m) o2) ∧ Fdc I J) := by
  have hS := h.1
  have hsz := sz_le (hW.1 j hj)
  have hme := meS_n hd
  have hdm : dmN V j b = dcN V j b + ern V j b := by unfold dmN; rw [if_pos hd]
  refine g_aload_n (pc := 0) dX2_repair_0 rfl rfl ?_
  refine g_getR (pc := 1) dX2_repair_1 fl_X2_12 s_3 (by decide) rfl t_3_0 ?_
  refine g_iload_n (pc := 4) dX2_repair_4 rfl rfl ?_
  refine g_iload_n (pc := 5) dX2_repair_5 rfl rfl ?_
  refine g_fV (av := [.int _, .int _]) (pc := 6) dX2_repair_6 mt_X1_hasBlock lk_X2_202 im_X1_hasBlock se_X1_hasBlock np_X1_hasBlock s_4 (by decide) (by decide) rfl (gc_i (gc_i gc_0)) (Nat.le_of_ble_eq_true rfl) (Nat.le_of_ble_eq_true rfl) ⟨Nat.zero_le _, Nat.zero_le _⟩ (m_X1_hasBlock_t hS hW hj h1 hb) ?_
  refine g_if_neN (tgt := 22) (pc := 9) dX2_repair_9 (by decide) (by omega) (fun c9 => ?_) (fun c9 => ?_)
  · refine g_aload_n (pc := 22) dX2_repair_22 rfl rfl ?_
    refine g_getR (pc := 23) dX2_repair_23 fl_X2_26 s_3 (by decide) rfl t_3_3 ?_
    refine g_aload_n (pc := 26) dX2_repair_26 rfl rfl ?_
    refine g_getR (pc := 27) dX2_repair_27 fl_X2_12 s_3 (by decide) rfl t_3_0 ?_
    refine g_iload_n (pc := 30) dX2_repair_30 rfl rfl ?_
    refine g_iload_n (pc := 31) dX2_repair_31 rfl rfl ?_
    refine g_riV (av := [.ref 4, .int _, .int _]) (pc := 32) dX2_repair_32 mt_X0_decode lk_X2_219 im_X0_decode se_X0_decode np_X0_decode s_29 (by decide) (by decide) rfl (gc_r (gc_i (gc_i gc_0))) (Nat.le_of_ble_eq_true rfl) (Nat.le_of_ble_eq_true rfl) (m_X0_decode hK hS hW hj h1 hb) ?_
    rintro v1 I1 ⟨rfl, k1, k2, k3, k4, k5⟩
    refine g_if_neB (tgt := 48) (pc := 35) dX2_repair_35 (by decide) (fun c35 => ?_) (fun c35 => ?_)
    rotate_left
    · exact absurd hd c35
    refine g_aload_n (pc := 48) dX2_repair_48 rfl rfl ?_
    refine g_rvV (av := []) (pc := 49) dX2_repair_49 mt_X2_remember lk_X2_101 im_X2_remember se_X2_remember np_X2_remember s_3 (by decide) (by decide) rfl gc_0 (Nat.le_of_ble_eq_true rfl) (Nat.le_of_ble_eq_true rfl) (m_X2_remember (Qs.c (Sm.mono k5 (by decide)) h) hW) ?_
    rintro I2 ⟨⟨o2, hC2⟩, hR⟩
    refine g_aload_n (pc := 52) dX2_repair_52 rfl rfl ?_
    refine g_iload_n (pc := 53) dX2_repair_53 rfl rfl ?_
    refine g_iload_n (pc := 54) dX2_repair_54 rfl rfl ?_
    refine g_aload_n (pc := 55) dX2_repair_55 rfl rfl ?_
    refine g_getR (pc := 56) dX2_repair_56 fl_X2_26 s_3 (by decide) rfl t_3_3 ?_
    refine g_getIV (pc := 59) dX2_repair_59 fl_X2_233 s_29 (by decide) rfl (show _ = nI (dcE V j b) from by rw [hR.1 29 (by omega)]; exact (k3 hd).1) ?_
    refine g_aload_n (pc := 62) dX2_repair_62 rfl rfl ?_
    refine g_getR (pc := 63) dX2_repair_63 fl_X2_26 s_3 (by decide) rfl t_3_3 ?_
    refine g_getIV (pc := 66) dX2_repair_66 fl_X2_223 s_29 (by decide) rfl (show _ = nI (erN V j b) from by rw [hR.1 29 (by omega)]; exact k2) ?_
    refine g_ior (pc := 69) dX2_repair_69 ?_
    rw [nI_or]
    refine g_rvV (av := [.int _, .int _, .int _]) (pc := 70) dX2_repair_70 mt_X2_writeFound lk_X2_278 im_X2_writeFound se_X2_writeFound np_X2_writeFound s_3 (by decide) (by decide) rfl (gc_i (gc_i (gc_i gc_0))) (Nat.le_of_ble_eq_true rfl) (Nat.le_of_ble_eq_true rfl) (m_X2_writeFound hC2.1 hW hj h1 hb (meS_lt hd) (X := dcX V j b) (fun i hi => by rw [hR.1 31 (by omega)]; exact (k3 hd).2.2 i hi)) ?_
    rintro I3 ⟨q1, q2⟩
    refine g_aload_n (pc := 73) dX2_repair_73 rfl rfl ?_
    refine g_getR (pc := 74) dX2_repair_74 fl_X2_26 s_3 (by decide) rfl t_3_3 ?_
    refine g_fV (av := []) (pc := 77) dX2_repair_77 mt_X0_damageCount lk_X2_241 im_X0_damageCount se_X0_damageCount np_X0_damageCount s_29 (by decide) (by decide) rfl gc_0 (Nat.le_of_ble_eq_true rfl) (Nat.le_of_ble_eq_true rfl) ⟨Nat.zero_le _, Nat.zero_le _⟩ (m_X0_dm (f := j) (b := b) (dM0.s (I := I1) ⟨k2, k3, k4⟩ (by rw [q2 29 (by decide), hR.1 29 (by omega)]) (by rw [q2 31 (by decide), hR.1 31 (by omega)])) hsz.1) ?_
    refine g_iret (pc := 80) dX2_repair_80 rfl rfl ?_
    refine ⟨_, ⟨by rw [hdm], rfl⟩, ⟨o2, ?_⟩, (Qs.d (Sm.mono k5 (by decide))).t (hR.c.d.t (Fc.s q2 (by intro a ha; simp at ha; omega)).d)⟩
    rw [← hme]
    exact hC2.up q1 q2 (by intro a ha; simp at ha; omega)
  · exact absurd c9 (by decide)
theorem lnS_e40 {J : Nat → Nat → Int32} {l f b o m : Nat} (i : Nat) : gUp (gUp (gUp (gUp J 40 (4 * l) (nI f)) 40 (4 * l + 1) (nI b)) 40 (4 * l + 2) (nI o)) 40 (4 * l + 3) (nI m) 40 i = lnS l f b o m (J 40) i := by
  unfold lnS
  rw [gUp_c, gUp_c, gUp_c, gUp_c]
theorem m_X2_addLine {f b q l : Nat} {mm : Nat} (h8 : I 3 8 = nI l) (hl : l < 32) : gRv G YX2_addLine d [.ref 3, .int (nI f), .int (nI b), .int (nI q), .int (nI mm)] n I L D (fun J => J 3 8 = nI (l + 1) ∧ (∀ i, J 40 i = lnS l f b q mm (I 40) i) ∧ Sm [3, 40] I J ∧ Sc 3 [8] I J) := by
  have e4 : l * 4 = 4 * l := Nat.mul_comm _ _
  refine g_aload_n (pc := 0) dX2_addLine_0 rfl rfl ?_
  refine g_getIV (pc := 1) dX2_addLine_1 fl_X2_45 s_3 (by decide) rfl h8 ?_
  refine g_bipush (v := nI 32) (pc := 4) dX2_addLine_4 rfl ?_
  refine g_icmp_ltN (tgt := 10) (pc := 6) dX2_addLine_6 (by decide) (by omega) (by omega) (fun c6 => ?_) (fun c6 => ?_)
  rotate_left
  · omega
  refine g_aload_n (pc := 10) dX2_addLine_10 rfl rfl ?_
  refine g_getIV (pc := 11) dX2_addLine_11 fl_X2_45 s_3 (by decide) rfl h8 ?_
  refine g_iconst (v := nI 4) (pc := 14) dX2_addLine_14 rfl ?_
  refine g_imulN (pc := 15) dX2_addLine_15 ?_
  rw [e4]
  refine g_istore (pc := 16) dX2_addLine_16 (Nat.le_of_ble_eq_true rfl) rfl ?_
  refine g_aload_n (pc := 18) dX2_addLine_18 rfl rfl ?_
  refine g_getR (pc := 19) dX2_addLine_19 fl_X2_34 s_3 (by decide) rfl t_3_5 ?_
  refine g_iload (pc := 22) dX2_addLine_22 rfl ?_
  refine g_iload_n (pc := 24) dX2_addLine_24 rfl rfl ?_
  refine g_iastoreN (pc := 25) dX2_addLine_25 s_40 (by decide) (by omega) (by decide) ?_
  refine g_aload_n (pc := 26) dX2_addLine_26 rfl rfl ?_
  refine g_getR (pc := 27) dX2_addLine_27 fl_X2_34 s_3 (by decide) rfl t_3_5 ?_
  refine g_iload (pc := 30) dX2_addLine_30 rfl ?_
  refine g_iconst (v := nI 1) (pc := 32) dX2_addLine_32 rfl ?_
  refine g_iaddN (pc := 33) dX2_addLine_33 ?_
  refine g_iload_n (pc := 34) dX2_addLine_34 rfl rfl ?_
  refine g_iastoreN (pc := 35) dX2_addLine_35 s_40 (by decide) (by omega) (by decide) ?_
  refine g_aload_n (pc := 36) dX2_addLine_36 rfl rfl ?_
  refine g_getR (pc := 37) dX2_addLine_37 fl_X2_34 s_3 (by decide) rfl t_3_5 ?_
  refine g_iload (pc := 40) dX2_addLine_40 rfl ?_
  refine g_iconst (v := nI 2) (pc := 42) dX2_addLine_42 rfl ?_
  refine g_iaddN (pc := 43) dX2_addLine_43 ?_
  refine g_iload_n (pc := 44) dX2_addLine_44 rfl rfl ?_
  refine g_iastoreN (pc := 45) dX2_addLine_45 s_40 (by decide) (by omega) (by decide) ?_
  refine g_aload_n (pc := 46) dX2_addLine_46 rfl rfl ?_
  refine g_getR (pc := 47) dX2_addLine_47 fl_X2_34 s_3 (by decide) rfl t_3_5 ?_
  refine g_iload (pc := 50) dX2_addLine_50 rfl ?_
  refine g_iconst (v := nI 3) (pc := 52) dX2_addLine_52 rfl ?_
  refine g_iaddN (pc := 53) dX2_addLine_53 ?_
  refine g_iload (pc := 54) dX2_addLine_54 rfl ?_
  refine g_iastoreN (pc := 56) dX2_addLine_56 s_40 (by decide) (by omega) (by decide) ?_
  refine g_aload_n (pc := 57) dX2_addLine_57 rfl rfl ?_
  refine g_dup (pc := 58) dX2_addLine_58 rfl ?_
  refine g_getIV (pc := 59) dX2_addLine_59 fl_X2_45 s_3 (by decide) rfl (gUp_a (by decide) (gUp_a (by decide) (gUp_a (by decide) (gUp_a (by decide) h8)))) ?_
  refine g_iconst (v := nI 1) (pc := 62) dX2_addLine_62 rfl ?_
  refine g_iaddN (pc := 63) dX2_addLine_63 ?_
  refine g_putI (pc := 64) dX2_addLine_64 fl_X2_45 s_3 (by decide) rfl rfl rfl rfl ?_
  refine g_vret (pc := 67) dX2_addLine_67 rfl ?_
  refine ⟨_, ⟨rfl, rfl⟩, ?_⟩
  refine ⟨by rw [gUp_c, if_pos rfl], fun i => by rw [gUp_ne (by decide)]; exact lnS_e40 i, (by repeat' first | assumption | exact Sm.rfl | exact Sc.rfl | refine Sm.up (by decide) ?_ | refine Sc.up (by decide) ?_ | refine Sc.un (by decide) ?_), (by repeat' first | assumption | exact Sm.rfl | exact Sc.rfl | refine Sm.up (by decide) ?_ | refine Sc.up (by decide) ?_ | refine Sc.un (by decide) ?_)⟩
/-- the end of a block's check: counted, told -/
theorem l_X2_sbE {Q : gQ} {f b q l left mm : Nat} {x4 : Option Value} (hS : Snap I 4 V C) (hq : q < 8) (h8 : I 3 8 = nI l) (hl : l < 32) (kx : ∀ J, Snap J 4 V (addC C q (nI 1)) → J 3 8 = nI (l + 1) → (∀ i, J 40 i = lnS l f b q mm (I 40) i) → Sm [3, 8, 40] I J → Sc 3 [8] I J → Q (.inl (some (.int (nI q)))) (hp n J L D)) : gGo G YX2_scrubBlock (d + 7) 153 [some (.ref 3), some (.int (nI f)), some (.int (nI b)), some (.int (nI left)), x4, some (.int (nI mm)), some (.int (nI q))] [] (hp n I L D) 0 0 Q := by
  refine g_aload_n (pc := 153) dX2_scrubBlock_153 rfl rfl ?_
  refine g_getR (pc := 154) dX2_scrubBlock_154 fl_X2_12 s_3 (by decide) rfl t_3_0 ?_
  refine g_getR (pc := 157) dX2_scrubBlock_157 fl_X2_268 s_4 (by decide) rfl t_4_3 ?_
  refine g_iload (pc := 160) dX2_scrubBlock_160 rfl ?_
  refine g_dup2 (pc := 162) dX2_scrubBlock_162 rfl rfl ?_
  refine g_ialoadN (pc := 163) dX2_scrubBlock_163 s_8 (by decide) (by omega) (by decide) (hS.2.1 q hq) ?_
  refine g_iconst (v := nI 1) (pc := 164) dX2_scrubBlock_164 rfl ?_
  refine g_iadd (pc := 165) dX2_scrubBlock_165 ?_
  refine g_iastoreN (pc := 166) dX2_scrubBlock_166 s_8 (by decide) (by omega) (by decide) ?_
  refine g_aload_n (pc := 167) dX2_scrubBlock_167 rfl rfl ?_
  refine g_iload_n (pc := 168) dX2_scrubBlock_168 rfl rfl ?_
  refine g_iload_n (pc := 169) dX2_scrubBlock_169 rfl rfl ?_
  refine g_iload (pc := 170) dX2_scrubBlock_170 rfl ?_
  refine g_iload (pc := 172) dX2_scrubBlock_172 rfl ?_
  refine g_rvV (av := [.int _, .int _, .int _, .int _]) (pc := 174) dX2_scrubBlock_174 mt_X2_addLine lk_X2_349 im_X2_addLine se_X2_addLine np_X2_addLine s_3 (by decide) (by decide) rfl (gc_i (gc_i (gc_i (gc_i gc_0)))) (Nat.le_of_ble_eq_true rfl) (Nat.le_of_ble_eq_true rfl) (m_X2_addLine (d := d + 6) (l := l) (gUp_a (by decide) h8) hl) ?_
  rintro I2 ⟨k1, k2, k3, k4⟩
  refine g_iload (pc := 177) dX2_scrubBlock_177 rfl ?_
  refine g_iret (pc := 179) dX2_scrubBlock_179 rfl rfl ?_
  refine kx _ ?_ k1 (fun i => by rw [k2 i, gUp_ne (by decide)]) (Sm.trans (Sm.up (by decide) Sm.rfl) (k3.mono (by decide))) (Sc.trans (Sc.un (by decide) Sc.rfl) k4)
  exact Snap.f (Snap.cnt hS hq) (fun a h1 h2 => k3 a (by intro q; simp at q; omega))
theorem l_X2_sbD {Q : gQ} {f b q l left mm : Nat} {x4 : Option Value} (hS : Snap I 4 V C) (hW : WF V) (hf : f < 8) (hb : b < 4) (hq : q < 8) (h8 : I 3 8 = nI l) (hl : l < 32) (kx : ∀ J, Snap J 4 (uV V (10 * f + (6 + b)) (V 800)) (addC C q (nI 1)) → J 3 8 = nI (l + 1) → (∀ i, J 40 i = lnS l f b q mm (I 40) i) → Sm [3, 8, 15, 40] I J → Sc 3 [8] I J → Q (.inl (some (.int (nI q)))) (hp n J L D)) : gGo G YX2_scrubBlock (d + 7) 133 [some (.ref 3), some (.int (nI f)), some (.int (nI b)), some (.int (nI left)), x4, some (.int (nI mm)), some (.int (nI q))] [] (hp n I L D) 0 0 Q := by
  have e4 : f * 4 + b = 4 * f + b := by omega
  refine g_aload_n (pc := 133) dX2_scrubBlock_133 rfl rfl ?_
  refine g_getR (pc := 134) dX2_scrubBlock_134 fl_X2_12 s_3 (by decide) rfl t_3_0 ?_
  refine g_getR (pc := 137) dX2_scrubBlock_137 fl_X2_282 s_4 (by decide) rfl t_4_10 ?_
  refine g_iload_n (pc := 140) dX2_scrubBlock_140 rfl rfl ?_
  refine g_iconst (v := nI 4) (pc := 141) dX2_scrubBlock_141 rfl ?_
  refine g_imulN (pc := 142) dX2_scrubBlock_142 ?_
  refine g_iload_n (pc := 143) dX2_scrubBlock_143 rfl rfl ?_
  refine g_iaddN (pc := 144) dX2_scrubBlock_144 ?_
  rw [e4]
  refine g_aload_n (pc := 145) dX2_scrubBlock_145 rfl rfl ?_
  refine g_getR (pc := 146) dX2_scrubBlock_146 fl_X2_12 s_3 (by decide) rfl t_3_0 ?_
  refine g_getIV (pc := 149) dX2_scrubBlock_149 fl_X2_255 s_4 (by decide) rfl hS.2.2.2.2 ?_
  refine g_iastoreN (pc := 152) dX2_scrubBlock_152 s_15 (by decide) (by omega) (by decide) ?_
  refine l_X2_sbE (Snap.chk hS hW.bl4 hf hb) hq (gUp_a (by decide) h8) hl (fun J q1 q2 q3 q4 q5 => kx J q1 q2 (fun i => by rw [q3 i, gUp_ne (by decide)]) (Sm.trans (Sm.up (by decide) Sm.rfl) (q4.mono (by decide))) (Sc.trans (Sc.un (by decide) Sc.rfl) q5))
theorem m_X2_sb_p (hK : Kt I) (hS : Snap I 4 V C) (hW : WF V) {f b left l : Nat} (hf : f < 8) (h1 : V (10 * f) = 1) (hb : b < bl V f) (h8 : I 3 8 = nI l) (hl : l < 32) (hle : left < dmN V f b) (hlf : left < 1000) : gRi G YX2_scrubBlock (d + 7) [.ref 3, .int (nI f), .int (nI b), .int (nI left)] n I L D (fun v J => v = nI (3) ∧ Snap J 4 (V) (addC C 3 (nI 1)) ∧ J 3 8 = nI (l + 1) ∧ (∀ i, J 40 i = lnS l f b (3) (dmN V f b) (I 40) i) ∧ Sm [3, 5, 6, 7, 8, 15, 29, 30, 31, 32, 33, 34, 35, 36, 37, 40] I J ∧ Sc 3 [8] I J ∧ dM0 V f b J) := by
  have hw := hW.1 f hf
  have hsz := sz_le hw
  have hbl := bl_le hw
  have hd6 : dmN V f b ≤ 6 := dd_le hw
  have hd : isD V f b = true := by
    refine Classical.byContradiction (fun q => ?_)
    unfold dmN at hle
    rw [if_neg q] at hle
    exact absurd hle (Nat.not_lt_zero _)
  refine g_aload_n (pc := 0) dX2_scrubBlock_0 rfl rfl ?_
  refine g_getR (pc := 1) dX2_scrubBlock_1 fl_X2_26 s_3 (by decide) rfl t_3_3 ?_
  refine g_aload_n (pc := 4) dX2_scrubBlock_4 rfl rfl ?_
  refine g_getR (pc := 5) dX2_scrubBlock_5 fl_X2_12 s_3 (by decide) rfl t_3_0 ?_
  refine g_iload_n (pc := 8) dX2_scrubBlock_8 rfl rfl ?_
  refine g_iload_n (pc := 9) dX2_scrubBlock_9 rfl rfl ?_
  refine g_riV (av := [.ref 4, .int _, .int _]) (pc := 10) dX2_scrubBlock_10 mt_X0_decode lk_X2_219 im_X0_decode se_X0_decode np_X0_decode s_29 (by decide) (by decide) rfl (gc_r (gc_i (gc_i gc_0))) (Nat.le_of_ble_eq_true rfl) (Nat.le_of_ble_eq_true rfl) (m_X0_decode hK hS hW hf h1 hb) ?_
  rintro v1 I1 ⟨rfl, k1, k2, k3, k4, k5⟩
  have hQs : Qs I I1 := Sm.mono k5 (by decide)
  have hdm : dM0 V f b I1 := ⟨k2, k3, k4⟩
  have hS1 := hQs.s hS
  have h81 : I1 3 8 = nI l := by rw [k5 3 (by decide)]; exact h8
  refine g_istore (pc := 13) dX2_scrubBlock_13 (Nat.le_of_ble_eq_true rfl) rfl ?_
  refine g_aload_n (pc := 15) dX2_scrubBlock_15 rfl rfl ?_
  refine g_getR (pc := 16) dX2_scrubBlock_16 fl_X2_26 s_3 (by decide) rfl t_3_3 ?_
  refine g_fV (av := []) (pc := 19) dX2_scrubBlock_19 mt_X0_damageCount lk_X2_241 im_X0_damageCount se_X0_damageCount np_X0_damageCount s_29 (by decide) (by decide) rfl gc_0 (Nat.le_of_ble_eq_true rfl) (Nat.le_of_ble_eq_true rfl) ⟨Nat.zero_le _, Nat.zero_le _⟩ (m_X0_dm hdm hsz.1) ?_
  refine g_istore (pc := 22) dX2_scrubBlock_22 (Nat.le_of_ble_eq_true rfl) rfl ?_
  refine g_iconst (v := nI 0) (pc := 24) dX2_scrubBlock_24 rfl ?_
  refine g_istore (pc := 25) dX2_scrubBlock_25 (Nat.le_of_ble_eq_true rfl) rfl ?_
  refine g_iload (pc := 27) dX2_scrubBlock_27 rfl ?_
  refine g_if_neB (tgt := 38) (pc := 29) dX2_scrubBlock_29 (by decide) (fun c29 => ?_) (fun c29 => ?_)
  rotate_left
  · exact absurd hd c29
  refine g_iload (pc := 38) dX2_scrubBlock_38 rfl ?_
  refine g_if_leN (tgt := 56) (pc := 40) dX2_scrubBlock_40 (by decide) (by omega) (fun c40 => ?_) (fun c40 => ?_)
  · omega
  refine g_iload (pc := 43) dX2_scrubBlock_43 rfl ?_
  refine g_iload_n (pc := 45) dX2_scrubBlock_45 rfl rfl ?_
  refine g_icmp_gtN (tgt := 53) (pc := 46) dX2_scrubBlock_46 (by decide) (by omega) (by omega) (fun c46 => ?_) (fun c46 => ?_)
  rotate_left
  · omega
  refine g_iconst (v := nI 3) (pc := 53) dX2_scrubBlock_53 rfl ?_
  refine g_istore (pc := 54) dX2_scrubBlock_54 (Nat.le_of_ble_eq_true rfl) rfl ?_
  refine g_iload (pc := 56) dX2_scrubBlock_56 rfl ?_
  refine g_iconst (v := nI 1) (pc := 58) dX2_scrubBlock_58 rfl ?_
  refine g_icmp_neN (tgt := 127) (pc := 59) dX2_scrubBlock_59 (by decide) (by omega) (by omega) (fun c59 => ?_) (fun c59 => ?_)
  rotate_left
  · exact absurd c59 (by decide)
  refine g_iload (pc := 127) dX2_scrubBlock_127 rfl ?_
  refine g_iconst (v := nI 3) (pc := 129) dX2_scrubBlock_129 rfl ?_
  refine g_icmp_eqN (tgt := 153) (pc := 130) dX2_scrubBlock_130 (by decide) (by omega) (by omega) (fun c130 => ?_) (fun c130 => ?_)
  rotate_left
  · exact absurd rfl c130
  exact l_X2_sbE hS1 (by decide) h81 hl (fun J q1 q2 q3 q4 q5 => ⟨_, J, ⟨rfl, rfl⟩, rfl, q1, q2, fun i => by rw [q3 i, k5 40 (by decide)], Sm.trans (k5.mono (by decide)) (q4.mono (by decide)), Sc.trans (k5.sc (by decide)) q5, hdm.s (q4 29 (by decide)) (q4 31 (by decide))⟩)
theorem m_X2_sb_l (hK : Kt I) (hS : Snap I 4 V C) (hW : WF V) {f b left l : Nat} (hf : f < 8) (h1 : V (10 * f) = 1) (hb : b < bl V f) (h8 : I 3 8 = nI l) (hl : l < 32) (hd : ¬ isD V f b = true) : gRi G YX2_scrubBlock (d + 7) [.ref 3, .int (nI f), .int (nI b), .int (nI left)] n I L D (fun v J => v = nI (2) ∧ Snap J 4 (uV V (10 * f + (6 + b)) (V 800)) (addC C 2 (nI 1)) ∧ J 3 8 = nI (l + 1) ∧ (∀ i, J 40 i = lnS l f b (2) (dmN V f b) (I 40) i) ∧ Sm [3, 5, 6, 7, 8, 15, 29, 30, 31, 32, 33, 34, 35, 36, 37, 40] I J ∧ Sc 3 [8] I J ∧ dM0 V f b J) := by
  have hw := hW.1 f hf
  have hsz := sz_le hw
  have hbl := bl_le hw
  have hd6 : dmN V f b ≤ 6 := dd_le hw
  refine g_aload_n (pc := 0) dX2_scrubBlock_0 rfl rfl ?_
  refine g_getR (pc := 1) dX2_scrubBlock_1 fl_X2_26 s_3 (by decide) rfl t_3_3 ?_
  refine g_aload_n (pc := 4) dX2_scrubBlock_4 rfl rfl ?_
  refine g_getR (pc := 5) dX2_scrubBlock_5 fl_X2_12 s_3 (by decide) rfl t_3_0 ?_
  refine g_iload_n (pc := 8) dX2_scrubBlock_8 rfl rfl ?_
  refine g_iload_n (pc := 9) dX2_scrubBlock_9 rfl rfl ?_
  refine g_riV (av := [.ref 4, .int _, .int _]) (pc := 10) dX2_scrubBlock_10 mt_X0_decode lk_X2_219 im_X0_decode se_X0_decode np_X0_decode s_29 (by decide) (by decide) rfl (gc_r (gc_i (gc_i gc_0))) (Nat.le_of_ble_eq_true rfl) (Nat.le_of_ble_eq_true rfl) (m_X0_decode hK hS hW hf h1 hb) ?_
  rintro v1 I1 ⟨rfl, k1, k2, k3, k4, k5⟩
  have hQs : Qs I I1 := Sm.mono k5 (by decide)
  have hdm : dM0 V f b I1 := ⟨k2, k3, k4⟩
  have hS1 := hQs.s hS
  have h81 : I1 3 8 = nI l := by rw [k5 3 (by decide)]; exact h8
  refine g_istore (pc := 13) dX2_scrubBlock_13 (Nat.le_of_ble_eq_true rfl) rfl ?_
  refine g_aload_n (pc := 15) dX2_scrubBlock_15 rfl rfl ?_
  refine g_getR (pc := 16) dX2_scrubBlock_16 fl_X2_26 s_3 (by decide) rfl t_3_3 ?_
  refine g_fV (av := []) (pc := 19) dX2_scrubBlock_19 mt_X0_damageCount lk_X2_241 im_X0_damageCount se_X0_damageCount np_X0_damageCount s_29 (by decide) (by decide) rfl gc_0 (Nat.le_of_ble_eq_true rfl) (Nat.le_of_ble_eq_true rfl) ⟨Nat.zero_le _, Nat.zero_le _⟩ (m_X0_dm hdm hsz.1) ?_
  refine g_istore (pc := 22) dX2_scrubBlock_22 (Nat.le_of_ble_eq_true rfl) rfl ?_
  refine g_iconst (v := nI 0) (pc := 24) dX2_scrubBlock_24 rfl ?_
  refine g_istore (pc := 25) dX2_scrubBlock_25 (Nat.le_of_ble_eq_true rfl) rfl ?_
  refine g_iload (pc := 27) dX2_scrubBlock_27 rfl ?_
  refine g_if_neB (tgt := 38) (pc := 29) dX2_scrubBlock_29 (by decide) (fun c29 => ?_) (fun c29 => ?_)
  · exact absurd c29 hd
  refine g_iconst (v := nI 2) (pc := 32) dX2_scrubBlock_32 rfl ?_
  refine g_istore (pc := 33) dX2_scrubBlock_33 (Nat.le_of_ble_eq_true rfl) rfl ?_
  refine g_goto (tgt := 56) (pc := 35) dX2_scrubBlock_35 (by decide) ?_
  refine g_iload (pc := 56) dX2_scrubBlock_56 rfl ?_
  refine g_iconst (v := nI 1) (pc := 58) dX2_scrubBlock_58 rfl ?_
  refine g_icmp_neN (tgt := 127) (pc := 59) dX2_scrubBlock_59 (by decide) (by omega) (by omega) (fun c59 => ?_) (fun c59 => ?_)
  rotate_left
  · exact absurd c59 (by decide)
  refine g_iload (pc := 127) dX2_scrubBlock_127 rfl ?_
  refine g_iconst (v := nI 3) (pc := 129) dX2_scrubBlock_129 rfl ?_
  refine g_icmp_eqN (tgt := 153) (pc := 130) dX2_scrubBlock_130 (by decide) (by omega) (by omega) (fun c130 => ?_) (fun c130 => ?_)
  · exact absurd c130 (by decide)
  exact l_X2_sbD hS1 hW hf (by omega) (by decide) h81 hl (fun J q1 q2 q3 q4 q5 => ⟨_, J, ⟨rfl, rfl⟩, rfl, q1, q2, fun i => by rw [q3 i, k5 40 (by decide)], Sm.trans (k5.mono (by decide)) (q4.mono (by decide)), Sc.trans (k5.sc (by decide)) q5, hdm.s (q4 29 (by decide)) (q4 31 (by decide))⟩)
theorem m_X2_sb_c (hK : Kt I) (hS : Snap I 4 V C) (hW : WF V) {f b left l : Nat} (hf : f < 8) (h1 : V (10 * f) = 1) (hb : b < bl V f) (h8 : I 3 8 = nI l) (hl : l < 32) (hd : isD V f b = true) (h0 : dmN V f b = 0) : gRi G YX2_scrubBlock (d + 7) [.ref 3, .int (nI f), .int (nI b), .int (nI left)] n I L D (fun v J => v = nI (0) ∧ Snap J 4 (uV V (10 * f + (6 + b)) (V 800)) (addC C 0 (nI 1)) ∧ J 3 8 = nI (l + 1) ∧ (∀ i, J 40 i = lnS l f b (0) (dmN V f b) (I 40) i) ∧ Sm [3, 5, 6, 7, 8, 15, 29, 30, 31, 32, 33, 34, 35, 36, 37, 40] I J ∧ Sc 3 [8] I J ∧ dM0 V f b J) := by
  have hw := hW.1 f hf
  have hsz := sz_le hw
  have hbl := bl_le hw
  have hd6 : dmN V f b ≤ 6 := dd_le hw
  refine g_aload_n (pc := 0) dX2_scrubBlock_0 rfl rfl ?_
  refine g_getR (pc := 1) dX2_scrubBlock_1 fl_X2_26 s_3 (by decide) rfl t_3_3 ?_
  refine g_aload_n (pc := 4) dX2_scrubBlock_4 rfl rfl ?_
  refine g_getR (pc := 5) dX2_scrubBlock_5 fl_X2_12 s_3 (by decide) rfl t_3_0 ?_
  refine g_iload_n (pc := 8) dX2_scrubBlock_8 rfl rfl ?_
  refine g_iload_n (pc := 9) dX2_scrubBlock_9 rfl rfl ?_
  refine g_riV (av := [.ref 4, .int _, .int _]) (pc := 10) dX2_scrubBlock_10 mt_X0_decode lk_X2_219 im_X0_decode se_X0_decode np_X0_decode s_29 (by decide) (by decide) rfl (gc_r (gc_i (gc_i gc_0))) (Nat.le_of_ble_eq_true rfl) (Nat.le_of_ble_eq_true rfl) (m_X0_decode hK hS hW hf h1 hb) ?_
  rintro v1 I1 ⟨rfl, k1, k2, k3, k4, k5⟩
  have hQs : Qs I I1 := Sm.mono k5 (by decide)
  have hdm : dM0 V f b I1 := ⟨k2, k3, k4⟩
  have hS1 := hQs.s hS
  have h81 : I1 3 8 = nI l := by rw [k5 3 (by decide)]; exact h8
  refine g_istore (pc := 13) dX2_scrubBlock_13 (Nat.le_of_ble_eq_true rfl) rfl ?_
  refine g_aload_n (pc := 15) dX2_scrubBlock_15 rfl rfl ?_
  refine g_getR (pc := 16) dX2_scrubBlock_16 fl_X2_26 s_3 (by decide) rfl t_3_3 ?_
  refine g_fV (av := []) (pc := 19) dX2_scrubBlock_19 mt_X0_damageCount lk_X2_241 im_X0_damageCount se_X0_damageCount np_X0_damageCount s_29 (by decide) (by decide) rfl gc_0 (Nat.le_of_ble_eq_true rfl) (Nat.le_of_ble_eq_true rfl) ⟨Nat.zero_le _, Nat.zero_le _⟩ (m_X0_dm hdm hsz.1) ?_
  refine g_istore (pc := 22) dX2_scrubBlock_22 (Nat.le_of_ble_eq_true rfl) rfl ?_
  refine g_iconst (v := nI 0) (pc := 24) dX2_scrubBlock_24 rfl ?_
  refine g_istore (pc := 25) dX2_scrubBlock_25 (Nat.le_of_ble_eq_true rfl) rfl ?_
  refine g_iload (pc := 27) dX2_scrubBlock_27 rfl ?_
  refine g_if_neB (tgt := 38) (pc := 29) dX2_scrubBlock_29 (by decide) (fun c29 => ?_) (fun c29 => ?_)
  rotate_left
  · exact absurd hd c29
  refine g_iload (pc := 38) dX2_scrubBlock_38 rfl ?_
  refine g_if_leN (tgt := 56) (pc := 40) dX2_scrubBlock_40 (by decide) (by omega) (fun c40 => ?_) (fun c40 => ?_)
  rotate_left
  · omega
  refine g_iload (pc := 56) dX2_scrubBlock_56 rfl ?_
  refine g_iconst (v := nI 1) (pc := 58) dX2_scrubBlock_58 rfl ?_
  refine g_icmp_neN (tgt := 127) (pc := 59) dX2_scrubBlock_59 (by decide) (by omega) (by omega) (fun c59 => ?_) (fun c59 => ?_)
  rotate_left
  · exact absurd c59 (by decide)
  refine g_iload (pc := 127) dX2_scrubBlock_127 rfl ?_
  refine g_iconst (v := nI 3) (pc := 129) dX2_scrubBlock_129 rfl ?_
  refine g_icmp_eqN (tgt := 153) (pc := 130) dX2_scrubBlock_130 (by decide) (by omega) (by omega) (fun c130 => ?_) (fun c130 => ?_)
  · exact absurd c130 (by decide)
  exact l_X2_sbD hS1 hW hf (by omega) (by decide) h81 hl (fun J q1 q2 q3 q4 q5 => ⟨_, J, ⟨rfl, rfl⟩, rfl, q1, q2, fun i => by rw [q3 i, k5 40 (by decide)], Sm.trans (k5.mono (by decide)) (q4.mono (by decide)), Sc.trans (k5.sc (by decide)) q5, hdm.s (q4 29 (by decide)) (q4 31 (by decide))⟩)
theorem m_X2_sb_r (hK : Kt I) (hS : Snap I 4 V C) (hW : WF V) {f b left l : Nat} (hf : f < 8) (h1 : V (10 * f) = 1) (hb : b < bl V f) (h8 : I 3 8 = nI l) (hl : l < 32) (hd : isD V f b = true) (h0 : 0 < dmN V f b) (hle : dmN V f b ≤ left) (hlf : left < 1000) : gRi G YX2_scrubBlock (d + 7) [.ref 3, .int (nI f), .int (nI b), .int (nI left)] n I L D (fun v J => v = nI (1) ∧ Snap J 4 (uV (meV V V f b) (10 * f + (6 + b)) (V 800)) (addC (addC (addC (addC C 7 (nI (dmN V f b))) 4 (nI (dcN V f b))) 5 (nI (ern V f b))) 1 (nI 1)) ∧ J 3 8 = nI (l + 1) ∧ (∀ i, J 40 i = lnS l f b (1) (dmN V f b) (I 40) i) ∧ Sm [3, 5, 6, 7, 8, 15, 29, 30, 31, 32, 33, 34, 35, 36, 37, 40] I J ∧ Sc 3 [8] I J ∧ dM0 V f b J) := by
  have hw := hW.1 f hf
  have hsz := sz_le hw
  have hbl := bl_le hw
  have hd6 : dmN V f b ≤ 6 := dd_le hw
  have hme : nS (meS V f b) 14 = dmN V f b := by unfold dmN; rw [if_pos hd]; exact meS_n hd
  have hel : erN V f b < 16384 := Nat.lt_of_lt_of_le erN_lt (p14 hsz.1)
  have hde : dcE V f b < 16384 := Nat.lt_of_lt_of_le (dc_some hd).1 (p14 hsz.1)
  have hWm : WF (meV V V f b) := WF_mn hW hf h1 hb _ (Nat.le_refl _)
  have hm8 : meV V V f b 800 = V 800 := mnV_lo hw h1 hb (Or.inr (by decide)) _ (Nat.le_refl _)
  have e1 : nS (dcE V f b) 14 = dcN V f b := rfl
  have e2 : nS (erN V f b) 14 = ern V f b := rfl
  refine g_aload_n (pc := 0) dX2_scrubBlock_0 rfl rfl ?_
  refine g_getR (pc := 1) dX2_scrubBlock_1 fl_X2_26 s_3 (by decide) rfl t_3_3 ?_
  refine g_aload_n (pc := 4) dX2_scrubBlock_4 rfl rfl ?_
  refine g_getR (pc := 5) dX2_scrubBlock_5 fl_X2_12 s_3 (by decide) rfl t_3_0 ?_
  refine g_iload_n (pc := 8) dX2_scrubBlock_8 rfl rfl ?_
  refine g_iload_n (pc := 9) dX2_scrubBlock_9 rfl rfl ?_
  refine g_riV (av := [.ref 4, .int _, .int _]) (pc := 10) dX2_scrubBlock_10 mt_X0_decode lk_X2_219 im_X0_decode se_X0_decode np_X0_decode s_29 (by decide) (by decide) rfl (gc_r (gc_i (gc_i gc_0))) (Nat.le_of_ble_eq_true rfl) (Nat.le_of_ble_eq_true rfl) (m_X0_decode hK hS hW hf h1 hb) ?_
  rintro v1 I1 ⟨rfl, k1, k2, k3, k4, k5⟩
  have hQs : Qs I I1 := Sm.mono k5 (by decide)
  have hdm : dM0 V f b I1 := ⟨k2, k3, k4⟩
  have hS1 := hQs.s hS
  have h81 : I1 3 8 = nI l := by rw [k5 3 (by decide)]; exact h8
  refine g_istore (pc := 13) dX2_scrubBlock_13 (Nat.le_of_ble_eq_true rfl) rfl ?_
  refine g_aload_n (pc := 15) dX2_scrubBlock_15 rfl rfl ?_
  refine g_getR (pc := 16) dX2_scrubBlock_16 fl_X2_26 s_3 (by decide) rfl t_3_3 ?_
  refine g_fV (av := []) (pc := 19) dX2_scrubBlock_19 mt_X0_damageCount lk_X2_241 im_X0_damageCount se_X0_damageCount np_X0_damageCount s_29 (by decide) (by decide) rfl gc_0 (Nat.le_of_ble_eq_true rfl) (Nat.le_of_ble_eq_true rfl) ⟨Nat.zero_le _, Nat.zero_le _⟩ (m_X0_dm hdm hsz.1) ?_
  refine g_istore (pc := 22) dX2_scrubBlock_22 (Nat.le_of_ble_eq_true rfl) rfl ?_
  refine g_iconst (v := nI 0) (pc := 24) dX2_scrubBlock_24 rfl ?_
  refine g_istore (pc := 25) dX2_scrubBlock_25 (Nat.le_of_ble_eq_true rfl) rfl ?_
  refine g_iload (pc := 27) dX2_scrubBlock_27 rfl ?_
  refine g_if_neB (tgt := 38) (pc := 29) dX2_scrubBlock_29 (by decide) (fun c29 => ?_) (fun c29 => ?_)
  rotate_left
  · exact absurd hd c29
  refine g_iload (pc := 38) dX2_scrubBlock_38 rfl ?_
  refine g_if_leN (tgt := 56) (pc := 40) dX2_scrubBlock_40 (by decide) (by omega) (fun c40 => ?_) (fun c40 => ?_)
  · omega
  refine g_iload (pc := 43) dX2_scrubBlock_43 rfl ?_
  refine g_iload_n (pc := 45) dX2_scrubBlock_45 rfl rfl ?_
  refine g_icmp_gtN (tgt := 53) (pc := 46) dX2_scrubBlock_46 (by decide) (by omega) (by omega) (fun c46 => ?_) (fun c46 => ?_)
  · omega
  refine g_iconst (v := nI 1) (pc := 49) dX2_scrubBlock_49 rfl ?_
  refine g_goto (tgt := 54) (pc := 50) dX2_scrubBlock_50 (by decide) ?_
  refine g_istore (pc := 54) dX2_scrubBlock_54 (Nat.le_of_ble_eq_true rfl) rfl ?_
  refine g_iload (pc := 56) dX2_scrubBlock_56 rfl ?_
  refine g_iconst (v := nI 1) (pc := 58) dX2_scrubBlock_58 rfl ?_
  refine g_icmp_neN (tgt := 127) (pc := 59) dX2_scrubBlock_59 (by decide) (by omega) (by omega) (fun c59 => ?_) (fun c59 => ?_)
  · exact absurd rfl c59
  refine g_aload_n (pc := 62) dX2_scrubBlock_62 rfl rfl ?_
  refine g_iload_n (pc := 63) dX2_scrubBlock_63 rfl rfl ?_
  refine g_iload_n (pc := 64) dX2_scrubBlock_64 rfl rfl ?_
  refine g_aload_n (pc := 65) dX2_scrubBlock_65 rfl rfl ?_
  refine g_getR (pc := 66) dX2_scrubBlock_66 fl_X2_26 s_3 (by decide) rfl t_3_3 ?_
  refine g_getIV (pc := 69) dX2_scrubBlock_69 fl_X2_233 s_29 (by decide) rfl (k3 hd).1 ?_
  refine g_aload_n (pc := 72) dX2_scrubBlock_72 rfl rfl ?_
  refine g_getR (pc := 73) dX2_scrubBlock_73 fl_X2_26 s_3 (by decide) rfl t_3_3 ?_
  refine g_getIV (pc := 76) dX2_scrubBlock_76 fl_X2_223 s_29 (by decide) rfl k2 ?_
  refine g_ior (pc := 79) dX2_scrubBlock_79 ?_
  rw [nI_or]
  refine g_rvV (av := [.int _, .int _, .int _]) (pc := 80) dX2_scrubBlock_80 mt_X2_writeFound lk_X2_278 im_X2_writeFound se_X2_writeFound np_X2_writeFound s_3 (by decide) (by decide) rfl (gc_i (gc_i (gc_i gc_0))) (Nat.le_of_ble_eq_true rfl) (Nat.le_of_ble_eq_true rfl) (m_X2_writeFound hS1 hW hf h1 hb (meS_lt hd) (X := dcX V f b) (fun i hi => (k3 hd).2.2 i hi)) ?_
  rintro I2 ⟨q1, q2⟩
  refine g_aload_n (pc := 83) dX2_scrubBlock_83 rfl rfl ?_
  refine g_getR (pc := 84) dX2_scrubBlock_84 fl_X2_12 s_3 (by decide) rfl t_3_0 ?_
  refine g_getR (pc := 87) dX2_scrubBlock_87 fl_X2_268 s_4 (by decide) rfl t_4_3 ?_
  refine g_iconst (v := nI 4) (pc := 90) dX2_scrubBlock_90 rfl ?_
  refine g_dup2 (pc := 91) dX2_scrubBlock_91 rfl rfl ?_
  refine g_ialoadN (pc := 92) dX2_scrubBlock_92 s_8 (by decide) (by omega) (by decide) (q1.2.1 4 (by decide)) ?_
  refine g_aload_n (pc := 93) dX2_scrubBlock_93 rfl rfl ?_
  refine g_getR (pc := 94) dX2_scrubBlock_94 fl_X2_26 s_3 (by decide) rfl t_3_3 ?_
  refine g_getIV (pc := 97) dX2_scrubBlock_97 fl_X2_233 s_29 (by decide) rfl (show _ = nI (dcE V f b) from by rw [q2 29 (by decide)]; exact (k3 hd).1) ?_
  refine g_fS (av := [.int _]) (pc := 100) dX2_scrubBlock_100 mt_J6_bitCount_0f7a4 lk_X2_226 sf_J6_bitCount_0f7a4 np_J6_bitCount_0f7a4 rfl (gc_i gc_0) (Nat.le_of_ble_eq_true rfl) (Nat.le_of_ble_eq_true rfl) ⟨Nat.zero_le _, Nat.zero_le _⟩ (m_J6_bitCount hde) ?_
  refine g_iadd (pc := 103) dX2_scrubBlock_103 ?_
  refine g_iastoreN (pc := 104) dX2_scrubBlock_104 s_8 (by decide) (by omega) (by decide) ?_
  refine g_aload_n (pc := 105) dX2_scrubBlock_105 rfl rfl ?_
  refine g_getR (pc := 106) dX2_scrubBlock_106 fl_X2_12 s_3 (by decide) rfl t_3_0 ?_
  refine g_getR (pc := 109) dX2_scrubBlock_109 fl_X2_268 s_4 (by decide) rfl t_4_3 ?_
  refine g_iconst (v := nI 5) (pc := 112) dX2_scrubBlock_112 rfl ?_
  refine g_dup2 (pc := 113) dX2_scrubBlock_113 rfl rfl ?_
  refine g_ialoadN (pc := 114) dX2_scrubBlock_114 s_8 (by decide) (by omega) (by decide) ((Snap.cnt q1 (k := 4) (by decide)).2.1 5 (by decide)) ?_
  refine g_aload_n (pc := 115) dX2_scrubBlock_115 rfl rfl ?_
  refine g_getR (pc := 116) dX2_scrubBlock_116 fl_X2_26 s_3 (by decide) rfl t_3_3 ?_
  refine g_getIV (pc := 119) dX2_scrubBlock_119 fl_X2_223 s_29 (by decide) rfl (show _ = nI (erN V f b) from by rw [gUp_ne (by decide), q2 29 (by decide)]; exact k2) ?_
  refine g_fS (av := [.int _]) (pc := 122) dX2_scrubBlock_122 mt_J6_bitCount_0f7a4 lk_X2_226 sf_J6_bitCount_0f7a4 np_J6_bitCount_0f7a4 rfl (gc_i gc_0) (Nat.le_of_ble_eq_true rfl) (Nat.le_of_ble_eq_true rfl) ⟨Nat.zero_le _, Nat.zero_le _⟩ (m_J6_bitCount hel) ?_
  refine g_iadd (pc := 125) dX2_scrubBlock_125 ?_
  refine g_iastoreN (pc := 126) dX2_scrubBlock_126 s_8 (by decide) (by omega) (by decide) ?_
  refine g_iload (pc := 127) dX2_scrubBlock_127 rfl ?_
  refine g_iconst (v := nI 3) (pc := 129) dX2_scrubBlock_129 rfl ?_
  refine g_icmp_eqN (tgt := 153) (pc := 130) dX2_scrubBlock_130 (by decide) (by omega) (by omega) (fun c130 => ?_) (fun c130 => ?_)
  · exact absurd c130 (by decide)
  have s5 := Snap.cnt (Snap.cnt q1 (k := 4) (y := addC C 7 (nI (nS (meS V f b) 14)) 4 + nI (nS (dcE V f b) 14)) (by decide)) (k := 5) (y := uC (addC C 7 (nI (nS (meS V f b) 14))) 4 (addC C 7 (nI (nS (meS V f b) 14)) 4 + nI (nS (dcE V f b) 14)) 5 + nI (nS (erN V f b) 14)) (by decide)
  refine l_X2_sbD (C := addC (addC (addC C 7 (nI (dmN V f b))) 4 (nI (dcN V f b))) 5 (nI (ern V f b))) (V := meV V V f b) (by rw [← hme]; exact s5) hWm hf (by omega) (by decide) (gUp_k (by decide) (gUp_k (by decide) (by rw [q2 3 (by decide)]; exact h81))) hl (fun J q1' q2' q3' q4' q5' => ?_)
  rw [hm8] at q1'
  have s3 : ∀ y1 y2, Sm [5, 6, 7, 8] I1 (gUp (gUp I2 8 4 y1) 8 5 y2) := fun y1 y2 => Sm.up (by decide) (Sm.up (by decide) q2)
  refine ⟨_, J, ⟨rfl, rfl⟩, rfl, q1', q2', fun i => ?_, Sm.trans (k5.mono (by decide)) (Sm.trans ((s3 _ _).mono (by decide)) (q4'.mono (by decide))), Sc.trans (k5.sc (by decide)) (Sc.trans ((s3 _ _).sc (by decide)) q5'), hdm.s ?_ ?_⟩
  · rw [q3' i, gUp_ne (by decide), gUp_ne (by decide), q2 40 (by decide), k5 40 (by decide)]
  · rw [q4' 29 (by decide), gUp_ne (by decide), gUp_ne (by decide), q2 29 (by decide)]
  · rw [q4' 31 (by decide), gUp_ne (by decide), gUp_ne (by decide), q2 31 (by decide)]
end

