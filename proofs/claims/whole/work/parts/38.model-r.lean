/-! ===== the reference mends ===== -/
def wrV (V : Nat → Nat) (c x : Nat) : Nat → Nat := uV (uV (uV V (80 + c) x) (320 + c) 0) (560 + c) x
/-- k places of a block written, where the set says so -/
def mnV (V : Nat → Nat) (j b S : Nat) (X : Nat → F6) : Nat → Nat → Nat
  | 0 => V
  | k + 1 => if S.testBit k = true then wrV (mnV V j b S X k) (cellN V j b k) (X k).val else mnV V j b S X k
theorem wrV_lo {V : Nat → Nat} {c x k : Nat} (hk : k < 80 ∨ 800 ≤ k) (hc : c < 240) : wrV V c x k = V k := by unfold wrV; rw [uV_n (by omega), uV_n (by omega), uV_n (by omega)]
theorem mnV_lo {V : Nat → Nat} {j b S : Nat} {X : Nat → F6} (hw : WFj V j) (h1 : V (10 * j) = 1) (hb : b < bl V j) {i : Nat} (hi : i < 80 ∨ 800 ≤ i) : ∀ k, k ≤ sz V j → mnV V j b S X k i = V i
  | 0, _ => rfl
  | k + 1, hk => by
    have hc := cellN_lt hw h1 hb (show k < sz V j by omega)
    unfold mnV
    split
    · rw [wrV_lo hi hc]; exact mnV_lo hw h1 hb hi k (by omega)
    · exact mnV_lo hw h1 hb hi k (by omega)
theorem WF_wr {V : Nat → Nat} {c x : Nat} (h : WF V) (hc : c < 240) (hx : x ≤ 15) : WF (wrV V c x) := WF_wri (WF_era (WF_sym h hc hx) hc (by decide)) hc hx
theorem WF_mn {V : Nat → Nat} {j b S : Nat} {X : Nat → F6} (h : WF V) (hj : j < 8) (h1 : V (10 * j) = 1) (hb : b < bl V j) : ∀ k, k ≤ sz V j → WF (mnV V j b S X k)
  | 0, _ => h
  | k + 1, hk => by
    have ih : WF (mnV V j b S X k) := WF_mn h hj h1 hb k (by omega)
    have hx := (X k).isLt
    unfold mnV
    split
    · exact WF_wr ih (cellN_lt (h.1 j hj) h1 hb (show k < sz V j by omega)) (by omega)
    · exact ih
theorem cellN_ext {V W : Nat → Nat} {j b i : Nat} (e : ∀ k, k < 10 → W (10 * j + k) = V (10 * j + k)) : cellN W j b i = cellN V j b i := by
  unfold cellN fiN grN fiN
  rw [e 3 (by decide), e 5 (by decide), (bl_ext e).1, (bl_ext e).2.1]
/-- what changes of cells and files leave: everything of the reference but rows, past, lines and scratch -/
def MC (l q : List Nat) (I J : Nat → Nat → Int32) : Prop := Sm l I J ∧ Sc 114 q I J ∧ ∃ M, Rw J M
section
variable {G : gG} {d n : Nat} {I : Nat → Nat → Int32} {L : Nat → Nat → Int64} {D : Nat → Nat → UInt64} {V : Nat → Nat}
theorem m_X3_writes {C : Nat → Int32} (hV : Vok I V) (hC : Cok I C) {c : Nat} (hc : c < 240) {x : F6} : gRv G YX3_writes d [.ref 114, .int (nI c), .int (fI x)] n I L D (fun J => Vok J (wrV V c x.val) ∧ Cok J (uC C 7 (C 7 + nI 1)) ∧ Sm [115] I J) := by
  have h7 : gUp (gUp (gUp I 115 (80 + c) (fI x)) 115 (320 + c) (nI 0)) 115 (560 + c) (fI x) 115 808 = C 7 := gUp_k (by omega) (gUp_k (by omega) (gUp_k (by omega) (hC 7 (by decide))))
  have hC3 : Cok (gUp (gUp (gUp I 115 (80 + c) (fI x)) 115 (320 + c) (nI 0)) 115 (560 + c) (fI x)) C := Cok.lo (by omega) (Cok.lo (by omega) (Cok.lo (by omega) hC))
  refine g_aload_n (pc := 0) dX3_writes_0 rfl rfl ?_
  refine g_getR (pc := 1) dX3_writes_1 fl_X3_9 s_114 (by decide) rfl t_114_1 ?_
  refine g_bipush (v := nI 80) (pc := 4) dX3_writes_4 rfl ?_
  refine g_iload_n (pc := 6) dX3_writes_6 rfl rfl ?_
  refine g_iaddN (pc := 7) dX3_writes_7 ?_
  refine g_iload_n (pc := 8) dX3_writes_8 rfl rfl ?_
  refine g_iastoreN (pc := 9) dX3_writes_9 s_115 (by decide) (by omega) (by decide) ?_
  refine g_aload_n (pc := 10) dX3_writes_10 rfl rfl ?_
  refine g_getR (pc := 11) dX3_writes_11 fl_X3_9 s_114 (by decide) rfl t_114_1 ?_
  refine g_sipush (v := nI 320) (pc := 14) dX3_writes_14 rfl ?_
  refine g_iload_n (pc := 17) dX3_writes_17 rfl rfl ?_
  refine g_iaddN (pc := 18) dX3_writes_18 ?_
  refine g_iconst (v := nI 0) (pc := 19) dX3_writes_19 rfl ?_
  refine g_iastoreN (pc := 20) dX3_writes_20 s_115 (by decide) (by omega) (by decide) ?_
  refine g_aload_n (pc := 21) dX3_writes_21 rfl rfl ?_
  refine g_getR (pc := 22) dX3_writes_22 fl_X3_9 s_114 (by decide) rfl t_114_1 ?_
  refine g_sipush (v := nI 560) (pc := 25) dX3_writes_25 rfl ?_
  refine g_iload_n (pc := 28) dX3_writes_28 rfl rfl ?_
  refine g_iaddN (pc := 29) dX3_writes_29 ?_
  refine g_iload_n (pc := 30) dX3_writes_30 rfl rfl ?_
  refine g_iastoreN (pc := 31) dX3_writes_31 s_115 (by decide) (by omega) (by decide) ?_
  refine g_aload_n (pc := 32) dX3_writes_32 rfl rfl ?_
  refine g_getR (pc := 33) dX3_writes_33 fl_X3_9 s_114 (by decide) rfl t_114_1 ?_
  refine g_sipush (v := nI 808) (pc := 36) dX3_writes_36 rfl ?_
  refine g_dup2 (pc := 39) dX3_writes_39 rfl rfl ?_
  refine g_iaload (pc := 40) dX3_writes_40 s_115 (by decide) (vp_in_nI (by decide) (by decide)) ?_
  refine g_iconst (v := nI 1) (pc := 41) dX3_writes_41 rfl ?_
  refine g_iadd (pc := 42) dX3_writes_42 ?_
  refine g_iastoreN (pc := 43) dX3_writes_43 s_115 (by decide) (by omega) (by decide) ?_
  refine g_vret (pc := 44) dX3_writes_44 rfl ?_
  refine ⟨_, ⟨rfl, rfl⟩, ?_⟩
  refine ⟨Vok.hi (by decide) ((hV.up.up).up), ?_, (by repeat' first | assumption | exact Sm.rfl | exact Sc.rfl | refine Sm.up (by decide) ?_ | refine Sc.up (by decide) ?_ | refine Sc.un (by decide) ?_)⟩
  have e : (nI 808).toNatClampNeg = 801 + 7 := rfl
  rw [e, h7]
  exact hC3.up (k := 7) (x := C 7 + nI 1)
theorem mnC_s (C : Nat → Int32) (a b : Nat) : uC (uC C 7 (C 7 + nI a)) 7 (uC C 7 (C 7 + nI a) 7 + nI b) = uC C 7 (C 7 + nI (a + b)) := by
  funext k
  by_cases e : k = 7
  · subst e
    rw [uC_s, uC_s, uC_s, ← nI_add, Int32.add_assoc]
  · rw [uC_n e, uC_n e, uC_n e]
theorem mnC_0 (C : Nat → Int32) : uC C 7 (C 7 + nI 0) = C := by
  funext k
  by_cases e : k = 7
  · subst e
    rw [uC_s, nI_0, Int32.add_zero]
  · rw [uC_n e]
/-- the block's set that is to be written -/
noncomputable def meS (V : Nat → Nat) (j b : Nat) : Nat := dcE V j b ||| erN V j b
theorem meS_lt {V : Nat → Nat} {j b : Nat} (h : isD V j b = true) : meS V j b < 2 ^ sz V j := Nat.or_lt_two_pow (dc_some h).1 erN_lt
theorem meS_n {V : Nat → Nat} {j b : Nat} (h : isD V j b = true) : nS (meS V j b) 14 = dcN V j b + ern V j b := nS_orD (dc_some h).2.1 14
noncomputable def meV (W V : Nat → Nat) (j b : Nat) : Nat → Nat := mnV W j b (meS V j b) (dcX V j b) (sz V j)
theorem m_X3_mends {C : Nat → Int32} {W : Nat → Nat} (hV : Vok I W) (hC : Cok I C) (hW : WF W) {j b S z : Nat} {X : Nat → F6} (hj : j < 8) (h1 : W (10 * j) = 1) (hb : b < bl W j) (hz : I 114 23 = nI z) (hzz : z = sz W j) {A B : Nat} (hA : I 114 26 = nI A) (hB : I 114 25 = nI B) (hS : S = A ||| B) (hSl : S < 2 ^ z) (hX : ∀ i, i < z → I 125 i = fI (X i)) : gRi G YX3_mends (d + 3) [.ref 114, .int (nI j), .int (nI b)] n I L D (fun v J => v = nI (nS S 14) ∧ Vok J (mnV W j b S X z) ∧ Cok J (uC C 7 (C 7 + nI (nS S 14))) ∧ Sm [115] I J) := by
  have hw := hW.1 j hj
  have hsz := sz_le hw
  have hp9 := p14 (show z ≤ 14 by omega)
  have hcx : ∀ k, k ≤ z → ∀ i, cellN (mnV W j b S X k) j b i = cellN W j b i := fun k hk i => cellN_ext (fun q hq => mnV_lo hw h1 hb (Or.inl (by omega)) k (by omega))
  refine g_aload_n (pc := 0) dX3_mends_0 rfl rfl ?_
  refine g_getIV (pc := 1) dX3_mends_1 fl_X3_187 s_114 (by decide) rfl hA ?_
  refine g_aload_n (pc := 4) dX3_mends_4 rfl rfl ?_
  refine g_getIV (pc := 5) dX3_mends_5 fl_X3_138 s_114 (by decide) rfl hB ?_
  refine g_ior (pc := 8) dX3_mends_8 ?_
  rw [nI_or, ← hS]
  refine g_istore_n (pc := 9) dX3_mends_9 rfl (Nat.le_of_ble_eq_true rfl) rfl ?_
  refine g_iconst (v := nI 0) (pc := 10) dX3_mends_10 rfl ?_
  refine g_istore (pc := 11) dX3_mends_11 (Nat.le_of_ble_eq_true rfl) rfl ?_
  refine g_loop z (fun k J => Vok J (mnV W j b S X k) ∧ Cok J (uC C 7 (C 7 + nI (nS S k))) ∧ Sm [115] I J) (fun k _ => [some (.ref 114), some (.int (nI j)), some (.int (nI b)), some (.int (nI S)), some (.int (nI k))]) (fun J => hp n J L D) (fun k J hk hJ kn => ?_) (fun J hJ => ?_) 0 _ (Nat.zero_le _) ⟨hV, by rw [show nS S 0 = 0 from rfl, mnC_0]; exact hC, Sm.rfl⟩
  · obtain ⟨u1, u2, u3⟩ := hJ
    have hz1 : J 114 23 = nI z := by rw [u3 114 (by decide)]; exact hz
    have hWk : WF (mnV W j b S X k) := WF_mn hW hj h1 hb k (by omega)
    have h1k : mnV W j b S X k (10 * j) = 1 := by rw [mnV_lo hw h1 hb (Or.inl (by omega)) k (by omega)]; exact h1
    have hbk : b < bl (mnV W j b S X k) j := by rw [(bl_ext (fun q hq => mnV_lo hw h1 hb (Or.inl (by omega)) k (by omega))).1]; exact hb
    have hcl := cellN_lt hw h1 hb (show k < sz W j by omega)
    have hXk : J 125 k = fI (X k) := by rw [u3 125 (by decide)]; exact hX k hk
    refine g_iload (pc := 13) dX3_mends_13 rfl ?_
    refine g_aload_n (pc := 15) dX3_mends_15 rfl rfl ?_
    refine g_getIV (pc := 16) dX3_mends_16 fl_X3_133 s_114 (by decide) rfl hz1 ?_
    refine g_icmp_geN (tgt := 57) (pc := 19) dX3_mends_19 (by decide) (by omega) (by omega) (fun c19 => ?_) (fun c19 => ?_)
    · omega
    refine g_iload_n (pc := 22) dX3_mends_22 rfl rfl ?_
    refine g_iload (pc := 23) dX3_mends_23 rfl ?_
    refine g_ishr (pc := 25) dX3_mends_25 ?_
    refine g_iconst (v := nI 1) (pc := 26) dX3_mends_26 rfl ?_
    refine g_iand (pc := 27) dX3_mends_27 ?_
    rw [bt_n (show S < 2 ^ 31 by omega) (by omega)]
    refine g_iconst (v := nI 1) (pc := 28) dX3_mends_28 rfl ?_
    refine g_icmp_neN (tgt := 51) (pc := 29) dX3_mends_29 (by decide) (by split <;> decide) (by decide) (fun c29 => ?_) (fun c29 => ?_)
    · have hbt : S.testBit k = false := by cases h : S.testBit k <;> simp [h] at c29 ⊢
      rw [show mnV W j b S X (k + 1) = mnV W j b S X k from by rw [mnV, if_neg (by rw [hbt]; decide)], nS_f hbt] at kn
      refine g_iincN (pc := 51) dX3_mends_51 (Nat.le_of_ble_eq_true rfl) rfl rfl ?_
      refine g_goto (tgt := 13) (pc := 54) dX3_mends_54 (by decide) ?_
      first
        | exact kn _ ⟨k1, k2, Sm.trans u3 k3⟩
        | exact kn _ ⟨u1, u2, u3⟩
    · have hbt : S.testBit k = true := bq_t (by rw [c29]; decide)
      refine g_aload_n (pc := 32) dX3_mends_32 rfl rfl ?_
      refine g_aload_n (pc := 33) dX3_mends_33 rfl rfl ?_
      refine g_iload_n (pc := 34) dX3_mends_34 rfl rfl ?_
      refine g_iload_n (pc := 35) dX3_mends_35 rfl rfl ?_
      refine g_iload (pc := 36) dX3_mends_36 rfl ?_
      refine g_fV (av := [.int _, .int _, .int _]) (pc := 38) dX3_mends_38 mt_X3_cell lk_X3_145 im_X3_cell se_X3_cell np_X3_cell s_114 (by decide) (by decide) rfl (gc_i (gc_i (gc_i gc_0))) (Nat.le_of_ble_eq_true rfl) (Nat.le_of_ble_eq_true rfl) ⟨Nat.zero_le _, Nat.zero_le _⟩ (m_X3_cell u1 hWk hj h1k hbk) ?_
      rw [hcx k (by omega)]
      refine g_aload_n (pc := 41) dX3_mends_41 rfl rfl ?_
      refine g_getR (pc := 42) dX3_mends_42 fl_X3_45 s_114 (by decide) rfl t_114_18 ?_
      refine g_iload (pc := 45) dX3_mends_45 rfl ?_
      refine g_ialoadN (pc := 47) dX3_mends_47 s_125 (by decide) (by omega) (by decide) hXk ?_
      refine g_rvV (av := [.int _, .int _]) (pc := 48) dX3_mends_48 mt_X3_writes lk_X3_149 im_X3_writes se_X3_writes np_X3_writes s_114 (by decide) (by decide) rfl (gc_i (gc_i gc_0)) (Nat.le_of_ble_eq_true rfl) (Nat.le_of_ble_eq_true rfl) (m_X3_writes u1 u2 hcl) ?_
      rintro I1 ⟨k1, k2, k3⟩
      rw [mnC_s, ← nS_t hbt] at k2
      rw [show wrV (mnV W j b S X k) (cellN W j b k) (X k).val = mnV W j b S X (k + 1) from by rw [mnV, if_pos hbt]] at k1
      refine g_iincN (pc := 51) dX3_mends_51 (Nat.le_of_ble_eq_true rfl) rfl rfl ?_
      refine g_goto (tgt := 13) (pc := 54) dX3_mends_54 (by decide) ?_
      first
        | exact kn _ ⟨k1, k2, Sm.trans u3 k3⟩
        | exact kn _ ⟨u1, u2, u3⟩
  · obtain ⟨u1, u2, u3⟩ := hJ
    have hz1 : J 114 23 = nI z := by rw [u3 114 (by decide)]; exact hz
    have hzn : nS S z = nS S 14 := (nS_z hSl (by omega)).symm
    refine g_iload (pc := 13) dX3_mends_13 rfl ?_
    refine g_aload_n (pc := 15) dX3_mends_15 rfl rfl ?_
    refine g_getIV (pc := 16) dX3_mends_16 fl_X3_133 s_114 (by decide) rfl hz1 ?_
    refine g_icmp_geN (tgt := 57) (pc := 19) dX3_mends_19 (by decide) (by omega) (by omega) (fun c19 => ?_) (fun c19 => ?_)
    rotate_left
    · omega
    refine g_iload_n (pc := 57) dX3_mends_57 rfl rfl ?_
    refine g_fS (av := [.int _]) (pc := 58) dX3_mends_58 mt_X3_bits lk_X3_175 sf_X3_bits np_X3_bits rfl (gc_i gc_0) (Nat.le_of_ble_eq_true rfl) (Nat.le_of_ble_eq_true rfl) ⟨Nat.zero_le _, Nat.zero_le _⟩ (m_X3_bits (by omega)) ?_
    refine g_iret (pc := 61) dX3_mends_61 rfl rfl ?_
    refine ⟨_, _, ⟨rfl, rfl⟩, ?_⟩
    exact ⟨rfl, u1, by rw [← hzn]; exact u2, u3⟩
theorem m_X3_repair_1 (hV : Vok I V) (hW : WF V) {f b : Int32} (hb : ¬ ∃ j k, j < 8 ∧ V (10 * j) = 1 ∧ k < bl V j ∧ f = nI j ∧ b = nI k) : gFn G YX3_repair (d + 5) [.ref 114, .int f, .int b] (hp n I L D) (.inl (some (.int (nI 0)))) (hp n (gUp I 114 0 (nI 1)) L D) 0 0 := by
  refine g_aload_n (pc := 0) dX3_repair_0 rfl rfl ?_
  refine g_iload_n (pc := 1) dX3_repair_1 rfl rfl ?_
  refine g_iload_n (pc := 2) dX3_repair_2 rfl rfl ?_
  refine g_fV (av := [.int _, .int _]) (pc := 3) dX3_repair_3 mt_X3_isThere lk_X3_199 im_X3_isThere se_X3_isThere np_X3_isThere s_114 (by decide) (by decide) rfl (gc_i (gc_i gc_0)) (Nat.le_of_ble_eq_true rfl) (Nat.le_of_ble_eq_true rfl) ⟨Nat.zero_le _, Nat.zero_le _⟩ (m_X3_isThere_f hV hW hb) ?_
  refine g_if_neN (tgt := 11) (pc := 6) dX3_repair_6 (by decide) (by omega) (fun c6 => ?_) (fun c6 => ?_)
  · exact absurd c6 (by decide)
  · refine g_iconst (v := nI 0) (pc := 9) dX3_repair_9 rfl ?_
    refine g_iret (pc := 10) dX3_repair_10 rfl rfl ?_
    first | exact ⟨rfl, rfl⟩ | exact ⟨by rw [bI_t (by first | assumption | omega)], rfl⟩ | exact ⟨by rw [bI_f (by first | assumption | omega)], rfl⟩
theorem m_X3_repair_2 (hV : Vok I V) (hW : WF V) (hX : MX I) {j b : Nat} (hj : j < 8) (h1 : V (10 * j) = 1) (hb : b < bl V j) (hd : ¬ isD V j b = true) : gRi G YX3_repair (d + 5) [.ref 114, .int (nI j), .int (nI b)] n I L D (fun v J => v = nI 0 ∧ QF I J 2) := by
  refine g_aload_n (pc := 0) dX3_repair_0 rfl rfl ?_
  refine g_iload_n (pc := 1) dX3_repair_1 rfl rfl ?_
  refine g_iload_n (pc := 2) dX3_repair_2 rfl rfl ?_
  refine g_fV (av := [.int _, .int _]) (pc := 3) dX3_repair_3 mt_X3_isThere lk_X3_199 im_X3_isThere se_X3_isThere np_X3_isThere s_114 (by decide) (by decide) rfl (gc_i (gc_i gc_0)) (Nat.le_of_ble_eq_true rfl) (Nat.le_of_ble_eq_true rfl) ⟨Nat.zero_le _, Nat.zero_le _⟩ (m_X3_isThere_t hV hW hj h1 hb) ?_
  refine g_if_neN (tgt := 11) (pc := 6) dX3_repair_6 (by decide) (by omega) (fun c6 => ?_) (fun c6 => ?_)
  rotate_left
  · exact absurd c6 (by decide)
  refine g_aload_n (pc := 11) dX3_repair_11 rfl rfl ?_
  refine g_iload_n (pc := 12) dX3_repair_12 rfl rfl ?_
  refine g_iload_n (pc := 13) dX3_repair_13 rfl rfl ?_
  refine g_riV (av := [.int _, .int _]) (pc := 14) dX3_repair_14 mt_X3_isDecoded_ lk_X3_202 im_X3_isDecoded_ se_X3_isDecoded_ np_X3_isDecoded_ s_114 (by decide) (by decide) rfl (gc_i (gc_i gc_0)) (Nat.le_of_ble_eq_true rfl) (Nat.le_of_ble_eq_true rfl) (m_X3_isDecoded_ hV.f hW hX.no hj h1 hb) ?_
  rintro _ I1 ⟨rfl, k1, k2, k3, k4, k5, k6⟩
  refine g_if_neB (tgt := 26) (pc := 17) dX3_repair_17 (by decide) (fun c17 => ?_) (fun c17 => ?_)
  · exact absurd c17 hd
  refine g_aload_n (pc := 20) dX3_repair_20 rfl rfl ?_
  refine g_iconst (v := nI 2) (pc := 21) dX3_repair_21 rfl ?_
  refine g_fV (av := [.int _]) (pc := 22) dX3_repair_22 mt_X3_no lk_X3_124 im_X3_no se_X3_no np_X3_no s_114 (by decide) (by decide) rfl (gc_i gc_0) (Nat.le_of_ble_eq_true rfl) (Nat.le_of_ble_eq_true rfl) ⟨Nat.zero_le _, Nat.zero_le _⟩ (m_X3_no) ?_
  refine g_iret (pc := 25) dX3_repair_25 rfl rfl ?_
  refine ⟨_, _, ⟨rfl, rfl⟩, ?_⟩
  exact ⟨rfl, (dK.q k1).no⟩
theorem m_X3_repair_0 {C : Nat → Int32} {H : hT} {m : Nat} (hM : Md I V C H m) (hW : WF V) (hX : MX I) {j b : Nat} (hj : j < 8) (h1 : V (10 * j) = 1) (hb : b < bl V j) (hd : isD V j b = true) : gRi G YX3_repair (d + 5) [.ref 114, .int (nI j), .int (nI b)] n I L D (fun v J => v = nI (dcN V j b + ern V j b) ∧ J 114 0 = nI 0 ∧ Md J (meV V V j b) (uC C 7 (C 7 + nI (dcN V j b + ern V j b))) (push H m (V, C)) (pm m) ∧ MC [114, 115, 117, 124, 125, 126, 127, 128, 129] [0, 4, 23, 24, 25, 26, 27, 28] I J) := by
  have hV := hM.1.1
  refine g_aload_n (pc := 0) dX3_repair_0 rfl rfl ?_
  refine g_iload_n (pc := 1) dX3_repair_1 rfl rfl ?_
  refine g_iload_n (pc := 2) dX3_repair_2 rfl rfl ?_
  refine g_fV (av := [.int _, .int _]) (pc := 3) dX3_repair_3 mt_X3_isThere lk_X3_199 im_X3_isThere se_X3_isThere np_X3_isThere s_114 (by decide) (by decide) rfl (gc_i (gc_i gc_0)) (Nat.le_of_ble_eq_true rfl) (Nat.le_of_ble_eq_true rfl) ⟨Nat.zero_le _, Nat.zero_le _⟩ (m_X3_isThere_t hV hW hj h1 hb) ?_
  refine g_if_neN (tgt := 11) (pc := 6) dX3_repair_6 (by decide) (by omega) (fun c6 => ?_) (fun c6 => ?_)
  rotate_left
  · exact absurd c6 (by decide)
  refine g_aload_n (pc := 11) dX3_repair_11 rfl rfl ?_
  refine g_iload_n (pc := 12) dX3_repair_12 rfl rfl ?_
  refine g_iload_n (pc := 13) dX3_repair_13 rfl rfl ?_
  refine g_riV (av := [.int _, .int _]) (pc := 14) dX3_repair_14 mt_X3_isDecoded_ lk_X3_202 im_X3_isDecoded_ se_X3_isDecoded_ np_X3_isDecoded_ s_114 (by decide) (by decide) rfl (gc_i (gc_i gc_0)) (Nat.le_of_ble_eq_true rfl) (Nat.le_of_ble_eq_true rfl) (m_X3_isDecoded_ hV.f hW hX.no hj h1 hb) ?_
  rintro _ I1 ⟨rfl, k1, k2, k3, k4, k5, k6⟩
  refine g_if_neB (tgt := 26) (pc := 17) dX3_repair_17 (by decide) (fun c17 => ?_) (fun c17 => ?_)
  rotate_left
  · exact absurd hd c17
  refine g_aload_n (pc := 26) dX3_repair_26 rfl rfl ?_
  refine g_rvV (av := []) (pc := 27) dX3_repair_27 mt_X3_keeps lk_X3_130 im_X3_keeps se_X3_keeps np_X3_keeps s_114 (by decide) (by decide) rfl gc_0 (Nat.le_of_ble_eq_true rfl) (Nat.le_of_ble_eq_true rfl) (m_X3_keeps (H := H) (m := m) (C := C) hM.2.2.1 (by rw [k1.2.1 4 (by decide), gUp_c, if_neg (by decide)]; exact hM.2.1) (hM.2.2.2.s ((k1.1 117 (by decide)).trans (gUp_ne (by decide)))) (k1.v hV.f) (Cok.s (hM.1.2.o (by decide)) k1.1 (by decide))) ?_
  rintro I2 ⟨q1, q2, q3, q4⟩
  have hV2 : Vok I2 V := Vok.s (k1.v hV.f) q1 (by decide)
  have hC2 : Cok I2 C := Cok.s (Cok.s (hM.1.2.o (by decide)) k1.1 (by decide)) q1 (by decide)
  refine g_aload_n (pc := 30) dX3_repair_30 rfl rfl ?_
  refine g_iload_n (pc := 31) dX3_repair_31 rfl rfl ?_
  refine g_iload_n (pc := 32) dX3_repair_32 rfl rfl ?_
  refine g_riV (av := [.int _, .int _]) (pc := 33) dX3_repair_33 mt_X3_mends lk_X3_226 im_X3_mends se_X3_mends np_X3_mends s_114 (by decide) (by decide) rfl (gc_i (gc_i gc_0)) (Nat.le_of_ble_eq_true rfl) (Nat.le_of_ble_eq_true rfl) (m_X3_mends (S := meS V j b) (z := sz V j) (X := dcX V j b) hV2 hC2 hW hj h1 hb (by rw [q2 23 (by decide)]; exact k2) rfl (by rw [q2 26 (by decide)]; exact (k6 hd).1) (by rw [q2 25 (by decide)]; exact k4) rfl (meS_lt hd) (fun i hi => by rw [q1 125 (by decide)]; exact (k6 hd).2.2 i hi)) ?_
  rintro _ I3 ⟨rfl, r1, r2, r3⟩
  refine g_iret (pc := 36) dX3_repair_36 rfl rfl ?_
  refine ⟨_, _, ⟨rfl, rfl⟩, ?_⟩
  rw [meS_n hd] at r2 ⊢
  refine ⟨rfl, ?_, ⟨⟨r1, r2⟩, ?_, (pm_le hM.2.2.1).1, q4.s (r3 117 (by decide))⟩, ?_, ?_, ?_⟩
  · rw [r3 114 (by decide), q2 0 (by decide), k1.2.1 0 (by decide), gUp_c, if_pos rfl]
  · rw [r3 114 (by decide)]; exact q3
  · exact Sm.trans (Sm.up (by decide) Sm.rfl) (Sm.trans (k1.1.mono (by decide)) (Sm.trans (q1.mono (by decide)) (r3.mono (by decide))))
  · exact Sc.trans (Sc.up (by decide) Sc.rfl) (Sc.trans (k1.2.1.mono (by decide)) (Sc.trans (q2.mono (by decide)) (r3.sc (by decide))))
  · obtain ⟨M, hM9⟩ := k1.2.2
    exact ⟨M, hM9.s ((r3 128 (by decide)).trans (q1 128 (by decide)))⟩
end

