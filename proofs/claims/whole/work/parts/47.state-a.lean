/-! ===== the class's state: what it holds; questions ===== -/
theorem lkm_X0_min : Cond.methodLink RX0 43 Lib.Math.min.name ∈ gW := by decide +kernel
theorem lkm_X0_max : Cond.methodLink RX0 49 Lib.Math.max.name ∈ gW := by decide +kernel
theorem lkm_X1_min : Cond.methodLink RX1 77 Lib.Math.min.name ∈ gW := by decide +kernel
theorem lkm_X1_max : Cond.methodLink RX1 83 Lib.Math.max.name ∈ gW := by decide +kernel
theorem lkm_X2_max : Cond.methodLink RX2 335 Lib.Math.max.name ∈ gW := by decide +kernel
theorem lkm_X2_min : Cond.methodLink RX2 346 Lib.Math.min.name ∈ gW := by decide +kernel
theorem lkc_X0 : Cond.methodLink RX0 107 arraycopyName ∈ gW := by decide +kernel
theorem lkc_X1 : Cond.methodLink RX1 49 arraycopyName ∈ gW := by decide +kernel
theorem g_mmaxN {G : gG} {Y : gY} {d pc ix : Nat} {al : List (Option Value)} {st : List Value} {h : gH} {a b : Nat} {kc ks : Nat} {Q : gQ} (dg : decode Y.2.1 pc = .ok (.invokestatic ix, 3)) (hl : Cond.methodLink Y.1.cls ix Lib.Math.max.name ∈ gW) (hrest : (st.map fun v => v.category).sum ≤ 8) (ha : a < 2 ^ 31) (hb : b < 2 ^ 31) (k : gGo G Y d (pc + 3) al (.int (nI (max a b)) :: st) h kc ks Q) : gGo G Y d pc al (.int (nI b) :: .int (nI a) :: st) h kc ks Q := by
  refine g_mmax dg hl hrest ?_
  have e : (if nI a < nI b then nI b else nI a) = nI (max a b) := by
    rcases Nat.lt_or_ge a b with q | q
    · rw [if_pos ((nI_ltI ha hb).mpr q), Nat.max_eq_right (Nat.le_of_lt q)]
    · rw [if_neg (fun w => absurd ((nI_ltI ha hb).mp w) (Nat.not_lt.mpr q)), Nat.max_eq_left q]
  rw [e]; exact k
theorem g_mminN {G : gG} {Y : gY} {d pc ix : Nat} {al : List (Option Value)} {st : List Value} {h : gH} {a b : Nat} {kc ks : Nat} {Q : gQ} (dg : decode Y.2.1 pc = .ok (.invokestatic ix, 3)) (hl : Cond.methodLink Y.1.cls ix Lib.Math.min.name ∈ gW) (hrest : (st.map fun v => v.category).sum ≤ 8) (ha : a < 2 ^ 31) (hb : b < 2 ^ 31) (k : gGo G Y d (pc + 3) al (.int (nI (min a b)) :: st) h kc ks Q) : gGo G Y d pc al (.int (nI b) :: .int (nI a) :: st) h kc ks Q := by
  refine g_mmin dg hl hrest ?_
  have e : (if nI b < nI a then nI b else nI a) = nI (min a b) := by
    rcases Nat.lt_or_ge b a with q | q
    · rw [if_pos ((nI_ltI hb ha).mpr q), Nat.min_eq_right (Nat.le_of_lt q)]
    · rw [if_neg (fun w => absurd ((nI_ltI hb ha).mp w) (Nat.not_lt.mpr q)), Nat.min_eq_left q]
  rw [e]; exact k
/-- a state of the class holds files and counts -/
def Snap (I : Nat → Nat → Int32) (b : Nat) (V : Nat → Nat) (C : Nat → Int32) : Prop :=
  (∀ c, c < 240 → I (b + 1) c = nI (V (80 + c)) ∧ I (b + 2) c = nI (V (560 + c)) ∧ I (b + 3) c = nI (V (320 + c))) ∧
  (∀ k, k < 8 → I (b + 4) k = C k) ∧
  (∀ j, j < 8 → I (b + 5) j = nI (V (10 * j + 1)) ∧ I (b + 6) j = nI (bl V j) ∧ I (b + 7) j = nI (V (10 * j + 2)) ∧ I (b + 8) j = nI (V (10 * j + 3)) ∧ I (b + 9) j = nI (V (10 * j + 4)) ∧ I (b + 10) j = nI (V (10 * j + 5))) ∧
  (∀ j, j < 8 → ∀ q, q < bl V j → I (b + 11) (4 * j + q) = nI (V (10 * j + (6 + q)))) ∧ I b 11 = nI (V 800)
theorem Snap.s {I J : Nat → Nat → Int32} {b : Nat} {V : Nat → Nat} {C : Nat → Int32} (h : Snap I b V C) (e : ∀ i, i < 12 → J (b + i) = I (b + i)) : Snap J b V C := by
  obtain ⟨h1, h2, h3, h4, h5⟩ := h
  refine ⟨fun c hc => ?_, fun k hk => ?_, fun j hj => ?_, fun j hj q hq => ?_, ?_⟩
  · rw [e 1 (by decide), e 2 (by decide), e 3 (by decide)]; exact h1 c hc
  · rw [e 4 (by decide)]; exact h2 k hk
  · rw [e 5 (by decide), e 6 (by decide), e 7 (by decide), e 8 (by decide), e 9 (by decide), e 10 (by decide)]; exact h3 j hj
  · rw [e 11 (by decide)]; exact h4 j hj q hq
  · rw [show J b = I b from e 0 (by decide)]; exact h5
theorem fi_len {V : Nat → Nat} {j : Nat} (h : WFj V j) : V (10 * j) = 1 ↔ 0 < V (10 * j + 1) := by
  refine ⟨fun q => (h.2.2.2.2.2.2.2.2 q).1, fun q => ?_⟩
  have h0 := h.1
  rcases Nat.lt_or_ge (V (10 * j)) 1 with w | w
  · have := h.2.2.2.2.2.2.2.1 (by omega) 1 (by decide)
    omega
  · omega
section
variable {G : gG} {d n : Nat} {I : Nat → Nat → Int32} {L : Nat → Nat → Int64} {D : Nat → Nat → UInt64} {V : Nat → Nat}
variable {C : Nat → Int32}
theorem m_X1_hasFile (hS : Snap I 4 V C) (hW : WF V) {f : Int32} : gFn G YX1_hasFile d [.ref 4, .int f] (hp n I L D) (.inl (some (.int (bI (isFi V f))))) (hp n I L D) 0 0 := by
  by_cases hf : (0 : Int32) ≤ f ∧ f ≤ 7
  · obtain ⟨j, hj, rfl⟩ := nI_7 hf
    have hw := hW.1 j hj
    have h1 := hw.2.1
    rw [bI_congr (isFi_n hj), bI_congr (fi_len hw)]
    refine g_iload_n (pc := 0) dX1_hasFile_0 rfl rfl ?_
    refine g_if_ltN (tgt := 23) (pc := 1) dX1_hasFile_1 (by decide) (by omega) (fun c1 => ?_) (fun c1 => ?_)
    · omega
    · refine g_iload_n (pc := 4) dX1_hasFile_4 rfl rfl ?_
      refine g_bipush (v := nI 8) (pc := 5) dX1_hasFile_5 rfl ?_
      refine g_icmp_geN (tgt := 23) (pc := 7) dX1_hasFile_7 (by decide) (by omega) (by omega) (fun c7 => ?_) (fun c7 => ?_)
      · omega
      · refine g_aload_n (pc := 10) dX1_hasFile_10 rfl rfl ?_
        refine g_getR (pc := 11) dX1_hasFile_11 fl_X1_24 s_4 (by decide) rfl t_4_4 ?_
        refine g_iload_n (pc := 14) dX1_hasFile_14 rfl rfl ?_
        refine g_ialoadN (pc := 15) dX1_hasFile_15 s_9 (by decide) (by omega) (by decide) (hS.2.2.1 j hj).1 ?_
        refine g_if_leN (tgt := 23) (pc := 16) dX1_hasFile_16 (by decide) (by omega) (fun c16 => ?_) (fun c16 => ?_)
        · refine g_iconst (v := nI 0) (pc := 23) dX1_hasFile_23 rfl ?_
          refine g_iret (pc := 24) dX1_hasFile_24 rfl rfl ?_
          first | exact ⟨rfl, rfl⟩ | exact ⟨by rw [bI_t (by first | assumption | omega)], rfl⟩ | exact ⟨by rw [bI_f (by first | assumption | omega)], rfl⟩
        · refine g_iconst (v := nI 1) (pc := 19) dX1_hasFile_19 rfl ?_
          refine g_goto (tgt := 24) (pc := 20) dX1_hasFile_20 (by decide) ?_
          refine g_iret (pc := 24) dX1_hasFile_24 rfl rfl ?_
          first | exact ⟨rfl, rfl⟩ | exact ⟨by rw [bI_t (by first | assumption | omega)], rfl⟩ | exact ⟨by rw [bI_f (by first | assumption | omega)], rfl⟩
  · rw [bI_f (fun q => hf q.1)]
    rw [Int32.le_iff_toInt_le, Int32.le_iff_toInt_le] at hf
    have e0 : (0 : Int32).toInt = 0 := rfl
    have e7 : (7 : Int32).toInt = 7 := rfl
    have e8 : (nI 8).toInt = 8 := rfl
    refine g_iload_n (pc := 0) dX1_hasFile_0 rfl rfl ?_
    refine g_if_lt (tgt := 23) (pc := 1) dX1_hasFile_1 (by decide) (fun c1 => ?_) (fun c1 => ?_)
    · refine g_iconst (v := nI 0) (pc := 23) dX1_hasFile_23 rfl ?_
      refine g_iret (pc := 24) dX1_hasFile_24 rfl rfl ?_
      first | exact ⟨rfl, rfl⟩ | exact ⟨by rw [bI_t (by first | assumption | omega)], rfl⟩ | exact ⟨by rw [bI_f (by first | assumption | omega)], rfl⟩
    · refine g_iload_n (pc := 4) dX1_hasFile_4 rfl rfl ?_
      refine g_bipush (v := nI 8) (pc := 5) dX1_hasFile_5 rfl ?_
      refine g_icmp_ge (tgt := 23) (pc := 7) dX1_hasFile_7 (by decide) (fun c7 => ?_) (fun c7 => ?_)
      · refine g_iconst (v := nI 0) (pc := 23) dX1_hasFile_23 rfl ?_
        refine g_iret (pc := 24) dX1_hasFile_24 rfl rfl ?_
        first | exact ⟨rfl, rfl⟩ | exact ⟨by rw [bI_t (by first | assumption | omega)], rfl⟩ | exact ⟨by rw [bI_f (by first | assumption | omega)], rfl⟩
      · rw [Int32.lt_iff_toInt_lt] at c1
        rw [Int32.le_iff_toInt_le] at c7
        exact absurd hf (by omega)
theorem m_X1_hasFileN (hS : Snap I 4 V C) (hW : WF V) {j : Nat} (hj : j < 8) : gFn G YX1_hasFile d [.ref 4, .int (nI j)] (hp n I L D) (.inl (some (.int (bI (V (10 * j) = 1))))) (hp n I L D) 0 0 := by
  rw [← bI_congr (isFi_n hj)]
  exact m_X1_hasFile hS hW
theorem m_X1_blockSize (hS : Snap I 4 V C) (hW : WF V) {j : Nat} (hj : j < 8) : gFn G YX1_blockSize d [.ref 4, .int (nI j)] (hp n I L D) (.inl (some (.int (nI (sz V j))))) (hp n I L D) 0 0 := by
  refine g_bipush (v := nI 8) (pc := 0) dX1_blockSize_0 rfl ?_
  refine g_aload_n (pc := 2) dX1_blockSize_2 rfl rfl ?_
  refine g_getR (pc := 3) dX1_blockSize_3 fl_X1_30 s_4 (by decide) rfl t_4_6 ?_
  refine g_iload_n (pc := 6) dX1_blockSize_6 rfl rfl ?_
  refine g_ialoadN (pc := 7) dX1_blockSize_7 s_11 (by decide) (by omega) (by decide) (hS.2.2.1 j hj).2.2.1 ?_
  refine g_iaddN (pc := 8) dX1_blockSize_8 ?_
  refine g_iret (pc := 9) dX1_blockSize_9 rfl rfl ?_
  exact ⟨by rw [Nat.add_comm 8]; rfl, rfl⟩
theorem m_X1_areaSize (hS : Snap I 4 V C) (hW : WF V) {j : Nat} (hj : j < 8) : gFn G YX1_areaSize (d + 1) [.ref 4, .int (nI j)] (hp n I L D) (.inl (some (.int (nI (ce V j))))) (hp n I L D) 0 0 := by
  refine g_aload_n (pc := 0) dX1_areaSize_0 rfl rfl ?_
  refine g_getR (pc := 1) dX1_areaSize_1 fl_X1_27 s_4 (by decide) rfl t_4_5 ?_
  refine g_iload_n (pc := 4) dX1_areaSize_4 rfl rfl ?_
  refine g_ialoadN (pc := 5) dX1_areaSize_5 s_10 (by decide) (by omega) (by decide) (hS.2.2.1 j hj).2.1 ?_
  refine g_aload_n (pc := 6) dX1_areaSize_6 rfl rfl ?_
  refine g_iload_n (pc := 7) dX1_areaSize_7 rfl rfl ?_
  refine g_fV (av := [.int _]) (pc := 8) dX1_areaSize_8 mt_X1_blockSize lk_X1_67 im_X1_blockSize se_X1_blockSize np_X1_blockSize s_4 (by decide) (by decide) rfl (gc_i gc_0) (Nat.le_of_ble_eq_true rfl) (Nat.le_of_ble_eq_true rfl) ⟨Nat.zero_le _, Nat.zero_le _⟩ (m_X1_blockSize hS hW hj) ?_
  refine g_imulN (pc := 11) dX1_areaSize_11 ?_
  refine g_iret (pc := 12) dX1_areaSize_12 rfl rfl ?_
  first | exact ⟨rfl, rfl⟩ | exact ⟨by rw [bI_t (by first | assumption | omega)], rfl⟩ | exact ⟨by rw [bI_f (by first | assumption | omega)], rfl⟩
theorem m_X1_areaStart (hS : Snap I 4 V C) {j : Nat} (hj : j < 8) : gFn G YX1_areaStart d [.ref 4, .int (nI j)] (hp n I L D) (.inl (some (.int (nI (V (10 * j + 5)))))) (hp n I L D) 0 0 := by
  refine g_iload_n (pc := 0) dX1_areaStart_0 rfl rfl ?_
  refine g_if_geN (tgt := 8) (pc := 1) dX1_areaStart_1 (by decide) (by omega) (fun c1 => ?_) (fun c1 => ?_)
  · refine g_aload_n (pc := 8) dX1_areaStart_8 rfl rfl ?_
    refine g_getR (pc := 9) dX1_areaStart_9 fl_X1_39 s_4 (by decide) rfl t_4_9 ?_
    refine g_iload_n (pc := 12) dX1_areaStart_12 rfl rfl ?_
    refine g_ialoadN (pc := 13) dX1_areaStart_13 s_14 (by decide) (by omega) (by decide) (hS.2.2.1 j hj).2.2.2.2.2 ?_
    refine g_iret (pc := 14) dX1_areaStart_14 rfl rfl ?_
    first | exact ⟨rfl, rfl⟩ | exact ⟨by rw [bI_t (by first | assumption | omega)], rfl⟩ | exact ⟨by rw [bI_f (by first | assumption | omega)], rfl⟩
  · omega
theorem m_X1_areaEnd (hS : Snap I 4 V C) (hW : WF V) {j : Nat} (hj : j < 8) : gFn G YX1_areaEnd (d + 2) [.ref 4, .int (nI j)] (hp n I L D) (.inl (some (.int (nI (V (10 * j + 5) + ce V j))))) (hp n I L D) 0 0 := by
  refine g_iload_n (pc := 0) dX1_areaEnd_0 rfl rfl ?_
  refine g_if_geN (tgt := 10) (pc := 1) dX1_areaEnd_1 (by decide) (by omega) (fun c1 => ?_) (fun c1 => ?_)
  · refine g_aload_n (pc := 10) dX1_areaEnd_10 rfl rfl ?_
    refine g_getR (pc := 11) dX1_areaEnd_11 fl_X1_39 s_4 (by decide) rfl t_4_9 ?_
    refine g_iload_n (pc := 14) dX1_areaEnd_14 rfl rfl ?_
    refine g_ialoadN (pc := 15) dX1_areaEnd_15 s_14 (by decide) (by omega) (by decide) (hS.2.2.1 j hj).2.2.2.2.2 ?_
    refine g_aload_n (pc := 16) dX1_areaEnd_16 rfl rfl ?_
    refine g_iload_n (pc := 17) dX1_areaEnd_17 rfl rfl ?_
    refine g_fV (av := [.int _]) (pc := 18) dX1_areaEnd_18 mt_X1_areaSize lk_X1_74 im_X1_areaSize se_X1_areaSize np_X1_areaSize s_4 (by decide) (by decide) rfl (gc_i gc_0) (Nat.le_of_ble_eq_true rfl) (Nat.le_of_ble_eq_true rfl) ⟨Nat.zero_le _, Nat.zero_le _⟩ (m_X1_areaSize hS hW hj) ?_
    refine g_iaddN (pc := 21) dX1_areaEnd_21 ?_
    refine g_iret (pc := 22) dX1_areaEnd_22 rfl rfl ?_
    first | exact ⟨rfl, rfl⟩ | exact ⟨by rw [bI_t (by first | assumption | omega)], rfl⟩ | exact ⟨by rw [bI_f (by first | assumption | omega)], rfl⟩
  · omega
theorem m_X1_areaStart_a : gFn G YX1_areaStart d [.ref 4, .int (-1)] (hp n I L D) (.inl (some (.int (nI 0)))) (hp n I L D) 0 0 := by
  refine g_iload_n (pc := 0) dX1_areaStart_0 rfl rfl ?_
  refine g_if_ge (tgt := 8) (pc := 1) dX1_areaStart_1 (by decide) (fun c1 => ?_) (fun c1 => ?_)
  · exact absurd c1 (by decide)
  · refine g_iconst (v := nI 0) (pc := 4) dX1_areaStart_4 rfl ?_
    refine g_goto (tgt := 14) (pc := 5) dX1_areaStart_5 (by decide) ?_
    refine g_iret (pc := 14) dX1_areaStart_14 rfl rfl ?_
    first | exact ⟨rfl, rfl⟩ | exact ⟨by rw [bI_t (by first | assumption | omega)], rfl⟩ | exact ⟨by rw [bI_f (by first | assumption | omega)], rfl⟩
theorem m_X1_areaEnd_a : gFn G YX1_areaEnd (d + 2) [.ref 4, .int (-1)] (hp n I L D) (.inl (some (.int (nI 240)))) (hp n I L D) 0 0 := by
  refine g_iload_n (pc := 0) dX1_areaEnd_0 rfl rfl ?_
  refine g_if_ge (tgt := 10) (pc := 1) dX1_areaEnd_1 (by decide) (fun c1 => ?_) (fun c1 => ?_)
  · exact absurd c1 (by decide)
  · refine g_sipush (v := nI 240) (pc := 4) dX1_areaEnd_4 rfl ?_
    refine g_goto (tgt := 22) (pc := 7) dX1_areaEnd_7 (by decide) ?_
    refine g_iret (pc := 22) dX1_areaEnd_22 rfl rfl ?_
    first | exact ⟨rfl, rfl⟩ | exact ⟨by rw [bI_t (by first | assumption | omega)], rfl⟩ | exact ⟨by rw [bI_f (by first | assumption | omega)], rfl⟩
theorem m_X1_hasBlock_t (hS : Snap I 4 V C) (hW : WF V) {j b : Nat} (hj : j < 8) (h1 : V (10 * j) = 1) (hb : b < bl V j) : gFn G YX1_hasBlock (d + 1) [.ref 4, .int (nI j), .int (nI b)] (hp n I L D) (.inl (some (.int (nI 1)))) (hp n I L D) 0 0 := by
  have hbl := bl_le (hW.1 j hj)
  refine g_aload_n (pc := 0) dX1_hasBlock_0 rfl rfl ?_
  refine g_iload_n (pc := 1) dX1_hasBlock_1 rfl rfl ?_
  refine g_fV (av := [.int _]) (pc := 2) dX1_hasBlock_2 mt_X1_hasFile lk_X1_59 im_X1_hasFile se_X1_hasFile np_X1_hasFile s_4 (by decide) (by decide) rfl (gc_i gc_0) (Nat.le_of_ble_eq_true rfl) (Nat.le_of_ble_eq_true rfl) ⟨Nat.zero_le _, Nat.zero_le _⟩ (m_X1_hasFileN hS hW hj) ?_
  refine g_if_eqB (tgt := 26) (pc := 5) dX1_hasBlock_5 (by decide) (fun c5 => ?_) (fun c5 => ?_)
  · exact absurd h1 c5
  · refine g_iload_n (pc := 8) dX1_hasBlock_8 rfl rfl ?_
    refine g_if_ltN (tgt := 26) (pc := 9) dX1_hasBlock_9 (by decide) (by omega) (fun c9 => ?_) (fun c9 => ?_)
    · omega
    · refine g_iload_n (pc := 12) dX1_hasBlock_12 rfl rfl ?_
      refine g_aload_n (pc := 13) dX1_hasBlock_13 rfl rfl ?_
      refine g_getR (pc := 14) dX1_hasBlock_14 fl_X1_27 s_4 (by decide) rfl t_4_5 ?_
      refine g_iload_n (pc := 17) dX1_hasBlock_17 rfl rfl ?_
      refine g_ialoadN (pc := 18) dX1_hasBlock_18 s_10 (by decide) (by omega) (by decide) (hS.2.2.1 j hj).2.1 ?_
      refine g_icmp_geN (tgt := 26) (pc := 19) dX1_hasBlock_19 (by decide) (by omega) (by omega) (fun c19 => ?_) (fun c19 => ?_)
      · omega
      · refine g_iconst (v := nI 1) (pc := 22) dX1_hasBlock_22 rfl ?_
        refine g_goto (tgt := 27) (pc := 23) dX1_hasBlock_23 (by decide) ?_
        refine g_iret (pc := 27) dX1_hasBlock_27 rfl rfl ?_
        first | exact ⟨rfl, rfl⟩ | exact ⟨by rw [bI_t (by first | assumption | omega)], rfl⟩ | exact ⟨by rw [bI_f (by first | assumption | omega)], rfl⟩
theorem m_X1_hasBlock_f (hS : Snap I 4 V C) (hW : WF V) {f b : Int32} (hb : ¬ ∃ j k, j < 8 ∧ V (10 * j) = 1 ∧ k < bl V j ∧ f = nI j ∧ b = nI k) : gFn G YX1_hasBlock (d + 1) [.ref 4, .int f, .int b] (hp n I L D) (.inl (some (.int (nI 0)))) (hp n I L D) 0 0 := by
  by_cases hf : isFi V f
  · obtain ⟨j, hj, rfl⟩ := nI_7 hf.1
    have h1 := (isFi_n hj).mp hf
    have hbl := bl_le (hW.1 j hj)
    refine g_aload_n (pc := 0) dX1_hasBlock_0 rfl rfl ?_
    refine g_iload_n (pc := 1) dX1_hasBlock_1 rfl rfl ?_
    refine g_fV (av := [.int _]) (pc := 2) dX1_hasBlock_2 mt_X1_hasFile lk_X1_59 im_X1_hasFile se_X1_hasFile np_X1_hasFile s_4 (by decide) (by decide) rfl (gc_i gc_0) (Nat.le_of_ble_eq_true rfl) (Nat.le_of_ble_eq_true rfl) ⟨Nat.zero_le _, Nat.zero_le _⟩ (m_X1_hasFileN hS hW hj) ?_
    refine g_if_eqB (tgt := 26) (pc := 5) dX1_hasBlock_5 (by decide) (fun c5 => ?_) (fun c5 => ?_)
    · exact absurd h1 c5
    · refine g_iload_n (pc := 8) dX1_hasBlock_8 rfl rfl ?_
      refine g_if_lt (tgt := 26) (pc := 9) dX1_hasBlock_9 (by decide) (fun c9 => ?_) (fun c9 => ?_)
      · refine g_iconst (v := nI 0) (pc := 26) dX1_hasBlock_26 rfl ?_
        refine g_iret (pc := 27) dX1_hasBlock_27 rfl rfl ?_
        first | exact ⟨rfl, rfl⟩ | exact ⟨by rw [bI_t (by first | assumption | omega)], rfl⟩ | exact ⟨by rw [bI_f (by first | assumption | omega)], rfl⟩
      · obtain ⟨k, hk31, rfl⟩ := nI_of c9
        refine g_iload_n (pc := 12) dX1_hasBlock_12 rfl rfl ?_
        refine g_aload_n (pc := 13) dX1_hasBlock_13 rfl rfl ?_
        refine g_getR (pc := 14) dX1_hasBlock_14 fl_X1_27 s_4 (by decide) rfl t_4_5 ?_
        refine g_iload_n (pc := 17) dX1_hasBlock_17 rfl rfl ?_
        refine g_ialoadN (pc := 18) dX1_hasBlock_18 s_10 (by decide) (by omega) (by decide) (hS.2.2.1 _ hj).2.1 ?_
        refine g_icmp_ge (tgt := 26) (pc := 19) dX1_hasBlock_19 (by decide) (fun c19 => ?_) (fun c19 => ?_)
        · refine g_iconst (v := nI 0) (pc := 26) dX1_hasBlock_26 rfl ?_
          refine g_iret (pc := 27) dX1_hasBlock_27 rfl rfl ?_
          first | exact ⟨rfl, rfl⟩ | exact ⟨by rw [bI_t (by first | assumption | omega)], rfl⟩ | exact ⟨by rw [bI_f (by first | assumption | omega)], rfl⟩
        · rw [Int32.le_iff_toInt_le, nI_toInt (by omega), nI_toInt hk31] at c19
          exact absurd ⟨j, k, hj, h1, by omega, rfl, rfl⟩ hb
  · skip
    refine g_aload_n (pc := 0) dX1_hasBlock_0 rfl rfl ?_
    refine g_iload_n (pc := 1) dX1_hasBlock_1 rfl rfl ?_
    refine g_fV (av := [.int _]) (pc := 2) dX1_hasBlock_2 mt_X1_hasFile lk_X1_59 im_X1_hasFile se_X1_hasFile np_X1_hasFile s_4 (by decide) (by decide) rfl (gc_i gc_0) (Nat.le_of_ble_eq_true rfl) (Nat.le_of_ble_eq_true rfl) ⟨Nat.zero_le _, Nat.zero_le _⟩ (m_X1_hasFile hS hW) ?_
    refine g_if_eqB (tgt := 26) (pc := 5) dX1_hasBlock_5 (by decide) (fun c5 => ?_) (fun c5 => ?_)
    · refine g_iconst (v := nI 0) (pc := 26) dX1_hasBlock_26 rfl ?_
      refine g_iret (pc := 27) dX1_hasBlock_27 rfl rfl ?_
      first | exact ⟨rfl, rfl⟩ | exact ⟨by rw [bI_t (by first | assumption | omega)], rfl⟩ | exact ⟨by rw [bI_f (by first | assumption | omega)], rfl⟩
    · exact absurd c5 hf
end

