/-! ===== the class's state: questions (b) ===== -/
section
variable {G : gG} {d n : Nat} {I : Nat → Nat → Int32} {L : Nat → Nat → Int64} {D : Nat → Nat → UInt64} {V : Nat → Nat}
variable {C : Nat → Int32}
theorem m_X1_hasPosition_t (hS : Snap I 4 V C) (hW : WF V) {j b i : Nat} (hj : j < 8) (h1 : V (10 * j) = 1) (hb : b < bl V j) (hi : i < sz V j) : gFn G YX1_hasPosition (d + 2) [.ref 4, .int (nI j), .int (nI b), .int (nI i)] (hp n I L D) (.inl (some (.int (nI 1)))) (hp n I L D) 0 0 := by
  have hsz := sz_le (hW.1 j hj)
  refine g_aload_n (pc := 0) dX1_hasPosition_0 rfl rfl ?_
  refine g_iload_n (pc := 1) dX1_hasPosition_1 rfl rfl ?_
  refine g_iload_n (pc := 2) dX1_hasPosition_2 rfl rfl ?_
  refine g_fV (av := [.int _, .int _]) (pc := 3) dX1_hasPosition_3 mt_X1_hasBlock lk_X1_63 im_X1_hasBlock se_X1_hasBlock np_X1_hasBlock s_4 (by decide) (by decide) rfl (gc_i (gc_i gc_0)) (Nat.le_of_ble_eq_true rfl) (Nat.le_of_ble_eq_true rfl) ⟨Nat.zero_le _, Nat.zero_le _⟩ (m_X1_hasBlock_t hS hW hj h1 hb) ?_
  refine g_if_eqN (tgt := 26) (pc := 6) dX1_hasPosition_6 (by decide) (by omega) (fun c6 => ?_) (fun c6 => ?_)
  · exact absurd c6 (by decide)
  · refine g_iload_n (pc := 9) dX1_hasPosition_9 rfl rfl ?_
    refine g_if_ltN (tgt := 26) (pc := 10) dX1_hasPosition_10 (by decide) (by omega) (fun c10 => ?_) (fun c10 => ?_)
    · omega
    · refine g_iload_n (pc := 13) dX1_hasPosition_13 rfl rfl ?_
      refine g_aload_n (pc := 14) dX1_hasPosition_14 rfl rfl ?_
      refine g_iload_n (pc := 15) dX1_hasPosition_15 rfl rfl ?_
      refine g_fV (av := [.int _]) (pc := 16) dX1_hasPosition_16 mt_X1_blockSize lk_X1_67 im_X1_blockSize se_X1_blockSize np_X1_blockSize s_4 (by decide) (by decide) rfl (gc_i gc_0) (Nat.le_of_ble_eq_true rfl) (Nat.le_of_ble_eq_true rfl) ⟨Nat.zero_le _, Nat.zero_le _⟩ (m_X1_blockSize hS hW hj) ?_
      refine g_icmp_geN (tgt := 26) (pc := 19) dX1_hasPosition_19 (by decide) (by omega) (by omega) (fun c19 => ?_) (fun c19 => ?_)
      · omega
      · refine g_iconst (v := nI 1) (pc := 22) dX1_hasPosition_22 rfl ?_
        refine g_goto (tgt := 27) (pc := 23) dX1_hasPosition_23 (by decide) ?_
        refine g_iret (pc := 27) dX1_hasPosition_27 rfl rfl ?_
        first | exact ⟨rfl, rfl⟩ | exact ⟨by rw [bI_t (by first | assumption | omega)], rfl⟩ | exact ⟨by rw [bI_f (by first | assumption | omega)], rfl⟩
theorem m_X1_hasPosition_f (hS : Snap I 4 V C) (hW : WF V) {f b i : Int32} (hb : ¬ ∃ j k l, j < 8 ∧ V (10 * j) = 1 ∧ k < bl V j ∧ l < sz V j ∧ f = nI j ∧ b = nI k ∧ i = nI l) : gFn G YX1_hasPosition (d + 2) [.ref 4, .int f, .int b, .int i] (hp n I L D) (.inl (some (.int (nI 0)))) (hp n I L D) 0 0 := by
  by_cases hq : ∃ j k, j < 8 ∧ V (10 * j) = 1 ∧ k < bl V j ∧ f = nI j ∧ b = nI k
  · obtain ⟨j, k, hj, h1, hk, rfl, rfl⟩ := hq
    have hsz := sz_le (hW.1 j hj)
    refine g_aload_n (pc := 0) dX1_hasPosition_0 rfl rfl ?_
    refine g_iload_n (pc := 1) dX1_hasPosition_1 rfl rfl ?_
    refine g_iload_n (pc := 2) dX1_hasPosition_2 rfl rfl ?_
    refine g_fV (av := [.int _, .int _]) (pc := 3) dX1_hasPosition_3 mt_X1_hasBlock lk_X1_63 im_X1_hasBlock se_X1_hasBlock np_X1_hasBlock s_4 (by decide) (by decide) rfl (gc_i (gc_i gc_0)) (Nat.le_of_ble_eq_true rfl) (Nat.le_of_ble_eq_true rfl) ⟨Nat.zero_le _, Nat.zero_le _⟩ (m_X1_hasBlock_t hS hW hj h1 hk) ?_
    refine g_if_eqN (tgt := 26) (pc := 6) dX1_hasPosition_6 (by decide) (by omega) (fun c6 => ?_) (fun c6 => ?_)
    · exact absurd c6 (by decide)
    · refine g_iload_n (pc := 9) dX1_hasPosition_9 rfl rfl ?_
      refine g_if_lt (tgt := 26) (pc := 10) dX1_hasPosition_10 (by decide) (fun c10 => ?_) (fun c10 => ?_)
      · refine g_iconst (v := nI 0) (pc := 26) dX1_hasPosition_26 rfl ?_
        refine g_iret (pc := 27) dX1_hasPosition_27 rfl rfl ?_
        first | exact ⟨rfl, rfl⟩ | exact ⟨by rw [bI_t (by first | assumption | omega)], rfl⟩ | exact ⟨by rw [bI_f (by first | assumption | omega)], rfl⟩
      · obtain ⟨l, hl31, rfl⟩ := nI_of c10
        refine g_iload_n (pc := 13) dX1_hasPosition_13 rfl rfl ?_
        refine g_aload_n (pc := 14) dX1_hasPosition_14 rfl rfl ?_
        refine g_iload_n (pc := 15) dX1_hasPosition_15 rfl rfl ?_
        refine g_fV (av := [.int _]) (pc := 16) dX1_hasPosition_16 mt_X1_blockSize lk_X1_67 im_X1_blockSize se_X1_blockSize np_X1_blockSize s_4 (by decide) (by decide) rfl (gc_i gc_0) (Nat.le_of_ble_eq_true rfl) (Nat.le_of_ble_eq_true rfl) ⟨Nat.zero_le _, Nat.zero_le _⟩ (m_X1_blockSize hS hW hj) ?_
        refine g_icmp_ge (tgt := 26) (pc := 19) dX1_hasPosition_19 (by decide) (fun c19 => ?_) (fun c19 => ?_)
        · refine g_iconst (v := nI 0) (pc := 26) dX1_hasPosition_26 rfl ?_
          refine g_iret (pc := 27) dX1_hasPosition_27 rfl rfl ?_
          first | exact ⟨rfl, rfl⟩ | exact ⟨by rw [bI_t (by first | assumption | omega)], rfl⟩ | exact ⟨by rw [bI_f (by first | assumption | omega)], rfl⟩
        · rw [Int32.le_iff_toInt_le, nI_toInt (by omega), nI_toInt hl31] at c19
          exact absurd ⟨j, k, l, hj, h1, hk, by omega, rfl, rfl, rfl⟩ hb
  · skip
    refine g_aload_n (pc := 0) dX1_hasPosition_0 rfl rfl ?_
    refine g_iload_n (pc := 1) dX1_hasPosition_1 rfl rfl ?_
    refine g_iload_n (pc := 2) dX1_hasPosition_2 rfl rfl ?_
    refine g_fV (av := [.int _, .int _]) (pc := 3) dX1_hasPosition_3 mt_X1_hasBlock lk_X1_63 im_X1_hasBlock se_X1_hasBlock np_X1_hasBlock s_4 (by decide) (by decide) rfl (gc_i (gc_i gc_0)) (Nat.le_of_ble_eq_true rfl) (Nat.le_of_ble_eq_true rfl) ⟨Nat.zero_le _, Nat.zero_le _⟩ (m_X1_hasBlock_f hS hW hq) ?_
    refine g_if_eqN (tgt := 26) (pc := 6) dX1_hasPosition_6 (by decide) (by omega) (fun c6 => ?_) (fun c6 => ?_)
    · refine g_iconst (v := nI 0) (pc := 26) dX1_hasPosition_26 rfl ?_
      refine g_iret (pc := 27) dX1_hasPosition_27 rfl rfl ?_
      first | exact ⟨rfl, rfl⟩ | exact ⟨by rw [bI_t (by first | assumption | omega)], rfl⟩ | exact ⟨by rw [bI_f (by first | assumption | omega)], rfl⟩
    · exact absurd c6 (by decide)
theorem m_X1_fileCount (hS : Snap I 4 V C) (hW : WF V) : gFn G YX1_fileCount (d + 1) [.ref 4] (hp n I L D) (.inl (some (.int (nI (mn V 8))))) (hp n I L D) 0 0 := by
  refine g_iconst (v := nI 0) (pc := 0) dX1_fileCount_0 rfl ?_
  refine g_istore_n (pc := 1) dX1_fileCount_1 rfl (Nat.le_of_ble_eq_true rfl) rfl ?_
  refine g_iconst (v := nI 0) (pc := 2) dX1_fileCount_2 rfl ?_
  refine g_istore_n (pc := 3) dX1_fileCount_3 rfl (Nat.le_of_ble_eq_true rfl) rfl ?_
  refine g_loop 8 (fun _ (_ : Unit) => True) (fun k _ => [some (.ref 4), some (.int (nI (mn V k))), some (.int (nI k))]) (fun _ => hp n I L D) (fun k _ hk _ kn => ?_) (fun _ _ => ?_) 0 () (Nat.zero_le _) trivial
  · skip
    refine g_iload_n (pc := 4) dX1_fileCount_4 rfl rfl ?_
    refine g_bipush (v := nI 8) (pc := 5) dX1_fileCount_5 rfl ?_
    refine g_icmp_geN (tgt := 27) (pc := 7) dX1_fileCount_7 (by decide) (by omega) (by omega) (fun c7 => ?_) (fun c7 => ?_)
    · omega
    refine g_aload_n (pc := 10) dX1_fileCount_10 rfl rfl ?_
    refine g_iload_n (pc := 11) dX1_fileCount_11 rfl rfl ?_
    refine g_fV (av := [.int _]) (pc := 12) dX1_fileCount_12 mt_X1_hasFile lk_X1_59 im_X1_hasFile se_X1_hasFile np_X1_hasFile s_4 (by decide) (by decide) rfl (gc_i gc_0) (Nat.le_of_ble_eq_true rfl) (Nat.le_of_ble_eq_true rfl) ⟨Nat.zero_le _, Nat.zero_le _⟩ (m_X1_hasFileN hS hW hk) ?_
    refine g_if_eqB (tgt := 21) (pc := 15) dX1_fileCount_15 (by decide) (fun c15 => ?_) (fun c15 => ?_)
    · have e : mn V (k + 1) = mn V k := by rw [mn, if_neg c15]; rfl
      refine g_iincN (pc := 21) dX1_fileCount_21 (Nat.le_of_ble_eq_true rfl) rfl rfl ?_
      refine g_goto (tgt := 4) (pc := 24) dX1_fileCount_24 (by decide) ?_
      have kn2 := kn () trivial
      rw [e] at kn2
      exact kn2
    · have e : mn V (k + 1) = mn V k + 1 := by rw [mn, if_pos c15]
      refine g_iincN (pc := 18) dX1_fileCount_18 (Nat.le_of_ble_eq_true rfl) rfl rfl ?_
      refine g_iincN (pc := 21) dX1_fileCount_21 (Nat.le_of_ble_eq_true rfl) rfl rfl ?_
      refine g_goto (tgt := 4) (pc := 24) dX1_fileCount_24 (by decide) ?_
      have kn2 := kn () trivial
      rw [e] at kn2
      exact kn2
  · have hm := mn_le V 8
    refine g_iload_n (pc := 4) dX1_fileCount_4 rfl rfl ?_
    refine g_bipush (v := nI 8) (pc := 5) dX1_fileCount_5 rfl ?_
    refine g_icmp_geN (tgt := 27) (pc := 7) dX1_fileCount_7 (by decide) (by omega) (by omega) (fun c7 => ?_) (fun c7 => ?_)
    · refine g_iload_n (pc := 27) dX1_fileCount_27 rfl rfl ?_
      refine g_iret (pc := 28) dX1_fileCount_28 rfl rfl ?_
      first | exact ⟨rfl, rfl⟩ | exact ⟨by rw [bI_t (by first | assumption | omega)], rfl⟩ | exact ⟨by rw [bI_f (by first | assumption | omega)], rfl⟩
    · exact absurd (Nat.le_refl _) c7
theorem m_X1_freeFile (hS : Snap I 4 V C) (hW : WF V) {f : Nat} (hF : FF V f) : gFn G YX1_freeFile (d + 1) [.ref 4] (hp n I L D) (.inl (some (.int (if f < 8 then nI f else -1)))) (hp n I L D) 0 0 := by
  have hf8 := hF.1
  refine g_iconst (v := nI 0) (pc := 0) dX1_freeFile_0 rfl ?_
  refine g_istore_n (pc := 1) dX1_freeFile_1 rfl (Nat.le_of_ble_eq_true rfl) rfl ?_
  refine g_loop f (fun _ (_ : Unit) => True) (fun k _ => [some (.ref 4), some (.int (nI k))]) (fun _ => hp n I L D) (fun k _ hk _ kn => ?_) (fun _ _ => ?_) 0 () (Nat.zero_le _) trivial
  · skip
    refine g_iload_n (pc := 2) dX1_freeFile_2 rfl rfl ?_
    refine g_bipush (v := nI 8) (pc := 3) dX1_freeFile_3 rfl ?_
    refine g_icmp_geN (tgt := 24) (pc := 5) dX1_freeFile_5 (by decide) (by omega) (by omega) (fun c5 => ?_) (fun c5 => ?_)
    · omega
    refine g_aload_n (pc := 8) dX1_freeFile_8 rfl rfl ?_
    refine g_iload_n (pc := 9) dX1_freeFile_9 rfl rfl ?_
    refine g_fV (av := [.int _]) (pc := 10) dX1_freeFile_10 mt_X1_hasFile lk_X1_59 im_X1_hasFile se_X1_hasFile np_X1_hasFile s_4 (by decide) (by decide) rfl (gc_i gc_0) (Nat.le_of_ble_eq_true rfl) (Nat.le_of_ble_eq_true rfl) ⟨Nat.zero_le _, Nat.zero_le _⟩ (m_X1_hasFileN hS hW (by omega)) ?_
    refine g_if_neB (tgt := 18) (pc := 13) dX1_freeFile_13 (by decide) (fun c13 => ?_) (fun c13 => ?_)
    rotate_left
    · exact absurd (hF.2.1 k hk) c13
    refine g_iincN (pc := 18) dX1_freeFile_18 (Nat.le_of_ble_eq_true rfl) rfl rfl ?_
    refine g_goto (tgt := 2) (pc := 21) dX1_freeFile_21 (by decide) ?_
    exact kn () trivial
  · skip
    refine g_iload_n (pc := 2) dX1_freeFile_2 rfl rfl ?_
    refine g_bipush (v := nI 8) (pc := 3) dX1_freeFile_3 rfl ?_
    refine g_icmp_geN (tgt := 24) (pc := 5) dX1_freeFile_5 (by decide) (by omega) (by omega) (fun c5 => ?_) (fun c5 => ?_)
    · rw [if_neg (by omega)]
      refine g_iconst (v := (-1)) (pc := 24) dX1_freeFile_24 rfl ?_
      refine g_iret (pc := 25) dX1_freeFile_25 rfl rfl ?_
      first | exact ⟨rfl, rfl⟩ | exact ⟨by rw [bI_t (by first | assumption | omega)], rfl⟩ | exact ⟨by rw [bI_f (by first | assumption | omega)], rfl⟩
    · rw [if_pos (by omega)]
      refine g_aload_n (pc := 8) dX1_freeFile_8 rfl rfl ?_
      refine g_iload_n (pc := 9) dX1_freeFile_9 rfl rfl ?_
      refine g_fV (av := [.int _]) (pc := 10) dX1_freeFile_10 mt_X1_hasFile lk_X1_59 im_X1_hasFile se_X1_hasFile np_X1_hasFile s_4 (by decide) (by decide) rfl (gc_i gc_0) (Nat.le_of_ble_eq_true rfl) (Nat.le_of_ble_eq_true rfl) ⟨Nat.zero_le _, Nat.zero_le _⟩ (m_X1_hasFileN hS hW (by omega)) ?_
      refine g_if_neB (tgt := 18) (pc := 13) dX1_freeFile_13 (by decide) (fun c13 => ?_) (fun c13 => ?_)
      · exact absurd c13 (hF.2.2 (by omega))
      · refine g_iload_n (pc := 16) dX1_freeFile_16 rfl rfl ?_
        refine g_iret (pc := 17) dX1_freeFile_17 rfl rfl ?_
        first | exact ⟨rfl, rfl⟩ | exact ⟨by rw [bI_t (by first | assumption | omega)], rfl⟩ | exact ⟨by rw [bI_f (by first | assumption | omega)], rfl⟩
theorem m_X1_groupSize (hS : Snap I 4 V C) (hW : WF V) {j fi : Nat} (hj : j < 8) (h1 : V (10 * j) = 1) (hf : fi < bl V j) : gFn G YX1_groupSize d [.ref 4, .int (nI j), .int (nI fi)] (hp n I L D) (.inl (some (.int (nI (pG (V (10 * j + 3)) (bl V j) fi))))) (hp n I L D) 0 0 := by
  have hw := hW.1 j hj
  have hbl := bl_le hw
  have h4 := hw.2.2.2.1
  have h3 := (hw.2.2.2.2.2.2.2.2 h1).2.2.1
  have e : max 1 (min (V (10 * j + 3)) (bl V j - fi)) = pG (V (10 * j + 3)) (bl V j) fi := by
    unfold pG
    split <;> omega
  refine g_iconst (v := nI 1) (pc := 0) dX1_groupSize_0 rfl ?_
  refine g_aload_n (pc := 1) dX1_groupSize_1 rfl rfl ?_
  refine g_getR (pc := 2) dX1_groupSize_2 fl_X1_33 s_4 (by decide) rfl t_4_7 ?_
  refine g_iload_n (pc := 5) dX1_groupSize_5 rfl rfl ?_
  refine g_ialoadN (pc := 6) dX1_groupSize_6 s_12 (by decide) (by omega) (by decide) (hS.2.2.1 j hj).2.2.2.1 ?_
  refine g_aload_n (pc := 7) dX1_groupSize_7 rfl rfl ?_
  refine g_getR (pc := 8) dX1_groupSize_8 fl_X1_27 s_4 (by decide) rfl t_4_5 ?_
  refine g_iload_n (pc := 11) dX1_groupSize_11 rfl rfl ?_
  refine g_ialoadN (pc := 12) dX1_groupSize_12 s_10 (by decide) (by omega) (by decide) (hS.2.2.1 j hj).2.1 ?_
  refine g_iload_n (pc := 13) dX1_groupSize_13 rfl rfl ?_
  refine g_isubN (pc := 14) dX1_groupSize_14 (by omega) ?_
  refine g_mminN (pc := 15) dX1_groupSize_15 lkm_X1_min (Nat.le_of_ble_eq_true rfl) (by omega) (by omega) ?_
  refine g_mmaxN (pc := 18) dX1_groupSize_18 lkm_X1_max (Nat.le_of_ble_eq_true rfl) (by omega) (by omega) ?_
  rw [e]
  refine g_iret (pc := 21) dX1_groupSize_21 rfl rfl ?_
  first | exact ⟨rfl, rfl⟩ | exact ⟨by rw [bI_t (by first | assumption | omega)], rfl⟩ | exact ⟨by rw [bI_f (by first | assumption | omega)], rfl⟩
theorem m_X1_cellAt (hS : Snap I 4 V C) (hW : WF V) {j b i : Nat} (hj : j < 8) (h1 : V (10 * j) = 1) (hb : b < bl V j) : gFn G YX1_cellAt (d + 1) [.ref 4, .int (nI j), .int (nI b), .int (nI i)] (hp n I L D) (.inl (some (.int (nI (cellN V j b i))))) (hp n I L D) 0 0 := by
  have hw := hW.1 j hj
  have hbl := bl_le hw
  have h4 := hw.2.2.2.1
  have h3 := (hw.2.2.2.2.2.2.2.2 h1).2.2.1
  have hmx : max 1 (V (10 * j + 3)) = V (10 * j + 3) := by omega
  have hdm := Nat.div_add_mod b (V (10 * j + 3))
  have hfi := fiN_le (V := V) (j := j) (b := b)
  have e1 : b - b % V (10 * j + 3) = fiN V j b := by unfold fiN; rw [Nat.mul_comm (b / V (10 * j + 3))]; omega
  have e2 : b % V (10 * j + 3) = b - fiN V j b := by unfold fiN; rw [Nat.mul_comm (b / V (10 * j + 3))]; omega
  have hml := Nat.mod_le b (V (10 * j + 3))
  have e3 : V (10 * j + 5) + fiN V j b * sz V j + i * pG (V (10 * j + 3)) (bl V j) (fiN V j b) + b % V (10 * j + 3) = cellN V j b i := by rw [cellN_off, e2]; omega
  refine g_iload_n (pc := 0) dX1_cellAt_0 rfl rfl ?_
  refine g_iconst (v := nI 1) (pc := 1) dX1_cellAt_1 rfl ?_
  refine g_aload_n (pc := 2) dX1_cellAt_2 rfl rfl ?_
  refine g_getR (pc := 3) dX1_cellAt_3 fl_X1_33 s_4 (by decide) rfl t_4_7 ?_
  refine g_iload_n (pc := 6) dX1_cellAt_6 rfl rfl ?_
  refine g_ialoadN (pc := 7) dX1_cellAt_7 s_12 (by decide) (by omega) (by decide) (hS.2.2.1 j hj).2.2.2.1 ?_
  refine g_mmaxN (pc := 8) dX1_cellAt_8 lkm_X1_max (Nat.le_of_ble_eq_true rfl) (by omega) (by omega) ?_
  rw [hmx]
  refine g_iremN (pc := 11) dX1_cellAt_11 (by omega) (by omega) (by omega) ?_
  refine g_istore (pc := 12) dX1_cellAt_12 (Nat.le_of_ble_eq_true rfl) rfl ?_
  refine g_iload_n (pc := 14) dX1_cellAt_14 rfl rfl ?_
  refine g_iload (pc := 15) dX1_cellAt_15 rfl ?_
  refine g_isubN (pc := 17) dX1_cellAt_17 (by omega) ?_
  rw [e1]
  refine g_istore (pc := 18) dX1_cellAt_18 (Nat.le_of_ble_eq_true rfl) rfl ?_
  refine g_aload_n (pc := 20) dX1_cellAt_20 rfl rfl ?_
  refine g_getR (pc := 21) dX1_cellAt_21 fl_X1_39 s_4 (by decide) rfl t_4_9 ?_
  refine g_iload_n (pc := 24) dX1_cellAt_24 rfl rfl ?_
  refine g_ialoadN (pc := 25) dX1_cellAt_25 s_14 (by decide) (by omega) (by decide) (hS.2.2.1 j hj).2.2.2.2.2 ?_
  refine g_iload (pc := 26) dX1_cellAt_26 rfl ?_
  refine g_aload_n (pc := 28) dX1_cellAt_28 rfl rfl ?_
  refine g_iload_n (pc := 29) dX1_cellAt_29 rfl rfl ?_
  refine g_fV (av := [.int _]) (pc := 30) dX1_cellAt_30 mt_X1_blockSize lk_X1_67 im_X1_blockSize se_X1_blockSize np_X1_blockSize s_4 (by decide) (by decide) rfl (gc_i gc_0) (Nat.le_of_ble_eq_true rfl) (Nat.le_of_ble_eq_true rfl) ⟨Nat.zero_le _, Nat.zero_le _⟩ (m_X1_blockSize hS hW hj) ?_
  refine g_imulN (pc := 33) dX1_cellAt_33 ?_
  refine g_iaddN (pc := 34) dX1_cellAt_34 ?_
  refine g_iload_n (pc := 35) dX1_cellAt_35 rfl rfl ?_
  refine g_aload_n (pc := 36) dX1_cellAt_36 rfl rfl ?_
  refine g_iload_n (pc := 37) dX1_cellAt_37 rfl rfl ?_
  refine g_iload (pc := 38) dX1_cellAt_38 rfl ?_
  refine g_fV (av := [.int _, .int _]) (pc := 40) dX1_cellAt_40 mt_X1_groupSize lk_X1_86 im_X1_groupSize se_X1_groupSize np_X1_groupSize s_4 (by decide) (by decide) rfl (gc_i (gc_i gc_0)) (Nat.le_of_ble_eq_true rfl) (Nat.le_of_ble_eq_true rfl) ⟨Nat.zero_le _, Nat.zero_le _⟩ (m_X1_groupSize hS hW hj h1 (by omega)) ?_
  refine g_imulN (pc := 43) dX1_cellAt_43 ?_
  refine g_iaddN (pc := 44) dX1_cellAt_44 ?_
  refine g_iload (pc := 45) dX1_cellAt_45 rfl ?_
  refine g_iaddN (pc := 47) dX1_cellAt_47 ?_
  rw [e3]
  refine g_iret (pc := 48) dX1_cellAt_48 rfl rfl ?_
  first | exact ⟨rfl, rfl⟩ | exact ⟨by rw [bI_t (by first | assumption | omega)], rfl⟩ | exact ⟨by rw [bI_f (by first | assumption | omega)], rfl⟩
theorem m_X1_placeInFile (hS : Snap I 4 V C) (hW : WF V) {j c : Nat} (hj : j < 8) (h1 : V (10 * j) = 1) (hc : V (10 * j + 5) ≤ c ∧ c < V (10 * j + 5) + ce V j) : gFn G YX1_placeInFile (d + 1) [.ref 4, .int (nI j), .int (nI c)] (hp n I L D) (.inl (some (.int (nI (100 * plB V j c + plI V j c))))) (hp n I L D) 0 0 := by
  have hw := hW.1 j hj
  have hbl := bl_le hw
  have h4 := hw.2.2.2.1
  have hsz := sz_le hw
  have hce := ce_le hw
  have h3 := (hw.2.2.2.2.2.2.2.2 h1).2.2.1
  have h54 := (hw.2.2.2.2.2.2.2.2 h1).2.2.2
  have hmx : max 1 (V (10 * j + 3)) = V (10 * j + 3) := by omega
  have hg := geo_ex hw h1 hc
  obtain ⟨q1, q2, q3, q4⟩ := geo2 (b := plB V j c) (i := plI V j c) (fi := plF V j c) (gr := plG V j c) (off := c - V (10 * j + 5)) h3 (by omega) (show c - V (10 * j + 5) < bl V j * sz V j by unfold ce at hc; omega) rfl rfl rfl rfl
  have hfb : plF V j c ≤ plB V j c := by unfold plB; omega
  have hfi : plF V j c < bl V j := by omega
  have hds : V (10 * j + 3) * sz V j < 2 ^ 31 := Nat.lt_of_le_of_lt (Nat.mul_le_mul h4 hsz.1) (by decide)
  have hdp : 0 < V (10 * j + 3) * sz V j := Nat.mul_pos h3 (by omega)
  have hfs : plF V j c * sz V j ≤ c - V (10 * j + 5) := by
    have : plF V j c * sz V j = (c - V (10 * j + 5)) / (V (10 * j + 3) * sz V j) * (V (10 * j + 3) * sz V j) := by unfold plF pF; rw [Nat.mul_assoc]
    rw [this]; exact Nat.div_mul_le_self _ _
  have eF : (c - V (10 * j + 5)) / (V (10 * j + 3) * sz V j) * V (10 * j + 3) = plF V j c := rfl
  have hgl : 1 ≤ plG V j c ∧ plG V j c ≤ 4 := by
    have := pG_le (dp := V (10 * j + 3)) (bl := bl V j) (fi := plF V j c)
    unfold plG
    refine ⟨?_, by omega⟩
    unfold pG
    split <;> omega
  have eG : pG (V (10 * j + 3)) (bl V j) (plF V j c) = plG V j c := rfl
  have eB : plF V j c + (c - V (10 * j + 5) - plF V j c * sz V j) % plG V j c = plB V j c := rfl
  have eI : (c - V (10 * j + 5) - plF V j c * sz V j) / plG V j c = plI V j c := rfl
  refine g_iload_n (pc := 0) dX1_placeInFile_0 rfl rfl ?_
  refine g_aload_n (pc := 1) dX1_placeInFile_1 rfl rfl ?_
  refine g_getR (pc := 2) dX1_placeInFile_2 fl_X1_39 s_4 (by decide) rfl t_4_9 ?_
  refine g_iload_n (pc := 5) dX1_placeInFile_5 rfl rfl ?_
  refine g_ialoadN (pc := 6) dX1_placeInFile_6 s_14 (by decide) (by omega) (by decide) (hS.2.2.1 j hj).2.2.2.2.2 ?_
  refine g_isubN (pc := 7) dX1_placeInFile_7 (by omega) ?_
  refine g_istore_n (pc := 8) dX1_placeInFile_8 rfl (Nat.le_of_ble_eq_true rfl) rfl ?_
  refine g_iconst (v := nI 1) (pc := 9) dX1_placeInFile_9 rfl ?_
  refine g_aload_n (pc := 10) dX1_placeInFile_10 rfl rfl ?_
  refine g_getR (pc := 11) dX1_placeInFile_11 fl_X1_33 s_4 (by decide) rfl t_4_7 ?_
  refine g_iload_n (pc := 14) dX1_placeInFile_14 rfl rfl ?_
  refine g_ialoadN (pc := 15) dX1_placeInFile_15 s_12 (by decide) (by omega) (by decide) (hS.2.2.1 j hj).2.2.2.1 ?_
  refine g_mmaxN (pc := 16) dX1_placeInFile_16 lkm_X1_max (Nat.le_of_ble_eq_true rfl) (by omega) (by omega) ?_
  rw [hmx]
  refine g_istore (pc := 19) dX1_placeInFile_19 (Nat.le_of_ble_eq_true rfl) rfl ?_
  refine g_iload_n (pc := 21) dX1_placeInFile_21 rfl rfl ?_
  refine g_iload (pc := 22) dX1_placeInFile_22 rfl ?_
  refine g_aload_n (pc := 24) dX1_placeInFile_24 rfl rfl ?_
  refine g_iload_n (pc := 25) dX1_placeInFile_25 rfl rfl ?_
  refine g_fV (av := [.int _]) (pc := 26) dX1_placeInFile_26 mt_X1_blockSize lk_X1_67 im_X1_blockSize se_X1_blockSize np_X1_blockSize s_4 (by decide) (by decide) rfl (gc_i gc_0) (Nat.le_of_ble_eq_true rfl) (Nat.le_of_ble_eq_true rfl) ⟨Nat.zero_le _, Nat.zero_le _⟩ (m_X1_blockSize hS hW hj) ?_
  refine g_imulN (pc := 29) dX1_placeInFile_29 ?_
  refine g_idivN (pc := 30) dX1_placeInFile_30 (by omega) (by omega) (by omega) ?_
  refine g_iload (pc := 31) dX1_placeInFile_31 rfl ?_
  refine g_imulN (pc := 33) dX1_placeInFile_33 ?_
  rw [eF]
  refine g_istore (pc := 34) dX1_placeInFile_34 (Nat.le_of_ble_eq_true rfl) rfl ?_
  refine g_iload_n (pc := 36) dX1_placeInFile_36 rfl rfl ?_
  refine g_iload (pc := 37) dX1_placeInFile_37 rfl ?_
  refine g_aload_n (pc := 39) dX1_placeInFile_39 rfl rfl ?_
  refine g_iload_n (pc := 40) dX1_placeInFile_40 rfl rfl ?_
  refine g_fV (av := [.int _]) (pc := 41) dX1_placeInFile_41 mt_X1_blockSize lk_X1_67 im_X1_blockSize se_X1_blockSize np_X1_blockSize s_4 (by decide) (by decide) rfl (gc_i gc_0) (Nat.le_of_ble_eq_true rfl) (Nat.le_of_ble_eq_true rfl) ⟨Nat.zero_le _, Nat.zero_le _⟩ (m_X1_blockSize hS hW hj) ?_
  refine g_imulN (pc := 44) dX1_placeInFile_44 ?_
  refine g_isubN (pc := 45) dX1_placeInFile_45 (by omega) ?_
  refine g_istore (pc := 46) dX1_placeInFile_46 (Nat.le_of_ble_eq_true rfl) rfl ?_
  refine g_aload_n (pc := 48) dX1_placeInFile_48 rfl rfl ?_
  refine g_iload_n (pc := 49) dX1_placeInFile_49 rfl rfl ?_
  refine g_iload (pc := 50) dX1_placeInFile_50 rfl ?_
  refine g_fV (av := [.int _, .int _]) (pc := 52) dX1_placeInFile_52 mt_X1_groupSize lk_X1_86 im_X1_groupSize se_X1_groupSize np_X1_groupSize s_4 (by decide) (by decide) rfl (gc_i (gc_i gc_0)) (Nat.le_of_ble_eq_true rfl) (Nat.le_of_ble_eq_true rfl) ⟨Nat.zero_le _, Nat.zero_le _⟩ (m_X1_groupSize hS hW hj h1 hfi) ?_
  rw [eG]
  refine g_istore (pc := 55) dX1_placeInFile_55 (Nat.le_of_ble_eq_true rfl) rfl ?_
  refine g_bipush (v := nI 100) (pc := 57) dX1_placeInFile_57 rfl ?_
  refine g_iload (pc := 59) dX1_placeInFile_59 rfl ?_
  refine g_iload (pc := 61) dX1_placeInFile_61 rfl ?_
  refine g_iload (pc := 63) dX1_placeInFile_63 rfl ?_
  refine g_iremN (pc := 65) dX1_placeInFile_65 (by omega) (by omega) (by omega) ?_
  refine g_iaddN (pc := 66) dX1_placeInFile_66 ?_
  rw [eB]
  refine g_imulN (pc := 67) dX1_placeInFile_67 ?_
  refine g_iload (pc := 68) dX1_placeInFile_68 rfl ?_
  refine g_iload (pc := 70) dX1_placeInFile_70 rfl ?_
  refine g_idivN (pc := 72) dX1_placeInFile_72 (by omega) (by omega) (by omega) ?_
  rw [eI]
  refine g_iaddN (pc := 73) dX1_placeInFile_73 ?_
  refine g_iret (pc := 74) dX1_placeInFile_74 rfl rfl ?_
  first | exact ⟨rfl, rfl⟩ | exact ⟨by rw [bI_t (by first | assumption | omega)], rfl⟩ | exact ⟨by rw [bI_f (by first | assumption | omega)], rfl⟩
theorem m_X1_fileAt (hS : Snap I 4 V C) (hW : WF V) {c : Nat} (hc : c < 240) : gFn G YX1_fileAt (d + 3) [.ref 4, .int (nI c)] (hp n I L D) (.inl (some (.int (ownI V c)))) (hp n I L D) 0 0 := by
  refine g_iconst (v := nI 0) (pc := 0) dX1_fileAt_0 rfl ?_
  refine g_istore_n (pc := 1) dX1_fileAt_1 rfl (Nat.le_of_ble_eq_true rfl) rfl ?_
  refine g_loop 8 (fun k (_ : Unit) => ∀ i, i < k → ¬ isOwn V c i) (fun k _ => [some (.ref 4), some (.int (nI c)), some (.int (nI k))]) (fun _ => hp n I L D) (fun f _ hf hn kn => ?_) (fun _ hn => ?_) 0 () (Nat.zero_le _) (fun i hi => absurd hi (Nat.not_lt_zero i))
  · have hw := hW.1 f hf
    have hcl := ce_le hw
    have h5 := hw.2.2.2.2.2.1
    have hnext : ∀ (hno : ¬ isOwn V c f) (i : Nat), i < f + 1 → ¬ isOwn V c i := fun hno i hi => (Nat.lt_succ_iff_lt_or_eq.mp hi).elim (hn i) (fun e => by rw [e]; exact hno)
    refine g_iload_n (pc := 2) dX1_fileAt_2 rfl rfl ?_
    refine g_bipush (v := nI 8) (pc := 3) dX1_fileAt_3 rfl ?_
    refine g_icmp_geN (tgt := 42) (pc := 5) dX1_fileAt_5 (by decide) (by omega) (by omega) (fun c5 => ?_) (fun c5 => ?_)
    · omega
    refine g_aload_n (pc := 8) dX1_fileAt_8 rfl rfl ?_
    refine g_iload_n (pc := 9) dX1_fileAt_9 rfl rfl ?_
    refine g_fV (av := [.int _]) (pc := 10) dX1_fileAt_10 mt_X1_hasFile lk_X1_59 im_X1_hasFile se_X1_hasFile np_X1_hasFile s_4 (by decide) (by decide) rfl (gc_i gc_0) (Nat.le_of_ble_eq_true rfl) (Nat.le_of_ble_eq_true rfl) ⟨Nat.zero_le _, Nat.zero_le _⟩ (m_X1_hasFileN hS hW hf) ?_
    refine g_if_eqB (tgt := 36) (pc := 13) dX1_fileAt_13 (by decide) (fun c13 => ?_) (fun c13 => ?_)
    · refine g_iincN (pc := 36) dX1_fileAt_36 (Nat.le_of_ble_eq_true rfl) rfl rfl ?_
      refine g_goto (tgt := 2) (pc := 39) dX1_fileAt_39 (by decide) ?_
      refine kn () (hnext (fun q => ?_))
      first
        | exact c13 q.1
        | exact absurd q.2.1 (by omega)
        | exact absurd q.2.2 (by omega)
    · refine g_iload_n (pc := 16) dX1_fileAt_16 rfl rfl ?_
      refine g_aload_n (pc := 17) dX1_fileAt_17 rfl rfl ?_
      refine g_iload_n (pc := 18) dX1_fileAt_18 rfl rfl ?_
      refine g_fV (av := [.int _]) (pc := 19) dX1_fileAt_19 mt_X1_areaStart lk_X1_89 im_X1_areaStart se_X1_areaStart np_X1_areaStart s_4 (by decide) (by decide) rfl (gc_i gc_0) (Nat.le_of_ble_eq_true rfl) (Nat.le_of_ble_eq_true rfl) ⟨Nat.zero_le _, Nat.zero_le _⟩ (m_X1_areaStart hS hf) ?_
      refine g_icmp_ltN (tgt := 36) (pc := 22) dX1_fileAt_22 (by decide) (by omega) (by omega) (fun c22 => ?_) (fun c22 => ?_)
      · refine g_iincN (pc := 36) dX1_fileAt_36 (Nat.le_of_ble_eq_true rfl) rfl rfl ?_
        refine g_goto (tgt := 2) (pc := 39) dX1_fileAt_39 (by decide) ?_
        refine kn () (hnext (fun q => ?_))
        first
          | exact c13 q.1
          | exact absurd q.2.1 (by omega)
          | exact absurd q.2.2 (by omega)
      · refine g_iload_n (pc := 25) dX1_fileAt_25 rfl rfl ?_
        refine g_aload_n (pc := 26) dX1_fileAt_26 rfl rfl ?_
        refine g_iload_n (pc := 27) dX1_fileAt_27 rfl rfl ?_
        refine g_fV (av := [.int _]) (pc := 28) dX1_fileAt_28 mt_X1_areaEnd lk_X1_92 im_X1_areaEnd se_X1_areaEnd np_X1_areaEnd s_4 (by decide) (by decide) rfl (gc_i gc_0) (Nat.le_of_ble_eq_true rfl) (Nat.le_of_ble_eq_true rfl) ⟨Nat.zero_le _, Nat.zero_le _⟩ (m_X1_areaEnd hS hW hf) ?_
        refine g_icmp_geN (tgt := 36) (pc := 31) dX1_fileAt_31 (by decide) (by omega) (by omega) (fun c31 => ?_) (fun c31 => ?_)
        · refine g_iincN (pc := 36) dX1_fileAt_36 (Nat.le_of_ble_eq_true rfl) rfl rfl ?_
          refine g_goto (tgt := 2) (pc := 39) dX1_fileAt_39 (by decide) ?_
          refine kn () (hnext (fun q => ?_))
          first
            | exact c13 q.1
            | exact absurd q.2.1 (by omega)
            | exact absurd q.2.2 (by omega)
        · have ho : isOwn V c f := ⟨c13, by omega, by omega⟩
          rw [show ownI V c = nI f from by unfold ownI; rw [own_some hf ho hn]]
          refine g_iload_n (pc := 34) dX1_fileAt_34 rfl rfl ?_
          refine g_iret (pc := 35) dX1_fileAt_35 rfl rfl ?_
          first | exact ⟨rfl, rfl⟩ | exact ⟨by rw [bI_t (by first | assumption | omega)], rfl⟩ | exact ⟨by rw [bI_f (by first | assumption | omega)], rfl⟩
  · rw [show ownI V c = -1 from by unfold ownI; rw [own_none (fun i hi => hn i (by omega))]]
    refine g_iload_n (pc := 2) dX1_fileAt_2 rfl rfl ?_
    refine g_bipush (v := nI 8) (pc := 3) dX1_fileAt_3 rfl ?_
    refine g_icmp_geN (tgt := 42) (pc := 5) dX1_fileAt_5 (by decide) (by omega) (by omega) (fun c5 => ?_) (fun c5 => ?_)
    · refine g_iconst (v := (-1)) (pc := 42) dX1_fileAt_42 rfl ?_
      refine g_iret (pc := 43) dX1_fileAt_43 rfl rfl ?_
      first | exact ⟨rfl, rfl⟩ | exact ⟨by rw [bI_t (by first | assumption | omega)], rfl⟩ | exact ⟨by rw [bI_f (by first | assumption | omega)], rfl⟩
    · exact absurd (Nat.le_refl _) c5
theorem l_X1_free2 {k m r : Nat} (hk : k < 240) (hm : m < 1000) (hn : ∀ i, i < k → ¬ rn V (i + 1) = m) (e : r = rn V (k + 1)) (kn : (∀ i, i < k + 1 → ¬ rn V (i + 1) = m) → gGo G YX1_freeArea d 4 [some (.ref 4), some (.int (nI m)), some (.int (nI (rn V (k + 1)))), some (.int (nI (k + 1)))] [] (hp n I L D) 0 0 (fun o g => o = .inl (some (.int (arI V m))) ∧ g = hp n I L D)) : gGo G YX1_freeArea d 26 [some (.ref 4), some (.int (nI m)), some (.int (nI (rn V k))), some (.int (nI k))] [.int (nI r)] (hp n I L D) 0 0 (fun o g => o = .inl (some (.int (arI V m))) ∧ g = hp n I L D) := by
  subst e
  have hr2 := rn_le V (k + 1)
  refine g_istore_n (pc := 26) dX1_freeArea_26 rfl (Nat.le_of_ble_eq_true rfl) rfl ?_
  refine g_iload_n (pc := 27) dX1_freeArea_27 rfl rfl ?_
  refine g_iload_n (pc := 28) dX1_freeArea_28 rfl rfl ?_
  refine g_icmp_neN (tgt := 38) (pc := 29) dX1_freeArea_29 (by decide) (by omega) (by omega) (fun c29 => ?_) (fun c29 => ?_)
  · refine g_iincN (pc := 38) dX1_freeArea_38 (Nat.le_of_ble_eq_true rfl) rfl rfl ?_
    refine g_goto (tgt := 4) (pc := 41) dX1_freeArea_41 (by decide) ?_
    refine kn (fun i hi => ?_)
    by_cases e2 : i = k
    · rw [e2]; exact c29
    · exact hn i (by omega)
  · rw [arI_some hk c29 hn, ← nI_sub1 (by omega)]
    refine g_iload_n (pc := 32) dX1_freeArea_32 rfl rfl ?_
    refine g_iload_n (pc := 33) dX1_freeArea_33 rfl rfl ?_
    refine g_isub (pc := 34) dX1_freeArea_34 ?_
    refine g_iconst (v := nI 1) (pc := 35) dX1_freeArea_35 rfl ?_
    refine g_iadd (pc := 36) dX1_freeArea_36 ?_
    refine g_iret (pc := 37) dX1_freeArea_37 rfl rfl ?_
    first | exact ⟨rfl, rfl⟩ | exact ⟨by rw [bI_t (by first | assumption | omega)], rfl⟩ | exact ⟨by rw [bI_f (by first | assumption | omega)], rfl⟩
theorem m_X1_freeArea (hS : Snap I 4 V C) (hW : WF V) {m : Nat} (hm : m < 1000) : gFn G YX1_freeArea (d + 4) [.ref 4, .int (nI m)] (hp n I L D) (.inl (some (.int (arI V m)))) (hp n I L D) 0 0 := by
  refine g_iconst (v := nI 0) (pc := 0) dX1_freeArea_0 rfl ?_
  refine g_istore_n (pc := 1) dX1_freeArea_1 rfl (Nat.le_of_ble_eq_true rfl) rfl ?_
  refine g_iconst (v := nI 0) (pc := 2) dX1_freeArea_2 rfl ?_
  refine g_istore_n (pc := 3) dX1_freeArea_3 rfl (Nat.le_of_ble_eq_true rfl) rfl ?_
  refine g_loop 240 (fun k (_ : Unit) => ∀ i, i < k → ¬ rn V (i + 1) = m) (fun k _ => [some (.ref 4), some (.int (nI m)), some (.int (nI (rn V k))), some (.int (nI k))]) (fun _ => hp n I L D) (fun k _ hk hn kn => ?_) (fun _ hn => ?_) 0 () (Nat.zero_le _) (fun i hi => absurd hi (Nat.not_lt_zero i))
  · skip
    refine g_iload_n (pc := 4) dX1_freeArea_4 rfl rfl ?_
    refine g_sipush (v := nI 240) (pc := 5) dX1_freeArea_5 rfl ?_
    refine g_icmp_geN (tgt := 44) (pc := 8) dX1_freeArea_8 (by decide) (by omega) (by omega) (fun c8 => ?_) (fun c8 => ?_)
    · omega
    · refine g_aload_n (pc := 11) dX1_freeArea_11 rfl rfl ?_
      refine g_iload_n (pc := 12) dX1_freeArea_12 rfl rfl ?_
      refine g_fV (av := [.int _]) (pc := 13) dX1_freeArea_13 mt_X1_fileAt lk_X1_95 im_X1_fileAt se_X1_fileAt np_X1_fileAt s_4 (by decide) (by decide) rfl (gc_i gc_0) (Nat.le_of_ble_eq_true rfl) (Nat.le_of_ble_eq_true rfl) ⟨Nat.zero_le _, Nat.zero_le _⟩ (m_X1_fileAt hS hW hk) ?_
      refine g_if_ge (tgt := 25) (pc := 16) dX1_freeArea_16 (by decide) (fun c16 => ?_) (fun c16 => ?_)
      · have e : 0 = rn V (k + 1) := by rw [rn, if_neg (ownI_ge.mp c16)]
        refine g_iconst (v := nI 0) (pc := 25) dX1_freeArea_25 rfl ?_
        exact l_X1_free2 hk hm hn e (kn ())
      · have e : rn V k + 1 = rn V (k + 1) := by rw [rn, if_pos (ownI_lt.mp (by rw [Int32.lt_iff_toInt_lt]; rw [Int32.le_iff_toInt_le] at c16; omega))]
        refine g_iload_n (pc := 19) dX1_freeArea_19 rfl rfl ?_
        refine g_iconst (v := nI 1) (pc := 20) dX1_freeArea_20 rfl ?_
        refine g_iaddN (pc := 21) dX1_freeArea_21 ?_
        refine g_goto (tgt := 26) (pc := 22) dX1_freeArea_22 (by decide) ?_
        exact l_X1_free2 hk hm hn e (kn ())
  · skip
    refine g_iload_n (pc := 4) dX1_freeArea_4 rfl rfl ?_
    refine g_sipush (v := nI 240) (pc := 5) dX1_freeArea_5 rfl ?_
    refine g_icmp_geN (tgt := 44) (pc := 8) dX1_freeArea_8 (by decide) (by omega) (by omega) (fun c8 => ?_) (fun c8 => ?_)
    · rw [arI_none hn]
      refine g_iconst (v := (-1)) (pc := 44) dX1_freeArea_44 rfl ?_
      refine g_iret (pc := 45) dX1_freeArea_45 rfl rfl ?_
      first | exact ⟨rfl, rfl⟩ | exact ⟨by rw [bI_t (by first | assumption | omega)], rfl⟩ | exact ⟨by rw [bI_f (by first | assumption | omega)], rfl⟩
    · exact absurd (Nat.le_refl _) c8
theorem l_X1_great2 {Q : gQ} {c r : Nat} (e : r = rn V (c + 1)) (hr : rn V (c + 1) ≤ c + 1) (hm : ms V c ≤ c) (hc : c < 240) (k : gGo G YX1_greatestFreeArea d 6 [some (.ref 4), some (.int (nI (ms V (c + 1)))), some (.int (nI (rn V (c + 1)))), some (.int (nI (c + 1)))] [] (hp n I L D) 0 0 Q) : gGo G YX1_greatestFreeArea d 29 [some (.ref 4), some (.int (nI (ms V c))), some (.int (nI r)), some (.int (nI c))] [] (hp n I L D) 0 0 Q := by
  subst e
  have e2 : max (ms V c) (rn V (c + 1)) = ms V (c + 1) := by
    rw [ms]
    split <;> omega
  refine g_iload_n (pc := 29) dX1_greatestFreeArea_29 rfl rfl ?_
  refine g_iload_n (pc := 30) dX1_greatestFreeArea_30 rfl rfl ?_
  refine g_mmaxN (pc := 31) dX1_greatestFreeArea_31 lkm_X1_max (Nat.le_of_ble_eq_true rfl) (by omega) (by omega) ?_
  rw [e2]
  refine g_istore_n (pc := 34) dX1_greatestFreeArea_34 rfl (Nat.le_of_ble_eq_true rfl) rfl ?_
  refine g_iincN (pc := 35) dX1_greatestFreeArea_35 (Nat.le_of_ble_eq_true rfl) rfl rfl ?_
  refine g_goto (tgt := 6) (pc := 38) dX1_greatestFreeArea_38 (by decide) ?_
  exact k
theorem m_X1_greatestFreeArea (hS : Snap I 4 V C) (hW : WF V) : gFn G YX1_greatestFreeArea (d + 4) [.ref 4] (hp n I L D) (.inl (some (.int (nI (ms V 240))))) (hp n I L D) 0 0 := by
  refine g_iconst (v := nI 0) (pc := 0) dX1_greatestFreeArea_0 rfl ?_
  refine g_istore_n (pc := 1) dX1_greatestFreeArea_1 rfl (Nat.le_of_ble_eq_true rfl) rfl ?_
  refine g_iconst (v := nI 0) (pc := 2) dX1_greatestFreeArea_2 rfl ?_
  refine g_istore_n (pc := 3) dX1_greatestFreeArea_3 rfl (Nat.le_of_ble_eq_true rfl) rfl ?_
  refine g_iconst (v := nI 0) (pc := 4) dX1_greatestFreeArea_4 rfl ?_
  refine g_istore_n (pc := 5) dX1_greatestFreeArea_5 rfl (Nat.le_of_ble_eq_true rfl) rfl ?_
  refine g_loop 240 (fun _ (_ : Unit) => True) (fun k _ => [some (.ref 4), some (.int (nI (ms V k))), some (.int (nI (rn V k))), some (.int (nI k))]) (fun _ => hp n I L D) (fun c _ hc _ kn => ?_) (fun _ _ => ?_) 0 () (Nat.zero_le _) trivial
  · have hm := ms_le V c
    have hr := rn_le V c
    have hr2 := rn_le V (c + 1)
    refine g_iload_n (pc := 6) dX1_greatestFreeArea_6 rfl rfl ?_
    refine g_sipush (v := nI 240) (pc := 7) dX1_greatestFreeArea_7 rfl ?_
    refine g_icmp_geN (tgt := 41) (pc := 10) dX1_greatestFreeArea_10 (by decide) (by omega) (by omega) (fun c10 => ?_) (fun c10 => ?_)
    · omega
    · refine g_aload_n (pc := 13) dX1_greatestFreeArea_13 rfl rfl ?_
      refine g_iload_n (pc := 14) dX1_greatestFreeArea_14 rfl rfl ?_
      refine g_fV (av := [.int _]) (pc := 15) dX1_greatestFreeArea_15 mt_X1_fileAt lk_X1_95 im_X1_fileAt se_X1_fileAt np_X1_fileAt s_4 (by decide) (by decide) rfl (gc_i gc_0) (Nat.le_of_ble_eq_true rfl) (Nat.le_of_ble_eq_true rfl) ⟨Nat.zero_le _, Nat.zero_le _⟩ (m_X1_fileAt hS hW hc) ?_
      refine g_if_ge (tgt := 27) (pc := 18) dX1_greatestFreeArea_18 (by decide) (fun c18 => ?_) (fun c18 => ?_)
      · have e : 0 = rn V (c + 1) := by rw [rn, if_neg (ownI_ge.mp c18)]
        refine g_iconst (v := nI 0) (pc := 27) dX1_greatestFreeArea_27 rfl ?_
        refine g_istore_n (pc := 28) dX1_greatestFreeArea_28 rfl (Nat.le_of_ble_eq_true rfl) rfl ?_
        exact l_X1_great2 e hr2 hm hc (kn () trivial)
      · have e : rn V c + 1 = rn V (c + 1) := by rw [rn, if_pos (ownI_lt.mp (by rw [Int32.lt_iff_toInt_lt]; rw [Int32.le_iff_toInt_le] at c18; omega))]
        refine g_iload_n (pc := 21) dX1_greatestFreeArea_21 rfl rfl ?_
        refine g_iconst (v := nI 1) (pc := 22) dX1_greatestFreeArea_22 rfl ?_
        refine g_iaddN (pc := 23) dX1_greatestFreeArea_23 ?_
        refine g_goto (tgt := 28) (pc := 24) dX1_greatestFreeArea_24 (by decide) ?_
        refine g_istore_n (pc := 28) dX1_greatestFreeArea_28 rfl (Nat.le_of_ble_eq_true rfl) rfl ?_
        exact l_X1_great2 e hr2 hm hc (kn () trivial)
  · skip
    refine g_iload_n (pc := 6) dX1_greatestFreeArea_6 rfl rfl ?_
    refine g_sipush (v := nI 240) (pc := 7) dX1_greatestFreeArea_7 rfl ?_
    refine g_icmp_geN (tgt := 41) (pc := 10) dX1_greatestFreeArea_10 (by decide) (by omega) (by omega) (fun c10 => ?_) (fun c10 => ?_)
    · refine g_iload_n (pc := 41) dX1_greatestFreeArea_41 rfl rfl ?_
      refine g_iret (pc := 42) dX1_greatestFreeArea_42 rfl rfl ?_
      first | exact ⟨rfl, rfl⟩ | exact ⟨by rw [bI_t (by first | assumption | omega)], rfl⟩ | exact ⟨by rw [bI_f (by first | assumption | omega)], rfl⟩
    · exact absurd (Nat.le_refl _) c10
theorem m_X1_isDue (hS : Snap I 4 V C) (hW : WF V) {j b : Nat} (hj : j < 8) (hb : b < bl V j) : gFn G YX1_isDue d [.ref 4, .int (nI j), .int (nI b)] (hp n I L D) (.inl (some (.int (bI (¬ V (10 * j + (6 + b)) = V 800))))) (hp n I L D) 0 0 := by
  have hw := hW.1 j hj
  have hbl := bl_le hw
  have h8 := hW.2.2.1
  have hc9 := hw.2.2.2.2.2.2.1 b (by omega)
  rw [show 10 * j + 6 + b = 10 * j + (6 + b) by omega] at hc9
  have hd := hS.2.2.2.1 j hj b hb
  rw [Nat.mul_comm 4 j] at hd
  refine g_aload_n (pc := 0) dX1_isDue_0 rfl rfl ?_
  refine g_getR (pc := 1) dX1_isDue_1 fl_X1_42 s_4 (by decide) rfl t_4_10 ?_
  refine g_iload_n (pc := 4) dX1_isDue_4 rfl rfl ?_
  refine g_iconst (v := nI 4) (pc := 5) dX1_isDue_5 rfl ?_
  refine g_imulN (pc := 6) dX1_isDue_6 ?_
  refine g_iload_n (pc := 7) dX1_isDue_7 rfl rfl ?_
  refine g_iaddN (pc := 8) dX1_isDue_8 ?_
  refine g_ialoadN (pc := 9) dX1_isDue_9 s_15 (by decide) (by omega) (by decide) hd ?_
  refine g_aload_n (pc := 10) dX1_isDue_10 rfl rfl ?_
  refine g_getIV (pc := 11) dX1_isDue_11 fl_X1_45 s_4 (by decide) rfl hS.2.2.2.2 ?_
  refine g_icmp_eqN (tgt := 21) (pc := 14) dX1_isDue_14 (by decide) (by omega) (by omega) (fun c14 => ?_) (fun c14 => ?_)
  · refine g_iconst (v := nI 0) (pc := 21) dX1_isDue_21 rfl ?_
    refine g_iret (pc := 22) dX1_isDue_22 rfl rfl ?_
    first | exact ⟨rfl, rfl⟩ | exact ⟨by rw [bI_t (by first | assumption | omega)], rfl⟩ | exact ⟨by rw [bI_f (by first | assumption | omega)], rfl⟩
  · refine g_iconst (v := nI 1) (pc := 17) dX1_isDue_17 rfl ?_
    refine g_goto (tgt := 22) (pc := 18) dX1_isDue_18 (by decide) ?_
    refine g_iret (pc := 22) dX1_isDue_22 rfl rfl ?_
    first | exact ⟨rfl, rfl⟩ | exact ⟨by rw [bI_t (by first | assumption | omega)], rfl⟩ | exact ⟨by rw [bI_f (by first | assumption | omega)], rfl⟩
theorem m_X1_blockToCheck (hS : Snap I 4 V C) (hW : WF V) : gFn G YX1_blockToCheck d [.ref 4] (hp n I L D) (.inl (some (.int (nxI V)))) (hp n I L D) 0 0 := by
  have h8 := hW.2.2.1
  refine g_iconst (v := (-1)) (pc := 0) dX1_blockToCheck_0 rfl ?_
  refine g_istore_n (pc := 1) dX1_blockToCheck_1 rfl (Nat.le_of_ble_eq_true rfl) rfl ?_
  refine g_aload_n (pc := 2) dX1_blockToCheck_2 rfl rfl ?_
  refine g_getIV (pc := 3) dX1_blockToCheck_3 fl_X1_45 s_4 (by decide) rfl hS.2.2.2.2 ?_
  refine g_istore_n (pc := 6) dX1_blockToCheck_6 rfl (Nat.le_of_ble_eq_true rfl) rfl ?_
  refine g_iconst (v := nI 0) (pc := 7) dX1_blockToCheck_7 rfl ?_
  refine g_istore_n (pc := 8) dX1_blockToCheck_8 rfl (Nat.le_of_ble_eq_true rfl) rfl ?_
  refine g_loop 8 (fun k (_ : Unit) => True) (fun k _ => [some (.ref 4), some (.int (nxF V k).1), some (.int (nI (nxF V k).2)), some (.int (nI k)), none]) (fun _ => hp n I L D) (fun j _ hj _ kn => ?_) (fun _ _ => ?_) 0 () (Nat.zero_le _) trivial
  · have hw := hW.1 j hj
    have hbl := bl_le hw
    have hnf := nxF_le (V := V) j
    have hfe : nxF V (j + 1) = nxB V j (nxF V j) (bl V j) := by
      show nxB V j (nxF V j) (if V (10 * j) = 1 then bl V j else 0) = _
      by_cases h1 : V (10 * j) = 1
      · rw [if_pos h1]
      · rw [if_neg h1, bl_0 hw h1]
    refine g_iload_n (pc := 9) dX1_blockToCheck_9 rfl rfl ?_
    refine g_bipush (v := nI 8) (pc := 10) dX1_blockToCheck_10 rfl ?_
    refine g_icmp_geN (tgt := 76) (pc := 12) dX1_blockToCheck_12 (by decide) (by omega) (by omega) (fun c12 => ?_) (fun c12 => ?_)
    · omega
    refine g_iconst (v := nI 0) (pc := 15) dX1_blockToCheck_15 rfl ?_
    refine g_istore (pc := 16) dX1_blockToCheck_16 (Nat.le_of_ble_eq_true rfl) rfl ?_
    refine g_loop (bl V j) (fun k (_ : Unit) => True) (fun k _ => [some (.ref 4), some (.int (nxB V j (nxF V j) k).1), some (.int (nI (nxB V j (nxF V j) k).2)), some (.int (nI j)), some (.int (nI k))]) (fun _ => hp n I L D) (fun b _ hb _ kb => ?_) (fun _ _ => ?_) 0 () (Nat.zero_le _) trivial
    · have hnb := nxB_le (V := V) (j := j) (s := nxF V j) b
      have hc9 := hw.2.2.2.2.2.2.1 b (by omega)
      rw [show 10 * j + 6 + b = 10 * j + (6 + b) by omega] at hc9
      have hd := hS.2.2.2.1 j hj b hb
      rw [Nat.mul_comm 4 j] at hd
      refine g_iload (pc := 18) dX1_blockToCheck_18 rfl ?_
      refine g_aload_n (pc := 20) dX1_blockToCheck_20 rfl rfl ?_
      refine g_getR (pc := 21) dX1_blockToCheck_21 fl_X1_27 s_4 (by decide) rfl t_4_5 ?_
      refine g_iload_n (pc := 24) dX1_blockToCheck_24 rfl rfl ?_
      refine g_ialoadN (pc := 25) dX1_blockToCheck_25 s_10 (by decide) (by omega) (by decide) (hS.2.2.1 j hj).2.1 ?_
      refine g_icmp_geN (tgt := 70) (pc := 26) dX1_blockToCheck_26 (by decide) (by omega) (by omega) (fun c26 => ?_) (fun c26 => ?_)
      · omega
      refine g_aload_n (pc := 29) dX1_blockToCheck_29 rfl rfl ?_
      refine g_getR (pc := 30) dX1_blockToCheck_30 fl_X1_42 s_4 (by decide) rfl t_4_10 ?_
      refine g_iload_n (pc := 33) dX1_blockToCheck_33 rfl rfl ?_
      refine g_iconst (v := nI 4) (pc := 34) dX1_blockToCheck_34 rfl ?_
      refine g_imulN (pc := 35) dX1_blockToCheck_35 ?_
      refine g_iload (pc := 36) dX1_blockToCheck_36 rfl ?_
      refine g_iaddN (pc := 38) dX1_blockToCheck_38 ?_
      refine g_ialoadN (pc := 39) dX1_blockToCheck_39 s_15 (by decide) (by omega) (by decide) hd ?_
      refine g_iload_n (pc := 40) dX1_blockToCheck_40 rfl rfl ?_
      refine g_icmp_geN (tgt := 64) (pc := 41) dX1_blockToCheck_41 (by decide) (by omega) (by omega) (fun c41 => ?_) (fun c41 => ?_)
      · have e := nxB_f (V := V) (j := j) (s := nxF V j) (b := b) (by omega)
        rw [e] at kb
        refine g_iincN (pc := 64) dX1_blockToCheck_64 (Nat.le_of_ble_eq_true rfl) rfl rfl ?_
        refine g_goto (tgt := 18) (pc := 67) dX1_blockToCheck_67 (by decide) ?_
        exact kb () trivial
      · have e := nxB_t (V := V) (j := j) (s := nxF V j) (b := b) (by omega)
        rw [e] at kb
        refine g_bipush (v := nI 100) (pc := 44) dX1_blockToCheck_44 rfl ?_
        refine g_iload_n (pc := 46) dX1_blockToCheck_46 rfl rfl ?_
        refine g_imulN (pc := 47) dX1_blockToCheck_47 ?_
        refine g_iload (pc := 48) dX1_blockToCheck_48 rfl ?_
        refine g_iaddN (pc := 50) dX1_blockToCheck_50 ?_
        refine g_istore_n (pc := 51) dX1_blockToCheck_51 rfl (Nat.le_of_ble_eq_true rfl) rfl ?_
        refine g_aload_n (pc := 52) dX1_blockToCheck_52 rfl rfl ?_
        refine g_getR (pc := 53) dX1_blockToCheck_53 fl_X1_42 s_4 (by decide) rfl t_4_10 ?_
        refine g_iload_n (pc := 56) dX1_blockToCheck_56 rfl rfl ?_
        refine g_iconst (v := nI 4) (pc := 57) dX1_blockToCheck_57 rfl ?_
        refine g_imulN (pc := 58) dX1_blockToCheck_58 ?_
        refine g_iload (pc := 59) dX1_blockToCheck_59 rfl ?_
        refine g_iaddN (pc := 61) dX1_blockToCheck_61 ?_
        refine g_ialoadN (pc := 62) dX1_blockToCheck_62 s_15 (by decide) (by omega) (by decide) hd ?_
        refine g_istore_n (pc := 63) dX1_blockToCheck_63 rfl (Nat.le_of_ble_eq_true rfl) rfl ?_
        refine g_iincN (pc := 64) dX1_blockToCheck_64 (Nat.le_of_ble_eq_true rfl) rfl rfl ?_
        refine g_goto (tgt := 18) (pc := 67) dX1_blockToCheck_67 (by decide) ?_
        exact kb () trivial
    · rw [← hfe]
      have hnf2 := nxF_le (V := V) (j + 1)
      refine g_iload (pc := 18) dX1_blockToCheck_18 rfl ?_
      refine g_aload_n (pc := 20) dX1_blockToCheck_20 rfl rfl ?_
      refine g_getR (pc := 21) dX1_blockToCheck_21 fl_X1_27 s_4 (by decide) rfl t_4_5 ?_
      refine g_iload_n (pc := 24) dX1_blockToCheck_24 rfl rfl ?_
      refine g_ialoadN (pc := 25) dX1_blockToCheck_25 s_10 (by decide) (by omega) (by decide) (hS.2.2.1 j hj).2.1 ?_
      refine g_icmp_geN (tgt := 70) (pc := 26) dX1_blockToCheck_26 (by decide) (by omega) (by omega) (fun c26 => ?_) (fun c26 => ?_)
      rotate_left
      · omega
      refine g_iincN (pc := 70) dX1_blockToCheck_70 (Nat.le_of_ble_eq_true rfl) rfl rfl ?_
      refine g_goto (tgt := 9) (pc := 73) dX1_blockToCheck_73 (by decide) ?_
      refine g_fg 4 ?_
      exact kn () trivial
  · skip
    refine g_iload_n (pc := 9) dX1_blockToCheck_9 rfl rfl ?_
    refine g_bipush (v := nI 8) (pc := 10) dX1_blockToCheck_10 rfl ?_
    refine g_icmp_geN (tgt := 76) (pc := 12) dX1_blockToCheck_12 (by decide) (by omega) (by omega) (fun c12 => ?_) (fun c12 => ?_)
    · refine g_iload_n (pc := 76) dX1_blockToCheck_76 rfl rfl ?_
      refine g_iret (pc := 77) dX1_blockToCheck_77 rfl rfl ?_
      first | exact ⟨rfl, rfl⟩ | exact ⟨by rw [bI_t (by first | assumption | omega)], rfl⟩ | exact ⟨by rw [bI_f (by first | assumption | omega)], rfl⟩
    · exact absurd (Nat.le_refl _) c12
end

