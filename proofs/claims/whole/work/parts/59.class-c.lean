/-! ===== the class: questions that don't decode ===== -/
theorem cnt_z {p : Nat → Bool} : ∀ {k : Nat}, (∀ i, i < k → p i = false) → cnt p k = 0
  | 0, _ => rfl
  | k + 1, h => by rw [cnt_f (h k (Nat.lt_succ_self k)), cnt_z (fun i hi => h i (by omega))]
theorem cnt_e {p : Nat → Bool} {e : Nat} : ∀ {k : Nat}, (∀ i, e ≤ i → i < e + k → p i = false) → cnt p (e + k) = cnt p e
  | 0, _ => rfl
  | k + 1, h => by
    rw [← Nat.add_assoc, cnt_f (h (e + k) (by omega) (by omega)), Nat.add_zero]
    exact cnt_e (fun i h1 h2 => h i h1 (by omega))
theorem own_iff {V : Nat → Nat} {c j : Nat} (hW : WF V) (hj : j < 8) : own V c = some j ↔ isOwn V c j := by
  refine ⟨fun h => (own_of h).2, fun h => own_some hj h (fun i hi q => ?_)⟩
  obtain ⟨h1, h2, h3⟩ := h
  obtain ⟨q1, q2, q3⟩ := q
  rcases hW.2.1 i j (by omega) hj (by omega) q1 h1 with w | w <;> omega
theorem isOf_ar {V : Nat → Nat} {c j : Nat} (hW : WF V) (hj : j < 8) (h1 : V (10 * j) = 1) : isOf V j c = decide (V (10 * j + 5) ≤ c ∧ c < V (10 * j + 5) + ce V j) := by
  unfold isOf
  by_cases h : V (10 * j + 5) ≤ c ∧ c < V (10 * j + 5) + ce V j
  · rw [decide_eq_true h, decide_eq_true ((own_iff hW hj).mpr ⟨h1, h⟩)]
  · rw [decide_eq_false h, decide_eq_false (fun q => h ((own_iff hW hj).mp q).2)]
section
variable {G : gG} {d n : Nat} {I : Nat → Nat → Int32} {L : Nat → Nat → Int64} {D : Nat → Nat → UInt64} {V : Nat → Nat}
variable {C : Nat → Int32}
theorem m_X2_symbol_1 {c : Int32} (hc : ¬ (nI 0 ≤ c ∧ c ≤ nI 239)) : gX G YX2_symbol (d + 8) [.ref 3, .int c] n I L D (.inr "java/lang/IndexOutOfBoundsException") (fun J => J = I) := by
  refine g_iload_n (pc := 0) dX2_symbol_0 rfl rfl ?_
  refine g_fS (av := [.int _]) (pc := 1) dX2_symbol_1 mt_X2_isCell lk_X2_162 sf_X2_isCell np_X2_isCell rfl (gc_i gc_0) (Nat.le_of_ble_eq_true rfl) (Nat.le_of_ble_eq_true rfl) ⟨Nat.zero_le _, Nat.zero_le _⟩ (m_X2_isCell_f hc) ?_
  refine g_if_neN (tgt := 17) (pc := 4) dX2_symbol_4 (by decide) (by omega) (fun c4 => ?_) (fun c4 => ?_)
  · exact absurd c4 (by decide)
  · refine g_throw (pc := 7) th_X2_symbol_7 (Nat.le_of_ble_eq_true rfl) (Nat.le_of_ble_eq_true rfl) ?_
    exact ⟨_, ⟨rfl, rfl⟩, rfl⟩
theorem m_X2_symbol_0 (hS : Snap I 4 V C) {c : Nat} (hc : c < 240) : gX G YX2_symbol (d + 8) [.ref 3, .int (nI c)] n I L D (.inl (some (.int (nI (V (80 + c)))))) (fun J => J = I) := by
  refine g_iload_n (pc := 0) dX2_symbol_0 rfl rfl ?_
  refine g_fS (av := [.int _]) (pc := 1) dX2_symbol_1 mt_X2_isCell lk_X2_162 sf_X2_isCell np_X2_isCell rfl (gc_i gc_0) (Nat.le_of_ble_eq_true rfl) (Nat.le_of_ble_eq_true rfl) ⟨Nat.zero_le _, Nat.zero_le _⟩ (m_X2_isCell_t hc) ?_
  refine g_if_neN (tgt := 17) (pc := 4) dX2_symbol_4 (by decide) (by omega) (fun c4 => ?_) (fun c4 => ?_)
  · refine g_aload_n (pc := 17) dX2_symbol_17 rfl rfl ?_
    refine g_getR (pc := 18) dX2_symbol_18 fl_X2_12 s_3 (by decide) rfl t_3_0 ?_
    refine g_getR (pc := 21) dX2_symbol_21 fl_X2_179 s_4 (by decide) rfl t_4_0 ?_
    refine g_iload_n (pc := 24) dX2_symbol_24 rfl rfl ?_
    refine g_ialoadN (pc := 25) dX2_symbol_25 s_5 (by decide) (by omega) (by decide) (hS.1 c hc).1 ?_
    refine g_iret (pc := 26) dX2_symbol_26 rfl rfl ?_
    exact ⟨_, ⟨rfl, rfl⟩, rfl⟩
  · exact absurd c4 (by decide)
theorem m_X2_isErased_1 {c : Int32} (hc : ¬ (nI 0 ≤ c ∧ c ≤ nI 239)) : gX G YX2_isErased (d + 8) [.ref 3, .int c] n I L D (.inr "java/lang/IndexOutOfBoundsException") (fun J => J = I) := by
  refine g_iload_n (pc := 0) dX2_isErased_0 rfl rfl ?_
  refine g_fS (av := [.int _]) (pc := 1) dX2_isErased_1 mt_X2_isCell lk_X2_162 sf_X2_isCell np_X2_isCell rfl (gc_i gc_0) (Nat.le_of_ble_eq_true rfl) (Nat.le_of_ble_eq_true rfl) ⟨Nat.zero_le _, Nat.zero_le _⟩ (m_X2_isCell_f hc) ?_
  refine g_if_neN (tgt := 17) (pc := 4) dX2_isErased_4 (by decide) (by omega) (fun c4 => ?_) (fun c4 => ?_)
  · exact absurd c4 (by decide)
  · refine g_throw (pc := 7) th_X2_isErased_7 (Nat.le_of_ble_eq_true rfl) (Nat.le_of_ble_eq_true rfl) ?_
    exact ⟨_, ⟨rfl, rfl⟩, rfl⟩
theorem m_X2_isErased_0 (hS : Snap I 4 V C) (hW : WF V) {c : Nat} (hc : c < 240) : gX G YX2_isErased (d + 8) [.ref 3, .int (nI c)] n I L D (.inl (some (.int (bI (V (320 + c) = 1))))) (fun J => J = I) := by
  have hb := (hW.2.2.2 c hc).2.1
  refine g_iload_n (pc := 0) dX2_isErased_0 rfl rfl ?_
  refine g_fS (av := [.int _]) (pc := 1) dX2_isErased_1 mt_X2_isCell lk_X2_162 sf_X2_isCell np_X2_isCell rfl (gc_i gc_0) (Nat.le_of_ble_eq_true rfl) (Nat.le_of_ble_eq_true rfl) ⟨Nat.zero_le _, Nat.zero_le _⟩ (m_X2_isCell_t hc) ?_
  refine g_if_neN (tgt := 17) (pc := 4) dX2_isErased_4 (by decide) (by omega) (fun c4 => ?_) (fun c4 => ?_)
  · refine g_aload_n (pc := 17) dX2_isErased_17 rfl rfl ?_
    refine g_getR (pc := 18) dX2_isErased_18 fl_X2_12 s_3 (by decide) rfl t_3_0 ?_
    refine g_getR (pc := 21) dX2_isErased_21 fl_X2_182 s_4 (by decide) rfl t_4_2 ?_
    refine g_iload_n (pc := 24) dX2_isErased_24 rfl rfl ?_
    refine g_ialoadN (pc := 25) dX2_isErased_25 s_7 (by decide) (by omega) (by decide) (hS.1 c hc).2.2 ?_
    refine g_if_eqN (tgt := 33) (pc := 26) dX2_isErased_26 (by decide) (by omega) (fun c26 => ?_) (fun c26 => ?_)
    · refine g_iconst (v := nI 0) (pc := 33) dX2_isErased_33 rfl ?_
      refine g_iret (pc := 34) dX2_isErased_34 rfl rfl ?_
      first
        | exact ⟨_, ⟨by rw [bI_t (by omega)], rfl⟩, rfl⟩
        | exact ⟨_, ⟨by rw [bI_f (by omega)], rfl⟩, rfl⟩
    · refine g_iconst (v := nI 1) (pc := 29) dX2_isErased_29 rfl ?_
      refine g_goto (tgt := 34) (pc := 30) dX2_isErased_30 (by decide) ?_
      refine g_iret (pc := 34) dX2_isErased_34 rfl rfl ?_
      first
        | exact ⟨_, ⟨by rw [bI_t (by omega)], rfl⟩, rfl⟩
        | exact ⟨_, ⟨by rw [bI_f (by omega)], rfl⟩, rfl⟩
  · exact absurd c4 (by decide)
theorem m_X2_owner_1 {c : Int32} (hc : ¬ (nI 0 ≤ c ∧ c ≤ nI 239)) : gX G YX2_owner (d + 8) [.ref 3, .int c] n I L D (.inr "java/lang/IndexOutOfBoundsException") (fun J => J = I) := by
  refine g_iload_n (pc := 0) dX2_owner_0 rfl rfl ?_
  refine g_fS (av := [.int _]) (pc := 1) dX2_owner_1 mt_X2_isCell lk_X2_162 sf_X2_isCell np_X2_isCell rfl (gc_i gc_0) (Nat.le_of_ble_eq_true rfl) (Nat.le_of_ble_eq_true rfl) ⟨Nat.zero_le _, Nat.zero_le _⟩ (m_X2_isCell_f hc) ?_
  refine g_if_neN (tgt := 17) (pc := 4) dX2_owner_4 (by decide) (by omega) (fun c4 => ?_) (fun c4 => ?_)
  · exact absurd c4 (by decide)
  · refine g_throw (pc := 7) th_X2_owner_7 (Nat.le_of_ble_eq_true rfl) (Nat.le_of_ble_eq_true rfl) ?_
    exact ⟨_, ⟨rfl, rfl⟩, rfl⟩
theorem m_X2_owner_0 (hS : Snap I 4 V C) (hW : WF V) {c : Nat} (hc : c < 240) : gX G YX2_owner (d + 8) [.ref 3, .int (nI c)] n I L D (.inl (some (.int (ownI V c)))) (fun J => J = I) := by
  refine g_iload_n (pc := 0) dX2_owner_0 rfl rfl ?_
  refine g_fS (av := [.int _]) (pc := 1) dX2_owner_1 mt_X2_isCell lk_X2_162 sf_X2_isCell np_X2_isCell rfl (gc_i gc_0) (Nat.le_of_ble_eq_true rfl) (Nat.le_of_ble_eq_true rfl) ⟨Nat.zero_le _, Nat.zero_le _⟩ (m_X2_isCell_t hc) ?_
  refine g_if_neN (tgt := 17) (pc := 4) dX2_owner_4 (by decide) (by omega) (fun c4 => ?_) (fun c4 => ?_)
  · refine g_aload_n (pc := 17) dX2_owner_17 rfl rfl ?_
    refine g_getR (pc := 18) dX2_owner_18 fl_X2_12 s_3 (by decide) rfl t_3_0 ?_
    refine g_iload_n (pc := 21) dX2_owner_21 rfl rfl ?_
    refine g_fV (av := [.int _]) (pc := 22) dX2_owner_22 mt_X1_fileAt lk_X2_167 im_X1_fileAt se_X1_fileAt np_X1_fileAt s_4 (by decide) (by decide) rfl (gc_i gc_0) (Nat.le_of_ble_eq_true rfl) (Nat.le_of_ble_eq_true rfl) ⟨Nat.zero_le _, Nat.zero_le _⟩ (m_X1_fileAt hS hW hc) ?_
    refine g_iret (pc := 25) dX2_owner_25 rfl rfl ?_
    exact ⟨_, ⟨rfl, rfl⟩, rfl⟩
  · exact absurd c4 (by decide)
theorem m_X2_placeOf_1 {c : Int32} (hc : ¬ (nI 0 ≤ c ∧ c ≤ nI 239)) : gX G YX2_placeOf (d + 8) [.ref 3, .int c] n I L D (.inr "java/lang/IndexOutOfBoundsException") (fun J => J = I) := by
  refine g_iload_n (pc := 0) dX2_placeOf_0 rfl rfl ?_
  refine g_fS (av := [.int _]) (pc := 1) dX2_placeOf_1 mt_X2_isCell lk_X2_162 sf_X2_isCell np_X2_isCell rfl (gc_i gc_0) (Nat.le_of_ble_eq_true rfl) (Nat.le_of_ble_eq_true rfl) ⟨Nat.zero_le _, Nat.zero_le _⟩ (m_X2_isCell_f hc) ?_
  refine g_if_neN (tgt := 17) (pc := 4) dX2_placeOf_4 (by decide) (by omega) (fun c4 => ?_) (fun c4 => ?_)
  · exact absurd c4 (by decide)
  · refine g_throw (pc := 7) th_X2_placeOf_7 (Nat.le_of_ble_eq_true rfl) (Nat.le_of_ble_eq_true rfl) ?_
    exact ⟨_, ⟨rfl, rfl⟩, rfl⟩
theorem m_X2_placeOf_2 (hS : Snap I 4 V C) (hW : WF V) {c : Nat} (hc : c < 240) (ho : own V c = none) : gX G YX2_placeOf (d + 8) [.ref 3, .int (nI c)] n I L D (.inr "java/util/NoSuchElementException") (fun J => J = I) := by
  have ho2 := ownI_none ho
  refine g_iload_n (pc := 0) dX2_placeOf_0 rfl rfl ?_
  refine g_fS (av := [.int _]) (pc := 1) dX2_placeOf_1 mt_X2_isCell lk_X2_162 sf_X2_isCell np_X2_isCell rfl (gc_i gc_0) (Nat.le_of_ble_eq_true rfl) (Nat.le_of_ble_eq_true rfl) ⟨Nat.zero_le _, Nat.zero_le _⟩ (m_X2_isCell_t hc) ?_
  refine g_if_neN (tgt := 17) (pc := 4) dX2_placeOf_4 (by decide) (by omega) (fun c4 => ?_) (fun c4 => ?_)
  · refine g_aload_n (pc := 17) dX2_placeOf_17 rfl rfl ?_
    refine g_getR (pc := 18) dX2_placeOf_18 fl_X2_12 s_3 (by decide) rfl t_3_0 ?_
    refine g_iload_n (pc := 21) dX2_placeOf_21 rfl rfl ?_
    refine g_fV (av := [.int _]) (pc := 22) dX2_placeOf_22 mt_X1_fileAt lk_X2_167 im_X1_fileAt se_X1_fileAt np_X1_fileAt s_4 (by decide) (by decide) rfl (gc_i gc_0) (Nat.le_of_ble_eq_true rfl) (Nat.le_of_ble_eq_true rfl) ⟨Nat.zero_le _, Nat.zero_le _⟩ (m_X1_fileAt hS hW hc) ?_
    rw [ho2]
    refine g_istore_n (pc := 25) dX2_placeOf_25 rfl (Nat.le_of_ble_eq_true rfl) rfl ?_
    refine g_iload_n (pc := 26) dX2_placeOf_26 rfl rfl ?_
    refine g_if_ge (tgt := 40) (pc := 27) dX2_placeOf_27 (by decide) (fun c27 => ?_) (fun c27 => ?_)
    · exact absurd c27 (by decide)
    · refine g_throw (pc := 30) th_X2_placeOf_30 (Nat.le_of_ble_eq_true rfl) (Nat.le_of_ble_eq_true rfl) ?_
      exact ⟨_, ⟨rfl, rfl⟩, rfl⟩
  · exact absurd c4 (by decide)
theorem m_X2_placeOf_0 (hS : Snap I 4 V C) (hW : WF V) {c : Nat} (hc : c < 240) {j : Nat} (ho : own V c = some j) : gX G YX2_placeOf (d + 8) [.ref 3, .int (nI c)] n I L D (.inl (some (.int (nI (100 * plB V j c + plI V j c))))) (fun J => J = I) := by
  obtain ⟨hj, h1, h2⟩ := own_of ho
  have ho2 := ownI_some ho
  refine g_iload_n (pc := 0) dX2_placeOf_0 rfl rfl ?_
  refine g_fS (av := [.int _]) (pc := 1) dX2_placeOf_1 mt_X2_isCell lk_X2_162 sf_X2_isCell np_X2_isCell rfl (gc_i gc_0) (Nat.le_of_ble_eq_true rfl) (Nat.le_of_ble_eq_true rfl) ⟨Nat.zero_le _, Nat.zero_le _⟩ (m_X2_isCell_t hc) ?_
  refine g_if_neN (tgt := 17) (pc := 4) dX2_placeOf_4 (by decide) (by omega) (fun c4 => ?_) (fun c4 => ?_)
  · refine g_aload_n (pc := 17) dX2_placeOf_17 rfl rfl ?_
    refine g_getR (pc := 18) dX2_placeOf_18 fl_X2_12 s_3 (by decide) rfl t_3_0 ?_
    refine g_iload_n (pc := 21) dX2_placeOf_21 rfl rfl ?_
    refine g_fV (av := [.int _]) (pc := 22) dX2_placeOf_22 mt_X1_fileAt lk_X2_167 im_X1_fileAt se_X1_fileAt np_X1_fileAt s_4 (by decide) (by decide) rfl (gc_i gc_0) (Nat.le_of_ble_eq_true rfl) (Nat.le_of_ble_eq_true rfl) ⟨Nat.zero_le _, Nat.zero_le _⟩ (m_X1_fileAt hS hW hc) ?_
    rw [ho2]
    refine g_istore_n (pc := 25) dX2_placeOf_25 rfl (Nat.le_of_ble_eq_true rfl) rfl ?_
    refine g_iload_n (pc := 26) dX2_placeOf_26 rfl rfl ?_
    refine g_if_geN (tgt := 40) (pc := 27) dX2_placeOf_27 (by decide) (by omega) (fun c27 => ?_) (fun c27 => ?_)
    · refine g_aload_n (pc := 40) dX2_placeOf_40 rfl rfl ?_
      refine g_getR (pc := 41) dX2_placeOf_41 fl_X2_12 s_3 (by decide) rfl t_3_0 ?_
      refine g_iload_n (pc := 44) dX2_placeOf_44 rfl rfl ?_
      refine g_iload_n (pc := 45) dX2_placeOf_45 rfl rfl ?_
      refine g_fV (av := [.int _, .int _]) (pc := 46) dX2_placeOf_46 mt_X1_placeInFile lk_X2_172 im_X1_placeInFile se_X1_placeInFile np_X1_placeInFile s_4 (by decide) (by decide) rfl (gc_i (gc_i gc_0)) (Nat.le_of_ble_eq_true rfl) (Nat.le_of_ble_eq_true rfl) ⟨Nat.zero_le _, Nat.zero_le _⟩ (m_X1_placeInFile hS hW hj h1 h2) ?_
      refine g_iret (pc := 49) dX2_placeOf_49 rfl rfl ?_
      exact ⟨_, ⟨rfl, rfl⟩, rfl⟩
    · omega
  · exact absurd c4 (by decide)
theorem m_X2_room (hS : Snap I 4 V C) (hW : WF V) : gX G YX2_room (d + 8) [.ref 3] n I L D (.inl (some (.int (nI (ms V 240))))) (fun J => J = I) := by
  refine g_aload_n (pc := 0) dX2_room_0 rfl rfl ?_
  refine g_getR (pc := 1) dX2_room_1 fl_X2_12 s_3 (by decide) rfl t_3_0 ?_
  refine g_fV (av := []) (pc := 4) dX2_room_4 mt_X1_greatestFreeArea lk_X2_176 im_X1_greatestFreeArea se_X1_greatestFreeArea np_X1_greatestFreeArea s_4 (by decide) (by decide) rfl gc_0 (Nat.le_of_ble_eq_true rfl) (Nat.le_of_ble_eq_true rfl) ⟨Nat.zero_le _, Nat.zero_le _⟩ (m_X1_greatestFreeArea hS hW) ?_
  refine g_iret (pc := 7) dX2_room_7 rfl rfl ?_
  exact ⟨_, ⟨rfl, rfl⟩, rfl⟩
theorem m_X2_day (hS : Snap I 4 V C) : gX G YX2_day (d + 8) [.ref 3] n I L D (.inl (some (.int (nI (V 800))))) (fun J => J = I) := by
  refine g_aload_n (pc := 0) dX2_day_0 rfl rfl ?_
  refine g_getR (pc := 1) dX2_day_1 fl_X2_12 s_3 (by decide) rfl t_3_0 ?_
  refine g_getIV (pc := 4) dX2_day_4 fl_X2_255 s_4 (by decide) rfl hS.2.2.2.2 ?_
  refine g_iret (pc := 7) dX2_day_7 rfl rfl ?_
  exact ⟨_, ⟨rfl, rfl⟩, rfl⟩
theorem m_X2_reportLines : gX G YX2_reportLines (d + 8) [.ref 3] n I L D (.inl (some (.int (I 3 8)))) (fun J => J = I) := by
  refine g_aload_n (pc := 0) dX2_reportLines_0 rfl rfl ?_
  refine g_getI (pc := 1) dX2_reportLines_1 fl_X2_45 s_3 (by decide) rfl ?_
  refine g_iret (pc := 4) dX2_reportLines_4 rfl rfl ?_
  exact ⟨_, ⟨rfl, rfl⟩, rfl⟩
theorem m_X2_errorPosition_1 (h0 : ¬ (0 : Int32) ≤ I 3 9) : gX G YX2_errorPosition (d + 8) [.ref 3] n I L D (.inr "java/util/NoSuchElementException") (fun J => J = I) := by
  refine g_aload_n (pc := 0) dX2_errorPosition_0 rfl rfl ?_
  refine g_getI (pc := 1) dX2_errorPosition_1 fl_X2_48 s_3 (by decide) rfl ?_
  refine g_if_ge (tgt := 17) (pc := 4) dX2_errorPosition_4 (by decide) (fun c4 => ?_) (fun c4 => ?_)
  · exact absurd c4 h0
  · refine g_throw (pc := 7) th_X2_errorPosition_7 (Nat.le_of_ble_eq_true rfl) (Nat.le_of_ble_eq_true rfl) ?_
    exact ⟨_, ⟨rfl, rfl⟩, rfl⟩
theorem m_X2_errorPosition_0 (h0 : (0 : Int32) ≤ I 3 9) : gX G YX2_errorPosition (d + 8) [.ref 3] n I L D (.inl (some (.int (I 3 9)))) (fun J => J = I) := by
  refine g_aload_n (pc := 0) dX2_errorPosition_0 rfl rfl ?_
  refine g_getI (pc := 1) dX2_errorPosition_1 fl_X2_48 s_3 (by decide) rfl ?_
  refine g_if_ge (tgt := 17) (pc := 4) dX2_errorPosition_4 (by decide) (fun c4 => ?_) (fun c4 => ?_)
  · refine g_aload_n (pc := 17) dX2_errorPosition_17 rfl rfl ?_
    refine g_getI (pc := 18) dX2_errorPosition_18 fl_X2_48 s_3 (by decide) rfl ?_
    refine g_iret (pc := 21) dX2_errorPosition_21 rfl rfl ?_
    exact ⟨_, ⟨rfl, rfl⟩, rfl⟩
  · exact absurd h0 c4
theorem m_X2_account_1 {c : Int32} (hc : ¬ (nI 0 ≤ c ∧ c ≤ nI 7)) : gX G YX2_account (d + 8) [.ref 3, .int c] n I L D (.inr "java/lang/IllegalArgumentException") (fun J => J = I) := by
  refine g_iload_n (pc := 0) dX2_account_0 rfl rfl ?_
  refine g_if_lt (tgt := 10) (pc := 1) dX2_account_1 (by decide) (fun c1 => ?_) (fun c1 => ?_)
  · refine g_throw (pc := 10) th_X2_account_10 (Nat.le_of_ble_eq_true rfl) (Nat.le_of_ble_eq_true rfl) ?_
    exact ⟨_, ⟨rfl, rfl⟩, rfl⟩
  · refine g_iload_n (pc := 4) dX2_account_4 rfl rfl ?_
    refine g_bipush (v := nI 8) (pc := 5) dX2_account_5 rfl ?_
    refine g_icmp_lt (tgt := 21) (pc := 7) dX2_account_7 (by decide) (fun c7 => ?_) (fun c7 => ?_)
    · rw [Int32.lt_iff_toInt_lt] at c1 c7
      refine absurd ⟨?_, ?_⟩ hc
      · rw [Int32.le_iff_toInt_le]
        have : (nI 0).toInt = 0 := rfl
        have e0 : (0 : Int32).toInt = 0 := rfl
        omega
      · rw [Int32.le_iff_toInt_le]
        have : (nI 7).toInt = 7 := rfl
        have e0 : (nI 8).toInt = 8 := rfl
        omega
    · refine g_throw (pc := 10) th_X2_account_10 (Nat.le_of_ble_eq_true rfl) (Nat.le_of_ble_eq_true rfl) ?_
      exact ⟨_, ⟨rfl, rfl⟩, rfl⟩
theorem m_X2_account_0 (hS : Snap I 4 V C) {k : Nat} (hk : k < 8) : gX G YX2_account (d + 8) [.ref 3, .int (nI k)] n I L D (.inl (some (.int (C k)))) (fun J => J = I) := by
  have e := hS.2.1 k hk
  refine g_iload_n (pc := 0) dX2_account_0 rfl rfl ?_
  refine g_if_ltN (tgt := 10) (pc := 1) dX2_account_1 (by decide) (by omega) (fun c1 => ?_) (fun c1 => ?_)
  · omega
  · refine g_iload_n (pc := 4) dX2_account_4 rfl rfl ?_
    refine g_bipush (v := nI 8) (pc := 5) dX2_account_5 rfl ?_
    refine g_icmp_ltN (tgt := 21) (pc := 7) dX2_account_7 (by decide) (by omega) (by omega) (fun c7 => ?_) (fun c7 => ?_)
    · refine g_aload_n (pc := 21) dX2_account_21 rfl rfl ?_
      refine g_getR (pc := 22) dX2_account_22 fl_X2_12 s_3 (by decide) rfl t_3_0 ?_
      refine g_getR (pc := 25) dX2_account_25 fl_X2_268 s_4 (by decide) rfl t_4_3 ?_
      refine g_iload_n (pc := 28) dX2_account_28 rfl rfl ?_
      refine g_ialoadN (pc := 29) dX2_account_29 s_8 (by decide) (by omega) (by decide) e ?_
      refine g_iret (pc := 30) dX2_account_30 rfl rfl ?_
      exact ⟨_, ⟨rfl, rfl⟩, rfl⟩
    · omega
theorem m_X2_nextToCheck_1 (hS : Snap I 4 V C) (hW : WF V) (h : ¬ (0 : Int32) ≤ nxI V) : gX G YX2_nextToCheck (d + 8) [.ref 3] n I L D (.inr "java/util/NoSuchElementException") (fun J => J = I) := by
  refine g_aload_n (pc := 0) dX2_nextToCheck_0 rfl rfl ?_
  refine g_getR (pc := 1) dX2_nextToCheck_1 fl_X2_12 s_3 (by decide) rfl t_3_0 ?_
  refine g_fV (av := []) (pc := 4) dX2_nextToCheck_4 mt_X1_blockToCheck lk_X2_262 im_X1_blockToCheck se_X1_blockToCheck np_X1_blockToCheck s_4 (by decide) (by decide) rfl gc_0 (Nat.le_of_ble_eq_true rfl) (Nat.le_of_ble_eq_true rfl) ⟨Nat.zero_le _, Nat.zero_le _⟩ (m_X1_blockToCheck hS hW) ?_
  refine g_istore_n (pc := 7) dX2_nextToCheck_7 rfl (Nat.le_of_ble_eq_true rfl) rfl ?_
  refine g_iload_n (pc := 8) dX2_nextToCheck_8 rfl rfl ?_
  refine g_if_ge (tgt := 23) (pc := 9) dX2_nextToCheck_9 (by decide) (fun c9 => ?_) (fun c9 => ?_)
  · exact absurd c9 h
  · refine g_throw (pc := 12) th_X2_nextToCheck_12 (Nat.le_of_ble_eq_true rfl) (Nat.le_of_ble_eq_true rfl) ?_
    exact ⟨_, ⟨rfl, rfl⟩, rfl⟩
theorem m_X2_nextToCheck_0 (hS : Snap I 4 V C) (hW : WF V) (h : (0 : Int32) ≤ nxI V) : gX G YX2_nextToCheck (d + 8) [.ref 3] n I L D (.inl (some (.int (nxI V)))) (fun J => J = I) := by
  refine g_aload_n (pc := 0) dX2_nextToCheck_0 rfl rfl ?_
  refine g_getR (pc := 1) dX2_nextToCheck_1 fl_X2_12 s_3 (by decide) rfl t_3_0 ?_
  refine g_fV (av := []) (pc := 4) dX2_nextToCheck_4 mt_X1_blockToCheck lk_X2_262 im_X1_blockToCheck se_X1_blockToCheck np_X1_blockToCheck s_4 (by decide) (by decide) rfl gc_0 (Nat.le_of_ble_eq_true rfl) (Nat.le_of_ble_eq_true rfl) ⟨Nat.zero_le _, Nat.zero_le _⟩ (m_X1_blockToCheck hS hW) ?_
  refine g_istore_n (pc := 7) dX2_nextToCheck_7 rfl (Nat.le_of_ble_eq_true rfl) rfl ?_
  refine g_iload_n (pc := 8) dX2_nextToCheck_8 rfl rfl ?_
  refine g_if_ge (tgt := 23) (pc := 9) dX2_nextToCheck_9 (by decide) (fun c9 => ?_) (fun c9 => ?_)
  · refine g_iload_n (pc := 23) dX2_nextToCheck_23 rfl rfl ?_
    refine g_iret (pc := 24) dX2_nextToCheck_24 rfl rfl ?_
    exact ⟨_, ⟨rfl, rfl⟩, rfl⟩
  · exact absurd h c9
theorem m_X2_checked_1 (hS : Snap I 4 V C) (hW : WF V) {f b : Int32} (hb : ¬ ∃ j k, j < 8 ∧ V (10 * j) = 1 ∧ k < bl V j ∧ f = nI j ∧ b = nI k) : gX G YX2_checked (d + 8) [.ref 3, .int f, .int b] n I L D (.inr "java/lang/IndexOutOfBoundsException") (fun J => J = I) := by
  refine g_aload_n (pc := 0) dX2_checked_0 rfl rfl ?_
  refine g_getR (pc := 1) dX2_checked_1 fl_X2_12 s_3 (by decide) rfl t_3_0 ?_
  refine g_iload_n (pc := 4) dX2_checked_4 rfl rfl ?_
  refine g_iload_n (pc := 5) dX2_checked_5 rfl rfl ?_
  refine g_fV (av := [.int _, .int _]) (pc := 6) dX2_checked_6 mt_X1_hasBlock lk_X2_202 im_X1_hasBlock se_X1_hasBlock np_X1_hasBlock s_4 (by decide) (by decide) rfl (gc_i (gc_i gc_0)) (Nat.le_of_ble_eq_true rfl) (Nat.le_of_ble_eq_true rfl) ⟨Nat.zero_le _, Nat.zero_le _⟩ (m_X1_hasBlock_f hS hW hb) ?_
  refine g_if_neN (tgt := 22) (pc := 9) dX2_checked_9 (by decide) (by omega) (fun c9 => ?_) (fun c9 => ?_)
  · exact absurd c9 (by decide)
  · refine g_throw (pc := 12) th_X2_checked_12 (Nat.le_of_ble_eq_true rfl) (Nat.le_of_ble_eq_true rfl) ?_
    exact ⟨_, ⟨rfl, rfl⟩, rfl⟩
theorem m_X2_checked_0 (hS : Snap I 4 V C) (hW : WF V) {j b : Nat} (hj : j < 8) (h1 : V (10 * j) = 1) (hb : b < bl V j) : gX G YX2_checked (d + 8) [.ref 3, .int (nI j), .int (nI b)] n I L D (.inl (some (.int (nI (V (10 * j + (6 + b))))))) (fun J => J = I) := by
  have hbl := bl_le (hW.1 j hj)
  have hd := hS.2.2.2.1 j hj b hb
  rw [Nat.mul_comm 4 j] at hd
  refine g_aload_n (pc := 0) dX2_checked_0 rfl rfl ?_
  refine g_getR (pc := 1) dX2_checked_1 fl_X2_12 s_3 (by decide) rfl t_3_0 ?_
  refine g_iload_n (pc := 4) dX2_checked_4 rfl rfl ?_
  refine g_iload_n (pc := 5) dX2_checked_5 rfl rfl ?_
  refine g_fV (av := [.int _, .int _]) (pc := 6) dX2_checked_6 mt_X1_hasBlock lk_X2_202 im_X1_hasBlock se_X1_hasBlock np_X1_hasBlock s_4 (by decide) (by decide) rfl (gc_i (gc_i gc_0)) (Nat.le_of_ble_eq_true rfl) (Nat.le_of_ble_eq_true rfl) ⟨Nat.zero_le _, Nat.zero_le _⟩ (m_X1_hasBlock_t hS hW hj h1 hb) ?_
  refine g_if_neN (tgt := 22) (pc := 9) dX2_checked_9 (by decide) (by omega) (fun c9 => ?_) (fun c9 => ?_)
  · refine g_aload_n (pc := 22) dX2_checked_22 rfl rfl ?_
    refine g_getR (pc := 23) dX2_checked_23 fl_X2_12 s_3 (by decide) rfl t_3_0 ?_
    refine g_getR (pc := 26) dX2_checked_26 fl_X2_282 s_4 (by decide) rfl t_4_10 ?_
    refine g_iload_n (pc := 29) dX2_checked_29 rfl rfl ?_
    refine g_iconst (v := nI 4) (pc := 30) dX2_checked_30 rfl ?_
    refine g_imulN (pc := 31) dX2_checked_31 ?_
    refine g_iload_n (pc := 32) dX2_checked_32 rfl rfl ?_
    refine g_iaddN (pc := 33) dX2_checked_33 ?_
    refine g_ialoadN (pc := 34) dX2_checked_34 s_15 (by decide) (by omega) (by decide) hd ?_
    refine g_iret (pc := 35) dX2_checked_35 rfl rfl ?_
    exact ⟨_, ⟨rfl, rfl⟩, rfl⟩
  · exact absurd c9 (by decide)
theorem m_X2_cellOf_1 (hS : Snap I 4 V C) (hW : WF V) {f b i : Int32} (hb : ¬ ∃ j k l, j < 8 ∧ V (10 * j) = 1 ∧ k < bl V j ∧ l < sz V j ∧ f = nI j ∧ b = nI k ∧ i = nI l) : gX G YX2_cellOf (d + 8) [.ref 3, .int f, .int b, .int i] n I L D (.inr "java/lang/IndexOutOfBoundsException") (fun J => J = I) := by
  refine g_aload_n (pc := 0) dX2_cellOf_0 rfl rfl ?_
  refine g_getR (pc := 1) dX2_cellOf_1 fl_X2_12 s_3 (by decide) rfl t_3_0 ?_
  refine g_iload_n (pc := 4) dX2_cellOf_4 rfl rfl ?_
  refine g_iload_n (pc := 5) dX2_cellOf_5 rfl rfl ?_
  refine g_iload_n (pc := 6) dX2_cellOf_6 rfl rfl ?_
  refine g_fV (av := [.int _, .int _, .int _]) (pc := 7) dX2_cellOf_7 mt_X1_hasPosition lk_X2_152 im_X1_hasPosition se_X1_hasPosition np_X1_hasPosition s_4 (by decide) (by decide) rfl (gc_i (gc_i (gc_i gc_0))) (Nat.le_of_ble_eq_true rfl) (Nat.le_of_ble_eq_true rfl) ⟨Nat.zero_le _, Nat.zero_le _⟩ (m_X1_hasPosition_f hS hW hb) ?_
  refine g_if_neN (tgt := 23) (pc := 10) dX2_cellOf_10 (by decide) (by omega) (fun c10 => ?_) (fun c10 => ?_)
  · exact absurd c10 (by decide)
  · refine g_throw (pc := 13) th_X2_cellOf_13 (Nat.le_of_ble_eq_true rfl) (Nat.le_of_ble_eq_true rfl) ?_
    exact ⟨_, ⟨rfl, rfl⟩, rfl⟩
theorem m_X2_cellOf_0 (hS : Snap I 4 V C) (hW : WF V) {j b i : Nat} (hj : j < 8) (h1 : V (10 * j) = 1) (hb : b < bl V j) (hi : i < sz V j) : gX G YX2_cellOf (d + 8) [.ref 3, .int (nI j), .int (nI b), .int (nI i)] n I L D (.inl (some (.int (nI (cellN V j b i))))) (fun J => J = I) := by
  refine g_aload_n (pc := 0) dX2_cellOf_0 rfl rfl ?_
  refine g_getR (pc := 1) dX2_cellOf_1 fl_X2_12 s_3 (by decide) rfl t_3_0 ?_
  refine g_iload_n (pc := 4) dX2_cellOf_4 rfl rfl ?_
  refine g_iload_n (pc := 5) dX2_cellOf_5 rfl rfl ?_
  refine g_iload_n (pc := 6) dX2_cellOf_6 rfl rfl ?_
  refine g_fV (av := [.int _, .int _, .int _]) (pc := 7) dX2_cellOf_7 mt_X1_hasPosition lk_X2_152 im_X1_hasPosition se_X1_hasPosition np_X1_hasPosition s_4 (by decide) (by decide) rfl (gc_i (gc_i (gc_i gc_0))) (Nat.le_of_ble_eq_true rfl) (Nat.le_of_ble_eq_true rfl) ⟨Nat.zero_le _, Nat.zero_le _⟩ (m_X1_hasPosition_t hS hW hj h1 hb hi) ?_
  refine g_if_neN (tgt := 23) (pc := 10) dX2_cellOf_10 (by decide) (by omega) (fun c10 => ?_) (fun c10 => ?_)
  · refine g_aload_n (pc := 23) dX2_cellOf_23 rfl rfl ?_
    refine g_getR (pc := 24) dX2_cellOf_24 fl_X2_12 s_3 (by decide) rfl t_3_0 ?_
    refine g_iload_n (pc := 27) dX2_cellOf_27 rfl rfl ?_
    refine g_iload_n (pc := 28) dX2_cellOf_28 rfl rfl ?_
    refine g_iload_n (pc := 29) dX2_cellOf_29 rfl rfl ?_
    refine g_fV (av := [.int _, .int _, .int _]) (pc := 30) dX2_cellOf_30 mt_X1_cellAt lk_X2_158 im_X1_cellAt se_X1_cellAt np_X1_cellAt s_4 (by decide) (by decide) rfl (gc_i (gc_i (gc_i gc_0))) (Nat.le_of_ble_eq_true rfl) (Nat.le_of_ble_eq_true rfl) ⟨Nat.zero_le _, Nat.zero_le _⟩ (m_X1_cellAt hS hW hj h1 hb) ?_
    refine g_iret (pc := 33) dX2_cellOf_33 rfl rfl ?_
    exact ⟨_, ⟨rfl, rfl⟩, rfl⟩
  · exact absurd c10 (by decide)
theorem m_X2_file_1 (hS : Snap I 4 V C) (hW : WF V) {f w : Int32} (hf : ¬ isFi V f) : gX G YX2_file (d + 8) [.ref 3, .int f, .int w] n I L D (.inr "java/lang/IndexOutOfBoundsException") (fun J => J = I) := by
  refine g_aload_n (pc := 0) dX2_file_0 rfl rfl ?_
  refine g_getR (pc := 1) dX2_file_1 fl_X2_12 s_3 (by decide) rfl t_3_0 ?_
  refine g_iload_n (pc := 4) dX2_file_4 rfl rfl ?_
  refine g_fV (av := [.int _]) (pc := 5) dX2_file_5 mt_X1_hasFile lk_X2_117 im_X1_hasFile se_X1_hasFile np_X1_hasFile s_4 (by decide) (by decide) rfl (gc_i gc_0) (Nat.le_of_ble_eq_true rfl) (Nat.le_of_ble_eq_true rfl) ⟨Nat.zero_le _, Nat.zero_le _⟩ (m_X1_hasFile hS hW) ?_
  refine g_if_neB (tgt := 21) (pc := 8) dX2_file_8 (by decide) (fun c8 => ?_) (fun c8 => ?_)
  · exact absurd c8 hf
  · refine g_throw (pc := 11) th_X2_file_11 (Nat.le_of_ble_eq_true rfl) (Nat.le_of_ble_eq_true rfl) ?_
    exact ⟨_, ⟨rfl, rfl⟩, rfl⟩
theorem m_X2_file_2 (hS : Snap I 4 V C) (hW : WF V) {j : Nat} (hj : j < 8) (h1 : V (10 * j) = 1) {w : Int32} (h : ¬ (nI 0 ≤ w ∧ w ≤ nI 6)) : gX G YX2_file (d + 8) [.ref 3, .int (nI j), .int w] n I L D (.inr "java/lang/IllegalArgumentException") (fun J => J = I) := by
  have hw : w.toInt < 0 ∨ 6 < w.toInt := by
    rw [Int32.le_iff_toInt_le, Int32.le_iff_toInt_le] at h
    have e0 : (nI 0).toInt = 0 := rfl
    have e6 : (nI 6).toInt = 6 := rfl
    omega
  refine g_aload_n (pc := 0) dX2_file_0 rfl rfl ?_
  refine g_getR (pc := 1) dX2_file_1 fl_X2_12 s_3 (by decide) rfl t_3_0 ?_
  refine g_iload_n (pc := 4) dX2_file_4 rfl rfl ?_
  refine g_fV (av := [.int _]) (pc := 5) dX2_file_5 mt_X1_hasFile lk_X2_117 im_X1_hasFile se_X1_hasFile np_X1_hasFile s_4 (by decide) (by decide) rfl (gc_i gc_0) (Nat.le_of_ble_eq_true rfl) (Nat.le_of_ble_eq_true rfl) ⟨Nat.zero_le _, Nat.zero_le _⟩ (m_X1_hasFileN hS hW hj) ?_
  refine g_if_neB (tgt := 21) (pc := 8) dX2_file_8 (by decide) (fun c8 => ?_) (fun c8 => ?_)
  rotate_left
  · exact absurd h1 c8
  refine g_iload_n (pc := 21) dX2_file_21 rfl rfl ?_
  refine g_tabOut (pc := 22) (tgt := 133) dX2_file_22 hw (by decide) ?_
  refine g_throw (pc := 133) th_X2_file_133 (Nat.le_of_ble_eq_true rfl) (Nat.le_of_ble_eq_true rfl) ?_
  exact ⟨_, ⟨rfl, rfl⟩, rfl⟩
theorem l_X2_file_0 (hS : Snap I 4 V C) (hW : WF V) {j : Nat} (hj : j < 8) (h1 : V (10 * j) = 1) : gX G YX2_file (d + 8) [.ref 3, .int (nI j), .int (nI 0)] n I L D (.inl (some (.int (nI (V (10 * j + 1)))))) (fun J => J = I) := by
  refine g_aload_n (pc := 0) dX2_file_0 rfl rfl ?_
  refine g_getR (pc := 1) dX2_file_1 fl_X2_12 s_3 (by decide) rfl t_3_0 ?_
  refine g_iload_n (pc := 4) dX2_file_4 rfl rfl ?_
  refine g_fV (av := [.int _]) (pc := 5) dX2_file_5 mt_X1_hasFile lk_X2_117 im_X1_hasFile se_X1_hasFile np_X1_hasFile s_4 (by decide) (by decide) rfl (gc_i gc_0) (Nat.le_of_ble_eq_true rfl) (Nat.le_of_ble_eq_true rfl) ⟨Nat.zero_le _, Nat.zero_le _⟩ (m_X1_hasFileN hS hW hj) ?_
  refine g_if_neB (tgt := 21) (pc := 8) dX2_file_8 (by decide) (fun c8 => ?_) (fun c8 => ?_)
  rotate_left
  · exact absurd h1 c8
  refine g_iload_n (pc := 21) dX2_file_21 rfl rfl ?_
  refine g_tabIn (pc := 22) (tgt := 64) dX2_file_22 (by decide) (by decide) rfl (by decide) ?_
  refine g_aload_n (pc := 64) dX2_file_64 rfl rfl ?_
  refine g_getR (pc := 65) dX2_file_65 fl_X2_12 s_3 (by decide) rfl t_3_0 ?_
  refine g_getR (pc := 68) dX2_file_68 fl_X2_129 s_4 (by decide) rfl t_4_4 ?_
  refine g_iload_n (pc := 71) dX2_file_71 rfl rfl ?_
  refine g_ialoadN (pc := 72) dX2_file_72 s_9 (by decide) (by omega) (by decide) (hS.2.2.1 j hj).1 ?_
  refine g_iret (pc := 73) dX2_file_73 rfl rfl ?_
  exact ⟨_, ⟨rfl, rfl⟩, rfl⟩
theorem l_X2_file_1 (hS : Snap I 4 V C) (hW : WF V) {j : Nat} (hj : j < 8) (h1 : V (10 * j) = 1) : gX G YX2_file (d + 8) [.ref 3, .int (nI j), .int (nI 1)] n I L D (.inl (some (.int (nI (V (10 * j + 2)))))) (fun J => J = I) := by
  refine g_aload_n (pc := 0) dX2_file_0 rfl rfl ?_
  refine g_getR (pc := 1) dX2_file_1 fl_X2_12 s_3 (by decide) rfl t_3_0 ?_
  refine g_iload_n (pc := 4) dX2_file_4 rfl rfl ?_
  refine g_fV (av := [.int _]) (pc := 5) dX2_file_5 mt_X1_hasFile lk_X2_117 im_X1_hasFile se_X1_hasFile np_X1_hasFile s_4 (by decide) (by decide) rfl (gc_i gc_0) (Nat.le_of_ble_eq_true rfl) (Nat.le_of_ble_eq_true rfl) ⟨Nat.zero_le _, Nat.zero_le _⟩ (m_X1_hasFileN hS hW hj) ?_
  refine g_if_neB (tgt := 21) (pc := 8) dX2_file_8 (by decide) (fun c8 => ?_) (fun c8 => ?_)
  rotate_left
  · exact absurd h1 c8
  refine g_iload_n (pc := 21) dX2_file_21 rfl rfl ?_
  refine g_tabIn (pc := 22) (tgt := 74) dX2_file_22 (by decide) (by decide) rfl (by decide) ?_
  refine g_aload_n (pc := 74) dX2_file_74 rfl rfl ?_
  refine g_getR (pc := 75) dX2_file_75 fl_X2_12 s_3 (by decide) rfl t_3_0 ?_
  refine g_getR (pc := 78) dX2_file_78 fl_X2_132 s_4 (by decide) rfl t_4_6 ?_
  refine g_iload_n (pc := 81) dX2_file_81 rfl rfl ?_
  refine g_ialoadN (pc := 82) dX2_file_82 s_11 (by decide) (by omega) (by decide) (hS.2.2.1 j hj).2.2.1 ?_
  refine g_iret (pc := 83) dX2_file_83 rfl rfl ?_
  exact ⟨_, ⟨rfl, rfl⟩, rfl⟩
theorem l_X2_file_2 (hS : Snap I 4 V C) (hW : WF V) {j : Nat} (hj : j < 8) (h1 : V (10 * j) = 1) : gX G YX2_file (d + 8) [.ref 3, .int (nI j), .int (nI 2)] n I L D (.inl (some (.int (nI (V (10 * j + 3)))))) (fun J => J = I) := by
  refine g_aload_n (pc := 0) dX2_file_0 rfl rfl ?_
  refine g_getR (pc := 1) dX2_file_1 fl_X2_12 s_3 (by decide) rfl t_3_0 ?_
  refine g_iload_n (pc := 4) dX2_file_4 rfl rfl ?_
  refine g_fV (av := [.int _]) (pc := 5) dX2_file_5 mt_X1_hasFile lk_X2_117 im_X1_hasFile se_X1_hasFile np_X1_hasFile s_4 (by decide) (by decide) rfl (gc_i gc_0) (Nat.le_of_ble_eq_true rfl) (Nat.le_of_ble_eq_true rfl) ⟨Nat.zero_le _, Nat.zero_le _⟩ (m_X1_hasFileN hS hW hj) ?_
  refine g_if_neB (tgt := 21) (pc := 8) dX2_file_8 (by decide) (fun c8 => ?_) (fun c8 => ?_)
  rotate_left
  · exact absurd h1 c8
  refine g_iload_n (pc := 21) dX2_file_21 rfl rfl ?_
  refine g_tabIn (pc := 22) (tgt := 84) dX2_file_22 (by decide) (by decide) rfl (by decide) ?_
  refine g_aload_n (pc := 84) dX2_file_84 rfl rfl ?_
  refine g_getR (pc := 85) dX2_file_85 fl_X2_12 s_3 (by decide) rfl t_3_0 ?_
  refine g_getR (pc := 88) dX2_file_88 fl_X2_135 s_4 (by decide) rfl t_4_7 ?_
  refine g_iload_n (pc := 91) dX2_file_91 rfl rfl ?_
  refine g_ialoadN (pc := 92) dX2_file_92 s_12 (by decide) (by omega) (by decide) (hS.2.2.1 j hj).2.2.2.1 ?_
  refine g_iret (pc := 93) dX2_file_93 rfl rfl ?_
  exact ⟨_, ⟨rfl, rfl⟩, rfl⟩
theorem l_X2_file_3 (hS : Snap I 4 V C) (hW : WF V) {j : Nat} (hj : j < 8) (h1 : V (10 * j) = 1) : gX G YX2_file (d + 8) [.ref 3, .int (nI j), .int (nI 3)] n I L D (.inl (some (.int (nI (V (10 * j + 4)))))) (fun J => J = I) := by
  refine g_aload_n (pc := 0) dX2_file_0 rfl rfl ?_
  refine g_getR (pc := 1) dX2_file_1 fl_X2_12 s_3 (by decide) rfl t_3_0 ?_
  refine g_iload_n (pc := 4) dX2_file_4 rfl rfl ?_
  refine g_fV (av := [.int _]) (pc := 5) dX2_file_5 mt_X1_hasFile lk_X2_117 im_X1_hasFile se_X1_hasFile np_X1_hasFile s_4 (by decide) (by decide) rfl (gc_i gc_0) (Nat.le_of_ble_eq_true rfl) (Nat.le_of_ble_eq_true rfl) ⟨Nat.zero_le _, Nat.zero_le _⟩ (m_X1_hasFileN hS hW hj) ?_
  refine g_if_neB (tgt := 21) (pc := 8) dX2_file_8 (by decide) (fun c8 => ?_) (fun c8 => ?_)
  rotate_left
  · exact absurd h1 c8
  refine g_iload_n (pc := 21) dX2_file_21 rfl rfl ?_
  refine g_tabIn (pc := 22) (tgt := 94) dX2_file_22 (by decide) (by decide) rfl (by decide) ?_
  refine g_aload_n (pc := 94) dX2_file_94 rfl rfl ?_
  refine g_getR (pc := 95) dX2_file_95 fl_X2_12 s_3 (by decide) rfl t_3_0 ?_
  refine g_getR (pc := 98) dX2_file_98 fl_X2_138 s_4 (by decide) rfl t_4_8 ?_
  refine g_iload_n (pc := 101) dX2_file_101 rfl rfl ?_
  refine g_ialoadN (pc := 102) dX2_file_102 s_13 (by decide) (by omega) (by decide) (hS.2.2.1 j hj).2.2.2.2.1 ?_
  refine g_iret (pc := 103) dX2_file_103 rfl rfl ?_
  exact ⟨_, ⟨rfl, rfl⟩, rfl⟩
theorem l_X2_file_4 (hS : Snap I 4 V C) (hW : WF V) {j : Nat} (hj : j < 8) (h1 : V (10 * j) = 1) : gX G YX2_file (d + 8) [.ref 3, .int (nI j), .int (nI 4)] n I L D (.inl (some (.int (nI (bl V j))))) (fun J => J = I) := by
  refine g_aload_n (pc := 0) dX2_file_0 rfl rfl ?_
  refine g_getR (pc := 1) dX2_file_1 fl_X2_12 s_3 (by decide) rfl t_3_0 ?_
  refine g_iload_n (pc := 4) dX2_file_4 rfl rfl ?_
  refine g_fV (av := [.int _]) (pc := 5) dX2_file_5 mt_X1_hasFile lk_X2_117 im_X1_hasFile se_X1_hasFile np_X1_hasFile s_4 (by decide) (by decide) rfl (gc_i gc_0) (Nat.le_of_ble_eq_true rfl) (Nat.le_of_ble_eq_true rfl) ⟨Nat.zero_le _, Nat.zero_le _⟩ (m_X1_hasFileN hS hW hj) ?_
  refine g_if_neB (tgt := 21) (pc := 8) dX2_file_8 (by decide) (fun c8 => ?_) (fun c8 => ?_)
  rotate_left
  · exact absurd h1 c8
  refine g_iload_n (pc := 21) dX2_file_21 rfl rfl ?_
  refine g_tabIn (pc := 22) (tgt := 104) dX2_file_22 (by decide) (by decide) rfl (by decide) ?_
  refine g_aload_n (pc := 104) dX2_file_104 rfl rfl ?_
  refine g_getR (pc := 105) dX2_file_105 fl_X2_12 s_3 (by decide) rfl t_3_0 ?_
  refine g_getR (pc := 108) dX2_file_108 fl_X2_141 s_4 (by decide) rfl t_4_5 ?_
  refine g_iload_n (pc := 111) dX2_file_111 rfl rfl ?_
  refine g_ialoadN (pc := 112) dX2_file_112 s_10 (by decide) (by omega) (by decide) (hS.2.2.1 j hj).2.1 ?_
  refine g_iret (pc := 113) dX2_file_113 rfl rfl ?_
  exact ⟨_, ⟨rfl, rfl⟩, rfl⟩
theorem l_X2_file_5 (hS : Snap I 4 V C) (hW : WF V) {j : Nat} (hj : j < 8) (h1 : V (10 * j) = 1) : gX G YX2_file (d + 8) [.ref 3, .int (nI j), .int (nI 5)] n I L D (.inl (some (.int (nI (V (10 * j + 5)))))) (fun J => J = I) := by
  refine g_aload_n (pc := 0) dX2_file_0 rfl rfl ?_
  refine g_getR (pc := 1) dX2_file_1 fl_X2_12 s_3 (by decide) rfl t_3_0 ?_
  refine g_iload_n (pc := 4) dX2_file_4 rfl rfl ?_
  refine g_fV (av := [.int _]) (pc := 5) dX2_file_5 mt_X1_hasFile lk_X2_117 im_X1_hasFile se_X1_hasFile np_X1_hasFile s_4 (by decide) (by decide) rfl (gc_i gc_0) (Nat.le_of_ble_eq_true rfl) (Nat.le_of_ble_eq_true rfl) ⟨Nat.zero_le _, Nat.zero_le _⟩ (m_X1_hasFileN hS hW hj) ?_
  refine g_if_neB (tgt := 21) (pc := 8) dX2_file_8 (by decide) (fun c8 => ?_) (fun c8 => ?_)
  rotate_left
  · exact absurd h1 c8
  refine g_iload_n (pc := 21) dX2_file_21 rfl rfl ?_
  refine g_tabIn (pc := 22) (tgt := 114) dX2_file_22 (by decide) (by decide) rfl (by decide) ?_
  refine g_aload_n (pc := 114) dX2_file_114 rfl rfl ?_
  refine g_getR (pc := 115) dX2_file_115 fl_X2_12 s_3 (by decide) rfl t_3_0 ?_
  refine g_getR (pc := 118) dX2_file_118 fl_X2_144 s_4 (by decide) rfl t_4_9 ?_
  refine g_iload_n (pc := 121) dX2_file_121 rfl rfl ?_
  refine g_ialoadN (pc := 122) dX2_file_122 s_14 (by decide) (by omega) (by decide) (hS.2.2.1 j hj).2.2.2.2.2 ?_
  refine g_iret (pc := 123) dX2_file_123 rfl rfl ?_
  exact ⟨_, ⟨rfl, rfl⟩, rfl⟩
theorem l_X2_file_6 (hS : Snap I 4 V C) (hW : WF V) {j : Nat} (hj : j < 8) (h1 : V (10 * j) = 1) : gX G YX2_file (d + 8) [.ref 3, .int (nI j), .int (nI 6)] n I L D (.inl (some (.int (nI (ce V j))))) (fun J => J = I) := by
  refine g_aload_n (pc := 0) dX2_file_0 rfl rfl ?_
  refine g_getR (pc := 1) dX2_file_1 fl_X2_12 s_3 (by decide) rfl t_3_0 ?_
  refine g_iload_n (pc := 4) dX2_file_4 rfl rfl ?_
  refine g_fV (av := [.int _]) (pc := 5) dX2_file_5 mt_X1_hasFile lk_X2_117 im_X1_hasFile se_X1_hasFile np_X1_hasFile s_4 (by decide) (by decide) rfl (gc_i gc_0) (Nat.le_of_ble_eq_true rfl) (Nat.le_of_ble_eq_true rfl) ⟨Nat.zero_le _, Nat.zero_le _⟩ (m_X1_hasFileN hS hW hj) ?_
  refine g_if_neB (tgt := 21) (pc := 8) dX2_file_8 (by decide) (fun c8 => ?_) (fun c8 => ?_)
  rotate_left
  · exact absurd h1 c8
  refine g_iload_n (pc := 21) dX2_file_21 rfl rfl ?_
  refine g_tabIn (pc := 22) (tgt := 124) dX2_file_22 (by decide) (by decide) rfl (by decide) ?_
  refine g_aload_n (pc := 124) dX2_file_124 rfl rfl ?_
  refine g_getR (pc := 125) dX2_file_125 fl_X2_12 s_3 (by decide) rfl t_3_0 ?_
  refine g_iload_n (pc := 128) dX2_file_128 rfl rfl ?_
  refine g_fV (av := [.int _]) (pc := 129) dX2_file_129 mt_X1_areaSize lk_X2_147 im_X1_areaSize se_X1_areaSize np_X1_areaSize s_4 (by decide) (by decide) rfl (gc_i gc_0) (Nat.le_of_ble_eq_true rfl) (Nat.le_of_ble_eq_true rfl) ⟨Nat.zero_le _, Nat.zero_le _⟩ (m_X1_areaSize hS hW hj) ?_
  refine g_iret (pc := 132) dX2_file_132 rfl rfl ?_
  exact ⟨_, ⟨rfl, rfl⟩, rfl⟩
theorem m_X2_file_0 (hS : Snap I 4 V C) (hW : WF V) {j : Nat} (hj : j < 8) (h1 : V (10 * j) = 1) {w : Nat} (h : w ≤ 6) : gX G YX2_file (d + 8) [.ref 3, .int (nI j), .int (nI w)] n I L D (.inl (some (.int (nI (fiV V j w))))) (fun J => J = I) := by
  rcases (by omega : w = 0 ∨ w = 1 ∨ w = 2 ∨ w = 3 ∨ w = 4 ∨ w = 5 ∨ w = 6) with q | q | q | q | q | q | q <;> subst q
  · exact l_X2_file_0 hS hW hj h1
  · exact l_X2_file_1 hS hW hj h1
  · exact l_X2_file_2 hS hW hj h1
  · exact l_X2_file_3 hS hW hj h1
  · exact l_X2_file_4 hS hW hj h1
  · exact l_X2_file_5 hS hW hj h1
  · exact l_X2_file_6 hS hW hj h1
theorem m_X2_files (hS : Snap I 4 V C) (hW : WF V) : gX G YX2_files (d + 8) [.ref 3] n I L D (.inl (some (.int (fsI V 8)))) (fun J => J = I) := by
  refine g_iconst (v := nI 0) (pc := 0) dX2_files_0 rfl ?_
  refine g_istore_n (pc := 1) dX2_files_1 rfl (Nat.le_of_ble_eq_true rfl) rfl ?_
  refine g_iconst (v := nI 0) (pc := 2) dX2_files_2 rfl ?_
  refine g_istore_n (pc := 3) dX2_files_3 rfl (Nat.le_of_ble_eq_true rfl) rfl ?_
  refine g_loop 8 (fun k (_ : Unit) => True) (fun k _ => [some (.ref 3), some (.int (fsI V k)), some (.int (nI k))]) (fun _ => hp n I L D) (fun k _ hk _ kn => ?_) (fun _ _ => ?_) 0 () (Nat.zero_le _) trivial
  · have kn2 := kn () trivial
    refine g_iload_n (pc := 4) dX2_files_4 rfl rfl ?_
    refine g_bipush (v := nI 8) (pc := 5) dX2_files_5 rfl ?_
    refine g_icmp_geN (tgt := 33) (pc := 7) dX2_files_7 (by decide) (by omega) (by omega) (fun c7 => ?_) (fun c7 => ?_)
    · omega
    refine g_aload_n (pc := 10) dX2_files_10 rfl rfl ?_
    refine g_getR (pc := 11) dX2_files_11 fl_X2_12 s_3 (by decide) rfl t_3_0 ?_
    refine g_iload_n (pc := 14) dX2_files_14 rfl rfl ?_
    refine g_fV (av := [.int _]) (pc := 15) dX2_files_15 mt_X1_hasFile lk_X2_117 im_X1_hasFile se_X1_hasFile np_X1_hasFile s_4 (by decide) (by decide) rfl (gc_i gc_0) (Nat.le_of_ble_eq_true rfl) (Nat.le_of_ble_eq_true rfl) ⟨Nat.zero_le _, Nat.zero_le _⟩ (m_X1_hasFileN hS hW hk) ?_
    refine g_if_eqB (tgt := 27) (pc := 18) dX2_files_18 (by decide) (fun c18 => ?_) (fun c18 => ?_)
    · rw [fsI, if_neg c18] at kn2
      refine g_iincN (pc := 27) dX2_files_27 (Nat.le_of_ble_eq_true rfl) rfl rfl ?_
      refine g_goto (tgt := 4) (pc := 30) dX2_files_30 (by decide) ?_
      exact kn2
    · rw [fsI, if_pos c18] at kn2
      refine g_iload_n (pc := 21) dX2_files_21 rfl rfl ?_
      refine g_iconst (v := nI 1) (pc := 22) dX2_files_22 rfl ?_
      refine g_iload_n (pc := 23) dX2_files_23 rfl rfl ?_
      refine g_ishl (pc := 24) dX2_files_24 ?_
      refine g_ior (pc := 25) dX2_files_25 ?_
      refine g_istore_n (pc := 26) dX2_files_26 rfl (Nat.le_of_ble_eq_true rfl) rfl ?_
      refine g_iincN (pc := 27) dX2_files_27 (Nat.le_of_ble_eq_true rfl) rfl rfl ?_
      refine g_goto (tgt := 4) (pc := 30) dX2_files_30 (by decide) ?_
      exact kn2
  · skip
    refine g_iload_n (pc := 4) dX2_files_4 rfl rfl ?_
    refine g_bipush (v := nI 8) (pc := 5) dX2_files_5 rfl ?_
    refine g_icmp_geN (tgt := 33) (pc := 7) dX2_files_7 (by decide) (by omega) (by omega) (fun c7 => ?_) (fun c7 => ?_)
    · refine g_iload_n (pc := 33) dX2_files_33 rfl rfl ?_
      refine g_iret (pc := 34) dX2_files_34 rfl rfl ?_
      exact ⟨_, ⟨rfl, rfl⟩, rfl⟩
    · exact absurd (Nat.le_refl _) c7
theorem m_X2_report_1 {t : Nat} (hl : I 3 8 = nI t) (ht : t ≤ 40) {x y : Int32} (h : ¬ (nI 0 ≤ x ∧ x ≤ nI t - nI 1)) : gX G YX2_report (d + 8) [.ref 3, .int x, .int y] n I L D (.inr "java/lang/IndexOutOfBoundsException") (fun J => J = I) := by
  have hs : (nI t - nI 1).toInt = (t : Int) - 1 := pk_sub_toInt (by omega) (by decide)
  rw [Int32.le_iff_toInt_le, Int32.le_iff_toInt_le, hs] at h
  have e0 : (nI 0).toInt = 0 := rfl
  have e00 : (0 : Int32).toInt = 0 := rfl
  have et : (nI t).toInt = t := nI_toInt (by omega)
  refine g_iload_n (pc := 0) dX2_report_0 rfl rfl ?_
  refine g_if_lt (tgt := 12) (pc := 1) dX2_report_1 (by decide) (fun c1 => ?_) (fun c1 => ?_)
  · refine g_throw (pc := 12) th_X2_report_12 (Nat.le_of_ble_eq_true rfl) (Nat.le_of_ble_eq_true rfl) ?_
    exact ⟨_, ⟨rfl, rfl⟩, rfl⟩
  · refine g_iload_n (pc := 4) dX2_report_4 rfl rfl ?_
    refine g_aload_n (pc := 5) dX2_report_5 rfl rfl ?_
    refine g_getIV (pc := 6) dX2_report_6 fl_X2_45 s_3 (by decide) rfl hl ?_
    refine g_icmp_lt (tgt := 23) (pc := 9) dX2_report_9 (by decide) (fun c9 => ?_) (fun c9 => ?_)
    · rw [Int32.lt_iff_toInt_lt] at c1 c9
      exact absurd h (by omega)
    · refine g_throw (pc := 12) th_X2_report_12 (Nat.le_of_ble_eq_true rfl) (Nat.le_of_ble_eq_true rfl) ?_
      exact ⟨_, ⟨rfl, rfl⟩, rfl⟩
theorem m_X2_report_2 {t x : Nat} (hl : I 3 8 = nI t) (ht : t ≤ 40) (hx : x < t) {y : Int32} (h : ¬ (nI 0 ≤ y ∧ y ≤ nI 3)) : gX G YX2_report (d + 8) [.ref 3, .int (nI x), .int y] n I L D (.inr "java/lang/IllegalArgumentException") (fun J => J = I) := by
  rw [Int32.le_iff_toInt_le, Int32.le_iff_toInt_le] at h
  have e0 : (nI 0).toInt = 0 := rfl
  have e3 : (nI 3).toInt = 3 := rfl
  have e00 : (0 : Int32).toInt = 0 := rfl
  have e4 : (nI 4).toInt = 4 := rfl
  refine g_iload_n (pc := 0) dX2_report_0 rfl rfl ?_
  refine g_if_ltN (tgt := 12) (pc := 1) dX2_report_1 (by decide) (by omega) (fun c1 => ?_) (fun c1 => ?_)
  · omega
  · refine g_iload_n (pc := 4) dX2_report_4 rfl rfl ?_
    refine g_aload_n (pc := 5) dX2_report_5 rfl rfl ?_
    refine g_getIV (pc := 6) dX2_report_6 fl_X2_45 s_3 (by decide) rfl hl ?_
    refine g_icmp_ltN (tgt := 23) (pc := 9) dX2_report_9 (by decide) (by omega) (by omega) (fun c9 => ?_) (fun c9 => ?_)
    · refine g_iload_n (pc := 23) dX2_report_23 rfl rfl ?_
      refine g_if_lt (tgt := 32) (pc := 24) dX2_report_24 (by decide) (fun c24 => ?_) (fun c24 => ?_)
      · refine g_throw (pc := 32) th_X2_report_32 (Nat.le_of_ble_eq_true rfl) (Nat.le_of_ble_eq_true rfl) ?_
        exact ⟨_, ⟨rfl, rfl⟩, rfl⟩
      · refine g_iload_n (pc := 27) dX2_report_27 rfl rfl ?_
        refine g_iconst (v := nI 4) (pc := 28) dX2_report_28 rfl ?_
        refine g_icmp_lt (tgt := 43) (pc := 29) dX2_report_29 (by decide) (fun c29 => ?_) (fun c29 => ?_)
        · rw [Int32.lt_iff_toInt_lt] at c24 c29
          exact absurd h (by omega)
        · refine g_throw (pc := 32) th_X2_report_32 (Nat.le_of_ble_eq_true rfl) (Nat.le_of_ble_eq_true rfl) ?_
          exact ⟨_, ⟨rfl, rfl⟩, rfl⟩
    · omega
theorem m_X2_report_0 {t x y : Nat} (hl : I 3 8 = nI t) (ht : t ≤ 32) (hx : x < t) (hy : y < 4) : gX G YX2_report (d + 8) [.ref 3, .int (nI x), .int (nI y)] n I L D (.inl (some (.int (I 40 (4 * x + y))))) (fun J => J = I) := by
  have e : x * 4 + y = 4 * x + y := by omega
  refine g_iload_n (pc := 0) dX2_report_0 rfl rfl ?_
  refine g_if_ltN (tgt := 12) (pc := 1) dX2_report_1 (by decide) (by omega) (fun c1 => ?_) (fun c1 => ?_)
  · omega
  · refine g_iload_n (pc := 4) dX2_report_4 rfl rfl ?_
    refine g_aload_n (pc := 5) dX2_report_5 rfl rfl ?_
    refine g_getIV (pc := 6) dX2_report_6 fl_X2_45 s_3 (by decide) rfl hl ?_
    refine g_icmp_ltN (tgt := 23) (pc := 9) dX2_report_9 (by decide) (by omega) (by omega) (fun c9 => ?_) (fun c9 => ?_)
    · refine g_iload_n (pc := 23) dX2_report_23 rfl rfl ?_
      refine g_if_ltN (tgt := 32) (pc := 24) dX2_report_24 (by decide) (by omega) (fun c24 => ?_) (fun c24 => ?_)
      · omega
      · refine g_iload_n (pc := 27) dX2_report_27 rfl rfl ?_
        refine g_iconst (v := nI 4) (pc := 28) dX2_report_28 rfl ?_
        refine g_icmp_ltN (tgt := 43) (pc := 29) dX2_report_29 (by decide) (by omega) (by omega) (fun c29 => ?_) (fun c29 => ?_)
        · refine g_aload_n (pc := 43) dX2_report_43 rfl rfl ?_
          refine g_getR (pc := 44) dX2_report_44 fl_X2_34 s_3 (by decide) rfl t_3_5 ?_
          refine g_iload_n (pc := 47) dX2_report_47 rfl rfl ?_
          refine g_iconst (v := nI 4) (pc := 48) dX2_report_48 rfl ?_
          refine g_imulN (pc := 49) dX2_report_49 ?_
          refine g_iload_n (pc := 50) dX2_report_50 rfl rfl ?_
          refine g_iaddN (pc := 51) dX2_report_51 ?_
          refine g_ialoadN (pc := 52) dX2_report_52 s_40 (by decide) (by omega) (by decide) rfl ?_
          refine g_iret (pc := 53) dX2_report_53 rfl rfl ?_
          exact ⟨_, ⟨by rw [e], rfl⟩, rfl⟩
        · omega
    · omega
theorem l_X2_wrong (hS : Snap I 4 V C) (hW : WF V) {f : Int32} {a e : Nat} {P : Nat → Bool} (hae : a ≤ e) (he : e ≤ 240) (hP : ∀ c, c < 240 → P c = (decide (a ≤ c ∧ c < e) && isWr V c)) (hs : gFn G YX1_areaStart (d + 7) [.ref 4, .int f] (hp n I L D) (.inl (some (.int (nI a)))) (hp n I L D) 0 0) (hE : gFn G YX1_areaEnd (d + 7) [.ref 4, .int f] (hp n I L D) (.inl (some (.int (nI e)))) (hp n I L D) 0 0) : gGo G YX2_wrong (d + 8) 26 [some (.ref 3), some (.int f), none, none] [] (hp n I L D) 1 6 (fun o' g => ∃ J, (o' = .inl (some (.int (nI (cnt P 240)))) ∧ g = hp n J L D) ∧ J = I) := by
  have hz : cnt P a = 0 := cnt_z (fun i hi => by rw [hP i (by omega), decide_eq_false (by omega)]; rfl)
  have hee : cnt P 240 = cnt P e := by
    have := cnt_e (p := P) (e := e) (k := 240 - e) (fun i h1 h2 => by rw [hP i (by omega), decide_eq_false (by omega)]; rfl)
    rw [show e + (240 - e) = 240 by omega] at this
    exact this
  refine g_iconst (v := nI 0) (pc := 26) dX2_wrong_26 rfl ?_
  refine g_istore_n (pc := 27) dX2_wrong_27 rfl (Nat.le_of_ble_eq_true rfl) rfl ?_
  refine g_aload_n (pc := 28) dX2_wrong_28 rfl rfl ?_
  refine g_getR (pc := 29) dX2_wrong_29 fl_X2_12 s_3 (by decide) rfl t_3_0 ?_
  refine g_iload_n (pc := 32) dX2_wrong_32 rfl rfl ?_
  refine g_fV (av := [.int _]) (pc := 33) dX2_wrong_33 mt_X1_areaStart lk_X2_193 im_X1_areaStart se_X1_areaStart np_X1_areaStart s_4 (by decide) (by decide) rfl (gc_i gc_0) (Nat.le_of_ble_eq_true rfl) (Nat.le_of_ble_eq_true rfl) ⟨Nat.zero_le _, Nat.zero_le _⟩ hs ?_
  refine g_istore_n (pc := 36) dX2_wrong_36 rfl (Nat.le_of_ble_eq_true rfl) rfl ?_
  rw [show nI 0 = nI (cnt P a) by rw [hz]]
  refine g_loop e (fun k (_ : Unit) => a ≤ k) (fun k _ => [some (.ref 3), some (.int f), some (.int (nI (cnt P k))), some (.int (nI k))]) (fun _ => hp n I L D) (fun k _ hk hak kn => ?_) (fun _ _ => ?_) a () hae (Nat.le_refl _)
  · have hb := hW.2.2.2 k (by omega)
    have hm := cnt_le P k
    have hPk := hP k (by omega)
    rw [decide_eq_true ⟨hak, hk⟩, Bool.true_and] at hPk
    refine g_iload_n (pc := 37) dX2_wrong_37 rfl rfl ?_
    refine g_aload_n (pc := 38) dX2_wrong_38 rfl rfl ?_
    refine g_getR (pc := 39) dX2_wrong_39 fl_X2_12 s_3 (by decide) rfl t_3_0 ?_
    refine g_iload_n (pc := 42) dX2_wrong_42 rfl rfl ?_
    refine g_fV (av := [.int _]) (pc := 43) dX2_wrong_43 mt_X1_areaEnd lk_X2_196 im_X1_areaEnd se_X1_areaEnd np_X1_areaEnd s_4 (by decide) (by decide) rfl (gc_i gc_0) (Nat.le_of_ble_eq_true rfl) (Nat.le_of_ble_eq_true rfl) ⟨Nat.zero_le _, Nat.zero_le _⟩ hE ?_
    refine g_icmp_geN (tgt := 79) (pc := 46) dX2_wrong_46 (by decide) (by omega) (by omega) (fun c46 => ?_) (fun c46 => ?_)
    · omega
    refine g_aload_n (pc := 49) dX2_wrong_49 rfl rfl ?_
    refine g_getR (pc := 50) dX2_wrong_50 fl_X2_12 s_3 (by decide) rfl t_3_0 ?_
    refine g_getR (pc := 53) dX2_wrong_53 fl_X2_179 s_4 (by decide) rfl t_4_0 ?_
    refine g_iload_n (pc := 56) dX2_wrong_56 rfl rfl ?_
    refine g_ialoadN (pc := 57) dX2_wrong_57 s_5 (by decide) (by omega) (by decide) (hS.1 k (by omega)).1 ?_
    refine g_aload_n (pc := 58) dX2_wrong_58 rfl rfl ?_
    refine g_getR (pc := 59) dX2_wrong_59 fl_X2_12 s_3 (by decide) rfl t_3_0 ?_
    refine g_getR (pc := 62) dX2_wrong_62 fl_X2_199 s_4 (by decide) rfl t_4_1 ?_
    refine g_iload_n (pc := 65) dX2_wrong_65 rfl rfl ?_
    refine g_ialoadN (pc := 66) dX2_wrong_66 s_6 (by decide) (by omega) (by decide) (hS.1 k (by omega)).2.1 ?_
    refine g_icmp_eqN (tgt := 73) (pc := 67) dX2_wrong_67 (by decide) (by omega) (by omega) (fun c67 => ?_) (fun c67 => ?_)
    · have e1 : cnt P (k + 1) = cnt P k := cnt_f (p := P) (c := k) (by rw [hPk]; exact decide_eq_false (fun q => q c67))
      refine g_iincN (pc := 73) dX2_wrong_73 (Nat.le_of_ble_eq_true rfl) rfl rfl ?_
      refine g_goto (tgt := 37) (pc := 76) dX2_wrong_76 (by decide) ?_
      have kn2 := kn () (by omega)
      rw [e1] at kn2
      exact kn2
    · have e1 := cnt_t (p := P) (c := k) (by rw [hPk]; exact decide_eq_true c67)
      refine g_iincN (pc := 70) dX2_wrong_70 (Nat.le_of_ble_eq_true rfl) rfl rfl ?_
      refine g_iincN (pc := 73) dX2_wrong_73 (Nat.le_of_ble_eq_true rfl) rfl rfl ?_
      refine g_goto (tgt := 37) (pc := 76) dX2_wrong_76 (by decide) ?_
      have kn2 := kn () (by omega)
      rw [e1] at kn2
      exact kn2
  · have hm := cnt_le P e
    refine g_iload_n (pc := 37) dX2_wrong_37 rfl rfl ?_
    refine g_aload_n (pc := 38) dX2_wrong_38 rfl rfl ?_
    refine g_getR (pc := 39) dX2_wrong_39 fl_X2_12 s_3 (by decide) rfl t_3_0 ?_
    refine g_iload_n (pc := 42) dX2_wrong_42 rfl rfl ?_
    refine g_fV (av := [.int _]) (pc := 43) dX2_wrong_43 mt_X1_areaEnd lk_X2_196 im_X1_areaEnd se_X1_areaEnd np_X1_areaEnd s_4 (by decide) (by decide) rfl (gc_i gc_0) (Nat.le_of_ble_eq_true rfl) (Nat.le_of_ble_eq_true rfl) ⟨Nat.zero_le _, Nat.zero_le _⟩ hE ?_
    refine g_icmp_geN (tgt := 79) (pc := 46) dX2_wrong_46 (by decide) (by omega) (by omega) (fun c46 => ?_) (fun c46 => ?_)
    · refine g_iload_n (pc := 79) dX2_wrong_79 rfl rfl ?_
      refine g_iret (pc := 80) dX2_wrong_80 rfl rfl ?_
      exact ⟨_, ⟨by rw [hee], rfl⟩, rfl⟩
    · omega
theorem m_X2_wrong_1 (hS : Snap I 4 V C) (hW : WF V) {f : Int32} (h0 : ¬ f = -1) (hf : ¬ isFi V f) : gX G YX2_wrong (d + 8) [.ref 3, .int f] n I L D (.inr "java/lang/IndexOutOfBoundsException") (fun J => J = I) := by
  refine g_iload_n (pc := 0) dX2_wrong_0 rfl rfl ?_
  refine g_iconst (v := (-1)) (pc := 1) dX2_wrong_1 rfl ?_
  refine g_icmp_eq (tgt := 26) (pc := 2) dX2_wrong_2 (by decide) (fun c2 => ?_) (fun c2 => ?_)
  · exact absurd c2 h0
  · refine g_aload_n (pc := 5) dX2_wrong_5 rfl rfl ?_
    refine g_getR (pc := 6) dX2_wrong_6 fl_X2_12 s_3 (by decide) rfl t_3_0 ?_
    refine g_iload_n (pc := 9) dX2_wrong_9 rfl rfl ?_
    refine g_fV (av := [.int _]) (pc := 10) dX2_wrong_10 mt_X1_hasFile lk_X2_117 im_X1_hasFile se_X1_hasFile np_X1_hasFile s_4 (by decide) (by decide) rfl (gc_i gc_0) (Nat.le_of_ble_eq_true rfl) (Nat.le_of_ble_eq_true rfl) ⟨Nat.zero_le _, Nat.zero_le _⟩ (m_X1_hasFile hS hW) ?_
    refine g_if_neB (tgt := 26) (pc := 13) dX2_wrong_13 (by decide) (fun c13 => ?_) (fun c13 => ?_)
    · exact absurd c13 hf
    · refine g_throw (pc := 16) th_X2_wrong_16 (Nat.le_of_ble_eq_true rfl) (Nat.le_of_ble_eq_true rfl) ?_
      exact ⟨_, ⟨rfl, rfl⟩, rfl⟩
theorem m_X2_wrong_a (hS : Snap I 4 V C) (hW : WF V) : gX G YX2_wrong (d + 8) [.ref 3, .int (-1)] n I L D (.inl (some (.int (nI (cnt (isWr V) 240))))) (fun J => J = I) := by
  refine g_iload_n (pc := 0) dX2_wrong_0 rfl rfl ?_
  refine g_iconst (v := (-1)) (pc := 1) dX2_wrong_1 rfl ?_
  refine g_icmp_eq (tgt := 26) (pc := 2) dX2_wrong_2 (by decide) (fun c2 => ?_) (fun c2 => ?_)
  rotate_left
  · exact absurd rfl c2
  exact l_X2_wrong hS hW (Nat.zero_le _) (Nat.le_refl _) (fun c hc => by rw [decide_eq_true ⟨Nat.zero_le _, hc⟩, Bool.true_and]) m_X1_areaStart_a m_X1_areaEnd_a
theorem m_X2_wrong_0 (hS : Snap I 4 V C) (hW : WF V) {j : Nat} (hj : j < 8) (h1 : V (10 * j) = 1) : gX G YX2_wrong (d + 8) [.ref 3, .int (nI j)] n I L D (.inl (some (.int (nI (cnt (fun c => isOf V j c && isWr V c) 240))))) (fun J => J = I) := by
  have h54 := ((hW.1 j hj).2.2.2.2.2.2.2.2 h1).2.2.2
  have hne : ¬ nI j = -1 := fun e => by
    have e2 := congrArg Int32.toInt e
    rw [nI_toInt (by omega)] at e2
    have e3 : (-1 : Int32).toInt = -1 := rfl
    omega
  refine g_iload_n (pc := 0) dX2_wrong_0 rfl rfl ?_
  refine g_iconst (v := (-1)) (pc := 1) dX2_wrong_1 rfl ?_
  refine g_icmp_eq (tgt := 26) (pc := 2) dX2_wrong_2 (by decide) (fun c2 => ?_) (fun c2 => ?_)
  · exact absurd c2 hne
  refine g_aload_n (pc := 5) dX2_wrong_5 rfl rfl ?_
  refine g_getR (pc := 6) dX2_wrong_6 fl_X2_12 s_3 (by decide) rfl t_3_0 ?_
  refine g_iload_n (pc := 9) dX2_wrong_9 rfl rfl ?_
  refine g_fV (av := [.int _]) (pc := 10) dX2_wrong_10 mt_X1_hasFile lk_X2_117 im_X1_hasFile se_X1_hasFile np_X1_hasFile s_4 (by decide) (by decide) rfl (gc_i gc_0) (Nat.le_of_ble_eq_true rfl) (Nat.le_of_ble_eq_true rfl) ⟨Nat.zero_le _, Nat.zero_le _⟩ (m_X1_hasFileN hS hW hj) ?_
  refine g_if_neB (tgt := 26) (pc := 13) dX2_wrong_13 (by decide) (fun c13 => ?_) (fun c13 => ?_)
  rotate_left
  · exact absurd h1 c13
  exact l_X2_wrong hS hW (a := V (10 * j + 5)) (e := V (10 * j + 5) + ce V j) (by omega) h54 (fun c hc => by rw [isOf_ar hW hj h1]) (m_X1_areaStart hS hj) (m_X1_areaEnd hS hW hj)
theorem l_X2_erased (hS : Snap I 4 V C) (hW : WF V) {f : Int32} {a e : Nat} {P : Nat → Bool} (hae : a ≤ e) (he : e ≤ 240) (hP : ∀ c, c < 240 → P c = (decide (a ≤ c ∧ c < e) && isEr V c)) (hs : gFn G YX1_areaStart (d + 7) [.ref 4, .int f] (hp n I L D) (.inl (some (.int (nI a)))) (hp n I L D) 0 0) (hE : gFn G YX1_areaEnd (d + 7) [.ref 4, .int f] (hp n I L D) (.inl (some (.int (nI e)))) (hp n I L D) 0 0) : gGo G YX2_erased (d + 8) 26 [some (.ref 3), some (.int f), none, none] [] (hp n I L D) 1 6 (fun o' g => ∃ J, (o' = .inl (some (.int (nI (cnt P 240)))) ∧ g = hp n J L D) ∧ J = I) := by
  have hz : cnt P a = 0 := cnt_z (fun i hi => by rw [hP i (by omega), decide_eq_false (by omega)]; rfl)
  have hee : cnt P 240 = cnt P e := by
    have := cnt_e (p := P) (e := e) (k := 240 - e) (fun i h1 h2 => by rw [hP i (by omega), decide_eq_false (by omega)]; rfl)
    rw [show e + (240 - e) = 240 by omega] at this
    exact this
  refine g_iconst (v := nI 0) (pc := 26) dX2_erased_26 rfl ?_
  refine g_istore_n (pc := 27) dX2_erased_27 rfl (Nat.le_of_ble_eq_true rfl) rfl ?_
  refine g_aload_n (pc := 28) dX2_erased_28 rfl rfl ?_
  refine g_getR (pc := 29) dX2_erased_29 fl_X2_12 s_3 (by decide) rfl t_3_0 ?_
  refine g_iload_n (pc := 32) dX2_erased_32 rfl rfl ?_
  refine g_fV (av := [.int _]) (pc := 33) dX2_erased_33 mt_X1_areaStart lk_X2_193 im_X1_areaStart se_X1_areaStart np_X1_areaStart s_4 (by decide) (by decide) rfl (gc_i gc_0) (Nat.le_of_ble_eq_true rfl) (Nat.le_of_ble_eq_true rfl) ⟨Nat.zero_le _, Nat.zero_le _⟩ hs ?_
  refine g_istore_n (pc := 36) dX2_erased_36 rfl (Nat.le_of_ble_eq_true rfl) rfl ?_
  rw [show nI 0 = nI (cnt P a) by rw [hz]]
  refine g_loop e (fun k (_ : Unit) => a ≤ k) (fun k _ => [some (.ref 3), some (.int f), some (.int (nI (cnt P k))), some (.int (nI k))]) (fun _ => hp n I L D) (fun k _ hk hak kn => ?_) (fun _ _ => ?_) a () hae (Nat.le_refl _)
  · have hb := hW.2.2.2 k (by omega)
    have hm := cnt_le P k
    have hPk := hP k (by omega)
    rw [decide_eq_true ⟨hak, hk⟩, Bool.true_and] at hPk
    refine g_iload_n (pc := 37) dX2_erased_37 rfl rfl ?_
    refine g_aload_n (pc := 38) dX2_erased_38 rfl rfl ?_
    refine g_getR (pc := 39) dX2_erased_39 fl_X2_12 s_3 (by decide) rfl t_3_0 ?_
    refine g_iload_n (pc := 42) dX2_erased_42 rfl rfl ?_
    refine g_fV (av := [.int _]) (pc := 43) dX2_erased_43 mt_X1_areaEnd lk_X2_196 im_X1_areaEnd se_X1_areaEnd np_X1_areaEnd s_4 (by decide) (by decide) rfl (gc_i gc_0) (Nat.le_of_ble_eq_true rfl) (Nat.le_of_ble_eq_true rfl) ⟨Nat.zero_le _, Nat.zero_le _⟩ hE ?_
    refine g_icmp_geN (tgt := 67) (pc := 46) dX2_erased_46 (by decide) (by omega) (by omega) (fun c46 => ?_) (fun c46 => ?_)
    · omega
    refine g_iload_n (pc := 49) dX2_erased_49 rfl rfl ?_
    refine g_aload_n (pc := 50) dX2_erased_50 rfl rfl ?_
    refine g_getR (pc := 51) dX2_erased_51 fl_X2_12 s_3 (by decide) rfl t_3_0 ?_
    refine g_getR (pc := 54) dX2_erased_54 fl_X2_182 s_4 (by decide) rfl t_4_2 ?_
    refine g_iload_n (pc := 57) dX2_erased_57 rfl rfl ?_
    refine g_ialoadN (pc := 58) dX2_erased_58 s_7 (by decide) (by omega) (by decide) (hS.1 k (by omega)).2.2 ?_
    refine g_iaddN (pc := 59) dX2_erased_59 ?_
    refine g_istore_n (pc := 60) dX2_erased_60 rfl (Nat.le_of_ble_eq_true rfl) rfl ?_
    refine g_iincN (pc := 61) dX2_erased_61 (Nat.le_of_ble_eq_true rfl) rfl rfl ?_
    refine g_goto (tgt := 37) (pc := 64) dX2_erased_64 (by decide) ?_
    have e1 : cnt P (k + 1) = cnt P k + V (320 + k) := by
      rcases (by omega : V (320 + k) = 0 ∨ V (320 + k) = 1) with q | q
      · rw [q]; exact cnt_f (p := P) (c := k) (by rw [hPk]; exact decide_eq_false (by omega))
      · rw [q]; exact cnt_t (p := P) (c := k) (by rw [hPk]; exact decide_eq_true q)
    have kn2 := kn () (by omega)
    rw [e1] at kn2
    exact kn2
  · have hm := cnt_le P e
    refine g_iload_n (pc := 37) dX2_erased_37 rfl rfl ?_
    refine g_aload_n (pc := 38) dX2_erased_38 rfl rfl ?_
    refine g_getR (pc := 39) dX2_erased_39 fl_X2_12 s_3 (by decide) rfl t_3_0 ?_
    refine g_iload_n (pc := 42) dX2_erased_42 rfl rfl ?_
    refine g_fV (av := [.int _]) (pc := 43) dX2_erased_43 mt_X1_areaEnd lk_X2_196 im_X1_areaEnd se_X1_areaEnd np_X1_areaEnd s_4 (by decide) (by decide) rfl (gc_i gc_0) (Nat.le_of_ble_eq_true rfl) (Nat.le_of_ble_eq_true rfl) ⟨Nat.zero_le _, Nat.zero_le _⟩ hE ?_
    refine g_icmp_geN (tgt := 67) (pc := 46) dX2_erased_46 (by decide) (by omega) (by omega) (fun c46 => ?_) (fun c46 => ?_)
    · refine g_iload_n (pc := 67) dX2_erased_67 rfl rfl ?_
      refine g_iret (pc := 68) dX2_erased_68 rfl rfl ?_
      exact ⟨_, ⟨by rw [hee], rfl⟩, rfl⟩
    · omega
theorem m_X2_erased_1 (hS : Snap I 4 V C) (hW : WF V) {f : Int32} (h0 : ¬ f = -1) (hf : ¬ isFi V f) : gX G YX2_erased (d + 8) [.ref 3, .int f] n I L D (.inr "java/lang/IndexOutOfBoundsException") (fun J => J = I) := by
  refine g_iload_n (pc := 0) dX2_erased_0 rfl rfl ?_
  refine g_iconst (v := (-1)) (pc := 1) dX2_erased_1 rfl ?_
  refine g_icmp_eq (tgt := 26) (pc := 2) dX2_erased_2 (by decide) (fun c2 => ?_) (fun c2 => ?_)
  · exact absurd c2 h0
  · refine g_aload_n (pc := 5) dX2_erased_5 rfl rfl ?_
    refine g_getR (pc := 6) dX2_erased_6 fl_X2_12 s_3 (by decide) rfl t_3_0 ?_
    refine g_iload_n (pc := 9) dX2_erased_9 rfl rfl ?_
    refine g_fV (av := [.int _]) (pc := 10) dX2_erased_10 mt_X1_hasFile lk_X2_117 im_X1_hasFile se_X1_hasFile np_X1_hasFile s_4 (by decide) (by decide) rfl (gc_i gc_0) (Nat.le_of_ble_eq_true rfl) (Nat.le_of_ble_eq_true rfl) ⟨Nat.zero_le _, Nat.zero_le _⟩ (m_X1_hasFile hS hW) ?_
    refine g_if_neB (tgt := 26) (pc := 13) dX2_erased_13 (by decide) (fun c13 => ?_) (fun c13 => ?_)
    · exact absurd c13 hf
    · refine g_throw (pc := 16) th_X2_erased_16 (Nat.le_of_ble_eq_true rfl) (Nat.le_of_ble_eq_true rfl) ?_
      exact ⟨_, ⟨rfl, rfl⟩, rfl⟩
theorem m_X2_erased_a (hS : Snap I 4 V C) (hW : WF V) : gX G YX2_erased (d + 8) [.ref 3, .int (-1)] n I L D (.inl (some (.int (nI (cnt (isEr V) 240))))) (fun J => J = I) := by
  refine g_iload_n (pc := 0) dX2_erased_0 rfl rfl ?_
  refine g_iconst (v := (-1)) (pc := 1) dX2_erased_1 rfl ?_
  refine g_icmp_eq (tgt := 26) (pc := 2) dX2_erased_2 (by decide) (fun c2 => ?_) (fun c2 => ?_)
  rotate_left
  · exact absurd rfl c2
  exact l_X2_erased hS hW (Nat.zero_le _) (Nat.le_refl _) (fun c hc => by rw [decide_eq_true ⟨Nat.zero_le _, hc⟩, Bool.true_and]) m_X1_areaStart_a m_X1_areaEnd_a
theorem m_X2_erased_0 (hS : Snap I 4 V C) (hW : WF V) {j : Nat} (hj : j < 8) (h1 : V (10 * j) = 1) : gX G YX2_erased (d + 8) [.ref 3, .int (nI j)] n I L D (.inl (some (.int (nI (cnt (fun c => isOf V j c && isEr V c) 240))))) (fun J => J = I) := by
  have h54 := ((hW.1 j hj).2.2.2.2.2.2.2.2 h1).2.2.2
  have hne : ¬ nI j = -1 := fun e => by
    have e2 := congrArg Int32.toInt e
    rw [nI_toInt (by omega)] at e2
    have e3 : (-1 : Int32).toInt = -1 := rfl
    omega
  refine g_iload_n (pc := 0) dX2_erased_0 rfl rfl ?_
  refine g_iconst (v := (-1)) (pc := 1) dX2_erased_1 rfl ?_
  refine g_icmp_eq (tgt := 26) (pc := 2) dX2_erased_2 (by decide) (fun c2 => ?_) (fun c2 => ?_)
  · exact absurd c2 hne
  refine g_aload_n (pc := 5) dX2_erased_5 rfl rfl ?_
  refine g_getR (pc := 6) dX2_erased_6 fl_X2_12 s_3 (by decide) rfl t_3_0 ?_
  refine g_iload_n (pc := 9) dX2_erased_9 rfl rfl ?_
  refine g_fV (av := [.int _]) (pc := 10) dX2_erased_10 mt_X1_hasFile lk_X2_117 im_X1_hasFile se_X1_hasFile np_X1_hasFile s_4 (by decide) (by decide) rfl (gc_i gc_0) (Nat.le_of_ble_eq_true rfl) (Nat.le_of_ble_eq_true rfl) ⟨Nat.zero_le _, Nat.zero_le _⟩ (m_X1_hasFileN hS hW hj) ?_
  refine g_if_neB (tgt := 26) (pc := 13) dX2_erased_13 (by decide) (fun c13 => ?_) (fun c13 => ?_)
  rotate_left
  · exact absurd h1 c13
  exact l_X2_erased hS hW (a := V (10 * j + 5)) (e := V (10 * j + 5) + ce V j) (by omega) h54 (fun c hc => by rw [isOf_ar hW hj h1]) (m_X1_areaStart hS hj) (m_X1_areaEnd hS hW hj)
theorem l_X2_health (hS : Snap I 4 V C) (hW : WF V) {Q : gQ} (kx : gGo G YX2_health (d + 8) 69 [some (.ref 3), some (.int (nI (cnt (isOw V) 240))), some (.int (nI (cnt (isGd V) 240))), some (.int (nI 240))] [] (hp n I L D) 1 6 Q) : gGo G YX2_health (d + 8) 0 (gIn 4 [.ref 3]) [] (hp n I L D) 1 6 Q := by
  refine g_iconst (v := nI 0) (pc := 0) dX2_health_0 rfl ?_
  refine g_istore_n (pc := 1) dX2_health_1 rfl (Nat.le_of_ble_eq_true rfl) rfl ?_
  refine g_iconst (v := nI 0) (pc := 2) dX2_health_2 rfl ?_
  refine g_istore_n (pc := 3) dX2_health_3 rfl (Nat.le_of_ble_eq_true rfl) rfl ?_
  refine g_iconst (v := nI 0) (pc := 4) dX2_health_4 rfl ?_
  refine g_istore_n (pc := 5) dX2_health_5 rfl (Nat.le_of_ble_eq_true rfl) rfl ?_
  refine g_loop 240 (fun k (_ : Unit) => True) (fun k _ => [some (.ref 3), some (.int (nI (cnt (isOw V) k))), some (.int (nI (cnt (isGd V) k))), some (.int (nI k))]) (fun _ => hp n I L D) (fun k _ hk _ kn => ?_) (fun _ _ => ?_) 0 () (Nat.zero_le _) trivial
  · have hb := hW.2.2.2 k hk
    refine g_iload_n (pc := 6) dX2_health_6 rfl rfl ?_
    refine g_sipush (v := nI 240) (pc := 7) dX2_health_7 rfl ?_
    refine g_icmp_geN (tgt := 69) (pc := 10) dX2_health_10 (by decide) (by omega) (by omega) (fun c10 => ?_) (fun c10 => ?_)
    · omega
    refine g_aload_n (pc := 13) dX2_health_13 rfl rfl ?_
    refine g_getR (pc := 14) dX2_health_14 fl_X2_12 s_3 (by decide) rfl t_3_0 ?_
    refine g_iload_n (pc := 17) dX2_health_17 rfl rfl ?_
    refine g_fV (av := [.int _]) (pc := 18) dX2_health_18 mt_X1_fileAt lk_X2_167 im_X1_fileAt se_X1_fileAt np_X1_fileAt s_4 (by decide) (by decide) rfl (gc_i gc_0) (Nat.le_of_ble_eq_true rfl) (Nat.le_of_ble_eq_true rfl) ⟨Nat.zero_le _, Nat.zero_le _⟩ (m_X1_fileAt hS hW hk) ?_
    refine g_if_lt (tgt := 63) (pc := 21) dX2_health_21 (by decide) (fun c21 => ?_) (fun c21 => ?_)
    · have eo : isOw V k = false := decide_eq_false (fun q => q (ownI_lt.mp c21))
      have e1 : cnt (isOw V) (k + 1) = cnt (isOw V) k := cnt_f (p := isOw V) eo
      have e2 : cnt (isGd V) (k + 1) = cnt (isGd V) k := cnt_f (p := isGd V) (c := k) (by unfold isGd; rw [eo]; rfl)
      refine g_iincN (pc := 63) dX2_health_63 (Nat.le_of_ble_eq_true rfl) rfl rfl ?_
      refine g_goto (tgt := 6) (pc := 66) dX2_health_66 (by decide) ?_
      have kn2 := kn () trivial
      rw [e1, e2] at kn2
      exact kn2
    · have eo : isOw V k = true := decide_eq_true (fun q => c21 (ownI_lt.mpr q))
      have e1 := cnt_t (p := isOw V) eo
      refine g_iincN (pc := 24) dX2_health_24 (Nat.le_of_ble_eq_true rfl) rfl rfl ?_
      refine g_aload_n (pc := 27) dX2_health_27 rfl rfl ?_
      refine g_getR (pc := 28) dX2_health_28 fl_X2_12 s_3 (by decide) rfl t_3_0 ?_
      refine g_getR (pc := 31) dX2_health_31 fl_X2_179 s_4 (by decide) rfl t_4_0 ?_
      refine g_iload_n (pc := 34) dX2_health_34 rfl rfl ?_
      refine g_ialoadN (pc := 35) dX2_health_35 s_5 (by decide) (by omega) (by decide) (hS.1 k hk).1 ?_
      refine g_aload_n (pc := 36) dX2_health_36 rfl rfl ?_
      refine g_getR (pc := 37) dX2_health_37 fl_X2_12 s_3 (by decide) rfl t_3_0 ?_
      refine g_getR (pc := 40) dX2_health_40 fl_X2_199 s_4 (by decide) rfl t_4_1 ?_
      refine g_iload_n (pc := 43) dX2_health_43 rfl rfl ?_
      refine g_ialoadN (pc := 44) dX2_health_44 s_6 (by decide) (by omega) (by decide) (hS.1 k hk).2.1 ?_
      refine g_icmp_neN (tgt := 63) (pc := 45) dX2_health_45 (by decide) (by omega) (by omega) (fun c45 => ?_) (fun c45 => ?_)
      · have e2 : cnt (isGd V) (k + 1) = cnt (isGd V) k := cnt_f (p := isGd V) (c := k) (by unfold isGd; rw [show isWr V k = true from decide_eq_true c45, eo]; rfl)
        refine g_iincN (pc := 63) dX2_health_63 (Nat.le_of_ble_eq_true rfl) rfl rfl ?_
        refine g_goto (tgt := 6) (pc := 66) dX2_health_66 (by decide) ?_
        have kn2 := kn () trivial
        rw [e1, e2] at kn2
        exact kn2
      · have ew : isWr V k = false := decide_eq_false (fun q => q c45)
        refine g_aload_n (pc := 48) dX2_health_48 rfl rfl ?_
        refine g_getR (pc := 49) dX2_health_49 fl_X2_12 s_3 (by decide) rfl t_3_0 ?_
        refine g_getR (pc := 52) dX2_health_52 fl_X2_182 s_4 (by decide) rfl t_4_2 ?_
        refine g_iload_n (pc := 55) dX2_health_55 rfl rfl ?_
        refine g_ialoadN (pc := 56) dX2_health_56 s_7 (by decide) (by omega) (by decide) (hS.1 k hk).2.2 ?_
        refine g_if_neN (tgt := 63) (pc := 57) dX2_health_57 (by decide) (by omega) (fun c57 => ?_) (fun c57 => ?_)
        · have e2 : cnt (isGd V) (k + 1) = cnt (isGd V) k := cnt_f (p := isGd V) (c := k) (by unfold isGd; rw [ew, eo, show isEr V k = true from decide_eq_true (by omega)]; rfl)
          refine g_iincN (pc := 63) dX2_health_63 (Nat.le_of_ble_eq_true rfl) rfl rfl ?_
          refine g_goto (tgt := 6) (pc := 66) dX2_health_66 (by decide) ?_
          have kn2 := kn () trivial
          rw [e1, e2] at kn2
          exact kn2
        · have e2 := cnt_t (p := isGd V) (c := k) (by unfold isGd; rw [ew, eo, show isEr V k = false from decide_eq_false (by omega)]; rfl)
          refine g_iincN (pc := 60) dX2_health_60 (Nat.le_of_ble_eq_true rfl) rfl rfl ?_
          refine g_iincN (pc := 63) dX2_health_63 (Nat.le_of_ble_eq_true rfl) rfl rfl ?_
          refine g_goto (tgt := 6) (pc := 66) dX2_health_66 (by decide) ?_
          have kn2 := kn () trivial
          rw [e1, e2] at kn2
          exact kn2
  · skip
    refine g_iload_n (pc := 6) dX2_health_6 rfl rfl ?_
    refine g_sipush (v := nI 240) (pc := 7) dX2_health_7 rfl ?_
    refine g_icmp_geN (tgt := 69) (pc := 10) dX2_health_10 (by decide) (by omega) (by omega) (fun c10 => ?_) (fun c10 => ?_)
    rotate_left
    · exact absurd (Nat.le_refl _) c10
    exact kx
theorem m_X2_health_1 (hS : Snap I 4 V C) (hW : WF V) (h0 : cnt (isOw V) 240 = 0) : gX G YX2_health (d + 8) [.ref 3] n I L D (.inr "java/lang/ArithmeticException") (fun J => J = I) := by
  refine l_X2_health hS hW ?_
  refine g_iload_n (pc := 69) dX2_health_69 rfl rfl ?_
  refine g_if_neN (tgt := 84) (pc := 70) dX2_health_70 (by decide) (by omega) (fun c70 => ?_) (fun c70 => ?_)
  · exact absurd h0 c70
  · refine g_throw (pc := 73) th_X2_health_73 (Nat.le_of_ble_eq_true rfl) (Nat.le_of_ble_eq_true rfl) ?_
    exact ⟨_, ⟨rfl, rfl⟩, rfl⟩
theorem m_X2_health_0 (hS : Snap I 4 V C) (hW : WF V) (h0 : ¬ cnt (isOw V) 240 = 0) : gX G YX2_health (d + 8) [.ref 3] n I L D (.inl (some (.double (FP.ddiv (FP.i2d (nI (cnt (isGd V) 240))) (FP.i2d (nI (cnt (isOw V) 240))))))) (fun J => J = I) := by
  have hm1 := cnt_le (isOw V) 240
  have hnz := nI_ne0 (n := cnt (isOw V) 240) (by omega) (by omega)
  refine l_X2_health hS hW ?_
  refine g_iload_n (pc := 69) dX2_health_69 rfl rfl ?_
  refine g_if_neN (tgt := 84) (pc := 70) dX2_health_70 (by decide) (by omega) (fun c70 => ?_) (fun c70 => ?_)
  · refine g_iload_n (pc := 84) dX2_health_84 rfl rfl ?_
    refine g_i2d (pc := 85) dX2_health_85 ?_
    refine g_iload_n (pc := 86) dX2_health_86 rfl rfl ?_
    refine g_i2d (pc := 87) dX2_health_87 ?_
    refine g_ddiv (pc := 88) dX2_health_88 (vf_ddiv hnz) ?_
    refine g_dret (pc := 89) dX2_health_89 rfl ?_
    exact ⟨_, ⟨rfl, rfl⟩, rfl⟩
  · exact absurd c70 h0
end

