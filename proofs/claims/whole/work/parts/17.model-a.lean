/-! ===== the reference's small methods, over naturals ===== -/
theorem m_X3_isIn {G : gG} {d : Nat} {h : gH} {x lo hi : Int32} : gFn G YX3_isIn d [.int x, .int lo, .int hi] h (.inl (some (.int (bI (lo ≤ x ∧ x ≤ hi))))) h 0 0 := by
  refine g_iload_n (pc := 0) dX3_isIn_0 rfl rfl ?_
  refine g_iload_n (pc := 1) dX3_isIn_1 rfl rfl ?_
  refine g_icmp_lt (tgt := 14) (pc := 2) dX3_isIn_2 (by decide) (fun c2 => ?_) (fun c2 => ?_)
  · have cc : ¬ (lo ≤ x ∧ x ≤ hi) := by
     rw [Int32.lt_iff_toInt_lt] at c2
     rw [Int32.le_iff_toInt_le, Int32.le_iff_toInt_le]
     omega
    rw [bI_f cc]
    refine g_iconst (v := nI 0) (pc := 14) dX3_isIn_14 rfl ?_
    refine g_iret (pc := 15) dX3_isIn_15 rfl rfl ?_
    first | exact ⟨rfl, rfl⟩ | exact ⟨by rw [bI_t (by first | assumption | omega)], rfl⟩ | exact ⟨by rw [bI_f (by first | assumption | omega)], rfl⟩
  · refine g_iload_n (pc := 5) dX3_isIn_5 rfl rfl ?_
    refine g_iload_n (pc := 6) dX3_isIn_6 rfl rfl ?_
    refine g_icmp_gt (tgt := 14) (pc := 7) dX3_isIn_7 (by decide) (fun c7 => ?_) (fun c7 => ?_)
    · have cc : ¬ (lo ≤ x ∧ x ≤ hi) := by
       rw [Int32.lt_iff_toInt_lt] at c2 c7
       rw [Int32.le_iff_toInt_le, Int32.le_iff_toInt_le]
       omega
      rw [bI_f cc]
      refine g_iconst (v := nI 0) (pc := 14) dX3_isIn_14 rfl ?_
      refine g_iret (pc := 15) dX3_isIn_15 rfl rfl ?_
      first | exact ⟨rfl, rfl⟩ | exact ⟨by rw [bI_t (by first | assumption | omega)], rfl⟩ | exact ⟨by rw [bI_f (by first | assumption | omega)], rfl⟩
    · have cc : lo ≤ x ∧ x ≤ hi := by
       rw [Int32.lt_iff_toInt_lt] at c2 c7
       rw [Int32.le_iff_toInt_le, Int32.le_iff_toInt_le]
       omega
      rw [bI_t cc]
      refine g_iconst (v := nI 1) (pc := 10) dX3_isIn_10 rfl ?_
      refine g_goto (tgt := 15) (pc := 11) dX3_isIn_11 (by decide) ?_
      refine g_iret (pc := 15) dX3_isIn_15 rfl rfl ?_
      first | exact ⟨rfl, rfl⟩ | exact ⟨by rw [bI_t (by first | assumption | omega)], rfl⟩ | exact ⟨by rw [bI_f (by first | assumption | omega)], rfl⟩
/-- the reference's row v as naturals (all but the counts) -/
def Vok (I : Nat → Nat → Int32) (V : Nat → Nat) : Prop := ∀ k, k < 801 → I 115 k = nI (V k)
/-- files: there or not; what they have, in its ranges; areas apart -/
def bl (V : Nat → Nat) (j : Nat) : Nat := (V (10 * j + 1) + 7) / 8
def sz (V : Nat → Nat) (j : Nat) : Nat := V (10 * j + 2) + 8
def ce (V : Nat → Nat) (j : Nat) : Nat := bl V j * sz V j
def WFj (V : Nat → Nat) (j : Nat) : Prop := V (10 * j) ≤ 1 ∧ V (10 * j + 1) ≤ 32 ∧ V (10 * j + 2) ≤ 6 ∧ V (10 * j + 3) ≤ 4 ∧ V (10 * j + 4) ≤ 250 ∧ V (10 * j + 5) ≤ 240 ∧ (∀ b, b < 4 → V (10 * j + 6 + b) ≤ V 800) ∧
  (V (10 * j) = 0 → ∀ k, k < 10 → V (10 * j + k) = 0) ∧ (V (10 * j) = 1 → 1 ≤ V (10 * j + 1) ∧ 1 ≤ V (10 * j + 2) ∧ 1 ≤ V (10 * j + 3) ∧ V (10 * j + 5) + ce V j ≤ 240)
def WF (V : Nat → Nat) : Prop := (∀ j, j < 8 → WFj V j) ∧ (∀ i j, i < 8 → j < 8 → i ≠ j → V (10 * i) = 1 → V (10 * j) = 1 → V (10 * i + 5) + ce V i ≤ V (10 * j + 5) ∨ V (10 * j + 5) + ce V j ≤ V (10 * i + 5)) ∧
  V 800 ≤ 10000 ∧ ∀ c, c < 240 → V (80 + c) ≤ 15 ∧ V (320 + c) ≤ 1 ∧ V (560 + c) ≤ 15
abbrev isFi (V : Nat → Nat) (f : Int32) : Prop := (0 ≤ f ∧ f ≤ 7) ∧ V (10 * f.toNatClampNeg) = 1
theorem isFi_n {V : Nat → Nat} {j : Nat} (hj : j < 8) : isFi V (nI j) ↔ V (10 * j) = 1 := by
  unfold isFi
  rw [nI_clamp (by omega)]
  have h1 : (0 : Int32) ≤ nI j := nI_pos' (by omega)
  have h2 : nI j ≤ 7 := (nI_leI (a := j) (b := 7) (by omega) (by decide)).mpr (by omega)
  simp [h1, h2]
theorem bl_le {V : Nat → Nat} {j : Nat} (h : WFj V j) : bl V j ≤ 4 := by
  unfold bl
  have := h.2.1
  omega
theorem sz_le {V : Nat → Nat} {j : Nat} (h : WFj V j) : sz V j ≤ 14 ∧ 8 ≤ sz V j := by
  unfold sz
  have := h.2.2.1
  omega
theorem ce_le {V : Nat → Nat} {j : Nat} (h : WFj V j) : ce V j ≤ 56 := by
  unfold ce
  exact Nat.le_trans (Nat.mul_le_mul (bl_le h) (sz_le h).1) (by decide)
theorem nI_7 {f : Int32} (h : (0 : Int32) ≤ f ∧ f ≤ 7) : ∃ j, j < 8 ∧ f = nI j := by
  obtain ⟨j, hj, e⟩ := nI_of2 (x := f) (M := 7) (n := 7) rfl (by rw [Int32.lt_iff_toInt_lt]; have := h.1; rw [Int32.le_iff_toInt_le] at this; omega) h.2
  exact ⟨j, by omega, e⟩
section
variable {G : gG} {d n : Nat} {I : Nat → Nat → Int32} {L : Nat → Nat → Int64} {D : Nat → Nat → UInt64} {V : Nat → Nat}
theorem m_X3_thrown : gFn G YX3_thrown d [.ref 114] (hp n I L D) (.inl (some (.int (I 114 0)))) (hp n I L D) 0 0 := by
  refine g_aload_n (pc := 0) dX3_thrown_0 rfl rfl ?_
  refine g_getI (pc := 1) dX3_thrown_1 fl_X3_67 s_114 (by decide) rfl ?_
  refine g_iret (pc := 4) dX3_thrown_4 rfl rfl ?_
  first | exact ⟨rfl, rfl⟩ | exact ⟨by rw [bI_t (by first | assumption | omega)], rfl⟩ | exact ⟨by rw [bI_f (by first | assumption | omega)], rfl⟩
theorem m_X3_no {x : Int32} : gFn G YX3_no d [.ref 114, .int x] (hp n I L D) (.inl (some (.int (nI 0)))) (hp n (gUp I 114 0 x) L D) 0 0 := by
  refine g_aload_n (pc := 0) dX3_no_0 rfl rfl ?_
  refine g_iload_n (pc := 1) dX3_no_1 rfl rfl ?_
  refine g_putI (pc := 2) dX3_no_2 fl_X3_67 s_114 (by decide) rfl rfl rfl rfl ?_
  refine g_iconst (v := nI 0) (pc := 5) dX3_no_5 rfl ?_
  refine g_iret (pc := 6) dX3_no_6 rfl rfl ?_
  first | exact ⟨rfl, rfl⟩ | exact ⟨by rw [bI_t (by first | assumption | omega)], rfl⟩ | exact ⟨by rw [bI_f (by first | assumption | omega)], rfl⟩
theorem m_X3_of (hV : Vok I V) {j w : Nat} (hj : j < 8) (hw : w < 10) : gFn G YX3_of d [.ref 114, .int (nI j), .int (nI w)] (hp n I L D) (.inl (some (.int (nI (V (10 * j + w)))))) (hp n I L D) 0 0 := by
  refine g_aload_n (pc := 0) dX3_of_0 rfl rfl ?_
  refine g_getR (pc := 1) dX3_of_1 fl_X3_9 s_114 (by decide) rfl t_114_1 ?_
  refine g_bipush (v := nI 10) (pc := 4) dX3_of_4 rfl ?_
  refine g_iload_n (pc := 6) dX3_of_6 rfl rfl ?_
  refine g_imulN (pc := 7) dX3_of_7 ?_
  refine g_iload_n (pc := 8) dX3_of_8 rfl rfl ?_
  refine g_iaddN (pc := 9) dX3_of_9 ?_
  refine g_ialoadN (pc := 10) dX3_of_10 s_115 (by decide) (by omega) (by decide) (hV _ (by omega)) ?_
  refine g_iret (pc := 11) dX3_of_11 rfl rfl ?_
  first | exact ⟨rfl, rfl⟩ | exact ⟨by rw [bI_t (by first | assumption | omega)], rfl⟩ | exact ⟨by rw [bI_f (by first | assumption | omega)], rfl⟩
theorem m_X3_isFile (hV : Vok I V) (hW : WF V) {f : Int32} : gFn G YX3_isFile (d + 1) [.ref 114, .int f] (hp n I L D) (.inl (some (.int (bI (isFi V f))))) (hp n I L D) 0 0 := by
  refine g_iload_n (pc := 0) dX3_isFile_0 rfl rfl ?_
  refine g_iconst (v := nI 0) (pc := 1) dX3_isFile_1 rfl ?_
  refine g_bipush (v := nI 7) (pc := 2) dX3_isFile_2 rfl ?_
  refine g_fS (av := [.int _, .int _, .int _]) (pc := 4) dX3_isFile_4 mt_X3_isIn lk_X3_73 sf_X3_isIn np_X3_isIn rfl (gc_i (gc_i (gc_i gc_0))) (Nat.le_of_ble_eq_true rfl) (Nat.le_of_ble_eq_true rfl) ⟨Nat.zero_le _, Nat.zero_le _⟩ (m_X3_isIn) ?_
  refine g_if_eqB (tgt := 24) (pc := 7) dX3_isFile_7 (by decide) (fun c7 => ?_) (fun c7 => ?_)
  · rw [bI_f (fun q => c7 q.1)]
    refine g_iconst (v := nI 0) (pc := 24) dX3_isFile_24 rfl ?_
    refine g_iret (pc := 25) dX3_isFile_25 rfl rfl ?_
    first | exact ⟨rfl, rfl⟩ | exact ⟨by rw [bI_t (by first | assumption | omega)], rfl⟩ | exact ⟨by rw [bI_f (by first | assumption | omega)], rfl⟩
  · obtain ⟨j, hj, rfl⟩ := nI_7 c7
    rw [bI_congr (isFi_n hj)]
    have hb := (hW.1 j hj).1
    refine g_aload_n (pc := 10) dX3_isFile_10 rfl rfl ?_
    refine g_iload_n (pc := 11) dX3_isFile_11 rfl rfl ?_
    refine g_iconst (v := nI 0) (pc := 12) dX3_isFile_12 rfl ?_
    refine g_fV (av := [.int _, .int _]) (pc := 13) dX3_isFile_13 mt_X3_of lk_X3_77 im_X3_of se_X3_of np_X3_of s_114 (by decide) (by decide) rfl (gc_i (gc_i gc_0)) (Nat.le_of_ble_eq_true rfl) (Nat.le_of_ble_eq_true rfl) ⟨Nat.zero_le _, Nat.zero_le _⟩ (m_X3_of hV (j := j) (w := 0) hj (by decide)) ?_
    rw [Nat.add_zero (10 * j)]
    refine g_iconst (v := nI 1) (pc := 16) dX3_isFile_16 rfl ?_
    refine g_icmp_neN (tgt := 24) (pc := 17) dX3_isFile_17 (by decide) (by omega) (by omega) (fun c17 => ?_) (fun c17 => ?_)
    · refine g_iconst (v := nI 0) (pc := 24) dX3_isFile_24 rfl ?_
      refine g_iret (pc := 25) dX3_isFile_25 rfl rfl ?_
      first | exact ⟨rfl, rfl⟩ | exact ⟨by rw [bI_t (by first | assumption | omega)], rfl⟩ | exact ⟨by rw [bI_f (by first | assumption | omega)], rfl⟩
    · refine g_iconst (v := nI 1) (pc := 20) dX3_isFile_20 rfl ?_
      refine g_goto (tgt := 25) (pc := 21) dX3_isFile_21 (by decide) ?_
      refine g_iret (pc := 25) dX3_isFile_25 rfl rfl ?_
      first | exact ⟨rfl, rfl⟩ | exact ⟨by rw [bI_t (by first | assumption | omega)], rfl⟩ | exact ⟨by rw [bI_f (by first | assumption | omega)], rfl⟩
theorem m_X3_blocks (hV : Vok I V) (hW : WF V) {j : Nat} (hj : j < 8) : gFn G YX3_blocks (d + 1) [.ref 114, .int (nI j)] (hp n I L D) (.inl (some (.int (nI (bl V j))))) (hp n I L D) 0 0 := by
  have hb := (hW.1 j hj).2.1
  refine g_aload_n (pc := 0) dX3_blocks_0 rfl rfl ?_
  refine g_iload_n (pc := 1) dX3_blocks_1 rfl rfl ?_
  refine g_iconst (v := nI 1) (pc := 2) dX3_blocks_2 rfl ?_
  refine g_fV (av := [.int _, .int _]) (pc := 3) dX3_blocks_3 mt_X3_of lk_X3_77 im_X3_of se_X3_of np_X3_of s_114 (by decide) (by decide) rfl (gc_i (gc_i gc_0)) (Nat.le_of_ble_eq_true rfl) (Nat.le_of_ble_eq_true rfl) ⟨Nat.zero_le _, Nat.zero_le _⟩ (m_X3_of hV (j := j) (w := 1) hj (by decide)) ?_
  refine g_bipush (v := nI 8) (pc := 6) dX3_blocks_6 rfl ?_
  refine g_iaddN (pc := 8) dX3_blocks_8 ?_
  refine g_iconst (v := nI 1) (pc := 9) dX3_blocks_9 rfl ?_
  refine g_isubN (pc := 10) dX3_blocks_10 (by omega) ?_
  refine g_bipush (v := nI 8) (pc := 11) dX3_blocks_11 rfl ?_
  refine g_idivN (pc := 13) dX3_blocks_13 (by omega) (by omega) (by omega) ?_
  refine g_iret (pc := 14) dX3_blocks_14 rfl rfl ?_
  first | exact ⟨rfl, rfl⟩ | exact ⟨by rw [bI_t (by first | assumption | omega)], rfl⟩ | exact ⟨by rw [bI_f (by first | assumption | omega)], rfl⟩
theorem m_X3_size (hV : Vok I V) {j : Nat} (hj : j < 8) : gFn G YX3_size (d + 1) [.ref 114, .int (nI j)] (hp n I L D) (.inl (some (.int (nI (sz V j))))) (hp n I L D) 0 0 := by
  refine g_aload_n (pc := 0) dX3_size_0 rfl rfl ?_
  refine g_iload_n (pc := 1) dX3_size_1 rfl rfl ?_
  refine g_iconst (v := nI 2) (pc := 2) dX3_size_2 rfl ?_
  refine g_fV (av := [.int _, .int _]) (pc := 3) dX3_size_3 mt_X3_of lk_X3_77 im_X3_of se_X3_of np_X3_of s_114 (by decide) (by decide) rfl (gc_i (gc_i gc_0)) (Nat.le_of_ble_eq_true rfl) (Nat.le_of_ble_eq_true rfl) ⟨Nat.zero_le _, Nat.zero_le _⟩ (m_X3_of hV (j := j) (w := 2) hj (by decide)) ?_
  refine g_bipush (v := nI 8) (pc := 6) dX3_size_6 rfl ?_
  refine g_iaddN (pc := 8) dX3_size_8 ?_
  refine g_iret (pc := 9) dX3_size_9 rfl rfl ?_
  first | exact ⟨rfl, rfl⟩ | exact ⟨by rw [bI_t (by first | assumption | omega)], rfl⟩ | exact ⟨by rw [bI_f (by first | assumption | omega)], rfl⟩
theorem m_X3_cells (hV : Vok I V) (hW : WF V) {j : Nat} (hj : j < 8) : gFn G YX3_cells (d + 2) [.ref 114, .int (nI j)] (hp n I L D) (.inl (some (.int (nI (ce V j))))) (hp n I L D) 0 0 := by
  refine g_aload_n (pc := 0) dX3_cells_0 rfl rfl ?_
  refine g_iload_n (pc := 1) dX3_cells_1 rfl rfl ?_
  refine g_fV (av := [.int _]) (pc := 2) dX3_cells_2 mt_X3_blocks lk_X3_80 im_X3_blocks se_X3_blocks np_X3_blocks s_114 (by decide) (by decide) rfl (gc_i gc_0) (Nat.le_of_ble_eq_true rfl) (Nat.le_of_ble_eq_true rfl) ⟨Nat.zero_le _, Nat.zero_le _⟩ (m_X3_blocks hV hW hj) ?_
  refine g_aload_n (pc := 5) dX3_cells_5 rfl rfl ?_
  refine g_iload_n (pc := 6) dX3_cells_6 rfl rfl ?_
  refine g_fV (av := [.int _]) (pc := 7) dX3_cells_7 mt_X3_size lk_X3_84 im_X3_size se_X3_size np_X3_size s_114 (by decide) (by decide) rfl (gc_i gc_0) (Nat.le_of_ble_eq_true rfl) (Nat.le_of_ble_eq_true rfl) ⟨Nat.zero_le _, Nat.zero_le _⟩ (m_X3_size hV hj) ?_
  refine g_imulN (pc := 10) dX3_cells_10 ?_
  refine g_iret (pc := 11) dX3_cells_11 rfl rfl ?_
  first | exact ⟨rfl, rfl⟩ | exact ⟨by rw [bI_t (by first | assumption | omega)], rfl⟩ | exact ⟨by rw [bI_f (by first | assumption | omega)], rfl⟩
end

