/-! ===== the reference: questions (b) ===== -/
def fiN (V : Nat → Nat) (j b : Nat) : Nat := b / V (10 * j + 3) * V (10 * j + 3)
def grN (V : Nat → Nat) (j b : Nat) : Nat := if V (10 * j + 3) ≤ bl V j - fiN V j b then V (10 * j + 3) else bl V j - fiN V j b
def cellN (V : Nat → Nat) (j b i : Nat) : Nat := V (10 * j + 5) + fiN V j b * sz V j + i * grN V j b + b - fiN V j b
theorem fiN_le {V : Nat → Nat} {j b : Nat} : fiN V j b ≤ b := Nat.div_mul_le_self _ _
/-- the free cells in a row just ahead of c; the most so far -/
def rn (V : Nat → Nat) : Nat → Nat
  | 0 => 0
  | c + 1 => if own V c = none then rn V c + 1 else 0
def ms (V : Nat → Nat) : Nat → Nat
  | 0 => 0
  | c + 1 => if rn V (c + 1) ≤ ms V c then ms V c else rn V (c + 1)
theorem rn_le (V : Nat → Nat) : ∀ c, rn V c ≤ c
  | 0 => Nat.le_refl 0
  | c + 1 => by
    have := rn_le V c
    unfold rn
    split <;> omega
theorem ms_le (V : Nat → Nat) : ∀ c, ms V c ≤ c
  | 0 => Nat.le_refl 0
  | c + 1 => by
    have := ms_le V c
    have := rn_le V (c + 1)
    unfold ms
    split <;> omega
def cnt (p : Nat → Bool) : Nat → Nat
  | 0 => 0
  | c + 1 => cnt p c + (if p c then 1 else 0)
theorem cnt_le (p : Nat → Bool) : ∀ c, cnt p c ≤ c
  | 0 => Nat.le_refl 0
  | c + 1 => by
    have := cnt_le p c
    unfold cnt
    split <;> omega
theorem cnt_t {p : Nat → Bool} {c : Nat} (h : p c = true) : cnt p (c + 1) = cnt p c + 1 := by rw [cnt, if_pos h]
theorem cnt_f {p : Nat → Bool} {c : Nat} (h : p c = false) : cnt p (c + 1) = cnt p c + 0 := by rw [cnt, if_neg (by rw [h]; decide)]
def isWr (V : Nat → Nat) (c : Nat) : Bool := decide (¬ V (80 + c) = V (560 + c))
def isEr (V : Nat → Nat) (c : Nat) : Bool := decide (V (320 + c) = 1)
def isOf (V : Nat → Nat) (j c : Nat) : Bool := decide (own V c = some j)
theorem Vok.f {I : Nat → Nat → Int32} {V : Nat → Nat} {j : Nat} {x : Int32} (h : Vok I V) : Vok (gUp I 114 j x) V := h
section
variable {G : gG} {d n : Nat} {I : Nat → Nat → Int32} {L : Nat → Nat → Int64} {D : Nat → Nat → UInt64} {V : Nat → Nat}
theorem m_X3_cell (hV : Vok I V) (hW : WF V) {j b i : Nat} (hj : j < 8) (h1 : V (10 * j) = 1) (hb : b < bl V j) : gFn G YX3_cell (d + 2) [.ref 114, .int (nI j), .int (nI b), .int (nI i)] (hp n I L D) (.inl (some (.int (nI (cellN V j b i))))) (hp n I L D) 0 0 := by
  have hw := hW.1 j hj
  have hbl := bl_le hw
  have h3 := (hw.2.2.2.2.2.2.2.2 h1).2.2.1
  have h4 := hw.2.2.2.1
  have hfi : b / V (10 * j + 3) * V (10 * j + 3) ≤ b := Nat.div_mul_le_self _ _
  refine g_aload_n (pc := 0) dX3_cell_0 rfl rfl ?_
  refine g_iload_n (pc := 1) dX3_cell_1 rfl rfl ?_
  refine g_iconst (v := nI 3) (pc := 2) dX3_cell_2 rfl ?_
  refine g_fV (av := [.int _, .int _]) (pc := 3) dX3_cell_3 mt_X3_of lk_X3_77 im_X3_of se_X3_of np_X3_of s_114 (by decide) (by decide) rfl (gc_i (gc_i gc_0)) (Nat.le_of_ble_eq_true rfl) (Nat.le_of_ble_eq_true rfl) ⟨Nat.zero_le _, Nat.zero_le _⟩ (m_X3_of hV (j := j) (w := 3) hj (by decide)) ?_
  refine g_istore (pc := 6) dX3_cell_6 (Nat.le_of_ble_eq_true rfl) rfl ?_
  refine g_iload_n (pc := 8) dX3_cell_8 rfl rfl ?_
  refine g_iload (pc := 9) dX3_cell_9 rfl ?_
  refine g_idivN (pc := 11) dX3_cell_11 (by omega) (by omega) (by omega) ?_
  refine g_iload (pc := 12) dX3_cell_12 rfl ?_
  refine g_imulN (pc := 14) dX3_cell_14 ?_
  refine g_istore (pc := 15) dX3_cell_15 (Nat.le_of_ble_eq_true rfl) rfl ?_
  refine g_aload_n (pc := 17) dX3_cell_17 rfl rfl ?_
  refine g_iload_n (pc := 18) dX3_cell_18 rfl rfl ?_
  refine g_fV (av := [.int _]) (pc := 19) dX3_cell_19 mt_X3_blocks lk_X3_80 im_X3_blocks se_X3_blocks np_X3_blocks s_114 (by decide) (by decide) rfl (gc_i gc_0) (Nat.le_of_ble_eq_true rfl) (Nat.le_of_ble_eq_true rfl) ⟨Nat.zero_le _, Nat.zero_le _⟩ (m_X3_blocks hV hW hj) ?_
  refine g_iload (pc := 22) dX3_cell_22 rfl ?_
  refine g_isubN (pc := 24) dX3_cell_24 (by omega) ?_
  refine g_iload (pc := 25) dX3_cell_25 rfl ?_
  refine g_icmp_geN (tgt := 41) (pc := 27) dX3_cell_27 (by decide) (by omega) (by omega) (fun c27 => ?_) (fun c27 => ?_)
  · rw [show cellN V j b i = V (10 * j + 5) + b / V (10 * j + 3) * V (10 * j + 3) * sz V j + i * V (10 * j + 3) + b - b / V (10 * j + 3) * V (10 * j + 3) from by unfold cellN grN fiN; rw [if_pos c27]]
    refine g_iload (pc := 41) dX3_cell_41 rfl ?_
    refine g_istore (pc := 43) dX3_cell_43 (Nat.le_of_ble_eq_true rfl) rfl ?_
    refine g_aload_n (pc := 45) dX3_cell_45 rfl rfl ?_
    refine g_iload_n (pc := 46) dX3_cell_46 rfl rfl ?_
    refine g_iconst (v := nI 5) (pc := 47) dX3_cell_47 rfl ?_
    refine g_fV (av := [.int _, .int _]) (pc := 48) dX3_cell_48 mt_X3_of lk_X3_77 im_X3_of se_X3_of np_X3_of s_114 (by decide) (by decide) rfl (gc_i (gc_i gc_0)) (Nat.le_of_ble_eq_true rfl) (Nat.le_of_ble_eq_true rfl) ⟨Nat.zero_le _, Nat.zero_le _⟩ (m_X3_of hV (j := j) (w := 5) hj (by decide)) ?_
    refine g_iload (pc := 51) dX3_cell_51 rfl ?_
    refine g_aload_n (pc := 53) dX3_cell_53 rfl rfl ?_
    refine g_iload_n (pc := 54) dX3_cell_54 rfl rfl ?_
    refine g_fV (av := [.int _]) (pc := 55) dX3_cell_55 mt_X3_size lk_X3_84 im_X3_size se_X3_size np_X3_size s_114 (by decide) (by decide) rfl (gc_i gc_0) (Nat.le_of_ble_eq_true rfl) (Nat.le_of_ble_eq_true rfl) ⟨Nat.zero_le _, Nat.zero_le _⟩ (m_X3_size hV hj) ?_
    refine g_imulN (pc := 58) dX3_cell_58 ?_
    refine g_iaddN (pc := 59) dX3_cell_59 ?_
    refine g_iload_n (pc := 60) dX3_cell_60 rfl rfl ?_
    refine g_iload (pc := 61) dX3_cell_61 rfl ?_
    refine g_imulN (pc := 63) dX3_cell_63 ?_
    refine g_iaddN (pc := 64) dX3_cell_64 ?_
    refine g_iload_n (pc := 65) dX3_cell_65 rfl rfl ?_
    refine g_iaddN (pc := 66) dX3_cell_66 ?_
    refine g_iload (pc := 67) dX3_cell_67 rfl ?_
    refine g_isubN (pc := 69) dX3_cell_69 (by omega) ?_
    refine g_iret (pc := 70) dX3_cell_70 rfl rfl ?_
    first | exact ⟨rfl, rfl⟩ | exact ⟨by rw [bI_t (by first | assumption | omega)], rfl⟩ | exact ⟨by rw [bI_f (by first | assumption | omega)], rfl⟩
  · rw [show cellN V j b i = V (10 * j + 5) + b / V (10 * j + 3) * V (10 * j + 3) * sz V j + i * (bl V j - b / V (10 * j + 3) * V (10 * j + 3)) + b - b / V (10 * j + 3) * V (10 * j + 3) from by unfold cellN grN fiN; rw [if_neg c27]]
    refine g_aload_n (pc := 30) dX3_cell_30 rfl rfl ?_
    refine g_iload_n (pc := 31) dX3_cell_31 rfl rfl ?_
    refine g_fV (av := [.int _]) (pc := 32) dX3_cell_32 mt_X3_blocks lk_X3_80 im_X3_blocks se_X3_blocks np_X3_blocks s_114 (by decide) (by decide) rfl (gc_i gc_0) (Nat.le_of_ble_eq_true rfl) (Nat.le_of_ble_eq_true rfl) ⟨Nat.zero_le _, Nat.zero_le _⟩ (m_X3_blocks hV hW hj) ?_
    refine g_iload (pc := 35) dX3_cell_35 rfl ?_
    refine g_isubN (pc := 37) dX3_cell_37 (by omega) ?_
    refine g_goto (tgt := 43) (pc := 38) dX3_cell_38 (by decide) ?_
    refine g_istore (pc := 43) dX3_cell_43 (Nat.le_of_ble_eq_true rfl) rfl ?_
    refine g_aload_n (pc := 45) dX3_cell_45 rfl rfl ?_
    refine g_iload_n (pc := 46) dX3_cell_46 rfl rfl ?_
    refine g_iconst (v := nI 5) (pc := 47) dX3_cell_47 rfl ?_
    refine g_fV (av := [.int _, .int _]) (pc := 48) dX3_cell_48 mt_X3_of lk_X3_77 im_X3_of se_X3_of np_X3_of s_114 (by decide) (by decide) rfl (gc_i (gc_i gc_0)) (Nat.le_of_ble_eq_true rfl) (Nat.le_of_ble_eq_true rfl) ⟨Nat.zero_le _, Nat.zero_le _⟩ (m_X3_of hV (j := j) (w := 5) hj (by decide)) ?_
    refine g_iload (pc := 51) dX3_cell_51 rfl ?_
    refine g_aload_n (pc := 53) dX3_cell_53 rfl rfl ?_
    refine g_iload_n (pc := 54) dX3_cell_54 rfl rfl ?_
    refine g_fV (av := [.int _]) (pc := 55) dX3_cell_55 mt_X3_size lk_X3_84 im_X3_size se_X3_size np_X3_size s_114 (by decide) (by decide) rfl (gc_i gc_0) (Nat.le_of_ble_eq_true rfl) (Nat.le_of_ble_eq_true rfl) ⟨Nat.zero_le _, Nat.zero_le _⟩ (m_X3_size hV hj) ?_
    refine g_imulN (pc := 58) dX3_cell_58 ?_
    refine g_iaddN (pc := 59) dX3_cell_59 ?_
    refine g_iload_n (pc := 60) dX3_cell_60 rfl rfl ?_
    refine g_iload (pc := 61) dX3_cell_61 rfl ?_
    refine g_imulN (pc := 63) dX3_cell_63 ?_
    refine g_iaddN (pc := 64) dX3_cell_64 ?_
    refine g_iload_n (pc := 65) dX3_cell_65 rfl rfl ?_
    refine g_iaddN (pc := 66) dX3_cell_66 ?_
    refine g_iload (pc := 67) dX3_cell_67 rfl ?_
    refine g_isubN (pc := 69) dX3_cell_69 (by omega) ?_
    refine g_iret (pc := 70) dX3_cell_70 rfl rfl ?_
    first | exact ⟨rfl, rfl⟩ | exact ⟨by rw [bI_t (by first | assumption | omega)], rfl⟩ | exact ⟨by rw [bI_f (by first | assumption | omega)], rfl⟩
theorem m_X3_cellOf_t (hV : Vok I V) (hW : WF V) {j b i : Nat} (hj : j < 8) (h1 : V (10 * j) = 1) (hb : b < bl V j) (hi : i < sz V j) : gFn G YX3_cellOf (d + 4) [.ref 114, .int (nI j), .int (nI b), .int (nI i)] (hp n I L D) (.inl (some (.int (nI (cellN V j b i))))) (hp n (gUp I 114 0 (nI 0)) L D) 0 0 := by
  refine g_aload_n (pc := 0) dX3_cellOf_0 rfl rfl ?_
  refine g_iload_n (pc := 1) dX3_cellOf_1 rfl rfl ?_
  refine g_iload_n (pc := 2) dX3_cellOf_2 rfl rfl ?_
  refine g_iload_n (pc := 3) dX3_cellOf_3 rfl rfl ?_
  refine g_fV (av := [.int _, .int _, .int _]) (pc := 4) dX3_cellOf_4 mt_X3_isPlace lk_X3_157 im_X3_isPlace se_X3_isPlace np_X3_isPlace s_114 (by decide) (by decide) rfl (gc_i (gc_i (gc_i gc_0))) (Nat.le_of_ble_eq_true rfl) (Nat.le_of_ble_eq_true rfl) ⟨Nat.zero_le _, Nat.zero_le _⟩ (m_X3_isPlace_t hV hW hj h1 hb hi) ?_
  refine g_if_eqN (tgt := 20) (pc := 7) dX3_cellOf_7 (by decide) (by omega) (fun c7 => ?_) (fun c7 => ?_)
  · exact absurd c7 (by decide)
  · refine g_aload_n (pc := 10) dX3_cellOf_10 rfl rfl ?_
    refine g_iload_n (pc := 11) dX3_cellOf_11 rfl rfl ?_
    refine g_iload_n (pc := 12) dX3_cellOf_12 rfl rfl ?_
    refine g_iload_n (pc := 13) dX3_cellOf_13 rfl rfl ?_
    refine g_fV (av := [.int _, .int _, .int _]) (pc := 14) dX3_cellOf_14 mt_X3_cell lk_X3_145 im_X3_cell se_X3_cell np_X3_cell s_114 (by decide) (by decide) rfl (gc_i (gc_i (gc_i gc_0))) (Nat.le_of_ble_eq_true rfl) (Nat.le_of_ble_eq_true rfl) ⟨Nat.zero_le _, Nat.zero_le _⟩ (m_X3_cell hV.f hW hj h1 hb) ?_
    refine g_goto (tgt := 21) (pc := 17) dX3_cellOf_17 (by decide) ?_
    refine g_iret (pc := 21) dX3_cellOf_21 rfl rfl ?_
    first | exact ⟨rfl, rfl⟩ | exact ⟨by rw [bI_t (by first | assumption | omega)], rfl⟩ | exact ⟨by rw [bI_f (by first | assumption | omega)], rfl⟩
theorem m_X3_cellOf_f (hV : Vok I V) (hW : WF V) {f b i : Int32} (hb : ¬ ∃ j k l, j < 8 ∧ V (10 * j) = 1 ∧ k < bl V j ∧ l < sz V j ∧ f = nI j ∧ b = nI k ∧ i = nI l) : gFn G YX3_cellOf (d + 4) [.ref 114, .int f, .int b, .int i] (hp n I L D) (.inl (some (.int (nI 0)))) (hp n (gUp I 114 0 (nI 1)) L D) 0 0 := by
  refine g_aload_n (pc := 0) dX3_cellOf_0 rfl rfl ?_
  refine g_iload_n (pc := 1) dX3_cellOf_1 rfl rfl ?_
  refine g_iload_n (pc := 2) dX3_cellOf_2 rfl rfl ?_
  refine g_iload_n (pc := 3) dX3_cellOf_3 rfl rfl ?_
  refine g_fV (av := [.int _, .int _, .int _]) (pc := 4) dX3_cellOf_4 mt_X3_isPlace lk_X3_157 im_X3_isPlace se_X3_isPlace np_X3_isPlace s_114 (by decide) (by decide) rfl (gc_i (gc_i (gc_i gc_0))) (Nat.le_of_ble_eq_true rfl) (Nat.le_of_ble_eq_true rfl) ⟨Nat.zero_le _, Nat.zero_le _⟩ (m_X3_isPlace_f hV hW hb) ?_
  refine g_if_eqN (tgt := 20) (pc := 7) dX3_cellOf_7 (by decide) (by omega) (fun c7 => ?_) (fun c7 => ?_)
  · refine g_iconst (v := nI 0) (pc := 20) dX3_cellOf_20 rfl ?_
    refine g_iret (pc := 21) dX3_cellOf_21 rfl rfl ?_
    first | exact ⟨rfl, rfl⟩ | exact ⟨by rw [bI_t (by first | assumption | omega)], rfl⟩ | exact ⟨by rw [bI_f (by first | assumption | omega)], rfl⟩
  · exact absurd c7 (by decide)
theorem m_X3_owner_t (hV : Vok I V) (hW : WF V) {c : Nat} (hc : c < 240) : gFn G YX3_owner (d + 4) [.ref 114, .int (nI c)] (hp n I L D) (.inl (some (.int (ownI V c)))) (hp n (gUp I 114 0 (nI 0)) L D) 0 0 := by
  refine g_aload_n (pc := 0) dX3_owner_0 rfl rfl ?_
  refine g_iload_n (pc := 1) dX3_owner_1 rfl rfl ?_
  refine g_fV (av := [.int _]) (pc := 2) dX3_owner_2 mt_X3_isCell lk_X3_160 im_X3_isCell se_X3_isCell np_X3_isCell s_114 (by decide) (by decide) rfl (gc_i gc_0) (Nat.le_of_ble_eq_true rfl) (Nat.le_of_ble_eq_true rfl) ⟨Nat.zero_le _, Nat.zero_le _⟩ (m_X3_isCell_t hc) ?_
  refine g_if_eqN (tgt := 16) (pc := 5) dX3_owner_5 (by decide) (by omega) (fun c5 => ?_) (fun c5 => ?_)
  · exact absurd c5 (by decide)
  · refine g_aload_n (pc := 8) dX3_owner_8 rfl rfl ?_
    refine g_iload_n (pc := 9) dX3_owner_9 rfl rfl ?_
    refine g_fV (av := [.int _]) (pc := 10) dX3_owner_10 mt_X3_ownerOf lk_X3_111 im_X3_ownerOf se_X3_ownerOf np_X3_ownerOf s_114 (by decide) (by decide) rfl (gc_i gc_0) (Nat.le_of_ble_eq_true rfl) (Nat.le_of_ble_eq_true rfl) ⟨Nat.zero_le _, Nat.zero_le _⟩ (m_X3_ownerOf hV.f hW hc) ?_
    refine g_goto (tgt := 17) (pc := 13) dX3_owner_13 (by decide) ?_
    refine g_iret (pc := 17) dX3_owner_17 rfl rfl ?_
    first | exact ⟨rfl, rfl⟩ | exact ⟨by rw [bI_t (by first | assumption | omega)], rfl⟩ | exact ⟨by rw [bI_f (by first | assumption | omega)], rfl⟩
theorem m_X3_owner_f {c : Int32} (hc : ¬ (nI 0 ≤ c ∧ c ≤ nI 239)) : gFn G YX3_owner (d + 4) [.ref 114, .int c] (hp n I L D) (.inl (some (.int (nI 0)))) (hp n (gUp I 114 0 (nI 1)) L D) 0 0 := by
  refine g_aload_n (pc := 0) dX3_owner_0 rfl rfl ?_
  refine g_iload_n (pc := 1) dX3_owner_1 rfl rfl ?_
  refine g_fV (av := [.int _]) (pc := 2) dX3_owner_2 mt_X3_isCell lk_X3_160 im_X3_isCell se_X3_isCell np_X3_isCell s_114 (by decide) (by decide) rfl (gc_i gc_0) (Nat.le_of_ble_eq_true rfl) (Nat.le_of_ble_eq_true rfl) ⟨Nat.zero_le _, Nat.zero_le _⟩ (m_X3_isCell_f hc) ?_
  refine g_if_eqN (tgt := 16) (pc := 5) dX3_owner_5 (by decide) (by omega) (fun c5 => ?_) (fun c5 => ?_)
  · refine g_iconst (v := nI 0) (pc := 16) dX3_owner_16 rfl ?_
    refine g_iret (pc := 17) dX3_owner_17 rfl rfl ?_
    first | exact ⟨rfl, rfl⟩ | exact ⟨by rw [bI_t (by first | assumption | omega)], rfl⟩ | exact ⟨by rw [bI_f (by first | assumption | omega)], rfl⟩
  · exact absurd c5 (by decide)
theorem m_X3_symbol_t (hV : Vok I V) {c : Nat} (hc : c < 240) : gFn G YX3_symbol (d + 2) [.ref 114, .int (nI c)] (hp n I L D) (.inl (some (.int (nI (V (80 + c)))))) (hp n (gUp I 114 0 (nI 0)) L D) 0 0 := by
  refine g_aload_n (pc := 0) dX3_symbol_0 rfl rfl ?_
  refine g_iload_n (pc := 1) dX3_symbol_1 rfl rfl ?_
  refine g_fV (av := [.int _]) (pc := 2) dX3_symbol_2 mt_X3_isCell lk_X3_160 im_X3_isCell se_X3_isCell np_X3_isCell s_114 (by decide) (by decide) rfl (gc_i gc_0) (Nat.le_of_ble_eq_true rfl) (Nat.le_of_ble_eq_true rfl) ⟨Nat.zero_le _, Nat.zero_le _⟩ (m_X3_isCell_t hc) ?_
  refine g_if_eqN (tgt := 20) (pc := 5) dX3_symbol_5 (by decide) (by omega) (fun c5 => ?_) (fun c5 => ?_)
  · exact absurd c5 (by decide)
  · refine g_aload_n (pc := 8) dX3_symbol_8 rfl rfl ?_
    refine g_getR (pc := 9) dX3_symbol_9 fl_X3_9 s_114 (by decide) rfl t_114_1 ?_
    refine g_bipush (v := nI 80) (pc := 12) dX3_symbol_12 rfl ?_
    refine g_iload_n (pc := 14) dX3_symbol_14 rfl rfl ?_
    refine g_iaddN (pc := 15) dX3_symbol_15 ?_
    refine g_ialoadN (pc := 16) dX3_symbol_16 s_115 (by decide) (by omega) (by decide) (hV _ (by omega)) ?_
    refine g_goto (tgt := 21) (pc := 17) dX3_symbol_17 (by decide) ?_
    refine g_iret (pc := 21) dX3_symbol_21 rfl rfl ?_
    first | exact ⟨rfl, rfl⟩ | exact ⟨by rw [bI_t (by first | assumption | omega)], rfl⟩ | exact ⟨by rw [bI_f (by first | assumption | omega)], rfl⟩
theorem m_X3_symbol_f {c : Int32} (hc : ¬ (nI 0 ≤ c ∧ c ≤ nI 239)) : gFn G YX3_symbol (d + 2) [.ref 114, .int c] (hp n I L D) (.inl (some (.int (nI 0)))) (hp n (gUp I 114 0 (nI 1)) L D) 0 0 := by
  refine g_aload_n (pc := 0) dX3_symbol_0 rfl rfl ?_
  refine g_iload_n (pc := 1) dX3_symbol_1 rfl rfl ?_
  refine g_fV (av := [.int _]) (pc := 2) dX3_symbol_2 mt_X3_isCell lk_X3_160 im_X3_isCell se_X3_isCell np_X3_isCell s_114 (by decide) (by decide) rfl (gc_i gc_0) (Nat.le_of_ble_eq_true rfl) (Nat.le_of_ble_eq_true rfl) ⟨Nat.zero_le _, Nat.zero_le _⟩ (m_X3_isCell_f hc) ?_
  refine g_if_eqN (tgt := 20) (pc := 5) dX3_symbol_5 (by decide) (by omega) (fun c5 => ?_) (fun c5 => ?_)
  · refine g_iconst (v := nI 0) (pc := 20) dX3_symbol_20 rfl ?_
    refine g_iret (pc := 21) dX3_symbol_21 rfl rfl ?_
    first | exact ⟨rfl, rfl⟩ | exact ⟨by rw [bI_t (by first | assumption | omega)], rfl⟩ | exact ⟨by rw [bI_f (by first | assumption | omega)], rfl⟩
  · exact absurd c5 (by decide)
theorem m_X3_isErased_t (hV : Vok I V) (hW : WF V) {c : Nat} (hc : c < 240) : gFn G YX3_isErased (d + 2) [.ref 114, .int (nI c)] (hp n I L D) (.inl (some (.int (bI (V (320 + c) = 1))))) (hp n (gUp I 114 0 (nI 0)) L D) 0 0 := by
  have hb := Vb hW hc
  refine g_aload_n (pc := 0) dX3_isErased_0 rfl rfl ?_
  refine g_iload_n (pc := 1) dX3_isErased_1 rfl rfl ?_
  refine g_fV (av := [.int _]) (pc := 2) dX3_isErased_2 mt_X3_isCell lk_X3_160 im_X3_isCell se_X3_isCell np_X3_isCell s_114 (by decide) (by decide) rfl (gc_i gc_0) (Nat.le_of_ble_eq_true rfl) (Nat.le_of_ble_eq_true rfl) ⟨Nat.zero_le _, Nat.zero_le _⟩ (m_X3_isCell_t hc) ?_
  refine g_if_eqN (tgt := 26) (pc := 5) dX3_isErased_5 (by decide) (by omega) (fun c5 => ?_) (fun c5 => ?_)
  · exact absurd c5 (by decide)
  · refine g_aload_n (pc := 8) dX3_isErased_8 rfl rfl ?_
    refine g_getR (pc := 9) dX3_isErased_9 fl_X3_9 s_114 (by decide) rfl t_114_1 ?_
    refine g_sipush (v := nI 320) (pc := 12) dX3_isErased_12 rfl ?_
    refine g_iload_n (pc := 15) dX3_isErased_15 rfl rfl ?_
    refine g_iaddN (pc := 16) dX3_isErased_16 ?_
    refine g_ialoadN (pc := 17) dX3_isErased_17 s_115 (by decide) (by omega) (by decide) (hV _ (by omega)) ?_
    refine g_iconst (v := nI 1) (pc := 18) dX3_isErased_18 rfl ?_
    refine g_icmp_neN (tgt := 26) (pc := 19) dX3_isErased_19 (by decide) (by omega) (by omega) (fun c19 => ?_) (fun c19 => ?_)
    · refine g_iconst (v := nI 0) (pc := 26) dX3_isErased_26 rfl ?_
      refine g_iret (pc := 27) dX3_isErased_27 rfl rfl ?_
      first | exact ⟨rfl, rfl⟩ | exact ⟨by rw [bI_t (by first | assumption | omega)], rfl⟩ | exact ⟨by rw [bI_f (by first | assumption | omega)], rfl⟩
    · refine g_iconst (v := nI 1) (pc := 22) dX3_isErased_22 rfl ?_
      refine g_goto (tgt := 27) (pc := 23) dX3_isErased_23 (by decide) ?_
      refine g_iret (pc := 27) dX3_isErased_27 rfl rfl ?_
      first | exact ⟨rfl, rfl⟩ | exact ⟨by rw [bI_t (by first | assumption | omega)], rfl⟩ | exact ⟨by rw [bI_f (by first | assumption | omega)], rfl⟩
theorem m_X3_isErased_f {c : Int32} (hc : ¬ (nI 0 ≤ c ∧ c ≤ nI 239)) : gFn G YX3_isErased (d + 2) [.ref 114, .int c] (hp n I L D) (.inl (some (.int (nI 0)))) (hp n (gUp I 114 0 (nI 1)) L D) 0 0 := by
  refine g_aload_n (pc := 0) dX3_isErased_0 rfl rfl ?_
  refine g_iload_n (pc := 1) dX3_isErased_1 rfl rfl ?_
  refine g_fV (av := [.int _]) (pc := 2) dX3_isErased_2 mt_X3_isCell lk_X3_160 im_X3_isCell se_X3_isCell np_X3_isCell s_114 (by decide) (by decide) rfl (gc_i gc_0) (Nat.le_of_ble_eq_true rfl) (Nat.le_of_ble_eq_true rfl) ⟨Nat.zero_le _, Nat.zero_le _⟩ (m_X3_isCell_f hc) ?_
  refine g_if_eqN (tgt := 26) (pc := 5) dX3_isErased_5 (by decide) (by omega) (fun c5 => ?_) (fun c5 => ?_)
  · refine g_iconst (v := nI 0) (pc := 26) dX3_isErased_26 rfl ?_
    refine g_iret (pc := 27) dX3_isErased_27 rfl rfl ?_
    first | exact ⟨rfl, rfl⟩ | exact ⟨by rw [bI_t (by first | assumption | omega)], rfl⟩ | exact ⟨by rw [bI_f (by first | assumption | omega)], rfl⟩
  · exact absurd c5 (by decide)
theorem m_X3_day (hV : Vok I V) : gFn G YX3_day d [.ref 114] (hp n I L D) (.inl (some (.int (nI (V 800))))) (hp n (gUp I 114 0 (nI 0)) L D) 0 0 := by
  refine g_aload_n (pc := 0) dX3_day_0 rfl rfl ?_
  refine g_iconst (v := nI 0) (pc := 1) dX3_day_1 rfl ?_
  refine g_putI (pc := 2) dX3_day_2 fl_X3_67 s_114 (by decide) rfl rfl rfl rfl ?_
  refine g_aload_n (pc := 5) dX3_day_5 rfl rfl ?_
  refine g_getR (pc := 6) dX3_day_6 fl_X3_9 s_114 (by decide) rfl t_114_1 ?_
  refine g_sipush (v := nI 800) (pc := 9) dX3_day_9 rfl ?_
  refine g_ialoadN (pc := 12) dX3_day_12 s_115 (by decide) (by omega) (by decide) (hV _ (by omega)) ?_
  refine g_iret (pc := 13) dX3_day_13 rfl rfl ?_
  first | exact ⟨rfl, rfl⟩ | exact ⟨by rw [bI_t (by first | assumption | omega)], rfl⟩ | exact ⟨by rw [bI_f (by first | assumption | omega)], rfl⟩
theorem m_X3_reportLines : gFn G YX3_reportLines d [.ref 114] (hp n I L D) (.inl (some (.int (I 114 10)))) (hp n (gUp I 114 0 (nI 0)) L D) 0 0 := by
  refine g_aload_n (pc := 0) dX3_reportLines_0 rfl rfl ?_
  refine g_iconst (v := nI 0) (pc := 1) dX3_reportLines_1 rfl ?_
  refine g_putI (pc := 2) dX3_reportLines_2 fl_X3_67 s_114 (by decide) rfl rfl rfl rfl ?_
  refine g_aload_n (pc := 5) dX3_reportLines_5 rfl rfl ?_
  refine g_getI (pc := 6) dX3_reportLines_6 fl_X3_216 s_114 (by decide) rfl ?_
  refine g_iret (pc := 9) dX3_reportLines_9 rfl rfl ?_
  first | exact ⟨rfl, rfl⟩ | exact ⟨by rw [bI_t (by first | assumption | omega)], rfl⟩ | exact ⟨by rw [bI_f (by first | assumption | omega)], rfl⟩
theorem m_X3_account_t {k : Nat} (hk : k < 8) : gFn G YX3_account (d + 1) [.ref 114, .int (nI k)] (hp n I L D) (.inl (some (.int (I 115 (801 + k))))) (hp n (gUp I 114 0 (nI 0)) L D) 0 0 := by
  refine g_aload_n (pc := 0) dX3_account_0 rfl rfl ?_
  refine g_iload_n (pc := 1) dX3_account_1 rfl rfl ?_
  refine g_iconst (v := nI 0) (pc := 2) dX3_account_2 rfl ?_
  refine g_bipush (v := nI 7) (pc := 3) dX3_account_3 rfl ?_
  refine g_fS (av := [.int _, .int _, .int _]) (pc := 5) dX3_account_5 mt_X3_isIn lk_X3_73 sf_X3_isIn np_X3_isIn rfl (gc_i (gc_i (gc_i gc_0))) (Nat.le_of_ble_eq_true rfl) (Nat.le_of_ble_eq_true rfl) ⟨Nat.zero_le _, Nat.zero_le _⟩ (m_X3_isInN (by omega) (by decide) (by decide)) ?_
  refine g_if_eqB (tgt := 15) (pc := 8) dX3_account_8 (by decide) (fun c8 => ?_) (fun c8 => ?_)
  · exact absurd (by omega) c8
  · refine g_iconst (v := nI 0) (pc := 11) dX3_account_11 rfl ?_
    refine g_goto (tgt := 16) (pc := 12) dX3_account_12 (by decide) ?_
    refine g_putI (pc := 16) dX3_account_16 fl_X3_67 s_114 (by decide) rfl rfl rfl rfl ?_
    refine g_aload_n (pc := 19) dX3_account_19 rfl rfl ?_
    refine g_getIV (pc := 20) dX3_account_20 fl_X3_67 s_114 (by decide) rfl (show _ = nI 0 from rfl) ?_
    refine g_if_neN (tgt := 39) (pc := 23) dX3_account_23 (by decide) (by omega) (fun c23 => ?_) (fun c23 => ?_)
    · exact absurd c23 (by decide)
    · refine g_aload_n (pc := 26) dX3_account_26 rfl rfl ?_
      refine g_getR (pc := 27) dX3_account_27 fl_X3_9 s_114 (by decide) rfl t_114_1 ?_
      refine g_sipush (v := nI 801) (pc := 30) dX3_account_30 rfl ?_
      refine g_iload_n (pc := 33) dX3_account_33 rfl rfl ?_
      refine g_iaddN (pc := 34) dX3_account_34 ?_
      refine g_ialoadN (pc := 35) dX3_account_35 s_115 (by decide) (by omega) (by decide) rfl ?_
      refine g_goto (tgt := 40) (pc := 36) dX3_account_36 (by decide) ?_
      refine g_iret (pc := 40) dX3_account_40 rfl rfl ?_
      first | exact ⟨rfl, rfl⟩ | exact ⟨by rw [bI_t (by first | assumption | omega)], rfl⟩ | exact ⟨by rw [bI_f (by first | assumption | omega)], rfl⟩
theorem m_X3_account_f {c : Int32} (hc : ¬ (nI 0 ≤ c ∧ c ≤ nI 7)) : gFn G YX3_account (d + 1) [.ref 114, .int c] (hp n I L D) (.inl (some (.int (nI 0)))) (hp n (gUp I 114 0 (nI 1)) L D) 0 0 := by
  refine g_aload_n (pc := 0) dX3_account_0 rfl rfl ?_
  refine g_iload_n (pc := 1) dX3_account_1 rfl rfl ?_
  refine g_iconst (v := nI 0) (pc := 2) dX3_account_2 rfl ?_
  refine g_bipush (v := nI 7) (pc := 3) dX3_account_3 rfl ?_
  refine g_fS (av := [.int _, .int _, .int _]) (pc := 5) dX3_account_5 mt_X3_isIn lk_X3_73 sf_X3_isIn np_X3_isIn rfl (gc_i (gc_i (gc_i gc_0))) (Nat.le_of_ble_eq_true rfl) (Nat.le_of_ble_eq_true rfl) ⟨Nat.zero_le _, Nat.zero_le _⟩ (m_X3_isIn) ?_
  refine g_if_eqB (tgt := 15) (pc := 8) dX3_account_8 (by decide) (fun c8 => ?_) (fun c8 => ?_)
  · refine g_iconst (v := nI 1) (pc := 15) dX3_account_15 rfl ?_
    refine g_putI (pc := 16) dX3_account_16 fl_X3_67 s_114 (by decide) rfl rfl rfl rfl ?_
    refine g_aload_n (pc := 19) dX3_account_19 rfl rfl ?_
    refine g_getIV (pc := 20) dX3_account_20 fl_X3_67 s_114 (by decide) rfl (show _ = nI 1 from rfl) ?_
    refine g_if_neN (tgt := 39) (pc := 23) dX3_account_23 (by decide) (by omega) (fun c23 => ?_) (fun c23 => ?_)
    · refine g_iconst (v := nI 0) (pc := 39) dX3_account_39 rfl ?_
      refine g_iret (pc := 40) dX3_account_40 rfl rfl ?_
      first | exact ⟨rfl, rfl⟩ | exact ⟨by rw [bI_t (by first | assumption | omega)], rfl⟩ | exact ⟨by rw [bI_f (by first | assumption | omega)], rfl⟩
    · exact absurd c23 (by decide)
  · exact absurd c8 hc
theorem m_X3_checked_t (hV : Vok I V) (hW : WF V) {j b : Nat} (hj : j < 8) (h1 : V (10 * j) = 1) (hb : b < bl V j) : gFn G YX3_checked (d + 4) [.ref 114, .int (nI j), .int (nI b)] (hp n I L D) (.inl (some (.int (nI (V (10 * j + (6 + b))))))) (hp n (gUp I 114 0 (nI 0)) L D) 0 0 := by
  have hbl := bl_le (hW.1 j hj)
  refine g_aload_n (pc := 0) dX3_checked_0 rfl rfl ?_
  refine g_iload_n (pc := 1) dX3_checked_1 rfl rfl ?_
  refine g_iload_n (pc := 2) dX3_checked_2 rfl rfl ?_
  refine g_fV (av := [.int _, .int _]) (pc := 3) dX3_checked_3 mt_X3_isThere lk_X3_199 im_X3_isThere se_X3_isThere np_X3_isThere s_114 (by decide) (by decide) rfl (gc_i (gc_i gc_0)) (Nat.le_of_ble_eq_true rfl) (Nat.le_of_ble_eq_true rfl) ⟨Nat.zero_le _, Nat.zero_le _⟩ (m_X3_isThere_t hV hW hj h1 hb) ?_
  refine g_if_eqN (tgt := 21) (pc := 6) dX3_checked_6 (by decide) (by omega) (fun c6 => ?_) (fun c6 => ?_)
  · exact absurd c6 (by decide)
  · refine g_aload_n (pc := 9) dX3_checked_9 rfl rfl ?_
    refine g_iload_n (pc := 10) dX3_checked_10 rfl rfl ?_
    refine g_bipush (v := nI 6) (pc := 11) dX3_checked_11 rfl ?_
    refine g_iload_n (pc := 13) dX3_checked_13 rfl rfl ?_
    refine g_iaddN (pc := 14) dX3_checked_14 ?_
    refine g_fV (av := [.int _, .int _]) (pc := 15) dX3_checked_15 mt_X3_of lk_X3_77 im_X3_of se_X3_of np_X3_of s_114 (by decide) (by decide) rfl (gc_i (gc_i gc_0)) (Nat.le_of_ble_eq_true rfl) (Nat.le_of_ble_eq_true rfl) ⟨Nat.zero_le _, Nat.zero_le _⟩ (m_X3_of hV.f hj (w := 6 + b) (by omega)) ?_
    refine g_goto (tgt := 22) (pc := 18) dX3_checked_18 (by decide) ?_
    refine g_iret (pc := 22) dX3_checked_22 rfl rfl ?_
    first | exact ⟨rfl, rfl⟩ | exact ⟨by rw [bI_t (by first | assumption | omega)], rfl⟩ | exact ⟨by rw [bI_f (by first | assumption | omega)], rfl⟩
theorem m_X3_checked_f (hV : Vok I V) (hW : WF V) {f b : Int32} (hb : ¬ ∃ j k, j < 8 ∧ V (10 * j) = 1 ∧ k < bl V j ∧ f = nI j ∧ b = nI k) : gFn G YX3_checked (d + 4) [.ref 114, .int f, .int b] (hp n I L D) (.inl (some (.int (nI 0)))) (hp n (gUp I 114 0 (nI 1)) L D) 0 0 := by
  refine g_aload_n (pc := 0) dX3_checked_0 rfl rfl ?_
  refine g_iload_n (pc := 1) dX3_checked_1 rfl rfl ?_
  refine g_iload_n (pc := 2) dX3_checked_2 rfl rfl ?_
  refine g_fV (av := [.int _, .int _]) (pc := 3) dX3_checked_3 mt_X3_isThere lk_X3_199 im_X3_isThere se_X3_isThere np_X3_isThere s_114 (by decide) (by decide) rfl (gc_i (gc_i gc_0)) (Nat.le_of_ble_eq_true rfl) (Nat.le_of_ble_eq_true rfl) ⟨Nat.zero_le _, Nat.zero_le _⟩ (m_X3_isThere_f hV hW hb) ?_
  refine g_if_eqN (tgt := 21) (pc := 6) dX3_checked_6 (by decide) (by omega) (fun c6 => ?_) (fun c6 => ?_)
  · refine g_iconst (v := nI 0) (pc := 21) dX3_checked_21 rfl ?_
    refine g_iret (pc := 22) dX3_checked_22 rfl rfl ?_
    first | exact ⟨rfl, rfl⟩ | exact ⟨by rw [bI_t (by first | assumption | omega)], rfl⟩ | exact ⟨by rw [bI_f (by first | assumption | omega)], rfl⟩
  · exact absurd c6 (by decide)
theorem m_X3_errorPosition_t (h0 : (0 : Int32) ≤ I 114 5) : gFn G YX3_errorPosition d [.ref 114] (hp n I L D) (.inl (some (.int (I 114 5)))) (hp n (gUp I 114 0 (nI 0)) L D) 0 0 := by
  refine g_aload_n (pc := 0) dX3_errorPosition_0 rfl rfl ?_
  refine g_aload_n (pc := 1) dX3_errorPosition_1 rfl rfl ?_
  refine g_getI (pc := 2) dX3_errorPosition_2 fl_X3_19 s_114 (by decide) rfl ?_
  refine g_if_ge (tgt := 12) (pc := 5) dX3_errorPosition_5 (by decide) (fun c5 => ?_) (fun c5 => ?_)
  · refine g_iconst (v := nI 0) (pc := 12) dX3_errorPosition_12 rfl ?_
    refine g_putI (pc := 13) dX3_errorPosition_13 fl_X3_67 s_114 (by decide) rfl rfl rfl rfl ?_
    refine g_aload_n (pc := 16) dX3_errorPosition_16 rfl rfl ?_
    refine g_getIV (pc := 17) dX3_errorPosition_17 fl_X3_67 s_114 (by decide) rfl (show _ = nI 0 from rfl) ?_
    refine g_if_neN (tgt := 30) (pc := 20) dX3_errorPosition_20 (by decide) (by omega) (fun c20 => ?_) (fun c20 => ?_)
    · exact absurd c20 (by decide)
    · refine g_aload_n (pc := 23) dX3_errorPosition_23 rfl rfl ?_
      refine g_getI (pc := 24) dX3_errorPosition_24 fl_X3_19 s_114 (by decide) rfl ?_
      refine g_goto (tgt := 31) (pc := 27) dX3_errorPosition_27 (by decide) ?_
      refine g_iret (pc := 31) dX3_errorPosition_31 rfl rfl ?_
      first | exact ⟨rfl, rfl⟩ | exact ⟨by rw [bI_t (by first | assumption | omega)], rfl⟩ | exact ⟨by rw [bI_f (by first | assumption | omega)], rfl⟩
  · exact absurd h0 c5
theorem m_X3_errorPosition_f (h0 : ¬ (0 : Int32) ≤ I 114 5) : gFn G YX3_errorPosition d [.ref 114] (hp n I L D) (.inl (some (.int (nI 0)))) (hp n (gUp I 114 0 (nI 1)) L D) 0 0 := by
  refine g_aload_n (pc := 0) dX3_errorPosition_0 rfl rfl ?_
  refine g_aload_n (pc := 1) dX3_errorPosition_1 rfl rfl ?_
  refine g_getI (pc := 2) dX3_errorPosition_2 fl_X3_19 s_114 (by decide) rfl ?_
  refine g_if_ge (tgt := 12) (pc := 5) dX3_errorPosition_5 (by decide) (fun c5 => ?_) (fun c5 => ?_)
  · exact absurd c5 h0
  · refine g_iconst (v := nI 1) (pc := 8) dX3_errorPosition_8 rfl ?_
    refine g_goto (tgt := 13) (pc := 9) dX3_errorPosition_9 (by decide) ?_
    refine g_putI (pc := 13) dX3_errorPosition_13 fl_X3_67 s_114 (by decide) rfl rfl rfl rfl ?_
    refine g_aload_n (pc := 16) dX3_errorPosition_16 rfl rfl ?_
    refine g_getIV (pc := 17) dX3_errorPosition_17 fl_X3_67 s_114 (by decide) rfl (show _ = nI 1 from rfl) ?_
    refine g_if_neN (tgt := 30) (pc := 20) dX3_errorPosition_20 (by decide) (by omega) (fun c20 => ?_) (fun c20 => ?_)
    · refine g_iconst (v := nI 0) (pc := 30) dX3_errorPosition_30 rfl ?_
      refine g_iret (pc := 31) dX3_errorPosition_31 rfl rfl ?_
      first | exact ⟨rfl, rfl⟩ | exact ⟨by rw [bI_t (by first | assumption | omega)], rfl⟩ | exact ⟨by rw [bI_f (by first | assumption | omega)], rfl⟩
    · exact absurd c20 (by decide)
theorem l_X3_files (hV : Vok I V) (hW : WF V) (f : Nat) (hf : f ≤ 8) : gGo G YX3_files (d + 2) 9 [some (.ref 114), some (.int (fsI V f)), some (.int (nI f))] [] (hp n I L D) 0 0 (fun o g => o = .inl (some (.int (fsI V 8))) ∧ g = hp n I L D) := by
  induction hk : 8 - f using Nat.strongRecOn generalizing f with
  | _ k ih =>
    refine g_iload_n (pc := 9) dX3_files_9 rfl rfl ?_
    refine g_bipush (v := nI 8) (pc := 10) dX3_files_10 rfl ?_
    refine g_icmp_geN (tgt := 39) (pc := 12) dX3_files_12 (by decide) (by omega) (by omega) (fun c12 => ?_) (fun c12 => ?_)
    · rw [show 8 = f by omega]
      refine g_iload_n (pc := 39) dX3_files_39 rfl rfl ?_
      refine g_iret (pc := 40) dX3_files_40 rfl rfl ?_
      first | exact ⟨rfl, rfl⟩ | exact ⟨by rw [bI_t (by first | assumption | omega)], rfl⟩ | exact ⟨by rw [bI_f (by first | assumption | omega)], rfl⟩
    · have hj : f < 8 := by omega
      refine g_iload_n (pc := 15) dX3_files_15 rfl rfl ?_
      refine g_aload_n (pc := 16) dX3_files_16 rfl rfl ?_
      refine g_iload_n (pc := 17) dX3_files_17 rfl rfl ?_
      refine g_fV (av := [.int _]) (pc := 18) dX3_files_18 mt_X3_isFile lk_X3_87 im_X3_isFile se_X3_isFile np_X3_isFile s_114 (by decide) (by decide) rfl (gc_i gc_0) (Nat.le_of_ble_eq_true rfl) (Nat.le_of_ble_eq_true rfl) ⟨Nat.zero_le _, Nat.zero_le _⟩ (m_X3_isFileN hV hW hj) ?_
      refine g_if_eqB (tgt := 30) (pc := 21) dX3_files_21 (by decide) (fun c21 => ?_) (fun c21 => ?_)
      · have e : fsI V f ||| nI 0 = fsI V (f + 1) := by rw [fsI, if_neg c21]; exact Int32.or_zero
        refine g_iconst (v := nI 0) (pc := 30) dX3_files_30 rfl ?_
        refine g_ior (pc := 31) dX3_files_31 ?_
        refine g_istore_n (pc := 32) dX3_files_32 rfl (Nat.le_of_ble_eq_true rfl) rfl ?_
        rw [e]
        refine g_iincN (pc := 33) dX3_files_33 (Nat.le_of_ble_eq_true rfl) rfl rfl ?_
        refine g_goto (tgt := 9) (pc := 36) dX3_files_36 (by decide) ?_
        exact ih (8 - (f + 1)) (by omega) (f + 1) (by omega) rfl
      · have e : fsI V f ||| (nI 1 <<< (nI f &&& 31)) = fsI V (f + 1) := by rw [fsI, if_pos c21]
        refine g_iconst (v := nI 1) (pc := 24) dX3_files_24 rfl ?_
        refine g_iload_n (pc := 25) dX3_files_25 rfl rfl ?_
        refine g_ishl (pc := 26) dX3_files_26 ?_
        refine g_goto (tgt := 31) (pc := 27) dX3_files_27 (by decide) ?_
        refine g_ior (pc := 31) dX3_files_31 ?_
        refine g_istore_n (pc := 32) dX3_files_32 rfl (Nat.le_of_ble_eq_true rfl) rfl ?_
        rw [e]
        refine g_iincN (pc := 33) dX3_files_33 (Nat.le_of_ble_eq_true rfl) rfl rfl ?_
        refine g_goto (tgt := 9) (pc := 36) dX3_files_36 (by decide) ?_
        exact ih (8 - (f + 1)) (by omega) (f + 1) (by omega) rfl
theorem m_X3_files (hV : Vok I V) (hW : WF V) : gFn G YX3_files (d + 2) [.ref 114] (hp n I L D) (.inl (some (.int (fsI V 8)))) (hp n (gUp I 114 0 (nI 0)) L D) 0 0 := by
  refine g_aload_n (pc := 0) dX3_files_0 rfl rfl ?_
  refine g_iconst (v := nI 0) (pc := 1) dX3_files_1 rfl ?_
  refine g_putI (pc := 2) dX3_files_2 fl_X3_67 s_114 (by decide) rfl rfl rfl rfl ?_
  refine g_iconst (v := nI 0) (pc := 5) dX3_files_5 rfl ?_
  refine g_istore_n (pc := 6) dX3_files_6 rfl (Nat.le_of_ble_eq_true rfl) rfl ?_
  refine g_iconst (v := nI 0) (pc := 7) dX3_files_7 rfl ?_
  refine g_istore_n (pc := 8) dX3_files_8 rfl (Nat.le_of_ble_eq_true rfl) rfl ?_
  exact l_X3_files hV.f hW 0 (by omega)
theorem l_X3_room2 {Q : gQ} {c r : Nat} (e : r = rn V (c + 1)) (hr : rn V (c + 1) ≤ c + 1) (hm : ms V c ≤ c) (hc : c < 240) (k : gGo G YX3_room d 11 [some (.ref 114), some (.int (nI (ms V (c + 1)))), some (.int (nI (rn V (c + 1)))), some (.int (nI (c + 1)))] [] (hp n I L D) 0 0 Q) : gGo G YX3_room d 34 [some (.ref 114), some (.int (nI (ms V c))), some (.int (nI r)), some (.int (nI c))] [] (hp n I L D) 0 0 Q := by
  subst e
  have k' : ∀ m, m = ms V (c + 1) → gGo G YX3_room d 11 [some (.ref 114), some (.int (nI m)), some (.int (nI (rn V (c + 1)))), some (.int (nI (c + 1)))] [] (hp n I L D) 0 0 Q := fun m hm => by subst hm; exact k
  refine g_iload_n (pc := 34) dX3_room_34 rfl rfl ?_
  refine g_iload_n (pc := 35) dX3_room_35 rfl rfl ?_
  refine g_icmp_leN (tgt := 43) (pc := 36) dX3_room_36 (by decide) (by omega) (by omega) (fun c36 => ?_) (fun c36 => ?_)
  · have e : ms V c = ms V (c + 1) := by rw [ms, if_pos c36]
    refine g_iload_n (pc := 43) dX3_room_43 rfl rfl ?_
    refine g_istore_n (pc := 44) dX3_room_44 rfl (Nat.le_of_ble_eq_true rfl) rfl ?_
    refine g_iincN (pc := 45) dX3_room_45 (Nat.le_of_ble_eq_true rfl) rfl rfl ?_
    refine g_goto (tgt := 11) (pc := 48) dX3_room_48 (by decide) ?_
    exact k' _ e
  · have e : rn V (c + 1) = ms V (c + 1) := by rw [ms, if_neg c36]
    refine g_iload_n (pc := 39) dX3_room_39 rfl rfl ?_
    refine g_goto (tgt := 44) (pc := 40) dX3_room_40 (by decide) ?_
    refine g_istore_n (pc := 44) dX3_room_44 rfl (Nat.le_of_ble_eq_true rfl) rfl ?_
    refine g_iincN (pc := 45) dX3_room_45 (Nat.le_of_ble_eq_true rfl) rfl rfl ?_
    refine g_goto (tgt := 11) (pc := 48) dX3_room_48 (by decide) ?_
    exact k' _ e
theorem l_X3_room (hV : Vok I V) (hW : WF V) (c : Nat) (hc : c ≤ 240) : gGo G YX3_room (d + 4) 11 [some (.ref 114), some (.int (nI (ms V c))), some (.int (nI (rn V c))), some (.int (nI c))] [] (hp n I L D) 0 0 (fun o g => o = .inl (some (.int (nI (ms V 240)))) ∧ g = hp n I L D) := by
  induction hk : 240 - c using Nat.strongRecOn generalizing c with
  | _ k ih =>
    have hm := ms_le V c
    have hr := rn_le V c
    refine g_iload_n (pc := 11) dX3_room_11 rfl rfl ?_
    refine g_sipush (v := nI 240) (pc := 12) dX3_room_12 rfl ?_
    refine g_icmp_geN (tgt := 51) (pc := 15) dX3_room_15 (by decide) (by omega) (by omega) (fun c15 => ?_) (fun c15 => ?_)
    · rw [show 240 = c by omega]
      refine g_iload_n (pc := 51) dX3_room_51 rfl rfl ?_
      refine g_iret (pc := 52) dX3_room_52 rfl rfl ?_
      first | exact ⟨rfl, rfl⟩ | exact ⟨by rw [bI_t (by first | assumption | omega)], rfl⟩ | exact ⟨by rw [bI_f (by first | assumption | omega)], rfl⟩
    · have hc2 : c < 240 := by omega
      refine g_aload_n (pc := 18) dX3_room_18 rfl rfl ?_
      refine g_iload_n (pc := 19) dX3_room_19 rfl rfl ?_
      refine g_fV (av := [.int _]) (pc := 20) dX3_room_20 mt_X3_ownerOf lk_X3_111 im_X3_ownerOf se_X3_ownerOf np_X3_ownerOf s_114 (by decide) (by decide) rfl (gc_i gc_0) (Nat.le_of_ble_eq_true rfl) (Nat.le_of_ble_eq_true rfl) ⟨Nat.zero_le _, Nat.zero_le _⟩ (m_X3_ownerOf hV hW hc2) ?_
      refine g_if_ge (tgt := 32) (pc := 23) dX3_room_23 (by decide) (fun c23 => ?_) (fun c23 => ?_)
      · have e : 0 = rn V (c + 1) := by rw [rn, if_neg (ownI_ge.mp c23)]
        refine g_iconst (v := nI 0) (pc := 32) dX3_room_32 rfl ?_
        refine g_istore_n (pc := 33) dX3_room_33 rfl (Nat.le_of_ble_eq_true rfl) rfl ?_
        have hr2 := rn_le V (c + 1)
        exact l_X3_room2 e hr2 hm hc2 (ih (240 - (c + 1)) (by omega) (c + 1) (by omega) rfl)
      · have e : rn V c + 1 = rn V (c + 1) := by rw [rn, if_pos (ownI_lt.mp (by rw [Int32.lt_iff_toInt_lt]; rw [Int32.le_iff_toInt_le] at c23; omega))]
        refine g_iload_n (pc := 26) dX3_room_26 rfl rfl ?_
        refine g_iconst (v := nI 1) (pc := 27) dX3_room_27 rfl ?_
        refine g_iaddN (pc := 28) dX3_room_28 ?_
        refine g_goto (tgt := 33) (pc := 29) dX3_room_29 (by decide) ?_
        refine g_istore_n (pc := 33) dX3_room_33 rfl (Nat.le_of_ble_eq_true rfl) rfl ?_
        have hr2 := rn_le V (c + 1)
        exact l_X3_room2 e hr2 hm hc2 (ih (240 - (c + 1)) (by omega) (c + 1) (by omega) rfl)
theorem m_X3_room (hV : Vok I V) (hW : WF V) : gFn G YX3_room (d + 4) [.ref 114] (hp n I L D) (.inl (some (.int (nI (ms V 240))))) (hp n (gUp I 114 0 (nI 0)) L D) 0 0 := by
  refine g_aload_n (pc := 0) dX3_room_0 rfl rfl ?_
  refine g_iconst (v := nI 0) (pc := 1) dX3_room_1 rfl ?_
  refine g_putI (pc := 2) dX3_room_2 fl_X3_67 s_114 (by decide) rfl rfl rfl rfl ?_
  refine g_iconst (v := nI 0) (pc := 5) dX3_room_5 rfl ?_
  refine g_istore_n (pc := 6) dX3_room_6 rfl (Nat.le_of_ble_eq_true rfl) rfl ?_
  refine g_iconst (v := nI 0) (pc := 7) dX3_room_7 rfl ?_
  refine g_istore_n (pc := 8) dX3_room_8 rfl (Nat.le_of_ble_eq_true rfl) rfl ?_
  refine g_iconst (v := nI 0) (pc := 9) dX3_room_9 rfl ?_
  refine g_istore_n (pc := 10) dX3_room_10 rfl (Nat.le_of_ble_eq_true rfl) rfl ?_
  exact l_X3_room hV.f hW 0 (by omega)
end

