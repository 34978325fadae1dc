/-! ===== the questions that decode (b) ===== -/
noncomputable def dqC (V : Nat → Nat) (j b q : Nat) : Nat := if q = 0 then 0 else if isD V j b = true then 0 else 3
noncomputable def dqV (V : Nat → Nat) (j b q : Nat) : Nat := if q = 0 then ern V j b else if isD V j b = true then (if q = 1 then dcN V j b else dcE V j b) else 0
noncomputable def foC (V : Nat → Nat) (j b : Nat) : Nat := if isD V j b = true then 0 else 2
noncomputable def foV (V : Nat → Nat) (j b i : Nat) : Nat := if isD V j b = true then (dcX V j b i).val else 0
noncomputable def maV (V : Nat → Nat) (j b : Nat) : Nat := if isD V j b = true then V (10 * j + 2) - 2 * dcN V j b - ern V j b else 0
/-- how much scrubbing needs -/
noncomputable def ndB (V : Nat → Nat) (j : Nat) (s : Nat) : Nat → Nat
  | 0 => s
  | b + 1 => if V (10 * j + (6 + b)) = V 800 then ndB V j s b else ndB V j s b + (1 + (if isD V j b = true then dcN V j b + ern V j b else 0))
noncomputable def ndF (V : Nat → Nat) : Nat → Nat
  | 0 => 0
  | j + 1 => ndB V j (ndF V j) (if V (10 * j) = 1 then bl V j else 0)
theorem dd_le {V : Nat → Nat} {j b : Nat} (hw : WFj V j) : (if isD V j b = true then dcN V j b + ern V j b else 0) ≤ 6 := by
  by_cases h : isD V j b = true
  · rw [if_pos h]
    have := (dc_some h).2.2
    have := hw.2.2.1
    omega
  · rw [if_neg h]; decide
theorem ndB_le {V : Nat → Nat} {j s : Nat} (hw : WFj V j) : ∀ b, ndB V j s b ≤ s + 7 * b
  | 0 => Nat.le_refl _
  | b + 1 => by
    have ih := ndB_le (s := s) hw b
    have := dd_le (b := b) hw
    unfold ndB
    split <;> omega
theorem ndF_le {V : Nat → Nat} (hW : WF V) : ∀ j, j ≤ 8 → ndF V j ≤ 28 * j
  | 0, _ => Nat.le_refl _
  | j + 1, hj => by
    have ih := ndF_le hW j (by omega)
    have hw := hW.1 j (by omega)
    have h1 := ndB_le (s := ndF V j) hw (if V (10 * j) = 1 then bl V j else 0)
    have h2 := bl_le hw
    have h3 : (if V (10 * j) = 1 then bl V j else 0) ≤ 4 := by split <;> omega
    have e : ndF V (j + 1) = ndB V j (ndF V j) (if V (10 * j) = 1 then bl V j else 0) := rfl
    omega
theorem dK.t {I J K : Nat → Nat → Int32} (h : dK I J) (k : dK J K) : dK I K := ⟨Sm.trans h.1 k.1, Sc.trans h.2.1 k.2.1, k.2.2⟩
theorem dK.r {I : Nat → Nat → Int32} (h : MX I) : dK I I := ⟨Sm.rfl, Sc.rfl, h.2⟩
theorem MX.no {I : Nat → Nat → Int32} {x : Int32} {j : Nat} (h : MX I) : MX (gUp I 114 j x) := h.o (by decide) (by decide) (by decide) (by decide)
section
variable {G : gG} {d n : Nat} {I : Nat → Nat → Int32} {L : Nat → Nat → Int64} {D : Nat → Nat → UInt64} {V : Nat → Nat}
theorem m_X3_decoded_0 (hV : Vok I V) (hW : WF V) (hX : MX I) {j b q : Nat} (hj : j < 8) (h1 : V (10 * j) = 1) (hb : b < bl V j) (hq : q ≤ 2) : gRi G YX3_decoded (d + 5) [.ref 114, .int (nI j), .int (nI b), .int (nI q)] n I L D (fun v J => v = nI (dqV V j b q) ∧ QF I J (dqC V j b q)) := by
  have hsz := sz_le (hW.1 j hj)
  have he := erN_lt (V := V) (j := j) (b := b)
  have hp := p14 hsz.1
  refine g_aload_n (pc := 0) dX3_decoded_0 rfl rfl ?_
  refine g_iload_n (pc := 1) dX3_decoded_1 rfl rfl ?_
  refine g_iload_n (pc := 2) dX3_decoded_2 rfl rfl ?_
  refine g_fV (av := [.int _, .int _]) (pc := 3) dX3_decoded_3 mt_X3_isThere lk_X3_199 im_X3_isThere se_X3_isThere np_X3_isThere s_114 (by decide) (by decide) rfl (gc_i (gc_i gc_0)) (Nat.le_of_ble_eq_true rfl) (Nat.le_of_ble_eq_true rfl) ⟨Nat.zero_le _, Nat.zero_le _⟩ (m_X3_isThere_t hV hW hj h1 hb) ?_
  refine g_if_neN (tgt := 11) (pc := 6) dX3_decoded_6 (by decide) (by omega) (fun c6 => ?_) (fun c6 => ?_)
  rotate_left
  · exact absurd c6 (by decide)
  refine g_iload_n (pc := 11) dX3_decoded_11 rfl rfl ?_
  refine g_iconst (v := nI 0) (pc := 12) dX3_decoded_12 rfl ?_
  refine g_iconst (v := nI 2) (pc := 13) dX3_decoded_13 rfl ?_
  refine g_fS (av := [.int _, .int _, .int _]) (pc := 14) dX3_decoded_14 mt_X3_isIn lk_X3_73 sf_X3_isIn np_X3_isIn rfl (gc_i (gc_i (gc_i gc_0))) (Nat.le_of_ble_eq_true rfl) (Nat.le_of_ble_eq_true rfl) ⟨Nat.zero_le _, Nat.zero_le _⟩ (m_X3_isInN (by omega) (by omega) (by omega)) ?_
  refine g_if_neB (tgt := 26) (pc := 17) dX3_decoded_17 (by decide) (fun c17 => ?_) (fun c17 => ?_)
  rotate_left
  · exact absurd ⟨Nat.zero_le _, by omega⟩ c17
  refine g_aload_n (pc := 26) dX3_decoded_26 rfl rfl ?_
  refine g_iload_n (pc := 27) dX3_decoded_27 rfl rfl ?_
  refine g_iload_n (pc := 28) dX3_decoded_28 rfl rfl ?_
  refine g_riV (av := [.int _, .int _]) (pc := 29) dX3_decoded_29 mt_X3_isDecoded_ lk_X3_202 im_X3_isDecoded_ se_X3_isDecoded_ np_X3_isDecoded_ s_114 (by decide) (by decide) rfl (gc_i (gc_i gc_0)) (Nat.le_of_ble_eq_true rfl) (Nat.le_of_ble_eq_true rfl) (m_X3_isDecoded_ hV.f hW hX.no hj h1 hb) ?_
  rintro _ I1 ⟨rfl, k1, k2, k3, k4, k5, k6⟩
  refine g_istore (pc := 32) dX3_decoded_32 (Nat.le_of_ble_eq_true rfl) rfl ?_
  refine g_iload_n (pc := 34) dX3_decoded_34 rfl rfl ?_
  refine g_if_neN (tgt := 46) (pc := 35) dX3_decoded_35 (by decide) (by omega) (fun c35 => ?_) (fun c35 => ?_)
  · refine g_iload (pc := 46) dX3_decoded_46 rfl ?_
    refine g_if_neB (tgt := 59) (pc := 48) dX3_decoded_48 (by decide) (fun c48 => ?_) (fun c48 => ?_)
    · refine g_iload_n (pc := 59) dX3_decoded_59 rfl rfl ?_
      refine g_iconst (v := nI 1) (pc := 60) dX3_decoded_60 rfl ?_
      refine g_icmp_neN (tgt := 71) (pc := 61) dX3_decoded_61 (by decide) (by omega) (by omega) (fun c61 => ?_) (fun c61 => ?_)
      · refine g_aload_n (pc := 71) dX3_decoded_71 rfl rfl ?_
        refine g_getIV (pc := 72) dX3_decoded_72 fl_X3_187 s_114 (by decide) rfl (k6 c48).1 ?_
        refine g_iret (pc := 75) dX3_decoded_75 rfl rfl ?_
        refine ⟨_, _, ⟨rfl, rfl⟩, ?_⟩
        unfold dqV dqC
        rw [if_neg c35, if_neg c35]
        first
          | (rw [if_neg c48, if_neg c48]; exact ⟨rfl, (dK.q k1).no⟩)
          | (rw [if_pos c48, if_pos c48, if_pos c61]; exact ⟨rfl, dK.q k1⟩)
          | (rw [if_pos c48, if_pos c48, if_neg c61]; exact ⟨rfl, dK.q k1⟩)
      · refine g_aload_n (pc := 64) dX3_decoded_64 rfl rfl ?_
        refine g_getIV (pc := 65) dX3_decoded_65 fl_X3_184 s_114 (by decide) rfl (k6 c48).2.1 ?_
        refine g_goto (tgt := 75) (pc := 68) dX3_decoded_68 (by decide) ?_
        refine g_iret (pc := 75) dX3_decoded_75 rfl rfl ?_
        refine ⟨_, _, ⟨rfl, rfl⟩, ?_⟩
        unfold dqV dqC
        rw [if_neg c35, if_neg c35]
        first
          | (rw [if_neg c48, if_neg c48]; exact ⟨rfl, (dK.q k1).no⟩)
          | (rw [if_pos c48, if_pos c48, if_pos c61]; exact ⟨rfl, dK.q k1⟩)
          | (rw [if_pos c48, if_pos c48, if_neg c61]; exact ⟨rfl, dK.q k1⟩)
    · refine g_aload_n (pc := 51) dX3_decoded_51 rfl rfl ?_
      refine g_iconst (v := nI 3) (pc := 52) dX3_decoded_52 rfl ?_
      refine g_fV (av := [.int _]) (pc := 53) dX3_decoded_53 mt_X3_no lk_X3_124 im_X3_no se_X3_no np_X3_no s_114 (by decide) (by decide) rfl (gc_i gc_0) (Nat.le_of_ble_eq_true rfl) (Nat.le_of_ble_eq_true rfl) ⟨Nat.zero_le _, Nat.zero_le _⟩ (m_X3_no) ?_
      refine g_goto (tgt := 75) (pc := 56) dX3_decoded_56 (by decide) ?_
      refine g_iret (pc := 75) dX3_decoded_75 rfl rfl ?_
      refine ⟨_, _, ⟨rfl, rfl⟩, ?_⟩
      unfold dqV dqC
      rw [if_neg c35, if_neg c35]
      first
        | (rw [if_neg c48, if_neg c48]; exact ⟨rfl, (dK.q k1).no⟩)
        | (rw [if_pos c48, if_pos c48, if_pos c61]; exact ⟨rfl, dK.q k1⟩)
        | (rw [if_pos c48, if_pos c48, if_neg c61]; exact ⟨rfl, dK.q k1⟩)
  · refine g_aload_n (pc := 38) dX3_decoded_38 rfl rfl ?_
    refine g_getIV (pc := 39) dX3_decoded_39 fl_X3_138 s_114 (by decide) rfl k4 ?_
    refine g_fS (av := [.int _]) (pc := 42) dX3_decoded_42 mt_X3_bits lk_X3_175 sf_X3_bits np_X3_bits rfl (gc_i gc_0) (Nat.le_of_ble_eq_true rfl) (Nat.le_of_ble_eq_true rfl) ⟨Nat.zero_le _, Nat.zero_le _⟩ (m_X3_bits (by omega)) ?_
    refine g_iret (pc := 45) dX3_decoded_45 rfl rfl ?_
    refine ⟨_, _, ⟨rfl, rfl⟩, ?_⟩
    unfold dqV dqC
    rw [if_pos c35, if_pos c35]
    exact ⟨rfl, dK.q k1⟩
theorem m_X3_found_1 (hV : Vok I V) (hW : WF V) {f b i : Int32} (hb : ¬ ∃ j k l, j < 8 ∧ V (10 * j) = 1 ∧ k < bl V j ∧ l < sz V j ∧ f = nI j ∧ b = nI k ∧ i = nI l) : gFn G YX3_found (d + 5) [.ref 114, .int f, .int b, .int i] (hp n I L D) (.inl (some (.int (nI 0)))) (hp n (gUp I 114 0 (nI 1)) L D) 0 0 := by
  refine g_aload_n (pc := 0) dX3_found_0 rfl rfl ?_
  refine g_iload_n (pc := 1) dX3_found_1 rfl rfl ?_
  refine g_iload_n (pc := 2) dX3_found_2 rfl rfl ?_
  refine g_iload_n (pc := 3) dX3_found_3 rfl rfl ?_
  refine g_fV (av := [.int _, .int _, .int _]) (pc := 4) dX3_found_4 mt_X3_isPlace lk_X3_157 im_X3_isPlace se_X3_isPlace np_X3_isPlace s_114 (by decide) (by decide) rfl (gc_i (gc_i (gc_i gc_0))) (Nat.le_of_ble_eq_true rfl) (Nat.le_of_ble_eq_true rfl) ⟨Nat.zero_le _, Nat.zero_le _⟩ (m_X3_isPlace_f hV hW hb) ?_
  refine g_if_neN (tgt := 12) (pc := 7) dX3_found_7 (by decide) (by omega) (fun c7 => ?_) (fun c7 => ?_)
  · exact absurd c7 (by decide)
  · refine g_iconst (v := nI 0) (pc := 10) dX3_found_10 rfl ?_
    refine g_iret (pc := 11) dX3_found_11 rfl rfl ?_
    first | exact ⟨rfl, rfl⟩ | exact ⟨by rw [bI_t (by first | assumption | omega)], rfl⟩ | exact ⟨by rw [bI_f (by first | assumption | omega)], rfl⟩
theorem m_X3_found_0 (hV : Vok I V) (hW : WF V) (hX : MX I) {j b i : Nat} (hj : j < 8) (h1 : V (10 * j) = 1) (hb : b < bl V j) (hi : i < sz V j) : gRi G YX3_found (d + 5) [.ref 114, .int (nI j), .int (nI b), .int (nI i)] n I L D (fun v J => v = nI (foV V j b i) ∧ QF I J (foC V j b)) := by
  have hsz := sz_le (hW.1 j hj)
  refine g_aload_n (pc := 0) dX3_found_0 rfl rfl ?_
  refine g_iload_n (pc := 1) dX3_found_1 rfl rfl ?_
  refine g_iload_n (pc := 2) dX3_found_2 rfl rfl ?_
  refine g_iload_n (pc := 3) dX3_found_3 rfl rfl ?_
  refine g_fV (av := [.int _, .int _, .int _]) (pc := 4) dX3_found_4 mt_X3_isPlace lk_X3_157 im_X3_isPlace se_X3_isPlace np_X3_isPlace s_114 (by decide) (by decide) rfl (gc_i (gc_i (gc_i gc_0))) (Nat.le_of_ble_eq_true rfl) (Nat.le_of_ble_eq_true rfl) ⟨Nat.zero_le _, Nat.zero_le _⟩ (m_X3_isPlace_t hV hW hj h1 hb hi) ?_
  refine g_if_neN (tgt := 12) (pc := 7) dX3_found_7 (by decide) (by omega) (fun c7 => ?_) (fun c7 => ?_)
  rotate_left
  · exact absurd c7 (by decide)
  refine g_aload_n (pc := 12) dX3_found_12 rfl rfl ?_
  refine g_iload_n (pc := 13) dX3_found_13 rfl rfl ?_
  refine g_iload_n (pc := 14) dX3_found_14 rfl rfl ?_
  refine g_riV (av := [.int _, .int _]) (pc := 15) dX3_found_15 mt_X3_isDecoded_ lk_X3_202 im_X3_isDecoded_ se_X3_isDecoded_ np_X3_isDecoded_ s_114 (by decide) (by decide) rfl (gc_i (gc_i gc_0)) (Nat.le_of_ble_eq_true rfl) (Nat.le_of_ble_eq_true rfl) (m_X3_isDecoded_ hV.f hW hX.no hj h1 hb) ?_
  rintro _ I1 ⟨rfl, k1, k2, k3, k4, k5, k6⟩
  refine g_if_eqB (tgt := 30) (pc := 18) dX3_found_18 (by decide) (fun c18 => ?_) (fun c18 => ?_)
  · refine g_aload_n (pc := 30) dX3_found_30 rfl rfl ?_
    refine g_iconst (v := nI 2) (pc := 31) dX3_found_31 rfl ?_
    refine g_fV (av := [.int _]) (pc := 32) dX3_found_32 mt_X3_no lk_X3_124 im_X3_no se_X3_no np_X3_no s_114 (by decide) (by decide) rfl (gc_i gc_0) (Nat.le_of_ble_eq_true rfl) (Nat.le_of_ble_eq_true rfl) ⟨Nat.zero_le _, Nat.zero_le _⟩ (m_X3_no) ?_
    refine g_iret (pc := 35) dX3_found_35 rfl rfl ?_
    refine ⟨_, _, ⟨rfl, rfl⟩, ?_⟩
    unfold foV foC
    first
      | (rw [if_neg c18, if_neg c18]; exact ⟨rfl, (dK.q k1).no⟩)
      | (rw [if_pos c18, if_pos c18]; exact ⟨rfl, dK.q k1⟩)
  · refine g_aload_n (pc := 21) dX3_found_21 rfl rfl ?_
    refine g_getR (pc := 22) dX3_found_22 fl_X3_45 s_114 (by decide) rfl t_114_18 ?_
    refine g_iload_n (pc := 25) dX3_found_25 rfl rfl ?_
    refine g_ialoadN (pc := 26) dX3_found_26 s_125 (by decide) (by omega) (by decide) ((k6 c18).2.2 i hi) ?_
    refine g_goto (tgt := 35) (pc := 27) dX3_found_27 (by decide) ?_
    refine g_iret (pc := 35) dX3_found_35 rfl rfl ?_
    refine ⟨_, _, ⟨rfl, rfl⟩, ?_⟩
    unfold foV foC
    first
      | (rw [if_neg c18, if_neg c18]; exact ⟨rfl, (dK.q k1).no⟩)
      | (rw [if_pos c18, if_pos c18]; exact ⟨rfl, dK.q k1⟩)
theorem m_X3_read_1 (hV : Vok I V) (hW : WF V) {f i : Int32} (hb : ¬ ∃ j l, j < 8 ∧ V (10 * j) = 1 ∧ l < V (10 * j + 1) ∧ f = nI j ∧ i = nI l) : gFn G YX3_read (d + 5) [.ref 114, .int f, .int i] (hp n I L D) (.inl (some (.int (nI 0)))) (hp n (gUp I 114 0 (nI 1)) L D) 0 0 := by
  refine g_aload_n (pc := 0) dX3_read_0 rfl rfl ?_
  refine g_aload_n (pc := 1) dX3_read_1 rfl rfl ?_
  refine g_iload_n (pc := 2) dX3_read_2 rfl rfl ?_
  refine g_fV (av := [.int _]) (pc := 3) dX3_read_3 mt_X3_isFile lk_X3_87 im_X3_isFile se_X3_isFile np_X3_isFile s_114 (by decide) (by decide) rfl (gc_i gc_0) (Nat.le_of_ble_eq_true rfl) (Nat.le_of_ble_eq_true rfl) ⟨Nat.zero_le _, Nat.zero_le _⟩ (m_X3_isFile hV hW) ?_
  refine g_if_eqB (tgt := 29) (pc := 6) dX3_read_6 (by decide) (fun c6 => ?_) (fun c6 => ?_)
  · refine g_iconst (v := nI 1) (pc := 29) dX3_read_29 rfl ?_
    refine g_putI (pc := 30) dX3_read_30 fl_X3_67 s_114 (by decide) rfl rfl rfl rfl ?_
    refine g_aload_n (pc := 33) dX3_read_33 rfl rfl ?_
    refine g_getIV (pc := 34) dX3_read_34 fl_X3_67 s_114 (by decide) rfl (show _ = nI 1 from rfl) ?_
    refine g_iconst (v := nI 1) (pc := 37) dX3_read_37 rfl ?_
    refine g_icmp_neN (tgt := 43) (pc := 38) dX3_read_38 (by decide) (by omega) (by omega) (fun c38 => ?_) (fun c38 => ?_)
    · exact absurd c38 (by decide)
    · refine g_iconst (v := nI 0) (pc := 41) dX3_read_41 rfl ?_
      refine g_iret (pc := 42) dX3_read_42 rfl rfl ?_
      first | exact ⟨rfl, rfl⟩ | exact ⟨by rw [bI_t (by first | assumption | omega)], rfl⟩ | exact ⟨by rw [bI_f (by first | assumption | omega)], rfl⟩
  · obtain ⟨j, hj, rfl⟩ := nI_7 c6.1
    have h1 := (isFi_n hj).mp c6
    have hn1 := ((hW.1 j hj).2.2.2.2.2.2.2.2 h1).1
    have hn2 := (hW.1 j hj).2.1
    refine g_iload_n (pc := 9) dX3_read_9 rfl rfl ?_
    refine g_iconst (v := nI 0) (pc := 10) dX3_read_10 rfl ?_
    refine g_aload_n (pc := 11) dX3_read_11 rfl rfl ?_
    refine g_iload_n (pc := 12) dX3_read_12 rfl rfl ?_
    refine g_iconst (v := nI 1) (pc := 13) dX3_read_13 rfl ?_
    refine g_fV (av := [.int _, .int _]) (pc := 14) dX3_read_14 mt_X3_of lk_X3_77 im_X3_of se_X3_of np_X3_of s_114 (by decide) (by decide) rfl (gc_i (gc_i gc_0)) (Nat.le_of_ble_eq_true rfl) (Nat.le_of_ble_eq_true rfl) ⟨Nat.zero_le _, Nat.zero_le _⟩ (m_X3_of hV (j := j) (w := 1) hj (by decide)) ?_
    refine g_iconst (v := nI 1) (pc := 17) dX3_read_17 rfl ?_
    refine g_isubN (pc := 18) dX3_read_18 (by omega) ?_
    refine g_fS (av := [.int _, .int _, .int _]) (pc := 19) dX3_read_19 mt_X3_isIn lk_X3_73 sf_X3_isIn np_X3_isIn rfl (gc_i (gc_i (gc_i gc_0))) (Nat.le_of_ble_eq_true rfl) (Nat.le_of_ble_eq_true rfl) ⟨Nat.zero_le _, Nat.zero_le _⟩ (m_X3_isIn) ?_
    refine g_if_eqB (tgt := 29) (pc := 22) dX3_read_22 (by decide) (fun c22 => ?_) (fun c22 => ?_)
    · refine g_iconst (v := nI 1) (pc := 29) dX3_read_29 rfl ?_
      refine g_putI (pc := 30) dX3_read_30 fl_X3_67 s_114 (by decide) rfl rfl rfl rfl ?_
      refine g_aload_n (pc := 33) dX3_read_33 rfl rfl ?_
      refine g_getIV (pc := 34) dX3_read_34 fl_X3_67 s_114 (by decide) rfl (show _ = nI 1 from rfl) ?_
      refine g_iconst (v := nI 1) (pc := 37) dX3_read_37 rfl ?_
      refine g_icmp_neN (tgt := 43) (pc := 38) dX3_read_38 (by decide) (by omega) (by omega) (fun c38 => ?_) (fun c38 => ?_)
      · exact absurd c38 (by decide)
      · refine g_iconst (v := nI 0) (pc := 41) dX3_read_41 rfl ?_
        refine g_iret (pc := 42) dX3_read_42 rfl rfl ?_
        first | exact ⟨rfl, rfl⟩ | exact ⟨by rw [bI_t (by first | assumption | omega)], rfl⟩ | exact ⟨by rw [bI_f (by first | assumption | omega)], rfl⟩
    · obtain ⟨l, hl, rfl⟩ := nI_rng (by omega) c22
      exact absurd ⟨j, l, hj, h1, by omega, rfl, rfl⟩ hb
theorem m_X3_read_0 (hV : Vok I V) (hW : WF V) (hX : MX I) {j i : Nat} (hj : j < 8) (h1 : V (10 * j) = 1) (hi : i < V (10 * j + 1)) : gRi G YX3_read (d + 5) [.ref 114, .int (nI j), .int (nI i)] n I L D (fun v J => v = nI (foV V j (i / 8) (V (10 * j + 2) + i % 8)) ∧ QF I J (foC V j (i / 8))) := by
  have hw := hW.1 j hj
  have hsz := sz_le hw
  have hn2 := hw.2.1
  have hc6 := hw.2.2.1
  have hb : i / 8 < bl V j := by unfold bl; omega
  have hpl : V (10 * j + 2) + i % 8 < sz V j := by unfold sz; omega
  refine g_aload_n (pc := 0) dX3_read_0 rfl rfl ?_
  refine g_aload_n (pc := 1) dX3_read_1 rfl rfl ?_
  refine g_iload_n (pc := 2) dX3_read_2 rfl rfl ?_
  refine g_fV (av := [.int _]) (pc := 3) dX3_read_3 mt_X3_isFile lk_X3_87 im_X3_isFile se_X3_isFile np_X3_isFile s_114 (by decide) (by decide) rfl (gc_i gc_0) (Nat.le_of_ble_eq_true rfl) (Nat.le_of_ble_eq_true rfl) ⟨Nat.zero_le _, Nat.zero_le _⟩ (m_X3_isFileN hV hW hj) ?_
  refine g_if_eqB (tgt := 29) (pc := 6) dX3_read_6 (by decide) (fun c6 => ?_) (fun c6 => ?_)
  · exact absurd h1 c6
  refine g_iload_n (pc := 9) dX3_read_9 rfl rfl ?_
  refine g_iconst (v := nI 0) (pc := 10) dX3_read_10 rfl ?_
  refine g_aload_n (pc := 11) dX3_read_11 rfl rfl ?_
  refine g_iload_n (pc := 12) dX3_read_12 rfl rfl ?_
  refine g_iconst (v := nI 1) (pc := 13) dX3_read_13 rfl ?_
  refine g_fV (av := [.int _, .int _]) (pc := 14) dX3_read_14 mt_X3_of lk_X3_77 im_X3_of se_X3_of np_X3_of s_114 (by decide) (by decide) rfl (gc_i (gc_i gc_0)) (Nat.le_of_ble_eq_true rfl) (Nat.le_of_ble_eq_true rfl) ⟨Nat.zero_le _, Nat.zero_le _⟩ (m_X3_of hV (j := j) (w := 1) hj (by decide)) ?_
  refine g_iconst (v := nI 1) (pc := 17) dX3_read_17 rfl ?_
  refine g_isubN (pc := 18) dX3_read_18 (by omega) ?_
  refine g_fS (av := [.int _, .int _, .int _]) (pc := 19) dX3_read_19 mt_X3_isIn lk_X3_73 sf_X3_isIn np_X3_isIn rfl (gc_i (gc_i (gc_i gc_0))) (Nat.le_of_ble_eq_true rfl) (Nat.le_of_ble_eq_true rfl) ⟨Nat.zero_le _, Nat.zero_le _⟩ (m_X3_isInN (by omega) (by omega) (by omega)) ?_
  refine g_if_eqB (tgt := 29) (pc := 22) dX3_read_22 (by decide) (fun c22 => ?_) (fun c22 => ?_)
  · exact absurd ⟨Nat.zero_le _, by omega⟩ c22
  refine g_iconst (v := nI 0) (pc := 25) dX3_read_25 rfl ?_
  refine g_goto (tgt := 30) (pc := 26) dX3_read_26 (by decide) ?_
  refine g_putI (pc := 30) dX3_read_30 fl_X3_67 s_114 (by decide) rfl rfl rfl rfl ?_
  refine g_aload_n (pc := 33) dX3_read_33 rfl rfl ?_
  refine g_getIV (pc := 34) dX3_read_34 fl_X3_67 s_114 (by decide) rfl (show _ = nI 0 from rfl) ?_
  refine g_iconst (v := nI 1) (pc := 37) dX3_read_37 rfl ?_
  refine g_icmp_neN (tgt := 43) (pc := 38) dX3_read_38 (by decide) (by omega) (by omega) (fun c38 => ?_) (fun c38 => ?_)
  rotate_left
  · exact absurd c38 (by decide)
  refine g_aload_n (pc := 43) dX3_read_43 rfl rfl ?_
  refine g_iload_n (pc := 44) dX3_read_44 rfl rfl ?_
  refine g_iload_n (pc := 45) dX3_read_45 rfl rfl ?_
  refine g_bipush (v := nI 8) (pc := 46) dX3_read_46 rfl ?_
  refine g_idivN (pc := 48) dX3_read_48 (by omega) (by omega) (by omega) ?_
  refine g_riV (av := [.int _, .int _]) (pc := 49) dX3_read_49 mt_X3_isDecoded_ lk_X3_202 im_X3_isDecoded_ se_X3_isDecoded_ np_X3_isDecoded_ s_114 (by decide) (by decide) rfl (gc_i (gc_i gc_0)) (Nat.le_of_ble_eq_true rfl) (Nat.le_of_ble_eq_true rfl) (m_X3_isDecoded_ hV.f hW hX.no hj h1 hb) ?_
  rintro _ I1 ⟨rfl, k1, k2, k3, k4, k5, k6⟩
  refine g_if_eqB (tgt := 74) (pc := 52) dX3_read_52 (by decide) (fun c52 => ?_) (fun c52 => ?_)
  · refine g_aload_n (pc := 74) dX3_read_74 rfl rfl ?_
    refine g_iconst (v := nI 2) (pc := 75) dX3_read_75 rfl ?_
    refine g_fV (av := [.int _]) (pc := 76) dX3_read_76 mt_X3_no lk_X3_124 im_X3_no se_X3_no np_X3_no s_114 (by decide) (by decide) rfl (gc_i gc_0) (Nat.le_of_ble_eq_true rfl) (Nat.le_of_ble_eq_true rfl) ⟨Nat.zero_le _, Nat.zero_le _⟩ (m_X3_no) ?_
    refine g_iret (pc := 79) dX3_read_79 rfl rfl ?_
    refine ⟨_, _, ⟨rfl, rfl⟩, ?_⟩
    unfold foV foC
    first
      | (rw [if_neg c52, if_neg c52]; exact ⟨rfl, (dK.q k1).no⟩)
      | (rw [if_pos c52, if_pos c52]; exact ⟨rfl, dK.q k1⟩)
  · refine g_aload_n (pc := 55) dX3_read_55 rfl rfl ?_
    refine g_getR (pc := 56) dX3_read_56 fl_X3_45 s_114 (by decide) rfl t_114_18 ?_
    refine g_aload_n (pc := 59) dX3_read_59 rfl rfl ?_
    refine g_iload_n (pc := 60) dX3_read_60 rfl rfl ?_
    refine g_iconst (v := nI 2) (pc := 61) dX3_read_61 rfl ?_
    refine g_fV (av := [.int _, .int _]) (pc := 62) dX3_read_62 mt_X3_of lk_X3_77 im_X3_of se_X3_of np_X3_of s_114 (by decide) (by decide) rfl (gc_i (gc_i gc_0)) (Nat.le_of_ble_eq_true rfl) (Nat.le_of_ble_eq_true rfl) ⟨Nat.zero_le _, Nat.zero_le _⟩ (m_X3_of (Vok.s hV.f k1.1 (by decide)) (j := j) (w := 2) hj (by decide)) ?_
    refine g_iload_n (pc := 65) dX3_read_65 rfl rfl ?_
    refine g_bipush (v := nI 8) (pc := 66) dX3_read_66 rfl ?_
    refine g_iremN (pc := 68) dX3_read_68 (by omega) (by omega) (by omega) ?_
    refine g_iaddN (pc := 69) dX3_read_69 ?_
    refine g_ialoadN (pc := 70) dX3_read_70 s_125 (by decide) (by omega) (by decide) ((k6 c52).2.2 _ hpl) ?_
    refine g_goto (tgt := 79) (pc := 71) dX3_read_71 (by decide) ?_
    refine g_iret (pc := 79) dX3_read_79 rfl rfl ?_
    refine ⟨_, _, ⟨rfl, rfl⟩, ?_⟩
    unfold foV foC
    first
      | (rw [if_neg c52, if_neg c52]; exact ⟨rfl, (dK.q k1).no⟩)
      | (rw [if_pos c52, if_pos c52]; exact ⟨rfl, dK.q k1⟩)
theorem m_X3_margin_1 (hV : Vok I V) (hW : WF V) {f b : Int32} (hb : ¬ ∃ j k, j < 8 ∧ V (10 * j) = 1 ∧ k < bl V j ∧ f = nI j ∧ b = nI k) : gFn G YX3_margin (d + 5) [.ref 114, .int f, .int b] (hp n I L D) (.inl (some (.int (nI 0)))) (hp n (gUp I 114 0 (nI 1)) L D) 0 0 := by
  refine g_aload_n (pc := 0) dX3_margin_0 rfl rfl ?_
  refine g_iload_n (pc := 1) dX3_margin_1 rfl rfl ?_
  refine g_iload_n (pc := 2) dX3_margin_2 rfl rfl ?_
  refine g_fV (av := [.int _, .int _]) (pc := 3) dX3_margin_3 mt_X3_isThere lk_X3_199 im_X3_isThere se_X3_isThere np_X3_isThere s_114 (by decide) (by decide) rfl (gc_i (gc_i gc_0)) (Nat.le_of_ble_eq_true rfl) (Nat.le_of_ble_eq_true rfl) ⟨Nat.zero_le _, Nat.zero_le _⟩ (m_X3_isThere_f hV hW hb) ?_
  refine g_if_neN (tgt := 11) (pc := 6) dX3_margin_6 (by decide) (by omega) (fun c6 => ?_) (fun c6 => ?_)
  · exact absurd c6 (by decide)
  · refine g_iconst (v := nI 0) (pc := 9) dX3_margin_9 rfl ?_
    refine g_iret (pc := 10) dX3_margin_10 rfl rfl ?_
    first | exact ⟨rfl, rfl⟩ | exact ⟨by rw [bI_t (by first | assumption | omega)], rfl⟩ | exact ⟨by rw [bI_f (by first | assumption | omega)], rfl⟩
theorem m_X3_margin_0 (hV : Vok I V) (hW : WF V) (hX : MX I) {j b : Nat} (hj : j < 8) (h1 : V (10 * j) = 1) (hb : b < bl V j) : gRi G YX3_margin (d + 5) [.ref 114, .int (nI j), .int (nI b)] n I L D (fun v J => v = nI (maV V j b) ∧ QF I J (foC V j b)) := by
  refine g_aload_n (pc := 0) dX3_margin_0 rfl rfl ?_
  refine g_iload_n (pc := 1) dX3_margin_1 rfl rfl ?_
  refine g_iload_n (pc := 2) dX3_margin_2 rfl rfl ?_
  refine g_fV (av := [.int _, .int _]) (pc := 3) dX3_margin_3 mt_X3_isThere lk_X3_199 im_X3_isThere se_X3_isThere np_X3_isThere s_114 (by decide) (by decide) rfl (gc_i (gc_i gc_0)) (Nat.le_of_ble_eq_true rfl) (Nat.le_of_ble_eq_true rfl) ⟨Nat.zero_le _, Nat.zero_le _⟩ (m_X3_isThere_t hV hW hj h1 hb) ?_
  refine g_if_neN (tgt := 11) (pc := 6) dX3_margin_6 (by decide) (by omega) (fun c6 => ?_) (fun c6 => ?_)
  rotate_left
  · exact absurd c6 (by decide)
  refine g_aload_n (pc := 11) dX3_margin_11 rfl rfl ?_
  refine g_iload_n (pc := 12) dX3_margin_12 rfl rfl ?_
  refine g_iload_n (pc := 13) dX3_margin_13 rfl rfl ?_
  refine g_riV (av := [.int _, .int _]) (pc := 14) dX3_margin_14 mt_X3_isDecoded_ lk_X3_202 im_X3_isDecoded_ se_X3_isDecoded_ np_X3_isDecoded_ s_114 (by decide) (by decide) rfl (gc_i (gc_i gc_0)) (Nat.le_of_ble_eq_true rfl) (Nat.le_of_ble_eq_true rfl) (m_X3_isDecoded_ hV.f hW hX.no hj h1 hb) ?_
  rintro _ I1 ⟨rfl, k1, k2, k3, k4, k5, k6⟩
  refine g_if_eqB (tgt := 39) (pc := 17) dX3_margin_17 (by decide) (fun c17 => ?_) (fun c17 => ?_)
  · refine g_aload_n (pc := 39) dX3_margin_39 rfl rfl ?_
    refine g_iconst (v := nI 2) (pc := 40) dX3_margin_40 rfl ?_
    refine g_fV (av := [.int _]) (pc := 41) dX3_margin_41 mt_X3_no lk_X3_124 im_X3_no se_X3_no np_X3_no s_114 (by decide) (by decide) rfl (gc_i gc_0) (Nat.le_of_ble_eq_true rfl) (Nat.le_of_ble_eq_true rfl) ⟨Nat.zero_le _, Nat.zero_le _⟩ (m_X3_no) ?_
    refine g_iret (pc := 44) dX3_margin_44 rfl rfl ?_
    refine ⟨_, _, ⟨rfl, rfl⟩, ?_⟩
    unfold maV foC
    first
      | (rw [if_neg c17, if_neg c17]; exact ⟨rfl, (dK.q k1).no⟩)
      | (rw [if_pos c17, if_pos c17]; exact ⟨rfl, dK.q k1⟩)
  · have hd := (dc_some c17).2.2
    refine g_aload_n (pc := 20) dX3_margin_20 rfl rfl ?_
    refine g_getIV (pc := 21) dX3_margin_21 fl_X3_135 s_114 (by decide) rfl k3 ?_
    refine g_iconst (v := nI 2) (pc := 24) dX3_margin_24 rfl ?_
    refine g_aload_n (pc := 25) dX3_margin_25 rfl rfl ?_
    refine g_getIV (pc := 26) dX3_margin_26 fl_X3_184 s_114 (by decide) rfl (k6 c17).2.1 ?_
    refine g_imulN (pc := 29) dX3_margin_29 ?_
    refine g_isubN (pc := 30) dX3_margin_30 (by omega) ?_
    refine g_aload_n (pc := 31) dX3_margin_31 rfl rfl ?_
    refine g_getIV (pc := 32) dX3_margin_32 fl_X3_178 s_114 (by decide) rfl k5 ?_
    refine g_isubN (pc := 35) dX3_margin_35 (by omega) ?_
    refine g_goto (tgt := 44) (pc := 36) dX3_margin_36 (by decide) ?_
    refine g_iret (pc := 44) dX3_margin_44 rfl rfl ?_
    refine ⟨_, _, ⟨rfl, rfl⟩, ?_⟩
    unfold maV foC
    first
      | (rw [if_neg c17, if_neg c17]; exact ⟨rfl, (dK.q k1).no⟩)
      | (rw [if_pos c17, if_pos c17]; exact ⟨rfl, dK.q k1⟩)
theorem m_X3_undecodable_1 (hV : Vok I V) (hW : WF V) {f : Int32} (h : ¬ isFi V f) : gFn G YX3_undecodable (d + 5) [.ref 114, .int f] (hp n I L D) (.inl (some (.int (nI 0)))) (hp n (gUp I 114 0 (nI 1)) L D) 0 0 := by
  refine g_aload_n (pc := 0) dX3_undecodable_0 rfl rfl ?_
  refine g_aload_n (pc := 1) dX3_undecodable_1 rfl rfl ?_
  refine g_iload_n (pc := 2) dX3_undecodable_2 rfl rfl ?_
  refine g_fV (av := [.int _]) (pc := 3) dX3_undecodable_3 mt_X3_isFile lk_X3_87 im_X3_isFile se_X3_isFile np_X3_isFile s_114 (by decide) (by decide) rfl (gc_i gc_0) (Nat.le_of_ble_eq_true rfl) (Nat.le_of_ble_eq_true rfl) ⟨Nat.zero_le _, Nat.zero_le _⟩ (m_X3_isFile hV hW) ?_
  refine g_if_eqB (tgt := 13) (pc := 6) dX3_undecodable_6 (by decide) (fun c6 => ?_) (fun c6 => ?_)
  · refine g_iconst (v := nI 1) (pc := 13) dX3_undecodable_13 rfl ?_
    refine g_putI (pc := 14) dX3_undecodable_14 fl_X3_67 s_114 (by decide) rfl rfl rfl rfl ?_
    refine g_aload_n (pc := 17) dX3_undecodable_17 rfl rfl ?_
    refine g_getIV (pc := 18) dX3_undecodable_18 fl_X3_67 s_114 (by decide) rfl (show _ = nI 1 from rfl) ?_
    refine g_iconst (v := nI 1) (pc := 21) dX3_undecodable_21 rfl ?_
    refine g_icmp_neN (tgt := 27) (pc := 22) dX3_undecodable_22 (by decide) (by omega) (by omega) (fun c22 => ?_) (fun c22 => ?_)
    · exact absurd c22 (by decide)
    · refine g_iconst (v := nI 0) (pc := 25) dX3_undecodable_25 rfl ?_
      refine g_iret (pc := 26) dX3_undecodable_26 rfl rfl ?_
      first | exact ⟨rfl, rfl⟩ | exact ⟨by rw [bI_t (by first | assumption | omega)], rfl⟩ | exact ⟨by rw [bI_f (by first | assumption | omega)], rfl⟩
  · exact absurd c6 h
theorem m_X3_undecodable_0 (hV : Vok I V) (hW : WF V) (hX : MX I) {j : Nat} (hj : j < 8) (h1 : V (10 * j) = 1) : gRi G YX3_undecodable (d + 5) [.ref 114, .int (nI j)] n I L D (fun v J => v = nI (udN V j (bl V j)) ∧ QF I J 0) := by
  have hbl := bl_le (hW.1 j hj)
  refine g_aload_n (pc := 0) dX3_undecodable_0 rfl rfl ?_
  refine g_aload_n (pc := 1) dX3_undecodable_1 rfl rfl ?_
  refine g_iload_n (pc := 2) dX3_undecodable_2 rfl rfl ?_
  refine g_fV (av := [.int _]) (pc := 3) dX3_undecodable_3 mt_X3_isFile lk_X3_87 im_X3_isFile se_X3_isFile np_X3_isFile s_114 (by decide) (by decide) rfl (gc_i gc_0) (Nat.le_of_ble_eq_true rfl) (Nat.le_of_ble_eq_true rfl) ⟨Nat.zero_le _, Nat.zero_le _⟩ (m_X3_isFileN hV hW hj) ?_
  refine g_if_eqB (tgt := 13) (pc := 6) dX3_undecodable_6 (by decide) (fun c6 => ?_) (fun c6 => ?_)
  · exact absurd h1 c6
  refine g_iconst (v := nI 0) (pc := 9) dX3_undecodable_9 rfl ?_
  refine g_goto (tgt := 14) (pc := 10) dX3_undecodable_10 (by decide) ?_
  refine g_putI (pc := 14) dX3_undecodable_14 fl_X3_67 s_114 (by decide) rfl rfl rfl rfl ?_
  refine g_aload_n (pc := 17) dX3_undecodable_17 rfl rfl ?_
  refine g_getIV (pc := 18) dX3_undecodable_18 fl_X3_67 s_114 (by decide) rfl (show _ = nI 0 from rfl) ?_
  refine g_iconst (v := nI 1) (pc := 21) dX3_undecodable_21 rfl ?_
  refine g_icmp_neN (tgt := 27) (pc := 22) dX3_undecodable_22 (by decide) (by omega) (by omega) (fun c22 => ?_) (fun c22 => ?_)
  rotate_left
  · exact absurd c22 (by decide)
  refine g_iconst (v := nI 0) (pc := 27) dX3_undecodable_27 rfl ?_
  refine g_istore_n (pc := 28) dX3_undecodable_28 rfl (Nat.le_of_ble_eq_true rfl) rfl ?_
  refine g_iconst (v := nI 0) (pc := 29) dX3_undecodable_29 rfl ?_
  refine g_istore_n (pc := 30) dX3_undecodable_30 rfl (Nat.le_of_ble_eq_true rfl) rfl ?_
  refine g_loop (bl V j) (fun k J => dK (gUp I 114 0 (nI 0)) J) (fun k _ => [some (.ref 114), some (.int (nI j)), some (.int (nI (udN V j k))), some (.int (nI k))]) (fun J => hp n J L D) (fun b J hb hJ kn => ?_) (fun J hJ => ?_) 0 _ (Nat.zero_le _) (dK.r hX.no)
  · have hVJ : Vok J V := hJ.v hV.f
    refine g_iload_n (pc := 31) dX3_undecodable_31 rfl rfl ?_
    refine g_aload_n (pc := 32) dX3_undecodable_32 rfl rfl ?_
    refine g_iload_n (pc := 33) dX3_undecodable_33 rfl rfl ?_
    refine g_fV (av := [.int _]) (pc := 34) dX3_undecodable_34 mt_X3_blocks lk_X3_80 im_X3_blocks se_X3_blocks np_X3_blocks s_114 (by decide) (by decide) rfl (gc_i gc_0) (Nat.le_of_ble_eq_true rfl) (Nat.le_of_ble_eq_true rfl) ⟨Nat.zero_le _, Nat.zero_le _⟩ (m_X3_blocks hVJ hW hj) ?_
    refine g_icmp_geN (tgt := 65) (pc := 37) dX3_undecodable_37 (by decide) (by omega) (by omega) (fun c37 => ?_) (fun c37 => ?_)
    · omega
    refine g_iload_n (pc := 40) dX3_undecodable_40 rfl rfl ?_
    refine g_aload_n (pc := 41) dX3_undecodable_41 rfl rfl ?_
    refine g_iload_n (pc := 42) dX3_undecodable_42 rfl rfl ?_
    refine g_iload_n (pc := 43) dX3_undecodable_43 rfl rfl ?_
    refine g_riV (av := [.int _, .int _]) (pc := 44) dX3_undecodable_44 mt_X3_isDecoded_ lk_X3_202 im_X3_isDecoded_ se_X3_isDecoded_ np_X3_isDecoded_ s_114 (by decide) (by decide) rfl (gc_i (gc_i gc_0)) (Nat.le_of_ble_eq_true rfl) (Nat.le_of_ble_eq_true rfl) (m_X3_isDecoded_ hVJ hW (hX.no.d hJ) hj h1 hb) ?_
    rintro _ I1 ⟨rfl, k1, k2, k3, k4, k5, k6⟩
    refine g_if_eqB (tgt := 54) (pc := 47) dX3_undecodable_47 (by decide) (fun c47 => ?_) (fun c47 => ?_)
    · have e : udN V j (b + 1) = udN V j b ||| 2 ^ b := by rw [udN, if_neg c47]
      refine g_iconst (v := nI 1) (pc := 54) dX3_undecodable_54 rfl ?_
      refine g_iload_n (pc := 55) dX3_undecodable_55 rfl rfl ?_
      refine g_ishl (pc := 56) dX3_undecodable_56 ?_
      rw [sh_1 b (by omega)]
      refine g_ior (pc := 57) dX3_undecodable_57 ?_
      rw [nI_or]
      refine g_istore_n (pc := 58) dX3_undecodable_58 rfl (Nat.le_of_ble_eq_true rfl) rfl ?_
      refine g_iincN (pc := 59) dX3_undecodable_59 (Nat.le_of_ble_eq_true rfl) rfl rfl ?_
      refine g_goto (tgt := 31) (pc := 62) dX3_undecodable_62 (by decide) ?_
      rw [← e]
      exact kn _ (hJ.t k1)
    · have e : udN V j (b + 1) = udN V j b ||| 0 := by rw [udN, if_pos c47]
      refine g_iconst (v := nI 0) (pc := 50) dX3_undecodable_50 rfl ?_
      refine g_goto (tgt := 57) (pc := 51) dX3_undecodable_51 (by decide) ?_
      refine g_ior (pc := 57) dX3_undecodable_57 ?_
      rw [nI_or]
      refine g_istore_n (pc := 58) dX3_undecodable_58 rfl (Nat.le_of_ble_eq_true rfl) rfl ?_
      refine g_iincN (pc := 59) dX3_undecodable_59 (Nat.le_of_ble_eq_true rfl) rfl rfl ?_
      refine g_goto (tgt := 31) (pc := 62) dX3_undecodable_62 (by decide) ?_
      rw [← e]
      exact kn _ (hJ.t k1)
  · have hVJ : Vok J V := hJ.v hV.f
    refine g_iload_n (pc := 31) dX3_undecodable_31 rfl rfl ?_
    refine g_aload_n (pc := 32) dX3_undecodable_32 rfl rfl ?_
    refine g_iload_n (pc := 33) dX3_undecodable_33 rfl rfl ?_
    refine g_fV (av := [.int _]) (pc := 34) dX3_undecodable_34 mt_X3_blocks lk_X3_80 im_X3_blocks se_X3_blocks np_X3_blocks s_114 (by decide) (by decide) rfl (gc_i gc_0) (Nat.le_of_ble_eq_true rfl) (Nat.le_of_ble_eq_true rfl) ⟨Nat.zero_le _, Nat.zero_le _⟩ (m_X3_blocks hVJ hW hj) ?_
    refine g_icmp_geN (tgt := 65) (pc := 37) dX3_undecodable_37 (by decide) (by omega) (by omega) (fun c37 => ?_) (fun c37 => ?_)
    rotate_left
    · omega
    refine g_iload_n (pc := 65) dX3_undecodable_65 rfl rfl ?_
    refine g_iret (pc := 66) dX3_undecodable_66 rfl rfl ?_
    refine ⟨_, _, ⟨rfl, rfl⟩, ?_⟩
    exact ⟨rfl, dK.q hJ⟩
theorem m_X3_needed (hV : Vok I V) (hW : WF V) (hX : MX I) : gRi G YX3_needed (d + 5) [.ref 114] n I L D (fun v J => v = nI (ndF V 8) ∧ QF I J 0) := by
  have h8 := hW.2.2.1
  refine g_aload_n (pc := 0) dX3_needed_0 rfl rfl ?_
  refine g_iconst (v := nI 0) (pc := 1) dX3_needed_1 rfl ?_
  refine g_putI (pc := 2) dX3_needed_2 fl_X3_67 s_114 (by decide) rfl rfl rfl rfl ?_
  refine g_iconst (v := nI 0) (pc := 5) dX3_needed_5 rfl ?_
  refine g_istore_n (pc := 6) dX3_needed_6 rfl (Nat.le_of_ble_eq_true rfl) rfl ?_
  refine g_iconst (v := nI 0) (pc := 7) dX3_needed_7 rfl ?_
  refine g_istore_n (pc := 8) dX3_needed_8 rfl (Nat.le_of_ble_eq_true rfl) rfl ?_
  refine g_loop 8 (fun k J => dK (gUp I 114 0 (nI 0)) J) (fun k _ => [some (.ref 114), some (.int (nI (ndF V k))), some (.int (nI k)), none]) (fun J => hp n J L D) (fun j J hj hJ kn => ?_) (fun J hJ => ?_) 0 _ (Nat.zero_le _) (dK.r hX.no)
  · have hw := hW.1 j hj
    have hbl := bl_le hw
    have hnf := ndF_le hW j (by omega)
    refine g_iload_n (pc := 9) dX3_needed_9 rfl rfl ?_
    refine g_bipush (v := nI 8) (pc := 10) dX3_needed_10 rfl ?_
    refine g_icmp_geN (tgt := 96) (pc := 12) dX3_needed_12 (by decide) (by omega) (by omega) (fun c12 => ?_) (fun c12 => ?_)
    · omega
    refine g_iconst (v := nI 0) (pc := 15) dX3_needed_15 rfl ?_
    refine g_istore_n (pc := 16) dX3_needed_16 rfl (Nat.le_of_ble_eq_true rfl) rfl ?_
    by_cases h1 : V (10 * j) = 1
    · have hfe : ndF V (j + 1) = ndB V j (ndF V j) (bl V j) := by rw [ndF, if_pos h1]
      refine g_loop (bl V j) (fun k J => dK (gUp I 114 0 (nI 0)) J) (fun k _ => [some (.ref 114), some (.int (nI (ndB V j (ndF V j) k))), some (.int (nI j)), some (.int (nI k))]) (fun J => hp n J L D) (fun b J hb hJ kb => ?_) (fun J hJ => ?_) 0 J (Nat.zero_le _) hJ
      · have hVJ : Vok J V := hJ.v hV.f
        have hnb := ndB_le (s := ndF V j) hw b
        have hc9 := hw.2.2.2.2.2.2.1 b (by omega)
        rw [show 10 * j + 6 + b = 10 * j + (6 + b) by omega] at hc9
        refine g_aload_n (pc := 17) dX3_needed_17 rfl rfl ?_
        refine g_iload_n (pc := 18) dX3_needed_18 rfl rfl ?_
        refine g_fV (av := [.int _]) (pc := 19) dX3_needed_19 mt_X3_isFile lk_X3_87 im_X3_isFile se_X3_isFile np_X3_isFile s_114 (by decide) (by decide) rfl (gc_i gc_0) (Nat.le_of_ble_eq_true rfl) (Nat.le_of_ble_eq_true rfl) ⟨Nat.zero_le _, Nat.zero_le _⟩ (m_X3_isFileN hVJ hW hj) ?_
        refine g_if_eqB (tgt := 90) (pc := 22) dX3_needed_22 (by decide) (fun c22 => ?_) (fun c22 => ?_)
        · exact absurd h1 c22
        refine g_iload_n (pc := 25) dX3_needed_25 rfl rfl ?_
        refine g_aload_n (pc := 26) dX3_needed_26 rfl rfl ?_
        refine g_iload_n (pc := 27) dX3_needed_27 rfl rfl ?_
        refine g_fV (av := [.int _]) (pc := 28) dX3_needed_28 mt_X3_blocks lk_X3_80 im_X3_blocks se_X3_blocks np_X3_blocks s_114 (by decide) (by decide) rfl (gc_i gc_0) (Nat.le_of_ble_eq_true rfl) (Nat.le_of_ble_eq_true rfl) ⟨Nat.zero_le _, Nat.zero_le _⟩ (m_X3_blocks hVJ hW hj) ?_
        refine g_icmp_geN (tgt := 90) (pc := 31) dX3_needed_31 (by decide) (by omega) (by omega) (fun c31 => ?_) (fun c31 => ?_)
        · omega
        refine g_aload_n (pc := 34) dX3_needed_34 rfl rfl ?_
        refine g_iload_n (pc := 35) dX3_needed_35 rfl rfl ?_
        refine g_bipush (v := nI 6) (pc := 36) dX3_needed_36 rfl ?_
        refine g_iload_n (pc := 38) dX3_needed_38 rfl rfl ?_
        refine g_iaddN (pc := 39) dX3_needed_39 ?_
        refine g_fV (av := [.int _, .int _]) (pc := 40) dX3_needed_40 mt_X3_of lk_X3_77 im_X3_of se_X3_of np_X3_of s_114 (by decide) (by decide) rfl (gc_i (gc_i gc_0)) (Nat.le_of_ble_eq_true rfl) (Nat.le_of_ble_eq_true rfl) ⟨Nat.zero_le _, Nat.zero_le _⟩ (m_X3_of hVJ (j := j) (w := 6 + b) hj (by omega)) ?_
        refine g_aload_n (pc := 43) dX3_needed_43 rfl rfl ?_
        refine g_getR (pc := 44) dX3_needed_44 fl_X3_9 s_114 (by decide) rfl t_114_1 ?_
        refine g_sipush (v := nI 800) (pc := 47) dX3_needed_47 rfl ?_
        refine g_ialoadN (pc := 50) dX3_needed_50 s_115 (by decide) (by omega) (by decide) (hVJ _ (by omega)) ?_
        refine g_icmp_neN (tgt := 57) (pc := 51) dX3_needed_51 (by decide) (by omega) (by omega) (fun c51 => ?_) (fun c51 => ?_)
        · have e0 : ndB V j (ndF V j) (b + 1) = ndB V j (ndF V j) b + (1 + (if isD V j b = true then dcN V j b + ern V j b else 0)) := by rw [ndB, if_neg c51]
          refine g_iload_n (pc := 57) dX3_needed_57 rfl rfl ?_
          refine g_iconst (v := nI 1) (pc := 58) dX3_needed_58 rfl ?_
          refine g_aload_n (pc := 59) dX3_needed_59 rfl rfl ?_
          refine g_iload_n (pc := 60) dX3_needed_60 rfl rfl ?_
          refine g_iload_n (pc := 61) dX3_needed_61 rfl rfl ?_
          refine g_riV (av := [.int _, .int _]) (pc := 62) dX3_needed_62 mt_X3_isDecoded_ lk_X3_202 im_X3_isDecoded_ se_X3_isDecoded_ np_X3_isDecoded_ s_114 (by decide) (by decide) rfl (gc_i (gc_i gc_0)) (Nat.le_of_ble_eq_true rfl) (Nat.le_of_ble_eq_true rfl) (m_X3_isDecoded_ hVJ hW (hX.no.d hJ) hj h1 hb) ?_
          rintro _ I1 ⟨rfl, k1, k2, k3, k4, k5, k6⟩
          have hJ2 := hJ.t k1
          refine g_if_eqB (tgt := 80) (pc := 65) dX3_needed_65 (by decide) (fun c65 => ?_) (fun c65 => ?_)
          · rw [if_neg c65] at e0
            rw [e0] at kb
            refine g_iconst (v := nI 0) (pc := 80) dX3_needed_80 rfl ?_
            refine g_iaddN (pc := 81) dX3_needed_81 ?_
            refine g_iaddN (pc := 82) dX3_needed_82 ?_
            refine g_istore_n (pc := 83) dX3_needed_83 rfl (Nat.le_of_ble_eq_true rfl) rfl ?_
            refine g_iincN (pc := 84) dX3_needed_84 (Nat.le_of_ble_eq_true rfl) rfl rfl ?_
            refine g_goto (tgt := 17) (pc := 87) dX3_needed_87 (by decide) ?_
            first
              | exact kb _ hJ2
              | exact kb _ hJ
          · rw [if_pos c65] at e0
            rw [e0] at kb
            refine g_aload_n (pc := 68) dX3_needed_68 rfl rfl ?_
            refine g_getIV (pc := 69) dX3_needed_69 fl_X3_184 s_114 (by decide) rfl (k6 c65).2.1 ?_
            refine g_aload_n (pc := 72) dX3_needed_72 rfl rfl ?_
            refine g_getIV (pc := 73) dX3_needed_73 fl_X3_178 s_114 (by decide) rfl k5 ?_
            refine g_iaddN (pc := 76) dX3_needed_76 ?_
            refine g_goto (tgt := 81) (pc := 77) dX3_needed_77 (by decide) ?_
            refine g_iaddN (pc := 81) dX3_needed_81 ?_
            refine g_iaddN (pc := 82) dX3_needed_82 ?_
            refine g_istore_n (pc := 83) dX3_needed_83 rfl (Nat.le_of_ble_eq_true rfl) rfl ?_
            refine g_iincN (pc := 84) dX3_needed_84 (Nat.le_of_ble_eq_true rfl) rfl rfl ?_
            refine g_goto (tgt := 17) (pc := 87) dX3_needed_87 (by decide) ?_
            first
              | exact kb _ hJ2
              | exact kb _ hJ
        · have e : ndB V j (ndF V j) (b + 1) = ndB V j (ndF V j) b := by rw [ndB, if_pos c51]
          rw [e] at kb
          refine g_goto (tgt := 84) (pc := 54) dX3_needed_54 (by decide) ?_
          refine g_iincN (pc := 84) dX3_needed_84 (Nat.le_of_ble_eq_true rfl) rfl rfl ?_
          refine g_goto (tgt := 17) (pc := 87) dX3_needed_87 (by decide) ?_
          first
            | exact kb _ hJ2
            | exact kb _ hJ
      · have hVJ : Vok J V := hJ.v hV.f
        rw [← hfe]
        refine g_aload_n (pc := 17) dX3_needed_17 rfl rfl ?_
        refine g_iload_n (pc := 18) dX3_needed_18 rfl rfl ?_
        refine g_fV (av := [.int _]) (pc := 19) dX3_needed_19 mt_X3_isFile lk_X3_87 im_X3_isFile se_X3_isFile np_X3_isFile s_114 (by decide) (by decide) rfl (gc_i gc_0) (Nat.le_of_ble_eq_true rfl) (Nat.le_of_ble_eq_true rfl) ⟨Nat.zero_le _, Nat.zero_le _⟩ (m_X3_isFileN hVJ hW hj) ?_
        refine g_if_eqB (tgt := 90) (pc := 22) dX3_needed_22 (by decide) (fun c22 => ?_) (fun c22 => ?_)
        · exact absurd h1 c22
        refine g_iload_n (pc := 25) dX3_needed_25 rfl rfl ?_
        refine g_aload_n (pc := 26) dX3_needed_26 rfl rfl ?_
        refine g_iload_n (pc := 27) dX3_needed_27 rfl rfl ?_
        refine g_fV (av := [.int _]) (pc := 28) dX3_needed_28 mt_X3_blocks lk_X3_80 im_X3_blocks se_X3_blocks np_X3_blocks s_114 (by decide) (by decide) rfl (gc_i gc_0) (Nat.le_of_ble_eq_true rfl) (Nat.le_of_ble_eq_true rfl) ⟨Nat.zero_le _, Nat.zero_le _⟩ (m_X3_blocks hVJ hW hj) ?_
        refine g_icmp_geN (tgt := 90) (pc := 31) dX3_needed_31 (by decide) (by omega) (by omega) (fun c31 => ?_) (fun c31 => ?_)
        rotate_left
        · omega
        refine g_iincN (pc := 90) dX3_needed_90 (Nat.le_of_ble_eq_true rfl) rfl rfl ?_
        refine g_goto (tgt := 9) (pc := 93) dX3_needed_93 (by decide) ?_
        refine g_fg 3 ?_
        exact kn _ hJ
    · have hfe : ndF V (j + 1) = ndF V j := by rw [ndF, if_neg h1]; rfl
      have hVJ : Vok J V := hJ.v hV.f
      rw [hfe] at kn
      refine g_aload_n (pc := 17) dX3_needed_17 rfl rfl ?_
      refine g_iload_n (pc := 18) dX3_needed_18 rfl rfl ?_
      refine g_fV (av := [.int _]) (pc := 19) dX3_needed_19 mt_X3_isFile lk_X3_87 im_X3_isFile se_X3_isFile np_X3_isFile s_114 (by decide) (by decide) rfl (gc_i gc_0) (Nat.le_of_ble_eq_true rfl) (Nat.le_of_ble_eq_true rfl) ⟨Nat.zero_le _, Nat.zero_le _⟩ (m_X3_isFileN hVJ hW hj) ?_
      refine g_if_eqB (tgt := 90) (pc := 22) dX3_needed_22 (by decide) (fun c22 => ?_) (fun c22 => ?_)
      rotate_left
      · exact absurd c22 h1
      refine g_iincN (pc := 90) dX3_needed_90 (Nat.le_of_ble_eq_true rfl) rfl rfl ?_
      refine g_goto (tgt := 9) (pc := 93) dX3_needed_93 (by decide) ?_
      refine g_fg 3 ?_
      exact kn _ hJ
  · skip
    refine g_iload_n (pc := 9) dX3_needed_9 rfl rfl ?_
    refine g_bipush (v := nI 8) (pc := 10) dX3_needed_10 rfl ?_
    refine g_icmp_geN (tgt := 96) (pc := 12) dX3_needed_12 (by decide) (by omega) (by omega) (fun c12 => ?_) (fun c12 => ?_)
    rotate_left
    · exact absurd (Nat.le_refl _) c12
    refine g_iload_n (pc := 96) dX3_needed_96 rfl rfl ?_
    refine g_iret (pc := 97) dX3_needed_97 rfl rfl ?_
    refine ⟨_, _, ⟨rfl, rfl⟩, ?_⟩
    exact ⟨rfl, dK.q hJ⟩
end

