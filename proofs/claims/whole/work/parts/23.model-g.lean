/-! ===== the reference's changes (b), questions ===== -/
theorem gUp_k {J : Nat → Nat → Int32} {r i a b : Nat} {v x : Int32} (hne : ¬ (a = r ∧ b = i)) (h : J a b = x) : gUp J r i v a b = x := (if_neg hne).trans h
theorem nI_rng1 {x : Int32} {l m : Nat} (hm : m < 2 ^ 31) (h : nI l ≤ x ∧ x ≤ nI m) (hl : l ≤ m) : ∃ k, l ≤ k ∧ k ≤ m ∧ x = nI k := by
  obtain ⟨k, hk, rfl⟩ := nI_rng hm ⟨Int32.le_iff_toInt_le.mpr (by
    have := Int32.le_iff_toInt_le.mp h.1
    rw [nI_toInt (show l < 2 ^ 31 by omega)] at this
    rw [nI_toInt (by omega)]
    omega), h.2⟩
  exact ⟨k, (nI_leI (by omega) (by omega)).mp h.1, hk, rfl⟩
/-- cells hit by a burst: k cells from f on -/
def brV (V : Nat → Nat) (f x : Nat) : Nat → Nat → Nat
  | 0 => V
  | k + 1 => if x = 0 then uV (brV V f x k) (320 + (f + k)) 1 else uV (brV V f x k) (80 + (f + k)) (brV V f x k (80 + (f + k)) ^^^ x)
theorem brV_lo {V : Nat → Nat} {f x i : Nat} (hi : i < 80 ∨ i = 800) : ∀ k, f + k ≤ 240 → brV V f x k i = V i
  | 0, _ => rfl
  | k + 1, hk => by
    unfold brV
    split
    · rw [uV_n (by omega)]; exact brV_lo hi k (by omega)
    · rw [uV_n (by omega)]; exact brV_lo hi k (by omega)
theorem WF_br {V : Nat → Nat} {f x : Nat} (h : WF V) (hx : x ≤ 15) : ∀ k, f + k ≤ 240 → WF (brV V f x k)
  | 0, _ => h
  | k + 1, hk => by
    have ih : WF (brV V f x k) := WF_br h hx k (by omega)
    unfold brV
    split
    · exact WF_era ih (by omega) (by decide)
    · exact WF_sym ih (by omega) (Nat.le_of_lt_succ (nx16 _ (Nat.lt_succ_of_le (ih.2.2.2 (f + k) (by omega)).1) x (by omega)).2)
theorem isOwn_ext {V W : Nat → Nat} (e : ∀ k, k < 80 → W k = V k) (c : Nat) {j : Nat} (hj : j < 8) : isOwn W c j ↔ isOwn V c j := by
  have z0 : W (10 * j) = V (10 * j) := e _ (by omega)
  unfold isOwn
  rw [z0, e (10 * j + 5) (by omega), (bl_ext (fun k hk => e _ (by omega))).2.2]
theorem own_ext {V W : Nat → Nat} (e : ∀ k, k < 80 → W k = V k) (c : Nat) : own W c = own V c := by
  cases h : own V c with
  | none => exact own_none (fun i hi q => own_no h i hi ((isOwn_ext e c hi).mp q))
  | some j =>
    have h0 := h
    unfold own at h
    rw [List.find?_range_eq_some] at h
    obtain ⟨h1, h2, h3⟩ := h
    have hj := List.mem_range.mp h2
    refine own_some hj ((isOwn_ext e c hj).mpr (of_decide_eq_true h1)) (fun i hi q => ?_)
    have := h3 i hi
    simp [(isOwn_ext e c (by omega)).mp q] at this
theorem ownI_ext {V W : Nat → Nat} (e : ∀ k, k < 80 → W k = V k) (c : Nat) : ownI W c = ownI V c := by unfold ownI; rw [own_ext e c]
def isOw (V : Nat → Nat) (c : Nat) : Bool := decide (¬ own V c = none)
/-- how many cells of k from f on belong to a file -/
def brN (V : Nat → Nat) (f : Nat) : Nat → Nat := cnt (fun i => isOw V (f + i))
section
variable {G : gG} {d n : Nat} {I : Nat → Nat → Int32} {L : Nat → Nat → Int64} {D : Nat → Nat → UInt64} {V : Nat → Nat}
theorem m_X3_flip_2 {c x : Int32} (h : nI 0 ≤ c ∧ c ≤ nI 239) (h2 : ¬ (nI 1 ≤ x ∧ x ≤ nI 15)) : gFn G YX3_flip (d + 1) [.ref 114, .int c, .int x] (hp n I L D) (.inl (some (.int (nI 0)))) (hp n (gUp I 114 0 (nI 2)) L D) 0 0 := by
  refine g_aload_n (pc := 0) dX3_flip_0 rfl rfl ?_
  refine g_iload_n (pc := 1) dX3_flip_1 rfl rfl ?_
  refine g_iconst (v := nI 0) (pc := 2) dX3_flip_2 rfl ?_
  refine g_sipush (v := nI 239) (pc := 3) dX3_flip_3 rfl ?_
  refine g_fS (av := [.int _, .int _, .int _]) (pc := 6) dX3_flip_6 mt_X3_isIn lk_X3_73 sf_X3_isIn np_X3_isIn rfl (gc_i (gc_i (gc_i gc_0))) (Nat.le_of_ble_eq_true rfl) (Nat.le_of_ble_eq_true rfl) ⟨Nat.zero_le _, Nat.zero_le _⟩ (m_X3_isIn) ?_
  refine g_if_neB (tgt := 16) (pc := 9) dX3_flip_9 (by decide) (fun c9 => ?_) (fun c9 => ?_)
  · refine g_iload_n (pc := 16) dX3_flip_16 rfl rfl ?_
    refine g_iconst (v := nI 1) (pc := 17) dX3_flip_17 rfl ?_
    refine g_bipush (v := nI 15) (pc := 18) dX3_flip_18 rfl ?_
    refine g_fS (av := [.int _, .int _, .int _]) (pc := 20) dX3_flip_20 mt_X3_isIn lk_X3_73 sf_X3_isIn np_X3_isIn rfl (gc_i (gc_i (gc_i gc_0))) (Nat.le_of_ble_eq_true rfl) (Nat.le_of_ble_eq_true rfl) ⟨Nat.zero_le _, Nat.zero_le _⟩ (m_X3_isIn) ?_
    refine g_if_neB (tgt := 30) (pc := 23) dX3_flip_23 (by decide) (fun c23 => ?_) (fun c23 => ?_)
    · exact absurd c23 h2
    · refine g_iconst (v := nI 2) (pc := 26) dX3_flip_26 rfl ?_
      refine g_goto (tgt := 31) (pc := 27) dX3_flip_27 (by decide) ?_
      refine g_putI (pc := 31) dX3_flip_31 fl_X3_67 s_114 (by decide) rfl rfl rfl rfl ?_
      refine g_aload_n (pc := 34) dX3_flip_34 rfl rfl ?_
      refine g_getIV (pc := 35) dX3_flip_35 fl_X3_67 s_114 (by decide) rfl (show _ = nI 2 from rfl) ?_
      refine g_if_leN (tgt := 43) (pc := 38) dX3_flip_38 (by decide) (by omega) (fun c38 => ?_) (fun c38 => ?_)
      · exact absurd c38 (by decide)
      · refine g_iconst (v := nI 0) (pc := 41) dX3_flip_41 rfl ?_
        refine g_iret (pc := 42) dX3_flip_42 rfl rfl ?_
        first | exact ⟨rfl, rfl⟩ | exact ⟨by rw [bI_t (by first | assumption | omega)], rfl⟩ | exact ⟨by rw [bI_f (by first | assumption | omega)], rfl⟩
  · exact absurd h c9
theorem m_X3_flip_0 {C : Nat → Int32} {H : hT} {m c x : Nat} (hM : Md I V C H m) (hW : WF V) (hc : c < 240) (hx : 1 ≤ x ∧ x ≤ 15) : gRi G YX3_flip (d + 1) [.ref 114, .int (nI c), .int (nI x)] n I L D (fun v J => v = nI (V (80 + c) ^^^ x) ∧ J 114 0 = nI 0 ∧ Md J (uV V (80 + c) (V (80 + c) ^^^ x)) C (push H m (V, C)) (pm m) ∧ Sm [114, 115, 117] I J ∧ Sc 114 [0, 4] I J) := by
  have hV := hM.1.1
  have hb := (hW.2.2.2 c hc).1
  have hq := nx16 (V (80 + c)) (by omega) x (by omega)
  refine g_aload_n (pc := 0) dX3_flip_0 rfl rfl ?_
  refine g_iload_n (pc := 1) dX3_flip_1 rfl rfl ?_
  refine g_iconst (v := nI 0) (pc := 2) dX3_flip_2 rfl ?_
  refine g_sipush (v := nI 239) (pc := 3) dX3_flip_3 rfl ?_
  refine g_fS (av := [.int _, .int _, .int _]) (pc := 6) dX3_flip_6 mt_X3_isIn lk_X3_73 sf_X3_isIn np_X3_isIn rfl (gc_i (gc_i (gc_i gc_0))) (Nat.le_of_ble_eq_true rfl) (Nat.le_of_ble_eq_true rfl) ⟨Nat.zero_le _, Nat.zero_le _⟩ (m_X3_isInN (by omega) (by decide) (by decide)) ?_
  refine g_if_neB (tgt := 16) (pc := 9) dX3_flip_9 (by decide) (fun c9 => ?_) (fun c9 => ?_)
  rotate_left
  · exact absurd ⟨Nat.zero_le _, by omega⟩ c9
  refine g_iload_n (pc := 16) dX3_flip_16 rfl rfl ?_
  refine g_iconst (v := nI 1) (pc := 17) dX3_flip_17 rfl ?_
  refine g_bipush (v := nI 15) (pc := 18) dX3_flip_18 rfl ?_
  refine g_fS (av := [.int _, .int _, .int _]) (pc := 20) dX3_flip_20 mt_X3_isIn lk_X3_73 sf_X3_isIn np_X3_isIn rfl (gc_i (gc_i (gc_i gc_0))) (Nat.le_of_ble_eq_true rfl) (Nat.le_of_ble_eq_true rfl) ⟨Nat.zero_le _, Nat.zero_le _⟩ (m_X3_isInN (by omega) (by decide) (by decide)) ?_
  refine g_if_neB (tgt := 30) (pc := 23) dX3_flip_23 (by decide) (fun c23 => ?_) (fun c23 => ?_)
  rotate_left
  · exact absurd hx c23
  refine g_iconst (v := nI 0) (pc := 30) dX3_flip_30 rfl ?_
  refine g_putI (pc := 31) dX3_flip_31 fl_X3_67 s_114 (by decide) rfl rfl rfl rfl ?_
  refine g_aload_n (pc := 34) dX3_flip_34 rfl rfl ?_
  refine g_getIV (pc := 35) dX3_flip_35 fl_X3_67 s_114 (by decide) rfl (show _ = nI 0 from rfl) ?_
  refine g_if_leN (tgt := 43) (pc := 38) dX3_flip_38 (by decide) (by omega) (fun c38 => ?_) (fun c38 => ?_)
  rotate_left
  · exact absurd c38 (by decide)
  refine g_aload_n (pc := 43) dX3_flip_43 rfl rfl ?_
  refine g_rvV (av := []) (pc := 44) dX3_flip_44 mt_X3_keeps lk_X3_130 im_X3_keeps se_X3_keeps np_X3_keeps s_114 (by decide) (by decide) rfl gc_0 (Nat.le_of_ble_eq_true rfl) (Nat.le_of_ble_eq_true rfl) (m_X3_keeps (H := H) (m := m) (C := C) hM.2.2.1 (by rw [gUp_c, if_neg (by decide)]; exact hM.2.1) (hM.2.2.2.s (gUp_ne (by decide))) hV.f (hM.1.2.o (by decide))) ?_
  rintro I1 ⟨k1, k2, k3, k4⟩
  have hV1 : Vok I1 V := Vok.s (hV.f (j := 0) (x := nI 0)) k1 (by decide)
  have hC1 : Cok I1 C := Cok.s (Cok.o (a := 114) (j := 0) (x := nI 0) (by decide) hM.1.2) k1 (by decide)
  refine g_aload_n (pc := 47) dX3_flip_47 rfl rfl ?_
  refine g_getR (pc := 48) dX3_flip_48 fl_X3_9 s_114 (by decide) rfl t_114_1 ?_
  refine g_bipush (v := nI 80) (pc := 51) dX3_flip_51 rfl ?_
  refine g_iload_n (pc := 53) dX3_flip_53 rfl rfl ?_
  refine g_iaddN (pc := 54) dX3_flip_54 ?_
  refine g_dup2 (pc := 55) dX3_flip_55 rfl rfl ?_
  refine g_ialoadN (pc := 56) dX3_flip_56 s_115 (by decide) (by omega) (by decide) (hV1 _ (by omega)) ?_
  refine g_iload_n (pc := 57) dX3_flip_57 rfl rfl ?_
  refine g_ixor (pc := 58) dX3_flip_58 ?_
  rw [hq.1]
  refine g_iastoreN (pc := 59) dX3_flip_59 s_115 (by decide) (by omega) (by decide) ?_
  refine g_aload_n (pc := 60) dX3_flip_60 rfl rfl ?_
  refine g_getR (pc := 61) dX3_flip_61 fl_X3_9 s_114 (by decide) rfl t_114_1 ?_
  refine g_bipush (v := nI 80) (pc := 64) dX3_flip_64 rfl ?_
  refine g_iload_n (pc := 66) dX3_flip_66 rfl rfl ?_
  refine g_iaddN (pc := 67) dX3_flip_67 ?_
  refine g_ialoadN (pc := 68) dX3_flip_68 s_115 (by decide) (by omega) (by decide) (by rw [gUp_c, if_pos rfl]) ?_
  refine g_iret (pc := 69) dX3_flip_69 rfl rfl ?_
  refine ⟨_, _, ⟨rfl, rfl⟩, ?_⟩
  refine ⟨rfl, ?_, ⟨⟨hV1.up, hC1.lo (by omega)⟩, ?_, (pm_le hM.2.2.1).1, k4.s (gUp_ne (by decide))⟩, ?_, ?_⟩
  · rw [gUp_ne (by decide), k2 0 (by decide), gUp_c, if_pos rfl]
  · rw [gUp_ne (by decide)]; exact k3
  · exact Sm.up (by decide) (Sm.trans (Sm.up (by decide) Sm.rfl) (k1.mono (by decide)))
  · exact Sc.un (by decide) (Sc.trans (Sc.up (by decide) Sc.rfl) (k2.mono (by decide)))
theorem m_X3_erase_1 {c : Int32} (h : ¬ (nI 0 ≤ c ∧ c ≤ nI 239)) : gFn G YX3_erase (d + 2) [.ref 114, .int c] (hp n I L D) (.inl (some (.int (nI 0)))) (hp n (gUp I 114 0 (nI 1)) L D) 0 0 := by
  refine g_aload_n (pc := 0) dX3_erase_0 rfl rfl ?_
  refine g_iload_n (pc := 1) dX3_erase_1 rfl rfl ?_
  refine g_fV (av := [.int _]) (pc := 2) dX3_erase_2 mt_X3_isCell lk_X3_160 im_X3_isCell se_X3_isCell np_X3_isCell s_114 (by decide) (by decide) rfl (gc_i gc_0) (Nat.le_of_ble_eq_true rfl) (Nat.le_of_ble_eq_true rfl) ⟨Nat.zero_le _, Nat.zero_le _⟩ (m_X3_isCell_f h) ?_
  refine g_if_neN (tgt := 10) (pc := 5) dX3_erase_5 (by decide) (by omega) (fun c5 => ?_) (fun c5 => ?_)
  · exact absurd c5 (by decide)
  · refine g_iconst (v := nI 0) (pc := 8) dX3_erase_8 rfl ?_
    refine g_iret (pc := 9) dX3_erase_9 rfl rfl ?_
    first | exact ⟨rfl, rfl⟩ | exact ⟨by rw [bI_t (by first | assumption | omega)], rfl⟩ | exact ⟨by rw [bI_f (by first | assumption | omega)], rfl⟩
theorem m_X3_erase_0 {C : Nat → Int32} {H : hT} {m c : Nat} (hM : Md I V C H m) (hW : WF V) (hc : c < 240) : gRi G YX3_erase (d + 2) [.ref 114, .int (nI c)] n I L D (fun v J => v = nI (1 - V (320 + c)) ∧ J 114 0 = nI 0 ∧ Md J (uV V (320 + c) 1) C (push H m (V, C)) (pm m) ∧ Sm [114, 115, 117] I J ∧ Sc 114 [0, 4] I J) := by
  have hV := hM.1.1
  have hb := (hW.2.2.2 c hc).2.1
  refine g_aload_n (pc := 0) dX3_erase_0 rfl rfl ?_
  refine g_iload_n (pc := 1) dX3_erase_1 rfl rfl ?_
  refine g_fV (av := [.int _]) (pc := 2) dX3_erase_2 mt_X3_isCell lk_X3_160 im_X3_isCell se_X3_isCell np_X3_isCell s_114 (by decide) (by decide) rfl (gc_i gc_0) (Nat.le_of_ble_eq_true rfl) (Nat.le_of_ble_eq_true rfl) ⟨Nat.zero_le _, Nat.zero_le _⟩ (m_X3_isCell_t hc) ?_
  refine g_if_neN (tgt := 10) (pc := 5) dX3_erase_5 (by decide) (by omega) (fun c5 => ?_) (fun c5 => ?_)
  rotate_left
  · exact absurd c5 (by decide)
  refine g_aload_n (pc := 10) dX3_erase_10 rfl rfl ?_
  refine g_rvV (av := []) (pc := 11) dX3_erase_11 mt_X3_keeps lk_X3_130 im_X3_keeps se_X3_keeps np_X3_keeps s_114 (by decide) (by decide) rfl gc_0 (Nat.le_of_ble_eq_true rfl) (Nat.le_of_ble_eq_true rfl) (m_X3_keeps (H := H) (m := m) (C := C) hM.2.2.1 (by rw [gUp_c, if_neg (by decide)]; exact hM.2.1) (hM.2.2.2.s (gUp_ne (by decide))) hV.f (hM.1.2.o (by decide))) ?_
  rintro I1 ⟨k1, k2, k3, k4⟩
  have hV1 : Vok I1 V := Vok.s (hV.f (j := 0) (x := nI 0)) k1 (by decide)
  have hC1 : Cok I1 C := Cok.s (Cok.o (a := 114) (j := 0) (x := nI 0) (by decide) hM.1.2) k1 (by decide)
  refine g_iconst (v := nI 1) (pc := 14) dX3_erase_14 rfl ?_
  refine g_aload_n (pc := 15) dX3_erase_15 rfl rfl ?_
  refine g_getR (pc := 16) dX3_erase_16 fl_X3_9 s_114 (by decide) rfl t_114_1 ?_
  refine g_sipush (v := nI 320) (pc := 19) dX3_erase_19 rfl ?_
  refine g_iload_n (pc := 22) dX3_erase_22 rfl rfl ?_
  refine g_iaddN (pc := 23) dX3_erase_23 ?_
  refine g_ialoadN (pc := 24) dX3_erase_24 s_115 (by decide) (by omega) (by decide) (hV1 _ (by omega)) ?_
  refine g_isubN (pc := 25) dX3_erase_25 (by omega) ?_
  refine g_istore_n (pc := 26) dX3_erase_26 rfl (Nat.le_of_ble_eq_true rfl) rfl ?_
  refine g_aload_n (pc := 27) dX3_erase_27 rfl rfl ?_
  refine g_getR (pc := 28) dX3_erase_28 fl_X3_9 s_114 (by decide) rfl t_114_1 ?_
  refine g_sipush (v := nI 320) (pc := 31) dX3_erase_31 rfl ?_
  refine g_iload_n (pc := 34) dX3_erase_34 rfl rfl ?_
  refine g_iaddN (pc := 35) dX3_erase_35 ?_
  refine g_iconst (v := nI 1) (pc := 36) dX3_erase_36 rfl ?_
  refine g_iastoreN (pc := 37) dX3_erase_37 s_115 (by decide) (by omega) (by decide) ?_
  refine g_iload_n (pc := 38) dX3_erase_38 rfl rfl ?_
  refine g_iret (pc := 39) dX3_erase_39 rfl rfl ?_
  refine ⟨_, _, ⟨rfl, rfl⟩, ?_⟩
  refine ⟨rfl, ?_, ⟨⟨hV1.up, hC1.lo (by omega)⟩, ?_, (pm_le hM.2.2.1).1, k4.s (gUp_ne (by decide))⟩, ?_, ?_⟩
  · rw [gUp_ne (by decide), k2 0 (by decide), gUp_c, if_pos rfl]
  · rw [gUp_ne (by decide)]; exact k3
  · exact Sm.up (by decide) (Sm.trans (Sm.up (by decide) Sm.rfl) (k1.mono (by decide)))
  · exact Sc.un (by decide) (Sc.trans (Sc.up (by decide) Sc.rfl) (k2.mono (by decide)))
theorem m_X3_advance_1 {c : Int32} (h : ¬ (nI 1 ≤ c ∧ c ≤ nI 100)) : gFn G YX3_advance (d + 1) [.ref 114, .int c] (hp n I L D) (.inl (some (.int (nI 0)))) (hp n (gUp I 114 0 (nI 1)) L D) 0 0 := by
  refine g_aload_n (pc := 0) dX3_advance_0 rfl rfl ?_
  refine g_iload_n (pc := 1) dX3_advance_1 rfl rfl ?_
  refine g_iconst (v := nI 1) (pc := 2) dX3_advance_2 rfl ?_
  refine g_bipush (v := nI 100) (pc := 3) dX3_advance_3 rfl ?_
  refine g_fS (av := [.int _, .int _, .int _]) (pc := 5) dX3_advance_5 mt_X3_isIn lk_X3_73 sf_X3_isIn np_X3_isIn rfl (gc_i (gc_i (gc_i gc_0))) (Nat.le_of_ble_eq_true rfl) (Nat.le_of_ble_eq_true rfl) ⟨Nat.zero_le _, Nat.zero_le _⟩ (m_X3_isIn) ?_
  refine g_if_neB (tgt := 15) (pc := 8) dX3_advance_8 (by decide) (fun c8 => ?_) (fun c8 => ?_)
  · exact absurd c8 h
  · refine g_iconst (v := nI 1) (pc := 11) dX3_advance_11 rfl ?_
    refine g_goto (tgt := 36) (pc := 12) dX3_advance_12 (by decide) ?_
    refine g_putI (pc := 36) dX3_advance_36 fl_X3_67 s_114 (by decide) rfl rfl rfl rfl ?_
    refine g_aload_n (pc := 39) dX3_advance_39 rfl rfl ?_
    refine g_getIV (pc := 40) dX3_advance_40 fl_X3_67 s_114 (by decide) rfl (show _ = nI 1 from rfl) ?_
    refine g_if_leN (tgt := 48) (pc := 43) dX3_advance_43 (by decide) (by omega) (fun c43 => ?_) (fun c43 => ?_)
    · exact absurd c43 (by decide)
    · refine g_iconst (v := nI 0) (pc := 46) dX3_advance_46 rfl ?_
      refine g_iret (pc := 47) dX3_advance_47 rfl rfl ?_
      first | exact ⟨rfl, rfl⟩ | exact ⟨by rw [bI_t (by first | assumption | omega)], rfl⟩ | exact ⟨by rw [bI_f (by first | assumption | omega)], rfl⟩
theorem m_X3_advance_2 (hV : Vok I V) (hW : WF V) {c : Nat} (h : 1 ≤ c ∧ c ≤ 100) (h2 : ¬ V 800 + c ≤ 10000) : gFn G YX3_advance (d + 1) [.ref 114, .int (nI c)] (hp n I L D) (.inl (some (.int (nI 0)))) (hp n (gUp I 114 0 (nI 2)) L D) 0 0 := by
  have h8 := hW.2.2.1
  refine g_aload_n (pc := 0) dX3_advance_0 rfl rfl ?_
  refine g_iload_n (pc := 1) dX3_advance_1 rfl rfl ?_
  refine g_iconst (v := nI 1) (pc := 2) dX3_advance_2 rfl ?_
  refine g_bipush (v := nI 100) (pc := 3) dX3_advance_3 rfl ?_
  refine g_fS (av := [.int _, .int _, .int _]) (pc := 5) dX3_advance_5 mt_X3_isIn lk_X3_73 sf_X3_isIn np_X3_isIn rfl (gc_i (gc_i (gc_i gc_0))) (Nat.le_of_ble_eq_true rfl) (Nat.le_of_ble_eq_true rfl) ⟨Nat.zero_le _, Nat.zero_le _⟩ (m_X3_isInN (by omega) (by decide) (by decide)) ?_
  refine g_if_neB (tgt := 15) (pc := 8) dX3_advance_8 (by decide) (fun c8 => ?_) (fun c8 => ?_)
  · refine g_aload_n (pc := 15) dX3_advance_15 rfl rfl ?_
    refine g_getR (pc := 16) dX3_advance_16 fl_X3_9 s_114 (by decide) rfl t_114_1 ?_
    refine g_sipush (v := nI 800) (pc := 19) dX3_advance_19 rfl ?_
    refine g_ialoadN (pc := 22) dX3_advance_22 s_115 (by decide) (by omega) (by decide) (hV _ (by omega)) ?_
    refine g_iload_n (pc := 23) dX3_advance_23 rfl rfl ?_
    refine g_iaddN (pc := 24) dX3_advance_24 ?_
    refine g_sipush (v := nI 10000) (pc := 25) dX3_advance_25 rfl ?_
    refine g_icmp_leN (tgt := 35) (pc := 28) dX3_advance_28 (by decide) (by omega) (by omega) (fun c28 => ?_) (fun c28 => ?_)
    · exact absurd c28 h2
    · refine g_iconst (v := nI 2) (pc := 31) dX3_advance_31 rfl ?_
      refine g_goto (tgt := 36) (pc := 32) dX3_advance_32 (by decide) ?_
      refine g_putI (pc := 36) dX3_advance_36 fl_X3_67 s_114 (by decide) rfl rfl rfl rfl ?_
      refine g_aload_n (pc := 39) dX3_advance_39 rfl rfl ?_
      refine g_getIV (pc := 40) dX3_advance_40 fl_X3_67 s_114 (by decide) rfl (show _ = nI 2 from rfl) ?_
      refine g_if_leN (tgt := 48) (pc := 43) dX3_advance_43 (by decide) (by omega) (fun c43 => ?_) (fun c43 => ?_)
      · exact absurd c43 (by decide)
      · refine g_iconst (v := nI 0) (pc := 46) dX3_advance_46 rfl ?_
        refine g_iret (pc := 47) dX3_advance_47 rfl rfl ?_
        first | exact ⟨rfl, rfl⟩ | exact ⟨by rw [bI_t (by first | assumption | omega)], rfl⟩ | exact ⟨by rw [bI_f (by first | assumption | omega)], rfl⟩
  · exact absurd h c8
theorem m_X3_advance_0 {C : Nat → Int32} {H : hT} {m c : Nat} (hM : Md I V C H m) (hW : WF V) (h : 1 ≤ c ∧ c ≤ 100) (h2 : V 800 + c ≤ 10000) : gRi G YX3_advance (d + 1) [.ref 114, .int (nI c)] n I L D (fun v J => v = nI (V 800 + c) ∧ J 114 0 = nI 0 ∧ Md J (uV V 800 (V 800 + c)) C (push H m (V, C)) (pm m) ∧ Sm [114, 115, 117] I J ∧ Sc 114 [0, 4] I J) := by
  have hV := hM.1.1
  have h8 := hW.2.2.1
  refine g_aload_n (pc := 0) dX3_advance_0 rfl rfl ?_
  refine g_iload_n (pc := 1) dX3_advance_1 rfl rfl ?_
  refine g_iconst (v := nI 1) (pc := 2) dX3_advance_2 rfl ?_
  refine g_bipush (v := nI 100) (pc := 3) dX3_advance_3 rfl ?_
  refine g_fS (av := [.int _, .int _, .int _]) (pc := 5) dX3_advance_5 mt_X3_isIn lk_X3_73 sf_X3_isIn np_X3_isIn rfl (gc_i (gc_i (gc_i gc_0))) (Nat.le_of_ble_eq_true rfl) (Nat.le_of_ble_eq_true rfl) ⟨Nat.zero_le _, Nat.zero_le _⟩ (m_X3_isInN (by omega) (by decide) (by decide)) ?_
  refine g_if_neB (tgt := 15) (pc := 8) dX3_advance_8 (by decide) (fun c8 => ?_) (fun c8 => ?_)
  rotate_left
  · exact absurd h c8
  refine g_aload_n (pc := 15) dX3_advance_15 rfl rfl ?_
  refine g_getR (pc := 16) dX3_advance_16 fl_X3_9 s_114 (by decide) rfl t_114_1 ?_
  refine g_sipush (v := nI 800) (pc := 19) dX3_advance_19 rfl ?_
  refine g_ialoadN (pc := 22) dX3_advance_22 s_115 (by decide) (by omega) (by decide) (hV _ (by omega)) ?_
  refine g_iload_n (pc := 23) dX3_advance_23 rfl rfl ?_
  refine g_iaddN (pc := 24) dX3_advance_24 ?_
  refine g_sipush (v := nI 10000) (pc := 25) dX3_advance_25 rfl ?_
  refine g_icmp_leN (tgt := 35) (pc := 28) dX3_advance_28 (by decide) (by omega) (by omega) (fun c28 => ?_) (fun c28 => ?_)
  rotate_left
  · exact absurd h2 c28
  refine g_iconst (v := nI 0) (pc := 35) dX3_advance_35 rfl ?_
  refine g_putI (pc := 36) dX3_advance_36 fl_X3_67 s_114 (by decide) rfl rfl rfl rfl ?_
  refine g_aload_n (pc := 39) dX3_advance_39 rfl rfl ?_
  refine g_getIV (pc := 40) dX3_advance_40 fl_X3_67 s_114 (by decide) rfl (show _ = nI 0 from rfl) ?_
  refine g_if_leN (tgt := 48) (pc := 43) dX3_advance_43 (by decide) (by omega) (fun c43 => ?_) (fun c43 => ?_)
  rotate_left
  · exact absurd c43 (by decide)
  refine g_aload_n (pc := 48) dX3_advance_48 rfl rfl ?_
  refine g_rvV (av := []) (pc := 49) dX3_advance_49 mt_X3_keeps lk_X3_130 im_X3_keeps se_X3_keeps np_X3_keeps s_114 (by decide) (by decide) rfl gc_0 (Nat.le_of_ble_eq_true rfl) (Nat.le_of_ble_eq_true rfl) (m_X3_keeps (H := H) (m := m) (C := C) hM.2.2.1 (by rw [gUp_c, if_neg (by decide)]; exact hM.2.1) (hM.2.2.2.s (gUp_ne (by decide))) hV.f (hM.1.2.o (by decide))) ?_
  rintro I1 ⟨k1, k2, k3, k4⟩
  have hV1 : Vok I1 V := Vok.s (hV.f (j := 0) (x := nI 0)) k1 (by decide)
  have hC1 : Cok I1 C := Cok.s (Cok.o (a := 114) (j := 0) (x := nI 0) (by decide) hM.1.2) k1 (by decide)
  refine g_aload_n (pc := 52) dX3_advance_52 rfl rfl ?_
  refine g_getR (pc := 53) dX3_advance_53 fl_X3_9 s_114 (by decide) rfl t_114_1 ?_
  refine g_sipush (v := nI 800) (pc := 56) dX3_advance_56 rfl ?_
  refine g_dup2 (pc := 59) dX3_advance_59 rfl rfl ?_
  refine g_ialoadN (pc := 60) dX3_advance_60 s_115 (by decide) (by omega) (by decide) (hV1 _ (by omega)) ?_
  refine g_iload_n (pc := 61) dX3_advance_61 rfl rfl ?_
  refine g_iaddN (pc := 62) dX3_advance_62 ?_
  refine g_iastoreN (pc := 63) dX3_advance_63 s_115 (by decide) (by omega) (by decide) ?_
  refine g_aload_n (pc := 64) dX3_advance_64 rfl rfl ?_
  refine g_getR (pc := 65) dX3_advance_65 fl_X3_9 s_114 (by decide) rfl t_114_1 ?_
  refine g_sipush (v := nI 800) (pc := 68) dX3_advance_68 rfl ?_
  refine g_ialoadN (pc := 71) dX3_advance_71 s_115 (by decide) (by omega) (by decide) (by rw [gUp_c, if_pos rfl]) ?_
  refine g_iret (pc := 72) dX3_advance_72 rfl rfl ?_
  refine ⟨_, _, ⟨rfl, rfl⟩, ?_⟩
  refine ⟨rfl, ?_, ⟨⟨hV1.up, hC1.lo (by omega)⟩, ?_, (pm_le hM.2.2.1).1, k4.s (gUp_ne (by decide))⟩, ?_, ?_⟩
  · rw [gUp_ne (by decide), k2 0 (by decide), gUp_c, if_pos rfl]
  · rw [gUp_ne (by decide)]; exact k3
  · exact Sm.up (by decide) (Sm.trans (Sm.up (by decide) Sm.rfl) (k1.mono (by decide)))
  · exact Sc.un (by decide) (Sc.trans (Sc.up (by decide) Sc.rfl) (k2.mono (by decide)))
theorem m_X3_undo_1 (h4 : I 114 4 = nI 0) : gFn G YX3_undo d [.ref 114] (hp n I L D) (.inl (some (.int (nI 0)))) (hp n (gUp I 114 0 (nI 1)) L D) 0 0 := by
  refine g_aload_n (pc := 0) dX3_undo_0 rfl rfl ?_
  refine g_aload_n (pc := 1) dX3_undo_1 rfl rfl ?_
  refine g_getIV (pc := 2) dX3_undo_2 fl_X3_70 s_114 (by decide) rfl h4 ?_
  refine g_if_neN (tgt := 12) (pc := 5) dX3_undo_5 (by decide) (by omega) (fun c5 => ?_) (fun c5 => ?_)
  · exact absurd rfl c5
  · refine g_iconst (v := nI 1) (pc := 8) dX3_undo_8 rfl ?_
    refine g_goto (tgt := 13) (pc := 9) dX3_undo_9 (by decide) ?_
    refine g_putI (pc := 13) dX3_undo_13 fl_X3_67 s_114 (by decide) rfl rfl rfl rfl ?_
    refine g_aload_n (pc := 16) dX3_undo_16 rfl rfl ?_
    refine g_getIV (pc := 17) dX3_undo_17 fl_X3_67 s_114 (by decide) rfl (show _ = nI 1 from rfl) ?_
    refine g_iconst (v := nI 1) (pc := 20) dX3_undo_20 rfl ?_
    refine g_icmp_neN (tgt := 26) (pc := 21) dX3_undo_21 (by decide) (by omega) (by omega) (fun c21 => ?_) (fun c21 => ?_)
    · exact absurd c21 (by decide)
    · refine g_iconst (v := nI 0) (pc := 24) dX3_undo_24 rfl ?_
      refine g_iret (pc := 25) dX3_undo_25 rfl rfl ?_
      first | exact ⟨rfl, rfl⟩ | exact ⟨by rw [bI_t (by first | assumption | omega)], rfl⟩ | exact ⟨by rw [bI_f (by first | assumption | omega)], rfl⟩
theorem m_X3_undo_0 {C : Nat → Int32} {H : hT} {m : Nat} (hM : Md I V C H (m + 1)) : gRi G YX3_undo d [.ref 114] n I L D (fun v J => v = nI m ∧ J 114 0 = nI 0 ∧ Md J (H m).1 (H m).2 H m ∧ Sm [114, 115] I J ∧ Sc 114 [0, 4] I J) := by
  have h6 := hM.2.2.1
  have h4 := hM.2.1
  have hp9 := hM.2.2.2 m (by omega)
  refine g_aload_n (pc := 0) dX3_undo_0 rfl rfl ?_
  refine g_aload_n (pc := 1) dX3_undo_1 rfl rfl ?_
  refine g_getIV (pc := 2) dX3_undo_2 fl_X3_70 s_114 (by decide) rfl h4 ?_
  refine g_if_neN (tgt := 12) (pc := 5) dX3_undo_5 (by decide) (by omega) (fun c5 => ?_) (fun c5 => ?_)
  rotate_left
  · exact absurd c5 (by omega)
  refine g_iconst (v := nI 0) (pc := 12) dX3_undo_12 rfl ?_
  refine g_putI (pc := 13) dX3_undo_13 fl_X3_67 s_114 (by decide) rfl rfl rfl rfl ?_
  refine g_aload_n (pc := 16) dX3_undo_16 rfl rfl ?_
  refine g_getIV (pc := 17) dX3_undo_17 fl_X3_67 s_114 (by decide) rfl (show _ = nI 0 from rfl) ?_
  refine g_iconst (v := nI 1) (pc := 20) dX3_undo_20 rfl ?_
  refine g_icmp_neN (tgt := 26) (pc := 21) dX3_undo_21 (by decide) (by omega) (by omega) (fun c21 => ?_) (fun c21 => ?_)
  rotate_left
  · exact absurd c21 (by decide)
  refine g_aload_n (pc := 26) dX3_undo_26 rfl rfl ?_
  refine g_dup (pc := 27) dX3_undo_27 rfl ?_
  refine g_getIV (pc := 28) dX3_undo_28 fl_X3_70 s_114 (by decide) rfl (gUp_k (by decide) h4) ?_
  refine g_iconst (v := nI 1) (pc := 31) dX3_undo_31 rfl ?_
  refine g_isubN (pc := 32) dX3_undo_32 (by omega) ?_
  refine g_putI (pc := 33) dX3_undo_33 fl_X3_70 s_114 (by decide) rfl rfl rfl rfl ?_
  refine g_iconst (v := nI 0) (pc := 36) dX3_undo_36 rfl ?_
  refine g_istore_n (pc := 37) dX3_undo_37 rfl (Nat.le_of_ble_eq_true rfl) rfl ?_
  refine g_loop 809 (fun k J => (Sm [115] (gUp (gUp I 114 0 (nI 0)) 114 4 (nI m)) J) ∧ ∀ x, x < k → J 115 x = I 117 (809 * m + x)) (fun k _ => [some (.ref 114), some (.int (nI k))]) (fun J => hp n J L D) (fun k J hk hJ kn => ?_) (fun J hJ => ?_) 0 _ (Nat.zero_le _) ⟨Sm.rfl, fun x hx => absurd hx (Nat.not_lt_zero x)⟩
  · obtain ⟨s1, s2⟩ := hJ
    have e4 : J 114 4 = nI m := by rw [s1 114 (by decide), gUp_c, if_pos rfl]
    refine g_iload_n (pc := 38) dX3_undo_38 rfl rfl ?_
    refine g_sipush (v := nI 809) (pc := 39) dX3_undo_39 rfl ?_
    refine g_icmp_geN (tgt := 72) (pc := 42) dX3_undo_42 (by decide) (by omega) (by omega) (fun c42 => ?_) (fun c42 => ?_)
    · omega
    · refine g_aload_n (pc := 45) dX3_undo_45 rfl rfl ?_
      refine g_getR (pc := 46) dX3_undo_46 fl_X3_9 s_114 (by decide) rfl t_114_1 ?_
      refine g_iload_n (pc := 49) dX3_undo_49 rfl rfl ?_
      refine g_aload_n (pc := 50) dX3_undo_50 rfl rfl ?_
      refine g_getR (pc := 51) dX3_undo_51 fl_X3_16 s_114 (by decide) rfl t_114_3 ?_
      refine g_aload_n (pc := 54) dX3_undo_54 rfl rfl ?_
      refine g_getIV (pc := 55) dX3_undo_55 fl_X3_70 s_114 (by decide) rfl e4 ?_
      refine g_sipush (v := nI 809) (pc := 58) dX3_undo_58 rfl ?_
      refine g_imulN (pc := 61) dX3_undo_61 ?_
      refine g_iload_n (pc := 62) dX3_undo_62 rfl rfl ?_
      refine g_iaddN (pc := 63) dX3_undo_63 ?_
      refine g_ialoadN (pc := 64) dX3_undo_64 s_117 (by decide) (by omega) (by decide) rfl ?_
      refine g_iastoreN (pc := 65) dX3_undo_65 s_115 (by decide) (by omega) (by decide) ?_
      refine g_iincN (pc := 66) dX3_undo_66 (Nat.le_of_ble_eq_true rfl) rfl rfl ?_
      refine g_goto (tgt := 38) (pc := 69) dX3_undo_69 (by decide) ?_
      refine kn _ ⟨(by repeat' first | assumption | exact Sm.rfl | exact Sc.rfl | refine Sm.up (by decide) ?_ | refine Sc.up (by decide) ?_ | refine Sc.un (by decide) ?_), fun x hx => ?_⟩
      rw [gUp_c]
      by_cases e : x = k
      · rw [if_pos e, e, s1 117 (by decide), gUp_ne (by decide), gUp_ne (by decide)]
        congr 1
        omega
      · rw [if_neg e]; exact s2 x (by omega)
  · obtain ⟨s1, s2⟩ := hJ
    have e4 : J 114 4 = nI m := by rw [s1 114 (by decide), gUp_c, if_pos rfl]
    refine g_iload_n (pc := 38) dX3_undo_38 rfl rfl ?_
    refine g_sipush (v := nI 809) (pc := 39) dX3_undo_39 rfl ?_
    refine g_icmp_geN (tgt := 72) (pc := 42) dX3_undo_42 (by decide) (by omega) (by omega) (fun c42 => ?_) (fun c42 => ?_)
    · refine g_aload_n (pc := 72) dX3_undo_72 rfl rfl ?_
      refine g_getIV (pc := 73) dX3_undo_73 fl_X3_70 s_114 (by decide) rfl e4 ?_
      refine g_iret (pc := 76) dX3_undo_76 rfl rfl ?_
      refine ⟨_, _, ⟨rfl, rfl⟩, ?_⟩
      refine ⟨rfl, ?_, ⟨⟨fun x hx => (s2 x (by omega)).trans (hp9.1 x hx), fun x hx => (s2 _ (by omega)).trans (hp9.2 x hx)⟩, e4, by omega, fun k hk => ?_⟩, ?_, ?_⟩
      · rw [s1 114 (by decide), gUp_c, if_neg (by decide), gUp_c, if_pos rfl]
      · rw [s1 117 (by decide), gUp_ne (by decide), gUp_ne (by decide)]; exact hM.2.2.2 k (by omega)
      · exact Sm.trans (Sm.up (by decide) (Sm.up (by decide) Sm.rfl)) (s1.mono (by decide))
      · exact Sc.trans (Sc.up (by decide) (Sc.up (by decide) Sc.rfl)) (s1.sc (by decide))
    · exact absurd (Nat.le_refl _) c42
theorem m_X3_save (hV : Vok I V) (hW : WF V) {C : Nat → Int32} (hC : Cok I C) : gRi G YX3_save (d + 3) [.ref 114] n I L D (fun v J => v = nI (mn V 8) ∧ J 114 0 = nI 0 ∧ J 114 6 = nI 1 ∧ Snp (J 116) (V, C) ∧ Sm [114, 116] I J ∧ Sc 114 [0, 6] I J) := by
  refine g_aload_n (pc := 0) dX3_save_0 rfl rfl ?_
  refine g_iconst (v := nI 0) (pc := 1) dX3_save_1 rfl ?_
  refine g_putI (pc := 2) dX3_save_2 fl_X3_67 s_114 (by decide) rfl rfl rfl rfl ?_
  refine g_aload_n (pc := 5) dX3_save_5 rfl rfl ?_
  refine g_getR (pc := 6) dX3_save_6 fl_X3_9 s_114 (by decide) rfl t_114_1 ?_
  refine g_aload_n (pc := 9) dX3_save_9 rfl rfl ?_
  refine g_getR (pc := 10) dX3_save_10 fl_X3_13 s_114 (by decide) rfl t_114_2 ?_
  refine g_rvS (av := [.ref 115, .ref 116]) (pc := 13) dX3_save_13 mt_X3_copies lk_X3_229 sf_X3_copies np_X3_copies rfl (gc_r (gc_r gc_0)) (Nat.le_of_ble_eq_true rfl) (Nat.le_of_ble_eq_true rfl) m_X3_copies_s ?_
  rintro I1 ⟨k1, k2⟩
  have hV1 : Vok I1 V := Vok.s (hV.f (j := 0) (x := nI 0)) k1 (by decide)
  refine g_aload_n (pc := 16) dX3_save_16 rfl rfl ?_
  refine g_iconst (v := nI 1) (pc := 17) dX3_save_17 rfl ?_
  refine g_putI (pc := 18) dX3_save_18 fl_X3_233 s_114 (by decide) rfl rfl rfl rfl ?_
  refine g_aload_n (pc := 21) dX3_save_21 rfl rfl ?_
  refine g_fV (av := []) (pc := 22) dX3_save_22 mt_X3_many lk_X3_94 im_X3_many se_X3_many np_X3_many s_114 (by decide) (by decide) rfl gc_0 (Nat.le_of_ble_eq_true rfl) (Nat.le_of_ble_eq_true rfl) ⟨Nat.zero_le _, Nat.zero_le _⟩ (m_X3_many hV1.f hW) ?_
  refine g_iret (pc := 25) dX3_save_25 rfl rfl ?_
  refine ⟨_, _, ⟨rfl, rfl⟩, ?_⟩
  refine ⟨rfl, ?_, ?_, ⟨fun x hx => ?_, fun x hx => ?_⟩, ?_, ?_⟩
  · rw [gUp_c, if_neg (by decide), k1 114 (by decide), gUp_c, if_pos rfl]
  · rw [gUp_c, if_pos rfl]
  · rw [gUp_ne (by decide), k2 x (by omega), gUp_ne (by decide)]; exact hV x hx
  · rw [gUp_ne (by decide), k2 _ (by omega), gUp_ne (by decide)]; exact hC x hx
  · exact Sm.up (by decide) (Sm.trans (Sm.up (by decide) Sm.rfl) (k1.mono (by decide)))
  · exact Sc.up (by decide) (Sc.trans (Sc.up (by decide) Sc.rfl) (k1.sc (by decide)))
theorem m_X3_restore_1 (h6 : I 114 6 = nI 0) : gFn G YX3_restore (d + 3) [.ref 114] (hp n I L D) (.inl (some (.int (nI 0)))) (hp n (gUp I 114 0 (nI 1)) L D) 0 0 := by
  refine g_aload_n (pc := 0) dX3_restore_0 rfl rfl ?_
  refine g_aload_n (pc := 1) dX3_restore_1 rfl rfl ?_
  refine g_getIV (pc := 2) dX3_restore_2 fl_X3_233 s_114 (by decide) rfl h6 ?_
  refine g_if_eqN (tgt := 12) (pc := 5) dX3_restore_5 (by decide) (by omega) (fun c5 => ?_) (fun c5 => ?_)
  · refine g_iconst (v := nI 1) (pc := 12) dX3_restore_12 rfl ?_
    refine g_putI (pc := 13) dX3_restore_13 fl_X3_67 s_114 (by decide) rfl rfl rfl rfl ?_
    refine g_aload_n (pc := 16) dX3_restore_16 rfl rfl ?_
    refine g_getIV (pc := 17) dX3_restore_17 fl_X3_233 s_114 (by decide) rfl (gUp_k (by decide) h6) ?_
    refine g_if_neN (tgt := 25) (pc := 20) dX3_restore_20 (by decide) (by omega) (fun c20 => ?_) (fun c20 => ?_)
    · exact absurd rfl c20
    · refine g_iconst (v := nI 0) (pc := 23) dX3_restore_23 rfl ?_
      refine g_iret (pc := 24) dX3_restore_24 rfl rfl ?_
      first | exact ⟨rfl, rfl⟩ | exact ⟨by rw [bI_t (by first | assumption | omega)], rfl⟩ | exact ⟨by rw [bI_f (by first | assumption | omega)], rfl⟩
  · exact absurd rfl c5
theorem m_X3_restore_0 {s : (Nat → Nat) × (Nat → Int32)} (h6 : I 114 6 = nI 1) (hS : Snp (I 116) s) (hW : WF s.1) : gRi G YX3_restore (d + 3) [.ref 114] n I L D (fun v J => v = nI (mn s.1 8) ∧ J 114 0 = nI 0 ∧ J 114 4 = nI 0 ∧ Vok J s.1 ∧ Cok J s.2 ∧ Sm [114, 115] I J ∧ Sc 114 [0, 4] I J) := by
  refine g_aload_n (pc := 0) dX3_restore_0 rfl rfl ?_
  refine g_aload_n (pc := 1) dX3_restore_1 rfl rfl ?_
  refine g_getIV (pc := 2) dX3_restore_2 fl_X3_233 s_114 (by decide) rfl h6 ?_
  refine g_if_eqN (tgt := 12) (pc := 5) dX3_restore_5 (by decide) (by omega) (fun c5 => ?_) (fun c5 => ?_)
  · exact absurd c5 (by decide)
  refine g_iconst (v := nI 0) (pc := 8) dX3_restore_8 rfl ?_
  refine g_goto (tgt := 13) (pc := 9) dX3_restore_9 (by decide) ?_
  refine g_putI (pc := 13) dX3_restore_13 fl_X3_67 s_114 (by decide) rfl rfl rfl rfl ?_
  refine g_aload_n (pc := 16) dX3_restore_16 rfl rfl ?_
  refine g_getIV (pc := 17) dX3_restore_17 fl_X3_233 s_114 (by decide) rfl (gUp_k (by decide) h6) ?_
  refine g_if_neN (tgt := 25) (pc := 20) dX3_restore_20 (by decide) (by omega) (fun c20 => ?_) (fun c20 => ?_)
  rotate_left
  · exact absurd c20 (by decide)
  refine g_aload_n (pc := 25) dX3_restore_25 rfl rfl ?_
  refine g_getR (pc := 26) dX3_restore_26 fl_X3_13 s_114 (by decide) rfl t_114_2 ?_
  refine g_aload_n (pc := 29) dX3_restore_29 rfl rfl ?_
  refine g_getR (pc := 30) dX3_restore_30 fl_X3_9 s_114 (by decide) rfl t_114_1 ?_
  refine g_rvS (av := [.ref 116, .ref 115]) (pc := 33) dX3_restore_33 mt_X3_copies lk_X3_229 sf_X3_copies np_X3_copies rfl (gc_r (gc_r gc_0)) (Nat.le_of_ble_eq_true rfl) (Nat.le_of_ble_eq_true rfl) m_X3_copies_r ?_
  rintro I1 ⟨k1, k2⟩
  have hV1 : Vok I1 s.1 := fun x hx => (k2 x (by omega)).trans (by rw [gUp_ne (by decide)]; exact hS.1 x hx)
  have hC1 : Cok I1 s.2 := fun x hx => (k2 _ (by omega)).trans (by rw [gUp_ne (by decide)]; exact hS.2 x hx)
  refine g_aload_n (pc := 36) dX3_restore_36 rfl rfl ?_
  refine g_iconst (v := nI 0) (pc := 37) dX3_restore_37 rfl ?_
  refine g_putI (pc := 38) dX3_restore_38 fl_X3_70 s_114 (by decide) rfl rfl rfl rfl ?_
  refine g_aload_n (pc := 41) dX3_restore_41 rfl rfl ?_
  refine g_fV (av := []) (pc := 42) dX3_restore_42 mt_X3_many lk_X3_94 im_X3_many se_X3_many np_X3_many s_114 (by decide) (by decide) rfl gc_0 (Nat.le_of_ble_eq_true rfl) (Nat.le_of_ble_eq_true rfl) ⟨Nat.zero_le _, Nat.zero_le _⟩ (m_X3_many hV1.f hW) ?_
  refine g_iret (pc := 45) dX3_restore_45 rfl rfl ?_
  refine ⟨_, _, ⟨rfl, rfl⟩, ?_⟩
  refine ⟨rfl, ?_, ?_, hV1.f, hC1.o (by decide), ?_, ?_⟩
  · rw [gUp_c, if_neg (by decide), k1 114 (by decide), gUp_c, if_pos rfl]
  · rw [gUp_c, if_pos rfl]
  · exact Sm.up (by decide) (Sm.trans (Sm.up (by decide) Sm.rfl) (k1.mono (by decide)))
  · exact Sc.up (by decide) (Sc.trans (Sc.up (by decide) Sc.rfl) (k1.sc (by decide)))
end

