/-! ===== the class: changes ===== -/
theorem Snap.f {I J : Nat → Nat → Int32} {V : Nat → Nat} {C : Nat → Int32} (h : Snap I 4 V C) (e : ∀ a, 4 ≤ a → a < 16 → J a = I a) : Snap J 4 V C := h.s (fun i hi => e _ (by omega) (by omega))
theorem Cs.f {I J : Nat → Nat → Int32} {V W : Nat → Nat} {C E : Nat → Int32} {H : hT} {m o : Nat} (h : Cs I V C H m o) (hS : Snap J 4 W E) (e : ∀ a, 42 ≤ a → a < 114 → J a = I a) (e1 : J 3 11 = I 3 11) (e2 : J 3 12 = I 3 12) : Cs J W E H m o := ⟨hS, e1.trans h.2.1, e2.trans h.2.2.1, h.2.2.2.1, h.2.2.2.2.1, h.2.2.2.2.2.s e⟩
/-- what a change leaves -/
def Fc (I J : Nat → Nat → Int32) : Prop := (∀ a, a < 3 ∨ (16 ≤ a ∧ a < 42) ∨ 114 ≤ a → J a = I a) ∧ Sc 3 [11, 12] I J
theorem Fc.r {I : Nat → Nat → Int32} : Fc I I := ⟨fun _ _ => rfl, Sc.rfl⟩
theorem Fc.t {I J K : Nat → Nat → Int32} (h : Fc I J) (k : Fc J K) : Fc I K := ⟨fun a ha => (k.1 a ha).trans (h.1 a ha), Sc.trans h.2 k.2⟩
theorem Rm.c {I J : Nat → Nat → Int32} (h : Rm I J) : Fc I J := ⟨fun a ha => h.1 a (by omega), h.2⟩
theorem Fc.s {I J : Nat → Nat → Int32} {l : List Nat} (h : Sm l I J) (hl : ∀ a, a ∈ l → 4 ≤ a ∧ a < 16) : Fc I J := ⟨fun a ha => h a (fun q => by have := hl a q; omega), (h.sc (fun q => by have := hl 3 q; omega))⟩
section
variable {G : gG} {d n : Nat} {I : Nat → Nat → Int32} {L : Nat → Nat → Int64} {D : Nat → Nat → UInt64} {V : Nat → Nat}
variable {C : Nat → Int32} {H : hT} {m o : Nat}
/-- behind remembering: the state changed -/
theorem Cs.up {J : Nat → Nat → Int32} {W : Nat → Nat} {E : Nat → Int32} {V1 : Nat → Nat} {C1 : Nat → Int32} {l : List Nat} (h : Cs I V1 C1 H m o) (hS : Snap J 4 W E) (s : Sm l I J) (hl : ∀ a, a ∈ l → 4 ≤ a ∧ a < 16) : Cs J W E H m o := h.f hS (fun a h1 h2 => s a (fun q => by have := hl a q; omega)) (congrFun (s 3 (fun q => by have := hl 3 q; omega)) 11) (congrFun (s 3 (fun q => by have := hl 3 q; omega)) 12)
theorem m_X2_clear (h : Cs I V C H m o) (hW : WF V) : gX G YX2_clear (d + 9) [.ref 3] n I L D (.inl (some (.int (nI (mn V 8))))) (fun J => Cs J (fun _ => 0) (fun _ => 0) H 0 0 ∧ Fc I J) := by
  obtain ⟨hS, h11, h12, ho, hm, hC⟩ := h
  refine g_aload_n (pc := 0) dX2_clear_0 rfl rfl ?_
  refine g_getR (pc := 1) dX2_clear_1 fl_X2_12 s_3 (by decide) rfl t_3_0 ?_
  refine g_fV (av := []) (pc := 4) dX2_clear_4 mt_X1_fileCount lk_X2_61 im_X1_fileCount se_X1_fileCount np_X1_fileCount s_4 (by decide) (by decide) rfl gc_0 (Nat.le_of_ble_eq_true rfl) (Nat.le_of_ble_eq_true rfl) ⟨Nat.zero_le _, Nat.zero_le _⟩ (m_X1_fileCount hS hW) ?_
  refine g_istore_n (pc := 7) dX2_clear_7 rfl (Nat.le_of_ble_eq_true rfl) rfl ?_
  refine g_aload_n (pc := 8) dX2_clear_8 rfl rfl ?_
  refine g_getR (pc := 9) dX2_clear_9 fl_X2_12 s_3 (by decide) rfl t_3_0 ?_
  refine g_rvV (av := []) (pc := 12) dX2_clear_12 mt_X1_reset lk_X2_65 im_X1_reset se_X1_reset np_X1_reset s_4 (by decide) (by decide) rfl gc_0 (Nat.le_of_ble_eq_true rfl) (Nat.le_of_ble_eq_true rfl) (m_X1_reset hS hW) ?_
  rintro I1 ⟨k1, k2⟩
  refine g_aload_n (pc := 15) dX2_clear_15 rfl rfl ?_
  refine g_rvV (av := []) (pc := 16) dX2_clear_16 mt_X2_forgetChanges lk_X2_68 im_X2_forgetChanges se_X2_forgetChanges np_X2_forgetChanges s_3 (by decide) (by decide) rfl gc_0 (Nat.le_of_ble_eq_true rfl) (Nat.le_of_ble_eq_true rfl) (m_X2_forgetChanges (d := d + 8)) ?_
  rintro _ rfl
  refine g_iload_n (pc := 19) dX2_clear_19 rfl rfl ?_
  refine g_iret (pc := 20) dX2_clear_20 rfl rfl ?_
  refine ⟨_, ⟨rfl, rfl⟩, ⟨k1.f (fun a h1 h2 => by rw [gUp_ne (by omega), gUp_ne (by omega)]), gUp_k (by decide) (by rw [gUp_c, if_pos rfl]), by rw [gUp_c, if_pos rfl], by decide, by decide, fun k hk => absurd hk (Nat.not_lt_zero k)⟩, fun a ha => ?_, fun j hj => ?_⟩
  · rw [gUp_ne (by omega), gUp_ne (by omega)]; exact k2 a (by intro q; simp at q; omega)
  · rw [gUp_c, if_neg (fun e => hj (by rw [e]; decide)), gUp_c, if_neg (fun e => hj (by rw [e]; decide)), k2 3 (by decide)]
theorem m_X2_remove_1 (hS : Snap I 4 V C) (hW : WF V) {f : Int32} (hf : ¬ isFi V f) : gX G YX2_remove (d + 9) [.ref 3, .int f] n I L D (.inr "java/lang/IndexOutOfBoundsException") (fun J => J = I) := by
  refine g_aload_n (pc := 0) dX2_remove_0 rfl rfl ?_
  refine g_getR (pc := 1) dX2_remove_1 fl_X2_12 s_3 (by decide) rfl t_3_0 ?_
  refine g_iload_n (pc := 4) dX2_remove_4 rfl rfl ?_
  refine g_fV (av := [.int _]) (pc := 5) dX2_remove_5 mt_X1_hasFile lk_X2_117 im_X1_hasFile se_X1_hasFile np_X1_hasFile s_4 (by decide) (by decide) rfl (gc_i gc_0) (Nat.le_of_ble_eq_true rfl) (Nat.le_of_ble_eq_true rfl) ⟨Nat.zero_le _, Nat.zero_le _⟩ (m_X1_hasFile hS hW) ?_
  refine g_if_neB (tgt := 21) (pc := 8) dX2_remove_8 (by decide) (fun c8 => ?_) (fun c8 => ?_)
  · exact absurd c8 hf
  · refine g_throw (pc := 11) th_X2_remove_11 (Nat.le_of_ble_eq_true rfl) (Nat.le_of_ble_eq_true rfl) ?_
    exact ⟨_, ⟨rfl, rfl⟩, rfl⟩
theorem m_X2_remove_0 (h : Cs I V C H m o) (hW : WF V) {j : Nat} (hj : j < 8) (h1 : V (10 * j) = 1) : gX G YX2_remove (d + 9) [.ref 3, .int (nI j)] n I L D (.inl (some (.int (nI (mn (rmV V j) 8))))) (fun J => (∃ o2, Cs J (rmV V j) (C) (push H m (V, C)) (pm m) o2) ∧ Fc I J) := by
  have hS := h.1
  refine g_aload_n (pc := 0) dX2_remove_0 rfl rfl ?_
  refine g_getR (pc := 1) dX2_remove_1 fl_X2_12 s_3 (by decide) rfl t_3_0 ?_
  refine g_iload_n (pc := 4) dX2_remove_4 rfl rfl ?_
  refine g_fV (av := [.int _]) (pc := 5) dX2_remove_5 mt_X1_hasFile lk_X2_117 im_X1_hasFile se_X1_hasFile np_X1_hasFile s_4 (by decide) (by decide) rfl (gc_i gc_0) (Nat.le_of_ble_eq_true rfl) (Nat.le_of_ble_eq_true rfl) ⟨Nat.zero_le _, Nat.zero_le _⟩ (m_X1_hasFileN hS hW hj) ?_
  refine g_if_neB (tgt := 21) (pc := 8) dX2_remove_8 (by decide) (fun c8 => ?_) (fun c8 => ?_)
  rotate_left
  · exact absurd h1 c8
  refine g_aload_n (pc := 21) dX2_remove_21 rfl rfl ?_
  refine g_rvV (av := []) (pc := 22) dX2_remove_22 mt_X2_remember lk_X2_101 im_X2_remember se_X2_remember np_X2_remember s_3 (by decide) (by decide) rfl gc_0 (Nat.le_of_ble_eq_true rfl) (Nat.le_of_ble_eq_true rfl) (m_X2_remember h hW) ?_
  rintro I1 ⟨⟨o2, hC1⟩, hR⟩
  refine g_aload_n (pc := 25) dX2_remove_25 rfl rfl ?_
  refine g_getR (pc := 26) dX2_remove_26 fl_X2_12 s_3 (by decide) rfl t_3_0 ?_
  refine g_iload_n (pc := 29) dX2_remove_29 rfl rfl ?_
  refine g_rvV (av := [.int _]) (pc := 30) dX2_remove_30 mt_X1_drop lk_X2_126 im_X1_drop se_X1_drop np_X1_drop s_4 (by decide) (by decide) rfl (gc_i gc_0) (Nat.le_of_ble_eq_true rfl) (Nat.le_of_ble_eq_true rfl) (m_X1_drop hC1.1 hW hj) ?_
  rintro I2 ⟨k1, k2⟩
  refine g_aload_n (pc := 33) dX2_remove_33 rfl rfl ?_
  refine g_getR (pc := 34) dX2_remove_34 fl_X2_12 s_3 (by decide) rfl t_3_0 ?_
  refine g_fV (av := []) (pc := 37) dX2_remove_37 mt_X1_fileCount lk_X2_61 im_X1_fileCount se_X1_fileCount np_X1_fileCount s_4 (by decide) (by decide) rfl gc_0 (Nat.le_of_ble_eq_true rfl) (Nat.le_of_ble_eq_true rfl) ⟨Nat.zero_le _, Nat.zero_le _⟩ (m_X1_fileCount k1 (WF_rm hW hj)) ?_
  refine g_iret (pc := 40) dX2_remove_40 rfl rfl ?_
  exact ⟨_, ⟨rfl, rfl⟩, ⟨o2, hC1.up k1 k2 (by intro a ha; simp at ha; omega)⟩, hR.c.t (Fc.s k2 (by intro a ha; simp at ha; omega))⟩
theorem m_X2_flip_1 {c : Int32} (hc : ¬ (nI 0 ≤ c ∧ c ≤ nI 239)) {x : Int32} : gX G YX2_flip (d + 9) [.ref 3, .int c, .int x] n I L D (.inr "java/lang/IndexOutOfBoundsException") (fun J => J = I) := by
  refine g_iload_n (pc := 0) dX2_flip_0 rfl rfl ?_
  refine g_fS (av := [.int _]) (pc := 1) dX2_flip_1 mt_X2_isCell lk_X2_162 sf_X2_isCell np_X2_isCell rfl (gc_i gc_0) (Nat.le_of_ble_eq_true rfl) (Nat.le_of_ble_eq_true rfl) ⟨Nat.zero_le _, Nat.zero_le _⟩ (m_X2_isCell_f hc) ?_
  refine g_if_neN (tgt := 17) (pc := 4) dX2_flip_4 (by decide) (by omega) (fun c4 => ?_) (fun c4 => ?_)
  · exact absurd c4 (by decide)
  · refine g_throw (pc := 7) th_X2_flip_7 (Nat.le_of_ble_eq_true rfl) (Nat.le_of_ble_eq_true rfl) ?_
    exact ⟨_, ⟨rfl, rfl⟩, rfl⟩
theorem m_X2_flip_2 {c : Nat} (hc : c < 240) {x : Int32} (hx : ¬ (nI 1 ≤ x ∧ x ≤ nI 15)) : gX G YX2_flip (d + 9) [.ref 3, .int (nI c), .int x] n I L D (.inr "java/lang/IllegalArgumentException") (fun J => J = I) := by
  rw [Int32.le_iff_toInt_le, Int32.le_iff_toInt_le] at hx
  refine g_iload_n (pc := 0) dX2_flip_0 rfl rfl ?_
  refine g_fS (av := [.int _]) (pc := 1) dX2_flip_1 mt_X2_isCell lk_X2_162 sf_X2_isCell np_X2_isCell rfl (gc_i gc_0) (Nat.le_of_ble_eq_true rfl) (Nat.le_of_ble_eq_true rfl) ⟨Nat.zero_le _, Nat.zero_le _⟩ (m_X2_isCell_t hc) ?_
  refine g_if_neN (tgt := 17) (pc := 4) dX2_flip_4 (by decide) (by omega) (fun c4 => ?_) (fun c4 => ?_)
  · refine g_iload_n (pc := 17) dX2_flip_17 rfl rfl ?_
    refine g_iconst (v := nI 1) (pc := 18) dX2_flip_18 rfl ?_
    refine g_icmp_lt (tgt := 28) (pc := 19) dX2_flip_19 (by decide) (fun c19 => ?_) (fun c19 => ?_)
    · refine g_throw (pc := 28) th_X2_flip_28 (Nat.le_of_ble_eq_true rfl) (Nat.le_of_ble_eq_true rfl) ?_
      exact ⟨_, ⟨rfl, rfl⟩, rfl⟩
    · refine g_iload_n (pc := 22) dX2_flip_22 rfl rfl ?_
      refine g_bipush (v := nI 15) (pc := 23) dX2_flip_23 rfl ?_
      refine g_icmp_le (tgt := 38) (pc := 25) dX2_flip_25 (by decide) (fun c25 => ?_) (fun c25 => ?_)
      · rw [Int32.lt_iff_toInt_lt] at c19
        rw [Int32.le_iff_toInt_le] at c25
        exact absurd hx (by omega)
      · refine g_throw (pc := 28) th_X2_flip_28 (Nat.le_of_ble_eq_true rfl) (Nat.le_of_ble_eq_true rfl) ?_
        exact ⟨_, ⟨rfl, rfl⟩, rfl⟩
  · exact absurd c4 (by decide)
theorem m_X2_flip_0 (h : Cs I V C H m o) (hW : WF V) {c : Nat} (hc : c < 240) {x : Nat} (hx : 1 ≤ x ∧ x ≤ 15) : gX G YX2_flip (d + 9) [.ref 3, .int (nI c), .int (nI x)] n I L D (.inl (some (.int (nI (V (80 + c) ^^^ x))))) (fun J => (∃ o2, Cs J (uV V (80 + c) (V (80 + c) ^^^ x)) (C) (push H m (V, C)) (pm m) o2) ∧ Fc I J) := by
  refine g_iload_n (pc := 0) dX2_flip_0 rfl rfl ?_
  refine g_fS (av := [.int _]) (pc := 1) dX2_flip_1 mt_X2_isCell lk_X2_162 sf_X2_isCell np_X2_isCell rfl (gc_i gc_0) (Nat.le_of_ble_eq_true rfl) (Nat.le_of_ble_eq_true rfl) ⟨Nat.zero_le _, Nat.zero_le _⟩ (m_X2_isCell_t hc) ?_
  refine g_if_neN (tgt := 17) (pc := 4) dX2_flip_4 (by decide) (by omega) (fun c4 => ?_) (fun c4 => ?_)
  · refine g_iload_n (pc := 17) dX2_flip_17 rfl rfl ?_
    refine g_iconst (v := nI 1) (pc := 18) dX2_flip_18 rfl ?_
    refine g_icmp_ltN (tgt := 28) (pc := 19) dX2_flip_19 (by decide) (by omega) (by omega) (fun c19 => ?_) (fun c19 => ?_)
    · omega
    · refine g_iload_n (pc := 22) dX2_flip_22 rfl rfl ?_
      refine g_bipush (v := nI 15) (pc := 23) dX2_flip_23 rfl ?_
      refine g_icmp_leN (tgt := 38) (pc := 25) dX2_flip_25 (by decide) (by omega) (by omega) (fun c25 => ?_) (fun c25 => ?_)
      rotate_left
      · omega
      refine g_aload_n (pc := 38) dX2_flip_38 rfl rfl ?_
      refine g_rvV (av := []) (pc := 39) dX2_flip_39 mt_X2_remember lk_X2_101 im_X2_remember se_X2_remember np_X2_remember s_3 (by decide) (by decide) rfl gc_0 (Nat.le_of_ble_eq_true rfl) (Nat.le_of_ble_eq_true rfl) (m_X2_remember h hW) ?_
      rintro I1 ⟨⟨o2, hC1⟩, hR⟩
      refine g_aload_n (pc := 42) dX2_flip_42 rfl rfl ?_
      refine g_getR (pc := 43) dX2_flip_43 fl_X2_12 s_3 (by decide) rfl t_3_0 ?_
      refine g_iload_n (pc := 46) dX2_flip_46 rfl rfl ?_
      refine g_iload_n (pc := 47) dX2_flip_47 rfl rfl ?_
      refine g_rvV (av := [.int _, .int _]) (pc := 48) dX2_flip_48 mt_X1_damage lk_X2_187 im_X1_damage se_X1_damage np_X1_damage s_4 (by decide) (by decide) rfl (gc_i (gc_i gc_0)) (Nat.le_of_ble_eq_true rfl) (Nat.le_of_ble_eq_true rfl) (m_X1_damage_x hC1.1 hW hc hx) ?_
      rintro I2 ⟨k1, k2⟩
      refine g_aload_n (pc := 51) dX2_flip_51 rfl rfl ?_
      refine g_getR (pc := 52) dX2_flip_52 fl_X2_12 s_3 (by decide) rfl t_3_0 ?_
      refine g_getR (pc := 55) dX2_flip_55 fl_X2_179 s_4 (by decide) rfl t_4_0 ?_
      refine g_iload_n (pc := 58) dX2_flip_58 rfl rfl ?_
      refine g_ialoadN (pc := 59) dX2_flip_59 s_5 (by decide) (by omega) (by decide) (k1.1 c hc).1 ?_
      refine g_iret (pc := 60) dX2_flip_60 rfl rfl ?_
      exact ⟨_, ⟨by rw [uV_s], rfl⟩, ⟨o2, hC1.up k1 k2 (by intro a ha; simp at ha; omega)⟩, hR.c.t (Fc.s k2 (by intro a ha; simp at ha; omega))⟩
  · exact absurd c4 (by decide)
theorem m_X2_erase_1 {c : Int32} (hc : ¬ (nI 0 ≤ c ∧ c ≤ nI 239)) : gX G YX2_erase (d + 9) [.ref 3, .int c] n I L D (.inr "java/lang/IndexOutOfBoundsException") (fun J => J = I) := by
  refine g_iload_n (pc := 0) dX2_erase_0 rfl rfl ?_
  refine g_fS (av := [.int _]) (pc := 1) dX2_erase_1 mt_X2_isCell lk_X2_162 sf_X2_isCell np_X2_isCell rfl (gc_i gc_0) (Nat.le_of_ble_eq_true rfl) (Nat.le_of_ble_eq_true rfl) ⟨Nat.zero_le _, Nat.zero_le _⟩ (m_X2_isCell_f hc) ?_
  refine g_if_neN (tgt := 17) (pc := 4) dX2_erase_4 (by decide) (by omega) (fun c4 => ?_) (fun c4 => ?_)
  · exact absurd c4 (by decide)
  · refine g_throw (pc := 7) th_X2_erase_7 (Nat.le_of_ble_eq_true rfl) (Nat.le_of_ble_eq_true rfl) ?_
    exact ⟨_, ⟨rfl, rfl⟩, rfl⟩
theorem m_X2_erase_0 (h : Cs I V C H m o) (hW : WF V) {c : Nat} (hc : c < 240) : gX G YX2_erase (d + 9) [.ref 3, .int (nI c)] n I L D (.inl (some (.int (nI (1 - V (320 + c)))))) (fun J => (∃ o2, Cs J (uV V (320 + c) 1) (C) (push H m (V, C)) (pm m) o2) ∧ Fc I J) := by
  have hb := (hW.2.2.2 c hc).2.1
  refine g_iload_n (pc := 0) dX2_erase_0 rfl rfl ?_
  refine g_fS (av := [.int _]) (pc := 1) dX2_erase_1 mt_X2_isCell lk_X2_162 sf_X2_isCell np_X2_isCell rfl (gc_i gc_0) (Nat.le_of_ble_eq_true rfl) (Nat.le_of_ble_eq_true rfl) ⟨Nat.zero_le _, Nat.zero_le _⟩ (m_X2_isCell_t hc) ?_
  refine g_if_neN (tgt := 17) (pc := 4) dX2_erase_4 (by decide) (by omega) (fun c4 => ?_) (fun c4 => ?_)
  · refine g_aload_n (pc := 17) dX2_erase_17 rfl rfl ?_
    refine g_rvV (av := []) (pc := 18) dX2_erase_18 mt_X2_remember lk_X2_101 im_X2_remember se_X2_remember np_X2_remember s_3 (by decide) (by decide) rfl gc_0 (Nat.le_of_ble_eq_true rfl) (Nat.le_of_ble_eq_true rfl) (m_X2_remember h hW) ?_
    rintro I1 ⟨⟨o2, hC1⟩, hR⟩
    refine g_iconst (v := nI 1) (pc := 21) dX2_erase_21 rfl ?_
    refine g_aload_n (pc := 22) dX2_erase_22 rfl rfl ?_
    refine g_getR (pc := 23) dX2_erase_23 fl_X2_12 s_3 (by decide) rfl t_3_0 ?_
    refine g_getR (pc := 26) dX2_erase_26 fl_X2_182 s_4 (by decide) rfl t_4_2 ?_
    refine g_iload_n (pc := 29) dX2_erase_29 rfl rfl ?_
    refine g_ialoadN (pc := 30) dX2_erase_30 s_7 (by decide) (by omega) (by decide) (hC1.1.1 c hc).2.2 ?_
    refine g_isubN (pc := 31) dX2_erase_31 (by omega) ?_
    refine g_istore_n (pc := 32) dX2_erase_32 rfl (Nat.le_of_ble_eq_true rfl) rfl ?_
    refine g_aload_n (pc := 33) dX2_erase_33 rfl rfl ?_
    refine g_getR (pc := 34) dX2_erase_34 fl_X2_12 s_3 (by decide) rfl t_3_0 ?_
    refine g_iload_n (pc := 37) dX2_erase_37 rfl rfl ?_
    refine g_iconst (v := nI 0) (pc := 38) dX2_erase_38 rfl ?_
    refine g_rvV (av := [.int _, .int _]) (pc := 39) dX2_erase_39 mt_X1_damage lk_X2_187 im_X1_damage se_X1_damage np_X1_damage s_4 (by decide) (by decide) rfl (gc_i (gc_i gc_0)) (Nat.le_of_ble_eq_true rfl) (Nat.le_of_ble_eq_true rfl) (m_X1_damage_0 hC1.1 hW hc) ?_
    rintro I2 ⟨k1, k2⟩
    refine g_iload_n (pc := 42) dX2_erase_42 rfl rfl ?_
    refine g_iret (pc := 43) dX2_erase_43 rfl rfl ?_
    exact ⟨_, ⟨rfl, rfl⟩, ⟨o2, hC1.up k1 k2 (by intro a ha; simp at ha; omega)⟩, hR.c.t (Fc.s k2 (by intro a ha; simp at ha; omega))⟩
  · exact absurd c4 (by decide)
theorem m_X2_burst_1 {l x : Int32} {c : Int32} (hc : ¬ (nI 0 ≤ c ∧ c ≤ nI 239)) : gX G YX2_burst (d + 9) [.ref 3, .int c, .int l, .int x] n I L D (.inr "java/lang/IndexOutOfBoundsException") (fun J => J = I) := by
  refine g_iload_n (pc := 0) dX2_burst_0 rfl rfl ?_
  refine g_fS (av := [.int _]) (pc := 1) dX2_burst_1 mt_X2_isCell lk_X2_162 sf_X2_isCell np_X2_isCell rfl (gc_i gc_0) (Nat.le_of_ble_eq_true rfl) (Nat.le_of_ble_eq_true rfl) ⟨Nat.zero_le _, Nat.zero_le _⟩ (m_X2_isCell_f hc) ?_
  refine g_if_neN (tgt := 17) (pc := 4) dX2_burst_4 (by decide) (by omega) (fun c4 => ?_) (fun c4 => ?_)
  · exact absurd c4 (by decide)
  · refine g_throw (pc := 7) th_X2_burst_7 (Nat.le_of_ble_eq_true rfl) (Nat.le_of_ble_eq_true rfl) ?_
    exact ⟨_, ⟨rfl, rfl⟩, rfl⟩
theorem m_X2_burst_2 {c : Nat} (hc : c < 240) {l x : Int32} (h : ¬ ((nI 1 ≤ l ∧ l ≤ nI (240 - c)) ∧ nI 0 ≤ x ∧ x ≤ nI 15)) : gX G YX2_burst (d + 9) [.ref 3, .int (nI c), .int l, .int x] n I L D (.inr "java/lang/IllegalArgumentException") (fun J => J = I) := by
  rw [Int32.le_iff_toInt_le, Int32.le_iff_toInt_le, Int32.le_iff_toInt_le, Int32.le_iff_toInt_le] at h
  have e0 : (nI 0).toInt = 0 := rfl
  have e00 : (0 : Int32).toInt = 0 := rfl
  refine g_iload_n (pc := 0) dX2_burst_0 rfl rfl ?_
  refine g_fS (av := [.int _]) (pc := 1) dX2_burst_1 mt_X2_isCell lk_X2_162 sf_X2_isCell np_X2_isCell rfl (gc_i gc_0) (Nat.le_of_ble_eq_true rfl) (Nat.le_of_ble_eq_true rfl) ⟨Nat.zero_le _, Nat.zero_le _⟩ (m_X2_isCell_t hc) ?_
  refine g_if_neN (tgt := 17) (pc := 4) dX2_burst_4 (by decide) (by omega) (fun c4 => ?_) (fun c4 => ?_)
  · refine g_iload_n (pc := 17) dX2_burst_17 rfl rfl ?_
    refine g_iconst (v := nI 1) (pc := 18) dX2_burst_18 rfl ?_
    refine g_icmp_lt (tgt := 41) (pc := 19) dX2_burst_19 (by decide) (fun c19 => ?_) (fun c19 => ?_)
    · refine g_throw (pc := 41) th_X2_burst_41 (Nat.le_of_ble_eq_true rfl) (Nat.le_of_ble_eq_true rfl) ?_
      exact ⟨_, ⟨rfl, rfl⟩, rfl⟩
    · refine g_iload_n (pc := 22) dX2_burst_22 rfl rfl ?_
      refine g_sipush (v := nI 240) (pc := 23) dX2_burst_23 rfl ?_
      refine g_iload_n (pc := 26) dX2_burst_26 rfl rfl ?_
      refine g_isubN (pc := 27) dX2_burst_27 (by omega) ?_
      refine g_icmp_gt (tgt := 41) (pc := 28) dX2_burst_28 (by decide) (fun c28 => ?_) (fun c28 => ?_)
      · refine g_throw (pc := 41) th_X2_burst_41 (Nat.le_of_ble_eq_true rfl) (Nat.le_of_ble_eq_true rfl) ?_
        exact ⟨_, ⟨rfl, rfl⟩, rfl⟩
      · refine g_iload_n (pc := 31) dX2_burst_31 rfl rfl ?_
        refine g_if_lt (tgt := 41) (pc := 32) dX2_burst_32 (by decide) (fun c32 => ?_) (fun c32 => ?_)
        · refine g_throw (pc := 41) th_X2_burst_41 (Nat.le_of_ble_eq_true rfl) (Nat.le_of_ble_eq_true rfl) ?_
          exact ⟨_, ⟨rfl, rfl⟩, rfl⟩
        · refine g_iload_n (pc := 35) dX2_burst_35 rfl rfl ?_
          refine g_bipush (v := nI 15) (pc := 36) dX2_burst_36 rfl ?_
          refine g_icmp_le (tgt := 51) (pc := 38) dX2_burst_38 (by decide) (fun c38 => ?_) (fun c38 => ?_)
          · rw [Int32.lt_iff_toInt_lt] at c19 c28 c32
            rw [Int32.le_iff_toInt_le] at c38
            exact absurd h (by omega)
          · refine g_throw (pc := 41) th_X2_burst_41 (Nat.le_of_ble_eq_true rfl) (Nat.le_of_ble_eq_true rfl) ?_
            exact ⟨_, ⟨rfl, rfl⟩, rfl⟩
  · exact absurd c4 (by decide)
theorem l_X2_bstep (hS : Snap I 4 V C) (hW : WF V) {c x : Nat} (hc : c < 240) (hx : x ≤ 15) : gRv G YX1_damage d [.ref 4, .int (nI c), .int (nI x)] n I L D (fun J => Snap J 4 (if x = 0 then uV V (320 + c) 1 else uV V (80 + c) (V (80 + c) ^^^ x)) C ∧ Sm [5, 6, 7] I J) := by
  by_cases e : x = 0
  · subst e
    rw [if_pos rfl]
    exact m_X1_damage_0 hS hW hc
  · rw [if_neg e]
    exact m_X1_damage_x hS hW hc ⟨by omega, hx⟩
theorem m_X2_burst_0 (h : Cs I V C H m o) (hW : WF V) {f l x : Nat} (hf : f < 240) (hl : 1 ≤ l ∧ f + l ≤ 240) (hx : x ≤ 15) : gX G YX2_burst (d + 9) [.ref 3, .int (nI f), .int (nI l), .int (nI x)] n I L D (.inl (some (.int (nI (brN V f l))))) (fun J => (∃ o2, Cs J (brV V f x l) (C) (push H m (V, C)) (pm m) o2) ∧ Fc I J) := by
  refine g_iload_n (pc := 0) dX2_burst_0 rfl rfl ?_
  refine g_fS (av := [.int _]) (pc := 1) dX2_burst_1 mt_X2_isCell lk_X2_162 sf_X2_isCell np_X2_isCell rfl (gc_i gc_0) (Nat.le_of_ble_eq_true rfl) (Nat.le_of_ble_eq_true rfl) ⟨Nat.zero_le _, Nat.zero_le _⟩ (m_X2_isCell_t hf) ?_
  refine g_if_neN (tgt := 17) (pc := 4) dX2_burst_4 (by decide) (by omega) (fun c4 => ?_) (fun c4 => ?_)
  rotate_left
  · exact absurd c4 (by decide)
  refine g_iload_n (pc := 17) dX2_burst_17 rfl rfl ?_
  refine g_iconst (v := nI 1) (pc := 18) dX2_burst_18 rfl ?_
  refine g_icmp_ltN (tgt := 41) (pc := 19) dX2_burst_19 (by decide) (by omega) (by omega) (fun c19 => ?_) (fun c19 => ?_)
  · omega
  refine g_iload_n (pc := 22) dX2_burst_22 rfl rfl ?_
  refine g_sipush (v := nI 240) (pc := 23) dX2_burst_23 rfl ?_
  refine g_iload_n (pc := 26) dX2_burst_26 rfl rfl ?_
  refine g_isubN (pc := 27) dX2_burst_27 (by omega) ?_
  refine g_icmp_gtN (tgt := 41) (pc := 28) dX2_burst_28 (by decide) (by omega) (by omega) (fun c28 => ?_) (fun c28 => ?_)
  · omega
  refine g_iload_n (pc := 31) dX2_burst_31 rfl rfl ?_
  refine g_if_ltN (tgt := 41) (pc := 32) dX2_burst_32 (by decide) (by omega) (fun c32 => ?_) (fun c32 => ?_)
  · omega
  refine g_iload_n (pc := 35) dX2_burst_35 rfl rfl ?_
  refine g_bipush (v := nI 15) (pc := 36) dX2_burst_36 rfl ?_
  refine g_icmp_leN (tgt := 51) (pc := 38) dX2_burst_38 (by decide) (by omega) (by omega) (fun c38 => ?_) (fun c38 => ?_)
  rotate_left
  · omega
  refine g_aload_n (pc := 51) dX2_burst_51 rfl rfl ?_
  refine g_rvV (av := []) (pc := 52) dX2_burst_52 mt_X2_remember lk_X2_101 im_X2_remember se_X2_remember np_X2_remember s_3 (by decide) (by decide) rfl gc_0 (Nat.le_of_ble_eq_true rfl) (Nat.le_of_ble_eq_true rfl) (m_X2_remember h hW) ?_
  rintro I1 ⟨⟨o2, hC1⟩, hR⟩
  refine g_iconst (v := nI 0) (pc := 55) dX2_burst_55 rfl ?_
  refine g_istore (pc := 56) dX2_burst_56 (Nat.le_of_ble_eq_true rfl) rfl ?_
  refine g_iload_n (pc := 58) dX2_burst_58 rfl rfl ?_
  refine g_istore (pc := 59) dX2_burst_59 (Nat.le_of_ble_eq_true rfl) rfl ?_
  refine g_loop l (fun k J => Snap J 4 (brV V f x k) C ∧ Sm [5, 6, 7] I1 J) (fun k _ => [some (.ref 3), some (.int (nI f)), some (.int (nI l)), some (.int (nI x)), some (.int (nI (brN V f k))), some (.int (nI (f + k)))]) (fun J => hp n J L D) (fun k J hk hJ kn => ?_) (fun J hJ => ?_) 0 I1 (Nat.zero_le _) ⟨hC1.1, Sm.rfl⟩
  · obtain ⟨u1, u2⟩ := hJ
    have hWk := WF_br (f := f) hW hx k (by omega)
    have hWk1 := WF_br (f := f) hW hx (k + 1) (by omega)
    have hbr : brV V f x (k + 1) = if x = 0 then uV (brV V f x k) (320 + (f + k)) 1 else uV (brV V f x k) (80 + (f + k)) (brV V f x k (80 + (f + k)) ^^^ x) := rfl
    have hst := l_X2_bstep (G := G) (d := d + 8) (n := n) (L := L) (D := D) u1 hWk (c := f + k) (x := x) (by omega) hx
    rw [← hbr] at hst
    have how : ownI (brV V f x (k + 1)) (f + k) = ownI V (f + k) := ownI_ext (fun i hi => brV_lo (Or.inl hi) (k + 1) (by omega)) _
    have hm := cnt_le (fun i => isOw V (f + i)) k
    have hmm : brN V f k ≤ k := hm
    refine g_iload (pc := 61) dX2_burst_61 rfl ?_
    refine g_iload_n (pc := 63) dX2_burst_63 rfl rfl ?_
    refine g_iload_n (pc := 64) dX2_burst_64 rfl rfl ?_
    refine g_iaddN (pc := 65) dX2_burst_65 ?_
    refine g_icmp_geN (tgt := 100) (pc := 66) dX2_burst_66 (by decide) (by omega) (by omega) (fun c66 => ?_) (fun c66 => ?_)
    · omega
    refine g_aload_n (pc := 69) dX2_burst_69 rfl rfl ?_
    refine g_getR (pc := 70) dX2_burst_70 fl_X2_12 s_3 (by decide) rfl t_3_0 ?_
    refine g_iload (pc := 73) dX2_burst_73 rfl ?_
    refine g_iload_n (pc := 75) dX2_burst_75 rfl rfl ?_
    refine g_rvV (av := [.int _, .int _]) (pc := 76) dX2_burst_76 mt_X1_damage lk_X2_187 im_X1_damage se_X1_damage np_X1_damage s_4 (by decide) (by decide) rfl (gc_i (gc_i gc_0)) (Nat.le_of_ble_eq_true rfl) (Nat.le_of_ble_eq_true rfl) hst ?_
    rintro I2 ⟨k1, k2⟩
    refine g_aload_n (pc := 79) dX2_burst_79 rfl rfl ?_
    refine g_getR (pc := 80) dX2_burst_80 fl_X2_12 s_3 (by decide) rfl t_3_0 ?_
    refine g_iload (pc := 83) dX2_burst_83 rfl ?_
    refine g_fV (av := [.int _]) (pc := 85) dX2_burst_85 mt_X1_fileAt lk_X2_167 im_X1_fileAt se_X1_fileAt np_X1_fileAt s_4 (by decide) (by decide) rfl (gc_i gc_0) (Nat.le_of_ble_eq_true rfl) (Nat.le_of_ble_eq_true rfl) ⟨Nat.zero_le _, Nat.zero_le _⟩ (m_X1_fileAt k1 hWk1 (by omega)) ?_
    rw [how]
    refine g_if_lt (tgt := 94) (pc := 88) dX2_burst_88 (by decide) (fun c88 => ?_) (fun c88 => ?_)
    · have e1 : brN V f (k + 1) = brN V f k := cnt_f (p := fun i => isOw V (f + i)) (c := k) (decide_eq_false (fun q => q (ownI_lt.mp c88)))
      rw [e1] at kn
      refine g_iincN (pc := 94) dX2_burst_94 (Nat.le_of_ble_eq_true rfl) rfl rfl ?_
      refine g_goto (tgt := 61) (pc := 97) dX2_burst_97 (by decide) ?_
      exact kn _ ⟨k1, Sm.trans u2 k2⟩
    · have e1 : brN V f (k + 1) = brN V f k + 1 := cnt_t (p := fun i => isOw V (f + i)) (c := k) (decide_eq_true (fun q => c88 (ownI_lt.mpr q)))
      rw [e1] at kn
      refine g_iincN (pc := 91) dX2_burst_91 (Nat.le_of_ble_eq_true rfl) rfl rfl ?_
      refine g_iincN (pc := 94) dX2_burst_94 (Nat.le_of_ble_eq_true rfl) rfl rfl ?_
      refine g_goto (tgt := 61) (pc := 97) dX2_burst_97 (by decide) ?_
      exact kn _ ⟨k1, Sm.trans u2 k2⟩
  · obtain ⟨u1, u2⟩ := hJ
    refine g_iload (pc := 61) dX2_burst_61 rfl ?_
    refine g_iload_n (pc := 63) dX2_burst_63 rfl rfl ?_
    refine g_iload_n (pc := 64) dX2_burst_64 rfl rfl ?_
    refine g_iaddN (pc := 65) dX2_burst_65 ?_
    refine g_icmp_geN (tgt := 100) (pc := 66) dX2_burst_66 (by decide) (by omega) (by omega) (fun c66 => ?_) (fun c66 => ?_)
    rotate_left
    · omega
    refine g_iload (pc := 100) dX2_burst_100 rfl ?_
    refine g_iret (pc := 102) dX2_burst_102 rfl rfl ?_
    exact ⟨_, ⟨rfl, rfl⟩, ⟨o2, hC1.up u1 u2 (by intro a ha; simp at ha; omega)⟩, hR.c.t (Fc.s u2 (by intro a ha; simp at ha; omega))⟩
theorem m_X2_advance_1 {c : Int32} (hc : ¬ (nI 1 ≤ c ∧ c ≤ nI 100)) : gX G YX2_advance (d + 9) [.ref 3, .int c] n I L D (.inr "java/lang/IllegalArgumentException") (fun J => J = I) := by
  rw [Int32.le_iff_toInt_le, Int32.le_iff_toInt_le] at hc
  refine g_iload_n (pc := 0) dX2_advance_0 rfl rfl ?_
  refine g_iconst (v := nI 1) (pc := 1) dX2_advance_1 rfl ?_
  refine g_icmp_lt (tgt := 11) (pc := 2) dX2_advance_2 (by decide) (fun c2 => ?_) (fun c2 => ?_)
  · refine g_throw (pc := 11) th_X2_advance_11 (Nat.le_of_ble_eq_true rfl) (Nat.le_of_ble_eq_true rfl) ?_
    exact ⟨_, ⟨rfl, rfl⟩, rfl⟩
  · refine g_iload_n (pc := 5) dX2_advance_5 rfl rfl ?_
    refine g_bipush (v := nI 100) (pc := 6) dX2_advance_6 rfl ?_
    refine g_icmp_le (tgt := 21) (pc := 8) dX2_advance_8 (by decide) (fun c8 => ?_) (fun c8 => ?_)
    · rw [Int32.lt_iff_toInt_lt] at c2
      rw [Int32.le_iff_toInt_le] at c8
      exact absurd hc (by omega)
    · refine g_throw (pc := 11) th_X2_advance_11 (Nat.le_of_ble_eq_true rfl) (Nat.le_of_ble_eq_true rfl) ?_
      exact ⟨_, ⟨rfl, rfl⟩, rfl⟩
theorem m_X2_advance_2 (hS : Snap I 4 V C) (hW : WF V) {c : Nat} (hc : 1 ≤ c ∧ c ≤ 100) (h2 : ¬ V 800 + c ≤ 10000) : gX G YX2_advance (d + 9) [.ref 3, .int (nI c)] n I L D (.inr "java/lang/IllegalStateException") (fun J => J = I) := by
  have h8 := hW.2.2.1
  refine g_iload_n (pc := 0) dX2_advance_0 rfl rfl ?_
  refine g_iconst (v := nI 1) (pc := 1) dX2_advance_1 rfl ?_
  refine g_icmp_ltN (tgt := 11) (pc := 2) dX2_advance_2 (by decide) (by omega) (by omega) (fun c2 => ?_) (fun c2 => ?_)
  · omega
  · refine g_iload_n (pc := 5) dX2_advance_5 rfl rfl ?_
    refine g_bipush (v := nI 100) (pc := 6) dX2_advance_6 rfl ?_
    refine g_icmp_leN (tgt := 21) (pc := 8) dX2_advance_8 (by decide) (by omega) (by omega) (fun c8 => ?_) (fun c8 => ?_)
    rotate_left
    · omega
    refine g_aload_n (pc := 21) dX2_advance_21 rfl rfl ?_
    refine g_getR (pc := 22) dX2_advance_22 fl_X2_12 s_3 (by decide) rfl t_3_0 ?_
    refine g_getIV (pc := 25) dX2_advance_25 fl_X2_255 s_4 (by decide) rfl hS.2.2.2.2 ?_
    refine g_sipush (v := nI 10000) (pc := 28) dX2_advance_28 rfl ?_
    refine g_iload_n (pc := 31) dX2_advance_31 rfl rfl ?_
    refine g_isubN (pc := 32) dX2_advance_32 (by omega) ?_
    refine g_icmp_leN (tgt := 47) (pc := 33) dX2_advance_33 (by decide) (by omega) (by omega) (fun c33 => ?_) (fun c33 => ?_)
    · omega
    · refine g_throw (pc := 36) th_X2_advance_36 (Nat.le_of_ble_eq_true rfl) (Nat.le_of_ble_eq_true rfl) ?_
      exact ⟨_, ⟨rfl, rfl⟩, rfl⟩
theorem m_X2_advance_0 (h : Cs I V C H m o) (hW : WF V) {c : Nat} (hc : 1 ≤ c ∧ c ≤ 100) (h2 : V 800 + c ≤ 10000) : gX G YX2_advance (d + 9) [.ref 3, .int (nI c)] n I L D (.inl (some (.int (nI (V 800 + c))))) (fun J => (∃ o2, Cs J (uV V 800 (V 800 + c)) (C) (push H m (V, C)) (pm m) o2) ∧ Fc I J) := by
  have h8 := hW.2.2.1
  have hS := h.1
  refine g_iload_n (pc := 0) dX2_advance_0 rfl rfl ?_
  refine g_iconst (v := nI 1) (pc := 1) dX2_advance_1 rfl ?_
  refine g_icmp_ltN (tgt := 11) (pc := 2) dX2_advance_2 (by decide) (by omega) (by omega) (fun c2 => ?_) (fun c2 => ?_)
  · omega
  · refine g_iload_n (pc := 5) dX2_advance_5 rfl rfl ?_
    refine g_bipush (v := nI 100) (pc := 6) dX2_advance_6 rfl ?_
    refine g_icmp_leN (tgt := 21) (pc := 8) dX2_advance_8 (by decide) (by omega) (by omega) (fun c8 => ?_) (fun c8 => ?_)
    rotate_left
    · omega
    refine g_aload_n (pc := 21) dX2_advance_21 rfl rfl ?_
    refine g_getR (pc := 22) dX2_advance_22 fl_X2_12 s_3 (by decide) rfl t_3_0 ?_
    refine g_getIV (pc := 25) dX2_advance_25 fl_X2_255 s_4 (by decide) rfl hS.2.2.2.2 ?_
    refine g_sipush (v := nI 10000) (pc := 28) dX2_advance_28 rfl ?_
    refine g_iload_n (pc := 31) dX2_advance_31 rfl rfl ?_
    refine g_isubN (pc := 32) dX2_advance_32 (by omega) ?_
    refine g_icmp_leN (tgt := 47) (pc := 33) dX2_advance_33 (by decide) (by omega) (by omega) (fun c33 => ?_) (fun c33 => ?_)
    rotate_left
    · omega
    refine g_aload_n (pc := 47) dX2_advance_47 rfl rfl ?_
    refine g_rvV (av := []) (pc := 48) dX2_advance_48 mt_X2_remember lk_X2_101 im_X2_remember se_X2_remember np_X2_remember s_3 (by decide) (by decide) rfl gc_0 (Nat.le_of_ble_eq_true rfl) (Nat.le_of_ble_eq_true rfl) (m_X2_remember h hW) ?_
    rintro I1 ⟨⟨o2, hC1⟩, hR⟩
    refine g_aload_n (pc := 51) dX2_advance_51 rfl rfl ?_
    refine g_getR (pc := 52) dX2_advance_52 fl_X2_12 s_3 (by decide) rfl t_3_0 ?_
    refine g_dup (pc := 55) dX2_advance_55 rfl ?_
    refine g_getIV (pc := 56) dX2_advance_56 fl_X2_255 s_4 (by decide) rfl hC1.1.2.2.2.2 ?_
    refine g_iload_n (pc := 59) dX2_advance_59 rfl rfl ?_
    refine g_iaddN (pc := 60) dX2_advance_60 ?_
    refine g_putI (pc := 61) dX2_advance_61 fl_X2_255 s_4 (by decide) rfl rfl rfl rfl ?_
    refine g_aload_n (pc := 64) dX2_advance_64 rfl rfl ?_
    refine g_getR (pc := 65) dX2_advance_65 fl_X2_12 s_3 (by decide) rfl t_3_0 ?_
    refine g_getI (pc := 68) dX2_advance_68 fl_X2_255 s_4 (by decide) rfl ?_
    refine g_iret (pc := 71) dX2_advance_71 rfl rfl ?_
    refine ⟨_, ⟨rfl, rfl⟩, ⟨o2, hC1.f (Snap.day hC1.1 hW.bl4) (fun a h1 h2 => gUp_ne (by omega)) (by rw [gUp_ne (by decide)]) (by rw [gUp_ne (by decide)])⟩, hR.c.t ⟨fun a ha => gUp_ne (by omega), fun j hj => by rw [gUp_ne (by decide)]⟩⟩
theorem m_X2_undo_1 (h12 : I 3 12 = nI 0) : gX G YX2_undo (d + 9) [.ref 3] n I L D (.inr "java/util/NoSuchElementException") (fun J => J = I) := by
  refine g_aload_n (pc := 0) dX2_undo_0 rfl rfl ?_
  refine g_getIV (pc := 1) dX2_undo_1 fl_X2_58 s_3 (by decide) rfl h12 ?_
  refine g_if_gtN (tgt := 18) (pc := 4) dX2_undo_4 (by decide) (by omega) (fun c4 => ?_) (fun c4 => ?_)
  · omega
  · refine g_throw (pc := 7) th_X2_undo_7 (Nat.le_of_ble_eq_true rfl) (Nat.le_of_ble_eq_true rfl) ?_
    exact ⟨_, ⟨rfl, rfl⟩, rfl⟩
theorem m_X2_undo_0 (h : Cs I V C H (m + 1) o) (hWm : WF (H m).1) : gX G YX2_undo (d + 9) [.ref 3] n I L D (.inl (some (.int (nI m)))) (fun J => Cs J (H m).1 (H m).2 H m o ∧ Fc I J) := by
  obtain ⟨hS, h11, h12, ho, hm, hC⟩ := h
  have hi : (o + m) % 6 < 6 := Nat.mod_lt _ (by decide)
  have hSm := hC m (Nat.lt_succ_self m)
  refine g_aload_n (pc := 0) dX2_undo_0 rfl rfl ?_
  refine g_getIV (pc := 1) dX2_undo_1 fl_X2_58 s_3 (by decide) rfl h12 ?_
  refine g_if_gtN (tgt := 18) (pc := 4) dX2_undo_4 (by decide) (by omega) (fun c4 => ?_) (fun c4 => ?_)
  rotate_left
  · omega
  refine g_aload_n (pc := 18) dX2_undo_18 rfl rfl ?_
  refine g_dup (pc := 19) dX2_undo_19 rfl ?_
  refine g_getIV (pc := 20) dX2_undo_20 fl_X2_58 s_3 (by decide) rfl h12 ?_
  refine g_iconst (v := nI 1) (pc := 23) dX2_undo_23 rfl ?_
  refine g_isubN (pc := 24) dX2_undo_24 (by omega) ?_
  rw [Nat.add_sub_cancel]
  refine g_putI (pc := 25) dX2_undo_25 fl_X2_58 s_3 (by decide) rfl rfl rfl rfl ?_
  refine g_aload_n (pc := 28) dX2_undo_28 rfl rfl ?_
  refine g_getR (pc := 29) dX2_undo_29 fl_X2_12 s_3 (by decide) rfl t_3_0 ?_
  refine g_aload_n (pc := 32) dX2_undo_32 rfl rfl ?_
  refine g_getR (pc := 33) dX2_undo_33 fl_X2_19 s_3 (by decide) rfl t_3_2 ?_
  refine g_aload_n (pc := 36) dX2_undo_36 rfl rfl ?_
  refine g_getIV (pc := 37) dX2_undo_37 fl_X2_55 s_3 (by decide) rfl (gUp_k (by decide) h11) ?_
  refine g_aload_n (pc := 40) dX2_undo_40 rfl rfl ?_
  refine g_getIV (pc := 41) dX2_undo_41 fl_X2_58 s_3 (by decide) rfl (show _ = nI m from by rw [gUp_c, if_pos rfl]) ?_
  refine g_iaddN (pc := 44) dX2_undo_44 ?_
  refine g_bipush (v := nI 6) (pc := 45) dX2_undo_45 rfl ?_
  refine g_iremN (pc := 47) dX2_undo_47 (by omega) (by omega) (by omega) ?_
  refine g_aaload (pc := 48) dX2_undo_48 (Or.inr rfl) s_28 (by decide) (vp_in_nI hi (by decide)) (t_hist hi) ?_
  refine g_rvV (av := [.ref (42 + 12 * ((o + m) % 6))]) (pc := 49) dX2_undo_49 mt_X1_takeOver lk_X2_309 im_X1_takeOver se_X1_takeOver np_X1_takeOver s_4 (by decide) (by decide) rfl (gc_r gc_0) (Nat.le_of_ble_eq_true rfl) (Nat.le_of_ble_eq_true rfl) (m_X1_take_u hi (Snap.s hSm (fun i hi2 => gUp_ne (by omega))) hWm) ?_
  rintro I1 ⟨k1, k2⟩
  refine g_aload_n (pc := 52) dX2_undo_52 rfl rfl ?_
  refine g_getIV (pc := 53) dX2_undo_53 fl_X2_58 s_3 (by decide) rfl (show _ = nI m from by rw [k2 3 (by decide), gUp_c, if_pos rfl]) ?_
  refine g_iret (pc := 56) dX2_undo_56 rfl rfl ?_
  refine ⟨_, ⟨rfl, rfl⟩, ⟨k1, ?_, ?_, ho, by omega, fun k hk => ?_⟩, fun a ha => ?_, fun j hj => ?_⟩
  · rw [k2 3 (by decide)]; exact gUp_k (by decide) h11
  · rw [k2 3 (by decide), gUp_c, if_pos rfl]
  · have := Nat.mod_lt (o + k) (show 0 < 6 by decide)
    exact Snap.s (hC k (by omega)) (fun i hi2 => by rw [k2 _ (by intro q; simp at q; omega), gUp_ne (by omega)])
  · rw [k2 a (by intro q; simp at q; omega), gUp_ne (by omega)]
  · rw [k2 3 (by decide), gUp_c, if_neg (fun e => hj (by rw [e]; decide))]
theorem m_X2_save (hS : Snap I 4 V C) (hW : WF V) : gX G YX2_save (d + 9) [.ref 3] n I L D (.inl (some (.int (nI (mn V 8))))) (fun J => Snap J 16 V C ∧ J 3 10 = nI 1 ∧ Sm [3, 16, 17, 18, 19, 20, 21, 22, 23, 24, 25, 26, 27] I J ∧ Sc 3 [10] I J) := by
  refine g_aload_n (pc := 0) dX2_save_0 rfl rfl ?_
  refine g_getR (pc := 1) dX2_save_1 fl_X2_16 s_3 (by decide) rfl t_3_1 ?_
  refine g_aload_n (pc := 4) dX2_save_4 rfl rfl ?_
  refine g_getR (pc := 5) dX2_save_5 fl_X2_12 s_3 (by decide) rfl t_3_0 ?_
  refine g_rvV (av := [.ref 4]) (pc := 8) dX2_save_8 mt_X1_takeOver lk_X2_309 im_X1_takeOver se_X1_takeOver np_X1_takeOver s_16 (by decide) (by decide) rfl (gc_r gc_0) (Nat.le_of_ble_eq_true rfl) (Nat.le_of_ble_eq_true rfl) (m_X1_take_16_4 hS hW) ?_
  rintro I1 ⟨k1, k2⟩
  refine g_aload_n (pc := 11) dX2_save_11 rfl rfl ?_
  refine g_iconst (v := nI 1) (pc := 12) dX2_save_12 rfl ?_
  refine g_putI (pc := 13) dX2_save_13 fl_X2_51 s_3 (by decide) rfl rfl rfl rfl ?_
  refine g_aload_n (pc := 16) dX2_save_16 rfl rfl ?_
  refine g_getR (pc := 17) dX2_save_17 fl_X2_12 s_3 (by decide) rfl t_3_0 ?_
  refine g_fV (av := []) (pc := 20) dX2_save_20 mt_X1_fileCount lk_X2_61 im_X1_fileCount se_X1_fileCount np_X1_fileCount s_4 (by decide) (by decide) rfl gc_0 (Nat.le_of_ble_eq_true rfl) (Nat.le_of_ble_eq_true rfl) ⟨Nat.zero_le _, Nat.zero_le _⟩ (m_X1_fileCount (Snap.f hS (fun a h1 h2 => by rw [gUp_ne (by omega)]; exact k2 a (by intro q; simp at q; omega))) hW) ?_
  refine g_iret (pc := 23) dX2_save_23 rfl rfl ?_
  refine ⟨_, ⟨rfl, rfl⟩, Snap.s k1 (fun i hi => gUp_ne (by omega)), by rw [gUp_c, if_pos rfl], Sm.up (by decide) (k2.mono (by decide)), Sc.up (by decide) (k2.sc (by decide))⟩
theorem m_X2_restore_1 (h10 : I 3 10 = nI 0) : gX G YX2_restore (d + 9) [.ref 3] n I L D (.inr "java/lang/IllegalStateException") (fun J => J = I) := by
  refine g_aload_n (pc := 0) dX2_restore_0 rfl rfl ?_
  refine g_getIV (pc := 1) dX2_restore_1 fl_X2_51 s_3 (by decide) rfl h10 ?_
  refine g_if_neN (tgt := 18) (pc := 4) dX2_restore_4 (by decide) (by omega) (fun c4 => ?_) (fun c4 => ?_)
  · exact absurd rfl c4
  · refine g_throw (pc := 7) th_X2_restore_7 (Nat.le_of_ble_eq_true rfl) (Nat.le_of_ble_eq_true rfl) ?_
    exact ⟨_, ⟨rfl, rfl⟩, rfl⟩
theorem m_X2_restore_0 {s : (Nat → Nat) × (Nat → Int32)} (h10 : I 3 10 = nI 1) (hS : Snap I 16 s.1 s.2) (hWs : WF s.1) : gX G YX2_restore (d + 9) [.ref 3] n I L D (.inl (some (.int (nI (mn s.1 8))))) (fun J => Cs J s.1 s.2 H 0 0 ∧ Fc I J) := by
  refine g_aload_n (pc := 0) dX2_restore_0 rfl rfl ?_
  refine g_getIV (pc := 1) dX2_restore_1 fl_X2_51 s_3 (by decide) rfl h10 ?_
  refine g_if_neN (tgt := 18) (pc := 4) dX2_restore_4 (by decide) (by omega) (fun c4 => ?_) (fun c4 => ?_)
  rotate_left
  · exact absurd c4 (by decide)
  refine g_aload_n (pc := 18) dX2_restore_18 rfl rfl ?_
  refine g_getR (pc := 19) dX2_restore_19 fl_X2_12 s_3 (by decide) rfl t_3_0 ?_
  refine g_aload_n (pc := 22) dX2_restore_22 rfl rfl ?_
  refine g_getR (pc := 23) dX2_restore_23 fl_X2_16 s_3 (by decide) rfl t_3_1 ?_
  refine g_rvV (av := [.ref 16]) (pc := 26) dX2_restore_26 mt_X1_takeOver lk_X2_309 im_X1_takeOver se_X1_takeOver np_X1_takeOver s_4 (by decide) (by decide) rfl (gc_r gc_0) (Nat.le_of_ble_eq_true rfl) (Nat.le_of_ble_eq_true rfl) (m_X1_take_4_16 hS hWs) ?_
  rintro I1 ⟨k1, k2⟩
  refine g_aload_n (pc := 29) dX2_restore_29 rfl rfl ?_
  refine g_rvV (av := []) (pc := 30) dX2_restore_30 mt_X2_forgetChanges lk_X2_68 im_X2_forgetChanges se_X2_forgetChanges np_X2_forgetChanges s_3 (by decide) (by decide) rfl gc_0 (Nat.le_of_ble_eq_true rfl) (Nat.le_of_ble_eq_true rfl) (m_X2_forgetChanges (d := d + 8)) ?_
  rintro _ rfl
  refine g_aload_n (pc := 33) dX2_restore_33 rfl rfl ?_
  refine g_getR (pc := 34) dX2_restore_34 fl_X2_12 s_3 (by decide) rfl t_3_0 ?_
  refine g_fV (av := []) (pc := 37) dX2_restore_37 mt_X1_fileCount lk_X2_61 im_X1_fileCount se_X1_fileCount np_X1_fileCount s_4 (by decide) (by decide) rfl gc_0 (Nat.le_of_ble_eq_true rfl) (Nat.le_of_ble_eq_true rfl) ⟨Nat.zero_le _, Nat.zero_le _⟩ (m_X1_fileCount (k1.f (fun a h1 h2 => by rw [gUp_ne (by omega), gUp_ne (by omega)])) hWs) ?_
  refine g_iret (pc := 40) dX2_restore_40 rfl rfl ?_
  refine ⟨_, ⟨rfl, rfl⟩, ⟨k1.f (fun a h1 h2 => by rw [gUp_ne (by omega), gUp_ne (by omega)]), gUp_k (by decide) (by rw [gUp_c, if_pos rfl]), by rw [gUp_c, if_pos rfl], by decide, by decide, fun k hk => absurd hk (Nat.not_lt_zero k)⟩, fun a ha => ?_, fun j hj => ?_⟩
  · rw [gUp_ne (by omega), gUp_ne (by omega)]; exact k2 a (by intro q; simp at q; omega)
  · rw [gUp_c, if_neg (fun e => hj (by rw [e]; decide)), gUp_c, if_neg (fun e => hj (by rw [e]; decide)), k2 3 (by decide)]
theorem m_X2_append_1 {k : Nat} (hk : k < 65536) (h : ¬ (32 ≤ k ∧ k ≤ 126)) : gX G YX2_append (d + 9) [.ref 3, .int (nI k)] n I L D (.inr "java/lang/IllegalArgumentException") (fun J => J = I) := by
  refine g_iload_n (pc := 0) dX2_append_0 rfl rfl ?_
  refine g_bipush (v := nI 32) (pc := 1) dX2_append_1 rfl ?_
  refine g_icmp_ltN (tgt := 12) (pc := 3) dX2_append_3 (by decide) (by omega) (by omega) (fun c3 => ?_) (fun c3 => ?_)
  · refine g_throw (pc := 12) th_X2_append_12 (Nat.le_of_ble_eq_true rfl) (Nat.le_of_ble_eq_true rfl) ?_
    exact ⟨_, ⟨rfl, rfl⟩, rfl⟩
  · refine g_iload_n (pc := 6) dX2_append_6 rfl rfl ?_
    refine g_bipush (v := nI 126) (pc := 7) dX2_append_7 rfl ?_
    refine g_icmp_leN (tgt := 22) (pc := 9) dX2_append_9 (by decide) (by omega) (by omega) (fun c9 => ?_) (fun c9 => ?_)
    · omega
    · refine g_throw (pc := 12) th_X2_append_12 (Nat.le_of_ble_eq_true rfl) (Nat.le_of_ble_eq_true rfl) ?_
      exact ⟨_, ⟨rfl, rfl⟩, rfl⟩
theorem m_X2_append_2 {k : Nat} (hk : k < 65536) (h : 32 ≤ k ∧ k ≤ 126) (h7 : I 3 7 = nI 60) : gX G YX2_append (d + 9) [.ref 3, .int (nI k)] n I L D (.inr "java/lang/IllegalStateException") (fun J => J = I) := by
  refine g_iload_n (pc := 0) dX2_append_0 rfl rfl ?_
  refine g_bipush (v := nI 32) (pc := 1) dX2_append_1 rfl ?_
  refine g_icmp_ltN (tgt := 12) (pc := 3) dX2_append_3 (by decide) (by omega) (by omega) (fun c3 => ?_) (fun c3 => ?_)
  · omega
  · refine g_iload_n (pc := 6) dX2_append_6 rfl rfl ?_
    refine g_bipush (v := nI 126) (pc := 7) dX2_append_7 rfl ?_
    refine g_icmp_leN (tgt := 22) (pc := 9) dX2_append_9 (by decide) (by omega) (by omega) (fun c9 => ?_) (fun c9 => ?_)
    rotate_left
    · omega
    refine g_aload_n (pc := 22) dX2_append_22 rfl rfl ?_
    refine g_getIV (pc := 23) dX2_append_23 fl_X2_41 s_3 (by decide) rfl h7 ?_
    refine g_if_ltN (tgt := 38) (pc := 26) dX2_append_26 (by decide) (by omega) (fun c26 => ?_) (fun c26 => ?_)
    · omega
    · refine g_aload_n (pc := 29) dX2_append_29 rfl rfl ?_
      refine g_getIV (pc := 30) dX2_append_30 fl_X2_41 s_3 (by decide) rfl h7 ?_
      refine g_bipush (v := nI 60) (pc := 33) dX2_append_33 rfl ?_
      refine g_icmp_ltN (tgt := 48) (pc := 35) dX2_append_35 (by decide) (by omega) (by omega) (fun c35 => ?_) (fun c35 => ?_)
      · omega
      · refine g_throw (pc := 38) th_X2_append_38 (Nat.le_of_ble_eq_true rfl) (Nat.le_of_ble_eq_true rfl) ?_
        exact ⟨_, ⟨rfl, rfl⟩, rfl⟩
theorem m_X2_append_0 {k t : Nat} (hk : k < 65536) (h : 32 ≤ k ∧ k ≤ 126) (h7 : I 3 7 = nI t) (ht : t < 60) : gX G YX2_append (d + 9) [.ref 3, .int (nI k)] n I L D (.inl (some (.int (nI (t + 1))))) (fun J => J = gUp (gUp I 39 t (vp_nar .char (nI k))) 3 7 (nI (t + 1))) := by
  have e10 : (nI t).toNatClampNeg = t := nI_clamp (by omega)
  refine g_iload_n (pc := 0) dX2_append_0 rfl rfl ?_
  refine g_bipush (v := nI 32) (pc := 1) dX2_append_1 rfl ?_
  refine g_icmp_ltN (tgt := 12) (pc := 3) dX2_append_3 (by decide) (by omega) (by omega) (fun c3 => ?_) (fun c3 => ?_)
  · omega
  · refine g_iload_n (pc := 6) dX2_append_6 rfl rfl ?_
    refine g_bipush (v := nI 126) (pc := 7) dX2_append_7 rfl ?_
    refine g_icmp_leN (tgt := 22) (pc := 9) dX2_append_9 (by decide) (by omega) (by omega) (fun c9 => ?_) (fun c9 => ?_)
    rotate_left
    · omega
    refine g_aload_n (pc := 22) dX2_append_22 rfl rfl ?_
    refine g_getIV (pc := 23) dX2_append_23 fl_X2_41 s_3 (by decide) rfl h7 ?_
    refine g_if_ltN (tgt := 38) (pc := 26) dX2_append_26 (by decide) (by omega) (fun c26 => ?_) (fun c26 => ?_)
    · omega
    refine g_aload_n (pc := 29) dX2_append_29 rfl rfl ?_
    refine g_getIV (pc := 30) dX2_append_30 fl_X2_41 s_3 (by decide) rfl h7 ?_
    refine g_bipush (v := nI 60) (pc := 33) dX2_append_33 rfl ?_
    refine g_icmp_ltN (tgt := 48) (pc := 35) dX2_append_35 (by decide) (by omega) (by omega) (fun c35 => ?_) (fun c35 => ?_)
    rotate_left
    · omega
    refine g_aload_n (pc := 48) dX2_append_48 rfl rfl ?_
    refine g_getR (pc := 49) dX2_append_49 fl_X2_30 s_3 (by decide) rfl t_3_4 ?_
    refine g_aload_n (pc := 52) dX2_append_52 rfl rfl ?_
    refine g_getIV (pc := 53) dX2_append_53 fl_X2_41 s_3 (by decide) rfl h7 ?_
    refine g_iload_n (pc := 56) dX2_append_56 rfl rfl ?_
    refine g_castore (pc := 57) dX2_append_57 s_39 (by decide) (vp_in_nI ht (by decide)) ?_
    rw [e10]
    refine g_aload_n (pc := 58) dX2_append_58 rfl rfl ?_
    refine g_dup (pc := 59) dX2_append_59 rfl ?_
    refine g_getIV (pc := 60) dX2_append_60 fl_X2_41 s_3 (by decide) rfl (gUp_a (by decide) h7) ?_
    refine g_iconst (v := nI 1) (pc := 63) dX2_append_63 rfl ?_
    refine g_iaddN (pc := 64) dX2_append_64 ?_
    refine g_putI (pc := 65) dX2_append_65 fl_X2_41 s_3 (by decide) rfl rfl rfl rfl ?_
    refine g_aload_n (pc := 68) dX2_append_68 rfl rfl ?_
    refine g_getIV (pc := 69) dX2_append_69 fl_X2_41 s_3 (by decide) rfl (show _ = nI (t + 1) from by rw [gUp_c, if_pos rfl]) ?_
    refine g_iret (pc := 72) dX2_append_72 rfl rfl ?_
    exact ⟨_, ⟨rfl, rfl⟩, rfl⟩
end

