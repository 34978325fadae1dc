/-! ===== the class: its relation to files, counts and history; what it remembers ===== -/
/-- a call of a public method of the class, with its one outcome -/
def gX (G : gG) (Y : gY) (d : Nat) (av : List Value) (n : Nat) (I : Nat → Nat → Int32) (L : Nat → Nat → Int64) (D : Nat → Nat → UInt64) (o : Option Value ⊕ String) (P : (Nat → Nat → Int32) → Prop) : Prop := gEv G Y d av (hp n I L D) 1 6 (fun o' g => ∃ J, (o' = o ∧ g = hp n J L D) ∧ P J)
theorem gX_imp {G : gG} {Y : gY} {d n : Nat} {av : List Value} {I : Nat → Nat → Int32} {L : Nat → Nat → Int64} {D : Nat → Nat → UInt64} {o : Option Value ⊕ String} {P Q : (Nat → Nat → Int32) → Prop} (k : gX G Y d av n I L D o P) (h : ∀ J, P J → Q J) : gX G Y d av n I L D o Q := g_imp (fun o' g q => by obtain ⟨J, e, hP⟩ := q; exact ⟨J, e, h J hP⟩) k
theorem gX_deep {G : gG} {Y : gY} {d d' n : Nat} {av : List Value} {I : Nat → Nat → Int32} {L : Nat → Nat → Int64} {D : Nat → Nat → UInt64} {o : Option Value ⊕ String} {P : (Nat → Nat → Int32) → Prop} (hd : d ≤ d') (k : gX G Y d av n I L D o P) : gX G Y d' av n I L D o P := g_deep hd k
theorem s_hist {n i : Nat} (hi : i < 6) : (S0 n)[42 + 12 * i]? = some (1, 1, 12) := by
  rcases (by omega : i = 0 ∨ i = 1 ∨ i = 2 ∨ i = 3 ∨ i = 4 ∨ i = 5) with h | h | h | h | h | h <;> subst h
  · exact s_42
  · exact s_54
  · exact s_66
  · exact s_78
  · exact s_90
  · exact s_102
theorem t_hist {i : Nat} (hi : i < 6) : T0 28 (nI i).toNatClampNeg = some (42 + 12 * i) := by
  rw [nI_clamp (by omega)]
  rcases (by omega : i = 0 ∨ i = 1 ∨ i = 2 ∨ i = 3 ∨ i = 4 ∨ i = 5) with h | h | h | h | h | h <;> subst h
  · exact t_28_0
  · exact t_28_1
  · exact t_28_2
  · exact t_28_3
  · exact t_28_4
  · exact t_28_5
theorem Snap.ext {I : Nat → Nat → Int32} {b : Nat} {V W : Nat → Nat} {C E : Nat → Int32} (h : Snap I b V C) (h1 : ∀ j, j < 8 → ∀ q, q < bl V j → W (10 * j + (6 + q)) = V (10 * j + (6 + q))) (h2 : ∀ k, k < 801 → (k < 80 → k % 10 < 6) → W k = V k) (hC : ∀ k, k < 8 → E k = C k) : Snap I b W E := by
  obtain ⟨k1, k2, k3, k4, k5⟩ := h
  have hb : ∀ j, j < 8 → bl W j = bl V j := fun j hj => by unfold bl; rw [h2 _ (by omega) (by omega)]
  refine ⟨fun c hc => ?_, fun k hk => ?_, fun j hj => ?_, fun j hj q hq => ?_, ?_⟩
  · rw [h2 _ (by omega) (by omega), h2 _ (by omega) (by omega), h2 _ (by omega) (by omega)]; exact k1 c hc
  · rw [hC k hk]; exact k2 k hk
  · rw [hb j hj, h2 _ (by omega) (by omega), h2 _ (by omega) (by omega), h2 _ (by omega) (by omega), h2 _ (by omega) (by omega), h2 _ (by omega) (by omega)]; exact k3 j hj
  · rw [hb j hj] at hq
    rw [h1 j hj q hq]; exact k4 j hj q hq
  · rw [h2 _ (by omega) (by omega)]; exact k5
/-- the class's memory of changes -/
def CH (I : Nat → Nat → Int32) (o m : Nat) (H : hT) : Prop := ∀ k, k < m → Snap I (42 + 12 * ((o + k) % 6)) (H k).1 (H k).2
theorem CH.s {I J : Nat → Nat → Int32} {o m : Nat} {H : hT} (h : CH I o m H) (e : ∀ a, 42 ≤ a → a < 114 → J a = I a) : CH J o m H := fun k hk => (h k hk).s (fun i hi => by
  have := Nat.mod_lt (o + k) (show 0 < 6 by decide)
  exact e _ (by omega) (by omega))
def Cs (I : Nat → Nat → Int32) (V : Nat → Nat) (C : Nat → Int32) (H : hT) (m o : Nat) : Prop := Snap I 4 V C ∧ I 3 11 = nI o ∧ I 3 12 = nI m ∧ o < 6 ∧ m ≤ 6 ∧ CH I o m H
/-- what remembering leaves -/
def Rm (I J : Nat → Nat → Int32) : Prop := (∀ a, (a < 42 ∧ a ≠ 3) ∨ 114 ≤ a → J a = I a) ∧ Sc 3 [11, 12] I J
section
variable {G : gG} {d n : Nat} {I : Nat → Nat → Int32} {L : Nat → Nat → Int64} {D : Nat → Nat → UInt64} {V : Nat → Nat}
variable {C : Nat → Int32} {H : hT} {m o : Nat}
theorem m_X1_take_h (hS : Snap I 4 V C) (hW : WF V) {i : Nat} (hi : i < 6) : gRv G YX1_takeOver d [.ref (42 + 12 * i), .ref 4] n I L D (fun J => Snap J (42 + 12 * i) V C ∧ ∀ a, (a < 42 + 12 * i ∨ 54 + 12 * i ≤ a) → J a = I a) := by
  rcases (by omega : i = 0 ∨ i = 1 ∨ i = 2 ∨ i = 3 ∨ i = 4 ∨ i = 5) with h | h | h | h | h | h <;> subst h
  · exact gRv_imp (m_X1_take_42_4 hS hW) (fun J q => ⟨q.1, fun a ha => q.2 a (by intro h; simp at h; omega)⟩)
  · exact gRv_imp (m_X1_take_54_4 hS hW) (fun J q => ⟨q.1, fun a ha => q.2 a (by intro h; simp at h; omega)⟩)
  · exact gRv_imp (m_X1_take_66_4 hS hW) (fun J q => ⟨q.1, fun a ha => q.2 a (by intro h; simp at h; omega)⟩)
  · exact gRv_imp (m_X1_take_78_4 hS hW) (fun J q => ⟨q.1, fun a ha => q.2 a (by intro h; simp at h; omega)⟩)
  · exact gRv_imp (m_X1_take_90_4 hS hW) (fun J q => ⟨q.1, fun a ha => q.2 a (by intro h; simp at h; omega)⟩)
  · exact gRv_imp (m_X1_take_102_4 hS hW) (fun J q => ⟨q.1, fun a ha => q.2 a (by intro h; simp at h; omega)⟩)
theorem m_X1_take_u {i : Nat} (hi : i < 6) (hS : Snap I (42 + 12 * i) V C) (hW : WF V) : gRv G YX1_takeOver d [.ref 4, .ref (42 + 12 * i)] n I L D (fun J => Snap J 4 V C ∧ Sm [4, 5, 6, 7, 8, 9, 10, 11, 12, 13, 14, 15] I J) := by
  rcases (by omega : i = 0 ∨ i = 1 ∨ i = 2 ∨ i = 3 ∨ i = 4 ∨ i = 5) with h | h | h | h | h | h <;> subst h
  · exact m_X1_take_4_42 hS hW
  · exact m_X1_take_4_54 hS hW
  · exact m_X1_take_4_66 hS hW
  · exact m_X1_take_4_78 hS hW
  · exact m_X1_take_4_90 hS hW
  · exact m_X1_take_4_102 hS hW
theorem l_X2_rem2 {Q : gQ} (ho : o < 6) (hm : m < 6) (hS : Snap I 4 V C) (hW : WF V) (h11 : I 3 11 = nI o) (h12 : I 3 12 = nI m) (hC : CH I o m H) (kx : ∀ J, Cs J V C (fun k => if k = m then (V, C) else H k) (m + 1) o → Rm I J → Q (.inl none) (hp n J L D)) : gGo G YX2_remember (d + 1) 27 [some (.ref 3)] [] (hp n I L D) 0 0 Q := by
  have hi : (o + m) % 6 < 6 := Nat.mod_lt _ (by decide)
  refine g_aload_n (pc := 27) dX2_remember_27 rfl rfl ?_
  refine g_getR (pc := 28) dX2_remember_28 fl_X2_19 s_3 (by decide) rfl t_3_2 ?_
  refine g_aload_n (pc := 31) dX2_remember_31 rfl rfl ?_
  refine g_getIV (pc := 32) dX2_remember_32 fl_X2_55 s_3 (by decide) rfl h11 ?_
  refine g_aload_n (pc := 35) dX2_remember_35 rfl rfl ?_
  refine g_getIV (pc := 36) dX2_remember_36 fl_X2_58 s_3 (by decide) rfl h12 ?_
  refine g_iaddN (pc := 39) dX2_remember_39 ?_
  refine g_bipush (v := nI 6) (pc := 40) dX2_remember_40 rfl ?_
  refine g_iremN (pc := 42) dX2_remember_42 (by omega) (by omega) (by omega) ?_
  refine g_aaload (pc := 43) dX2_remember_43 (Or.inr rfl) s_28 (by decide) (vp_in_nI hi (by decide)) (t_hist hi) ?_
  refine g_aload_n (pc := 44) dX2_remember_44 rfl rfl ?_
  refine g_getR (pc := 45) dX2_remember_45 fl_X2_12 s_3 (by decide) rfl t_3_0 ?_
  refine g_rvV (av := [.ref 4]) (pc := 48) dX2_remember_48 mt_X1_takeOver lk_X2_309 im_X1_takeOver se_X1_takeOver np_X1_takeOver (s_hist hi) (by decide) (by omega) rfl (gc_r gc_0) (Nat.le_of_ble_eq_true rfl) (Nat.le_of_ble_eq_true rfl) (m_X1_take_h hS hW hi) ?_
  rintro I1 ⟨k1, k2⟩
  refine g_aload_n (pc := 51) dX2_remember_51 rfl rfl ?_
  refine g_dup (pc := 52) dX2_remember_52 rfl ?_
  refine g_getIV (pc := 53) dX2_remember_53 fl_X2_58 s_3 (by decide) rfl (show _ = nI m from by rw [k2 3 (Or.inl (by omega))]; exact h12) ?_
  refine g_iconst (v := nI 1) (pc := 56) dX2_remember_56 rfl ?_
  refine g_iaddN (pc := 57) dX2_remember_57 ?_
  refine g_putI (pc := 58) dX2_remember_58 fl_X2_58 s_3 (by decide) rfl rfl rfl rfl ?_
  refine g_vret (pc := 61) dX2_remember_61 rfl ?_
  refine kx _ ⟨Snap.s (Snap.s hS (fun i hi2 => k2 _ (Or.inl (by omega)))) (fun i hi2 => gUp_ne (by omega)), gUp_k (by decide) (by rw [k2 3 (Or.inl (by omega))]; exact h11), by rw [gUp_c, if_pos rfl], ho, by omega, fun k hk => ?_⟩ ⟨fun a ha => by rw [gUp_ne (by omega)]; exact k2 a (by omega), fun j hj => by
    rw [gUp_c, if_neg (fun e => hj (by rw [e]; decide)), k2 3 (Or.inl (by omega))]⟩
  show Snap _ _ (if k = m then (V, C) else H k).1 (if k = m then (V, C) else H k).2
  by_cases e : k = m
  · subst e
    rw [if_pos rfl]
    exact Snap.s k1 (fun i hi2 => gUp_ne (by omega))
  · have hk6 : (o + k) % 6 < 6 := Nat.mod_lt _ (by decide)
    have hne : (o + k) % 6 ≠ (o + m) % 6 := by omega
    rw [if_neg e]
    exact Snap.s (Snap.s (hC k (by omega)) (fun i hi2 => k2 _ (by omega))) (fun i hi2 => gUp_ne (by omega))
theorem m_X2_remember (h : Cs I V C H m o) (hW : WF V) : gRv G YX2_remember (d + 1) [.ref 3] n I L D (fun J => (∃ o2, Cs J V C (push H m (V, C)) (pm m) o2) ∧ Rm I J) := by
  obtain ⟨hS, h11, h12, ho, hm, hC⟩ := h
  by_cases h6 : m = 6
  · subst h6
    have hi : (o + 1) % 6 < 6 := Nat.mod_lt _ (by decide)
    have hF : (fun k => if k = 5 then (V, C) else (fun k => H (k + 1)) k) = push H 6 (V, C) := by
      funext k
      rw [push_6]
    refine g_aload_n (pc := 0) dX2_remember_0 rfl rfl ?_
    refine g_getIV (pc := 1) dX2_remember_1 fl_X2_58 s_3 (by decide) rfl h12 ?_
    refine g_bipush (v := nI 6) (pc := 4) dX2_remember_4 rfl ?_
    refine g_icmp_ltN (tgt := 27) (pc := 6) dX2_remember_6 (by decide) (by omega) (by omega) (fun c6 => ?_) (fun c6 => ?_)
    · omega
    refine g_aload_n (pc := 9) dX2_remember_9 rfl rfl ?_
    refine g_aload_n (pc := 10) dX2_remember_10 rfl rfl ?_
    refine g_getIV (pc := 11) dX2_remember_11 fl_X2_55 s_3 (by decide) rfl h11 ?_
    refine g_iconst (v := nI 1) (pc := 14) dX2_remember_14 rfl ?_
    refine g_iaddN (pc := 15) dX2_remember_15 ?_
    refine g_bipush (v := nI 6) (pc := 16) dX2_remember_16 rfl ?_
    refine g_iremN (pc := 18) dX2_remember_18 (by omega) (by omega) (by omega) ?_
    refine g_putI (pc := 19) dX2_remember_19 fl_X2_55 s_3 (by decide) rfl rfl rfl rfl ?_
    refine g_aload_n (pc := 22) dX2_remember_22 rfl rfl ?_
    refine g_iconst (v := nI 5) (pc := 23) dX2_remember_23 rfl ?_
    refine g_putI (pc := 24) dX2_remember_24 fl_X2_58 s_3 (by decide) rfl rfl rfl rfl ?_
    refine l_X2_rem2 (o := (o + 1) % 6) (m := 5) (H := fun k => H (k + 1)) hi (by decide) (Snap.s hS (fun i hi2 => by rw [gUp_ne (by omega), gUp_ne (by omega)])) hW (gUp_k (by decide) (by rw [gUp_c, if_pos rfl])) (by rw [gUp_c, if_pos rfl]) (fun k hk => ?_) (fun J hJ hR => ?_)
    · rw [show ((o + 1) % 6 + k) % 6 = (o + (k + 1)) % 6 by omega]
      have hk6 : (o + (k + 1)) % 6 < 6 := Nat.mod_lt _ (by decide)
      exact Snap.s (hC (k + 1) (by omega)) (fun i hi2 => by rw [gUp_ne (by omega), gUp_ne (by omega)])
    · refine ⟨J, ⟨rfl, rfl⟩, ⟨_, by rw [← hF]; exact hJ⟩, fun a ha => ?_, fun j hj => ?_⟩
      · rw [hR.1 a ha, gUp_ne (by omega), gUp_ne (by omega)]
      · rw [hR.2 j hj, gUp_c, if_neg (fun e => hj (by rw [e]; decide)), gUp_c, if_neg (fun e => hj (by rw [e]; decide))]
  · have hF : (fun k => if k = m then (V, C) else H k) = push H m (V, C) := by
      funext k
      rw [push_n h6]
    refine g_aload_n (pc := 0) dX2_remember_0 rfl rfl ?_
    refine g_getIV (pc := 1) dX2_remember_1 fl_X2_58 s_3 (by decide) rfl h12 ?_
    refine g_bipush (v := nI 6) (pc := 4) dX2_remember_4 rfl ?_
    refine g_icmp_ltN (tgt := 27) (pc := 6) dX2_remember_6 (by decide) (by omega) (by omega) (fun c6 => ?_) (fun c6 => ?_)
    rotate_left
    · omega
    refine l_X2_rem2 (o := o) (m := m) (H := H) ho (by omega) hS hW h11 h12 hC (fun J hJ hR => ?_)
    exact ⟨J, ⟨rfl, rfl⟩, ⟨_, by rw [← hF, pm_n h6]; exact hJ⟩, hR⟩
theorem m_X2_forgetChanges : gRv G YX2_forgetChanges d [.ref 3] n I L D (fun J => J = gUp (gUp I 3 11 (nI 0)) 3 12 (nI 0)) := by
  refine g_aload_n (pc := 0) dX2_forgetChanges_0 rfl rfl ?_
  refine g_iconst (v := nI 0) (pc := 1) dX2_forgetChanges_1 rfl ?_
  refine g_putI (pc := 2) dX2_forgetChanges_2 fl_X2_55 s_3 (by decide) rfl rfl rfl rfl ?_
  refine g_aload_n (pc := 5) dX2_forgetChanges_5 rfl rfl ?_
  refine g_iconst (v := nI 0) (pc := 6) dX2_forgetChanges_6 rfl ?_
  refine g_putI (pc := 7) dX2_forgetChanges_7 fl_X2_58 s_3 (by decide) rfl rfl rfl rfl ?_
  refine g_vret (pc := 10) dX2_forgetChanges_10 rfl ?_
  refine ⟨_, ⟨rfl, rfl⟩, ?_⟩
  exact rfl
theorem m_X2_isCell_t {c : Nat} (hc : c < 240) {h : gH} : gFn G YX2_isCell d [.int (nI c)] h (.inl (some (.int (nI 1)))) h 0 0 := by
  refine g_iload_n (pc := 0) dX2_isCell_0 rfl rfl ?_
  refine g_if_ltN (tgt := 15) (pc := 1) dX2_isCell_1 (by decide) (by omega) (fun c1 => ?_) (fun c1 => ?_)
  · omega
  · refine g_iload_n (pc := 4) dX2_isCell_4 rfl rfl ?_
    refine g_sipush (v := nI 240) (pc := 5) dX2_isCell_5 rfl ?_
    refine g_icmp_geN (tgt := 15) (pc := 8) dX2_isCell_8 (by decide) (by omega) (by omega) (fun c8 => ?_) (fun c8 => ?_)
    · omega
    · refine g_iconst (v := nI 1) (pc := 11) dX2_isCell_11 rfl ?_
      refine g_goto (tgt := 16) (pc := 12) dX2_isCell_12 (by decide) ?_
      refine g_iret (pc := 16) dX2_isCell_16 rfl rfl ?_
      first | exact ⟨rfl, rfl⟩ | exact ⟨by rw [bI_t (by first | assumption | omega)], rfl⟩ | exact ⟨by rw [bI_f (by first | assumption | omega)], rfl⟩
theorem m_X2_isCell_f {c : Int32} (hc : ¬ (nI 0 ≤ c ∧ c ≤ nI 239)) {h : gH} : gFn G YX2_isCell d [.int c] h (.inl (some (.int (nI 0)))) h 0 0 := by
  refine g_iload_n (pc := 0) dX2_isCell_0 rfl rfl ?_
  refine g_if_lt (tgt := 15) (pc := 1) dX2_isCell_1 (by decide) (fun c1 => ?_) (fun c1 => ?_)
  · refine g_iconst (v := nI 0) (pc := 15) dX2_isCell_15 rfl ?_
    refine g_iret (pc := 16) dX2_isCell_16 rfl rfl ?_
    first | exact ⟨rfl, rfl⟩ | exact ⟨by rw [bI_t (by first | assumption | omega)], rfl⟩ | exact ⟨by rw [bI_f (by first | assumption | omega)], rfl⟩
  · refine g_iload_n (pc := 4) dX2_isCell_4 rfl rfl ?_
    refine g_sipush (v := nI 240) (pc := 5) dX2_isCell_5 rfl ?_
    refine g_icmp_ge (tgt := 15) (pc := 8) dX2_isCell_8 (by decide) (fun c8 => ?_) (fun c8 => ?_)
    · refine g_iconst (v := nI 0) (pc := 15) dX2_isCell_15 rfl ?_
      refine g_iret (pc := 16) dX2_isCell_16 rfl rfl ?_
      first | exact ⟨rfl, rfl⟩ | exact ⟨by rw [bI_t (by first | assumption | omega)], rfl⟩ | exact ⟨by rw [bI_f (by first | assumption | omega)], rfl⟩
    · rw [Int32.lt_iff_toInt_lt] at c1
      rw [Int32.le_iff_toInt_le] at c8
      refine absurd ⟨?_, ?_⟩ hc
      · rw [Int32.le_iff_toInt_le]
        have : (nI 0).toInt = 0 := rfl
        have e0 : (0 : Int32).toInt = 0 := rfl
        omega
      · rw [Int32.le_iff_toInt_le]
        have : (nI 239).toInt = 239 := rfl
        have e0 : (nI 240).toInt = 240 := rfl
        omega
theorem m_X2_blocksFor {k : Nat} (hk : k < 10000) {h : gH} : gFn G YX2_blocksFor d [.int (nI k)] h (.inl (some (.int (nI ((k + 7) / 8))))) h 0 0 := by
  refine g_iload_n (pc := 0) dX2_blocksFor_0 rfl rfl ?_
  refine g_bipush (v := nI 8) (pc := 1) dX2_blocksFor_1 rfl ?_
  refine g_iaddN (pc := 3) dX2_blocksFor_3 ?_
  refine g_iconst (v := nI 1) (pc := 4) dX2_blocksFor_4 rfl ?_
  refine g_isubN (pc := 5) dX2_blocksFor_5 (by omega) ?_
  refine g_bipush (v := nI 8) (pc := 6) dX2_blocksFor_6 rfl ?_
  refine g_idivN (pc := 8) dX2_blocksFor_8 (by omega) (by omega) (by omega) ?_
  refine g_iret (pc := 9) dX2_blocksFor_9 rfl rfl ?_
  first | exact ⟨rfl, rfl⟩ | exact ⟨by rw [bI_t (by first | assumption | omega)], rfl⟩ | exact ⟨by rw [bI_f (by first | assumption | omega)], rfl⟩
end

