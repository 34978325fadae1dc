/-! ===== the decoder: rows, sums, loading ===== -/
section
variable {G : gG} {d n : Nat} {I : Nat → Nat → Int32} {L : Nat → Nat → Int64} {D : Nat → Nat → UInt64} {V : Nat → Nat}
variable {C : Nat → Int32}
theorem m_X0_cancel_34_35 (hK : Kt I) {s : Nat → F6} {p len : Nat} (hp9 : p < 15) (hl : len ≤ 6) (hs : ∀ j, j < len → I 34 j = fI (s j)) : gRv G YX0_cancel (d + 1) [.ref 34, .ref 35, .int (nI p), .int (nI len)] n I L D (fun J => (∀ j, j + 1 < len → J 35 j = fI (can p s j)) ∧ Sm [35] I J) := by
  have hpm : p % 15 = p := Nat.mod_eq_of_lt hp9
  refine g_iconst (v := nI 0) (pc := 0) dX0_cancel_0 rfl ?_
  refine g_istore (pc := 1) dX0_cancel_1 (Nat.le_of_ble_eq_true rfl) rfl ?_
  refine g_loop (len - 1) (fun k J => (∀ j, j < k → J 35 j = fI (can p s j)) ∧ (∀ j, k ≤ j → j < len → J 34 j = fI (s j)) ∧ Sm [35] I J) (fun k _ => [some (.ref 34), some (.ref 35), some (.int (nI p)), some (.int (nI len)), some (.int (nI k))]) (fun J => hp n J L D) (fun k J hk hJ kn => ?_) (fun J hJ => ?_) 0 I (Nat.zero_le _) ⟨fun j hj => absurd hj (Nat.not_lt_zero j), fun j _ hj => hs j hj, Sm.rfl⟩
  · obtain ⟨u1, u2, u3⟩ := hJ
    have hKJ : Kt J := hK.s u3 (by decide) (by decide)
    refine g_iload (pc := 3) dX0_cancel_3 rfl ?_
    refine g_iconst (v := nI 1) (pc := 5) dX0_cancel_5 rfl ?_
    refine g_iaddN (pc := 6) dX0_cancel_6 ?_
    refine g_iload_n (pc := 7) dX0_cancel_7 rfl rfl ?_
    refine g_icmp_geN (tgt := 52) (pc := 8) dX0_cancel_8 (by decide) (by omega) (by omega) (fun c8 => ?_) (fun c8 => ?_)
    · omega
    refine g_iload (pc := 11) dX0_cancel_11 rfl ?_
    refine g_iconst (v := nI 1) (pc := 13) dX0_cancel_13 rfl ?_
    refine g_iaddN (pc := 14) dX0_cancel_14 ?_
    refine g_aload_n (pc := 15) dX0_cancel_15 rfl rfl ?_
    refine g_alen (pc := 16) dX0_cancel_16 s_34 (by decide) (by decide) ?_
    show gGo _ _ _ _ _ [.int (nI 6), .int (nI (k + 1))] _ _ _ _
    refine g_icmp_ge (tgt := 52) (pc := 17) dX0_cancel_17 (by decide) (fun c17 => ?_) (fun c17 => ?_)
    · exact absurd ((nI_leI (by decide) (by omega)).mp c17) (by omega)
    refine g_aload_n (pc := 20) dX0_cancel_20 rfl rfl ?_
    refine g_iload (pc := 21) dX0_cancel_21 rfl ?_
    refine g_aload_n (pc := 23) dX0_cancel_23 rfl rfl ?_
    refine g_iload (pc := 24) dX0_cancel_24 rfl ?_
    refine g_iconst (v := nI 1) (pc := 26) dX0_cancel_26 rfl ?_
    refine g_iaddN (pc := 27) dX0_cancel_27 ?_
    refine g_ialoadN (pc := 28) dX0_cancel_28 s_34 (by decide) (by omega) (by decide) (u2 (k + 1) (by omega) (by omega)) ?_
    refine g_powers (pc := 29) dX0_cancel_29 (Or.inr ⟨_, fs_X0_93⟩) ?_
    refine g_iload_n (pc := 32) dX0_cancel_32 rfl rfl ?_
    refine g_bipush (v := nI 15) (pc := 33) dX0_cancel_33 rfl ?_
    refine g_iremN (pc := 35) dX0_cancel_35 (by omega) (by omega) (by omega) ?_
    rw [hpm]
    refine g_ialoadKN (pc := 36) dX0_cancel_36 s_1 (by decide) (by omega) (by decide) (hKJ.1 _ (by omega)) ?_
    refine g_aload_n (pc := 37) dX0_cancel_37 rfl rfl ?_
    refine g_iload (pc := 38) dX0_cancel_38 rfl ?_
    refine g_ialoadN (pc := 40) dX0_cancel_40 s_34 (by decide) (by omega) (by decide) (u2 k (Nat.le_refl _) (by omega)) ?_
    refine g_fS (av := [.int _, .int _]) (pc := 41) dX0_cancel_41 mt_X2_product lk_X0_96 sf_X2_product np_X2_product rfl (gc_i (gc_i gc_0)) (Nat.le_of_ble_eq_true rfl) (Nat.le_of_ble_eq_true rfl) ⟨Nat.zero_le _, Nat.zero_le _⟩ (m_X2_product hKJ) ?_
    refine g_ixor (pc := 44) dX0_cancel_44 ?_
    rw [fI_x]
    refine g_iastoreN (pc := 45) dX0_cancel_45 s_35 (by decide) (by omega) (by decide) ?_
    refine g_iincN (pc := 46) dX0_cancel_46 (Nat.le_of_ble_eq_true rfl) rfl rfl ?_
    refine g_goto (tgt := 3) (pc := 49) dX0_cancel_49 (by decide) ?_
    refine kn _ ⟨fun j hj => ?_, fun j h1 h2 => ?_, Sm.up (by decide) u3⟩
    · rw [gUp_c]
      by_cases e : j = k
      · rw [if_pos e, e]; rfl
      · rw [if_neg e]; exact u1 j (by omega)
    · rw [gUp_ne (by decide)]; exact u2 j (by omega) h2
  · obtain ⟨u1, u2, u3⟩ := hJ
    refine g_iload (pc := 3) dX0_cancel_3 rfl ?_
    refine g_iconst (v := nI 1) (pc := 5) dX0_cancel_5 rfl ?_
    refine g_iaddN (pc := 6) dX0_cancel_6 ?_
    refine g_iload_n (pc := 7) dX0_cancel_7 rfl rfl ?_
    refine g_icmp_geN (tgt := 52) (pc := 8) dX0_cancel_8 (by decide) (by omega) (by omega) (fun c8 => ?_) (fun c8 => ?_)
    rotate_left
    · omega
    refine g_vret (pc := 52) dX0_cancel_52 rfl ?_
    refine ⟨_, ⟨rfl, rfl⟩, ?_⟩
    exact ⟨fun j hj => u1 j (by omega), u3⟩
theorem m_X0_cancel_35_36 (hK : Kt I) {s : Nat → F6} {p len : Nat} (hp9 : p < 15) (hl : len ≤ 6) (hs : ∀ j, j < len → I 35 j = fI (s j)) : gRv G YX0_cancel (d + 1) [.ref 35, .ref 36, .int (nI p), .int (nI len)] n I L D (fun J => (∀ j, j + 1 < len → J 36 j = fI (can p s j)) ∧ Sm [36] I J) := by
  have hpm : p % 15 = p := Nat.mod_eq_of_lt hp9
  refine g_iconst (v := nI 0) (pc := 0) dX0_cancel_0 rfl ?_
  refine g_istore (pc := 1) dX0_cancel_1 (Nat.le_of_ble_eq_true rfl) rfl ?_
  refine g_loop (len - 1) (fun k J => (∀ j, j < k → J 36 j = fI (can p s j)) ∧ (∀ j, k ≤ j → j < len → J 35 j = fI (s j)) ∧ Sm [36] I J) (fun k _ => [some (.ref 35), some (.ref 36), some (.int (nI p)), some (.int (nI len)), some (.int (nI k))]) (fun J => hp n J L D) (fun k J hk hJ kn => ?_) (fun J hJ => ?_) 0 I (Nat.zero_le _) ⟨fun j hj => absurd hj (Nat.not_lt_zero j), fun j _ hj => hs j hj, Sm.rfl⟩
  · obtain ⟨u1, u2, u3⟩ := hJ
    have hKJ : Kt J := hK.s u3 (by decide) (by decide)
    refine g_iload (pc := 3) dX0_cancel_3 rfl ?_
    refine g_iconst (v := nI 1) (pc := 5) dX0_cancel_5 rfl ?_
    refine g_iaddN (pc := 6) dX0_cancel_6 ?_
    refine g_iload_n (pc := 7) dX0_cancel_7 rfl rfl ?_
    refine g_icmp_geN (tgt := 52) (pc := 8) dX0_cancel_8 (by decide) (by omega) (by omega) (fun c8 => ?_) (fun c8 => ?_)
    · omega
    refine g_iload (pc := 11) dX0_cancel_11 rfl ?_
    refine g_iconst (v := nI 1) (pc := 13) dX0_cancel_13 rfl ?_
    refine g_iaddN (pc := 14) dX0_cancel_14 ?_
    refine g_aload_n (pc := 15) dX0_cancel_15 rfl rfl ?_
    refine g_alen (pc := 16) dX0_cancel_16 s_35 (by decide) (by decide) ?_
    show gGo _ _ _ _ _ [.int (nI 6), .int (nI (k + 1))] _ _ _ _
    refine g_icmp_ge (tgt := 52) (pc := 17) dX0_cancel_17 (by decide) (fun c17 => ?_) (fun c17 => ?_)
    · exact absurd ((nI_leI (by decide) (by omega)).mp c17) (by omega)
    refine g_aload_n (pc := 20) dX0_cancel_20 rfl rfl ?_
    refine g_iload (pc := 21) dX0_cancel_21 rfl ?_
    refine g_aload_n (pc := 23) dX0_cancel_23 rfl rfl ?_
    refine g_iload (pc := 24) dX0_cancel_24 rfl ?_
    refine g_iconst (v := nI 1) (pc := 26) dX0_cancel_26 rfl ?_
    refine g_iaddN (pc := 27) dX0_cancel_27 ?_
    refine g_ialoadN (pc := 28) dX0_cancel_28 s_35 (by decide) (by omega) (by decide) (u2 (k + 1) (by omega) (by omega)) ?_
    refine g_powers (pc := 29) dX0_cancel_29 (Or.inr ⟨_, fs_X0_93⟩) ?_
    refine g_iload_n (pc := 32) dX0_cancel_32 rfl rfl ?_
    refine g_bipush (v := nI 15) (pc := 33) dX0_cancel_33 rfl ?_
    refine g_iremN (pc := 35) dX0_cancel_35 (by omega) (by omega) (by omega) ?_
    rw [hpm]
    refine g_ialoadKN (pc := 36) dX0_cancel_36 s_1 (by decide) (by omega) (by decide) (hKJ.1 _ (by omega)) ?_
    refine g_aload_n (pc := 37) dX0_cancel_37 rfl rfl ?_
    refine g_iload (pc := 38) dX0_cancel_38 rfl ?_
    refine g_ialoadN (pc := 40) dX0_cancel_40 s_35 (by decide) (by omega) (by decide) (u2 k (Nat.le_refl _) (by omega)) ?_
    refine g_fS (av := [.int _, .int _]) (pc := 41) dX0_cancel_41 mt_X2_product lk_X0_96 sf_X2_product np_X2_product rfl (gc_i (gc_i gc_0)) (Nat.le_of_ble_eq_true rfl) (Nat.le_of_ble_eq_true rfl) ⟨Nat.zero_le _, Nat.zero_le _⟩ (m_X2_product hKJ) ?_
    refine g_ixor (pc := 44) dX0_cancel_44 ?_
    rw [fI_x]
    refine g_iastoreN (pc := 45) dX0_cancel_45 s_36 (by decide) (by omega) (by decide) ?_
    refine g_iincN (pc := 46) dX0_cancel_46 (Nat.le_of_ble_eq_true rfl) rfl rfl ?_
    refine g_goto (tgt := 3) (pc := 49) dX0_cancel_49 (by decide) ?_
    refine kn _ ⟨fun j hj => ?_, fun j h1 h2 => ?_, Sm.up (by decide) u3⟩
    · rw [gUp_c]
      by_cases e : j = k
      · rw [if_pos e, e]; rfl
      · rw [if_neg e]; exact u1 j (by omega)
    · rw [gUp_ne (by decide)]; exact u2 j (by omega) h2
  · obtain ⟨u1, u2, u3⟩ := hJ
    refine g_iload (pc := 3) dX0_cancel_3 rfl ?_
    refine g_iconst (v := nI 1) (pc := 5) dX0_cancel_5 rfl ?_
    refine g_iaddN (pc := 6) dX0_cancel_6 ?_
    refine g_iload_n (pc := 7) dX0_cancel_7 rfl rfl ?_
    refine g_icmp_geN (tgt := 52) (pc := 8) dX0_cancel_8 (by decide) (by omega) (by omega) (fun c8 => ?_) (fun c8 => ?_)
    rotate_left
    · omega
    refine g_vret (pc := 52) dX0_cancel_52 rfl ?_
    refine ⟨_, ⟨rfl, rfl⟩, ?_⟩
    exact ⟨fun j hj => u1 j (by omega), u3⟩
theorem m_X0_cancel_36_37 (hK : Kt I) {s : Nat → F6} {p len : Nat} (hp9 : p < 15) (hl : len ≤ 6) (hs : ∀ j, j < len → I 36 j = fI (s j)) : gRv G YX0_cancel (d + 1) [.ref 36, .ref 37, .int (nI p), .int (nI len)] n I L D (fun J => (∀ j, j + 1 < len → J 37 j = fI (can p s j)) ∧ Sm [37] I J) := by
  have hpm : p % 15 = p := Nat.mod_eq_of_lt hp9
  refine g_iconst (v := nI 0) (pc := 0) dX0_cancel_0 rfl ?_
  refine g_istore (pc := 1) dX0_cancel_1 (Nat.le_of_ble_eq_true rfl) rfl ?_
  refine g_loop (len - 1) (fun k J => (∀ j, j < k → J 37 j = fI (can p s j)) ∧ (∀ j, k ≤ j → j < len → J 36 j = fI (s j)) ∧ Sm [37] I J) (fun k _ => [some (.ref 36), some (.ref 37), some (.int (nI p)), some (.int (nI len)), some (.int (nI k))]) (fun J => hp n J L D) (fun k J hk hJ kn => ?_) (fun J hJ => ?_) 0 I (Nat.zero_le _) ⟨fun j hj => absurd hj (Nat.not_lt_zero j), fun j _ hj => hs j hj, Sm.rfl⟩
  · obtain ⟨u1, u2, u3⟩ := hJ
    have hKJ : Kt J := hK.s u3 (by decide) (by decide)
    refine g_iload (pc := 3) dX0_cancel_3 rfl ?_
    refine g_iconst (v := nI 1) (pc := 5) dX0_cancel_5 rfl ?_
    refine g_iaddN (pc := 6) dX0_cancel_6 ?_
    refine g_iload_n (pc := 7) dX0_cancel_7 rfl rfl ?_
    refine g_icmp_geN (tgt := 52) (pc := 8) dX0_cancel_8 (by decide) (by omega) (by omega) (fun c8 => ?_) (fun c8 => ?_)
    · omega
    refine g_iload (pc := 11) dX0_cancel_11 rfl ?_
    refine g_iconst (v := nI 1) (pc := 13) dX0_cancel_13 rfl ?_
    refine g_iaddN (pc := 14) dX0_cancel_14 ?_
    refine g_aload_n (pc := 15) dX0_cancel_15 rfl rfl ?_
    refine g_alen (pc := 16) dX0_cancel_16 s_36 (by decide) (by decide) ?_
    show gGo _ _ _ _ _ [.int (nI 6), .int (nI (k + 1))] _ _ _ _
    refine g_icmp_ge (tgt := 52) (pc := 17) dX0_cancel_17 (by decide) (fun c17 => ?_) (fun c17 => ?_)
    · exact absurd ((nI_leI (by decide) (by omega)).mp c17) (by omega)
    refine g_aload_n (pc := 20) dX0_cancel_20 rfl rfl ?_
    refine g_iload (pc := 21) dX0_cancel_21 rfl ?_
    refine g_aload_n (pc := 23) dX0_cancel_23 rfl rfl ?_
    refine g_iload (pc := 24) dX0_cancel_24 rfl ?_
    refine g_iconst (v := nI 1) (pc := 26) dX0_cancel_26 rfl ?_
    refine g_iaddN (pc := 27) dX0_cancel_27 ?_
    refine g_ialoadN (pc := 28) dX0_cancel_28 s_36 (by decide) (by omega) (by decide) (u2 (k + 1) (by omega) (by omega)) ?_
    refine g_powers (pc := 29) dX0_cancel_29 (Or.inr ⟨_, fs_X0_93⟩) ?_
    refine g_iload_n (pc := 32) dX0_cancel_32 rfl rfl ?_
    refine g_bipush (v := nI 15) (pc := 33) dX0_cancel_33 rfl ?_
    refine g_iremN (pc := 35) dX0_cancel_35 (by omega) (by omega) (by omega) ?_
    rw [hpm]
    refine g_ialoadKN (pc := 36) dX0_cancel_36 s_1 (by decide) (by omega) (by decide) (hKJ.1 _ (by omega)) ?_
    refine g_aload_n (pc := 37) dX0_cancel_37 rfl rfl ?_
    refine g_iload (pc := 38) dX0_cancel_38 rfl ?_
    refine g_ialoadN (pc := 40) dX0_cancel_40 s_36 (by decide) (by omega) (by decide) (u2 k (Nat.le_refl _) (by omega)) ?_
    refine g_fS (av := [.int _, .int _]) (pc := 41) dX0_cancel_41 mt_X2_product lk_X0_96 sf_X2_product np_X2_product rfl (gc_i (gc_i gc_0)) (Nat.le_of_ble_eq_true rfl) (Nat.le_of_ble_eq_true rfl) ⟨Nat.zero_le _, Nat.zero_le _⟩ (m_X2_product hKJ) ?_
    refine g_ixor (pc := 44) dX0_cancel_44 ?_
    rw [fI_x]
    refine g_iastoreN (pc := 45) dX0_cancel_45 s_37 (by decide) (by omega) (by decide) ?_
    refine g_iincN (pc := 46) dX0_cancel_46 (Nat.le_of_ble_eq_true rfl) rfl rfl ?_
    refine g_goto (tgt := 3) (pc := 49) dX0_cancel_49 (by decide) ?_
    refine kn _ ⟨fun j hj => ?_, fun j h1 h2 => ?_, Sm.up (by decide) u3⟩
    · rw [gUp_c]
      by_cases e : j = k
      · rw [if_pos e, e]; rfl
      · rw [if_neg e]; exact u1 j (by omega)
    · rw [gUp_ne (by decide)]; exact u2 j (by omega) h2
  · obtain ⟨u1, u2, u3⟩ := hJ
    refine g_iload (pc := 3) dX0_cancel_3 rfl ?_
    refine g_iconst (v := nI 1) (pc := 5) dX0_cancel_5 rfl ?_
    refine g_iaddN (pc := 6) dX0_cancel_6 ?_
    refine g_iload_n (pc := 7) dX0_cancel_7 rfl rfl ?_
    refine g_icmp_geN (tgt := 52) (pc := 8) dX0_cancel_8 (by decide) (by omega) (by omega) (fun c8 => ?_) (fun c8 => ?_)
    rotate_left
    · omega
    refine g_vret (pc := 52) dX0_cancel_52 rfl ?_
    refine ⟨_, ⟨rfl, rfl⟩, ?_⟩
    exact ⟨fun j hj => u1 j (by omega), u3⟩
theorem m_X0_cancel_34_34 (hK : Kt I) {s : Nat → F6} {p len : Nat} (hp9 : p < 15) (hl : len ≤ 6) (hs : ∀ j, j < len → I 34 j = fI (s j)) : gRv G YX0_cancel (d + 1) [.ref 34, .ref 34, .int (nI p), .int (nI len)] n I L D (fun J => (∀ j, j + 1 < len → J 34 j = fI (can p s j)) ∧ Sm [34] I J) := by
  have hpm : p % 15 = p := Nat.mod_eq_of_lt hp9
  refine g_iconst (v := nI 0) (pc := 0) dX0_cancel_0 rfl ?_
  refine g_istore (pc := 1) dX0_cancel_1 (Nat.le_of_ble_eq_true rfl) rfl ?_
  refine g_loop (len - 1) (fun k J => (∀ j, j < k → J 34 j = fI (can p s j)) ∧ (∀ j, k ≤ j → j < len → J 34 j = fI (s j)) ∧ Sm [34] I J) (fun k _ => [some (.ref 34), some (.ref 34), some (.int (nI p)), some (.int (nI len)), some (.int (nI k))]) (fun J => hp n J L D) (fun k J hk hJ kn => ?_) (fun J hJ => ?_) 0 I (Nat.zero_le _) ⟨fun j hj => absurd hj (Nat.not_lt_zero j), fun j _ hj => hs j hj, Sm.rfl⟩
  · obtain ⟨u1, u2, u3⟩ := hJ
    have hKJ : Kt J := hK.s u3 (by decide) (by decide)
    refine g_iload (pc := 3) dX0_cancel_3 rfl ?_
    refine g_iconst (v := nI 1) (pc := 5) dX0_cancel_5 rfl ?_
    refine g_iaddN (pc := 6) dX0_cancel_6 ?_
    refine g_iload_n (pc := 7) dX0_cancel_7 rfl rfl ?_
    refine g_icmp_geN (tgt := 52) (pc := 8) dX0_cancel_8 (by decide) (by omega) (by omega) (fun c8 => ?_) (fun c8 => ?_)
    · omega
    refine g_iload (pc := 11) dX0_cancel_11 rfl ?_
    refine g_iconst (v := nI 1) (pc := 13) dX0_cancel_13 rfl ?_
    refine g_iaddN (pc := 14) dX0_cancel_14 ?_
    refine g_aload_n (pc := 15) dX0_cancel_15 rfl rfl ?_
    refine g_alen (pc := 16) dX0_cancel_16 s_34 (by decide) (by decide) ?_
    show gGo _ _ _ _ _ [.int (nI 6), .int (nI (k + 1))] _ _ _ _
    refine g_icmp_ge (tgt := 52) (pc := 17) dX0_cancel_17 (by decide) (fun c17 => ?_) (fun c17 => ?_)
    · exact absurd ((nI_leI (by decide) (by omega)).mp c17) (by omega)
    refine g_aload_n (pc := 20) dX0_cancel_20 rfl rfl ?_
    refine g_iload (pc := 21) dX0_cancel_21 rfl ?_
    refine g_aload_n (pc := 23) dX0_cancel_23 rfl rfl ?_
    refine g_iload (pc := 24) dX0_cancel_24 rfl ?_
    refine g_iconst (v := nI 1) (pc := 26) dX0_cancel_26 rfl ?_
    refine g_iaddN (pc := 27) dX0_cancel_27 ?_
    refine g_ialoadN (pc := 28) dX0_cancel_28 s_34 (by decide) (by omega) (by decide) (u2 (k + 1) (by omega) (by omega)) ?_
    refine g_powers (pc := 29) dX0_cancel_29 (Or.inr ⟨_, fs_X0_93⟩) ?_
    refine g_iload_n (pc := 32) dX0_cancel_32 rfl rfl ?_
    refine g_bipush (v := nI 15) (pc := 33) dX0_cancel_33 rfl ?_
    refine g_iremN (pc := 35) dX0_cancel_35 (by omega) (by omega) (by omega) ?_
    rw [hpm]
    refine g_ialoadKN (pc := 36) dX0_cancel_36 s_1 (by decide) (by omega) (by decide) (hKJ.1 _ (by omega)) ?_
    refine g_aload_n (pc := 37) dX0_cancel_37 rfl rfl ?_
    refine g_iload (pc := 38) dX0_cancel_38 rfl ?_
    refine g_ialoadN (pc := 40) dX0_cancel_40 s_34 (by decide) (by omega) (by decide) (u2 k (Nat.le_refl _) (by omega)) ?_
    refine g_fS (av := [.int _, .int _]) (pc := 41) dX0_cancel_41 mt_X2_product lk_X0_96 sf_X2_product np_X2_product rfl (gc_i (gc_i gc_0)) (Nat.le_of_ble_eq_true rfl) (Nat.le_of_ble_eq_true rfl) ⟨Nat.zero_le _, Nat.zero_le _⟩ (m_X2_product hKJ) ?_
    refine g_ixor (pc := 44) dX0_cancel_44 ?_
    rw [fI_x]
    refine g_iastoreN (pc := 45) dX0_cancel_45 s_34 (by decide) (by omega) (by decide) ?_
    refine g_iincN (pc := 46) dX0_cancel_46 (Nat.le_of_ble_eq_true rfl) rfl rfl ?_
    refine g_goto (tgt := 3) (pc := 49) dX0_cancel_49 (by decide) ?_
    refine kn _ ⟨fun j hj => ?_, fun j h1 h2 => ?_, Sm.up (by decide) u3⟩
    · rw [gUp_c]
      by_cases e : j = k
      · rw [if_pos e, e]; rfl
      · rw [if_neg e]; exact u1 j (by omega)
    · rw [gUp_c, if_neg (by omega)]; exact u2 j (by omega) h2
  · obtain ⟨u1, u2, u3⟩ := hJ
    refine g_iload (pc := 3) dX0_cancel_3 rfl ?_
    refine g_iconst (v := nI 1) (pc := 5) dX0_cancel_5 rfl ?_
    refine g_iaddN (pc := 6) dX0_cancel_6 ?_
    refine g_iload_n (pc := 7) dX0_cancel_7 rfl rfl ?_
    refine g_icmp_geN (tgt := 52) (pc := 8) dX0_cancel_8 (by decide) (by omega) (by omega) (fun c8 => ?_) (fun c8 => ?_)
    rotate_left
    · omega
    refine g_vret (pc := 52) dX0_cancel_52 rfl ?_
    refine ⟨_, ⟨rfl, rfl⟩, ?_⟩
    exact ⟨fun j hj => u1 j (by omega), u3⟩
theorem m_X0_cancel_33_33 (hK : Kt I) {s : Nat → F6} {p len : Nat} (hp9 : p < 15) (hl : len ≤ 6) (hs : ∀ j, j < len → I 33 j = fI (s j)) : gRv G YX0_cancel (d + 1) [.ref 33, .ref 33, .int (nI p), .int (nI len)] n I L D (fun J => (∀ j, j + 1 < len → J 33 j = fI (can p s j)) ∧ Sm [33] I J) := by
  have hpm : p % 15 = p := Nat.mod_eq_of_lt hp9
  refine g_iconst (v := nI 0) (pc := 0) dX0_cancel_0 rfl ?_
  refine g_istore (pc := 1) dX0_cancel_1 (Nat.le_of_ble_eq_true rfl) rfl ?_
  refine g_loop (len - 1) (fun k J => (∀ j, j < k → J 33 j = fI (can p s j)) ∧ (∀ j, k ≤ j → j < len → J 33 j = fI (s j)) ∧ Sm [33] I J) (fun k _ => [some (.ref 33), some (.ref 33), some (.int (nI p)), some (.int (nI len)), some (.int (nI k))]) (fun J => hp n J L D) (fun k J hk hJ kn => ?_) (fun J hJ => ?_) 0 I (Nat.zero_le _) ⟨fun j hj => absurd hj (Nat.not_lt_zero j), fun j _ hj => hs j hj, Sm.rfl⟩
  · obtain ⟨u1, u2, u3⟩ := hJ
    have hKJ : Kt J := hK.s u3 (by decide) (by decide)
    refine g_iload (pc := 3) dX0_cancel_3 rfl ?_
    refine g_iconst (v := nI 1) (pc := 5) dX0_cancel_5 rfl ?_
    refine g_iaddN (pc := 6) dX0_cancel_6 ?_
    refine g_iload_n (pc := 7) dX0_cancel_7 rfl rfl ?_
    refine g_icmp_geN (tgt := 52) (pc := 8) dX0_cancel_8 (by decide) (by omega) (by omega) (fun c8 => ?_) (fun c8 => ?_)
    · omega
    refine g_iload (pc := 11) dX0_cancel_11 rfl ?_
    refine g_iconst (v := nI 1) (pc := 13) dX0_cancel_13 rfl ?_
    refine g_iaddN (pc := 14) dX0_cancel_14 ?_
    refine g_aload_n (pc := 15) dX0_cancel_15 rfl rfl ?_
    refine g_alen (pc := 16) dX0_cancel_16 s_33 (by decide) (by decide) ?_
    show gGo _ _ _ _ _ [.int (nI 6), .int (nI (k + 1))] _ _ _ _
    refine g_icmp_ge (tgt := 52) (pc := 17) dX0_cancel_17 (by decide) (fun c17 => ?_) (fun c17 => ?_)
    · exact absurd ((nI_leI (by decide) (by omega)).mp c17) (by omega)
    refine g_aload_n (pc := 20) dX0_cancel_20 rfl rfl ?_
    refine g_iload (pc := 21) dX0_cancel_21 rfl ?_
    refine g_aload_n (pc := 23) dX0_cancel_23 rfl rfl ?_
    refine g_iload (pc := 24) dX0_cancel_24 rfl ?_
    refine g_iconst (v := nI 1) (pc := 26) dX0_cancel_26 rfl ?_
    refine g_iaddN (pc := 27) dX0_cancel_27 ?_
    refine g_ialoadN (pc := 28) dX0_cancel_28 s_33 (by decide) (by omega) (by decide) (u2 (k + 1) (by omega) (by omega)) ?_
    refine g_powers (pc := 29) dX0_cancel_29 (Or.inr ⟨_, fs_X0_93⟩) ?_
    refine g_iload_n (pc := 32) dX0_cancel_32 rfl rfl ?_
    refine g_bipush (v := nI 15) (pc := 33) dX0_cancel_33 rfl ?_
    refine g_iremN (pc := 35) dX0_cancel_35 (by omega) (by omega) (by omega) ?_
    rw [hpm]
    refine g_ialoadKN (pc := 36) dX0_cancel_36 s_1 (by decide) (by omega) (by decide) (hKJ.1 _ (by omega)) ?_
    refine g_aload_n (pc := 37) dX0_cancel_37 rfl rfl ?_
    refine g_iload (pc := 38) dX0_cancel_38 rfl ?_
    refine g_ialoadN (pc := 40) dX0_cancel_40 s_33 (by decide) (by omega) (by decide) (u2 k (Nat.le_refl _) (by omega)) ?_
    refine g_fS (av := [.int _, .int _]) (pc := 41) dX0_cancel_41 mt_X2_product lk_X0_96 sf_X2_product np_X2_product rfl (gc_i (gc_i gc_0)) (Nat.le_of_ble_eq_true rfl) (Nat.le_of_ble_eq_true rfl) ⟨Nat.zero_le _, Nat.zero_le _⟩ (m_X2_product hKJ) ?_
    refine g_ixor (pc := 44) dX0_cancel_44 ?_
    rw [fI_x]
    refine g_iastoreN (pc := 45) dX0_cancel_45 s_33 (by decide) (by omega) (by decide) ?_
    refine g_iincN (pc := 46) dX0_cancel_46 (Nat.le_of_ble_eq_true rfl) rfl rfl ?_
    refine g_goto (tgt := 3) (pc := 49) dX0_cancel_49 (by decide) ?_
    refine kn _ ⟨fun j hj => ?_, fun j h1 h2 => ?_, Sm.up (by decide) u3⟩
    · rw [gUp_c]
      by_cases e : j = k
      · rw [if_pos e, e]; rfl
      · rw [if_neg e]; exact u1 j (by omega)
    · rw [gUp_c, if_neg (by omega)]; exact u2 j (by omega) h2
  · obtain ⟨u1, u2, u3⟩ := hJ
    refine g_iload (pc := 3) dX0_cancel_3 rfl ?_
    refine g_iconst (v := nI 1) (pc := 5) dX0_cancel_5 rfl ?_
    refine g_iaddN (pc := 6) dX0_cancel_6 ?_
    refine g_iload_n (pc := 7) dX0_cancel_7 rfl rfl ?_
    refine g_icmp_geN (tgt := 52) (pc := 8) dX0_cancel_8 (by decide) (by omega) (by omega) (fun c8 => ?_) (fun c8 => ?_)
    rotate_left
    · omega
    refine g_vret (pc := 52) dX0_cancel_52 rfl ?_
    refine ⟨_, ⟨rfl, rfl⟩, ?_⟩
    exact ⟨fun j hj => u1 j (by omega), u3⟩
theorem m_X0_isZero_34 {s : Nat → F6} {len : Nat} (hl : len ≤ 6) (hs : ∀ j, j < len → I 34 j = fI (s j)) : gFn G YX0_isZero d [.ref 34, .int (nI len)] (hp n I L D) (.inl (some (.int (bI (∀ j, j < len → s j = 0))))) (hp n I L D) 0 0 := by
  refine g_iconst (v := nI 0) (pc := 0) dX0_isZero_0 rfl ?_
  refine g_istore_n (pc := 1) dX0_isZero_1 rfl (Nat.le_of_ble_eq_true rfl) rfl ?_
  refine g_loop len (fun k (_ : Unit) => ∀ j, j < k → s j = 0) (fun k _ => [some (.ref 34), some (.int (nI len)), some (.int (nI k))]) (fun _ => hp n I L D) (fun k _ hk hz kn => ?_) (fun _ hz => ?_) 0 () (Nat.zero_le _) (fun j hj => absurd hj (Nat.not_lt_zero j))
  · have hsk := hs k hk
    have hlt := (s k).isLt
    refine g_iload_n (pc := 2) dX0_isZero_2 rfl rfl ?_
    refine g_iload_n (pc := 3) dX0_isZero_3 rfl rfl ?_
    refine g_icmp_geN (tgt := 27) (pc := 4) dX0_isZero_4 (by decide) (by omega) (by omega) (fun c4 => ?_) (fun c4 => ?_)
    · omega
    refine g_iload_n (pc := 7) dX0_isZero_7 rfl rfl ?_
    refine g_aload_n (pc := 8) dX0_isZero_8 rfl rfl ?_
    refine g_alen (pc := 9) dX0_isZero_9 s_34 (by decide) (by decide) ?_
    show gGo _ _ _ _ _ [.int (nI 6), .int (nI k)] _ _ _ _
    refine g_icmp_ge (tgt := 27) (pc := 10) dX0_isZero_10 (by decide) (fun c10 => ?_) (fun c10 => ?_)
    · exact absurd ((nI_leI (by decide) (by omega)).mp c10) (by omega)
    refine g_aload_n (pc := 13) dX0_isZero_13 rfl rfl ?_
    refine g_iload_n (pc := 14) dX0_isZero_14 rfl rfl ?_
    refine g_ialoadN (pc := 15) dX0_isZero_15 s_34 (by decide) (by omega) (by decide) (show _ = nI (s k).val from hsk) ?_
    refine g_if_eqN (tgt := 21) (pc := 16) dX0_isZero_16 (by decide) (by omega) (fun c16 => ?_) (fun c16 => ?_)
    · refine g_iincN (pc := 21) dX0_isZero_21 (Nat.le_of_ble_eq_true rfl) rfl rfl ?_
      refine g_goto (tgt := 2) (pc := 24) dX0_isZero_24 (by decide) ?_
      refine kn () (fun j hj => ?_)
      rcases Nat.lt_or_ge j k with w | w
      · exact hz j w
      · rw [show j = k by omega]; exact F6_0.mp c16
    · rw [bI_f (fun q => c16 (by rw [q k hk]; rfl))]
      refine g_iconst (v := nI 0) (pc := 19) dX0_isZero_19 rfl ?_
      refine g_iret (pc := 20) dX0_isZero_20 rfl rfl ?_
      first | exact ⟨rfl, rfl⟩ | exact ⟨by rw [bI_t (by first | assumption | omega)], rfl⟩ | exact ⟨by rw [bI_f (by first | assumption | omega)], rfl⟩
  · rw [bI_t hz]
    refine g_iload_n (pc := 2) dX0_isZero_2 rfl rfl ?_
    refine g_iload_n (pc := 3) dX0_isZero_3 rfl rfl ?_
    refine g_icmp_geN (tgt := 27) (pc := 4) dX0_isZero_4 (by decide) (by omega) (by omega) (fun c4 => ?_) (fun c4 => ?_)
    · refine g_iconst (v := nI 1) (pc := 27) dX0_isZero_27 rfl ?_
      refine g_iret (pc := 28) dX0_isZero_28 rfl rfl ?_
      first | exact ⟨rfl, rfl⟩ | exact ⟨by rw [bI_t (by first | assumption | omega)], rfl⟩ | exact ⟨by rw [bI_f (by first | assumption | omega)], rfl⟩
    · omega
theorem m_X0_isZero_35 {s : Nat → F6} {len : Nat} (hl : len ≤ 6) (hs : ∀ j, j < len → I 35 j = fI (s j)) : gFn G YX0_isZero d [.ref 35, .int (nI len)] (hp n I L D) (.inl (some (.int (bI (∀ j, j < len → s j = 0))))) (hp n I L D) 0 0 := by
  refine g_iconst (v := nI 0) (pc := 0) dX0_isZero_0 rfl ?_
  refine g_istore_n (pc := 1) dX0_isZero_1 rfl (Nat.le_of_ble_eq_true rfl) rfl ?_
  refine g_loop len (fun k (_ : Unit) => ∀ j, j < k → s j = 0) (fun k _ => [some (.ref 35), some (.int (nI len)), some (.int (nI k))]) (fun _ => hp n I L D) (fun k _ hk hz kn => ?_) (fun _ hz => ?_) 0 () (Nat.zero_le _) (fun j hj => absurd hj (Nat.not_lt_zero j))
  · have hsk := hs k hk
    have hlt := (s k).isLt
    refine g_iload_n (pc := 2) dX0_isZero_2 rfl rfl ?_
    refine g_iload_n (pc := 3) dX0_isZero_3 rfl rfl ?_
    refine g_icmp_geN (tgt := 27) (pc := 4) dX0_isZero_4 (by decide) (by omega) (by omega) (fun c4 => ?_) (fun c4 => ?_)
    · omega
    refine g_iload_n (pc := 7) dX0_isZero_7 rfl rfl ?_
    refine g_aload_n (pc := 8) dX0_isZero_8 rfl rfl ?_
    refine g_alen (pc := 9) dX0_isZero_9 s_35 (by decide) (by decide) ?_
    show gGo _ _ _ _ _ [.int (nI 6), .int (nI k)] _ _ _ _
    refine g_icmp_ge (tgt := 27) (pc := 10) dX0_isZero_10 (by decide) (fun c10 => ?_) (fun c10 => ?_)
    · exact absurd ((nI_leI (by decide) (by omega)).mp c10) (by omega)
    refine g_aload_n (pc := 13) dX0_isZero_13 rfl rfl ?_
    refine g_iload_n (pc := 14) dX0_isZero_14 rfl rfl ?_
    refine g_ialoadN (pc := 15) dX0_isZero_15 s_35 (by decide) (by omega) (by decide) (show _ = nI (s k).val from hsk) ?_
    refine g_if_eqN (tgt := 21) (pc := 16) dX0_isZero_16 (by decide) (by omega) (fun c16 => ?_) (fun c16 => ?_)
    · refine g_iincN (pc := 21) dX0_isZero_21 (Nat.le_of_ble_eq_true rfl) rfl rfl ?_
      refine g_goto (tgt := 2) (pc := 24) dX0_isZero_24 (by decide) ?_
      refine kn () (fun j hj => ?_)
      rcases Nat.lt_or_ge j k with w | w
      · exact hz j w
      · rw [show j = k by omega]; exact F6_0.mp c16
    · rw [bI_f (fun q => c16 (by rw [q k hk]; rfl))]
      refine g_iconst (v := nI 0) (pc := 19) dX0_isZero_19 rfl ?_
      refine g_iret (pc := 20) dX0_isZero_20 rfl rfl ?_
      first | exact ⟨rfl, rfl⟩ | exact ⟨by rw [bI_t (by first | assumption | omega)], rfl⟩ | exact ⟨by rw [bI_f (by first | assumption | omega)], rfl⟩
  · rw [bI_t hz]
    refine g_iload_n (pc := 2) dX0_isZero_2 rfl rfl ?_
    refine g_iload_n (pc := 3) dX0_isZero_3 rfl rfl ?_
    refine g_icmp_geN (tgt := 27) (pc := 4) dX0_isZero_4 (by decide) (by omega) (by omega) (fun c4 => ?_) (fun c4 => ?_)
    · refine g_iconst (v := nI 1) (pc := 27) dX0_isZero_27 rfl ?_
      refine g_iret (pc := 28) dX0_isZero_28 rfl rfl ?_
      first | exact ⟨rfl, rfl⟩ | exact ⟨by rw [bI_t (by first | assumption | omega)], rfl⟩ | exact ⟨by rw [bI_f (by first | assumption | omega)], rfl⟩
    · omega
theorem m_X0_isZero_36 {s : Nat → F6} {len : Nat} (hl : len ≤ 6) (hs : ∀ j, j < len → I 36 j = fI (s j)) : gFn G YX0_isZero d [.ref 36, .int (nI len)] (hp n I L D) (.inl (some (.int (bI (∀ j, j < len → s j = 0))))) (hp n I L D) 0 0 := by
  refine g_iconst (v := nI 0) (pc := 0) dX0_isZero_0 rfl ?_
  refine g_istore_n (pc := 1) dX0_isZero_1 rfl (Nat.le_of_ble_eq_true rfl) rfl ?_
  refine g_loop len (fun k (_ : Unit) => ∀ j, j < k → s j = 0) (fun k _ => [some (.ref 36), some (.int (nI len)), some (.int (nI k))]) (fun _ => hp n I L D) (fun k _ hk hz kn => ?_) (fun _ hz => ?_) 0 () (Nat.zero_le _) (fun j hj => absurd hj (Nat.not_lt_zero j))
  · have hsk := hs k hk
    have hlt := (s k).isLt
    refine g_iload_n (pc := 2) dX0_isZero_2 rfl rfl ?_
    refine g_iload_n (pc := 3) dX0_isZero_3 rfl rfl ?_
    refine g_icmp_geN (tgt := 27) (pc := 4) dX0_isZero_4 (by decide) (by omega) (by omega) (fun c4 => ?_) (fun c4 => ?_)
    · omega
    refine g_iload_n (pc := 7) dX0_isZero_7 rfl rfl ?_
    refine g_aload_n (pc := 8) dX0_isZero_8 rfl rfl ?_
    refine g_alen (pc := 9) dX0_isZero_9 s_36 (by decide) (by decide) ?_
    show gGo _ _ _ _ _ [.int (nI 6), .int (nI k)] _ _ _ _
    refine g_icmp_ge (tgt := 27) (pc := 10) dX0_isZero_10 (by decide) (fun c10 => ?_) (fun c10 => ?_)
    · exact absurd ((nI_leI (by decide) (by omega)).mp c10) (by omega)
    refine g_aload_n (pc := 13) dX0_isZero_13 rfl rfl ?_
    refine g_iload_n (pc := 14) dX0_isZero_14 rfl rfl ?_
    refine g_ialoadN (pc := 15) dX0_isZero_15 s_36 (by decide) (by omega) (by decide) (show _ = nI (s k).val from hsk) ?_
    refine g_if_eqN (tgt := 21) (pc := 16) dX0_isZero_16 (by decide) (by omega) (fun c16 => ?_) (fun c16 => ?_)
    · refine g_iincN (pc := 21) dX0_isZero_21 (Nat.le_of_ble_eq_true rfl) rfl rfl ?_
      refine g_goto (tgt := 2) (pc := 24) dX0_isZero_24 (by decide) ?_
      refine kn () (fun j hj => ?_)
      rcases Nat.lt_or_ge j k with w | w
      · exact hz j w
      · rw [show j = k by omega]; exact F6_0.mp c16
    · rw [bI_f (fun q => c16 (by rw [q k hk]; rfl))]
      refine g_iconst (v := nI 0) (pc := 19) dX0_isZero_19 rfl ?_
      refine g_iret (pc := 20) dX0_isZero_20 rfl rfl ?_
      first | exact ⟨rfl, rfl⟩ | exact ⟨by rw [bI_t (by first | assumption | omega)], rfl⟩ | exact ⟨by rw [bI_f (by first | assumption | omega)], rfl⟩
  · rw [bI_t hz]
    refine g_iload_n (pc := 2) dX0_isZero_2 rfl rfl ?_
    refine g_iload_n (pc := 3) dX0_isZero_3 rfl rfl ?_
    refine g_icmp_geN (tgt := 27) (pc := 4) dX0_isZero_4 (by decide) (by omega) (by omega) (fun c4 => ?_) (fun c4 => ?_)
    · refine g_iconst (v := nI 1) (pc := 27) dX0_isZero_27 rfl ?_
      refine g_iret (pc := 28) dX0_isZero_28 rfl rfl ?_
      first | exact ⟨rfl, rfl⟩ | exact ⟨by rw [bI_t (by first | assumption | omega)], rfl⟩ | exact ⟨by rw [bI_f (by first | assumption | omega)], rfl⟩
    · omega
theorem m_X0_isZero_37 {s : Nat → F6} {len : Nat} (hl : len ≤ 6) (hs : ∀ j, j < len → I 37 j = fI (s j)) : gFn G YX0_isZero d [.ref 37, .int (nI len)] (hp n I L D) (.inl (some (.int (bI (∀ j, j < len → s j = 0))))) (hp n I L D) 0 0 := by
  refine g_iconst (v := nI 0) (pc := 0) dX0_isZero_0 rfl ?_
  refine g_istore_n (pc := 1) dX0_isZero_1 rfl (Nat.le_of_ble_eq_true rfl) rfl ?_
  refine g_loop len (fun k (_ : Unit) => ∀ j, j < k → s j = 0) (fun k _ => [some (.ref 37), some (.int (nI len)), some (.int (nI k))]) (fun _ => hp n I L D) (fun k _ hk hz kn => ?_) (fun _ hz => ?_) 0 () (Nat.zero_le _) (fun j hj => absurd hj (Nat.not_lt_zero j))
  · have hsk := hs k hk
    have hlt := (s k).isLt
    refine g_iload_n (pc := 2) dX0_isZero_2 rfl rfl ?_
    refine g_iload_n (pc := 3) dX0_isZero_3 rfl rfl ?_
    refine g_icmp_geN (tgt := 27) (pc := 4) dX0_isZero_4 (by decide) (by omega) (by omega) (fun c4 => ?_) (fun c4 => ?_)
    · omega
    refine g_iload_n (pc := 7) dX0_isZero_7 rfl rfl ?_
    refine g_aload_n (pc := 8) dX0_isZero_8 rfl rfl ?_
    refine g_alen (pc := 9) dX0_isZero_9 s_37 (by decide) (by decide) ?_
    show gGo _ _ _ _ _ [.int (nI 6), .int (nI k)] _ _ _ _
    refine g_icmp_ge (tgt := 27) (pc := 10) dX0_isZero_10 (by decide) (fun c10 => ?_) (fun c10 => ?_)
    · exact absurd ((nI_leI (by decide) (by omega)).mp c10) (by omega)
    refine g_aload_n (pc := 13) dX0_isZero_13 rfl rfl ?_
    refine g_iload_n (pc := 14) dX0_isZero_14 rfl rfl ?_
    refine g_ialoadN (pc := 15) dX0_isZero_15 s_37 (by decide) (by omega) (by decide) (show _ = nI (s k).val from hsk) ?_
    refine g_if_eqN (tgt := 21) (pc := 16) dX0_isZero_16 (by decide) (by omega) (fun c16 => ?_) (fun c16 => ?_)
    · refine g_iincN (pc := 21) dX0_isZero_21 (Nat.le_of_ble_eq_true rfl) rfl rfl ?_
      refine g_goto (tgt := 2) (pc := 24) dX0_isZero_24 (by decide) ?_
      refine kn () (fun j hj => ?_)
      rcases Nat.lt_or_ge j k with w | w
      · exact hz j w
      · rw [show j = k by omega]; exact F6_0.mp c16
    · rw [bI_f (fun q => c16 (by rw [q k hk]; rfl))]
      refine g_iconst (v := nI 0) (pc := 19) dX0_isZero_19 rfl ?_
      refine g_iret (pc := 20) dX0_isZero_20 rfl rfl ?_
      first | exact ⟨rfl, rfl⟩ | exact ⟨by rw [bI_t (by first | assumption | omega)], rfl⟩ | exact ⟨by rw [bI_f (by first | assumption | omega)], rfl⟩
  · rw [bI_t hz]
    refine g_iload_n (pc := 2) dX0_isZero_2 rfl rfl ?_
    refine g_iload_n (pc := 3) dX0_isZero_3 rfl rfl ?_
    refine g_icmp_geN (tgt := 27) (pc := 4) dX0_isZero_4 (by decide) (by omega) (by omega) (fun c4 => ?_) (fun c4 => ?_)
    · refine g_iconst (v := nI 1) (pc := 27) dX0_isZero_27 rfl ?_
      refine g_iret (pc := 28) dX0_isZero_28 rfl rfl ?_
      first | exact ⟨rfl, rfl⟩ | exact ⟨by rw [bI_t (by first | assumption | omega)], rfl⟩ | exact ⟨by rw [bI_f (by first | assumption | omega)], rfl⟩
    · omega
theorem m_X0_addSums (hK : Kt I) {c : Nat} (hc : I 29 5 = nI c) (hc6 : c ≤ 6) {g : Nat → F6} (hg : ∀ i, i < c + 8 → I 30 i = fI (g i)) : gRv G YX0_addSums (d + 1) [.ref 29] n I L D (fun J => (∀ j, j < 6 → J 32 j = fI (smF g (c + 8) j)) ∧ Sm [32] I J) := by
  refine g_iconst (v := nI 0) (pc := 0) dX0_addSums_0 rfl ?_
  refine g_istore_n (pc := 1) dX0_addSums_1 rfl (Nat.le_of_ble_eq_true rfl) rfl ?_
  refine g_loop 6 (fun k J => (∀ j, j < k → J 32 j = fI (smF g (c + 8) j)) ∧ Sm [32] I J) (fun k _ => [some (.ref 29), some (.int (nI k)), none, none]) (fun J => hp n J L D) (fun j J hj hJ kn => ?_) (fun J hJ => ?_) 0 I (Nat.zero_le _) ⟨fun j hj => absurd hj (Nat.not_lt_zero j), Sm.rfl⟩
  · obtain ⟨u1, u2⟩ := hJ
    have hKJ : Kt J := hK.s u2 (by decide) (by decide)
    have hc1 : J 29 5 = nI c := by rw [u2 29 (by decide)]; exact hc
    have h8 : 8 + c = c + 8 := Nat.add_comm 8 c
    refine g_iload_n (pc := 2) dX0_addSums_2 rfl rfl ?_
    refine g_bipush (v := nI 6) (pc := 3) dX0_addSums_3 rfl ?_
    refine g_icmp_geN (tgt := 64) (pc := 5) dX0_addSums_5 (by decide) (by omega) (by omega) (fun c5 => ?_) (fun c5 => ?_)
    · omega
    refine g_iconst (v := nI 0) (pc := 8) dX0_addSums_8 rfl ?_
    refine g_istore_n (pc := 9) dX0_addSums_9 rfl (Nat.le_of_ble_eq_true rfl) rfl ?_
    refine g_iconst (v := nI 0) (pc := 10) dX0_addSums_10 rfl ?_
    refine g_istore_n (pc := 11) dX0_addSums_11 rfl (Nat.le_of_ble_eq_true rfl) rfl ?_
    refine g_loop (c + 8) (fun _ (_ : Unit) => True) (fun k _ => [some (.ref 29), some (.int (nI j)), some (.int (fI (smF g k j))), some (.int (nI k))]) (fun _ => hp n J L D) (fun k _ hk _ kb => ?_) (fun _ _ => ?_) 0 () (Nat.zero_le _) trivial
    · have hkj : k * j < 2 ^ 31 := Nat.lt_of_le_of_lt (Nat.mul_le_mul (show k ≤ 14 by omega) (show j ≤ 6 by omega)) (by decide)
      refine g_iload_n (pc := 12) dX0_addSums_12 rfl rfl ?_
      refine g_bipush (v := nI 8) (pc := 13) dX0_addSums_13 rfl ?_
      refine g_aload_n (pc := 15) dX0_addSums_15 rfl rfl ?_
      refine g_getIV (pc := 16) dX0_addSums_16 fl_X0_29 s_29 (by decide) rfl hc1 ?_
      refine g_iaddN (pc := 19) dX0_addSums_19 ?_
      refine g_icmp_geN (tgt := 51) (pc := 20) dX0_addSums_20 (by decide) (by omega) (by omega) (fun c20 => ?_) (fun c20 => ?_)
      · omega
      refine g_iload_n (pc := 23) dX0_addSums_23 rfl rfl ?_
      refine g_aload_n (pc := 24) dX0_addSums_24 rfl rfl ?_
      refine g_getR (pc := 25) dX0_addSums_25 fl_X0_9 s_29 (by decide) rfl t_29_0 ?_
      refine g_iload_n (pc := 28) dX0_addSums_28 rfl rfl ?_
      refine g_ialoadN (pc := 29) dX0_addSums_29 s_30 (by decide) (by omega) (by decide) (show _ = fI (g k) from by rw [u2 30 (by decide)]; exact hg k hk) ?_
      refine g_powers (pc := 30) dX0_addSums_30 (Or.inr ⟨_, fs_X0_93⟩) ?_
      refine g_iload_n (pc := 33) dX0_addSums_33 rfl rfl ?_
      refine g_iload_n (pc := 34) dX0_addSums_34 rfl rfl ?_
      refine g_imulN (pc := 35) dX0_addSums_35 ?_
      refine g_bipush (v := nI 15) (pc := 36) dX0_addSums_36 rfl ?_
      refine g_iremN (pc := 38) dX0_addSums_38 (by omega) (by omega) (by omega) ?_
      refine g_ialoadKN (pc := 39) dX0_addSums_39 s_1 (by decide) (Nat.mod_lt _ (by decide)) (by decide) (hKJ.1 _ (Nat.mod_lt _ (by decide))) ?_
      refine g_fS (av := [.int _, .int _]) (pc := 40) dX0_addSums_40 mt_X2_product lk_X0_96 sf_X2_product np_X2_product rfl (gc_i (gc_i gc_0)) (Nat.le_of_ble_eq_true rfl) (Nat.le_of_ble_eq_true rfl) ⟨Nat.zero_le _, Nat.zero_le _⟩ (m_X2_product hKJ) ?_
      refine g_ixor (pc := 43) dX0_addSums_43 ?_
      rw [fI_x, fp_m]
      refine g_istore_n (pc := 44) dX0_addSums_44 rfl (Nat.le_of_ble_eq_true rfl) rfl ?_
      refine g_iincN (pc := 45) dX0_addSums_45 (Nat.le_of_ble_eq_true rfl) rfl rfl ?_
      refine g_goto (tgt := 12) (pc := 48) dX0_addSums_48 (by decide) ?_
      exact kb () trivial
    · skip
      refine g_iload_n (pc := 12) dX0_addSums_12 rfl rfl ?_
      refine g_bipush (v := nI 8) (pc := 13) dX0_addSums_13 rfl ?_
      refine g_aload_n (pc := 15) dX0_addSums_15 rfl rfl ?_
      refine g_getIV (pc := 16) dX0_addSums_16 fl_X0_29 s_29 (by decide) rfl hc1 ?_
      refine g_iaddN (pc := 19) dX0_addSums_19 ?_
      refine g_icmp_geN (tgt := 51) (pc := 20) dX0_addSums_20 (by decide) (by omega) (by omega) (fun c20 => ?_) (fun c20 => ?_)
      rotate_left
      · omega
      refine g_aload_n (pc := 51) dX0_addSums_51 rfl rfl ?_
      refine g_getR (pc := 52) dX0_addSums_52 fl_X0_18 s_29 (by decide) rfl t_29_2 ?_
      refine g_iload_n (pc := 55) dX0_addSums_55 rfl rfl ?_
      refine g_iload_n (pc := 56) dX0_addSums_56 rfl rfl ?_
      refine g_iastoreN (pc := 57) dX0_addSums_57 s_32 (by decide) (by omega) (by decide) ?_
      refine g_iincN (pc := 58) dX0_addSums_58 (Nat.le_of_ble_eq_true rfl) rfl rfl ?_
      refine g_goto (tgt := 2) (pc := 61) dX0_addSums_61 (by decide) ?_
      refine g_fg 2 (g_fg 3 ?_)
      refine kn _ ⟨fun i hi => ?_, Sm.up (by decide) u2⟩
      rw [gUp_c]
      by_cases e : i = j
      · rw [if_pos e, e]
      · rw [if_neg e]; exact u1 i (by omega)
  · skip
    refine g_iload_n (pc := 2) dX0_addSums_2 rfl rfl ?_
    refine g_bipush (v := nI 6) (pc := 3) dX0_addSums_3 rfl ?_
    refine g_icmp_geN (tgt := 64) (pc := 5) dX0_addSums_5 (by decide) (by omega) (by omega) (fun c5 => ?_) (fun c5 => ?_)
    rotate_left
    · exact absurd (Nat.le_refl _) c5
    refine g_vret (pc := 64) dX0_addSums_64 rfl ?_
    refine ⟨_, ⟨rfl, rfl⟩, ?_⟩
    exact hJ
theorem m_X0_clearBlock {c : Nat} (hc6 : c ≤ 6) : gRv G YX0_clearBlock d [.ref 29, .int (nI c)] n I L D (fun J => J 29 5 = nI c ∧ J 29 6 = nI 0 ∧ J 29 7 = nI 0 ∧ J 29 8 = nI 0 ∧ (∀ i, i < 14 → J 30 i = nI 0) ∧ Sm [29, 30, 31] I J) := by
  have hmx : max 0 (min 6 c) = c := by omega
  refine g_aload_n (pc := 0) dX0_clearBlock_0 rfl rfl ?_
  refine g_iconst (v := nI 0) (pc := 1) dX0_clearBlock_1 rfl ?_
  refine g_bipush (v := nI 6) (pc := 2) dX0_clearBlock_2 rfl ?_
  refine g_iload_n (pc := 4) dX0_clearBlock_4 rfl rfl ?_
  refine g_mminN (pc := 5) dX0_clearBlock_5 lkm_X0_min (Nat.le_of_ble_eq_true rfl) (by omega) (by omega) ?_
  refine g_mmaxN (pc := 8) dX0_clearBlock_8 lkm_X0_max (Nat.le_of_ble_eq_true rfl) (by omega) (by omega) ?_
  rw [hmx]
  refine g_putI (pc := 11) dX0_clearBlock_11 fl_X0_29 s_29 (by decide) rfl rfl rfl rfl ?_
  refine g_aload_n (pc := 14) dX0_clearBlock_14 rfl rfl ?_
  refine g_iconst (v := nI 0) (pc := 15) dX0_clearBlock_15 rfl ?_
  refine g_putI (pc := 16) dX0_clearBlock_16 fl_X0_33 s_29 (by decide) rfl rfl rfl rfl ?_
  refine g_aload_n (pc := 19) dX0_clearBlock_19 rfl rfl ?_
  refine g_iconst (v := nI 0) (pc := 20) dX0_clearBlock_20 rfl ?_
  refine g_putI (pc := 21) dX0_clearBlock_21 fl_X0_36 s_29 (by decide) rfl rfl rfl rfl ?_
  refine g_aload_n (pc := 24) dX0_clearBlock_24 rfl rfl ?_
  refine g_iconst (v := nI 0) (pc := 25) dX0_clearBlock_25 rfl ?_
  refine g_putI (pc := 26) dX0_clearBlock_26 fl_X0_39 s_29 (by decide) rfl rfl rfl rfl ?_
  refine g_iconst (v := nI 0) (pc := 29) dX0_clearBlock_29 rfl ?_
  refine g_istore_n (pc := 30) dX0_clearBlock_30 rfl (Nat.le_of_ble_eq_true rfl) rfl ?_
  refine g_loop 14 (fun k J => J 29 5 = nI c ∧ J 29 6 = nI 0 ∧ J 29 7 = nI 0 ∧ J 29 8 = nI 0 ∧ (∀ i, i < k → J 30 i = nI 0) ∧ Sm [29, 30, 31] I J) (fun k _ => [some (.ref 29), some (.int (nI c)), some (.int (nI k))]) (fun J => hp n J L D) (fun k J hk hJ kn => ?_) (fun J hJ => ?_) 0 _ (Nat.zero_le _) ⟨?_, ?_, ?_, ?_, fun i hi => absurd hi (Nat.not_lt_zero i), (by repeat' first | assumption | exact Sm.rfl | exact Sc.rfl | refine Sm.up (by decide) ?_ | refine Sc.up (by decide) ?_ | refine Sc.un (by decide) ?_)⟩
  · obtain ⟨u1, u2, u3, u4, u5, u6⟩ := hJ
    refine g_iload_n (pc := 31) dX0_clearBlock_31 rfl rfl ?_
    refine g_bipush (v := nI 14) (pc := 32) dX0_clearBlock_32 rfl ?_
    refine g_icmp_geN (tgt := 57) (pc := 34) dX0_clearBlock_34 (by decide) (by omega) (by omega) (fun c34 => ?_) (fun c34 => ?_)
    · omega
    refine g_aload_n (pc := 37) dX0_clearBlock_37 rfl rfl ?_
    refine g_getR (pc := 38) dX0_clearBlock_38 fl_X0_9 s_29 (by decide) rfl t_29_0 ?_
    refine g_iload_n (pc := 41) dX0_clearBlock_41 rfl rfl ?_
    refine g_iconst (v := nI 0) (pc := 42) dX0_clearBlock_42 rfl ?_
    refine g_iastoreN (pc := 43) dX0_clearBlock_43 s_30 (by decide) (by omega) (by decide) ?_
    refine g_aload_n (pc := 44) dX0_clearBlock_44 rfl rfl ?_
    refine g_getR (pc := 45) dX0_clearBlock_45 fl_X0_15 s_29 (by decide) rfl t_29_1 ?_
    refine g_iload_n (pc := 48) dX0_clearBlock_48 rfl rfl ?_
    refine g_iconst (v := nI 0) (pc := 49) dX0_clearBlock_49 rfl ?_
    refine g_iastoreN (pc := 50) dX0_clearBlock_50 s_31 (by decide) (by omega) (by decide) ?_
    refine g_iincN (pc := 51) dX0_clearBlock_51 (Nat.le_of_ble_eq_true rfl) rfl rfl ?_
    refine g_goto (tgt := 31) (pc := 54) dX0_clearBlock_54 (by decide) ?_
    refine kn _ ⟨gUp_a (by decide) (gUp_a (by decide) u1), gUp_a (by decide) (gUp_a (by decide) u2), gUp_a (by decide) (gUp_a (by decide) u3), gUp_a (by decide) (gUp_a (by decide) u4), fun i hi => ?_, (by repeat' first | assumption | exact Sm.rfl | exact Sc.rfl | refine Sm.up (by decide) ?_ | refine Sc.up (by decide) ?_ | refine Sc.un (by decide) ?_)⟩
    rw [gUp_ne (by decide), gUp_c]
    by_cases e : i = k
    · rw [if_pos e]
    · rw [if_neg e]; exact u5 i (by omega)
  · skip
    refine g_iload_n (pc := 31) dX0_clearBlock_31 rfl rfl ?_
    refine g_bipush (v := nI 14) (pc := 32) dX0_clearBlock_32 rfl ?_
    refine g_icmp_geN (tgt := 57) (pc := 34) dX0_clearBlock_34 (by decide) (by omega) (by omega) (fun c34 => ?_) (fun c34 => ?_)
    rotate_left
    · exact absurd (Nat.le_refl _) c34
    refine g_vret (pc := 57) dX0_clearBlock_57 rfl ?_
    refine ⟨_, ⟨rfl, rfl⟩, ?_⟩
    exact hJ
  · exact gUp_k (by decide) (gUp_k (by decide) (gUp_k (by decide) (by rw [gUp_c, if_pos rfl])))
  · exact gUp_k (by decide) (gUp_k (by decide) (by rw [gUp_c, if_pos rfl]))
  · exact gUp_k (by decide) (by rw [gUp_c, if_pos rfl])
  · rw [gUp_c, if_pos rfl]
/-- the decoder has loaded a block -/
def LdP (I J : Nat → Nat → Int32) (V : Nat → Nat) (f b : Nat) : Prop := J 29 5 = nI (V (10 * f + 2)) ∧ J 29 6 = nI (erN V f b) ∧ J 29 7 = nI 0 ∧ J 29 8 = nI 0 ∧ (∀ i, i < sz V f → J 30 i = fI (gF V f b i)) ∧ (∀ i, sz V f ≤ i → i < 14 → J 30 i = nI 0) ∧ (∀ j, j < 6 → J 32 j = fI (smF (gF V f b) (sz V f) j)) ∧ Sm [29, 30, 31, 32] I J
theorem m_X0_load (hK : Kt I) (hS : Snap I 4 V C) (hW : WF V) {f b : Nat} (hf : f < 8) (h1 : V (10 * f) = 1) (hb : b < bl V f) : gRv G YX0_load (d + 2) [.ref 29, .ref 4, .int (nI f), .int (nI b)] n I L D (fun J => LdP I J V f b) := by
  have hw := hW.1 f hf
  have hc6 := hw.2.2.1
  have hsz := sz_le hw
  have hszc : sz V f = V (10 * f + 2) + 8 := rfl
  have h8 : 8 + V (10 * f + 2) = sz V f := Nat.add_comm _ _
  refine g_aload_n (pc := 0) dX0_load_0 rfl rfl ?_
  refine g_aload_n (pc := 1) dX0_load_1 rfl rfl ?_
  refine g_getR (pc := 2) dX0_load_2 fl_X0_52 s_4 (by decide) rfl t_4_6 ?_
  refine g_iload_n (pc := 5) dX0_load_5 rfl rfl ?_
  refine g_ialoadN (pc := 6) dX0_load_6 s_11 (by decide) (by omega) (by decide) (hS.2.2.1 f hf).2.2.1 ?_
  refine g_rvV (av := [.int _]) (pc := 7) dX0_load_7 mt_X0_clearBlock lk_X0_56 im_X0_clearBlock se_X0_clearBlock np_X0_clearBlock s_29 (by decide) (by decide) rfl (gc_i gc_0) (Nat.le_of_ble_eq_true rfl) (Nat.le_of_ble_eq_true rfl) (m_X0_clearBlock hc6) ?_
  rintro I1 ⟨k1, k2, k3, k4, k5, k6⟩
  refine g_iconst (v := nI 0) (pc := 10) dX0_load_10 rfl ?_
  refine g_istore (pc := 11) dX0_load_11 (Nat.le_of_ble_eq_true rfl) rfl ?_
  refine g_loop (sz V f) (fun k J => J 29 5 = nI (V (10 * f + 2)) ∧ J 29 6 = nI (erB V f b k) ∧ J 29 7 = nI 0 ∧ J 29 8 = nI 0 ∧ (∀ i, i < k → J 30 i = fI (gF V f b i)) ∧ (∀ i, k ≤ i → i < 14 → J 30 i = nI 0) ∧ Sm [29, 30, 31] I J) (fun k _ => [some (.ref 29), some (.ref 4), some (.int (nI f)), some (.int (nI b)), some (.int (nI k)), none]) (fun J => hp n J L D) (fun k J hk hJ kn => ?_) (fun J hJ => ?_) 0 _ (Nat.zero_le _) ⟨k1, k2, k3, k4, fun i hi => absurd hi (Nat.not_lt_zero i), fun i _ hi => k5 i hi, k6⟩
  · obtain ⟨u1, u2, u3, u4, u5, u6, u7⟩ := hJ
    have hSJ : Snap J 4 V C := hS.s (fun i hi => u7 _ (by simp; omega))
    have hcl := cellN_lt hw h1 hb hk
    have hvb := hW.2.2.2 _ hcl
    have he2 : V (320 + cellN V f b k) * 2 ^ k = if V (320 + cellN V f b k) = 1 then 2 ^ k else 0 := by
      by_cases q : V (320 + cellN V f b k) = 1
      · rw [if_pos q, q, Nat.one_mul]
      · rw [if_neg q, show V (320 + cellN V f b k) = 0 by omega, Nat.zero_mul]
    have hp2 : V (320 + cellN V f b k) * 2 ^ k < 2 ^ 32 := by
      rw [he2]
      have : 2 ^ k ≤ 16384 := p14 (by omega)
      split <;> omega
    refine g_iload (pc := 13) dX0_load_13 rfl ?_
    refine g_bipush (v := nI 8) (pc := 15) dX0_load_15 rfl ?_
    refine g_aload_n (pc := 17) dX0_load_17 rfl rfl ?_
    refine g_getIV (pc := 18) dX0_load_18 fl_X0_29 s_29 (by decide) rfl u1 ?_
    refine g_iaddN (pc := 21) dX0_load_21 ?_
    rw [h8]
    refine g_icmp_geN (tgt := 74) (pc := 22) dX0_load_22 (by decide) (by omega) (by omega) (fun c22 => ?_) (fun c22 => ?_)
    · omega
    refine g_aload_n (pc := 25) dX0_load_25 rfl rfl ?_
    refine g_iload_n (pc := 26) dX0_load_26 rfl rfl ?_
    refine g_iload_n (pc := 27) dX0_load_27 rfl rfl ?_
    refine g_iload (pc := 28) dX0_load_28 rfl ?_
    refine g_fV (av := [.int _, .int _, .int _]) (pc := 30) dX0_load_30 mt_X1_cellAt lk_X0_60 im_X1_cellAt se_X1_cellAt np_X1_cellAt s_4 (by decide) (by decide) rfl (gc_i (gc_i (gc_i gc_0))) (Nat.le_of_ble_eq_true rfl) (Nat.le_of_ble_eq_true rfl) ⟨Nat.zero_le _, Nat.zero_le _⟩ (m_X1_cellAt hSJ hW hf h1 hb) ?_
    refine g_istore (pc := 33) dX0_load_33 (Nat.le_of_ble_eq_true rfl) rfl ?_
    refine g_aload_n (pc := 35) dX0_load_35 rfl rfl ?_
    refine g_getR (pc := 36) dX0_load_36 fl_X0_9 s_29 (by decide) rfl t_29_0 ?_
    refine g_iload (pc := 39) dX0_load_39 rfl ?_
    refine g_aload_n (pc := 41) dX0_load_41 rfl rfl ?_
    refine g_getR (pc := 42) dX0_load_42 fl_X0_64 s_4 (by decide) rfl t_4_0 ?_
    refine g_iload (pc := 45) dX0_load_45 rfl ?_
    refine g_ialoadN (pc := 47) dX0_load_47 s_5 (by decide) (by omega) (by decide) (show _ = fI (gF V f b k) from (hSJ.1 _ hcl).1.trans (fF_I hvb.1)) ?_
    refine g_iastoreN (pc := 48) dX0_load_48 s_30 (by decide) (by omega) (by decide) ?_
    refine g_aload_n (pc := 49) dX0_load_49 rfl rfl ?_
    refine g_dup (pc := 50) dX0_load_50 rfl ?_
    refine g_getIV (pc := 51) dX0_load_51 fl_X0_33 s_29 (by decide) rfl (gUp_a (by decide) u2) ?_
    refine g_aload_n (pc := 54) dX0_load_54 rfl rfl ?_
    refine g_getR (pc := 55) dX0_load_55 fl_X0_67 s_4 (by decide) rfl t_4_2 ?_
    refine g_iload (pc := 58) dX0_load_58 rfl ?_
    refine g_ialoadN (pc := 60) dX0_load_60 s_7 (by decide) (by omega) (by decide) (gUp_a (by decide) (hSJ.1 _ hcl).2.2) ?_
    refine g_iload (pc := 61) dX0_load_61 rfl ?_
    refine g_ishl (pc := 63) dX0_load_63 ?_
    rw [pk_shlN (nI k &&& 31) k (sh_k k (by omega)) hp2, he2]
    refine g_ior (pc := 64) dX0_load_64 ?_
    rw [nI_or]
    refine g_putI (pc := 65) dX0_load_65 fl_X0_33 s_29 (by decide) rfl rfl rfl rfl ?_
    refine g_iincN (pc := 68) dX0_load_68 (Nat.le_of_ble_eq_true rfl) rfl rfl ?_
    refine g_goto (tgt := 13) (pc := 71) dX0_load_71 (by decide) ?_
    refine g_fg 5 ?_
    refine kn _ ⟨gUp_k (by decide) (gUp_a (by decide) u1), by rw [gUp_c, if_pos rfl]; rfl, gUp_k (by decide) (gUp_a (by decide) u3), gUp_k (by decide) (gUp_a (by decide) u4), fun i hi => ?_, fun i h2 h3 => ?_, (by repeat' first | assumption | exact Sm.rfl | exact Sc.rfl | refine Sm.up (by decide) ?_ | refine Sc.up (by decide) ?_ | refine Sc.un (by decide) ?_)⟩
    · rw [gUp_ne (by decide), gUp_c]
      by_cases e : i = k
      · rw [if_pos e, e]
      · rw [if_neg e]; exact u5 i (by omega)
    · rw [gUp_ne (by decide), gUp_c, if_neg (by omega)]; exact u6 i (by omega) h3
  · obtain ⟨u1, u2, u3, u4, u5, u6, u7⟩ := hJ
    refine g_iload (pc := 13) dX0_load_13 rfl ?_
    refine g_bipush (v := nI 8) (pc := 15) dX0_load_15 rfl ?_
    refine g_aload_n (pc := 17) dX0_load_17 rfl rfl ?_
    refine g_getIV (pc := 18) dX0_load_18 fl_X0_29 s_29 (by decide) rfl u1 ?_
    refine g_iaddN (pc := 21) dX0_load_21 ?_
    rw [h8]
    refine g_icmp_geN (tgt := 74) (pc := 22) dX0_load_22 (by decide) (by omega) (by omega) (fun c22 => ?_) (fun c22 => ?_)
    rotate_left
    · omega
    refine g_aload_n (pc := 74) dX0_load_74 rfl rfl ?_
    refine g_rvV (av := []) (pc := 75) dX0_load_75 mt_X0_addSums lk_X0_70 im_X0_addSums se_X0_addSums np_X0_addSums s_29 (by decide) (by decide) rfl gc_0 (Nat.le_of_ble_eq_true rfl) (Nat.le_of_ble_eq_true rfl) (m_X0_addSums (hK.s u7 (by decide) (by decide)) u1 hc6 u5) ?_
    rintro I2 ⟨q1, q2⟩
    refine g_vret (pc := 78) dX0_load_78 rfl ?_
    refine ⟨_, ⟨rfl, rfl⟩, ?_⟩
    exact ⟨by rw [q2 29 (by decide)]; exact u1, by rw [q2 29 (by decide)]; exact u2, by rw [q2 29 (by decide)]; exact u3, by rw [q2 29 (by decide)]; exact u4, fun i hi => by rw [q2 30 (by decide)]; exact u5 i hi, fun i h2 h3 => by rw [q2 30 (by decide)]; exact u6 i h2 h3, q1, Sm.trans (u7.mono (by decide)) (q2.mono (by decide))⟩
end

