/-! ===== the reference: erased, areas, health, the block to check, numbers of a file ===== -/
theorem nI_sub1 {c m : Nat} (h : m ≤ c + 1) : nI c - nI m + nI 1 = nI (c + 1 - m) := by
  rw [← pk_sub h, ← nI_add c 1, Int32.sub_eq_add_neg, Int32.sub_eq_add_neg, Int32.add_assoc, Int32.add_comm (-nI m), ← Int32.add_assoc]
/-- the lowest cell of the first so many free ones; -1 -/
def arI (V : Nat → Nat) (m : Nat) : Int32 := match (List.range 240).find? (fun c => decide (rn V (c + 1) = m)) with
  | some c => nI (c + 1 - m)
  | none => -1
theorem arI_some {V : Nat → Nat} {m c : Nat} (hc : c < 240) (h : rn V (c + 1) = m) (hn : ∀ i, i < c → ¬ rn V (i + 1) = m) : arI V m = nI (c + 1 - m) := by
  unfold arI
  rw [find_first hc (decide_eq_true h) (fun i hi => decide_eq_false (hn i hi))]
theorem arI_none {V : Nat → Nat} {m : Nat} (hn : ∀ i, i < 240 → ¬ rn V (i + 1) = m) : arI V m = -1 := by
  unfold arI
  rw [find_none (fun i hi => decide_eq_false (hn i hi))]
theorem bl_0 {V : Nat → Nat} {j : Nat} (h : WFj V j) (h0 : ¬ V (10 * j) = 1) : bl V j = 0 := by
  have h1 : V (10 * j) = 0 := by have := h.1; omega
  have := h.2.2.2.2.2.2.2.1 h1 1 (by decide)
  unfold bl
  rw [this]
def nxI (V : Nat → Nat) : Int32 := (nxF V 8).1
/-- numbers of a file -/
def fiV (V : Nat → Nat) (j w : Nat) : Nat := if w < 4 then V (10 * j + (1 + w)) else if w = 4 then bl V j else if w = 5 then V (10 * j + 5) else ce V j
section
variable {G : gG} {d n : Nat} {I : Nat → Nat → Int32} {L : Nat → Nat → Int64} {D : Nat → Nat → UInt64} {V : Nat → Nat}
theorem m_X3_erased_f (hV : Vok I V) (hW : WF V) {f : Int32} (h0 : ¬ f = -1) (hf : ¬ isFi V f) : gFn G YX3_erased (d + 4) [.ref 114, .int f] (hp n I L D) (.inl (some (.int (nI 0)))) (hp n (gUp I 114 0 (nI 1)) L D) 0 0 := by
  refine g_aload_n (pc := 0) dX3_erased_0 rfl rfl ?_
  refine g_iload_n (pc := 1) dX3_erased_1 rfl rfl ?_
  refine g_fV (av := [.int _]) (pc := 2) dX3_erased_2 mt_X3_isFileOrAll lk_X3_163 im_X3_isFileOrAll se_X3_isFileOrAll np_X3_isFileOrAll s_114 (by decide) (by decide) rfl (gc_i gc_0) (Nat.le_of_ble_eq_true rfl) (Nat.le_of_ble_eq_true rfl) ⟨Nat.zero_le _, Nat.zero_le _⟩ (m_X3_isFileOrAll_f hV hW h0 hf) ?_
  refine g_if_neN (tgt := 10) (pc := 5) dX3_erased_5 (by decide) (by omega) (fun c5 => ?_) (fun c5 => ?_)
  · exact absurd c5 (by decide)
  · refine g_iconst (v := nI 0) (pc := 8) dX3_erased_8 rfl ?_
    refine g_iret (pc := 9) dX3_erased_9 rfl rfl ?_
    first | exact ⟨rfl, rfl⟩ | exact ⟨by rw [bI_t (by first | assumption | omega)], rfl⟩ | exact ⟨by rw [bI_f (by first | assumption | omega)], rfl⟩
theorem m_X3_erased_a (hV : Vok I V) (hW : WF V) : gFn G YX3_erased (d + 4) [.ref 114, .int (-1)] (hp n I L D) (.inl (some (.int (nI (cnt (isEr V) 240))))) (hp n (gUp I 114 0 (nI 0)) L D) 0 0 := by
  refine g_aload_n (pc := 0) dX3_erased_0 rfl rfl ?_
  refine g_iload_n (pc := 1) dX3_erased_1 rfl rfl ?_
  refine g_fV (av := [.int _]) (pc := 2) dX3_erased_2 mt_X3_isFileOrAll lk_X3_163 im_X3_isFileOrAll se_X3_isFileOrAll np_X3_isFileOrAll s_114 (by decide) (by decide) rfl (gc_i gc_0) (Nat.le_of_ble_eq_true rfl) (Nat.le_of_ble_eq_true rfl) ⟨Nat.zero_le _, Nat.zero_le _⟩ m_X3_isFileOrAll_a ?_
  refine g_if_neN (tgt := 10) (pc := 5) dX3_erased_5 (by decide) (by omega) (fun c5 => ?_) (fun c5 => ?_)
  rotate_left
  · exact absurd c5 (by decide)
  refine g_iconst (v := nI 0) (pc := 10) dX3_erased_10 rfl ?_
  refine g_istore_n (pc := 11) dX3_erased_11 rfl (Nat.le_of_ble_eq_true rfl) rfl ?_
  refine g_iconst (v := nI 0) (pc := 12) dX3_erased_12 rfl ?_
  refine g_istore_n (pc := 13) dX3_erased_13 rfl (Nat.le_of_ble_eq_true rfl) rfl ?_
  refine g_loop 240 (fun _ (_ : Unit) => True) (fun k _ => [some (.ref 114), some (.int (-1)), some (.int (nI (cnt (isEr V) k))), some (.int (nI k))]) (fun _ => hp n (gUp I 114 0 (nI 0)) L D) (fun k _ hk _ kn => ?_) (fun _ _ => ?_) 0 () (Nat.zero_le _) trivial
  · have hb := (hW.2.2.2 k hk).2.1
    refine g_iload_n (pc := 14) dX3_erased_14 rfl rfl ?_
    refine g_sipush (v := nI 240) (pc := 15) dX3_erased_15 rfl ?_
    refine g_icmp_geN (tgt := 62) (pc := 18) dX3_erased_18 (by decide) (by omega) (by omega) (fun c18 => ?_) (fun c18 => ?_)
    · omega
    · refine g_iload_n (pc := 21) dX3_erased_21 rfl rfl ?_
      refine g_iload_n (pc := 22) dX3_erased_22 rfl rfl ?_
      refine g_if_lt (tgt := 35) (pc := 23) dX3_erased_23 (by decide) (fun c23 => ?_) (fun c23 => ?_)
      rotate_left
      · exact absurd (by decide) c23
      refine g_aload_n (pc := 35) dX3_erased_35 rfl rfl ?_
      refine g_getR (pc := 36) dX3_erased_36 fl_X3_9 s_114 (by decide) rfl t_114_1 ?_
      refine g_sipush (v := nI 320) (pc := 39) dX3_erased_39 rfl ?_
      refine g_iload_n (pc := 42) dX3_erased_42 rfl rfl ?_
      refine g_iaddN (pc := 43) dX3_erased_43 ?_
      refine g_ialoadN (pc := 44) dX3_erased_44 s_115 (by decide) (by omega) (by decide) (hV.f _ (by omega)) ?_
      refine g_iconst (v := nI 1) (pc := 45) dX3_erased_45 rfl ?_
      refine g_icmp_neN (tgt := 53) (pc := 46) dX3_erased_46 (by decide) (by omega) (by omega) (fun c46 => ?_) (fun c46 => ?_)
      · have e := cnt_f (p := isEr V) (decide_eq_false c46)
        refine g_iconst (v := nI 0) (pc := 53) dX3_erased_53 rfl ?_
        refine g_iaddN (pc := 54) dX3_erased_54 ?_
        refine g_istore_n (pc := 55) dX3_erased_55 rfl (Nat.le_of_ble_eq_true rfl) rfl ?_
        refine g_iincN (pc := 56) dX3_erased_56 (Nat.le_of_ble_eq_true rfl) rfl rfl ?_
        refine g_goto (tgt := 14) (pc := 59) dX3_erased_59 (by decide) ?_
        rw [← e]
        exact kn () trivial
      · have e := cnt_t (p := isEr V) (decide_eq_true c46)
        refine g_iconst (v := nI 1) (pc := 49) dX3_erased_49 rfl ?_
        refine g_goto (tgt := 54) (pc := 50) dX3_erased_50 (by decide) ?_
        refine g_iaddN (pc := 54) dX3_erased_54 ?_
        refine g_istore_n (pc := 55) dX3_erased_55 rfl (Nat.le_of_ble_eq_true rfl) rfl ?_
        refine g_iincN (pc := 56) dX3_erased_56 (Nat.le_of_ble_eq_true rfl) rfl rfl ?_
        refine g_goto (tgt := 14) (pc := 59) dX3_erased_59 (by decide) ?_
        rw [← e]
        exact kn () trivial
  · have hm := cnt_le (isEr V) 240
    refine g_iload_n (pc := 14) dX3_erased_14 rfl rfl ?_
    refine g_sipush (v := nI 240) (pc := 15) dX3_erased_15 rfl ?_
    refine g_icmp_geN (tgt := 62) (pc := 18) dX3_erased_18 (by decide) (by omega) (by omega) (fun c18 => ?_) (fun c18 => ?_)
    · refine g_iload_n (pc := 62) dX3_erased_62 rfl rfl ?_
      refine g_iret (pc := 63) dX3_erased_63 rfl rfl ?_
      first | exact ⟨rfl, rfl⟩ | exact ⟨by rw [bI_t (by first | assumption | omega)], rfl⟩ | exact ⟨by rw [bI_f (by first | assumption | omega)], rfl⟩
    · exact absurd (Nat.le_refl _) c18
theorem m_X3_erased_t (hV : Vok I V) (hW : WF V) {j : Nat} (hj : j < 8) (h1 : V (10 * j) = 1) : gFn G YX3_erased (d + 4) [.ref 114, .int (nI j)] (hp n I L D) (.inl (some (.int (nI (cnt (fun c => isOf V j c && isEr V c) 240))))) (hp n (gUp I 114 0 (nI 0)) L D) 0 0 := by
  refine g_aload_n (pc := 0) dX3_erased_0 rfl rfl ?_
  refine g_iload_n (pc := 1) dX3_erased_1 rfl rfl ?_
  refine g_fV (av := [.int _]) (pc := 2) dX3_erased_2 mt_X3_isFileOrAll lk_X3_163 im_X3_isFileOrAll se_X3_isFileOrAll np_X3_isFileOrAll s_114 (by decide) (by decide) rfl (gc_i gc_0) (Nat.le_of_ble_eq_true rfl) (Nat.le_of_ble_eq_true rfl) ⟨Nat.zero_le _, Nat.zero_le _⟩ (m_X3_isFileOrAll_t hV hW hj h1) ?_
  refine g_if_neN (tgt := 10) (pc := 5) dX3_erased_5 (by decide) (by omega) (fun c5 => ?_) (fun c5 => ?_)
  rotate_left
  · exact absurd c5 (by decide)
  refine g_iconst (v := nI 0) (pc := 10) dX3_erased_10 rfl ?_
  refine g_istore_n (pc := 11) dX3_erased_11 rfl (Nat.le_of_ble_eq_true rfl) rfl ?_
  refine g_iconst (v := nI 0) (pc := 12) dX3_erased_12 rfl ?_
  refine g_istore_n (pc := 13) dX3_erased_13 rfl (Nat.le_of_ble_eq_true rfl) rfl ?_
  refine g_loop 240 (fun _ (_ : Unit) => True) (fun k _ => [some (.ref 114), some (.int (nI j)), some (.int (nI (cnt (fun c => isOf V j c && isEr V c) k))), some (.int (nI k))]) (fun _ => hp n (gUp I 114 0 (nI 0)) L D) (fun k _ hk _ kn => ?_) (fun _ _ => ?_) 0 () (Nat.zero_le _) trivial
  · have hb := (hW.2.2.2 k hk).2.1
    refine g_iload_n (pc := 14) dX3_erased_14 rfl rfl ?_
    refine g_sipush (v := nI 240) (pc := 15) dX3_erased_15 rfl ?_
    refine g_icmp_geN (tgt := 62) (pc := 18) dX3_erased_18 (by decide) (by omega) (by omega) (fun c18 => ?_) (fun c18 => ?_)
    · omega
    · refine g_iload_n (pc := 21) dX3_erased_21 rfl rfl ?_
      refine g_iload_n (pc := 22) dX3_erased_22 rfl rfl ?_
      refine g_if_ltN (tgt := 35) (pc := 23) dX3_erased_23 (by decide) (by omega) (fun c23 => ?_) (fun c23 => ?_)
      · omega
      refine g_aload_n (pc := 26) dX3_erased_26 rfl rfl ?_
      refine g_iload_n (pc := 27) dX3_erased_27 rfl rfl ?_
      refine g_fV (av := [.int _]) (pc := 28) dX3_erased_28 mt_X3_ownerOf lk_X3_111 im_X3_ownerOf se_X3_ownerOf np_X3_ownerOf s_114 (by decide) (by decide) rfl (gc_i gc_0) (Nat.le_of_ble_eq_true rfl) (Nat.le_of_ble_eq_true rfl) ⟨Nat.zero_le _, Nat.zero_le _⟩ (m_X3_ownerOf hV.f hW hk) ?_
      refine g_iload_n (pc := 31) dX3_erased_31 rfl rfl ?_
      refine g_icmp_ne (tgt := 53) (pc := 32) dX3_erased_32 (by decide) (fun c32 => ?_) (fun c32 => ?_)
      · have eo : isOf V j k = false := decide_eq_false (fun q => c32 (ownI_some q))
        have e := cnt_f (p := fun c => isOf V j c && isEr V c) (c := k) (by simp [eo])
        refine g_iconst (v := nI 0) (pc := 53) dX3_erased_53 rfl ?_
        refine g_iaddN (pc := 54) dX3_erased_54 ?_
        refine g_istore_n (pc := 55) dX3_erased_55 rfl (Nat.le_of_ble_eq_true rfl) rfl ?_
        refine g_iincN (pc := 56) dX3_erased_56 (Nat.le_of_ble_eq_true rfl) rfl rfl ?_
        refine g_goto (tgt := 14) (pc := 59) dX3_erased_59 (by decide) ?_
        rw [← e]
        exact kn () trivial
      · have eo : isOf V j k = true := decide_eq_true ((ownI_eq hj).mp c32)
        refine g_aload_n (pc := 35) dX3_erased_35 rfl rfl ?_
        refine g_getR (pc := 36) dX3_erased_36 fl_X3_9 s_114 (by decide) rfl t_114_1 ?_
        refine g_sipush (v := nI 320) (pc := 39) dX3_erased_39 rfl ?_
        refine g_iload_n (pc := 42) dX3_erased_42 rfl rfl ?_
        refine g_iaddN (pc := 43) dX3_erased_43 ?_
        refine g_ialoadN (pc := 44) dX3_erased_44 s_115 (by decide) (by omega) (by decide) (hV.f _ (by omega)) ?_
        refine g_iconst (v := nI 1) (pc := 45) dX3_erased_45 rfl ?_
        refine g_icmp_neN (tgt := 53) (pc := 46) dX3_erased_46 (by decide) (by omega) (by omega) (fun c46 => ?_) (fun c46 => ?_)
        · have e := cnt_f (p := fun c => isOf V j c && isEr V c) (c := k) (by show (isOf V j k && isEr V k) = false; rw [show isEr V k = false from decide_eq_false c46, Bool.and_false])
          refine g_iconst (v := nI 0) (pc := 53) dX3_erased_53 rfl ?_
          refine g_iaddN (pc := 54) dX3_erased_54 ?_
          refine g_istore_n (pc := 55) dX3_erased_55 rfl (Nat.le_of_ble_eq_true rfl) rfl ?_
          refine g_iincN (pc := 56) dX3_erased_56 (Nat.le_of_ble_eq_true rfl) rfl rfl ?_
          refine g_goto (tgt := 14) (pc := 59) dX3_erased_59 (by decide) ?_
          rw [← e]
          exact kn () trivial
        · have e := cnt_t (p := fun c => isOf V j c && isEr V c) (c := k) (by show (isOf V j k && isEr V k) = true; rw [show isEr V k = true from decide_eq_true c46, eo]; rfl)
          refine g_iconst (v := nI 1) (pc := 49) dX3_erased_49 rfl ?_
          refine g_goto (tgt := 54) (pc := 50) dX3_erased_50 (by decide) ?_
          refine g_iaddN (pc := 54) dX3_erased_54 ?_
          refine g_istore_n (pc := 55) dX3_erased_55 rfl (Nat.le_of_ble_eq_true rfl) rfl ?_
          refine g_iincN (pc := 56) dX3_erased_56 (Nat.le_of_ble_eq_true rfl) rfl rfl ?_
          refine g_goto (tgt := 14) (pc := 59) dX3_erased_59 (by decide) ?_
          rw [← e]
          exact kn () trivial
  · have hm := cnt_le (fun c => isOf V j c && isEr V c) 240
    refine g_iload_n (pc := 14) dX3_erased_14 rfl rfl ?_
    refine g_sipush (v := nI 240) (pc := 15) dX3_erased_15 rfl ?_
    refine g_icmp_geN (tgt := 62) (pc := 18) dX3_erased_18 (by decide) (by omega) (by omega) (fun c18 => ?_) (fun c18 => ?_)
    · refine g_iload_n (pc := 62) dX3_erased_62 rfl rfl ?_
      refine g_iret (pc := 63) dX3_erased_63 rfl rfl ?_
      first | exact ⟨rfl, rfl⟩ | exact ⟨by rw [bI_t (by first | assumption | omega)], rfl⟩ | exact ⟨by rw [bI_f (by first | assumption | omega)], rfl⟩
    · exact absurd (Nat.le_refl _) c18
theorem l_X3_area2 {k m r : Nat} (hk : k < 240) (hm : m < 1000) (hn : ∀ i, i < k → ¬ rn V (i + 1) = m) (e : r = rn V (k + 1)) (kn : (∀ i, i < k + 1 → ¬ rn V (i + 1) = m) → gGo G YX3_area d 4 [some (.ref 114), some (.int (nI m)), some (.int (nI (rn V (k + 1)))), some (.int (nI (k + 1)))] [] (hp n I L D) 0 0 (fun o g => o = .inl (some (.int (arI V m))) ∧ g = hp n I L D)) : gGo G YX3_area d 26 [some (.ref 114), some (.int (nI m)), some (.int (nI (rn V k))), some (.int (nI k))] [.int (nI r)] (hp n I L D) 0 0 (fun o g => o = .inl (some (.int (arI V m))) ∧ g = hp n I L D) := by
  subst e
  have hr2 := rn_le V (k + 1)
  refine g_istore_n (pc := 26) dX3_area_26 rfl (Nat.le_of_ble_eq_true rfl) rfl ?_
  refine g_iload_n (pc := 27) dX3_area_27 rfl rfl ?_
  refine g_iload_n (pc := 28) dX3_area_28 rfl rfl ?_
  refine g_icmp_neN (tgt := 38) (pc := 29) dX3_area_29 (by decide) (by omega) (by omega) (fun c29 => ?_) (fun c29 => ?_)
  · refine g_iincN (pc := 38) dX3_area_38 (Nat.le_of_ble_eq_true rfl) rfl rfl ?_
    refine g_goto (tgt := 4) (pc := 41) dX3_area_41 (by decide) ?_
    refine kn (fun i hi => ?_)
    by_cases e2 : i = k
    · rw [e2]; exact c29
    · exact hn i (by omega)
  · rw [arI_some hk c29 hn, ← nI_sub1 (by omega)]
    refine g_iload_n (pc := 32) dX3_area_32 rfl rfl ?_
    refine g_iload_n (pc := 33) dX3_area_33 rfl rfl ?_
    refine g_isub (pc := 34) dX3_area_34 ?_
    refine g_iconst (v := nI 1) (pc := 35) dX3_area_35 rfl ?_
    refine g_iadd (pc := 36) dX3_area_36 ?_
    refine g_iret (pc := 37) dX3_area_37 rfl rfl ?_
    first | exact ⟨rfl, rfl⟩ | exact ⟨by rw [bI_t (by first | assumption | omega)], rfl⟩ | exact ⟨by rw [bI_f (by first | assumption | omega)], rfl⟩
theorem m_X3_area (hV : Vok I V) (hW : WF V) {m : Nat} (hm : m < 1000) : gFn G YX3_area (d + 4) [.ref 114, .int (nI m)] (hp n I L D) (.inl (some (.int (arI V m)))) (hp n I L D) 0 0 := by
  refine g_iconst (v := nI 0) (pc := 0) dX3_area_0 rfl ?_
  refine g_istore_n (pc := 1) dX3_area_1 rfl (Nat.le_of_ble_eq_true rfl) rfl ?_
  refine g_iconst (v := nI 0) (pc := 2) dX3_area_2 rfl ?_
  refine g_istore_n (pc := 3) dX3_area_3 rfl (Nat.le_of_ble_eq_true rfl) rfl ?_
  refine g_loop 240 (fun k (_ : Unit) => ∀ i, i < k → ¬ rn V (i + 1) = m) (fun k _ => [some (.ref 114), some (.int (nI m)), some (.int (nI (rn V k))), some (.int (nI k))]) (fun _ => hp n I L D) (fun k _ hk hn kn => ?_) (fun _ hn => ?_) 0 () (Nat.zero_le _) (fun i hi => absurd hi (Nat.not_lt_zero i))
  · skip
    refine g_iload_n (pc := 4) dX3_area_4 rfl rfl ?_
    refine g_sipush (v := nI 240) (pc := 5) dX3_area_5 rfl ?_
    refine g_icmp_geN (tgt := 44) (pc := 8) dX3_area_8 (by decide) (by omega) (by omega) (fun c8 => ?_) (fun c8 => ?_)
    · omega
    · refine g_aload_n (pc := 11) dX3_area_11 rfl rfl ?_
      refine g_iload_n (pc := 12) dX3_area_12 rfl rfl ?_
      refine g_fV (av := [.int _]) (pc := 13) dX3_area_13 mt_X3_ownerOf lk_X3_111 im_X3_ownerOf se_X3_ownerOf np_X3_ownerOf s_114 (by decide) (by decide) rfl (gc_i gc_0) (Nat.le_of_ble_eq_true rfl) (Nat.le_of_ble_eq_true rfl) ⟨Nat.zero_le _, Nat.zero_le _⟩ (m_X3_ownerOf hV hW hk) ?_
      refine g_if_ge (tgt := 25) (pc := 16) dX3_area_16 (by decide) (fun c16 => ?_) (fun c16 => ?_)
      · have e : 0 = rn V (k + 1) := by rw [rn, if_neg (ownI_ge.mp c16)]
        refine g_iconst (v := nI 0) (pc := 25) dX3_area_25 rfl ?_
        exact l_X3_area2 hk hm hn e (kn ())
      · have e : rn V k + 1 = rn V (k + 1) := by rw [rn, if_pos (ownI_lt.mp (by rw [Int32.lt_iff_toInt_lt]; rw [Int32.le_iff_toInt_le] at c16; omega))]
        refine g_iload_n (pc := 19) dX3_area_19 rfl rfl ?_
        refine g_iconst (v := nI 1) (pc := 20) dX3_area_20 rfl ?_
        refine g_iaddN (pc := 21) dX3_area_21 ?_
        refine g_goto (tgt := 26) (pc := 22) dX3_area_22 (by decide) ?_
        exact l_X3_area2 hk hm hn e (kn ())
  · skip
    refine g_iload_n (pc := 4) dX3_area_4 rfl rfl ?_
    refine g_sipush (v := nI 240) (pc := 5) dX3_area_5 rfl ?_
    refine g_icmp_geN (tgt := 44) (pc := 8) dX3_area_8 (by decide) (by omega) (by omega) (fun c8 => ?_) (fun c8 => ?_)
    · rw [arI_none hn]
      refine g_iconst (v := (-1)) (pc := 44) dX3_area_44 rfl ?_
      refine g_iret (pc := 45) dX3_area_45 rfl rfl ?_
      first | exact ⟨rfl, rfl⟩ | exact ⟨by rw [bI_t (by first | assumption | omega)], rfl⟩ | exact ⟨by rw [bI_f (by first | assumption | omega)], rfl⟩
    · exact absurd (Nat.le_refl _) c8
theorem l_X3_health2 {h : gH} {a b : Nat} {x y : Option Value} {Q : gQ} (ha : a < 300) (hq : Q (.inl (some (.double (if a = 0 then 0 else FP.ddiv (FP.i2d (nI b)) (FP.i2d (nI a)))))) h) : gGo G YX3_health d 76 [x, some (.int (nI a)), some (.int (nI b)), y] [] h 0 0 Q := by
  by_cases e : a = 0
  · rw [if_pos e] at hq
    refine g_iload_n (pc := 76) dX3_health_76 rfl rfl ?_
    refine g_if_neN (tgt := 84) (pc := 77) dX3_health_77 (by decide) (by omega) (fun c77 => ?_) (fun c77 => ?_)
    · exact absurd e c77
    · refine g_dconst0 (pc := 80) dX3_health_80 ?_
      refine g_goto (tgt := 89) (pc := 81) dX3_health_81 (by decide) ?_
      refine g_dret (pc := 89) dX3_health_89 rfl ?_
      exact hq
  · rw [if_neg e] at hq
    have hnz := nI_ne0 (n := a) (by omega) (by omega)
    refine g_iload_n (pc := 76) dX3_health_76 rfl rfl ?_
    refine g_if_neN (tgt := 84) (pc := 77) dX3_health_77 (by decide) (by omega) (fun c77 => ?_) (fun c77 => ?_)
    · refine g_iload_n (pc := 84) dX3_health_84 rfl rfl ?_
      refine g_i2d (pc := 85) dX3_health_85 ?_
      refine g_iload_n (pc := 86) dX3_health_86 rfl rfl ?_
      refine g_i2d (pc := 87) dX3_health_87 ?_
      refine g_ddiv (pc := 88) dX3_health_88 (vf_ddiv hnz) ?_
      refine g_dret (pc := 89) dX3_health_89 rfl ?_
      exact hq
    · exact absurd c77 e
theorem m_X3_health (hV : Vok I V) (hW : WF V) : gFn G YX3_health (d + 4) [.ref 114] (hp n I L D) (.inl (some (.double (if cnt (isOw V) 240 = 0 then 0 else FP.ddiv (FP.i2d (nI (cnt (isGd V) 240))) (FP.i2d (nI (cnt (isOw V) 240))))))) (hp n (gUp I 114 0 (nI (if cnt (isOw V) 240 = 0 then 1 else 0))) L D) 0 0 := by
  refine g_iconst (v := nI 0) (pc := 0) dX3_health_0 rfl ?_
  refine g_istore_n (pc := 1) dX3_health_1 rfl (Nat.le_of_ble_eq_true rfl) rfl ?_
  refine g_iconst (v := nI 0) (pc := 2) dX3_health_2 rfl ?_
  refine g_istore_n (pc := 3) dX3_health_3 rfl (Nat.le_of_ble_eq_true rfl) rfl ?_
  refine g_iconst (v := nI 0) (pc := 4) dX3_health_4 rfl ?_
  refine g_istore_n (pc := 5) dX3_health_5 rfl (Nat.le_of_ble_eq_true rfl) rfl ?_
  refine g_loop 240 (fun k (_ : Unit) => True) (fun k _ => [some (.ref 114), some (.int (nI (cnt (isOw V) k))), some (.int (nI (cnt (isGd V) k))), some (.int (nI k))]) (fun _ => hp n I L D) (fun k _ hk _ kn => ?_) (fun _ _ => ?_) 0 () (Nat.zero_le _) trivial
  · have hb := (hW.2.2.2 k hk).2.1
    refine g_iload_n (pc := 6) dX3_health_6 rfl rfl ?_
    refine g_sipush (v := nI 240) (pc := 7) dX3_health_7 rfl ?_
    refine g_icmp_geN (tgt := 63) (pc := 10) dX3_health_10 (by decide) (by omega) (by omega) (fun c10 => ?_) (fun c10 => ?_)
    · omega
    · refine g_aload_n (pc := 13) dX3_health_13 rfl rfl ?_
      refine g_iload_n (pc := 14) dX3_health_14 rfl rfl ?_
      refine g_fV (av := [.int _]) (pc := 15) dX3_health_15 mt_X3_ownerOf lk_X3_111 im_X3_ownerOf se_X3_ownerOf np_X3_ownerOf s_114 (by decide) (by decide) rfl (gc_i gc_0) (Nat.le_of_ble_eq_true rfl) (Nat.le_of_ble_eq_true rfl) ⟨Nat.zero_le _, Nat.zero_le _⟩ (m_X3_ownerOf hV hW hk) ?_
      refine g_if_ge (tgt := 24) (pc := 18) dX3_health_18 (by decide) (fun c18 => ?_) (fun c18 => ?_)
      · have eo : isOw V k = true := decide_eq_true (ownI_ge.mp c18)
        have e1 := cnt_t (p := isOw V) eo
        refine g_iincN (pc := 24) dX3_health_24 (Nat.le_of_ble_eq_true rfl) rfl rfl ?_
        refine g_iload_n (pc := 27) dX3_health_27 rfl rfl ?_
        refine g_aload_n (pc := 28) dX3_health_28 rfl rfl ?_
        refine g_iload_n (pc := 29) dX3_health_29 rfl rfl ?_
        refine g_fV (av := [.int _]) (pc := 30) dX3_health_30 mt_X3_isWrong lk_X3_166 im_X3_isWrong se_X3_isWrong np_X3_isWrong s_114 (by decide) (by decide) rfl (gc_i gc_0) (Nat.le_of_ble_eq_true rfl) (Nat.le_of_ble_eq_true rfl) ⟨Nat.zero_le _, Nat.zero_le _⟩ (m_X3_isWrong hV hW hk) ?_
        refine g_if_neB (tgt := 50) (pc := 33) dX3_health_33 (by decide) (fun c33 => ?_) (fun c33 => ?_)
        · have e2 := cnt_f (p := isGd V) (c := k) (by unfold isGd; rw [show isWr V k = true from decide_eq_true c33, eo]; rfl)
          refine g_iconst (v := nI 0) (pc := 50) dX3_health_50 rfl ?_
          refine g_goto (tgt := 55) (pc := 51) dX3_health_51 (by decide) ?_
          refine g_iaddN (pc := 55) dX3_health_55 ?_
          refine g_istore_n (pc := 56) dX3_health_56 rfl (Nat.le_of_ble_eq_true rfl) rfl ?_
          refine g_iincN (pc := 57) dX3_health_57 (Nat.le_of_ble_eq_true rfl) rfl rfl ?_
          refine g_goto (tgt := 6) (pc := 60) dX3_health_60 (by decide) ?_
          first | rw [← e1, ← e2] | (rw [← e1] ; rw [← e2])
          exact kn () trivial
        · have ew : isWr V k = false := decide_eq_false c33
          refine g_aload_n (pc := 36) dX3_health_36 rfl rfl ?_
          refine g_getR (pc := 37) dX3_health_37 fl_X3_9 s_114 (by decide) rfl t_114_1 ?_
          refine g_sipush (v := nI 320) (pc := 40) dX3_health_40 rfl ?_
          refine g_iload_n (pc := 43) dX3_health_43 rfl rfl ?_
          refine g_iaddN (pc := 44) dX3_health_44 ?_
          refine g_ialoadN (pc := 45) dX3_health_45 s_115 (by decide) (by omega) (by decide) (hV _ (by omega)) ?_
          refine g_iconst (v := nI 1) (pc := 46) dX3_health_46 rfl ?_
          refine g_icmp_neN (tgt := 54) (pc := 47) dX3_health_47 (by decide) (by omega) (by omega) (fun c47 => ?_) (fun c47 => ?_)
          · have e2 := cnt_t (p := isGd V) (c := k) (by unfold isGd; rw [ew, eo, show isEr V k = false from decide_eq_false c47]; rfl)
            refine g_iconst (v := nI 1) (pc := 54) dX3_health_54 rfl ?_
            refine g_iaddN (pc := 55) dX3_health_55 ?_
            refine g_istore_n (pc := 56) dX3_health_56 rfl (Nat.le_of_ble_eq_true rfl) rfl ?_
            refine g_iincN (pc := 57) dX3_health_57 (Nat.le_of_ble_eq_true rfl) rfl rfl ?_
            refine g_goto (tgt := 6) (pc := 60) dX3_health_60 (by decide) ?_
            first | rw [← e1, ← e2] | (rw [← e1] ; rw [← e2])
            exact kn () trivial
          · have e2 := cnt_f (p := isGd V) (c := k) (by unfold isGd; rw [ew, eo, show isEr V k = true from decide_eq_true c47]; rfl)
            refine g_iconst (v := nI 0) (pc := 50) dX3_health_50 rfl ?_
            refine g_goto (tgt := 55) (pc := 51) dX3_health_51 (by decide) ?_
            refine g_iaddN (pc := 55) dX3_health_55 ?_
            refine g_istore_n (pc := 56) dX3_health_56 rfl (Nat.le_of_ble_eq_true rfl) rfl ?_
            refine g_iincN (pc := 57) dX3_health_57 (Nat.le_of_ble_eq_true rfl) rfl rfl ?_
            refine g_goto (tgt := 6) (pc := 60) dX3_health_60 (by decide) ?_
            first | rw [← e1, ← e2] | (rw [← e1] ; rw [← e2])
            exact kn () trivial
      · have eo : isOw V k = false := decide_eq_false (fun q => q (ownI_lt.mp (by rw [Int32.lt_iff_toInt_lt]; rw [Int32.le_iff_toInt_le] at c18; omega)))
        have e1 : cnt (isOw V) (k + 1) = cnt (isOw V) k := cnt_f (p := isOw V) eo
        have e2 : cnt (isGd V) (k + 1) = cnt (isGd V) k := cnt_f (p := isGd V) (c := k) (by unfold isGd; rw [eo]; rfl)
        refine g_goto (tgt := 57) (pc := 21) dX3_health_21 (by decide) ?_
        refine g_iincN (pc := 57) dX3_health_57 (Nat.le_of_ble_eq_true rfl) rfl rfl ?_
        refine g_goto (tgt := 6) (pc := 60) dX3_health_60 (by decide) ?_
        first | rw [← e1, ← e2] | (rw [← e1] ; rw [← e2])
        exact kn () trivial
  · have hm1 := cnt_le (isOw V) 240
    have hm2 := cnt_le (isGd V) 240
    refine g_iload_n (pc := 6) dX3_health_6 rfl rfl ?_
    refine g_sipush (v := nI 240) (pc := 7) dX3_health_7 rfl ?_
    refine g_icmp_geN (tgt := 63) (pc := 10) dX3_health_10 (by decide) (by omega) (by omega) (fun c10 => ?_) (fun c10 => ?_)
    · refine g_aload_n (pc := 63) dX3_health_63 rfl rfl ?_
      refine g_iload_n (pc := 64) dX3_health_64 rfl rfl ?_
      refine g_if_neN (tgt := 72) (pc := 65) dX3_health_65 (by decide) (by omega) (fun c65 => ?_) (fun c65 => ?_)
      · have ez : (if cnt (isOw V) 240 = 0 then 1 else 0) = 0 := if_neg c65
        refine g_iconst (v := nI 0) (pc := 72) dX3_health_72 rfl ?_
        refine g_putI (pc := 73) dX3_health_73 fl_X3_67 s_114 (by decide) rfl rfl rfl rfl ?_
        exact l_X3_health2 (by omega) ⟨rfl, by rw [ez]⟩
      · have ez : (if cnt (isOw V) 240 = 0 then 1 else 0) = 1 := if_pos c65
        refine g_iconst (v := nI 1) (pc := 68) dX3_health_68 rfl ?_
        refine g_goto (tgt := 73) (pc := 69) dX3_health_69 (by decide) ?_
        refine g_putI (pc := 73) dX3_health_73 fl_X3_67 s_114 (by decide) rfl rfl rfl rfl ?_
        exact l_X3_health2 (by omega) ⟨rfl, by rw [ez]⟩
    · exact absurd (Nat.le_refl _) c10
theorem m_X3_file_1 (hV : Vok I V) (hW : WF V) {f w : Int32} (hf : ¬ isFi V f) : gFn G YX3_file (d + 3) [.ref 114, .int f, .int w] (hp n I L D) (.inl (some (.int (nI 0)))) (hp n (gUp I 114 0 (nI 1)) L D) 0 0 := by
  refine g_aload_n (pc := 0) dX3_file_0 rfl rfl ?_
  refine g_aload_n (pc := 1) dX3_file_1 rfl rfl ?_
  refine g_iload_n (pc := 2) dX3_file_2 rfl rfl ?_
  refine g_fV (av := [.int _]) (pc := 3) dX3_file_3 mt_X3_isFile lk_X3_87 im_X3_isFile se_X3_isFile np_X3_isFile s_114 (by decide) (by decide) rfl (gc_i gc_0) (Nat.le_of_ble_eq_true rfl) (Nat.le_of_ble_eq_true rfl) ⟨Nat.zero_le _, Nat.zero_le _⟩ (m_X3_isFile hV hW) ?_
  refine g_if_neB (tgt := 13) (pc := 6) dX3_file_6 (by decide) (fun c6 => ?_) (fun c6 => ?_)
  · exact absurd c6 hf
  · refine g_iconst (v := nI 1) (pc := 9) dX3_file_9 rfl ?_
    refine g_goto (tgt := 28) (pc := 10) dX3_file_10 (by decide) ?_
    refine g_putI (pc := 28) dX3_file_28 fl_X3_67 s_114 (by decide) rfl rfl rfl rfl ?_
    refine g_aload_n (pc := 31) dX3_file_31 rfl rfl ?_
    refine g_getIV (pc := 32) dX3_file_32 fl_X3_67 s_114 (by decide) rfl (show _ = nI 1 from rfl) ?_
    refine g_if_leN (tgt := 40) (pc := 35) dX3_file_35 (by decide) (by omega) (fun c35 => ?_) (fun c35 => ?_)
    · exact absurd c35 (by decide)
    · refine g_iconst (v := nI 0) (pc := 38) dX3_file_38 rfl ?_
      refine g_iret (pc := 39) dX3_file_39 rfl rfl ?_
      first | exact ⟨rfl, rfl⟩ | exact ⟨by rw [bI_t (by first | assumption | omega)], rfl⟩ | exact ⟨by rw [bI_f (by first | assumption | omega)], rfl⟩
theorem m_X3_file_2 (hV : Vok I V) (hW : WF V) {j : Nat} (hj : j < 8) (h1 : V (10 * j) = 1) {w : Int32} (h : ¬ (nI 0 ≤ w ∧ w ≤ nI 6)) : gFn G YX3_file (d + 3) [.ref 114, .int (nI j), .int w] (hp n I L D) (.inl (some (.int (nI 0)))) (hp n (gUp I 114 0 (nI 2)) L D) 0 0 := by
  refine g_aload_n (pc := 0) dX3_file_0 rfl rfl ?_
  refine g_aload_n (pc := 1) dX3_file_1 rfl rfl ?_
  refine g_iload_n (pc := 2) dX3_file_2 rfl rfl ?_
  refine g_fV (av := [.int _]) (pc := 3) dX3_file_3 mt_X3_isFile lk_X3_87 im_X3_isFile se_X3_isFile np_X3_isFile s_114 (by decide) (by decide) rfl (gc_i gc_0) (Nat.le_of_ble_eq_true rfl) (Nat.le_of_ble_eq_true rfl) ⟨Nat.zero_le _, Nat.zero_le _⟩ (m_X3_isFileN hV hW hj) ?_
  refine g_if_neB (tgt := 13) (pc := 6) dX3_file_6 (by decide) (fun c6 => ?_) (fun c6 => ?_)
  · refine g_iload_n (pc := 13) dX3_file_13 rfl rfl ?_
    refine g_iconst (v := nI 0) (pc := 14) dX3_file_14 rfl ?_
    refine g_bipush (v := nI 6) (pc := 15) dX3_file_15 rfl ?_
    refine g_fS (av := [.int _, .int _, .int _]) (pc := 17) dX3_file_17 mt_X3_isIn lk_X3_73 sf_X3_isIn np_X3_isIn rfl (gc_i (gc_i (gc_i gc_0))) (Nat.le_of_ble_eq_true rfl) (Nat.le_of_ble_eq_true rfl) ⟨Nat.zero_le _, Nat.zero_le _⟩ (m_X3_isIn) ?_
    refine g_if_neB (tgt := 27) (pc := 20) dX3_file_20 (by decide) (fun c20 => ?_) (fun c20 => ?_)
    · exact absurd c20 h
    · refine g_iconst (v := nI 2) (pc := 23) dX3_file_23 rfl ?_
      refine g_goto (tgt := 28) (pc := 24) dX3_file_24 (by decide) ?_
      refine g_putI (pc := 28) dX3_file_28 fl_X3_67 s_114 (by decide) rfl rfl rfl rfl ?_
      refine g_aload_n (pc := 31) dX3_file_31 rfl rfl ?_
      refine g_getIV (pc := 32) dX3_file_32 fl_X3_67 s_114 (by decide) rfl (show _ = nI 2 from rfl) ?_
      refine g_if_leN (tgt := 40) (pc := 35) dX3_file_35 (by decide) (by omega) (fun c35 => ?_) (fun c35 => ?_)
      · exact absurd c35 (by decide)
      · refine g_iconst (v := nI 0) (pc := 38) dX3_file_38 rfl ?_
        refine g_iret (pc := 39) dX3_file_39 rfl rfl ?_
        first | exact ⟨rfl, rfl⟩ | exact ⟨by rw [bI_t (by first | assumption | omega)], rfl⟩ | exact ⟨by rw [bI_f (by first | assumption | omega)], rfl⟩
  · exact absurd h1 c6
theorem m_X3_file_0 (hV : Vok I V) (hW : WF V) {j : Nat} (hj : j < 8) (h1 : V (10 * j) = 1) {w : Nat} (h : w ≤ 6) : gFn G YX3_file (d + 3) [.ref 114, .int (nI j), .int (nI w)] (hp n I L D) (.inl (some (.int (nI (fiV V j w))))) (hp n (gUp I 114 0 (nI 0)) L D) 0 0 := by
  unfold fiV
  refine g_aload_n (pc := 0) dX3_file_0 rfl rfl ?_
  refine g_aload_n (pc := 1) dX3_file_1 rfl rfl ?_
  refine g_iload_n (pc := 2) dX3_file_2 rfl rfl ?_
  refine g_fV (av := [.int _]) (pc := 3) dX3_file_3 mt_X3_isFile lk_X3_87 im_X3_isFile se_X3_isFile np_X3_isFile s_114 (by decide) (by decide) rfl (gc_i gc_0) (Nat.le_of_ble_eq_true rfl) (Nat.le_of_ble_eq_true rfl) ⟨Nat.zero_le _, Nat.zero_le _⟩ (m_X3_isFileN hV hW hj) ?_
  refine g_if_neB (tgt := 13) (pc := 6) dX3_file_6 (by decide) (fun c6 => ?_) (fun c6 => ?_)
  rotate_left
  · exact absurd h1 c6
  refine g_iload_n (pc := 13) dX3_file_13 rfl rfl ?_
  refine g_iconst (v := nI 0) (pc := 14) dX3_file_14 rfl ?_
  refine g_bipush (v := nI 6) (pc := 15) dX3_file_15 rfl ?_
  refine g_fS (av := [.int _, .int _, .int _]) (pc := 17) dX3_file_17 mt_X3_isIn lk_X3_73 sf_X3_isIn np_X3_isIn rfl (gc_i (gc_i (gc_i gc_0))) (Nat.le_of_ble_eq_true rfl) (Nat.le_of_ble_eq_true rfl) ⟨Nat.zero_le _, Nat.zero_le _⟩ (m_X3_isInN (by omega) (by decide) (by decide)) ?_
  refine g_if_neB (tgt := 27) (pc := 20) dX3_file_20 (by decide) (fun c20 => ?_) (fun c20 => ?_)
  rotate_left
  · exact absurd ⟨Nat.zero_le _, h⟩ c20
  refine g_iconst (v := nI 0) (pc := 27) dX3_file_27 rfl ?_
  refine g_putI (pc := 28) dX3_file_28 fl_X3_67 s_114 (by decide) rfl rfl rfl rfl ?_
  refine g_aload_n (pc := 31) dX3_file_31 rfl rfl ?_
  refine g_getIV (pc := 32) dX3_file_32 fl_X3_67 s_114 (by decide) rfl (show _ = nI 0 from rfl) ?_
  refine g_if_leN (tgt := 40) (pc := 35) dX3_file_35 (by decide) (by omega) (fun c35 => ?_) (fun c35 => ?_)
  rotate_left
  · exact absurd c35 (by decide)
  refine g_iload_n (pc := 40) dX3_file_40 rfl rfl ?_
  refine g_iconst (v := nI 4) (pc := 41) dX3_file_41 rfl ?_
  refine g_icmp_geN (tgt := 56) (pc := 42) dX3_file_42 (by decide) (by omega) (by omega) (fun c42 => ?_) (fun c42 => ?_)
  · rw [if_neg (by omega)]
    refine g_iload_n (pc := 56) dX3_file_56 rfl rfl ?_
    refine g_iconst (v := nI 4) (pc := 57) dX3_file_57 rfl ?_
    refine g_icmp_neN (tgt := 69) (pc := 58) dX3_file_58 (by decide) (by omega) (by omega) (fun c58 => ?_) (fun c58 => ?_)
    · rw [if_neg c58]
      refine g_iload_n (pc := 69) dX3_file_69 rfl rfl ?_
      refine g_iconst (v := nI 5) (pc := 70) dX3_file_70 rfl ?_
      refine g_icmp_neN (tgt := 83) (pc := 71) dX3_file_71 (by decide) (by omega) (by omega) (fun c71 => ?_) (fun c71 => ?_)
      · rw [if_neg c71]
        refine g_aload_n (pc := 83) dX3_file_83 rfl rfl ?_
        refine g_iload_n (pc := 84) dX3_file_84 rfl rfl ?_
        refine g_fV (av := [.int _]) (pc := 85) dX3_file_85 mt_X3_cells lk_X3_91 im_X3_cells se_X3_cells np_X3_cells s_114 (by decide) (by decide) rfl (gc_i gc_0) (Nat.le_of_ble_eq_true rfl) (Nat.le_of_ble_eq_true rfl) ⟨Nat.zero_le _, Nat.zero_le _⟩ (m_X3_cells hV.f hW hj) ?_
        refine g_iret (pc := 88) dX3_file_88 rfl rfl ?_
        first | exact ⟨rfl, rfl⟩ | exact ⟨by rw [bI_t (by first | assumption | omega)], rfl⟩ | exact ⟨by rw [bI_f (by first | assumption | omega)], rfl⟩
      · rw [if_pos c71]
        refine g_aload_n (pc := 74) dX3_file_74 rfl rfl ?_
        refine g_iload_n (pc := 75) dX3_file_75 rfl rfl ?_
        refine g_iconst (v := nI 5) (pc := 76) dX3_file_76 rfl ?_
        refine g_fV (av := [.int _, .int _]) (pc := 77) dX3_file_77 mt_X3_of lk_X3_77 im_X3_of se_X3_of np_X3_of s_114 (by decide) (by decide) rfl (gc_i (gc_i gc_0)) (Nat.le_of_ble_eq_true rfl) (Nat.le_of_ble_eq_true rfl) ⟨Nat.zero_le _, Nat.zero_le _⟩ (m_X3_of hV.f (j := j) (w := 5) hj (by decide)) ?_
        refine g_goto (tgt := 88) (pc := 80) dX3_file_80 (by decide) ?_
        refine g_iret (pc := 88) dX3_file_88 rfl rfl ?_
        first | exact ⟨rfl, rfl⟩ | exact ⟨by rw [bI_t (by first | assumption | omega)], rfl⟩ | exact ⟨by rw [bI_f (by first | assumption | omega)], rfl⟩
    · rw [if_pos c58]
      refine g_aload_n (pc := 61) dX3_file_61 rfl rfl ?_
      refine g_iload_n (pc := 62) dX3_file_62 rfl rfl ?_
      refine g_fV (av := [.int _]) (pc := 63) dX3_file_63 mt_X3_blocks lk_X3_80 im_X3_blocks se_X3_blocks np_X3_blocks s_114 (by decide) (by decide) rfl (gc_i gc_0) (Nat.le_of_ble_eq_true rfl) (Nat.le_of_ble_eq_true rfl) ⟨Nat.zero_le _, Nat.zero_le _⟩ (m_X3_blocks hV.f hW hj) ?_
      refine g_goto (tgt := 88) (pc := 66) dX3_file_66 (by decide) ?_
      refine g_iret (pc := 88) dX3_file_88 rfl rfl ?_
      first | exact ⟨rfl, rfl⟩ | exact ⟨by rw [bI_t (by first | assumption | omega)], rfl⟩ | exact ⟨by rw [bI_f (by first | assumption | omega)], rfl⟩
  · rw [if_pos (by omega)]
    refine g_aload_n (pc := 45) dX3_file_45 rfl rfl ?_
    refine g_iload_n (pc := 46) dX3_file_46 rfl rfl ?_
    refine g_iconst (v := nI 1) (pc := 47) dX3_file_47 rfl ?_
    refine g_iload_n (pc := 48) dX3_file_48 rfl rfl ?_
    refine g_iaddN (pc := 49) dX3_file_49 ?_
    refine g_fV (av := [.int _, .int _]) (pc := 50) dX3_file_50 mt_X3_of lk_X3_77 im_X3_of se_X3_of np_X3_of s_114 (by decide) (by decide) rfl (gc_i (gc_i gc_0)) (Nat.le_of_ble_eq_true rfl) (Nat.le_of_ble_eq_true rfl) ⟨Nat.zero_le _, Nat.zero_le _⟩ (m_X3_of hV.f (j := j) (w := 1 + w) hj (by omega)) ?_
    refine g_goto (tgt := 88) (pc := 53) dX3_file_53 (by decide) ?_
    refine g_iret (pc := 88) dX3_file_88 rfl rfl ?_
    first | exact ⟨rfl, rfl⟩ | exact ⟨by rw [bI_t (by first | assumption | omega)], rfl⟩ | exact ⟨by rw [bI_f (by first | assumption | omega)], rfl⟩
theorem m_X3_next (hV : Vok I V) (hW : WF V) : gFn G YX3_next (d + 2) [.ref 114] (hp n I L D) (.inl (some (.int (nxI V)))) (hp n I L D) 0 0 := by
  have h8 := hW.2.2.1
  refine g_iconst (v := (-1)) (pc := 0) dX3_next_0 rfl ?_
  refine g_istore_n (pc := 1) dX3_next_1 rfl (Nat.le_of_ble_eq_true rfl) rfl ?_
  refine g_aload_n (pc := 2) dX3_next_2 rfl rfl ?_
  refine g_getR (pc := 3) dX3_next_3 fl_X3_9 s_114 (by decide) rfl t_114_1 ?_
  refine g_sipush (v := nI 800) (pc := 6) dX3_next_6 rfl ?_
  refine g_ialoadN (pc := 9) dX3_next_9 s_115 (by decide) (by omega) (by decide) (hV _ (by omega)) ?_
  refine g_istore_n (pc := 10) dX3_next_10 rfl (Nat.le_of_ble_eq_true rfl) rfl ?_
  refine g_iconst (v := nI 0) (pc := 11) dX3_next_11 rfl ?_
  refine g_istore_n (pc := 12) dX3_next_12 rfl (Nat.le_of_ble_eq_true rfl) rfl ?_
  refine g_loop 8 (fun k (_ : Unit) => True) (fun k _ => [some (.ref 114), some (.int (nxF V k).1), some (.int (nI (nxF V k).2)), some (.int (nI k)), none]) (fun _ => hp n I L D) (fun j _ hj _ kn => ?_) (fun _ _ => ?_) 0 () (Nat.zero_le _) trivial
  · have hw := hW.1 j hj
    have hbl := bl_le hw
    have hnf := nxF_le (V := V) j
    refine g_iload_n (pc := 13) dX3_next_13 rfl rfl ?_
    refine g_bipush (v := nI 8) (pc := 14) dX3_next_14 rfl ?_
    refine g_icmp_geN (tgt := 88) (pc := 16) dX3_next_16 (by decide) (by omega) (by omega) (fun c16 => ?_) (fun c16 => ?_)
    · omega
    refine g_iconst (v := nI 0) (pc := 19) dX3_next_19 rfl ?_
    refine g_istore (pc := 20) dX3_next_20 (Nat.le_of_ble_eq_true rfl) rfl ?_
    by_cases h1 : V (10 * j) = 1
    · have hfe : nxF V (j + 1) = nxB V j (nxF V j) (bl V j) := by rw [nxF, if_pos h1]
      refine g_loop (bl V j) (fun k (_ : Unit) => True) (fun k _ => [some (.ref 114), some (.int (nxB V j (nxF V j) k).1), some (.int (nI (nxB V j (nxF V j) k).2)), some (.int (nI j)), some (.int (nI k))]) (fun _ => hp n I L D) (fun b _ hb _ kb => ?_) (fun _ _ => ?_) 0 () (Nat.zero_le _) trivial
      · have hnb := nxB_le (V := V) (j := j) (s := nxF V j) b
        have hc9 := hw.2.2.2.2.2.2.1 b (by omega)
        rw [show 10 * j + 6 + b = 10 * j + (6 + b) by omega] at hc9
        refine g_aload_n (pc := 22) dX3_next_22 rfl rfl ?_
        refine g_iload_n (pc := 23) dX3_next_23 rfl rfl ?_
        refine g_fV (av := [.int _]) (pc := 24) dX3_next_24 mt_X3_isFile lk_X3_87 im_X3_isFile se_X3_isFile np_X3_isFile s_114 (by decide) (by decide) rfl (gc_i gc_0) (Nat.le_of_ble_eq_true rfl) (Nat.le_of_ble_eq_true rfl) ⟨Nat.zero_le _, Nat.zero_le _⟩ (m_X3_isFileN hV hW hj) ?_
        refine g_if_eqB (tgt := 82) (pc := 27) dX3_next_27 (by decide) (fun c27 => ?_) (fun c27 => ?_)
        · exact absurd h1 c27
        refine g_iload (pc := 30) dX3_next_30 rfl ?_
        refine g_aload_n (pc := 32) dX3_next_32 rfl rfl ?_
        refine g_iload_n (pc := 33) dX3_next_33 rfl rfl ?_
        refine g_fV (av := [.int _]) (pc := 34) dX3_next_34 mt_X3_blocks lk_X3_80 im_X3_blocks se_X3_blocks np_X3_blocks s_114 (by decide) (by decide) rfl (gc_i gc_0) (Nat.le_of_ble_eq_true rfl) (Nat.le_of_ble_eq_true rfl) ⟨Nat.zero_le _, Nat.zero_le _⟩ (m_X3_blocks hV hW hj) ?_
        refine g_icmp_geN (tgt := 82) (pc := 37) dX3_next_37 (by decide) (by omega) (by omega) (fun c37 => ?_) (fun c37 => ?_)
        · omega
        refine g_aload_n (pc := 40) dX3_next_40 rfl rfl ?_
        refine g_iload_n (pc := 41) dX3_next_41 rfl rfl ?_
        refine g_bipush (v := nI 6) (pc := 42) dX3_next_42 rfl ?_
        refine g_iload (pc := 44) dX3_next_44 rfl ?_
        refine g_iaddN (pc := 46) dX3_next_46 ?_
        refine g_fV (av := [.int _, .int _]) (pc := 47) dX3_next_47 mt_X3_of lk_X3_77 im_X3_of se_X3_of np_X3_of s_114 (by decide) (by decide) rfl (gc_i (gc_i gc_0)) (Nat.le_of_ble_eq_true rfl) (Nat.le_of_ble_eq_true rfl) ⟨Nat.zero_le _, Nat.zero_le _⟩ (m_X3_of hV (j := j) (w := 6 + b) hj (by omega)) ?_
        refine g_iload_n (pc := 50) dX3_next_50 rfl rfl ?_
        refine g_icmp_ltN (tgt := 57) (pc := 51) dX3_next_51 (by decide) (by omega) (by omega) (fun c51 => ?_) (fun c51 => ?_)
        · have e := nxB_t (j := j) (s := nxF V j) c51
          rw [e] at kb
          refine g_aload_n (pc := 57) dX3_next_57 rfl rfl ?_
          refine g_iload_n (pc := 58) dX3_next_58 rfl rfl ?_
          refine g_bipush (v := nI 6) (pc := 59) dX3_next_59 rfl ?_
          refine g_iload (pc := 61) dX3_next_61 rfl ?_
          refine g_iaddN (pc := 63) dX3_next_63 ?_
          refine g_fV (av := [.int _, .int _]) (pc := 64) dX3_next_64 mt_X3_of lk_X3_77 im_X3_of se_X3_of np_X3_of s_114 (by decide) (by decide) rfl (gc_i (gc_i gc_0)) (Nat.le_of_ble_eq_true rfl) (Nat.le_of_ble_eq_true rfl) ⟨Nat.zero_le _, Nat.zero_le _⟩ (m_X3_of hV (j := j) (w := 6 + b) hj (by omega)) ?_
          refine g_istore_n (pc := 67) dX3_next_67 rfl (Nat.le_of_ble_eq_true rfl) rfl ?_
          refine g_bipush (v := nI 100) (pc := 68) dX3_next_68 rfl ?_
          refine g_iload_n (pc := 70) dX3_next_70 rfl rfl ?_
          refine g_imulN (pc := 71) dX3_next_71 ?_
          refine g_iload (pc := 72) dX3_next_72 rfl ?_
          refine g_iaddN (pc := 74) dX3_next_74 ?_
          refine g_istore_n (pc := 75) dX3_next_75 rfl (Nat.le_of_ble_eq_true rfl) rfl ?_
          refine g_iincN (pc := 76) dX3_next_76 (Nat.le_of_ble_eq_true rfl) rfl rfl ?_
          refine g_goto (tgt := 22) (pc := 79) dX3_next_79 (by decide) ?_
          exact kb () trivial
        · have e := nxB_f (j := j) (s := nxF V j) c51
          rw [e] at kb
          refine g_goto (tgt := 76) (pc := 54) dX3_next_54 (by decide) ?_
          refine g_iincN (pc := 76) dX3_next_76 (Nat.le_of_ble_eq_true rfl) rfl rfl ?_
          refine g_goto (tgt := 22) (pc := 79) dX3_next_79 (by decide) ?_
          exact kb () trivial
      · rw [← hfe]
        refine g_aload_n (pc := 22) dX3_next_22 rfl rfl ?_
        refine g_iload_n (pc := 23) dX3_next_23 rfl rfl ?_
        refine g_fV (av := [.int _]) (pc := 24) dX3_next_24 mt_X3_isFile lk_X3_87 im_X3_isFile se_X3_isFile np_X3_isFile s_114 (by decide) (by decide) rfl (gc_i gc_0) (Nat.le_of_ble_eq_true rfl) (Nat.le_of_ble_eq_true rfl) ⟨Nat.zero_le _, Nat.zero_le _⟩ (m_X3_isFileN hV hW hj) ?_
        refine g_if_eqB (tgt := 82) (pc := 27) dX3_next_27 (by decide) (fun c27 => ?_) (fun c27 => ?_)
        · exact absurd h1 c27
        refine g_iload (pc := 30) dX3_next_30 rfl ?_
        refine g_aload_n (pc := 32) dX3_next_32 rfl rfl ?_
        refine g_iload_n (pc := 33) dX3_next_33 rfl rfl ?_
        refine g_fV (av := [.int _]) (pc := 34) dX3_next_34 mt_X3_blocks lk_X3_80 im_X3_blocks se_X3_blocks np_X3_blocks s_114 (by decide) (by decide) rfl (gc_i gc_0) (Nat.le_of_ble_eq_true rfl) (Nat.le_of_ble_eq_true rfl) ⟨Nat.zero_le _, Nat.zero_le _⟩ (m_X3_blocks hV hW hj) ?_
        refine g_icmp_geN (tgt := 82) (pc := 37) dX3_next_37 (by decide) (by omega) (by omega) (fun c37 => ?_) (fun c37 => ?_)
        rotate_left
        · omega
        refine g_iincN (pc := 82) dX3_next_82 (Nat.le_of_ble_eq_true rfl) rfl rfl ?_
        refine g_goto (tgt := 13) (pc := 85) dX3_next_85 (by decide) ?_
        refine g_fg 4 ?_
        exact kn () trivial
    · have hfe : nxF V (j + 1) = nxF V j := by rw [nxF, if_neg h1]; rfl
      rw [hfe] at kn
      refine g_aload_n (pc := 22) dX3_next_22 rfl rfl ?_
      refine g_iload_n (pc := 23) dX3_next_23 rfl rfl ?_
      refine g_fV (av := [.int _]) (pc := 24) dX3_next_24 mt_X3_isFile lk_X3_87 im_X3_isFile se_X3_isFile np_X3_isFile s_114 (by decide) (by decide) rfl (gc_i gc_0) (Nat.le_of_ble_eq_true rfl) (Nat.le_of_ble_eq_true rfl) ⟨Nat.zero_le _, Nat.zero_le _⟩ (m_X3_isFileN hV hW hj) ?_
      refine g_if_eqB (tgt := 82) (pc := 27) dX3_next_27 (by decide) (fun c27 => ?_) (fun c27 => ?_)
      rotate_left
      · exact absurd c27 h1
      refine g_iincN (pc := 82) dX3_next_82 (Nat.le_of_ble_eq_true rfl) rfl rfl ?_
      refine g_goto (tgt := 13) (pc := 85) dX3_next_85 (by decide) ?_
      refine g_fg 4 ?_
      exact kn () trivial
  · skip
    refine g_iload_n (pc := 13) dX3_next_13 rfl rfl ?_
    refine g_bipush (v := nI 8) (pc := 14) dX3_next_14 rfl ?_
    refine g_icmp_geN (tgt := 88) (pc := 16) dX3_next_16 (by decide) (by omega) (by omega) (fun c16 => ?_) (fun c16 => ?_)
    · refine g_iload_n (pc := 88) dX3_next_88 rfl rfl ?_
      refine g_iret (pc := 89) dX3_next_89 rfl rfl ?_
      first | exact ⟨rfl, rfl⟩ | exact ⟨by rw [bI_t (by first | assumption | omega)], rfl⟩ | exact ⟨by rw [bI_f (by first | assumption | omega)], rfl⟩
    · exact absurd (Nat.le_refl _) c16
theorem m_X3_nextToCheck_1 (hV : Vok I V) (hW : WF V) (h : ¬ (0 : Int32) ≤ nxI V) : gFn G YX3_nextToCheck (d + 3) [.ref 114] (hp n I L D) (.inl (some (.int (nI 0)))) (hp n (gUp I 114 0 (nI 1)) L D) 0 0 := by
  refine g_aload_n (pc := 0) dX3_nextToCheck_0 rfl rfl ?_
  refine g_fV (av := []) (pc := 1) dX3_nextToCheck_1 mt_X3_next lk_X3_219 im_X3_next se_X3_next np_X3_next s_114 (by decide) (by decide) rfl gc_0 (Nat.le_of_ble_eq_true rfl) (Nat.le_of_ble_eq_true rfl) ⟨Nat.zero_le _, Nat.zero_le _⟩ (m_X3_next hV hW) ?_
  refine g_istore_n (pc := 4) dX3_nextToCheck_4 rfl (Nat.le_of_ble_eq_true rfl) rfl ?_
  refine g_aload_n (pc := 5) dX3_nextToCheck_5 rfl rfl ?_
  refine g_iload_n (pc := 6) dX3_nextToCheck_6 rfl rfl ?_
  refine g_if_ge (tgt := 14) (pc := 7) dX3_nextToCheck_7 (by decide) (fun c7 => ?_) (fun c7 => ?_)
  · exact absurd c7 h
  refine g_iconst (v := nI 1) (pc := 10) dX3_nextToCheck_10 rfl ?_
  refine g_goto (tgt := 15) (pc := 11) dX3_nextToCheck_11 (by decide) ?_
  refine g_putI (pc := 15) dX3_nextToCheck_15 fl_X3_67 s_114 (by decide) rfl rfl rfl rfl ?_
  refine g_iload_n (pc := 18) dX3_nextToCheck_18 rfl rfl ?_
  refine g_if_ge (tgt := 26) (pc := 19) dX3_nextToCheck_19 (by decide) (fun c19 => ?_) (fun c19 => ?_)
  · exact absurd c19 h
  · refine g_iconst (v := nI 0) (pc := 22) dX3_nextToCheck_22 rfl ?_
    refine g_goto (tgt := 27) (pc := 23) dX3_nextToCheck_23 (by decide) ?_
    refine g_iret (pc := 27) dX3_nextToCheck_27 rfl rfl ?_
    first | exact ⟨rfl, rfl⟩ | exact ⟨by rw [bI_t (by first | assumption | omega)], rfl⟩ | exact ⟨by rw [bI_f (by first | assumption | omega)], rfl⟩
theorem m_X3_nextToCheck_0 (hV : Vok I V) (hW : WF V) (h : (0 : Int32) ≤ nxI V) : gFn G YX3_nextToCheck (d + 3) [.ref 114] (hp n I L D) (.inl (some (.int (nxI V)))) (hp n (gUp I 114 0 (nI 0)) L D) 0 0 := by
  refine g_aload_n (pc := 0) dX3_nextToCheck_0 rfl rfl ?_
  refine g_fV (av := []) (pc := 1) dX3_nextToCheck_1 mt_X3_next lk_X3_219 im_X3_next se_X3_next np_X3_next s_114 (by decide) (by decide) rfl gc_0 (Nat.le_of_ble_eq_true rfl) (Nat.le_of_ble_eq_true rfl) ⟨Nat.zero_le _, Nat.zero_le _⟩ (m_X3_next hV hW) ?_
  refine g_istore_n (pc := 4) dX3_nextToCheck_4 rfl (Nat.le_of_ble_eq_true rfl) rfl ?_
  refine g_aload_n (pc := 5) dX3_nextToCheck_5 rfl rfl ?_
  refine g_iload_n (pc := 6) dX3_nextToCheck_6 rfl rfl ?_
  refine g_if_ge (tgt := 14) (pc := 7) dX3_nextToCheck_7 (by decide) (fun c7 => ?_) (fun c7 => ?_)
  rotate_left
  · exact absurd h c7
  refine g_iconst (v := nI 0) (pc := 14) dX3_nextToCheck_14 rfl ?_
  refine g_putI (pc := 15) dX3_nextToCheck_15 fl_X3_67 s_114 (by decide) rfl rfl rfl rfl ?_
  refine g_iload_n (pc := 18) dX3_nextToCheck_18 rfl rfl ?_
  refine g_if_ge (tgt := 26) (pc := 19) dX3_nextToCheck_19 (by decide) (fun c19 => ?_) (fun c19 => ?_)
  · refine g_iload_n (pc := 26) dX3_nextToCheck_26 rfl rfl ?_
    refine g_iret (pc := 27) dX3_nextToCheck_27 rfl rfl ?_
    first | exact ⟨rfl, rfl⟩ | exact ⟨by rw [bI_t (by first | assumption | omega)], rfl⟩ | exact ⟨by rw [bI_f (by first | assumption | omega)], rfl⟩
  · exact absurd h c19
end

