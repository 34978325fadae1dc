/-! ===== the class's state: changes ===== -/
theorem g_copyN {G : gG} {Y : gY} {d pc : Nat} {al : List (Option Value)} {st : List Value} {n : Nat} {I : Nat → Nat → Int32} {L : Nat → Nat → Int64} {D : Nat → Nat → UInt64} {kc ks : Nat} {Q : gQ} {ix r q N n0 n1 : Nat} (dg : decode Y.2.1 pc = .ok (.invokestatic ix, 3)) (hlk : Cond.methodLink Y.1.cls ix arraycopyName ∈ gW) (hS : (S0 n)[r]? = some (2, 0, n1)) (h3 : 3 ≤ r) (hSq : (S0 n)[q]? = some (2, 0, n0)) (h3q : 3 ≤ q) (hN : N < 1000) (p4 : N ≤ n0) (p5 : N ≤ n1) (hrest : (st.map fun v => v.category).sum ≤ 8) (k : ∀ J, Sm [r] I J → (∀ i, i < N → J r i = I q i) → gGo G Y d (pc + 3) al st (hp n J L D) kc ks Q) : gGo G Y d pc al (.int (nI N) :: .int (nI 0) :: .ref r :: .int (nI 0) :: .ref q :: st) (hp n I L D) kc ks Q := by
  have z0 : (nI 0).toNatClampNeg = 0 := rfl
  have zN : (nI N).toNatClampNeg = N := nI_clamp (by omega)
  refine g_copy dg hlk hS h3 hSq h3q (by decide) (by decide) (nI_pos (by omega)) (by rw [z0, zN]; omega) (by rw [z0, zN]; omega) hrest ?_
  refine k _ (fun a ha => ?_) (fun i hi => ?_)
  · show (fun b => if a = r then _ else I a b) = I a
    have : a ≠ r := fun e => ha (by rw [e]; exact List.mem_cons_self)
    funext b
    rw [if_neg this]
  · show (if r = r then va_cpy (I q) (I r) (nI 0).toNatClampNeg (nI 0).toNatClampNeg (nI N).toNatClampNeg i else I r i) = _
    rw [if_pos rfl, z0, zN, pk_cpy_in (Nat.zero_le _) (by omega)]
    congr 1
    omega
theorem Snap.sym {I : Nat → Nat → Int32} {b c x : Nat} {V : Nat → Nat} {C : Nat → Int32} (h : Snap I b V C) (hbl : ∀ j, j < 8 → bl V j ≤ 4) (hc : c < 240) : Snap (gUp I (b + 1) c (nI x)) b (uV V (80 + c) x) C := by
  obtain ⟨h1, h2, h3, h4, h5⟩ := h
  have hb : ∀ j, j < 8 → bl (uV V (80 + c) x) j = bl V j := fun j hj => by unfold bl; rw [uV_n (by omega)]
  refine ⟨fun i hi => ⟨?_, ?_, ?_⟩, fun k hk => ?_, fun j hj => ⟨?_, ?_, ?_, ?_, ?_, ?_⟩, fun j hj q hq => ?_, ?_⟩
  · rw [gUp_c]
    by_cases e : i = c
    · rw [if_pos e, e, uV_s]
    · rw [if_neg e, uV_n (by omega)]; exact (h1 i hi).1
  · rw [gUp_ne (by omega), uV_n (by omega)]; exact (h1 i hi).2.1
  · rw [gUp_ne (by omega), uV_n (by omega)]; exact (h1 i hi).2.2
  · rw [gUp_ne (by omega)]; exact h2 k hk
  · rw [gUp_ne (by omega), uV_n (by omega)]; exact (h3 j hj).1
  · rw [gUp_ne (by omega), hb j hj]; exact (h3 j hj).2.1
  · rw [gUp_ne (by omega), uV_n (by omega)]; exact (h3 j hj).2.2.1
  · rw [gUp_ne (by omega), uV_n (by omega)]; exact (h3 j hj).2.2.2.1
  · rw [gUp_ne (by omega), uV_n (by omega)]; exact (h3 j hj).2.2.2.2.1
  · rw [gUp_ne (by omega), uV_n (by omega)]; exact (h3 j hj).2.2.2.2.2
  · rw [hb j hj] at hq
    rw [gUp_ne (by omega)]
    rw [uV_n (by have := hbl j hj; omega)]; exact h4 j hj q hq
  · rw [gUp_ne (by omega), uV_n (by omega)]; exact h5
theorem Snap.wri {I : Nat → Nat → Int32} {b c x : Nat} {V : Nat → Nat} {C : Nat → Int32} (h : Snap I b V C) (hbl : ∀ j, j < 8 → bl V j ≤ 4) (hc : c < 240) : Snap (gUp I (b + 2) c (nI x)) b (uV V (560 + c) x) C := by
  obtain ⟨h1, h2, h3, h4, h5⟩ := h
  have hb : ∀ j, j < 8 → bl (uV V (560 + c) x) j = bl V j := fun j hj => by unfold bl; rw [uV_n (by omega)]
  refine ⟨fun i hi => ⟨?_, ?_, ?_⟩, fun k hk => ?_, fun j hj => ⟨?_, ?_, ?_, ?_, ?_, ?_⟩, fun j hj q hq => ?_, ?_⟩
  · rw [gUp_ne (by omega), uV_n (by omega)]; exact (h1 i hi).1
  · rw [gUp_c]
    by_cases e : i = c
    · rw [if_pos e, e, uV_s]
    · rw [if_neg e, uV_n (by omega)]; exact (h1 i hi).2.1
  · rw [gUp_ne (by omega), uV_n (by omega)]; exact (h1 i hi).2.2
  · rw [gUp_ne (by omega)]; exact h2 k hk
  · rw [gUp_ne (by omega), uV_n (by omega)]; exact (h3 j hj).1
  · rw [gUp_ne (by omega), hb j hj]; exact (h3 j hj).2.1
  · rw [gUp_ne (by omega), uV_n (by omega)]; exact (h3 j hj).2.2.1
  · rw [gUp_ne (by omega), uV_n (by omega)]; exact (h3 j hj).2.2.2.1
  · rw [gUp_ne (by omega), uV_n (by omega)]; exact (h3 j hj).2.2.2.2.1
  · rw [gUp_ne (by omega), uV_n (by omega)]; exact (h3 j hj).2.2.2.2.2
  · rw [hb j hj] at hq
    rw [gUp_ne (by omega)]
    rw [uV_n (by have := hbl j hj; omega)]; exact h4 j hj q hq
  · rw [gUp_ne (by omega), uV_n (by omega)]; exact h5
theorem Snap.era {I : Nat → Nat → Int32} {b c x : Nat} {V : Nat → Nat} {C : Nat → Int32} (h : Snap I b V C) (hbl : ∀ j, j < 8 → bl V j ≤ 4) (hc : c < 240) : Snap (gUp I (b + 3) c (nI x)) b (uV V (320 + c) x) C := by
  obtain ⟨h1, h2, h3, h4, h5⟩ := h
  have hb : ∀ j, j < 8 → bl (uV V (320 + c) x) j = bl V j := fun j hj => by unfold bl; rw [uV_n (by omega)]
  refine ⟨fun i hi => ⟨?_, ?_, ?_⟩, fun k hk => ?_, fun j hj => ⟨?_, ?_, ?_, ?_, ?_, ?_⟩, fun j hj q hq => ?_, ?_⟩
  · rw [gUp_ne (by omega), uV_n (by omega)]; exact (h1 i hi).1
  · rw [gUp_ne (by omega), uV_n (by omega)]; exact (h1 i hi).2.1
  · rw [gUp_c]
    by_cases e : i = c
    · rw [if_pos e, e, uV_s]
    · rw [if_neg e, uV_n (by omega)]; exact (h1 i hi).2.2
  · rw [gUp_ne (by omega)]; exact h2 k hk
  · rw [gUp_ne (by omega), uV_n (by omega)]; exact (h3 j hj).1
  · rw [gUp_ne (by omega), hb j hj]; exact (h3 j hj).2.1
  · rw [gUp_ne (by omega), uV_n (by omega)]; exact (h3 j hj).2.2.1
  · rw [gUp_ne (by omega), uV_n (by omega)]; exact (h3 j hj).2.2.2.1
  · rw [gUp_ne (by omega), uV_n (by omega)]; exact (h3 j hj).2.2.2.2.1
  · rw [gUp_ne (by omega), uV_n (by omega)]; exact (h3 j hj).2.2.2.2.2
  · rw [hb j hj] at hq
    rw [gUp_ne (by omega)]
    rw [uV_n (by have := hbl j hj; omega)]; exact h4 j hj q hq
  · rw [gUp_ne (by omega), uV_n (by omega)]; exact h5
theorem Snap.cnt {I : Nat → Nat → Int32} {b k : Nat} {y : Int32} {V : Nat → Nat} {C : Nat → Int32} (h : Snap I b V C) (hk : k < 8) : Snap (gUp I (b + 4) k y) b V (uC C k y) := by
  obtain ⟨h1, h2, h3, h4, h5⟩ := h
  refine ⟨fun i hi => ?_, fun i hi => ?_, fun j hj => ?_, fun j hj q hq => ?_, ?_⟩
  · rw [gUp_ne (by omega), gUp_ne (by omega), gUp_ne (by omega)]; exact h1 i hi
  · rw [gUp_c]
    by_cases e : i = k
    · rw [if_pos e, e, uC_s]
    · rw [if_neg e, uC_n e]; exact h2 i hi
  · rw [gUp_ne (by omega), gUp_ne (by omega), gUp_ne (by omega), gUp_ne (by omega), gUp_ne (by omega), gUp_ne (by omega)]; exact h3 j hj
  · rw [gUp_ne (by omega)]; exact h4 j hj q hq
  · rw [gUp_ne (by omega)]; exact h5
theorem Snap.day {I : Nat → Nat → Int32} {b x : Nat} {V : Nat → Nat} {C : Nat → Int32} (h : Snap I b V C) (hbl : ∀ j, j < 8 → bl V j ≤ 4) : Snap (gUp I b 11 (nI x)) b (uV V 800 x) C := by
  obtain ⟨h1, h2, h3, h4, h5⟩ := h
  have hb : ∀ j, j < 8 → bl (uV V 800 x) j = bl V j := fun j hj => by unfold bl; rw [uV_n (by omega)]
  refine ⟨fun i hi => ?_, fun k hk => ?_, fun j hj => ?_, fun j hj q hq => ?_, ?_⟩
  · rw [gUp_ne (by omega), gUp_ne (by omega), gUp_ne (by omega), uV_n (by omega), uV_n (by omega), uV_n (by omega)]; exact h1 i hi
  · rw [gUp_ne (by omega)]; exact h2 k hk
  · rw [gUp_ne (by omega), gUp_ne (by omega), gUp_ne (by omega), gUp_ne (by omega), gUp_ne (by omega), gUp_ne (by omega), hb j hj, uV_n (by omega), uV_n (by omega), uV_n (by omega), uV_n (by omega), uV_n (by omega)]; exact h3 j hj
  · rw [hb j hj] at hq
    rw [gUp_ne (by omega), uV_n (by have := hbl j hj; omega)]; exact h4 j hj q hq
  · rw [gUp_c, if_pos rfl, uV_s]
theorem Snap.copy {I J : Nat → Nat → Int32} {a b : Nat} {V : Nat → Nat} {C : Nat → Int32} (h : Snap I a V C) (hbl : ∀ j, j < 8 → bl V j ≤ 4) (e1 : ∀ i, i < 240 → J (b + 1) i = I (a + 1) i) (e2 : ∀ i, i < 240 → J (b + 2) i = I (a + 2) i) (e3 : ∀ i, i < 240 → J (b + 3) i = I (a + 3) i) (e4 : ∀ i, i < 8 → J (b + 4) i = I (a + 4) i) (e5 : ∀ i, i < 8 → J (b + 5) i = I (a + 5) i) (e6 : ∀ i, i < 8 → J (b + 6) i = I (a + 6) i) (e7 : ∀ i, i < 8 → J (b + 7) i = I (a + 7) i) (e8 : ∀ i, i < 8 → J (b + 8) i = I (a + 8) i) (e9 : ∀ i, i < 8 → J (b + 9) i = I (a + 9) i) (e10 : ∀ i, i < 8 → J (b + 10) i = I (a + 10) i) (e11 : ∀ i, i < 32 → J (b + 11) i = I (a + 11) i) (e0 : J b 11 = I a 11) : Snap J b V C := by
  obtain ⟨h1, h2, h3, h4, h5⟩ := h
  refine ⟨fun i hi => ?_, fun k hk => ?_, fun j hj => ?_, fun j hj q hq => ?_, ?_⟩
  · rw [e1 i hi, e2 i hi, e3 i hi]; exact h1 i hi
  · rw [e4 k hk]; exact h2 k hk
  · rw [e5 j hj, e6 j hj, e7 j hj, e8 j hj, e9 j hj, e10 j hj]; exact h3 j hj
  · rw [e11 _ (by have := hbl j hj; omega)]; exact h4 j hj q hq
  · rw [e0]; exact h5
theorem WF.bl4 {V : Nat → Nat} (h : WF V) : ∀ j, j < 8 → bl V j ≤ 4 := fun j hj => bl_le (h.1 j hj)
section
variable {G : gG} {d n : Nat} {I : Nat → Nat → Int32} {L : Nat → Nat → Int64} {D : Nat → Nat → UInt64} {V : Nat → Nat}
variable {C : Nat → Int32}
theorem m_X1_take_16_4 (hS : Snap I 4 V C) (hW : WF V) : gRv G YX1_takeOver d [.ref 16, .ref 4] n I L D (fun J => Snap J 16 V C ∧ Sm [16, 17, 18, 19, 20, 21, 22, 23, 24, 25, 26, 27] I J) := by
  refine g_aload_n (pc := 0) dX1_takeOver_0 rfl rfl ?_
  refine g_getR (pc := 1) dX1_takeOver_1 fl_X1_9 s_4 (by decide) rfl t_4_0 ?_
  refine g_iconst (v := nI 0) (pc := 4) dX1_takeOver_4 rfl ?_
  refine g_aload_n (pc := 5) dX1_takeOver_5 rfl rfl ?_
  refine g_getR (pc := 6) dX1_takeOver_6 fl_X1_9 s_16 (by decide) rfl t_16_0 ?_
  refine g_iconst (v := nI 0) (pc := 9) dX1_takeOver_9 rfl ?_
  refine g_sipush (v := nI 240) (pc := 10) dX1_takeOver_10 rfl ?_
  refine g_copyN (N := 240) (pc := 13) dX1_takeOver_13 lkc_X1 s_17 (by decide) s_5 (by decide) (by decide) (by decide) (by decide) (Nat.le_of_ble_eq_true rfl) ?_
  intro J1 u1 v1
  refine g_aload_n (pc := 16) dX1_takeOver_16 rfl rfl ?_
  refine g_getR (pc := 17) dX1_takeOver_17 fl_X1_15 s_4 (by decide) rfl t_4_1 ?_
  refine g_iconst (v := nI 0) (pc := 20) dX1_takeOver_20 rfl ?_
  refine g_aload_n (pc := 21) dX1_takeOver_21 rfl rfl ?_
  refine g_getR (pc := 22) dX1_takeOver_22 fl_X1_15 s_16 (by decide) rfl t_16_1 ?_
  refine g_iconst (v := nI 0) (pc := 25) dX1_takeOver_25 rfl ?_
  refine g_sipush (v := nI 240) (pc := 26) dX1_takeOver_26 rfl ?_
  refine g_copyN (N := 240) (pc := 29) dX1_takeOver_29 lkc_X1 s_18 (by decide) s_6 (by decide) (by decide) (by decide) (by decide) (Nat.le_of_ble_eq_true rfl) ?_
  intro J2 u2 v2
  refine g_aload_n (pc := 32) dX1_takeOver_32 rfl rfl ?_
  refine g_getR (pc := 33) dX1_takeOver_33 fl_X1_18 s_4 (by decide) rfl t_4_2 ?_
  refine g_iconst (v := nI 0) (pc := 36) dX1_takeOver_36 rfl ?_
  refine g_aload_n (pc := 37) dX1_takeOver_37 rfl rfl ?_
  refine g_getR (pc := 38) dX1_takeOver_38 fl_X1_18 s_16 (by decide) rfl t_16_2 ?_
  refine g_iconst (v := nI 0) (pc := 41) dX1_takeOver_41 rfl ?_
  refine g_sipush (v := nI 240) (pc := 42) dX1_takeOver_42 rfl ?_
  refine g_copyN (N := 240) (pc := 45) dX1_takeOver_45 lkc_X1 s_19 (by decide) s_7 (by decide) (by decide) (by decide) (by decide) (Nat.le_of_ble_eq_true rfl) ?_
  intro J3 u3 v3
  refine g_aload_n (pc := 48) dX1_takeOver_48 rfl rfl ?_
  refine g_getR (pc := 49) dX1_takeOver_49 fl_X1_21 s_4 (by decide) rfl t_4_3 ?_
  refine g_iconst (v := nI 0) (pc := 52) dX1_takeOver_52 rfl ?_
  refine g_aload_n (pc := 53) dX1_takeOver_53 rfl rfl ?_
  refine g_getR (pc := 54) dX1_takeOver_54 fl_X1_21 s_16 (by decide) rfl t_16_3 ?_
  refine g_iconst (v := nI 0) (pc := 57) dX1_takeOver_57 rfl ?_
  refine g_bipush (v := nI 8) (pc := 58) dX1_takeOver_58 rfl ?_
  refine g_copyN (N := 8) (pc := 60) dX1_takeOver_60 lkc_X1 s_20 (by decide) s_8 (by decide) (by decide) (by decide) (by decide) (Nat.le_of_ble_eq_true rfl) ?_
  intro J4 u4 v4
  refine g_aload_n (pc := 63) dX1_takeOver_63 rfl rfl ?_
  refine g_getR (pc := 64) dX1_takeOver_64 fl_X1_24 s_4 (by decide) rfl t_4_4 ?_
  refine g_iconst (v := nI 0) (pc := 67) dX1_takeOver_67 rfl ?_
  refine g_aload_n (pc := 68) dX1_takeOver_68 rfl rfl ?_
  refine g_getR (pc := 69) dX1_takeOver_69 fl_X1_24 s_16 (by decide) rfl t_16_4 ?_
  refine g_iconst (v := nI 0) (pc := 72) dX1_takeOver_72 rfl ?_
  refine g_bipush (v := nI 8) (pc := 73) dX1_takeOver_73 rfl ?_
  refine g_copyN (N := 8) (pc := 75) dX1_takeOver_75 lkc_X1 s_21 (by decide) s_9 (by decide) (by decide) (by decide) (by decide) (Nat.le_of_ble_eq_true rfl) ?_
  intro J5 u5 v5
  refine g_aload_n (pc := 78) dX1_takeOver_78 rfl rfl ?_
  refine g_getR (pc := 79) dX1_takeOver_79 fl_X1_27 s_4 (by decide) rfl t_4_5 ?_
  refine g_iconst (v := nI 0) (pc := 82) dX1_takeOver_82 rfl ?_
  refine g_aload_n (pc := 83) dX1_takeOver_83 rfl rfl ?_
  refine g_getR (pc := 84) dX1_takeOver_84 fl_X1_27 s_16 (by decide) rfl t_16_5 ?_
  refine g_iconst (v := nI 0) (pc := 87) dX1_takeOver_87 rfl ?_
  refine g_bipush (v := nI 8) (pc := 88) dX1_takeOver_88 rfl ?_
  refine g_copyN (N := 8) (pc := 90) dX1_takeOver_90 lkc_X1 s_22 (by decide) s_10 (by decide) (by decide) (by decide) (by decide) (Nat.le_of_ble_eq_true rfl) ?_
  intro J6 u6 v6
  refine g_aload_n (pc := 93) dX1_takeOver_93 rfl rfl ?_
  refine g_getR (pc := 94) dX1_takeOver_94 fl_X1_30 s_4 (by decide) rfl t_4_6 ?_
  refine g_iconst (v := nI 0) (pc := 97) dX1_takeOver_97 rfl ?_
  refine g_aload_n (pc := 98) dX1_takeOver_98 rfl rfl ?_
  refine g_getR (pc := 99) dX1_takeOver_99 fl_X1_30 s_16 (by decide) rfl t_16_6 ?_
  refine g_iconst (v := nI 0) (pc := 102) dX1_takeOver_102 rfl ?_
  refine g_bipush (v := nI 8) (pc := 103) dX1_takeOver_103 rfl ?_
  refine g_copyN (N := 8) (pc := 105) dX1_takeOver_105 lkc_X1 s_23 (by decide) s_11 (by decide) (by decide) (by decide) (by decide) (Nat.le_of_ble_eq_true rfl) ?_
  intro J7 u7 v7
  refine g_aload_n (pc := 108) dX1_takeOver_108 rfl rfl ?_
  refine g_getR (pc := 109) dX1_takeOver_109 fl_X1_33 s_4 (by decide) rfl t_4_7 ?_
  refine g_iconst (v := nI 0) (pc := 112) dX1_takeOver_112 rfl ?_
  refine g_aload_n (pc := 113) dX1_takeOver_113 rfl rfl ?_
  refine g_getR (pc := 114) dX1_takeOver_114 fl_X1_33 s_16 (by decide) rfl t_16_7 ?_
  refine g_iconst (v := nI 0) (pc := 117) dX1_takeOver_117 rfl ?_
  refine g_bipush (v := nI 8) (pc := 118) dX1_takeOver_118 rfl ?_
  refine g_copyN (N := 8) (pc := 120) dX1_takeOver_120 lkc_X1 s_24 (by decide) s_12 (by decide) (by decide) (by decide) (by decide) (Nat.le_of_ble_eq_true rfl) ?_
  intro J8 u8 v8
  refine g_aload_n (pc := 123) dX1_takeOver_123 rfl rfl ?_
  refine g_getR (pc := 124) dX1_takeOver_124 fl_X1_36 s_4 (by decide) rfl t_4_8 ?_
  refine g_iconst (v := nI 0) (pc := 127) dX1_takeOver_127 rfl ?_
  refine g_aload_n (pc := 128) dX1_takeOver_128 rfl rfl ?_
  refine g_getR (pc := 129) dX1_takeOver_129 fl_X1_36 s_16 (by decide) rfl t_16_8 ?_
  refine g_iconst (v := nI 0) (pc := 132) dX1_takeOver_132 rfl ?_
  refine g_bipush (v := nI 8) (pc := 133) dX1_takeOver_133 rfl ?_
  refine g_copyN (N := 8) (pc := 135) dX1_takeOver_135 lkc_X1 s_25 (by decide) s_13 (by decide) (by decide) (by decide) (by decide) (Nat.le_of_ble_eq_true rfl) ?_
  intro J9 u9 v9
  refine g_aload_n (pc := 138) dX1_takeOver_138 rfl rfl ?_
  refine g_getR (pc := 139) dX1_takeOver_139 fl_X1_39 s_4 (by decide) rfl t_4_9 ?_
  refine g_iconst (v := nI 0) (pc := 142) dX1_takeOver_142 rfl ?_
  refine g_aload_n (pc := 143) dX1_takeOver_143 rfl rfl ?_
  refine g_getR (pc := 144) dX1_takeOver_144 fl_X1_39 s_16 (by decide) rfl t_16_9 ?_
  refine g_iconst (v := nI 0) (pc := 147) dX1_takeOver_147 rfl ?_
  refine g_bipush (v := nI 8) (pc := 148) dX1_takeOver_148 rfl ?_
  refine g_copyN (N := 8) (pc := 150) dX1_takeOver_150 lkc_X1 s_26 (by decide) s_14 (by decide) (by decide) (by decide) (by decide) (Nat.le_of_ble_eq_true rfl) ?_
  intro J10 u10 v10
  refine g_aload_n (pc := 153) dX1_takeOver_153 rfl rfl ?_
  refine g_getR (pc := 154) dX1_takeOver_154 fl_X1_42 s_4 (by decide) rfl t_4_10 ?_
  refine g_iconst (v := nI 0) (pc := 157) dX1_takeOver_157 rfl ?_
  refine g_aload_n (pc := 158) dX1_takeOver_158 rfl rfl ?_
  refine g_getR (pc := 159) dX1_takeOver_159 fl_X1_42 s_16 (by decide) rfl t_16_10 ?_
  refine g_iconst (v := nI 0) (pc := 162) dX1_takeOver_162 rfl ?_
  refine g_bipush (v := nI 32) (pc := 163) dX1_takeOver_163 rfl ?_
  refine g_copyN (N := 32) (pc := 165) dX1_takeOver_165 lkc_X1 s_27 (by decide) s_15 (by decide) (by decide) (by decide) (by decide) (Nat.le_of_ble_eq_true rfl) ?_
  intro J11 u11 v11
  refine g_aload_n (pc := 168) dX1_takeOver_168 rfl rfl ?_
  refine g_aload_n (pc := 169) dX1_takeOver_169 rfl rfl ?_
  refine g_getI (pc := 170) dX1_takeOver_170 fl_X1_45 s_4 (by decide) rfl ?_
  refine g_putI (pc := 173) dX1_takeOver_173 fl_X1_45 s_16 (by decide) rfl rfl rfl rfl ?_
  refine g_vret (pc := 176) dX1_takeOver_176 rfl ?_
  refine ⟨_, ⟨rfl, rfl⟩, ?_⟩
  refine ⟨hS.copy hW.bl4 (fun x hx => by rw [gUp_ne (by decide), u11 17 (by decide), u10 17 (by decide), u9 17 (by decide), u8 17 (by decide), u7 17 (by decide), u6 17 (by decide), u5 17 (by decide), u4 17 (by decide), u3 17 (by decide), u2 17 (by decide), v1 x hx]) (fun x hx => by rw [gUp_ne (by decide), u11 18 (by decide), u10 18 (by decide), u9 18 (by decide), u8 18 (by decide), u7 18 (by decide), u6 18 (by decide), u5 18 (by decide), u4 18 (by decide), u3 18 (by decide), v2 x hx, u1 6 (by decide)]) (fun x hx => by rw [gUp_ne (by decide), u11 19 (by decide), u10 19 (by decide), u9 19 (by decide), u8 19 (by decide), u7 19 (by decide), u6 19 (by decide), u5 19 (by decide), u4 19 (by decide), v3 x hx, u2 7 (by decide), u1 7 (by decide)]) (fun x hx => by rw [gUp_ne (by decide), u11 20 (by decide), u10 20 (by decide), u9 20 (by decide), u8 20 (by decide), u7 20 (by decide), u6 20 (by decide), u5 20 (by decide), v4 x hx, u3 8 (by decide), u2 8 (by decide), u1 8 (by decide)]) (fun x hx => by rw [gUp_ne (by decide), u11 21 (by decide), u10 21 (by decide), u9 21 (by decide), u8 21 (by decide), u7 21 (by decide), u6 21 (by decide), v5 x hx, u4 9 (by decide), u3 9 (by decide), u2 9 (by decide), u1 9 (by decide)]) (fun x hx => by rw [gUp_ne (by decide), u11 22 (by decide), u10 22 (by decide), u9 22 (by decide), u8 22 (by decide), u7 22 (by decide), v6 x hx, u5 10 (by decide), u4 10 (by decide), u3 10 (by decide), u2 10 (by decide), u1 10 (by decide)]) (fun x hx => by rw [gUp_ne (by decide), u11 23 (by decide), u10 23 (by decide), u9 23 (by decide), u8 23 (by decide), v7 x hx, u6 11 (by decide), u5 11 (by decide), u4 11 (by decide), u3 11 (by decide), u2 11 (by decide), u1 11 (by decide)]) (fun x hx => by rw [gUp_ne (by decide), u11 24 (by decide), u10 24 (by decide), u9 24 (by decide), v8 x hx, u7 12 (by decide), u6 12 (by decide), u5 12 (by decide), u4 12 (by decide), u3 12 (by decide), u2 12 (by decide), u1 12 (by decide)]) (fun x hx => by rw [gUp_ne (by decide), u11 25 (by decide), u10 25 (by decide), v9 x hx, u8 13 (by decide), u7 13 (by decide), u6 13 (by decide), u5 13 (by decide), u4 13 (by decide), u3 13 (by decide), u2 13 (by decide), u1 13 (by decide)]) (fun x hx => by rw [gUp_ne (by decide), u11 26 (by decide), v10 x hx, u9 14 (by decide), u8 14 (by decide), u7 14 (by decide), u6 14 (by decide), u5 14 (by decide), u4 14 (by decide), u3 14 (by decide), u2 14 (by decide), u1 14 (by decide)]) (fun x hx => by rw [gUp_ne (by decide), v11 x hx, u10 15 (by decide), u9 15 (by decide), u8 15 (by decide), u7 15 (by decide), u6 15 (by decide), u5 15 (by decide), u4 15 (by decide), u3 15 (by decide), u2 15 (by decide), u1 15 (by decide)]) ?_, ?_⟩
  · rw [gUp_c, if_pos rfl, u11 4 (by decide), u10 4 (by decide), u9 4 (by decide), u8 4 (by decide), u7 4 (by decide), u6 4 (by decide), u5 4 (by decide), u4 4 (by decide), u3 4 (by decide), u2 4 (by decide), u1 4 (by decide)]
  · exact Sm.up (by decide) (Sm.trans (Sm.trans (Sm.trans (Sm.trans (Sm.trans (Sm.trans (Sm.trans (Sm.trans (Sm.trans (Sm.trans (u1.mono (by decide)) (u2.mono (by decide))) (u3.mono (by decide))) (u4.mono (by decide))) (u5.mono (by decide))) (u6.mono (by decide))) (u7.mono (by decide))) (u8.mono (by decide))) (u9.mono (by decide))) (u10.mono (by decide))) (u11.mono (by decide)))
theorem m_X1_take_4_16 (hS : Snap I 16 V C) (hW : WF V) : gRv G YX1_takeOver d [.ref 4, .ref 16] n I L D (fun J => Snap J 4 V C ∧ Sm [4, 5, 6, 7, 8, 9, 10, 11, 12, 13, 14, 15] I J) := by
  refine g_aload_n (pc := 0) dX1_takeOver_0 rfl rfl ?_
  refine g_getR (pc := 1) dX1_takeOver_1 fl_X1_9 s_16 (by decide) rfl t_16_0 ?_
  refine g_iconst (v := nI 0) (pc := 4) dX1_takeOver_4 rfl ?_
  refine g_aload_n (pc := 5) dX1_takeOver_5 rfl rfl ?_
  refine g_getR (pc := 6) dX1_takeOver_6 fl_X1_9 s_4 (by decide) rfl t_4_0 ?_
  refine g_iconst (v := nI 0) (pc := 9) dX1_takeOver_9 rfl ?_
  refine g_sipush (v := nI 240) (pc := 10) dX1_takeOver_10 rfl ?_
  refine g_copyN (N := 240) (pc := 13) dX1_takeOver_13 lkc_X1 s_5 (by decide) s_17 (by decide) (by decide) (by decide) (by decide) (Nat.le_of_ble_eq_true rfl) ?_
  intro J1 u1 v1
  refine g_aload_n (pc := 16) dX1_takeOver_16 rfl rfl ?_
  refine g_getR (pc := 17) dX1_takeOver_17 fl_X1_15 s_16 (by decide) rfl t_16_1 ?_
  refine g_iconst (v := nI 0) (pc := 20) dX1_takeOver_20 rfl ?_
  refine g_aload_n (pc := 21) dX1_takeOver_21 rfl rfl ?_
  refine g_getR (pc := 22) dX1_takeOver_22 fl_X1_15 s_4 (by decide) rfl t_4_1 ?_
  refine g_iconst (v := nI 0) (pc := 25) dX1_takeOver_25 rfl ?_
  refine g_sipush (v := nI 240) (pc := 26) dX1_takeOver_26 rfl ?_
  refine g_copyN (N := 240) (pc := 29) dX1_takeOver_29 lkc_X1 s_6 (by decide) s_18 (by decide) (by decide) (by decide) (by decide) (Nat.le_of_ble_eq_true rfl) ?_
  intro J2 u2 v2
  refine g_aload_n (pc := 32) dX1_takeOver_32 rfl rfl ?_
  refine g_getR (pc := 33) dX1_takeOver_33 fl_X1_18 s_16 (by decide) rfl t_16_2 ?_
  refine g_iconst (v := nI 0) (pc := 36) dX1_takeOver_36 rfl ?_
  refine g_aload_n (pc := 37) dX1_takeOver_37 rfl rfl ?_
  refine g_getR (pc := 38) dX1_takeOver_38 fl_X1_18 s_4 (by decide) rfl t_4_2 ?_
  refine g_iconst (v := nI 0) (pc := 41) dX1_takeOver_41 rfl ?_
  refine g_sipush (v := nI 240) (pc := 42) dX1_takeOver_42 rfl ?_
  refine g_copyN (N := 240) (pc := 45) dX1_takeOver_45 lkc_X1 s_7 (by decide) s_19 (by decide) (by decide) (by decide) (by decide) (Nat.le_of_ble_eq_true rfl) ?_
  intro J3 u3 v3
  refine g_aload_n (pc := 48) dX1_takeOver_48 rfl rfl ?_
  refine g_getR (pc := 49) dX1_takeOver_49 fl_X1_21 s_16 (by decide) rfl t_16_3 ?_
  refine g_iconst (v := nI 0) (pc := 52) dX1_takeOver_52 rfl ?_
  refine g_aload_n (pc := 53) dX1_takeOver_53 rfl rfl ?_
  refine g_getR (pc := 54) dX1_takeOver_54 fl_X1_21 s_4 (by decide) rfl t_4_3 ?_
  refine g_iconst (v := nI 0) (pc := 57) dX1_takeOver_57 rfl ?_
  refine g_bipush (v := nI 8) (pc := 58) dX1_takeOver_58 rfl ?_
  refine g_copyN (N := 8) (pc := 60) dX1_takeOver_60 lkc_X1 s_8 (by decide) s_20 (by decide) (by decide) (by decide) (by decide) (Nat.le_of_ble_eq_true rfl) ?_
  intro J4 u4 v4
  refine g_aload_n (pc := 63) dX1_takeOver_63 rfl rfl ?_
  refine g_getR (pc := 64) dX1_takeOver_64 fl_X1_24 s_16 (by decide) rfl t_16_4 ?_
  refine g_iconst (v := nI 0) (pc := 67) dX1_takeOver_67 rfl ?_
  refine g_aload_n (pc := 68) dX1_takeOver_68 rfl rfl ?_
  refine g_getR (pc := 69) dX1_takeOver_69 fl_X1_24 s_4 (by decide) rfl t_4_4 ?_
  refine g_iconst (v := nI 0) (pc := 72) dX1_takeOver_72 rfl ?_
  refine g_bipush (v := nI 8) (pc := 73) dX1_takeOver_73 rfl ?_
  refine g_copyN (N := 8) (pc := 75) dX1_takeOver_75 lkc_X1 s_9 (by decide) s_21 (by decide) (by decide) (by decide) (by decide) (Nat.le_of_ble_eq_true rfl) ?_
  intro J5 u5 v5
  refine g_aload_n (pc := 78) dX1_takeOver_78 rfl rfl ?_
  refine g_getR (pc := 79) dX1_takeOver_79 fl_X1_27 s_16 (by decide) rfl t_16_5 ?_
  refine g_iconst (v := nI 0) (pc := 82) dX1_takeOver_82 rfl ?_
  refine g_aload_n (pc := 83) dX1_takeOver_83 rfl rfl ?_
  refine g_getR (pc := 84) dX1_takeOver_84 fl_X1_27 s_4 (by decide) rfl t_4_5 ?_
  refine g_iconst (v := nI 0) (pc := 87) dX1_takeOver_87 rfl ?_
  refine g_bipush (v := nI 8) (pc := 88) dX1_takeOver_88 rfl ?_
  refine g_copyN (N := 8) (pc := 90) dX1_takeOver_90 lkc_X1 s_10 (by decide) s_22 (by decide) (by decide) (by decide) (by decide) (Nat.le_of_ble_eq_true rfl) ?_
  intro J6 u6 v6
  refine g_aload_n (pc := 93) dX1_takeOver_93 rfl rfl ?_
  refine g_getR (pc := 94) dX1_takeOver_94 fl_X1_30 s_16 (by decide) rfl t_16_6 ?_
  refine g_iconst (v := nI 0) (pc := 97) dX1_takeOver_97 rfl ?_
  refine g_aload_n (pc := 98) dX1_takeOver_98 rfl rfl ?_
  refine g_getR (pc := 99) dX1_takeOver_99 fl_X1_30 s_4 (by decide) rfl t_4_6 ?_
  refine g_iconst (v := nI 0) (pc := 102) dX1_takeOver_102 rfl ?_
  refine g_bipush (v := nI 8) (pc := 103) dX1_takeOver_103 rfl ?_
  refine g_copyN (N := 8) (pc := 105) dX1_takeOver_105 lkc_X1 s_11 (by decide) s_23 (by decide) (by decide) (by decide) (by decide) (Nat.le_of_ble_eq_true rfl) ?_
  intro J7 u7 v7
  refine g_aload_n (pc := 108) dX1_takeOver_108 rfl rfl ?_
  refine g_getR (pc := 109) dX1_takeOver_109 fl_X1_33 s_16 (by decide) rfl t_16_7 ?_
  refine g_iconst (v := nI 0) (pc := 112) dX1_takeOver_112 rfl ?_
  refine g_aload_n (pc := 113) dX1_takeOver_113 rfl rfl ?_
  refine g_getR (pc := 114) dX1_takeOver_114 fl_X1_33 s_4 (by decide) rfl t_4_7 ?_
  refine g_iconst (v := nI 0) (pc := 117) dX1_takeOver_117 rfl ?_
  refine g_bipush (v := nI 8) (pc := 118) dX1_takeOver_118 rfl ?_
  refine g_copyN (N := 8) (pc := 120) dX1_takeOver_120 lkc_X1 s_12 (by decide) s_24 (by decide) (by decide) (by decide) (by decide) (Nat.le_of_ble_eq_true rfl) ?_
  intro J8 u8 v8
  refine g_aload_n (pc := 123) dX1_takeOver_123 rfl rfl ?_
  refine g_getR (pc := 124) dX1_takeOver_124 fl_X1_36 s_16 (by decide) rfl t_16_8 ?_
  refine g_iconst (v := nI 0) (pc := 127) dX1_takeOver_127 rfl ?_
  refine g_aload_n (pc := 128) dX1_takeOver_128 rfl rfl ?_
  refine g_getR (pc := 129) dX1_takeOver_129 fl_X1_36 s_4 (by decide) rfl t_4_8 ?_
  refine g_iconst (v := nI 0) (pc := 132) dX1_takeOver_132 rfl ?_
  refine g_bipush (v := nI 8) (pc := 133) dX1_takeOver_133 rfl ?_
  refine g_copyN (N := 8) (pc := 135) dX1_takeOver_135 lkc_X1 s_13 (by decide) s_25 (by decide) (by decide) (by decide) (by decide) (Nat.le_of_ble_eq_true rfl) ?_
  intro J9 u9 v9
  refine g_aload_n (pc := 138) dX1_takeOver_138 rfl rfl ?_
  refine g_getR (pc := 139) dX1_takeOver_139 fl_X1_39 s_16 (by decide) rfl t_16_9 ?_
  refine g_iconst (v := nI 0) (pc := 142) dX1_takeOver_142 rfl ?_
  refine g_aload_n (pc := 143) dX1_takeOver_143 rfl rfl ?_
  refine g_getR (pc := 144) dX1_takeOver_144 fl_X1_39 s_4 (by decide) rfl t_4_9 ?_
  refine g_iconst (v := nI 0) (pc := 147) dX1_takeOver_147 rfl ?_
  refine g_bipush (v := nI 8) (pc := 148) dX1_takeOver_148 rfl ?_
  refine g_copyN (N := 8) (pc := 150) dX1_takeOver_150 lkc_X1 s_14 (by decide) s_26 (by decide) (by decide) (by decide) (by decide) (Nat.le_of_ble_eq_true rfl) ?_
  intro J10 u10 v10
  refine g_aload_n (pc := 153) dX1_takeOver_153 rfl rfl ?_
  refine g_getR (pc := 154) dX1_takeOver_154 fl_X1_42 s_16 (by decide) rfl t_16_10 ?_
  refine g_iconst (v := nI 0) (pc := 157) dX1_takeOver_157 rfl ?_
  refine g_aload_n (pc := 158) dX1_takeOver_158 rfl rfl ?_
  refine g_getR (pc := 159) dX1_takeOver_159 fl_X1_42 s_4 (by decide) rfl t_4_10 ?_
  refine g_iconst (v := nI 0) (pc := 162) dX1_takeOver_162 rfl ?_
  refine g_bipush (v := nI 32) (pc := 163) dX1_takeOver_163 rfl ?_
  refine g_copyN (N := 32) (pc := 165) dX1_takeOver_165 lkc_X1 s_15 (by decide) s_27 (by decide) (by decide) (by decide) (by decide) (Nat.le_of_ble_eq_true rfl) ?_
  intro J11 u11 v11
  refine g_aload_n (pc := 168) dX1_takeOver_168 rfl rfl ?_
  refine g_aload_n (pc := 169) dX1_takeOver_169 rfl rfl ?_
  refine g_getI (pc := 170) dX1_takeOver_170 fl_X1_45 s_16 (by decide) rfl ?_
  refine g_putI (pc := 173) dX1_takeOver_173 fl_X1_45 s_4 (by decide) rfl rfl rfl rfl ?_
  refine g_vret (pc := 176) dX1_takeOver_176 rfl ?_
  refine ⟨_, ⟨rfl, rfl⟩, ?_⟩
  refine ⟨hS.copy hW.bl4 (fun x hx => by rw [gUp_ne (by decide), u11 5 (by decide), u10 5 (by decide), u9 5 (by decide), u8 5 (by decide), u7 5 (by decide), u6 5 (by decide), u5 5 (by decide), u4 5 (by decide), u3 5 (by decide), u2 5 (by decide), v1 x hx]) (fun x hx => by rw [gUp_ne (by decide), u11 6 (by decide), u10 6 (by decide), u9 6 (by decide), u8 6 (by decide), u7 6 (by decide), u6 6 (by decide), u5 6 (by decide), u4 6 (by decide), u3 6 (by decide), v2 x hx, u1 18 (by decide)]) (fun x hx => by rw [gUp_ne (by decide), u11 7 (by decide), u10 7 (by decide), u9 7 (by decide), u8 7 (by decide), u7 7 (by decide), u6 7 (by decide), u5 7 (by decide), u4 7 (by decide), v3 x hx, u2 19 (by decide), u1 19 (by decide)]) (fun x hx => by rw [gUp_ne (by decide), u11 8 (by decide), u10 8 (by decide), u9 8 (by decide), u8 8 (by decide), u7 8 (by decide), u6 8 (by decide), u5 8 (by decide), v4 x hx, u3 20 (by decide), u2 20 (by decide), u1 20 (by decide)]) (fun x hx => by rw [gUp_ne (by decide), u11 9 (by decide), u10 9 (by decide), u9 9 (by decide), u8 9 (by decide), u7 9 (by decide), u6 9 (by decide), v5 x hx, u4 21 (by decide), u3 21 (by decide), u2 21 (by decide), u1 21 (by decide)]) (fun x hx => by rw [gUp_ne (by decide), u11 10 (by decide), u10 10 (by decide), u9 10 (by decide), u8 10 (by decide), u7 10 (by decide), v6 x hx, u5 22 (by decide), u4 22 (by decide), u3 22 (by decide), u2 22 (by decide), u1 22 (by decide)]) (fun x hx => by rw [gUp_ne (by decide), u11 11 (by decide), u10 11 (by decide), u9 11 (by decide), u8 11 (by decide), v7 x hx, u6 23 (by decide), u5 23 (by decide), u4 23 (by decide), u3 23 (by decide), u2 23 (by decide), u1 23 (by decide)]) (fun x hx => by rw [gUp_ne (by decide), u11 12 (by decide), u10 12 (by decide), u9 12 (by decide), v8 x hx, u7 24 (by decide), u6 24 (by decide), u5 24 (by decide), u4 24 (by decide), u3 24 (by decide), u2 24 (by decide), u1 24 (by decide)]) (fun x hx => by rw [gUp_ne (by decide), u11 13 (by decide), u10 13 (by decide), v9 x hx, u8 25 (by decide), u7 25 (by decide), u6 25 (by decide), u5 25 (by decide), u4 25 (by decide), u3 25 (by decide), u2 25 (by decide), u1 25 (by decide)]) (fun x hx => by rw [gUp_ne (by decide), u11 14 (by decide), v10 x hx, u9 26 (by decide), u8 26 (by decide), u7 26 (by decide), u6 26 (by decide), u5 26 (by decide), u4 26 (by decide), u3 26 (by decide), u2 26 (by decide), u1 26 (by decide)]) (fun x hx => by rw [gUp_ne (by decide), v11 x hx, u10 27 (by decide), u9 27 (by decide), u8 27 (by decide), u7 27 (by decide), u6 27 (by decide), u5 27 (by decide), u4 27 (by decide), u3 27 (by decide), u2 27 (by decide), u1 27 (by decide)]) ?_, ?_⟩
  · rw [gUp_c, if_pos rfl, u11 16 (by decide), u10 16 (by decide), u9 16 (by decide), u8 16 (by decide), u7 16 (by decide), u6 16 (by decide), u5 16 (by decide), u4 16 (by decide), u3 16 (by decide), u2 16 (by decide), u1 16 (by decide)]
  · exact Sm.up (by decide) (Sm.trans (Sm.trans (Sm.trans (Sm.trans (Sm.trans (Sm.trans (Sm.trans (Sm.trans (Sm.trans (Sm.trans (u1.mono (by decide)) (u2.mono (by decide))) (u3.mono (by decide))) (u4.mono (by decide))) (u5.mono (by decide))) (u6.mono (by decide))) (u7.mono (by decide))) (u8.mono (by decide))) (u9.mono (by decide))) (u10.mono (by decide))) (u11.mono (by decide)))
theorem m_X1_take_42_4 (hS : Snap I 4 V C) (hW : WF V) : gRv G YX1_takeOver d [.ref 42, .ref 4] n I L D (fun J => Snap J 42 V C ∧ Sm [42, 43, 44, 45, 46, 47, 48, 49, 50, 51, 52, 53] I J) := by
  refine g_aload_n (pc := 0) dX1_takeOver_0 rfl rfl ?_
  refine g_getR (pc := 1) dX1_takeOver_1 fl_X1_9 s_4 (by decide) rfl t_4_0 ?_
  refine g_iconst (v := nI 0) (pc := 4) dX1_takeOver_4 rfl ?_
  refine g_aload_n (pc := 5) dX1_takeOver_5 rfl rfl ?_
  refine g_getR (pc := 6) dX1_takeOver_6 fl_X1_9 s_42 (by decide) rfl t_42_0 ?_
  refine g_iconst (v := nI 0) (pc := 9) dX1_takeOver_9 rfl ?_
  refine g_sipush (v := nI 240) (pc := 10) dX1_takeOver_10 rfl ?_
  refine g_copyN (N := 240) (pc := 13) dX1_takeOver_13 lkc_X1 s_43 (by decide) s_5 (by decide) (by decide) (by decide) (by decide) (Nat.le_of_ble_eq_true rfl) ?_
  intro J1 u1 v1
  refine g_aload_n (pc := 16) dX1_takeOver_16 rfl rfl ?_
  refine g_getR (pc := 17) dX1_takeOver_17 fl_X1_15 s_4 (by decide) rfl t_4_1 ?_
  refine g_iconst (v := nI 0) (pc := 20) dX1_takeOver_20 rfl ?_
  refine g_aload_n (pc := 21) dX1_takeOver_21 rfl rfl ?_
  refine g_getR (pc := 22) dX1_takeOver_22 fl_X1_15 s_42 (by decide) rfl t_42_1 ?_
  refine g_iconst (v := nI 0) (pc := 25) dX1_takeOver_25 rfl ?_
  refine g_sipush (v := nI 240) (pc := 26) dX1_takeOver_26 rfl ?_
  refine g_copyN (N := 240) (pc := 29) dX1_takeOver_29 lkc_X1 s_44 (by decide) s_6 (by decide) (by decide) (by decide) (by decide) (Nat.le_of_ble_eq_true rfl) ?_
  intro J2 u2 v2
  refine g_aload_n (pc := 32) dX1_takeOver_32 rfl rfl ?_
  refine g_getR (pc := 33) dX1_takeOver_33 fl_X1_18 s_4 (by decide) rfl t_4_2 ?_
  refine g_iconst (v := nI 0) (pc := 36) dX1_takeOver_36 rfl ?_
  refine g_aload_n (pc := 37) dX1_takeOver_37 rfl rfl ?_
  refine g_getR (pc := 38) dX1_takeOver_38 fl_X1_18 s_42 (by decide) rfl t_42_2 ?_
  refine g_iconst (v := nI 0) (pc := 41) dX1_takeOver_41 rfl ?_
  refine g_sipush (v := nI 240) (pc := 42) dX1_takeOver_42 rfl ?_
  refine g_copyN (N := 240) (pc := 45) dX1_takeOver_45 lkc_X1 s_45 (by decide) s_7 (by decide) (by decide) (by decide) (by decide) (Nat.le_of_ble_eq_true rfl) ?_
  intro J3 u3 v3
  refine g_aload_n (pc := 48) dX1_takeOver_48 rfl rfl ?_
  refine g_getR (pc := 49) dX1_takeOver_49 fl_X1_21 s_4 (by decide) rfl t_4_3 ?_
  refine g_iconst (v := nI 0) (pc := 52) dX1_takeOver_52 rfl ?_
  refine g_aload_n (pc := 53) dX1_takeOver_53 rfl rfl ?_
  refine g_getR (pc := 54) dX1_takeOver_54 fl_X1_21 s_42 (by decide) rfl t_42_3 ?_
  refine g_iconst (v := nI 0) (pc := 57) dX1_takeOver_57 rfl ?_
  refine g_bipush (v := nI 8) (pc := 58) dX1_takeOver_58 rfl ?_
  refine g_copyN (N := 8) (pc := 60) dX1_takeOver_60 lkc_X1 s_46 (by decide) s_8 (by decide) (by decide) (by decide) (by decide) (Nat.le_of_ble_eq_true rfl) ?_
  intro J4 u4 v4
  refine g_aload_n (pc := 63) dX1_takeOver_63 rfl rfl ?_
  refine g_getR (pc := 64) dX1_takeOver_64 fl_X1_24 s_4 (by decide) rfl t_4_4 ?_
  refine g_iconst (v := nI 0) (pc := 67) dX1_takeOver_67 rfl ?_
  refine g_aload_n (pc := 68) dX1_takeOver_68 rfl rfl ?_
  refine g_getR (pc := 69) dX1_takeOver_69 fl_X1_24 s_42 (by decide) rfl t_42_4 ?_
  refine g_iconst (v := nI 0) (pc := 72) dX1_takeOver_72 rfl ?_
  refine g_bipush (v := nI 8) (pc := 73) dX1_takeOver_73 rfl ?_
  refine g_copyN (N := 8) (pc := 75) dX1_takeOver_75 lkc_X1 s_47 (by decide) s_9 (by decide) (by decide) (by decide) (by decide) (Nat.le_of_ble_eq_true rfl) ?_
  intro J5 u5 v5
  refine g_aload_n (pc := 78) dX1_takeOver_78 rfl rfl ?_
  refine g_getR (pc := 79) dX1_takeOver_79 fl_X1_27 s_4 (by decide) rfl t_4_5 ?_
  refine g_iconst (v := nI 0) (pc := 82) dX1_takeOver_82 rfl ?_
  refine g_aload_n (pc := 83) dX1_takeOver_83 rfl rfl ?_
  refine g_getR (pc := 84) dX1_takeOver_84 fl_X1_27 s_42 (by decide) rfl t_42_5 ?_
  refine g_iconst (v := nI 0) (pc := 87) dX1_takeOver_87 rfl ?_
  refine g_bipush (v := nI 8) (pc := 88) dX1_takeOver_88 rfl ?_
  refine g_copyN (N := 8) (pc := 90) dX1_takeOver_90 lkc_X1 s_48 (by decide) s_10 (by decide) (by decide) (by decide) (by decide) (Nat.le_of_ble_eq_true rfl) ?_
  intro J6 u6 v6
  refine g_aload_n (pc := 93) dX1_takeOver_93 rfl rfl ?_
  refine g_getR (pc := 94) dX1_takeOver_94 fl_X1_30 s_4 (by decide) rfl t_4_6 ?_
  refine g_iconst (v := nI 0) (pc := 97) dX1_takeOver_97 rfl ?_
  refine g_aload_n (pc := 98) dX1_takeOver_98 rfl rfl ?_
  refine g_getR (pc := 99) dX1_takeOver_99 fl_X1_30 s_42 (by decide) rfl t_42_6 ?_
  refine g_iconst (v := nI 0) (pc := 102) dX1_takeOver_102 rfl ?_
  refine g_bipush (v := nI 8) (pc := 103) dX1_takeOver_103 rfl ?_
  refine g_copyN (N := 8) (pc := 105) dX1_takeOver_105 lkc_X1 s_49 (by decide) s_11 (by decide) (by decide) (by decide) (by decide) (Nat.le_of_ble_eq_true rfl) ?_
  intro J7 u7 v7
  refine g_aload_n (pc := 108) dX1_takeOver_108 rfl rfl ?_
  refine g_getR (pc := 109) dX1_takeOver_109 fl_X1_33 s_4 (by decide) rfl t_4_7 ?_
  refine g_iconst (v := nI 0) (pc := 112) dX1_takeOver_112 rfl ?_
  refine g_aload_n (pc := 113) dX1_takeOver_113 rfl rfl ?_
  refine g_getR (pc := 114) dX1_takeOver_114 fl_X1_33 s_42 (by decide) rfl t_42_7 ?_
  refine g_iconst (v := nI 0) (pc := 117) dX1_takeOver_117 rfl ?_
  refine g_bipush (v := nI 8) (pc := 118) dX1_takeOver_118 rfl ?_
  refine g_copyN (N := 8) (pc := 120) dX1_takeOver_120 lkc_X1 s_50 (by decide) s_12 (by decide) (by decide) (by decide) (by decide) (Nat.le_of_ble_eq_true rfl) ?_
  intro J8 u8 v8
  refine g_aload_n (pc := 123) dX1_takeOver_123 rfl rfl ?_
  refine g_getR (pc := 124) dX1_takeOver_124 fl_X1_36 s_4 (by decide) rfl t_4_8 ?_
  refine g_iconst (v := nI 0) (pc := 127) dX1_takeOver_127 rfl ?_
  refine g_aload_n (pc := 128) dX1_takeOver_128 rfl rfl ?_
  refine g_getR (pc := 129) dX1_takeOver_129 fl_X1_36 s_42 (by decide) rfl t_42_8 ?_
  refine g_iconst (v := nI 0) (pc := 132) dX1_takeOver_132 rfl ?_
  refine g_bipush (v := nI 8) (pc := 133) dX1_takeOver_133 rfl ?_
  refine g_copyN (N := 8) (pc := 135) dX1_takeOver_135 lkc_X1 s_51 (by decide) s_13 (by decide) (by decide) (by decide) (by decide) (Nat.le_of_ble_eq_true rfl) ?_
  intro J9 u9 v9
  refine g_aload_n (pc := 138) dX1_takeOver_138 rfl rfl ?_
  refine g_getR (pc := 139) dX1_takeOver_139 fl_X1_39 s_4 (by decide) rfl t_4_9 ?_
  refine g_iconst (v := nI 0) (pc := 142) dX1_takeOver_142 rfl ?_
  refine g_aload_n (pc := 143) dX1_takeOver_143 rfl rfl ?_
  refine g_getR (pc := 144) dX1_takeOver_144 fl_X1_39 s_42 (by decide) rfl t_42_9 ?_
  refine g_iconst (v := nI 0) (pc := 147) dX1_takeOver_147 rfl ?_
  refine g_bipush (v := nI 8) (pc := 148) dX1_takeOver_148 rfl ?_
  refine g_copyN (N := 8) (pc := 150) dX1_takeOver_150 lkc_X1 s_52 (by decide) s_14 (by decide) (by decide) (by decide) (by decide) (Nat.le_of_ble_eq_true rfl) ?_
  intro J10 u10 v10
  refine g_aload_n (pc := 153) dX1_takeOver_153 rfl rfl ?_
  refine g_getR (pc := 154) dX1_takeOver_154 fl_X1_42 s_4 (by decide) rfl t_4_10 ?_
  refine g_iconst (v := nI 0) (pc := 157) dX1_takeOver_157 rfl ?_
  refine g_aload_n (pc := 158) dX1_takeOver_158 rfl rfl ?_
  refine g_getR (pc := 159) dX1_takeOver_159 fl_X1_42 s_42 (by decide) rfl t_42_10 ?_
  refine g_iconst (v := nI 0) (pc := 162) dX1_takeOver_162 rfl ?_
  refine g_bipush (v := nI 32) (pc := 163) dX1_takeOver_163 rfl ?_
  refine g_copyN (N := 32) (pc := 165) dX1_takeOver_165 lkc_X1 s_53 (by decide) s_15 (by decide) (by decide) (by decide) (by decide) (Nat.le_of_ble_eq_true rfl) ?_
  intro J11 u11 v11
  refine g_aload_n (pc := 168) dX1_takeOver_168 rfl rfl ?_
  refine g_aload_n (pc := 169) dX1_takeOver_169 rfl rfl ?_
  refine g_getI (pc := 170) dX1_takeOver_170 fl_X1_45 s_4 (by decide) rfl ?_
  refine g_putI (pc := 173) dX1_takeOver_173 fl_X1_45 s_42 (by decide) rfl rfl rfl rfl ?_
  refine g_vret (pc := 176) dX1_takeOver_176 rfl ?_
  refine ⟨_, ⟨rfl, rfl⟩, ?_⟩
  refine ⟨hS.copy hW.bl4 (fun x hx => by rw [gUp_ne (by decide), u11 43 (by decide), u10 43 (by decide), u9 43 (by decide), u8 43 (by decide), u7 43 (by decide), u6 43 (by decide), u5 43 (by decide), u4 43 (by decide), u3 43 (by decide), u2 43 (by decide), v1 x hx]) (fun x hx => by rw [gUp_ne (by decide), u11 44 (by decide), u10 44 (by decide), u9 44 (by decide), u8 44 (by decide), u7 44 (by decide), u6 44 (by decide), u5 44 (by decide), u4 44 (by decide), u3 44 (by decide), v2 x hx, u1 6 (by decide)]) (fun x hx => by rw [gUp_ne (by decide), u11 45 (by decide), u10 45 (by decide), u9 45 (by decide), u8 45 (by decide), u7 45 (by decide), u6 45 (by decide), u5 45 (by decide), u4 45 (by decide), v3 x hx, u2 7 (by decide), u1 7 (by decide)]) (fun x hx => by rw [gUp_ne (by decide), u11 46 (by decide), u10 46 (by decide), u9 46 (by decide), u8 46 (by decide), u7 46 (by decide), u6 46 (by decide), u5 46 (by decide), v4 x hx, u3 8 (by decide), u2 8 (by decide), u1 8 (by decide)]) (fun x hx => by rw [gUp_ne (by decide), u11 47 (by decide), u10 47 (by decide), u9 47 (by decide), u8 47 (by decide), u7 47 (by decide), u6 47 (by decide), v5 x hx, u4 9 (by decide), u3 9 (by decide), u2 9 (by decide), u1 9 (by decide)]) (fun x hx => by rw [gUp_ne (by decide), u11 48 (by decide), u10 48 (by decide), u9 48 (by decide), u8 48 (by decide), u7 48 (by decide), v6 x hx, u5 10 (by decide), u4 10 (by decide), u3 10 (by decide), u2 10 (by decide), u1 10 (by decide)]) (fun x hx => by rw [gUp_ne (by decide), u11 49 (by decide), u10 49 (by decide), u9 49 (by decide), u8 49 (by decide), v7 x hx, u6 11 (by decide), u5 11 (by decide), u4 11 (by decide), u3 11 (by decide), u2 11 (by decide), u1 11 (by decide)]) (fun x hx => by rw [gUp_ne (by decide), u11 50 (by decide), u10 50 (by decide), u9 50 (by decide), v8 x hx, u7 12 (by decide), u6 12 (by decide), u5 12 (by decide), u4 12 (by decide), u3 12 (by decide), u2 12 (by decide), u1 12 (by decide)]) (fun x hx => by rw [gUp_ne (by decide), u11 51 (by decide), u10 51 (by decide), v9 x hx, u8 13 (by decide), u7 13 (by decide), u6 13 (by decide), u5 13 (by decide), u4 13 (by decide), u3 13 (by decide), u2 13 (by decide), u1 13 (by decide)]) (fun x hx => by rw [gUp_ne (by decide), u11 52 (by decide), v10 x hx, u9 14 (by decide), u8 14 (by decide), u7 14 (by decide), u6 14 (by decide), u5 14 (by decide), u4 14 (by decide), u3 14 (by decide), u2 14 (by decide), u1 14 (by decide)]) (fun x hx => by rw [gUp_ne (by decide), v11 x hx, u10 15 (by decide), u9 15 (by decide), u8 15 (by decide), u7 15 (by decide), u6 15 (by decide), u5 15 (by decide), u4 15 (by decide), u3 15 (by decide), u2 15 (by decide), u1 15 (by decide)]) ?_, ?_⟩
  · rw [gUp_c, if_pos rfl, u11 4 (by decide), u10 4 (by decide), u9 4 (by decide), u8 4 (by decide), u7 4 (by decide), u6 4 (by decide), u5 4 (by decide), u4 4 (by decide), u3 4 (by decide), u2 4 (by decide), u1 4 (by decide)]
  · exact Sm.up (by decide) (Sm.trans (Sm.trans (Sm.trans (Sm.trans (Sm.trans (Sm.trans (Sm.trans (Sm.trans (Sm.trans (Sm.trans (u1.mono (by decide)) (u2.mono (by decide))) (u3.mono (by decide))) (u4.mono (by decide))) (u5.mono (by decide))) (u6.mono (by decide))) (u7.mono (by decide))) (u8.mono (by decide))) (u9.mono (by decide))) (u10.mono (by decide))) (u11.mono (by decide)))
theorem m_X1_take_54_4 (hS : Snap I 4 V C) (hW : WF V) : gRv G YX1_takeOver d [.ref 54, .ref 4] n I L D (fun J => Snap J 54 V C ∧ Sm [54, 55, 56, 57, 58, 59, 60, 61, 62, 63, 64, 65] I J) := by
  refine g_aload_n (pc := 0) dX1_takeOver_0 rfl rfl ?_
  refine g_getR (pc := 1) dX1_takeOver_1 fl_X1_9 s_4 (by decide) rfl t_4_0 ?_
  refine g_iconst (v := nI 0) (pc := 4) dX1_takeOver_4 rfl ?_
  refine g_aload_n (pc := 5) dX1_takeOver_5 rfl rfl ?_
  refine g_getR (pc := 6) dX1_takeOver_6 fl_X1_9 s_54 (by decide) rfl t_54_0 ?_
  refine g_iconst (v := nI 0) (pc := 9) dX1_takeOver_9 rfl ?_
  refine g_sipush (v := nI 240) (pc := 10) dX1_takeOver_10 rfl ?_
  refine g_copyN (N := 240) (pc := 13) dX1_takeOver_13 lkc_X1 s_55 (by decide) s_5 (by decide) (by decide) (by decide) (by decide) (Nat.le_of_ble_eq_true rfl) ?_
  intro J1 u1 v1
  refine g_aload_n (pc := 16) dX1_takeOver_16 rfl rfl ?_
  refine g_getR (pc := 17) dX1_takeOver_17 fl_X1_15 s_4 (by decide) rfl t_4_1 ?_
  refine g_iconst (v := nI 0) (pc := 20) dX1_takeOver_20 rfl ?_
  refine g_aload_n (pc := 21) dX1_takeOver_21 rfl rfl ?_
  refine g_getR (pc := 22) dX1_takeOver_22 fl_X1_15 s_54 (by decide) rfl t_54_1 ?_
  refine g_iconst (v := nI 0) (pc := 25) dX1_takeOver_25 rfl ?_
  refine g_sipush (v := nI 240) (pc := 26) dX1_takeOver_26 rfl ?_
  refine g_copyN (N := 240) (pc := 29) dX1_takeOver_29 lkc_X1 s_56 (by decide) s_6 (by decide) (by decide) (by decide) (by decide) (Nat.le_of_ble_eq_true rfl) ?_
  intro J2 u2 v2
  refine g_aload_n (pc := 32) dX1_takeOver_32 rfl rfl ?_
  refine g_getR (pc := 33) dX1_takeOver_33 fl_X1_18 s_4 (by decide) rfl t_4_2 ?_
  refine g_iconst (v := nI 0) (pc := 36) dX1_takeOver_36 rfl ?_
  refine g_aload_n (pc := 37) dX1_takeOver_37 rfl rfl ?_
  refine g_getR (pc := 38) dX1_takeOver_38 fl_X1_18 s_54 (by decide) rfl t_54_2 ?_
  refine g_iconst (v := nI 0) (pc := 41) dX1_takeOver_41 rfl ?_
  refine g_sipush (v := nI 240) (pc := 42) dX1_takeOver_42 rfl ?_
  refine g_copyN (N := 240) (pc := 45) dX1_takeOver_45 lkc_X1 s_57 (by decide) s_7 (by decide) (by decide) (by decide) (by decide) (Nat.le_of_ble_eq_true rfl) ?_
  intro J3 u3 v3
  refine g_aload_n (pc := 48) dX1_takeOver_48 rfl rfl ?_
  refine g_getR (pc := 49) dX1_takeOver_49 fl_X1_21 s_4 (by decide) rfl t_4_3 ?_
  refine g_iconst (v := nI 0) (pc := 52) dX1_takeOver_52 rfl ?_
  refine g_aload_n (pc := 53) dX1_takeOver_53 rfl rfl ?_
  refine g_getR (pc := 54) dX1_takeOver_54 fl_X1_21 s_54 (by decide) rfl t_54_3 ?_
  refine g_iconst (v := nI 0) (pc := 57) dX1_takeOver_57 rfl ?_
  refine g_bipush (v := nI 8) (pc := 58) dX1_takeOver_58 rfl ?_
  refine g_copyN (N := 8) (pc := 60) dX1_takeOver_60 lkc_X1 s_58 (by decide) s_8 (by decide) (by decide) (by decide) (by decide) (Nat.le_of_ble_eq_true rfl) ?_
  intro J4 u4 v4
  refine g_aload_n (pc := 63) dX1_takeOver_63 rfl rfl ?_
  refine g_getR (pc := 64) dX1_takeOver_64 fl_X1_24 s_4 (by decide) rfl t_4_4 ?_
  refine g_iconst (v := nI 0) (pc := 67) dX1_takeOver_67 rfl ?_
  refine g_aload_n (pc := 68) dX1_takeOver_68 rfl rfl ?_
  refine g_getR (pc := 69) dX1_takeOver_69 fl_X1_24 s_54 (by decide) rfl t_54_4 ?_
  refine g_iconst (v := nI 0) (pc := 72) dX1_takeOver_72 rfl ?_
  refine g_bipush (v := nI 8) (pc := 73) dX1_takeOver_73 rfl ?_
  refine g_copyN (N := 8) (pc := 75) dX1_takeOver_75 lkc_X1 s_59 (by decide) s_9 (by decide) (by decide) (by decide) (by decide) (Nat.le_of_ble_eq_true rfl) ?_
  intro J5 u5 v5
  refine g_aload_n (pc := 78) dX1_takeOver_78 rfl rfl ?_
  refine g_getR (pc := 79) dX1_takeOver_79 fl_X1_27 s_4 (by decide) rfl t_4_5 ?_
  refine g_iconst (v := nI 0) (pc := 82) dX1_takeOver_82 rfl ?_
  refine g_aload_n (pc := 83) dX1_takeOver_83 rfl rfl ?_
  refine g_getR (pc := 84) dX1_takeOver_84 fl_X1_27 s_54 (by decide) rfl t_54_5 ?_
  refine g_iconst (v := nI 0) (pc := 87) dX1_takeOver_87 rfl ?_
  refine g_bipush (v := nI 8) (pc := 88) dX1_takeOver_88 rfl ?_
  refine g_copyN (N := 8) (pc := 90) dX1_takeOver_90 lkc_X1 s_60 (by decide) s_10 (by decide) (by decide) (by decide) (by decide) (Nat.le_of_ble_eq_true rfl) ?_
  intro J6 u6 v6
  refine g_aload_n (pc := 93) dX1_takeOver_93 rfl rfl ?_
  refine g_getR (pc := 94) dX1_takeOver_94 fl_X1_30 s_4 (by decide) rfl t_4_6 ?_
  refine g_iconst (v := nI 0) (pc := 97) dX1_takeOver_97 rfl ?_
  refine g_aload_n (pc := 98) dX1_takeOver_98 rfl rfl ?_
  refine g_getR (pc := 99) dX1_takeOver_99 fl_X1_30 s_54 (by decide) rfl t_54_6 ?_
  refine g_iconst (v := nI 0) (pc := 102) dX1_takeOver_102 rfl ?_
  refine g_bipush (v := nI 8) (pc := 103) dX1_takeOver_103 rfl ?_
  refine g_copyN (N := 8) (pc := 105) dX1_takeOver_105 lkc_X1 s_61 (by decide) s_11 (by decide) (by decide) (by decide) (by decide) (Nat.le_of_ble_eq_true rfl) ?_
  intro J7 u7 v7
  refine g_aload_n (pc := 108) dX1_takeOver_108 rfl rfl ?_
  refine g_getR (pc := 109) dX1_takeOver_109 fl_X1_33 s_4 (by decide) rfl t_4_7 ?_
  refine g_iconst (v := nI 0) (pc := 112) dX1_takeOver_112 rfl ?_
  refine g_aload_n (pc := 113) dX1_takeOver_113 rfl rfl ?_
  refine g_getR (pc := 114) dX1_takeOver_114 fl_X1_33 s_54 (by decide) rfl t_54_7 ?_
  refine g_iconst (v := nI 0) (pc := 117) dX1_takeOver_117 rfl ?_
  refine g_bipush (v := nI 8) (pc := 118) dX1_takeOver_118 rfl ?_
  refine g_copyN (N := 8) (pc := 120) dX1_takeOver_120 lkc_X1 s_62 (by decide) s_12 (by decide) (by decide) (by decide) (by decide) (Nat.le_of_ble_eq_true rfl) ?_
  intro J8 u8 v8
  refine g_aload_n (pc := 123) dX1_takeOver_123 rfl rfl ?_
  refine g_getR (pc := 124) dX1_takeOver_124 fl_X1_36 s_4 (by decide) rfl t_4_8 ?_
  refine g_iconst (v := nI 0) (pc := 127) dX1_takeOver_127 rfl ?_
  refine g_aload_n (pc := 128) dX1_takeOver_128 rfl rfl ?_
  refine g_getR (pc := 129) dX1_takeOver_129 fl_X1_36 s_54 (by decide) rfl t_54_8 ?_
  refine g_iconst (v := nI 0) (pc := 132) dX1_takeOver_132 rfl ?_
  refine g_bipush (v := nI 8) (pc := 133) dX1_takeOver_133 rfl ?_
  refine g_copyN (N := 8) (pc := 135) dX1_takeOver_135 lkc_X1 s_63 (by decide) s_13 (by decide) (by decide) (by decide) (by decide) (Nat.le_of_ble_eq_true rfl) ?_
  intro J9 u9 v9
  refine g_aload_n (pc := 138) dX1_takeOver_138 rfl rfl ?_
  refine g_getR (pc := 139) dX1_takeOver_139 fl_X1_39 s_4 (by decide) rfl t_4_9 ?_
  refine g_iconst (v := nI 0) (pc := 142) dX1_takeOver_142 rfl ?_
  refine g_aload_n (pc := 143) dX1_takeOver_143 rfl rfl ?_
  refine g_getR (pc := 144) dX1_takeOver_144 fl_X1_39 s_54 (by decide) rfl t_54_9 ?_
  refine g_iconst (v := nI 0) (pc := 147) dX1_takeOver_147 rfl ?_
  refine g_bipush (v := nI 8) (pc := 148) dX1_takeOver_148 rfl ?_
  refine g_copyN (N := 8) (pc := 150) dX1_takeOver_150 lkc_X1 s_64 (by decide) s_14 (by decide) (by decide) (by decide) (by decide) (Nat.le_of_ble_eq_true rfl) ?_
  intro J10 u10 v10
  refine g_aload_n (pc := 153) dX1_takeOver_153 rfl rfl ?_
  refine g_getR (pc := 154) dX1_takeOver_154 fl_X1_42 s_4 (by decide) rfl t_4_10 ?_
  refine g_iconst (v := nI 0) (pc := 157) dX1_takeOver_157 rfl ?_
  refine g_aload_n (pc := 158) dX1_takeOver_158 rfl rfl ?_
  refine g_getR (pc := 159) dX1_takeOver_159 fl_X1_42 s_54 (by decide) rfl t_54_10 ?_
  refine g_iconst (v := nI 0) (pc := 162) dX1_takeOver_162 rfl ?_
  refine g_bipush (v := nI 32) (pc := 163) dX1_takeOver_163 rfl ?_
  refine g_copyN (N := 32) (pc := 165) dX1_takeOver_165 lkc_X1 s_65 (by decide) s_15 (by decide) (by decide) (by decide) (by decide) (Nat.le_of_ble_eq_true rfl) ?_
  intro J11 u11 v11
  refine g_aload_n (pc := 168) dX1_takeOver_168 rfl rfl ?_
  refine g_aload_n (pc := 169) dX1_takeOver_169 rfl rfl ?_
  refine g_getI (pc := 170) dX1_takeOver_170 fl_X1_45 s_4 (by decide) rfl ?_
  refine g_putI (pc := 173) dX1_takeOver_173 fl_X1_45 s_54 (by decide) rfl rfl rfl rfl ?_
  refine g_vret (pc := 176) dX1_takeOver_176 rfl ?_
  refine ⟨_, ⟨rfl, rfl⟩, ?_⟩
  refine ⟨hS.copy hW.bl4 (fun x hx => by rw [gUp_ne (by decide), u11 55 (by decide), u10 55 (by decide), u9 55 (by decide), u8 55 (by decide), u7 55 (by decide), u6 55 (by decide), u5 55 (by decide), u4 55 (by decide), u3 55 (by decide), u2 55 (by decide), v1 x hx]) (fun x hx => by rw [gUp_ne (by decide), u11 56 (by decide), u10 56 (by decide), u9 56 (by decide), u8 56 (by decide), u7 56 (by decide), u6 56 (by decide), u5 56 (by decide), u4 56 (by decide), u3 56 (by decide), v2 x hx, u1 6 (by decide)]) (fun x hx => by rw [gUp_ne (by decide), u11 57 (by decide), u10 57 (by decide), u9 57 (by decide), u8 57 (by decide), u7 57 (by decide), u6 57 (by decide), u5 57 (by decide), u4 57 (by decide), v3 x hx, u2 7 (by decide), u1 7 (by decide)]) (fun x hx => by rw [gUp_ne (by decide), u11 58 (by decide), u10 58 (by decide), u9 58 (by decide), u8 58 (by decide), u7 58 (by decide), u6 58 (by decide), u5 58 (by decide), v4 x hx, u3 8 (by decide), u2 8 (by decide), u1 8 (by decide)]) (fun x hx => by rw [gUp_ne (by decide), u11 59 (by decide), u10 59 (by decide), u9 59 (by decide), u8 59 (by decide), u7 59 (by decide), u6 59 (by decide), v5 x hx, u4 9 (by decide), u3 9 (by decide), u2 9 (by decide), u1 9 (by decide)]) (fun x hx => by rw [gUp_ne (by decide), u11 60 (by decide), u10 60 (by decide), u9 60 (by decide), u8 60 (by decide), u7 60 (by decide), v6 x hx, u5 10 (by decide), u4 10 (by decide), u3 10 (by decide), u2 10 (by decide), u1 10 (by decide)]) (fun x hx => by rw [gUp_ne (by decide), u11 61 (by decide), u10 61 (by decide), u9 61 (by decide), u8 61 (by decide), v7 x hx, u6 11 (by decide), u5 11 (by decide), u4 11 (by decide), u3 11 (by decide), u2 11 (by decide), u1 11 (by decide)]) (fun x hx => by rw [gUp_ne (by decide), u11 62 (by decide), u10 62 (by decide), u9 62 (by decide), v8 x hx, u7 12 (by decide), u6 12 (by decide), u5 12 (by decide), u4 12 (by decide), u3 12 (by decide), u2 12 (by decide), u1 12 (by decide)]) (fun x hx => by rw [gUp_ne (by decide), u11 63 (by decide), u10 63 (by decide), v9 x hx, u8 13 (by decide), u7 13 (by decide), u6 13 (by decide), u5 13 (by decide), u4 13 (by decide), u3 13 (by decide), u2 13 (by decide), u1 13 (by decide)]) (fun x hx => by rw [gUp_ne (by decide), u11 64 (by decide), v10 x hx, u9 14 (by decide), u8 14 (by decide), u7 14 (by decide), u6 14 (by decide), u5 14 (by decide), u4 14 (by decide), u3 14 (by decide), u2 14 (by decide), u1 14 (by decide)]) (fun x hx => by rw [gUp_ne (by decide), v11 x hx, u10 15 (by decide), u9 15 (by decide), u8 15 (by decide), u7 15 (by decide), u6 15 (by decide), u5 15 (by decide), u4 15 (by decide), u3 15 (by decide), u2 15 (by decide), u1 15 (by decide)]) ?_, ?_⟩
  · rw [gUp_c, if_pos rfl, u11 4 (by decide), u10 4 (by decide), u9 4 (by decide), u8 4 (by decide), u7 4 (by decide), u6 4 (by decide), u5 4 (by decide), u4 4 (by decide), u3 4 (by decide), u2 4 (by decide), u1 4 (by decide)]
  · exact Sm.up (by decide) (Sm.trans (Sm.trans (Sm.trans (Sm.trans (Sm.trans (Sm.trans (Sm.trans (Sm.trans (Sm.trans (Sm.trans (u1.mono (by decide)) (u2.mono (by decide))) (u3.mono (by decide))) (u4.mono (by decide))) (u5.mono (by decide))) (u6.mono (by decide))) (u7.mono (by decide))) (u8.mono (by decide))) (u9.mono (by decide))) (u10.mono (by decide))) (u11.mono (by decide)))
theorem m_X1_take_66_4 (hS : Snap I 4 V C) (hW : WF V) : gRv G YX1_takeOver d [.ref 66, .ref 4] n I L D (fun J => Snap J 66 V C ∧ Sm [66, 67, 68, 69, 70, 71, 72, 73, 74, 75, 76, 77] I J) := by
  refine g_aload_n (pc := 0) dX1_takeOver_0 rfl rfl ?_
  refine g_getR (pc := 1) dX1_takeOver_1 fl_X1_9 s_4 (by decide) rfl t_4_0 ?_
  refine g_iconst (v := nI 0) (pc := 4) dX1_takeOver_4 rfl ?_
  refine g_aload_n (pc := 5) dX1_takeOver_5 rfl rfl ?_
  refine g_getR (pc := 6) dX1_takeOver_6 fl_X1_9 s_66 (by decide) rfl t_66_0 ?_
  refine g_iconst (v := nI 0) (pc := 9) dX1_takeOver_9 rfl ?_
  refine g_sipush (v := nI 240) (pc := 10) dX1_takeOver_10 rfl ?_
  refine g_copyN (N := 240) (pc := 13) dX1_takeOver_13 lkc_X1 s_67 (by decide) s_5 (by decide) (by decide) (by decide) (by decide) (Nat.le_of_ble_eq_true rfl) ?_
  intro J1 u1 v1
  refine g_aload_n (pc := 16) dX1_takeOver_16 rfl rfl ?_
  refine g_getR (pc := 17) dX1_takeOver_17 fl_X1_15 s_4 (by decide) rfl t_4_1 ?_
  refine g_iconst (v := nI 0) (pc := 20) dX1_takeOver_20 rfl ?_
  refine g_aload_n (pc := 21) dX1_takeOver_21 rfl rfl ?_
  refine g_getR (pc := 22) dX1_takeOver_22 fl_X1_15 s_66 (by decide) rfl t_66_1 ?_
  refine g_iconst (v := nI 0) (pc := 25) dX1_takeOver_25 rfl ?_
  refine g_sipush (v := nI 240) (pc := 26) dX1_takeOver_26 rfl ?_
  refine g_copyN (N := 240) (pc := 29) dX1_takeOver_29 lkc_X1 s_68 (by decide) s_6 (by decide) (by decide) (by decide) (by decide) (Nat.le_of_ble_eq_true rfl) ?_
  intro J2 u2 v2
  refine g_aload_n (pc := 32) dX1_takeOver_32 rfl rfl ?_
  refine g_getR (pc := 33) dX1_takeOver_33 fl_X1_18 s_4 (by decide) rfl t_4_2 ?_
  refine g_iconst (v := nI 0) (pc := 36) dX1_takeOver_36 rfl ?_
  refine g_aload_n (pc := 37) dX1_takeOver_37 rfl rfl ?_
  refine g_getR (pc := 38) dX1_takeOver_38 fl_X1_18 s_66 (by decide) rfl t_66_2 ?_
  refine g_iconst (v := nI 0) (pc := 41) dX1_takeOver_41 rfl ?_
  refine g_sipush (v := nI 240) (pc := 42) dX1_takeOver_42 rfl ?_
  refine g_copyN (N := 240) (pc := 45) dX1_takeOver_45 lkc_X1 s_69 (by decide) s_7 (by decide) (by decide) (by decide) (by decide) (Nat.le_of_ble_eq_true rfl) ?_
  intro J3 u3 v3
  refine g_aload_n (pc := 48) dX1_takeOver_48 rfl rfl ?_
  refine g_getR (pc := 49) dX1_takeOver_49 fl_X1_21 s_4 (by decide) rfl t_4_3 ?_
  refine g_iconst (v := nI 0) (pc := 52) dX1_takeOver_52 rfl ?_
  refine g_aload_n (pc := 53) dX1_takeOver_53 rfl rfl ?_
  refine g_getR (pc := 54) dX1_takeOver_54 fl_X1_21 s_66 (by decide) rfl t_66_3 ?_
  refine g_iconst (v := nI 0) (pc := 57) dX1_takeOver_57 rfl ?_
  refine g_bipush (v := nI 8) (pc := 58) dX1_takeOver_58 rfl ?_
  refine g_copyN (N := 8) (pc := 60) dX1_takeOver_60 lkc_X1 s_70 (by decide) s_8 (by decide) (by decide) (by decide) (by decide) (Nat.le_of_ble_eq_true rfl) ?_
  intro J4 u4 v4
  refine g_aload_n (pc := 63) dX1_takeOver_63 rfl rfl ?_
  refine g_getR (pc := 64) dX1_takeOver_64 fl_X1_24 s_4 (by decide) rfl t_4_4 ?_
  refine g_iconst (v := nI 0) (pc := 67) dX1_takeOver_67 rfl ?_
  refine g_aload_n (pc := 68) dX1_takeOver_68 rfl rfl ?_
  refine g_getR (pc := 69) dX1_takeOver_69 fl_X1_24 s_66 (by decide) rfl t_66_4 ?_
  refine g_iconst (v := nI 0) (pc := 72) dX1_takeOver_72 rfl ?_
  refine g_bipush (v := nI 8) (pc := 73) dX1_takeOver_73 rfl ?_
  refine g_copyN (N := 8) (pc := 75) dX1_takeOver_75 lkc_X1 s_71 (by decide) s_9 (by decide) (by decide) (by decide) (by decide) (Nat.le_of_ble_eq_true rfl) ?_
  intro J5 u5 v5
  refine g_aload_n (pc := 78) dX1_takeOver_78 rfl rfl ?_
  refine g_getR (pc := 79) dX1_takeOver_79 fl_X1_27 s_4 (by decide) rfl t_4_5 ?_
  refine g_iconst (v := nI 0) (pc := 82) dX1_takeOver_82 rfl ?_
  refine g_aload_n (pc := 83) dX1_takeOver_83 rfl rfl ?_
  refine g_getR (pc := 84) dX1_takeOver_84 fl_X1_27 s_66 (by decide) rfl t_66_5 ?_
  refine g_iconst (v := nI 0) (pc := 87) dX1_takeOver_87 rfl ?_
  refine g_bipush (v := nI 8) (pc := 88) dX1_takeOver_88 rfl ?_
  refine g_copyN (N := 8) (pc := 90) dX1_takeOver_90 lkc_X1 s_72 (by decide) s_10 (by decide) (by decide) (by decide) (by decide) (Nat.le_of_ble_eq_true rfl) ?_
  intro J6 u6 v6
  refine g_aload_n (pc := 93) dX1_takeOver_93 rfl rfl ?_
  refine g_getR (pc := 94) dX1_takeOver_94 fl_X1_30 s_4 (by decide) rfl t_4_6 ?_
  refine g_iconst (v := nI 0) (pc := 97) dX1_takeOver_97 rfl ?_
  refine g_aload_n (pc := 98) dX1_takeOver_98 rfl rfl ?_
  refine g_getR (pc := 99) dX1_takeOver_99 fl_X1_30 s_66 (by decide) rfl t_66_6 ?_
  refine g_iconst (v := nI 0) (pc := 102) dX1_takeOver_102 rfl ?_
  refine g_bipush (v := nI 8) (pc := 103) dX1_takeOver_103 rfl ?_
  refine g_copyN (N := 8) (pc := 105) dX1_takeOver_105 lkc_X1 s_73 (by decide) s_11 (by decide) (by decide) (by decide) (by decide) (Nat.le_of_ble_eq_true rfl) ?_
  intro J7 u7 v7
  refine g_aload_n (pc := 108) dX1_takeOver_108 rfl rfl ?_
  refine g_getR (pc := 109) dX1_takeOver_109 fl_X1_33 s_4 (by decide) rfl t_4_7 ?_
  refine g_iconst (v := nI 0) (pc := 112) dX1_takeOver_112 rfl ?_
  refine g_aload_n (pc := 113) dX1_takeOver_113 rfl rfl ?_
  refine g_getR (pc := 114) dX1_takeOver_114 fl_X1_33 s_66 (by decide) rfl t_66_7 ?_
  refine g_iconst (v := nI 0) (pc := 117) dX1_takeOver_117 rfl ?_
  refine g_bipush (v := nI 8) (pc := 118) dX1_takeOver_118 rfl ?_
  refine g_copyN (N := 8) (pc := 120) dX1_takeOver_120 lkc_X1 s_74 (by decide) s_12 (by decide) (by decide) (by decide) (by decide) (Nat.le_of_ble_eq_true rfl) ?_
  intro J8 u8 v8
  refine g_aload_n (pc := 123) dX1_takeOver_123 rfl rfl ?_
  refine g_getR (pc := 124) dX1_takeOver_124 fl_X1_36 s_4 (by decide) rfl t_4_8 ?_
  refine g_iconst (v := nI 0) (pc := 127) dX1_takeOver_127 rfl ?_
  refine g_aload_n (pc := 128) dX1_takeOver_128 rfl rfl ?_
  refine g_getR (pc := 129) dX1_takeOver_129 fl_X1_36 s_66 (by decide) rfl t_66_8 ?_
  refine g_iconst (v := nI 0) (pc := 132) dX1_takeOver_132 rfl ?_
  refine g_bipush (v := nI 8) (pc := 133) dX1_takeOver_133 rfl ?_
  refine g_copyN (N := 8) (pc := 135) dX1_takeOver_135 lkc_X1 s_75 (by decide) s_13 (by decide) (by decide) (by decide) (by decide) (Nat.le_of_ble_eq_true rfl) ?_
  intro J9 u9 v9
  refine g_aload_n (pc := 138) dX1_takeOver_138 rfl rfl ?_
  refine g_getR (pc := 139) dX1_takeOver_139 fl_X1_39 s_4 (by decide) rfl t_4_9 ?_
  refine g_iconst (v := nI 0) (pc := 142) dX1_takeOver_142 rfl ?_
  refine g_aload_n (pc := 143) dX1_takeOver_143 rfl rfl ?_
  refine g_getR (pc := 144) dX1_takeOver_144 fl_X1_39 s_66 (by decide) rfl t_66_9 ?_
  refine g_iconst (v := nI 0) (pc := 147) dX1_takeOver_147 rfl ?_
  refine g_bipush (v := nI 8) (pc := 148) dX1_takeOver_148 rfl ?_
  refine g_copyN (N := 8) (pc := 150) dX1_takeOver_150 lkc_X1 s_76 (by decide) s_14 (by decide) (by decide) (by decide) (by decide) (Nat.le_of_ble_eq_true rfl) ?_
  intro J10 u10 v10
  refine g_aload_n (pc := 153) dX1_takeOver_153 rfl rfl ?_
  refine g_getR (pc := 154) dX1_takeOver_154 fl_X1_42 s_4 (by decide) rfl t_4_10 ?_
  refine g_iconst (v := nI 0) (pc := 157) dX1_takeOver_157 rfl ?_
  refine g_aload_n (pc := 158) dX1_takeOver_158 rfl rfl ?_
  refine g_getR (pc := 159) dX1_takeOver_159 fl_X1_42 s_66 (by decide) rfl t_66_10 ?_
  refine g_iconst (v := nI 0) (pc := 162) dX1_takeOver_162 rfl ?_
  refine g_bipush (v := nI 32) (pc := 163) dX1_takeOver_163 rfl ?_
  refine g_copyN (N := 32) (pc := 165) dX1_takeOver_165 lkc_X1 s_77 (by decide) s_15 (by decide) (by decide) (by decide) (by decide) (Nat.le_of_ble_eq_true rfl) ?_
  intro J11 u11 v11
  refine g_aload_n (pc := 168) dX1_takeOver_168 rfl rfl ?_
  refine g_aload_n (pc := 169) dX1_takeOver_169 rfl rfl ?_
  refine g_getI (pc := 170) dX1_takeOver_170 fl_X1_45 s_4 (by decide) rfl ?_
  refine g_putI (pc := 173) dX1_takeOver_173 fl_X1_45 s_66 (by decide) rfl rfl rfl rfl ?_
  refine g_vret (pc := 176) dX1_takeOver_176 rfl ?_
  refine ⟨_, ⟨rfl, rfl⟩, ?_⟩
  refine ⟨hS.copy hW.bl4 (fun x hx => by rw [gUp_ne (by decide), u11 67 (by decide), u10 67 (by decide), u9 67 (by decide), u8 67 (by decide), u7 67 (by decide), u6 67 (by decide), u5 67 (by decide), u4 67 (by decide), u3 67 (by decide), u2 67 (by decide), v1 x hx]) (fun x hx => by rw [gUp_ne (by decide), u11 68 (by decide), u10 68 (by decide), u9 68 (by decide), u8 68 (by decide), u7 68 (by decide), u6 68 (by decide), u5 68 (by decide), u4 68 (by decide), u3 68 (by decide), v2 x hx, u1 6 (by decide)]) (fun x hx => by rw [gUp_ne (by decide), u11 69 (by decide), u10 69 (by decide), u9 69 (by decide), u8 69 (by decide), u7 69 (by decide), u6 69 (by decide), u5 69 (by decide), u4 69 (by decide), v3 x hx, u2 7 (by decide), u1 7 (by decide)]) (fun x hx => by rw [gUp_ne (by decide), u11 70 (by decide), u10 70 (by decide), u9 70 (by decide), u8 70 (by decide), u7 70 (by decide), u6 70 (by decide), u5 70 (by decide), v4 x hx, u3 8 (by decide), u2 8 (by decide), u1 8 (by decide)]) (fun x hx => by rw [gUp_ne (by decide), u11 71 (by decide), u10 71 (by decide), u9 71 (by decide), u8 71 (by decide), u7 71 (by decide), u6 71 (by decide), v5 x hx, u4 9 (by decide), u3 9 (by decide), u2 9 (by decide), u1 9 (by decide)]) (fun x hx => by rw [gUp_ne (by decide), u11 72 (by decide), u10 72 (by decide), u9 72 (by decide), u8 72 (by decide), u7 72 (by decide), v6 x hx, u5 10 (by decide), u4 10 (by decide), u3 10 (by decide), u2 10 (by decide), u1 10 (by decide)]) (fun x hx => by rw [gUp_ne (by decide), u11 73 (by decide), u10 73 (by decide), u9 73 (by decide), u8 73 (by decide), v7 x hx, u6 11 (by decide), u5 11 (by decide), u4 11 (by decide), u3 11 (by decide), u2 11 (by decide), u1 11 (by decide)]) (fun x hx => by rw [gUp_ne (by decide), u11 74 (by decide), u10 74 (by decide), u9 74 (by decide), v8 x hx, u7 12 (by decide), u6 12 (by decide), u5 12 (by decide), u4 12 (by decide), u3 12 (by decide), u2 12 (by decide), u1 12 (by decide)]) (fun x hx => by rw [gUp_ne (by decide), u11 75 (by decide), u10 75 (by decide), v9 x hx, u8 13 (by decide), u7 13 (by decide), u6 13 (by decide), u5 13 (by decide), u4 13 (by decide), u3 13 (by decide), u2 13 (by decide), u1 13 (by decide)]) (fun x hx => by rw [gUp_ne (by decide), u11 76 (by decide), v10 x hx, u9 14 (by decide), u8 14 (by decide), u7 14 (by decide), u6 14 (by decide), u5 14 (by decide), u4 14 (by decide), u3 14 (by decide), u2 14 (by decide), u1 14 (by decide)]) (fun x hx => by rw [gUp_ne (by decide), v11 x hx, u10 15 (by decide), u9 15 (by decide), u8 15 (by decide), u7 15 (by decide), u6 15 (by decide), u5 15 (by decide), u4 15 (by decide), u3 15 (by decide), u2 15 (by decide), u1 15 (by decide)]) ?_, ?_⟩
  · rw [gUp_c, if_pos rfl, u11 4 (by decide), u10 4 (by decide), u9 4 (by decide), u8 4 (by decide), u7 4 (by decide), u6 4 (by decide), u5 4 (by decide), u4 4 (by decide), u3 4 (by decide), u2 4 (by decide), u1 4 (by decide)]
  · exact Sm.up (by decide) (Sm.trans (Sm.trans (Sm.trans (Sm.trans (Sm.trans (Sm.trans (Sm.trans (Sm.trans (Sm.trans (Sm.trans (u1.mono (by decide)) (u2.mono (by decide))) (u3.mono (by decide))) (u4.mono (by decide))) (u5.mono (by decide))) (u6.mono (by decide))) (u7.mono (by decide))) (u8.mono (by decide))) (u9.mono (by decide))) (u10.mono (by decide))) (u11.mono (by decide)))
theorem m_X1_take_78_4 (hS : Snap I 4 V C) (hW : WF V) : gRv G YX1_takeOver d [.ref 78, .ref 4] n I L D (fun J => Snap J 78 V C ∧ Sm [78, 79, 80, 81, 82, 83, 84, 85, 86, 87, 88, 89] I J) := by
  refine g_aload_n (pc := 0) dX1_takeOver_0 rfl rfl ?_
  refine g_getR (pc := 1) dX1_takeOver_1 fl_X1_9 s_4 (by decide) rfl t_4_0 ?_
  refine g_iconst (v := nI 0) (pc := 4) dX1_takeOver_4 rfl ?_
  refine g_aload_n (pc := 5) dX1_takeOver_5 rfl rfl ?_
  refine g_getR (pc := 6) dX1_takeOver_6 fl_X1_9 s_78 (by decide) rfl t_78_0 ?_
  refine g_iconst (v := nI 0) (pc := 9) dX1_takeOver_9 rfl ?_
  refine g_sipush (v := nI 240) (pc := 10) dX1_takeOver_10 rfl ?_
  refine g_copyN (N := 240) (pc := 13) dX1_takeOver_13 lkc_X1 s_79 (by decide) s_5 (by decide) (by decide) (by decide) (by decide) (Nat.le_of_ble_eq_true rfl) ?_
  intro J1 u1 v1
  refine g_aload_n (pc := 16) dX1_takeOver_16 rfl rfl ?_
  refine g_getR (pc := 17) dX1_takeOver_17 fl_X1_15 s_4 (by decide) rfl t_4_1 ?_
  refine g_iconst (v := nI 0) (pc := 20) dX1_takeOver_20 rfl ?_
  refine g_aload_n (pc := 21) dX1_takeOver_21 rfl rfl ?_
  refine g_getR (pc := 22) dX1_takeOver_22 fl_X1_15 s_78 (by decide) rfl t_78_1 ?_
  refine g_iconst (v := nI 0) (pc := 25) dX1_takeOver_25 rfl ?_
  refine g_sipush (v := nI 240) (pc := 26) dX1_takeOver_26 rfl ?_
  refine g_copyN (N := 240) (pc := 29) dX1_takeOver_29 lkc_X1 s_80 (by decide) s_6 (by decide) (by decide) (by decide) (by decide) (Nat.le_of_ble_eq_true rfl) ?_
  intro J2 u2 v2
  refine g_aload_n (pc := 32) dX1_takeOver_32 rfl rfl ?_
  refine g_getR (pc := 33) dX1_takeOver_33 fl_X1_18 s_4 (by decide) rfl t_4_2 ?_
  refine g_iconst (v := nI 0) (pc := 36) dX1_takeOver_36 rfl ?_
  refine g_aload_n (pc := 37) dX1_takeOver_37 rfl rfl ?_
  refine g_getR (pc := 38) dX1_takeOver_38 fl_X1_18 s_78 (by decide) rfl t_78_2 ?_
  refine g_iconst (v := nI 0) (pc := 41) dX1_takeOver_41 rfl ?_
  refine g_sipush (v := nI 240) (pc := 42) dX1_takeOver_42 rfl ?_
  refine g_copyN (N := 240) (pc := 45) dX1_takeOver_45 lkc_X1 s_81 (by decide) s_7 (by decide) (by decide) (by decide) (by decide) (Nat.le_of_ble_eq_true rfl) ?_
  intro J3 u3 v3
  refine g_aload_n (pc := 48) dX1_takeOver_48 rfl rfl ?_
  refine g_getR (pc := 49) dX1_takeOver_49 fl_X1_21 s_4 (by decide) rfl t_4_3 ?_
  refine g_iconst (v := nI 0) (pc := 52) dX1_takeOver_52 rfl ?_
  refine g_aload_n (pc := 53) dX1_takeOver_53 rfl rfl ?_
  refine g_getR (pc := 54) dX1_takeOver_54 fl_X1_21 s_78 (by decide) rfl t_78_3 ?_
  refine g_iconst (v := nI 0) (pc := 57) dX1_takeOver_57 rfl ?_
  refine g_bipush (v := nI 8) (pc := 58) dX1_takeOver_58 rfl ?_
  refine g_copyN (N := 8) (pc := 60) dX1_takeOver_60 lkc_X1 s_82 (by decide) s_8 (by decide) (by decide) (by decide) (by decide) (Nat.le_of_ble_eq_true rfl) ?_
  intro J4 u4 v4
  refine g_aload_n (pc := 63) dX1_takeOver_63 rfl rfl ?_
  refine g_getR (pc := 64) dX1_takeOver_64 fl_X1_24 s_4 (by decide) rfl t_4_4 ?_
  refine g_iconst (v := nI 0) (pc := 67) dX1_takeOver_67 rfl ?_
  refine g_aload_n (pc := 68) dX1_takeOver_68 rfl rfl ?_
  refine g_getR (pc := 69) dX1_takeOver_69 fl_X1_24 s_78 (by decide) rfl t_78_4 ?_
  refine g_iconst (v := nI 0) (pc := 72) dX1_takeOver_72 rfl ?_
  refine g_bipush (v := nI 8) (pc := 73) dX1_takeOver_73 rfl ?_
  refine g_copyN (N := 8) (pc := 75) dX1_takeOver_75 lkc_X1 s_83 (by decide) s_9 (by decide) (by decide) (by decide) (by decide) (Nat.le_of_ble_eq_true rfl) ?_
  intro J5 u5 v5
  refine g_aload_n (pc := 78) dX1_takeOver_78 rfl rfl ?_
  refine g_getR (pc := 79) dX1_takeOver_79 fl_X1_27 s_4 (by decide) rfl t_4_5 ?_
  refine g_iconst (v := nI 0) (pc := 82) dX1_takeOver_82 rfl ?_
  refine g_aload_n (pc := 83) dX1_takeOver_83 rfl rfl ?_
  refine g_getR (pc := 84) dX1_takeOver_84 fl_X1_27 s_78 (by decide) rfl t_78_5 ?_
  refine g_iconst (v := nI 0) (pc := 87) dX1_takeOver_87 rfl ?_
  refine g_bipush (v := nI 8) (pc := 88) dX1_takeOver_88 rfl ?_
  refine g_copyN (N := 8) (pc := 90) dX1_takeOver_90 lkc_X1 s_84 (by decide) s_10 (by decide) (by decide) (by decide) (by decide) (Nat.le_of_ble_eq_true rfl) ?_
  intro J6 u6 v6
  refine g_aload_n (pc := 93) dX1_takeOver_93 rfl rfl ?_
  refine g_getR (pc := 94) dX1_takeOver_94 fl_X1_30 s_4 (by decide) rfl t_4_6 ?_
  refine g_iconst (v := nI 0) (pc := 97) dX1_takeOver_97 rfl ?_
  refine g_aload_n (pc := 98) dX1_takeOver_98 rfl rfl ?_
  refine g_getR (pc := 99) dX1_takeOver_99 fl_X1_30 s_78 (by decide) rfl t_78_6 ?_
  refine g_iconst (v := nI 0) (pc := 102) dX1_takeOver_102 rfl ?_
  refine g_bipush (v := nI 8) (pc := 103) dX1_takeOver_103 rfl ?_
  refine g_copyN (N := 8) (pc := 105) dX1_takeOver_105 lkc_X1 s_85 (by decide) s_11 (by decide) (by decide) (by decide) (by decide) (Nat.le_of_ble_eq_true rfl) ?_
  intro J7 u7 v7
  refine g_aload_n (pc := 108) dX1_takeOver_108 rfl rfl ?_
  refine g_getR (pc := 109) dX1_takeOver_109 fl_X1_33 s_4 (by decide) rfl t_4_7 ?_
  refine g_iconst (v := nI 0) (pc := 112) dX1_takeOver_112 rfl ?_
  refine g_aload_n (pc := 113) dX1_takeOver_113 rfl rfl ?_
  refine g_getR (pc := 114) dX1_takeOver_114 fl_X1_33 s_78 (by decide) rfl t_78_7 ?_
  refine g_iconst (v := nI 0) (pc := 117) dX1_takeOver_117 rfl ?_
  refine g_bipush (v := nI 8) (pc := 118) dX1_takeOver_118 rfl ?_
  refine g_copyN (N := 8) (pc := 120) dX1_takeOver_120 lkc_X1 s_86 (by decide) s_12 (by decide) (by decide) (by decide) (by decide) (Nat.le_of_ble_eq_true rfl) ?_
  intro J8 u8 v8
  refine g_aload_n (pc := 123) dX1_takeOver_123 rfl rfl ?_
  refine g_getR (pc := 124) dX1_takeOver_124 fl_X1_36 s_4 (by decide) rfl t_4_8 ?_
  refine g_iconst (v := nI 0) (pc := 127) dX1_takeOver_127 rfl ?_
  refine g_aload_n (pc := 128) dX1_takeOver_128 rfl rfl ?_
  refine g_getR (pc := 129) dX1_takeOver_129 fl_X1_36 s_78 (by decide) rfl t_78_8 ?_
  refine g_iconst (v := nI 0) (pc := 132) dX1_takeOver_132 rfl ?_
  refine g_bipush (v := nI 8) (pc := 133) dX1_takeOver_133 rfl ?_
  refine g_copyN (N := 8) (pc := 135) dX1_takeOver_135 lkc_X1 s_87 (by decide) s_13 (by decide) (by decide) (by decide) (by decide) (Nat.le_of_ble_eq_true rfl) ?_
  intro J9 u9 v9
  refine g_aload_n (pc := 138) dX1_takeOver_138 rfl rfl ?_
  refine g_getR (pc := 139) dX1_takeOver_139 fl_X1_39 s_4 (by decide) rfl t_4_9 ?_
  refine g_iconst (v := nI 0) (pc := 142) dX1_takeOver_142 rfl ?_
  refine g_aload_n (pc := 143) dX1_takeOver_143 rfl rfl ?_
  refine g_getR (pc := 144) dX1_takeOver_144 fl_X1_39 s_78 (by decide) rfl t_78_9 ?_
  refine g_iconst (v := nI 0) (pc := 147) dX1_takeOver_147 rfl ?_
  refine g_bipush (v := nI 8) (pc := 148) dX1_takeOver_148 rfl ?_
  refine g_copyN (N := 8) (pc := 150) dX1_takeOver_150 lkc_X1 s_88 (by decide) s_14 (by decide) (by decide) (by decide) (by decide) (Nat.le_of_ble_eq_true rfl) ?_
  intro J10 u10 v10
  refine g_aload_n (pc := 153) dX1_takeOver_153 rfl rfl ?_
  refine g_getR (pc := 154) dX1_takeOver_154 fl_X1_42 s_4 (by decide) rfl t_4_10 ?_
  refine g_iconst (v := nI 0) (pc := 157) dX1_takeOver_157 rfl ?_
  refine g_aload_n (pc := 158) dX1_takeOver_158 rfl rfl ?_
  refine g_getR (pc := 159) dX1_takeOver_159 fl_X1_42 s_78 (by decide) rfl t_78_10 ?_
  refine g_iconst (v := nI 0) (pc := 162) dX1_takeOver_162 rfl ?_
  refine g_bipush (v := nI 32) (pc := 163) dX1_takeOver_163 rfl ?_
  refine g_copyN (N := 32) (pc := 165) dX1_takeOver_165 lkc_X1 s_89 (by decide) s_15 (by decide) (by decide) (by decide) (by decide) (Nat.le_of_ble_eq_true rfl) ?_
  intro J11 u11 v11
  refine g_aload_n (pc := 168) dX1_takeOver_168 rfl rfl ?_
  refine g_aload_n (pc := 169) dX1_takeOver_169 rfl rfl ?_
  refine g_getI (pc := 170) dX1_takeOver_170 fl_X1_45 s_4 (by decide) rfl ?_
  refine g_putI (pc := 173) dX1_takeOver_173 fl_X1_45 s_78 (by decide) rfl rfl rfl rfl ?_
  refine g_vret (pc := 176) dX1_takeOver_176 rfl ?_
  refine ⟨_, ⟨rfl, rfl⟩, ?_⟩
  refine ⟨hS.copy hW.bl4 (fun x hx => by rw [gUp_ne (by decide), u11 79 (by decide), u10 79 (by decide), u9 79 (by decide), u8 79 (by decide), u7 79 (by decide), u6 79 (by decide), u5 79 (by decide), u4 79 (by decide), u3 79 (by decide), u2 79 (by decide), v1 x hx]) (fun x hx => by rw [gUp_ne (by decide), u11 80 (by decide), u10 80 (by decide), u9 80 (by decide), u8 80 (by decide), u7 80 (by decide), u6 80 (by decide), u5 80 (by decide), u4 80 (by decide), u3 80 (by decide), v2 x hx, u1 6 (by decide)]) (fun x hx => by rw [gUp_ne (by decide), u11 81 (by decide), u10 81 (by decide), u9 81 (by decide), u8 81 (by decide), u7 81 (by decide), u6 81 (by decide), u5 81 (by decide), u4 81 (by decide), v3 x hx, u2 7 (by decide), u1 7 (by decide)]) (fun x hx => by rw [gUp_ne (by decide), u11 82 (by decide), u10 82 (by decide), u9 82 (by decide), u8 82 (by decide), u7 82 (by decide), u6 82 (by decide), u5 82 (by decide), v4 x hx, u3 8 (by decide), u2 8 (by decide), u1 8 (by decide)]) (fun x hx => by rw [gUp_ne (by decide), u11 83 (by decide), u10 83 (by decide), u9 83 (by decide), u8 83 (by decide), u7 83 (by decide), u6 83 (by decide), v5 x hx, u4 9 (by decide), u3 9 (by decide), u2 9 (by decide), u1 9 (by decide)]) (fun x hx => by rw [gUp_ne (by decide), u11 84 (by decide), u10 84 (by decide), u9 84 (by decide), u8 84 (by decide), u7 84 (by decide), v6 x hx, u5 10 (by decide), u4 10 (by decide), u3 10 (by decide), u2 10 (by decide), u1 10 (by decide)]) (fun x hx => by rw [gUp_ne (by decide), u11 85 (by decide), u10 85 (by decide), u9 85 (by decide), u8 85 (by decide), v7 x hx, u6 11 (by decide), u5 11 (by decide), u4 11 (by decide), u3 11 (by decide), u2 11 (by decide), u1 11 (by decide)]) (fun x hx => by rw [gUp_ne (by decide), u11 86 (by decide), u10 86 (by decide), u9 86 (by decide), v8 x hx, u7 12 (by decide), u6 12 (by decide), u5 12 (by decide), u4 12 (by decide), u3 12 (by decide), u2 12 (by decide), u1 12 (by decide)]) (fun x hx => by rw [gUp_ne (by decide), u11 87 (by decide), u10 87 (by decide), v9 x hx, u8 13 (by decide), u7 13 (by decide), u6 13 (by decide), u5 13 (by decide), u4 13 (by decide), u3 13 (by decide), u2 13 (by decide), u1 13 (by decide)]) (fun x hx => by rw [gUp_ne (by decide), u11 88 (by decide), v10 x hx, u9 14 (by decide), u8 14 (by decide), u7 14 (by decide), u6 14 (by decide), u5 14 (by decide), u4 14 (by decide), u3 14 (by decide), u2 14 (by decide), u1 14 (by decide)]) (fun x hx => by rw [gUp_ne (by decide), v11 x hx, u10 15 (by decide), u9 15 (by decide), u8 15 (by decide), u7 15 (by decide), u6 15 (by decide), u5 15 (by decide), u4 15 (by decide), u3 15 (by decide), u2 15 (by decide), u1 15 (by decide)]) ?_, ?_⟩
  · rw [gUp_c, if_pos rfl, u11 4 (by decide), u10 4 (by decide), u9 4 (by decide), u8 4 (by decide), u7 4 (by decide), u6 4 (by decide), u5 4 (by decide), u4 4 (by decide), u3 4 (by decide), u2 4 (by decide), u1 4 (by decide)]
  · exact Sm.up (by decide) (Sm.trans (Sm.trans (Sm.trans (Sm.trans (Sm.trans (Sm.trans (Sm.trans (Sm.trans (Sm.trans (Sm.trans (u1.mono (by decide)) (u2.mono (by decide))) (u3.mono (by decide))) (u4.mono (by decide))) (u5.mono (by decide))) (u6.mono (by decide))) (u7.mono (by decide))) (u8.mono (by decide))) (u9.mono (by decide))) (u10.mono (by decide))) (u11.mono (by decide)))
theorem m_X1_take_90_4 (hS : Snap I 4 V C) (hW : WF V) : gRv G YX1_takeOver d [.ref 90, .ref 4] n I L D (fun J => Snap J 90 V C ∧ Sm [90, 91, 92, 93, 94, 95, 96, 97, 98, 99, 100, 101] I J) := by
  refine g_aload_n (pc := 0) dX1_takeOver_0 rfl rfl ?_
  refine g_getR (pc := 1) dX1_takeOver_1 fl_X1_9 s_4 (by decide) rfl t_4_0 ?_
  refine g_iconst (v := nI 0) (pc := 4) dX1_takeOver_4 rfl ?_
  refine g_aload_n (pc := 5) dX1_takeOver_5 rfl rfl ?_
  refine g_getR (pc := 6) dX1_takeOver_6 fl_X1_9 s_90 (by decide) rfl t_90_0 ?_
  refine g_iconst (v := nI 0) (pc := 9) dX1_takeOver_9 rfl ?_
  refine g_sipush (v := nI 240) (pc := 10) dX1_takeOver_10 rfl ?_
  refine g_copyN (N := 240) (pc := 13) dX1_takeOver_13 lkc_X1 s_91 (by decide) s_5 (by decide) (by decide) (by decide) (by decide) (Nat.le_of_ble_eq_true rfl) ?_
  intro J1 u1 v1
  refine g_aload_n (pc := 16) dX1_takeOver_16 rfl rfl ?_
  refine g_getR (pc := 17) dX1_takeOver_17 fl_X1_15 s_4 (by decide) rfl t_4_1 ?_
  refine g_iconst (v := nI 0) (pc := 20) dX1_takeOver_20 rfl ?_
  refine g_aload_n (pc := 21) dX1_takeOver_21 rfl rfl ?_
  refine g_getR (pc := 22) dX1_takeOver_22 fl_X1_15 s_90 (by decide) rfl t_90_1 ?_
  refine g_iconst (v := nI 0) (pc := 25) dX1_takeOver_25 rfl ?_
  refine g_sipush (v := nI 240) (pc := 26) dX1_takeOver_26 rfl ?_
  refine g_copyN (N := 240) (pc := 29) dX1_takeOver_29 lkc_X1 s_92 (by decide) s_6 (by decide) (by decide) (by decide) (by decide) (Nat.le_of_ble_eq_true rfl) ?_
  intro J2 u2 v2
  refine g_aload_n (pc := 32) dX1_takeOver_32 rfl rfl ?_
  refine g_getR (pc := 33) dX1_takeOver_33 fl_X1_18 s_4 (by decide) rfl t_4_2 ?_
  refine g_iconst (v := nI 0) (pc := 36) dX1_takeOver_36 rfl ?_
  refine g_aload_n (pc := 37) dX1_takeOver_37 rfl rfl ?_
  refine g_getR (pc := 38) dX1_takeOver_38 fl_X1_18 s_90 (by decide) rfl t_90_2 ?_
  refine g_iconst (v := nI 0) (pc := 41) dX1_takeOver_41 rfl ?_
  refine g_sipush (v := nI 240) (pc := 42) dX1_takeOver_42 rfl ?_
  refine g_copyN (N := 240) (pc := 45) dX1_takeOver_45 lkc_X1 s_93 (by decide) s_7 (by decide) (by decide) (by decide) (by decide) (Nat.le_of_ble_eq_true rfl) ?_
  intro J3 u3 v3
  refine g_aload_n (pc := 48) dX1_takeOver_48 rfl rfl ?_
  refine g_getR (pc := 49) dX1_takeOver_49 fl_X1_21 s_4 (by decide) rfl t_4_3 ?_
  refine g_iconst (v := nI 0) (pc := 52) dX1_takeOver_52 rfl ?_
  refine g_aload_n (pc := 53) dX1_takeOver_53 rfl rfl ?_
  refine g_getR (pc := 54) dX1_takeOver_54 fl_X1_21 s_90 (by decide) rfl t_90_3 ?_
  refine g_iconst (v := nI 0) (pc := 57) dX1_takeOver_57 rfl ?_
  refine g_bipush (v := nI 8) (pc := 58) dX1_takeOver_58 rfl ?_
  refine g_copyN (N := 8) (pc := 60) dX1_takeOver_60 lkc_X1 s_94 (by decide) s_8 (by decide) (by decide) (by decide) (by decide) (Nat.le_of_ble_eq_true rfl) ?_
  intro J4 u4 v4
  refine g_aload_n (pc := 63) dX1_takeOver_63 rfl rfl ?_
  refine g_getR (pc := 64) dX1_takeOver_64 fl_X1_24 s_4 (by decide) rfl t_4_4 ?_
  refine g_iconst (v := nI 0) (pc := 67) dX1_takeOver_67 rfl ?_
  refine g_aload_n (pc := 68) dX1_takeOver_68 rfl rfl ?_
  refine g_getR (pc := 69) dX1_takeOver_69 fl_X1_24 s_90 (by decide) rfl t_90_4 ?_
  refine g_iconst (v := nI 0) (pc := 72) dX1_takeOver_72 rfl ?_
  refine g_bipush (v := nI 8) (pc := 73) dX1_takeOver_73 rfl ?_
  refine g_copyN (N := 8) (pc := 75) dX1_takeOver_75 lkc_X1 s_95 (by decide) s_9 (by decide) (by decide) (by decide) (by decide) (Nat.le_of_ble_eq_true rfl) ?_
  intro J5 u5 v5
  refine g_aload_n (pc := 78) dX1_takeOver_78 rfl rfl ?_
  refine g_getR (pc := 79) dX1_takeOver_79 fl_X1_27 s_4 (by decide) rfl t_4_5 ?_
  refine g_iconst (v := nI 0) (pc := 82) dX1_takeOver_82 rfl ?_
  refine g_aload_n (pc := 83) dX1_takeOver_83 rfl rfl ?_
  refine g_getR (pc := 84) dX1_takeOver_84 fl_X1_27 s_90 (by decide) rfl t_90_5 ?_
  refine g_iconst (v := nI 0) (pc := 87) dX1_takeOver_87 rfl ?_
  refine g_bipush (v := nI 8) (pc := 88) dX1_takeOver_88 rfl ?_
  refine g_copyN (N := 8) (pc := 90) dX1_takeOver_90 lkc_X1 s_96 (by decide) s_10 (by decide) (by decide) (by decide) (by decide) (Nat.le_of_ble_eq_true rfl) ?_
  intro J6 u6 v6
  refine g_aload_n (pc := 93) dX1_takeOver_93 rfl rfl ?_
  refine g_getR (pc := 94) dX1_takeOver_94 fl_X1_30 s_4 (by decide) rfl t_4_6 ?_
  refine g_iconst (v := nI 0) (pc := 97) dX1_takeOver_97 rfl ?_
  refine g_aload_n (pc := 98) dX1_takeOver_98 rfl rfl ?_
  refine g_getR (pc := 99) dX1_takeOver_99 fl_X1_30 s_90 (by decide) rfl t_90_6 ?_
  refine g_iconst (v := nI 0) (pc := 102) dX1_takeOver_102 rfl ?_
  refine g_bipush (v := nI 8) (pc := 103) dX1_takeOver_103 rfl ?_
  refine g_copyN (N := 8) (pc := 105) dX1_takeOver_105 lkc_X1 s_97 (by decide) s_11 (by decide) (by decide) (by decide) (by decide) (Nat.le_of_ble_eq_true rfl) ?_
  intro J7 u7 v7
  refine g_aload_n (pc := 108) dX1_takeOver_108 rfl rfl ?_
  refine g_getR (pc := 109) dX1_takeOver_109 fl_X1_33 s_4 (by decide) rfl t_4_7 ?_
  refine g_iconst (v := nI 0) (pc := 112) dX1_takeOver_112 rfl ?_
  refine g_aload_n (pc := 113) dX1_takeOver_113 rfl rfl ?_
  refine g_getR (pc := 114) dX1_takeOver_114 fl_X1_33 s_90 (by decide) rfl t_90_7 ?_
  refine g_iconst (v := nI 0) (pc := 117) dX1_takeOver_117 rfl ?_
  refine g_bipush (v := nI 8) (pc := 118) dX1_takeOver_118 rfl ?_
  refine g_copyN (N := 8) (pc := 120) dX1_takeOver_120 lkc_X1 s_98 (by decide) s_12 (by decide) (by decide) (by decide) (by decide) (Nat.le_of_ble_eq_true rfl) ?_
  intro J8 u8 v8
  refine g_aload_n (pc := 123) dX1_takeOver_123 rfl rfl ?_
  refine g_getR (pc := 124) dX1_takeOver_124 fl_X1_36 s_4 (by decide) rfl t_4_8 ?_
  refine g_iconst (v := nI 0) (pc := 127) dX1_takeOver_127 rfl ?_
  refine g_aload_n (pc := 128) dX1_takeOver_128 rfl rfl ?_
  refine g_getR (pc := 129) dX1_takeOver_129 fl_X1_36 s_90 (by decide) rfl t_90_8 ?_
  refine g_iconst (v := nI 0) (pc := 132) dX1_takeOver_132 rfl ?_
  refine g_bipush (v := nI 8) (pc := 133) dX1_takeOver_133 rfl ?_
  refine g_copyN (N := 8) (pc := 135) dX1_takeOver_135 lkc_X1 s_99 (by decide) s_13 (by decide) (by decide) (by decide) (by decide) (Nat.le_of_ble_eq_true rfl) ?_
  intro J9 u9 v9
  refine g_aload_n (pc := 138) dX1_takeOver_138 rfl rfl ?_
  refine g_getR (pc := 139) dX1_takeOver_139 fl_X1_39 s_4 (by decide) rfl t_4_9 ?_
  refine g_iconst (v := nI 0) (pc := 142) dX1_takeOver_142 rfl ?_
  refine g_aload_n (pc := 143) dX1_takeOver_143 rfl rfl ?_
  refine g_getR (pc := 144) dX1_takeOver_144 fl_X1_39 s_90 (by decide) rfl t_90_9 ?_
  refine g_iconst (v := nI 0) (pc := 147) dX1_takeOver_147 rfl ?_
  refine g_bipush (v := nI 8) (pc := 148) dX1_takeOver_148 rfl ?_
  refine g_copyN (N := 8) (pc := 150) dX1_takeOver_150 lkc_X1 s_100 (by decide) s_14 (by decide) (by decide) (by decide) (by decide) (Nat.le_of_ble_eq_true rfl) ?_
  intro J10 u10 v10
  refine g_aload_n (pc := 153) dX1_takeOver_153 rfl rfl ?_
  refine g_getR (pc := 154) dX1_takeOver_154 fl_X1_42 s_4 (by decide) rfl t_4_10 ?_
  refine g_iconst (v := nI 0) (pc := 157) dX1_takeOver_157 rfl ?_
  refine g_aload_n (pc := 158) dX1_takeOver_158 rfl rfl ?_
  refine g_getR (pc := 159) dX1_takeOver_159 fl_X1_42 s_90 (by decide) rfl t_90_10 ?_
  refine g_iconst (v := nI 0) (pc := 162) dX1_takeOver_162 rfl ?_
  refine g_bipush (v := nI 32) (pc := 163) dX1_takeOver_163 rfl ?_
  refine g_copyN (N := 32) (pc := 165) dX1_takeOver_165 lkc_X1 s_101 (by decide) s_15 (by decide) (by decide) (by decide) (by decide) (Nat.le_of_ble_eq_true rfl) ?_
  intro J11 u11 v11
  refine g_aload_n (pc := 168) dX1_takeOver_168 rfl rfl ?_
  refine g_aload_n (pc := 169) dX1_takeOver_169 rfl rfl ?_
  refine g_getI (pc := 170) dX1_takeOver_170 fl_X1_45 s_4 (by decide) rfl ?_
  refine g_putI (pc := 173) dX1_takeOver_173 fl_X1_45 s_90 (by decide) rfl rfl rfl rfl ?_
  refine g_vret (pc := 176) dX1_takeOver_176 rfl ?_
  refine ⟨_, ⟨rfl, rfl⟩, ?_⟩
  refine ⟨hS.copy hW.bl4 (fun x hx => by rw [gUp_ne (by decide), u11 91 (by decide), u10 91 (by decide), u9 91 (by decide), u8 91 (by decide), u7 91 (by decide), u6 91 (by decide), u5 91 (by decide), u4 91 (by decide), u3 91 (by decide), u2 91 (by decide), v1 x hx]) (fun x hx => by rw [gUp_ne (by decide), u11 92 (by decide), u10 92 (by decide), u9 92 (by decide), u8 92 (by decide), u7 92 (by decide), u6 92 (by decide), u5 92 (by decide), u4 92 (by decide), u3 92 (by decide), v2 x hx, u1 6 (by decide)]) (fun x hx => by rw [gUp_ne (by decide), u11 93 (by decide), u10 93 (by decide), u9 93 (by decide), u8 93 (by decide), u7 93 (by decide), u6 93 (by decide), u5 93 (by decide), u4 93 (by decide), v3 x hx, u2 7 (by decide), u1 7 (by decide)]) (fun x hx => by rw [gUp_ne (by decide), u11 94 (by decide), u10 94 (by decide), u9 94 (by decide), u8 94 (by decide), u7 94 (by decide), u6 94 (by decide), u5 94 (by decide), v4 x hx, u3 8 (by decide), u2 8 (by decide), u1 8 (by decide)]) (fun x hx => by rw [gUp_ne (by decide), u11 95 (by decide), u10 95 (by decide), u9 95 (by decide), u8 95 (by decide), u7 95 (by decide), u6 95 (by decide), v5 x hx, u4 9 (by decide), u3 9 (by decide), u2 9 (by decide), u1 9 (by decide)]) (fun x hx => by rw [gUp_ne (by decide), u11 96 (by decide), u10 96 (by decide), u9 96 (by decide), u8 96 (by decide), u7 96 (by decide), v6 x hx, u5 10 (by decide), u4 10 (by decide), u3 10 (by decide), u2 10 (by decide), u1 10 (by decide)]) (fun x hx => by rw [gUp_ne (by decide), u11 97 (by decide), u10 97 (by decide), u9 97 (by decide), u8 97 (by decide), v7 x hx, u6 11 (by decide), u5 11 (by decide), u4 11 (by decide), u3 11 (by decide), u2 11 (by decide), u1 11 (by decide)]) (fun x hx => by rw [gUp_ne (by decide), u11 98 (by decide), u10 98 (by decide), u9 98 (by decide), v8 x hx, u7 12 (by decide), u6 12 (by decide), u5 12 (by decide), u4 12 (by decide), u3 12 (by decide), u2 12 (by decide), u1 12 (by decide)]) (fun x hx => by rw [gUp_ne (by decide), u11 99 (by decide), u10 99 (by decide), v9 x hx, u8 13 (by decide), u7 13 (by decide), u6 13 (by decide), u5 13 (by decide), u4 13 (by decide), u3 13 (by decide), u2 13 (by decide), u1 13 (by decide)]) (fun x hx => by rw [gUp_ne (by decide), u11 100 (by decide), v10 x hx, u9 14 (by decide), u8 14 (by decide), u7 14 (by decide), u6 14 (by decide), u5 14 (by decide), u4 14 (by decide), u3 14 (by decide), u2 14 (by decide), u1 14 (by decide)]) (fun x hx => by rw [gUp_ne (by decide), v11 x hx, u10 15 (by decide), u9 15 (by decide), u8 15 (by decide), u7 15 (by decide), u6 15 (by decide), u5 15 (by decide), u4 15 (by decide), u3 15 (by decide), u2 15 (by decide), u1 15 (by decide)]) ?_, ?_⟩
  · rw [gUp_c, if_pos rfl, u11 4 (by decide), u10 4 (by decide), u9 4 (by decide), u8 4 (by decide), u7 4 (by decide), u6 4 (by decide), u5 4 (by decide), u4 4 (by decide), u3 4 (by decide), u2 4 (by decide), u1 4 (by decide)]
  · exact Sm.up (by decide) (Sm.trans (Sm.trans (Sm.trans (Sm.trans (Sm.trans (Sm.trans (Sm.trans (Sm.trans (Sm.trans (Sm.trans (u1.mono (by decide)) (u2.mono (by decide))) (u3.mono (by decide))) (u4.mono (by decide))) (u5.mono (by decide))) (u6.mono (by decide))) (u7.mono (by decide))) (u8.mono (by decide))) (u9.mono (by decide))) (u10.mono (by decide))) (u11.mono (by decide)))
theorem m_X1_take_102_4 (hS : Snap I 4 V C) (hW : WF V) : gRv G YX1_takeOver d [.ref 102, .ref 4] n I L D (fun J => Snap J 102 V C ∧ Sm [102, 103, 104, 105, 106, 107, 108, 109, 110, 111, 112, 113] I J) := by
  refine g_aload_n (pc := 0) dX1_takeOver_0 rfl rfl ?_
  refine g_getR (pc := 1) dX1_takeOver_1 fl_X1_9 s_4 (by decide) rfl t_4_0 ?_
  refine g_iconst (v := nI 0) (pc := 4) dX1_takeOver_4 rfl ?_
  refine g_aload_n (pc := 5) dX1_takeOver_5 rfl rfl ?_
  refine g_getR (pc := 6) dX1_takeOver_6 fl_X1_9 s_102 (by decide) rfl t_102_0 ?_
  refine g_iconst (v := nI 0) (pc := 9) dX1_takeOver_9 rfl ?_
  refine g_sipush (v := nI 240) (pc := 10) dX1_takeOver_10 rfl ?_
  refine g_copyN (N := 240) (pc := 13) dX1_takeOver_13 lkc_X1 s_103 (by decide) s_5 (by decide) (by decide) (by decide) (by decide) (Nat.le_of_ble_eq_true rfl) ?_
  intro J1 u1 v1
  refine g_aload_n (pc := 16) dX1_takeOver_16 rfl rfl ?_
  refine g_getR (pc := 17) dX1_takeOver_17 fl_X1_15 s_4 (by decide) rfl t_4_1 ?_
  refine g_iconst (v := nI 0) (pc := 20) dX1_takeOver_20 rfl ?_
  refine g_aload_n (pc := 21) dX1_takeOver_21 rfl rfl ?_
  refine g_getR (pc := 22) dX1_takeOver_22 fl_X1_15 s_102 (by decide) rfl t_102_1 ?_
  refine g_iconst (v := nI 0) (pc := 25) dX1_takeOver_25 rfl ?_
  refine g_sipush (v := nI 240) (pc := 26) dX1_takeOver_26 rfl ?_
  refine g_copyN (N := 240) (pc := 29) dX1_takeOver_29 lkc_X1 s_104 (by decide) s_6 (by decide) (by decide) (by decide) (by decide) (Nat.le_of_ble_eq_true rfl) ?_
  intro J2 u2 v2
  refine g_aload_n (pc := 32) dX1_takeOver_32 rfl rfl ?_
  refine g_getR (pc := 33) dX1_takeOver_33 fl_X1_18 s_4 (by decide) rfl t_4_2 ?_
  refine g_iconst (v := nI 0) (pc := 36) dX1_takeOver_36 rfl ?_
  refine g_aload_n (pc := 37) dX1_takeOver_37 rfl rfl ?_
  refine g_getR (pc := 38) dX1_takeOver_38 fl_X1_18 s_102 (by decide) rfl t_102_2 ?_
  refine g_iconst (v := nI 0) (pc := 41) dX1_takeOver_41 rfl ?_
  refine g_sipush (v := nI 240) (pc := 42) dX1_takeOver_42 rfl ?_
  refine g_copyN (N := 240) (pc := 45) dX1_takeOver_45 lkc_X1 s_105 (by decide) s_7 (by decide) (by decide) (by decide) (by decide) (Nat.le_of_ble_eq_true rfl) ?_
  intro J3 u3 v3
  refine g_aload_n (pc := 48) dX1_takeOver_48 rfl rfl ?_
  refine g_getR (pc := 49) dX1_takeOver_49 fl_X1_21 s_4 (by decide) rfl t_4_3 ?_
  refine g_iconst (v := nI 0) (pc := 52) dX1_takeOver_52 rfl ?_
  refine g_aload_n (pc := 53) dX1_takeOver_53 rfl rfl ?_
  refine g_getR (pc := 54) dX1_takeOver_54 fl_X1_21 s_102 (by decide) rfl t_102_3 ?_
  refine g_iconst (v := nI 0) (pc := 57) dX1_takeOver_57 rfl ?_
  refine g_bipush (v := nI 8) (pc := 58) dX1_takeOver_58 rfl ?_
  refine g_copyN (N := 8) (pc := 60) dX1_takeOver_60 lkc_X1 s_106 (by decide) s_8 (by decide) (by decide) (by decide) (by decide) (Nat.le_of_ble_eq_true rfl) ?_
  intro J4 u4 v4
  refine g_aload_n (pc := 63) dX1_takeOver_63 rfl rfl ?_
  refine g_getR (pc := 64) dX1_takeOver_64 fl_X1_24 s_4 (by decide) rfl t_4_4 ?_
  refine g_iconst (v := nI 0) (pc := 67) dX1_takeOver_67 rfl ?_
  refine g_aload_n (pc := 68) dX1_takeOver_68 rfl rfl ?_
  refine g_getR (pc := 69) dX1_takeOver_69 fl_X1_24 s_102 (by decide) rfl t_102_4 ?_
  refine g_iconst (v := nI 0) (pc := 72) dX1_takeOver_72 rfl ?_
  refine g_bipush (v := nI 8) (pc := 73) dX1_takeOver_73 rfl ?_
  refine g_copyN (N := 8) (pc := 75) dX1_takeOver_75 lkc_X1 s_107 (by decide) s_9 (by decide) (by decide) (by decide) (by decide) (Nat.le_of_ble_eq_true rfl) ?_
  intro J5 u5 v5
  refine g_aload_n (pc := 78) dX1_takeOver_78 rfl rfl ?_
  refine g_getR (pc := 79) dX1_takeOver_79 fl_X1_27 s_4 (by decide) rfl t_4_5 ?_
  refine g_iconst (v := nI 0) (pc := 82) dX1_takeOver_82 rfl ?_
  refine g_aload_n (pc := 83) dX1_takeOver_83 rfl rfl ?_
  refine g_getR (pc := 84) dX1_takeOver_84 fl_X1_27 s_102 (by decide) rfl t_102_5 ?_
  refine g_iconst (v := nI 0) (pc := 87) dX1_takeOver_87 rfl ?_
  refine g_bipush (v := nI 8) (pc := 88) dX1_takeOver_88 rfl ?_
  refine g_copyN (N := 8) (pc := 90) dX1_takeOver_90 lkc_X1 s_108 (by decide) s_10 (by decide) (by decide) (by decide) (by decide) (Nat.le_of_ble_eq_true rfl) ?_
  intro J6 u6 v6
  refine g_aload_n (pc := 93) dX1_takeOver_93 rfl rfl ?_
  refine g_getR (pc := 94) dX1_takeOver_94 fl_X1_30 s_4 (by decide) rfl t_4_6 ?_
  refine g_iconst (v := nI 0) (pc := 97) dX1_takeOver_97 rfl ?_
  refine g_aload_n (pc := 98) dX1_takeOver_98 rfl rfl ?_
  refine g_getR (pc := 99) dX1_takeOver_99 fl_X1_30 s_102 (by decide) rfl t_102_6 ?_
  refine g_iconst (v := nI 0) (pc := 102) dX1_takeOver_102 rfl ?_
  refine g_bipush (v := nI 8) (pc := 103) dX1_takeOver_103 rfl ?_
  refine g_copyN (N := 8) (pc := 105) dX1_takeOver_105 lkc_X1 s_109 (by decide) s_11 (by decide) (by decide) (by decide) (by decide) (Nat.le_of_ble_eq_true rfl) ?_
  intro J7 u7 v7
  refine g_aload_n (pc := 108) dX1_takeOver_108 rfl rfl ?_
  refine g_getR (pc := 109) dX1_takeOver_109 fl_X1_33 s_4 (by decide) rfl t_4_7 ?_
  refine g_iconst (v := nI 0) (pc := 112) dX1_takeOver_112 rfl ?_
  refine g_aload_n (pc := 113) dX1_takeOver_113 rfl rfl ?_
  refine g_getR (pc := 114) dX1_takeOver_114 fl_X1_33 s_102 (by decide) rfl t_102_7 ?_
  refine g_iconst (v := nI 0) (pc := 117) dX1_takeOver_117 rfl ?_
  refine g_bipush (v := nI 8) (pc := 118) dX1_takeOver_118 rfl ?_
  refine g_copyN (N := 8) (pc := 120) dX1_takeOver_120 lkc_X1 s_110 (by decide) s_12 (by decide) (by decide) (by decide) (by decide) (Nat.le_of_ble_eq_true rfl) ?_
  intro J8 u8 v8
  refine g_aload_n (pc := 123) dX1_takeOver_123 rfl rfl ?_
  refine g_getR (pc := 124) dX1_takeOver_124 fl_X1_36 s_4 (by decide) rfl t_4_8 ?_
  refine g_iconst (v := nI 0) (pc := 127) dX1_takeOver_127 rfl ?_
  refine g_aload_n (pc := 128) dX1_takeOver_128 rfl rfl ?_
  refine g_getR (pc := 129) dX1_takeOver_129 fl_X1_36 s_102 (by decide) rfl t_102_8 ?_
  refine g_iconst (v := nI 0) (pc := 132) dX1_takeOver_132 rfl ?_
  refine g_bipush (v := nI 8) (pc := 133) dX1_takeOver_133 rfl ?_
  refine g_copyN (N := 8) (pc := 135) dX1_takeOver_135 lkc_X1 s_111 (by decide) s_13 (by decide) (by decide) (by decide) (by decide) (Nat.le_of_ble_eq_true rfl) ?_
  intro J9 u9 v9
  refine g_aload_n (pc := 138) dX1_takeOver_138 rfl rfl ?_
  refine g_getR (pc := 139) dX1_takeOver_139 fl_X1_39 s_4 (by decide) rfl t_4_9 ?_
  refine g_iconst (v := nI 0) (pc := 142) dX1_takeOver_142 rfl ?_
  refine g_aload_n (pc := 143) dX1_takeOver_143 rfl rfl ?_
  refine g_getR (pc := 144) dX1_takeOver_144 fl_X1_39 s_102 (by decide) rfl t_102_9 ?_
  refine g_iconst (v := nI 0) (pc := 147) dX1_takeOver_147 rfl ?_
  refine g_bipush (v := nI 8) (pc := 148) dX1_takeOver_148 rfl ?_
  refine g_copyN (N := 8) (pc := 150) dX1_takeOver_150 lkc_X1 s_112 (by decide) s_14 (by decide) (by decide) (by decide) (by decide) (Nat.le_of_ble_eq_true rfl) ?_
  intro J10 u10 v10
  refine g_aload_n (pc := 153) dX1_takeOver_153 rfl rfl ?_
  refine g_getR (pc := 154) dX1_takeOver_154 fl_X1_42 s_4 (by decide) rfl t_4_10 ?_
  refine g_iconst (v := nI 0) (pc := 157) dX1_takeOver_157 rfl ?_
  refine g_aload_n (pc := 158) dX1_takeOver_158 rfl rfl ?_
  refine g_getR (pc := 159) dX1_takeOver_159 fl_X1_42 s_102 (by decide) rfl t_102_10 ?_
  refine g_iconst (v := nI 0) (pc := 162) dX1_takeOver_162 rfl ?_
  refine g_bipush (v := nI 32) (pc := 163) dX1_takeOver_163 rfl ?_
  refine g_copyN (N := 32) (pc := 165) dX1_takeOver_165 lkc_X1 s_113 (by decide) s_15 (by decide) (by decide) (by decide) (by decide) (Nat.le_of_ble_eq_true rfl) ?_
  intro J11 u11 v11
  refine g_aload_n (pc := 168) dX1_takeOver_168 rfl rfl ?_
  refine g_aload_n (pc := 169) dX1_takeOver_169 rfl rfl ?_
  refine g_getI (pc := 170) dX1_takeOver_170 fl_X1_45 s_4 (by decide) rfl ?_
  refine g_putI (pc := 173) dX1_takeOver_173 fl_X1_45 s_102 (by decide) rfl rfl rfl rfl ?_
  refine g_vret (pc := 176) dX1_takeOver_176 rfl ?_
  refine ⟨_, ⟨rfl, rfl⟩, ?_⟩
  refine ⟨hS.copy hW.bl4 (fun x hx => by rw [gUp_ne (by decide), u11 103 (by decide), u10 103 (by decide), u9 103 (by decide), u8 103 (by decide), u7 103 (by decide), u6 103 (by decide), u5 103 (by decide), u4 103 (by decide), u3 103 (by decide), u2 103 (by decide), v1 x hx]) (fun x hx => by rw [gUp_ne (by decide), u11 104 (by decide), u10 104 (by decide), u9 104 (by decide), u8 104 (by decide), u7 104 (by decide), u6 104 (by decide), u5 104 (by decide), u4 104 (by decide), u3 104 (by decide), v2 x hx, u1 6 (by decide)]) (fun x hx => by rw [gUp_ne (by decide), u11 105 (by decide), u10 105 (by decide), u9 105 (by decide), u8 105 (by decide), u7 105 (by decide), u6 105 (by decide), u5 105 (by decide), u4 105 (by decide), v3 x hx, u2 7 (by decide), u1 7 (by decide)]) (fun x hx => by rw [gUp_ne (by decide), u11 106 (by decide), u10 106 (by decide), u9 106 (by decide), u8 106 (by decide), u7 106 (by decide), u6 106 (by decide), u5 106 (by decide), v4 x hx, u3 8 (by decide), u2 8 (by decide), u1 8 (by decide)]) (fun x hx => by rw [gUp_ne (by decide), u11 107 (by decide), u10 107 (by decide), u9 107 (by decide), u8 107 (by decide), u7 107 (by decide), u6 107 (by decide), v5 x hx, u4 9 (by decide), u3 9 (by decide), u2 9 (by decide), u1 9 (by decide)]) (fun x hx => by rw [gUp_ne (by decide), u11 108 (by decide), u10 108 (by decide), u9 108 (by decide), u8 108 (by decide), u7 108 (by decide), v6 x hx, u5 10 (by decide), u4 10 (by decide), u3 10 (by decide), u2 10 (by decide), u1 10 (by decide)]) (fun x hx => by rw [gUp_ne (by decide), u11 109 (by decide), u10 109 (by decide), u9 109 (by decide), u8 109 (by decide), v7 x hx, u6 11 (by decide), u5 11 (by decide), u4 11 (by decide), u3 11 (by decide), u2 11 (by decide), u1 11 (by decide)]) (fun x hx => by rw [gUp_ne (by decide), u11 110 (by decide), u10 110 (by decide), u9 110 (by decide), v8 x hx, u7 12 (by decide), u6 12 (by decide), u5 12 (by decide), u4 12 (by decide), u3 12 (by decide), u2 12 (by decide), u1 12 (by decide)]) (fun x hx => by rw [gUp_ne (by decide), u11 111 (by decide), u10 111 (by decide), v9 x hx, u8 13 (by decide), u7 13 (by decide), u6 13 (by decide), u5 13 (by decide), u4 13 (by decide), u3 13 (by decide), u2 13 (by decide), u1 13 (by decide)]) (fun x hx => by rw [gUp_ne (by decide), u11 112 (by decide), v10 x hx, u9 14 (by decide), u8 14 (by decide), u7 14 (by decide), u6 14 (by decide), u5 14 (by decide), u4 14 (by decide), u3 14 (by decide), u2 14 (by decide), u1 14 (by decide)]) (fun x hx => by rw [gUp_ne (by decide), v11 x hx, u10 15 (by decide), u9 15 (by decide), u8 15 (by decide), u7 15 (by decide), u6 15 (by decide), u5 15 (by decide), u4 15 (by decide), u3 15 (by decide), u2 15 (by decide), u1 15 (by decide)]) ?_, ?_⟩
  · rw [gUp_c, if_pos rfl, u11 4 (by decide), u10 4 (by decide), u9 4 (by decide), u8 4 (by decide), u7 4 (by decide), u6 4 (by decide), u5 4 (by decide), u4 4 (by decide), u3 4 (by decide), u2 4 (by decide), u1 4 (by decide)]
  · exact Sm.up (by decide) (Sm.trans (Sm.trans (Sm.trans (Sm.trans (Sm.trans (Sm.trans (Sm.trans (Sm.trans (Sm.trans (Sm.trans (u1.mono (by decide)) (u2.mono (by decide))) (u3.mono (by decide))) (u4.mono (by decide))) (u5.mono (by decide))) (u6.mono (by decide))) (u7.mono (by decide))) (u8.mono (by decide))) (u9.mono (by decide))) (u10.mono (by decide))) (u11.mono (by decide)))
theorem m_X1_take_4_42 (hS : Snap I 42 V C) (hW : WF V) : gRv G YX1_takeOver d [.ref 4, .ref 42] n I L D (fun J => Snap J 4 V C ∧ Sm [4, 5, 6, 7, 8, 9, 10, 11, 12, 13, 14, 15] I J) := by
  refine g_aload_n (pc := 0) dX1_takeOver_0 rfl rfl ?_
  refine g_getR (pc := 1) dX1_takeOver_1 fl_X1_9 s_42 (by decide) rfl t_42_0 ?_
  refine g_iconst (v := nI 0) (pc := 4) dX1_takeOver_4 rfl ?_
  refine g_aload_n (pc := 5) dX1_takeOver_5 rfl rfl ?_
  refine g_getR (pc := 6) dX1_takeOver_6 fl_X1_9 s_4 (by decide) rfl t_4_0 ?_
  refine g_iconst (v := nI 0) (pc := 9) dX1_takeOver_9 rfl ?_
  refine g_sipush (v := nI 240) (pc := 10) dX1_takeOver_10 rfl ?_
  refine g_copyN (N := 240) (pc := 13) dX1_takeOver_13 lkc_X1 s_5 (by decide) s_43 (by decide) (by decide) (by decide) (by decide) (Nat.le_of_ble_eq_true rfl) ?_
  intro J1 u1 v1
  refine g_aload_n (pc := 16) dX1_takeOver_16 rfl rfl ?_
  refine g_getR (pc := 17) dX1_takeOver_17 fl_X1_15 s_42 (by decide) rfl t_42_1 ?_
  refine g_iconst (v := nI 0) (pc := 20) dX1_takeOver_20 rfl ?_
  refine g_aload_n (pc := 21) dX1_takeOver_21 rfl rfl ?_
  refine g_getR (pc := 22) dX1_takeOver_22 fl_X1_15 s_4 (by decide) rfl t_4_1 ?_
  refine g_iconst (v := nI 0) (pc := 25) dX1_takeOver_25 rfl ?_
  refine g_sipush (v := nI 240) (pc := 26) dX1_takeOver_26 rfl ?_
  refine g_copyN (N := 240) (pc := 29) dX1_takeOver_29 lkc_X1 s_6 (by decide) s_44 (by decide) (by decide) (by decide) (by decide) (Nat.le_of_ble_eq_true rfl) ?_
  intro J2 u2 v2
  refine g_aload_n (pc := 32) dX1_takeOver_32 rfl rfl ?_
  refine g_getR (pc := 33) dX1_takeOver_33 fl_X1_18 s_42 (by decide) rfl t_42_2 ?_
  refine g_iconst (v := nI 0) (pc := 36) dX1_takeOver_36 rfl ?_
  refine g_aload_n (pc := 37) dX1_takeOver_37 rfl rfl ?_
  refine g_getR (pc := 38) dX1_takeOver_38 fl_X1_18 s_4 (by decide) rfl t_4_2 ?_
  refine g_iconst (v := nI 0) (pc := 41) dX1_takeOver_41 rfl ?_
  refine g_sipush (v := nI 240) (pc := 42) dX1_takeOver_42 rfl ?_
  refine g_copyN (N := 240) (pc := 45) dX1_takeOver_45 lkc_X1 s_7 (by decide) s_45 (by decide) (by decide) (by decide) (by decide) (Nat.le_of_ble_eq_true rfl) ?_
  intro J3 u3 v3
  refine g_aload_n (pc := 48) dX1_takeOver_48 rfl rfl ?_
  refine g_getR (pc := 49) dX1_takeOver_49 fl_X1_21 s_42 (by decide) rfl t_42_3 ?_
  refine g_iconst (v := nI 0) (pc := 52) dX1_takeOver_52 rfl ?_
  refine g_aload_n (pc := 53) dX1_takeOver_53 rfl rfl ?_
  refine g_getR (pc := 54) dX1_takeOver_54 fl_X1_21 s_4 (by decide) rfl t_4_3 ?_
  refine g_iconst (v := nI 0) (pc := 57) dX1_takeOver_57 rfl ?_
  refine g_bipush (v := nI 8) (pc := 58) dX1_takeOver_58 rfl ?_
  refine g_copyN (N := 8) (pc := 60) dX1_takeOver_60 lkc_X1 s_8 (by decide) s_46 (by decide) (by decide) (by decide) (by decide) (Nat.le_of_ble_eq_true rfl) ?_
  intro J4 u4 v4
  refine g_aload_n (pc := 63) dX1_takeOver_63 rfl rfl ?_
  refine g_getR (pc := 64) dX1_takeOver_64 fl_X1_24 s_42 (by decide) rfl t_42_4 ?_
  refine g_iconst (v := nI 0) (pc := 67) dX1_takeOver_67 rfl ?_
  refine g_aload_n (pc := 68) dX1_takeOver_68 rfl rfl ?_
  refine g_getR (pc := 69) dX1_takeOver_69 fl_X1_24 s_4 (by decide) rfl t_4_4 ?_
  refine g_iconst (v := nI 0) (pc := 72) dX1_takeOver_72 rfl ?_
  refine g_bipush (v := nI 8) (pc := 73) dX1_takeOver_73 rfl ?_
  refine g_copyN (N := 8) (pc := 75) dX1_takeOver_75 lkc_X1 s_9 (by decide) s_47 (by decide) (by decide) (by decide) (by decide) (Nat.le_of_ble_eq_true rfl) ?_
  intro J5 u5 v5
  refine g_aload_n (pc := 78) dX1_takeOver_78 rfl rfl ?_
  refine g_getR (pc := 79) dX1_takeOver_79 fl_X1_27 s_42 (by decide) rfl t_42_5 ?_
  refine g_iconst (v := nI 0) (pc := 82) dX1_takeOver_82 rfl ?_
  refine g_aload_n (pc := 83) dX1_takeOver_83 rfl rfl ?_
  refine g_getR (pc := 84) dX1_takeOver_84 fl_X1_27 s_4 (by decide) rfl t_4_5 ?_
  refine g_iconst (v := nI 0) (pc := 87) dX1_takeOver_87 rfl ?_
  refine g_bipush (v := nI 8) (pc := 88) dX1_takeOver_88 rfl ?_
  refine g_copyN (N := 8) (pc := 90) dX1_takeOver_90 lkc_X1 s_10 (by decide) s_48 (by decide) (by decide) (by decide) (by decide) (Nat.le_of_ble_eq_true rfl) ?_
  intro J6 u6 v6
  refine g_aload_n (pc := 93) dX1_takeOver_93 rfl rfl ?_
  refine g_getR (pc := 94) dX1_takeOver_94 fl_X1_30 s_42 (by decide) rfl t_42_6 ?_
  refine g_iconst (v := nI 0) (pc := 97) dX1_takeOver_97 rfl ?_
  refine g_aload_n (pc := 98) dX1_takeOver_98 rfl rfl ?_
  refine g_getR (pc := 99) dX1_takeOver_99 fl_X1_30 s_4 (by decide) rfl t_4_6 ?_
  refine g_iconst (v := nI 0) (pc := 102) dX1_takeOver_102 rfl ?_
  refine g_bipush (v := nI 8) (pc := 103) dX1_takeOver_103 rfl ?_
  refine g_copyN (N := 8) (pc := 105) dX1_takeOver_105 lkc_X1 s_11 (by decide) s_49 (by decide) (by decide) (by decide) (by decide) (Nat.le_of_ble_eq_true rfl) ?_
  intro J7 u7 v7
  refine g_aload_n (pc := 108) dX1_takeOver_108 rfl rfl ?_
  refine g_getR (pc := 109) dX1_takeOver_109 fl_X1_33 s_42 (by decide) rfl t_42_7 ?_
  refine g_iconst (v := nI 0) (pc := 112) dX1_takeOver_112 rfl ?_
  refine g_aload_n (pc := 113) dX1_takeOver_113 rfl rfl ?_
  refine g_getR (pc := 114) dX1_takeOver_114 fl_X1_33 s_4 (by decide) rfl t_4_7 ?_
  refine g_iconst (v := nI 0) (pc := 117) dX1_takeOver_117 rfl ?_
  refine g_bipush (v := nI 8) (pc := 118) dX1_takeOver_118 rfl ?_
  refine g_copyN (N := 8) (pc := 120) dX1_takeOver_120 lkc_X1 s_12 (by decide) s_50 (by decide) (by decide) (by decide) (by decide) (Nat.le_of_ble_eq_true rfl) ?_
  intro J8 u8 v8
  refine g_aload_n (pc := 123) dX1_takeOver_123 rfl rfl ?_
  refine g_getR (pc := 124) dX1_takeOver_124 fl_X1_36 s_42 (by decide) rfl t_42_8 ?_
  refine g_iconst (v := nI 0) (pc := 127) dX1_takeOver_127 rfl ?_
  refine g_aload_n (pc := 128) dX1_takeOver_128 rfl rfl ?_
  refine g_getR (pc := 129) dX1_takeOver_129 fl_X1_36 s_4 (by decide) rfl t_4_8 ?_
  refine g_iconst (v := nI 0) (pc := 132) dX1_takeOver_132 rfl ?_
  refine g_bipush (v := nI 8) (pc := 133) dX1_takeOver_133 rfl ?_
  refine g_copyN (N := 8) (pc := 135) dX1_takeOver_135 lkc_X1 s_13 (by decide) s_51 (by decide) (by decide) (by decide) (by decide) (Nat.le_of_ble_eq_true rfl) ?_
  intro J9 u9 v9
  refine g_aload_n (pc := 138) dX1_takeOver_138 rfl rfl ?_
  refine g_getR (pc := 139) dX1_takeOver_139 fl_X1_39 s_42 (by decide) rfl t_42_9 ?_
  refine g_iconst (v := nI 0) (pc := 142) dX1_takeOver_142 rfl ?_
  refine g_aload_n (pc := 143) dX1_takeOver_143 rfl rfl ?_
  refine g_getR (pc := 144) dX1_takeOver_144 fl_X1_39 s_4 (by decide) rfl t_4_9 ?_
  refine g_iconst (v := nI 0) (pc := 147) dX1_takeOver_147 rfl ?_
  refine g_bipush (v := nI 8) (pc := 148) dX1_takeOver_148 rfl ?_
  refine g_copyN (N := 8) (pc := 150) dX1_takeOver_150 lkc_X1 s_14 (by decide) s_52 (by decide) (by decide) (by decide) (by decide) (Nat.le_of_ble_eq_true rfl) ?_
  intro J10 u10 v10
  refine g_aload_n (pc := 153) dX1_takeOver_153 rfl rfl ?_
  refine g_getR (pc := 154) dX1_takeOver_154 fl_X1_42 s_42 (by decide) rfl t_42_10 ?_
  refine g_iconst (v := nI 0) (pc := 157) dX1_takeOver_157 rfl ?_
  refine g_aload_n (pc := 158) dX1_takeOver_158 rfl rfl ?_
  refine g_getR (pc := 159) dX1_takeOver_159 fl_X1_42 s_4 (by decide) rfl t_4_10 ?_
  refine g_iconst (v := nI 0) (pc := 162) dX1_takeOver_162 rfl ?_
  refine g_bipush (v := nI 32) (pc := 163) dX1_takeOver_163 rfl ?_
  refine g_copyN (N := 32) (pc := 165) dX1_takeOver_165 lkc_X1 s_15 (by decide) s_53 (by decide) (by decide) (by decide) (by decide) (Nat.le_of_ble_eq_true rfl) ?_
  intro J11 u11 v11
  refine g_aload_n (pc := 168) dX1_takeOver_168 rfl rfl ?_
  refine g_aload_n (pc := 169) dX1_takeOver_169 rfl rfl ?_
  refine g_getI (pc := 170) dX1_takeOver_170 fl_X1_45 s_42 (by decide) rfl ?_
  refine g_putI (pc := 173) dX1_takeOver_173 fl_X1_45 s_4 (by decide) rfl rfl rfl rfl ?_
  refine g_vret (pc := 176) dX1_takeOver_176 rfl ?_
  refine ⟨_, ⟨rfl, rfl⟩, ?_⟩
  refine ⟨hS.copy hW.bl4 (fun x hx => by rw [gUp_ne (by decide), u11 5 (by decide), u10 5 (by decide), u9 5 (by decide), u8 5 (by decide), u7 5 (by decide), u6 5 (by decide), u5 5 (by decide), u4 5 (by decide), u3 5 (by decide), u2 5 (by decide), v1 x hx]) (fun x hx => by rw [gUp_ne (by decide), u11 6 (by decide), u10 6 (by decide), u9 6 (by decide), u8 6 (by decide), u7 6 (by decide), u6 6 (by decide), u5 6 (by decide), u4 6 (by decide), u3 6 (by decide), v2 x hx, u1 44 (by decide)]) (fun x hx => by rw [gUp_ne (by decide), u11 7 (by decide), u10 7 (by decide), u9 7 (by decide), u8 7 (by decide), u7 7 (by decide), u6 7 (by decide), u5 7 (by decide), u4 7 (by decide), v3 x hx, u2 45 (by decide), u1 45 (by decide)]) (fun x hx => by rw [gUp_ne (by decide), u11 8 (by decide), u10 8 (by decide), u9 8 (by decide), u8 8 (by decide), u7 8 (by decide), u6 8 (by decide), u5 8 (by decide), v4 x hx, u3 46 (by decide), u2 46 (by decide), u1 46 (by decide)]) (fun x hx => by rw [gUp_ne (by decide), u11 9 (by decide), u10 9 (by decide), u9 9 (by decide), u8 9 (by decide), u7 9 (by decide), u6 9 (by decide), v5 x hx, u4 47 (by decide), u3 47 (by decide), u2 47 (by decide), u1 47 (by decide)]) (fun x hx => by rw [gUp_ne (by decide), u11 10 (by decide), u10 10 (by decide), u9 10 (by decide), u8 10 (by decide), u7 10 (by decide), v6 x hx, u5 48 (by decide), u4 48 (by decide), u3 48 (by decide), u2 48 (by decide), u1 48 (by decide)]) (fun x hx => by rw [gUp_ne (by decide), u11 11 (by decide), u10 11 (by decide), u9 11 (by decide), u8 11 (by decide), v7 x hx, u6 49 (by decide), u5 49 (by decide), u4 49 (by decide), u3 49 (by decide), u2 49 (by decide), u1 49 (by decide)]) (fun x hx => by rw [gUp_ne (by decide), u11 12 (by decide), u10 12 (by decide), u9 12 (by decide), v8 x hx, u7 50 (by decide), u6 50 (by decide), u5 50 (by decide), u4 50 (by decide), u3 50 (by decide), u2 50 (by decide), u1 50 (by decide)]) (fun x hx => by rw [gUp_ne (by decide), u11 13 (by decide), u10 13 (by decide), v9 x hx, u8 51 (by decide), u7 51 (by decide), u6 51 (by decide), u5 51 (by decide), u4 51 (by decide), u3 51 (by decide), u2 51 (by decide), u1 51 (by decide)]) (fun x hx => by rw [gUp_ne (by decide), u11 14 (by decide), v10 x hx, u9 52 (by decide), u8 52 (by decide), u7 52 (by decide), u6 52 (by decide), u5 52 (by decide), u4 52 (by decide), u3 52 (by decide), u2 52 (by decide), u1 52 (by decide)]) (fun x hx => by rw [gUp_ne (by decide), v11 x hx, u10 53 (by decide), u9 53 (by decide), u8 53 (by decide), u7 53 (by decide), u6 53 (by decide), u5 53 (by decide), u4 53 (by decide), u3 53 (by decide), u2 53 (by decide), u1 53 (by decide)]) ?_, ?_⟩
  · rw [gUp_c, if_pos rfl, u11 42 (by decide), u10 42 (by decide), u9 42 (by decide), u8 42 (by decide), u7 42 (by decide), u6 42 (by decide), u5 42 (by decide), u4 42 (by decide), u3 42 (by decide), u2 42 (by decide), u1 42 (by decide)]
  · exact Sm.up (by decide) (Sm.trans (Sm.trans (Sm.trans (Sm.trans (Sm.trans (Sm.trans (Sm.trans (Sm.trans (Sm.trans (Sm.trans (u1.mono (by decide)) (u2.mono (by decide))) (u3.mono (by decide))) (u4.mono (by decide))) (u5.mono (by decide))) (u6.mono (by decide))) (u7.mono (by decide))) (u8.mono (by decide))) (u9.mono (by decide))) (u10.mono (by decide))) (u11.mono (by decide)))
theorem m_X1_take_4_54 (hS : Snap I 54 V C) (hW : WF V) : gRv G YX1_takeOver d [.ref 4, .ref 54] n I L D (fun J => Snap J 4 V C ∧ Sm [4, 5, 6, 7, 8, 9, 10, 11, 12, 13, 14, 15] I J) := by
  refine g_aload_n (pc := 0) dX1_takeOver_0 rfl rfl ?_
  refine g_getR (pc := 1) dX1_takeOver_1 fl_X1_9 s_54 (by decide) rfl t_54_0 ?_
  refine g_iconst (v := nI 0) (pc := 4) dX1_takeOver_4 rfl ?_
  refine g_aload_n (pc := 5) dX1_takeOver_5 rfl rfl ?_
  refine g_getR (pc := 6) dX1_takeOver_6 fl_X1_9 s_4 (by decide) rfl t_4_0 ?_
  refine g_iconst (v := nI 0) (pc := 9) dX1_takeOver_9 rfl ?_
  refine g_sipush (v := nI 240) (pc := 10) dX1_takeOver_10 rfl ?_
  refine g_copyN (N := 240) (pc := 13) dX1_takeOver_13 lkc_X1 s_5 (by decide) s_55 (by decide) (by decide) (by decide) (by decide) (Nat.le_of_ble_eq_true rfl) ?_
  intro J1 u1 v1
  refine g_aload_n (pc := 16) dX1_takeOver_16 rfl rfl ?_
  refine g_getR (pc := 17) dX1_takeOver_17 fl_X1_15 s_54 (by decide) rfl t_54_1 ?_
  refine g_iconst (v := nI 0) (pc := 20) dX1_takeOver_20 rfl ?_
  refine g_aload_n (pc := 21) dX1_takeOver_21 rfl rfl ?_
  refine g_getR (pc := 22) dX1_takeOver_22 fl_X1_15 s_4 (by decide) rfl t_4_1 ?_
  refine g_iconst (v := nI 0) (pc := 25) dX1_takeOver_25 rfl ?_
  refine g_sipush (v := nI 240) (pc := 26) dX1_takeOver_26 rfl ?_
  refine g_copyN (N := 240) (pc := 29) dX1_takeOver_29 lkc_X1 s_6 (by decide) s_56 (by decide) (by decide) (by decide) (by decide) (Nat.le_of_ble_eq_true rfl) ?_
  intro J2 u2 v2
  refine g_aload_n (pc := 32) dX1_takeOver_32 rfl rfl ?_
  refine g_getR (pc := 33) dX1_takeOver_33 fl_X1_18 s_54 (by decide) rfl t_54_2 ?_
  refine g_iconst (v := nI 0) (pc := 36) dX1_takeOver_36 rfl ?_
  refine g_aload_n (pc := 37) dX1_takeOver_37 rfl rfl ?_
  refine g_getR (pc := 38) dX1_takeOver_38 fl_X1_18 s_4 (by decide) rfl t_4_2 ?_
  refine g_iconst (v := nI 0) (pc := 41) dX1_takeOver_41 rfl ?_
  refine g_sipush (v := nI 240) (pc := 42) dX1_takeOver_42 rfl ?_
  refine g_copyN (N := 240) (pc := 45) dX1_takeOver_45 lkc_X1 s_7 (by decide) s_57 (by decide) (by decide) (by decide) (by decide) (Nat.le_of_ble_eq_true rfl) ?_
  intro J3 u3 v3
  refine g_aload_n (pc := 48) dX1_takeOver_48 rfl rfl ?_
  refine g_getR (pc := 49) dX1_takeOver_49 fl_X1_21 s_54 (by decide) rfl t_54_3 ?_
  refine g_iconst (v := nI 0) (pc := 52) dX1_takeOver_52 rfl ?_
  refine g_aload_n (pc := 53) dX1_takeOver_53 rfl rfl ?_
  refine g_getR (pc := 54) dX1_takeOver_54 fl_X1_21 s_4 (by decide) rfl t_4_3 ?_
  refine g_iconst (v := nI 0) (pc := 57) dX1_takeOver_57 rfl ?_
  refine g_bipush (v := nI 8) (pc := 58) dX1_takeOver_58 rfl ?_
  refine g_copyN (N := 8) (pc := 60) dX1_takeOver_60 lkc_X1 s_8 (by decide) s_58 (by decide) (by decide) (by decide) (by decide) (Nat.le_of_ble_eq_true rfl) ?_
  intro J4 u4 v4
  refine g_aload_n (pc := 63) dX1_takeOver_63 rfl rfl ?_
  refine g_getR (pc := 64) dX1_takeOver_64 fl_X1_24 s_54 (by decide) rfl t_54_4 ?_
  refine g_iconst (v := nI 0) (pc := 67) dX1_takeOver_67 rfl ?_
  refine g_aload_n (pc := 68) dX1_takeOver_68 rfl rfl ?_
  refine g_getR (pc := 69) dX1_takeOver_69 fl_X1_24 s_4 (by decide) rfl t_4_4 ?_
  refine g_iconst (v := nI 0) (pc := 72) dX1_takeOver_72 rfl ?_
  refine g_bipush (v := nI 8) (pc := 73) dX1_takeOver_73 rfl ?_
  refine g_copyN (N := 8) (pc := 75) dX1_takeOver_75 lkc_X1 s_9 (by decide) s_59 (by decide) (by decide) (by decide) (by decide) (Nat.le_of_ble_eq_true rfl) ?_
  intro J5 u5 v5
  refine g_aload_n (pc := 78) dX1_takeOver_78 rfl rfl ?_
  refine g_getR (pc := 79) dX1_takeOver_79 fl_X1_27 s_54 (by decide) rfl t_54_5 ?_
  refine g_iconst (v := nI 0) (pc := 82) dX1_takeOver_82 rfl ?_
  refine g_aload_n (pc := 83) dX1_takeOver_83 rfl rfl ?_
  refine g_getR (pc := 84) dX1_takeOver_84 fl_X1_27 s_4 (by decide) rfl t_4_5 ?_
  refine g_iconst (v := nI 0) (pc := 87) dX1_takeOver_87 rfl ?_
  refine g_bipush (v := nI 8) (pc := 88) dX1_takeOver_88 rfl ?_
  refine g_copyN (N := 8) (pc := 90) dX1_takeOver_90 lkc_X1 s_10 (by decide) s_60 (by decide) (by decide) (by decide) (by decide) (Nat.le_of_ble_eq_true rfl) ?_
  intro J6 u6 v6
  refine g_aload_n (pc := 93) dX1_takeOver_93 rfl rfl ?_
  refine g_getR (pc := 94) dX1_takeOver_94 fl_X1_30 s_54 (by decide) rfl t_54_6 ?_
  refine g_iconst (v := nI 0) (pc := 97) dX1_takeOver_97 rfl ?_
  refine g_aload_n (pc := 98) dX1_takeOver_98 rfl rfl ?_
  refine g_getR (pc := 99) dX1_takeOver_99 fl_X1_30 s_4 (by decide) rfl t_4_6 ?_
  refine g_iconst (v := nI 0) (pc := 102) dX1_takeOver_102 rfl ?_
  refine g_bipush (v := nI 8) (pc := 103) dX1_takeOver_103 rfl ?_
  refine g_copyN (N := 8) (pc := 105) dX1_takeOver_105 lkc_X1 s_11 (by decide) s_61 (by decide) (by decide) (by decide) (by decide) (Nat.le_of_ble_eq_true rfl) ?_
  intro J7 u7 v7
  refine g_aload_n (pc := 108) dX1_takeOver_108 rfl rfl ?_
  refine g_getR (pc := 109) dX1_takeOver_109 fl_X1_33 s_54 (by decide) rfl t_54_7 ?_
  refine g_iconst (v := nI 0) (pc := 112) dX1_takeOver_112 rfl ?_
  refine g_aload_n (pc := 113) dX1_takeOver_113 rfl rfl ?_
  refine g_getR (pc := 114) dX1_takeOver_114 fl_X1_33 s_4 (by decide) rfl t_4_7 ?_
  refine g_iconst (v := nI 0) (pc := 117) dX1_takeOver_117 rfl ?_
  refine g_bipush (v := nI 8) (pc := 118) dX1_takeOver_118 rfl ?_
  refine g_copyN (N := 8) (pc := 120) dX1_takeOver_120 lkc_X1 s_12 (by decide) s_62 (by decide) (by decide) (by decide) (by decide) (Nat.le_of_ble_eq_true rfl) ?_
  intro J8 u8 v8
  refine g_aload_n (pc := 123) dX1_takeOver_123 rfl rfl ?_
  refine g_getR (pc := 124) dX1_takeOver_124 fl_X1_36 s_54 (by decide) rfl t_54_8 ?_
  refine g_iconst (v := nI 0) (pc := 127) dX1_takeOver_127 rfl ?_
  refine g_aload_n (pc := 128) dX1_takeOver_128 rfl rfl ?_
  refine g_getR (pc := 129) dX1_takeOver_129 fl_X1_36 s_4 (by decide) rfl t_4_8 ?_
  refine g_iconst (v := nI 0) (pc := 132) dX1_takeOver_132 rfl ?_
  refine g_bipush (v := nI 8) (pc := 133) dX1_takeOver_133 rfl ?_
  refine g_copyN (N := 8) (pc := 135) dX1_takeOver_135 lkc_X1 s_13 (by decide) s_63 (by decide) (by decide) (by decide) (by decide) (Nat.le_of_ble_eq_true rfl) ?_
  intro J9 u9 v9
  refine g_aload_n (pc := 138) dX1_takeOver_138 rfl rfl ?_
  refine g_getR (pc := 139) dX1_takeOver_139 fl_X1_39 s_54 (by decide) rfl t_54_9 ?_
  refine g_iconst (v := nI 0) (pc := 142) dX1_takeOver_142 rfl ?_
  refine g_aload_n (pc := 143) dX1_takeOver_143 rfl rfl ?_
  refine g_getR (pc := 144) dX1_takeOver_144 fl_X1_39 s_4 (by decide) rfl t_4_9 ?_
  refine g_iconst (v := nI 0) (pc := 147) dX1_takeOver_147 rfl ?_
  refine g_bipush (v := nI 8) (pc := 148) dX1_takeOver_148 rfl ?_
  refine g_copyN (N := 8) (pc := 150) dX1_takeOver_150 lkc_X1 s_14 (by decide) s_64 (by decide) (by decide) (by decide) (by decide) (Nat.le_of_ble_eq_true rfl) ?_
  intro J10 u10 v10
  refine g_aload_n (pc := 153) dX1_takeOver_153 rfl rfl ?_
  refine g_getR (pc := 154) dX1_takeOver_154 fl_X1_42 s_54 (by decide) rfl t_54_10 ?_
  refine g_iconst (v := nI 0) (pc := 157) dX1_takeOver_157 rfl ?_
  refine g_aload_n (pc := 158) dX1_takeOver_158 rfl rfl ?_
  refine g_getR (pc := 159) dX1_takeOver_159 fl_X1_42 s_4 (by decide) rfl t_4_10 ?_
  refine g_iconst (v := nI 0) (pc := 162) dX1_takeOver_162 rfl ?_
  refine g_bipush (v := nI 32) (pc := 163) dX1_takeOver_163 rfl ?_
  refine g_copyN (N := 32) (pc := 165) dX1_takeOver_165 lkc_X1 s_15 (by decide) s_65 (by decide) (by decide) (by decide) (by decide) (Nat.le_of_ble_eq_true rfl) ?_
  intro J11 u11 v11
  refine g_aload_n (pc := 168) dX1_takeOver_168 rfl rfl ?_
  refine g_aload_n (pc := 169) dX1_takeOver_169 rfl rfl ?_
  refine g_getI (pc := 170) dX1_takeOver_170 fl_X1_45 s_54 (by decide) rfl ?_
  refine g_putI (pc := 173) dX1_takeOver_173 fl_X1_45 s_4 (by decide) rfl rfl rfl rfl ?_
  refine g_vret (pc := 176) dX1_takeOver_176 rfl ?_
  refine ⟨_, ⟨rfl, rfl⟩, ?_⟩
  refine ⟨hS.copy hW.bl4 (fun x hx => by rw [gUp_ne (by decide), u11 5 (by decide), u10 5 (by decide), u9 5 (by decide), u8 5 (by decide), u7 5 (by decide), u6 5 (by decide), u5 5 (by decide), u4 5 (by decide), u3 5 (by decide), u2 5 (by decide), v1 x hx]) (fun x hx => by rw [gUp_ne (by decide), u11 6 (by decide), u10 6 (by decide), u9 6 (by decide), u8 6 (by decide), u7 6 (by decide), u6 6 (by decide), u5 6 (by decide), u4 6 (by decide), u3 6 (by decide), v2 x hx, u1 56 (by decide)]) (fun x hx => by rw [gUp_ne (by decide), u11 7 (by decide), u10 7 (by decide), u9 7 (by decide), u8 7 (by decide), u7 7 (by decide), u6 7 (by decide), u5 7 (by decide), u4 7 (by decide), v3 x hx, u2 57 (by decide), u1 57 (by decide)]) (fun x hx => by rw [gUp_ne (by decide), u11 8 (by decide), u10 8 (by decide), u9 8 (by decide), u8 8 (by decide), u7 8 (by decide), u6 8 (by decide), u5 8 (by decide), v4 x hx, u3 58 (by decide), u2 58 (by decide), u1 58 (by decide)]) (fun x hx => by rw [gUp_ne (by decide), u11 9 (by decide), u10 9 (by decide), u9 9 (by decide), u8 9 (by decide), u7 9 (by decide), u6 9 (by decide), v5 x hx, u4 59 (by decide), u3 59 (by decide), u2 59 (by decide), u1 59 (by decide)]) (fun x hx => by rw [gUp_ne (by decide), u11 10 (by decide), u10 10 (by decide), u9 10 (by decide), u8 10 (by decide), u7 10 (by decide), v6 x hx, u5 60 (by decide), u4 60 (by decide), u3 60 (by decide), u2 60 (by decide), u1 60 (by decide)]) (fun x hx => by rw [gUp_ne (by decide), u11 11 (by decide), u10 11 (by decide), u9 11 (by decide), u8 11 (by decide), v7 x hx, u6 61 (by decide), u5 61 (by decide), u4 61 (by decide), u3 61 (by decide), u2 61 (by decide), u1 61 (by decide)]) (fun x hx => by rw [gUp_ne (by decide), u11 12 (by decide), u10 12 (by decide), u9 12 (by decide), v8 x hx, u7 62 (by decide), u6 62 (by decide), u5 62 (by decide), u4 62 (by decide), u3 62 (by decide), u2 62 (by decide), u1 62 (by decide)]) (fun x hx => by rw [gUp_ne (by decide), u11 13 (by decide), u10 13 (by decide), v9 x hx, u8 63 (by decide), u7 63 (by decide), u6 63 (by decide), u5 63 (by decide), u4 63 (by decide), u3 63 (by decide), u2 63 (by decide), u1 63 (by decide)]) (fun x hx => by rw [gUp_ne (by decide), u11 14 (by decide), v10 x hx, u9 64 (by decide), u8 64 (by decide), u7 64 (by decide), u6 64 (by decide), u5 64 (by decide), u4 64 (by decide), u3 64 (by decide), u2 64 (by decide), u1 64 (by decide)]) (fun x hx => by rw [gUp_ne (by decide), v11 x hx, u10 65 (by decide), u9 65 (by decide), u8 65 (by decide), u7 65 (by decide), u6 65 (by decide), u5 65 (by decide), u4 65 (by decide), u3 65 (by decide), u2 65 (by decide), u1 65 (by decide)]) ?_, ?_⟩
  · rw [gUp_c, if_pos rfl, u11 54 (by decide), u10 54 (by decide), u9 54 (by decide), u8 54 (by decide), u7 54 (by decide), u6 54 (by decide), u5 54 (by decide), u4 54 (by decide), u3 54 (by decide), u2 54 (by decide), u1 54 (by decide)]
  · exact Sm.up (by decide) (Sm.trans (Sm.trans (Sm.trans (Sm.trans (Sm.trans (Sm.trans (Sm.trans (Sm.trans (Sm.trans (Sm.trans (u1.mono (by decide)) (u2.mono (by decide))) (u3.mono (by decide))) (u4.mono (by decide))) (u5.mono (by decide))) (u6.mono (by decide))) (u7.mono (by decide))) (u8.mono (by decide))) (u9.mono (by decide))) (u10.mono (by decide))) (u11.mono (by decide)))
theorem m_X1_take_4_66 (hS : Snap I 66 V C) (hW : WF V) : gRv G YX1_takeOver d [.ref 4, .ref 66] n I L D (fun J => Snap J 4 V C ∧ Sm [4, 5, 6, 7, 8, 9, 10, 11, 12, 13, 14, 15] I J) := by
  refine g_aload_n (pc := 0) dX1_takeOver_0 rfl rfl ?_
  refine g_getR (pc := 1) dX1_takeOver_1 fl_X1_9 s_66 (by decide) rfl t_66_0 ?_
  refine g_iconst (v := nI 0) (pc := 4) dX1_takeOver_4 rfl ?_
  refine g_aload_n (pc := 5) dX1_takeOver_5 rfl rfl ?_
  refine g_getR (pc := 6) dX1_takeOver_6 fl_X1_9 s_4 (by decide) rfl t_4_0 ?_
  refine g_iconst (v := nI 0) (pc := 9) dX1_takeOver_9 rfl ?_
  refine g_sipush (v := nI 240) (pc := 10) dX1_takeOver_10 rfl ?_
  refine g_copyN (N := 240) (pc := 13) dX1_takeOver_13 lkc_X1 s_5 (by decide) s_67 (by decide) (by decide) (by decide) (by decide) (Nat.le_of_ble_eq_true rfl) ?_
  intro J1 u1 v1
  refine g_aload_n (pc := 16) dX1_takeOver_16 rfl rfl ?_
  refine g_getR (pc := 17) dX1_takeOver_17 fl_X1_15 s_66 (by decide) rfl t_66_1 ?_
  refine g_iconst (v := nI 0) (pc := 20) dX1_takeOver_20 rfl ?_
  refine g_aload_n (pc := 21) dX1_takeOver_21 rfl rfl ?_
  refine g_getR (pc := 22) dX1_takeOver_22 fl_X1_15 s_4 (by decide) rfl t_4_1 ?_
  refine g_iconst (v := nI 0) (pc := 25) dX1_takeOver_25 rfl ?_
  refine g_sipush (v := nI 240) (pc := 26) dX1_takeOver_26 rfl ?_
  refine g_copyN (N := 240) (pc := 29) dX1_takeOver_29 lkc_X1 s_6 (by decide) s_68 (by decide) (by decide) (by decide) (by decide) (Nat.le_of_ble_eq_true rfl) ?_
  intro J2 u2 v2
  refine g_aload_n (pc := 32) dX1_takeOver_32 rfl rfl ?_
  refine g_getR (pc := 33) dX1_takeOver_33 fl_X1_18 s_66 (by decide) rfl t_66_2 ?_
  refine g_iconst (v := nI 0) (pc := 36) dX1_takeOver_36 rfl ?_
  refine g_aload_n (pc := 37) dX1_takeOver_37 rfl rfl ?_
  refine g_getR (pc := 38) dX1_takeOver_38 fl_X1_18 s_4 (by decide) rfl t_4_2 ?_
  refine g_iconst (v := nI 0) (pc := 41) dX1_takeOver_41 rfl ?_
  refine g_sipush (v := nI 240) (pc := 42) dX1_takeOver_42 rfl ?_
  refine g_copyN (N := 240) (pc := 45) dX1_takeOver_45 lkc_X1 s_7 (by decide) s_69 (by decide) (by decide) (by decide) (by decide) (Nat.le_of_ble_eq_true rfl) ?_
  intro J3 u3 v3
  refine g_aload_n (pc := 48) dX1_takeOver_48 rfl rfl ?_
  refine g_getR (pc := 49) dX1_takeOver_49 fl_X1_21 s_66 (by decide) rfl t_66_3 ?_
  refine g_iconst (v := nI 0) (pc := 52) dX1_takeOver_52 rfl ?_
  refine g_aload_n (pc := 53) dX1_takeOver_53 rfl rfl ?_
  refine g_getR (pc := 54) dX1_takeOver_54 fl_X1_21 s_4 (by decide) rfl t_4_3 ?_
  refine g_iconst (v := nI 0) (pc := 57) dX1_takeOver_57 rfl ?_
  refine g_bipush (v := nI 8) (pc := 58) dX1_takeOver_58 rfl ?_
  refine g_copyN (N := 8) (pc := 60) dX1_takeOver_60 lkc_X1 s_8 (by decide) s_70 (by decide) (by decide) (by decide) (by decide) (Nat.le_of_ble_eq_true rfl) ?_
  intro J4 u4 v4
  refine g_aload_n (pc := 63) dX1_takeOver_63 rfl rfl ?_
  refine g_getR (pc := 64) dX1_takeOver_64 fl_X1_24 s_66 (by decide) rfl t_66_4 ?_
  refine g_iconst (v := nI 0) (pc := 67) dX1_takeOver_67 rfl ?_
  refine g_aload_n (pc := 68) dX1_takeOver_68 rfl rfl ?_
  refine g_getR (pc := 69) dX1_takeOver_69 fl_X1_24 s_4 (by decide) rfl t_4_4 ?_
  refine g_iconst (v := nI 0) (pc := 72) dX1_takeOver_72 rfl ?_
  refine g_bipush (v := nI 8) (pc := 73) dX1_takeOver_73 rfl ?_
  refine g_copyN (N := 8) (pc := 75) dX1_takeOver_75 lkc_X1 s_9 (by decide) s_71 (by decide) (by decide) (by decide) (by decide) (Nat.le_of_ble_eq_true rfl) ?_
  intro J5 u5 v5
  refine g_aload_n (pc := 78) dX1_takeOver_78 rfl rfl ?_
  refine g_getR (pc := 79) dX1_takeOver_79 fl_X1_27 s_66 (by decide) rfl t_66_5 ?_
  refine g_iconst (v := nI 0) (pc := 82) dX1_takeOver_82 rfl ?_
  refine g_aload_n (pc := 83) dX1_takeOver_83 rfl rfl ?_
  refine g_getR (pc := 84) dX1_takeOver_84 fl_X1_27 s_4 (by decide) rfl t_4_5 ?_
  refine g_iconst (v := nI 0) (pc := 87) dX1_takeOver_87 rfl ?_
  refine g_bipush (v := nI 8) (pc := 88) dX1_takeOver_88 rfl ?_
  refine g_copyN (N := 8) (pc := 90) dX1_takeOver_90 lkc_X1 s_10 (by decide) s_72 (by decide) (by decide) (by decide) (by decide) (Nat.le_of_ble_eq_true rfl) ?_
  intro J6 u6 v6
  refine g_aload_n (pc := 93) dX1_takeOver_93 rfl rfl ?_
  refine g_getR (pc := 94) dX1_takeOver_94 fl_X1_30 s_66 (by decide) rfl t_66_6 ?_
  refine g_iconst (v := nI 0) (pc := 97) dX1_takeOver_97 rfl ?_
  refine g_aload_n (pc := 98) dX1_takeOver_98 rfl rfl ?_
  refine g_getR (pc := 99) dX1_takeOver_99 fl_X1_30 s_4 (by decide) rfl t_4_6 ?_
  refine g_iconst (v := nI 0) (pc := 102) dX1_takeOver_102 rfl ?_
  refine g_bipush (v := nI 8) (pc := 103) dX1_takeOver_103 rfl ?_
  refine g_copyN (N := 8) (pc := 105) dX1_takeOver_105 lkc_X1 s_11 (by decide) s_73 (by decide) (by decide) (by decide) (by decide) (Nat.le_of_ble_eq_true rfl) ?_
  intro J7 u7 v7
  refine g_aload_n (pc := 108) dX1_takeOver_108 rfl rfl ?_
  refine g_getR (pc := 109) dX1_takeOver_109 fl_X1_33 s_66 (by decide) rfl t_66_7 ?_
  refine g_iconst (v := nI 0) (pc := 112) dX1_takeOver_112 rfl ?_
  refine g_aload_n (pc := 113) dX1_takeOver_113 rfl rfl ?_
  refine g_getR (pc := 114) dX1_takeOver_114 fl_X1_33 s_4 (by decide) rfl t_4_7 ?_
  refine g_iconst (v := nI 0) (pc := 117) dX1_takeOver_117 rfl ?_
  refine g_bipush (v := nI 8) (pc := 118) dX1_takeOver_118 rfl ?_
  refine g_copyN (N := 8) (pc := 120) dX1_takeOver_120 lkc_X1 s_12 (by decide) s_74 (by decide) (by decide) (by decide) (by decide) (Nat.le_of_ble_eq_true rfl) ?_
  intro J8 u8 v8
  refine g_aload_n (pc := 123) dX1_takeOver_123 rfl rfl ?_
  refine g_getR (pc := 124) dX1_takeOver_124 fl_X1_36 s_66 (by decide) rfl t_66_8 ?_
  refine g_iconst (v := nI 0) (pc := 127) dX1_takeOver_127 rfl ?_
  refine g_aload_n (pc := 128) dX1_takeOver_128 rfl rfl ?_
  refine g_getR (pc := 129) dX1_takeOver_129 fl_X1_36 s_4 (by decide) rfl t_4_8 ?_
  refine g_iconst (v := nI 0) (pc := 132) dX1_takeOver_132 rfl ?_
  refine g_bipush (v := nI 8) (pc := 133) dX1_takeOver_133 rfl ?_
  refine g_copyN (N := 8) (pc := 135) dX1_takeOver_135 lkc_X1 s_13 (by decide) s_75 (by decide) (by decide) (by decide) (by decide) (Nat.le_of_ble_eq_true rfl) ?_
  intro J9 u9 v9
  refine g_aload_n (pc := 138) dX1_takeOver_138 rfl rfl ?_
  refine g_getR (pc := 139) dX1_takeOver_139 fl_X1_39 s_66 (by decide) rfl t_66_9 ?_
  refine g_iconst (v := nI 0) (pc := 142) dX1_takeOver_142 rfl ?_
  refine g_aload_n (pc := 143) dX1_takeOver_143 rfl rfl ?_
  refine g_getR (pc := 144) dX1_takeOver_144 fl_X1_39 s_4 (by decide) rfl t_4_9 ?_
  refine g_iconst (v := nI 0) (pc := 147) dX1_takeOver_147 rfl ?_
  refine g_bipush (v := nI 8) (pc := 148) dX1_takeOver_148 rfl ?_
  refine g_copyN (N := 8) (pc := 150) dX1_takeOver_150 lkc_X1 s_14 (by decide) s_76 (by decide) (by decide) (by decide) (by decide) (Nat.le_of_ble_eq_true rfl) ?_
  intro J10 u10 v10
  refine g_aload_n (pc := 153) dX1_takeOver_153 rfl rfl ?_
  refine g_getR (pc := 154) dX1_takeOver_154 fl_X1_42 s_66 (by decide) rfl t_66_10 ?_
  refine g_iconst (v := nI 0) (pc := 157) dX1_takeOver_157 rfl ?_
  refine g_aload_n (pc := 158) dX1_takeOver_158 rfl rfl ?_
  refine g_getR (pc := 159) dX1_takeOver_159 fl_X1_42 s_4 (by decide) rfl t_4_10 ?_
  refine g_iconst (v := nI 0) (pc := 162) dX1_takeOver_162 rfl ?_
  refine g_bipush (v := nI 32) (pc := 163) dX1_takeOver_163 rfl ?_
  refine g_copyN (N := 32) (pc := 165) dX1_takeOver_165 lkc_X1 s_15 (by decide) s_77 (by decide) (by decide) (by decide) (by decide) (Nat.le_of_ble_eq_true rfl) ?_
  intro J11 u11 v11
  refine g_aload_n (pc := 168) dX1_takeOver_168 rfl rfl ?_
  refine g_aload_n (pc := 169) dX1_takeOver_169 rfl rfl ?_
  refine g_getI (pc := 170) dX1_takeOver_170 fl_X1_45 s_66 (by decide) rfl ?_
  refine g_putI (pc := 173) dX1_takeOver_173 fl_X1_45 s_4 (by decide) rfl rfl rfl rfl ?_
  refine g_vret (pc := 176) dX1_takeOver_176 rfl ?_
  refine ⟨_, ⟨rfl, rfl⟩, ?_⟩
  refine ⟨hS.copy hW.bl4 (fun x hx => by rw [gUp_ne (by decide), u11 5 (by decide), u10 5 (by decide), u9 5 (by decide), u8 5 (by decide), u7 5 (by decide), u6 5 (by decide), u5 5 (by decide), u4 5 (by decide), u3 5 (by decide), u2 5 (by decide), v1 x hx]) (fun x hx => by rw [gUp_ne (by decide), u11 6 (by decide), u10 6 (by decide), u9 6 (by decide), u8 6 (by decide), u7 6 (by decide), u6 6 (by decide), u5 6 (by decide), u4 6 (by decide), u3 6 (by decide), v2 x hx, u1 68 (by decide)]) (fun x hx => by rw [gUp_ne (by decide), u11 7 (by decide), u10 7 (by decide), u9 7 (by decide), u8 7 (by decide), u7 7 (by decide), u6 7 (by decide), u5 7 (by decide), u4 7 (by decide), v3 x hx, u2 69 (by decide), u1 69 (by decide)]) (fun x hx => by rw [gUp_ne (by decide), u11 8 (by decide), u10 8 (by decide), u9 8 (by decide), u8 8 (by decide), u7 8 (by decide), u6 8 (by decide), u5 8 (by decide), v4 x hx, u3 70 (by decide), u2 70 (by decide), u1 70 (by decide)]) (fun x hx => by rw [gUp_ne (by decide), u11 9 (by decide), u10 9 (by decide), u9 9 (by decide), u8 9 (by decide), u7 9 (by decide), u6 9 (by decide), v5 x hx, u4 71 (by decide), u3 71 (by decide), u2 71 (by decide), u1 71 (by decide)]) (fun x hx => by rw [gUp_ne (by decide), u11 10 (by decide), u10 10 (by decide), u9 10 (by decide), u8 10 (by decide), u7 10 (by decide), v6 x hx, u5 72 (by decide), u4 72 (by decide), u3 72 (by decide), u2 72 (by decide), u1 72 (by decide)]) (fun x hx => by rw [gUp_ne (by decide), u11 11 (by decide), u10 11 (by decide), u9 11 (by decide), u8 11 (by decide), v7 x hx, u6 73 (by decide), u5 73 (by decide), u4 73 (by decide), u3 73 (by decide), u2 73 (by decide), u1 73 (by decide)]) (fun x hx => by rw [gUp_ne (by decide), u11 12 (by decide), u10 12 (by decide), u9 12 (by decide), v8 x hx, u7 74 (by decide), u6 74 (by decide), u5 74 (by decide), u4 74 (by decide), u3 74 (by decide), u2 74 (by decide), u1 74 (by decide)]) (fun x hx => by rw [gUp_ne (by decide), u11 13 (by decide), u10 13 (by decide), v9 x hx, u8 75 (by decide), u7 75 (by decide), u6 75 (by decide), u5 75 (by decide), u4 75 (by decide), u3 75 (by decide), u2 75 (by decide), u1 75 (by decide)]) (fun x hx => by rw [gUp_ne (by decide), u11 14 (by decide), v10 x hx, u9 76 (by decide), u8 76 (by decide), u7 76 (by decide), u6 76 (by decide), u5 76 (by decide), u4 76 (by decide), u3 76 (by decide), u2 76 (by decide), u1 76 (by decide)]) (fun x hx => by rw [gUp_ne (by decide), v11 x hx, u10 77 (by decide), u9 77 (by decide), u8 77 (by decide), u7 77 (by decide), u6 77 (by decide), u5 77 (by decide), u4 77 (by decide), u3 77 (by decide), u2 77 (by decide), u1 77 (by decide)]) ?_, ?_⟩
  · rw [gUp_c, if_pos rfl, u11 66 (by decide), u10 66 (by decide), u9 66 (by decide), u8 66 (by decide), u7 66 (by decide), u6 66 (by decide), u5 66 (by decide), u4 66 (by decide), u3 66 (by decide), u2 66 (by decide), u1 66 (by decide)]
  · exact Sm.up (by decide) (Sm.trans (Sm.trans (Sm.trans (Sm.trans (Sm.trans (Sm.trans (Sm.trans (Sm.trans (Sm.trans (Sm.trans (u1.mono (by decide)) (u2.mono (by decide))) (u3.mono (by decide))) (u4.mono (by decide))) (u5.mono (by decide))) (u6.mono (by decide))) (u7.mono (by decide))) (u8.mono (by decide))) (u9.mono (by decide))) (u10.mono (by decide))) (u11.mono (by decide)))
theorem m_X1_take_4_78 (hS : Snap I 78 V C) (hW : WF V) : gRv G YX1_takeOver d [.ref 4, .ref 78] n I L D (fun J => Snap J 4 V C ∧ Sm [4, 5, 6, 7, 8, 9, 10, 11, 12, 13, 14, 15] I J) := by
  refine g_aload_n (pc := 0) dX1_takeOver_0 rfl rfl ?_
  refine g_getR (pc := 1) dX1_takeOver_1 fl_X1_9 s_78 (by decide) rfl t_78_0 ?_
  refine g_iconst (v := nI 0) (pc := 4) dX1_takeOver_4 rfl ?_
  refine g_aload_n (pc := 5) dX1_takeOver_5 rfl rfl ?_
  refine g_getR (pc := 6) dX1_takeOver_6 fl_X1_9 s_4 (by decide) rfl t_4_0 ?_
  refine g_iconst (v := nI 0) (pc := 9) dX1_takeOver_9 rfl ?_
  refine g_sipush (v := nI 240) (pc := 10) dX1_takeOver_10 rfl ?_
  refine g_copyN (N := 240) (pc := 13) dX1_takeOver_13 lkc_X1 s_5 (by decide) s_79 (by decide) (by decide) (by decide) (by decide) (Nat.le_of_ble_eq_true rfl) ?_
  intro J1 u1 v1
  refine g_aload_n (pc := 16) dX1_takeOver_16 rfl rfl ?_
  refine g_getR (pc := 17) dX1_takeOver_17 fl_X1_15 s_78 (by decide) rfl t_78_1 ?_
  refine g_iconst (v := nI 0) (pc := 20) dX1_takeOver_20 rfl ?_
  refine g_aload_n (pc := 21) dX1_takeOver_21 rfl rfl ?_
  refine g_getR (pc := 22) dX1_takeOver_22 fl_X1_15 s_4 (by decide) rfl t_4_1 ?_
  refine g_iconst (v := nI 0) (pc := 25) dX1_takeOver_25 rfl ?_
  refine g_sipush (v := nI 240) (pc := 26) dX1_takeOver_26 rfl ?_
  refine g_copyN (N := 240) (pc := 29) dX1_takeOver_29 lkc_X1 s_6 (by decide) s_80 (by decide) (by decide) (by decide) (by decide) (Nat.le_of_ble_eq_true rfl) ?_
  intro J2 u2 v2
  refine g_aload_n (pc := 32) dX1_takeOver_32 rfl rfl ?_
  refine g_getR (pc := 33) dX1_takeOver_33 fl_X1_18 s_78 (by decide) rfl t_78_2 ?_
  refine g_iconst (v := nI 0) (pc := 36) dX1_takeOver_36 rfl ?_
  refine g_aload_n (pc := 37) dX1_takeOver_37 rfl rfl ?_
  refine g_getR (pc := 38) dX1_takeOver_38 fl_X1_18 s_4 (by decide) rfl t_4_2 ?_
  refine g_iconst (v := nI 0) (pc := 41) dX1_takeOver_41 rfl ?_
  refine g_sipush (v := nI 240) (pc := 42) dX1_takeOver_42 rfl ?_
  refine g_copyN (N := 240) (pc := 45) dX1_takeOver_45 lkc_X1 s_7 (by decide) s_81 (by decide) (by decide) (by decide) (by decide) (Nat.le_of_ble_eq_true rfl) ?_
  intro J3 u3 v3
  refine g_aload_n (pc := 48) dX1_takeOver_48 rfl rfl ?_
  refine g_getR (pc := 49) dX1_takeOver_49 fl_X1_21 s_78 (by decide) rfl t_78_3 ?_
  refine g_iconst (v := nI 0) (pc := 52) dX1_takeOver_52 rfl ?_
  refine g_aload_n (pc := 53) dX1_takeOver_53 rfl rfl ?_
  refine g_getR (pc := 54) dX1_takeOver_54 fl_X1_21 s_4 (by decide) rfl t_4_3 ?_
  refine g_iconst (v := nI 0) (pc := 57) dX1_takeOver_57 rfl ?_
  refine g_bipush (v := nI 8) (pc := 58) dX1_takeOver_58 rfl ?_
  refine g_copyN (N := 8) (pc := 60) dX1_takeOver_60 lkc_X1 s_8 (by decide) s_82 (by decide) (by decide) (by decide) (by decide) (Nat.le_of_ble_eq_true rfl) ?_
  intro J4 u4 v4
  refine g_aload_n (pc := 63) dX1_takeOver_63 rfl rfl ?_
  refine g_getR (pc := 64) dX1_takeOver_64 fl_X1_24 s_78 (by decide) rfl t_78_4 ?_
  refine g_iconst (v := nI 0) (pc := 67) dX1_takeOver_67 rfl ?_
  refine g_aload_n (pc := 68) dX1_takeOver_68 rfl rfl ?_
  refine g_getR (pc := 69) dX1_takeOver_69 fl_X1_24 s_4 (by decide) rfl t_4_4 ?_
  refine g_iconst (v := nI 0) (pc := 72) dX1_takeOver_72 rfl ?_
  refine g_bipush (v := nI 8) (pc := 73) dX1_takeOver_73 rfl ?_
  refine g_copyN (N := 8) (pc := 75) dX1_takeOver_75 lkc_X1 s_9 (by decide) s_83 (by decide) (by decide) (by decide) (by decide) (Nat.le_of_ble_eq_true rfl) ?_
  intro J5 u5 v5
  refine g_aload_n (pc := 78) dX1_takeOver_78 rfl rfl ?_
  refine g_getR (pc := 79) dX1_takeOver_79 fl_X1_27 s_78 (by decide) rfl t_78_5 ?_
  refine g_iconst (v := nI 0) (pc := 82) dX1_takeOver_82 rfl ?_
  refine g_aload_n (pc := 83) dX1_takeOver_83 rfl rfl ?_
  refine g_getR (pc := 84) dX1_takeOver_84 fl_X1_27 s_4 (by decide) rfl t_4_5 ?_
  refine g_iconst (v := nI 0) (pc := 87) dX1_takeOver_87 rfl ?_
  refine g_bipush (v := nI 8) (pc := 88) dX1_takeOver_88 rfl ?_
  refine g_copyN (N := 8) (pc := 90) dX1_takeOver_90 lkc_X1 s_10 (by decide) s_84 (by decide) (by decide) (by decide) (by decide) (Nat.le_of_ble_eq_true rfl) ?_
  intro J6 u6 v6
  refine g_aload_n (pc := 93) dX1_takeOver_93 rfl rfl ?_
  refine g_getR (pc := 94) dX1_takeOver_94 fl_X1_30 s_78 (by decide) rfl t_78_6 ?_
  refine g_iconst (v := nI 0) (pc := 97) dX1_takeOver_97 rfl ?_
  refine g_aload_n (pc := 98) dX1_takeOver_98 rfl rfl ?_
  refine g_getR (pc := 99) dX1_takeOver_99 fl_X1_30 s_4 (by decide) rfl t_4_6 ?_
  refine g_iconst (v := nI 0) (pc := 102) dX1_takeOver_102 rfl ?_
  refine g_bipush (v := nI 8) (pc := 103) dX1_takeOver_103 rfl ?_
  refine g_copyN (N := 8) (pc := 105) dX1_takeOver_105 lkc_X1 s_11 (by decide) s_85 (by decide) (by decide) (by decide) (by decide) (Nat.le_of_ble_eq_true rfl) ?_
  intro J7 u7 v7
  refine g_aload_n (pc := 108) dX1_takeOver_108 rfl rfl ?_
  refine g_getR (pc := 109) dX1_takeOver_109 fl_X1_33 s_78 (by decide) rfl t_78_7 ?_
  refine g_iconst (v := nI 0) (pc := 112) dX1_takeOver_112 rfl ?_
  refine g_aload_n (pc := 113) dX1_takeOver_113 rfl rfl ?_
  refine g_getR (pc := 114) dX1_takeOver_114 fl_X1_33 s_4 (by decide) rfl t_4_7 ?_
  refine g_iconst (v := nI 0) (pc := 117) dX1_takeOver_117 rfl ?_
  refine g_bipush (v := nI 8) (pc := 118) dX1_takeOver_118 rfl ?_
  refine g_copyN (N := 8) (pc := 120) dX1_takeOver_120 lkc_X1 s_12 (by decide) s_86 (by decide) (by decide) (by decide) (by decide) (Nat.le_of_ble_eq_true rfl) ?_
  intro J8 u8 v8
  refine g_aload_n (pc := 123) dX1_takeOver_123 rfl rfl ?_
  refine g_getR (pc := 124) dX1_takeOver_124 fl_X1_36 s_78 (by decide) rfl t_78_8 ?_
  refine g_iconst (v := nI 0) (pc := 127) dX1_takeOver_127 rfl ?_
  refine g_aload_n (pc := 128) dX1_takeOver_128 rfl rfl ?_
  refine g_getR (pc := 129) dX1_takeOver_129 fl_X1_36 s_4 (by decide) rfl t_4_8 ?_
  refine g_iconst (v := nI 0) (pc := 132) dX1_takeOver_132 rfl ?_
  refine g_bipush (v := nI 8) (pc := 133) dX1_takeOver_133 rfl ?_
  refine g_copyN (N := 8) (pc := 135) dX1_takeOver_135 lkc_X1 s_13 (by decide) s_87 (by decide) (by decide) (by decide) (by decide) (Nat.le_of_ble_eq_true rfl) ?_
  intro J9 u9 v9
  refine g_aload_n (pc := 138) dX1_takeOver_138 rfl rfl ?_
  refine g_getR (pc := 139) dX1_takeOver_139 fl_X1_39 s_78 (by decide) rfl t_78_9 ?_
  refine g_iconst (v := nI 0) (pc := 142) dX1_takeOver_142 rfl ?_
  refine g_aload_n (pc := 143) dX1_takeOver_143 rfl rfl ?_
  refine g_getR (pc := 144) dX1_takeOver_144 fl_X1_39 s_4 (by decide) rfl t_4_9 ?_
  refine g_iconst (v := nI 0) (pc := 147) dX1_takeOver_147 rfl ?_
  refine g_bipush (v := nI 8) (pc := 148) dX1_takeOver_148 rfl ?_
  refine g_copyN (N := 8) (pc := 150) dX1_takeOver_150 lkc_X1 s_14 (by decide) s_88 (by decide) (by decide) (by decide) (by decide) (Nat.le_of_ble_eq_true rfl) ?_
  intro J10 u10 v10
  refine g_aload_n (pc := 153) dX1_takeOver_153 rfl rfl ?_
  refine g_getR (pc := 154) dX1_takeOver_154 fl_X1_42 s_78 (by decide) rfl t_78_10 ?_
  refine g_iconst (v := nI 0) (pc := 157) dX1_takeOver_157 rfl ?_
  refine g_aload_n (pc := 158) dX1_takeOver_158 rfl rfl ?_
  refine g_getR (pc := 159) dX1_takeOver_159 fl_X1_42 s_4 (by decide) rfl t_4_10 ?_
  refine g_iconst (v := nI 0) (pc := 162) dX1_takeOver_162 rfl ?_
  refine g_bipush (v := nI 32) (pc := 163) dX1_takeOver_163 rfl ?_
  refine g_copyN (N := 32) (pc := 165) dX1_takeOver_165 lkc_X1 s_15 (by decide) s_89 (by decide) (by decide) (by decide) (by decide) (Nat.le_of_ble_eq_true rfl) ?_
  intro J11 u11 v11
  refine g_aload_n (pc := 168) dX1_takeOver_168 rfl rfl ?_
  refine g_aload_n (pc := 169) dX1_takeOver_169 rfl rfl ?_
  refine g_getI (pc := 170) dX1_takeOver_170 fl_X1_45 s_78 (by decide) rfl ?_
  refine g_putI (pc := 173) dX1_takeOver_173 fl_X1_45 s_4 (by decide) rfl rfl rfl rfl ?_
  refine g_vret (pc := 176) dX1_takeOver_176 rfl ?_
  refine ⟨_, ⟨rfl, rfl⟩, ?_⟩
  refine ⟨hS.copy hW.bl4 (fun x hx => by rw [gUp_ne (by decide), u11 5 (by decide), u10 5 (by decide), u9 5 (by decide), u8 5 (by decide), u7 5 (by decide), u6 5 (by decide), u5 5 (by decide), u4 5 (by decide), u3 5 (by decide), u2 5 (by decide), v1 x hx]) (fun x hx => by rw [gUp_ne (by decide), u11 6 (by decide), u10 6 (by decide), u9 6 (by decide), u8 6 (by decide), u7 6 (by decide), u6 6 (by decide), u5 6 (by decide), u4 6 (by decide), u3 6 (by decide), v2 x hx, u1 80 (by decide)]) (fun x hx => by rw [gUp_ne (by decide), u11 7 (by decide), u10 7 (by decide), u9 7 (by decide), u8 7 (by decide), u7 7 (by decide), u6 7 (by decide), u5 7 (by decide), u4 7 (by decide), v3 x hx, u2 81 (by decide), u1 81 (by decide)]) (fun x hx => by rw [gUp_ne (by decide), u11 8 (by decide), u10 8 (by decide), u9 8 (by decide), u8 8 (by decide), u7 8 (by decide), u6 8 (by decide), u5 8 (by decide), v4 x hx, u3 82 (by decide), u2 82 (by decide), u1 82 (by decide)]) (fun x hx => by rw [gUp_ne (by decide), u11 9 (by decide), u10 9 (by decide), u9 9 (by decide), u8 9 (by decide), u7 9 (by decide), u6 9 (by decide), v5 x hx, u4 83 (by decide), u3 83 (by decide), u2 83 (by decide), u1 83 (by decide)]) (fun x hx => by rw [gUp_ne (by decide), u11 10 (by decide), u10 10 (by decide), u9 10 (by decide), u8 10 (by decide), u7 10 (by decide), v6 x hx, u5 84 (by decide), u4 84 (by decide), u3 84 (by decide), u2 84 (by decide), u1 84 (by decide)]) (fun x hx => by rw [gUp_ne (by decide), u11 11 (by decide), u10 11 (by decide), u9 11 (by decide), u8 11 (by decide), v7 x hx, u6 85 (by decide), u5 85 (by decide), u4 85 (by decide), u3 85 (by decide), u2 85 (by decide), u1 85 (by decide)]) (fun x hx => by rw [gUp_ne (by decide), u11 12 (by decide), u10 12 (by decide), u9 12 (by decide), v8 x hx, u7 86 (by decide), u6 86 (by decide), u5 86 (by decide), u4 86 (by decide), u3 86 (by decide), u2 86 (by decide), u1 86 (by decide)]) (fun x hx => by rw [gUp_ne (by decide), u11 13 (by decide), u10 13 (by decide), v9 x hx, u8 87 (by decide), u7 87 (by decide), u6 87 (by decide), u5 87 (by decide), u4 87 (by decide), u3 87 (by decide), u2 87 (by decide), u1 87 (by decide)]) (fun x hx => by rw [gUp_ne (by decide), u11 14 (by decide), v10 x hx, u9 88 (by decide), u8 88 (by decide), u7 88 (by decide), u6 88 (by decide), u5 88 (by decide), u4 88 (by decide), u3 88 (by decide), u2 88 (by decide), u1 88 (by decide)]) (fun x hx => by rw [gUp_ne (by decide), v11 x hx, u10 89 (by decide), u9 89 (by decide), u8 89 (by decide), u7 89 (by decide), u6 89 (by decide), u5 89 (by decide), u4 89 (by decide), u3 89 (by decide), u2 89 (by decide), u1 89 (by decide)]) ?_, ?_⟩
  · rw [gUp_c, if_pos rfl, u11 78 (by decide), u10 78 (by decide), u9 78 (by decide), u8 78 (by decide), u7 78 (by decide), u6 78 (by decide), u5 78 (by decide), u4 78 (by decide), u3 78 (by decide), u2 78 (by decide), u1 78 (by decide)]
  · exact Sm.up (by decide) (Sm.trans (Sm.trans (Sm.trans (Sm.trans (Sm.trans (Sm.trans (Sm.trans (Sm.trans (Sm.trans (Sm.trans (u1.mono (by decide)) (u2.mono (by decide))) (u3.mono (by decide))) (u4.mono (by decide))) (u5.mono (by decide))) (u6.mono (by decide))) (u7.mono (by decide))) (u8.mono (by decide))) (u9.mono (by decide))) (u10.mono (by decide))) (u11.mono (by decide)))
theorem m_X1_take_4_90 (hS : Snap I 90 V C) (hW : WF V) : gRv G YX1_takeOver d [.ref 4, .ref 90] n I L D (fun J => Snap J 4 V C ∧ Sm [4, 5, 6, 7, 8, 9, 10, 11, 12, 13, 14, 15] I J) := by
  refine g_aload_n (pc := 0) dX1_takeOver_0 rfl rfl ?_
  refine g_getR (pc := 1) dX1_takeOver_1 fl_X1_9 s_90 (by decide) rfl t_90_0 ?_
  refine g_iconst (v := nI 0) (pc := 4) dX1_takeOver_4 rfl ?_
  refine g_aload_n (pc := 5) dX1_takeOver_5 rfl rfl ?_
  refine g_getR (pc := 6) dX1_takeOver_6 fl_X1_9 s_4 (by decide) rfl t_4_0 ?_
  refine g_iconst (v := nI 0) (pc := 9) dX1_takeOver_9 rfl ?_
  refine g_sipush (v := nI 240) (pc := 10) dX1_takeOver_10 rfl ?_
  refine g_copyN (N := 240) (pc := 13) dX1_takeOver_13 lkc_X1 s_5 (by decide) s_91 (by decide) (by decide) (by decide) (by decide) (Nat.le_of_ble_eq_true rfl) ?_
  intro J1 u1 v1
  refine g_aload_n (pc := 16) dX1_takeOver_16 rfl rfl ?_
  refine g_getR (pc := 17) dX1_takeOver_17 fl_X1_15 s_90 (by decide) rfl t_90_1 ?_
  refine g_iconst (v := nI 0) (pc := 20) dX1_takeOver_20 rfl ?_
  refine g_aload_n (pc := 21) dX1_takeOver_21 rfl rfl ?_
  refine g_getR (pc := 22) dX1_takeOver_22 fl_X1_15 s_4 (by decide) rfl t_4_1 ?_
  refine g_iconst (v := nI 0) (pc := 25) dX1_takeOver_25 rfl ?_
  refine g_sipush (v := nI 240) (pc := 26) dX1_takeOver_26 rfl ?_
  refine g_copyN (N := 240) (pc := 29) dX1_takeOver_29 lkc_X1 s_6 (by decide) s_92 (by decide) (by decide) (by decide) (by decide) (Nat.le_of_ble_eq_true rfl) ?_
  intro J2 u2 v2
  refine g_aload_n (pc := 32) dX1_takeOver_32 rfl rfl ?_
  refine g_getR (pc := 33) dX1_takeOver_33 fl_X1_18 s_90 (by decide) rfl t_90_2 ?_
  refine g_iconst (v := nI 0) (pc := 36) dX1_takeOver_36 rfl ?_
  refine g_aload_n (pc := 37) dX1_takeOver_37 rfl rfl ?_
  refine g_getR (pc := 38) dX1_takeOver_38 fl_X1_18 s_4 (by decide) rfl t_4_2 ?_
  refine g_iconst (v := nI 0) (pc := 41) dX1_takeOver_41 rfl ?_
  refine g_sipush (v := nI 240) (pc := 42) dX1_takeOver_42 rfl ?_
  refine g_copyN (N := 240) (pc := 45) dX1_takeOver_45 lkc_X1 s_7 (by decide) s_93 (by decide) (by decide) (by decide) (by decide) (Nat.le_of_ble_eq_true rfl) ?_
  intro J3 u3 v3
  refine g_aload_n (pc := 48) dX1_takeOver_48 rfl rfl ?_
  refine g_getR (pc := 49) dX1_takeOver_49 fl_X1_21 s_90 (by decide) rfl t_90_3 ?_
  refine g_iconst (v := nI 0) (pc := 52) dX1_takeOver_52 rfl ?_
  refine g_aload_n (pc := 53) dX1_takeOver_53 rfl rfl ?_
  refine g_getR (pc := 54) dX1_takeOver_54 fl_X1_21 s_4 (by decide) rfl t_4_3 ?_
  refine g_iconst (v := nI 0) (pc := 57) dX1_takeOver_57 rfl ?_
  refine g_bipush (v := nI 8) (pc := 58) dX1_takeOver_58 rfl ?_
  refine g_copyN (N := 8) (pc := 60) dX1_takeOver_60 lkc_X1 s_8 (by decide) s_94 (by decide) (by decide) (by decide) (by decide) (Nat.le_of_ble_eq_true rfl) ?_
  intro J4 u4 v4
  refine g_aload_n (pc := 63) dX1_takeOver_63 rfl rfl ?_
  refine g_getR (pc := 64) dX1_takeOver_64 fl_X1_24 s_90 (by decide) rfl t_90_4 ?_
  refine g_iconst (v := nI 0) (pc := 67) dX1_takeOver_67 rfl ?_
  refine g_aload_n (pc := 68) dX1_takeOver_68 rfl rfl ?_
  refine g_getR (pc := 69) dX1_takeOver_69 fl_X1_24 s_4 (by decide) rfl t_4_4 ?_
  refine g_iconst (v := nI 0) (pc := 72) dX1_takeOver_72 rfl ?_
  refine g_bipush (v := nI 8) (pc := 73) dX1_takeOver_73 rfl ?_
  refine g_copyN (N := 8) (pc := 75) dX1_takeOver_75 lkc_X1 s_9 (by decide) s_95 (by decide) (by decide) (by decide) (by decide) (Nat.le_of_ble_eq_true rfl) ?_
  intro J5 u5 v5
  refine g_aload_n (pc := 78) dX1_takeOver_78 rfl rfl ?_
  refine g_getR (pc := 79) dX1_takeOver_79 fl_X1_27 s_90 (by decide) rfl t_90_5 ?_
  refine g_iconst (v := nI 0) (pc := 82) dX1_takeOver_82 rfl ?_
  refine g_aload_n (pc := 83) dX1_takeOver_83 rfl rfl ?_
  refine g_getR (pc := 84) dX1_takeOver_84 fl_X1_27 s_4 (by decide) rfl t_4_5 ?_
  refine g_iconst (v := nI 0) (pc := 87) dX1_takeOver_87 rfl ?_
  refine g_bipush (v := nI 8) (pc := 88) dX1_takeOver_88 rfl ?_
  refine g_copyN (N := 8) (pc := 90) dX1_takeOver_90 lkc_X1 s_10 (by decide) s_96 (by decide) (by decide) (by decide) (by decide) (Nat.le_of_ble_eq_true rfl) ?_
  intro J6 u6 v6
  refine g_aload_n (pc := 93) dX1_takeOver_93 rfl rfl ?_
  refine g_getR (pc := 94) dX1_takeOver_94 fl_X1_30 s_90 (by decide) rfl t_90_6 ?_
  refine g_iconst (v := nI 0) (pc := 97) dX1_takeOver_97 rfl ?_
  refine g_aload_n (pc := 98) dX1_takeOver_98 rfl rfl ?_
  refine g_getR (pc := 99) dX1_takeOver_99 fl_X1_30 s_4 (by decide) rfl t_4_6 ?_
  refine g_iconst (v := nI 0) (pc := 102) dX1_takeOver_102 rfl ?_
  refine g_bipush (v := nI 8) (pc := 103) dX1_takeOver_103 rfl ?_
  refine g_copyN (N := 8) (pc := 105) dX1_takeOver_105 lkc_X1 s_11 (by decide) s_97 (by decide) (by decide) (by decide) (by decide) (Nat.le_of_ble_eq_true rfl) ?_
  intro J7 u7 v7
  refine g_aload_n (pc := 108) dX1_takeOver_108 rfl rfl ?_
  refine g_getR (pc := 109) dX1_takeOver_109 fl_X1_33 s_90 (by decide) rfl t_90_7 ?_
  refine g_iconst (v := nI 0) (pc := 112) dX1_takeOver_112 rfl ?_
  refine g_aload_n (pc := 113) dX1_takeOver_113 rfl rfl ?_
  refine g_getR (pc := 114) dX1_takeOver_114 fl_X1_33 s_4 (by decide) rfl t_4_7 ?_
  refine g_iconst (v := nI 0) (pc := 117) dX1_takeOver_117 rfl ?_
  refine g_bipush (v := nI 8) (pc := 118) dX1_takeOver_118 rfl ?_
  refine g_copyN (N := 8) (pc := 120) dX1_takeOver_120 lkc_X1 s_12 (by decide) s_98 (by decide) (by decide) (by decide) (by decide) (Nat.le_of_ble_eq_true rfl) ?_
  intro J8 u8 v8
  refine g_aload_n (pc := 123) dX1_takeOver_123 rfl rfl ?_
  refine g_getR (pc := 124) dX1_takeOver_124 fl_X1_36 s_90 (by decide) rfl t_90_8 ?_
  refine g_iconst (v := nI 0) (pc := 127) dX1_takeOver_127 rfl ?_
  refine g_aload_n (pc := 128) dX1_takeOver_128 rfl rfl ?_
  refine g_getR (pc := 129) dX1_takeOver_129 fl_X1_36 s_4 (by decide) rfl t_4_8 ?_
  refine g_iconst (v := nI 0) (pc := 132) dX1_takeOver_132 rfl ?_
  refine g_bipush (v := nI 8) (pc := 133) dX1_takeOver_133 rfl ?_
  refine g_copyN (N := 8) (pc := 135) dX1_takeOver_135 lkc_X1 s_13 (by decide) s_99 (by decide) (by decide) (by decide) (by decide) (Nat.le_of_ble_eq_true rfl) ?_
  intro J9 u9 v9
  refine g_aload_n (pc := 138) dX1_takeOver_138 rfl rfl ?_
  refine g_getR (pc := 139) dX1_takeOver_139 fl_X1_39 s_90 (by decide) rfl t_90_9 ?_
  refine g_iconst (v := nI 0) (pc := 142) dX1_takeOver_142 rfl ?_
  refine g_aload_n (pc := 143) dX1_takeOver_143 rfl rfl ?_
  refine g_getR (pc := 144) dX1_takeOver_144 fl_X1_39 s_4 (by decide) rfl t_4_9 ?_
  refine g_iconst (v := nI 0) (pc := 147) dX1_takeOver_147 rfl ?_
  refine g_bipush (v := nI 8) (pc := 148) dX1_takeOver_148 rfl ?_
  refine g_copyN (N := 8) (pc := 150) dX1_takeOver_150 lkc_X1 s_14 (by decide) s_100 (by decide) (by decide) (by decide) (by decide) (Nat.le_of_ble_eq_true rfl) ?_
  intro J10 u10 v10
  refine g_aload_n (pc := 153) dX1_takeOver_153 rfl rfl ?_
  refine g_getR (pc := 154) dX1_takeOver_154 fl_X1_42 s_90 (by decide) rfl t_90_10 ?_
  refine g_iconst (v := nI 0) (pc := 157) dX1_takeOver_157 rfl ?_
  refine g_aload_n (pc := 158) dX1_takeOver_158 rfl rfl ?_
  refine g_getR (pc := 159) dX1_takeOver_159 fl_X1_42 s_4 (by decide) rfl t_4_10 ?_
  refine g_iconst (v := nI 0) (pc := 162) dX1_takeOver_162 rfl ?_
  refine g_bipush (v := nI 32) (pc := 163) dX1_takeOver_163 rfl ?_
  refine g_copyN (N := 32) (pc := 165) dX1_takeOver_165 lkc_X1 s_15 (by decide) s_101 (by decide) (by decide) (by decide) (by decide) (Nat.le_of_ble_eq_true rfl) ?_
  intro J11 u11 v11
  refine g_aload_n (pc := 168) dX1_takeOver_168 rfl rfl ?_
  refine g_aload_n (pc := 169) dX1_takeOver_169 rfl rfl ?_
  refine g_getI (pc := 170) dX1_takeOver_170 fl_X1_45 s_90 (by decide) rfl ?_
  refine g_putI (pc := 173) dX1_takeOver_173 fl_X1_45 s_4 (by decide) rfl rfl rfl rfl ?_
  refine g_vret (pc := 176) dX1_takeOver_176 rfl ?_
  refine ⟨_, ⟨rfl, rfl⟩, ?_⟩
  refine ⟨hS.copy hW.bl4 (fun x hx => by rw [gUp_ne (by decide), u11 5 (by decide), u10 5 (by decide), u9 5 (by decide), u8 5 (by decide), u7 5 (by decide), u6 5 (by decide), u5 5 (by decide), u4 5 (by decide), u3 5 (by decide), u2 5 (by decide), v1 x hx]) (fun x hx => by rw [gUp_ne (by decide), u11 6 (by decide), u10 6 (by decide), u9 6 (by decide), u8 6 (by decide), u7 6 (by decide), u6 6 (by decide), u5 6 (by decide), u4 6 (by decide), u3 6 (by decide), v2 x hx, u1 92 (by decide)]) (fun x hx => by rw [gUp_ne (by decide), u11 7 (by decide), u10 7 (by decide), u9 7 (by decide), u8 7 (by decide), u7 7 (by decide), u6 7 (by decide), u5 7 (by decide), u4 7 (by decide), v3 x hx, u2 93 (by decide), u1 93 (by decide)]) (fun x hx => by rw [gUp_ne (by decide), u11 8 (by decide), u10 8 (by decide), u9 8 (by decide), u8 8 (by decide), u7 8 (by decide), u6 8 (by decide), u5 8 (by decide), v4 x hx, u3 94 (by decide), u2 94 (by decide), u1 94 (by decide)]) (fun x hx => by rw [gUp_ne (by decide), u11 9 (by decide), u10 9 (by decide), u9 9 (by decide), u8 9 (by decide), u7 9 (by decide), u6 9 (by decide), v5 x hx, u4 95 (by decide), u3 95 (by decide), u2 95 (by decide), u1 95 (by decide)]) (fun x hx => by rw [gUp_ne (by decide), u11 10 (by decide), u10 10 (by decide), u9 10 (by decide), u8 10 (by decide), u7 10 (by decide), v6 x hx, u5 96 (by decide), u4 96 (by decide), u3 96 (by decide), u2 96 (by decide), u1 96 (by decide)]) (fun x hx => by rw [gUp_ne (by decide), u11 11 (by decide), u10 11 (by decide), u9 11 (by decide), u8 11 (by decide), v7 x hx, u6 97 (by decide), u5 97 (by decide), u4 97 (by decide), u3 97 (by decide), u2 97 (by decide), u1 97 (by decide)]) (fun x hx => by rw [gUp_ne (by decide), u11 12 (by decide), u10 12 (by decide), u9 12 (by decide), v8 x hx, u7 98 (by decide), u6 98 (by decide), u5 98 (by decide), u4 98 (by decide), u3 98 (by decide), u2 98 (by decide), u1 98 (by decide)]) (fun x hx => by rw [gUp_ne (by decide), u11 13 (by decide), u10 13 (by decide), v9 x hx, u8 99 (by decide), u7 99 (by decide), u6 99 (by decide), u5 99 (by decide), u4 99 (by decide), u3 99 (by decide), u2 99 (by decide), u1 99 (by decide)]) (fun x hx => by rw [gUp_ne (by decide), u11 14 (by decide), v10 x hx, u9 100 (by decide), u8 100 (by decide), u7 100 (by decide), u6 100 (by decide), u5 100 (by decide), u4 100 (by decide), u3 100 (by decide), u2 100 (by decide), u1 100 (by decide)]) (fun x hx => by rw [gUp_ne (by decide), v11 x hx, u10 101 (by decide), u9 101 (by decide), u8 101 (by decide), u7 101 (by decide), u6 101 (by decide), u5 101 (by decide), u4 101 (by decide), u3 101 (by decide), u2 101 (by decide), u1 101 (by decide)]) ?_, ?_⟩
  · rw [gUp_c, if_pos rfl, u11 90 (by decide), u10 90 (by decide), u9 90 (by decide), u8 90 (by decide), u7 90 (by decide), u6 90 (by decide), u5 90 (by decide), u4 90 (by decide), u3 90 (by decide), u2 90 (by decide), u1 90 (by decide)]
  · exact Sm.up (by decide) (Sm.trans (Sm.trans (Sm.trans (Sm.trans (Sm.trans (Sm.trans (Sm.trans (Sm.trans (Sm.trans (Sm.trans (u1.mono (by decide)) (u2.mono (by decide))) (u3.mono (by decide))) (u4.mono (by decide))) (u5.mono (by decide))) (u6.mono (by decide))) (u7.mono (by decide))) (u8.mono (by decide))) (u9.mono (by decide))) (u10.mono (by decide))) (u11.mono (by decide)))
theorem m_X1_take_4_102 (hS : Snap I 102 V C) (hW : WF V) : gRv G YX1_takeOver d [.ref 4, .ref 102] n I L D (fun J => Snap J 4 V C ∧ Sm [4, 5, 6, 7, 8, 9, 10, 11, 12, 13, 14, 15] I J) := by
  refine g_aload_n (pc := 0) dX1_takeOver_0 rfl rfl ?_
  refine g_getR (pc := 1) dX1_takeOver_1 fl_X1_9 s_102 (by decide) rfl t_102_0 ?_
  refine g_iconst (v := nI 0) (pc := 4) dX1_takeOver_4 rfl ?_
  refine g_aload_n (pc := 5) dX1_takeOver_5 rfl rfl ?_
  refine g_getR (pc := 6) dX1_takeOver_6 fl_X1_9 s_4 (by decide) rfl t_4_0 ?_
  refine g_iconst (v := nI 0) (pc := 9) dX1_takeOver_9 rfl ?_
  refine g_sipush (v := nI 240) (pc := 10) dX1_takeOver_10 rfl ?_
  refine g_copyN (N := 240) (pc := 13) dX1_takeOver_13 lkc_X1 s_5 (by decide) s_103 (by decide) (by decide) (by decide) (by decide) (Nat.le_of_ble_eq_true rfl) ?_
  intro J1 u1 v1
  refine g_aload_n (pc := 16) dX1_takeOver_16 rfl rfl ?_
  refine g_getR (pc := 17) dX1_takeOver_17 fl_X1_15 s_102 (by decide) rfl t_102_1 ?_
  refine g_iconst (v := nI 0) (pc := 20) dX1_takeOver_20 rfl ?_
  refine g_aload_n (pc := 21) dX1_takeOver_21 rfl rfl ?_
  refine g_getR (pc := 22) dX1_takeOver_22 fl_X1_15 s_4 (by decide) rfl t_4_1 ?_
  refine g_iconst (v := nI 0) (pc := 25) dX1_takeOver_25 rfl ?_
  refine g_sipush (v := nI 240) (pc := 26) dX1_takeOver_26 rfl ?_
  refine g_copyN (N := 240) (pc := 29) dX1_takeOver_29 lkc_X1 s_6 (by decide) s_104 (by decide) (by decide) (by decide) (by decide) (Nat.le_of_ble_eq_true rfl) ?_
  intro J2 u2 v2
  refine g_aload_n (pc := 32) dX1_takeOver_32 rfl rfl ?_
  refine g_getR (pc := 33) dX1_takeOver_33 fl_X1_18 s_102 (by decide) rfl t_102_2 ?_
  refine g_iconst (v := nI 0) (pc := 36) dX1_takeOver_36 rfl ?_
  refine g_aload_n (pc := 37) dX1_takeOver_37 rfl rfl ?_
  refine g_getR (pc := 38) dX1_takeOver_38 fl_X1_18 s_4 (by decide) rfl t_4_2 ?_
  refine g_iconst (v := nI 0) (pc := 41) dX1_takeOver_41 rfl ?_
  refine g_sipush (v := nI 240) (pc := 42) dX1_takeOver_42 rfl ?_
  refine g_copyN (N := 240) (pc := 45) dX1_takeOver_45 lkc_X1 s_7 (by decide) s_105 (by decide) (by decide) (by decide) (by decide) (Nat.le_of_ble_eq_true rfl) ?_
  intro J3 u3 v3
  refine g_aload_n (pc := 48) dX1_takeOver_48 rfl rfl ?_
  refine g_getR (pc := 49) dX1_takeOver_49 fl_X1_21 s_102 (by decide) rfl t_102_3 ?_
  refine g_iconst (v := nI 0) (pc := 52) dX1_takeOver_52 rfl ?_
  refine g_aload_n (pc := 53) dX1_takeOver_53 rfl rfl ?_
  refine g_getR (pc := 54) dX1_takeOver_54 fl_X1_21 s_4 (by decide) rfl t_4_3 ?_
  refine g_iconst (v := nI 0) (pc := 57) dX1_takeOver_57 rfl ?_
  refine g_bipush (v := nI 8) (pc := 58) dX1_takeOver_58 rfl ?_
  refine g_copyN (N := 8) (pc := 60) dX1_takeOver_60 lkc_X1 s_8 (by decide) s_106 (by decide) (by decide) (by decide) (by decide) (Nat.le_of_ble_eq_true rfl) ?_
  intro J4 u4 v4
  refine g_aload_n (pc := 63) dX1_takeOver_63 rfl rfl ?_
  refine g_getR (pc := 64) dX1_takeOver_64 fl_X1_24 s_102 (by decide) rfl t_102_4 ?_
  refine g_iconst (v := nI 0) (pc := 67) dX1_takeOver_67 rfl ?_
  refine g_aload_n (pc := 68) dX1_takeOver_68 rfl rfl ?_
  refine g_getR (pc := 69) dX1_takeOver_69 fl_X1_24 s_4 (by decide) rfl t_4_4 ?_
  refine g_iconst (v := nI 0) (pc := 72) dX1_takeOver_72 rfl ?_
  refine g_bipush (v := nI 8) (pc := 73) dX1_takeOver_73 rfl ?_
  refine g_copyN (N := 8) (pc := 75) dX1_takeOver_75 lkc_X1 s_9 (by decide) s_107 (by decide) (by decide) (by decide) (by decide) (Nat.le_of_ble_eq_true rfl) ?_
  intro J5 u5 v5
  refine g_aload_n (pc := 78) dX1_takeOver_78 rfl rfl ?_
  refine g_getR (pc := 79) dX1_takeOver_79 fl_X1_27 s_102 (by decide) rfl t_102_5 ?_
  refine g_iconst (v := nI 0) (pc := 82) dX1_takeOver_82 rfl ?_
  refine g_aload_n (pc := 83) dX1_takeOver_83 rfl rfl ?_
  refine g_getR (pc := 84) dX1_takeOver_84 fl_X1_27 s_4 (by decide) rfl t_4_5 ?_
  refine g_iconst (v := nI 0) (pc := 87) dX1_takeOver_87 rfl ?_
  refine g_bipush (v := nI 8) (pc := 88) dX1_takeOver_88 rfl ?_
  refine g_copyN (N := 8) (pc := 90) dX1_takeOver_90 lkc_X1 s_10 (by decide) s_108 (by decide) (by decide) (by decide) (by decide) (Nat.le_of_ble_eq_true rfl) ?_
  intro J6 u6 v6
  refine g_aload_n (pc := 93) dX1_takeOver_93 rfl rfl ?_
  refine g_getR (pc := 94) dX1_takeOver_94 fl_X1_30 s_102 (by decide) rfl t_102_6 ?_
  refine g_iconst (v := nI 0) (pc := 97) dX1_takeOver_97 rfl ?_
  refine g_aload_n (pc := 98) dX1_takeOver_98 rfl rfl ?_
  refine g_getR (pc := 99) dX1_takeOver_99 fl_X1_30 s_4 (by decide) rfl t_4_6 ?_
  refine g_iconst (v := nI 0) (pc := 102) dX1_takeOver_102 rfl ?_
  refine g_bipush (v := nI 8) (pc := 103) dX1_takeOver_103 rfl ?_
  refine g_copyN (N := 8) (pc := 105) dX1_takeOver_105 lkc_X1 s_11 (by decide) s_109 (by decide) (by decide) (by decide) (by decide) (Nat.le_of_ble_eq_true rfl) ?_
  intro J7 u7 v7
  refine g_aload_n (pc := 108) dX1_takeOver_108 rfl rfl ?_
  refine g_getR (pc := 109) dX1_takeOver_109 fl_X1_33 s_102 (by decide) rfl t_102_7 ?_
  refine g_iconst (v := nI 0) (pc := 112) dX1_takeOver_112 rfl ?_
  refine g_aload_n (pc := 113) dX1_takeOver_113 rfl rfl ?_
  refine g_getR (pc := 114) dX1_takeOver_114 fl_X1_33 s_4 (by decide) rfl t_4_7 ?_
  refine g_iconst (v := nI 0) (pc := 117) dX1_takeOver_117 rfl ?_
  refine g_bipush (v := nI 8) (pc := 118) dX1_takeOver_118 rfl ?_
  refine g_copyN (N := 8) (pc := 120) dX1_takeOver_120 lkc_X1 s_12 (by decide) s_110 (by decide) (by decide) (by decide) (by decide) (Nat.le_of_ble_eq_true rfl) ?_
  intro J8 u8 v8
  refine g_aload_n (pc := 123) dX1_takeOver_123 rfl rfl ?_
  refine g_getR (pc := 124) dX1_takeOver_124 fl_X1_36 s_102 (by decide) rfl t_102_8 ?_
  refine g_iconst (v := nI 0) (pc := 127) dX1_takeOver_127 rfl ?_
  refine g_aload_n (pc := 128) dX1_takeOver_128 rfl rfl ?_
  refine g_getR (pc := 129) dX1_takeOver_129 fl_X1_36 s_4 (by decide) rfl t_4_8 ?_
  refine g_iconst (v := nI 0) (pc := 132) dX1_takeOver_132 rfl ?_
  refine g_bipush (v := nI 8) (pc := 133) dX1_takeOver_133 rfl ?_
  refine g_copyN (N := 8) (pc := 135) dX1_takeOver_135 lkc_X1 s_13 (by decide) s_111 (by decide) (by decide) (by decide) (by decide) (Nat.le_of_ble_eq_true rfl) ?_
  intro J9 u9 v9
  refine g_aload_n (pc := 138) dX1_takeOver_138 rfl rfl ?_
  refine g_getR (pc := 139) dX1_takeOver_139 fl_X1_39 s_102 (by decide) rfl t_102_9 ?_
  refine g_iconst (v := nI 0) (pc := 142) dX1_takeOver_142 rfl ?_
  refine g_aload_n (pc := 143) dX1_takeOver_143 rfl rfl ?_
  refine g_getR (pc := 144) dX1_takeOver_144 fl_X1_39 s_4 (by decide) rfl t_4_9 ?_
  refine g_iconst (v := nI 0) (pc := 147) dX1_takeOver_147 rfl ?_
  refine g_bipush (v := nI 8) (pc := 148) dX1_takeOver_148 rfl ?_
  refine g_copyN (N := 8) (pc := 150) dX1_takeOver_150 lkc_X1 s_14 (by decide) s_112 (by decide) (by decide) (by decide) (by decide) (Nat.le_of_ble_eq_true rfl) ?_
  intro J10 u10 v10
  refine g_aload_n (pc := 153) dX1_takeOver_153 rfl rfl ?_
  refine g_getR (pc := 154) dX1_takeOver_154 fl_X1_42 s_102 (by decide) rfl t_102_10 ?_
  refine g_iconst (v := nI 0) (pc := 157) dX1_takeOver_157 rfl ?_
  refine g_aload_n (pc := 158) dX1_takeOver_158 rfl rfl ?_
  refine g_getR (pc := 159) dX1_takeOver_159 fl_X1_42 s_4 (by decide) rfl t_4_10 ?_
  refine g_iconst (v := nI 0) (pc := 162) dX1_takeOver_162 rfl ?_
  refine g_bipush (v := nI 32) (pc := 163) dX1_takeOver_163 rfl ?_
  refine g_copyN (N := 32) (pc := 165) dX1_takeOver_165 lkc_X1 s_15 (by decide) s_113 (by decide) (by decide) (by decide) (by decide) (Nat.le_of_ble_eq_true rfl) ?_
  intro J11 u11 v11
  refine g_aload_n (pc := 168) dX1_takeOver_168 rfl rfl ?_
  refine g_aload_n (pc := 169) dX1_takeOver_169 rfl rfl ?_
  refine g_getI (pc := 170) dX1_takeOver_170 fl_X1_45 s_102 (by decide) rfl ?_
  refine g_putI (pc := 173) dX1_takeOver_173 fl_X1_45 s_4 (by decide) rfl rfl rfl rfl ?_
  refine g_vret (pc := 176) dX1_takeOver_176 rfl ?_
  refine ⟨_, ⟨rfl, rfl⟩, ?_⟩
  refine ⟨hS.copy hW.bl4 (fun x hx => by rw [gUp_ne (by decide), u11 5 (by decide), u10 5 (by decide), u9 5 (by decide), u8 5 (by decide), u7 5 (by decide), u6 5 (by decide), u5 5 (by decide), u4 5 (by decide), u3 5 (by decide), u2 5 (by decide), v1 x hx]) (fun x hx => by rw [gUp_ne (by decide), u11 6 (by decide), u10 6 (by decide), u9 6 (by decide), u8 6 (by decide), u7 6 (by decide), u6 6 (by decide), u5 6 (by decide), u4 6 (by decide), u3 6 (by decide), v2 x hx, u1 104 (by decide)]) (fun x hx => by rw [gUp_ne (by decide), u11 7 (by decide), u10 7 (by decide), u9 7 (by decide), u8 7 (by decide), u7 7 (by decide), u6 7 (by decide), u5 7 (by decide), u4 7 (by decide), v3 x hx, u2 105 (by decide), u1 105 (by decide)]) (fun x hx => by rw [gUp_ne (by decide), u11 8 (by decide), u10 8 (by decide), u9 8 (by decide), u8 8 (by decide), u7 8 (by decide), u6 8 (by decide), u5 8 (by decide), v4 x hx, u3 106 (by decide), u2 106 (by decide), u1 106 (by decide)]) (fun x hx => by rw [gUp_ne (by decide), u11 9 (by decide), u10 9 (by decide), u9 9 (by decide), u8 9 (by decide), u7 9 (by decide), u6 9 (by decide), v5 x hx, u4 107 (by decide), u3 107 (by decide), u2 107 (by decide), u1 107 (by decide)]) (fun x hx => by rw [gUp_ne (by decide), u11 10 (by decide), u10 10 (by decide), u9 10 (by decide), u8 10 (by decide), u7 10 (by decide), v6 x hx, u5 108 (by decide), u4 108 (by decide), u3 108 (by decide), u2 108 (by decide), u1 108 (by decide)]) (fun x hx => by rw [gUp_ne (by decide), u11 11 (by decide), u10 11 (by decide), u9 11 (by decide), u8 11 (by decide), v7 x hx, u6 109 (by decide), u5 109 (by decide), u4 109 (by decide), u3 109 (by decide), u2 109 (by decide), u1 109 (by decide)]) (fun x hx => by rw [gUp_ne (by decide), u11 12 (by decide), u10 12 (by decide), u9 12 (by decide), v8 x hx, u7 110 (by decide), u6 110 (by decide), u5 110 (by decide), u4 110 (by decide), u3 110 (by decide), u2 110 (by decide), u1 110 (by decide)]) (fun x hx => by rw [gUp_ne (by decide), u11 13 (by decide), u10 13 (by decide), v9 x hx, u8 111 (by decide), u7 111 (by decide), u6 111 (by decide), u5 111 (by decide), u4 111 (by decide), u3 111 (by decide), u2 111 (by decide), u1 111 (by decide)]) (fun x hx => by rw [gUp_ne (by decide), u11 14 (by decide), v10 x hx, u9 112 (by decide), u8 112 (by decide), u7 112 (by decide), u6 112 (by decide), u5 112 (by decide), u4 112 (by decide), u3 112 (by decide), u2 112 (by decide), u1 112 (by decide)]) (fun x hx => by rw [gUp_ne (by decide), v11 x hx, u10 113 (by decide), u9 113 (by decide), u8 113 (by decide), u7 113 (by decide), u6 113 (by decide), u5 113 (by decide), u4 113 (by decide), u3 113 (by decide), u2 113 (by decide), u1 113 (by decide)]) ?_, ?_⟩
  · rw [gUp_c, if_pos rfl, u11 102 (by decide), u10 102 (by decide), u9 102 (by decide), u8 102 (by decide), u7 102 (by decide), u6 102 (by decide), u5 102 (by decide), u4 102 (by decide), u3 102 (by decide), u2 102 (by decide), u1 102 (by decide)]
  · exact Sm.up (by decide) (Sm.trans (Sm.trans (Sm.trans (Sm.trans (Sm.trans (Sm.trans (Sm.trans (Sm.trans (Sm.trans (Sm.trans (u1.mono (by decide)) (u2.mono (by decide))) (u3.mono (by decide))) (u4.mono (by decide))) (u5.mono (by decide))) (u6.mono (by decide))) (u7.mono (by decide))) (u8.mono (by decide))) (u9.mono (by decide))) (u10.mono (by decide))) (u11.mono (by decide)))
theorem m_X1_write (hS : Snap I 4 V C) (hW : WF V) {c : Nat} (hc : c < 240) {x : F6} : gRv G YX1_write d [.ref 4, .int (nI c), .int (fI x)] n I L D (fun J => Snap J 4 (wrV V c x.val) C ∧ Sm [5, 6, 7] I J) := by
  refine g_aload_n (pc := 0) dX1_write_0 rfl rfl ?_
  refine g_getR (pc := 1) dX1_write_1 fl_X1_9 s_4 (by decide) rfl t_4_0 ?_
  refine g_iload_n (pc := 4) dX1_write_4 rfl rfl ?_
  refine g_iload_n (pc := 5) dX1_write_5 rfl rfl ?_
  refine g_iastoreN (pc := 6) dX1_write_6 s_5 (by decide) (by omega) (by decide) ?_
  refine g_aload_n (pc := 7) dX1_write_7 rfl rfl ?_
  refine g_getR (pc := 8) dX1_write_8 fl_X1_15 s_4 (by decide) rfl t_4_1 ?_
  refine g_iload_n (pc := 11) dX1_write_11 rfl rfl ?_
  refine g_iload_n (pc := 12) dX1_write_12 rfl rfl ?_
  refine g_iastoreN (pc := 13) dX1_write_13 s_6 (by decide) (by omega) (by decide) ?_
  refine g_aload_n (pc := 14) dX1_write_14 rfl rfl ?_
  refine g_getR (pc := 15) dX1_write_15 fl_X1_18 s_4 (by decide) rfl t_4_2 ?_
  refine g_iload_n (pc := 18) dX1_write_18 rfl rfl ?_
  refine g_iconst (v := nI 0) (pc := 19) dX1_write_19 rfl ?_
  refine g_iastoreN (pc := 20) dX1_write_20 s_7 (by decide) (by omega) (by decide) ?_
  refine g_vret (pc := 21) dX1_write_21 rfl ?_
  refine ⟨_, ⟨rfl, rfl⟩, ?_⟩
  refine ⟨?_, (by repeat' first | assumption | exact Sm.rfl | exact Sc.rfl | refine Sm.up (by decide) ?_ | refine Sc.up (by decide) ?_ | refine Sc.un (by decide) ?_)⟩
  have b1 : ∀ j, j < 8 → bl (uV V (80 + c) x.val) j ≤ 4 := fun j hj => by rw [show bl (uV V (80 + c) x.val) j = bl V j from by unfold bl; rw [uV_n (by omega)]]; exact hW.bl4 j hj
  have s1 := Snap.wri (x := x.val) (Snap.sym (x := x.val) hS hW.bl4 hc) b1 hc
  have b2 : ∀ j, j < 8 → bl (uV (uV V (80 + c) x.val) (560 + c) x.val) j ≤ 4 := fun j hj => by rw [show bl (uV (uV V (80 + c) x.val) (560 + c) x.val) j = bl V j from by unfold bl; rw [uV_n (by omega), uV_n (by omega)]]; exact hW.bl4 j hj
  have s2 := Snap.era (x := 0) s1 b2 hc
  have e : uV (uV (uV V (80 + c) x.val) (560 + c) x.val) (320 + c) 0 = wrV V c x.val := by
    funext k
    unfold wrV uV
    by_cases e1 : k = 320 + c
    · rw [if_pos e1, if_neg (by omega), if_pos e1]
    · rw [if_neg e1, if_neg e1]
  rw [← e]
  exact s2
theorem m_X1_damage_0 (hS : Snap I 4 V C) (hW : WF V) {c : Nat} (hc : c < 240) : gRv G YX1_damage d [.ref 4, .int (nI c), .int (nI 0)] n I L D (fun J => Snap J 4 (uV V (320 + c) 1) C ∧ Sm [5, 6, 7] I J) := by
  refine g_iload_n (pc := 0) dX1_damage_0 rfl rfl ?_
  refine g_if_neN (tgt := 14) (pc := 1) dX1_damage_1 (by decide) (by omega) (fun c1 => ?_) (fun c1 => ?_)
  · exact absurd rfl c1
  · refine g_aload_n (pc := 4) dX1_damage_4 rfl rfl ?_
    refine g_getR (pc := 5) dX1_damage_5 fl_X1_18 s_4 (by decide) rfl t_4_2 ?_
    refine g_iload_n (pc := 8) dX1_damage_8 rfl rfl ?_
    refine g_iconst (v := nI 1) (pc := 9) dX1_damage_9 rfl ?_
    refine g_iastoreN (pc := 10) dX1_damage_10 s_7 (by decide) (by omega) (by decide) ?_
    refine g_goto (tgt := 24) (pc := 11) dX1_damage_11 (by decide) ?_
    refine g_vret (pc := 24) dX1_damage_24 rfl ?_
    refine ⟨_, ⟨rfl, rfl⟩, ?_⟩
    exact ⟨Snap.era hS hW.bl4 hc, (by repeat' first | assumption | exact Sm.rfl | exact Sc.rfl | refine Sm.up (by decide) ?_ | refine Sc.up (by decide) ?_ | refine Sc.un (by decide) ?_)⟩
theorem m_X1_damage_x (hS : Snap I 4 V C) (hW : WF V) {c x : Nat} (hc : c < 240) (hx : 1 ≤ x ∧ x ≤ 15) : gRv G YX1_damage d [.ref 4, .int (nI c), .int (nI x)] n I L D (fun J => Snap J 4 (uV V (80 + c) (V (80 + c) ^^^ x)) C ∧ Sm [5, 6, 7] I J) := by
  have hb := (hW.2.2.2 c hc).1
  have hq := nx16 (V (80 + c)) (by omega) x (by omega)
  refine g_iload_n (pc := 0) dX1_damage_0 rfl rfl ?_
  refine g_if_neN (tgt := 14) (pc := 1) dX1_damage_1 (by decide) (by omega) (fun c1 => ?_) (fun c1 => ?_)
  · refine g_aload_n (pc := 14) dX1_damage_14 rfl rfl ?_
    refine g_getR (pc := 15) dX1_damage_15 fl_X1_9 s_4 (by decide) rfl t_4_0 ?_
    refine g_iload_n (pc := 18) dX1_damage_18 rfl rfl ?_
    refine g_dup2 (pc := 19) dX1_damage_19 rfl rfl ?_
    refine g_ialoadN (pc := 20) dX1_damage_20 s_5 (by decide) (by omega) (by decide) (hS.1 c hc).1 ?_
    refine g_iload_n (pc := 21) dX1_damage_21 rfl rfl ?_
    refine g_ixor (pc := 22) dX1_damage_22 ?_
    rw [hq.1]
    refine g_iastoreN (pc := 23) dX1_damage_23 s_5 (by decide) (by omega) (by decide) ?_
    refine g_vret (pc := 24) dX1_damage_24 rfl ?_
    refine ⟨_, ⟨rfl, rfl⟩, ?_⟩
    exact ⟨Snap.sym hS hW.bl4 hc, (by repeat' first | assumption | exact Sm.rfl | exact Sc.rfl | refine Sm.up (by decide) ?_ | refine Sc.up (by decide) ?_ | refine Sc.un (by decide) ?_)⟩
  · omega
theorem m_X1_drop (hS : Snap I 4 V C) (hW : WF V) {f : Nat} (hf : f < 8) : gRv G YX1_drop d [.ref 4, .int (nI f)] n I L D (fun J => Snap J 4 (rmV V f) C ∧ Sm [9, 10, 11, 12, 13, 14] I J) := by
  refine g_aload_n (pc := 0) dX1_drop_0 rfl rfl ?_
  refine g_getR (pc := 1) dX1_drop_1 fl_X1_24 s_4 (by decide) rfl t_4_4 ?_
  refine g_iload_n (pc := 4) dX1_drop_4 rfl rfl ?_
  refine g_iconst (v := nI 0) (pc := 5) dX1_drop_5 rfl ?_
  refine g_iastoreN (pc := 6) dX1_drop_6 s_9 (by decide) (by omega) (by decide) ?_
  refine g_aload_n (pc := 7) dX1_drop_7 rfl rfl ?_
  refine g_getR (pc := 8) dX1_drop_8 fl_X1_27 s_4 (by decide) rfl t_4_5 ?_
  refine g_iload_n (pc := 11) dX1_drop_11 rfl rfl ?_
  refine g_iconst (v := nI 0) (pc := 12) dX1_drop_12 rfl ?_
  refine g_iastoreN (pc := 13) dX1_drop_13 s_10 (by decide) (by omega) (by decide) ?_
  refine g_aload_n (pc := 14) dX1_drop_14 rfl rfl ?_
  refine g_getR (pc := 15) dX1_drop_15 fl_X1_30 s_4 (by decide) rfl t_4_6 ?_
  refine g_iload_n (pc := 18) dX1_drop_18 rfl rfl ?_
  refine g_iconst (v := nI 0) (pc := 19) dX1_drop_19 rfl ?_
  refine g_iastoreN (pc := 20) dX1_drop_20 s_11 (by decide) (by omega) (by decide) ?_
  refine g_aload_n (pc := 21) dX1_drop_21 rfl rfl ?_
  refine g_getR (pc := 22) dX1_drop_22 fl_X1_33 s_4 (by decide) rfl t_4_7 ?_
  refine g_iload_n (pc := 25) dX1_drop_25 rfl rfl ?_
  refine g_iconst (v := nI 0) (pc := 26) dX1_drop_26 rfl ?_
  refine g_iastoreN (pc := 27) dX1_drop_27 s_12 (by decide) (by omega) (by decide) ?_
  refine g_aload_n (pc := 28) dX1_drop_28 rfl rfl ?_
  refine g_getR (pc := 29) dX1_drop_29 fl_X1_36 s_4 (by decide) rfl t_4_8 ?_
  refine g_iload_n (pc := 32) dX1_drop_32 rfl rfl ?_
  refine g_iconst (v := nI 0) (pc := 33) dX1_drop_33 rfl ?_
  refine g_iastoreN (pc := 34) dX1_drop_34 s_13 (by decide) (by omega) (by decide) ?_
  refine g_aload_n (pc := 35) dX1_drop_35 rfl rfl ?_
  refine g_getR (pc := 36) dX1_drop_36 fl_X1_39 s_4 (by decide) rfl t_4_9 ?_
  refine g_iload_n (pc := 39) dX1_drop_39 rfl rfl ?_
  refine g_iconst (v := nI 0) (pc := 40) dX1_drop_40 rfl ?_
  refine g_iastoreN (pc := 41) dX1_drop_41 s_14 (by decide) (by omega) (by decide) ?_
  refine g_vret (pc := 42) dX1_drop_42 rfl ?_
  refine ⟨_, ⟨rfl, rfl⟩, ?_⟩
  refine ⟨?_, (by repeat' first | assumption | exact Sm.rfl | exact Sc.rfl | refine Sm.up (by decide) ?_ | refine Sc.up (by decide) ?_ | refine Sc.un (by decide) ?_)⟩
  obtain ⟨h1, h2, h3, h4, h5⟩ := hS
  have hb : ∀ j, j < 8 → bl (rmV V f) j = if j = f then 0 else bl V j := fun j hj => by
    by_cases e : j = f
    · rw [if_pos e, e]; unfold bl; rw [rmV_s (by decide)]
    · rw [if_neg e]; unfold bl; rw [rmV_o (by decide) e]
  refine ⟨fun i hi => ?_, fun k hk => ?_, fun j hj => ?_, fun j hj q hq => ?_, ?_⟩
  · rw [gUp_ne (by decide), gUp_ne (by decide), gUp_ne (by decide), gUp_ne (by decide), gUp_ne (by decide), gUp_ne (by decide), rmV_h hf (by omega), rmV_h hf (by omega), rmV_h hf (by omega)]
    exact h1 i hi
  · exact h2 k hk
  · have h9 := h3 j hj
    rw [hb j hj]
    by_cases e : j = f
    · subst e
      rw [rmV_s (by decide), rmV_s (by decide), rmV_s (by decide), rmV_s (by decide), rmV_s (by decide), if_pos rfl]
      refine ⟨?_, ?_, ?_, ?_, ?_, ?_⟩ <;> simp [gUp_get]
    · rw [rmV_o (by decide) e, rmV_o (by decide) e, rmV_o (by decide) e, rmV_o (by decide) e, rmV_o (by decide) e, if_neg e]
      refine ⟨?_, ?_, ?_, ?_, ?_, ?_⟩ <;> simp [gUp_get, e, h9]
  · rw [hb j hj] at hq
    have e : j ≠ f := fun e => by rw [if_pos e] at hq; exact absurd hq (Nat.not_lt_zero q)
    rw [if_neg e] at hq
    rw [rmV_o (by have := hW.bl4 j hj; omega) e]
    exact h4 j hj q hq
  · rw [rmV_h hf (by decide)]; exact h5
end

