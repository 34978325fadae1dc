/-! ===== the reference: bursts, counts, health, the block to check ===== -/
theorem g_fg {G : gG} {Y : gY} {d pc : Nat} {al : List (Option Value)} {st : List Value} {h : gH} {kc ks : Nat} {Q : gQ} (i : Nat) (k : gGo G Y d pc (al.set i none) st h kc ks Q) : gGo G Y d pc al st h kc ks Q := g_sub (fun j v hj => by
  by_cases e : i = j
  · subst e
    by_cases hl : i < al.length
    · rw [List.getElem?_set_self hl] at hj; cases hj
    · rw [List.getElem?_eq_none (by rw [List.length_set]; omega)] at hj; cases hj
  · rwa [List.getElem?_set_ne e] at hj) k
theorem brV_0 {V : Nat → Nat} {f k : Nat} : brV V f 0 (k + 1) = uV (brV V f 0 k) (320 + (f + k)) 1 := rfl
theorem brV_x {V : Nat → Nat} {f x k : Nat} (h : ¬ x = 0) : brV V f x (k + 1) = uV (brV V f x k) (80 + (f + k)) (brV V f x k (80 + (f + k)) ^^^ x) := by
  show (if x = 0 then _ else _) = _
  rw [if_neg h]
theorem Vok.eq {I : Nat → Nat → Int32} {V : Nat → Nat} {k x : Nat} (e : V k = x) (h : Vok I V) : Vok (gUp I 115 k (nI x)) V := fun j hj => by
  rw [gUp_c]
  by_cases e2 : j = k
  · rw [if_pos e2, e2, e]
  · rw [if_neg e2]; exact h j hj
theorem vf_ddiv {a b : Int32} (hb : b ≠ 0) : vf_n64 (FP.ddiv (FP.i2d a) (FP.i2d b)) := by
  have h : FP.Core.dIsNaN (FP.Core.ddiv (FP.Core.i2d a) (FP.Core.i2d b)) = false := FP.Core.ddiv_out ((FP.Core.notNaN_iff _).mpr (FP.Core.i2d_fin a).ne_nan) (FP.Core.i2d_fin b) (fun q => FP.Core.i2d_ne_zero hb ((FP.Core.zero_bits2 _).mp q))
  unfold vf_n64
  rw [UInt64.le_iff_toNat_le, UInt64.toNat_and]
  have h1 : (0x7fffffffffffffff : UInt64).toNat = 2 ^ 63 - 1 := by decide
  have h2 : (0x7ff0000000000000 : UInt64).toNat = 9218868437227405312 := by decide
  rw [h1, h2, Nat.and_two_pow_sub_one_eq_mod]
  rw [← Bool.not_eq_true, FP.Core.isNaN_bits] at h
  have e : FP.ddiv (FP.i2d a) (FP.i2d b) = FP.Core.ddiv (FP.Core.i2d a) (FP.Core.i2d b) := rfl
  rw [e]
  omega
def isGd (V : Nat → Nat) (c : Nat) : Bool := isOw V c && (!(isWr V c) && !(isEr V c))
/-- the block that comes next: b blocks of the file j looked at, from s on -/
def nxB (V : Nat → Nat) (j : Nat) (s : Int32 × Nat) : Nat → Int32 × Nat
  | 0 => s
  | b + 1 => if V (10 * j + (6 + b)) < (nxB V j s b).2 then (nI (100 * j + b), V (10 * j + (6 + b))) else nxB V j s b
def nxF (V : Nat → Nat) : Nat → Int32 × Nat
  | 0 => (-1, V 800)
  | j + 1 => nxB V j (nxF V j) (if V (10 * j) = 1 then bl V j else 0)
theorem nxB_le {V : Nat → Nat} {j : Nat} {s : Int32 × Nat} : ∀ b, (nxB V j s b).2 ≤ s.2
  | 0 => Nat.le_refl _
  | b + 1 => by
    have ih := nxB_le (V := V) (j := j) (s := s) b
    unfold nxB
    by_cases e : V (10 * j + (6 + b)) < (nxB V j s b).2
    · rw [if_pos e]; exact Nat.le_trans (Nat.le_of_lt e) ih
    · rw [if_neg e]; exact ih
theorem nxF_le {V : Nat → Nat} : ∀ j, (nxF V j).2 ≤ V 800
  | 0 => Nat.le_refl _
  | j + 1 => Nat.le_trans (nxB_le _) (nxF_le j)
theorem nxB_t {V : Nat → Nat} {j b : Nat} {s : Int32 × Nat} (h : V (10 * j + (6 + b)) < (nxB V j s b).2) : nxB V j s (b + 1) = (nI (100 * j + b), V (10 * j + (6 + b))) := by rw [nxB, if_pos h]
theorem nxB_f {V : Nat → Nat} {j b : Nat} {s : Int32 × Nat} (h : ¬ V (10 * j + (6 + b)) < (nxB V j s b).2) : nxB V j s (b + 1) = nxB V j s b := by rw [nxB, if_neg h]
section
variable {G : gG} {d n : Nat} {I : Nat → Nat → Int32} {L : Nat → Nat → Int64} {D : Nat → Nat → UInt64} {V : Nat → Nat}
theorem m_X3_burst_1 {c l x : Int32} (h : ¬ (nI 0 ≤ c ∧ c ≤ nI 239)) : gFn G YX3_burst (d + 4) [.ref 114, .int c, .int l, .int x] (hp n I L D) (.inl (some (.int (nI 0)))) (hp n (gUp I 114 0 (nI 1)) L D) 0 0 := by
  refine g_aload_n (pc := 0) dX3_burst_0 rfl rfl ?_
  refine g_iload_n (pc := 1) dX3_burst_1 rfl rfl ?_
  refine g_iconst (v := nI 0) (pc := 2) dX3_burst_2 rfl ?_
  refine g_sipush (v := nI 239) (pc := 3) dX3_burst_3 rfl ?_
  refine g_fS (av := [.int _, .int _, .int _]) (pc := 6) dX3_burst_6 mt_X3_isIn lk_X3_73 sf_X3_isIn np_X3_isIn rfl (gc_i (gc_i (gc_i gc_0))) (Nat.le_of_ble_eq_true rfl) (Nat.le_of_ble_eq_true rfl) ⟨Nat.zero_le _, Nat.zero_le _⟩ (m_X3_isIn) ?_
  refine g_if_neB (tgt := 16) (pc := 9) dX3_burst_9 (by decide) (fun c9 => ?_) (fun c9 => ?_)
  · exact absurd c9 h
  · refine g_iconst (v := nI 1) (pc := 12) dX3_burst_12 rfl ?_
    refine g_goto (tgt := 44) (pc := 13) dX3_burst_13 (by decide) ?_
    refine g_putI (pc := 44) dX3_burst_44 fl_X3_67 s_114 (by decide) rfl rfl rfl rfl ?_
    refine g_aload_n (pc := 47) dX3_burst_47 rfl rfl ?_
    refine g_getIV (pc := 48) dX3_burst_48 fl_X3_67 s_114 (by decide) rfl (show _ = nI 1 from rfl) ?_
    refine g_if_leN (tgt := 56) (pc := 51) dX3_burst_51 (by decide) (by omega) (fun c51 => ?_) (fun c51 => ?_)
    · exact absurd c51 (by decide)
    · refine g_iconst (v := nI 0) (pc := 54) dX3_burst_54 rfl ?_
      refine g_iret (pc := 55) dX3_burst_55 rfl rfl ?_
      first | exact ⟨rfl, rfl⟩ | exact ⟨by rw [bI_t (by first | assumption | omega)], rfl⟩ | exact ⟨by rw [bI_f (by first | assumption | omega)], rfl⟩
theorem m_X3_burst_2 {c : Nat} {l x : Int32} (hc : c < 240) (h : ¬ ((nI 1 ≤ l ∧ l ≤ nI (240 - c)) ∧ nI 0 ≤ x ∧ x ≤ nI 15)) : gFn G YX3_burst (d + 4) [.ref 114, .int (nI c), .int l, .int x] (hp n I L D) (.inl (some (.int (nI 0)))) (hp n (gUp I 114 0 (nI 2)) L D) 0 0 := by
  refine g_aload_n (pc := 0) dX3_burst_0 rfl rfl ?_
  refine g_iload_n (pc := 1) dX3_burst_1 rfl rfl ?_
  refine g_iconst (v := nI 0) (pc := 2) dX3_burst_2 rfl ?_
  refine g_sipush (v := nI 239) (pc := 3) dX3_burst_3 rfl ?_
  refine g_fS (av := [.int _, .int _, .int _]) (pc := 6) dX3_burst_6 mt_X3_isIn lk_X3_73 sf_X3_isIn np_X3_isIn rfl (gc_i (gc_i (gc_i gc_0))) (Nat.le_of_ble_eq_true rfl) (Nat.le_of_ble_eq_true rfl) ⟨Nat.zero_le _, Nat.zero_le _⟩ (m_X3_isInN (by omega) (by decide) (by decide)) ?_
  refine g_if_neB (tgt := 16) (pc := 9) dX3_burst_9 (by decide) (fun c9 => ?_) (fun c9 => ?_)
  rotate_left
  · exact absurd ⟨Nat.zero_le _, by omega⟩ c9
  refine g_iload_n (pc := 16) dX3_burst_16 rfl rfl ?_
  refine g_iconst (v := nI 1) (pc := 17) dX3_burst_17 rfl ?_
  refine g_sipush (v := nI 240) (pc := 18) dX3_burst_18 rfl ?_
  refine g_iload_n (pc := 21) dX3_burst_21 rfl rfl ?_
  refine g_isubN (pc := 22) dX3_burst_22 (by omega) ?_
  refine g_fS (av := [.int _, .int _, .int _]) (pc := 23) dX3_burst_23 mt_X3_isIn lk_X3_73 sf_X3_isIn np_X3_isIn rfl (gc_i (gc_i (gc_i gc_0))) (Nat.le_of_ble_eq_true rfl) (Nat.le_of_ble_eq_true rfl) ⟨Nat.zero_le _, Nat.zero_le _⟩ (m_X3_isIn) ?_
  refine g_if_eqB (tgt := 39) (pc := 26) dX3_burst_26 (by decide) (fun c26 => ?_) (fun c26 => ?_)
  · refine g_iconst (v := nI 2) (pc := 39) dX3_burst_39 rfl ?_
    refine g_goto (tgt := 44) (pc := 40) dX3_burst_40 (by decide) ?_
    refine g_putI (pc := 44) dX3_burst_44 fl_X3_67 s_114 (by decide) rfl rfl rfl rfl ?_
    refine g_aload_n (pc := 47) dX3_burst_47 rfl rfl ?_
    refine g_getIV (pc := 48) dX3_burst_48 fl_X3_67 s_114 (by decide) rfl (show _ = nI 2 from rfl) ?_
    refine g_if_leN (tgt := 56) (pc := 51) dX3_burst_51 (by decide) (by omega) (fun c51 => ?_) (fun c51 => ?_)
    · exact absurd c51 (by decide)
    · refine g_iconst (v := nI 0) (pc := 54) dX3_burst_54 rfl ?_
      refine g_iret (pc := 55) dX3_burst_55 rfl rfl ?_
      first | exact ⟨rfl, rfl⟩ | exact ⟨by rw [bI_t (by first | assumption | omega)], rfl⟩ | exact ⟨by rw [bI_f (by first | assumption | omega)], rfl⟩
  · refine g_iload_n (pc := 29) dX3_burst_29 rfl rfl ?_
    refine g_iconst (v := nI 0) (pc := 30) dX3_burst_30 rfl ?_
    refine g_bipush (v := nI 15) (pc := 31) dX3_burst_31 rfl ?_
    refine g_fS (av := [.int _, .int _, .int _]) (pc := 33) dX3_burst_33 mt_X3_isIn lk_X3_73 sf_X3_isIn np_X3_isIn rfl (gc_i (gc_i (gc_i gc_0))) (Nat.le_of_ble_eq_true rfl) (Nat.le_of_ble_eq_true rfl) ⟨Nat.zero_le _, Nat.zero_le _⟩ (m_X3_isIn) ?_
    refine g_if_neB (tgt := 43) (pc := 36) dX3_burst_36 (by decide) (fun c36 => ?_) (fun c36 => ?_)
    · exact absurd ⟨c26, c36⟩ h
    · refine g_iconst (v := nI 2) (pc := 39) dX3_burst_39 rfl ?_
      refine g_goto (tgt := 44) (pc := 40) dX3_burst_40 (by decide) ?_
      refine g_putI (pc := 44) dX3_burst_44 fl_X3_67 s_114 (by decide) rfl rfl rfl rfl ?_
      refine g_aload_n (pc := 47) dX3_burst_47 rfl rfl ?_
      refine g_getIV (pc := 48) dX3_burst_48 fl_X3_67 s_114 (by decide) rfl (show _ = nI 2 from rfl) ?_
      refine g_if_leN (tgt := 56) (pc := 51) dX3_burst_51 (by decide) (by omega) (fun c51 => ?_) (fun c51 => ?_)
      · exact absurd c51 (by decide)
      · refine g_iconst (v := nI 0) (pc := 54) dX3_burst_54 rfl ?_
        refine g_iret (pc := 55) dX3_burst_55 rfl rfl ?_
        first | exact ⟨rfl, rfl⟩ | exact ⟨by rw [bI_t (by first | assumption | omega)], rfl⟩ | exact ⟨by rw [bI_f (by first | assumption | omega)], rfl⟩
theorem m_X3_burst_0 {C : Nat → Int32} {H : hT} {m f l x : Nat} (hM : Md I V C H m) (hW : WF V) (hf : f < 240) (hl : 1 ≤ l ∧ f + l ≤ 240) (hx : x ≤ 15) : gRi G YX3_burst (d + 4) [.ref 114, .int (nI f), .int (nI l), .int (nI x)] n I L D (fun v J => v = nI (brN V f l) ∧ J 114 0 = nI 0 ∧ Md J (brV V f x l) C (push H m (V, C)) (pm m) ∧ Sm [114, 115, 117] I J ∧ Sc 114 [0, 4] I J) := by
  have hV := hM.1.1
  refine g_aload_n (pc := 0) dX3_burst_0 rfl rfl ?_
  refine g_iload_n (pc := 1) dX3_burst_1 rfl rfl ?_
  refine g_iconst (v := nI 0) (pc := 2) dX3_burst_2 rfl ?_
  refine g_sipush (v := nI 239) (pc := 3) dX3_burst_3 rfl ?_
  refine g_fS (av := [.int _, .int _, .int _]) (pc := 6) dX3_burst_6 mt_X3_isIn lk_X3_73 sf_X3_isIn np_X3_isIn rfl (gc_i (gc_i (gc_i gc_0))) (Nat.le_of_ble_eq_true rfl) (Nat.le_of_ble_eq_true rfl) ⟨Nat.zero_le _, Nat.zero_le _⟩ (m_X3_isInN (by omega) (by decide) (by decide)) ?_
  refine g_if_neB (tgt := 16) (pc := 9) dX3_burst_9 (by decide) (fun c9 => ?_) (fun c9 => ?_)
  rotate_left
  · exact absurd ⟨Nat.zero_le _, by omega⟩ c9
  refine g_iload_n (pc := 16) dX3_burst_16 rfl rfl ?_
  refine g_iconst (v := nI 1) (pc := 17) dX3_burst_17 rfl ?_
  refine g_sipush (v := nI 240) (pc := 18) dX3_burst_18 rfl ?_
  refine g_iload_n (pc := 21) dX3_burst_21 rfl rfl ?_
  refine g_isubN (pc := 22) dX3_burst_22 (by omega) ?_
  refine g_fS (av := [.int _, .int _, .int _]) (pc := 23) dX3_burst_23 mt_X3_isIn lk_X3_73 sf_X3_isIn np_X3_isIn rfl (gc_i (gc_i (gc_i gc_0))) (Nat.le_of_ble_eq_true rfl) (Nat.le_of_ble_eq_true rfl) ⟨Nat.zero_le _, Nat.zero_le _⟩ (m_X3_isInN (by omega) (by decide) (by omega)) ?_
  refine g_if_eqB (tgt := 39) (pc := 26) dX3_burst_26 (by decide) (fun c26 => ?_) (fun c26 => ?_)
  · exact absurd ⟨hl.1, by omega⟩ c26
  refine g_iload_n (pc := 29) dX3_burst_29 rfl rfl ?_
  refine g_iconst (v := nI 0) (pc := 30) dX3_burst_30 rfl ?_
  refine g_bipush (v := nI 15) (pc := 31) dX3_burst_31 rfl ?_
  refine g_fS (av := [.int _, .int _, .int _]) (pc := 33) dX3_burst_33 mt_X3_isIn lk_X3_73 sf_X3_isIn np_X3_isIn rfl (gc_i (gc_i (gc_i gc_0))) (Nat.le_of_ble_eq_true rfl) (Nat.le_of_ble_eq_true rfl) ⟨Nat.zero_le _, Nat.zero_le _⟩ (m_X3_isInN (by omega) (by decide) (by decide)) ?_
  refine g_if_neB (tgt := 43) (pc := 36) dX3_burst_36 (by decide) (fun c36 => ?_) (fun c36 => ?_)
  rotate_left
  · exact absurd ⟨Nat.zero_le _, hx⟩ c36
  refine g_iconst (v := nI 0) (pc := 43) dX3_burst_43 rfl ?_
  refine g_putI (pc := 44) dX3_burst_44 fl_X3_67 s_114 (by decide) rfl rfl rfl rfl ?_
  refine g_aload_n (pc := 47) dX3_burst_47 rfl rfl ?_
  refine g_getIV (pc := 48) dX3_burst_48 fl_X3_67 s_114 (by decide) rfl (show _ = nI 0 from rfl) ?_
  refine g_if_leN (tgt := 56) (pc := 51) dX3_burst_51 (by decide) (by omega) (fun c51 => ?_) (fun c51 => ?_)
  rotate_left
  · exact absurd c51 (by decide)
  refine g_aload_n (pc := 56) dX3_burst_56 rfl rfl ?_
  refine g_rvV (av := []) (pc := 57) dX3_burst_57 mt_X3_keeps lk_X3_130 im_X3_keeps se_X3_keeps np_X3_keeps s_114 (by decide) (by decide) rfl gc_0 (Nat.le_of_ble_eq_true rfl) (Nat.le_of_ble_eq_true rfl) (m_X3_keeps (H := H) (m := m) (C := C) hM.2.2.1 (by rw [gUp_c, if_neg (by decide)]; exact hM.2.1) (hM.2.2.2.s (gUp_ne (by decide))) hV.f (hM.1.2.o (by decide))) ?_
  rintro I1 ⟨k1, k2, k3, k4⟩
  have hV1 : Vok I1 V := Vok.s (hV.f (j := 0) (x := nI 0)) k1 (by decide)
  have hC1 : Cok I1 C := Cok.s (Cok.o (a := 114) (j := 0) (x := nI 0) (by decide) hM.1.2) k1 (by decide)
  refine g_iconst (v := nI 0) (pc := 60) dX3_burst_60 rfl ?_
  refine g_istore (pc := 61) dX3_burst_61 (Nat.le_of_ble_eq_true rfl) rfl ?_
  refine g_iload_n (pc := 63) dX3_burst_63 rfl rfl ?_
  refine g_istore (pc := 64) dX3_burst_64 (Nat.le_of_ble_eq_true rfl) rfl ?_
  refine g_loop l (fun k J => Vok J (brV V f x k) ∧ Cok J C ∧ Sm [115] I1 J) (fun k _ => [some (.ref 114), some (.int (nI f)), some (.int (nI l)), some (.int (nI x)), some (.int (nI (brN V f k))), some (.int (nI (f + k)))]) (fun J => hp n J L D) (fun k J hk hJ kn => ?_) (fun J hJ => ?_) 0 _ (Nat.zero_le _) ⟨hV1, hC1, Sm.rfl⟩
  · obtain ⟨hVk, hCk, s1⟩ := hJ
    have hWk : WF (brV V f x k) := WF_br hW hx k (by omega)
    have ho := ownI_ext (V := V) (W := brV V f x k) (fun i hi => brV_lo (Or.inl hi) k (by omega)) (f + k)
    have hb9 := hWk.2.2.2 (f + k) (by omega)
    have hq := nx16 (brV V f x k (80 + (f + k))) (by omega) x (by omega)
    refine g_iload (pc := 66) dX3_burst_66 rfl ?_
    refine g_iload_n (pc := 68) dX3_burst_68 rfl rfl ?_
    refine g_iload_n (pc := 69) dX3_burst_69 rfl rfl ?_
    refine g_iaddN (pc := 70) dX3_burst_70 ?_
    refine g_icmp_geN (tgt := 143) (pc := 71) dX3_burst_71 (by decide) (by omega) (by omega) (fun c71 => ?_) (fun c71 => ?_)
    · omega
    · refine g_iload (pc := 74) dX3_burst_74 rfl ?_
      refine g_aload_n (pc := 76) dX3_burst_76 rfl rfl ?_
      refine g_iload (pc := 77) dX3_burst_77 rfl ?_
      refine g_fV (av := [.int _]) (pc := 79) dX3_burst_79 mt_X3_ownerOf lk_X3_111 im_X3_ownerOf se_X3_ownerOf np_X3_ownerOf s_114 (by decide) (by decide) rfl (gc_i gc_0) (Nat.le_of_ble_eq_true rfl) (Nat.le_of_ble_eq_true rfl) ⟨Nat.zero_le _, Nat.zero_le _⟩ (m_X3_ownerOf hVk hWk (by omega)) ?_
      rw [ho]
      refine g_if_lt (tgt := 89) (pc := 82) dX3_burst_82 (by decide) (fun c82 => ?_) (fun c82 => ?_)
      · have e : brN V f k + 0 = brN V f (k + 1) := (cnt_f (by unfold isOw; exact decide_eq_false (fun q => q (ownI_lt.mp c82)))).symm
        refine g_iconst (v := nI 0) (pc := 89) dX3_burst_89 rfl ?_
        refine g_iaddN (pc := 90) dX3_burst_90 ?_
        refine g_istore (pc := 91) dX3_burst_91 (Nat.le_of_ble_eq_true rfl) rfl ?_
        refine g_aload_n (pc := 93) dX3_burst_93 rfl rfl ?_
        refine g_getR (pc := 94) dX3_burst_94 fl_X3_9 s_114 (by decide) rfl t_114_1 ?_
        refine g_bipush (v := nI 80) (pc := 97) dX3_burst_97 rfl ?_
        refine g_iload (pc := 99) dX3_burst_99 rfl ?_
        refine g_iaddN (pc := 101) dX3_burst_101 ?_
        refine g_dup2 (pc := 102) dX3_burst_102 rfl rfl ?_
        refine g_ialoadN (pc := 103) dX3_burst_103 s_115 (by decide) (by omega) (by decide) (hVk _ (by omega)) ?_
        refine g_iload_n (pc := 104) dX3_burst_104 rfl rfl ?_
        refine g_ixor (pc := 105) dX3_burst_105 ?_
        rw [hq.1]
        refine g_iastoreN (pc := 106) dX3_burst_106 s_115 (by decide) (by omega) (by decide) ?_
        refine g_aload_n (pc := 107) dX3_burst_107 rfl rfl ?_
        refine g_getR (pc := 108) dX3_burst_108 fl_X3_9 s_114 (by decide) rfl t_114_1 ?_
        refine g_sipush (v := nI 320) (pc := 111) dX3_burst_111 rfl ?_
        refine g_iload (pc := 114) dX3_burst_114 rfl ?_
        refine g_iaddN (pc := 116) dX3_burst_116 ?_
        refine g_iload_n (pc := 117) dX3_burst_117 rfl rfl ?_
        refine g_if_neN (tgt := 125) (pc := 118) dX3_burst_118 (by decide) (by omega) (fun c118 => ?_) (fun c118 => ?_)
        · have hV2 : Vok (gUp J 115 (80 + (f + k)) (nI (brV V f x k (80 + (f + k)) ^^^ x))) (uV (brV V f x k) (80 + (f + k)) (brV V f x k (80 + (f + k)) ^^^ x)) := hVk.up
          have hV3 := Vok.eq (k := 320 + (f + k)) rfl hV2
          have eb := brV_x (V := V) (f := f) (k := k) c118
          refine g_aload_n (pc := 125) dX3_burst_125 rfl rfl ?_
          refine g_getR (pc := 126) dX3_burst_126 fl_X3_9 s_114 (by decide) rfl t_114_1 ?_
          refine g_sipush (v := nI 320) (pc := 129) dX3_burst_129 rfl ?_
          refine g_iload (pc := 132) dX3_burst_132 rfl ?_
          refine g_iaddN (pc := 134) dX3_burst_134 ?_
          refine g_ialoadN (pc := 135) dX3_burst_135 s_115 (by decide) (by omega) (by decide) (hV2 _ (by omega)) ?_
          refine g_iastoreN (pc := 136) dX3_burst_136 s_115 (by decide) (by omega) (by decide) ?_
          refine g_iincN (pc := 137) dX3_burst_137 (Nat.le_of_ble_eq_true rfl) rfl rfl ?_
          refine g_goto (tgt := 66) (pc := 140) dX3_burst_140 (by decide) ?_
          rw [e]
          refine kn _ ⟨by rw [eb]; exact hV3, (hCk.lo (by omega)).lo (by omega), (by repeat' first | assumption | exact Sm.rfl | exact Sc.rfl | refine Sm.up (by decide) ?_ | refine Sc.up (by decide) ?_ | refine Sc.un (by decide) ?_)⟩
        · have hV2 : Vok (gUp J 115 (80 + (f + k)) (nI (brV V f x k (80 + (f + k)) ^^^ x))) (brV V f x k) := Vok.eq (by rw [c118, Nat.xor_zero]) hVk
          have hV3 := Vok.up (k := 320 + (f + k)) (x := 1) hV2
          have eb : brV V f x (k + 1) = uV (brV V f x k) (320 + (f + k)) 1 := by rw [c118]; rfl
          refine g_iconst (v := nI 1) (pc := 121) dX3_burst_121 rfl ?_
          refine g_goto (tgt := 136) (pc := 122) dX3_burst_122 (by decide) ?_
          refine g_iastoreN (pc := 136) dX3_burst_136 s_115 (by decide) (by omega) (by decide) ?_
          refine g_iincN (pc := 137) dX3_burst_137 (Nat.le_of_ble_eq_true rfl) rfl rfl ?_
          refine g_goto (tgt := 66) (pc := 140) dX3_burst_140 (by decide) ?_
          rw [e]
          refine kn _ ⟨by rw [eb]; exact hV3, (hCk.lo (by omega)).lo (by omega), (by repeat' first | assumption | exact Sm.rfl | exact Sc.rfl | refine Sm.up (by decide) ?_ | refine Sc.up (by decide) ?_ | refine Sc.un (by decide) ?_)⟩
      · have e : brN V f k + 1 = brN V f (k + 1) := (cnt_t (by unfold isOw; exact decide_eq_true (fun q => c82 (ownI_lt.mpr q)))).symm
        refine g_iconst (v := nI 1) (pc := 85) dX3_burst_85 rfl ?_
        refine g_goto (tgt := 90) (pc := 86) dX3_burst_86 (by decide) ?_
        refine g_iaddN (pc := 90) dX3_burst_90 ?_
        refine g_istore (pc := 91) dX3_burst_91 (Nat.le_of_ble_eq_true rfl) rfl ?_
        refine g_aload_n (pc := 93) dX3_burst_93 rfl rfl ?_
        refine g_getR (pc := 94) dX3_burst_94 fl_X3_9 s_114 (by decide) rfl t_114_1 ?_
        refine g_bipush (v := nI 80) (pc := 97) dX3_burst_97 rfl ?_
        refine g_iload (pc := 99) dX3_burst_99 rfl ?_
        refine g_iaddN (pc := 101) dX3_burst_101 ?_
        refine g_dup2 (pc := 102) dX3_burst_102 rfl rfl ?_
        refine g_ialoadN (pc := 103) dX3_burst_103 s_115 (by decide) (by omega) (by decide) (hVk _ (by omega)) ?_
        refine g_iload_n (pc := 104) dX3_burst_104 rfl rfl ?_
        refine g_ixor (pc := 105) dX3_burst_105 ?_
        rw [hq.1]
        refine g_iastoreN (pc := 106) dX3_burst_106 s_115 (by decide) (by omega) (by decide) ?_
        refine g_aload_n (pc := 107) dX3_burst_107 rfl rfl ?_
        refine g_getR (pc := 108) dX3_burst_108 fl_X3_9 s_114 (by decide) rfl t_114_1 ?_
        refine g_sipush (v := nI 320) (pc := 111) dX3_burst_111 rfl ?_
        refine g_iload (pc := 114) dX3_burst_114 rfl ?_
        refine g_iaddN (pc := 116) dX3_burst_116 ?_
        refine g_iload_n (pc := 117) dX3_burst_117 rfl rfl ?_
        refine g_if_neN (tgt := 125) (pc := 118) dX3_burst_118 (by decide) (by omega) (fun c118 => ?_) (fun c118 => ?_)
        · have hV2 : Vok (gUp J 115 (80 + (f + k)) (nI (brV V f x k (80 + (f + k)) ^^^ x))) (uV (brV V f x k) (80 + (f + k)) (brV V f x k (80 + (f + k)) ^^^ x)) := hVk.up
          have hV3 := Vok.eq (k := 320 + (f + k)) rfl hV2
          have eb := brV_x (V := V) (f := f) (k := k) c118
          refine g_aload_n (pc := 125) dX3_burst_125 rfl rfl ?_
          refine g_getR (pc := 126) dX3_burst_126 fl_X3_9 s_114 (by decide) rfl t_114_1 ?_
          refine g_sipush (v := nI 320) (pc := 129) dX3_burst_129 rfl ?_
          refine g_iload (pc := 132) dX3_burst_132 rfl ?_
          refine g_iaddN (pc := 134) dX3_burst_134 ?_
          refine g_ialoadN (pc := 135) dX3_burst_135 s_115 (by decide) (by omega) (by decide) (hV2 _ (by omega)) ?_
          refine g_iastoreN (pc := 136) dX3_burst_136 s_115 (by decide) (by omega) (by decide) ?_
          refine g_iincN (pc := 137) dX3_burst_137 (Nat.le_of_ble_eq_true rfl) rfl rfl ?_
          refine g_goto (tgt := 66) (pc := 140) dX3_burst_140 (by decide) ?_
          rw [e]
          refine kn _ ⟨by rw [eb]; exact hV3, (hCk.lo (by omega)).lo (by omega), (by repeat' first | assumption | exact Sm.rfl | exact Sc.rfl | refine Sm.up (by decide) ?_ | refine Sc.up (by decide) ?_ | refine Sc.un (by decide) ?_)⟩
        · have hV2 : Vok (gUp J 115 (80 + (f + k)) (nI (brV V f x k (80 + (f + k)) ^^^ x))) (brV V f x k) := Vok.eq (by rw [c118, Nat.xor_zero]) hVk
          have hV3 := Vok.up (k := 320 + (f + k)) (x := 1) hV2
          have eb : brV V f x (k + 1) = uV (brV V f x k) (320 + (f + k)) 1 := by rw [c118]; rfl
          refine g_iconst (v := nI 1) (pc := 121) dX3_burst_121 rfl ?_
          refine g_goto (tgt := 136) (pc := 122) dX3_burst_122 (by decide) ?_
          refine g_iastoreN (pc := 136) dX3_burst_136 s_115 (by decide) (by omega) (by decide) ?_
          refine g_iincN (pc := 137) dX3_burst_137 (Nat.le_of_ble_eq_true rfl) rfl rfl ?_
          refine g_goto (tgt := 66) (pc := 140) dX3_burst_140 (by decide) ?_
          rw [e]
          refine kn _ ⟨by rw [eb]; exact hV3, (hCk.lo (by omega)).lo (by omega), (by repeat' first | assumption | exact Sm.rfl | exact Sc.rfl | refine Sm.up (by decide) ?_ | refine Sc.up (by decide) ?_ | refine Sc.un (by decide) ?_)⟩
  · obtain ⟨hVk, hCk, s1⟩ := hJ
    refine g_iload (pc := 66) dX3_burst_66 rfl ?_
    refine g_iload_n (pc := 68) dX3_burst_68 rfl rfl ?_
    refine g_iload_n (pc := 69) dX3_burst_69 rfl rfl ?_
    refine g_iaddN (pc := 70) dX3_burst_70 ?_
    refine g_icmp_geN (tgt := 143) (pc := 71) dX3_burst_71 (by decide) (by omega) (by omega) (fun c71 => ?_) (fun c71 => ?_)
    · refine g_iload (pc := 143) dX3_burst_143 rfl ?_
      refine g_iret (pc := 145) dX3_burst_145 rfl rfl ?_
      refine ⟨_, _, ⟨rfl, rfl⟩, ?_⟩
      refine ⟨rfl, ?_, ⟨⟨hVk, hCk⟩, ?_, (pm_le hM.2.2.1).1, k4.s (s1 117 (by decide))⟩, ?_, ?_⟩
      · rw [s1 114 (by decide), k2 0 (by decide), gUp_c, if_pos rfl]
      · rw [s1 114 (by decide)]; exact k3
      · exact Sm.trans (Sm.up (by decide) Sm.rfl) (Sm.trans (k1.mono (by decide)) (s1.mono (by decide)))
      · exact Sc.trans (Sc.up (by decide) Sc.rfl) (Sc.trans (k2.mono (by decide)) (s1.sc (by decide)))
    · omega
theorem m_X3_wrong_f (hV : Vok I V) (hW : WF V) {f : Int32} (h0 : ¬ f = -1) (hf : ¬ isFi V f) : gFn G YX3_wrong (d + 4) [.ref 114, .int f] (hp n I L D) (.inl (some (.int (nI 0)))) (hp n (gUp I 114 0 (nI 1)) L D) 0 0 := by
  refine g_aload_n (pc := 0) dX3_wrong_0 rfl rfl ?_
  refine g_iload_n (pc := 1) dX3_wrong_1 rfl rfl ?_
  refine g_fV (av := [.int _]) (pc := 2) dX3_wrong_2 mt_X3_isFileOrAll lk_X3_163 im_X3_isFileOrAll se_X3_isFileOrAll np_X3_isFileOrAll s_114 (by decide) (by decide) rfl (gc_i gc_0) (Nat.le_of_ble_eq_true rfl) (Nat.le_of_ble_eq_true rfl) ⟨Nat.zero_le _, Nat.zero_le _⟩ (m_X3_isFileOrAll_f hV hW h0 hf) ?_
  refine g_if_neN (tgt := 10) (pc := 5) dX3_wrong_5 (by decide) (by omega) (fun c5 => ?_) (fun c5 => ?_)
  · exact absurd c5 (by decide)
  · refine g_iconst (v := nI 0) (pc := 8) dX3_wrong_8 rfl ?_
    refine g_iret (pc := 9) dX3_wrong_9 rfl rfl ?_
    first | exact ⟨rfl, rfl⟩ | exact ⟨by rw [bI_t (by first | assumption | omega)], rfl⟩ | exact ⟨by rw [bI_f (by first | assumption | omega)], rfl⟩
theorem m_X3_wrong_a (hV : Vok I V) (hW : WF V) : gFn G YX3_wrong (d + 4) [.ref 114, .int (-1)] (hp n I L D) (.inl (some (.int (nI (cnt (isWr V) 240))))) (hp n (gUp I 114 0 (nI 0)) L D) 0 0 := by
  refine g_aload_n (pc := 0) dX3_wrong_0 rfl rfl ?_
  refine g_iload_n (pc := 1) dX3_wrong_1 rfl rfl ?_
  refine g_fV (av := [.int _]) (pc := 2) dX3_wrong_2 mt_X3_isFileOrAll lk_X3_163 im_X3_isFileOrAll se_X3_isFileOrAll np_X3_isFileOrAll s_114 (by decide) (by decide) rfl (gc_i gc_0) (Nat.le_of_ble_eq_true rfl) (Nat.le_of_ble_eq_true rfl) ⟨Nat.zero_le _, Nat.zero_le _⟩ m_X3_isFileOrAll_a ?_
  refine g_if_neN (tgt := 10) (pc := 5) dX3_wrong_5 (by decide) (by omega) (fun c5 => ?_) (fun c5 => ?_)
  rotate_left
  · exact absurd c5 (by decide)
  refine g_iconst (v := nI 0) (pc := 10) dX3_wrong_10 rfl ?_
  refine g_istore_n (pc := 11) dX3_wrong_11 rfl (Nat.le_of_ble_eq_true rfl) rfl ?_
  refine g_iconst (v := nI 0) (pc := 12) dX3_wrong_12 rfl ?_
  refine g_istore_n (pc := 13) dX3_wrong_13 rfl (Nat.le_of_ble_eq_true rfl) rfl ?_
  refine g_loop 240 (fun _ (_ : Unit) => True) (fun k _ => [some (.ref 114), some (.int (-1)), some (.int (nI (cnt (isWr V) k))), some (.int (nI k))]) (fun _ => hp n (gUp I 114 0 (nI 0)) L D) (fun k _ hk _ kn => ?_) (fun _ _ => ?_) 0 () (Nat.zero_le _) trivial
  · skip
    refine g_iload_n (pc := 14) dX3_wrong_14 rfl rfl ?_
    refine g_sipush (v := nI 240) (pc := 15) dX3_wrong_15 rfl ?_
    refine g_icmp_geN (tgt := 56) (pc := 18) dX3_wrong_18 (by decide) (by omega) (by omega) (fun c18 => ?_) (fun c18 => ?_)
    · omega
    · refine g_iload_n (pc := 21) dX3_wrong_21 rfl rfl ?_
      refine g_iload_n (pc := 22) dX3_wrong_22 rfl rfl ?_
      refine g_if_lt (tgt := 35) (pc := 23) dX3_wrong_23 (by decide) (fun c23 => ?_) (fun c23 => ?_)
      rotate_left
      · exact absurd (by decide) c23
      refine g_aload_n (pc := 35) dX3_wrong_35 rfl rfl ?_
      refine g_iload_n (pc := 36) dX3_wrong_36 rfl rfl ?_
      refine g_fV (av := [.int _]) (pc := 37) dX3_wrong_37 mt_X3_isWrong lk_X3_166 im_X3_isWrong se_X3_isWrong np_X3_isWrong s_114 (by decide) (by decide) rfl (gc_i gc_0) (Nat.le_of_ble_eq_true rfl) (Nat.le_of_ble_eq_true rfl) ⟨Nat.zero_le _, Nat.zero_le _⟩ (m_X3_isWrong hV.f hW hk) ?_
      refine g_if_eqB (tgt := 47) (pc := 40) dX3_wrong_40 (by decide) (fun c40 => ?_) (fun c40 => ?_)
      · have e := cnt_f (p := isWr V) (decide_eq_false c40)
        refine g_iconst (v := nI 0) (pc := 47) dX3_wrong_47 rfl ?_
        refine g_iaddN (pc := 48) dX3_wrong_48 ?_
        refine g_istore_n (pc := 49) dX3_wrong_49 rfl (Nat.le_of_ble_eq_true rfl) rfl ?_
        refine g_iincN (pc := 50) dX3_wrong_50 (Nat.le_of_ble_eq_true rfl) rfl rfl ?_
        refine g_goto (tgt := 14) (pc := 53) dX3_wrong_53 (by decide) ?_
        rw [← e]
        exact kn () trivial
      · have e := cnt_t (p := isWr V) (decide_eq_true c40)
        refine g_iconst (v := nI 1) (pc := 43) dX3_wrong_43 rfl ?_
        refine g_goto (tgt := 48) (pc := 44) dX3_wrong_44 (by decide) ?_
        refine g_iaddN (pc := 48) dX3_wrong_48 ?_
        refine g_istore_n (pc := 49) dX3_wrong_49 rfl (Nat.le_of_ble_eq_true rfl) rfl ?_
        refine g_iincN (pc := 50) dX3_wrong_50 (Nat.le_of_ble_eq_true rfl) rfl rfl ?_
        refine g_goto (tgt := 14) (pc := 53) dX3_wrong_53 (by decide) ?_
        rw [← e]
        exact kn () trivial
  · have hm := cnt_le (isWr V) 240
    refine g_iload_n (pc := 14) dX3_wrong_14 rfl rfl ?_
    refine g_sipush (v := nI 240) (pc := 15) dX3_wrong_15 rfl ?_
    refine g_icmp_geN (tgt := 56) (pc := 18) dX3_wrong_18 (by decide) (by omega) (by omega) (fun c18 => ?_) (fun c18 => ?_)
    · refine g_iload_n (pc := 56) dX3_wrong_56 rfl rfl ?_
      refine g_iret (pc := 57) dX3_wrong_57 rfl rfl ?_
      first | exact ⟨rfl, rfl⟩ | exact ⟨by rw [bI_t (by first | assumption | omega)], rfl⟩ | exact ⟨by rw [bI_f (by first | assumption | omega)], rfl⟩
    · exact absurd (Nat.le_refl _) c18
theorem m_X3_wrong_t (hV : Vok I V) (hW : WF V) {j : Nat} (hj : j < 8) (h1 : V (10 * j) = 1) : gFn G YX3_wrong (d + 4) [.ref 114, .int (nI j)] (hp n I L D) (.inl (some (.int (nI (cnt (fun c => isOf V j c && isWr V c) 240))))) (hp n (gUp I 114 0 (nI 0)) L D) 0 0 := by
  refine g_aload_n (pc := 0) dX3_wrong_0 rfl rfl ?_
  refine g_iload_n (pc := 1) dX3_wrong_1 rfl rfl ?_
  refine g_fV (av := [.int _]) (pc := 2) dX3_wrong_2 mt_X3_isFileOrAll lk_X3_163 im_X3_isFileOrAll se_X3_isFileOrAll np_X3_isFileOrAll s_114 (by decide) (by decide) rfl (gc_i gc_0) (Nat.le_of_ble_eq_true rfl) (Nat.le_of_ble_eq_true rfl) ⟨Nat.zero_le _, Nat.zero_le _⟩ (m_X3_isFileOrAll_t hV hW hj h1) ?_
  refine g_if_neN (tgt := 10) (pc := 5) dX3_wrong_5 (by decide) (by omega) (fun c5 => ?_) (fun c5 => ?_)
  rotate_left
  · exact absurd c5 (by decide)
  refine g_iconst (v := nI 0) (pc := 10) dX3_wrong_10 rfl ?_
  refine g_istore_n (pc := 11) dX3_wrong_11 rfl (Nat.le_of_ble_eq_true rfl) rfl ?_
  refine g_iconst (v := nI 0) (pc := 12) dX3_wrong_12 rfl ?_
  refine g_istore_n (pc := 13) dX3_wrong_13 rfl (Nat.le_of_ble_eq_true rfl) rfl ?_
  refine g_loop 240 (fun _ (_ : Unit) => True) (fun k _ => [some (.ref 114), some (.int (nI j)), some (.int (nI (cnt (fun c => isOf V j c && isWr V c) k))), some (.int (nI k))]) (fun _ => hp n (gUp I 114 0 (nI 0)) L D) (fun k _ hk _ kn => ?_) (fun _ _ => ?_) 0 () (Nat.zero_le _) trivial
  · skip
    refine g_iload_n (pc := 14) dX3_wrong_14 rfl rfl ?_
    refine g_sipush (v := nI 240) (pc := 15) dX3_wrong_15 rfl ?_
    refine g_icmp_geN (tgt := 56) (pc := 18) dX3_wrong_18 (by decide) (by omega) (by omega) (fun c18 => ?_) (fun c18 => ?_)
    · omega
    · refine g_iload_n (pc := 21) dX3_wrong_21 rfl rfl ?_
      refine g_iload_n (pc := 22) dX3_wrong_22 rfl rfl ?_
      refine g_if_ltN (tgt := 35) (pc := 23) dX3_wrong_23 (by decide) (by omega) (fun c23 => ?_) (fun c23 => ?_)
      · omega
      refine g_aload_n (pc := 26) dX3_wrong_26 rfl rfl ?_
      refine g_iload_n (pc := 27) dX3_wrong_27 rfl rfl ?_
      refine g_fV (av := [.int _]) (pc := 28) dX3_wrong_28 mt_X3_ownerOf lk_X3_111 im_X3_ownerOf se_X3_ownerOf np_X3_ownerOf s_114 (by decide) (by decide) rfl (gc_i gc_0) (Nat.le_of_ble_eq_true rfl) (Nat.le_of_ble_eq_true rfl) ⟨Nat.zero_le _, Nat.zero_le _⟩ (m_X3_ownerOf hV.f hW hk) ?_
      refine g_iload_n (pc := 31) dX3_wrong_31 rfl rfl ?_
      refine g_icmp_ne (tgt := 47) (pc := 32) dX3_wrong_32 (by decide) (fun c32 => ?_) (fun c32 => ?_)
      · have eo : isOf V j k = false := decide_eq_false (fun q => c32 (ownI_some q))
        have e := cnt_f (p := fun c => isOf V j c && isWr V c) (c := k) (by simp [eo])
        refine g_iconst (v := nI 0) (pc := 47) dX3_wrong_47 rfl ?_
        refine g_iaddN (pc := 48) dX3_wrong_48 ?_
        refine g_istore_n (pc := 49) dX3_wrong_49 rfl (Nat.le_of_ble_eq_true rfl) rfl ?_
        refine g_iincN (pc := 50) dX3_wrong_50 (Nat.le_of_ble_eq_true rfl) rfl rfl ?_
        refine g_goto (tgt := 14) (pc := 53) dX3_wrong_53 (by decide) ?_
        rw [← e]
        exact kn () trivial
      · have eo : isOf V j k = true := decide_eq_true ((ownI_eq hj).mp c32)
        refine g_aload_n (pc := 35) dX3_wrong_35 rfl rfl ?_
        refine g_iload_n (pc := 36) dX3_wrong_36 rfl rfl ?_
        refine g_fV (av := [.int _]) (pc := 37) dX3_wrong_37 mt_X3_isWrong lk_X3_166 im_X3_isWrong se_X3_isWrong np_X3_isWrong s_114 (by decide) (by decide) rfl (gc_i gc_0) (Nat.le_of_ble_eq_true rfl) (Nat.le_of_ble_eq_true rfl) ⟨Nat.zero_le _, Nat.zero_le _⟩ (m_X3_isWrong hV.f hW hk) ?_
        refine g_if_eqB (tgt := 47) (pc := 40) dX3_wrong_40 (by decide) (fun c40 => ?_) (fun c40 => ?_)
        · have e := cnt_f (p := fun c => isOf V j c && isWr V c) (c := k) (by show (isOf V j k && isWr V k) = false; rw [show isWr V k = false from decide_eq_false c40, Bool.and_false])
          refine g_iconst (v := nI 0) (pc := 47) dX3_wrong_47 rfl ?_
          refine g_iaddN (pc := 48) dX3_wrong_48 ?_
          refine g_istore_n (pc := 49) dX3_wrong_49 rfl (Nat.le_of_ble_eq_true rfl) rfl ?_
          refine g_iincN (pc := 50) dX3_wrong_50 (Nat.le_of_ble_eq_true rfl) rfl rfl ?_
          refine g_goto (tgt := 14) (pc := 53) dX3_wrong_53 (by decide) ?_
          rw [← e]
          exact kn () trivial
        · have e := cnt_t (p := fun c => isOf V j c && isWr V c) (c := k) (by show (isOf V j k && isWr V k) = true; rw [show isWr V k = true from decide_eq_true c40, eo]; rfl)
          refine g_iconst (v := nI 1) (pc := 43) dX3_wrong_43 rfl ?_
          refine g_goto (tgt := 48) (pc := 44) dX3_wrong_44 (by decide) ?_
          refine g_iaddN (pc := 48) dX3_wrong_48 ?_
          refine g_istore_n (pc := 49) dX3_wrong_49 rfl (Nat.le_of_ble_eq_true rfl) rfl ?_
          refine g_iincN (pc := 50) dX3_wrong_50 (Nat.le_of_ble_eq_true rfl) rfl rfl ?_
          refine g_goto (tgt := 14) (pc := 53) dX3_wrong_53 (by decide) ?_
          rw [← e]
          exact kn () trivial
  · have hm := cnt_le (fun c => isOf V j c && isWr V c) 240
    refine g_iload_n (pc := 14) dX3_wrong_14 rfl rfl ?_
    refine g_sipush (v := nI 240) (pc := 15) dX3_wrong_15 rfl ?_
    refine g_icmp_geN (tgt := 56) (pc := 18) dX3_wrong_18 (by decide) (by omega) (by omega) (fun c18 => ?_) (fun c18 => ?_)
    · refine g_iload_n (pc := 56) dX3_wrong_56 rfl rfl ?_
      refine g_iret (pc := 57) dX3_wrong_57 rfl rfl ?_
      first | exact ⟨rfl, rfl⟩ | exact ⟨by rw [bI_t (by first | assumption | omega)], rfl⟩ | exact ⟨by rw [bI_f (by first | assumption | omega)], rfl⟩
    · exact absurd (Nat.le_refl _) c18
theorem m_X3_report_1 {t : Nat} (hl : I 114 10 = nI t) (ht : t ≤ 40) {x y : Int32} (h : ¬ (nI 0 ≤ x ∧ x ≤ nI t - nI 1)) : gFn G YX3_report (d + 1) [.ref 114, .int x, .int y] (hp n I L D) (.inl (some (.int (nI 0)))) (hp n (gUp I 114 0 (nI 1)) L D) 0 0 := by
  refine g_aload_n (pc := 0) dX3_report_0 rfl rfl ?_
  refine g_iload_n (pc := 1) dX3_report_1 rfl rfl ?_
  refine g_iconst (v := nI 0) (pc := 2) dX3_report_2 rfl ?_
  refine g_aload_n (pc := 3) dX3_report_3 rfl rfl ?_
  refine g_getIV (pc := 4) dX3_report_4 fl_X3_216 s_114 (by decide) rfl hl ?_
  refine g_iconst (v := nI 1) (pc := 7) dX3_report_7 rfl ?_
  refine g_isub (pc := 8) dX3_report_8 ?_
  refine g_fS (av := [.int _, .int _, .int _]) (pc := 9) dX3_report_9 mt_X3_isIn lk_X3_73 sf_X3_isIn np_X3_isIn rfl (gc_i (gc_i (gc_i gc_0))) (Nat.le_of_ble_eq_true rfl) (Nat.le_of_ble_eq_true rfl) ⟨Nat.zero_le _, Nat.zero_le _⟩ (m_X3_isIn) ?_
  refine g_if_neB (tgt := 19) (pc := 12) dX3_report_12 (by decide) (fun c12 => ?_) (fun c12 => ?_)
  · exact absurd c12 h
  · refine g_iconst (v := nI 1) (pc := 15) dX3_report_15 rfl ?_
    refine g_goto (tgt := 33) (pc := 16) dX3_report_16 (by decide) ?_
    refine g_putI (pc := 33) dX3_report_33 fl_X3_67 s_114 (by decide) rfl rfl rfl rfl ?_
    refine g_aload_n (pc := 36) dX3_report_36 rfl rfl ?_
    refine g_getIV (pc := 37) dX3_report_37 fl_X3_67 s_114 (by decide) rfl (show _ = nI 1 from rfl) ?_
    refine g_if_neN (tgt := 56) (pc := 40) dX3_report_40 (by decide) (by omega) (fun c40 => ?_) (fun c40 => ?_)
    · refine g_iconst (v := nI 0) (pc := 56) dX3_report_56 rfl ?_
      refine g_iret (pc := 57) dX3_report_57 rfl rfl ?_
      first | exact ⟨rfl, rfl⟩ | exact ⟨by rw [bI_t (by first | assumption | omega)], rfl⟩ | exact ⟨by rw [bI_f (by first | assumption | omega)], rfl⟩
    · exact absurd c40 (by decide)
theorem m_X3_report_2 {t x : Nat} (hl : I 114 10 = nI t) (ht : t ≤ 40) (hx : x < t) {y : Int32} (h : ¬ (nI 0 ≤ y ∧ y ≤ nI 3)) : gFn G YX3_report (d + 1) [.ref 114, .int (nI x), .int y] (hp n I L D) (.inl (some (.int (nI 0)))) (hp n (gUp I 114 0 (nI 2)) L D) 0 0 := by
  refine g_aload_n (pc := 0) dX3_report_0 rfl rfl ?_
  refine g_iload_n (pc := 1) dX3_report_1 rfl rfl ?_
  refine g_iconst (v := nI 0) (pc := 2) dX3_report_2 rfl ?_
  refine g_aload_n (pc := 3) dX3_report_3 rfl rfl ?_
  refine g_getIV (pc := 4) dX3_report_4 fl_X3_216 s_114 (by decide) rfl hl ?_
  refine g_iconst (v := nI 1) (pc := 7) dX3_report_7 rfl ?_
  refine g_isubN (pc := 8) dX3_report_8 (by omega) ?_
  refine g_fS (av := [.int _, .int _, .int _]) (pc := 9) dX3_report_9 mt_X3_isIn lk_X3_73 sf_X3_isIn np_X3_isIn rfl (gc_i (gc_i (gc_i gc_0))) (Nat.le_of_ble_eq_true rfl) (Nat.le_of_ble_eq_true rfl) ⟨Nat.zero_le _, Nat.zero_le _⟩ (m_X3_isInN (by omega) (by decide) (by omega)) ?_
  refine g_if_neB (tgt := 19) (pc := 12) dX3_report_12 (by decide) (fun c12 => ?_) (fun c12 => ?_)
  · refine g_iload_n (pc := 19) dX3_report_19 rfl rfl ?_
    refine g_iconst (v := nI 0) (pc := 20) dX3_report_20 rfl ?_
    refine g_iconst (v := nI 3) (pc := 21) dX3_report_21 rfl ?_
    refine g_fS (av := [.int _, .int _, .int _]) (pc := 22) dX3_report_22 mt_X3_isIn lk_X3_73 sf_X3_isIn np_X3_isIn rfl (gc_i (gc_i (gc_i gc_0))) (Nat.le_of_ble_eq_true rfl) (Nat.le_of_ble_eq_true rfl) ⟨Nat.zero_le _, Nat.zero_le _⟩ (m_X3_isIn) ?_
    refine g_if_neB (tgt := 32) (pc := 25) dX3_report_25 (by decide) (fun c25 => ?_) (fun c25 => ?_)
    · exact absurd c25 h
    · refine g_iconst (v := nI 2) (pc := 28) dX3_report_28 rfl ?_
      refine g_goto (tgt := 33) (pc := 29) dX3_report_29 (by decide) ?_
      refine g_putI (pc := 33) dX3_report_33 fl_X3_67 s_114 (by decide) rfl rfl rfl rfl ?_
      refine g_aload_n (pc := 36) dX3_report_36 rfl rfl ?_
      refine g_getIV (pc := 37) dX3_report_37 fl_X3_67 s_114 (by decide) rfl (show _ = nI 2 from rfl) ?_
      refine g_if_neN (tgt := 56) (pc := 40) dX3_report_40 (by decide) (by omega) (fun c40 => ?_) (fun c40 => ?_)
      · refine g_iconst (v := nI 0) (pc := 56) dX3_report_56 rfl ?_
        refine g_iret (pc := 57) dX3_report_57 rfl rfl ?_
        first | exact ⟨rfl, rfl⟩ | exact ⟨by rw [bI_t (by first | assumption | omega)], rfl⟩ | exact ⟨by rw [bI_f (by first | assumption | omega)], rfl⟩
      · exact absurd c40 (by decide)
  · exact absurd ⟨Nat.zero_le _, by omega⟩ c12
theorem m_X3_report_0 {t x y : Nat} (hl : I 114 10 = nI t) (ht : t ≤ 40) (hx : x < t) (hy : y < 4) : gFn G YX3_report (d + 1) [.ref 114, .int (nI x), .int (nI y)] (hp n I L D) (.inl (some (.int (I 119 (4 * x + y))))) (hp n (gUp I 114 0 (nI 0)) L D) 0 0 := by
  refine g_aload_n (pc := 0) dX3_report_0 rfl rfl ?_
  refine g_iload_n (pc := 1) dX3_report_1 rfl rfl ?_
  refine g_iconst (v := nI 0) (pc := 2) dX3_report_2 rfl ?_
  refine g_aload_n (pc := 3) dX3_report_3 rfl rfl ?_
  refine g_getIV (pc := 4) dX3_report_4 fl_X3_216 s_114 (by decide) rfl hl ?_
  refine g_iconst (v := nI 1) (pc := 7) dX3_report_7 rfl ?_
  refine g_isubN (pc := 8) dX3_report_8 (by omega) ?_
  refine g_fS (av := [.int _, .int _, .int _]) (pc := 9) dX3_report_9 mt_X3_isIn lk_X3_73 sf_X3_isIn np_X3_isIn rfl (gc_i (gc_i (gc_i gc_0))) (Nat.le_of_ble_eq_true rfl) (Nat.le_of_ble_eq_true rfl) ⟨Nat.zero_le _, Nat.zero_le _⟩ (m_X3_isInN (by omega) (by decide) (by omega)) ?_
  refine g_if_neB (tgt := 19) (pc := 12) dX3_report_12 (by decide) (fun c12 => ?_) (fun c12 => ?_)
  rotate_left
  · exact absurd ⟨Nat.zero_le _, by omega⟩ c12
  refine g_iload_n (pc := 19) dX3_report_19 rfl rfl ?_
  refine g_iconst (v := nI 0) (pc := 20) dX3_report_20 rfl ?_
  refine g_iconst (v := nI 3) (pc := 21) dX3_report_21 rfl ?_
  refine g_fS (av := [.int _, .int _, .int _]) (pc := 22) dX3_report_22 mt_X3_isIn lk_X3_73 sf_X3_isIn np_X3_isIn rfl (gc_i (gc_i (gc_i gc_0))) (Nat.le_of_ble_eq_true rfl) (Nat.le_of_ble_eq_true rfl) ⟨Nat.zero_le _, Nat.zero_le _⟩ (m_X3_isInN (by omega) (by decide) (by decide)) ?_
  refine g_if_neB (tgt := 32) (pc := 25) dX3_report_25 (by decide) (fun c25 => ?_) (fun c25 => ?_)
  rotate_left
  · exact absurd ⟨Nat.zero_le _, by omega⟩ c25
  refine g_iconst (v := nI 0) (pc := 32) dX3_report_32 rfl ?_
  refine g_putI (pc := 33) dX3_report_33 fl_X3_67 s_114 (by decide) rfl rfl rfl rfl ?_
  refine g_aload_n (pc := 36) dX3_report_36 rfl rfl ?_
  refine g_getIV (pc := 37) dX3_report_37 fl_X3_67 s_114 (by decide) rfl (show _ = nI 0 from rfl) ?_
  refine g_if_neN (tgt := 56) (pc := 40) dX3_report_40 (by decide) (by omega) (fun c40 => ?_) (fun c40 => ?_)
  · exact absurd c40 (by decide)
  · refine g_aload_n (pc := 43) dX3_report_43 rfl rfl ?_
    refine g_getR (pc := 44) dX3_report_44 fl_X3_27 s_114 (by decide) rfl t_114_9 ?_
    refine g_iconst (v := nI 4) (pc := 47) dX3_report_47 rfl ?_
    refine g_iload_n (pc := 48) dX3_report_48 rfl rfl ?_
    refine g_imulN (pc := 49) dX3_report_49 ?_
    refine g_iload_n (pc := 50) dX3_report_50 rfl rfl ?_
    refine g_iaddN (pc := 51) dX3_report_51 ?_
    refine g_ialoadN (pc := 52) dX3_report_52 s_119 (by decide) (by omega) (by decide) rfl ?_
    refine g_goto (tgt := 57) (pc := 53) dX3_report_53 (by decide) ?_
    refine g_iret (pc := 57) dX3_report_57 rfl rfl ?_
    first | exact ⟨rfl, rfl⟩ | exact ⟨by rw [bI_t (by first | assumption | omega)], rfl⟩ | exact ⟨by rw [bI_f (by first | assumption | omega)], rfl⟩
end

