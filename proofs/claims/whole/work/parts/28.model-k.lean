/-! ===== the reference: tables, sums, sets, looking at a block ===== -/
theorem gUp_a {J : Nat → Nat → Int32} {r i a b : Nat} {v x : Int32} (hne : a ≠ r) (h : J a b = x) : gUp J r i v a b = x := gUp_k (fun q => hne q.1) h
def fI (a : F6) : Int32 := nI a.val
theorem fI_x : ∀ a b : F6, fI a ^^^ fI b = fI (fa a b) := by decide +kernel
theorem fI_0 : fI 0 = nI 0 := rfl
def fF (k : Nat) : F6 := Fin.ofNat 16 k
theorem fF_v {k : Nat} (h : k ≤ 15) : (fF k).val = k := Nat.mod_eq_of_lt (by omega)
theorem fF_I {k : Nat} (h : k ≤ 15) : nI k = fI (fF k) := by unfold fI; rw [fF_v h]
/-- the tables of the reference -/
def Tb (I : Nat → Nat → Int32) : Prop := (∀ a b : F6, I 120 (16 * a.val + b.val) = fI (fm a b)) ∧ (∀ k, k < 15 → I 121 k = fI (fp k)) ∧ ∀ a : F6, a ≠ 0 → I 122 a.val = fI (fv a)
theorem Tb.s {I J : Nat → Nat → Int32} {l : List Nat} (h : Tb I) (s : Sm l I J) (h0 : 120 ∉ l) (h1 : 121 ∉ l) (h2 : 122 ∉ l) : Tb J := ⟨fun a b => by rw [s 120 h0]; exact h.1 a b, fun k hk => by rw [s 121 h1]; exact h.2.1 k hk, fun a ha => by rw [s 122 h2]; exact h.2.2 a ha⟩
theorem sh_k : ∀ k, k < 32 → ((nI k &&& 31).toBitVec.smod 32).toNat = k := by decide +kernel
theorem sh_1 : ∀ k, k < 31 → nI 1 <<< (nI k &&& 31) = nI (2 ^ k) := by decide +kernel
theorem bt_n {S k : Nat} (hS : S < 2 ^ 31) (hk : k < 32) : (nI S >>> (nI k &&& 31)) &&& nI 1 = nI (if S.testBit k then 1 else 0) := by
  rw [pk_shrN hS _ k (sh_k k hk), pk_andN (n := S / 2 ^ k) (m := nI 1) (Nat.lt_of_le_of_lt (Nat.div_le_self _ _) (by omega)) 1 rfl]
  congr 1
  have h2 : S / 2 ^ k % 2 = 0 ∨ S / 2 ^ k % 2 = 1 := by omega
  rw [Nat.testBit_eq_decide_div_mod_eq]
  rcases h2 with h | h <;> simp [h]
theorem nI_or (a b : Nat) : nI a ||| nI b = nI (a ||| b) := by
  apply Int32.toBitVec_inj.mp
  show BitVec.ofNat 32 a ||| BitVec.ofNat 32 b = BitVec.ofNat 32 (a ||| b)
  apply BitVec.eq_of_getLsbD_eq
  intro i hi
  simp only [BitVec.getLsbD_or, BitVec.getLsbD_ofNat, Nat.testBit_or]
  cases decide (i < 32) <;> simp
theorem nI_and (a b : Nat) : nI a &&& nI b = nI (a &&& b) := by
  apply Int32.toBitVec_inj.mp
  show BitVec.ofNat 32 a &&& BitVec.ofNat 32 b = BitVec.ofNat 32 (a &&& b)
  apply BitVec.eq_of_getLsbD_eq
  intro i hi
  simp only [BitVec.getLsbD_and, BitVec.getLsbD_ofNat, Nat.testBit_and]
  cases decide (i < 32) <;> simp
/-- the sums of given symbols -/
def smF (g : Nat → F6) (z j : Nat) : F6 := xs (fun i => fm (g i) (fp (i * j))) z
def erB (V : Nat → Nat) (j b : Nat) : Nat → Nat
  | 0 => 0
  | k + 1 => erB V j b k ||| (if V (320 + cellN V j b k) = 1 then 2 ^ k else 0)
def erN (V : Nat → Nat) (j b : Nat) : Nat := erB V j b (sz V j)
def gF (V : Nat → Nat) (j b i : Nat) : F6 := fF (V (80 + cellN V j b i))
theorem erB_lt {V : Nat → Nat} {j b : Nat} : ∀ k, erB V j b k < 2 ^ k
  | 0 => (by decide : 0 < 2 ^ 0)
  | k + 1 => by
    have ih := erB_lt (V := V) (j := j) (b := b) k
    unfold erB
    have e : 2 ^ (k + 1) = 2 ^ k * 2 := Nat.pow_succ 2 k
    split
    · exact Nat.or_lt_two_pow (by omega) (by omega)
    · rw [Nat.or_zero]; omega
theorem erB_bit {V : Nat → Nat} {j b i : Nat} : ∀ k, (erB V j b k).testBit i = (decide (i < k) && decide (V (320 + cellN V j b i) = 1))
  | 0 => by simp [erB]
  | k + 1 => by
    have ih := erB_bit (V := V) (j := j) (b := b) (i := i) k
    unfold erB
    rw [Nat.testBit_or, ih]
    by_cases e : i = k
    · subst e
      by_cases h : V (320 + cellN V j b i) = 1
      · simp [h, Nat.testBit_two_pow_self]
      · simp [h]
    · have e1 : decide (i < k + 1) = decide (i < k) := by
        by_cases q : i < k
        · simp [q, Nat.lt_succ_of_lt q]
        · have : ¬ i < k + 1 := by omega
          simp [q, this]
      rw [e1]
      by_cases h : V (320 + cellN V j b k) = 1
      · rw [if_pos h, Nat.testBit_two_pow_of_ne (fun q => e q.symm), Bool.or_false]
      · rw [if_neg h, Nat.zero_testBit, Bool.or_false]
section
variable {G : gG} {d n : Nat} {I : Nat → Nat → Int32} {L : Nat → Nat → Int64} {D : Nat → Nat → UInt64} {V : Nat → Nat}
theorem m_X3_times (hT : Tb I) {a b : F6} : gFn G YX3_times d [.ref 114, .int (fI a), .int (fI b)] (hp n I L D) (.inl (some (.int (fI (fm a b))))) (hp n I L D) 0 0 := by
  unfold fI
  have ha := a.isLt
  have hb := b.isLt
  refine g_aload_n (pc := 0) dX3_times_0 rfl rfl ?_
  refine g_getR (pc := 1) dX3_times_1 fl_X3_30 s_114 (by decide) rfl t_114_11 ?_
  refine g_bipush (v := nI 16) (pc := 4) dX3_times_4 rfl ?_
  refine g_iload_n (pc := 6) dX3_times_6 rfl rfl ?_
  refine g_imulN (pc := 7) dX3_times_7 ?_
  refine g_iload_n (pc := 8) dX3_times_8 rfl rfl ?_
  refine g_iaddN (pc := 9) dX3_times_9 ?_
  refine g_ialoadN (pc := 10) dX3_times_10 s_120 (by decide) (by omega) (by decide) (hT.1 a b) ?_
  refine g_iret (pc := 11) dX3_times_11 rfl rfl ?_
  first | exact ⟨rfl, rfl⟩ | exact ⟨by rw [bI_t (by first | assumption | omega)], rfl⟩ | exact ⟨by rw [bI_f (by first | assumption | omega)], rfl⟩
theorem m_X3_power (hT : Tb I) {k : Nat} (hk : k < 2 ^ 31) : gFn G YX3_power d [.ref 114, .int (nI k)] (hp n I L D) (.inl (some (.int (fI (fp k))))) (hp n I L D) 0 0 := by
  have hm := Nat.mod_lt k (show 0 < 15 by decide)
  refine g_aload_n (pc := 0) dX3_power_0 rfl rfl ?_
  refine g_getR (pc := 1) dX3_power_1 fl_X3_33 s_114 (by decide) rfl t_114_12 ?_
  refine g_iload_n (pc := 4) dX3_power_4 rfl rfl ?_
  refine g_bipush (v := nI 15) (pc := 5) dX3_power_5 rfl ?_
  refine g_iremN (pc := 7) dX3_power_7 (by omega) (by omega) (by omega) ?_
  refine g_ialoadN (pc := 8) dX3_power_8 s_121 (by decide) (by omega) (by decide) ((hT.2.1 _ hm).trans (by rw [fp_m])) ?_
  refine g_iret (pc := 9) dX3_power_9 rfl rfl ?_
  first | exact ⟨rfl, rfl⟩ | exact ⟨by rw [bI_t (by first | assumption | omega)], rfl⟩ | exact ⟨by rw [bI_f (by first | assumption | omega)], rfl⟩
theorem m_X3_sumOf (hT : Tb I) {z j : Nat} {g : Nat → F6} (hz : I 114 23 = nI z) (h14 : z ≤ 14) (hj : j < 100) (hg : ∀ i, i < z → I 124 i = fI (g i)) : gFn G YX3_sumOf (d + 1) [.ref 114, .int (nI j)] (hp n I L D) (.inl (some (.int (fI (smF g z j))))) (hp n I L D) 0 0 := by
  refine g_iconst (v := nI 0) (pc := 0) dX3_sumOf_0 rfl ?_
  refine g_istore_n (pc := 1) dX3_sumOf_1 rfl (Nat.le_of_ble_eq_true rfl) rfl ?_
  refine g_iconst (v := nI 0) (pc := 2) dX3_sumOf_2 rfl ?_
  refine g_istore_n (pc := 3) dX3_sumOf_3 rfl (Nat.le_of_ble_eq_true rfl) rfl ?_
  refine g_loop z (fun _ (_ : Unit) => True) (fun k _ => [some (.ref 114), some (.int (nI j)), some (.int (fI (smF g k j))), some (.int (nI k))]) (fun _ => hp n I L D) (fun k _ hk _ kn => ?_) (fun _ _ => ?_) 0 () (Nat.zero_le _) trivial
  · have hkj : k * j < 2 ^ 31 := Nat.lt_of_le_of_lt (Nat.mul_le_mul (show k ≤ 14 by omega) (show j ≤ 100 by omega)) (by decide)
    refine g_iload_n (pc := 4) dX3_sumOf_4 rfl rfl ?_
    refine g_aload_n (pc := 5) dX3_sumOf_5 rfl rfl ?_
    refine g_getIV (pc := 6) dX3_sumOf_6 fl_X3_133 s_114 (by decide) rfl hz ?_
    refine g_icmp_geN (tgt := 38) (pc := 9) dX3_sumOf_9 (by decide) (by omega) (by omega) (fun c9 => ?_) (fun c9 => ?_)
    · omega
    refine g_iload_n (pc := 12) dX3_sumOf_12 rfl rfl ?_
    refine g_aload_n (pc := 13) dX3_sumOf_13 rfl rfl ?_
    refine g_aload_n (pc := 14) dX3_sumOf_14 rfl rfl ?_
    refine g_getR (pc := 15) dX3_sumOf_15 fl_X3_42 s_114 (by decide) rfl t_114_17 ?_
    refine g_iload_n (pc := 18) dX3_sumOf_18 rfl rfl ?_
    refine g_ialoadN (pc := 19) dX3_sumOf_19 s_124 (by decide) (by omega) (by decide) (hg k hk) ?_
    refine g_aload_n (pc := 20) dX3_sumOf_20 rfl rfl ?_
    refine g_iload_n (pc := 21) dX3_sumOf_21 rfl rfl ?_
    refine g_iload_n (pc := 22) dX3_sumOf_22 rfl rfl ?_
    refine g_imulN (pc := 23) dX3_sumOf_23 ?_
    refine g_fV (av := [.int _]) (pc := 24) dX3_sumOf_24 mt_X3_power lk_X3_169 im_X3_power se_X3_power np_X3_power s_114 (by decide) (by decide) rfl (gc_i gc_0) (Nat.le_of_ble_eq_true rfl) (Nat.le_of_ble_eq_true rfl) ⟨Nat.zero_le _, Nat.zero_le _⟩ (m_X3_power hT hkj) ?_
    refine g_fV (av := [.int _, .int _]) (pc := 27) dX3_sumOf_27 mt_X3_times lk_X3_172 im_X3_times se_X3_times np_X3_times s_114 (by decide) (by decide) rfl (gc_i (gc_i gc_0)) (Nat.le_of_ble_eq_true rfl) (Nat.le_of_ble_eq_true rfl) ⟨Nat.zero_le _, Nat.zero_le _⟩ (m_X3_times hT) ?_
    refine g_ixor (pc := 30) dX3_sumOf_30 ?_
    rw [fI_x]
    refine g_istore_n (pc := 31) dX3_sumOf_31 rfl (Nat.le_of_ble_eq_true rfl) rfl ?_
    refine g_iincN (pc := 32) dX3_sumOf_32 (Nat.le_of_ble_eq_true rfl) rfl rfl ?_
    refine g_goto (tgt := 4) (pc := 35) dX3_sumOf_35 (by decide) ?_
    exact kn () trivial
  · skip
    refine g_iload_n (pc := 4) dX3_sumOf_4 rfl rfl ?_
    refine g_aload_n (pc := 5) dX3_sumOf_5 rfl rfl ?_
    refine g_getIV (pc := 6) dX3_sumOf_6 fl_X3_133 s_114 (by decide) rfl hz ?_
    refine g_icmp_geN (tgt := 38) (pc := 9) dX3_sumOf_9 (by decide) (by omega) (by omega) (fun c9 => ?_) (fun c9 => ?_)
    · refine g_iload_n (pc := 38) dX3_sumOf_38 rfl rfl ?_
      refine g_iret (pc := 39) dX3_sumOf_39 rfl rfl ?_
      first | exact ⟨rfl, rfl⟩ | exact ⟨by rw [bI_t (by first | assumption | omega)], rfl⟩ | exact ⟨by rw [bI_f (by first | assumption | omega)], rfl⟩
    · exact absurd (Nat.le_refl _) c9
theorem m_X3_bits {S : Nat} (hS : S < 2 ^ 31) {h : gH} : gFn G YX3_bits d [.int (nI S)] h (.inl (some (.int (nI (nS S 14))))) h 0 0 := by
  refine g_iconst (v := nI 0) (pc := 0) dX3_bits_0 rfl ?_
  refine g_istore_n (pc := 1) dX3_bits_1 rfl (Nat.le_of_ble_eq_true rfl) rfl ?_
  refine g_iconst (v := nI 0) (pc := 2) dX3_bits_2 rfl ?_
  refine g_istore_n (pc := 3) dX3_bits_3 rfl (Nat.le_of_ble_eq_true rfl) rfl ?_
  refine g_loop 14 (fun _ (_ : Unit) => True) (fun k _ => [some (.int (nI S)), some (.int (nI (nS S k))), some (.int (nI k))]) (fun _ => h) (fun k _ hk _ kn => ?_) (fun _ _ => ?_) 0 () (Nat.zero_le _) trivial
  · skip
    refine g_iload_n (pc := 4) dX3_bits_4 rfl rfl ?_
    refine g_bipush (v := nI 14) (pc := 5) dX3_bits_5 rfl ?_
    refine g_icmp_geN (tgt := 24) (pc := 7) dX3_bits_7 (by decide) (by omega) (by omega) (fun c7 => ?_) (fun c7 => ?_)
    · omega
    refine g_iload_n (pc := 10) dX3_bits_10 rfl rfl ?_
    refine g_iload_n (pc := 11) dX3_bits_11 rfl rfl ?_
    refine g_iload_n (pc := 12) dX3_bits_12 rfl rfl ?_
    refine g_ishr (pc := 13) dX3_bits_13 ?_
    refine g_iconst (v := nI 1) (pc := 14) dX3_bits_14 rfl ?_
    refine g_iand (pc := 15) dX3_bits_15 ?_
    rw [bt_n hS (by omega)]
    refine g_iaddN (pc := 16) dX3_bits_16 ?_
    refine g_istore_n (pc := 17) dX3_bits_17 rfl (Nat.le_of_ble_eq_true rfl) rfl ?_
    refine g_iincN (pc := 18) dX3_bits_18 (Nat.le_of_ble_eq_true rfl) rfl rfl ?_
    refine g_goto (tgt := 4) (pc := 21) dX3_bits_21 (by decide) ?_
    exact kn () trivial
  · skip
    refine g_iload_n (pc := 4) dX3_bits_4 rfl rfl ?_
    refine g_bipush (v := nI 14) (pc := 5) dX3_bits_5 rfl ?_
    refine g_icmp_geN (tgt := 24) (pc := 7) dX3_bits_7 (by decide) (by omega) (by omega) (fun c7 => ?_) (fun c7 => ?_)
    · refine g_iload_n (pc := 24) dX3_bits_24 rfl rfl ?_
      refine g_iret (pc := 25) dX3_bits_25 rfl rfl ?_
      first | exact ⟨rfl, rfl⟩ | exact ⟨by rw [bI_t (by first | assumption | omega)], rfl⟩ | exact ⟨by rw [bI_f (by first | assumption | omega)], rfl⟩
    · exact absurd (Nat.le_refl _) c7
theorem m_X3_isClean {e x : Nat} (h1 : I 114 25 = nI e) (h2 : I 114 27 = nI x) (he : e < 2 ^ 31) (hx : x < 2 ^ 31) : gFn G YX3_isClean d [.ref 114] (hp n I L D) (.inl (some (.int (bI (e = 0 ∧ x = 0))))) (hp n I L D) 0 0 := by
  refine g_aload_n (pc := 0) dX3_isClean_0 rfl rfl ?_
  refine g_getIV (pc := 1) dX3_isClean_1 fl_X3_138 s_114 (by decide) rfl h1 ?_
  refine g_if_neN (tgt := 18) (pc := 4) dX3_isClean_4 (by decide) (by omega) (fun c4 => ?_) (fun c4 => ?_)
  · rw [bI_f (fun q => c4 q.1)]
    refine g_iconst (v := nI 0) (pc := 18) dX3_isClean_18 rfl ?_
    refine g_iret (pc := 19) dX3_isClean_19 rfl rfl ?_
    first | exact ⟨rfl, rfl⟩ | exact ⟨by rw [bI_t (by first | assumption | omega)], rfl⟩ | exact ⟨by rw [bI_f (by first | assumption | omega)], rfl⟩
  · refine g_aload_n (pc := 7) dX3_isClean_7 rfl rfl ?_
    refine g_getIV (pc := 8) dX3_isClean_8 fl_X3_184 s_114 (by decide) rfl h2 ?_
    refine g_if_neN (tgt := 18) (pc := 11) dX3_isClean_11 (by decide) (by omega) (fun c11 => ?_) (fun c11 => ?_)
    · rw [bI_f (fun q => c11 q.2)]
      refine g_iconst (v := nI 0) (pc := 18) dX3_isClean_18 rfl ?_
      refine g_iret (pc := 19) dX3_isClean_19 rfl rfl ?_
      first | exact ⟨rfl, rfl⟩ | exact ⟨by rw [bI_t (by first | assumption | omega)], rfl⟩ | exact ⟨by rw [bI_f (by first | assumption | omega)], rfl⟩
    · rw [bI_t ⟨c4, c11⟩]
      refine g_iconst (v := nI 1) (pc := 14) dX3_isClean_14 rfl ?_
      refine g_goto (tgt := 19) (pc := 15) dX3_isClean_15 (by decide) ?_
      refine g_iret (pc := 19) dX3_isClean_19 rfl rfl ?_
      first | exact ⟨rfl, rfl⟩ | exact ⟨by rw [bI_t (by first | assumption | omega)], rfl⟩ | exact ⟨by rw [bI_f (by first | assumption | omega)], rfl⟩
theorem m_X3_looks (hV : Vok I V) (hW : WF V) {j b : Nat} (hj : j < 8) (h1 : V (10 * j) = 1) (hb : b < bl V j) : gRv G YX3_looks (d + 3) [.ref 114, .int (nI j), .int (nI b)] n I L D (fun J => Sm [114, 124] I J ∧ Sc 114 [23, 24, 25] I J ∧ J 114 23 = nI (sz V j) ∧ J 114 24 = nI (V (10 * j + 2)) ∧ J 114 25 = nI (erN V j b) ∧ ∀ i, i < sz V j → J 124 i = fI (gF V j b i)) := by
  have hw := hW.1 j hj
  have hbl := bl_le hw
  have hsz := sz_le hw
  refine g_aload_n (pc := 0) dX3_looks_0 rfl rfl ?_
  refine g_aload_n (pc := 1) dX3_looks_1 rfl rfl ?_
  refine g_iload_n (pc := 2) dX3_looks_2 rfl rfl ?_
  refine g_fV (av := [.int _]) (pc := 3) dX3_looks_3 mt_X3_size lk_X3_84 im_X3_size se_X3_size np_X3_size s_114 (by decide) (by decide) rfl (gc_i gc_0) (Nat.le_of_ble_eq_true rfl) (Nat.le_of_ble_eq_true rfl) ⟨Nat.zero_le _, Nat.zero_le _⟩ (m_X3_size hV hj) ?_
  refine g_putI (pc := 6) dX3_looks_6 fl_X3_133 s_114 (by decide) rfl rfl rfl rfl ?_
  refine g_aload_n (pc := 9) dX3_looks_9 rfl rfl ?_
  refine g_aload_n (pc := 10) dX3_looks_10 rfl rfl ?_
  refine g_iload_n (pc := 11) dX3_looks_11 rfl rfl ?_
  refine g_iconst (v := nI 2) (pc := 12) dX3_looks_12 rfl ?_
  refine g_fV (av := [.int _, .int _]) (pc := 13) dX3_looks_13 mt_X3_of lk_X3_77 im_X3_of se_X3_of np_X3_of s_114 (by decide) (by decide) rfl (gc_i (gc_i gc_0)) (Nat.le_of_ble_eq_true rfl) (Nat.le_of_ble_eq_true rfl) ⟨Nat.zero_le _, Nat.zero_le _⟩ (m_X3_of hV.f (j := j) (w := 2) hj (by decide)) ?_
  refine g_putI (pc := 16) dX3_looks_16 fl_X3_135 s_114 (by decide) rfl rfl rfl rfl ?_
  refine g_aload_n (pc := 19) dX3_looks_19 rfl rfl ?_
  refine g_iconst (v := nI 0) (pc := 20) dX3_looks_20 rfl ?_
  refine g_putI (pc := 21) dX3_looks_21 fl_X3_138 s_114 (by decide) rfl rfl rfl rfl ?_
  refine g_iconst (v := nI 0) (pc := 24) dX3_looks_24 rfl ?_
  refine g_istore_n (pc := 25) dX3_looks_25 rfl (Nat.le_of_ble_eq_true rfl) rfl ?_
  refine g_loop (sz V j) (fun k J => Sm [114, 124] I J ∧ Sc 114 [23, 24, 25] I J ∧ J 114 23 = nI (sz V j) ∧ J 114 24 = nI (V (10 * j + 2)) ∧ J 114 25 = nI (erB V j b k) ∧ ∀ i, i < k → J 124 i = fI (gF V j b i)) (fun k _ => [some (.ref 114), some (.int (nI j)), some (.int (nI b)), some (.int (nI k)), none]) (fun J => hp n J L D) (fun k J hk hJ kn => ?_) (fun J hJ => ?_) 0 _ (Nat.zero_le _) ⟨(by repeat' first | assumption | exact Sm.rfl | exact Sc.rfl | refine Sm.up (by decide) ?_ | refine Sc.up (by decide) ?_ | refine Sc.un (by decide) ?_), (by repeat' first | assumption | exact Sm.rfl | exact Sc.rfl | refine Sm.up (by decide) ?_ | refine Sc.up (by decide) ?_ | refine Sc.un (by decide) ?_), ?_, ?_, ?_, fun i hi => absurd hi (Nat.not_lt_zero i)⟩
  · obtain ⟨k1, k2, k3, k4, k5, k6⟩ := hJ
    have hVJ : Vok J V := hV.s k1 (by decide)
    have hcl := cellN_lt hw h1 hb hk
    have hvb := hW.2.2.2 _ hcl
    refine g_iload_n (pc := 26) dX3_looks_26 rfl rfl ?_
    refine g_aload_n (pc := 27) dX3_looks_27 rfl rfl ?_
    refine g_getIV (pc := 28) dX3_looks_28 fl_X3_133 s_114 (by decide) rfl k3 ?_
    refine g_icmp_geN (tgt := 96) (pc := 31) dX3_looks_31 (by decide) (by omega) (by omega) (fun c31 => ?_) (fun c31 => ?_)
    · omega
    refine g_aload_n (pc := 34) dX3_looks_34 rfl rfl ?_
    refine g_iload_n (pc := 35) dX3_looks_35 rfl rfl ?_
    refine g_iload_n (pc := 36) dX3_looks_36 rfl rfl ?_
    refine g_iload_n (pc := 37) dX3_looks_37 rfl rfl ?_
    refine g_fV (av := [.int _, .int _, .int _]) (pc := 38) dX3_looks_38 mt_X3_cell lk_X3_145 im_X3_cell se_X3_cell np_X3_cell s_114 (by decide) (by decide) rfl (gc_i (gc_i (gc_i gc_0))) (Nat.le_of_ble_eq_true rfl) (Nat.le_of_ble_eq_true rfl) ⟨Nat.zero_le _, Nat.zero_le _⟩ (m_X3_cell hVJ hW hj h1 hb) ?_
    refine g_istore (pc := 41) dX3_looks_41 (Nat.le_of_ble_eq_true rfl) rfl ?_
    refine g_aload_n (pc := 43) dX3_looks_43 rfl rfl ?_
    refine g_getR (pc := 44) dX3_looks_44 fl_X3_42 s_114 (by decide) rfl t_114_17 ?_
    refine g_iload_n (pc := 47) dX3_looks_47 rfl rfl ?_
    refine g_aload_n (pc := 48) dX3_looks_48 rfl rfl ?_
    refine g_getR (pc := 49) dX3_looks_49 fl_X3_9 s_114 (by decide) rfl t_114_1 ?_
    refine g_bipush (v := nI 80) (pc := 52) dX3_looks_52 rfl ?_
    refine g_iload (pc := 54) dX3_looks_54 rfl ?_
    refine g_iaddN (pc := 56) dX3_looks_56 ?_
    refine g_ialoadN (pc := 57) dX3_looks_57 s_115 (by decide) (by omega) (by decide) (hVJ _ (by omega)) ?_
    refine g_iastoreN (pc := 58) dX3_looks_58 s_124 (by decide) (by omega) (by decide) ?_
    refine g_aload_n (pc := 59) dX3_looks_59 rfl rfl ?_
    refine g_dup (pc := 60) dX3_looks_60 rfl ?_
    refine g_getIV (pc := 61) dX3_looks_61 fl_X3_138 s_114 (by decide) rfl (gUp_a (by decide) k5) ?_
    refine g_aload_n (pc := 64) dX3_looks_64 rfl rfl ?_
    refine g_getR (pc := 65) dX3_looks_65 fl_X3_9 s_114 (by decide) rfl t_114_1 ?_
    refine g_sipush (v := nI 320) (pc := 68) dX3_looks_68 rfl ?_
    refine g_iload (pc := 71) dX3_looks_71 rfl ?_
    refine g_iaddN (pc := 73) dX3_looks_73 ?_
    refine g_ialoadN (pc := 74) dX3_looks_74 s_115 (by decide) (by omega) (by decide) (gUp_a (by decide) (hVJ _ (by omega))) ?_
    refine g_iconst (v := nI 1) (pc := 75) dX3_looks_75 rfl ?_
    refine g_icmp_neN (tgt := 85) (pc := 76) dX3_looks_76 (by decide) (by omega) (by omega) (fun c76 => ?_) (fun c76 => ?_)
    · refine g_iconst (v := nI 0) (pc := 85) dX3_looks_85 rfl ?_
      refine g_ior (pc := 86) dX3_looks_86 ?_
      refine g_putI (pc := 87) dX3_looks_87 fl_X3_138 s_114 (by decide) rfl rfl rfl rfl ?_
      refine g_iincN (pc := 90) dX3_looks_90 (Nat.le_of_ble_eq_true rfl) rfl rfl ?_
      refine g_goto (tgt := 26) (pc := 93) dX3_looks_93 (by decide) ?_
      refine g_fg 4 ?_
      refine kn _ ⟨?_, ?_, ?_, ?_, ?_, ?_⟩
      · exact Sm.up (by decide) (Sm.up (by decide) k1)
      · exact Sc.up (by decide) (Sc.un (by decide) k2)
      · rw [gUp_c, if_neg (by decide), gUp_ne (by decide)]; exact k3
      · rw [gUp_c, if_neg (by decide), gUp_ne (by decide)]; exact k4
      · first
        | (rw [gUp_c, if_pos rfl, nI_or, erB, if_pos c76]; done)
        | (rw [gUp_c, if_pos rfl, nI_or, erB, if_neg c76]; done)
      · intro i hi
        rw [gUp_ne (by decide), gUp_c]
        by_cases e : i = k
        · rw [if_pos e, fF_I hvb.1, e]; rfl
        · rw [if_neg e]; exact k6 i (by omega)
    · refine g_iconst (v := nI 1) (pc := 79) dX3_looks_79 rfl ?_
      refine g_iload_n (pc := 80) dX3_looks_80 rfl rfl ?_
      refine g_ishl (pc := 81) dX3_looks_81 ?_
      rw [sh_1 k (by omega)]
      refine g_goto (tgt := 86) (pc := 82) dX3_looks_82 (by decide) ?_
      refine g_ior (pc := 86) dX3_looks_86 ?_
      refine g_putI (pc := 87) dX3_looks_87 fl_X3_138 s_114 (by decide) rfl rfl rfl rfl ?_
      refine g_iincN (pc := 90) dX3_looks_90 (Nat.le_of_ble_eq_true rfl) rfl rfl ?_
      refine g_goto (tgt := 26) (pc := 93) dX3_looks_93 (by decide) ?_
      refine g_fg 4 ?_
      refine kn _ ⟨?_, ?_, ?_, ?_, ?_, ?_⟩
      · exact Sm.up (by decide) (Sm.up (by decide) k1)
      · exact Sc.up (by decide) (Sc.un (by decide) k2)
      · rw [gUp_c, if_neg (by decide), gUp_ne (by decide)]; exact k3
      · rw [gUp_c, if_neg (by decide), gUp_ne (by decide)]; exact k4
      · first
        | (rw [gUp_c, if_pos rfl, nI_or, erB, if_pos c76]; done)
        | (rw [gUp_c, if_pos rfl, nI_or, erB, if_neg c76]; done)
      · intro i hi
        rw [gUp_ne (by decide), gUp_c]
        by_cases e : i = k
        · rw [if_pos e, fF_I hvb.1, e]; rfl
        · rw [if_neg e]; exact k6 i (by omega)
  · obtain ⟨k1, k2, k3, k4, k5, k6⟩ := hJ
    refine g_iload_n (pc := 26) dX3_looks_26 rfl rfl ?_
    refine g_aload_n (pc := 27) dX3_looks_27 rfl rfl ?_
    refine g_getIV (pc := 28) dX3_looks_28 fl_X3_133 s_114 (by decide) rfl k3 ?_
    refine g_icmp_geN (tgt := 96) (pc := 31) dX3_looks_31 (by decide) (by omega) (by omega) (fun c31 => ?_) (fun c31 => ?_)
    · refine g_vret (pc := 96) dX3_looks_96 rfl ?_
      refine ⟨_, ⟨rfl, rfl⟩, ?_⟩
      exact ⟨k1, k2, k3, k4, k5, k6⟩
    · exact absurd (Nat.le_refl _) c31
  · exact gUp_k (by decide) (gUp_k (by decide) (by rw [gUp_c, if_pos rfl]))
  · exact gUp_k (by decide) (by rw [gUp_c, if_pos rfl])
  · rw [gUp_c, if_pos rfl]; rfl
end

