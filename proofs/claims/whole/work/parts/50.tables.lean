/-! ===== the class's tables; counting bits ===== -/
def lgN (a : F6) : Nat := ([0, 0, 1, 4, 2, 8, 5, 10, 3, 14, 9, 7, 6, 13, 11, 12] : List Nat).getD a.val 0
/-- the rows of constants -/
def Kt (I : Nat → Nat → Int32) : Prop := (∀ k, k < 15 → I 1 k = fI (fp k)) ∧ ∀ a : F6, I 2 a.val = nI (lgN a)
theorem Kt.s {I J : Nat → Nat → Int32} {l : List Nat} (h : Kt I) (s : Sm l I J) (h1 : 1 ∉ l) (h2 : 2 ∉ l) : Kt J := ⟨fun k hk => by rw [s 1 h1]; exact h.1 k hk, fun a => by rw [s 2 h2]; exact h.2 a⟩
theorem lg_m : ∀ a b : F6, a ≠ 0 → b ≠ 0 → fp ((lgN a + lgN b) % 15) = fm a b := by decide +kernel
theorem lg_q : ∀ a b : F6, a ≠ 0 → b ≠ 0 → fp ((lgN a + 15 - lgN b) % 15) = fm a (fv b) := by decide +kernel
theorem lg_lt : ∀ a : F6, lgN a < 15 := by decide +kernel
theorem and15 : ∀ a : F6, fI a &&& nI 15 = nI a.val := by decide +kernel
theorem F6_0 {a : F6} : a.val = 0 ↔ a = 0 := ⟨fun h => Fin.ext h, fun h => by rw [h]; rfl⟩
theorem J6_k1 : Cond.constant "java/lang/Integer" 265 (nI 0x55555555) ∈ gW := by decide +kernel
theorem J6_k2 : Cond.constant "java/lang/Integer" 266 (nI 0x33333333) ∈ gW := by decide +kernel
theorem J6_k3 : Cond.constant "java/lang/Integer" 267 (nI 0x0f0f0f0f) ∈ gW := by decide +kernel
theorem us_k : ∀ k, k < 32 → (((nI k).toUInt32 &&& Int32.toUInt32 31).toBitVec % 32).toNat = k := by decide +kernel
theorem g_iushrN {G : gG} {Y : gY} {d pc : Nat} {al : List (Option Value)} {st : List Value} {h : gH} {kc ks : Nat} {Q : gQ} {a k : Nat} (dg : decode Y.2.1 pc = .ok (.iushr, 1)) (ha : a < 2 ^ 31) (hk : k < 32) (kk : gGo G Y d (pc + 1) al (.int (nI (a / 2 ^ k)) :: st) h kc ks Q) : gGo G Y d pc al (.int (nI k) :: .int (nI a) :: st) h kc ks Q := g_iushr dg (by rw [pk_ushrN (by omega) _ k (us_k k hk)]; exact kk)
/-- bits, as the library counts them -/
def bcN (S : Nat) : Nat :=
  let a := S - (S / 2 ^ 1 &&& 0x55555555)
  let b := (a &&& 0x33333333) + (a / 2 ^ 2 &&& 0x33333333)
  let c := (b + b / 2 ^ 4) &&& 0x0f0f0f0f
  let e := c + c / 2 ^ 8
  (e + e / 2 ^ 16) &&& 63
theorem bc_ok0 : allF (fun S => bcN S == pcF S) 16384 = true := by decide +kernel
theorem bc_ok {S : Nat} (h : S < 16384) : bcN S = nS S 14 := by
  have := allF_of bc_ok0 S h
  rw [← pc_ok h]
  simpa using this
section
variable {G : gG} {d n : Nat} {I : Nat → Nat → Int32} {L : Nat → Nat → Int64} {D : Nat → Nat → UInt64} {V : Nat → Nat}
theorem m_J6_bitCount {S : Nat} (hS : S < 16384) {h : gH} : gFn G YJ6_bitCount_0f7a4 d [.int (nI S)] h (.inl (some (.int (nI (nS S 14))))) h 0 0 := by
  rw [← bc_ok hS]
  have b1 : S / 2 ^ 1 &&& 0x55555555 ≤ S / 2 ^ 1 := Nat.and_le_left
  have l1 : S - (S / 2 ^ 1 &&& 0x55555555) ≤ S := Nat.sub_le _ _
  have b2 : (S - (S / 2 ^ 1 &&& 0x55555555)) &&& 0x33333333 ≤ S - (S / 2 ^ 1 &&& 0x55555555) := Nat.and_le_left
  have b3 : (S - (S / 2 ^ 1 &&& 0x55555555)) / 2 ^ 2 &&& 0x33333333 ≤ (S - (S / 2 ^ 1 &&& 0x55555555)) / 2 ^ 2 := Nat.and_le_left
  generalize hA : (S - (S / 2 ^ 1 &&& 0x55555555)) = A at *
  generalize hB : (A &&& 0x33333333) + (A / 2 ^ 2 &&& 0x33333333) = B at *
  have lB : B < 40000 := by omega
  have b4 : (B + B / 2 ^ 4) &&& 0x0f0f0f0f ≤ B + B / 2 ^ 4 := Nat.and_le_left
  generalize hC : ((B + B / 2 ^ 4) &&& 0x0f0f0f0f) = C at *
  have e : bcN S = ((C + C / 2 ^ 8) + (C + C / 2 ^ 8) / 2 ^ 16) &&& 63 := by
    rw [← hC, ← hB, ← hA]
    rfl
  rw [e]
  refine g_iload_n (pc := 0) dJ6_bitCount_0f7a4_0 rfl rfl ?_
  refine g_iload_n (pc := 1) dJ6_bitCount_0f7a4_1 rfl rfl ?_
  refine g_iconst (v := nI 1) (pc := 2) dJ6_bitCount_0f7a4_2 rfl ?_
  refine g_iushrN (pc := 3) dJ6_bitCount_0f7a4_3 (by omega) (by decide) ?_
  refine g_ldcw (pc := 4) dJ6_bitCount_0f7a4_4 J6_k1 ?_
  refine g_iand (pc := 7) dJ6_bitCount_0f7a4_7 ?_
  rw [nI_and]
  refine g_isubN (pc := 8) dJ6_bitCount_0f7a4_8 (by omega) ?_
  rw [hA]
  refine g_istore_n (pc := 9) dJ6_bitCount_0f7a4_9 rfl (Nat.le_of_ble_eq_true rfl) rfl ?_
  refine g_iload_n (pc := 10) dJ6_bitCount_0f7a4_10 rfl rfl ?_
  refine g_ldcw (pc := 11) dJ6_bitCount_0f7a4_11 J6_k2 ?_
  refine g_iand (pc := 14) dJ6_bitCount_0f7a4_14 ?_
  rw [nI_and]
  refine g_iload_n (pc := 15) dJ6_bitCount_0f7a4_15 rfl rfl ?_
  refine g_iconst (v := nI 2) (pc := 16) dJ6_bitCount_0f7a4_16 rfl ?_
  refine g_iushrN (pc := 17) dJ6_bitCount_0f7a4_17 (by omega) (by decide) ?_
  refine g_ldcw (pc := 18) dJ6_bitCount_0f7a4_18 J6_k2 ?_
  refine g_iand (pc := 21) dJ6_bitCount_0f7a4_21 ?_
  rw [nI_and]
  refine g_iaddN (pc := 22) dJ6_bitCount_0f7a4_22 ?_
  rw [hB]
  refine g_istore_n (pc := 23) dJ6_bitCount_0f7a4_23 rfl (Nat.le_of_ble_eq_true rfl) rfl ?_
  refine g_iload_n (pc := 24) dJ6_bitCount_0f7a4_24 rfl rfl ?_
  refine g_iload_n (pc := 25) dJ6_bitCount_0f7a4_25 rfl rfl ?_
  refine g_iconst (v := nI 4) (pc := 26) dJ6_bitCount_0f7a4_26 rfl ?_
  refine g_iushrN (pc := 27) dJ6_bitCount_0f7a4_27 (by omega) (by decide) ?_
  refine g_iaddN (pc := 28) dJ6_bitCount_0f7a4_28 ?_
  refine g_ldcw (pc := 29) dJ6_bitCount_0f7a4_29 J6_k3 ?_
  refine g_iand (pc := 32) dJ6_bitCount_0f7a4_32 ?_
  rw [nI_and, hC]
  refine g_istore_n (pc := 33) dJ6_bitCount_0f7a4_33 rfl (Nat.le_of_ble_eq_true rfl) rfl ?_
  refine g_iload_n (pc := 34) dJ6_bitCount_0f7a4_34 rfl rfl ?_
  refine g_iload_n (pc := 35) dJ6_bitCount_0f7a4_35 rfl rfl ?_
  refine g_bipush (v := nI 8) (pc := 36) dJ6_bitCount_0f7a4_36 rfl ?_
  refine g_iushrN (pc := 38) dJ6_bitCount_0f7a4_38 (by omega) (by decide) ?_
  refine g_iaddN (pc := 39) dJ6_bitCount_0f7a4_39 ?_
  refine g_istore_n (pc := 40) dJ6_bitCount_0f7a4_40 rfl (Nat.le_of_ble_eq_true rfl) rfl ?_
  refine g_iload_n (pc := 41) dJ6_bitCount_0f7a4_41 rfl rfl ?_
  refine g_iload_n (pc := 42) dJ6_bitCount_0f7a4_42 rfl rfl ?_
  refine g_bipush (v := nI 16) (pc := 43) dJ6_bitCount_0f7a4_43 rfl ?_
  refine g_iushrN (pc := 45) dJ6_bitCount_0f7a4_45 (by omega) (by decide) ?_
  refine g_iaddN (pc := 46) dJ6_bitCount_0f7a4_46 ?_
  refine g_istore_n (pc := 47) dJ6_bitCount_0f7a4_47 rfl (Nat.le_of_ble_eq_true rfl) rfl ?_
  refine g_iload_n (pc := 48) dJ6_bitCount_0f7a4_48 rfl rfl ?_
  refine g_bipush (v := nI 63) (pc := 49) dJ6_bitCount_0f7a4_49 rfl ?_
  refine g_iand (pc := 51) dJ6_bitCount_0f7a4_51 ?_
  rw [nI_and]
  refine g_iret (pc := 52) dJ6_bitCount_0f7a4_52 rfl rfl ?_
  first | exact ⟨rfl, rfl⟩ | exact ⟨by rw [bI_t (by first | assumption | omega)], rfl⟩ | exact ⟨by rw [bI_f (by first | assumption | omega)], rfl⟩
theorem m_X2_product (hK : Kt I) {a b : F6} : gFn G YX2_product d [.int (fI a), .int (fI b)] (hp n I L D) (.inl (some (.int (fI (fm a b))))) (hp n I L D) 0 0 := by
  have ha := a.isLt
  have hb := b.isLt
  have la := lg_lt a
  have lb := lg_lt b
  show gGo G YX2_product d 0 (gIn _ [.int (nI a.val), .int (nI b.val)]) [] (hp n I L D) 0 0 _
  refine g_iload_n (pc := 0) dX2_product_0 rfl rfl ?_
  refine g_if_eqN (tgt := 8) (pc := 1) dX2_product_1 (by decide) (by omega) (fun c1 => ?_) (fun c1 => ?_)
  · rw [F6_0.mp c1, fm_0']
    refine g_iconst (v := nI 0) (pc := 8) dX2_product_8 rfl ?_
    refine g_iret (pc := 9) dX2_product_9 rfl rfl ?_
    first | exact ⟨rfl, rfl⟩ | exact ⟨by rw [bI_t (by first | assumption | omega)], rfl⟩ | exact ⟨by rw [bI_f (by first | assumption | omega)], rfl⟩
  refine g_iload_n (pc := 4) dX2_product_4 rfl rfl ?_
  refine g_if_neN (tgt := 10) (pc := 5) dX2_product_5 (by decide) (by omega) (fun c5 => ?_) (fun c5 => ?_)
  · rw [← lg_m a b (fun e => c1 (F6_0.mpr e)) (fun e => c5 (F6_0.mpr e))]
    refine g_powers (pc := 10) dX2_product_10 (Or.inl fs_X2_353) ?_
    refine g_logs (pc := 13) dX2_product_13 (Or.inl fs_X2_356) ?_
    refine g_iload_n (pc := 16) dX2_product_16 rfl rfl ?_
    refine g_bipush (v := nI 15) (pc := 17) dX2_product_17 rfl ?_
    refine g_iand (pc := 19) dX2_product_19 ?_
    rw [show nI a.val &&& nI 15 = nI a.val from and15 a]
    refine g_ialoadKN (pc := 20) dX2_product_20 s_2 (by decide) (by omega) (by decide) (hK.2 a) ?_
    refine g_logs (pc := 21) dX2_product_21 (Or.inl fs_X2_356) ?_
    refine g_iload_n (pc := 24) dX2_product_24 rfl rfl ?_
    refine g_bipush (v := nI 15) (pc := 25) dX2_product_25 rfl ?_
    refine g_iand (pc := 27) dX2_product_27 ?_
    rw [show nI b.val &&& nI 15 = nI b.val from and15 b]
    refine g_ialoadKN (pc := 28) dX2_product_28 s_2 (by decide) (by omega) (by decide) (hK.2 b) ?_
    refine g_iaddN (pc := 29) dX2_product_29 ?_
    refine g_bipush (v := nI 15) (pc := 30) dX2_product_30 rfl ?_
    refine g_iremN (pc := 32) dX2_product_32 (by omega) (by omega) (by omega) ?_
    refine g_ialoadKN (pc := 33) dX2_product_33 s_1 (by decide) (by omega) (by decide) (hK.1 _ (Nat.mod_lt _ (by decide))) ?_
    refine g_iret (pc := 34) dX2_product_34 rfl rfl ?_
    first | exact ⟨rfl, rfl⟩ | exact ⟨by rw [bI_t (by first | assumption | omega)], rfl⟩ | exact ⟨by rw [bI_f (by first | assumption | omega)], rfl⟩
  · rw [F6_0.mp c5, fm_0]
    refine g_iconst (v := nI 0) (pc := 8) dX2_product_8 rfl ?_
    refine g_iret (pc := 9) dX2_product_9 rfl rfl ?_
    first | exact ⟨rfl, rfl⟩ | exact ⟨by rw [bI_t (by first | assumption | omega)], rfl⟩ | exact ⟨by rw [bI_f (by first | assumption | omega)], rfl⟩
theorem m_X2_quotient (hK : Kt I) {a b : F6} (hb0 : b ≠ 0) : gFn G YX2_quotient d [.int (fI a), .int (fI b)] (hp n I L D) (.inl (some (.int (fI (fm a (fv b)))))) (hp n I L D) 0 0 := by
  have ha := a.isLt
  have hb := b.isLt
  have la := lg_lt a
  have lb := lg_lt b
  show gGo G YX2_quotient d 0 (gIn _ [.int (nI a.val), .int (nI b.val)]) [] (hp n I L D) 0 0 _
  refine g_iload_n (pc := 0) dX2_quotient_0 rfl rfl ?_
  refine g_if_eqN (tgt := 8) (pc := 1) dX2_quotient_1 (by decide) (by omega) (fun c1 => ?_) (fun c1 => ?_)
  · rw [F6_0.mp c1, fm_0']
    refine g_iconst (v := nI 0) (pc := 8) dX2_quotient_8 rfl ?_
    refine g_iret (pc := 9) dX2_quotient_9 rfl rfl ?_
    first | exact ⟨rfl, rfl⟩ | exact ⟨by rw [bI_t (by first | assumption | omega)], rfl⟩ | exact ⟨by rw [bI_f (by first | assumption | omega)], rfl⟩
  refine g_iload_n (pc := 4) dX2_quotient_4 rfl rfl ?_
  refine g_if_neN (tgt := 10) (pc := 5) dX2_quotient_5 (by decide) (by omega) (fun c5 => ?_) (fun c5 => ?_)
  · rw [← lg_q a b (fun e => c1 (F6_0.mpr e)) hb0]
    refine g_powers (pc := 10) dX2_quotient_10 (Or.inl fs_X2_353) ?_
    refine g_logs (pc := 13) dX2_quotient_13 (Or.inl fs_X2_356) ?_
    refine g_iload_n (pc := 16) dX2_quotient_16 rfl rfl ?_
    refine g_bipush (v := nI 15) (pc := 17) dX2_quotient_17 rfl ?_
    refine g_iand (pc := 19) dX2_quotient_19 ?_
    rw [show nI a.val &&& nI 15 = nI a.val from and15 a]
    refine g_ialoadKN (pc := 20) dX2_quotient_20 s_2 (by decide) (by omega) (by decide) (hK.2 a) ?_
    refine g_bipush (v := nI 15) (pc := 21) dX2_quotient_21 rfl ?_
    refine g_iaddN (pc := 23) dX2_quotient_23 ?_
    refine g_logs (pc := 24) dX2_quotient_24 (Or.inl fs_X2_356) ?_
    refine g_iload_n (pc := 27) dX2_quotient_27 rfl rfl ?_
    refine g_bipush (v := nI 15) (pc := 28) dX2_quotient_28 rfl ?_
    refine g_iand (pc := 30) dX2_quotient_30 ?_
    rw [show nI b.val &&& nI 15 = nI b.val from and15 b]
    refine g_ialoadKN (pc := 31) dX2_quotient_31 s_2 (by decide) (by omega) (by decide) (hK.2 b) ?_
    refine g_isubN (pc := 32) dX2_quotient_32 (by omega) ?_
    refine g_bipush (v := nI 15) (pc := 33) dX2_quotient_33 rfl ?_
    refine g_iremN (pc := 35) dX2_quotient_35 (by omega) (by omega) (by omega) ?_
    refine g_ialoadKN (pc := 36) dX2_quotient_36 s_1 (by decide) (by omega) (by decide) (hK.1 _ (Nat.mod_lt _ (by decide))) ?_
    refine g_iret (pc := 37) dX2_quotient_37 rfl rfl ?_
    first | exact ⟨rfl, rfl⟩ | exact ⟨by rw [bI_t (by first | assumption | omega)], rfl⟩ | exact ⟨by rw [bI_f (by first | assumption | omega)], rfl⟩
  · exact absurd (F6_0.mp c5) hb0
end

