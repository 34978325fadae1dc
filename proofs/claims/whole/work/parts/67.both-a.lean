/-! ===== each question, asked of both ===== -/
section
variable {G : gG} {n : Nat} {I : Nat → Nat → Int32} {V : Nat → Nat} {C : Nat → Int32} {H : hT} {m : Nat} {T : Nat → Nat} {t : Nat} {e : Int32} {K : Option ((Nat → Nat) × (Nat → Int32))} {l : Nat} {Ls : Nat → Int32}
theorem b_symbol (hR : Rl I V C H m T t e K l Ls) (c : Int32) : Bt G n I YX2_symbol YX3_symbol ["java/lang/IndexOutOfBoundsException"] [.int c] := by
  by_cases hc : nI 0 ≤ c ∧ c ≤ nI 239
  · obtain ⟨k, hk, rfl⟩ := nI_rng (by decide) hc
    exact bt_f hR (o := .inl (nI (V (80 + k)))) oc (fun L D => m_X2_symbol_0 (d := 12) hR.S (by omega)) (fun L D => m_X3_symbol_t (d := 18) hR.Vv (by omega)) (QF.z hR.X) ov1
  · exact bt_f hR (o := .inr 0) (ox (by decide)) (fun L D => m_X2_symbol_1 (d := 12) hc) (fun L D => m_X3_symbol_f (d := 18) hc) (QF.z hR.X) ov2
theorem b_isErased (hR : Rl I V C H m T t e K l Ls) (c : Int32) : Bt G n I YX2_isErased YX3_isErased ["java/lang/IndexOutOfBoundsException"] [.int c] := by
  by_cases hc : nI 0 ≤ c ∧ c ≤ nI 239
  · obtain ⟨k, hk, rfl⟩ := nI_rng (by decide) hc
    exact bt_f hR (o := .inl (bI (V (320 + k) = 1))) oc (fun L D => m_X2_isErased_0 (d := 12) hR.S hR.W (by omega)) (fun L D => m_X3_isErased_t (d := 18) hR.Vv hR.W (by omega)) (QF.z hR.X) ov1
  · exact bt_f hR (o := .inr 0) (ox (by decide)) (fun L D => m_X2_isErased_1 (d := 12) hc) (fun L D => m_X3_isErased_f (d := 18) hc) (QF.z hR.X) ov2
theorem b_owner (hR : Rl I V C H m T t e K l Ls) (c : Int32) : Bt G n I YX2_owner YX3_owner ["java/lang/IndexOutOfBoundsException"] [.int c] := by
  by_cases hc : nI 0 ≤ c ∧ c ≤ nI 239
  · obtain ⟨k, hk, rfl⟩ := nI_rng (by decide) hc
    exact bt_f hR (o := .inl (ownI V k)) oc (fun L D => m_X2_owner_0 (d := 12) hR.S hR.W (by omega)) (fun L D => m_X3_owner_t (d := 16) hR.Vv hR.W (by omega)) (QF.z hR.X) ov1
  · exact bt_f hR (o := .inr 0) (ox (by decide)) (fun L D => m_X2_owner_1 (d := 12) hc) (fun L D => m_X3_owner_f (d := 16) hc) (QF.z hR.X) ov2
theorem b_placeOf (hR : Rl I V C H m T t e K l Ls) (c : Int32) : Bt G n I YX2_placeOf YX3_placeOf ["java/lang/IndexOutOfBoundsException", "java/util/NoSuchElementException"] [.int c] := by
  by_cases hc : nI 0 ≤ c ∧ c ≤ nI 239
  · obtain ⟨k, hk, rfl⟩ := nI_rng (by decide) hc
    cases ho : own V k with
    | none => exact bt_f hR (o := .inr 1) (ox (by decide)) (fun L D => m_X2_placeOf_2 (d := 12) hR.S hR.W (by omega) ho) (fun L D => m_X3_placeOf_2 (d := 16) hR.Vv hR.W (by omega) ho) (QF.no (QF.z hR.X)) ov2
    | some j => exact bt_f hR (o := .inl (nI (100 * plB V j k + plI V j k))) oc (fun L D => m_X2_placeOf_0 (d := 12) hR.S hR.W (by omega) ho) (fun L D => m_X3_placeOf_0 (d := 16) hR.Vv hR.W (by omega) ho) (QF.z hR.X) ov1
  · exact bt_f hR (o := .inr 0) (ox (by decide)) (fun L D => m_X2_placeOf_1 (d := 12) hc) (fun L D => m_X3_placeOf_1 (d := 16) hc) (QF.z hR.X) ov2
theorem b_errorPosition (hR : Rl I V C H m T t e K l Ls) : Bt G n I YX2_errorPosition YX3_errorPosition ["java/util/NoSuchElementException"] [] := by
  have e1 : I 3 9 = e := hR.2.2.1.2.2.1
  have e2 : I 114 5 = e := hR.2.2.2.2.2.1
  by_cases h0 : (0 : Int32) ≤ e
  · exact bt_f hR (o := .inl (I 3 9)) oc (fun L D => m_X2_errorPosition_0 (d := 12) (by rw [e1]; exact h0)) (fun L D => m_X3_errorPosition_t (d := 20) (by rw [e2]; exact h0)) (QF.z hR.X) (fun w h => by cases h; rw [e1, e2])
  · exact bt_f hR (o := .inr 0) (ox (by decide)) (fun L D => m_X2_errorPosition_1 (d := 12) (by rw [e1]; exact h0)) (fun L D => m_X3_errorPosition_f (d := 20) (by rw [e2]; exact h0)) (QF.z hR.X) ov2
theorem b_account (hR : Rl I V C H m T t e K l Ls) (c : Int32) : Bt G n I YX2_account YX3_account ["java/lang/IllegalArgumentException"] [.int c] := by
  by_cases hc : nI 0 ≤ c ∧ c ≤ nI 7
  · obtain ⟨k, hk, rfl⟩ := nI_rng (by decide) hc
    have e1 : I 115 (801 + k) = C k := hR.M.1.2 k (by omega)
    exact bt_f hR (o := .inl (C k)) oc (fun L D => m_X2_account_0 (d := 12) hR.S (by omega)) (fun L D => m_X3_account_t (d := 19) (by omega)) (QF.z hR.X) (fun w h => by cases h; exact e1)
  · exact bt_f hR (o := .inr 0) (ox (by decide)) (fun L D => m_X2_account_1 (d := 12) hc) (fun L D => m_X3_account_f (d := 19) hc) (QF.z hR.X) ov2
theorem b_checked (hR : Rl I V C H m T t e K l Ls) (f b : Int32) : Bt G n I YX2_checked YX3_checked ["java/lang/IndexOutOfBoundsException"] [.int f, .int b] := by
  by_cases hb : ∃ j k, j < 8 ∧ V (10 * j) = 1 ∧ k < bl V j ∧ f = nI j ∧ b = nI k
  · obtain ⟨j, k, hj, h1, hk, rfl, rfl⟩ := hb
    exact bt_f hR (o := .inl (nI (V (10 * j + (6 + k))))) oc (fun L D => m_X2_checked_0 (d := 12) hR.S hR.W hj h1 hk) (fun L D => m_X3_checked_t (d := 16) hR.Vv hR.W hj h1 hk) (QF.z hR.X) ov1
  · exact bt_f hR (o := .inr 0) (ox (by decide)) (fun L D => m_X2_checked_1 (d := 12) hR.S hR.W hb) (fun L D => m_X3_checked_f (d := 16) hR.Vv hR.W hb) (QF.z hR.X) ov2
theorem b_cellOf (hR : Rl I V C H m T t e K l Ls) (f b q : Int32) : Bt G n I YX2_cellOf YX3_cellOf ["java/lang/IndexOutOfBoundsException"] [.int f, .int b, .int q] := by
  by_cases hb : ∃ j k i, j < 8 ∧ V (10 * j) = 1 ∧ k < bl V j ∧ i < sz V j ∧ f = nI j ∧ b = nI k ∧ q = nI i
  · obtain ⟨j, k, i, hj, h1, hk, hi, rfl, rfl, rfl⟩ := hb
    exact bt_f hR (o := .inl (nI (cellN V j k i))) oc (fun L D => m_X2_cellOf_0 (d := 12) hR.S hR.W hj h1 hk hi) (fun L D => m_X3_cellOf_t (d := 16) hR.Vv hR.W hj h1 hk hi) (QF.z hR.X) ov1
  · exact bt_f hR (o := .inr 0) (ox (by decide)) (fun L D => m_X2_cellOf_1 (d := 12) hR.S hR.W hb) (fun L D => m_X3_cellOf_f (d := 16) hR.Vv hR.W hb) (QF.z hR.X) ov2
theorem b_file (hR : Rl I V C H m T t e K l Ls) (f q : Int32) : Bt G n I YX2_file YX3_file ["java/lang/IndexOutOfBoundsException", "java/lang/IllegalArgumentException"] [.int f, .int q] := by
  by_cases hf : isFi V f
  · obtain ⟨j, hj, rfl⟩ := nI_7 hf.1
    have h1 := (isFi_n hj).mp hf
    by_cases hw : nI 0 ≤ q ∧ q ≤ nI 6
    · obtain ⟨w, hw6, rfl⟩ := nI_rng (by decide) hw
      exact bt_f hR (o := .inl (nI (fiV V j w))) oc (fun L D => m_X2_file_0 (d := 12) hR.S hR.W hj h1 hw6) (fun L D => m_X3_file_0 (d := 17) hR.Vv hR.W hj h1 hw6) (QF.z hR.X) ov1
    · exact bt_f hR (o := .inr 1) (ox (by decide)) (fun L D => m_X2_file_2 (d := 12) hR.S hR.W hj h1 hw) (fun L D => m_X3_file_2 (d := 17) hR.Vv hR.W hj h1 hw) (QF.z hR.X) ov2
  · exact bt_f hR (o := .inr 0) (ox (by decide)) (fun L D => m_X2_file_1 (d := 12) hR.S hR.W hf) (fun L D => m_X3_file_1 (d := 17) hR.Vv hR.W hf) (QF.z hR.X) ov2
theorem b_nextToCheck (hR : Rl I V C H m T t e K l Ls) : Bt G n I YX2_nextToCheck YX3_nextToCheck ["java/util/NoSuchElementException"] [] := by
  by_cases h0 : (0 : Int32) ≤ nxI V
  · exact bt_f hR (o := .inl (nxI V)) oc (fun L D => m_X2_nextToCheck_0 (d := 12) hR.S hR.W h0) (fun L D => m_X3_nextToCheck_0 (d := 17) hR.Vv hR.W h0) (QF.z hR.X) ov1
  · exact bt_f hR (o := .inr 0) (ox (by decide)) (fun L D => m_X2_nextToCheck_1 (d := 12) hR.S hR.W h0) (fun L D => m_X3_nextToCheck_1 (d := 17) hR.Vv hR.W h0) (QF.z hR.X) ov2
theorem b_report (hR : Rl I V C H m T t e K l Ls) (c q : Int32) : Bt G n I YX2_report YX3_report ["java/lang/IndexOutOfBoundsException", "java/lang/IllegalArgumentException"] [.int c, .int q] := by
  have hl := hR.2.1.2.2.2
  have e1 : I 3 8 = nI l := hR.2.2.1.2.2.2.2.1
  have e2 : I 114 10 = nI l := hR.2.2.2.2.2.2.2.1.1
  by_cases hx : nI 0 ≤ c ∧ c ≤ nI l - nI 1
  · have hk : ∃ k, k < l ∧ c = nI k := by
      have hs : (nI l - nI 1).toInt = (l : Int) - 1 := pk_sub_toInt (by omega) (by decide)
      obtain ⟨hx1, hx2⟩ := hx
      rw [Int32.le_iff_toInt_le] at hx1 hx2
      have e0 : (nI 0).toInt = 0 := rfl
      have e00 : (0 : Int32).toInt = 0 := rfl
      obtain ⟨k, hk31, rfl⟩ := nI_of (x := c) (by rw [Int32.lt_iff_toInt_lt]; omega)
      rw [nI_toInt hk31] at hx1 hx2
      exact ⟨k, by omega, rfl⟩
    obtain ⟨k, hk, rfl⟩ := hk
    by_cases hw : nI 0 ≤ q ∧ q ≤ nI 3
    · obtain ⟨w, hw3, rfl⟩ := nI_rng (by decide) hw
      have q1 := hR.2.2.1.2.2.2.2.2 (4 * k + w) (by omega)
      have q2 := hR.2.2.2.2.2.2.2.1.2 (4 * k + w) (by omega)
      exact bt_f hR (o := .inl (I 40 (4 * k + w))) oc (fun L D => m_X2_report_0 (d := 12) e1 hl hk (by omega)) (fun L D => m_X3_report_0 (d := 19) e2 (by omega) hk (by omega)) (QF.z hR.X) (fun z h => by cases h; rw [q1, q2])
    · exact bt_f hR (o := .inr 1) (ox (by decide)) (fun L D => m_X2_report_2 (d := 12) e1 (by omega) hk hw) (fun L D => m_X3_report_2 (d := 19) e2 (by omega) hk hw) (QF.z hR.X) ov2
  · exact bt_f hR (o := .inr 0) (ox (by decide)) (fun L D => m_X2_report_1 (d := 12) e1 (by omega) hx) (fun L D => m_X3_report_1 (d := 19) e2 (by omega) hx) (QF.z hR.X) ov2
theorem b_wrong (hR : Rl I V C H m T t e K l Ls) (f : Int32) : Bt G n I YX2_wrong YX3_wrong ["java/lang/IndexOutOfBoundsException"] [.int f] := by
  by_cases h0 : f = -1
  · subst h0
    exact bt_f hR (o := .inl (nI (cnt (isWr V) 240))) oc (fun L D => m_X2_wrong_a (d := 12) hR.S hR.W) (fun L D => m_X3_wrong_a (d := 16) hR.Vv hR.W) (QF.z hR.X) ov1
  · by_cases hf : isFi V f
    · obtain ⟨j, hj, rfl⟩ := nI_7 hf.1
      have h1 := (isFi_n hj).mp hf
      exact bt_f hR (o := .inl (nI (cnt (fun c => isOf V j c && isWr V c) 240))) oc (fun L D => m_X2_wrong_0 (d := 12) hR.S hR.W hj h1) (fun L D => m_X3_wrong_t (d := 16) hR.Vv hR.W hj h1) (QF.z hR.X) ov1
    · exact bt_f hR (o := .inr 0) (ox (by decide)) (fun L D => m_X2_wrong_1 (d := 12) hR.S hR.W h0 hf) (fun L D => m_X3_wrong_f (d := 16) hR.Vv hR.W h0 hf) (QF.z hR.X) ov2
theorem b_erased (hR : Rl I V C H m T t e K l Ls) (f : Int32) : Bt G n I YX2_erased YX3_erased ["java/lang/IndexOutOfBoundsException"] [.int f] := by
  by_cases h0 : f = -1
  · subst h0
    exact bt_f hR (o := .inl (nI (cnt (isEr V) 240))) oc (fun L D => m_X2_erased_a (d := 12) hR.S hR.W) (fun L D => m_X3_erased_a (d := 16) hR.Vv hR.W) (QF.z hR.X) ov1
  · by_cases hf : isFi V f
    · obtain ⟨j, hj, rfl⟩ := nI_7 hf.1
      have h1 := (isFi_n hj).mp hf
      exact bt_f hR (o := .inl (nI (cnt (fun c => isOf V j c && isEr V c) 240))) oc (fun L D => m_X2_erased_0 (d := 12) hR.S hR.W hj h1) (fun L D => m_X3_erased_t (d := 16) hR.Vv hR.W hj h1) (QF.z hR.X) ov1
    · exact bt_f hR (o := .inr 0) (ox (by decide)) (fun L D => m_X2_erased_1 (d := 12) hR.S hR.W h0 hf) (fun L D => m_X3_erased_f (d := 16) hR.Vv hR.W h0 hf) (QF.z hR.X) ov2
theorem b_room (hR : Rl I V C H m T t e K l Ls) : Bt G n I YX2_room YX3_room [] [] := by
  exact bt_f hR (o := .inl (nI (ms V 240))) oc (fun L D => m_X2_room (d := 12) hR.S hR.W) (fun L D => m_X3_room (d := 16) hR.Vv hR.W) (QF.z hR.X) ov1
theorem b_day (hR : Rl I V C H m T t e K l Ls) : Bt G n I YX2_day YX3_day [] [] := by
  exact bt_f hR (o := .inl (nI (V 800))) oc (fun L D => m_X2_day (d := 12) hR.S) (fun L D => m_X3_day (d := 20) hR.Vv) (QF.z hR.X) ov1
theorem b_reportLines (hR : Rl I V C H m T t e K l Ls) : Bt G n I YX2_reportLines YX3_reportLines [] [] := by
  have e1 : I 3 8 = nI l := hR.2.2.1.2.2.2.2.1
  have e2 : I 114 10 = nI l := hR.2.2.2.2.2.2.2.1.1
  exact bt_f hR (o := .inl (I 3 8)) oc (fun L D => m_X2_reportLines (d := 12)) (fun L D => m_X3_reportLines (d := 20)) (QF.z hR.X) (fun w h => by cases h; rw [e1, e2])
theorem b_files (hR : Rl I V C H m T t e K l Ls) : Bt G n I YX2_files YX3_files [] [] := by
  exact bt_f hR (o := .inl (fsI V 8)) oc (fun L D => m_X2_files (d := 12) hR.S hR.W) (fun L D => m_X3_files (d := 18) hR.Vv hR.W) (QF.z hR.X) ov1
theorem b_sum (hR : Rl I V C H m T t e K l Ls) (f b q : Int32) : Bt G n I YX2_sum YX3_sum ["java/lang/IndexOutOfBoundsException"] [.int f, .int b, .int q] := by
  by_cases hb : ∃ j k i, j < 8 ∧ V (10 * j) = 1 ∧ k < bl V j ∧ i < V (10 * j + 2) ∧ f = nI j ∧ b = nI k ∧ q = nI i
  · obtain ⟨j, k, i, hj, h1, hk, hi, rfl, rfl, rfl⟩ := hb
    exact bt_d hR (o := .inl (fI (smF (gF V j k) (sz V j) i))) oc (fun L D => m_X2_sum_0 (d := 11) hR.1 hR.S hR.W hj h1 hk hi) (fun J hJ L D => m_X3_sum_0 (d := 16) hJ.Vv hJ.W hJ.X hj h1 hk hi) rfl ov1
  · exact bt_f hR (o := .inr 0) (ox (by decide)) (fun L D => m_X2_sum_1 (d := 11) hR.S hR.W hb) (fun L D => m_X3_sum_1 (d := 16) hR.Vv hR.W hb) (QF.z hR.X) ov2
theorem b_decoded (hR : Rl I V C H m T t e K l Ls) (f b q : Int32) : Bt G n I YX2_decoded YX3_decoded ["java/lang/IndexOutOfBoundsException", "java/lang/IllegalArgumentException", "java/util/NoSuchElementException"] [.int f, .int b, .int q] := by
  by_cases hb : ∃ j k, j < 8 ∧ V (10 * j) = 1 ∧ k < bl V j ∧ f = nI j ∧ b = nI k
  · obtain ⟨j, k, hj, h1, hk, rfl, rfl⟩ := hb
    by_cases hw : nI 0 ≤ q ∧ q ≤ nI 2
    · obtain ⟨w, hw2, rfl⟩ := nI_rng (by decide) hw
      by_cases hd : w = 0 ∨ isD V j k = true
      · refine bt_d hR (o := .inl (nI (dqV V j k w))) oc (fun L D => m_X2_decoded_0 (d := 11) hR.1 hR.S hR.W hj h1 hk hw2 hd) (fun J hJ L D => m_X3_decoded_0 (d := 15) hJ.Vv hJ.W hJ.X hj h1 hk hw2) ?_ ov1
        unfold dqC cdO
        rcases hd with q | q
        · rw [if_pos q]
        · rw [if_pos q]; split <;> rfl
      · have hw0 : ¬ w = 0 := fun q => hd (Or.inl q)
        have hdd : ¬ isD V j k = true := fun q => hd (Or.inr q)
        refine bt_d hR (o := .inr 2) (ox (by decide)) (fun L D => gX_imp (m_X2_decoded_3 (d := 11) hR.1 hR.S hR.W hj h1 hk hw2 hw0 hdd) (fun J q => q)) (fun J hJ L D => m_X3_decoded_0 (d := 15) hJ.Vv hJ.W hJ.X hj h1 hk hw2) ?_ ov2
        unfold dqC cdO
        rw [if_neg hw0, if_neg hdd]
    · exact bt_f hR (o := .inr 1) (ox (by decide)) (fun L D => m_X2_decoded_2 (d := 11) hR.S hR.W hj h1 hk hw) (fun L D => m_X3_decoded_2 (d := 15) hR.Vv hR.W hj h1 hk hw) (QF.no (QF.z hR.X)) ov2
  · exact bt_f hR (o := .inr 0) (ox (by decide)) (fun L D => m_X2_decoded_1 (d := 11) hR.S hR.W hb) (fun L D => m_X3_decoded_1 (d := 15) hR.Vv hR.W hb) (QF.z hR.X) ov2
theorem b_found (hR : Rl I V C H m T t e K l Ls) (f b q : Int32) : Bt G n I YX2_found YX3_found ["java/lang/IndexOutOfBoundsException", "java/util/NoSuchElementException"] [.int f, .int b, .int q] := by
  by_cases hb : ∃ j k i, j < 8 ∧ V (10 * j) = 1 ∧ k < bl V j ∧ i < sz V j ∧ f = nI j ∧ b = nI k ∧ q = nI i
  · obtain ⟨j, k, i, hj, h1, hk, hi, rfl, rfl, rfl⟩ := hb
    by_cases hd : isD V j k = true
    · refine bt_d hR (o := .inl (nI (foV V j k i))) oc (fun L D => m_X2_found_0 (d := 11) hR.1 hR.S hR.W hj h1 hk hi hd) (fun J hJ L D => m_X3_found_0 (d := 15) hJ.Vv hJ.W hJ.X hj h1 hk hi) ?_ ov1
      unfold foC cdO
      rw [if_pos hd]
    · refine bt_d hR (o := .inr 1) (ox (by decide)) (fun L D => m_X2_found_2 (d := 11) hR.1 hR.S hR.W hj h1 hk hi hd) (fun J hJ L D => m_X3_found_0 (d := 15) hJ.Vv hJ.W hJ.X hj h1 hk hi) ?_ ov2
      unfold foC cdO
      rw [if_neg hd]
  · exact bt_f hR (o := .inr 0) (ox (by decide)) (fun L D => m_X2_found_1 (d := 11) hR.S hR.W hb) (fun L D => m_X3_found_1 (d := 15) hR.Vv hR.W hb) (QF.z hR.X) ov2
theorem b_read (hR : Rl I V C H m T t e K l Ls) (f q : Int32) : Bt G n I YX2_read YX3_read ["java/lang/IndexOutOfBoundsException", "java/util/NoSuchElementException"] [.int f, .int q] := by
  by_cases hb : ∃ j i, j < 8 ∧ V (10 * j) = 1 ∧ i < V (10 * j + 1) ∧ f = nI j ∧ q = nI i
  · obtain ⟨j, i, hj, h1, hi, rfl, rfl⟩ := hb
    by_cases hd : isD V j (i / 8) = true
    · refine bt_d hR (o := .inl (nI (foV V j (i / 8) (V (10 * j + 2) + i % 8)))) oc (fun L D => m_X2_read_0 (d := 11) hR.1 hR.S hR.W hj h1 hi hd) (fun J hJ L D => m_X3_read_0 (d := 15) hJ.Vv hJ.W hJ.X hj h1 hi) ?_ ov1
      unfold foC cdO
      rw [if_pos hd]
    · refine bt_d hR (o := .inr 1) (ox (by decide)) (fun L D => m_X2_read_2 (d := 11) hR.1 hR.S hR.W hj h1 hi hd) (fun J hJ L D => m_X3_read_0 (d := 15) hJ.Vv hJ.W hJ.X hj h1 hi) ?_ ov2
      unfold foC cdO
      rw [if_neg hd]
  · exact bt_f hR (o := .inr 0) (ox (by decide)) (fun L D => m_X2_read_1 (d := 11) hR.S hR.W hb) (fun L D => m_X3_read_1 (d := 15) hR.Vv hR.W hb) (QF.z hR.X) ov2
theorem b_margin (hR : Rl I V C H m T t e K l Ls) (f b : Int32) : Bt G n I YX2_margin YX3_margin ["java/lang/IndexOutOfBoundsException", "java/util/NoSuchElementException"] [.int f, .int b] := by
  by_cases hb : ∃ j k, j < 8 ∧ V (10 * j) = 1 ∧ k < bl V j ∧ f = nI j ∧ b = nI k
  · obtain ⟨j, k, hj, h1, hk, rfl, rfl⟩ := hb
    by_cases hd : isD V j k = true
    · refine bt_d hR (o := .inl (nI (maV V j k))) oc (fun L D => m_X2_margin_0 (d := 11) hR.1 hR.S hR.W hj h1 hk hd) (fun J hJ L D => m_X3_margin_0 (d := 15) hJ.Vv hJ.W hJ.X hj h1 hk) ?_ ov1
      unfold foC cdO
      rw [if_pos hd]
    · refine bt_d hR (o := .inr 1) (ox (by decide)) (fun L D => m_X2_margin_2 (d := 11) hR.1 hR.S hR.W hj h1 hk hd) (fun J hJ L D => m_X3_margin_0 (d := 15) hJ.Vv hJ.W hJ.X hj h1 hk) ?_ ov2
      unfold foC cdO
      rw [if_neg hd]
  · exact bt_f hR (o := .inr 0) (ox (by decide)) (fun L D => m_X2_margin_1 (d := 11) hR.S hR.W hb) (fun L D => m_X3_margin_1 (d := 15) hR.Vv hR.W hb) (QF.z hR.X) ov2
theorem b_condition (hR : Rl I V C H m T t e K l Ls) (f : Int32) : Bt G n I YX2_condition YX3_condition ["java/lang/IndexOutOfBoundsException"] [.int f] := by
  by_cases hf : isFi V f
  · obtain ⟨j, hj, rfl⟩ := nI_7 hf.1
    have h1 := (isFi_n hj).mp hf
    exact bt_d hR (o := .inl (nI (coV V j))) oc (fun L D => m_X2_condition_0 (d := 11) hR.1 hR.S hR.W hj h1) (fun J hJ L D => m_X3_condition_0 (d := 14) hJ.Vv hJ.W hJ.X hj h1) rfl ov1
  · exact bt_f hR (o := .inr 0) (ox (by decide)) (fun L D => m_X2_condition_1 (d := 11) hR.S hR.W hf) (fun L D => m_X3_condition_1 (d := 14) hR.Vv hR.W hf) (QF.z hR.X) ov2
theorem b_undecodable (hR : Rl I V C H m T t e K l Ls) (f : Int32) : Bt G n I YX2_undecodable YX3_undecodable ["java/lang/IndexOutOfBoundsException"] [.int f] := by
  by_cases hf : isFi V f
  · obtain ⟨j, hj, rfl⟩ := nI_7 hf.1
    have h1 := (isFi_n hj).mp hf
    exact bt_d hR (o := .inl (nI (udN V j (bl V j)))) oc (fun L D => m_X2_undecodable_0 (d := 11) hR.1 hR.S hR.W hj h1) (fun J hJ L D => m_X3_undecodable_0 (d := 15) hJ.Vv hJ.W hJ.X hj h1) rfl ov1
  · exact bt_f hR (o := .inr 0) (ox (by decide)) (fun L D => m_X2_undecodable_1 (d := 11) hR.S hR.W hf) (fun L D => m_X3_undecodable_1 (d := 15) hR.Vv hR.W hf) (QF.z hR.X) ov2
theorem b_needed (hR : Rl I V C H m T t e K l Ls) : Bt G n I YX2_needed YX3_needed [] [] := by
  exact bt_d hR (o := .inl (nI (ndF V 8))) oc (fun L D => m_X2_needed (d := 11) hR.1 hR.S hR.W) (fun J hJ L D => m_X3_needed (d := 15) hJ.Vv hJ.W hJ.X) rfl ov1
theorem b_describe (hR : Rl I V C H m T t e K l Ls) (f q : Int32) : Bt G n I YX2_describe YX3_describe ["java/lang/IndexOutOfBoundsException", "java/lang/IllegalStateException", "java/util/NoSuchElementException"] [.int f, .int q] := by
  by_cases hf : isFi V f
  · obtain ⟨j, hj, rfl⟩ := nI_7 hf.1
    have h1 := (isFi_n hj).mp hf
    by_cases hu : udN V j (bl V j) = 0
    · by_cases hm1 : q = -1
      · subst hm1
        exact bt_d hR (o := .inl (nI (V (10 * j + 1) + 4))) oc (fun L D => m_X2_describe_m (d := 11) hR.1 hR.S hR.W hj h1 hu) (fun J hJ L D => m_X3_describe_m (d := 14) hJ.Vv hJ.W hJ.X hj h1 hu) rfl ov1
      · by_cases hi : -1 ≤ q ∧ q ≤ nI (V (10 * j + 1) + 3)
        · have hn2 := (hR.W.1 j hj).2.1
          have hk : ∃ i, i ≤ V (10 * j + 1) + 3 ∧ q = nI i := by
            obtain ⟨hi1, hi2⟩ := hi
            rw [Int32.le_iff_toInt_le] at hi1 hi2
            have em : (-1 : Int32).toInt = -1 := rfl
            have e00 : (0 : Int32).toInt = 0 := rfl
            have hne : q.toInt ≠ -1 := fun z => hm1 (Int32.toInt_inj.mp (z.trans em.symm))
            obtain ⟨i, hi31, rfl⟩ := nI_of (x := q) (by rw [Int32.lt_iff_toInt_lt]; omega)
            rw [nI_toInt hi31, nI_toInt (by omega)] at hi2
            exact ⟨i, by omega, rfl⟩
          obtain ⟨i, hi3, rfl⟩ := hk
          exact bt_d hR (o := .inl (nI (deV V j i))) oc (fun L D => m_X2_describe_0 (d := 11) hR.1 hR.S hR.W hj h1 hu hi3) (fun J hJ L D => m_X3_describe_0 (d := 14) hJ.Vv hJ.W hJ.X hj h1 hu hi3) rfl ov1
        · exact bt_d hR (o := .inr 2) (ox (by decide)) (fun L D => m_X2_describe_3 (d := 11) hR.1 hR.S hR.W hj h1 hu hi) (fun J hJ L D => m_X3_describe_3 (d := 14) hJ.Vv hJ.W hJ.X hj h1 hu hi) rfl ov2
    · exact bt_d hR (o := .inr 1) (ox (by decide)) (fun L D => m_X2_describe_2 (d := 11) hR.1 hR.S hR.W hj h1 hu) (fun J hJ L D => m_X3_describe_2 (d := 14) hJ.Vv hJ.W hJ.X hj h1 hu) rfl ov2
  · exact bt_f hR (o := .inr 0) (ox (by decide)) (fun L D => m_X2_describe_1 (d := 11) hR.S hR.W hf) (fun L D => m_X3_describe_1 (d := 14) hR.Vv hR.W hf) (QF.z hR.X) ov2
theorem b_burstLimit (hR : Rl I V C H m T t e K l Ls) (f : Int32) : Bt G n I YX2_burstLimit YX3_burstLimit ["java/lang/IndexOutOfBoundsException"] [.int f] := by
  by_cases hf : isFi V f
  · obtain ⟨j, hj, rfl⟩ := nI_7 hf.1
    have h1 := (isFi_n hj).mp hf
    obtain ⟨r, hr⟩ := isBL_ex V j
    refine bt_q hR (o := .inl (nI r)) oc (fun L D => m_X2_burstLimit_0 (d := 11) hR.S hR.W hj h1 hr) (fun J hJ L D => gRi_imp (m_X3_burstLimit_t (d := 16) hJ.Vv hJ.W hj h1) (fun v K2 q => ?_))
    obtain ⟨r2, rfl, q2, rfl⟩ := q
    exact ⟨QF.z hJ.X, fun w h => by cases h; rw [isBL_one q2 hr]⟩
  · exact bt_f hR (o := .inr 0) (ox (by decide)) (fun L D => m_X2_burstLimit_1 (d := 11) hR.S hR.W hf) (fun L D => m_X3_burstLimit_f (d := 16) hR.Vv hR.W hf) (QF.z hR.X) ov2
def Bh (G : gG) (n : Nat) (I : Nat → Nat → Int32) : Prop := ∃ (o : UInt64 ⊕ Nat) (P : (Nat → Nat → Int32) → Prop), (∀ L D, gX G YX2_health 20 [.ref 3] n I L D (match o with | .inl v => .inl (some (.double v)) | .inr _ => .inr "java/lang/ArithmeticException") P) ∧ ∀ J, P J → ∀ L D, ∃ K v, gFn G YX3_health 20 [.ref 114] (hp n J L D) (.inl (some (.double v))) (hp n K L D) 0 0 ∧ Rel K ∧ K 114 0 = nI (match o with | .inl _ => 0 | .inr _ => 1) ∧ ∀ w, o = .inl w → v = w ∧ vf_n64 w
theorem b_health (hR : Rl I V C H m T t e K l Ls) : Bh G n I := by
  have hm1 := cnt_le (isOw V) 240
  by_cases h0 : cnt (isOw V) 240 = 0
  · refine ⟨.inr 0, _, fun L D => m_X2_health_1 (d := 12) hR.S hR.W h0, fun J hJ L D => ?_⟩
    subst hJ
    refine ⟨_, _, m_X3_health (d := 16) hR.Vv hR.W, ?_, ?_, fun w h => by cases h⟩
    · rw [if_pos h0]; exact (hR.qf (QF.z hR.X)).rel
    · rw [if_pos h0, gUp_c, if_pos rfl]
  · refine ⟨.inl (FP.ddiv (FP.i2d (nI (cnt (isGd V) 240))) (FP.i2d (nI (cnt (isOw V) 240)))), _, fun L D => m_X2_health_0 (d := 12) hR.S hR.W h0, fun J hJ L D => ?_⟩
    subst hJ
    refine ⟨_, _, m_X3_health (d := 16) hR.Vv hR.W, ?_, ?_, fun w h => ?_⟩
    · rw [if_neg h0]; exact (hR.qf (QF.z hR.X)).rel
    · rw [if_neg h0, gUp_c, if_pos rfl]
    · cases h
      exact ⟨if_neg h0, vf_ddiv (nI_ne0 (by omega) (by omega))⟩
end

