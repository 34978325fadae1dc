/-! ===== the law's wrappers ===== -/
def wL (L : Nat → Nat → Int64) : Int32 ⊕ Nat → Nat → Nat → Int64
  | .inl v => gUp L 131 0 v.toInt64
  | .inr _ => L
def wE (L : Nat → Nat → Int64) : Int32 ⊕ Nat → Nat → Nat → Int64
  | .inl v => gUp L 131 0 (if v = 0 then 0 else 1)
  | .inr _ => L
def wQ (n : Nat) (L : Nat → Nat → Int64) (D : Nat → Nat → UInt64) (o : Int32 ⊕ Nat) (P : (Nat → Nat → Int32) → Prop) : gQ := fun o' g => ∃ J, (o' = .inl (some (.int (nI (cdO o)))) ∧ g = hp n J L D) ∧ P J
section
variable {G : gG} {n : Nat} {I : Nat → Nat → Int32} {L : Nat → Nat → Int64} {D : Nat → Nat → UInt64} {P : (Nat → Nat → Int32) → Prop}
theorem hd_append_0 : gHd YL_append 4 "java/lang/IllegalArgumentException" 12 := ⟨by decide +kernel, [], ⟨0, 9, 12, 13⟩, [⟨0, 9, 15, 15⟩], "java/lang/IllegalArgumentException", rfl, (fun z hz => by cases hz), rfl, by decide, by decide +kernel, by decide +kernel, rfl⟩
theorem hd_append_1 : gHd YL_append 4 "java/lang/IllegalStateException" 15 := ⟨by decide +kernel, [⟨0, 9, 12, 13⟩], ⟨0, 9, 15, 15⟩, [], "java/lang/IllegalStateException", rfl, (fun z hz => by
  simp only [List.mem_cons, List.not_mem_nil, or_false] at hz
  rcases hz with rfl
  · exact Or.inr ⟨by decide, "java/lang/IllegalArgumentException", by decide +kernel, by decide +kernel⟩), rfl, by decide, by decide +kernel, by decide +kernel, rfl⟩
theorem w_append {a : Int32} {o : Int32 ⊕ Nat} (ho : ∀ k, o = .inr k → k < 2) (h : gX G YX2_append 20 [.ref 3, .int a] n I L D (oV ["java/lang/IllegalArgumentException", "java/lang/IllegalStateException"] o) P) : gEv G YL_append 21 [.ref 3, .int a, .ref 131] (hp n I L D) 1 6 (wQ n (wL L o) D o P) := by
  refine g_aload_n (pc := 0) dL_append_0 rfl rfl ?_
  refine g_iconst (v := nI 0) (pc := 1) dL_append_1 rfl ?_
  refine g_aload_n (pc := 2) dL_append_2 rfl rfl ?_
  refine g_iload_n (pc := 3) dL_append_3 rfl rfl ?_
  refine g_callV (av := [.int a]) (st := [.int (nI 0), .ref 131]) (ci := 2) (pc := 4) dL_append_4 mt_X2_append lk_L_7 im_X2_append se_X2_append (by decide) s_3 (by decide) rfl np_X2_append (gc_i gc_0) (Nat.le_of_ble_eq_true rfl) (Nat.le_of_ble_eq_true rfl) ⟨Nat.le_refl _, Nat.le_refl _⟩ h (fun v' h9 _ q => ?_) (fun X h9 q => ?_)
  · obtain ⟨J, ⟨q1, rfl⟩, hP⟩ := q
    cases o with
    | inr k =>
      have q2 : (Sum.inl v' : Option Value ⊕ String) = .inr (List.getD ["java/lang/IllegalArgumentException", "java/lang/IllegalStateException"] k "") := q1
      cases q2
    | inl w =>
      have q2 : (Sum.inl v' : Option Value ⊕ String) = .inl (some (.int w)) := q1
      cases q2
      refine g_i2l (pc := 7) dL_append_7 ?_
      refine g_lastore (pc := 8) dL_append_8 s_131 (by decide) (vp_in_nI (by decide) (by decide)) ?_
      refine g_goto (tgt := 18) (pc := 9) dL_append_9 (by decide) ?_
      refine g_iconst (v := nI 0) (pc := 18) dL_append_18 rfl ?_
      refine g_iret (pc := 19) dL_append_19 rfl rfl ?_
      exact ⟨J, ⟨rfl, rfl⟩, hP⟩
  · obtain ⟨J, ⟨q1, rfl⟩, hP⟩ := q
    cases o with
    | inl w =>
      have q2 : (Sum.inr X : Option Value ⊕ String) = .inl (some (.int w)) := q1
      cases q2
    | inr k =>
      have q2 : (Sum.inr X : Option Value ⊕ String) = .inr (List.getD ["java/lang/IllegalArgumentException", "java/lang/IllegalStateException"] k "") := q1
      have eX := Sum.inr.inj q2
      subst eX
      have hk := ho k rfl
      rcases (by omega : k = 0 ∨ k = 1) with z | z <;> subst z
      · refine ⟨12, 3, 13, hd_append_0, ⟨by decide, Or.inr ⟨3, dL_append_12, rfl, rfl⟩⟩, ?_⟩
        refine g_iconst (v := nI 1) (pc := 13) dL_append_13 rfl ?_
        refine g_iret (pc := 14) dL_append_14 rfl rfl ?_
        exact ⟨J, ⟨rfl, rfl⟩, hP⟩
      · refine ⟨15, 3, 16, hd_append_1, ⟨by decide, Or.inr ⟨3, dL_append_15, rfl, rfl⟩⟩, ?_⟩
        refine g_iconst (v := nI 2) (pc := 16) dL_append_16 rfl ?_
        refine g_iret (pc := 17) dL_append_17 rfl rfl ?_
        exact ⟨J, ⟨rfl, rfl⟩, hP⟩
theorem hd_store_0 : gHd YL_store 3 "java/lang/IllegalArgumentException" 11 := ⟨by decide +kernel, [], ⟨0, 8, 11, 13⟩, [⟨0, 8, 14, 15⟩], "java/lang/IllegalArgumentException", rfl, (fun z hz => by cases hz), rfl, by decide, by decide +kernel, by decide +kernel, rfl⟩
theorem hd_store_1 : gHd YL_store 3 "java/lang/IllegalStateException" 14 := ⟨by decide +kernel, [⟨0, 8, 11, 13⟩], ⟨0, 8, 14, 15⟩, [], "java/lang/IllegalStateException", rfl, (fun z hz => by
  simp only [List.mem_cons, List.not_mem_nil, or_false] at hz
  rcases hz with rfl
  · exact Or.inr ⟨by decide, "java/lang/IllegalArgumentException", by decide +kernel, by decide +kernel⟩), rfl, by decide, by decide +kernel, by decide +kernel, rfl⟩
theorem w_store {o : Int32 ⊕ Nat} (ho : ∀ k, o = .inr k → k < 2) (h : gX G YX2_store 20 [.ref 3] n I L D (oV ["java/lang/IllegalArgumentException", "java/lang/IllegalStateException"] o) P) : gEv G YL_store 21 [.ref 3, .ref 131] (hp n I L D) 1 6 (wQ n (wL L o) D o P) := by
  refine g_aload_n (pc := 0) dL_store_0 rfl rfl ?_
  refine g_iconst (v := nI 0) (pc := 1) dL_store_1 rfl ?_
  refine g_aload_n (pc := 2) dL_store_2 rfl rfl ?_
  refine g_callV (av := []) (st := [.int (nI 0), .ref 131]) (ci := 2) (pc := 3) dL_store_3 mt_X2_store lk_L_17 im_X2_store se_X2_store (by decide) s_3 (by decide) rfl np_X2_store gc_0 (Nat.le_of_ble_eq_true rfl) (Nat.le_of_ble_eq_true rfl) ⟨Nat.le_refl _, Nat.le_refl _⟩ h (fun v' h9 _ q => ?_) (fun X h9 q => ?_)
  · obtain ⟨J, ⟨q1, rfl⟩, hP⟩ := q
    cases o with
    | inr k =>
      have q2 : (Sum.inl v' : Option Value ⊕ String) = .inr (List.getD ["java/lang/IllegalArgumentException", "java/lang/IllegalStateException"] k "") := q1
      cases q2
    | inl w =>
      have q2 : (Sum.inl v' : Option Value ⊕ String) = .inl (some (.int w)) := q1
      cases q2
      refine g_i2l (pc := 6) dL_store_6 ?_
      refine g_lastore (pc := 7) dL_store_7 s_131 (by decide) (vp_in_nI (by decide) (by decide)) ?_
      refine g_goto (tgt := 17) (pc := 8) dL_store_8 (by decide) ?_
      refine g_iconst (v := nI 0) (pc := 17) dL_store_17 rfl ?_
      refine g_iret (pc := 18) dL_store_18 rfl rfl ?_
      exact ⟨J, ⟨rfl, rfl⟩, hP⟩
  · obtain ⟨J, ⟨q1, rfl⟩, hP⟩ := q
    cases o with
    | inl w =>
      have q2 : (Sum.inr X : Option Value ⊕ String) = .inl (some (.int w)) := q1
      cases q2
    | inr k =>
      have q2 : (Sum.inr X : Option Value ⊕ String) = .inr (List.getD ["java/lang/IllegalArgumentException", "java/lang/IllegalStateException"] k "") := q1
      have eX := Sum.inr.inj q2
      subst eX
      have hk := ho k rfl
      rcases (by omega : k = 0 ∨ k = 1) with z | z <;> subst z
      · refine ⟨11, 2, 12, hd_store_0, ⟨by decide, Or.inr ⟨2, dL_store_11, rfl, rfl⟩⟩, ?_⟩
        refine g_iconst (v := nI 1) (pc := 12) dL_store_12 rfl ?_
        refine g_iret (pc := 13) dL_store_13 rfl rfl ?_
        exact ⟨J, ⟨rfl, rfl⟩, hP⟩
      · refine ⟨14, 2, 15, hd_store_1, ⟨by decide, Or.inr ⟨2, dL_store_14, rfl, rfl⟩⟩, ?_⟩
        refine g_iconst (v := nI 2) (pc := 15) dL_store_15 rfl ?_
        refine g_iret (pc := 16) dL_store_16 rfl rfl ?_
        exact ⟨J, ⟨rfl, rfl⟩, hP⟩
theorem hd_errorPosition_0 : gHd YL_errorPosition 3 "java/util/NoSuchElementException" 11 := ⟨by decide +kernel, [], ⟨0, 8, 11, 24⟩, [], "java/util/NoSuchElementException", rfl, (fun z hz => by cases hz), rfl, by decide, by decide +kernel, by decide +kernel, rfl⟩
theorem w_errorPosition {o : Int32 ⊕ Nat} (ho : ∀ k, o = .inr k → k < 1) (h : gX G YX2_errorPosition 20 [.ref 3] n I L D (oV ["java/util/NoSuchElementException"] o) P) : gEv G YL_errorPosition 21 [.ref 3, .ref 131] (hp n I L D) 1 6 (wQ n (wL L o) D o P) := by
  refine g_aload_n (pc := 0) dL_errorPosition_0 rfl rfl ?_
  refine g_iconst (v := nI 0) (pc := 1) dL_errorPosition_1 rfl ?_
  refine g_aload_n (pc := 2) dL_errorPosition_2 rfl rfl ?_
  refine g_callV (av := []) (st := [.int (nI 0), .ref 131]) (ci := 2) (pc := 3) dL_errorPosition_3 mt_X2_errorPosition lk_L_21 im_X2_errorPosition se_X2_errorPosition (by decide) s_3 (by decide) rfl np_X2_errorPosition gc_0 (Nat.le_of_ble_eq_true rfl) (Nat.le_of_ble_eq_true rfl) ⟨Nat.le_refl _, Nat.le_refl _⟩ h (fun v' h9 _ q => ?_) (fun X h9 q => ?_)
  · obtain ⟨J, ⟨q1, rfl⟩, hP⟩ := q
    cases o with
    | inr k =>
      have q2 : (Sum.inl v' : Option Value ⊕ String) = .inr (List.getD ["java/util/NoSuchElementException"] k "") := q1
      cases q2
    | inl w =>
      have q2 : (Sum.inl v' : Option Value ⊕ String) = .inl (some (.int w)) := q1
      cases q2
      refine g_i2l (pc := 6) dL_errorPosition_6 ?_
      refine g_lastore (pc := 7) dL_errorPosition_7 s_131 (by decide) (vp_in_nI (by decide) (by decide)) ?_
      refine g_goto (tgt := 14) (pc := 8) dL_errorPosition_8 (by decide) ?_
      refine g_iconst (v := nI 0) (pc := 14) dL_errorPosition_14 rfl ?_
      refine g_iret (pc := 15) dL_errorPosition_15 rfl rfl ?_
      exact ⟨J, ⟨rfl, rfl⟩, hP⟩
  · obtain ⟨J, ⟨q1, rfl⟩, hP⟩ := q
    cases o with
    | inl w =>
      have q2 : (Sum.inr X : Option Value ⊕ String) = .inl (some (.int w)) := q1
      cases q2
    | inr k =>
      have q2 : (Sum.inr X : Option Value ⊕ String) = .inr (List.getD ["java/util/NoSuchElementException"] k "") := q1
      have eX := Sum.inr.inj q2
      subst eX
      have hk := ho k rfl
      have z : k = 0 := by omega
      subst z
      refine ⟨11, 2, 12, hd_errorPosition_0, ⟨by decide, Or.inr ⟨2, dL_errorPosition_11, rfl, rfl⟩⟩, ?_⟩
      refine g_iconst (v := nI 1) (pc := 12) dL_errorPosition_12 rfl ?_
      refine g_iret (pc := 13) dL_errorPosition_13 rfl rfl ?_
      exact ⟨J, ⟨rfl, rfl⟩, hP⟩
theorem hd_remove_0 : gHd YL_remove 4 "java/lang/IndexOutOfBoundsException" 12 := ⟨by decide +kernel, [], ⟨0, 9, 12, 30⟩, [], "java/lang/IndexOutOfBoundsException", rfl, (fun z hz => by cases hz), rfl, by decide, by decide +kernel, by decide +kernel, rfl⟩
theorem w_remove {a : Int32} {o : Int32 ⊕ Nat} (ho : ∀ k, o = .inr k → k < 1) (h : gX G YX2_remove 20 [.ref 3, .int a] n I L D (oV ["java/lang/IndexOutOfBoundsException"] o) P) : gEv G YL_remove 21 [.ref 3, .int a, .ref 131] (hp n I L D) 1 6 (wQ n (wL L o) D o P) := by
  refine g_aload_n (pc := 0) dL_remove_0 rfl rfl ?_
  refine g_iconst (v := nI 0) (pc := 1) dL_remove_1 rfl ?_
  refine g_aload_n (pc := 2) dL_remove_2 rfl rfl ?_
  refine g_iload_n (pc := 3) dL_remove_3 rfl rfl ?_
  refine g_callV (av := [.int a]) (st := [.int (nI 0), .ref 131]) (ci := 2) (pc := 4) dL_remove_4 mt_X2_remove lk_L_26 im_X2_remove se_X2_remove (by decide) s_3 (by decide) rfl np_X2_remove (gc_i gc_0) (Nat.le_of_ble_eq_true rfl) (Nat.le_of_ble_eq_true rfl) ⟨Nat.le_refl _, Nat.le_refl _⟩ h (fun v' h9 _ q => ?_) (fun X h9 q => ?_)
  · obtain ⟨J, ⟨q1, rfl⟩, hP⟩ := q
    cases o with
    | inr k =>
      have q2 : (Sum.inl v' : Option Value ⊕ String) = .inr (List.getD ["java/lang/IndexOutOfBoundsException"] k "") := q1
      cases q2
    | inl w =>
      have q2 : (Sum.inl v' : Option Value ⊕ String) = .inl (some (.int w)) := q1
      cases q2
      refine g_i2l (pc := 7) dL_remove_7 ?_
      refine g_lastore (pc := 8) dL_remove_8 s_131 (by decide) (vp_in_nI (by decide) (by decide)) ?_
      refine g_goto (tgt := 15) (pc := 9) dL_remove_9 (by decide) ?_
      refine g_iconst (v := nI 0) (pc := 15) dL_remove_15 rfl ?_
      refine g_iret (pc := 16) dL_remove_16 rfl rfl ?_
      exact ⟨J, ⟨rfl, rfl⟩, hP⟩
  · obtain ⟨J, ⟨q1, rfl⟩, hP⟩ := q
    cases o with
    | inl w =>
      have q2 : (Sum.inr X : Option Value ⊕ String) = .inl (some (.int w)) := q1
      cases q2
    | inr k =>
      have q2 : (Sum.inr X : Option Value ⊕ String) = .inr (List.getD ["java/lang/IndexOutOfBoundsException"] k "") := q1
      have eX := Sum.inr.inj q2
      subst eX
      have hk := ho k rfl
      have z : k = 0 := by omega
      subst z
      refine ⟨12, 3, 13, hd_remove_0, ⟨by decide, Or.inr ⟨3, dL_remove_12, rfl, rfl⟩⟩, ?_⟩
      refine g_iconst (v := nI 1) (pc := 13) dL_remove_13 rfl ?_
      refine g_iret (pc := 14) dL_remove_14 rfl rfl ?_
      exact ⟨J, ⟨rfl, rfl⟩, hP⟩
theorem hd_file_0 : gHd YL_file 5 "java/lang/IndexOutOfBoundsException" 13 := ⟨by decide +kernel, [], ⟨0, 10, 13, 30⟩, [⟨0, 10, 17, 13⟩], "java/lang/IndexOutOfBoundsException", rfl, (fun z hz => by cases hz), rfl, by decide, by decide +kernel, by decide +kernel, rfl⟩
theorem hd_file_1 : gHd YL_file 5 "java/lang/IllegalArgumentException" 17 := ⟨by decide +kernel, [⟨0, 10, 13, 30⟩], ⟨0, 10, 17, 13⟩, [], "java/lang/IllegalArgumentException", rfl, (fun z hz => by
  simp only [List.mem_cons, List.not_mem_nil, or_false] at hz
  rcases hz with rfl
  · exact Or.inr ⟨by decide, "java/lang/IndexOutOfBoundsException", by decide +kernel, by decide +kernel⟩), rfl, by decide, by decide +kernel, by decide +kernel, rfl⟩
theorem w_file {a b : Int32} {o : Int32 ⊕ Nat} (ho : ∀ k, o = .inr k → k < 2) (h : gX G YX2_file 20 [.ref 3, .int a, .int b] n I L D (oV ["java/lang/IndexOutOfBoundsException", "java/lang/IllegalArgumentException"] o) P) : gEv G YL_file 21 [.ref 3, .int a, .int b, .ref 131] (hp n I L D) 1 6 (wQ n (wL L o) D o P) := by
  refine g_aload_n (pc := 0) dL_file_0 rfl rfl ?_
  refine g_iconst (v := nI 0) (pc := 1) dL_file_1 rfl ?_
  refine g_aload_n (pc := 2) dL_file_2 rfl rfl ?_
  refine g_iload_n (pc := 3) dL_file_3 rfl rfl ?_
  refine g_iload_n (pc := 4) dL_file_4 rfl rfl ?_
  refine g_callV (av := [.int a, .int b]) (st := [.int (nI 0), .ref 131]) (ci := 2) (pc := 5) dL_file_5 mt_X2_file lk_L_32 im_X2_file se_X2_file (by decide) s_3 (by decide) rfl np_X2_file (gc_i (gc_i gc_0)) (Nat.le_of_ble_eq_true rfl) (Nat.le_of_ble_eq_true rfl) ⟨Nat.le_refl _, Nat.le_refl _⟩ h (fun v' h9 _ q => ?_) (fun X h9 q => ?_)
  · obtain ⟨J, ⟨q1, rfl⟩, hP⟩ := q
    cases o with
    | inr k =>
      have q2 : (Sum.inl v' : Option Value ⊕ String) = .inr (List.getD ["java/lang/IndexOutOfBoundsException", "java/lang/IllegalArgumentException"] k "") := q1
      cases q2
    | inl w =>
      have q2 : (Sum.inl v' : Option Value ⊕ String) = .inl (some (.int w)) := q1
      cases q2
      refine g_i2l (pc := 8) dL_file_8 ?_
      refine g_lastore (pc := 9) dL_file_9 s_131 (by decide) (vp_in_nI (by decide) (by decide)) ?_
      refine g_goto (tgt := 21) (pc := 10) dL_file_10 (by decide) ?_
      refine g_iconst (v := nI 0) (pc := 21) dL_file_21 rfl ?_
      refine g_iret (pc := 22) dL_file_22 rfl rfl ?_
      exact ⟨J, ⟨rfl, rfl⟩, hP⟩
  · obtain ⟨J, ⟨q1, rfl⟩, hP⟩ := q
    cases o with
    | inl w =>
      have q2 : (Sum.inr X : Option Value ⊕ String) = .inl (some (.int w)) := q1
      cases q2
    | inr k =>
      have q2 : (Sum.inr X : Option Value ⊕ String) = .inr (List.getD ["java/lang/IndexOutOfBoundsException", "java/lang/IllegalArgumentException"] k "") := q1
      have eX := Sum.inr.inj q2
      subst eX
      have hk := ho k rfl
      rcases (by omega : k = 0 ∨ k = 1) with z | z <;> subst z
      · refine ⟨13, 4, 15, hd_file_0, ⟨by decide, Or.inl ⟨dL_file_13, rfl⟩⟩, ?_⟩
        refine g_iconst (v := nI 1) (pc := 15) dL_file_15 rfl ?_
        refine g_iret (pc := 16) dL_file_16 rfl rfl ?_
        exact ⟨J, ⟨rfl, rfl⟩, hP⟩
      · refine ⟨17, 4, 19, hd_file_1, ⟨by decide, Or.inl ⟨dL_file_17, rfl⟩⟩, ?_⟩
        refine g_iconst (v := nI 2) (pc := 19) dL_file_19 rfl ?_
        refine g_iret (pc := 20) dL_file_20 rfl rfl ?_
        exact ⟨J, ⟨rfl, rfl⟩, hP⟩
theorem hd_cellOf_0 : gHd YL_cellOf 7 "java/lang/IndexOutOfBoundsException" 15 := ⟨by decide +kernel, [], ⟨0, 12, 15, 30⟩, [], "java/lang/IndexOutOfBoundsException", rfl, (fun z hz => by cases hz), rfl, by decide, by decide +kernel, by decide +kernel, rfl⟩
theorem w_cellOf {a b c : Int32} {o : Int32 ⊕ Nat} (ho : ∀ k, o = .inr k → k < 1) (h : gX G YX2_cellOf 20 [.ref 3, .int a, .int b, .int c] n I L D (oV ["java/lang/IndexOutOfBoundsException"] o) P) : gEv G YL_cellOf 21 [.ref 3, .int a, .int b, .int c, .ref 131] (hp n I L D) 1 6 (wQ n (wL L o) D o P) := by
  refine g_aload (pc := 0) dL_cellOf_0 rfl ?_
  refine g_iconst (v := nI 0) (pc := 2) dL_cellOf_2 rfl ?_
  refine g_aload_n (pc := 3) dL_cellOf_3 rfl rfl ?_
  refine g_iload_n (pc := 4) dL_cellOf_4 rfl rfl ?_
  refine g_iload_n (pc := 5) dL_cellOf_5 rfl rfl ?_
  refine g_iload_n (pc := 6) dL_cellOf_6 rfl rfl ?_
  refine g_callV (av := [.int a, .int b, .int c]) (st := [.int (nI 0), .ref 131]) (ci := 2) (pc := 7) dL_cellOf_7 mt_X2_cellOf lk_L_36 im_X2_cellOf se_X2_cellOf (by decide) s_3 (by decide) rfl np_X2_cellOf (gc_i (gc_i (gc_i gc_0))) (Nat.le_of_ble_eq_true rfl) (Nat.le_of_ble_eq_true rfl) ⟨Nat.le_refl _, Nat.le_refl _⟩ h (fun v' h9 _ q => ?_) (fun X h9 q => ?_)
  · obtain ⟨J, ⟨q1, rfl⟩, hP⟩ := q
    cases o with
    | inr k =>
      have q2 : (Sum.inl v' : Option Value ⊕ String) = .inr (List.getD ["java/lang/IndexOutOfBoundsException"] k "") := q1
      cases q2
    | inl w =>
      have q2 : (Sum.inl v' : Option Value ⊕ String) = .inl (some (.int w)) := q1
      cases q2
      refine g_i2l (pc := 10) dL_cellOf_10 ?_
      refine g_lastore (pc := 11) dL_cellOf_11 s_131 (by decide) (vp_in_nI (by decide) (by decide)) ?_
      refine g_goto (tgt := 19) (pc := 12) dL_cellOf_12 (by decide) ?_
      refine g_iconst (v := nI 0) (pc := 19) dL_cellOf_19 rfl ?_
      refine g_iret (pc := 20) dL_cellOf_20 rfl rfl ?_
      exact ⟨J, ⟨rfl, rfl⟩, hP⟩
  · obtain ⟨J, ⟨q1, rfl⟩, hP⟩ := q
    cases o with
    | inl w =>
      have q2 : (Sum.inr X : Option Value ⊕ String) = .inl (some (.int w)) := q1
      cases q2
    | inr k =>
      have q2 : (Sum.inr X : Option Value ⊕ String) = .inr (List.getD ["java/lang/IndexOutOfBoundsException"] k "") := q1
      have eX := Sum.inr.inj q2
      subst eX
      have hk := ho k rfl
      have z : k = 0 := by omega
      subst z
      refine ⟨15, 5, 17, hd_cellOf_0, ⟨by decide, Or.inl ⟨dL_cellOf_15, rfl⟩⟩, ?_⟩
      refine g_iconst (v := nI 1) (pc := 17) dL_cellOf_17 rfl ?_
      refine g_iret (pc := 18) dL_cellOf_18 rfl rfl ?_
      exact ⟨J, ⟨rfl, rfl⟩, hP⟩
theorem hd_owner_0 : gHd YL_owner 4 "java/lang/IndexOutOfBoundsException" 12 := ⟨by decide +kernel, [], ⟨0, 9, 12, 30⟩, [], "java/lang/IndexOutOfBoundsException", rfl, (fun z hz => by cases hz), rfl, by decide, by decide +kernel, by decide +kernel, rfl⟩
theorem w_owner {a : Int32} {o : Int32 ⊕ Nat} (ho : ∀ k, o = .inr k → k < 1) (h : gX G YX2_owner 20 [.ref 3, .int a] n I L D (oV ["java/lang/IndexOutOfBoundsException"] o) P) : gEv G YL_owner 21 [.ref 3, .int a, .ref 131] (hp n I L D) 1 6 (wQ n (wL L o) D o P) := by
  refine g_aload_n (pc := 0) dL_owner_0 rfl rfl ?_
  refine g_iconst (v := nI 0) (pc := 1) dL_owner_1 rfl ?_
  refine g_aload_n (pc := 2) dL_owner_2 rfl rfl ?_
  refine g_iload_n (pc := 3) dL_owner_3 rfl rfl ?_
  refine g_callV (av := [.int a]) (st := [.int (nI 0), .ref 131]) (ci := 2) (pc := 4) dL_owner_4 mt_X2_owner lk_L_40 im_X2_owner se_X2_owner (by decide) s_3 (by decide) rfl np_X2_owner (gc_i gc_0) (Nat.le_of_ble_eq_true rfl) (Nat.le_of_ble_eq_true rfl) ⟨Nat.le_refl _, Nat.le_refl _⟩ h (fun v' h9 _ q => ?_) (fun X h9 q => ?_)
  · obtain ⟨J, ⟨q1, rfl⟩, hP⟩ := q
    cases o with
    | inr k =>
      have q2 : (Sum.inl v' : Option Value ⊕ String) = .inr (List.getD ["java/lang/IndexOutOfBoundsException"] k "") := q1
      cases q2
    | inl w =>
      have q2 : (Sum.inl v' : Option Value ⊕ String) = .inl (some (.int w)) := q1
      cases q2
      refine g_i2l (pc := 7) dL_owner_7 ?_
      refine g_lastore (pc := 8) dL_owner_8 s_131 (by decide) (vp_in_nI (by decide) (by decide)) ?_
      refine g_goto (tgt := 15) (pc := 9) dL_owner_9 (by decide) ?_
      refine g_iconst (v := nI 0) (pc := 15) dL_owner_15 rfl ?_
      refine g_iret (pc := 16) dL_owner_16 rfl rfl ?_
      exact ⟨J, ⟨rfl, rfl⟩, hP⟩
  · obtain ⟨J, ⟨q1, rfl⟩, hP⟩ := q
    cases o with
    | inl w =>
      have q2 : (Sum.inr X : Option Value ⊕ String) = .inl (some (.int w)) := q1
      cases q2
    | inr k =>
      have q2 : (Sum.inr X : Option Value ⊕ String) = .inr (List.getD ["java/lang/IndexOutOfBoundsException"] k "") := q1
      have eX := Sum.inr.inj q2
      subst eX
      have hk := ho k rfl
      have z : k = 0 := by omega
      subst z
      refine ⟨12, 3, 13, hd_owner_0, ⟨by decide, Or.inr ⟨3, dL_owner_12, rfl, rfl⟩⟩, ?_⟩
      refine g_iconst (v := nI 1) (pc := 13) dL_owner_13 rfl ?_
      refine g_iret (pc := 14) dL_owner_14 rfl rfl ?_
      exact ⟨J, ⟨rfl, rfl⟩, hP⟩
theorem hd_placeOf_0 : gHd YL_placeOf 4 "java/lang/IndexOutOfBoundsException" 12 := ⟨by decide +kernel, [], ⟨0, 9, 12, 30⟩, [⟨0, 9, 15, 24⟩], "java/lang/IndexOutOfBoundsException", rfl, (fun z hz => by cases hz), rfl, by decide, by decide +kernel, by decide +kernel, rfl⟩
theorem hd_placeOf_1 : gHd YL_placeOf 4 "java/util/NoSuchElementException" 15 := ⟨by decide +kernel, [⟨0, 9, 12, 30⟩], ⟨0, 9, 15, 24⟩, [], "java/util/NoSuchElementException", rfl, (fun z hz => by
  simp only [List.mem_cons, List.not_mem_nil, or_false] at hz
  rcases hz with rfl
  · exact Or.inr ⟨by decide, "java/lang/IndexOutOfBoundsException", by decide +kernel, by decide +kernel⟩), rfl, by decide, by decide +kernel, by decide +kernel, rfl⟩
theorem w_placeOf {a : Int32} {o : Int32 ⊕ Nat} (ho : ∀ k, o = .inr k → k < 2) (h : gX G YX2_placeOf 20 [.ref 3, .int a] n I L D (oV ["java/lang/IndexOutOfBoundsException", "java/util/NoSuchElementException"] o) P) : gEv G YL_placeOf 21 [.ref 3, .int a, .ref 131] (hp n I L D) 1 6 (wQ n (wL L o) D o P) := by
  refine g_aload_n (pc := 0) dL_placeOf_0 rfl rfl ?_
  refine g_iconst (v := nI 0) (pc := 1) dL_placeOf_1 rfl ?_
  refine g_aload_n (pc := 2) dL_placeOf_2 rfl rfl ?_
  refine g_iload_n (pc := 3) dL_placeOf_3 rfl rfl ?_
  refine g_callV (av := [.int a]) (st := [.int (nI 0), .ref 131]) (ci := 2) (pc := 4) dL_placeOf_4 mt_X2_placeOf lk_L_43 im_X2_placeOf se_X2_placeOf (by decide) s_3 (by decide) rfl np_X2_placeOf (gc_i gc_0) (Nat.le_of_ble_eq_true rfl) (Nat.le_of_ble_eq_true rfl) ⟨Nat.le_refl _, Nat.le_refl _⟩ h (fun v' h9 _ q => ?_) (fun X h9 q => ?_)
  · obtain ⟨J, ⟨q1, rfl⟩, hP⟩ := q
    cases o with
    | inr k =>
      have q2 : (Sum.inl v' : Option Value ⊕ String) = .inr (List.getD ["java/lang/IndexOutOfBoundsException", "java/util/NoSuchElementException"] k "") := q1
      cases q2
    | inl w =>
      have q2 : (Sum.inl v' : Option Value ⊕ String) = .inl (some (.int w)) := q1
      cases q2
      refine g_i2l (pc := 7) dL_placeOf_7 ?_
      refine g_lastore (pc := 8) dL_placeOf_8 s_131 (by decide) (vp_in_nI (by decide) (by decide)) ?_
      refine g_goto (tgt := 18) (pc := 9) dL_placeOf_9 (by decide) ?_
      refine g_iconst (v := nI 0) (pc := 18) dL_placeOf_18 rfl ?_
      refine g_iret (pc := 19) dL_placeOf_19 rfl rfl ?_
      exact ⟨J, ⟨rfl, rfl⟩, hP⟩
  · obtain ⟨J, ⟨q1, rfl⟩, hP⟩ := q
    cases o with
    | inl w =>
      have q2 : (Sum.inr X : Option Value ⊕ String) = .inl (some (.int w)) := q1
      cases q2
    | inr k =>
      have q2 : (Sum.inr X : Option Value ⊕ String) = .inr (List.getD ["java/lang/IndexOutOfBoundsException", "java/util/NoSuchElementException"] k "") := q1
      have eX := Sum.inr.inj q2
      subst eX
      have hk := ho k rfl
      rcases (by omega : k = 0 ∨ k = 1) with z | z <;> subst z
      · refine ⟨12, 3, 13, hd_placeOf_0, ⟨by decide, Or.inr ⟨3, dL_placeOf_12, rfl, rfl⟩⟩, ?_⟩
        refine g_iconst (v := nI 1) (pc := 13) dL_placeOf_13 rfl ?_
        refine g_iret (pc := 14) dL_placeOf_14 rfl rfl ?_
        exact ⟨J, ⟨rfl, rfl⟩, hP⟩
      · refine ⟨15, 3, 16, hd_placeOf_1, ⟨by decide, Or.inr ⟨3, dL_placeOf_15, rfl, rfl⟩⟩, ?_⟩
        refine g_iconst (v := nI 2) (pc := 16) dL_placeOf_16 rfl ?_
        refine g_iret (pc := 17) dL_placeOf_17 rfl rfl ?_
        exact ⟨J, ⟨rfl, rfl⟩, hP⟩
theorem hd_symbol_0 : gHd YL_symbol 4 "java/lang/IndexOutOfBoundsException" 12 := ⟨by decide +kernel, [], ⟨0, 9, 12, 30⟩, [], "java/lang/IndexOutOfBoundsException", rfl, (fun z hz => by cases hz), rfl, by decide, by decide +kernel, by decide +kernel, rfl⟩
theorem w_symbol {a : Int32} {o : Int32 ⊕ Nat} (ho : ∀ k, o = .inr k → k < 1) (h : gX G YX2_symbol 20 [.ref 3, .int a] n I L D (oV ["java/lang/IndexOutOfBoundsException"] o) P) : gEv G YL_symbol 21 [.ref 3, .int a, .ref 131] (hp n I L D) 1 6 (wQ n (wL L o) D o P) := by
  refine g_aload_n (pc := 0) dL_symbol_0 rfl rfl ?_
  refine g_iconst (v := nI 0) (pc := 1) dL_symbol_1 rfl ?_
  refine g_aload_n (pc := 2) dL_symbol_2 rfl rfl ?_
  refine g_iload_n (pc := 3) dL_symbol_3 rfl rfl ?_
  refine g_callV (av := [.int a]) (st := [.int (nI 0), .ref 131]) (ci := 2) (pc := 4) dL_symbol_4 mt_X2_symbol lk_L_46 im_X2_symbol se_X2_symbol (by decide) s_3 (by decide) rfl np_X2_symbol (gc_i gc_0) (Nat.le_of_ble_eq_true rfl) (Nat.le_of_ble_eq_true rfl) ⟨Nat.le_refl _, Nat.le_refl _⟩ h (fun v' h9 _ q => ?_) (fun X h9 q => ?_)
  · obtain ⟨J, ⟨q1, rfl⟩, hP⟩ := q
    cases o with
    | inr k =>
      have q2 : (Sum.inl v' : Option Value ⊕ String) = .inr (List.getD ["java/lang/IndexOutOfBoundsException"] k "") := q1
      cases q2
    | inl w =>
      have q2 : (Sum.inl v' : Option Value ⊕ String) = .inl (some (.int w)) := q1
      cases q2
      refine g_i2l (pc := 7) dL_symbol_7 ?_
      refine g_lastore (pc := 8) dL_symbol_8 s_131 (by decide) (vp_in_nI (by decide) (by decide)) ?_
      refine g_goto (tgt := 15) (pc := 9) dL_symbol_9 (by decide) ?_
      refine g_iconst (v := nI 0) (pc := 15) dL_symbol_15 rfl ?_
      refine g_iret (pc := 16) dL_symbol_16 rfl rfl ?_
      exact ⟨J, ⟨rfl, rfl⟩, hP⟩
  · obtain ⟨J, ⟨q1, rfl⟩, hP⟩ := q
    cases o with
    | inl w =>
      have q2 : (Sum.inr X : Option Value ⊕ String) = .inl (some (.int w)) := q1
      cases q2
    | inr k =>
      have q2 : (Sum.inr X : Option Value ⊕ String) = .inr (List.getD ["java/lang/IndexOutOfBoundsException"] k "") := q1
      have eX := Sum.inr.inj q2
      subst eX
      have hk := ho k rfl
      have z : k = 0 := by omega
      subst z
      refine ⟨12, 3, 13, hd_symbol_0, ⟨by decide, Or.inr ⟨3, dL_symbol_12, rfl, rfl⟩⟩, ?_⟩
      refine g_iconst (v := nI 1) (pc := 13) dL_symbol_13 rfl ?_
      refine g_iret (pc := 14) dL_symbol_14 rfl rfl ?_
      exact ⟨J, ⟨rfl, rfl⟩, hP⟩
theorem hd_isErased_0 : gHd YL_isErased 4 "java/lang/IndexOutOfBoundsException" 19 := ⟨by decide +kernel, [], ⟨0, 16, 19, 30⟩, [], "java/lang/IndexOutOfBoundsException", rfl, (fun z hz => by cases hz), rfl, by decide, by decide +kernel, by decide +kernel, rfl⟩
theorem w_isErased {a : Int32} {o : Int32 ⊕ Nat} (ho : ∀ k, o = .inr k → k < 1) (h : gX G YX2_isErased 20 [.ref 3, .int a] n I L D (oV ["java/lang/IndexOutOfBoundsException"] o) P) : gEv G YL_isErased 21 [.ref 3, .int a, .ref 131] (hp n I L D) 1 6 (wQ n (wE L o) D o P) := by
  refine g_aload_n (pc := 0) dL_isErased_0 rfl rfl ?_
  refine g_iconst (v := nI 0) (pc := 1) dL_isErased_1 rfl ?_
  refine g_aload_n (pc := 2) dL_isErased_2 rfl rfl ?_
  refine g_iload_n (pc := 3) dL_isErased_3 rfl rfl ?_
  refine g_callV (av := [.int a]) (st := [.int (nI 0), .ref 131]) (ci := 2) (pc := 4) dL_isErased_4 mt_X2_isErased lk_L_49 im_X2_isErased se_X2_isErased (by decide) s_3 (by decide) rfl np_X2_isErased (gc_i gc_0) (Nat.le_of_ble_eq_true rfl) (Nat.le_of_ble_eq_true rfl) ⟨Nat.le_refl _, Nat.le_refl _⟩ h (fun v' h9 _ q => ?_) (fun X h9 q => ?_)
  · obtain ⟨J, ⟨q1, rfl⟩, hP⟩ := q
    cases o with
    | inr k =>
      have q2 : (Sum.inl v' : Option Value ⊕ String) = .inr (List.getD ["java/lang/IndexOutOfBoundsException"] k "") := q1
      cases q2
    | inl w =>
      have q2 : (Sum.inl v' : Option Value ⊕ String) = .inl (some (.int w)) := q1
      cases q2
      refine g_if_eq (tgt := 14) (pc := 7) dL_isErased_7 (by decide) (fun c7 => ?_) (fun c7 => ?_)
      · have e : (if w = 0 then (0 : Int64) else 1) = 0 := if_pos c7
        refine g_lconst (pc := 14) dL_isErased_14 rfl ?_
        refine g_lastore (pc := 15) dL_isErased_15 s_131 (by decide) (vp_in_nI (by decide) (by decide)) ?_
        refine g_goto (tgt := 22) (pc := 16) dL_isErased_16 (by decide) ?_
        refine g_iconst (v := nI 0) (pc := 22) dL_isErased_22 rfl ?_
        refine g_iret (pc := 23) dL_isErased_23 rfl rfl ?_
        exact ⟨J, ⟨rfl, by show _ = hp n J (gUp L 131 0 (if w = 0 then 0 else 1)) D; rw [e]; rfl⟩, hP⟩
      · have e : (if w = 0 then (0 : Int64) else 1) = 1 := if_neg c7
        refine g_lconst (pc := 10) dL_isErased_10 rfl ?_
        refine g_goto (tgt := 15) (pc := 11) dL_isErased_11 (by decide) ?_
        refine g_lastore (pc := 15) dL_isErased_15 s_131 (by decide) (vp_in_nI (by decide) (by decide)) ?_
        refine g_goto (tgt := 22) (pc := 16) dL_isErased_16 (by decide) ?_
        refine g_iconst (v := nI 0) (pc := 22) dL_isErased_22 rfl ?_
        refine g_iret (pc := 23) dL_isErased_23 rfl rfl ?_
        exact ⟨J, ⟨rfl, by show _ = hp n J (gUp L 131 0 (if w = 0 then 0 else 1)) D; rw [e]; rfl⟩, hP⟩
  · obtain ⟨J, ⟨q1, rfl⟩, hP⟩ := q
    cases o with
    | inl w =>
      have q2 : (Sum.inr X : Option Value ⊕ String) = .inl (some (.int w)) := q1
      cases q2
    | inr k =>
      have q2 : (Sum.inr X : Option Value ⊕ String) = .inr (List.getD ["java/lang/IndexOutOfBoundsException"] k "") := q1
      have eX := Sum.inr.inj q2
      subst eX
      have hk := ho k rfl
      have z : k = 0 := by omega
      subst z
      refine ⟨19, 3, 20, hd_isErased_0, ⟨by decide, Or.inr ⟨3, dL_isErased_19, rfl, rfl⟩⟩, ?_⟩
      refine g_iconst (v := nI 1) (pc := 20) dL_isErased_20 rfl ?_
      refine g_iret (pc := 21) dL_isErased_21 rfl rfl ?_
      exact ⟨J, ⟨rfl, rfl⟩, hP⟩
theorem hd_flip_0 : gHd YL_flip 5 "java/lang/IndexOutOfBoundsException" 13 := ⟨by decide +kernel, [], ⟨0, 10, 13, 30⟩, [⟨0, 10, 17, 13⟩], "java/lang/IndexOutOfBoundsException", rfl, (fun z hz => by cases hz), rfl, by decide, by decide +kernel, by decide +kernel, rfl⟩
theorem hd_flip_1 : gHd YL_flip 5 "java/lang/IllegalArgumentException" 17 := ⟨by decide +kernel, [⟨0, 10, 13, 30⟩], ⟨0, 10, 17, 13⟩, [], "java/lang/IllegalArgumentException", rfl, (fun z hz => by
  simp only [List.mem_cons, List.not_mem_nil, or_false] at hz
  rcases hz with rfl
  · exact Or.inr ⟨by decide, "java/lang/IndexOutOfBoundsException", by decide +kernel, by decide +kernel⟩), rfl, by decide, by decide +kernel, by decide +kernel, rfl⟩
theorem w_flip {a b : Int32} {o : Int32 ⊕ Nat} (ho : ∀ k, o = .inr k → k < 2) (h : gX G YX2_flip 20 [.ref 3, .int a, .int b] n I L D (oV ["java/lang/IndexOutOfBoundsException", "java/lang/IllegalArgumentException"] o) P) : gEv G YL_flip 21 [.ref 3, .int a, .int b, .ref 131] (hp n I L D) 1 6 (wQ n (wL L o) D o P) := by
  refine g_aload_n (pc := 0) dL_flip_0 rfl rfl ?_
  refine g_iconst (v := nI 0) (pc := 1) dL_flip_1 rfl ?_
  refine g_aload_n (pc := 2) dL_flip_2 rfl rfl ?_
  refine g_iload_n (pc := 3) dL_flip_3 rfl rfl ?_
  refine g_iload_n (pc := 4) dL_flip_4 rfl rfl ?_
  refine g_callV (av := [.int a, .int b]) (st := [.int (nI 0), .ref 131]) (ci := 2) (pc := 5) dL_flip_5 mt_X2_flip lk_L_53 im_X2_flip se_X2_flip (by decide) s_3 (by decide) rfl np_X2_flip (gc_i (gc_i gc_0)) (Nat.le_of_ble_eq_true rfl) (Nat.le_of_ble_eq_true rfl) ⟨Nat.le_refl _, Nat.le_refl _⟩ h (fun v' h9 _ q => ?_) (fun X h9 q => ?_)
  · obtain ⟨J, ⟨q1, rfl⟩, hP⟩ := q
    cases o with
    | inr k =>
      have q2 : (Sum.inl v' : Option Value ⊕ String) = .inr (List.getD ["java/lang/IndexOutOfBoundsException", "java/lang/IllegalArgumentException"] k "") := q1
      cases q2
    | inl w =>
      have q2 : (Sum.inl v' : Option Value ⊕ String) = .inl (some (.int w)) := q1
      cases q2
      refine g_i2l (pc := 8) dL_flip_8 ?_
      refine g_lastore (pc := 9) dL_flip_9 s_131 (by decide) (vp_in_nI (by decide) (by decide)) ?_
      refine g_goto (tgt := 21) (pc := 10) dL_flip_10 (by decide) ?_
      refine g_iconst (v := nI 0) (pc := 21) dL_flip_21 rfl ?_
      refine g_iret (pc := 22) dL_flip_22 rfl rfl ?_
      exact ⟨J, ⟨rfl, rfl⟩, hP⟩
  · obtain ⟨J, ⟨q1, rfl⟩, hP⟩ := q
    cases o with
    | inl w =>
      have q2 : (Sum.inr X : Option Value ⊕ String) = .inl (some (.int w)) := q1
      cases q2
    | inr k =>
      have q2 : (Sum.inr X : Option Value ⊕ String) = .inr (List.getD ["java/lang/IndexOutOfBoundsException", "java/lang/IllegalArgumentException"] k "") := q1
      have eX := Sum.inr.inj q2
      subst eX
      have hk := ho k rfl
      rcases (by omega : k = 0 ∨ k = 1) with z | z <;> subst z
      · refine ⟨13, 4, 15, hd_flip_0, ⟨by decide, Or.inl ⟨dL_flip_13, rfl⟩⟩, ?_⟩
        refine g_iconst (v := nI 1) (pc := 15) dL_flip_15 rfl ?_
        refine g_iret (pc := 16) dL_flip_16 rfl rfl ?_
        exact ⟨J, ⟨rfl, rfl⟩, hP⟩
      · refine ⟨17, 4, 19, hd_flip_1, ⟨by decide, Or.inl ⟨dL_flip_17, rfl⟩⟩, ?_⟩
        refine g_iconst (v := nI 2) (pc := 19) dL_flip_19 rfl ?_
        refine g_iret (pc := 20) dL_flip_20 rfl rfl ?_
        exact ⟨J, ⟨rfl, rfl⟩, hP⟩
theorem hd_erase_0 : gHd YL_erase 4 "java/lang/IndexOutOfBoundsException" 12 := ⟨by decide +kernel, [], ⟨0, 9, 12, 30⟩, [], "java/lang/IndexOutOfBoundsException", rfl, (fun z hz => by cases hz), rfl, by decide, by decide +kernel, by decide +kernel, rfl⟩
theorem w_erase {a : Int32} {o : Int32 ⊕ Nat} (ho : ∀ k, o = .inr k → k < 1) (h : gX G YX2_erase 20 [.ref 3, .int a] n I L D (oV ["java/lang/IndexOutOfBoundsException"] o) P) : gEv G YL_erase 21 [.ref 3, .int a, .ref 131] (hp n I L D) 1 6 (wQ n (wL L o) D o P) := by
  refine g_aload_n (pc := 0) dL_erase_0 rfl rfl ?_
  refine g_iconst (v := nI 0) (pc := 1) dL_erase_1 rfl ?_
  refine g_aload_n (pc := 2) dL_erase_2 rfl rfl ?_
  refine g_iload_n (pc := 3) dL_erase_3 rfl rfl ?_
  refine g_callV (av := [.int a]) (st := [.int (nI 0), .ref 131]) (ci := 2) (pc := 4) dL_erase_4 mt_X2_erase lk_L_56 im_X2_erase se_X2_erase (by decide) s_3 (by decide) rfl np_X2_erase (gc_i gc_0) (Nat.le_of_ble_eq_true rfl) (Nat.le_of_ble_eq_true rfl) ⟨Nat.le_refl _, Nat.le_refl _⟩ h (fun v' h9 _ q => ?_) (fun X h9 q => ?_)
  · obtain ⟨J, ⟨q1, rfl⟩, hP⟩ := q
    cases o with
    | inr k =>
      have q2 : (Sum.inl v' : Option Value ⊕ String) = .inr (List.getD ["java/lang/IndexOutOfBoundsException"] k "") := q1
      cases q2
    | inl w =>
      have q2 : (Sum.inl v' : Option Value ⊕ String) = .inl (some (.int w)) := q1
      cases q2
      refine g_i2l (pc := 7) dL_erase_7 ?_
      refine g_lastore (pc := 8) dL_erase_8 s_131 (by decide) (vp_in_nI (by decide) (by decide)) ?_
      refine g_goto (tgt := 15) (pc := 9) dL_erase_9 (by decide) ?_
      refine g_iconst (v := nI 0) (pc := 15) dL_erase_15 rfl ?_
      refine g_iret (pc := 16) dL_erase_16 rfl rfl ?_
      exact ⟨J, ⟨rfl, rfl⟩, hP⟩
  · obtain ⟨J, ⟨q1, rfl⟩, hP⟩ := q
    cases o with
    | inl w =>
      have q2 : (Sum.inr X : Option Value ⊕ String) = .inl (some (.int w)) := q1
      cases q2
    | inr k =>
      have q2 : (Sum.inr X : Option Value ⊕ String) = .inr (List.getD ["java/lang/IndexOutOfBoundsException"] k "") := q1
      have eX := Sum.inr.inj q2
      subst eX
      have hk := ho k rfl
      have z : k = 0 := by omega
      subst z
      refine ⟨12, 3, 13, hd_erase_0, ⟨by decide, Or.inr ⟨3, dL_erase_12, rfl, rfl⟩⟩, ?_⟩
      refine g_iconst (v := nI 1) (pc := 13) dL_erase_13 rfl ?_
      refine g_iret (pc := 14) dL_erase_14 rfl rfl ?_
      exact ⟨J, ⟨rfl, rfl⟩, hP⟩
theorem hd_burst_0 : gHd YL_burst 7 "java/lang/IndexOutOfBoundsException" 15 := ⟨by decide +kernel, [], ⟨0, 12, 15, 30⟩, [⟨0, 12, 19, 13⟩], "java/lang/IndexOutOfBoundsException", rfl, (fun z hz => by cases hz), rfl, by decide, by decide +kernel, by decide +kernel, rfl⟩
theorem hd_burst_1 : gHd YL_burst 7 "java/lang/IllegalArgumentException" 19 := ⟨by decide +kernel, [⟨0, 12, 15, 30⟩], ⟨0, 12, 19, 13⟩, [], "java/lang/IllegalArgumentException", rfl, (fun z hz => by
  simp only [List.mem_cons, List.not_mem_nil, or_false] at hz
  rcases hz with rfl
  · exact Or.inr ⟨by decide, "java/lang/IndexOutOfBoundsException", by decide +kernel, by decide +kernel⟩), rfl, by decide, by decide +kernel, by decide +kernel, rfl⟩
theorem w_burst {a b c : Int32} {o : Int32 ⊕ Nat} (ho : ∀ k, o = .inr k → k < 2) (h : gX G YX2_burst 20 [.ref 3, .int a, .int b, .int c] n I L D (oV ["java/lang/IndexOutOfBoundsException", "java/lang/IllegalArgumentException"] o) P) : gEv G YL_burst 21 [.ref 3, .int a, .int b, .int c, .ref 131] (hp n I L D) 1 6 (wQ n (wL L o) D o P) := by
  refine g_aload (pc := 0) dL_burst_0 rfl ?_
  refine g_iconst (v := nI 0) (pc := 2) dL_burst_2 rfl ?_
  refine g_aload_n (pc := 3) dL_burst_3 rfl rfl ?_
  refine g_iload_n (pc := 4) dL_burst_4 rfl rfl ?_
  refine g_iload_n (pc := 5) dL_burst_5 rfl rfl ?_
  refine g_iload_n (pc := 6) dL_burst_6 rfl rfl ?_
  refine g_callV (av := [.int a, .int b, .int c]) (st := [.int (nI 0), .ref 131]) (ci := 2) (pc := 7) dL_burst_7 mt_X2_burst lk_L_59 im_X2_burst se_X2_burst (by decide) s_3 (by decide) rfl np_X2_burst (gc_i (gc_i (gc_i gc_0))) (Nat.le_of_ble_eq_true rfl) (Nat.le_of_ble_eq_true rfl) ⟨Nat.le_refl _, Nat.le_refl _⟩ h (fun v' h9 _ q => ?_) (fun X h9 q => ?_)
  · obtain ⟨J, ⟨q1, rfl⟩, hP⟩ := q
    cases o with
    | inr k =>
      have q2 : (Sum.inl v' : Option Value ⊕ String) = .inr (List.getD ["java/lang/IndexOutOfBoundsException", "java/lang/IllegalArgumentException"] k "") := q1
      cases q2
    | inl w =>
      have q2 : (Sum.inl v' : Option Value ⊕ String) = .inl (some (.int w)) := q1
      cases q2
      refine g_i2l (pc := 10) dL_burst_10 ?_
      refine g_lastore (pc := 11) dL_burst_11 s_131 (by decide) (vp_in_nI (by decide) (by decide)) ?_
      refine g_goto (tgt := 23) (pc := 12) dL_burst_12 (by decide) ?_
      refine g_iconst (v := nI 0) (pc := 23) dL_burst_23 rfl ?_
      refine g_iret (pc := 24) dL_burst_24 rfl rfl ?_
      exact ⟨J, ⟨rfl, rfl⟩, hP⟩
  · obtain ⟨J, ⟨q1, rfl⟩, hP⟩ := q
    cases o with
    | inl w =>
      have q2 : (Sum.inr X : Option Value ⊕ String) = .inl (some (.int w)) := q1
      cases q2
    | inr k =>
      have q2 : (Sum.inr X : Option Value ⊕ String) = .inr (List.getD ["java/lang/IndexOutOfBoundsException", "java/lang/IllegalArgumentException"] k "") := q1
      have eX := Sum.inr.inj q2
      subst eX
      have hk := ho k rfl
      rcases (by omega : k = 0 ∨ k = 1) with z | z <;> subst z
      · refine ⟨15, 5, 17, hd_burst_0, ⟨by decide, Or.inl ⟨dL_burst_15, rfl⟩⟩, ?_⟩
        refine g_iconst (v := nI 1) (pc := 17) dL_burst_17 rfl ?_
        refine g_iret (pc := 18) dL_burst_18 rfl rfl ?_
        exact ⟨J, ⟨rfl, rfl⟩, hP⟩
      · refine ⟨19, 5, 21, hd_burst_1, ⟨by decide, Or.inl ⟨dL_burst_19, rfl⟩⟩, ?_⟩
        refine g_iconst (v := nI 2) (pc := 21) dL_burst_21 rfl ?_
        refine g_iret (pc := 22) dL_burst_22 rfl rfl ?_
        exact ⟨J, ⟨rfl, rfl⟩, hP⟩
theorem hd_wrong_0 : gHd YL_wrong 4 "java/lang/IndexOutOfBoundsException" 12 := ⟨by decide +kernel, [], ⟨0, 9, 12, 30⟩, [], "java/lang/IndexOutOfBoundsException", rfl, (fun z hz => by cases hz), rfl, by decide, by decide +kernel, by decide +kernel, rfl⟩
theorem w_wrong {a : Int32} {o : Int32 ⊕ Nat} (ho : ∀ k, o = .inr k → k < 1) (h : gX G YX2_wrong 20 [.ref 3, .int a] n I L D (oV ["java/lang/IndexOutOfBoundsException"] o) P) : gEv G YL_wrong 21 [.ref 3, .int a, .ref 131] (hp n I L D) 1 6 (wQ n (wL L o) D o P) := by
  refine g_aload_n (pc := 0) dL_wrong_0 rfl rfl ?_
  refine g_iconst (v := nI 0) (pc := 1) dL_wrong_1 rfl ?_
  refine g_aload_n (pc := 2) dL_wrong_2 rfl rfl ?_
  refine g_iload_n (pc := 3) dL_wrong_3 rfl rfl ?_
  refine g_callV (av := [.int a]) (st := [.int (nI 0), .ref 131]) (ci := 2) (pc := 4) dL_wrong_4 mt_X2_wrong lk_L_62 im_X2_wrong se_X2_wrong (by decide) s_3 (by decide) rfl np_X2_wrong (gc_i gc_0) (Nat.le_of_ble_eq_true rfl) (Nat.le_of_ble_eq_true rfl) ⟨Nat.le_refl _, Nat.le_refl _⟩ h (fun v' h9 _ q => ?_) (fun X h9 q => ?_)
  · obtain ⟨J, ⟨q1, rfl⟩, hP⟩ := q
    cases o with
    | inr k =>
      have q2 : (Sum.inl v' : Option Value ⊕ String) = .inr (List.getD ["java/lang/IndexOutOfBoundsException"] k "") := q1
      cases q2
    | inl w =>
      have q2 : (Sum.inl v' : Option Value ⊕ String) = .inl (some (.int w)) := q1
      cases q2
      refine g_i2l (pc := 7) dL_wrong_7 ?_
      refine g_lastore (pc := 8) dL_wrong_8 s_131 (by decide) (vp_in_nI (by decide) (by decide)) ?_
      refine g_goto (tgt := 15) (pc := 9) dL_wrong_9 (by decide) ?_
      refine g_iconst (v := nI 0) (pc := 15) dL_wrong_15 rfl ?_
      refine g_iret (pc := 16) dL_wrong_16 rfl rfl ?_
      exact ⟨J, ⟨rfl, rfl⟩, hP⟩
  · obtain ⟨J, ⟨q1, rfl⟩, hP⟩ := q
    cases o with
    | inl w =>
      have q2 : (Sum.inr X : Option Value ⊕ String) = .inl (some (.int w)) := q1
      cases q2
    | inr k =>
      have q2 : (Sum.inr X : Option Value ⊕ String) = .inr (List.getD ["java/lang/IndexOutOfBoundsException"] k "") := q1
      have eX := Sum.inr.inj q2
      subst eX
      have hk := ho k rfl
      have z : k = 0 := by omega
      subst z
      refine ⟨12, 3, 13, hd_wrong_0, ⟨by decide, Or.inr ⟨3, dL_wrong_12, rfl, rfl⟩⟩, ?_⟩
      refine g_iconst (v := nI 1) (pc := 13) dL_wrong_13 rfl ?_
      refine g_iret (pc := 14) dL_wrong_14 rfl rfl ?_
      exact ⟨J, ⟨rfl, rfl⟩, hP⟩
theorem hd_erased_0 : gHd YL_erased 4 "java/lang/IndexOutOfBoundsException" 12 := ⟨by decide +kernel, [], ⟨0, 9, 12, 30⟩, [], "java/lang/IndexOutOfBoundsException", rfl, (fun z hz => by cases hz), rfl, by decide, by decide +kernel, by decide +kernel, rfl⟩
theorem w_erased {a : Int32} {o : Int32 ⊕ Nat} (ho : ∀ k, o = .inr k → k < 1) (h : gX G YX2_erased 20 [.ref 3, .int a] n I L D (oV ["java/lang/IndexOutOfBoundsException"] o) P) : gEv G YL_erased 21 [.ref 3, .int a, .ref 131] (hp n I L D) 1 6 (wQ n (wL L o) D o P) := by
  refine g_aload_n (pc := 0) dL_erased_0 rfl rfl ?_
  refine g_iconst (v := nI 0) (pc := 1) dL_erased_1 rfl ?_
  refine g_aload_n (pc := 2) dL_erased_2 rfl rfl ?_
  refine g_iload_n (pc := 3) dL_erased_3 rfl rfl ?_
  refine g_callV (av := [.int a]) (st := [.int (nI 0), .ref 131]) (ci := 2) (pc := 4) dL_erased_4 mt_X2_erased lk_L_65 im_X2_erased se_X2_erased (by decide) s_3 (by decide) rfl np_X2_erased (gc_i gc_0) (Nat.le_of_ble_eq_true rfl) (Nat.le_of_ble_eq_true rfl) ⟨Nat.le_refl _, Nat.le_refl _⟩ h (fun v' h9 _ q => ?_) (fun X h9 q => ?_)
  · obtain ⟨J, ⟨q1, rfl⟩, hP⟩ := q
    cases o with
    | inr k =>
      have q2 : (Sum.inl v' : Option Value ⊕ String) = .inr (List.getD ["java/lang/IndexOutOfBoundsException"] k "") := q1
      cases q2
    | inl w =>
      have q2 : (Sum.inl v' : Option Value ⊕ String) = .inl (some (.int w)) := q1
      cases q2
      refine g_i2l (pc := 7) dL_erased_7 ?_
      refine g_lastore (pc := 8) dL_erased_8 s_131 (by decide) (vp_in_nI (by decide) (by decide)) ?_
      refine g_goto (tgt := 15) (pc := 9) dL_erased_9 (by decide) ?_
      refine g_iconst (v := nI 0) (pc := 15) dL_erased_15 rfl ?_
      refine g_iret (pc := 16) dL_erased_16 rfl rfl ?_
      exact ⟨J, ⟨rfl, rfl⟩, hP⟩
  · obtain ⟨J, ⟨q1, rfl⟩, hP⟩ := q
    cases o with
    | inl w =>
      have q2 : (Sum.inr X : Option Value ⊕ String) = .inl (some (.int w)) := q1
      cases q2
    | inr k =>
      have q2 : (Sum.inr X : Option Value ⊕ String) = .inr (List.getD ["java/lang/IndexOutOfBoundsException"] k "") := q1
      have eX := Sum.inr.inj q2
      subst eX
      have hk := ho k rfl
      have z : k = 0 := by omega
      subst z
      refine ⟨12, 3, 13, hd_erased_0, ⟨by decide, Or.inr ⟨3, dL_erased_12, rfl, rfl⟩⟩, ?_⟩
      refine g_iconst (v := nI 1) (pc := 13) dL_erased_13 rfl ?_
      refine g_iret (pc := 14) dL_erased_14 rfl rfl ?_
      exact ⟨J, ⟨rfl, rfl⟩, hP⟩
theorem hd_sum_0 : gHd YL_sum 7 "java/lang/IndexOutOfBoundsException" 15 := ⟨by decide +kernel, [], ⟨0, 12, 15, 30⟩, [], "java/lang/IndexOutOfBoundsException", rfl, (fun z hz => by cases hz), rfl, by decide, by decide +kernel, by decide +kernel, rfl⟩
theorem w_sum {a b c : Int32} {o : Int32 ⊕ Nat} (ho : ∀ k, o = .inr k → k < 1) (h : gX G YX2_sum 20 [.ref 3, .int a, .int b, .int c] n I L D (oV ["java/lang/IndexOutOfBoundsException"] o) P) : gEv G YL_sum 21 [.ref 3, .int a, .int b, .int c, .ref 131] (hp n I L D) 1 6 (wQ n (wL L o) D o P) := by
  refine g_aload (pc := 0) dL_sum_0 rfl ?_
  refine g_iconst (v := nI 0) (pc := 2) dL_sum_2 rfl ?_
  refine g_aload_n (pc := 3) dL_sum_3 rfl rfl ?_
  refine g_iload_n (pc := 4) dL_sum_4 rfl rfl ?_
  refine g_iload_n (pc := 5) dL_sum_5 rfl rfl ?_
  refine g_iload_n (pc := 6) dL_sum_6 rfl rfl ?_
  refine g_callV (av := [.int a, .int b, .int c]) (st := [.int (nI 0), .ref 131]) (ci := 2) (pc := 7) dL_sum_7 mt_X2_sum lk_L_68 im_X2_sum se_X2_sum (by decide) s_3 (by decide) rfl np_X2_sum (gc_i (gc_i (gc_i gc_0))) (Nat.le_of_ble_eq_true rfl) (Nat.le_of_ble_eq_true rfl) ⟨Nat.le_refl _, Nat.le_refl _⟩ h (fun v' h9 _ q => ?_) (fun X h9 q => ?_)
  · obtain ⟨J, ⟨q1, rfl⟩, hP⟩ := q
    cases o with
    | inr k =>
      have q2 : (Sum.inl v' : Option Value ⊕ String) = .inr (List.getD ["java/lang/IndexOutOfBoundsException"] k "") := q1
      cases q2
    | inl w =>
      have q2 : (Sum.inl v' : Option Value ⊕ String) = .inl (some (.int w)) := q1
      cases q2
      refine g_i2l (pc := 10) dL_sum_10 ?_
      refine g_lastore (pc := 11) dL_sum_11 s_131 (by decide) (vp_in_nI (by decide) (by decide)) ?_
      refine g_goto (tgt := 19) (pc := 12) dL_sum_12 (by decide) ?_
      refine g_iconst (v := nI 0) (pc := 19) dL_sum_19 rfl ?_
      refine g_iret (pc := 20) dL_sum_20 rfl rfl ?_
      exact ⟨J, ⟨rfl, rfl⟩, hP⟩
  · obtain ⟨J, ⟨q1, rfl⟩, hP⟩ := q
    cases o with
    | inl w =>
      have q2 : (Sum.inr X : Option Value ⊕ String) = .inl (some (.int w)) := q1
      cases q2
    | inr k =>
      have q2 : (Sum.inr X : Option Value ⊕ String) = .inr (List.getD ["java/lang/IndexOutOfBoundsException"] k "") := q1
      have eX := Sum.inr.inj q2
      subst eX
      have hk := ho k rfl
      have z : k = 0 := by omega
      subst z
      refine ⟨15, 5, 17, hd_sum_0, ⟨by decide, Or.inl ⟨dL_sum_15, rfl⟩⟩, ?_⟩
      refine g_iconst (v := nI 1) (pc := 17) dL_sum_17 rfl ?_
      refine g_iret (pc := 18) dL_sum_18 rfl rfl ?_
      exact ⟨J, ⟨rfl, rfl⟩, hP⟩
theorem hd_decoded_0 : gHd YL_decoded 7 "java/lang/IndexOutOfBoundsException" 15 := ⟨by decide +kernel, [], ⟨0, 12, 15, 30⟩, [⟨0, 12, 19, 13⟩, ⟨0, 12, 23, 24⟩], "java/lang/IndexOutOfBoundsException", rfl, (fun z hz => by cases hz), rfl, by decide, by decide +kernel, by decide +kernel, rfl⟩
theorem hd_decoded_1 : gHd YL_decoded 7 "java/lang/IllegalArgumentException" 19 := ⟨by decide +kernel, [⟨0, 12, 15, 30⟩], ⟨0, 12, 19, 13⟩, [⟨0, 12, 23, 24⟩], "java/lang/IllegalArgumentException", rfl, (fun z hz => by
  simp only [List.mem_cons, List.not_mem_nil, or_false] at hz
  rcases hz with rfl
  · exact Or.inr ⟨by decide, "java/lang/IndexOutOfBoundsException", by decide +kernel, by decide +kernel⟩), rfl, by decide, by decide +kernel, by decide +kernel, rfl⟩
theorem hd_decoded_2 : gHd YL_decoded 7 "java/util/NoSuchElementException" 23 := ⟨by decide +kernel, [⟨0, 12, 15, 30⟩, ⟨0, 12, 19, 13⟩], ⟨0, 12, 23, 24⟩, [], "java/util/NoSuchElementException", rfl, (fun z hz => by
  simp only [List.mem_cons, List.not_mem_nil, or_false] at hz
  rcases hz with rfl | rfl
  · exact Or.inr ⟨by decide, "java/lang/IndexOutOfBoundsException", by decide +kernel, by decide +kernel⟩
  · exact Or.inr ⟨by decide, "java/lang/IllegalArgumentException", by decide +kernel, by decide +kernel⟩), rfl, by decide, by decide +kernel, by decide +kernel, rfl⟩
theorem w_decoded {a b c : Int32} {o : Int32 ⊕ Nat} (ho : ∀ k, o = .inr k → k < 3) (h : gX G YX2_decoded 20 [.ref 3, .int a, .int b, .int c] n I L D (oV ["java/lang/IndexOutOfBoundsException", "java/lang/IllegalArgumentException", "java/util/NoSuchElementException"] o) P) : gEv G YL_decoded 21 [.ref 3, .int a, .int b, .int c, .ref 131] (hp n I L D) 1 6 (wQ n (wL L o) D o P) := by
  refine g_aload (pc := 0) dL_decoded_0 rfl ?_
  refine g_iconst (v := nI 0) (pc := 2) dL_decoded_2 rfl ?_
  refine g_aload_n (pc := 3) dL_decoded_3 rfl rfl ?_
  refine g_iload_n (pc := 4) dL_decoded_4 rfl rfl ?_
  refine g_iload_n (pc := 5) dL_decoded_5 rfl rfl ?_
  refine g_iload_n (pc := 6) dL_decoded_6 rfl rfl ?_
  refine g_callV (av := [.int a, .int b, .int c]) (st := [.int (nI 0), .ref 131]) (ci := 2) (pc := 7) dL_decoded_7 mt_X2_decoded lk_L_71 im_X2_decoded se_X2_decoded (by decide) s_3 (by decide) rfl np_X2_decoded (gc_i (gc_i (gc_i gc_0))) (Nat.le_of_ble_eq_true rfl) (Nat.le_of_ble_eq_true rfl) ⟨Nat.le_refl _, Nat.le_refl _⟩ h (fun v' h9 _ q => ?_) (fun X h9 q => ?_)
  · obtain ⟨J, ⟨q1, rfl⟩, hP⟩ := q
    cases o with
    | inr k =>
      have q2 : (Sum.inl v' : Option Value ⊕ String) = .inr (List.getD ["java/lang/IndexOutOfBoundsException", "java/lang/IllegalArgumentException", "java/util/NoSuchElementException"] k "") := q1
      cases q2
    | inl w =>
      have q2 : (Sum.inl v' : Option Value ⊕ String) = .inl (some (.int w)) := q1
      cases q2
      refine g_i2l (pc := 10) dL_decoded_10 ?_
      refine g_lastore (pc := 11) dL_decoded_11 s_131 (by decide) (vp_in_nI (by decide) (by decide)) ?_
      refine g_goto (tgt := 27) (pc := 12) dL_decoded_12 (by decide) ?_
      refine g_iconst (v := nI 0) (pc := 27) dL_decoded_27 rfl ?_
      refine g_iret (pc := 28) dL_decoded_28 rfl rfl ?_
      exact ⟨J, ⟨rfl, rfl⟩, hP⟩
  · obtain ⟨J, ⟨q1, rfl⟩, hP⟩ := q
    cases o with
    | inl w =>
      have q2 : (Sum.inr X : Option Value ⊕ String) = .inl (some (.int w)) := q1
      cases q2
    | inr k =>
      have q2 : (Sum.inr X : Option Value ⊕ String) = .inr (List.getD ["java/lang/IndexOutOfBoundsException", "java/lang/IllegalArgumentException", "java/util/NoSuchElementException"] k "") := q1
      have eX := Sum.inr.inj q2
      subst eX
      have hk := ho k rfl
      rcases (by omega : k = 0 ∨ k = 1 ∨ k = 2) with z | z | z <;> subst z
      · refine ⟨15, 5, 17, hd_decoded_0, ⟨by decide, Or.inl ⟨dL_decoded_15, rfl⟩⟩, ?_⟩
        refine g_iconst (v := nI 1) (pc := 17) dL_decoded_17 rfl ?_
        refine g_iret (pc := 18) dL_decoded_18 rfl rfl ?_
        exact ⟨J, ⟨rfl, rfl⟩, hP⟩
      · refine ⟨19, 5, 21, hd_decoded_1, ⟨by decide, Or.inl ⟨dL_decoded_19, rfl⟩⟩, ?_⟩
        refine g_iconst (v := nI 2) (pc := 21) dL_decoded_21 rfl ?_
        refine g_iret (pc := 22) dL_decoded_22 rfl rfl ?_
        exact ⟨J, ⟨rfl, rfl⟩, hP⟩
      · refine ⟨23, 5, 25, hd_decoded_2, ⟨by decide, Or.inl ⟨dL_decoded_23, rfl⟩⟩, ?_⟩
        refine g_iconst (v := nI 3) (pc := 25) dL_decoded_25 rfl ?_
        refine g_iret (pc := 26) dL_decoded_26 rfl rfl ?_
        exact ⟨J, ⟨rfl, rfl⟩, hP⟩
theorem hd_found_0 : gHd YL_found 7 "java/lang/IndexOutOfBoundsException" 15 := ⟨by decide +kernel, [], ⟨0, 12, 15, 30⟩, [⟨0, 12, 19, 24⟩], "java/lang/IndexOutOfBoundsException", rfl, (fun z hz => by cases hz), rfl, by decide, by decide +kernel, by decide +kernel, rfl⟩
theorem hd_found_1 : gHd YL_found 7 "java/util/NoSuchElementException" 19 := ⟨by decide +kernel, [⟨0, 12, 15, 30⟩], ⟨0, 12, 19, 24⟩, [], "java/util/NoSuchElementException", rfl, (fun z hz => by
  simp only [List.mem_cons, List.not_mem_nil, or_false] at hz
  rcases hz with rfl
  · exact Or.inr ⟨by decide, "java/lang/IndexOutOfBoundsException", by decide +kernel, by decide +kernel⟩), rfl, by decide, by decide +kernel, by decide +kernel, rfl⟩
theorem w_found {a b c : Int32} {o : Int32 ⊕ Nat} (ho : ∀ k, o = .inr k → k < 2) (h : gX G YX2_found 20 [.ref 3, .int a, .int b, .int c] n I L D (oV ["java/lang/IndexOutOfBoundsException", "java/util/NoSuchElementException"] o) P) : gEv G YL_found 21 [.ref 3, .int a, .int b, .int c, .ref 131] (hp n I L D) 1 6 (wQ n (wL L o) D o P) := by
  refine g_aload (pc := 0) dL_found_0 rfl ?_
  refine g_iconst (v := nI 0) (pc := 2) dL_found_2 rfl ?_
  refine g_aload_n (pc := 3) dL_found_3 rfl rfl ?_
  refine g_iload_n (pc := 4) dL_found_4 rfl rfl ?_
  refine g_iload_n (pc := 5) dL_found_5 rfl rfl ?_
  refine g_iload_n (pc := 6) dL_found_6 rfl rfl ?_
  refine g_callV (av := [.int a, .int b, .int c]) (st := [.int (nI 0), .ref 131]) (ci := 2) (pc := 7) dL_found_7 mt_X2_found lk_L_74 im_X2_found se_X2_found (by decide) s_3 (by decide) rfl np_X2_found (gc_i (gc_i (gc_i gc_0))) (Nat.le_of_ble_eq_true rfl) (Nat.le_of_ble_eq_true rfl) ⟨Nat.le_refl _, Nat.le_refl _⟩ h (fun v' h9 _ q => ?_) (fun X h9 q => ?_)
  · obtain ⟨J, ⟨q1, rfl⟩, hP⟩ := q
    cases o with
    | inr k =>
      have q2 : (Sum.inl v' : Option Value ⊕ String) = .inr (List.getD ["java/lang/IndexOutOfBoundsException", "java/util/NoSuchElementException"] k "") := q1
      cases q2
    | inl w =>
      have q2 : (Sum.inl v' : Option Value ⊕ String) = .inl (some (.int w)) := q1
      cases q2
      refine g_i2l (pc := 10) dL_found_10 ?_
      refine g_lastore (pc := 11) dL_found_11 s_131 (by decide) (vp_in_nI (by decide) (by decide)) ?_
      refine g_goto (tgt := 23) (pc := 12) dL_found_12 (by decide) ?_
      refine g_iconst (v := nI 0) (pc := 23) dL_found_23 rfl ?_
      refine g_iret (pc := 24) dL_found_24 rfl rfl ?_
      exact ⟨J, ⟨rfl, rfl⟩, hP⟩
  · obtain ⟨J, ⟨q1, rfl⟩, hP⟩ := q
    cases o with
    | inl w =>
      have q2 : (Sum.inr X : Option Value ⊕ String) = .inl (some (.int w)) := q1
      cases q2
    | inr k =>
      have q2 : (Sum.inr X : Option Value ⊕ String) = .inr (List.getD ["java/lang/IndexOutOfBoundsException", "java/util/NoSuchElementException"] k "") := q1
      have eX := Sum.inr.inj q2
      subst eX
      have hk := ho k rfl
      rcases (by omega : k = 0 ∨ k = 1) with z | z <;> subst z
      · refine ⟨15, 5, 17, hd_found_0, ⟨by decide, Or.inl ⟨dL_found_15, rfl⟩⟩, ?_⟩
        refine g_iconst (v := nI 1) (pc := 17) dL_found_17 rfl ?_
        refine g_iret (pc := 18) dL_found_18 rfl rfl ?_
        exact ⟨J, ⟨rfl, rfl⟩, hP⟩
      · refine ⟨19, 5, 21, hd_found_1, ⟨by decide, Or.inl ⟨dL_found_19, rfl⟩⟩, ?_⟩
        refine g_iconst (v := nI 2) (pc := 21) dL_found_21 rfl ?_
        refine g_iret (pc := 22) dL_found_22 rfl rfl ?_
        exact ⟨J, ⟨rfl, rfl⟩, hP⟩
theorem hd_read_0 : gHd YL_read 5 "java/lang/IndexOutOfBoundsException" 13 := ⟨by decide +kernel, [], ⟨0, 10, 13, 30⟩, [⟨0, 10, 17, 24⟩], "java/lang/IndexOutOfBoundsException", rfl, (fun z hz => by cases hz), rfl, by decide, by decide +kernel, by decide +kernel, rfl⟩
theorem hd_read_1 : gHd YL_read 5 "java/util/NoSuchElementException" 17 := ⟨by decide +kernel, [⟨0, 10, 13, 30⟩], ⟨0, 10, 17, 24⟩, [], "java/util/NoSuchElementException", rfl, (fun z hz => by
  simp only [List.mem_cons, List.not_mem_nil, or_false] at hz
  rcases hz with rfl
  · exact Or.inr ⟨by decide, "java/lang/IndexOutOfBoundsException", by decide +kernel, by decide +kernel⟩), rfl, by decide, by decide +kernel, by decide +kernel, rfl⟩
theorem w_read {a b : Int32} {o : Int32 ⊕ Nat} (ho : ∀ k, o = .inr k → k < 2) (h : gX G YX2_read 20 [.ref 3, .int a, .int b] n I L D (oV ["java/lang/IndexOutOfBoundsException", "java/util/NoSuchElementException"] o) P) : gEv G YL_read 21 [.ref 3, .int a, .int b, .ref 131] (hp n I L D) 1 6 (wQ n (wL L o) D o P) := by
  refine g_aload_n (pc := 0) dL_read_0 rfl rfl ?_
  refine g_iconst (v := nI 0) (pc := 1) dL_read_1 rfl ?_
  refine g_aload_n (pc := 2) dL_read_2 rfl rfl ?_
  refine g_iload_n (pc := 3) dL_read_3 rfl rfl ?_
  refine g_iload_n (pc := 4) dL_read_4 rfl rfl ?_
  refine g_callV (av := [.int a, .int b]) (st := [.int (nI 0), .ref 131]) (ci := 2) (pc := 5) dL_read_5 mt_X2_read lk_L_77 im_X2_read se_X2_read (by decide) s_3 (by decide) rfl np_X2_read (gc_i (gc_i gc_0)) (Nat.le_of_ble_eq_true rfl) (Nat.le_of_ble_eq_true rfl) ⟨Nat.le_refl _, Nat.le_refl _⟩ h (fun v' h9 _ q => ?_) (fun X h9 q => ?_)
  · obtain ⟨J, ⟨q1, rfl⟩, hP⟩ := q
    cases o with
    | inr k =>
      have q2 : (Sum.inl v' : Option Value ⊕ String) = .inr (List.getD ["java/lang/IndexOutOfBoundsException", "java/util/NoSuchElementException"] k "") := q1
      cases q2
    | inl w =>
      have q2 : (Sum.inl v' : Option Value ⊕ String) = .inl (some (.int w)) := q1
      cases q2
      refine g_i2l (pc := 8) dL_read_8 ?_
      refine g_lastore (pc := 9) dL_read_9 s_131 (by decide) (vp_in_nI (by decide) (by decide)) ?_
      refine g_goto (tgt := 21) (pc := 10) dL_read_10 (by decide) ?_
      refine g_iconst (v := nI 0) (pc := 21) dL_read_21 rfl ?_
      refine g_iret (pc := 22) dL_read_22 rfl rfl ?_
      exact ⟨J, ⟨rfl, rfl⟩, hP⟩
  · obtain ⟨J, ⟨q1, rfl⟩, hP⟩ := q
    cases o with
    | inl w =>
      have q2 : (Sum.inr X : Option Value ⊕ String) = .inl (some (.int w)) := q1
      cases q2
    | inr k =>
      have q2 : (Sum.inr X : Option Value ⊕ String) = .inr (List.getD ["java/lang/IndexOutOfBoundsException", "java/util/NoSuchElementException"] k "") := q1
      have eX := Sum.inr.inj q2
      subst eX
      have hk := ho k rfl
      rcases (by omega : k = 0 ∨ k = 1) with z | z <;> subst z
      · refine ⟨13, 4, 15, hd_read_0, ⟨by decide, Or.inl ⟨dL_read_13, rfl⟩⟩, ?_⟩
        refine g_iconst (v := nI 1) (pc := 15) dL_read_15 rfl ?_
        refine g_iret (pc := 16) dL_read_16 rfl rfl ?_
        exact ⟨J, ⟨rfl, rfl⟩, hP⟩
      · refine ⟨17, 4, 19, hd_read_1, ⟨by decide, Or.inl ⟨dL_read_17, rfl⟩⟩, ?_⟩
        refine g_iconst (v := nI 2) (pc := 19) dL_read_19 rfl ?_
        refine g_iret (pc := 20) dL_read_20 rfl rfl ?_
        exact ⟨J, ⟨rfl, rfl⟩, hP⟩
theorem hd_condition_0 : gHd YL_condition 4 "java/lang/IndexOutOfBoundsException" 12 := ⟨by decide +kernel, [], ⟨0, 9, 12, 30⟩, [], "java/lang/IndexOutOfBoundsException", rfl, (fun z hz => by cases hz), rfl, by decide, by decide +kernel, by decide +kernel, rfl⟩
theorem w_condition {a : Int32} {o : Int32 ⊕ Nat} (ho : ∀ k, o = .inr k → k < 1) (h : gX G YX2_condition 20 [.ref 3, .int a] n I L D (oV ["java/lang/IndexOutOfBoundsException"] o) P) : gEv G YL_condition 21 [.ref 3, .int a, .ref 131] (hp n I L D) 1 6 (wQ n (wL L o) D o P) := by
  refine g_aload_n (pc := 0) dL_condition_0 rfl rfl ?_
  refine g_iconst (v := nI 0) (pc := 1) dL_condition_1 rfl ?_
  refine g_aload_n (pc := 2) dL_condition_2 rfl rfl ?_
  refine g_iload_n (pc := 3) dL_condition_3 rfl rfl ?_
  refine g_callV (av := [.int a]) (st := [.int (nI 0), .ref 131]) (ci := 2) (pc := 4) dL_condition_4 mt_X2_condition lk_L_80 im_X2_condition se_X2_condition (by decide) s_3 (by decide) rfl np_X2_condition (gc_i gc_0) (Nat.le_of_ble_eq_true rfl) (Nat.le_of_ble_eq_true rfl) ⟨Nat.le_refl _, Nat.le_refl _⟩ h (fun v' h9 _ q => ?_) (fun X h9 q => ?_)
  · obtain ⟨J, ⟨q1, rfl⟩, hP⟩ := q
    cases o with
    | inr k =>
      have q2 : (Sum.inl v' : Option Value ⊕ String) = .inr (List.getD ["java/lang/IndexOutOfBoundsException"] k "") := q1
      cases q2
    | inl w =>
      have q2 : (Sum.inl v' : Option Value ⊕ String) = .inl (some (.int w)) := q1
      cases q2
      refine g_i2l (pc := 7) dL_condition_7 ?_
      refine g_lastore (pc := 8) dL_condition_8 s_131 (by decide) (vp_in_nI (by decide) (by decide)) ?_
      refine g_goto (tgt := 15) (pc := 9) dL_condition_9 (by decide) ?_
      refine g_iconst (v := nI 0) (pc := 15) dL_condition_15 rfl ?_
      refine g_iret (pc := 16) dL_condition_16 rfl rfl ?_
      exact ⟨J, ⟨rfl, rfl⟩, hP⟩
  · obtain ⟨J, ⟨q1, rfl⟩, hP⟩ := q
    cases o with
    | inl w =>
      have q2 : (Sum.inr X : Option Value ⊕ String) = .inl (some (.int w)) := q1
      cases q2
    | inr k =>
      have q2 : (Sum.inr X : Option Value ⊕ String) = .inr (List.getD ["java/lang/IndexOutOfBoundsException"] k "") := q1
      have eX := Sum.inr.inj q2
      subst eX
      have hk := ho k rfl
      have z : k = 0 := by omega
      subst z
      refine ⟨12, 3, 13, hd_condition_0, ⟨by decide, Or.inr ⟨3, dL_condition_12, rfl, rfl⟩⟩, ?_⟩
      refine g_iconst (v := nI 1) (pc := 13) dL_condition_13 rfl ?_
      refine g_iret (pc := 14) dL_condition_14 rfl rfl ?_
      exact ⟨J, ⟨rfl, rfl⟩, hP⟩
theorem hd_undecodable_0 : gHd YL_undecodable 4 "java/lang/IndexOutOfBoundsException" 12 := ⟨by decide +kernel, [], ⟨0, 9, 12, 30⟩, [], "java/lang/IndexOutOfBoundsException", rfl, (fun z hz => by cases hz), rfl, by decide, by decide +kernel, by decide +kernel, rfl⟩
theorem w_undecodable {a : Int32} {o : Int32 ⊕ Nat} (ho : ∀ k, o = .inr k → k < 1) (h : gX G YX2_undecodable 20 [.ref 3, .int a] n I L D (oV ["java/lang/IndexOutOfBoundsException"] o) P) : gEv G YL_undecodable 21 [.ref 3, .int a, .ref 131] (hp n I L D) 1 6 (wQ n (wL L o) D o P) := by
  refine g_aload_n (pc := 0) dL_undecodable_0 rfl rfl ?_
  refine g_iconst (v := nI 0) (pc := 1) dL_undecodable_1 rfl ?_
  refine g_aload_n (pc := 2) dL_undecodable_2 rfl rfl ?_
  refine g_iload_n (pc := 3) dL_undecodable_3 rfl rfl ?_
  refine g_callV (av := [.int a]) (st := [.int (nI 0), .ref 131]) (ci := 2) (pc := 4) dL_undecodable_4 mt_X2_undecodable lk_L_83 im_X2_undecodable se_X2_undecodable (by decide) s_3 (by decide) rfl np_X2_undecodable (gc_i gc_0) (Nat.le_of_ble_eq_true rfl) (Nat.le_of_ble_eq_true rfl) ⟨Nat.le_refl _, Nat.le_refl _⟩ h (fun v' h9 _ q => ?_) (fun X h9 q => ?_)
  · obtain ⟨J, ⟨q1, rfl⟩, hP⟩ := q
    cases o with
    | inr k =>
      have q2 : (Sum.inl v' : Option Value ⊕ String) = .inr (List.getD ["java/lang/IndexOutOfBoundsException"] k "") := q1
      cases q2
    | inl w =>
      have q2 : (Sum.inl v' : Option Value ⊕ String) = .inl (some (.int w)) := q1
      cases q2
      refine g_i2l (pc := 7) dL_undecodable_7 ?_
      refine g_lastore (pc := 8) dL_undecodable_8 s_131 (by decide) (vp_in_nI (by decide) (by decide)) ?_
      refine g_goto (tgt := 15) (pc := 9) dL_undecodable_9 (by decide) ?_
      refine g_iconst (v := nI 0) (pc := 15) dL_undecodable_15 rfl ?_
      refine g_iret (pc := 16) dL_undecodable_16 rfl rfl ?_
      exact ⟨J, ⟨rfl, rfl⟩, hP⟩
  · obtain ⟨J, ⟨q1, rfl⟩, hP⟩ := q
    cases o with
    | inl w =>
      have q2 : (Sum.inr X : Option Value ⊕ String) = .inl (some (.int w)) := q1
      cases q2
    | inr k =>
      have q2 : (Sum.inr X : Option Value ⊕ String) = .inr (List.getD ["java/lang/IndexOutOfBoundsException"] k "") := q1
      have eX := Sum.inr.inj q2
      subst eX
      have hk := ho k rfl
      have z : k = 0 := by omega
      subst z
      refine ⟨12, 3, 13, hd_undecodable_0, ⟨by decide, Or.inr ⟨3, dL_undecodable_12, rfl, rfl⟩⟩, ?_⟩
      refine g_iconst (v := nI 1) (pc := 13) dL_undecodable_13 rfl ?_
      refine g_iret (pc := 14) dL_undecodable_14 rfl rfl ?_
      exact ⟨J, ⟨rfl, rfl⟩, hP⟩
theorem hd_margin_0 : gHd YL_margin 5 "java/lang/IndexOutOfBoundsException" 13 := ⟨by decide +kernel, [], ⟨0, 10, 13, 30⟩, [⟨0, 10, 17, 24⟩], "java/lang/IndexOutOfBoundsException", rfl, (fun z hz => by cases hz), rfl, by decide, by decide +kernel, by decide +kernel, rfl⟩
theorem hd_margin_1 : gHd YL_margin 5 "java/util/NoSuchElementException" 17 := ⟨by decide +kernel, [⟨0, 10, 13, 30⟩], ⟨0, 10, 17, 24⟩, [], "java/util/NoSuchElementException", rfl, (fun z hz => by
  simp only [List.mem_cons, List.not_mem_nil, or_false] at hz
  rcases hz with rfl
  · exact Or.inr ⟨by decide, "java/lang/IndexOutOfBoundsException", by decide +kernel, by decide +kernel⟩), rfl, by decide, by decide +kernel, by decide +kernel, rfl⟩
theorem w_margin {a b : Int32} {o : Int32 ⊕ Nat} (ho : ∀ k, o = .inr k → k < 2) (h : gX G YX2_margin 20 [.ref 3, .int a, .int b] n I L D (oV ["java/lang/IndexOutOfBoundsException", "java/util/NoSuchElementException"] o) P) : gEv G YL_margin 21 [.ref 3, .int a, .int b, .ref 131] (hp n I L D) 1 6 (wQ n (wL L o) D o P) := by
  refine g_aload_n (pc := 0) dL_margin_0 rfl rfl ?_
  refine g_iconst (v := nI 0) (pc := 1) dL_margin_1 rfl ?_
  refine g_aload_n (pc := 2) dL_margin_2 rfl rfl ?_
  refine g_iload_n (pc := 3) dL_margin_3 rfl rfl ?_
  refine g_iload_n (pc := 4) dL_margin_4 rfl rfl ?_
  refine g_callV (av := [.int a, .int b]) (st := [.int (nI 0), .ref 131]) (ci := 2) (pc := 5) dL_margin_5 mt_X2_margin lk_L_86 im_X2_margin se_X2_margin (by decide) s_3 (by decide) rfl np_X2_margin (gc_i (gc_i gc_0)) (Nat.le_of_ble_eq_true rfl) (Nat.le_of_ble_eq_true rfl) ⟨Nat.le_refl _, Nat.le_refl _⟩ h (fun v' h9 _ q => ?_) (fun X h9 q => ?_)
  · obtain ⟨J, ⟨q1, rfl⟩, hP⟩ := q
    cases o with
    | inr k =>
      have q2 : (Sum.inl v' : Option Value ⊕ String) = .inr (List.getD ["java/lang/IndexOutOfBoundsException", "java/util/NoSuchElementException"] k "") := q1
      cases q2
    | inl w =>
      have q2 : (Sum.inl v' : Option Value ⊕ String) = .inl (some (.int w)) := q1
      cases q2
      refine g_i2l (pc := 8) dL_margin_8 ?_
      refine g_lastore (pc := 9) dL_margin_9 s_131 (by decide) (vp_in_nI (by decide) (by decide)) ?_
      refine g_goto (tgt := 21) (pc := 10) dL_margin_10 (by decide) ?_
      refine g_iconst (v := nI 0) (pc := 21) dL_margin_21 rfl ?_
      refine g_iret (pc := 22) dL_margin_22 rfl rfl ?_
      exact ⟨J, ⟨rfl, rfl⟩, hP⟩
  · obtain ⟨J, ⟨q1, rfl⟩, hP⟩ := q
    cases o with
    | inl w =>
      have q2 : (Sum.inr X : Option Value ⊕ String) = .inl (some (.int w)) := q1
      cases q2
    | inr k =>
      have q2 : (Sum.inr X : Option Value ⊕ String) = .inr (List.getD ["java/lang/IndexOutOfBoundsException", "java/util/NoSuchElementException"] k "") := q1
      have eX := Sum.inr.inj q2
      subst eX
      have hk := ho k rfl
      rcases (by omega : k = 0 ∨ k = 1) with z | z <;> subst z
      · refine ⟨13, 4, 15, hd_margin_0, ⟨by decide, Or.inl ⟨dL_margin_13, rfl⟩⟩, ?_⟩
        refine g_iconst (v := nI 1) (pc := 15) dL_margin_15 rfl ?_
        refine g_iret (pc := 16) dL_margin_16 rfl rfl ?_
        exact ⟨J, ⟨rfl, rfl⟩, hP⟩
      · refine ⟨17, 4, 19, hd_margin_1, ⟨by decide, Or.inl ⟨dL_margin_17, rfl⟩⟩, ?_⟩
        refine g_iconst (v := nI 2) (pc := 19) dL_margin_19 rfl ?_
        refine g_iret (pc := 20) dL_margin_20 rfl rfl ?_
        exact ⟨J, ⟨rfl, rfl⟩, hP⟩
theorem hd_burstLimit_0 : gHd YL_burstLimit 4 "java/lang/IndexOutOfBoundsException" 12 := ⟨by decide +kernel, [], ⟨0, 9, 12, 30⟩, [], "java/lang/IndexOutOfBoundsException", rfl, (fun z hz => by cases hz), rfl, by decide, by decide +kernel, by decide +kernel, rfl⟩
theorem w_burstLimit {a : Int32} {o : Int32 ⊕ Nat} (ho : ∀ k, o = .inr k → k < 1) (h : gX G YX2_burstLimit 20 [.ref 3, .int a] n I L D (oV ["java/lang/IndexOutOfBoundsException"] o) P) : gEv G YL_burstLimit 21 [.ref 3, .int a, .ref 131] (hp n I L D) 1 6 (wQ n (wL L o) D o P) := by
  refine g_aload_n (pc := 0) dL_burstLimit_0 rfl rfl ?_
  refine g_iconst (v := nI 0) (pc := 1) dL_burstLimit_1 rfl ?_
  refine g_aload_n (pc := 2) dL_burstLimit_2 rfl rfl ?_
  refine g_iload_n (pc := 3) dL_burstLimit_3 rfl rfl ?_
  refine g_callV (av := [.int a]) (st := [.int (nI 0), .ref 131]) (ci := 2) (pc := 4) dL_burstLimit_4 mt_X2_burstLimit lk_L_89 im_X2_burstLimit se_X2_burstLimit (by decide) s_3 (by decide) rfl np_X2_burstLimit (gc_i gc_0) (Nat.le_of_ble_eq_true rfl) (Nat.le_of_ble_eq_true rfl) ⟨Nat.le_refl _, Nat.le_refl _⟩ h (fun v' h9 _ q => ?_) (fun X h9 q => ?_)
  · obtain ⟨J, ⟨q1, rfl⟩, hP⟩ := q
    cases o with
    | inr k =>
      have q2 : (Sum.inl v' : Option Value ⊕ String) = .inr (List.getD ["java/lang/IndexOutOfBoundsException"] k "") := q1
      cases q2
    | inl w =>
      have q2 : (Sum.inl v' : Option Value ⊕ String) = .inl (some (.int w)) := q1
      cases q2
      refine g_i2l (pc := 7) dL_burstLimit_7 ?_
      refine g_lastore (pc := 8) dL_burstLimit_8 s_131 (by decide) (vp_in_nI (by decide) (by decide)) ?_
      refine g_goto (tgt := 15) (pc := 9) dL_burstLimit_9 (by decide) ?_
      refine g_iconst (v := nI 0) (pc := 15) dL_burstLimit_15 rfl ?_
      refine g_iret (pc := 16) dL_burstLimit_16 rfl rfl ?_
      exact ⟨J, ⟨rfl, rfl⟩, hP⟩
  · obtain ⟨J, ⟨q1, rfl⟩, hP⟩ := q
    cases o with
    | inl w =>
      have q2 : (Sum.inr X : Option Value ⊕ String) = .inl (some (.int w)) := q1
      cases q2
    | inr k =>
      have q2 : (Sum.inr X : Option Value ⊕ String) = .inr (List.getD ["java/lang/IndexOutOfBoundsException"] k "") := q1
      have eX := Sum.inr.inj q2
      subst eX
      have hk := ho k rfl
      have z : k = 0 := by omega
      subst z
      refine ⟨12, 3, 13, hd_burstLimit_0, ⟨by decide, Or.inr ⟨3, dL_burstLimit_12, rfl, rfl⟩⟩, ?_⟩
      refine g_iconst (v := nI 1) (pc := 13) dL_burstLimit_13 rfl ?_
      refine g_iret (pc := 14) dL_burstLimit_14 rfl rfl ?_
      exact ⟨J, ⟨rfl, rfl⟩, hP⟩
theorem hd_advance_0 : gHd YL_advance 4 "java/lang/IllegalArgumentException" 12 := ⟨by decide +kernel, [], ⟨0, 9, 12, 13⟩, [⟨0, 9, 15, 15⟩], "java/lang/IllegalArgumentException", rfl, (fun z hz => by cases hz), rfl, by decide, by decide +kernel, by decide +kernel, rfl⟩
theorem hd_advance_1 : gHd YL_advance 4 "java/lang/IllegalStateException" 15 := ⟨by decide +kernel, [⟨0, 9, 12, 13⟩], ⟨0, 9, 15, 15⟩, [], "java/lang/IllegalStateException", rfl, (fun z hz => by
  simp only [List.mem_cons, List.not_mem_nil, or_false] at hz
  rcases hz with rfl
  · exact Or.inr ⟨by decide, "java/lang/IllegalArgumentException", by decide +kernel, by decide +kernel⟩), rfl, by decide, by decide +kernel, by decide +kernel, rfl⟩
theorem w_advance {a : Int32} {o : Int32 ⊕ Nat} (ho : ∀ k, o = .inr k → k < 2) (h : gX G YX2_advance 20 [.ref 3, .int a] n I L D (oV ["java/lang/IllegalArgumentException", "java/lang/IllegalStateException"] o) P) : gEv G YL_advance 21 [.ref 3, .int a, .ref 131] (hp n I L D) 1 6 (wQ n (wL L o) D o P) := by
  refine g_aload_n (pc := 0) dL_advance_0 rfl rfl ?_
  refine g_iconst (v := nI 0) (pc := 1) dL_advance_1 rfl ?_
  refine g_aload_n (pc := 2) dL_advance_2 rfl rfl ?_
  refine g_iload_n (pc := 3) dL_advance_3 rfl rfl ?_
  refine g_callV (av := [.int a]) (st := [.int (nI 0), .ref 131]) (ci := 2) (pc := 4) dL_advance_4 mt_X2_advance lk_L_92 im_X2_advance se_X2_advance (by decide) s_3 (by decide) rfl np_X2_advance (gc_i gc_0) (Nat.le_of_ble_eq_true rfl) (Nat.le_of_ble_eq_true rfl) ⟨Nat.le_refl _, Nat.le_refl _⟩ h (fun v' h9 _ q => ?_) (fun X h9 q => ?_)
  · obtain ⟨J, ⟨q1, rfl⟩, hP⟩ := q
    cases o with
    | inr k =>
      have q2 : (Sum.inl v' : Option Value ⊕ String) = .inr (List.getD ["java/lang/IllegalArgumentException", "java/lang/IllegalStateException"] k "") := q1
      cases q2
    | inl w =>
      have q2 : (Sum.inl v' : Option Value ⊕ String) = .inl (some (.int w)) := q1
      cases q2
      refine g_i2l (pc := 7) dL_advance_7 ?_
      refine g_lastore (pc := 8) dL_advance_8 s_131 (by decide) (vp_in_nI (by decide) (by decide)) ?_
      refine g_goto (tgt := 18) (pc := 9) dL_advance_9 (by decide) ?_
      refine g_iconst (v := nI 0) (pc := 18) dL_advance_18 rfl ?_
      refine g_iret (pc := 19) dL_advance_19 rfl rfl ?_
      exact ⟨J, ⟨rfl, rfl⟩, hP⟩
  · obtain ⟨J, ⟨q1, rfl⟩, hP⟩ := q
    cases o with
    | inl w =>
      have q2 : (Sum.inr X : Option Value ⊕ String) = .inl (some (.int w)) := q1
      cases q2
    | inr k =>
      have q2 : (Sum.inr X : Option Value ⊕ String) = .inr (List.getD ["java/lang/IllegalArgumentException", "java/lang/IllegalStateException"] k "") := q1
      have eX := Sum.inr.inj q2
      subst eX
      have hk := ho k rfl
      rcases (by omega : k = 0 ∨ k = 1) with z | z <;> subst z
      · refine ⟨12, 3, 13, hd_advance_0, ⟨by decide, Or.inr ⟨3, dL_advance_12, rfl, rfl⟩⟩, ?_⟩
        refine g_iconst (v := nI 1) (pc := 13) dL_advance_13 rfl ?_
        refine g_iret (pc := 14) dL_advance_14 rfl rfl ?_
        exact ⟨J, ⟨rfl, rfl⟩, hP⟩
      · refine ⟨15, 3, 16, hd_advance_1, ⟨by decide, Or.inr ⟨3, dL_advance_15, rfl, rfl⟩⟩, ?_⟩
        refine g_iconst (v := nI 2) (pc := 16) dL_advance_16 rfl ?_
        refine g_iret (pc := 17) dL_advance_17 rfl rfl ?_
        exact ⟨J, ⟨rfl, rfl⟩, hP⟩
theorem hd_scrub_0 : gHd YL_scrub 4 "java/lang/IllegalArgumentException" 12 := ⟨by decide +kernel, [], ⟨0, 9, 12, 13⟩, [], "java/lang/IllegalArgumentException", rfl, (fun z hz => by cases hz), rfl, by decide, by decide +kernel, by decide +kernel, rfl⟩
theorem w_scrub {a : Int32} {o : Int32 ⊕ Nat} (ho : ∀ k, o = .inr k → k < 1) (h : gX G YX2_scrub 20 [.ref 3, .int a] n I L D (oV ["java/lang/IllegalArgumentException"] o) P) : gEv G YL_scrub 21 [.ref 3, .int a, .ref 131] (hp n I L D) 1 6 (wQ n (wL L o) D o P) := by
  refine g_aload_n (pc := 0) dL_scrub_0 rfl rfl ?_
  refine g_iconst (v := nI 0) (pc := 1) dL_scrub_1 rfl ?_
  refine g_aload_n (pc := 2) dL_scrub_2 rfl rfl ?_
  refine g_iload_n (pc := 3) dL_scrub_3 rfl rfl ?_
  refine g_callV (av := [.int a]) (st := [.int (nI 0), .ref 131]) (ci := 2) (pc := 4) dL_scrub_4 mt_X2_scrub lk_L_95 im_X2_scrub se_X2_scrub (by decide) s_3 (by decide) rfl np_X2_scrub (gc_i gc_0) (Nat.le_of_ble_eq_true rfl) (Nat.le_of_ble_eq_true rfl) ⟨Nat.le_refl _, Nat.le_refl _⟩ h (fun v' h9 _ q => ?_) (fun X h9 q => ?_)
  · obtain ⟨J, ⟨q1, rfl⟩, hP⟩ := q
    cases o with
    | inr k =>
      have q2 : (Sum.inl v' : Option Value ⊕ String) = .inr (List.getD ["java/lang/IllegalArgumentException"] k "") := q1
      cases q2
    | inl w =>
      have q2 : (Sum.inl v' : Option Value ⊕ String) = .inl (some (.int w)) := q1
      cases q2
      refine g_i2l (pc := 7) dL_scrub_7 ?_
      refine g_lastore (pc := 8) dL_scrub_8 s_131 (by decide) (vp_in_nI (by decide) (by decide)) ?_
      refine g_goto (tgt := 15) (pc := 9) dL_scrub_9 (by decide) ?_
      refine g_iconst (v := nI 0) (pc := 15) dL_scrub_15 rfl ?_
      refine g_iret (pc := 16) dL_scrub_16 rfl rfl ?_
      exact ⟨J, ⟨rfl, rfl⟩, hP⟩
  · obtain ⟨J, ⟨q1, rfl⟩, hP⟩ := q
    cases o with
    | inl w =>
      have q2 : (Sum.inr X : Option Value ⊕ String) = .inl (some (.int w)) := q1
      cases q2
    | inr k =>
      have q2 : (Sum.inr X : Option Value ⊕ String) = .inr (List.getD ["java/lang/IllegalArgumentException"] k "") := q1
      have eX := Sum.inr.inj q2
      subst eX
      have hk := ho k rfl
      have z : k = 0 := by omega
      subst z
      refine ⟨12, 3, 13, hd_scrub_0, ⟨by decide, Or.inr ⟨3, dL_scrub_12, rfl, rfl⟩⟩, ?_⟩
      refine g_iconst (v := nI 1) (pc := 13) dL_scrub_13 rfl ?_
      refine g_iret (pc := 14) dL_scrub_14 rfl rfl ?_
      exact ⟨J, ⟨rfl, rfl⟩, hP⟩
theorem hd_report_0 : gHd YL_report 5 "java/lang/IndexOutOfBoundsException" 13 := ⟨by decide +kernel, [], ⟨0, 10, 13, 30⟩, [⟨0, 10, 17, 13⟩], "java/lang/IndexOutOfBoundsException", rfl, (fun z hz => by cases hz), rfl, by decide, by decide +kernel, by decide +kernel, rfl⟩
theorem hd_report_1 : gHd YL_report 5 "java/lang/IllegalArgumentException" 17 := ⟨by decide +kernel, [⟨0, 10, 13, 30⟩], ⟨0, 10, 17, 13⟩, [], "java/lang/IllegalArgumentException", rfl, (fun z hz => by
  simp only [List.mem_cons, List.not_mem_nil, or_false] at hz
  rcases hz with rfl
  · exact Or.inr ⟨by decide, "java/lang/IndexOutOfBoundsException", by decide +kernel, by decide +kernel⟩), rfl, by decide, by decide +kernel, by decide +kernel, rfl⟩
theorem w_report {a b : Int32} {o : Int32 ⊕ Nat} (ho : ∀ k, o = .inr k → k < 2) (h : gX G YX2_report 20 [.ref 3, .int a, .int b] n I L D (oV ["java/lang/IndexOutOfBoundsException", "java/lang/IllegalArgumentException"] o) P) : gEv G YL_report 21 [.ref 3, .int a, .int b, .ref 131] (hp n I L D) 1 6 (wQ n (wL L o) D o P) := by
  refine g_aload_n (pc := 0) dL_report_0 rfl rfl ?_
  refine g_iconst (v := nI 0) (pc := 1) dL_report_1 rfl ?_
  refine g_aload_n (pc := 2) dL_report_2 rfl rfl ?_
  refine g_iload_n (pc := 3) dL_report_3 rfl rfl ?_
  refine g_iload_n (pc := 4) dL_report_4 rfl rfl ?_
  refine g_callV (av := [.int a, .int b]) (st := [.int (nI 0), .ref 131]) (ci := 2) (pc := 5) dL_report_5 mt_X2_report lk_L_98 im_X2_report se_X2_report (by decide) s_3 (by decide) rfl np_X2_report (gc_i (gc_i gc_0)) (Nat.le_of_ble_eq_true rfl) (Nat.le_of_ble_eq_true rfl) ⟨Nat.le_refl _, Nat.le_refl _⟩ h (fun v' h9 _ q => ?_) (fun X h9 q => ?_)
  · obtain ⟨J, ⟨q1, rfl⟩, hP⟩ := q
    cases o with
    | inr k =>
      have q2 : (Sum.inl v' : Option Value ⊕ String) = .inr (List.getD ["java/lang/IndexOutOfBoundsException", "java/lang/IllegalArgumentException"] k "") := q1
      cases q2
    | inl w =>
      have q2 : (Sum.inl v' : Option Value ⊕ String) = .inl (some (.int w)) := q1
      cases q2
      refine g_i2l (pc := 8) dL_report_8 ?_
      refine g_lastore (pc := 9) dL_report_9 s_131 (by decide) (vp_in_nI (by decide) (by decide)) ?_
      refine g_goto (tgt := 21) (pc := 10) dL_report_10 (by decide) ?_
      refine g_iconst (v := nI 0) (pc := 21) dL_report_21 rfl ?_
      refine g_iret (pc := 22) dL_report_22 rfl rfl ?_
      exact ⟨J, ⟨rfl, rfl⟩, hP⟩
  · obtain ⟨J, ⟨q1, rfl⟩, hP⟩ := q
    cases o with
    | inl w =>
      have q2 : (Sum.inr X : Option Value ⊕ String) = .inl (some (.int w)) := q1
      cases q2
    | inr k =>
      have q2 : (Sum.inr X : Option Value ⊕ String) = .inr (List.getD ["java/lang/IndexOutOfBoundsException", "java/lang/IllegalArgumentException"] k "") := q1
      have eX := Sum.inr.inj q2
      subst eX
      have hk := ho k rfl
      rcases (by omega : k = 0 ∨ k = 1) with z | z <;> subst z
      · refine ⟨13, 4, 15, hd_report_0, ⟨by decide, Or.inl ⟨dL_report_13, rfl⟩⟩, ?_⟩
        refine g_iconst (v := nI 1) (pc := 15) dL_report_15 rfl ?_
        refine g_iret (pc := 16) dL_report_16 rfl rfl ?_
        exact ⟨J, ⟨rfl, rfl⟩, hP⟩
      · refine ⟨17, 4, 19, hd_report_1, ⟨by decide, Or.inl ⟨dL_report_17, rfl⟩⟩, ?_⟩
        refine g_iconst (v := nI 2) (pc := 19) dL_report_19 rfl ?_
        refine g_iret (pc := 20) dL_report_20 rfl rfl ?_
        exact ⟨J, ⟨rfl, rfl⟩, hP⟩
theorem hd_repair_0 : gHd YL_repair 5 "java/lang/IndexOutOfBoundsException" 13 := ⟨by decide +kernel, [], ⟨0, 10, 13, 30⟩, [⟨0, 10, 17, 104⟩], "java/lang/IndexOutOfBoundsException", rfl, (fun z hz => by cases hz), rfl, by decide, by decide +kernel, by decide +kernel, rfl⟩
theorem hd_repair_1 : gHd YL_repair 5 "java/lang/UnsupportedOperationException" 17 := ⟨by decide +kernel, [⟨0, 10, 13, 30⟩], ⟨0, 10, 17, 104⟩, [], "java/lang/UnsupportedOperationException", rfl, (fun z hz => by
  simp only [List.mem_cons, List.not_mem_nil, or_false] at hz
  rcases hz with rfl
  · exact Or.inr ⟨by decide, "java/lang/IndexOutOfBoundsException", by decide +kernel, by decide +kernel⟩), rfl, by decide, by decide +kernel, by decide +kernel, rfl⟩
theorem w_repair {a b : Int32} {o : Int32 ⊕ Nat} (ho : ∀ k, o = .inr k → k < 2) (h : gX G YX2_repair 20 [.ref 3, .int a, .int b] n I L D (oV ["java/lang/IndexOutOfBoundsException", "java/lang/UnsupportedOperationException"] o) P) : gEv G YL_repair 21 [.ref 3, .int a, .int b, .ref 131] (hp n I L D) 1 6 (wQ n (wL L o) D o P) := by
  refine g_aload_n (pc := 0) dL_repair_0 rfl rfl ?_
  refine g_iconst (v := nI 0) (pc := 1) dL_repair_1 rfl ?_
  refine g_aload_n (pc := 2) dL_repair_2 rfl rfl ?_
  refine g_iload_n (pc := 3) dL_repair_3 rfl rfl ?_
  refine g_iload_n (pc := 4) dL_repair_4 rfl rfl ?_
  refine g_callV (av := [.int a, .int b]) (st := [.int (nI 0), .ref 131]) (ci := 2) (pc := 5) dL_repair_5 mt_X2_repair lk_L_101 im_X2_repair se_X2_repair (by decide) s_3 (by decide) rfl np_X2_repair (gc_i (gc_i gc_0)) (Nat.le_of_ble_eq_true rfl) (Nat.le_of_ble_eq_true rfl) ⟨Nat.le_refl _, Nat.le_refl _⟩ h (fun v' h9 _ q => ?_) (fun X h9 q => ?_)
  · obtain ⟨J, ⟨q1, rfl⟩, hP⟩ := q
    cases o with
    | inr k =>
      have q2 : (Sum.inl v' : Option Value ⊕ String) = .inr (List.getD ["java/lang/IndexOutOfBoundsException", "java/lang/UnsupportedOperationException"] k "") := q1
      cases q2
    | inl w =>
      have q2 : (Sum.inl v' : Option Value ⊕ String) = .inl (some (.int w)) := q1
      cases q2
      refine g_i2l (pc := 8) dL_repair_8 ?_
      refine g_lastore (pc := 9) dL_repair_9 s_131 (by decide) (vp_in_nI (by decide) (by decide)) ?_
      refine g_goto (tgt := 21) (pc := 10) dL_repair_10 (by decide) ?_
      refine g_iconst (v := nI 0) (pc := 21) dL_repair_21 rfl ?_
      refine g_iret (pc := 22) dL_repair_22 rfl rfl ?_
      exact ⟨J, ⟨rfl, rfl⟩, hP⟩
  · obtain ⟨J, ⟨q1, rfl⟩, hP⟩ := q
    cases o with
    | inl w =>
      have q2 : (Sum.inr X : Option Value ⊕ String) = .inl (some (.int w)) := q1
      cases q2
    | inr k =>
      have q2 : (Sum.inr X : Option Value ⊕ String) = .inr (List.getD ["java/lang/IndexOutOfBoundsException", "java/lang/UnsupportedOperationException"] k "") := q1
      have eX := Sum.inr.inj q2
      subst eX
      have hk := ho k rfl
      rcases (by omega : k = 0 ∨ k = 1) with z | z <;> subst z
      · refine ⟨13, 4, 15, hd_repair_0, ⟨by decide, Or.inl ⟨dL_repair_13, rfl⟩⟩, ?_⟩
        refine g_iconst (v := nI 1) (pc := 15) dL_repair_15 rfl ?_
        refine g_iret (pc := 16) dL_repair_16 rfl rfl ?_
        exact ⟨J, ⟨rfl, rfl⟩, hP⟩
      · refine ⟨17, 4, 19, hd_repair_1, ⟨by decide, Or.inl ⟨dL_repair_17, rfl⟩⟩, ?_⟩
        refine g_iconst (v := nI 2) (pc := 19) dL_repair_19 rfl ?_
        refine g_iret (pc := 20) dL_repair_20 rfl rfl ?_
        exact ⟨J, ⟨rfl, rfl⟩, hP⟩
theorem hd_checked_0 : gHd YL_checked 5 "java/lang/IndexOutOfBoundsException" 13 := ⟨by decide +kernel, [], ⟨0, 10, 13, 30⟩, [], "java/lang/IndexOutOfBoundsException", rfl, (fun z hz => by cases hz), rfl, by decide, by decide +kernel, by decide +kernel, rfl⟩
theorem w_checked {a b : Int32} {o : Int32 ⊕ Nat} (ho : ∀ k, o = .inr k → k < 1) (h : gX G YX2_checked 20 [.ref 3, .int a, .int b] n I L D (oV ["java/lang/IndexOutOfBoundsException"] o) P) : gEv G YL_checked 21 [.ref 3, .int a, .int b, .ref 131] (hp n I L D) 1 6 (wQ n (wL L o) D o P) := by
  refine g_aload_n (pc := 0) dL_checked_0 rfl rfl ?_
  refine g_iconst (v := nI 0) (pc := 1) dL_checked_1 rfl ?_
  refine g_aload_n (pc := 2) dL_checked_2 rfl rfl ?_
  refine g_iload_n (pc := 3) dL_checked_3 rfl rfl ?_
  refine g_iload_n (pc := 4) dL_checked_4 rfl rfl ?_
  refine g_callV (av := [.int a, .int b]) (st := [.int (nI 0), .ref 131]) (ci := 2) (pc := 5) dL_checked_5 mt_X2_checked lk_L_106 im_X2_checked se_X2_checked (by decide) s_3 (by decide) rfl np_X2_checked (gc_i (gc_i gc_0)) (Nat.le_of_ble_eq_true rfl) (Nat.le_of_ble_eq_true rfl) ⟨Nat.le_refl _, Nat.le_refl _⟩ h (fun v' h9 _ q => ?_) (fun X h9 q => ?_)
  · obtain ⟨J, ⟨q1, rfl⟩, hP⟩ := q
    cases o with
    | inr k =>
      have q2 : (Sum.inl v' : Option Value ⊕ String) = .inr (List.getD ["java/lang/IndexOutOfBoundsException"] k "") := q1
      cases q2
    | inl w =>
      have q2 : (Sum.inl v' : Option Value ⊕ String) = .inl (some (.int w)) := q1
      cases q2
      refine g_i2l (pc := 8) dL_checked_8 ?_
      refine g_lastore (pc := 9) dL_checked_9 s_131 (by decide) (vp_in_nI (by decide) (by decide)) ?_
      refine g_goto (tgt := 17) (pc := 10) dL_checked_10 (by decide) ?_
      refine g_iconst (v := nI 0) (pc := 17) dL_checked_17 rfl ?_
      refine g_iret (pc := 18) dL_checked_18 rfl rfl ?_
      exact ⟨J, ⟨rfl, rfl⟩, hP⟩
  · obtain ⟨J, ⟨q1, rfl⟩, hP⟩ := q
    cases o with
    | inl w =>
      have q2 : (Sum.inr X : Option Value ⊕ String) = .inl (some (.int w)) := q1
      cases q2
    | inr k =>
      have q2 : (Sum.inr X : Option Value ⊕ String) = .inr (List.getD ["java/lang/IndexOutOfBoundsException"] k "") := q1
      have eX := Sum.inr.inj q2
      subst eX
      have hk := ho k rfl
      have z : k = 0 := by omega
      subst z
      refine ⟨13, 4, 15, hd_checked_0, ⟨by decide, Or.inl ⟨dL_checked_13, rfl⟩⟩, ?_⟩
      refine g_iconst (v := nI 1) (pc := 15) dL_checked_15 rfl ?_
      refine g_iret (pc := 16) dL_checked_16 rfl rfl ?_
      exact ⟨J, ⟨rfl, rfl⟩, hP⟩
theorem hd_nextToCheck_0 : gHd YL_nextToCheck 3 "java/util/NoSuchElementException" 11 := ⟨by decide +kernel, [], ⟨0, 8, 11, 24⟩, [], "java/util/NoSuchElementException", rfl, (fun z hz => by cases hz), rfl, by decide, by decide +kernel, by decide +kernel, rfl⟩
theorem w_nextToCheck {o : Int32 ⊕ Nat} (ho : ∀ k, o = .inr k → k < 1) (h : gX G YX2_nextToCheck 20 [.ref 3] n I L D (oV ["java/util/NoSuchElementException"] o) P) : gEv G YL_nextToCheck 21 [.ref 3, .ref 131] (hp n I L D) 1 6 (wQ n (wL L o) D o P) := by
  refine g_aload_n (pc := 0) dL_nextToCheck_0 rfl rfl ?_
  refine g_iconst (v := nI 0) (pc := 1) dL_nextToCheck_1 rfl ?_
  refine g_aload_n (pc := 2) dL_nextToCheck_2 rfl rfl ?_
  refine g_callV (av := []) (st := [.int (nI 0), .ref 131]) (ci := 2) (pc := 3) dL_nextToCheck_3 mt_X2_nextToCheck lk_L_109 im_X2_nextToCheck se_X2_nextToCheck (by decide) s_3 (by decide) rfl np_X2_nextToCheck gc_0 (Nat.le_of_ble_eq_true rfl) (Nat.le_of_ble_eq_true rfl) ⟨Nat.le_refl _, Nat.le_refl _⟩ h (fun v' h9 _ q => ?_) (fun X h9 q => ?_)
  · obtain ⟨J, ⟨q1, rfl⟩, hP⟩ := q
    cases o with
    | inr k =>
      have q2 : (Sum.inl v' : Option Value ⊕ String) = .inr (List.getD ["java/util/NoSuchElementException"] k "") := q1
      cases q2
    | inl w =>
      have q2 : (Sum.inl v' : Option Value ⊕ String) = .inl (some (.int w)) := q1
      cases q2
      refine g_i2l (pc := 6) dL_nextToCheck_6 ?_
      refine g_lastore (pc := 7) dL_nextToCheck_7 s_131 (by decide) (vp_in_nI (by decide) (by decide)) ?_
      refine g_goto (tgt := 14) (pc := 8) dL_nextToCheck_8 (by decide) ?_
      refine g_iconst (v := nI 0) (pc := 14) dL_nextToCheck_14 rfl ?_
      refine g_iret (pc := 15) dL_nextToCheck_15 rfl rfl ?_
      exact ⟨J, ⟨rfl, rfl⟩, hP⟩
  · obtain ⟨J, ⟨q1, rfl⟩, hP⟩ := q
    cases o with
    | inl w =>
      have q2 : (Sum.inr X : Option Value ⊕ String) = .inl (some (.int w)) := q1
      cases q2
    | inr k =>
      have q2 : (Sum.inr X : Option Value ⊕ String) = .inr (List.getD ["java/util/NoSuchElementException"] k "") := q1
      have eX := Sum.inr.inj q2
      subst eX
      have hk := ho k rfl
      have z : k = 0 := by omega
      subst z
      refine ⟨11, 2, 12, hd_nextToCheck_0, ⟨by decide, Or.inr ⟨2, dL_nextToCheck_11, rfl, rfl⟩⟩, ?_⟩
      refine g_iconst (v := nI 1) (pc := 12) dL_nextToCheck_12 rfl ?_
      refine g_iret (pc := 13) dL_nextToCheck_13 rfl rfl ?_
      exact ⟨J, ⟨rfl, rfl⟩, hP⟩
theorem hd_account_0 : gHd YL_account 4 "java/lang/IllegalArgumentException" 12 := ⟨by decide +kernel, [], ⟨0, 9, 12, 13⟩, [], "java/lang/IllegalArgumentException", rfl, (fun z hz => by cases hz), rfl, by decide, by decide +kernel, by decide +kernel, rfl⟩
theorem w_account {a : Int32} {o : Int32 ⊕ Nat} (ho : ∀ k, o = .inr k → k < 1) (h : gX G YX2_account 20 [.ref 3, .int a] n I L D (oV ["java/lang/IllegalArgumentException"] o) P) : gEv G YL_account 21 [.ref 3, .int a, .ref 131] (hp n I L D) 1 6 (wQ n (wL L o) D o P) := by
  refine g_aload_n (pc := 0) dL_account_0 rfl rfl ?_
  refine g_iconst (v := nI 0) (pc := 1) dL_account_1 rfl ?_
  refine g_aload_n (pc := 2) dL_account_2 rfl rfl ?_
  refine g_iload_n (pc := 3) dL_account_3 rfl rfl ?_
  refine g_callV (av := [.int a]) (st := [.int (nI 0), .ref 131]) (ci := 2) (pc := 4) dL_account_4 mt_X2_account lk_L_112 im_X2_account se_X2_account (by decide) s_3 (by decide) rfl np_X2_account (gc_i gc_0) (Nat.le_of_ble_eq_true rfl) (Nat.le_of_ble_eq_true rfl) ⟨Nat.le_refl _, Nat.le_refl _⟩ h (fun v' h9 _ q => ?_) (fun X h9 q => ?_)
  · obtain ⟨J, ⟨q1, rfl⟩, hP⟩ := q
    cases o with
    | inr k =>
      have q2 : (Sum.inl v' : Option Value ⊕ String) = .inr (List.getD ["java/lang/IllegalArgumentException"] k "") := q1
      cases q2
    | inl w =>
      have q2 : (Sum.inl v' : Option Value ⊕ String) = .inl (some (.int w)) := q1
      cases q2
      refine g_i2l (pc := 7) dL_account_7 ?_
      refine g_lastore (pc := 8) dL_account_8 s_131 (by decide) (vp_in_nI (by decide) (by decide)) ?_
      refine g_goto (tgt := 15) (pc := 9) dL_account_9 (by decide) ?_
      refine g_iconst (v := nI 0) (pc := 15) dL_account_15 rfl ?_
      refine g_iret (pc := 16) dL_account_16 rfl rfl ?_
      exact ⟨J, ⟨rfl, rfl⟩, hP⟩
  · obtain ⟨J, ⟨q1, rfl⟩, hP⟩ := q
    cases o with
    | inl w =>
      have q2 : (Sum.inr X : Option Value ⊕ String) = .inl (some (.int w)) := q1
      cases q2
    | inr k =>
      have q2 : (Sum.inr X : Option Value ⊕ String) = .inr (List.getD ["java/lang/IllegalArgumentException"] k "") := q1
      have eX := Sum.inr.inj q2
      subst eX
      have hk := ho k rfl
      have z : k = 0 := by omega
      subst z
      refine ⟨12, 3, 13, hd_account_0, ⟨by decide, Or.inr ⟨3, dL_account_12, rfl, rfl⟩⟩, ?_⟩
      refine g_iconst (v := nI 1) (pc := 13) dL_account_13 rfl ?_
      refine g_iret (pc := 14) dL_account_14 rfl rfl ?_
      exact ⟨J, ⟨rfl, rfl⟩, hP⟩
theorem hd_health_0 : gHd YL_health 3 "java/lang/ArithmeticException" 10 := ⟨by decide +kernel, [], ⟨0, 7, 10, 119⟩, [], "java/lang/ArithmeticException", rfl, (fun z hz => by cases hz), rfl, by decide, by decide +kernel, by decide +kernel, rfl⟩
def wD (D : Nat → Nat → UInt64) : UInt64 ⊕ Nat → Nat → Nat → UInt64
  | .inl v => gUp D 132 0 v
  | .inr _ => D
theorem w_health {o : UInt64 ⊕ Nat} (h : gX G YX2_health 20 [.ref 3] n I L D (match o with | .inl v => .inl (some (.double v)) | .inr _ => .inr "java/lang/ArithmeticException") P) : gEv G YL_health 21 [.ref 3, .ref 132] (hp n I L D) 1 6 (fun o' g => ∃ J, (o' = .inl (some (.int (nI (match o with | .inl _ => 0 | .inr _ => 1)))) ∧ g = hp n J L (wD D o)) ∧ P J) := by
  refine g_aload_n (pc := 0) dL_health_0 rfl rfl ?_
  refine g_iconst (v := nI 0) (pc := 1) dL_health_1 rfl ?_
  refine g_aload_n (pc := 2) dL_health_2 rfl rfl ?_
  refine g_callV (av := []) (st := [.int (nI 0), .ref 132]) (ci := 2) (pc := 3) dL_health_3 mt_X2_health lk_L_115 im_X2_health se_X2_health (by decide) s_3 (by decide) rfl np_X2_health gc_0 (Nat.le_of_ble_eq_true rfl) (Nat.le_of_ble_eq_true rfl) ⟨Nat.le_refl _, Nat.le_refl _⟩ h (fun v' h9 _ q => ?_) (fun X h9 q => ?_)
  · obtain ⟨J, ⟨q1, rfl⟩, hP⟩ := q
    cases o with
    | inr k => cases q1
    | inl w =>
      cases q1
      refine g_dastore (pc := 6) dL_health_6 s_132 (by decide) (vp_in_nI (by decide) (by decide)) ?_
      refine g_goto (tgt := 13) (pc := 7) dL_health_7 (by decide) ?_
      refine g_iconst (v := nI 0) (pc := 13) dL_health_13 rfl ?_
      refine g_iret (pc := 14) dL_health_14 rfl rfl ?_
      exact ⟨J, ⟨rfl, rfl⟩, hP⟩
  · obtain ⟨J, ⟨q1, rfl⟩, hP⟩ := q
    cases o with
    | inl w => cases q1
    | inr k =>
      cases q1
      refine ⟨10, 2, 11, hd_health_0, ⟨by decide, Or.inr ⟨2, dL_health_10, rfl, rfl⟩⟩, ?_⟩
      refine g_iconst (v := nI 1) (pc := 11) dL_health_11 rfl ?_
      refine g_iret (pc := 12) dL_health_12 rfl rfl ?_
      exact ⟨J, ⟨rfl, rfl⟩, hP⟩
theorem hd_describe_0 : gHd YL_describe 5 "java/lang/IndexOutOfBoundsException" 13 := ⟨by decide +kernel, [], ⟨0, 10, 13, 30⟩, [⟨0, 10, 17, 15⟩, ⟨0, 10, 21, 24⟩], "java/lang/IndexOutOfBoundsException", rfl, (fun z hz => by cases hz), rfl, by decide, by decide +kernel, by decide +kernel, rfl⟩
theorem hd_describe_1 : gHd YL_describe 5 "java/lang/IllegalStateException" 17 := ⟨by decide +kernel, [⟨0, 10, 13, 30⟩], ⟨0, 10, 17, 15⟩, [⟨0, 10, 21, 24⟩], "java/lang/IllegalStateException", rfl, (fun z hz => by
  simp only [List.mem_cons, List.not_mem_nil, or_false] at hz
  rcases hz with rfl
  · exact Or.inr ⟨by decide, "java/lang/IndexOutOfBoundsException", by decide +kernel, by decide +kernel⟩), rfl, by decide, by decide +kernel, by decide +kernel, rfl⟩
theorem hd_describe_2 : gHd YL_describe 5 "java/util/NoSuchElementException" 21 := ⟨by decide +kernel, [⟨0, 10, 13, 30⟩, ⟨0, 10, 17, 15⟩], ⟨0, 10, 21, 24⟩, [], "java/util/NoSuchElementException", rfl, (fun z hz => by
  simp only [List.mem_cons, List.not_mem_nil, or_false] at hz
  rcases hz with rfl | rfl
  · exact Or.inr ⟨by decide, "java/lang/IndexOutOfBoundsException", by decide +kernel, by decide +kernel⟩
  · exact Or.inr ⟨by decide, "java/lang/IllegalStateException", by decide +kernel, by decide +kernel⟩), rfl, by decide, by decide +kernel, by decide +kernel, rfl⟩
theorem w_describe {a b : Int32} {o : Int32 ⊕ Nat} (ho : ∀ k, o = .inr k → k < 3) (h : gX G YX2_describe 20 [.ref 3, .int a, .int b] n I L D (oV ["java/lang/IndexOutOfBoundsException", "java/lang/IllegalStateException", "java/util/NoSuchElementException"] o) P) : gEv G YL_describe 21 [.ref 3, .int a, .int b, .ref 131] (hp n I L D) 1 6 (wQ n (wL L o) D o P) := by
  refine g_aload_n (pc := 0) dL_describe_0 rfl rfl ?_
  refine g_iconst (v := nI 0) (pc := 1) dL_describe_1 rfl ?_
  refine g_aload_n (pc := 2) dL_describe_2 rfl rfl ?_
  refine g_iload_n (pc := 3) dL_describe_3 rfl rfl ?_
  refine g_iload_n (pc := 4) dL_describe_4 rfl rfl ?_
  refine g_callV (av := [.int a, .int b]) (st := [.int (nI 0), .ref 131]) (ci := 2) (pc := 5) dL_describe_5 mt_X2_describe lk_L_121 im_X2_describe se_X2_describe (by decide) s_3 (by decide) rfl np_X2_describe (gc_i (gc_i gc_0)) (Nat.le_of_ble_eq_true rfl) (Nat.le_of_ble_eq_true rfl) ⟨Nat.le_refl _, Nat.le_refl _⟩ h (fun v' h9 _ q => ?_) (fun X h9 q => ?_)
  · obtain ⟨J, ⟨q1, rfl⟩, hP⟩ := q
    cases o with
    | inr k =>
      have q2 : (Sum.inl v' : Option Value ⊕ String) = .inr (List.getD ["java/lang/IndexOutOfBoundsException", "java/lang/IllegalStateException", "java/util/NoSuchElementException"] k "") := q1
      cases q2
    | inl w =>
      have q2 : (Sum.inl v' : Option Value ⊕ String) = .inl (some (.int w)) := q1
      cases q2
      refine g_i2l (pc := 8) dL_describe_8 ?_
      refine g_lastore (pc := 9) dL_describe_9 s_131 (by decide) (vp_in_nI (by decide) (by decide)) ?_
      refine g_goto (tgt := 25) (pc := 10) dL_describe_10 (by decide) ?_
      refine g_iconst (v := nI 0) (pc := 25) dL_describe_25 rfl ?_
      refine g_iret (pc := 26) dL_describe_26 rfl rfl ?_
      exact ⟨J, ⟨rfl, rfl⟩, hP⟩
  · obtain ⟨J, ⟨q1, rfl⟩, hP⟩ := q
    cases o with
    | inl w =>
      have q2 : (Sum.inr X : Option Value ⊕ String) = .inl (some (.int w)) := q1
      cases q2
    | inr k =>
      have q2 : (Sum.inr X : Option Value ⊕ String) = .inr (List.getD ["java/lang/IndexOutOfBoundsException", "java/lang/IllegalStateException", "java/util/NoSuchElementException"] k "") := q1
      have eX := Sum.inr.inj q2
      subst eX
      have hk := ho k rfl
      rcases (by omega : k = 0 ∨ k = 1 ∨ k = 2) with z | z | z <;> subst z
      · refine ⟨13, 4, 15, hd_describe_0, ⟨by decide, Or.inl ⟨dL_describe_13, rfl⟩⟩, ?_⟩
        refine g_iconst (v := nI 1) (pc := 15) dL_describe_15 rfl ?_
        refine g_iret (pc := 16) dL_describe_16 rfl rfl ?_
        exact ⟨J, ⟨rfl, rfl⟩, hP⟩
      · refine ⟨17, 4, 19, hd_describe_1, ⟨by decide, Or.inl ⟨dL_describe_17, rfl⟩⟩, ?_⟩
        refine g_iconst (v := nI 2) (pc := 19) dL_describe_19 rfl ?_
        refine g_iret (pc := 20) dL_describe_20 rfl rfl ?_
        exact ⟨J, ⟨rfl, rfl⟩, hP⟩
      · refine ⟨21, 4, 23, hd_describe_2, ⟨by decide, Or.inl ⟨dL_describe_21, rfl⟩⟩, ?_⟩
        refine g_iconst (v := nI 3) (pc := 23) dL_describe_23 rfl ?_
        refine g_iret (pc := 24) dL_describe_24 rfl rfl ?_
        exact ⟨J, ⟨rfl, rfl⟩, hP⟩
theorem hd_undo_0 : gHd YL_undo 3 "java/util/NoSuchElementException" 11 := ⟨by decide +kernel, [], ⟨0, 8, 11, 24⟩, [], "java/util/NoSuchElementException", rfl, (fun z hz => by cases hz), rfl, by decide, by decide +kernel, by decide +kernel, rfl⟩
theorem w_undo {o : Int32 ⊕ Nat} (ho : ∀ k, o = .inr k → k < 1) (h : gX G YX2_undo 20 [.ref 3] n I L D (oV ["java/util/NoSuchElementException"] o) P) : gEv G YL_undo 21 [.ref 3, .ref 131] (hp n I L D) 1 6 (wQ n (wL L o) D o P) := by
  refine g_aload_n (pc := 0) dL_undo_0 rfl rfl ?_
  refine g_iconst (v := nI 0) (pc := 1) dL_undo_1 rfl ?_
  refine g_aload_n (pc := 2) dL_undo_2 rfl rfl ?_
  refine g_callV (av := []) (st := [.int (nI 0), .ref 131]) (ci := 2) (pc := 3) dL_undo_3 mt_X2_undo lk_L_124 im_X2_undo se_X2_undo (by decide) s_3 (by decide) rfl np_X2_undo gc_0 (Nat.le_of_ble_eq_true rfl) (Nat.le_of_ble_eq_true rfl) ⟨Nat.le_refl _, Nat.le_refl _⟩ h (fun v' h9 _ q => ?_) (fun X h9 q => ?_)
  · obtain ⟨J, ⟨q1, rfl⟩, hP⟩ := q
    cases o with
    | inr k =>
      have q2 : (Sum.inl v' : Option Value ⊕ String) = .inr (List.getD ["java/util/NoSuchElementException"] k "") := q1
      cases q2
    | inl w =>
      have q2 : (Sum.inl v' : Option Value ⊕ String) = .inl (some (.int w)) := q1
      cases q2
      refine g_i2l (pc := 6) dL_undo_6 ?_
      refine g_lastore (pc := 7) dL_undo_7 s_131 (by decide) (vp_in_nI (by decide) (by decide)) ?_
      refine g_goto (tgt := 14) (pc := 8) dL_undo_8 (by decide) ?_
      refine g_iconst (v := nI 0) (pc := 14) dL_undo_14 rfl ?_
      refine g_iret (pc := 15) dL_undo_15 rfl rfl ?_
      exact ⟨J, ⟨rfl, rfl⟩, hP⟩
  · obtain ⟨J, ⟨q1, rfl⟩, hP⟩ := q
    cases o with
    | inl w =>
      have q2 : (Sum.inr X : Option Value ⊕ String) = .inl (some (.int w)) := q1
      cases q2
    | inr k =>
      have q2 : (Sum.inr X : Option Value ⊕ String) = .inr (List.getD ["java/util/NoSuchElementException"] k "") := q1
      have eX := Sum.inr.inj q2
      subst eX
      have hk := ho k rfl
      have z : k = 0 := by omega
      subst z
      refine ⟨11, 2, 12, hd_undo_0, ⟨by decide, Or.inr ⟨2, dL_undo_11, rfl, rfl⟩⟩, ?_⟩
      refine g_iconst (v := nI 1) (pc := 12) dL_undo_12 rfl ?_
      refine g_iret (pc := 13) dL_undo_13 rfl rfl ?_
      exact ⟨J, ⟨rfl, rfl⟩, hP⟩
theorem hd_restore_0 : gHd YL_restore 3 "java/lang/IllegalStateException" 11 := ⟨by decide +kernel, [], ⟨0, 8, 11, 15⟩, [], "java/lang/IllegalStateException", rfl, (fun z hz => by cases hz), rfl, by decide, by decide +kernel, by decide +kernel, rfl⟩
theorem w_restore {o : Int32 ⊕ Nat} (ho : ∀ k, o = .inr k → k < 1) (h : gX G YX2_restore 20 [.ref 3] n I L D (oV ["java/lang/IllegalStateException"] o) P) : gEv G YL_restore 21 [.ref 3, .ref 131] (hp n I L D) 1 6 (wQ n (wL L o) D o P) := by
  refine g_aload_n (pc := 0) dL_restore_0 rfl rfl ?_
  refine g_iconst (v := nI 0) (pc := 1) dL_restore_1 rfl ?_
  refine g_aload_n (pc := 2) dL_restore_2 rfl rfl ?_
  refine g_callV (av := []) (st := [.int (nI 0), .ref 131]) (ci := 2) (pc := 3) dL_restore_3 mt_X2_restore lk_L_127 im_X2_restore se_X2_restore (by decide) s_3 (by decide) rfl np_X2_restore gc_0 (Nat.le_of_ble_eq_true rfl) (Nat.le_of_ble_eq_true rfl) ⟨Nat.le_refl _, Nat.le_refl _⟩ h (fun v' h9 _ q => ?_) (fun X h9 q => ?_)
  · obtain ⟨J, ⟨q1, rfl⟩, hP⟩ := q
    cases o with
    | inr k =>
      have q2 : (Sum.inl v' : Option Value ⊕ String) = .inr (List.getD ["java/lang/IllegalStateException"] k "") := q1
      cases q2
    | inl w =>
      have q2 : (Sum.inl v' : Option Value ⊕ String) = .inl (some (.int w)) := q1
      cases q2
      refine g_i2l (pc := 6) dL_restore_6 ?_
      refine g_lastore (pc := 7) dL_restore_7 s_131 (by decide) (vp_in_nI (by decide) (by decide)) ?_
      refine g_goto (tgt := 14) (pc := 8) dL_restore_8 (by decide) ?_
      refine g_iconst (v := nI 0) (pc := 14) dL_restore_14 rfl ?_
      refine g_iret (pc := 15) dL_restore_15 rfl rfl ?_
      exact ⟨J, ⟨rfl, rfl⟩, hP⟩
  · obtain ⟨J, ⟨q1, rfl⟩, hP⟩ := q
    cases o with
    | inl w =>
      have q2 : (Sum.inr X : Option Value ⊕ String) = .inl (some (.int w)) := q1
      cases q2
    | inr k =>
      have q2 : (Sum.inr X : Option Value ⊕ String) = .inr (List.getD ["java/lang/IllegalStateException"] k "") := q1
      have eX := Sum.inr.inj q2
      subst eX
      have hk := ho k rfl
      have z : k = 0 := by omega
      subst z
      refine ⟨11, 2, 12, hd_restore_0, ⟨by decide, Or.inr ⟨2, dL_restore_11, rfl, rfl⟩⟩, ?_⟩
      refine g_iconst (v := nI 1) (pc := 12) dL_restore_12 rfl ?_
      refine g_iret (pc := 13) dL_restore_13 rfl rfl ?_
      exact ⟨J, ⟨rfl, rfl⟩, hP⟩
end

