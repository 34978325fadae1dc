/-! ===== the reference's small methods ===== -/
theorem gc_0 : ∀ v ∈ ([] : List Value), v.category = 1 := fun v h => by cases h
theorem gc_i {x : Int32} {l : List Value} (h : ∀ v ∈ l, v.category = 1) : ∀ v ∈ Value.int x :: l, v.category = 1 := fun v hv => (List.mem_cons.mp hv).elim (fun e => by rw [e]; rfl) (h v)
theorem gc_r {x : Nat} {l : List Value} (h : ∀ v ∈ l, v.category = 1) : ∀ v ∈ Value.ref x :: l, v.category = 1 := fun v hv => (List.mem_cons.mp hv).elim (fun e => by rw [e]; rfl) (h v)
def bI (p : Prop) [Decidable p] : Int32 := if p then 1 else 0
theorem bI_t {p : Prop} [Decidable p] (h : p) : bI p = 1 := if_pos h
theorem bI_f {p : Prop} [Decidable p] (h : ¬ p) : bI p = 0 := if_neg h
theorem bI_z {p : Prop} [Decidable p] : bI p = 0 ↔ ¬ p := by
  unfold bI
  by_cases h : p
  · simp [h]
  · simp [h]
theorem bI_o {p : Prop} [Decidable p] : bI p = 1 ↔ p := by
  unfold bI
  by_cases h : p
  · simp [h]
  · simp [h]
theorem bI_nar {p : Prop} [Decidable p] : narrow .boolean (.int (bI p)) = .int (bI p) := by
  unfold bI
  by_cases h : p
  · rw [if_pos h]; rfl
  · rw [if_neg h]; rfl
theorem m_X3_isIn {G : gG} {d : Nat} {h : gH} {x lo hi : Int32} : gFn G YX3_isIn d [.int x, .int lo, .int hi] h (.inl (some (.int (bI (lo ≤ x ∧ x ≤ hi))))) h 0 0 := by
  refine g_iload_n (pc := 0) dX3_isIn_0 rfl rfl ?_
  refine g_iload_n (pc := 1) dX3_isIn_1 rfl rfl ?_
  refine g_icmp_lt (tgt := 14) (pc := 2) dX3_isIn_2 (by decide) (fun c2 => ?_) (fun c2 => ?_)
  · have cc : ¬ (lo ≤ x ∧ x ≤ hi) := by
     rw [Int32.lt_iff_toInt_lt] at c2
     rw [Int32.le_iff_toInt_le, Int32.le_iff_toInt_le]
     omega
    rw [bI_f cc]
    refine g_iconst (v := 0) (pc := 14) dX3_isIn_14 rfl ?_
    refine g_ireturn (pc := 15) dX3_isIn_15 rfl rfl ?_
    exact ⟨rfl, rfl⟩
  · refine g_iload_n (pc := 5) dX3_isIn_5 rfl rfl ?_
    refine g_iload_n (pc := 6) dX3_isIn_6 rfl rfl ?_
    refine g_icmp_gt (tgt := 14) (pc := 7) dX3_isIn_7 (by decide) (fun c7 => ?_) (fun c7 => ?_)
    · have cc : ¬ (lo ≤ x ∧ x ≤ hi) := by
       rw [Int32.lt_iff_toInt_lt] at c2 c7
       rw [Int32.le_iff_toInt_le, Int32.le_iff_toInt_le]
       omega
      rw [bI_f cc]
      refine g_iconst (v := 0) (pc := 14) dX3_isIn_14 rfl ?_
      refine g_ireturn (pc := 15) dX3_isIn_15 rfl rfl ?_
      exact ⟨rfl, rfl⟩
    · have cc : lo ≤ x ∧ x ≤ hi := by
       rw [Int32.lt_iff_toInt_lt] at c2 c7
       rw [Int32.le_iff_toInt_le, Int32.le_iff_toInt_le]
       omega
      rw [bI_t cc]
      refine g_iconst (v := 1) (pc := 10) dX3_isIn_10 rfl ?_
      refine g_goto (tgt := 15) (pc := 11) dX3_isIn_11 (by decide) ?_
      refine g_ireturn (pc := 15) dX3_isIn_15 rfl rfl ?_
      exact ⟨rfl, rfl⟩
theorem m_X3_thrown {G : gG} {d n : Nat} {I : Nat → Nat → Int32} {L : Nat → Nat → Int64} {D : Nat → Nat → UInt64} : gFn G YX3_thrown d [.ref 114] (hp n I L D) (.inl (some (.int (I 114 0)))) (hp n I L D) 0 0 := by
  refine g_aload_n (pc := 0) dX3_thrown_0 rfl rfl ?_
  refine g_getI (pc := 1) dX3_thrown_1 fl_X3_67 s_114 (by decide) rfl ?_
  refine g_ireturn (pc := 4) dX3_thrown_4 rfl rfl ?_
  exact ⟨rfl, rfl⟩
theorem m_X3_no {G : gG} {d n : Nat} {I : Nat → Nat → Int32} {L : Nat → Nat → Int64} {D : Nat → Nat → UInt64} {x : Int32} : gFn G YX3_no d [.ref 114, .int x] (hp n I L D) (.inl (some (.int 0))) (hp n (gUp I 114 0 x) L D) 0 0 := by
  refine g_aload_n (pc := 0) dX3_no_0 rfl rfl ?_
  refine g_iload_n (pc := 1) dX3_no_1 rfl rfl ?_
  refine g_putI (pc := 2) dX3_no_2 fl_X3_67 s_114 (by decide) rfl rfl rfl rfl ?_
  refine g_iconst (v := 0) (pc := 5) dX3_no_5 rfl ?_
  refine g_ireturn (pc := 6) dX3_no_6 rfl rfl ?_
  exact ⟨rfl, rfl⟩
theorem m_X3_of {G : gG} {d n : Nat} {I : Nat → Nat → Int32} {L : Nat → Nat → Int64} {D : Nat → Nat → UInt64} {f w : Int32} (hi : vp_in (10 * f + w) 809) : gFn G YX3_of d [.ref 114, .int f, .int w] (hp n I L D) (.inl (some (.int (I 115 (10 * f + w).toNatClampNeg)))) (hp n I L D) 0 0 := by
  refine g_aload_n (pc := 0) dX3_of_0 rfl rfl ?_
  refine g_getR (pc := 1) dX3_of_1 fl_X3_9 s_114 (by decide) rfl t_114_1 ?_
  refine g_bipush (v := 10) (pc := 4) dX3_of_4 rfl ?_
  refine g_iload_n (pc := 6) dX3_of_6 rfl rfl ?_
  refine g_imul (pc := 7) dX3_of_7 ?_
  refine g_iload_n (pc := 8) dX3_of_8 rfl rfl ?_
  refine g_iadd (pc := 9) dX3_of_9 ?_
  refine g_iaload (pc := 10) dX3_of_10 s_115 (by decide) (by assumption) ?_
  refine g_ireturn (pc := 11) dX3_of_11 rfl rfl ?_
  exact ⟨rfl, rfl⟩

