/-! ===== the next set (b) ===== -/
def ckS (S : Nat) : Bool := pcF S == 0 || decide (3 < pcF S) || (decide (bnI (nI S) = nI (bn S)) && !decide (nI S &&& -(nI S) = 0) && decide (S < bn S) && (decide (16384 ≤ bn S) || pcF (bn S) == pcF S) && decide (bn S < 32768) && allF (fun t => !(pcF (S + 1 + t) == pcF S)) (min (bn S) 16384 - (S + 1)))
theorem ck_ok0 : allF ckS 16384 = true := by decide +kernel
theorem pc_ok {S : Nat} (h : S < 16384) : pcF S = nS S 14 := by simpa using allF_of pc_ok0 S h
theorem bn_ok {S : Nat} (h : S < 16384) (h1 : 1 ≤ nS S 14) (h3 : nS S 14 ≤ 3) : (bnI (nI S) = nI (bn S) ∧ ¬ nI S &&& -(nI S) = 0) ∧ S < bn S ∧ bn S < 32768 ∧ (bn S < 16384 → nS (bn S) 14 = nS S 14) ∧ ∀ T, S < T → T < bn S → T < 16384 → nS T 14 ≠ nS S 14 := by
  have hc := allF_of ck_ok0 S h
  have hp := pc_ok h
  unfold ckS at hc
  rw [hp] at hc
  have e1 : (nS S 14 == 0) = false := by simp; omega
  have e2 : decide (3 < nS S 14) = false := by simp; omega
  rw [e1, e2] at hc
  simp only [Bool.false_or, Bool.and_eq_true, decide_eq_true_eq, Bool.or_eq_true, beq_iff_eq, Bool.not_eq_true', decide_eq_false_iff_not] at hc
  obtain ⟨⟨⟨⟨⟨c1, c0⟩, c2⟩, c3⟩, c4⟩, c5⟩ := hc
  refine ⟨⟨c1, c0⟩, c2, c4, fun hb => ?_, fun T t1 t2 t3 q => ?_⟩
  · rcases c3 with c3 | c3
    · omega
    · rw [← pc_ok hb]; exact c3
  · have := allF_of c5 (T - (S + 1)) (by omega)
    rw [show S + 1 + (T - (S + 1)) = T by omega, pc_ok t3, q] at this
    simp at this
theorem nS_0 {T : Nat} : ∀ {m : Nat}, nS T m = 0 → ∀ i, i < m → T.testBit i = false
  | 0, _, i, hi => absurd hi (Nat.not_lt_zero i)
  | m + 1, h, i, hi => by
    cases hb : T.testBit m
    · rw [nS_f hb] at h
      by_cases e : i = m
      · rw [e]; exact hb
      · exact nS_0 h i (by omega)
    · rw [nS_t hb] at h
      omega
theorem nS_none {T : Nat} (hT : T < 16384) (h : nS T 14 = 0) : T = 0 := by
  apply Nat.eq_of_testBit_eq
  intro i
  rw [Nat.zero_testBit]
  rcases Nat.lt_or_ge i 14 with q | q
  · exact nS_0 h i q
  · exact Nat.testBit_lt_two_pow (Nat.lt_of_lt_of_le hT (Nat.pow_le_pow_right (n := 2) (by decide) q))
theorem nS_ones : ∀ e, e < 4 → nS (2 ^ e - 1) 14 = e := by decide +kernel
theorem nS_first : ∀ e, e < 4 → ∀ T, T < 2 ^ e - 1 → nS T 14 ≠ e := by decide +kernel

