/-! ===== places taken out one by one ===== -/
def cnS (s : Nat → F6) (A : Nat) : Nat → Nat → F6
  | 0 => s
  | m + 1 => if A.testBit m = true then can m (cnS s A m) else cnS s A m
theorem cnS_t {s : Nat → F6} {A m : Nat} (h : A.testBit m = true) : cnS s A (m + 1) = can m (cnS s A m) := by rw [cnS, if_pos h]
theorem cnS_f {s : Nat → F6} {A m : Nat} (h : A.testBit m = false) : cnS s A (m + 1) = cnS s A m := by rw [cnS, if_neg (by rw [h]; decide)]
/-- the places of a set from m on -/
def hiS (A m : Nat) : Nat := A >>> m <<< m
theorem hiS_bit {A m i : Nat} : (hiS A m).testBit i = (decide (m ≤ i) && A.testBit i) := by
  unfold hiS
  rw [Nat.testBit_shiftLeft]
  by_cases h : m ≤ i
  · simp [h, Nat.testBit_shiftRight, Nat.add_sub_cancel' h]
  · simp [h]
theorem cn_Sv0 {s : Nat → F6} {A E c : Nat} (hc : nS A 14 ≤ c) (hd : E &&& A = 0) : ∀ m, m ≤ 14 → (Sv s c (E ||| A) ↔ Sv (cnS s A m) (c - nS A m) (E ||| hiS A m))
  | 0, _ => by
    have e : hiS A 0 = A := by unfold hiS; simp
    rw [e]
    exact Iff.rfl
  | m + 1, h => by
    have ih := cn_Sv0 (s := s) hc hd m (by omega)
    rw [ih]
    cases hb : A.testBit m
    · rw [cnS_f hb, nS_f hb]
      have e : hiS A (m + 1) = hiS A m := by
        apply Nat.eq_of_testBit_eq
        intro i
        rw [hiS_bit, hiS_bit]
        by_cases q : i = m
        · rw [q, hb]; simp
        · by_cases w : m ≤ i
          · have : m + 1 ≤ i := by omega
            simp [w, this]
          · have : ¬ m + 1 ≤ i := by omega
            simp [w, this]
      rw [e]
    · have hlt := nS_lt hb (show m < 14 by omega)
      have hEm : E.testBit m = false := by
        have : (E &&& A).testBit m = false := by rw [hd]; exact Nat.zero_testBit m
        rw [Nat.testBit_and, hb, Bool.and_true] at this
        exact this
      have e : E ||| hiS A m = (E ||| hiS A (m + 1)) ||| 2 ^ m := by
        apply Nat.eq_of_testBit_eq
        intro i
        simp only [Nat.testBit_or, hiS_bit]
        by_cases q : i = m
        · rw [q, hb, Nat.testBit_two_pow_self]; simp
        · rw [Nat.testBit_two_pow_of_ne (fun z => q z.symm), Bool.or_false]
          by_cases w : m ≤ i
          · have : m + 1 ≤ i := by omega
            simp [w, this]
          · have : ¬ m + 1 ≤ i := by omega
            simp [w, this]
      have hno : (E ||| hiS A (m + 1)).testBit m = false := by
        rw [Nat.testBit_or, hiS_bit, hEm, decide_eq_false (show ¬ m + 1 ≤ m by omega)]
        rfl
      rw [e, cnS_t hb, nS_t hb, show c - nS A m = (c - (nS A m + 1)) + 1 by omega]
      exact ⟨Sv_fwd hno, Sv_back (by omega) hno⟩
theorem cn_Sv {s : Nat → F6} {A E c : Nat} (hA : A < 16384) (hc : nS A 14 ≤ c) (hd : E &&& A = 0) : Sv s c (E ||| A) ↔ Sv (cnS s A 14) (c - nS A 14) E := by
  rw [cn_Sv0 hc hd 14 (Nat.le_refl _)]
  have e : hiS A 14 = 0 := by
    apply Nat.eq_of_testBit_eq
    intro i
    rw [hiS_bit, Nat.zero_testBit]
    by_cases q : 14 ≤ i
    · rw [Nat.testBit_lt_two_pow (Nat.lt_of_lt_of_le hA (Nat.pow_le_pow_right (n := 2) (by decide) q)), Bool.and_false]
    · simp [q]
  rw [e, Nat.or_zero]
def fcP (A i : Nat) : Nat → F6
  | 0 => 1
  | m + 1 => if A.testBit m = true then fm (fcP A i m) (fa (fp i) (fp m)) else fcP A i m
theorem cn_ev {x : Nat → F6} {A : Nat} : ∀ {m j : Nat}, cnS (ev x) A m j = ev (fun i => fm (x i) (fcP A i m)) j
  | 0, j => by
    show ev x j = _
    unfold ev
    exact xs_ext (fun i _ => by show _ = fm (fm (x i) 1) _; rw [fm_1])
  | m + 1, j => by
    cases hb : A.testBit m
    · rw [cnS_f hb, cn_ev]
      unfold ev
      exact xs_ext (fun i _ => by
        show fm (fm (x i) (fcP A i m)) _ = fm (fm (x i) (fcP A i (m + 1))) _
        rw [show fcP A i (m + 1) = fcP A i m from by rw [fcP, if_neg (by rw [hb]; decide)]])
    · have e : cnS (ev x) A m = ev (fun i => fm (x i) (fcP A i m)) := funext (fun k => cn_ev)
      rw [cnS_t hb, e, can_ev]
      unfold ev
      exact xs_ext (fun i _ => by
        show fm (fm (fm (x i) (fcP A i m)) (fa (fp i) (fp m))) _ = fm (fm (x i) (fcP A i (m + 1))) _
        rw [show fcP A i (m + 1) = fm (fcP A i m) (fa (fp i) (fp m)) from by rw [fcP, if_pos hb], fm_ass (x i)])
theorem cn_ext {s t : Nat → F6} {A c : Nat} (h : ∀ j, j < c → s j = t j) : ∀ {m : Nat}, nS A m ≤ c → ∀ j, j < c - nS A m → cnS s A m j = cnS t A m j
  | 0, _, j, hj => h j hj
  | m + 1, hm, j, hj => by
    cases hb : A.testBit m
    · rw [nS_f hb] at hm hj
      rw [cnS_f hb, cnS_f hb]
      exact cn_ext h hm j hj
    · rw [nS_t hb] at hm hj
      rw [cnS_t hb, cnS_t hb]
      exact can_ext (c := c - (nS A m + 1)) (fun k hk => cn_ext h (by omega) k (by omega)) j hj
theorem fcP_nz {A i : Nat} (hi : i < 14) (hb : A.testBit i = false) : ∀ m, m ≤ 14 → fcP A i m ≠ 0
  | 0, _ => by unfold fcP; decide
  | m + 1, hm => by
    have ih := fcP_nz hi hb m (by omega)
    unfold fcP
    split
    · rename_i h
      refine fm_zz _ _ ih (fun q => ?_)
      have := fp_inj i hi m (by omega) q
      rw [this, h] at hb
      cases hb
    · exact ih
theorem fcP_z {A i : Nat} (hb : A.testBit i = true) : ∀ m, i < m → fcP A i m = 0
  | 0, h => absurd h (Nat.not_lt_zero i)
  | m + 1, h => by
    unfold fcP
    by_cases e : i = m
    · subst e
      rw [if_pos hb, fa_s, fm_0]
    · rw [fcP_z hb m (by omega), fm_0']
      split <;> rfl
/-- the value at a place, the others taken out -/
theorem cn_pick {s x : Nat → F6} {S c i : Nat} (hs : Sol s c S x) (hi : i < 14) (hb : S.testBit i = true) (hc : nS (S ^^^ 2 ^ i) 14 < c) : cnS s (S ^^^ 2 ^ i) 14 0 = fm (x i) (fcP (S ^^^ 2 ^ i) i 14) := by
  rw [← cn_ext (s := ev x) (c := c) hs.2 (Nat.le_of_lt hc) 0 (by omega), cn_ev]
  unfold ev
  rw [xs_1 (p := i) hi (fun k hk hne => ?_)]
  · rw [Nat.mul_zero]; exact fm_1 _
  · show fm (fm (x k) (fcP (S ^^^ 2 ^ i) k 14)) _ = 0
    cases hbk : S.testBit k
    · rw [hs.1 k (Or.inl hbk), fm_0', fm_0']
    · rw [fcP_z (by rw [Nat.testBit_xor, hbk, Nat.testBit_two_pow_of_ne (fun z => hne z.symm)]; rfl) 14 hk, fm_0, fm_0']
theorem nS_pow : ∀ p, p < 14 → nS (2 ^ p) 14 = 1 := by decide +kernel
theorem nS_xor {S p : Nat} (hp : p < 14) (hb : S.testBit p = true) : nS (S ^^^ 2 ^ p) 14 + 1 = nS S 14 := by
  have hz : (S ^^^ 2 ^ p) &&& 2 ^ p = 0 := by
    apply Nat.eq_of_testBit_eq
    intro i
    rw [Nat.testBit_and, Nat.testBit_xor, Nat.zero_testBit]
    by_cases e : p = i
    · subst e; rw [Nat.testBit_two_pow_self, hb]; rfl
    · rw [Nat.testBit_two_pow_of_ne e, Bool.and_false]
  have ho : (S ^^^ 2 ^ p) ||| 2 ^ p = S := by
    apply Nat.eq_of_testBit_eq
    intro i
    rw [Nat.testBit_or, Nat.testBit_xor]
    by_cases e : p = i
    · subst e; rw [Nat.testBit_two_pow_self, hb]; rfl
    · rw [Nat.testBit_two_pow_of_ne e, Bool.or_false, Bool.xor_false]
  have := nS_orD hz 14
  rw [ho, nS_pow p hp] at this
  omega
/-- sets of errors from a place on -/
def cand (z er fr q E : Nat) : Prop := E < 2 ^ z ∧ E &&& er = 0 ∧ (∀ i, i < fr → E.testBit i = false) ∧ nS E 14 = q
theorem cand_up {z er fr q E p : Nat} (hz : z ≤ 14) (hp : p < z) (hfp : fr ≤ p) (he : er.testBit p = false) (h : cand z er (p + 1) q E) : cand z er fr (q + 1) (E ||| 2 ^ p) ∧ E.testBit p = false := by
  obtain ⟨h1, h2, h3, h4⟩ := h
  have hb := h3 p (Nat.lt_succ_self p)
  have hd : E &&& 2 ^ p = 0 := by
    apply Nat.eq_of_testBit_eq
    intro i
    rw [Nat.testBit_and, Nat.zero_testBit]
    by_cases e : p = i
    · subst e; rw [hb]; rfl
    · rw [Nat.testBit_two_pow_of_ne e, Bool.and_false]
  refine ⟨⟨Nat.or_lt_two_pow h1 (Nat.pow_lt_pow_right (by decide) hp), ?_, fun i hi => ?_, ?_⟩, hb⟩
  · apply Nat.eq_of_testBit_eq
    intro i
    have h2i : (E &&& er).testBit i = false := by rw [h2]; exact Nat.zero_testBit i
    rw [Nat.testBit_and] at h2i
    rw [Nat.testBit_and, Nat.testBit_or, Nat.zero_testBit]
    by_cases e : p = i
    · subst e; rw [he, Bool.and_false]
    · rw [Nat.testBit_two_pow_of_ne e, Bool.or_false]; exact h2i
  · rw [Nat.testBit_or, h3 i (by omega), Nat.testBit_two_pow_of_ne (by omega)]; rfl
  · rw [nS_orD hd, nS_pow p (by omega), h4]
theorem cand_dn {z er fr q E p : Nat} (hz : z ≤ 14) (hp : p < z) (h : cand z er fr (q + 1) E) (hb : E.testBit p = true) (hlo : ∀ i, i < p → E.testBit i = false) : cand z er (p + 1) q (E ^^^ 2 ^ p) ∧ E = (E ^^^ 2 ^ p) ||| 2 ^ p ∧ (E ^^^ 2 ^ p).testBit p = false := by
  obtain ⟨h1, h2, h3, h4⟩ := h
  have hn := nS_xor (by omega) hb
  refine ⟨⟨Nat.xor_lt_two_pow h1 (Nat.pow_lt_pow_right (by decide) hp), ?_, fun i hi => ?_, by omega⟩, ?_, ?_⟩
  · apply Nat.eq_of_testBit_eq
    intro i
    have h2i : (E &&& er).testBit i = false := by rw [h2]; exact Nat.zero_testBit i
    rw [Nat.testBit_and] at h2i
    rw [Nat.testBit_and, Nat.testBit_xor, Nat.zero_testBit]
    by_cases e : p = i
    · subst e; rw [Nat.testBit_two_pow_self, hb]; rfl
    · rw [Nat.testBit_two_pow_of_ne e, Bool.xor_false]; exact h2i
  · rw [Nat.testBit_xor]
    by_cases e : i = p
    · subst e; rw [Nat.testBit_two_pow_self, hb]; rfl
    · rw [hlo i (by omega), Nat.testBit_two_pow_of_ne (by omega)]; rfl
  · apply Nat.eq_of_testBit_eq
    intro i
    rw [Nat.testBit_or, Nat.testBit_xor]
    by_cases e : p = i
    · subst e; rw [Nat.testBit_two_pow_self, hb]; rfl
    · rw [Nat.testBit_two_pow_of_ne e, Bool.or_false, Bool.xor_false]
  · rw [Nat.testBit_xor, Nat.testBit_two_pow_self, hb]; rfl
theorem Sv_nil {s : Nat → F6} {c : Nat} : Sv s c 0 ↔ ∀ j, j < c → s j = 0 := by
  constructor
  · rintro ⟨x, h1, h2⟩ j hj
    rw [← h2 j hj]
    unfold ev
    exact xs_0 (fun k _ => by rw [h1 k (Or.inl (Nat.zero_testBit k)), fm_0'])
  · intro h
    refine ⟨fun _ => 0, fun _ _ => rfl, fun j hj => ?_⟩
    rw [h j hj]
    unfold ev
    exact xs_0 (fun k _ => fm_0' _)

