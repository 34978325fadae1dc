/-! ===== elimination, without the machine ===== -/
def Lw (r w : Nat → F6) : F6 := xs (fun a => fm (r a) (w a)) 8
abbrev mT : Type := Nat → Nat → F6
def Eqs (M : mT) (c : Nat) (w : Nat → F6) : Prop := ∀ j, j < c → Lw (M j) w = 0
theorem Lw_a {r t w : Nat → F6} {m : F6} : Lw (fun a => fa (r a) (fm m (t a))) w = fa (Lw r w) (fm m (Lw t w)) := by
  unfold Lw
  rw [← xs_m, ← xs_a]
  exact xs_ext (fun k _ => by rw [fm_d', fm_ass])
theorem Lw_m {r w : Nat → F6} {i : F6} : Lw (fun a => fm (r a) i) w = fm i (Lw r w) := by
  unfold Lw
  rw [← xs_m]
  exact xs_ext (fun k _ => by show fm (fm (r k) i) (w k) = _; rw [fm_com (r k) i, fm_ass])
def G1 (M : mT) (k p : Nat) (i : F6) : mT := fun j y => if j = k then fm (M p y) i else if j = p then M k y else M j y
def G2 (M : mT) (k c : Nat) : mT := fun r y => if r < c ∧ r ≠ k then fa (M r y) (fm (M r k) (M k y)) else M r y
theorem G1_k {M : mT} {k p : Nat} {i : F6} : G1 M k p i k = fun y => fm (M p y) i := by funext y; unfold G1; rw [if_pos rfl]
theorem G1_p {M : mT} {k p : Nat} {i : F6} (h : p ≠ k) : G1 M k p i p = M k := by funext y; unfold G1; rw [if_neg h, if_pos rfl]
theorem G1_o {M : mT} {k p j : Nat} {i : F6} (h : j ≠ k) (h2 : j ≠ p) : G1 M k p i j = M j := by funext y; unfold G1; rw [if_neg h, if_neg h2]
theorem G2_t {M : mT} {k c j : Nat} (h : j < c) (h2 : j ≠ k) : G2 M k c j = fun y => fa (M j y) (fm (M j k) (M k y)) := by funext y; unfold G2; rw [if_pos ⟨h, h2⟩]
theorem G2_f {M : mT} {k c j : Nat} (h : ¬ (j < c ∧ j ≠ k)) : G2 M k c j = M j := by funext y; unfold G2; rw [if_neg h]
theorem G1_eq {M : mT} {k p c : Nat} {i : F6} {w : Nat → F6} (hk : k < c) (hp : p < c) (hi : i ≠ 0) : Eqs (G1 M k p i) c w ↔ Eqs M c w := by
  constructor
  · intro h j hj
    by_cases e1 : j = p
    · subst e1
      have := h k hk
      rw [G1_k, Lw_m] at this
      exact fm_z _ _ this hi
    · by_cases e2 : j = k
      · subst e2
        have := h p hp
        rwa [G1_p (fun q => e1 q.symm)] at this
      · have := h j hj
        rwa [G1_o e2 e1] at this
  · intro h j hj
    by_cases e2 : j = k
    · subst e2
      rw [G1_k, Lw_m, h p hp, fm_0]
    · by_cases e1 : j = p
      · subst e1; rw [G1_p e2]; exact h k hk
      · rw [G1_o e2 e1]; exact h j hj
theorem G2_eq {M : mT} {k c : Nat} {w : Nat → F6} (hk : k < c) : Eqs (G2 M k c) c w ↔ Eqs M c w := by
  constructor
  · intro h j hj
    have h0 := h k hk
    rw [G2_f (fun q => q.2 rfl)] at h0
    by_cases e : j = k
    · rw [e]; exact h0
    · have := h j hj
      rw [G2_t hj e, Lw_a, h0, fm_0, fa_0] at this
      exact this
  · intro h j hj
    by_cases e : j = k
    · rw [e, G2_f (fun q => q.2 rfl)]; exact h k hk
    · rw [G2_t hj e, Lw_a, h j hj, h k hk, fm_0, fa_0]
theorem xs_tail {f : Nat → F6} {n : Nat} : ∀ {m : Nat}, n ≤ m → (∀ k, n ≤ k → k < m → f k = 0) → xs f m = xs f n
  | 0, h, _ => by rw [show n = 0 by omega]
  | m + 1, h, hz => by
    by_cases e : n = m + 1
    · rw [e]
    · have ih : xs f m = xs f n := xs_tail (by omega) (fun k h1 h2 => hz k h1 (by omega))
      show fa (xs f m) (f m) = _
      rw [hz m (by omega) (by omega), fa_0, ih]
theorem Lw_n {r w : Nat → F6} {n : Nat} (hn : n ≤ 7) (hz : ∀ a, n ≤ a → a < 7 → w a = 0) : Lw r w = fa (xs (fun a => fm (r a) (w a)) n) (fm (r 7) (w 7)) := by
  show fa (xs _ 7) _ = _
  rw [xs_tail hn (fun k h1 h2 => by rw [hz k h1 h2, fm_0])]
/-- the first k columns are those of one -/
def Uc (M : mT) (c k : Nat) : Prop := ∀ a, a < k → ∀ j, j < c → M j a = if j = a then 1 else 0
def Ind (M : mT) (n c : Nat) : Prop := ∀ w : Nat → F6, (∀ a, n ≤ a → w a = 0) → Eqs M c w → ∀ a, w a = 0
theorem pivot {M M0 : mT} {n c k : Nat} (he : ∀ w, Eqs M c w ↔ Eqs M0 c w) (hi : Ind M0 n c) (hu : Uc M c k) (hk : k < n) (hn : n ≤ c) (hc : c ≤ 6) : ∃ p, k ≤ p ∧ p < c ∧ M p k ≠ 0 := by
  rcases Classical.em (∃ p, k ≤ p ∧ p < c ∧ M p k ≠ 0) with h | h
  · exact h
  · have hz : ∀ p, k ≤ p → p < c → M p k = 0 := fun p h1 h2 => Classical.byContradiction (fun q => h ⟨p, h1, h2, q⟩)
    have := hi (fun a => if a < k then M a k else if a = k then 1 else 0) (fun a ha => by
      show (if a < k then M a k else if a = k then 1 else 0) = 0
      rw [if_neg (by omega), if_neg (by omega)]) ((he _).mp (fun j hj => ?_)) k
    · have e : (if k < k then M k k else if k = k then (1 : F6) else 0) = 0 := this
      rw [if_neg (Nat.lt_irrefl k), if_pos rfl] at e
      exact absurd e (by decide)
    · rw [Lw_n (n := k + 1) (by omega) (fun a h1 h2 => by
        show (if a < k then M a k else if a = k then 1 else 0) = 0
        rw [if_neg (by omega), if_neg (by omega)])]
      show fa (fa (xs _ k) (fm (M j k) (if k < k then M k k else if k = k then 1 else 0))) (fm (M j 7) (if 7 < k then M 7 k else if 7 = k then 1 else 0)) = 0
      rw [if_neg (Nat.lt_irrefl k), if_pos rfl, if_neg (show ¬ 7 < k by omega), if_neg (show ¬ 7 = k by omega), fm_0, fa_0, fm_1]
      rcases Nat.lt_or_ge j k with q | q
      · rw [xs_1 (p := j) q (fun a ha hne => by
          rw [hu a ha j hj, if_neg (fun z => hne z.symm), fm_0'])]
        show fa (fm (M j j) (if j < k then M j k else if j = k then 1 else 0)) (M j k) = 0
        rw [hu j q j hj, if_pos rfl, if_pos q, fm_1', fa_s]
      · rw [xs_0 (fun a ha => by rw [hu a ha j hj, if_neg (by omega), fm_0']), hz j q hj]
        rfl
theorem Uc_step {M : mT} {c k p : Nat} (hu : Uc M c k) (hk : k < c) (h1 : k ≤ p) (h2 : p < c) (hp : M p k ≠ 0) : Uc (G2 (G1 M k p (fv (M p k))) k c) c (k + 1) := by
  intro a ha j hj
  have z1 : ∀ a, a < k → G1 M k p (fv (M p k)) k a = 0 := fun a ha => by
    rw [G1_k]
    show fm (M p a) _ = 0
    rw [hu a ha p h2, if_neg (by omega), fm_0']
  have o1 : G1 M k p (fv (M p k)) k k = 1 := by
    rw [G1_k]
    exact fm_v _ hp
  rcases Nat.lt_or_ge a k with q | q
  · have g : ∀ r, r < c → r ≠ k → G1 M k p (fv (M p k)) r a = if r = a then 1 else 0 := fun r hr hrk => by
      by_cases e : r = p
      · rw [e, G1_p (fun z => hrk (e.trans z)), hu a q k hk, if_neg (by omega), if_neg (by omega)]
      · rw [G1_o hrk e]; exact hu a q r hr
    by_cases e : j = k
    · rw [e, G2_f (fun z => z.2 rfl), z1 a q, if_neg (by omega)]
    · rw [G2_t hj e]
      show fa _ (fm _ _) = _
      rw [z1 a q, fm_0, fa_0]
      exact g j hj e
  · have ea : a = k := by omega
    subst ea
    by_cases e : j = a
    · rw [e, G2_f (fun z => z.2 rfl), o1, if_pos rfl]
    · rw [G2_t hj e]
      show fa _ (fm _ _) = _
      rw [o1, fm_1, fa_s, if_neg e]
/-- the k-th place of a set -/
def plS (S k : Nat) : Nat := ((List.range 14).find? (fun i => S.testBit i && nS S i == k)).getD 0
theorem nS_inj {S i j : Nat} (hi : S.testBit i = true) (hj : S.testBit j = true) (h : nS S i = nS S j) : i = j := by
  rcases Nat.lt_trichotomy i j with q | q | q
  · have := nS_lt hi q; omega
  · exact q
  · have := nS_lt hj q; omega
theorem plS_nS {S i : Nat} (h : S.testBit i = true) (hi : i < 14) : plS S (nS S i) = i := by
  unfold plS
  rw [find_first hi (by simp [h]) (fun k hk => ?_)]
  · rfl
  · cases hb : S.testBit k
    · rfl
    · have := nS_lt hb hk
      simp
      omega
theorem nS_sur {S k : Nat} : ∀ {m : Nat}, k < nS S m → ∃ i, i < m ∧ S.testBit i = true ∧ nS S i = k
  | 0, h => absurd h (Nat.not_lt_zero k)
  | m + 1, h => by
    cases hb : S.testBit m
    · rw [nS_f hb] at h
      obtain ⟨i, h1, h2⟩ := nS_sur h
      exact ⟨i, by omega, h2⟩
    · rw [nS_t hb] at h
      by_cases e : k = nS S m
      · exact ⟨m, by omega, hb, e.symm⟩
      · obtain ⟨i, h1, h2⟩ := nS_sur (show k < nS S m by omega)
        exact ⟨i, by omega, h2⟩
theorem xs_re {S : Nat} {f g : Nat → F6} : ∀ {m : Nat}, (∀ i, i < m → S.testBit i = true → g (nS S i) = f i) → (∀ i, i < m → S.testBit i = false → f i = 0) → xs f m = xs g (nS S m)
  | 0, _, _ => rfl
  | m + 1, h, hz => by
    have ih := xs_re (S := S) (f := f) (g := g) (m := m) (fun i hi => h i (by omega)) (fun i hi => hz i (by omega))
    show fa (xs f m) (f m) = _
    cases hb : S.testBit m
    · rw [nS_f hb, hz m (by omega) hb, fa_0, ih]
    · rw [nS_t hb, ih, ← h m (by omega) hb]
      rfl
theorem nS_z {S z : Nat} (hS : S < 2 ^ z) : ∀ {m : Nat}, z ≤ m → nS S m = nS S z
  | 0, h => by rw [show z = 0 by omega]
  | m + 1, h => by
    by_cases e : z = m + 1
    · rw [e]
    · rw [nS_f (Nat.testBit_lt_two_pow (Nat.lt_of_lt_of_le hS (Nat.pow_le_pow_right (by decide) (by omega)))), nS_z hS (by omega)]
/-- the rows that elimination begins with -/
def M0of (M : mT) (S n c : Nat) (s : Nat → F6) : Prop := ∀ j, j < c → (∀ k, k < n → M j k = fp (plS S k * j)) ∧ M j 7 = s j
theorem M0_w {M : mT} {S c : Nat} {s w x : Nat → F6} (hM : M0of M S (nS S 14) c s) (hn : nS S 14 ≤ 7) (hw : ∀ a, nS S 14 ≤ a → a < 7 → w a = 0) (hx : ∀ i, i < 14 → S.testBit i = true → w (nS S i) = x i) (hz : ∀ i, i < 14 → S.testBit i = false → x i = 0) {j : Nat} (hj : j < c) : Lw (M j) w = fa (ev x j) (fm (s j) (w 7)) := by
  rw [Lw_n hn hw, (hM j hj).2]
  congr 1
  unfold ev
  rw [xs_re (S := S) (f := fun i => fm (x i) (fp (i * j))) (g := fun a => fm (M j a) (w a)) (fun i hi hb => ?_) (fun i hi hb => ?_)]
  · show fm (M j (nS S i)) (w (nS S i)) = fm (x i) (fp (i * j))
    rw [(hM j hj).1 _ (nS_lt hb hi), plS_nS hb hi, hx i hi hb, fm_com]
  · show fm (x i) _ = 0
    rw [hz i hi hb, fm_0']
theorem Ind_van {M : mT} {S c : Nat} {s : Nat → F6} (hM : M0of M S (nS S 14) c s) (hn : nS S 14 ≤ c) (hc : c ≤ 6) : Ind M (nS S 14) c := by
  intro w hw he a
  rcases Nat.lt_or_ge a (nS S 14) with q | q
  · obtain ⟨i, hi, hb, rfl⟩ := nS_sur q
    have hx := indep ((List.range 14).filter (fun i => S.testBit i)) c (fun i => if S.testBit i = true ∧ i < 14 then w (nS S i) else 0) (by rw [nS_list]; exact hn) (fun i hi => by
      show (if S.testBit i = true ∧ i < 14 then w (nS S i) else 0) = 0
      refine if_neg (fun z => ?_)
      rcases hi with hi | hi
      · exact hi (List.mem_filter.mpr ⟨List.mem_range.mpr z.2, z.1⟩)
      · omega) (fun j hj => ?_) i
    · have e : (if S.testBit i = true ∧ i < 14 then w (nS S i) else 0) = 0 := hx
      rwa [if_pos ⟨hb, hi⟩] at e
    · have h9 := he j hj
      rw [M0_w (x := fun i => if S.testBit i = true ∧ i < 14 then w (nS S i) else 0) hM (by omega) (fun a h1 _ => hw a h1) (fun i hi hb => (if_pos ⟨hb, hi⟩).symm) (fun i hi hb => if_neg (fun z => by rw [hb] at z; exact absurd z.1 (by decide))) hj, hw 7 (by omega), fm_0, fa_0] at h9
      exact h9
  · exact hw a q
theorem fin_no {M M0 : mT} {S c j : Nat} {s : Nat → F6} (hM : M0of M0 S (nS S 14) c s) (hn : nS S 14 ≤ c) (hc : c ≤ 6) (he : ∀ w, Eqs M c w ↔ Eqs M0 c w) (hu : Uc M c (nS S 14)) (h1 : nS S 14 ≤ j) (h2 : j < c) (h3 : M j 7 ≠ 0) : ¬ Sv s c S := by
  rintro ⟨x, hx1, hx2⟩
  have hw7 : ∀ a, nS S 14 ≤ a → a < 7 → (if a = 7 then 1 else if a < nS S 14 then x (plS S a) else (0 : F6)) = 0 := fun a q1 q2 => by rw [if_neg (by omega), if_neg (by omega)]
  have hE : Eqs M0 c (fun a => if a = 7 then 1 else if a < nS S 14 then x (plS S a) else 0) := fun i hi => by
    rw [M0_w (x := x) hM (by omega) hw7 (fun i hi hb => by
      have := nS_lt hb hi
      show (if nS S i = 7 then 1 else if nS S i < nS S 14 then x (plS S (nS S i)) else 0) = x i
      rw [if_neg (by omega), if_pos this, plS_nS hb hi]) (fun i hi hb => hx1 i (Or.inl hb)) hi, hx2 i hi]
    show fa (s i) (fm (s i) 1) = 0
    rw [fm_1, fa_s]
  have := (he _).mpr hE j h2
  rw [Lw_n (n := nS S 14) (by omega) hw7, xs_0 (fun a ha => by rw [hu a ha j h2, if_neg (by omega), fm_0'])] at this
  have e : fa 0 (fm (M j 7) 1) = 0 := this
  rw [fm_1, fa_0'] at e
  exact h3 e
theorem fin_yes {M M0 : mT} {S c : Nat} {s : Nat → F6} (hM : M0of M0 S (nS S 14) c s) (hn : nS S 14 ≤ c) (hc : c ≤ 6) (he : ∀ w, Eqs M c w ↔ Eqs M0 c w) (hu : Uc M c (nS S 14)) (h3 : ∀ j, nS S 14 ≤ j → j < c → M j 7 = 0) : Sol s c S (fun i => if S.testBit i = true ∧ i < 14 then M (nS S i) 7 else 0) := by
  refine ⟨fun i hi => if_neg (fun z => ?_), fun j hj => ?_⟩
  · rcases hi with hi | hi
    · rw [hi] at z; exact absurd z.1 (by decide)
    · omega
  · have hw7 : ∀ a, nS S 14 ≤ a → a < 7 → (if a = 7 then 1 else if a < nS S 14 then M a 7 else (0 : F6)) = 0 := fun a q1 q2 => by rw [if_neg (by omega), if_neg (by omega)]
    have hE : Eqs M c (fun a => if a = 7 then 1 else if a < nS S 14 then M a 7 else 0) := fun i hi => by
      rw [Lw_n (n := nS S 14) (by omega) hw7]
      show fa (xs _ _) (fm (M i 7) 1) = 0
      rw [fm_1]
      rcases Nat.lt_or_ge i (nS S 14) with q | q
      · rw [xs_1 (p := i) q (fun a ha hne => by rw [hu a ha i hi, if_neg (fun z => hne z.symm), fm_0'])]
        show fa (fm (M i i) (if i = 7 then 1 else if i < nS S 14 then M i 7 else 0)) (M i 7) = 0
        rw [hu i q i hi, if_pos rfl, if_neg (by omega), if_pos q, fm_1', fa_s]
      · rw [xs_0 (fun a ha => by rw [hu a ha i hi, if_neg (by omega), fm_0']), h3 i q hi]
        rfl
    have := (he _).mp hE j hj
    rw [M0_w (x := fun i => if S.testBit i = true ∧ i < 14 then M (nS S i) 7 else 0) hM (by omega) hw7 (fun i hi hb => by
      have := nS_lt hb hi
      show (if nS S i = 7 then 1 else if nS S i < nS S 14 then M (nS S i) 7 else 0) = if S.testBit i = true ∧ i < 14 then M (nS S i) 7 else 0
      rw [if_neg (by omega), if_pos this, if_pos ⟨hb, hi⟩]) (fun i hi hb => if_neg (fun z => by rw [hb] at z; exact absurd z.1 (by decide))) hj] at this
    have e : fa (ev _ j) (fm (s j) 1) = 0 := this
    rw [fm_1] at e
    exact fa_z _ _ e

