/-! ===== the field of 16 symbols; sums; places taken out ===== -/
abbrev F6 : Type := Fin 16
def fa (a b : F6) : F6 := ⟨(a.val ^^^ b.val) % 16, Nat.mod_lt _ (by decide)⟩
def fx (a : F6) : F6 := if a.val < 8 then ⟨2 * a.val % 16, Nat.mod_lt _ (by decide)⟩ else ⟨((2 * a.val) ^^^ 19) % 16, Nat.mod_lt _ (by decide)⟩
def fm (a b : F6) : F6 := fa (if b.val % 2 = 1 then a else 0) (fa (if b.val / 2 % 2 = 1 then fx a else 0) (fa (if b.val / 4 % 2 = 1 then fx (fx a) else 0) (if b.val / 8 % 2 = 1 then fx (fx (fx a)) else 0)))
def fp (n : Nat) : F6 := ([1, 2, 4, 8, 3, 6, 12, 11, 5, 10, 7, 14, 15, 13, 9] : List F6).getD (n % 15) 0
def fv (a : F6) : F6 := ([0, 1, 9, 14, 13, 11, 7, 6, 15, 2, 12, 5, 10, 4, 3, 8] : List F6).getD a.val 0
theorem fa_com : ∀ a b : F6, fa a b = fa b a := by decide +kernel
theorem fa_ass : ∀ a b c : F6, fa (fa a b) c = fa a (fa b c) := by decide +kernel
theorem fa_0 : ∀ a : F6, fa a 0 = a := by decide +kernel
theorem fa_0' : ∀ a : F6, fa 0 a = a := by decide +kernel
theorem fa_s : ∀ a : F6, fa a a = 0 := by decide +kernel
theorem fa_z : ∀ a b : F6, fa a b = 0 → a = b := by decide +kernel
theorem fm_com : ∀ a b : F6, fm a b = fm b a := by decide +kernel
theorem fm_ass : ∀ a b c : F6, fm (fm a b) c = fm a (fm b c) := by decide +kernel
theorem fm_d : ∀ a b c : F6, fm a (fa b c) = fa (fm a b) (fm a c) := by decide +kernel
theorem fm_d' : ∀ a b c : F6, fm (fa a b) c = fa (fm a c) (fm b c) := by decide +kernel
theorem fm_1 : ∀ a : F6, fm a 1 = a := by decide +kernel
theorem fm_1' : ∀ a : F6, fm 1 a = a := by decide +kernel
theorem fm_0 : ∀ a : F6, fm a 0 = 0 := by decide +kernel
theorem fm_0' : ∀ a : F6, fm 0 a = 0 := by decide +kernel
theorem fm_v : ∀ a : F6, a ≠ 0 → fm a (fv a) = 1 := by decide +kernel
theorem fm_z : ∀ a b : F6, fm a b = 0 → a ≠ 0 → b = 0 := by decide +kernel
theorem fm_zz : ∀ a b : F6, a ≠ 0 → b ≠ 0 → fm a b ≠ 0 := by decide +kernel
theorem fv_nz : ∀ a : F6, a ≠ 0 → fv a ≠ 0 := by decide +kernel
theorem fp_m (n : Nat) : fp (n % 15) = fp n := by unfold fp; rw [Nat.mod_mod]
theorem fp_add0 : ∀ a, a < 15 → ∀ b, b < 15 → fp (a + b) = fm (fp a) (fp b) := by decide +kernel
theorem fp_add (a b : Nat) : fp (a + b) = fm (fp a) (fp b) := by
  rw [← fp_m (a + b), Nat.add_mod, fp_m, fp_add0 _ (Nat.mod_lt _ (by decide)) _ (Nat.mod_lt _ (by decide)), fp_m, fp_m]
theorem fp_inj : ∀ a, a < 14 → ∀ b, b < 14 → fa (fp a) (fp b) = 0 → a = b := by decide +kernel
theorem fp_nz0 : ∀ a, a < 15 → fp a ≠ 0 := by decide +kernel
theorem fp_nz (a : Nat) : fp a ≠ 0 := by rw [← fp_m]; exact fp_nz0 _ (Nat.mod_lt _ (by decide))
theorem fa_4 (a b c e : F6) : fa (fa a b) (fa c e) = fa (fa a c) (fa b e) := by
  rw [fa_ass, fa_ass, ← fa_ass b c e, fa_com b c, fa_ass c b e]
/-- a sum -/
def xs (f : Nat → F6) : Nat → F6
  | 0 => 0
  | k + 1 => fa (xs f k) (f k)
theorem xs_ext {f g : Nat → F6} : ∀ {n : Nat}, (∀ k, k < n → f k = g k) → xs f n = xs g n
  | 0, _ => rfl
  | n + 1, h => by
    unfold xs
    rw [xs_ext (fun k hk => h k (by omega)), h n (by omega)]
theorem xs_0 {f : Nat → F6} : ∀ {n : Nat}, (∀ k, k < n → f k = 0) → xs f n = 0
  | 0, _ => rfl
  | n + 1, h => by
    unfold xs
    rw [xs_0 (fun k hk => h k (by omega)), h n (by omega)]
    rfl
theorem xs_a {f g : Nat → F6} : ∀ {n : Nat}, xs (fun k => fa (f k) (g k)) n = fa (xs f n) (xs g n)
  | 0 => by show (0 : F6) = fa 0 0; decide
  | n + 1 => by
    unfold xs
    rw [xs_a, fa_4]
theorem xs_m {f : Nat → F6} {a : F6} : ∀ {n : Nat}, xs (fun k => fm a (f k)) n = fm a (xs f n)
  | 0 => (fm_0 a).symm
  | n + 1 => by
    unfold xs
    rw [xs_m, fm_d]
theorem xs_1 {f : Nat → F6} {p : Nat} : ∀ {n : Nat}, p < n → (∀ k, k < n → k ≠ p → f k = 0) → xs f n = f p
  | 0, h, _ => absurd h (Nat.not_lt_zero p)
  | n + 1, h, hz => by
    unfold xs
    by_cases e : p = n
    · subst e
      rw [xs_0 (fun k hk => hz k (by omega) (by omega)), fa_0']
    · rw [xs_1 (by omega) (fun k hk => hz k (by omega)), hz n (by omega) (fun q => e q.symm), fa_0]
/-- what weights add to the sums -/
def ev (x : Nat → F6) (j : Nat) : F6 := xs (fun i => fm (x i) (fp (i * j))) 14
theorem ev_a {x y : Nat → F6} {j : Nat} : ev (fun i => fa (x i) (y i)) j = fa (ev x j) (ev y j) := by
  unfold ev
  rw [← xs_a]
  exact xs_ext (fun k _ => fm_d' _ _ _)
/-- a place taken out -/
def can (p : Nat) (s : Nat → F6) : Nat → F6 := fun j => fa (s (j + 1)) (fm (fp p) (s j))
theorem can_ev {p : Nat} {x : Nat → F6} {j : Nat} : can p (ev x) j = ev (fun i => fm (x i) (fa (fp i) (fp p))) j := by
  unfold can ev
  rw [← xs_m, ← xs_a]
  refine xs_ext (fun i _ => ?_)
  show _ = fm (fm (x i) (fa (fp i) (fp p))) (fp (i * j))
  rw [Nat.mul_add, Nat.mul_one, Nat.add_comm (i * j) i, fp_add, fm_d, fm_d', ← fm_ass (x i) (fp i), ← fm_ass (fp p) (x i), fm_com (fp p) (x i)]
theorem can_ext {p c : Nat} {s t : Nat → F6} (h : ∀ j, j < c + 1 → s j = t j) : ∀ j, j < c → can p s j = can p t j := fun j hj => by unfold can; rw [h j (by omega), h (j + 1) (by omega)]
/-- weights on a set that explain the first c sums -/
def Sol (s : Nat → F6) (c S : Nat) (x : Nat → F6) : Prop := (∀ i, S.testBit i = false ∨ 14 ≤ i → x i = 0) ∧ ∀ j, j < c → ev x j = s j
def Sv (s : Nat → F6) (c S : Nat) : Prop := ∃ x, Sol s c S x
theorem indep : ∀ (l : List Nat) (c : Nat) (x : Nat → F6), l.length ≤ c → (∀ i, i ∉ l ∨ 14 ≤ i → x i = 0) → (∀ j, j < c → ev x j = 0) → ∀ i, x i = 0
  | [], _, _, _, hs, _ => fun i => hs i (Or.inl List.not_mem_nil)
  | p :: l, c, x, hl, hs, hz => by
    have hl : l.length + 1 ≤ c := hl
    by_cases hp : 14 ≤ p
    · refine indep l c x (by omega) (fun i hi => ?_) hz
      by_cases e : i = p
      · exact hs i (Or.inr (by omega))
      · rcases hi with hi | hi
        · exact hs i (Or.inl (fun q => (List.mem_cons.mp q).elim e hi))
        · exact hs i (Or.inr hi)
    · have ih := indep l (c - 1) (fun i => fm (x i) (fa (fp i) (fp p))) (by omega) (fun i hi => by
        by_cases e : i = p
        · subst e; show fm _ _ = 0; rw [fa_s, fm_0]
        · show fm _ _ = 0
          rw [show x i = 0 from ?_, fm_0']
          rcases hi with hi | hi
          · exact hs i (Or.inl (fun q => (List.mem_cons.mp q).elim e hi))
          · exact hs i (Or.inr hi)) (fun j hj => by
        rw [← can_ev]
        unfold can
        rw [hz j (by omega), hz (j + 1) (by omega)]
        show fa 0 (fm _ 0) = 0
        rw [fm_0, fa_0])
      have hx : ∀ i, i ≠ p → x i = 0 := fun i hi => by
        by_cases h14 : 14 ≤ i
        · exact hs i (Or.inr h14)
        · have h9 := ih i
          have hne : fa (fp i) (fp p) ≠ 0 := fun q => hi (fp_inj i (by omega) p (by omega) q)
          rw [fm_com] at h9
          exact fm_z _ _ h9 hne
      intro i
      by_cases e : i = p
      · subst e
        have h0 := hz 0 (by omega)
        unfold ev at h0
        rw [xs_1 (p := i) (by omega) (fun k _ hk => by rw [hx k hk, fm_0'])] at h0
        rw [Nat.mul_zero] at h0
        exact (fm_1 (x i)).symm.trans h0
      · exact hx i e
/-- bits of a set below m -/
def nS (S : Nat) : Nat → Nat
  | 0 => 0
  | m + 1 => nS S m + (if S.testBit m then 1 else 0)
theorem nS_t {S m : Nat} (h : S.testBit m = true) : nS S (m + 1) = nS S m + 1 := by rw [nS, if_pos h]
theorem nS_f {S m : Nat} (h : S.testBit m = false) : nS S (m + 1) = nS S m := by rw [nS, if_neg (by rw [h]; decide)]; rfl
theorem nS_le (S : Nat) : ∀ m, nS S m ≤ m
  | 0 => Nat.le_refl 0
  | m + 1 => by
    have := nS_le S m
    unfold nS
    split <;> omega
theorem nS_mono {S : Nat} : ∀ {a b : Nat}, a ≤ b → nS S a ≤ nS S b
  | a, 0, h => by rw [show a = 0 by omega]; exact Nat.le_refl _
  | a, b + 1, h => by
    by_cases e : a = b + 1
    · rw [e]; exact Nat.le_refl _
    · have := nS_mono (S := S) (show a ≤ b by omega)
      have e2 : nS S (b + 1) = nS S b + (if S.testBit b then 1 else 0) := rfl
      rw [e2]
      omega
theorem nS_lt {S i m : Nat} (h : S.testBit i = true) (hi : i < m) : nS S i < nS S m := by
  have := nS_mono (S := S) (show i + 1 ≤ m from hi)
  rw [nS_t h] at this
  omega
theorem nS_list (S : Nat) : ∀ m, ((List.range m).filter (fun i => S.testBit i)).length = nS S m
  | 0 => rfl
  | m + 1 => by
    rw [List.range_succ, List.filter_append, List.length_append, nS_list S m, nS]
    cases h : S.testBit m <;> simp [h]
theorem nS_or (A B : Nat) : ∀ m, nS (A ||| B) m ≤ nS A m + nS B m
  | 0 => Nat.le_refl 0
  | m + 1 => by
    have := nS_or A B m
    unfold nS
    rw [Nat.testBit_or]
    cases A.testBit m <;> cases B.testBit m <;> simp <;> omega
theorem nS_orD {A B : Nat} (h : A &&& B = 0) : ∀ m, nS (A ||| B) m = nS A m + nS B m
  | 0 => rfl
  | m + 1 => by
    have := nS_orD h m
    have hb : (A &&& B).testBit m = false := by rw [h]; exact Nat.zero_testBit m
    rw [Nat.testBit_and] at hb
    unfold nS
    rw [Nat.testBit_or]
    cases h1 : A.testBit m <;> cases h2 : B.testBit m <;> simp [h1, h2] at hb ⊢ <;> omega
theorem nS_sub {A B : Nat} : ∀ {m : Nat}, (∀ i, i < m → A.testBit i = true → B.testBit i = true) → nS A m ≤ nS B m
  | 0, _ => Nat.le_refl 0
  | m + 1, h => by
    have ih := nS_sub (A := A) (B := B) (m := m) (fun i hi => h i (by omega))
    have hm := h m (by omega)
    unfold nS
    cases h1 : A.testBit m
    · simp; omega
    · rw [hm h1]; simp; omega
theorem nS_eq {A B : Nat} : ∀ {m : Nat}, (∀ i, i < m → A.testBit i = true → B.testBit i = true) → nS B m ≤ nS A m → ∀ i, i < m → B.testBit i = true → A.testBit i = true
  | 0, _, _, i, hi, _ => absurd hi (Nat.not_lt_zero i)
  | m + 1, h, hc, i, hi, hb => by
    have ih := nS_sub (A := A) (B := B) (m := m) (fun i hi => h i (by omega))
    have hm := h m (by omega)
    unfold nS at hc
    by_cases e : i = m
    · subst e
      cases h1 : A.testBit i
      · rw [h1, hb] at hc; simp at hc; omega
      · rfl
    · refine nS_eq (m := m) (fun k hk => h k (by omega)) ?_ i (by omega) hb
      cases h1 : A.testBit m
      · rw [h1] at hc; simp at hc; omega
      · rw [h1, hm h1] at hc; simp at hc; omega
/-- one set's weights alone -/
theorem Sol_one {s : Nat → F6} {c A B : Nat} {x y : Nat → F6} (h : Sol s c A x) (k : Sol s c B y) (hc : nS (A ||| B) 14 ≤ c) : ∀ i, x i = y i := by
  intro i
  refine fa_z _ _ (indep ((List.range 14).filter (fun i => (A ||| B).testBit i)) c (fun i => fa (x i) (y i)) (by rw [nS_list]; exact hc) (fun i hi => ?_) (fun j hj => ?_) i)
  · have hor : (A ||| B).testBit i = false ∨ 14 ≤ i := by
      rcases hi with hi | hi
      · rcases Nat.lt_or_ge i 14 with q | q
        · refine Or.inl ?_
          cases hb : (A ||| B).testBit i
          · rfl
          · exact absurd (List.mem_filter.mpr ⟨List.mem_range.mpr q, hb⟩) hi
        · exact Or.inr q
      · exact Or.inr hi
    have hx : x i = 0 ∧ y i = 0 := by
      rcases hor with q | q
      · rw [Nat.testBit_or, Bool.or_eq_false_iff] at q
        exact ⟨h.1 i (Or.inl q.1), k.1 i (Or.inl q.2)⟩
      · exact ⟨h.1 i (Or.inr q), k.1 i (Or.inr q)⟩
    show fa (x i) (y i) = 0
    rw [hx.1, hx.2]
    rfl
  · rw [ev_a, h.2 j hj, k.2 j hj, fa_s]
theorem Sol_sub {s : Nat → F6} {c A B : Nat} {x : Nat → F6} (h : Sol s c A x) (hz : ∀ i, i < 14 → B.testBit i = false → x i = 0) : Sol s c B x := ⟨fun i hi => by
  rcases Nat.lt_or_ge i 14 with q | q
  · exact hi.elim (hz i q) (fun z => absurd z (by omega))
  · exact h.1 i (Or.inr q), h.2⟩
/-- what decoding finds -/
def DecR (s : Nat → F6) (c z er : Nat) : Option (Nat × (Nat → F6)) → Prop
  | none => ∀ E, E < 2 ^ z → E &&& er = 0 → 2 * nS E 14 + nS er 14 ≤ c → ¬ Sv s c (E ||| er)
  | some (E, x) => (E < 2 ^ z ∧ E &&& er = 0 ∧ 2 * nS E 14 + nS er 14 ≤ c) ∧ Sol s c (E ||| er) x ∧ ∀ F, F < 2 ^ z → F &&& er = 0 → nS F 14 < nS E 14 → ¬ Sv s c (F ||| er)
theorem DecR_one {s : Nat → F6} {c z er : Nat} (hz : z ≤ 14) {r q : Option (Nat × (Nat → F6))} (hr : DecR s c z er r) (hq : DecR s c z er q) : r = q := by
  have main : ∀ {E E' : Nat} {x x' : Nat → F6}, DecR s c z er (some (E, x)) → DecR s c z er (some (E', x')) → nS E 14 ≤ nS E' 14 ∧ (∀ i, x i = x' i) ∧ ∀ i, i < 14 → E.testBit i = true → E'.testBit i = true := by
    intro E E' x x' h1 h2
    obtain ⟨⟨a1, a2, a3⟩, a4, a5⟩ := h1
    obtain ⟨⟨b1, b2, b3⟩, b4, b5⟩ := h2
    have hle : nS E 14 ≤ nS E' 14 := Nat.le_of_not_lt (fun q => a5 E' b1 b2 q ⟨x', b4⟩)
    have hge : nS E' 14 ≤ nS E 14 := Nat.le_of_not_lt (fun q => b5 E a1 a2 q ⟨x, a4⟩)
    have hx : ∀ i, x i = x' i := Sol_one a4 b4 (by
      have e : (E ||| er) ||| (E' ||| er) = (E ||| E') ||| er := by
        apply Nat.eq_of_testBit_eq
        intro i
        simp only [Nat.testBit_or]
        cases E.testBit i <;> cases E'.testBit i <;> cases er.testBit i <;> rfl
      rw [e]
      have u1 := nS_or (E ||| E') er 14
      have u2 := nS_or E E' 14
      omega)
    refine ⟨hle, hx, fun i hi hb => ?_⟩
    have hF : (E &&& E') &&& er = 0 := by
      apply Nat.eq_of_testBit_eq
      intro i
      have : (E &&& er).testBit i = false := by rw [a2]; exact Nat.zero_testBit i
      simp only [Nat.testBit_and, Nat.zero_testBit] at this ⊢
      revert this
      cases E.testBit i <;> cases E'.testBit i <;> cases er.testBit i <;> simp
    have hFs : Sol s c ((E &&& E') ||| er) x := Sol_sub a4 (fun i hi hb => by
      rw [Nat.testBit_or, Nat.testBit_and] at hb
      by_cases q1 : (E ||| er).testBit i = false
      · exact a4.1 i (Or.inl q1)
      · by_cases q2 : (E' ||| er).testBit i = false
        · rw [hx i]; exact b4.1 i (Or.inl q2)
        · rw [Nat.testBit_or] at q1 q2
          revert hb q1 q2
          cases E.testBit i <;> cases E'.testBit i <;> cases er.testBit i <;> simp)
    have hFl : nS E 14 ≤ nS (E &&& E') 14 := Nat.le_of_not_lt (fun q => a5 (E &&& E') (Nat.lt_of_le_of_lt Nat.and_le_left a1) hF q ⟨x, hFs⟩)
    have := nS_eq (A := E &&& E') (B := E) (m := 14) (fun i _ hb => by rw [Nat.testBit_and, Bool.and_eq_true] at hb; exact hb.1) hFl i hi hb
    rw [Nat.testBit_and, Bool.and_eq_true] at this
    exact this.2
  cases r with
  | none =>
    cases q with
    | none => rfl
    | some q =>
      obtain ⟨E, x⟩ := q
      exact absurd ⟨x, hq.2.1⟩ (hr E hq.1.1 hq.1.2.1 hq.1.2.2)
  | some r =>
    obtain ⟨E, x⟩ := r
    cases q with
    | none => exact absurd ⟨x, hr.2.1⟩ (hq E hr.1.1 hr.1.2.1 hr.1.2.2)
    | some q =>
      obtain ⟨E', x'⟩ := q
      have m1 := main hr hq
      have m2 := main hq hr
      have hp : ∀ {A : Nat}, A < 2 ^ z → ∀ i, 14 ≤ i → A.testBit i = false := fun hA i hi => Nat.testBit_lt_two_pow (Nat.lt_of_lt_of_le hA (Nat.pow_le_pow_right (by decide) (by omega)))
      have e1 : E = E' := by
        apply Nat.eq_of_testBit_eq
        intro i
        rcases Nat.lt_or_ge i 14 with q | q
        · cases h1 : E.testBit i <;> cases h2 : E'.testBit i
          · rfl
          · rw [m2.2.2 i q h2] at h1; cases h1
          · rw [m1.2.2 i q h1] at h2; cases h2
          · rfl
        · rw [hp hr.1.1 i q, hp hq.1.1 i q]
      have e2 : x = x' := funext m1.2.1
      rw [e1, e2]

