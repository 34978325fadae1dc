/-! ===== a place taken out and put back; a file entered ===== -/
theorem can_a {p j : Nat} {s t : Nat → F6} : can p (fun i => fa (s i) (t i)) j = fa (can p s j) (can p t j) := by
  unfold can
  rw [fm_d, fa_4]
theorem Sv_back {p c S : Nat} {s : Nat → F6} (hp : p < 14) (hS : S.testBit p = false) (h : Sv (can p s) c S) : Sv s (c + 1) (S ||| 2 ^ p) := by
  obtain ⟨y, hy1, hy2⟩ := h
  have hx1 : ∀ i, fm (if S.testBit i = true ∧ i < 14 then fm (y i) (fv (fa (fp i) (fp p))) else 0) (fa (fp i) (fp p)) = y i := fun i => by
    by_cases q : S.testBit i = true ∧ i < 14
    · have hne : fa (fp i) (fp p) ≠ 0 := fun z => by
        have := fp_inj i q.2 p hp z
        rw [this, hS] at q
        exact absurd q.1 (by decide)
      rw [if_pos q, fm_ass, fm_com (fv _), fm_v _ hne, fm_1]
    · rw [if_neg q, fm_0']
      refine (hy1 i ?_).symm
      rcases Nat.lt_or_ge i 14 with z | z
      · left
        cases hb : S.testBit i
        · rfl
        · exact absurd ⟨hb, z⟩ q
      · exact Or.inr z
  have hc : ∀ j, j < c → can p (fun j => fa (s j) (ev (fun i => if S.testBit i = true ∧ i < 14 then fm (y i) (fv (fa (fp i) (fp p))) else 0) j)) j = 0 := fun j hj => by
    rw [can_a, can_ev, ← hy2 j hj]
    have e : ev (fun i => fm (if S.testBit i = true ∧ i < 14 then fm (y i) (fv (fa (fp i) (fp p))) else 0) (fa (fp i) (fp p))) j = ev y j := by
      unfold ev
      exact xs_ext (fun i _ => congrArg (fun z => fm z (fp (i * j))) (hx1 i))
    rw [e, fa_s]
  have ht : ∀ j, j < c + 1 → fa (s j) (ev (fun i => if S.testBit i = true ∧ i < 14 then fm (y i) (fv (fa (fp i) (fp p))) else 0) j) = fm (fa (s 0) (ev (fun i => if S.testBit i = true ∧ i < 14 then fm (y i) (fv (fa (fp i) (fp p))) else 0) 0)) (fp (p * j)) := by
    intro j
    induction j with
    | zero => intro _; rw [Nat.mul_zero]; exact (fm_1 _).symm
    | succ j ih =>
      intro hj
      have h1 := fa_z _ _ (hc j (by omega))
      have h2 := ih (by omega)
      rw [Nat.mul_add, Nat.mul_one, fp_add, fm_com (fp (p * j)), ← fm_ass, fm_com _ (fp p), fm_ass, ← h2]
      exact h1
  refine ⟨fun i => fa (if S.testBit i = true ∧ i < 14 then fm (y i) (fv (fa (fp i) (fp p))) else 0) (if i = p then fa (s 0) (ev (fun i => if S.testBit i = true ∧ i < 14 then fm (y i) (fv (fa (fp i) (fp p))) else 0) 0) else 0), fun i hi => ?_, fun j hj => ?_⟩
  · have h1 : ¬ (S.testBit i = true ∧ i < 14) := fun q => by
      rcases hi with hi | hi
      · rw [Nat.testBit_or, q.1] at hi; cases hi
      · omega
    have h2 : i ≠ p := fun q => by
      rcases hi with hi | hi
      · rw [Nat.testBit_or, q, Nat.testBit_two_pow_self, Bool.or_true] at hi; cases hi
      · omega
    show fa (if _ then _ else _) (if _ then _ else _) = 0
    rw [if_neg h1, if_neg h2]
    rfl
  · rw [ev_a]
    have e : ev (fun i => if i = p then fa (s 0) (ev (fun i => if S.testBit i = true ∧ i < 14 then fm (y i) (fv (fa (fp i) (fp p))) else 0) 0) else 0) j = fm (fa (s 0) (ev (fun i => if S.testBit i = true ∧ i < 14 then fm (y i) (fv (fa (fp i) (fp p))) else 0) 0)) (fp (p * j)) := by
      rw [show ∀ z : F6, ev (fun i => if i = p then z else 0) j = fm z (fp (p * j)) from fun z => by
        show xs (fun i => fm (if i = p then z else 0) (fp (i * j))) 14 = _
        rw [xs_1 (p := p) hp (fun k _ hk => by rw [if_neg hk, fm_0'])]
        rw [if_pos rfl]]
    rw [e, ← ht j hj, fa_com (s j), ← fa_ass, fa_s, fa_0']
theorem Sv_fwd {p c S : Nat} {s : Nat → F6} (hS : S.testBit p = false) (h : Sv s (c + 1) (S ||| 2 ^ p)) : Sv (can p s) c S := by
  obtain ⟨x, hx1, hx2⟩ := h
  refine ⟨fun i => fm (x i) (fa (fp i) (fp p)), fun i hi => ?_, fun j hj => ?_⟩
  · by_cases e : i = p
    · show fm (x i) _ = 0
      rw [e, fa_s, fm_0]
    · show fm (x i) _ = 0
      rw [hx1 i ?_, fm_0']
      rcases hi with hi | hi
      · left
        rw [Nat.testBit_or, hi, Nat.testBit_two_pow_of_ne (fun q => e q.symm)]
        rfl
      · exact Or.inr hi
  · rw [← can_ev]
    exact can_ext (c := c) hx2 j hj
theorem two_or (c : Nat) : 2 ^ (c + 1) - 1 = (2 ^ c - 1) ||| 2 ^ c := by
  apply Nat.eq_of_testBit_eq
  intro i
  rw [Nat.testBit_or, Nat.testBit_two_pow_sub_one, Nat.testBit_two_pow_sub_one]
  by_cases e : i = c
  · subst e; simp [Nat.testBit_two_pow_self]
  · rw [Nat.testBit_two_pow_of_ne (fun q => e q.symm), Bool.or_false]
    by_cases q : i < c
    · simp [q, Nat.lt_succ_of_lt q]
    · have : ¬ i < c + 1 := by omega
      simp [q, this]
theorem Sv_full : ∀ (c : Nat) (s : Nat → F6), c ≤ 14 → Sv s c (2 ^ c - 1)
  | 0, s, _ => ⟨fun _ => 0, fun _ _ => rfl, fun j hj => absurd hj (Nat.not_lt_zero j)⟩
  | c + 1, s, h => by
    rw [two_or]
    exact Sv_back (by omega) (by rw [Nat.testBit_two_pow_sub_one]; simp) (Sv_full c (can c s) (by omega))
/-- the weights that check symbols take -/
noncomputable def stX (s : Nat → F6) (c : Nat) : Nat → F6 := Classical.epsilon (Sol s c (2 ^ c - 1))
theorem stX_sol (s : Nat → F6) {c : Nat} (h : c ≤ 14) : Sol s c (2 ^ c - 1) (stX s c) := Classical.epsilon_spec (Sv_full c s h)
theorem nS_full : ∀ c, c < 15 → nS (2 ^ c - 1) 14 = c := by decide +kernel
theorem enc_one {s : Nat → F6} {c z : Nat} (hc : c ≤ 14) (hz : z ≤ 14) {r : Option (Nat × (Nat → F6))} (h : DecR s c z (2 ^ c - 1) r) : r = some (0, stX s c) := by
  have hs : Sv s c (0 ||| (2 ^ c - 1)) := by rw [Nat.zero_or]; exact Sv_full c s hc
  have h0 : nS 0 14 = 0 := by decide
  cases r with
  | none => exact absurd hs (h 0 (Nat.pow_pos (by decide)) (Nat.zero_and _) (by rw [nS_full c (by omega), h0]; omega))
  | some r =>
    obtain ⟨E, x⟩ := r
    obtain ⟨⟨h1, h2, h3⟩, h4, h5⟩ := h
    rw [nS_full c (by omega)] at h3
    have hE : nS E 14 = 0 := by omega
    have hx : ∀ i, x i = stX s c i := Sol_one h4 (stX_sol s hc) (by
      have e : (E ||| (2 ^ c - 1)) ||| (2 ^ c - 1) = E ||| (2 ^ c - 1) := by
        apply Nat.eq_of_testBit_eq
        intro i
        simp only [Nat.testBit_or]
        cases E.testBit i <;> simp
      rw [e]
      have := nS_or E (2 ^ c - 1) 14
      rw [nS_full c (by omega)] at this
      omega)
    rw [nS_none (Nat.lt_of_lt_of_le h1 (p14 hz)) hE, funext hx]
theorem rn_free {V : Nat → Nat} {m : Nat} : ∀ {c : Nat}, rn V (c + 1) = m → ∀ x, c + 1 - m ≤ x → x ≤ c → own V x = none
  | c, h, x, h1, h2 => by
    by_cases ho : own V c = none
    · rw [rn, if_pos ho] at h
      by_cases e : x = c
      · rw [e]; exact ho
      · cases c with
        | zero => omega
        | succ c => exact rn_free (m := m - 1) (c := c) (by omega) x (by omega) (by omega)
    · rw [rn, if_neg ho] at h
      omega
theorem arI_ok {V : Nat → Nat} {m : Nat} (h : (0 : Int32) ≤ arI V m) : ∃ fs, arI V m = nI fs ∧ fs + m ≤ 240 ∧ ∀ x, fs ≤ x → x < fs + m → own V x = none := by
  unfold arI at h ⊢
  cases hf : (List.range 240).find? (fun c => decide (rn V (c + 1) = m)) with
  | none => rw [hf] at h; exact absurd (show (0 : Int32) ≤ -1 from h) (by decide)
  | some c =>
    have hf0 := hf
    rw [List.find?_range_eq_some] at hf
    have hc := List.mem_range.mp hf.2.1
    have hr := of_decide_eq_true hf.1
    have hl := rn_le V (c + 1)
    exact ⟨c + 1 - m, rfl, by omega, fun x h1 h2 => rn_free hr x h1 (by omega)⟩
/-- a file entered -/
def enV (V : Nat → Nat) (f n c dp fs sl : Nat) : Nat → Nat := uV (uV (uV (uV (uV (uV V (10 * f) 1) (10 * f + 1) n) (10 * f + 2) c) (10 * f + 3) dp) (10 * f + 5) fs) (10 * f + 4) sl
theorem enV_o {V : Nat → Nat} {f n c dp fs sl k : Nat} (hk : k < 10 * f ∨ 10 * f + 6 ≤ k) : enV V f n c dp fs sl k = V k := by
  unfold enV
  rw [uV_n (by omega), uV_n (by omega), uV_n (by omega), uV_n (by omega), uV_n (by omega), uV_n (by omega)]
theorem enV_f {V : Nat → Nat} {f n c dp fs sl : Nat} : enV V f n c dp fs sl (10 * f) = 1 ∧ enV V f n c dp fs sl (10 * f + 1) = n ∧ enV V f n c dp fs sl (10 * f + 2) = c ∧ enV V f n c dp fs sl (10 * f + 3) = dp ∧ enV V f n c dp fs sl (10 * f + 4) = sl ∧ enV V f n c dp fs sl (10 * f + 5) = fs := by
  unfold enV uV
  refine ⟨?_, ?_, ?_, ?_, ?_, ?_⟩
  · rw [if_neg (by omega), if_neg (by omega), if_neg (by omega), if_neg (by omega), if_neg (by omega), if_pos rfl]
  · rw [if_neg (by omega), if_neg (by omega), if_neg (by omega), if_neg (by omega), if_pos rfl]
  · rw [if_neg (by omega), if_neg (by omega), if_neg (by omega), if_pos rfl]
  · rw [if_neg (by omega), if_neg (by omega), if_pos rfl]
  · rw [if_pos rfl]
  · rw [if_neg (by omega), if_pos rfl]
theorem en_geo {V : Nat → Nat} {f n c dp fs sl : Nat} : bl (enV V f n c dp fs sl) f = (n + 7) / 8 ∧ sz (enV V f n c dp fs sl) f = c + 8 ∧ ce (enV V f n c dp fs sl) f = (n + 7) / 8 * (c + 8) := by
  have e := enV_f (V := V) (f := f) (n := n) (c := c) (dp := dp) (fs := fs) (sl := sl)
  have h1 : bl (enV V f n c dp fs sl) f = (n + 7) / 8 := by unfold bl; rw [e.2.1]
  have h2 : sz (enV V f n c dp fs sl) f = c + 8 := by unfold sz; rw [e.2.2.1]
  exact ⟨h1, h2, by unfold ce; rw [h1, h2]⟩
theorem WF_en {V : Nat → Nat} {f n c dp fs sl : Nat} (h : WF V) (hf : f < 8) (h0 : ¬ V (10 * f) = 1) (hn : 1 ≤ n ∧ n ≤ 32) (hc : 1 ≤ c ∧ c ≤ 6) (hd : 1 ≤ dp ∧ dp ≤ 4) (hs : sl ≤ 250) (hfs : fs + (n + 7) / 8 * (c + 8) ≤ 240) (hfree : ∀ x, fs ≤ x → x < fs + (n + 7) / 8 * (c + 8) → own V x = none) : WF (enV V f n c dp fs sl) := by
  obtain ⟨e0, e1, e2, e3, e4, e5⟩ := enV_f (V := V) (f := f) (n := n) (c := c) (dp := dp) (fs := fs) (sl := sl)
  have g := en_geo (V := V) (f := f) (n := n) (c := c) (dp := dp) (fs := fs) (sl := sl)
  have o : ∀ j, j ≠ f → ∀ k, k < 10 → enV V f n c dp fs sl (10 * j + k) = V (10 * j + k) := fun j hj k hk => enV_o (by omega)
  have e8 : enV V f n c dp fs sl 800 = V 800 := enV_o (by omega)
  have hm : 9 ≤ (n + 7) / 8 * (c + 8) := Nat.le_trans (show 9 ≤ 1 * (c + 8) by omega) (Nat.mul_le_mul_right _ (by omega))
  have sep : ∀ j, j < 8 → j ≠ f → V (10 * j) = 1 → fs + (n + 7) / 8 * (c + 8) ≤ V (10 * j + 5) ∨ V (10 * j + 5) + ce V j ≤ fs := fun j hj hjf h1 => by
    rcases Nat.lt_or_ge (V (10 * j + 5)) (fs + (n + 7) / 8 * (c + 8)) with q | q
    · rcases Nat.lt_or_ge fs (V (10 * j + 5) + ce V j) with w | w
      · exfalso
        have hcp := ce_pos (h.1 j hj) h1
        rcases Nat.lt_or_ge fs (V (10 * j + 5)) with z | z
        · exact own_no (hfree (V (10 * j + 5)) (by omega) q) j hj ⟨h1, Nat.le_refl _, by omega⟩
        · exact own_no (hfree fs (Nat.le_refl _) (by omega)) j hj ⟨h1, z, w⟩
      · exact Or.inr w
    · exact Or.inl q
  refine ⟨fun j hj => ?_, fun i j hi hj hne h1 h2 => ?_, by rw [e8]; exact h.2.2.1, fun x hx => by rw [enV_o (by omega), enV_o (by omega), enV_o (by omega)]; exact h.2.2.2 x hx⟩
  · by_cases e : j = f
    · subst e
      have hz := (h.1 j hj).2.2.2.2.2.2.2.1 (by have := (h.1 j hj).1; omega)
      refine ⟨by rw [e0]; decide, by rw [e1]; exact hn.2, by rw [e2]; exact hc.2, by rw [e3]; exact hd.2, by rw [e4]; exact hs, by rw [e5]; omega, fun b hb => ?_, fun q => ?_, fun _ => ?_⟩
      · rw [enV_o (by omega), e8, show 10 * j + 6 + b = 10 * j + (6 + b) by omega, hz (6 + b) (by omega)]; exact Nat.zero_le _
      · rw [e0] at q; exact absurd q (by decide)
      · rw [e1, e2, e3, e5, g.2.2]; exact ⟨hn.1, hc.1, hd.1, hfs⟩
    · exact WFj_ext (h.1 j hj) (o j e) (by rw [e8]; exact Nat.le_refl _)
  · by_cases ei : i = f
    · subst ei
      have hj1 : V (10 * j) = 1 := (o j (fun q => hne q.symm) 0 (by decide)).symm.trans h2
      rw [e5, g.2.2, o j (fun q => hne q.symm) 5 (by decide), (bl_ext (o j (fun q => hne q.symm))).2.2]
      exact sep j hj (fun q => hne q.symm) hj1
    · by_cases ej : j = f
      · subst ej
        have hi1 : V (10 * i) = 1 := (o i ei 0 (by decide)).symm.trans h1
        rw [e5, g.2.2, o i ei 5 (by decide), (bl_ext (o i ei)).2.2]
        exact (sep i hi ei hi1).symm
      · rw [o i ei 5 (by decide), o j ej 5 (by decide), (bl_ext (o i ei)).2.2, (bl_ext (o j ej)).2.2]
        exact h.2.1 i j hi hj hne ((o i ei 0 (by decide)).symm.trans h1) ((o j ej 0 (by decide)).symm.trans h2)

