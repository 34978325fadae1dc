/-! ===== class and reference stand alike ===== -/
def KC (I : Nat → Nat → Int32) : Option ((Nat → Nat) × (Nat → Int32)) → Prop
  | none => I 3 10 = nI 0
  | some s => I 3 10 = nI 1 ∧ Snap I 16 s.1 s.2
def KM (I : Nat → Nat → Int32) : Option ((Nat → Nat) × (Nat → Int32)) → Prop
  | none => I 114 6 = nI 0
  | some s => I 114 6 = nI 1 ∧ Snp (I 116) s
def CR (I : Nat → Nat → Int32) (V : Nat → Nat) (C : Nat → Int32) (H : hT) (m : Nat) (T : Nat → Nat) (t : Nat) (e : Int32) (K : Option ((Nat → Nat) × (Nat → Int32))) (l : Nat) (Ls : Nat → Int32) : Prop := (∃ o, Cs I V C H m o) ∧ (Tx I 39 T t ∧ I 3 7 = nI t) ∧ I 3 9 = e ∧ KC I K ∧ I 3 8 = nI l ∧ ∀ i, i < 4 * l → I 40 i = Ls i
def MR (I : Nat → Nat → Int32) (V : Nat → Nat) (C : Nat → Int32) (H : hT) (m : Nat) (T : Nat → Nat) (t : Nat) (e : Int32) (K : Option ((Nat → Nat) × (Nat → Int32))) (l : Nat) (Ls : Nat → Int32) : Prop := Md I V C H m ∧ (Tx I 118 T t ∧ I 114 8 = nI t) ∧ I 114 5 = e ∧ KM I K ∧ (I 114 10 = nI l ∧ ∀ i, i < 4 * l → I 119 i = Ls i) ∧ MX I
def WR (V : Nat → Nat) (H : hT) (m : Nat) (K : Option ((Nat → Nat) × (Nat → Int32))) (l : Nat) : Prop := WF V ∧ (∀ k, k < m → WF (H k).1) ∧ (∀ s, K = some s → WF s.1) ∧ l ≤ 32
def Rl (I : Nat → Nat → Int32) (V : Nat → Nat) (C : Nat → Int32) (H : hT) (m : Nat) (T : Nat → Nat) (t : Nat) (e : Int32) (K : Option ((Nat → Nat) × (Nat → Int32))) (l : Nat) (Ls : Nat → Int32) : Prop := Kt I ∧ WR V H m K l ∧ CR I V C H m T t e K l Ls ∧ MR I V C H m T t e K l Ls
/-- class and reference hold the same -/
def Rel (I : Nat → Nat → Int32) : Prop := ∃ V C H m T t e K l Ls, Rl I V C H m T t e K l Ls
section
variable {I J : Nat → Nat → Int32} {V : Nat → Nat} {C : Nat → Int32} {H : hT} {m : Nat} {T : Nat → Nat} {t : Nat} {e : Int32} {K : Option ((Nat → Nat) × (Nat → Int32))} {l : Nat} {Ls : Nat → Int32}
theorem Rl.rel (h : Rl I V C H m T t e K l Ls) : Rel I := ⟨V, C, H, m, T, t, e, K, l, Ls, h⟩
theorem Rl.S (h : Rl I V C H m T t e K l Ls) : Snap I 4 V C := by
  obtain ⟨o, ho⟩ := h.2.2.1.1
  exact ho.1
theorem Rl.W (h : Rl I V C H m T t e K l Ls) : WF V := h.2.1.1
theorem Rl.Vv (h : Rl I V C H m T t e K l Ls) : Vok I V := h.2.2.2.1.1.1
theorem Rl.X (h : Rl I V C H m T t e K l Ls) : MX I := h.2.2.2.2.2.2.2.2
theorem Rl.M (h : Rl I V C H m T t e K l Ls) : Md I V C H m := h.2.2.2.1
theorem KC.f (h : KC I K) (e1 : ∀ a, 16 ≤ a → a < 28 → J a = I a) (e2 : J 3 10 = I 3 10) : KC J K := by
  cases K with
  | none => exact e2.trans h
  | some s => exact ⟨e2.trans h.1, h.2.s (fun i hi => e1 _ (by omega) (by omega))⟩
theorem KM.f (h : KM I K) (e1 : J 116 = I 116) (e2 : J 114 6 = I 114 6) : KM J K := by
  cases K with
  | none => exact e2.trans h
  | some s => exact ⟨e2.trans h.1, by rw [e1]; exact h.2⟩
theorem CR.f (h : CR I V C H m T t e K l Ls) {V2 : Nat → Nat} {C2 : Nat → Int32} {H2 : hT} {m2 : Nat} (hC : ∃ o, Cs J V2 C2 H2 m2 o) (e1 : ∀ a, (16 ≤ a ∧ a < 28) ∨ a = 39 ∨ a = 40 → J a = I a) (e2 : ∀ j, j = 7 ∨ j = 8 ∨ j = 9 ∨ j = 10 → J 3 j = I 3 j) : CR J V2 C2 H2 m2 T t e K l Ls := by
  obtain ⟨-, ⟨h2, h3⟩, h4, h5, h6, h7⟩ := h
  exact ⟨hC, ⟨h2.s (e1 39 (by omega)), (e2 7 (by omega)).trans h3⟩, (e2 9 (by omega)).trans h4, h5.f (fun a g1 g2 => e1 a (by omega)) (e2 10 (by omega)), (e2 8 (by omega)).trans h6, fun i hi => by rw [e1 40 (by omega)]; exact h7 i hi⟩
theorem MR.f (h : MR I V C H m T t e K l Ls) {V2 : Nat → Nat} {C2 : Nat → Int32} {H2 : hT} {m2 : Nat} (hM : Md J V2 C2 H2 m2) (e1 : J 116 = I 116 ∧ J 118 = I 118 ∧ J 119 = I 119 ∧ J 120 = I 120 ∧ J 121 = I 121 ∧ J 122 = I 122) (e2 : ∀ j, j = 5 ∨ j = 6 ∨ j = 8 ∨ j = 10 → J 114 j = I 114 j) (hR : ∃ M, Rw J M) : MR J V2 C2 H2 m2 T t e K l Ls := by
  obtain ⟨-, ⟨h2, h3⟩, h4, h5, ⟨h6, h7⟩, h8⟩ := h
  obtain ⟨q1, q2, q3, q4, q5, q6⟩ := e1
  refine ⟨hM, ⟨h2.s q2, (e2 8 (by omega)).trans h3⟩, (e2 5 (by omega)).trans h4, h5.f q1 (e2 6 (by omega)), ⟨(e2 10 (by omega)).trans h6, fun i hi => by rw [q3]; exact h7 i hi⟩, ⟨?_, hR⟩⟩
  exact ⟨fun x y => by rw [q4]; exact h8.1.1 x y, fun k hk => by rw [q5]; exact h8.1.2.1 k hk, fun x hx => by rw [q6]; exact h8.1.2.2 x hx⟩
theorem Md.hi {V : Nat → Nat} {C : Nat → Int32} {H : hT} {m : Nat} (h : Md I V C H m) (e1 : J 114 4 = I 114 4) (e2 : J 115 = I 115) (e3 : J 117 = I 117) : Md J V C H m := ⟨⟨fun k hk => by rw [e2]; exact h.1.1 k hk, fun k hk => by rw [e2]; exact h.1.2 k hk⟩, e1.trans h.2.1, h.2.2.1, h.2.2.2.s e3⟩
theorem MR.hi (h : MR I V C H m T t e K l Ls) (e9 : ∀ a, 114 ≤ a → J a = I a) : MR J V C H m T t e K l Ls := h.f (h.1.hi (by rw [e9 114 (by decide)]) (e9 115 (by decide)) (e9 117 (by decide))) ⟨e9 _ (by decide), e9 _ (by decide), e9 _ (by decide), e9 _ (by decide), e9 _ (by decide), e9 _ (by decide)⟩ (fun j _ => by rw [e9 114 (by decide)]) (by
  obtain ⟨M, hM⟩ := h.2.2.2.2.2.2
  exact ⟨M, hM.s (e9 128 (by decide))⟩)
theorem Cs.hi {o : Nat} (h : Cs I V C H m o) (e : ∀ a, 3 ≤ a → a < 114 → J a = I a) : Cs J V C H m o := h.f (h.1.f (fun a h1 h2 => e a (by omega) (by omega))) (fun a h1 h2 => e a (by omega) h2) (by rw [e 3 (by decide) (by decide)]) (by rw [e 3 (by decide) (by decide)])
theorem CR.lo (h : CR I V C H m T t e K l Ls) (e9 : ∀ a, 3 ≤ a → a < 114 → J a = I a) : CR J V C H m T t e K l Ls := h.f (by
  obtain ⟨o, ho⟩ := h.1
  exact ⟨o, ho.hi e9⟩) (fun a ha => e9 a (by omega) (by omega)) (fun j _ => by rw [e9 3 (by decide) (by decide)])
theorem Rl.q (h : Rl I V C H m T t e K l Ls) (k : Qs I J) : Rl J V C H m T t e K l Ls := by
  obtain ⟨h1, h2, h3, h4⟩ := h
  refine ⟨k.k h1, h2, h3.f ?_ (fun a ha => k a (by intro q; simp at q; omega)) (fun j _ => by rw [k 3 (by decide)]), h4.hi (fun a ha => k a (by intro q; simp at q; omega))⟩
  obtain ⟨o, ho⟩ := h3.1
  exact ⟨o, k.c ho⟩
theorem Rl.qf {x : Nat} (h : Rl I V C H m T t e K l Ls) (k : QF I J x) : Rl J V C H m T t e K l Ls := by
  obtain ⟨h1, h2, h3, h4⟩ := h
  obtain ⟨k1, k2, k3, k4⟩ := k
  have lo : ∀ a, a < 114 → J a = I a := fun a ha => k1 a (by intro q; simp at q; omega)
  refine ⟨h1.e (lo 1 (by decide)) (lo 2 (by decide)), h2, h3.lo (fun a _ ha => lo a ha), h4.f (h4.1.hi (k2 4 (by decide)) (k1 115 (by decide)) (k1 117 (by decide))) ⟨k1 116 (by decide), k1 118 (by decide), k1 119 (by decide), k1 120 (by decide), k1 121 (by decide), k1 122 (by decide)⟩ (fun j hj => k2 j (by intro q; simp at q; omega)) k4⟩
theorem WF_push {s : (Nat → Nat) × (Nat → Int32)} (h : ∀ k, k < m → WF (H k).1) (hs : WF s.1) (hm : m ≤ 6) : ∀ k, k < pm m → WF (push H m s k).1 := fun k hk => by
  by_cases h6 : m = 6
  · subst h6
    rw [push_6]
    rw [pm_6] at hk
    by_cases e : k = 5
    · rw [if_pos e]; exact hs
    · rw [if_neg e]; exact h (k + 1) (by omega)
  · rw [push_n h6]
    rw [pm_n h6] at hk
    by_cases e : k = m
    · rw [if_pos e]; exact hs
    · rw [if_neg e]; exact h k (by omega)
theorem Rl.m6 (h : Rl I V C H m T t e K l Ls) : m ≤ 6 := h.2.2.2.1.2.2.1
theorem Rl.P (h : Rl I V C H m T t e K l Ls) : ∀ k, k < pm m → WF (push H m (V, C) k).1 := WF_push h.2.1.2.1 h.2.1.1 h.m6
end
/-! a call of both -/
def oV (es : List String) : Int32 ⊕ Nat → Option Value ⊕ String
  | .inl v => .inl (some (.int v))
  | .inr k => .inr (es.getD k "")
def cdO : Int32 ⊕ Nat → Nat
  | .inl _ => 0
  | .inr k => k + 1
def Bt (G : gG) (n : Nat) (I : Nat → Nat → Int32) (YX YM : gY) (es : List String) (av : List Value) : Prop := ∃ (o : Int32 ⊕ Nat) (P : (Nat → Nat → Int32) → Prop), (∀ k, o = .inr k → k < es.length) ∧ (∀ L D, gX G YX 20 (.ref 3 :: av) n I L D (oV es o) P) ∧ ∀ J, P J → ∀ L D, gRi G YM 20 (.ref 114 :: av) n J L D (fun v K => Rel K ∧ K 114 0 = nI (cdO o) ∧ ∀ w, o = .inl w → v = w)
section
variable {G : gG} {n : Nat} {I : Nat → Nat → Int32} {YX YM : gY} {es : List String} {av : List Value} {V : Nat → Nat} {C : Nat → Int32} {H : hT} {m : Nat} {T : Nat → Nat} {t : Nat} {e : Int32} {K : Option ((Nat → Nat) × (Nat → Int32))} {l : Nat} {Ls : Nat → Int32}
theorem bt_q {o : Int32 ⊕ Nat} (hR : Rl I V C H m T t e K l Ls) (ho : ∀ k, o = .inr k → k < es.length) (hx : ∀ L D, gX G YX 20 (.ref 3 :: av) n I L D (oV es o) (fun J => Qs I J)) (hm : ∀ J, Rl J V C H m T t e K l Ls → ∀ L D, gRi G YM 20 (.ref 114 :: av) n J L D (fun v K => QF J K (cdO o) ∧ ∀ w, o = .inl w → v = w)) : Bt G n I YX YM es av :=
  ⟨o, _, ho, hx, fun J hJ L D => gRi_imp (hm J (hR.q hJ) L D) (fun v K q => ⟨((hR.q hJ).qf q.1).rel, q.1.2.2.1, q.2⟩)⟩
/-- both answer alike, and nothing else changes -/
theorem bt_f {o : Int32 ⊕ Nat} {v : Int32} {x : Nat → Nat → Int32} (hR : Rl I V C H m T t e K l Ls) (ho : ∀ k, o = .inr k → k < es.length) (hx : ∀ L D, gX G YX 20 (.ref 3 :: av) n I L D (oV es o) (fun J => J = I)) (hm : ∀ L D, gFn G YM 20 (.ref 114 :: av) (hp n I L D) (.inl (some (.int v))) (hp n x L D) 0 0) (hQ : QF I x (cdO o)) (hv : ∀ w, o = .inl w → v = w) : Bt G n I YX YM es av :=
  ⟨o, _, ho, hx, fun J hJ L D => by
    subst hJ
    exact gRi_of (hm L D) ⟨(hR.qf hQ).rel, hQ.2.2.1, hv⟩⟩
/-- both decode -/
theorem bt_d {o : Int32 ⊕ Nat} {v : Int32} {k : Nat} (hR : Rl I V C H m T t e K l Ls) (ho : ∀ k, o = .inr k → k < es.length) (hx : ∀ L D, gX G YX 20 (.ref 3 :: av) n I L D (oV es o) (fun J => Qs I J)) (hm : ∀ J, Rl J V C H m T t e K l Ls → ∀ L D, gRi G YM 20 (.ref 114 :: av) n J L D (fun u K => u = v ∧ QF J K k)) (hk : k = cdO o) (hv : ∀ w, o = .inl w → v = w) : Bt G n I YX YM es av :=
  bt_q hR ho hx (fun J hJ L D => gRi_imp (hm J hJ L D) (fun u K q => ⟨by rw [← hk]; exact q.2, fun w h => by rw [q.1]; exact hv w h⟩))
theorem qr {J : Nat → Nat → Int32} (h : J = I) : Qs I J := by rw [h]; exact Qs.r
theorem oc {v : Int32} : ∀ k, (Sum.inl v : Int32 ⊕ Nat) = .inr k → k < es.length := fun k h => by cases h
theorem ox {k : Nat} (hk : k < es.length) : ∀ j, (Sum.inr k : Int32 ⊕ Nat) = .inr j → j < es.length := fun j h => by cases h; exact hk
theorem ov1 {v : Int32} : ∀ w, (Sum.inl v : Int32 ⊕ Nat) = .inl w → v = w := fun w h => by cases h; rfl
theorem ov2 {v : Int32} {k : Nat} : ∀ w, (Sum.inr k : Int32 ⊕ Nat) = .inl w → v = w := fun w h => by cases h
/-- both change -/
theorem bt_c {v : Int32} {V2 : Nat → Nat} {C2 : Nat → Int32} {H2 : hT} {m2 : Nat} {lm lf : List Nat} (hR : Rl I V C H m T t e K l Ls) (hW2 : WF V2) (hH : ∀ k, k < m2 → WF (H2 k).1) (hlm : lm.all (fun a => decide (114 ≤ a) && !(decide (a ∈ [116, 118, 119, 120, 121, 122]))) = true) (hlf : lf.all (fun j => !(decide (j ∈ [5, 6, 8, 10]))) = true) (hx : ∀ L D, gX G YX 20 (.ref 3 :: av) n I L D (.inl (some (.int v))) (fun J => (∃ o2, Cs J V2 C2 H2 m2 o2) ∧ Fdc I J)) (hm : ∀ J, MR J V C H m T t e K l Ls → ∀ L D, gRi G YM 20 (.ref 114 :: av) n J L D (fun u K => u = v ∧ K 114 0 = nI 0 ∧ Md K V2 C2 H2 m2 ∧ MC lm lf J K)) : Bt G n I YX YM es av := by
  refine ⟨.inl v, _, oc, hx, fun J hJ L D => ?_⟩
  obtain ⟨h1, ⟨h2a, h2b, h2c, h2d⟩, h3, h4⟩ := hR
  obtain ⟨hC, hF⟩ := hJ
  have h4J := h4.hi (fun a ha => hF.1 a (by omega))
  have hlm2 : ∀ a, a ∈ lm → 114 ≤ a ∧ a ∉ [116, 118, 119, 120, 121, 122] := fun a ha => by
    have := List.all_eq_true.mp hlm a ha
    simpa using this
  have hlf2 : ∀ a, a ∈ lf → a ∉ [5, 6, 8, 10] := fun a ha => by
    have := List.all_eq_true.mp hlf a ha
    simpa using this
  refine gRi_imp (hm J h4J L D) (fun u K2 q => ?_)
  obtain ⟨rfl, q2, q3, q4, q5, q6⟩ := q
  have lo : ∀ a, a < 114 → K2 a = J a := fun a ha => q4 a (fun z => by have := (hlm2 a z).1; omega)
  have hi : ∀ a, a ∈ [116, 118, 119, 120, 121, 122] → K2 a = J a := fun a ha => q4 a (fun z => (hlm2 a z).2 ha)
  refine ⟨⟨V2, C2, H2, m2, T, t, e, K, l, Ls, (h1.e (hF.1 1 (by omega)) (hF.1 2 (by omega))).e (lo 1 (by decide)) (lo 2 (by decide)), ⟨hW2, hH, h2c, h2d⟩, ?_, ?_⟩, q2, ov1⟩
  · exact (h3.f hC (fun a ha => hF.1 a (by omega)) (fun j hj => hF.2 j (by intro z; simp at z; omega))).lo (fun a _ ha => lo a ha)
  · exact h4J.f q3 ⟨hi _ (by decide), hi _ (by decide), hi _ (by decide), hi _ (by decide), hi _ (by decide), hi _ (by decide)⟩ (fun j hj => q5 j (fun z => hlf2 j z (by rcases hj with h | h | h | h <;> subst h <;> decide))) q6
/-- .. by simple means -/
theorem bt_s {v : Int32} {V2 : Nat → Nat} {C2 : Nat → Int32} {H2 : hT} {m2 : Nat} {lm : List Nat} (hR : Rl I V C H m T t e K l Ls) (hW2 : WF V2) (hH : ∀ k, k < m2 → WF (H2 k).1) (hlm : lm.all (fun a => decide (114 ≤ a) && !(decide (a ∈ [116, 118, 119, 120, 121, 122, 128]))) = true) (hx : ∀ L D, gX G YX 20 (.ref 3 :: av) n I L D (.inl (some (.int v))) (fun J => (∃ o2, Cs J V2 C2 H2 m2 o2) ∧ Fc I J)) (hm : ∀ J, MR J V C H m T t e K l Ls → ∀ L D, gRi G YM 20 (.ref 114 :: av) n J L D (fun u K => u = v ∧ K 114 0 = nI 0 ∧ Md K V2 C2 H2 m2 ∧ Sm lm J K ∧ Sc 114 [0, 4] J K)) : Bt G n I YX YM es av := by
  have hlm2 : ∀ a, a ∈ lm → 114 ≤ a ∧ a ∉ [116, 118, 119, 120, 121, 122, 128] := fun a ha => by
    have := List.all_eq_true.mp hlm a ha
    simpa using this
  refine bt_c (lm := lm) (lf := [0, 4]) hR hW2 hH ?_ (by decide) (fun L D => gX_imp (hx L D) (fun J q => ⟨q.1, q.2.d⟩)) (fun J hJ L D => gRi_imp (hm J hJ L D) (fun u K2 q => ⟨q.1, q.2.1, q.2.2.1, q.2.2.2.1, q.2.2.2.2, ?_⟩))
  · refine List.all_eq_true.mpr (fun a ha => ?_)
    obtain ⟨h1, h2⟩ := hlm2 a ha
    simp at h2 ⊢
    omega
  · obtain ⟨M, hM⟩ := hJ.2.2.2.2.2.2
    exact ⟨M, hM.s (q.2.2.2.1 128 (fun z => (hlm2 128 z).2 (by decide)))⟩
end

