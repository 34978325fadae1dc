/-! ===== each change, asked of both ===== -/
section
variable {G : gG} {n : Nat} {I : Nat → Nat → Int32} {V : Nat → Nat} {C : Nat → Int32} {H : hT} {m : Nat} {T : Nat → Nat} {t : Nat} {e : Int32} {K : Option ((Nat → Nat) × (Nat → Int32))} {l : Nat} {Ls : Nat → Int32}
theorem Rl.Cc (h : Rl I V C H m T t e K l Ls) : ∃ o, Cs I V C H m o := h.2.2.1.1
theorem b_clear (hR : Rl I V C H m T t e K l Ls) : Bt G n I YX2_clear YX3_clear [] [] := by
  obtain ⟨o, hC⟩ := hR.Cc
  exact bt_s (lm := [114, 115]) (H2 := H) (m2 := 0) hR WF_0 (fun k hk => absurd hk (Nat.not_lt_zero k)) (by decide) (fun L D => gX_imp (m_X2_clear (d := 11) hC hR.W) (fun J q => ⟨⟨0, q.1⟩, q.2⟩)) (fun J hJ L D => gRi_imp (m_X3_clear (d := 17) hJ.1.1.1 hR.W) (fun v K2 q => ⟨q.1, q.2.1, ⟨⟨q.2.2.2.1, q.2.2.2.2.1⟩, q.2.2.1, by decide, fun k hk => absurd hk (Nat.not_lt_zero k)⟩, q.2.2.2.2.2.1, q.2.2.2.2.2.2⟩))
theorem b_remove (hR : Rl I V C H m T t e K l Ls) (f : Int32) : Bt G n I YX2_remove YX3_remove ["java/lang/IndexOutOfBoundsException"] [.int f] := by
  by_cases hf : isFi V f
  · obtain ⟨j, hj, rfl⟩ := nI_7 hf.1
    have h1 := (isFi_n hj).mp hf
    obtain ⟨o, hC⟩ := hR.Cc
    exact bt_s (lm := [114, 115, 117]) hR (WF_rm hR.W hj) hR.P (by decide) (fun L D => m_X2_remove_0 (d := 11) hC hR.W hj h1) (fun J hJ L D => m_X3_remove_t (d := 17) hJ.1 hR.W hj h1)
  · exact bt_f hR (o := .inr 0) (ox (by decide)) (fun L D => m_X2_remove_1 (d := 11) hR.S hR.W hf) (fun L D => m_X3_remove_f (d := 17) hR.Vv hR.W hf) (QF.z hR.X) ov2
theorem b_flip (hR : Rl I V C H m T t e K l Ls) (c x : Int32) : Bt G n I YX2_flip YX3_flip ["java/lang/IndexOutOfBoundsException", "java/lang/IllegalArgumentException"] [.int c, .int x] := by
  by_cases hc : nI 0 ≤ c ∧ c ≤ nI 239
  · obtain ⟨k, hk, rfl⟩ := nI_rng (by decide) hc
    obtain ⟨o, hC⟩ := hR.Cc
    have hk2 : k < 240 := by omega
    have hb := hR.W.2.2.2 k hk2
    by_cases hx : nI 1 ≤ x ∧ x ≤ nI 15
    · obtain ⟨y, hy1, hy2, rfl⟩ := nI_rng1 (by decide) hx (by decide)
      exact bt_s (lm := [114, 115, 117]) hR (WF_sym hR.W hk2 (by have := (nx16 (V (80 + k)) (by omega) y (by omega)).2; omega)) hR.P (by decide) (fun L D => m_X2_flip_0 (d := 11) hC hR.W hk2 ⟨hy1, hy2⟩) (fun J hJ L D => m_X3_flip_0 (d := 19) hJ.1 hR.W hk2 ⟨hy1, hy2⟩)
    · exact bt_f hR (o := .inr 1) (ox (by decide)) (fun L D => m_X2_flip_2 (d := 11) hk2 hx) (fun L D => m_X3_flip_2 (d := 19) hc hx) (QF.z hR.X) ov2
  · exact bt_f hR (o := .inr 0) (ox (by decide)) (fun L D => m_X2_flip_1 (d := 11) hc) (fun L D => m_X3_flip_1 (d := 19) hc) (QF.z hR.X) ov2
theorem b_erase (hR : Rl I V C H m T t e K l Ls) (c : Int32) : Bt G n I YX2_erase YX3_erase ["java/lang/IndexOutOfBoundsException"] [.int c] := by
  by_cases hc : nI 0 ≤ c ∧ c ≤ nI 239
  · obtain ⟨k, hk, rfl⟩ := nI_rng (by decide) hc
    obtain ⟨o, hC⟩ := hR.Cc
    have hk2 : k < 240 := by omega
    have hb := hR.W.2.2.2 k hk2
    exact bt_s (lm := [114, 115, 117]) hR (WF_era hR.W hk2 (by decide)) hR.P (by decide) (fun L D => m_X2_erase_0 (d := 11) hC hR.W hk2) (fun J hJ L D => m_X3_erase_0 (d := 18) hJ.1 hR.W hk2)
  · exact bt_f hR (o := .inr 0) (ox (by decide)) (fun L D => m_X2_erase_1 (d := 11) hc) (fun L D => m_X3_erase_1 (d := 18) hc) (QF.z hR.X) ov2
theorem b_burst (hR : Rl I V C H m T t e K l Ls) (c q x : Int32) : Bt G n I YX2_burst YX3_burst ["java/lang/IndexOutOfBoundsException", "java/lang/IllegalArgumentException"] [.int c, .int q, .int x] := by
  by_cases hc : nI 0 ≤ c ∧ c ≤ nI 239
  · obtain ⟨k, hk, rfl⟩ := nI_rng (by decide) hc
    obtain ⟨o, hC⟩ := hR.Cc
    have hk2 : k < 240 := by omega
    have hb := hR.W.2.2.2 k hk2
    by_cases hx : (nI 1 ≤ q ∧ q ≤ nI (240 - k)) ∧ nI 0 ≤ x ∧ x ≤ nI 15
    · obtain ⟨z, hz1, hz2, rfl⟩ := nI_rng1 (by omega) hx.1 (by omega)
      obtain ⟨y, hy, rfl⟩ := nI_rng (by decide) hx.2
      exact bt_s (lm := [114, 115, 117]) hR (WF_br hR.W hy z (by omega)) hR.P (by decide) (fun L D => m_X2_burst_0 (d := 11) hC hR.W hk2 ⟨hz1, by omega⟩ hy) (fun J hJ L D => m_X3_burst_0 (d := 16) hJ.1 hR.W hk2 ⟨hz1, by omega⟩ hy)
    · exact bt_f hR (o := .inr 1) (ox (by decide)) (fun L D => m_X2_burst_2 (d := 11) hk2 hx) (fun L D => m_X3_burst_2 (d := 16) hk2 hx) (QF.z hR.X) ov2
  · exact bt_f hR (o := .inr 0) (ox (by decide)) (fun L D => m_X2_burst_1 (d := 11) hc) (fun L D => m_X3_burst_1 (d := 16) hc) (QF.z hR.X) ov2
theorem b_advance (hR : Rl I V C H m T t e K l Ls) (c : Int32) : Bt G n I YX2_advance YX3_advance ["java/lang/IllegalArgumentException", "java/lang/IllegalStateException"] [.int c] := by
  by_cases hc : nI 1 ≤ c ∧ c ≤ nI 100
  · obtain ⟨k, hk1, hk2, rfl⟩ := nI_rng1 (by decide) hc (by decide)
    obtain ⟨o, hC⟩ := hR.Cc
    by_cases h8 : V 800 + k ≤ 10000
    · exact bt_s (lm := [114, 115, 117]) hR (WF_day hR.W (by omega) h8) hR.P (by decide) (fun L D => m_X2_advance_0 (d := 11) hC hR.W ⟨hk1, hk2⟩ h8) (fun J hJ L D => m_X3_advance_0 (d := 19) hJ.1 hR.W ⟨hk1, hk2⟩ h8)
    · exact bt_f hR (o := .inr 1) (ox (by decide)) (fun L D => m_X2_advance_2 (d := 11) hR.S hR.W ⟨hk1, hk2⟩ h8) (fun L D => m_X3_advance_2 (d := 19) hR.Vv hR.W ⟨hk1, hk2⟩ h8) (QF.z hR.X) ov2
  · exact bt_f hR (o := .inr 0) (ox (by decide)) (fun L D => m_X2_advance_1 (d := 11) hc) (fun L D => m_X3_advance_1 (d := 19) hc) (QF.z hR.X) ov2
theorem b_undo (hR : Rl I V C H m T t e K l Ls) : Bt G n I YX2_undo YX3_undo ["java/util/NoSuchElementException"] [] := by
  obtain ⟨o, hC⟩ := hR.Cc
  cases m with
  | zero => exact bt_f hR (o := .inr 0) (ox (by decide)) (fun L D => m_X2_undo_1 (d := 11) hC.2.2.1) (fun L D => m_X3_undo_1 (d := 20) hR.M.2.1) (QF.z hR.X) ov2
  | succ m =>
    exact bt_s (lm := [114, 115]) (V2 := (H m).1) (C2 := (H m).2) (H2 := H) (m2 := m) hR (hR.2.1.2.1 m (Nat.lt_succ_self m)) (fun k hk => hR.2.1.2.1 k (by omega)) (by decide) (fun L D => gX_imp (m_X2_undo_0 (d := 11) hC (hR.2.1.2.1 m (Nat.lt_succ_self m))) (fun J q => ⟨⟨o, q.1⟩, q.2⟩)) (fun J hJ L D => m_X3_undo_0 (d := 20) hJ.1)
theorem b_restore (hR : Rl I V C H m T t e K l Ls) : Bt G n I YX2_restore YX3_restore ["java/lang/IllegalStateException"] [] := by
  have hkc := hR.2.2.1.2.2.2.1
  have hkm := hR.2.2.2.2.2.2.1
  cases K with
  | none => exact bt_f hR (o := .inr 0) (ox (by decide)) (fun L D => m_X2_restore_1 (d := 11) hkc) (fun L D => m_X3_restore_1 (d := 17) hkm) (QF.z hR.X) ov2
  | some s =>
    have hWs := hR.2.1.2.2.1 s rfl
    exact bt_s (lm := [114, 115]) (V2 := s.1) (C2 := s.2) (H2 := H) (m2 := 0) hR hWs (fun k hk => absurd hk (Nat.not_lt_zero k)) (by decide) (fun L D => gX_imp (m_X2_restore_0 (d := 11) hkc.1 hkc.2 hWs) (fun J q => ⟨⟨0, q.1⟩, q.2⟩)) (fun J hJ L D => gRi_imp (m_X3_restore_0 (d := 17) (s := s) hJ.2.2.2.1.1 hJ.2.2.2.1.2 hWs) (fun v K2 q => ⟨q.1, q.2.1, ⟨⟨q.2.2.2.1, q.2.2.2.2.1⟩, q.2.2.1, by decide, fun k hk => absurd hk (Nat.not_lt_zero k)⟩, q.2.2.2.2.2.1, q.2.2.2.2.2.2⟩))
theorem b_repair (hR : Rl I V C H m T t e K l Ls) (f b : Int32) : Bt G n I YX2_repair YX3_repair ["java/lang/IndexOutOfBoundsException", "java/lang/UnsupportedOperationException"] [.int f, .int b] := by
  by_cases hb : ∃ j k, j < 8 ∧ V (10 * j) = 1 ∧ k < bl V j ∧ f = nI j ∧ b = nI k
  · obtain ⟨j, k, hj, h1, hk, rfl, rfl⟩ := hb
    obtain ⟨o, hC⟩ := hR.Cc
    by_cases hd : isD V j k = true
    · exact bt_c hR (WF_mn hR.W hj h1 hk _ (Nat.le_refl _)) hR.P (by decide) (by decide) (fun L D => m_X2_repair_0 (d := 11) hR.1 hC hR.W hj h1 hk hd) (fun J hJ L D => m_X3_repair_0 (d := 15) hJ.1 hR.W hJ.2.2.2.2.2 hj h1 hk hd)
    · exact bt_d hR (o := .inr 1) (ox (by decide)) (fun L D => m_X2_repair_2 (d := 11) hR.1 hR.S hR.W hj h1 hk hd) (fun J hJ L D => m_X3_repair_2 (d := 15) hJ.Vv hJ.W hJ.X hj h1 hk hd) rfl ov2
  · exact bt_f hR (o := .inr 0) (ox (by decide)) (fun L D => m_X2_repair_1 (d := 11) hR.S hR.W hb) (fun L D => m_X3_repair_1 (d := 15) hR.Vv hR.W hb) (QF.z hR.X) ov2
theorem b_save (hR : Rl I V C H m T t e K l Ls) : Bt G n I YX2_save YX3_save [] [] := by
  refine ⟨.inl (nI (mn V 8)), _, oc, fun L D => m_X2_save (d := 11) hR.S hR.W, fun J hJ L D => ?_⟩
  obtain ⟨h1, ⟨h2a, h2b, h2c, h2d⟩, h3, h4⟩ := hR
  obtain ⟨k1, k2, k3, k4⟩ := hJ
  have hi : ∀ a, a < 3 ∨ (4 ≤ a ∧ a < 16) ∨ 28 ≤ a → J a = I a := fun a ha => k3 a (by intro z; simp at z; omega)
  have h4J := h4.hi (fun a ha => hi a (by omega))
  refine gRi_imp (m_X3_save (d := 17) h4J.1.1.1 h2a h4J.1.1.2) (fun u K2 q => ?_)
  obtain ⟨rfl, q2, q3, q4, q5, q6⟩ := q
  have lo : ∀ a, a < 114 → K2 a = J a := fun a ha => q5 a (by intro z; simp at z; omega)
  obtain ⟨⟨o, hC⟩, ⟨t1, t2⟩, e1, -, l1, l2⟩ := h3
  obtain ⟨m1, ⟨m2, m3⟩, m4, -, ⟨m5, m6⟩, m7⟩ := h4J
  have hC2 : Cs K2 V C H m o := (hC.f (hC.1.f (fun a g1 g2 => hi a (by omega))) (fun a g1 g2 => hi a (by omega)) (k4 11 (by decide)) (k4 12 (by decide))).hi (fun a _ g => lo a g)
  have f3 : ∀ j, j = 7 ∨ j = 8 ∨ j = 9 → K2 3 j = I 3 j := fun j hj => by rw [lo 3 (by decide)]; exact k4 j (by intro z; simp at z; omega)
  refine ⟨⟨V, C, H, m, T, t, e, some (V, C), l, Ls, (h1.e (hi 1 (by omega)) (hi 2 (by omega))).e (lo 1 (by decide)) (lo 2 (by decide)), ⟨h2a, h2b, fun s hs => by cases hs; exact h2a, h2d⟩, ?_, ?_⟩, q2, ov1⟩
  · exact ⟨⟨o, hC2⟩, ⟨t1.s ((lo 39 (by decide)).trans (hi 39 (by omega))), (f3 7 (by omega)).trans t2⟩, (f3 9 (by omega)).trans e1, ⟨by rw [lo 3 (by decide)]; exact k2, k1.s (fun i hi9 => lo _ (by omega))⟩, (f3 8 (by omega)).trans l1, fun i hi9 => by rw [lo 40 (by decide), hi 40 (by omega)]; exact l2 i hi9⟩
  · refine ⟨m1.hi (q6 4 (by decide)) (q5 115 (by decide)) (q5 117 (by decide)), ⟨m2.s (q5 118 (by decide)), (q6 8 (by decide)).trans m3⟩, (q6 5 (by decide)).trans m4, ⟨q3, q4⟩, ⟨(q6 10 (by decide)).trans m5, fun i hi9 => by rw [q5 119 (by decide)]; exact m6 i hi9⟩, m7.1.s q5 (by decide) (by decide) (by decide), ?_⟩
    obtain ⟨M, hM⟩ := m7.2
    exact ⟨M, hM.s (q5 128 (by decide))⟩
theorem nar_c {k : Nat} (hk : k < 65536) : vp_nar .char (nI k) = nI k := Value.int.inj (pk_charN hk).1
theorem b_append (hR : Rl I V C H m T t e K l Ls) {k : Nat} (hk : k < 65536) : Bt G n I YX2_append YX3_append ["java/lang/IllegalArgumentException", "java/lang/IllegalStateException"] [.int (nI k)] := by
  have t7 : I 3 7 = nI t := hR.2.2.1.2.1.2
  have t8 : I 114 8 = nI t := hR.2.2.2.2.1.2
  have ht60 := hR.2.2.1.2.1.1.1
  by_cases hc : 32 ≤ k ∧ k ≤ 126
  · by_cases ht : t < 60
    · refine ⟨.inl (nI (t + 1)), _, oc, fun L D => m_X2_append_0 (d := 11) hk hc t7 ht, fun J hJ L D => ?_⟩
      subst hJ
      refine gRi_of (m_X3_append_0 (d := 19) hk hc (by rw [gUp_ne (by decide), gUp_ne (by decide)]; exact t8) ht) ⟨?_, ?_, ov1⟩
      · obtain ⟨h1, h2, ⟨⟨o, hC⟩, ⟨a1, a2⟩, e1, kc, l1, l2⟩, ⟨m1, ⟨m2, m3⟩, m4, m5, ⟨m6, m7⟩, m8⟩⟩ := hR
        refine ⟨V, C, H, m, (fun i => if i = t then k else T i), t + 1, e, K, l, Ls, h1.e (by rw [gUp_ne (by decide), gUp_ne (by decide), gUp_ne (by decide), gUp_ne (by decide), gUp_ne (by decide)]) (by rw [gUp_ne (by decide), gUp_ne (by decide), gUp_ne (by decide), gUp_ne (by decide), gUp_ne (by decide)]), h2, ⟨⟨o, ?_⟩, ⟨⟨by omega, fun i hi => ?_⟩, ?_⟩, ?_, ?_, ?_, fun i hi => ?_⟩, ⟨?_, ⟨⟨by omega, fun i hi => ?_⟩, ?_⟩, ?_, ?_, ⟨?_, fun i hi => ?_⟩, ?_⟩⟩
        · exact hC.f (hC.1.f (fun a g1 g2 => by rw [gUp_ne (by omega), gUp_ne (by omega), gUp_ne (by omega), gUp_ne (by omega), gUp_ne (by omega)])) (fun a g1 g2 => by rw [gUp_ne (by omega), gUp_ne (by omega), gUp_ne (by omega), gUp_ne (by omega), gUp_ne (by omega)]) (by rw [gUp_ne (by decide), gUp_ne (by decide), gUp_ne (by decide), gUp_c, if_neg (by decide), gUp_ne (by decide)]) (by rw [gUp_ne (by decide), gUp_ne (by decide), gUp_ne (by decide), gUp_c, if_neg (by decide), gUp_ne (by decide)])
        · rw [gUp_ne (by decide), gUp_ne (by decide), gUp_ne (by decide), gUp_ne (by decide), gUp_c]
          by_cases ei : i = t
          · rw [if_pos ei, nar_c hk]
            simp only [if_pos ei]
            exact ⟨trivial, hc.2⟩
          · rw [if_neg ei]
            simp only [if_neg ei]
            exact a1.2 i (by omega)
        · rw [gUp_ne (by decide), gUp_ne (by decide), gUp_ne (by decide), gUp_c, if_pos rfl]
        · rw [gUp_ne (by decide), gUp_ne (by decide), gUp_ne (by decide), gUp_c, if_neg (by decide), gUp_ne (by decide)]; exact e1
        · exact kc.f (fun a g1 g2 => by rw [gUp_ne (by omega), gUp_ne (by omega), gUp_ne (by omega), gUp_ne (by omega), gUp_ne (by omega)]) (by rw [gUp_ne (by decide), gUp_ne (by decide), gUp_ne (by decide), gUp_c, if_neg (by decide), gUp_ne (by decide)])
        · rw [gUp_ne (by decide), gUp_ne (by decide), gUp_ne (by decide), gUp_c, if_neg (by decide), gUp_ne (by decide)]; exact l1
        · rw [gUp_ne (by decide), gUp_ne (by decide), gUp_ne (by decide), gUp_ne (by decide), gUp_ne (by decide)]; exact l2 i hi
        · exact m1.hi (by rw [gUp_c, if_neg (by decide), gUp_ne (by decide), gUp_c, if_neg (by decide), gUp_ne (by decide), gUp_ne (by decide)]) (by rw [gUp_ne (by decide), gUp_ne (by decide), gUp_ne (by decide), gUp_ne (by decide), gUp_ne (by decide)]) (by rw [gUp_ne (by decide), gUp_ne (by decide), gUp_ne (by decide), gUp_ne (by decide), gUp_ne (by decide)])
        · rw [gUp_ne (by decide), gUp_c]
          by_cases ei : i = t
          · rw [if_pos ei, nar_c hk]
            simp only [if_pos ei]
            exact ⟨trivial, hc.2⟩
          · rw [if_neg ei, gUp_ne (by decide), gUp_ne (by decide), gUp_ne (by decide)]
            simp only [if_neg ei]
            exact m2.2 i (by omega)
        · rw [gUp_c, if_pos rfl]
        · rw [gUp_c, if_neg (by decide), gUp_ne (by decide), gUp_c, if_neg (by decide), gUp_ne (by decide), gUp_ne (by decide)]; exact m4
        · exact m5.f (by rw [gUp_ne (by decide), gUp_ne (by decide), gUp_ne (by decide), gUp_ne (by decide), gUp_ne (by decide)]) (by rw [gUp_c, if_neg (by decide), gUp_ne (by decide), gUp_c, if_neg (by decide), gUp_ne (by decide), gUp_ne (by decide)])
        · rw [gUp_c, if_neg (by decide), gUp_ne (by decide), gUp_c, if_neg (by decide), gUp_ne (by decide), gUp_ne (by decide)]; exact m6
        · rw [gUp_ne (by decide), gUp_ne (by decide), gUp_ne (by decide), gUp_ne (by decide), gUp_ne (by decide)]; exact m7 i hi
        · exact ((((m8.o (by decide) (by decide) (by decide) (by decide)).o (by decide) (by decide) (by decide) (by decide)).o (by decide) (by decide) (by decide) (by decide)).o (by decide) (by decide) (by decide) (by decide)).o (by decide) (by decide) (by decide) (by decide)
      · rw [gUp_c, if_neg (by decide), gUp_ne (by decide), gUp_c, if_pos rfl]; rfl
    · have et : t = 60 := by omega
      subst et
      exact bt_f hR (o := .inr 1) (ox (by decide)) (fun L D => m_X2_append_2 (d := 11) hk hc t7) (fun L D => m_X3_append_2 (d := 19) hk hc t8) (QF.z hR.X) ov2
  · exact bt_f hR (o := .inr 0) (ox (by decide)) (fun L D => m_X2_append_1 (d := 11) hk hc) (fun L D => m_X3_append_1 (d := 19) hk hc) (QF.z hR.X) ov2
theorem b_store (hR : Rl I V C H m T t e K l Ls) : Bt G n I YX2_store YX3_store ["java/lang/IllegalArgumentException", "java/lang/IllegalStateException"] [] := by
  have t7 : I 3 7 = nI t := hR.2.2.1.2.1.2
  have tx : Tx I 39 T t := hR.2.2.1.2.1.1
  obtain ⟨r, hP⟩ := PE_ex T t
  obtain ⟨f, hF⟩ := FF_ex V
  obtain ⟨o, hC⟩ := hR.Cc
  have hRR := hR
  obtain ⟨h1, ⟨h2a, h2b, h2c, h2d⟩, ⟨-, ⟨a1, a2⟩, e1, kc, l1, l2⟩, h4⟩ := hR
  cases r with
  | some p =>
    refine ⟨.inr 0, _, ox (by decide), fun L D => m_X2_store_1 (d := 11) tx t7 hP, fun J hJ L D => ?_⟩
    subst hJ
    have h4J : MR (gUp (gUp I 3 7 (nI 0)) 3 9 (nI p)) V C H m T t e K l Ls := h4.hi (fun a ha => by rw [gUp_ne (by omega), gUp_ne (by omega)])
    refine gRi_imp (m_X3_store_1 (d := 15) h4J.2.1.1 h4J.2.1.2 hP) (fun u K2 q => ?_)
    obtain ⟨q1, q2, q3, q4, q5⟩ := q
    obtain ⟨m1, ⟨m2, m3⟩, m4, m5, ⟨m6, m7⟩, m8⟩ := h4J
    have lo : ∀ a, a < 114 ∧ a ≠ 3 → K2 a = I a := fun a ha => by rw [q4 a (by intro z; simp at z; omega), gUp_ne ha.2, gUp_ne ha.2]
    have f3 : ∀ j, ¬ j = 7 → ¬ j = 9 → K2 3 j = I 3 j := fun j g1 g2 => by rw [q4 3 (by decide), gUp_c, if_neg g2, gUp_c, if_neg g1]
    refine ⟨⟨V, C, H, m, T, 0, nI p, K, l, Ls, h1.e (lo 1 (by decide)) (lo 2 (by decide)), ⟨h2a, h2b, h2c, h2d⟩, ⟨⟨o, ?_⟩, ⟨⟨by decide, fun i hi => absurd hi (Nat.not_lt_zero i)⟩, ?_⟩, ?_, ?_, ?_, fun i hi => ?_⟩, ⟨?_, ⟨⟨by decide, fun i hi => absurd hi (Nat.not_lt_zero i)⟩, q3⟩, q2, ?_, ⟨?_, fun i hi => ?_⟩, ?_, ?_⟩⟩, q1, fun w h => by cases h⟩
    · exact hC.f (hC.1.f (fun a g1 g2 => lo a (by omega))) (fun a g1 g2 => lo a (by omega)) (f3 11 (by decide) (by decide)) (f3 12 (by decide) (by decide))
    · rw [q4 3 (by decide), gUp_c, if_neg (by decide), gUp_c, if_pos rfl]
    · rw [q4 3 (by decide), gUp_c, if_pos rfl]
    · exact kc.f (fun a g1 g2 => lo a (by omega)) (f3 10 (by decide) (by decide))
    · exact (f3 8 (by decide) (by decide)).trans l1
    · rw [lo 40 (by decide)]; exact l2 i hi
    · exact m1.hi (q5 4 (by decide)) (q4 115 (by decide)) (q4 117 (by decide))
    · exact m5.f (q4 116 (by decide)) (q5 6 (by decide))
    · exact (q5 10 (by decide)).trans m6
    · rw [q4 119 (by decide)]; exact m7 i hi
    · exact m8.1.s q4 (by decide) (by decide) (by decide)
    · obtain ⟨M, hM⟩ := m8.2
      exact ⟨M, hM.s (q4 128 (by decide))⟩
  | none =>
    by_cases hN : f = 8 ∨ ¬ (0 : Int32) ≤ arI V ((t - 4 + 7) / 8 * (T 0 - 48 + 8))
    · refine ⟨.inr 1, _, ox (by decide), fun L D => m_X2_store_2 (d := 11) hC.1 h2a tx t7 hP hF hN, fun J hJ L D => ?_⟩
      subst hJ
      have h4J : MR (gUp I 3 7 (nI 0)) V C H m T t e K l Ls := h4.hi (fun a ha => by rw [gUp_ne (by omega)])
      refine gRi_imp (m_X3_store_2 (d := 15) h4J.1.1.1 h2a h4J.2.1.1 h4J.2.1.2 hP hF hN) (fun u K2 q => ?_)
      obtain ⟨q1, q3, q4, q5⟩ := q
      obtain ⟨m1, ⟨m2, m3⟩, m4, m5, ⟨m6, m7⟩, m8⟩ := h4J
      have lo : ∀ a, a < 114 ∧ a ≠ 3 → K2 a = I a := fun a ha => by rw [q4 a (by intro z; simp at z; omega), gUp_ne ha.2]
      have f3 : ∀ j, ¬ j = 7 → K2 3 j = I 3 j := fun j g1 => by rw [q4 3 (by decide), gUp_c, if_neg g1]
      refine ⟨⟨V, C, H, m, T, 0, e, K, l, Ls, h1.e (lo 1 (by decide)) (lo 2 (by decide)), ⟨h2a, h2b, h2c, h2d⟩, ⟨⟨o, ?_⟩, ⟨⟨by decide, fun i hi => absurd hi (Nat.not_lt_zero i)⟩, ?_⟩, ?_, ?_, ?_, fun i hi => ?_⟩, ⟨?_, ⟨⟨by decide, fun i hi => absurd hi (Nat.not_lt_zero i)⟩, q3⟩, (q5 5 (by decide)).trans m4, ?_, ⟨?_, fun i hi => ?_⟩, ?_, ?_⟩⟩, q1, fun w h => by cases h⟩
      · exact hC.f (hC.1.f (fun a g1 g2 => lo a (by omega))) (fun a g1 g2 => lo a (by omega)) (f3 11 (by decide)) (f3 12 (by decide))
      · rw [q4 3 (by decide), gUp_c, if_pos rfl]
      · exact (f3 9 (by decide)).trans e1
      · exact kc.f (fun a g1 g2 => lo a (by omega)) (f3 10 (by decide))
      · exact (f3 8 (by decide)).trans l1
      · rw [lo 40 (by decide)]; exact l2 i hi
      · exact m1.hi (q5 4 (by decide)) (q4 115 (by decide)) (q4 117 (by decide))
      · exact m5.f (q4 116 (by decide)) (q5 6 (by decide))
      · exact (q5 10 (by decide)).trans m6
      · rw [q4 119 (by decide)]; exact m7 i hi
      · exact m8.1.s q4 (by decide) (by decide) (by decide)
      · obtain ⟨M, hM⟩ := m8.2
        exact ⟨M, hM.s (q4 128 (by decide))⟩
    · have hf : f < 8 := by
        have := hF.1
        rcases Nat.lt_or_ge f 8 with w | w
        · exact w
        · exact absurd (Or.inl (by omega)) hN
      have h0 : (0 : Int32) ≤ arI V ((t - 4 + 7) / 8 * (T 0 - 48 + 8)) := Classical.byContradiction (fun q => hN (Or.inr q))
      obtain ⟨fs, hfs, hfl, -⟩ := arI_ok h0
      refine ⟨.inl (nI f), _, oc, fun L D => m_X2_store_0 (d := 11) h1 hC h2a tx t7 hP hF hf (by omega) hfs, fun J hJ L D => ?_⟩
      obtain ⟨⟨o2, hC2⟩, j7, g1, g2⟩ := hJ
      have h4J : MR J V C H m T t e K l Ls := h4.hi (fun a ha => g1 a (by omega))
      have hWF : WF (stF V T t f fs) := (stB_ok (T := T) (st_K h2a hP hF hf hfs (by omega)).1 _ (Nat.le_refl _)).1.1
      refine gRi_imp (m_X3_store_0 (d := 15) h4J.1 h2a h4J.2.2.2.2.2 h4J.2.1.1 h4J.2.1.2 hP hF hf (by omega) hfs) (fun u K2 q => ?_)
      obtain ⟨rfl, q1, q2, q3, q4, q5, q6⟩ := q
      obtain ⟨m1, ⟨m2, m3⟩, m4, m5, ⟨m6, m7⟩, m8⟩ := h4J
      have lo : ∀ a, a < 114 → K2 a = J a := fun a ha => q4 a (by intro z; simp at z; omega)
      have f3 : ∀ j, j = 8 ∨ j = 9 ∨ j = 10 → K2 3 j = I 3 j := fun j hj => by rw [lo 3 (by decide)]; exact g2 j (by intro z; simp at z; omega)
      refine ⟨⟨stF V T t f fs, _, push H m (V, C), pm m, T, 0, e, K, l, Ls, (h1.e (g1 1 (by omega)) (g1 2 (by omega))).e (lo 1 (by decide)) (lo 2 (by decide)), ⟨hWF, hRR.P, h2c, h2d⟩, ⟨⟨o2, hC2.hi (fun a _ g => lo a g)⟩, ⟨⟨by decide, fun i hi => absurd hi (Nat.not_lt_zero i)⟩, ?_⟩, (f3 9 (by omega)).trans e1, ?_, (f3 8 (by omega)).trans l1, fun i hi => ?_⟩, ⟨q2, ⟨⟨by decide, fun i hi => absurd hi (Nat.not_lt_zero i)⟩, q3⟩, (q5 5 (by decide)).trans m4, m5.f (q4 116 (by decide)) (q5 6 (by decide)), ⟨(q5 10 (by decide)).trans m6, fun i hi => ?_⟩, m8.1.s q4 (by decide) (by decide) (by decide), q6⟩⟩, q1, ov1⟩
      · rw [lo 3 (by decide)]; exact j7
      · exact kc.f (fun a y1 y2 => (lo a (by omega)).trans (g1 a (by omega))) (f3 10 (by omega))
      · rw [lo 40 (by decide), g1 40 (by omega)]; exact l2 i hi
      · rw [q4 119 (by decide)]; exact m7 i hi
theorem b_scrub (hR : Rl I V C H m T t e K l Ls) (c : Int32) : Bt G n I YX2_scrub YX3_scrub ["java/lang/IllegalArgumentException"] [.int c] := by
  by_cases hc : nI 0 ≤ c ∧ c ≤ nI 200
  · obtain ⟨b, hb, rfl⟩ := nI_rng (by decide) hc
    obtain ⟨o, hC⟩ := hR.Cc
    have hRR := hR
    obtain ⟨h1, ⟨h2a, h2b, h2c, h2d⟩, ⟨-, ⟨a1, a2⟩, e1, kc, l1, l2⟩, h4⟩ := hR
    refine ⟨.inl (nI (scF V C b).2.2.1), _, oc, fun L D => m_X2_scrub_0 (d := 11) h1 hC h2a hb, fun J hJ L D => ?_⟩
    obtain ⟨⟨o2, hC2⟩, hW2, j8, jl, j40, g1, g2⟩ := hJ
    have h4J : MR J V C H m T t e K l Ls := h4.hi (fun a ha => g1 a (by omega))
    refine gRi_imp (m_X3_scrub_0 (d := 15) h4J.1 h2a h4J.2.2.2.2.2 hb) (fun u K2 q => ?_)
    obtain ⟨rfl, q1, q2, q3, q3b, q4, q5, q6⟩ := q
    obtain ⟨m1, ⟨m2, m3⟩, m4, m5, ⟨m6, m7⟩, m8⟩ := h4J
    have lo : ∀ a, a < 114 → K2 a = J a := fun a ha => q4 a (by intro z; simp at z; omega)
    have f3 : ∀ j, j = 7 ∨ j = 9 ∨ j = 10 → K2 3 j = I 3 j := fun j hj => by rw [lo 3 (by decide)]; exact g2 j (by intro z; simp at z; omega)
    refine ⟨⟨_, _, push H m (V, C), pm m, T, t, e, K, _, _, (h1.e (g1 1 (by omega)) (g1 2 (by omega))).e (lo 1 (by decide)) (lo 2 (by decide)), ⟨hW2, hRR.P, h2c, jl⟩, ⟨⟨o2, hC2.hi (fun a _ g => lo a g)⟩, ⟨a1.s ((lo 39 (by decide)).trans (g1 39 (by omega))), (f3 7 (by omega)).trans a2⟩, (f3 9 (by omega)).trans e1, ?_, ?_, fun i hi => ?_⟩, ⟨q2, ⟨m2.s (q4 118 (by decide)), (q5 8 (by decide)).trans m3⟩, (q5 5 (by decide)).trans m4, m5.f (q4 116 (by decide)) (q5 6 (by decide)), ⟨q3, q3b⟩, m8.1.s q4 (by decide) (by decide) (by decide), q6⟩⟩, q1, ov1⟩
    · exact kc.f (fun a y1 y2 => (lo a (by omega)).trans (g1 a (by omega))) (f3 10 (by omega))
    · rw [lo 3 (by decide)]; exact j8
    · rw [lo 40 (by decide)]; exact j40 i hi
  · exact bt_f hR (o := .inr 0) (ox (by decide)) (fun L D => m_X2_scrub_1 (d := 11) hc) (fun L D => m_X3_scrub_1 (d := 15) hc) (QF.z hR.X) ov2
end

