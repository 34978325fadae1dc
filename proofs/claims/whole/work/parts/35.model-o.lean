/-! ===== what decoding a block finds; the questions that decode ===== -/
theorem DecR_ex (s : Nat → F6) (c z er : Nat) : ∃ r, DecR s c z er r := by
  rcases Classical.em (∃ E, (E < 2 ^ z ∧ E &&& er = 0 ∧ 2 * nS E 14 + nS er 14 ≤ c) ∧ Sv s c (E ||| er)) with h | h
  · have main : ∀ (k E : Nat), nS E 14 = k → ((E < 2 ^ z ∧ E &&& er = 0 ∧ 2 * nS E 14 + nS er 14 ≤ c) ∧ Sv s c (E ||| er)) → ∃ r, DecR s c z er r := by
      intro k
      induction k using Nat.strongRecOn with
      | _ k ih =>
        intro E hk hE
        rcases Classical.em (∃ F, F < 2 ^ z ∧ F &&& er = 0 ∧ nS F 14 < nS E 14 ∧ Sv s c (F ||| er)) with q | q
        · obtain ⟨F, f1, f2, f3, f4⟩ := q
          exact ih (nS F 14) (by omega) F rfl ⟨⟨f1, f2, by have := hE.1.2.2; omega⟩, f4⟩
        · obtain ⟨h1, x, hx⟩ := hE
          exact ⟨some (E, x), h1, hx, fun F f1 f2 f3 f4 => q ⟨F, f1, f2, f3, f4⟩⟩
    obtain ⟨E, hE⟩ := h
    exact main _ E rfl hE
  · exact ⟨none, fun E e1 e2 e3 e4 => h ⟨E, ⟨e1, e2, e3⟩, e4⟩⟩
noncomputable def dc (V : Nat → Nat) (j b : Nat) : Option (Nat × (Nat → F6)) := Classical.choose (DecR_ex (smF (gF V j b) (sz V j)) (V (10 * j + 2)) (sz V j) (erN V j b))
theorem dc_spec (V : Nat → Nat) (j b : Nat) : DecR (smF (gF V j b) (sz V j)) (V (10 * j + 2)) (sz V j) (erN V j b) (dc V j b) := Classical.choose_spec (DecR_ex (smF (gF V j b) (sz V j)) (V (10 * j + 2)) (sz V j) (erN V j b))
noncomputable def isD (V : Nat → Nat) (j b : Nat) : Bool := (dc V j b).isSome
noncomputable def dcE (V : Nat → Nat) (j b : Nat) : Nat := match dc V j b with
  | some (E, _) => E
  | none => 0
noncomputable def dcX (V : Nat → Nat) (j b i : Nat) : F6 := match dc V j b with
  | some (_, x) => fa (gF V j b i) (x i)
  | none => 0
def ern (V : Nat → Nat) (j b : Nat) : Nat := nS (erN V j b) 14
noncomputable def dcN (V : Nat → Nat) (j b : Nat) : Nat := nS (dcE V j b) 14
theorem dc_some {V : Nat → Nat} {j b : Nat} (h : isD V j b = true) : (dcE V j b < 2 ^ sz V j ∧ dcE V j b &&& erN V j b = 0 ∧ 2 * dcN V j b + ern V j b ≤ V (10 * j + 2)) := by
  have hs := dc_spec V j b
  unfold isD at h
  unfold dcN dcE ern
  cases hd : dc V j b with
  | none => rw [hd] at h; cases h
  | some r =>
    obtain ⟨E, x⟩ := r
    rw [hd] at hs
    exact hs.1
def dK (I J : Nat → Nat → Int32) : Prop := Sm [114, 124, 125, 126, 127, 128, 129] I J ∧ Sc 114 [23, 24, 25, 26, 27, 28] I J ∧ ∃ M, Rw J M
/-- what holds behind decoding a block -/
def dPost (V : Nat → Nat) (j b : Nat) (I : Nat → Nat → Int32) (v : Int32) (J : Nat → Nat → Int32) : Prop := v = bI (isD V j b = true) ∧ dK I J ∧ J 114 23 = nI (sz V j) ∧ J 114 24 = nI (V (10 * j + 2)) ∧ J 114 25 = nI (erN V j b) ∧ J 114 28 = nI (ern V j b) ∧ (isD V j b = true → J 114 26 = nI (dcE V j b) ∧ J 114 27 = nI (dcN V j b) ∧ ∀ i, i < sz V j → J 125 i = fI (dcX V j b i))
/-- the reference's scratch and tables -/
def MX (I : Nat → Nat → Int32) : Prop := Tb I ∧ ∃ M, Rw I M
theorem MX.o {I : Nat → Nat → Int32} {a j : Nat} {x : Int32} (h : MX I) (h0 : 120 ≠ a) (h1 : 121 ≠ a) (h2 : 122 ≠ a) (h3 : 128 ≠ a) : MX (gUp I a j x) := ⟨h.1.s (l := [a]) (Sm.up List.mem_cons_self Sm.rfl) (by simpa using h0) (by simpa using h1) (by simpa using h2), by
  obtain ⟨M, hM⟩ := h.2
  exact ⟨M, hM.s (gUp_ne h3)⟩⟩
theorem MX.d {I J : Nat → Nat → Int32} (h : MX I) (k : dK I J) : MX J := ⟨h.1.s k.1 (by decide) (by decide) (by decide), k.2.2⟩
/-- what a question leaves behind -/
def QF (I J : Nat → Nat → Int32) (k : Nat) : Prop := Sm [114, 124, 125, 126, 127, 128, 129, 130] I J ∧ Sc 114 [0, 23, 24, 25, 26, 27, 28, 30] I J ∧ J 114 0 = nI k ∧ ∃ M, Rw J M
theorem dK.q {I J : Nat → Nat → Int32} {k : Nat} (h : dK (gUp I 114 0 (nI k)) J) : QF I J k := ⟨Sm.trans (Sm.up (by decide) Sm.rfl) (h.1.mono (by decide)), Sc.trans (Sc.up (by decide) Sc.rfl) (h.2.1.mono (by decide)), by rw [h.2.1 0 (by decide), gUp_c, if_pos rfl], h.2.2⟩
theorem QF.no {I J : Nat → Nat → Int32} {k k2 : Nat} (h : QF I J k) : QF I (gUp J 114 0 (nI k2)) k2 := ⟨Sm.up (by decide) h.1, Sc.up (by decide) h.2.1, by rw [gUp_c, if_pos rfl], by
  obtain ⟨M, hM⟩ := h.2.2.2
  exact ⟨M, hM.s (gUp_ne (by decide))⟩⟩
theorem QF.z {I : Nat → Nat → Int32} {k : Nat} (h : MX I) : QF I (gUp I 114 0 (nI k)) k := ⟨Sm.up (by decide) Sm.rfl, Sc.up (by decide) Sc.rfl, by rw [gUp_c, if_pos rfl], (h.o (by decide) (by decide) (by decide) (by decide)).2⟩
theorem dK.v {I J : Nat → Nat → Int32} {V : Nat → Nat} (h : dK I J) (hV : Vok I V) : Vok J V := hV.s h.1 (by decide)
theorem erN_lt {V : Nat → Nat} {j b : Nat} : erN V j b < 2 ^ sz V j := erB_lt _
theorem p14 {z : Nat} (h : z ≤ 14) : 2 ^ z ≤ 16384 := Nat.pow_le_pow_right (n := 2) (by decide) h
/-- sets of blocks that can't be decoded -/
noncomputable def udN (V : Nat → Nat) (j : Nat) : Nat → Nat
  | 0 => 0
  | b + 1 => udN V j b ||| (if isD V j b = true then 0 else 2 ^ b)
noncomputable def alN (V : Nat → Nat) (j : Nat) : Nat → Nat
  | 0 => 1
  | b + 1 => if erN V j b = 0 ∧ dcN V j b = 0 then alN V j b else 0
theorem alN_01 (V : Nat → Nat) (j : Nat) : ∀ b, alN V j b = 0 ∨ alN V j b = 1
  | 0 => Or.inr rfl
  | b + 1 => by
    have := alN_01 V j b
    unfold alN
    split
    · exact this
    · exact Or.inl rfl
def isWh (V : Nat → Nat) (j : Nat) : Prop := ∀ b, b < bl V j → isD V j b = true
noncomputable def slN (V : Nat → Nat) (j : Nat) : Nat → Nat
  | 0 => 1
  | i + 1 => (slN V j i * 17 + (dcX V j (i / 8) (V (10 * j + 2) + i % 8)).val) % 251
theorem slN_le (V : Nat → Nat) (j : Nat) : ∀ i, slN V j i ≤ 250
  | 0 => by unfold slN; decide
  | i + 1 => by
    unfold slN
    have := Nat.mod_lt (slN V j i * 17 + (dcX V j (i / 8) (V (10 * j + 2) + i % 8)).val) (show 0 < 251 by decide)
    omega
section
variable {G : gG} {d n : Nat} {I : Nat → Nat → Int32} {L : Nat → Nat → Int64} {D : Nat → Nat → UInt64} {V : Nat → Nat}
theorem m_X3_isDecoded_ (hV : Vok I V) (hW : WF V) (hX : MX I) {j b : Nat} (hj : j < 8) (h1 : V (10 * j) = 1) (hb : b < bl V j) : gRi G YX3_isDecoded_ (d + 4) [.ref 114, .int (nI j), .int (nI b)] n I L D (dPost V j b I) := by
  have hw := hW.1 j hj
  have hsz := sz_le hw
  obtain ⟨hT, M, hR⟩ := hX
  refine g_aload_n (pc := 0) dX3_isDecoded__0 rfl rfl ?_
  refine g_iload_n (pc := 1) dX3_isDecoded__1 rfl rfl ?_
  refine g_iload_n (pc := 2) dX3_isDecoded__2 rfl rfl ?_
  refine g_rvV (av := [.int _, .int _]) (pc := 3) dX3_isDecoded__3 mt_X3_looks lk_X3_196 im_X3_looks se_X3_looks np_X3_looks s_114 (by decide) (by decide) rfl (gc_i (gc_i gc_0)) (Nat.le_of_ble_eq_true rfl) (Nat.le_of_ble_eq_true rfl) (m_X3_looks hV hW hj h1 hb) ?_
  rintro I1 ⟨k1, k2, k3, k4, k5, k6⟩
  refine g_aload_n (pc := 6) dX3_isDecoded__6 rfl rfl ?_
  refine g_riV (av := []) (pc := 7) dX3_isDecoded__7 mt_X3_isDecoded lk_X3_141 im_X3_isDecoded se_X3_isDecoded np_X3_isDecoded s_114 (by decide) (by decide) rfl gc_0 (Nat.le_of_ble_eq_true rfl) (Nat.le_of_ble_eq_true rfl) (gRi_deep (by omega) (m_X3_isDecoded (d := 0) (hT.s k1 (by decide) (by decide) (by decide)) (hR.s (k1 128 (by decide))) k3 hsz.1 k4 hw.2.2.1 k5 erN_lt k6)) ?_
  rintro v I2 ⟨r, q1, q2, q3, q4, q5, M2, q6⟩
  have hr : dc V j b = r := DecR_one hsz.1 (dc_spec V j b) q1
  have hz2 : I2 114 23 = nI (sz V j) := by rw [q5 23 (by decide)]; exact k3
  have hc2 : I2 114 24 = nI (V (10 * j + 2)) := by rw [q5 24 (by decide)]; exact k4
  have he2 : I2 114 25 = nI (erN V j b) := by rw [q5 25 (by decide)]; exact k5
  have hdk : dK I I2 := ⟨Sm.trans (k1.mono (by decide)) (q4.mono (by decide)), Sc.trans (k2.mono (by decide)) (q5.mono (by decide)), M2, q6⟩
  have hP : dPost V j b I v I2 := by
    cases r with
    | none =>
      have hd : isD V j b = false := by unfold isD; rw [hr]; rfl
      have q2 : v = nI 0 := q2
      exact ⟨by rw [q2, hd]; rfl, hdk, hz2, hc2, he2, q3, fun w => by rw [hd] at w; cases w⟩
    | some r =>
      obtain ⟨E, x⟩ := r
      obtain ⟨p1, p2, p3, p4⟩ := q2
      have hd : isD V j b = true := by unfold isD; rw [hr]; rfl
      have hE : dcE V j b = E := by unfold dcE; rw [hr]
      refine ⟨by rw [p1, hd]; rfl, hdk, hz2, hc2, he2, q3, fun _ => ⟨by rw [hE]; exact p2, by unfold dcN; rw [hE]; exact p3, fun i hi => ?_⟩⟩
      rw [p4 i hi]
      unfold dcX
      rw [hr]
  refine g_iret (pc := 10) dX3_isDecoded__10 rfl (by rw [hP.1]; exact bI_nar) ?_
  refine ⟨_, _, ⟨rfl, rfl⟩, ?_⟩
  exact hP
theorem m_X3_sum_1 (hV : Vok I V) (hW : WF V) {f b q : Int32} (hb : ¬ ∃ j k i, j < 8 ∧ V (10 * j) = 1 ∧ k < bl V j ∧ i < V (10 * j + 2) ∧ f = nI j ∧ b = nI k ∧ q = nI i) : gFn G YX3_sum (d + 4) [.ref 114, .int f, .int b, .int q] (hp n I L D) (.inl (some (.int (nI 0)))) (hp n (gUp I 114 0 (nI 1)) L D) 0 0 := by
  by_cases hq : ∃ j k, j < 8 ∧ V (10 * j) = 1 ∧ k < bl V j ∧ f = nI j ∧ b = nI k
  · obtain ⟨j, k, hj, h1, hk, rfl, rfl⟩ := hq
    have hw := hW.1 j hj
    have hc1 := (hw.2.2.2.2.2.2.2.2 h1).2.1
    have hc6 := hw.2.2.1
    refine g_aload_n (pc := 0) dX3_sum_0 rfl rfl ?_
    refine g_aload_n (pc := 1) dX3_sum_1 rfl rfl ?_
    refine g_iload_n (pc := 2) dX3_sum_2 rfl rfl ?_
    refine g_iload_n (pc := 3) dX3_sum_3 rfl rfl ?_
    refine g_fV (av := [.int _, .int _]) (pc := 4) dX3_sum_4 mt_X3_isBlock lk_X3_153 im_X3_isBlock se_X3_isBlock np_X3_isBlock s_114 (by decide) (by decide) rfl (gc_i (gc_i gc_0)) (Nat.le_of_ble_eq_true rfl) (Nat.le_of_ble_eq_true rfl) ⟨Nat.zero_le _, Nat.zero_le _⟩ (m_X3_isBlock_t hV hW hj h1 hk) ?_
    refine g_if_eqN (tgt := 30) (pc := 7) dX3_sum_7 (by decide) (by omega) (fun c7 => ?_) (fun c7 => ?_)
    · exact absurd c7 (by decide)
    · refine g_iload_n (pc := 10) dX3_sum_10 rfl rfl ?_
      refine g_iconst (v := nI 0) (pc := 11) dX3_sum_11 rfl ?_
      refine g_aload_n (pc := 12) dX3_sum_12 rfl rfl ?_
      refine g_iload_n (pc := 13) dX3_sum_13 rfl rfl ?_
      refine g_iconst (v := nI 2) (pc := 14) dX3_sum_14 rfl ?_
      refine g_fV (av := [.int _, .int _]) (pc := 15) dX3_sum_15 mt_X3_of lk_X3_77 im_X3_of se_X3_of np_X3_of s_114 (by decide) (by decide) rfl (gc_i (gc_i gc_0)) (Nat.le_of_ble_eq_true rfl) (Nat.le_of_ble_eq_true rfl) ⟨Nat.zero_le _, Nat.zero_le _⟩ (m_X3_of hV (j := j) (w := 2) hj (by decide)) ?_
      refine g_iconst (v := nI 1) (pc := 18) dX3_sum_18 rfl ?_
      refine g_isubN (pc := 19) dX3_sum_19 (by omega) ?_
      refine g_fS (av := [.int _, .int _, .int _]) (pc := 20) dX3_sum_20 mt_X3_isIn lk_X3_73 sf_X3_isIn np_X3_isIn rfl (gc_i (gc_i (gc_i gc_0))) (Nat.le_of_ble_eq_true rfl) (Nat.le_of_ble_eq_true rfl) ⟨Nat.zero_le _, Nat.zero_le _⟩ (m_X3_isIn) ?_
      refine g_if_eqB (tgt := 30) (pc := 23) dX3_sum_23 (by decide) (fun c23 => ?_) (fun c23 => ?_)
      · refine g_iconst (v := nI 1) (pc := 30) dX3_sum_30 rfl ?_
        refine g_putI (pc := 31) dX3_sum_31 fl_X3_67 s_114 (by decide) rfl rfl rfl rfl ?_
        refine g_aload_n (pc := 34) dX3_sum_34 rfl rfl ?_
        refine g_getIV (pc := 35) dX3_sum_35 fl_X3_67 s_114 (by decide) rfl (show _ = nI 1 from rfl) ?_
        refine g_iconst (v := nI 1) (pc := 38) dX3_sum_38 rfl ?_
        refine g_icmp_neN (tgt := 44) (pc := 39) dX3_sum_39 (by decide) (by omega) (by omega) (fun c39 => ?_) (fun c39 => ?_)
        · exact absurd c39 (by decide)
        · refine g_iconst (v := nI 0) (pc := 42) dX3_sum_42 rfl ?_
          refine g_iret (pc := 43) dX3_sum_43 rfl rfl ?_
          first | exact ⟨rfl, rfl⟩ | exact ⟨by rw [bI_t (by first | assumption | omega)], rfl⟩ | exact ⟨by rw [bI_f (by first | assumption | omega)], rfl⟩
      · obtain ⟨i, hi, rfl⟩ := nI_rng (by omega) c23
        exact absurd ⟨j, k, i, hj, h1, hk, by omega, rfl, rfl, rfl⟩ hb
  · skip
    refine g_aload_n (pc := 0) dX3_sum_0 rfl rfl ?_
    refine g_aload_n (pc := 1) dX3_sum_1 rfl rfl ?_
    refine g_iload_n (pc := 2) dX3_sum_2 rfl rfl ?_
    refine g_iload_n (pc := 3) dX3_sum_3 rfl rfl ?_
    refine g_fV (av := [.int _, .int _]) (pc := 4) dX3_sum_4 mt_X3_isBlock lk_X3_153 im_X3_isBlock se_X3_isBlock np_X3_isBlock s_114 (by decide) (by decide) rfl (gc_i (gc_i gc_0)) (Nat.le_of_ble_eq_true rfl) (Nat.le_of_ble_eq_true rfl) ⟨Nat.zero_le _, Nat.zero_le _⟩ (m_X3_isBlock_f hV hW hq) ?_
    refine g_if_eqN (tgt := 30) (pc := 7) dX3_sum_7 (by decide) (by omega) (fun c7 => ?_) (fun c7 => ?_)
    · refine g_iconst (v := nI 1) (pc := 30) dX3_sum_30 rfl ?_
      refine g_putI (pc := 31) dX3_sum_31 fl_X3_67 s_114 (by decide) rfl rfl rfl rfl ?_
      refine g_aload_n (pc := 34) dX3_sum_34 rfl rfl ?_
      refine g_getIV (pc := 35) dX3_sum_35 fl_X3_67 s_114 (by decide) rfl (show _ = nI 1 from rfl) ?_
      refine g_iconst (v := nI 1) (pc := 38) dX3_sum_38 rfl ?_
      refine g_icmp_neN (tgt := 44) (pc := 39) dX3_sum_39 (by decide) (by omega) (by omega) (fun c39 => ?_) (fun c39 => ?_)
      · exact absurd c39 (by decide)
      · refine g_iconst (v := nI 0) (pc := 42) dX3_sum_42 rfl ?_
        refine g_iret (pc := 43) dX3_sum_43 rfl rfl ?_
        first | exact ⟨rfl, rfl⟩ | exact ⟨by rw [bI_t (by first | assumption | omega)], rfl⟩ | exact ⟨by rw [bI_f (by first | assumption | omega)], rfl⟩
    · exact absurd c7 (by decide)
theorem m_X3_sum_0 (hV : Vok I V) (hW : WF V) (hX : MX I) {j b q : Nat} (hj : j < 8) (h1 : V (10 * j) = 1) (hb : b < bl V j) (hq : q < V (10 * j + 2)) : gRi G YX3_sum (d + 4) [.ref 114, .int (nI j), .int (nI b), .int (nI q)] n I L D (fun v J => v = fI (smF (gF V j b) (sz V j) q) ∧ QF I J 0) := by
  have hw := hW.1 j hj
  have hc1 := (hw.2.2.2.2.2.2.2.2 h1).2.1
  have hc6 := hw.2.2.1
  have hsz := sz_le hw
  refine g_aload_n (pc := 0) dX3_sum_0 rfl rfl ?_
  refine g_aload_n (pc := 1) dX3_sum_1 rfl rfl ?_
  refine g_iload_n (pc := 2) dX3_sum_2 rfl rfl ?_
  refine g_iload_n (pc := 3) dX3_sum_3 rfl rfl ?_
  refine g_fV (av := [.int _, .int _]) (pc := 4) dX3_sum_4 mt_X3_isBlock lk_X3_153 im_X3_isBlock se_X3_isBlock np_X3_isBlock s_114 (by decide) (by decide) rfl (gc_i (gc_i gc_0)) (Nat.le_of_ble_eq_true rfl) (Nat.le_of_ble_eq_true rfl) ⟨Nat.zero_le _, Nat.zero_le _⟩ (m_X3_isBlock_t hV hW hj h1 hb) ?_
  refine g_if_eqN (tgt := 30) (pc := 7) dX3_sum_7 (by decide) (by omega) (fun c7 => ?_) (fun c7 => ?_)
  · exact absurd c7 (by decide)
  refine g_iload_n (pc := 10) dX3_sum_10 rfl rfl ?_
  refine g_iconst (v := nI 0) (pc := 11) dX3_sum_11 rfl ?_
  refine g_aload_n (pc := 12) dX3_sum_12 rfl rfl ?_
  refine g_iload_n (pc := 13) dX3_sum_13 rfl rfl ?_
  refine g_iconst (v := nI 2) (pc := 14) dX3_sum_14 rfl ?_
  refine g_fV (av := [.int _, .int _]) (pc := 15) dX3_sum_15 mt_X3_of lk_X3_77 im_X3_of se_X3_of np_X3_of s_114 (by decide) (by decide) rfl (gc_i (gc_i gc_0)) (Nat.le_of_ble_eq_true rfl) (Nat.le_of_ble_eq_true rfl) ⟨Nat.zero_le _, Nat.zero_le _⟩ (m_X3_of hV (j := j) (w := 2) hj (by decide)) ?_
  refine g_iconst (v := nI 1) (pc := 18) dX3_sum_18 rfl ?_
  refine g_isubN (pc := 19) dX3_sum_19 (by omega) ?_
  refine g_fS (av := [.int _, .int _, .int _]) (pc := 20) dX3_sum_20 mt_X3_isIn lk_X3_73 sf_X3_isIn np_X3_isIn rfl (gc_i (gc_i (gc_i gc_0))) (Nat.le_of_ble_eq_true rfl) (Nat.le_of_ble_eq_true rfl) ⟨Nat.zero_le _, Nat.zero_le _⟩ (m_X3_isInN (by omega) (by omega) (by omega)) ?_
  refine g_if_eqB (tgt := 30) (pc := 23) dX3_sum_23 (by decide) (fun c23 => ?_) (fun c23 => ?_)
  · exact absurd ⟨Nat.zero_le _, by omega⟩ c23
  refine g_iconst (v := nI 0) (pc := 26) dX3_sum_26 rfl ?_
  refine g_goto (tgt := 31) (pc := 27) dX3_sum_27 (by decide) ?_
  refine g_putI (pc := 31) dX3_sum_31 fl_X3_67 s_114 (by decide) rfl rfl rfl rfl ?_
  refine g_aload_n (pc := 34) dX3_sum_34 rfl rfl ?_
  refine g_getIV (pc := 35) dX3_sum_35 fl_X3_67 s_114 (by decide) rfl (show _ = nI 0 from rfl) ?_
  refine g_iconst (v := nI 1) (pc := 38) dX3_sum_38 rfl ?_
  refine g_icmp_neN (tgt := 44) (pc := 39) dX3_sum_39 (by decide) (by omega) (by omega) (fun c39 => ?_) (fun c39 => ?_)
  rotate_left
  · exact absurd c39 (by decide)
  refine g_aload_n (pc := 44) dX3_sum_44 rfl rfl ?_
  refine g_iload_n (pc := 45) dX3_sum_45 rfl rfl ?_
  refine g_iload_n (pc := 46) dX3_sum_46 rfl rfl ?_
  refine g_rvV (av := [.int _, .int _]) (pc := 47) dX3_sum_47 mt_X3_looks lk_X3_196 im_X3_looks se_X3_looks np_X3_looks s_114 (by decide) (by decide) rfl (gc_i (gc_i gc_0)) (Nat.le_of_ble_eq_true rfl) (Nat.le_of_ble_eq_true rfl) (m_X3_looks hV.f hW hj h1 hb) ?_
  rintro I1 ⟨k1, k2, k3, k4, k5, k6⟩
  refine g_aload_n (pc := 50) dX3_sum_50 rfl rfl ?_
  refine g_iload_n (pc := 51) dX3_sum_51 rfl rfl ?_
  refine g_fV (av := [.int _]) (pc := 52) dX3_sum_52 mt_X3_sumOf lk_X3_181 im_X3_sumOf se_X3_sumOf np_X3_sumOf s_114 (by decide) (by decide) rfl (gc_i gc_0) (Nat.le_of_ble_eq_true rfl) (Nat.le_of_ble_eq_true rfl) ⟨Nat.zero_le _, Nat.zero_le _⟩ (m_X3_sumOf (hX.1.s (Sm.trans (Sm.up (l := [114, 124]) (by decide) Sm.rfl) k1) (by decide) (by decide) (by decide)) k3 hsz.1 (by omega) k6) ?_
  refine g_iret (pc := 55) dX3_sum_55 rfl rfl ?_
  refine ⟨_, _, ⟨rfl, rfl⟩, ?_⟩
  obtain ⟨hT, M, hR⟩ := hX
  exact ⟨rfl, dK.q ⟨k1.mono (by decide), k2.mono (by decide), M, hR.s ((k1 128 (by decide)).trans (gUp_ne (by decide)))⟩⟩
theorem m_X3_decoded_1 (hV : Vok I V) (hW : WF V) {f b q : Int32} (hb : ¬ ∃ j k, j < 8 ∧ V (10 * j) = 1 ∧ k < bl V j ∧ f = nI j ∧ b = nI k) : gFn G YX3_decoded (d + 5) [.ref 114, .int f, .int b, .int q] (hp n I L D) (.inl (some (.int (nI 0)))) (hp n (gUp I 114 0 (nI 1)) L D) 0 0 := by
  refine g_aload_n (pc := 0) dX3_decoded_0 rfl rfl ?_
  refine g_iload_n (pc := 1) dX3_decoded_1 rfl rfl ?_
  refine g_iload_n (pc := 2) dX3_decoded_2 rfl rfl ?_
  refine g_fV (av := [.int _, .int _]) (pc := 3) dX3_decoded_3 mt_X3_isThere lk_X3_199 im_X3_isThere se_X3_isThere np_X3_isThere s_114 (by decide) (by decide) rfl (gc_i (gc_i gc_0)) (Nat.le_of_ble_eq_true rfl) (Nat.le_of_ble_eq_true rfl) ⟨Nat.zero_le _, Nat.zero_le _⟩ (m_X3_isThere_f hV hW hb) ?_
  refine g_if_neN (tgt := 11) (pc := 6) dX3_decoded_6 (by decide) (by omega) (fun c6 => ?_) (fun c6 => ?_)
  · exact absurd c6 (by decide)
  · refine g_iconst (v := nI 0) (pc := 9) dX3_decoded_9 rfl ?_
    refine g_iret (pc := 10) dX3_decoded_10 rfl rfl ?_
    first | exact ⟨rfl, rfl⟩ | exact ⟨by rw [bI_t (by first | assumption | omega)], rfl⟩ | exact ⟨by rw [bI_f (by first | assumption | omega)], rfl⟩
theorem m_X3_decoded_2 (hV : Vok I V) (hW : WF V) {j b : Nat} (hj : j < 8) (h1 : V (10 * j) = 1) (hb : b < bl V j) {q : Int32} (hq : ¬ (nI 0 ≤ q ∧ q ≤ nI 2)) : gFn G YX3_decoded (d + 5) [.ref 114, .int (nI j), .int (nI b), .int q] (hp n I L D) (.inl (some (.int (nI 0)))) (hp n (gUp (gUp I 114 0 (nI 0)) 114 0 (nI 2)) L D) 0 0 := by
  refine g_aload_n (pc := 0) dX3_decoded_0 rfl rfl ?_
  refine g_iload_n (pc := 1) dX3_decoded_1 rfl rfl ?_
  refine g_iload_n (pc := 2) dX3_decoded_2 rfl rfl ?_
  refine g_fV (av := [.int _, .int _]) (pc := 3) dX3_decoded_3 mt_X3_isThere lk_X3_199 im_X3_isThere se_X3_isThere np_X3_isThere s_114 (by decide) (by decide) rfl (gc_i (gc_i gc_0)) (Nat.le_of_ble_eq_true rfl) (Nat.le_of_ble_eq_true rfl) ⟨Nat.zero_le _, Nat.zero_le _⟩ (m_X3_isThere_t hV hW hj h1 hb) ?_
  refine g_if_neN (tgt := 11) (pc := 6) dX3_decoded_6 (by decide) (by omega) (fun c6 => ?_) (fun c6 => ?_)
  · refine g_iload_n (pc := 11) dX3_decoded_11 rfl rfl ?_
    refine g_iconst (v := nI 0) (pc := 12) dX3_decoded_12 rfl ?_
    refine g_iconst (v := nI 2) (pc := 13) dX3_decoded_13 rfl ?_
    refine g_fS (av := [.int _, .int _, .int _]) (pc := 14) dX3_decoded_14 mt_X3_isIn lk_X3_73 sf_X3_isIn np_X3_isIn rfl (gc_i (gc_i (gc_i gc_0))) (Nat.le_of_ble_eq_true rfl) (Nat.le_of_ble_eq_true rfl) ⟨Nat.zero_le _, Nat.zero_le _⟩ (m_X3_isIn) ?_
    refine g_if_neB (tgt := 26) (pc := 17) dX3_decoded_17 (by decide) (fun c17 => ?_) (fun c17 => ?_)
    · exact absurd c17 hq
    · refine g_aload_n (pc := 20) dX3_decoded_20 rfl rfl ?_
      refine g_iconst (v := nI 2) (pc := 21) dX3_decoded_21 rfl ?_
      refine g_fV (av := [.int _]) (pc := 22) dX3_decoded_22 mt_X3_no lk_X3_124 im_X3_no se_X3_no np_X3_no s_114 (by decide) (by decide) rfl (gc_i gc_0) (Nat.le_of_ble_eq_true rfl) (Nat.le_of_ble_eq_true rfl) ⟨Nat.zero_le _, Nat.zero_le _⟩ (m_X3_no) ?_
      refine g_iret (pc := 25) dX3_decoded_25 rfl rfl ?_
      first | exact ⟨rfl, rfl⟩ | exact ⟨by rw [bI_t (by first | assumption | omega)], rfl⟩ | exact ⟨by rw [bI_f (by first | assumption | omega)], rfl⟩
  · exact absurd c6 (by decide)
def ddV (V : Nat → Nat) (j b q : Nat) : Nat := if q = 0 then ern V j b else 0
end

