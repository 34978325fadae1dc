/-! ===== the reference reads a text (b) ===== -/
theorem PE_at {T : Nat → Nat} {t k : Nat} {r : Option Nat} (h : PE T t r) (hk : ∀ i, i < k → fitC i (T i)) (h4 : k ≤ 4) (hkt : k ≤ t) (hn : ¬ (k < t ∧ fitC k (T k))) : r = some k := by
  cases r with
  | none => exact absurd ⟨by have := h.1; omega, h.2 k (by have := h.1; omega)⟩ hn
  | some p =>
    obtain ⟨h1, h2, h3⟩ := h
    rcases Nat.lt_trichotomy p k with q | q | q
    · rcases h3 with ⟨a, b⟩ | ⟨a, b⟩
      · exact absurd (hk p q) b
      · omega
    · rw [q]
    · exact absurd ⟨by omega, h2 k q⟩ hn
/-- where reading stops -/
def stopQ (T : Nat → Nat) (t q : Nat) (r : Option Nat) : Prop := (4 ≤ q ∧ q ≤ t ∧ q ≤ 36) ∧ (∀ i, 4 ≤ i → i < q → isSy (T i) = true) ∧ (q = t ∨ q = 36 ∨ ¬ isSy (T q) = true) ∧ ((r = some q ∧ (q < t ∨ q = 4)) ∨ (r = none ∧ q = t ∧ 4 < q))
theorem fit4 {T : Nat → Nat} {i : Nat} (h : 4 ≤ i) : fitC i (T i) ↔ (i < 36 ∧ isSy (T i) = true) := by
  unfold fitC
  rw [if_neg (by omega), if_neg (by omega), if_neg (by omega), if_neg (by omega)]
theorem stopQ_ex {T : Nat → Nat} {t : Nat} {r : Option Nat} (h : PE T t r) (hk : ∀ i, i < 4 → fitC i (T i)) (h4 : 4 ≤ t) : ∃ q, stopQ T t q r := by
  cases r with
  | none =>
    obtain ⟨h1, h2⟩ := h
    have h36 : t ≤ 36 := by
      have := ((fit4 (T := T) (i := t - 1) (by omega)).mp (h2 (t - 1) (by omega))).1
      omega
    exact ⟨t, ⟨h4, Nat.le_refl _, h36⟩, fun i a b => ((fit4 a).mp (h2 i b)).2, Or.inl rfl, Or.inr ⟨rfl, rfl, h1⟩⟩
  | some p =>
    obtain ⟨h1, h2, h3⟩ := h
    have hp : 4 ≤ p := by
      rcases Nat.lt_or_ge p 4 with q | q
      · rcases h3 with ⟨a, b⟩ | ⟨a, b⟩
        · exact absurd (hk p q) b
        · omega
      · exact q
    have h36 : p ≤ 36 := by
      rcases Nat.lt_or_ge 36 p with q | q
      · have := ((fit4 (T := T) (i := p - 1) (by omega)).mp (h2 (p - 1) (by omega))).1
        omega
      · exact q
    refine ⟨p, ⟨hp, h1, h36⟩, fun i a b => ((fit4 a).mp (h2 i b)).2, ?_, Or.inl ⟨rfl, ?_⟩⟩
    · rcases h3 with ⟨a, b⟩ | ⟨a, b⟩
      · by_cases e : p = 36
        · exact Or.inr (Or.inl e)
        · exact Or.inr (Or.inr (fun q => b ((fit4 hp).mpr ⟨by omega, q⟩)))
      · exact Or.inl a
    · rcases h3 with ⟨a, b⟩ | ⟨a, b⟩
      · exact Or.inl a
      · right; omega
/-- a text has been read -/
def stO (I J : Nat → Nat → Int32) (T : Nat → Nat) (t : Nat) : Prop := J 114 0 = nI 0 ∧ J 114 8 = nI 0 ∧ (∀ i, i < t - 4 → J 123 i = nI (syV (T (4 + i)))) ∧ Sm [114, 123] I J ∧ Sc 114 [0, 8, 14, 15] I J
section
variable {G : gG} {d n : Nat} {I : Nat → Nat → Int32} {L : Nat → Nat → Int64} {D : Nat → Nat → UInt64} {V : Nat → Nat}
theorem l_st_end {Q : gQ} {T : Nat → Nat} {t q : Nat} {r : Option Nat} {I0 : Nat → Nat → Int32} {x y : Option Value} (hq : stopQ T t q r) (ht60 : t ≤ 60) (ht : I 114 8 = nI t) (h0 : I 114 0 = nI 0) (h15 : I 114 15 = nI 0) (h14 : I 114 14 = nI q) (htl : ∀ i, i < q - 4 → I 123 i = nI (syV (T (4 + i)))) (s1 : Sm [114, 123] I0 I) (s2 : Sc 114 [0, 8, 14, 15] I0 I) (hbad : ∀ p, r = some p → ∀ o h, stEQ G n I0 L D p o h → Q o h)
    (kx : r = none → ∀ J, stO I0 J T t → gGo G YX3_store (d + 1) 174 [some (.ref 114), x, y, some (.int (nI (t - 4))), none, none, none, none, none, none, none] [] (hp n J L D) 0 0 Q) : gGo G YX3_store (d + 1) 119 [some (.ref 114), x, y, some (.int (nI (q - 4))), none, none, none, none, none, none, none] [] (hp n I L D) 0 0 Q := by
  obtain ⟨⟨q1, q2, q3⟩, q4, q5, q6⟩ := hq
  rcases q6 with ⟨hr, hb⟩ | ⟨hr, hqt, h4q⟩
  · refine g_imp (hbad q hr) ?_
    refine g_aload_n (pc := 119) dX3_store_119 rfl rfl ?_
    refine g_dup (pc := 120) dX3_store_120 rfl ?_
    refine g_getIV (pc := 121) dX3_store_121 fl_X3_107 s_114 (by decide) rfl h15 ?_
    refine g_iload_n (pc := 124) dX3_store_124 rfl rfl ?_
    refine g_if_eqN (tgt := 139) (pc := 125) dX3_store_125 (by decide) (by omega) (fun c125 => ?_) (fun c125 => ?_)
    · refine g_iconst (v := nI 1) (pc := 139) dX3_store_139 rfl ?_
      refine g_goto (tgt := 144) (pc := 140) dX3_store_140 (by decide) ?_
      refine g_ior (pc := 144) dX3_store_144 ?_
      rw [show nI 0 ||| nI 1 = nI 1 from rfl]
      refine g_putI (pc := 145) dX3_store_145 fl_X3_107 s_114 (by decide) rfl rfl rfl rfl ?_
      refine g_aload_n (pc := 148) dX3_store_148 rfl rfl ?_
      refine g_iconst (v := nI 0) (pc := 149) dX3_store_149 rfl ?_
      refine g_putI (pc := 150) dX3_store_150 fl_X3_98 s_114 (by decide) rfl rfl rfl rfl ?_
      refine g_aload_n (pc := 153) dX3_store_153 rfl rfl ?_
      refine g_getIV (pc := 154) dX3_store_154 fl_X3_107 s_114 (by decide) rfl (show _ = nI 1 from gUp_k (by decide) (by rw [gUp_c, if_pos rfl])) ?_
      refine g_if_eqN (tgt := 174) (pc := 157) dX3_store_157 (by decide) (by omega) (fun c157 => ?_) (fun c157 => ?_)
      · exact absurd c157 (by decide)
      refine g_aload_n (pc := 160) dX3_store_160 rfl rfl ?_
      refine g_aload_n (pc := 161) dX3_store_161 rfl rfl ?_
      refine g_getIV (pc := 162) dX3_store_162 fl_X3_101 s_114 (by decide) rfl (show _ = nI q from gUp_k (by decide) (gUp_k (by decide) h14)) ?_
      refine g_putI (pc := 165) dX3_store_165 fl_X3_19 s_114 (by decide) rfl rfl rfl rfl ?_
      refine g_aload_n (pc := 168) dX3_store_168 rfl rfl ?_
      refine g_iconst (v := nI 1) (pc := 169) dX3_store_169 rfl ?_
      refine g_fV (av := [.int _]) (pc := 170) dX3_store_170 mt_X3_no lk_X3_124 im_X3_no se_X3_no np_X3_no s_114 (by decide) (by decide) rfl (gc_i gc_0) (Nat.le_of_ble_eq_true rfl) (Nat.le_of_ble_eq_true rfl) ⟨Nat.zero_le _, Nat.zero_le _⟩ (m_X3_no) ?_
      refine g_iret (pc := 173) dX3_store_173 rfl rfl ?_
      refine ⟨_, _, ⟨rfl, rfl⟩, ?_, ?_, ?_, (by repeat' first | assumption | exact Sm.rfl | exact Sc.rfl | refine Sm.up (by decide) ?_ | refine Sc.up (by decide) ?_ | refine Sc.un (by decide) ?_), ?_⟩
      · rw [gUp_c, if_pos rfl]
      · exact gUp_k (by decide) (by rw [gUp_c, if_pos rfl])
      · exact gUp_k (by decide) (gUp_k (by decide) (by rw [gUp_c, if_pos rfl]))
      · exact Sc.up (by decide) (Sc.up (by decide) (Sc.up (by decide) (Sc.up (by decide) (s2.mono (by decide)))))
    · refine g_aload_n (pc := 128) dX3_store_128 rfl rfl ?_
      refine g_getIV (pc := 129) dX3_store_129 fl_X3_101 s_114 (by decide) rfl h14 ?_
      refine g_aload_n (pc := 132) dX3_store_132 rfl rfl ?_
      refine g_getIV (pc := 133) dX3_store_133 fl_X3_98 s_114 (by decide) rfl ht ?_
      refine g_icmp_geN (tgt := 143) (pc := 136) dX3_store_136 (by decide) (by omega) (by omega) (fun c136 => ?_) (fun c136 => ?_)
      · omega
      · refine g_iconst (v := nI 1) (pc := 139) dX3_store_139 rfl ?_
        refine g_goto (tgt := 144) (pc := 140) dX3_store_140 (by decide) ?_
        refine g_ior (pc := 144) dX3_store_144 ?_
        rw [show nI 0 ||| nI 1 = nI 1 from rfl]
        refine g_putI (pc := 145) dX3_store_145 fl_X3_107 s_114 (by decide) rfl rfl rfl rfl ?_
        refine g_aload_n (pc := 148) dX3_store_148 rfl rfl ?_
        refine g_iconst (v := nI 0) (pc := 149) dX3_store_149 rfl ?_
        refine g_putI (pc := 150) dX3_store_150 fl_X3_98 s_114 (by decide) rfl rfl rfl rfl ?_
        refine g_aload_n (pc := 153) dX3_store_153 rfl rfl ?_
        refine g_getIV (pc := 154) dX3_store_154 fl_X3_107 s_114 (by decide) rfl (show _ = nI 1 from gUp_k (by decide) (by rw [gUp_c, if_pos rfl])) ?_
        refine g_if_eqN (tgt := 174) (pc := 157) dX3_store_157 (by decide) (by omega) (fun c157 => ?_) (fun c157 => ?_)
        · exact absurd c157 (by decide)
        refine g_aload_n (pc := 160) dX3_store_160 rfl rfl ?_
        refine g_aload_n (pc := 161) dX3_store_161 rfl rfl ?_
        refine g_getIV (pc := 162) dX3_store_162 fl_X3_101 s_114 (by decide) rfl (show _ = nI q from gUp_k (by decide) (gUp_k (by decide) h14)) ?_
        refine g_putI (pc := 165) dX3_store_165 fl_X3_19 s_114 (by decide) rfl rfl rfl rfl ?_
        refine g_aload_n (pc := 168) dX3_store_168 rfl rfl ?_
        refine g_iconst (v := nI 1) (pc := 169) dX3_store_169 rfl ?_
        refine g_fV (av := [.int _]) (pc := 170) dX3_store_170 mt_X3_no lk_X3_124 im_X3_no se_X3_no np_X3_no s_114 (by decide) (by decide) rfl (gc_i gc_0) (Nat.le_of_ble_eq_true rfl) (Nat.le_of_ble_eq_true rfl) ⟨Nat.zero_le _, Nat.zero_le _⟩ (m_X3_no) ?_
        refine g_iret (pc := 173) dX3_store_173 rfl rfl ?_
        refine ⟨_, _, ⟨rfl, rfl⟩, ?_, ?_, ?_, (by repeat' first | assumption | exact Sm.rfl | exact Sc.rfl | refine Sm.up (by decide) ?_ | refine Sc.up (by decide) ?_ | refine Sc.un (by decide) ?_), ?_⟩
        · rw [gUp_c, if_pos rfl]
        · exact gUp_k (by decide) (by rw [gUp_c, if_pos rfl])
        · exact gUp_k (by decide) (gUp_k (by decide) (by rw [gUp_c, if_pos rfl]))
        · exact Sc.up (by decide) (Sc.up (by decide) (Sc.up (by decide) (Sc.up (by decide) (s2.mono (by decide)))))
  · subst hqt
    refine g_aload_n (pc := 119) dX3_store_119 rfl rfl ?_
    refine g_dup (pc := 120) dX3_store_120 rfl ?_
    refine g_getIV (pc := 121) dX3_store_121 fl_X3_107 s_114 (by decide) rfl h15 ?_
    refine g_iload_n (pc := 124) dX3_store_124 rfl rfl ?_
    refine g_if_eqN (tgt := 139) (pc := 125) dX3_store_125 (by decide) (by omega) (fun c125 => ?_) (fun c125 => ?_)
    · omega
    refine g_aload_n (pc := 128) dX3_store_128 rfl rfl ?_
    refine g_getIV (pc := 129) dX3_store_129 fl_X3_101 s_114 (by decide) rfl h14 ?_
    refine g_aload_n (pc := 132) dX3_store_132 rfl rfl ?_
    refine g_getIV (pc := 133) dX3_store_133 fl_X3_98 s_114 (by decide) rfl ht ?_
    refine g_icmp_geN (tgt := 143) (pc := 136) dX3_store_136 (by decide) (by omega) (by omega) (fun c136 => ?_) (fun c136 => ?_)
    rotate_left
    · omega
    refine g_iconst (v := nI 0) (pc := 143) dX3_store_143 rfl ?_
    refine g_ior (pc := 144) dX3_store_144 ?_
    rw [show nI 0 ||| nI 0 = nI 0 from rfl]
    refine g_putI (pc := 145) dX3_store_145 fl_X3_107 s_114 (by decide) rfl rfl rfl rfl ?_
    refine g_aload_n (pc := 148) dX3_store_148 rfl rfl ?_
    refine g_iconst (v := nI 0) (pc := 149) dX3_store_149 rfl ?_
    refine g_putI (pc := 150) dX3_store_150 fl_X3_98 s_114 (by decide) rfl rfl rfl rfl ?_
    refine g_aload_n (pc := 153) dX3_store_153 rfl rfl ?_
    refine g_getIV (pc := 154) dX3_store_154 fl_X3_107 s_114 (by decide) rfl (show _ = nI 0 from gUp_k (by decide) (by rw [gUp_c, if_pos rfl])) ?_
    refine g_if_eqN (tgt := 174) (pc := 157) dX3_store_157 (by decide) (by omega) (fun c157 => ?_) (fun c157 => ?_)
    rotate_left
    · exact absurd rfl c157
    refine kx hr _ ⟨?_, ?_, ?_, (by repeat' first | assumption | exact Sm.rfl | exact Sc.rfl | refine Sm.up (by decide) ?_ | refine Sc.up (by decide) ?_ | refine Sc.un (by decide) ?_), (by repeat' first | assumption | exact Sm.rfl | exact Sc.rfl | refine Sm.up (by decide) ?_ | refine Sc.up (by decide) ?_ | refine Sc.un (by decide) ?_)⟩
    · exact gUp_k (by decide) (gUp_k (by decide) h0)
    · rw [gUp_c, if_pos rfl]
    · intro i hi; exact gUp_a (by decide) (gUp_a (by decide) (htl i hi))
theorem l_st_loop {Q : gQ} {T : Nat → Nat} {t q : Nat} {r : Option Nat} {I0 : Nat → Nat → Int32} {x y : Int32} (hT : Tx I0 118 T t) (hq : stopQ T t q r) (ht : I 114 8 = nI t) (h0 : I 114 0 = nI 0) (h15 : I 114 15 = nI 0) (h14 : I 114 14 = nI 4) (s1 : Sm [114, 123] I0 I) (s2 : Sc 114 [0, 14, 15] I0 I) (hbad : ∀ p, r = some p → ∀ o h, stEQ G n I0 L D p o h → Q o h)
    (kx : r = none → ∀ J, stO I0 J T t → gGo G YX3_store (d + 1 + 1) 174 [some (.ref 114), some (.int x), some (.int y), some (.int (nI (t - 4))), none, none, none, none, none, none, none] [] (hp n J L D) 0 0 Q) : gGo G YX3_store (d + 1 + 1) 65 [some (.ref 114), some (.int x), some (.int y), none, none, none, none, none, none, none, none] [] (hp n I L D) 0 0 Q := by
  have hq0 := hq
  obtain ⟨⟨q1, q2, q3⟩, q4, q5, -⟩ := hq
  have ht6 := hT.1
  refine g_iconst (v := nI 0) (pc := 65) dX3_store_65 rfl ?_
  refine g_istore_n (pc := 66) dX3_store_66 rfl (Nat.le_of_ble_eq_true rfl) rfl ?_
  refine g_loop (q - 4) (fun k J => J 114 8 = nI t ∧ J 114 0 = nI 0 ∧ J 114 15 = nI 0 ∧ J 114 14 = nI (4 + k) ∧ (∀ i, i < k → J 123 i = nI (syV (T (4 + i)))) ∧ Sm [114, 123] I0 J ∧ Sc 114 [0, 14, 15] I0 J) (fun k _ => [some (.ref 114), some (.int x), some (.int y), some (.int (nI k)), none, none, none, none, none, none, none]) (fun J => hp n J L D) (fun k J hk hJ kn => ?_) (fun J hJ => ?_) 0 I (Nat.zero_le _) ⟨ht, h0, h15, h14, fun i hi => absurd hi (Nat.not_lt_zero i), s1, s2⟩
  · obtain ⟨j1, j2, j3, j4, j5, j6, j7⟩ := hJ
    have hTJ : Tx J 118 T t := hT.s (j6 118 (by decide))
    have hsy := q4 (4 + k) (by omega) (by omega)
    have h126 := (hT.2 (4 + k) (by omega)).2
    have hsl := syV_lt hsy
    refine g_aload_n (pc := 67) dX3_store_67 rfl rfl ?_
    refine g_getIV (pc := 68) dX3_store_68 fl_X3_107 s_114 (by decide) rfl j3 ?_
    refine g_if_neN (tgt := 119) (pc := 71) dX3_store_71 (by decide) (by omega) (fun c71 => ?_) (fun c71 => ?_)
    · exact absurd rfl c71
    refine g_iload_n (pc := 74) dX3_store_74 rfl rfl ?_
    refine g_bipush (v := nI 32) (pc := 75) dX3_store_75 rfl ?_
    refine g_icmp_geN (tgt := 119) (pc := 77) dX3_store_77 (by decide) (by omega) (by omega) (fun c77 => ?_) (fun c77 => ?_)
    · omega
    refine g_aload_n (pc := 80) dX3_store_80 rfl rfl ?_
    refine g_fV (av := []) (pc := 81) dX3_store_81 mt_X3_here lk_X3_104 im_X3_here se_X3_here np_X3_here s_114 (by decide) (by decide) rfl gc_0 (Nat.le_of_ble_eq_true rfl) (Nat.le_of_ble_eq_true rfl) ⟨Nat.zero_le _, Nat.zero_le _⟩ (m_X3_here hTJ j1 j4 (by omega)) ?_
    rw [if_pos (show 4 + k < t by omega)]
    refine g_fS (av := [.int _]) (pc := 84) dX3_store_84 mt_X3_symbolOf lk_X3_121 sf_X3_symbolOf np_X3_symbolOf rfl (gc_i gc_0) (Nat.le_of_ble_eq_true rfl) (Nat.le_of_ble_eq_true rfl) ⟨Nat.zero_le _, Nat.zero_le _⟩ (m_X3_symbolOf_n (by omega)) ?_
    rw [if_pos hsy]
    refine g_if_ltN (tgt := 119) (pc := 87) dX3_store_87 (by decide) (by omega) (fun c87 => ?_) (fun c87 => ?_)
    · omega
    refine g_aload_n (pc := 90) dX3_store_90 rfl rfl ?_
    refine g_getR (pc := 91) dX3_store_91 fl_X3_39 s_114 (by decide) rfl t_114_16 ?_
    refine g_iload_n (pc := 94) dX3_store_94 rfl rfl ?_
    refine g_aload_n (pc := 95) dX3_store_95 rfl rfl ?_
    refine g_fV (av := []) (pc := 96) dX3_store_96 mt_X3_here lk_X3_104 im_X3_here se_X3_here np_X3_here s_114 (by decide) (by decide) rfl gc_0 (Nat.le_of_ble_eq_true rfl) (Nat.le_of_ble_eq_true rfl) ⟨Nat.zero_le _, Nat.zero_le _⟩ (m_X3_here hTJ j1 j4 (by omega)) ?_
    rw [if_pos (show 4 + k < t by omega)]
    refine g_fS (av := [.int _]) (pc := 99) dX3_store_99 mt_X3_symbolOf lk_X3_121 sf_X3_symbolOf np_X3_symbolOf rfl (gc_i gc_0) (Nat.le_of_ble_eq_true rfl) (Nat.le_of_ble_eq_true rfl) ⟨Nat.zero_le _, Nat.zero_le _⟩ (m_X3_symbolOf_n (by omega)) ?_
    rw [if_pos hsy]
    refine g_iastoreN (pc := 102) dX3_store_102 s_123 (by decide) (by omega) (by decide) ?_
    refine g_iincN (pc := 103) dX3_store_103 (Nat.le_of_ble_eq_true rfl) rfl rfl ?_
    refine g_aload_n (pc := 106) dX3_store_106 rfl rfl ?_
    refine g_dup (pc := 107) dX3_store_107 rfl ?_
    refine g_getIV (pc := 108) dX3_store_108 fl_X3_101 s_114 (by decide) rfl (gUp_a (by decide) j4) ?_
    refine g_iconst (v := nI 1) (pc := 111) dX3_store_111 rfl ?_
    refine g_iaddN (pc := 112) dX3_store_112 ?_
    refine g_putI (pc := 113) dX3_store_113 fl_X3_101 s_114 (by decide) rfl rfl rfl rfl ?_
    refine g_goto (tgt := 67) (pc := 116) dX3_store_116 (by decide) ?_
    refine kn _ ⟨?_, ?_, ?_, ?_, fun i hi => ?_, (by repeat' first | assumption | exact Sm.rfl | exact Sc.rfl | refine Sm.up (by decide) ?_ | refine Sc.up (by decide) ?_ | refine Sc.un (by decide) ?_), (by repeat' first | assumption | exact Sm.rfl | exact Sc.rfl | refine Sm.up (by decide) ?_ | refine Sc.up (by decide) ?_ | refine Sc.un (by decide) ?_)⟩
    · exact gUp_k (by decide) (gUp_a (by decide) j1)
    · exact gUp_k (by decide) (gUp_a (by decide) j2)
    · exact gUp_k (by decide) (gUp_a (by decide) j3)
    · rw [gUp_c, if_pos rfl]
      rfl
    · rw [gUp_ne (by decide), gUp_c]
      by_cases e : i = k
      · rw [if_pos e, e]
      · rw [if_neg e]; exact j5 i (by omega)
  · obtain ⟨j1, j2, j3, j4, j5, j6, j7⟩ := hJ
    have j4q : J 114 14 = nI q := by rw [j4, show 4 + (q - 4) = q by omega]
    have hTJ : Tx J 118 T t := hT.s (j6 118 (by decide))
    have hend := l_st_end (d := d + 1) (x := some (.int x)) (y := some (.int y)) hq0 ht6 j1 j2 j3 j4q j5 j6 (j7.mono (by decide)) hbad kx
    by_cases h36 : q = 36
    · skip
      refine g_aload_n (pc := 67) dX3_store_67 rfl rfl ?_
      refine g_getIV (pc := 68) dX3_store_68 fl_X3_107 s_114 (by decide) rfl j3 ?_
      refine g_if_neN (tgt := 119) (pc := 71) dX3_store_71 (by decide) (by omega) (fun c71 => ?_) (fun c71 => ?_)
      · exact absurd rfl c71
      refine g_iload_n (pc := 74) dX3_store_74 rfl rfl ?_
      refine g_bipush (v := nI 32) (pc := 75) dX3_store_75 rfl ?_
      refine g_icmp_geN (tgt := 119) (pc := 77) dX3_store_77 (by decide) (by omega) (by omega) (fun c77 => ?_) (fun c77 => ?_)
      rotate_left
      · omega
      exact hend
    · by_cases hqt : q = t
      · skip
        refine g_aload_n (pc := 67) dX3_store_67 rfl rfl ?_
        refine g_getIV (pc := 68) dX3_store_68 fl_X3_107 s_114 (by decide) rfl j3 ?_
        refine g_if_neN (tgt := 119) (pc := 71) dX3_store_71 (by decide) (by omega) (fun c71 => ?_) (fun c71 => ?_)
        · exact absurd rfl c71
        refine g_iload_n (pc := 74) dX3_store_74 rfl rfl ?_
        refine g_bipush (v := nI 32) (pc := 75) dX3_store_75 rfl ?_
        refine g_icmp_geN (tgt := 119) (pc := 77) dX3_store_77 (by decide) (by omega) (by omega) (fun c77 => ?_) (fun c77 => ?_)
        · omega
        refine g_aload_n (pc := 80) dX3_store_80 rfl rfl ?_
        refine g_fV (av := []) (pc := 81) dX3_store_81 mt_X3_here lk_X3_104 im_X3_here se_X3_here np_X3_here s_114 (by decide) (by decide) rfl gc_0 (Nat.le_of_ble_eq_true rfl) (Nat.le_of_ble_eq_true rfl) ⟨Nat.zero_le _, Nat.zero_le _⟩ (m_X3_here hTJ j1 j4q q2) ?_
        rw [if_neg (show ¬ q < t by omega)]
        refine g_fS (av := [.int _]) (pc := 84) dX3_store_84 mt_X3_symbolOf lk_X3_121 sf_X3_symbolOf np_X3_symbolOf rfl (gc_i gc_0) (Nat.le_of_ble_eq_true rfl) (Nat.le_of_ble_eq_true rfl) ⟨Nat.zero_le _, Nat.zero_le _⟩ m_X3_symbolOf_m ?_
        refine g_if_lt (tgt := 119) (pc := 87) dX3_store_87 (by decide) (fun c87 => ?_) (fun c87 => ?_)
        rotate_left
        · exact absurd (show (-1 : Int32) < 0 by decide) c87
        exact hend
      · have hns : ¬ isSy (T q) = true := by
          rcases q5 with e | e | e
          · exact absurd e hqt
          · exact absurd e h36
          · exact e
        have h126 := (hT.2 q (by omega)).2
        refine g_aload_n (pc := 67) dX3_store_67 rfl rfl ?_
        refine g_getIV (pc := 68) dX3_store_68 fl_X3_107 s_114 (by decide) rfl j3 ?_
        refine g_if_neN (tgt := 119) (pc := 71) dX3_store_71 (by decide) (by omega) (fun c71 => ?_) (fun c71 => ?_)
        · exact absurd rfl c71
        refine g_iload_n (pc := 74) dX3_store_74 rfl rfl ?_
        refine g_bipush (v := nI 32) (pc := 75) dX3_store_75 rfl ?_
        refine g_icmp_geN (tgt := 119) (pc := 77) dX3_store_77 (by decide) (by omega) (by omega) (fun c77 => ?_) (fun c77 => ?_)
        · omega
        refine g_aload_n (pc := 80) dX3_store_80 rfl rfl ?_
        refine g_fV (av := []) (pc := 81) dX3_store_81 mt_X3_here lk_X3_104 im_X3_here se_X3_here np_X3_here s_114 (by decide) (by decide) rfl gc_0 (Nat.le_of_ble_eq_true rfl) (Nat.le_of_ble_eq_true rfl) ⟨Nat.zero_le _, Nat.zero_le _⟩ (m_X3_here hTJ j1 j4q q2) ?_
        rw [if_pos (show q < t by omega)]
        refine g_fS (av := [.int _]) (pc := 84) dX3_store_84 mt_X3_symbolOf lk_X3_121 sf_X3_symbolOf np_X3_symbolOf rfl (gc_i gc_0) (Nat.le_of_ble_eq_true rfl) (Nat.le_of_ble_eq_true rfl) ⟨Nat.zero_le _, Nat.zero_le _⟩ (m_X3_symbolOf_n (by omega)) ?_
        rw [if_neg hns]
        refine g_if_lt (tgt := 119) (pc := 87) dX3_store_87 (by decide) (fun c87 => ?_) (fun c87 => ?_)
        rotate_left
        · exact absurd (show (-1 : Int32) < 0 by decide) c87
        exact hend
theorem l_st_parse {Q : gQ} {T : Nat → Nat} {t : Nat} {r : Option Nat} (hT : Tx I 118 T t) (ht : I 114 8 = nI t) (hP : PE T t r) (hbad : ∀ p, r = some p → ∀ o h, stEQ G n I L D p o h → Q o h)
    (kx : r = none → ∀ J, stO I J T t → gGo G YX3_store (d + 1 + 1) 174 [some (.ref 114), some (.int (nI (T 0 - 48))), some (.int (nI (T 2 - 48))), some (.int (nI (t - 4))), none, none, none, none, none, none, none] [] (hp n J L D) 0 0 Q) : gGo G YX3_store (d + 1 + 1) 0 [some (.ref 114), none, none, none, none, none, none, none, none, none, none] [] (hp n I L D) 0 0 Q := by
  have ht6 := hT.1
  have f0 : ∀ {c}, fitC 0 c ↔ (49 ≤ c ∧ c ≤ 54) := by intro c; unfold fitC; rw [if_pos rfl]
  have f1 : ∀ {c}, fitC 1 c ↔ c = 42 := by intro c; unfold fitC; rw [if_neg (by decide), if_pos rfl]
  have f2 : ∀ {c}, fitC 2 c ↔ (49 ≤ c ∧ c ≤ 52) := by intro c; unfold fitC; rw [if_neg (by decide), if_neg (by decide), if_pos rfl]
  have f3 : ∀ {c}, fitC 3 c ↔ c = 58 := by intro c; unfold fitC; rw [if_neg (by decide), if_neg (by decide), if_neg (by decide), if_pos rfl]
  refine g_aload_n (pc := 0) dX3_store_0 rfl rfl ?_
  refine g_iconst (v := nI 0) (pc := 1) dX3_store_1 rfl ?_
  refine g_putI (pc := 2) dX3_store_2 fl_X3_67 s_114 (by decide) rfl rfl rfl rfl ?_
  refine g_aload_n (pc := 5) dX3_store_5 rfl rfl ?_
  refine g_iconst (v := nI 0) (pc := 6) dX3_store_6 rfl ?_
  refine g_putI (pc := 7) dX3_store_7 fl_X3_107 s_114 (by decide) rfl rfl rfl rfl ?_
  refine g_aload_n (pc := 10) dX3_store_10 rfl rfl ?_
  refine g_iconst (v := nI 0) (pc := 11) dX3_store_11 rfl ?_
  refine g_putI (pc := 12) dX3_store_12 fl_X3_101 s_114 (by decide) rfl rfl rfl rfl ?_
  skip
  by_cases h0 : 0 < t ∧ 49 ≤ T 0 ∧ T 0 ≤ 54
  · have hf0 : ∀ i, i < 1 → fitC i (T i) := fun i hi => by rw [show i = 0 by omega]; exact f0.mpr h0.2
    refine g_aload_n (pc := 15) dX3_store_15 rfl rfl ?_
    refine g_bipush (v := nI 6) (pc := 16) dX3_store_16 rfl ?_
    refine g_fV (av := [.int _]) (pc := 18) dX3_store_18 mt_X3_digit lk_X3_114 im_X3_digit se_X3_digit np_X3_digit s_114 (by decide) (by decide) rfl (gc_i gc_0) (Nat.le_of_ble_eq_true rfl) (Nat.le_of_ble_eq_true rfl) ⟨Nat.zero_le _, Nat.zero_le _⟩ (m_X3_digit_t (T := T) (t := t) (a := 0) (hT.s (by rw [gUp_ne (by decide), gUp_ne (by decide), gUp_ne (by decide)])) (gUp_k (by decide) (gUp_k (by decide) (gUp_k (by decide) ht))) (by rw [gUp_c, if_pos rfl]) (gUp_k (by decide) (by rw [gUp_c, if_pos rfl])) h0.1 (by decide) h0.2) ?_
    refine g_istore_n (pc := 21) dX3_store_21 rfl (Nat.le_of_ble_eq_true rfl) rfl ?_
    refine g_aload_n (pc := 22) dX3_store_22 rfl rfl ?_
    refine g_getIV (pc := 23) dX3_store_23 fl_X3_107 s_114 (by decide) rfl (show _ = nI 0 from gUp_k (by decide) (by rw [gUp_c, if_pos rfl])) ?_
    refine g_if_neN (tgt := 35) (pc := 26) dX3_store_26 (by decide) (by omega) (fun c26 => ?_) (fun c26 => ?_)
    · exact absurd rfl c26
    skip
    have hs1 : Sm [114, 123] I (gUp (gUp (gUp (gUp (gUp I 114 0 (nI 0)) 114 15 (nI 0)) 114 14 (nI 0)) 114 15 (nI 0)) 114 14 (nI (0 + 1))) := (by repeat' first | assumption | exact Sm.rfl | exact Sc.rfl | refine Sm.up (by decide) ?_ | refine Sc.up (by decide) ?_ | refine Sc.un (by decide) ?_)
    have hs2 : Sc 114 [0, 14, 15] I (gUp (gUp (gUp (gUp (gUp I 114 0 (nI 0)) 114 15 (nI 0)) 114 14 (nI 0)) 114 15 (nI 0)) 114 14 (nI (0 + 1))) := (by repeat' first | assumption | exact Sm.rfl | exact Sc.rfl | refine Sm.up (by decide) ?_ | refine Sc.up (by decide) ?_ | refine Sc.un (by decide) ?_)
    have e0 : gUp (gUp (gUp (gUp (gUp I 114 0 (nI 0)) 114 15 (nI 0)) 114 14 (nI 0)) 114 15 (nI 0)) 114 14 (nI (0 + 1)) 114 0 = nI 0 := gUp_k (by decide) (gUp_k (by decide) (gUp_k (by decide) (gUp_k (by decide) (by rw [gUp_c, if_pos rfl]))))
    have e15 : gUp (gUp (gUp (gUp (gUp I 114 0 (nI 0)) 114 15 (nI 0)) 114 14 (nI 0)) 114 15 (nI 0)) 114 14 (nI (0 + 1)) 114 15 = nI 0 := gUp_k (by decide) (by rw [gUp_c, if_pos rfl])
    have e14 : gUp (gUp (gUp (gUp (gUp I 114 0 (nI 0)) 114 15 (nI 0)) 114 14 (nI 0)) 114 15 (nI 0)) 114 14 (nI (0 + 1)) 114 14 = nI 1 := by rw [gUp_c, if_pos rfl]
    revert hs1 hs2 e0 e15 e14
    generalize gUp (gUp (gUp (gUp (gUp I 114 0 (nI 0)) 114 15 (nI 0)) 114 14 (nI 0)) 114 15 (nI 0)) 114 14 (nI (0 + 1)) = I1
    intro hs1 hs2 e0 e15 e14
    have hT1 : Tx I1 118 T t := hT.s (hs1 118 (by decide))
    have ht1 : I1 114 8 = nI t := by rw [hs2 8 (by decide)]; exact ht
    by_cases h1 : 1 < t ∧ T 1 = 42
    · have hf1 : ∀ i, i < 2 → fitC i (T i) := fun i hi => by
        rcases Nat.lt_or_ge i 1 with w | w
        · exact hf0 i w
        · rw [show i = 1 by omega]; exact f1.mpr h1.2
      refine g_aload_n (pc := 29) dX3_store_29 rfl rfl ?_
      refine g_bipush (v := nI 42) (pc := 30) dX3_store_30 rfl ?_
      refine g_rvV (av := [.int _]) (pc := 32) dX3_store_32 mt_X3_takes lk_X3_117 im_X3_takes se_X3_takes np_X3_takes s_114 (by decide) (by decide) rfl (gc_i gc_0) (Nat.le_of_ble_eq_true rfl) (Nat.le_of_ble_eq_true rfl) (m_X3_takes_t (a := 1) hT1 ht1 e14 e15 h1.1 (by decide) h1.2) ?_
      rintro I2 rfl
      refine g_aload_n (pc := 35) dX3_store_35 rfl rfl ?_
      refine g_getIV (pc := 36) dX3_store_36 fl_X3_107 s_114 (by decide) rfl (show _ = nI 0 from gUp_k (by decide) (by rw [gUp_c, if_pos rfl])) ?_
      refine g_if_eqN (tgt := 46) (pc := 39) dX3_store_39 (by decide) (by omega) (fun c39 => ?_) (fun c39 => ?_)
      rotate_left
      · exact absurd rfl c39
      skip
      have hs1b : Sm [114, 123] I (gUp (gUp I1 114 15 (nI 0)) 114 14 (nI (1 + 1))) := (by repeat' first | assumption | exact Sm.rfl | exact Sc.rfl | refine Sm.up (by decide) ?_ | refine Sc.up (by decide) ?_ | refine Sc.un (by decide) ?_)
      have hs2b : Sc 114 [0, 14, 15] I (gUp (gUp I1 114 15 (nI 0)) 114 14 (nI (1 + 1))) := (by repeat' first | assumption | exact Sm.rfl | exact Sc.rfl | refine Sm.up (by decide) ?_ | refine Sc.up (by decide) ?_ | refine Sc.un (by decide) ?_)
      have e0b : gUp (gUp I1 114 15 (nI 0)) 114 14 (nI (1 + 1)) 114 0 = nI 0 := gUp_k (by decide) (gUp_k (by decide) e0)
      have e15b : gUp (gUp I1 114 15 (nI 0)) 114 14 (nI (1 + 1)) 114 15 = nI 0 := gUp_k (by decide) (by rw [gUp_c, if_pos rfl])
      have e14b : gUp (gUp I1 114 15 (nI 0)) 114 14 (nI (1 + 1)) 114 14 = nI 2 := by rw [gUp_c, if_pos rfl]
      revert hs1b hs2b e0b e15b e14b
      generalize gUp (gUp I1 114 15 (nI 0)) 114 14 (nI (1 + 1)) = I2
      intro hs1b hs2b e0b e15b e14b
      have hT2 : Tx I2 118 T t := hT.s (hs1b 118 (by decide))
      have ht2 : I2 114 8 = nI t := by rw [hs2b 8 (by decide)]; exact ht
      by_cases h2 : 2 < t ∧ 49 ≤ T 2 ∧ T 2 ≤ 52
      · have hf2 : ∀ i, i < 3 → fitC i (T i) := fun i hi => by
          rcases Nat.lt_or_ge i 2 with w | w
          · exact hf1 i w
          · rw [show i = 2 by omega]; exact f2.mpr h2.2
        refine g_aload_n (pc := 46) dX3_store_46 rfl rfl ?_
        refine g_iconst (v := nI 4) (pc := 47) dX3_store_47 rfl ?_
        refine g_fV (av := [.int _]) (pc := 48) dX3_store_48 mt_X3_digit lk_X3_114 im_X3_digit se_X3_digit np_X3_digit s_114 (by decide) (by decide) rfl (gc_i gc_0) (Nat.le_of_ble_eq_true rfl) (Nat.le_of_ble_eq_true rfl) ⟨Nat.zero_le _, Nat.zero_le _⟩ (m_X3_digit_t (a := 2) hT2 ht2 e14b e15b h2.1 (by decide) h2.2) ?_
        refine g_istore_n (pc := 51) dX3_store_51 rfl (Nat.le_of_ble_eq_true rfl) rfl ?_
        refine g_aload_n (pc := 52) dX3_store_52 rfl rfl ?_
        refine g_getIV (pc := 53) dX3_store_53 fl_X3_107 s_114 (by decide) rfl (show _ = nI 0 from gUp_k (by decide) (by rw [gUp_c, if_pos rfl])) ?_
        refine g_if_neN (tgt := 65) (pc := 56) dX3_store_56 (by decide) (by omega) (fun c56 => ?_) (fun c56 => ?_)
        · exact absurd rfl c56
        skip
        have hs1c : Sm [114, 123] I (gUp (gUp I2 114 15 (nI 0)) 114 14 (nI (2 + 1))) := (by repeat' first | assumption | exact Sm.rfl | exact Sc.rfl | refine Sm.up (by decide) ?_ | refine Sc.up (by decide) ?_ | refine Sc.un (by decide) ?_)
        have hs2c : Sc 114 [0, 14, 15] I (gUp (gUp I2 114 15 (nI 0)) 114 14 (nI (2 + 1))) := (by repeat' first | assumption | exact Sm.rfl | exact Sc.rfl | refine Sm.up (by decide) ?_ | refine Sc.up (by decide) ?_ | refine Sc.un (by decide) ?_)
        have e0c : gUp (gUp I2 114 15 (nI 0)) 114 14 (nI (2 + 1)) 114 0 = nI 0 := gUp_k (by decide) (gUp_k (by decide) e0b)
        have e15c : gUp (gUp I2 114 15 (nI 0)) 114 14 (nI (2 + 1)) 114 15 = nI 0 := gUp_k (by decide) (by rw [gUp_c, if_pos rfl])
        have e14c : gUp (gUp I2 114 15 (nI 0)) 114 14 (nI (2 + 1)) 114 14 = nI 3 := by rw [gUp_c, if_pos rfl]
        revert hs1c hs2c e0c e15c e14c
        generalize gUp (gUp I2 114 15 (nI 0)) 114 14 (nI (2 + 1)) = I3
        intro hs1c hs2c e0c e15c e14c
        have hT3 : Tx I3 118 T t := hT.s (hs1c 118 (by decide))
        have ht3 : I3 114 8 = nI t := by rw [hs2c 8 (by decide)]; exact ht
        by_cases h3 : 3 < t ∧ T 3 = 58
        · have hf3 : ∀ i, i < 4 → fitC i (T i) := fun i hi => by
            rcases Nat.lt_or_ge i 3 with w | w
            · exact hf2 i w
            · rw [show i = 3 by omega]; exact f3.mpr h3.2
          obtain ⟨q, hq⟩ := stopQ_ex hP hf3 h3.1
          refine g_aload_n (pc := 59) dX3_store_59 rfl rfl ?_
          refine g_bipush (v := nI 58) (pc := 60) dX3_store_60 rfl ?_
          refine g_rvV (av := [.int _]) (pc := 62) dX3_store_62 mt_X3_takes lk_X3_117 im_X3_takes se_X3_takes np_X3_takes s_114 (by decide) (by decide) rfl (gc_i gc_0) (Nat.le_of_ble_eq_true rfl) (Nat.le_of_ble_eq_true rfl) (m_X3_takes_t (a := 3) hT3 ht3 e14c e15c h3.1 (by decide) h3.2) ?_
          rintro I4 rfl
          exact l_st_loop hT hq (gUp_k (by decide) (gUp_k (by decide) ht3)) (gUp_k (by decide) (gUp_k (by decide) e0c)) (gUp_k (by decide) (by rw [gUp_c, if_pos rfl])) (by rw [gUp_c, if_pos rfl]) (by repeat' first | assumption | exact Sm.rfl | exact Sc.rfl | refine Sm.up (by decide) ?_ | refine Sc.up (by decide) ?_ | refine Sc.un (by decide) ?_) (by repeat' first | assumption | exact Sm.rfl | exact Sc.rfl | refine Sm.up (by decide) ?_ | refine Sc.up (by decide) ?_ | refine Sc.un (by decide) ?_) hbad kx
        · have hr := PE_at hP hf2 (by decide) (by omega) (fun z => h3 ⟨z.1, f3.mp z.2⟩)
          refine g_imp (hbad 3 hr) ?_
          refine g_aload_n (pc := 59) dX3_store_59 rfl rfl ?_
          refine g_bipush (v := nI 58) (pc := 60) dX3_store_60 rfl ?_
          refine g_rvV (av := [.int _]) (pc := 62) dX3_store_62 mt_X3_takes lk_X3_117 im_X3_takes se_X3_takes np_X3_takes s_114 (by decide) (by decide) rfl (gc_i gc_0) (Nat.le_of_ble_eq_true rfl) (Nat.le_of_ble_eq_true rfl) (m_X3_takes_f (a := 3) hT3 ht3 e14c e15c (by omega) (by decide) h3) ?_
          rintro I4 rfl
          have s3 : Sc 114 [0, 5, 8, 14, 15] I I3 := hs2c.mono (by decide)
          refine g_iconst (v := nI 0) (pc := 65) dX3_store_65 rfl ?_
          refine g_istore_n (pc := 66) dX3_store_66 rfl (Nat.le_of_ble_eq_true rfl) rfl ?_
          exact l_st_bad67 (gUp_k (by decide) (by rw [gUp_c, if_pos rfl])) (by rw [gUp_c, if_pos rfl]) (by repeat' first | assumption | exact Sm.rfl | exact Sc.rfl | refine Sm.up (by decide) ?_ | refine Sc.up (by decide) ?_ | refine Sc.un (by decide) ?_) (by repeat' first | assumption | exact Sm.rfl | exact Sc.rfl | refine Sm.up (by decide) ?_ | refine Sc.up (by decide) ?_ | refine Sc.un (by decide) ?_)
      · have hr := PE_at hP hf1 (by decide) (by omega) (fun z => h2 ⟨z.1, f2.mp z.2⟩)
        refine g_imp (hbad 2 hr) ?_
        have s3 : Sc 114 [0, 5, 8, 14, 15] I I2 := hs2b.mono (by decide)
        refine g_aload_n (pc := 46) dX3_store_46 rfl rfl ?_
        refine g_iconst (v := nI 4) (pc := 47) dX3_store_47 rfl ?_
        refine g_riV (av := [.int _]) (pc := 48) dX3_store_48 mt_X3_digit lk_X3_114 im_X3_digit se_X3_digit np_X3_digit s_114 (by decide) (by decide) rfl (gc_i gc_0) (Nat.le_of_ble_eq_true rfl) (Nat.le_of_ble_eq_true rfl) (m_X3_digit_f (a := 2) hT2 ht2 e14b e15b (by omega) (by decide) h2) ?_
        rintro v I4 rfl
        refine g_istore_n (pc := 51) dX3_store_51 rfl (Nat.le_of_ble_eq_true rfl) rfl ?_
        refine g_fg 2 ?_
        exact l_st_bad52 (gUp_k (by decide) (by rw [gUp_c, if_pos rfl])) (by rw [gUp_c, if_pos rfl]) (by repeat' first | assumption | exact Sm.rfl | exact Sc.rfl | refine Sm.up (by decide) ?_ | refine Sc.up (by decide) ?_ | refine Sc.un (by decide) ?_) (by repeat' first | assumption | exact Sm.rfl | exact Sc.rfl | refine Sm.up (by decide) ?_ | refine Sc.up (by decide) ?_ | refine Sc.un (by decide) ?_)
    · have hr := PE_at hP hf0 (by decide) (by omega) (fun z => h1 ⟨z.1, f1.mp z.2⟩)
      refine g_imp (hbad 1 hr) ?_
      have s3 : Sc 114 [0, 5, 8, 14, 15] I I1 := hs2.mono (by decide)
      refine g_aload_n (pc := 29) dX3_store_29 rfl rfl ?_
      refine g_bipush (v := nI 42) (pc := 30) dX3_store_30 rfl ?_
      refine g_rvV (av := [.int _]) (pc := 32) dX3_store_32 mt_X3_takes lk_X3_117 im_X3_takes se_X3_takes np_X3_takes s_114 (by decide) (by decide) rfl (gc_i gc_0) (Nat.le_of_ble_eq_true rfl) (Nat.le_of_ble_eq_true rfl) (m_X3_takes_f (a := 1) hT1 ht1 e14 e15 (by omega) (by decide) h1) ?_
      rintro I2 rfl
      exact l_st_bad35 (gUp_k (by decide) (by rw [gUp_c, if_pos rfl])) (by rw [gUp_c, if_pos rfl]) (by repeat' first | assumption | exact Sm.rfl | exact Sc.rfl | refine Sm.up (by decide) ?_ | refine Sc.up (by decide) ?_ | refine Sc.un (by decide) ?_) (by repeat' first | assumption | exact Sm.rfl | exact Sc.rfl | refine Sm.up (by decide) ?_ | refine Sc.up (by decide) ?_ | refine Sc.un (by decide) ?_)
  · have hr := PE_at (k := 0) hP (fun i hi => absurd hi (Nat.not_lt_zero i)) (by decide) (Nat.zero_le _) (fun z => h0 ⟨z.1, f0.mp z.2⟩)
    refine g_imp (hbad 0 hr) ?_
    refine g_aload_n (pc := 15) dX3_store_15 rfl rfl ?_
    refine g_bipush (v := nI 6) (pc := 16) dX3_store_16 rfl ?_
    refine g_riV (av := [.int _]) (pc := 18) dX3_store_18 mt_X3_digit lk_X3_114 im_X3_digit se_X3_digit np_X3_digit s_114 (by decide) (by decide) rfl (gc_i gc_0) (Nat.le_of_ble_eq_true rfl) (Nat.le_of_ble_eq_true rfl) (m_X3_digit_f (T := T) (t := t) (a := 0) (hT.s (by rw [gUp_ne (by decide), gUp_ne (by decide), gUp_ne (by decide)])) (gUp_k (by decide) (gUp_k (by decide) (gUp_k (by decide) ht))) (by rw [gUp_c, if_pos rfl]) (gUp_k (by decide) (by rw [gUp_c, if_pos rfl])) (Nat.zero_le _) (by decide) h0) ?_
    rintro v I4 rfl
    refine g_istore_n (pc := 21) dX3_store_21 rfl (Nat.le_of_ble_eq_true rfl) rfl ?_
    exact l_st_bad22 (gUp_k (by decide) (by rw [gUp_c, if_pos rfl])) (by rw [gUp_c, if_pos rfl]) (by repeat' first | assumption | exact Sm.rfl | exact Sc.rfl | refine Sm.up (by decide) ?_ | refine Sc.up (by decide) ?_ | refine Sc.un (by decide) ?_) (by repeat' first | assumption | exact Sm.rfl | exact Sc.rfl | refine Sm.up (by decide) ?_ | refine Sc.up (by decide) ?_ | refine Sc.un (by decide) ?_)
end

