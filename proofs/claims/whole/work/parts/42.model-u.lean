/-! ===== the reference reads a text ===== -/
def isSy (c : Nat) : Bool := decide (48 ≤ c ∧ c ≤ 57) || decide (97 ≤ c ∧ c ≤ 102)
def syV (c : Nat) : Nat := if c ≤ 57 then c - 48 else c - 97 + 10
theorem syV_lt {c : Nat} (h : isSy c = true) : syV c < 16 := by
  unfold isSy at h
  simp only [Bool.or_eq_true, decide_eq_true_eq] at h
  unfold syV
  split <;> omega
def fitC (i c : Nat) : Prop := if i = 0 then 49 ≤ c ∧ c ≤ 54 else if i = 1 then c = 42 else if i = 2 then 49 ≤ c ∧ c ≤ 52 else if i = 3 then c = 58 else i < 36 ∧ isSy c = true
/-- the error position of a text -/
def PE (T : Nat → Nat) (t : Nat) : Option Nat → Prop
  | some p => p ≤ t ∧ (∀ i, i < p → fitC i (T i)) ∧ ((p < t ∧ ¬ fitC p (T p)) ∨ (p = t ∧ t ≤ 4))
  | none => 4 < t ∧ ∀ i, i < t → fitC i (T i)
theorem PE_ex (T : Nat → Nat) (t : Nat) : ∃ r, PE T t r := by
  have main : ∀ k, k ≤ t → (∀ i, i < t - k → fitC i (T i)) → ∃ r, PE T t r := by
    intro k
    induction k with
    | zero =>
      intro _ h
      rcases Nat.lt_or_ge 4 t with q | q
      · exact ⟨none, q, h⟩
      · exact ⟨some t, Nat.le_refl _, h, Or.inr ⟨rfl, q⟩⟩
    | succ k ih =>
      intro hk h
      rcases Classical.em (fitC (t - (k + 1)) (T (t - (k + 1)))) with q | q
      · refine ih (by omega) (fun i hi => ?_)
        rcases Nat.lt_or_ge i (t - (k + 1)) with w | w
        · exact h i w
        · rw [show i = t - (k + 1) by omega]; exact q
      · exact ⟨some (t - (k + 1)), by omega, h, Or.inl ⟨by omega, q⟩⟩
  exact main t (Nat.le_refl _) (fun i hi => absurd hi (by omega))
/-- the characters that wait -/
def Tx (I : Nat → Nat → Int32) (c : Nat) (T : Nat → Nat) (t : Nat) : Prop := t ≤ 60 ∧ ∀ i, i < t → I c i = nI (T i) ∧ T i ≤ 126
theorem Tx.s {I J : Nat → Nat → Int32} {c t : Nat} {T : Nat → Nat} (h : Tx I c T t) (e : J c = I c) : Tx J c T t := ⟨h.1, fun i hi => by rw [e]; exact h.2 i hi⟩
/-- reading has failed at a position -/
def stE (I J : Nat → Nat → Int32) (p : Nat) : Prop := J 114 0 = nI 1 ∧ J 114 5 = nI p ∧ J 114 8 = nI 0 ∧ Sm [114, 123] I J ∧ Sc 114 [0, 5, 8, 14, 15] I J
def stEQ (G : gG) (n : Nat) (I : Nat → Nat → Int32) (L : Nat → Nat → Int64) (D : Nat → Nat → UInt64) (p : Nat) : gQ := fun o h => ∃ v J, (o = .inl (some (.int v)) ∧ h = hp n J L D) ∧ stE I J p
theorem m1_le {a : Nat} (ha : a < 2 ^ 31) : (-1 : Int32) < nI a ∧ ¬ nI a ≤ -1 := by
  have e : (-1 : Int32).toInt = -1 := rfl
  rw [Int32.lt_iff_toInt_lt, Int32.le_iff_toInt_le, nI_toInt ha]
  omega
section
variable {G : gG} {d n : Nat} {I : Nat → Nat → Int32} {L : Nat → Nat → Int64} {D : Nat → Nat → UInt64} {V : Nat → Nat}
theorem m_X3_here {T : Nat → Nat} {t a : Nat} (hT : Tx I 118 T t) (ht : I 114 8 = nI t) (ha : I 114 14 = nI a) (hat : a ≤ t) : gFn G YX3_here d [.ref 114] (hp n I L D) (.inl (some (.int (if a < t then nI (T a) else -1)))) (hp n I L D) 0 0 := by
  have ht6 := hT.1
  by_cases h : a < t
  · rw [if_pos h]
    refine g_aload_n (pc := 0) dX3_here_0 rfl rfl ?_
    refine g_getIV (pc := 1) dX3_here_1 fl_X3_101 s_114 (by decide) rfl ha ?_
    refine g_aload_n (pc := 4) dX3_here_4 rfl rfl ?_
    refine g_getIV (pc := 5) dX3_here_5 fl_X3_98 s_114 (by decide) rfl ht ?_
    refine g_icmp_geN (tgt := 23) (pc := 8) dX3_here_8 (by decide) (by omega) (by omega) (fun c8 => ?_) (fun c8 => ?_)
    · omega
    refine g_aload_n (pc := 11) dX3_here_11 rfl rfl ?_
    refine g_getR (pc := 12) dX3_here_12 fl_X3_23 s_114 (by decide) rfl t_114_7 ?_
    refine g_aload_n (pc := 15) dX3_here_15 rfl rfl ?_
    refine g_getIV (pc := 16) dX3_here_16 fl_X3_101 s_114 (by decide) rfl ha ?_
    refine g_caloadN (pc := 19) dX3_here_19 s_118 (by decide) (by omega) (by decide) (hT.2 a h).1 ?_
    refine g_goto (tgt := 24) (pc := 20) dX3_here_20 (by decide) ?_
    refine g_iret (pc := 24) dX3_here_24 rfl rfl ?_
    first | exact ⟨rfl, rfl⟩ | exact ⟨by rw [bI_t (by first | assumption | omega)], rfl⟩ | exact ⟨by rw [bI_f (by first | assumption | omega)], rfl⟩
  · rw [if_neg h]
    refine g_aload_n (pc := 0) dX3_here_0 rfl rfl ?_
    refine g_getIV (pc := 1) dX3_here_1 fl_X3_101 s_114 (by decide) rfl ha ?_
    refine g_aload_n (pc := 4) dX3_here_4 rfl rfl ?_
    refine g_getIV (pc := 5) dX3_here_5 fl_X3_98 s_114 (by decide) rfl ht ?_
    refine g_icmp_geN (tgt := 23) (pc := 8) dX3_here_8 (by decide) (by omega) (by omega) (fun c8 => ?_) (fun c8 => ?_)
    · refine g_iconst (v := (-1)) (pc := 23) dX3_here_23 rfl ?_
      refine g_iret (pc := 24) dX3_here_24 rfl rfl ?_
      first | exact ⟨rfl, rfl⟩ | exact ⟨by rw [bI_t (by first | assumption | omega)], rfl⟩ | exact ⟨by rw [bI_f (by first | assumption | omega)], rfl⟩
    · omega
theorem m_X3_symbolOf_n {c : Nat} (hc : c < 200) : gFn G YX3_symbolOf (d + 1) [.int (nI c)] (hp n I L D) (.inl (some (.int (if isSy c = true then nI (syV c) else -1)))) (hp n I L D) 0 0 := by
  refine g_iload_n (pc := 0) dX3_symbolOf_0 rfl rfl ?_
  refine g_bipush (v := nI 48) (pc := 1) dX3_symbolOf_1 rfl ?_
  refine g_bipush (v := nI 57) (pc := 3) dX3_symbolOf_3 rfl ?_
  refine g_fS (av := [.int _, .int _, .int _]) (pc := 5) dX3_symbolOf_5 mt_X3_isIn lk_X3_73 sf_X3_isIn np_X3_isIn rfl (gc_i (gc_i (gc_i gc_0))) (Nat.le_of_ble_eq_true rfl) (Nat.le_of_ble_eq_true rfl) ⟨Nat.zero_le _, Nat.zero_le _⟩ (m_X3_isInN (by omega) (by decide) (by decide)) ?_
  refine g_if_eqB (tgt := 18) (pc := 8) dX3_symbolOf_8 (by decide) (fun c8 => ?_) (fun c8 => ?_)
  · refine g_iload_n (pc := 18) dX3_symbolOf_18 rfl rfl ?_
    refine g_bipush (v := nI 97) (pc := 19) dX3_symbolOf_19 rfl ?_
    refine g_bipush (v := nI 102) (pc := 21) dX3_symbolOf_21 rfl ?_
    refine g_fS (av := [.int _, .int _, .int _]) (pc := 23) dX3_symbolOf_23 mt_X3_isIn lk_X3_73 sf_X3_isIn np_X3_isIn rfl (gc_i (gc_i (gc_i gc_0))) (Nat.le_of_ble_eq_true rfl) (Nat.le_of_ble_eq_true rfl) ⟨Nat.zero_le _, Nat.zero_le _⟩ (m_X3_isInN (by omega) (by decide) (by decide)) ?_
    refine g_if_eqB (tgt := 39) (pc := 26) dX3_symbolOf_26 (by decide) (fun c26 => ?_) (fun c26 => ?_)
    · have e : ¬ isSy c = true := by
        unfold isSy
        simp only [Bool.or_eq_true, decide_eq_true_eq, not_or]
        exact ⟨c8, c26⟩
      rw [if_neg e]
      refine g_iconst (v := (-1)) (pc := 39) dX3_symbolOf_39 rfl ?_
      refine g_iret (pc := 40) dX3_symbolOf_40 rfl rfl ?_
      first | exact ⟨rfl, rfl⟩ | exact ⟨by rw [bI_t (by first | assumption | omega)], rfl⟩ | exact ⟨by rw [bI_f (by first | assumption | omega)], rfl⟩
    · have e : isSy c = true := by unfold isSy; simp [c26]
      have e2 : syV c = c - 97 + 10 := if_neg (by omega)
      rw [if_pos e, e2]
      refine g_iload_n (pc := 29) dX3_symbolOf_29 rfl rfl ?_
      refine g_bipush (v := nI 97) (pc := 30) dX3_symbolOf_30 rfl ?_
      refine g_isubN (pc := 32) dX3_symbolOf_32 (by omega) ?_
      refine g_bipush (v := nI 10) (pc := 33) dX3_symbolOf_33 rfl ?_
      refine g_iaddN (pc := 35) dX3_symbolOf_35 ?_
      refine g_goto (tgt := 40) (pc := 36) dX3_symbolOf_36 (by decide) ?_
      refine g_iret (pc := 40) dX3_symbolOf_40 rfl rfl ?_
      first | exact ⟨rfl, rfl⟩ | exact ⟨by rw [bI_t (by first | assumption | omega)], rfl⟩ | exact ⟨by rw [bI_f (by first | assumption | omega)], rfl⟩
  · have e : isSy c = true := by unfold isSy; simp [c8]
    have e2 : syV c = c - 48 := if_pos c8.2
    rw [if_pos e, e2]
    refine g_iload_n (pc := 11) dX3_symbolOf_11 rfl rfl ?_
    refine g_bipush (v := nI 48) (pc := 12) dX3_symbolOf_12 rfl ?_
    refine g_isubN (pc := 14) dX3_symbolOf_14 (by omega) ?_
    refine g_goto (tgt := 40) (pc := 15) dX3_symbolOf_15 (by decide) ?_
    refine g_iret (pc := 40) dX3_symbolOf_40 rfl rfl ?_
    first | exact ⟨rfl, rfl⟩ | exact ⟨by rw [bI_t (by first | assumption | omega)], rfl⟩ | exact ⟨by rw [bI_f (by first | assumption | omega)], rfl⟩
theorem m_X3_symbolOf_m : gFn G YX3_symbolOf (d + 1) [.int (-1)] (hp n I L D) (.inl (some (.int (-1)))) (hp n I L D) 0 0 := by
  refine g_iload_n (pc := 0) dX3_symbolOf_0 rfl rfl ?_
  refine g_bipush (v := nI 48) (pc := 1) dX3_symbolOf_1 rfl ?_
  refine g_bipush (v := nI 57) (pc := 3) dX3_symbolOf_3 rfl ?_
  refine g_fS (av := [.int _, .int _, .int _]) (pc := 5) dX3_symbolOf_5 mt_X3_isIn lk_X3_73 sf_X3_isIn np_X3_isIn rfl (gc_i (gc_i (gc_i gc_0))) (Nat.le_of_ble_eq_true rfl) (Nat.le_of_ble_eq_true rfl) ⟨Nat.zero_le _, Nat.zero_le _⟩ (m_X3_isIn) ?_
  refine g_if_eqB (tgt := 18) (pc := 8) dX3_symbolOf_8 (by decide) (fun c8 => ?_) (fun c8 => ?_)
  · refine g_iload_n (pc := 18) dX3_symbolOf_18 rfl rfl ?_
    refine g_bipush (v := nI 97) (pc := 19) dX3_symbolOf_19 rfl ?_
    refine g_bipush (v := nI 102) (pc := 21) dX3_symbolOf_21 rfl ?_
    refine g_fS (av := [.int _, .int _, .int _]) (pc := 23) dX3_symbolOf_23 mt_X3_isIn lk_X3_73 sf_X3_isIn np_X3_isIn rfl (gc_i (gc_i (gc_i gc_0))) (Nat.le_of_ble_eq_true rfl) (Nat.le_of_ble_eq_true rfl) ⟨Nat.zero_le _, Nat.zero_le _⟩ (m_X3_isIn) ?_
    refine g_if_eqB (tgt := 39) (pc := 26) dX3_symbolOf_26 (by decide) (fun c26 => ?_) (fun c26 => ?_)
    · refine g_iconst (v := (-1)) (pc := 39) dX3_symbolOf_39 rfl ?_
      refine g_iret (pc := 40) dX3_symbolOf_40 rfl rfl ?_
      first | exact ⟨rfl, rfl⟩ | exact ⟨by rw [bI_t (by first | assumption | omega)], rfl⟩ | exact ⟨by rw [bI_f (by first | assumption | omega)], rfl⟩
    · exact absurd c26 (by decide)
  · exact absurd c8 (by decide)
theorem m_X3_digit_t {T : Nat → Nat} {t a u : Nat} (hT : Tx I 118 T t) (ht : I 114 8 = nI t) (ha : I 114 14 = nI a) (h15 : I 114 15 = nI 0) (hat : a < t) (hu : u < 10) (hd : 49 ≤ T a ∧ T a ≤ 48 + u) : gFn G YX3_digit (d + 1) [.ref 114, .int (nI u)] (hp n I L D) (.inl (some (.int (nI (T a - 48))))) (hp n (gUp (gUp I 114 15 (nI 0)) 114 14 (nI (a + 1))) L D) 0 0 := by
  have ht6 := hT.1
  refine g_aload_n (pc := 0) dX3_digit_0 rfl rfl ?_
  refine g_fV (av := []) (pc := 1) dX3_digit_1 mt_X3_here lk_X3_104 im_X3_here se_X3_here np_X3_here s_114 (by decide) (by decide) rfl gc_0 (Nat.le_of_ble_eq_true rfl) (Nat.le_of_ble_eq_true rfl) ⟨Nat.zero_le _, Nat.zero_le _⟩ (m_X3_here hT ht ha (Nat.le_of_lt hat)) ?_
  rw [if_pos hat]
  refine g_bipush (v := nI 48) (pc := 4) dX3_digit_4 rfl ?_
  refine g_isubN (pc := 6) dX3_digit_6 (by omega) ?_
  refine g_istore_n (pc := 7) dX3_digit_7 rfl (Nat.le_of_ble_eq_true rfl) rfl ?_
  refine g_aload_n (pc := 8) dX3_digit_8 rfl rfl ?_
  refine g_dup (pc := 9) dX3_digit_9 rfl ?_
  refine g_getIV (pc := 10) dX3_digit_10 fl_X3_107 s_114 (by decide) rfl h15 ?_
  refine g_iload_n (pc := 13) dX3_digit_13 rfl rfl ?_
  refine g_iconst (v := nI 1) (pc := 14) dX3_digit_14 rfl ?_
  refine g_iload_n (pc := 15) dX3_digit_15 rfl rfl ?_
  refine g_fS (av := [.int _, .int _, .int _]) (pc := 16) dX3_digit_16 mt_X3_isIn lk_X3_73 sf_X3_isIn np_X3_isIn rfl (gc_i (gc_i (gc_i gc_0))) (Nat.le_of_ble_eq_true rfl) (Nat.le_of_ble_eq_true rfl) ⟨Nat.zero_le _, Nat.zero_le _⟩ (m_X3_isInN (by omega) (by decide) (by omega)) ?_
  refine g_if_neB (tgt := 26) (pc := 19) dX3_digit_19 (by decide) (fun c19 => ?_) (fun c19 => ?_)
  rotate_left
  · exact absurd ⟨by omega, by omega⟩ c19
  refine g_iconst (v := nI 0) (pc := 26) dX3_digit_26 rfl ?_
  refine g_ior (pc := 27) dX3_digit_27 ?_
  rw [show nI 0 ||| nI 0 = nI 0 from rfl]
  refine g_putI (pc := 28) dX3_digit_28 fl_X3_107 s_114 (by decide) rfl rfl rfl rfl ?_
  refine g_aload_n (pc := 31) dX3_digit_31 rfl rfl ?_
  refine g_dup (pc := 32) dX3_digit_32 rfl ?_
  refine g_getIV (pc := 33) dX3_digit_33 fl_X3_101 s_114 (by decide) rfl (gUp_k (by decide) ha) ?_
  refine g_aload_n (pc := 36) dX3_digit_36 rfl rfl ?_
  refine g_getIV (pc := 37) dX3_digit_37 fl_X3_107 s_114 (by decide) rfl (show _ = nI 0 from by rw [gUp_c, if_pos rfl]) ?_
  refine g_if_eqN (tgt := 47) (pc := 40) dX3_digit_40 (by decide) (by omega) (fun c40 => ?_) (fun c40 => ?_)
  rotate_left
  · exact absurd rfl c40
  refine g_iconst (v := nI 1) (pc := 47) dX3_digit_47 rfl ?_
  refine g_iaddN (pc := 48) dX3_digit_48 ?_
  refine g_putI (pc := 49) dX3_digit_49 fl_X3_101 s_114 (by decide) rfl rfl rfl rfl ?_
  refine g_iload_n (pc := 52) dX3_digit_52 rfl rfl ?_
  refine g_iret (pc := 53) dX3_digit_53 rfl rfl ?_
  first | exact ⟨rfl, rfl⟩ | exact ⟨by rw [bI_t (by first | assumption | omega)], rfl⟩ | exact ⟨by rw [bI_f (by first | assumption | omega)], rfl⟩
theorem m_X3_digit_f {T : Nat → Nat} {t a u : Nat} (hT : Tx I 118 T t) (ht : I 114 8 = nI t) (ha : I 114 14 = nI a) (h15 : I 114 15 = nI 0) (hat : a ≤ t) (hu : u < 10) (hd : ¬ (a < t ∧ 49 ≤ T a ∧ T a ≤ 48 + u)) : gRi G YX3_digit (d + 1) [.ref 114, .int (nI u)] n I L D (fun v J => J = gUp (gUp I 114 15 (nI 1)) 114 14 (nI a)) := by
  have ht6 := hT.1
  by_cases h : a < t
  · have h126 := (hT.2 a h).2
    have hn : ¬ (nI 1 ≤ nI (T a) - nI 48 ∧ nI (T a) - nI 48 ≤ nI u) := fun q => by
      have e := pk_sub_toInt (a := T a) (b := 48) (by omega) (by decide)
      rw [Int32.le_iff_toInt_le, Int32.le_iff_toInt_le, e, nI_toInt (by decide), nI_toInt (by omega)] at q
      exact hd ⟨h, by omega, by omega⟩
    refine g_aload_n (pc := 0) dX3_digit_0 rfl rfl ?_
    refine g_fV (av := []) (pc := 1) dX3_digit_1 mt_X3_here lk_X3_104 im_X3_here se_X3_here np_X3_here s_114 (by decide) (by decide) rfl gc_0 (Nat.le_of_ble_eq_true rfl) (Nat.le_of_ble_eq_true rfl) ⟨Nat.zero_le _, Nat.zero_le _⟩ (m_X3_here hT ht ha hat) ?_
    rw [if_pos h]
    refine g_bipush (v := nI 48) (pc := 4) dX3_digit_4 rfl ?_
    refine g_isub (pc := 6) dX3_digit_6 ?_
    refine g_istore_n (pc := 7) dX3_digit_7 rfl (Nat.le_of_ble_eq_true rfl) rfl ?_
    refine g_aload_n (pc := 8) dX3_digit_8 rfl rfl ?_
    refine g_dup (pc := 9) dX3_digit_9 rfl ?_
    refine g_getIV (pc := 10) dX3_digit_10 fl_X3_107 s_114 (by decide) rfl h15 ?_
    refine g_iload_n (pc := 13) dX3_digit_13 rfl rfl ?_
    refine g_iconst (v := nI 1) (pc := 14) dX3_digit_14 rfl ?_
    refine g_iload_n (pc := 15) dX3_digit_15 rfl rfl ?_
    refine g_fS (av := [.int _, .int _, .int _]) (pc := 16) dX3_digit_16 mt_X3_isIn lk_X3_73 sf_X3_isIn np_X3_isIn rfl (gc_i (gc_i (gc_i gc_0))) (Nat.le_of_ble_eq_true rfl) (Nat.le_of_ble_eq_true rfl) ⟨Nat.zero_le _, Nat.zero_le _⟩ m_X3_isIn ?_
    refine g_if_neB (tgt := 26) (pc := 19) dX3_digit_19 (by decide) (fun c19 => ?_) (fun c19 => ?_)
    · exact absurd c19 hn
    refine g_iconst (v := nI 1) (pc := 22) dX3_digit_22 rfl ?_
    refine g_goto (tgt := 27) (pc := 23) dX3_digit_23 (by decide) ?_
    refine g_ior (pc := 27) dX3_digit_27 ?_
    rw [show nI 0 ||| nI 1 = nI 1 from rfl]
    refine g_putI (pc := 28) dX3_digit_28 fl_X3_107 s_114 (by decide) rfl rfl rfl rfl ?_
    refine g_aload_n (pc := 31) dX3_digit_31 rfl rfl ?_
    refine g_dup (pc := 32) dX3_digit_32 rfl ?_
    refine g_getIV (pc := 33) dX3_digit_33 fl_X3_101 s_114 (by decide) rfl (gUp_k (by decide) ha) ?_
    refine g_aload_n (pc := 36) dX3_digit_36 rfl rfl ?_
    refine g_getIV (pc := 37) dX3_digit_37 fl_X3_107 s_114 (by decide) rfl (show _ = nI 1 from by rw [gUp_c, if_pos rfl]) ?_
    refine g_if_eqN (tgt := 47) (pc := 40) dX3_digit_40 (by decide) (by omega) (fun c40 => ?_) (fun c40 => ?_)
    · exact absurd c40 (by decide)
    refine g_iconst (v := nI 0) (pc := 43) dX3_digit_43 rfl ?_
    refine g_goto (tgt := 48) (pc := 44) dX3_digit_44 (by decide) ?_
    refine g_iaddN (pc := 48) dX3_digit_48 ?_
    refine g_putI (pc := 49) dX3_digit_49 fl_X3_101 s_114 (by decide) rfl rfl rfl rfl ?_
    refine g_iload_n (pc := 52) dX3_digit_52 rfl rfl ?_
    refine g_iret (pc := 53) dX3_digit_53 rfl rfl ?_
    refine ⟨_, _, ⟨rfl, rfl⟩, ?_⟩
    rfl
  · skip
    refine g_aload_n (pc := 0) dX3_digit_0 rfl rfl ?_
    refine g_fV (av := []) (pc := 1) dX3_digit_1 mt_X3_here lk_X3_104 im_X3_here se_X3_here np_X3_here s_114 (by decide) (by decide) rfl gc_0 (Nat.le_of_ble_eq_true rfl) (Nat.le_of_ble_eq_true rfl) ⟨Nat.zero_le _, Nat.zero_le _⟩ (m_X3_here hT ht ha hat) ?_
    rw [if_neg h]
    refine g_bipush (v := nI 48) (pc := 4) dX3_digit_4 rfl ?_
    refine g_isub (pc := 6) dX3_digit_6 ?_
    refine g_istore_n (pc := 7) dX3_digit_7 rfl (Nat.le_of_ble_eq_true rfl) rfl ?_
    refine g_aload_n (pc := 8) dX3_digit_8 rfl rfl ?_
    refine g_dup (pc := 9) dX3_digit_9 rfl ?_
    refine g_getIV (pc := 10) dX3_digit_10 fl_X3_107 s_114 (by decide) rfl h15 ?_
    refine g_iload_n (pc := 13) dX3_digit_13 rfl rfl ?_
    refine g_iconst (v := nI 1) (pc := 14) dX3_digit_14 rfl ?_
    refine g_iload_n (pc := 15) dX3_digit_15 rfl rfl ?_
    refine g_fS (av := [.int _, .int _, .int _]) (pc := 16) dX3_digit_16 mt_X3_isIn lk_X3_73 sf_X3_isIn np_X3_isIn rfl (gc_i (gc_i (gc_i gc_0))) (Nat.le_of_ble_eq_true rfl) (Nat.le_of_ble_eq_true rfl) ⟨Nat.zero_le _, Nat.zero_le _⟩ m_X3_isIn ?_
    refine g_if_neB (tgt := 26) (pc := 19) dX3_digit_19 (by decide) (fun c19 => ?_) (fun c19 => ?_)
    · exact absurd (show nI 1 ≤ (-1 : Int32) - nI 48 from c19.1) (by decide)
    refine g_iconst (v := nI 1) (pc := 22) dX3_digit_22 rfl ?_
    refine g_goto (tgt := 27) (pc := 23) dX3_digit_23 (by decide) ?_
    refine g_ior (pc := 27) dX3_digit_27 ?_
    rw [show nI 0 ||| nI 1 = nI 1 from rfl]
    refine g_putI (pc := 28) dX3_digit_28 fl_X3_107 s_114 (by decide) rfl rfl rfl rfl ?_
    refine g_aload_n (pc := 31) dX3_digit_31 rfl rfl ?_
    refine g_dup (pc := 32) dX3_digit_32 rfl ?_
    refine g_getIV (pc := 33) dX3_digit_33 fl_X3_101 s_114 (by decide) rfl (gUp_k (by decide) ha) ?_
    refine g_aload_n (pc := 36) dX3_digit_36 rfl rfl ?_
    refine g_getIV (pc := 37) dX3_digit_37 fl_X3_107 s_114 (by decide) rfl (show _ = nI 1 from by rw [gUp_c, if_pos rfl]) ?_
    refine g_if_eqN (tgt := 47) (pc := 40) dX3_digit_40 (by decide) (by omega) (fun c40 => ?_) (fun c40 => ?_)
    · exact absurd c40 (by decide)
    refine g_iconst (v := nI 0) (pc := 43) dX3_digit_43 rfl ?_
    refine g_goto (tgt := 48) (pc := 44) dX3_digit_44 (by decide) ?_
    refine g_iaddN (pc := 48) dX3_digit_48 ?_
    refine g_putI (pc := 49) dX3_digit_49 fl_X3_101 s_114 (by decide) rfl rfl rfl rfl ?_
    refine g_iload_n (pc := 52) dX3_digit_52 rfl rfl ?_
    refine g_iret (pc := 53) dX3_digit_53 rfl rfl ?_
    refine ⟨_, _, ⟨rfl, rfl⟩, ?_⟩
    rfl
theorem m_X3_takes_t {T : Nat → Nat} {t a u : Nat} (hT : Tx I 118 T t) (ht : I 114 8 = nI t) (ha : I 114 14 = nI a) (h15 : I 114 15 = nI 0) (hat : a < t) (hu : u < 100) (hd : T a = u) : gRv G YX3_takes (d + 1) [.ref 114, .int (nI u)] n I L D (fun J => J = gUp (gUp I 114 15 (nI 0)) 114 14 (nI (a + 1))) := by
  have ht6 := hT.1
  refine g_aload_n (pc := 0) dX3_takes_0 rfl rfl ?_
  refine g_dup (pc := 1) dX3_takes_1 rfl ?_
  refine g_getIV (pc := 2) dX3_takes_2 fl_X3_107 s_114 (by decide) rfl h15 ?_
  refine g_aload_n (pc := 5) dX3_takes_5 rfl rfl ?_
  refine g_fV (av := []) (pc := 6) dX3_takes_6 mt_X3_here lk_X3_104 im_X3_here se_X3_here np_X3_here s_114 (by decide) (by decide) rfl gc_0 (Nat.le_of_ble_eq_true rfl) (Nat.le_of_ble_eq_true rfl) ⟨Nat.zero_le _, Nat.zero_le _⟩ (m_X3_here hT ht ha (Nat.le_of_lt hat)) ?_
  rw [if_pos hat]
  refine g_iload_n (pc := 9) dX3_takes_9 rfl rfl ?_
  refine g_icmp_eqN (tgt := 17) (pc := 10) dX3_takes_10 (by decide) (by omega) (by omega) (fun c10 => ?_) (fun c10 => ?_)
  rotate_left
  · exact absurd hd c10
  refine g_iconst (v := nI 0) (pc := 17) dX3_takes_17 rfl ?_
  refine g_ior (pc := 18) dX3_takes_18 ?_
  rw [show nI 0 ||| nI 0 = nI 0 from rfl]
  refine g_putI (pc := 19) dX3_takes_19 fl_X3_107 s_114 (by decide) rfl rfl rfl rfl ?_
  refine g_aload_n (pc := 22) dX3_takes_22 rfl rfl ?_
  refine g_dup (pc := 23) dX3_takes_23 rfl ?_
  refine g_getIV (pc := 24) dX3_takes_24 fl_X3_101 s_114 (by decide) rfl (gUp_k (by decide) ha) ?_
  refine g_aload_n (pc := 27) dX3_takes_27 rfl rfl ?_
  refine g_getIV (pc := 28) dX3_takes_28 fl_X3_107 s_114 (by decide) rfl (show _ = nI 0 from by rw [gUp_c, if_pos rfl]) ?_
  refine g_if_eqN (tgt := 38) (pc := 31) dX3_takes_31 (by decide) (by omega) (fun c31 => ?_) (fun c31 => ?_)
  rotate_left
  · exact absurd rfl c31
  refine g_iconst (v := nI 1) (pc := 38) dX3_takes_38 rfl ?_
  refine g_iaddN (pc := 39) dX3_takes_39 ?_
  refine g_putI (pc := 40) dX3_takes_40 fl_X3_101 s_114 (by decide) rfl rfl rfl rfl ?_
  refine g_vret (pc := 43) dX3_takes_43 rfl ?_
  refine ⟨_, ⟨rfl, rfl⟩, ?_⟩
  rfl
theorem m_X3_takes_f {T : Nat → Nat} {t a u : Nat} (hT : Tx I 118 T t) (ht : I 114 8 = nI t) (ha : I 114 14 = nI a) (h15 : I 114 15 = nI 0) (hat : a ≤ t) (hu : u < 100) (hd : ¬ (a < t ∧ T a = u)) : gRv G YX3_takes (d + 1) [.ref 114, .int (nI u)] n I L D (fun J => J = gUp (gUp I 114 15 (nI 1)) 114 14 (nI a)) := by
  have ht6 := hT.1
  have hne : ¬ (if a < t then nI (T a) else -1) = nI u := by
    by_cases h : a < t
    · have h126 := (hT.2 a h).2
      rw [if_pos h, nI_eq (by omega) (by omega)]
      exact fun q => hd ⟨h, q⟩
    · rw [if_neg h]
      intro q
      have := congrArg Int32.toInt q
      rw [nI_toInt (by omega)] at this
      have e : (-1 : Int32).toInt = -1 := rfl
      omega
  refine g_aload_n (pc := 0) dX3_takes_0 rfl rfl ?_
  refine g_dup (pc := 1) dX3_takes_1 rfl ?_
  refine g_getIV (pc := 2) dX3_takes_2 fl_X3_107 s_114 (by decide) rfl h15 ?_
  refine g_aload_n (pc := 5) dX3_takes_5 rfl rfl ?_
  refine g_fV (av := []) (pc := 6) dX3_takes_6 mt_X3_here lk_X3_104 im_X3_here se_X3_here np_X3_here s_114 (by decide) (by decide) rfl gc_0 (Nat.le_of_ble_eq_true rfl) (Nat.le_of_ble_eq_true rfl) ⟨Nat.zero_le _, Nat.zero_le _⟩ (m_X3_here hT ht ha hat) ?_
  refine g_iload_n (pc := 9) dX3_takes_9 rfl rfl ?_
  refine g_icmp_eq (tgt := 17) (pc := 10) dX3_takes_10 (by decide) (fun c10 => ?_) (fun c10 => ?_)
  · exact absurd c10 hne
  refine g_iconst (v := nI 1) (pc := 13) dX3_takes_13 rfl ?_
  refine g_goto (tgt := 18) (pc := 14) dX3_takes_14 (by decide) ?_
  refine g_ior (pc := 18) dX3_takes_18 ?_
  rw [show nI 0 ||| nI 1 = nI 1 from rfl]
  refine g_putI (pc := 19) dX3_takes_19 fl_X3_107 s_114 (by decide) rfl rfl rfl rfl ?_
  refine g_aload_n (pc := 22) dX3_takes_22 rfl rfl ?_
  refine g_dup (pc := 23) dX3_takes_23 rfl ?_
  refine g_getIV (pc := 24) dX3_takes_24 fl_X3_101 s_114 (by decide) rfl (gUp_k (by decide) ha) ?_
  refine g_aload_n (pc := 27) dX3_takes_27 rfl rfl ?_
  refine g_getIV (pc := 28) dX3_takes_28 fl_X3_107 s_114 (by decide) rfl (show _ = nI 1 from by rw [gUp_c, if_pos rfl]) ?_
  refine g_if_eqN (tgt := 38) (pc := 31) dX3_takes_31 (by decide) (by omega) (fun c31 => ?_) (fun c31 => ?_)
  · exact absurd c31 (by decide)
  refine g_iconst (v := nI 0) (pc := 34) dX3_takes_34 rfl ?_
  refine g_goto (tgt := 39) (pc := 35) dX3_takes_35 (by decide) ?_
  refine g_iaddN (pc := 39) dX3_takes_39 ?_
  refine g_putI (pc := 40) dX3_takes_40 fl_X3_101 s_114 (by decide) rfl rfl rfl rfl ?_
  refine g_vret (pc := 43) dX3_takes_43 rfl ?_
  refine ⟨_, ⟨rfl, rfl⟩, ?_⟩
  rfl
theorem l_st_bad67 {p : Nat} {I0 : Nat → Nat → Int32} {x y : Option Value} (h15 : I 114 15 = nI 1) (h14 : I 114 14 = nI p) (s1 : Sm [114, 123] I0 I) (s2 : Sc 114 [0, 5, 8, 14, 15] I0 I) : gGo G YX3_store (d + 1) 67 [some (.ref 114), x, y, some (.int (nI 0)), none, none, none, none, none, none, none] [] (hp n I L D) 0 0 (stEQ G n I0 L D p) := by
  refine g_aload_n (pc := 67) dX3_store_67 rfl rfl ?_
  refine g_getIV (pc := 68) dX3_store_68 fl_X3_107 s_114 (by decide) rfl h15 ?_
  refine g_if_neN (tgt := 119) (pc := 71) dX3_store_71 (by decide) (by omega) (fun c71 => ?_) (fun c71 => ?_)
  rotate_left
  · exact absurd c71 (by decide)
  refine g_aload_n (pc := 119) dX3_store_119 rfl rfl ?_
  refine g_dup (pc := 120) dX3_store_120 rfl ?_
  refine g_getIV (pc := 121) dX3_store_121 fl_X3_107 s_114 (by decide) rfl h15 ?_
  refine g_iload_n (pc := 124) dX3_store_124 rfl rfl ?_
  refine g_if_eqN (tgt := 139) (pc := 125) dX3_store_125 (by decide) (by omega) (fun c125 => ?_) (fun c125 => ?_)
  rotate_left
  · exact absurd rfl c125
  refine g_iconst (v := nI 1) (pc := 139) dX3_store_139 rfl ?_
  refine g_goto (tgt := 144) (pc := 140) dX3_store_140 (by decide) ?_
  refine g_ior (pc := 144) dX3_store_144 ?_
  rw [show nI 1 ||| nI 1 = nI 1 from rfl]
  refine g_putI (pc := 145) dX3_store_145 fl_X3_107 s_114 (by decide) rfl rfl rfl rfl ?_
  refine g_aload_n (pc := 148) dX3_store_148 rfl rfl ?_
  refine g_iconst (v := nI 0) (pc := 149) dX3_store_149 rfl ?_
  refine g_putI (pc := 150) dX3_store_150 fl_X3_98 s_114 (by decide) rfl rfl rfl rfl ?_
  refine g_aload_n (pc := 153) dX3_store_153 rfl rfl ?_
  refine g_getIV (pc := 154) dX3_store_154 fl_X3_107 s_114 (by decide) rfl (show _ = nI 1 from gUp_k (by decide) (by rw [gUp_c, if_pos rfl])) ?_
  refine g_if_eqN (tgt := 174) (pc := 157) dX3_store_157 (by decide) (by omega) (fun c157 => ?_) (fun c157 => ?_)
  · exact absurd c157 (by decide)
  refine g_aload_n (pc := 160) dX3_store_160 rfl rfl ?_
  refine g_aload_n (pc := 161) dX3_store_161 rfl rfl ?_
  refine g_getIV (pc := 162) dX3_store_162 fl_X3_101 s_114 (by decide) rfl (show _ = nI p from gUp_k (by decide) (gUp_k (by decide) h14)) ?_
  refine g_putI (pc := 165) dX3_store_165 fl_X3_19 s_114 (by decide) rfl rfl rfl rfl ?_
  refine g_aload_n (pc := 168) dX3_store_168 rfl rfl ?_
  refine g_iconst (v := nI 1) (pc := 169) dX3_store_169 rfl ?_
  refine g_fV (av := [.int _]) (pc := 170) dX3_store_170 mt_X3_no lk_X3_124 im_X3_no se_X3_no np_X3_no s_114 (by decide) (by decide) rfl (gc_i gc_0) (Nat.le_of_ble_eq_true rfl) (Nat.le_of_ble_eq_true rfl) ⟨Nat.zero_le _, Nat.zero_le _⟩ (m_X3_no) ?_
  refine g_iret (pc := 173) dX3_store_173 rfl rfl ?_
  refine ⟨_, _, ⟨rfl, rfl⟩, ?_, ?_, ?_, (by repeat' first | assumption | exact Sm.rfl | exact Sc.rfl | refine Sm.up (by decide) ?_ | refine Sc.up (by decide) ?_ | refine Sc.un (by decide) ?_), (by repeat' first | assumption | exact Sm.rfl | exact Sc.rfl | refine Sm.up (by decide) ?_ | refine Sc.up (by decide) ?_ | refine Sc.un (by decide) ?_)⟩
  · rw [gUp_c, if_pos rfl]
  · exact gUp_k (by decide) (by rw [gUp_c, if_pos rfl])
  · exact gUp_k (by decide) (gUp_k (by decide) (by rw [gUp_c, if_pos rfl]))
theorem l_st_bad52 {p : Nat} {I0 : Nat → Nat → Int32} {x y : Option Value} (h15 : I 114 15 = nI 1) (h14 : I 114 14 = nI p) (s1 : Sm [114, 123] I0 I) (s2 : Sc 114 [0, 5, 8, 14, 15] I0 I) : gGo G YX3_store (d + 1) 52 [some (.ref 114), x, y, none, none, none, none, none, none, none, none] [] (hp n I L D) 0 0 (stEQ G n I0 L D p) := by
  refine g_aload_n (pc := 52) dX3_store_52 rfl rfl ?_
  refine g_getIV (pc := 53) dX3_store_53 fl_X3_107 s_114 (by decide) rfl h15 ?_
  refine g_if_neN (tgt := 65) (pc := 56) dX3_store_56 (by decide) (by omega) (fun c56 => ?_) (fun c56 => ?_)
  rotate_left
  · exact absurd c56 (by decide)
  refine g_iconst (v := nI 0) (pc := 65) dX3_store_65 rfl ?_
  refine g_istore_n (pc := 66) dX3_store_66 rfl (Nat.le_of_ble_eq_true rfl) rfl ?_
  exact l_st_bad67 h15 h14 s1 s2
theorem l_st_bad35 {p : Nat} {I0 : Nat → Nat → Int32} {x : Option Value} (h15 : I 114 15 = nI 1) (h14 : I 114 14 = nI p) (s1 : Sm [114, 123] I0 I) (s2 : Sc 114 [0, 5, 8, 14, 15] I0 I) : gGo G YX3_store (d + 1) 35 [some (.ref 114), x, none, none, none, none, none, none, none, none, none] [] (hp n I L D) 0 0 (stEQ G n I0 L D p) := by
  refine g_aload_n (pc := 35) dX3_store_35 rfl rfl ?_
  refine g_getIV (pc := 36) dX3_store_36 fl_X3_107 s_114 (by decide) rfl h15 ?_
  refine g_if_eqN (tgt := 46) (pc := 39) dX3_store_39 (by decide) (by omega) (fun c39 => ?_) (fun c39 => ?_)
  · exact absurd c39 (by decide)
  refine g_iconst (v := nI 0) (pc := 42) dX3_store_42 rfl ?_
  refine g_goto (tgt := 51) (pc := 43) dX3_store_43 (by decide) ?_
  refine g_istore_n (pc := 51) dX3_store_51 rfl (Nat.le_of_ble_eq_true rfl) rfl ?_
  exact l_st_bad52 h15 h14 s1 s2
theorem l_st_bad22 {p : Nat} {I0 : Nat → Nat → Int32} {x : Option Value} (h15 : I 114 15 = nI 1) (h14 : I 114 14 = nI p) (s1 : Sm [114, 123] I0 I) (s2 : Sc 114 [0, 5, 8, 14, 15] I0 I) : gGo G YX3_store (d + 1) 22 [some (.ref 114), x, none, none, none, none, none, none, none, none, none] [] (hp n I L D) 0 0 (stEQ G n I0 L D p) := by
  refine g_aload_n (pc := 22) dX3_store_22 rfl rfl ?_
  refine g_getIV (pc := 23) dX3_store_23 fl_X3_107 s_114 (by decide) rfl h15 ?_
  refine g_if_neN (tgt := 35) (pc := 26) dX3_store_26 (by decide) (by omega) (fun c26 => ?_) (fun c26 => ?_)
  rotate_left
  · exact absurd c26 (by decide)
  exact l_st_bad35 h15 h14 s1 s2
end

