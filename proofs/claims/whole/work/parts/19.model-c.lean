/-! ===== the reference: questions (a) ===== -/
theorem nI_rng {x : Int32} {m : Nat} (hm : m < 2 ^ 31) (h : nI 0 ≤ x ∧ x ≤ nI m) : ∃ k, k ≤ m ∧ x = nI k := by
  obtain ⟨h1, h2⟩ := h
  exact nI_of2 (x := x) (M := nI m) (n := m) (nI_toInt hm) (by rw [Int32.lt_iff_toInt_lt]; rw [Int32.le_iff_toInt_le] at h1; have e : (nI 0).toInt = (0 : Int32).toInt := rfl; omega) h2
theorem nI_in2 {k m : Nat} (hm : m < 2 ^ 31) (h : k ≤ m) : nI 0 ≤ nI k ∧ nI k ≤ nI m := ⟨nI_le (Nat.zero_le k) (by omega), nI_le h hm⟩
theorem ownI_lt {V : Nat → Nat} {c : Nat} : ownI V c < 0 ↔ own V c = none := by
  unfold ownI
  cases ho : own V c with
  | none => simp
  | some j =>
    have := (own_of ho).1
    simp only [reduceCtorEq, iff_false]
    exact nI_pos (by omega)
theorem ownI_ge {V : Nat → Nat} {c : Nat} : (0 : Int32) ≤ ownI V c ↔ ¬ own V c = none := by
  rw [← ownI_lt, Int32.lt_iff_toInt_lt, Int32.le_iff_toInt_le]
  omega
theorem ownI_eq {V : Nat → Nat} {c f : Nat} (hf : f < 8) : ownI V c = nI f ↔ own V c = some f := by
  unfold ownI
  cases ho : own V c with
  | none =>
    simp only [reduceCtorEq, iff_false]
    intro h
    have := congrArg Int32.toInt h
    rw [nI_toInt (by omega)] at this
    have e : (-1 : Int32).toInt = -1 := rfl
    omega
  | some j =>
    have := (own_of ho).1
    simp only [Option.some.injEq]
    exact nI_eq (by omega) (by omega)
theorem ownI_some {V : Nat → Nat} {c f : Nat} (h : own V c = some f) : ownI V c = nI f := by unfold ownI; rw [h]
theorem ownI_none {V : Nat → Nat} {c : Nat} (h : own V c = none) : ownI V c = -1 := by unfold ownI; rw [h]
/-- how many files there are among the first k -/
def mn (V : Nat → Nat) : Nat → Nat
  | 0 => 0
  | k + 1 => mn V k + (if V (10 * k) = 1 then 1 else 0)
theorem mn_le (V : Nat → Nat) : ∀ k, mn V k ≤ k
  | 0 => Nat.le_refl 0
  | k + 1 => by
    have := mn_le V k
    unfold mn
    split <;> omega
def fsI (V : Nat → Nat) : Nat → Int32
  | 0 => nI 0
  | k + 1 => if V (10 * k) = 1 then fsI V k ||| (nI 1 <<< (nI k &&& 31)) else fsI V k
section
variable {G : gG} {d n : Nat} {I : Nat → Nat → Int32} {L : Nat → Nat → Int64} {D : Nat → Nat → UInt64} {V : Nat → Nat}
theorem l_X3_many (hV : Vok I V) (hW : WF V) (f : Nat) (hf : f ≤ 8) : gGo G YX3_many (d + 2) 4 [some (.ref 114), some (.int (nI (mn V f))), some (.int (nI f))] [] (hp n I L D) 0 0 (fun o g => o = .inl (some (.int (nI (mn V 8)))) ∧ g = hp n I L D) := by
  induction hk : 8 - f using Nat.strongRecOn generalizing f with
  | _ k ih =>
    have hm := mn_le V f
    refine g_iload_n (pc := 4) dX3_many_4 rfl rfl ?_
    refine g_bipush (v := nI 8) (pc := 5) dX3_many_5 rfl ?_
    refine g_icmp_geN (tgt := 32) (pc := 7) dX3_many_7 (by decide) (by omega) (by omega) (fun c7 => ?_) (fun c7 => ?_)
    · rw [show 8 = f by omega]
      refine g_iload_n (pc := 32) dX3_many_32 rfl rfl ?_
      refine g_iret (pc := 33) dX3_many_33 rfl rfl ?_
      first | exact ⟨rfl, rfl⟩ | exact ⟨by rw [bI_t (by first | assumption | omega)], rfl⟩ | exact ⟨by rw [bI_f (by first | assumption | omega)], rfl⟩
    · have hj : f < 8 := by omega
      refine g_iload_n (pc := 10) dX3_many_10 rfl rfl ?_
      refine g_aload_n (pc := 11) dX3_many_11 rfl rfl ?_
      refine g_iload_n (pc := 12) dX3_many_12 rfl rfl ?_
      refine g_fV (av := [.int _]) (pc := 13) dX3_many_13 mt_X3_isFile lk_X3_87 im_X3_isFile se_X3_isFile np_X3_isFile s_114 (by decide) (by decide) rfl (gc_i gc_0) (Nat.le_of_ble_eq_true rfl) (Nat.le_of_ble_eq_true rfl) ⟨Nat.zero_le _, Nat.zero_le _⟩ (m_X3_isFileN hV hW hj) ?_
      refine g_if_eqB (tgt := 23) (pc := 16) dX3_many_16 (by decide) (fun c16 => ?_) (fun c16 => ?_)
      · have e : mn V f + 0 = mn V (f + 1) := by rw [mn, if_neg c16]
        refine g_iconst (v := nI 0) (pc := 23) dX3_many_23 rfl ?_
        refine g_iaddN (pc := 24) dX3_many_24 ?_
        refine g_istore_n (pc := 25) dX3_many_25 rfl (Nat.le_of_ble_eq_true rfl) rfl ?_
        rw [e]
        refine g_iincN (pc := 26) dX3_many_26 (Nat.le_of_ble_eq_true rfl) rfl rfl ?_
        refine g_goto (tgt := 4) (pc := 29) dX3_many_29 (by decide) ?_
        exact ih (8 - (f + 1)) (by omega) (f + 1) (by omega) rfl
      · have e : mn V f + 1 = mn V (f + 1) := by rw [mn, if_pos c16]
        refine g_iconst (v := nI 1) (pc := 19) dX3_many_19 rfl ?_
        refine g_goto (tgt := 24) (pc := 20) dX3_many_20 (by decide) ?_
        refine g_iaddN (pc := 24) dX3_many_24 ?_
        refine g_istore_n (pc := 25) dX3_many_25 rfl (Nat.le_of_ble_eq_true rfl) rfl ?_
        rw [e]
        refine g_iincN (pc := 26) dX3_many_26 (Nat.le_of_ble_eq_true rfl) rfl rfl ?_
        refine g_goto (tgt := 4) (pc := 29) dX3_many_29 (by decide) ?_
        exact ih (8 - (f + 1)) (by omega) (f + 1) (by omega) rfl
theorem m_X3_many (hV : Vok I V) (hW : WF V) : gFn G YX3_many (d + 2) [.ref 114] (hp n I L D) (.inl (some (.int (nI (mn V 8))))) (hp n I L D) 0 0 := by
  refine g_iconst (v := nI 0) (pc := 0) dX3_many_0 rfl ?_
  refine g_istore_n (pc := 1) dX3_many_1 rfl (Nat.le_of_ble_eq_true rfl) rfl ?_
  refine g_iconst (v := nI 0) (pc := 2) dX3_many_2 rfl ?_
  refine g_istore_n (pc := 3) dX3_many_3 rfl (Nat.le_of_ble_eq_true rfl) rfl ?_
  exact l_X3_many hV hW 0 (by omega)
theorem m_X3_isCell_t {c : Nat} (hc : c < 240) : gFn G YX3_isCell (d + 1) [.ref 114, .int (nI c)] (hp n I L D) (.inl (some (.int (nI 1)))) (hp n (gUp I 114 0 (nI 0)) L D) 0 0 := by
  refine g_aload_n (pc := 0) dX3_isCell_0 rfl rfl ?_
  refine g_iload_n (pc := 1) dX3_isCell_1 rfl rfl ?_
  refine g_iconst (v := nI 0) (pc := 2) dX3_isCell_2 rfl ?_
  refine g_sipush (v := nI 239) (pc := 3) dX3_isCell_3 rfl ?_
  refine g_fS (av := [.int _, .int _, .int _]) (pc := 6) dX3_isCell_6 mt_X3_isIn lk_X3_73 sf_X3_isIn np_X3_isIn rfl (gc_i (gc_i (gc_i gc_0))) (Nat.le_of_ble_eq_true rfl) (Nat.le_of_ble_eq_true rfl) ⟨Nat.zero_le _, Nat.zero_le _⟩ (m_X3_isInN (by omega) (by decide) (by decide)) ?_
  refine g_if_eqB (tgt := 16) (pc := 9) dX3_isCell_9 (by decide) (fun c9 => ?_) (fun c9 => ?_)
  · exact absurd (by omega) c9
  · refine g_iconst (v := nI 0) (pc := 12) dX3_isCell_12 rfl ?_
    refine g_goto (tgt := 17) (pc := 13) dX3_isCell_13 (by decide) ?_
    refine g_putI (pc := 17) dX3_isCell_17 fl_X3_67 s_114 (by decide) rfl rfl rfl rfl ?_
    refine g_aload_n (pc := 20) dX3_isCell_20 rfl rfl ?_
    refine g_getIV (pc := 21) dX3_isCell_21 fl_X3_67 s_114 (by decide) rfl (show _ = nI 0 from rfl) ?_
    refine g_if_neN (tgt := 31) (pc := 24) dX3_isCell_24 (by decide) (by omega) (fun c24 => ?_) (fun c24 => ?_)
    · exact absurd c24 (by decide)
    · refine g_iconst (v := nI 1) (pc := 27) dX3_isCell_27 rfl ?_
      refine g_goto (tgt := 32) (pc := 28) dX3_isCell_28 (by decide) ?_
      refine g_iret (pc := 32) dX3_isCell_32 rfl rfl ?_
      first | exact ⟨rfl, rfl⟩ | exact ⟨by rw [bI_t (by first | assumption | omega)], rfl⟩ | exact ⟨by rw [bI_f (by first | assumption | omega)], rfl⟩
theorem m_X3_isCell_f {c : Int32} (hc : ¬ (nI 0 ≤ c ∧ c ≤ nI 239)) : gFn G YX3_isCell (d + 1) [.ref 114, .int c] (hp n I L D) (.inl (some (.int (nI 0)))) (hp n (gUp I 114 0 (nI 1)) L D) 0 0 := by
  refine g_aload_n (pc := 0) dX3_isCell_0 rfl rfl ?_
  refine g_iload_n (pc := 1) dX3_isCell_1 rfl rfl ?_
  refine g_iconst (v := nI 0) (pc := 2) dX3_isCell_2 rfl ?_
  refine g_sipush (v := nI 239) (pc := 3) dX3_isCell_3 rfl ?_
  refine g_fS (av := [.int _, .int _, .int _]) (pc := 6) dX3_isCell_6 mt_X3_isIn lk_X3_73 sf_X3_isIn np_X3_isIn rfl (gc_i (gc_i (gc_i gc_0))) (Nat.le_of_ble_eq_true rfl) (Nat.le_of_ble_eq_true rfl) ⟨Nat.zero_le _, Nat.zero_le _⟩ (m_X3_isIn) ?_
  refine g_if_eqB (tgt := 16) (pc := 9) dX3_isCell_9 (by decide) (fun c9 => ?_) (fun c9 => ?_)
  · refine g_iconst (v := nI 1) (pc := 16) dX3_isCell_16 rfl ?_
    refine g_putI (pc := 17) dX3_isCell_17 fl_X3_67 s_114 (by decide) rfl rfl rfl rfl ?_
    refine g_aload_n (pc := 20) dX3_isCell_20 rfl rfl ?_
    refine g_getIV (pc := 21) dX3_isCell_21 fl_X3_67 s_114 (by decide) rfl (show _ = nI 1 from rfl) ?_
    refine g_if_neN (tgt := 31) (pc := 24) dX3_isCell_24 (by decide) (by omega) (fun c24 => ?_) (fun c24 => ?_)
    · refine g_iconst (v := nI 0) (pc := 31) dX3_isCell_31 rfl ?_
      refine g_iret (pc := 32) dX3_isCell_32 rfl rfl ?_
      first | exact ⟨rfl, rfl⟩ | exact ⟨by rw [bI_t (by first | assumption | omega)], rfl⟩ | exact ⟨by rw [bI_f (by first | assumption | omega)], rfl⟩
    · exact absurd c24 (by decide)
  · exact absurd c9 hc
theorem m_X3_isBlock_t (hV : Vok I V) (hW : WF V) {j b : Nat} (hj : j < 8) (h1 : V (10 * j) = 1) (hb : b < bl V j) : gFn G YX3_isBlock (d + 2) [.ref 114, .int (nI j), .int (nI b)] (hp n I L D) (.inl (some (.int (nI 1)))) (hp n I L D) 0 0 := by
  have hbl := bl_le (hW.1 j hj)
  refine g_aload_n (pc := 0) dX3_isBlock_0 rfl rfl ?_
  refine g_iload_n (pc := 1) dX3_isBlock_1 rfl rfl ?_
  refine g_fV (av := [.int _]) (pc := 2) dX3_isBlock_2 mt_X3_isFile lk_X3_87 im_X3_isFile se_X3_isFile np_X3_isFile s_114 (by decide) (by decide) rfl (gc_i gc_0) (Nat.le_of_ble_eq_true rfl) (Nat.le_of_ble_eq_true rfl) ⟨Nat.zero_le _, Nat.zero_le _⟩ (m_X3_isFileN hV hW hj) ?_
  refine g_if_eqB (tgt := 27) (pc := 5) dX3_isBlock_5 (by decide) (fun c5 => ?_) (fun c5 => ?_)
  · exact absurd h1 c5
  · refine g_iload_n (pc := 8) dX3_isBlock_8 rfl rfl ?_
    refine g_iconst (v := nI 0) (pc := 9) dX3_isBlock_9 rfl ?_
    refine g_aload_n (pc := 10) dX3_isBlock_10 rfl rfl ?_
    refine g_iload_n (pc := 11) dX3_isBlock_11 rfl rfl ?_
    refine g_fV (av := [.int _]) (pc := 12) dX3_isBlock_12 mt_X3_blocks lk_X3_80 im_X3_blocks se_X3_blocks np_X3_blocks s_114 (by decide) (by decide) rfl (gc_i gc_0) (Nat.le_of_ble_eq_true rfl) (Nat.le_of_ble_eq_true rfl) ⟨Nat.zero_le _, Nat.zero_le _⟩ (m_X3_blocks hV hW hj) ?_
    refine g_iconst (v := nI 1) (pc := 15) dX3_isBlock_15 rfl ?_
    refine g_isubN (pc := 16) dX3_isBlock_16 (by omega) ?_
    refine g_fS (av := [.int _, .int _, .int _]) (pc := 17) dX3_isBlock_17 mt_X3_isIn lk_X3_73 sf_X3_isIn np_X3_isIn rfl (gc_i (gc_i (gc_i gc_0))) (Nat.le_of_ble_eq_true rfl) (Nat.le_of_ble_eq_true rfl) ⟨Nat.zero_le _, Nat.zero_le _⟩ (m_X3_isInN (by omega) (by decide) (by omega)) ?_
    refine g_if_eqB (tgt := 27) (pc := 20) dX3_isBlock_20 (by decide) (fun c20 => ?_) (fun c20 => ?_)
    · exact absurd (by omega) c20
    · refine g_iconst (v := nI 1) (pc := 23) dX3_isBlock_23 rfl ?_
      refine g_goto (tgt := 28) (pc := 24) dX3_isBlock_24 (by decide) ?_
      refine g_iret (pc := 28) dX3_isBlock_28 rfl rfl ?_
      first | exact ⟨rfl, rfl⟩ | exact ⟨by rw [bI_t (by first | assumption | omega)], rfl⟩ | exact ⟨by rw [bI_f (by first | assumption | omega)], rfl⟩
theorem m_X3_isBlock_f (hV : Vok I V) (hW : WF V) {f b : Int32} (hb : ¬ ∃ j k, j < 8 ∧ V (10 * j) = 1 ∧ k < bl V j ∧ f = nI j ∧ b = nI k) : gFn G YX3_isBlock (d + 2) [.ref 114, .int f, .int b] (hp n I L D) (.inl (some (.int (nI 0)))) (hp n I L D) 0 0 := by
  refine g_aload_n (pc := 0) dX3_isBlock_0 rfl rfl ?_
  refine g_iload_n (pc := 1) dX3_isBlock_1 rfl rfl ?_
  refine g_fV (av := [.int _]) (pc := 2) dX3_isBlock_2 mt_X3_isFile lk_X3_87 im_X3_isFile se_X3_isFile np_X3_isFile s_114 (by decide) (by decide) rfl (gc_i gc_0) (Nat.le_of_ble_eq_true rfl) (Nat.le_of_ble_eq_true rfl) ⟨Nat.zero_le _, Nat.zero_le _⟩ (m_X3_isFile hV hW) ?_
  refine g_if_eqB (tgt := 27) (pc := 5) dX3_isBlock_5 (by decide) (fun c5 => ?_) (fun c5 => ?_)
  · refine g_iconst (v := nI 0) (pc := 27) dX3_isBlock_27 rfl ?_
    refine g_iret (pc := 28) dX3_isBlock_28 rfl rfl ?_
    first | exact ⟨rfl, rfl⟩ | exact ⟨by rw [bI_t (by first | assumption | omega)], rfl⟩ | exact ⟨by rw [bI_f (by first | assumption | omega)], rfl⟩
  · obtain ⟨j, hj, rfl⟩ := nI_7 c5.1
    have h1 := (isFi_n hj).mp c5
    have hbl := bl_le (hW.1 j hj)
    have hpb : 1 ≤ bl V j := by
     have := ((hW.1 j hj).2.2.2.2.2.2.2.2 h1).1
     unfold bl
     omega
    refine g_iload_n (pc := 8) dX3_isBlock_8 rfl rfl ?_
    refine g_iconst (v := nI 0) (pc := 9) dX3_isBlock_9 rfl ?_
    refine g_aload_n (pc := 10) dX3_isBlock_10 rfl rfl ?_
    refine g_iload_n (pc := 11) dX3_isBlock_11 rfl rfl ?_
    refine g_fV (av := [.int _]) (pc := 12) dX3_isBlock_12 mt_X3_blocks lk_X3_80 im_X3_blocks se_X3_blocks np_X3_blocks s_114 (by decide) (by decide) rfl (gc_i gc_0) (Nat.le_of_ble_eq_true rfl) (Nat.le_of_ble_eq_true rfl) ⟨Nat.zero_le _, Nat.zero_le _⟩ (m_X3_blocks hV hW hj) ?_
    refine g_iconst (v := nI 1) (pc := 15) dX3_isBlock_15 rfl ?_
    refine g_isubN (pc := 16) dX3_isBlock_16 (by omega) ?_
    refine g_fS (av := [.int _, .int _, .int _]) (pc := 17) dX3_isBlock_17 mt_X3_isIn lk_X3_73 sf_X3_isIn np_X3_isIn rfl (gc_i (gc_i (gc_i gc_0))) (Nat.le_of_ble_eq_true rfl) (Nat.le_of_ble_eq_true rfl) ⟨Nat.zero_le _, Nat.zero_le _⟩ (m_X3_isIn) ?_
    refine g_if_eqB (tgt := 27) (pc := 20) dX3_isBlock_20 (by decide) (fun c20 => ?_) (fun c20 => ?_)
    · refine g_iconst (v := nI 0) (pc := 27) dX3_isBlock_27 rfl ?_
      refine g_iret (pc := 28) dX3_isBlock_28 rfl rfl ?_
      first | exact ⟨rfl, rfl⟩ | exact ⟨by rw [bI_t (by first | assumption | omega)], rfl⟩ | exact ⟨by rw [bI_f (by first | assumption | omega)], rfl⟩
    · obtain ⟨k, hk, rfl⟩ := nI_rng (by omega) c20
      exact absurd ⟨j, k, hj, h1, by omega, rfl, rfl⟩ hb
theorem m_X3_isThere_t (hV : Vok I V) (hW : WF V) {j b : Nat} (hj : j < 8) (h1 : V (10 * j) = 1) (hb : b < bl V j) : gFn G YX3_isThere (d + 3) [.ref 114, .int (nI j), .int (nI b)] (hp n I L D) (.inl (some (.int (nI 1)))) (hp n (gUp I 114 0 (nI 0)) L D) 0 0 := by
  refine g_aload_n (pc := 0) dX3_isThere_0 rfl rfl ?_
  refine g_aload_n (pc := 1) dX3_isThere_1 rfl rfl ?_
  refine g_iload_n (pc := 2) dX3_isThere_2 rfl rfl ?_
  refine g_iload_n (pc := 3) dX3_isThere_3 rfl rfl ?_
  refine g_fV (av := [.int _, .int _]) (pc := 4) dX3_isThere_4 mt_X3_isBlock lk_X3_153 im_X3_isBlock se_X3_isBlock np_X3_isBlock s_114 (by decide) (by decide) rfl (gc_i (gc_i gc_0)) (Nat.le_of_ble_eq_true rfl) (Nat.le_of_ble_eq_true rfl) ⟨Nat.zero_le _, Nat.zero_le _⟩ (m_X3_isBlock_t hV hW hj h1 hb) ?_
  refine g_if_eqN (tgt := 14) (pc := 7) dX3_isThere_7 (by decide) (by omega) (fun c7 => ?_) (fun c7 => ?_)
  · exact absurd c7 (by decide)
  · refine g_iconst (v := nI 0) (pc := 10) dX3_isThere_10 rfl ?_
    refine g_goto (tgt := 15) (pc := 11) dX3_isThere_11 (by decide) ?_
    refine g_putI (pc := 15) dX3_isThere_15 fl_X3_67 s_114 (by decide) rfl rfl rfl rfl ?_
    refine g_aload_n (pc := 18) dX3_isThere_18 rfl rfl ?_
    refine g_getIV (pc := 19) dX3_isThere_19 fl_X3_67 s_114 (by decide) rfl (show _ = nI 0 from rfl) ?_
    refine g_if_neN (tgt := 29) (pc := 22) dX3_isThere_22 (by decide) (by omega) (fun c22 => ?_) (fun c22 => ?_)
    · exact absurd c22 (by decide)
    · refine g_iconst (v := nI 1) (pc := 25) dX3_isThere_25 rfl ?_
      refine g_goto (tgt := 30) (pc := 26) dX3_isThere_26 (by decide) ?_
      refine g_iret (pc := 30) dX3_isThere_30 rfl rfl ?_
      first | exact ⟨rfl, rfl⟩ | exact ⟨by rw [bI_t (by first | assumption | omega)], rfl⟩ | exact ⟨by rw [bI_f (by first | assumption | omega)], rfl⟩
theorem m_X3_isThere_f (hV : Vok I V) (hW : WF V) {f b : Int32} (hb : ¬ ∃ j k, j < 8 ∧ V (10 * j) = 1 ∧ k < bl V j ∧ f = nI j ∧ b = nI k) : gFn G YX3_isThere (d + 3) [.ref 114, .int f, .int b] (hp n I L D) (.inl (some (.int (nI 0)))) (hp n (gUp I 114 0 (nI 1)) L D) 0 0 := by
  refine g_aload_n (pc := 0) dX3_isThere_0 rfl rfl ?_
  refine g_aload_n (pc := 1) dX3_isThere_1 rfl rfl ?_
  refine g_iload_n (pc := 2) dX3_isThere_2 rfl rfl ?_
  refine g_iload_n (pc := 3) dX3_isThere_3 rfl rfl ?_
  refine g_fV (av := [.int _, .int _]) (pc := 4) dX3_isThere_4 mt_X3_isBlock lk_X3_153 im_X3_isBlock se_X3_isBlock np_X3_isBlock s_114 (by decide) (by decide) rfl (gc_i (gc_i gc_0)) (Nat.le_of_ble_eq_true rfl) (Nat.le_of_ble_eq_true rfl) ⟨Nat.zero_le _, Nat.zero_le _⟩ (m_X3_isBlock_f hV hW hb) ?_
  refine g_if_eqN (tgt := 14) (pc := 7) dX3_isThere_7 (by decide) (by omega) (fun c7 => ?_) (fun c7 => ?_)
  · refine g_iconst (v := nI 1) (pc := 14) dX3_isThere_14 rfl ?_
    refine g_putI (pc := 15) dX3_isThere_15 fl_X3_67 s_114 (by decide) rfl rfl rfl rfl ?_
    refine g_aload_n (pc := 18) dX3_isThere_18 rfl rfl ?_
    refine g_getIV (pc := 19) dX3_isThere_19 fl_X3_67 s_114 (by decide) rfl (show _ = nI 1 from rfl) ?_
    refine g_if_neN (tgt := 29) (pc := 22) dX3_isThere_22 (by decide) (by omega) (fun c22 => ?_) (fun c22 => ?_)
    · refine g_iconst (v := nI 0) (pc := 29) dX3_isThere_29 rfl ?_
      refine g_iret (pc := 30) dX3_isThere_30 rfl rfl ?_
      first | exact ⟨rfl, rfl⟩ | exact ⟨by rw [bI_t (by first | assumption | omega)], rfl⟩ | exact ⟨by rw [bI_f (by first | assumption | omega)], rfl⟩
    · exact absurd c22 (by decide)
  · exact absurd c7 (by decide)
theorem m_X3_isPlace_t (hV : Vok I V) (hW : WF V) {j b i : Nat} (hj : j < 8) (h1 : V (10 * j) = 1) (hb : b < bl V j) (hi : i < sz V j) : gFn G YX3_isPlace (d + 3) [.ref 114, .int (nI j), .int (nI b), .int (nI i)] (hp n I L D) (.inl (some (.int (nI 1)))) (hp n (gUp I 114 0 (nI 0)) L D) 0 0 := by
  have hs := sz_le (hW.1 j hj)
  refine g_aload_n (pc := 0) dX3_isPlace_0 rfl rfl ?_
  refine g_aload_n (pc := 1) dX3_isPlace_1 rfl rfl ?_
  refine g_iload_n (pc := 2) dX3_isPlace_2 rfl rfl ?_
  refine g_iload_n (pc := 3) dX3_isPlace_3 rfl rfl ?_
  refine g_fV (av := [.int _, .int _]) (pc := 4) dX3_isPlace_4 mt_X3_isBlock lk_X3_153 im_X3_isBlock se_X3_isBlock np_X3_isBlock s_114 (by decide) (by decide) rfl (gc_i (gc_i gc_0)) (Nat.le_of_ble_eq_true rfl) (Nat.le_of_ble_eq_true rfl) ⟨Nat.zero_le _, Nat.zero_le _⟩ (m_X3_isBlock_t hV hW hj h1 hb) ?_
  refine g_if_eqN (tgt := 29) (pc := 7) dX3_isPlace_7 (by decide) (by omega) (fun c7 => ?_) (fun c7 => ?_)
  · exact absurd c7 (by decide)
  · refine g_iload_n (pc := 10) dX3_isPlace_10 rfl rfl ?_
    refine g_iconst (v := nI 0) (pc := 11) dX3_isPlace_11 rfl ?_
    refine g_aload_n (pc := 12) dX3_isPlace_12 rfl rfl ?_
    refine g_iload_n (pc := 13) dX3_isPlace_13 rfl rfl ?_
    refine g_fV (av := [.int _]) (pc := 14) dX3_isPlace_14 mt_X3_size lk_X3_84 im_X3_size se_X3_size np_X3_size s_114 (by decide) (by decide) rfl (gc_i gc_0) (Nat.le_of_ble_eq_true rfl) (Nat.le_of_ble_eq_true rfl) ⟨Nat.zero_le _, Nat.zero_le _⟩ (m_X3_size hV hj) ?_
    refine g_iconst (v := nI 1) (pc := 17) dX3_isPlace_17 rfl ?_
    refine g_isubN (pc := 18) dX3_isPlace_18 (by omega) ?_
    refine g_fS (av := [.int _, .int _, .int _]) (pc := 19) dX3_isPlace_19 mt_X3_isIn lk_X3_73 sf_X3_isIn np_X3_isIn rfl (gc_i (gc_i (gc_i gc_0))) (Nat.le_of_ble_eq_true rfl) (Nat.le_of_ble_eq_true rfl) ⟨Nat.zero_le _, Nat.zero_le _⟩ (m_X3_isInN (by omega) (by decide) (by omega)) ?_
    refine g_if_eqB (tgt := 29) (pc := 22) dX3_isPlace_22 (by decide) (fun c22 => ?_) (fun c22 => ?_)
    · exact absurd (by omega) c22
    · refine g_iconst (v := nI 0) (pc := 25) dX3_isPlace_25 rfl ?_
      refine g_goto (tgt := 30) (pc := 26) dX3_isPlace_26 (by decide) ?_
      refine g_putI (pc := 30) dX3_isPlace_30 fl_X3_67 s_114 (by decide) rfl rfl rfl rfl ?_
      refine g_aload_n (pc := 33) dX3_isPlace_33 rfl rfl ?_
      refine g_getIV (pc := 34) dX3_isPlace_34 fl_X3_67 s_114 (by decide) rfl (show _ = nI 0 from rfl) ?_
      refine g_if_neN (tgt := 44) (pc := 37) dX3_isPlace_37 (by decide) (by omega) (fun c37 => ?_) (fun c37 => ?_)
      · exact absurd c37 (by decide)
      · refine g_iconst (v := nI 1) (pc := 40) dX3_isPlace_40 rfl ?_
        refine g_goto (tgt := 45) (pc := 41) dX3_isPlace_41 (by decide) ?_
        refine g_iret (pc := 45) dX3_isPlace_45 rfl rfl ?_
        first | exact ⟨rfl, rfl⟩ | exact ⟨by rw [bI_t (by first | assumption | omega)], rfl⟩ | exact ⟨by rw [bI_f (by first | assumption | omega)], rfl⟩
theorem m_X3_isPlace_f (hV : Vok I V) (hW : WF V) {f b i : Int32} (hb : ¬ ∃ j k l, j < 8 ∧ V (10 * j) = 1 ∧ k < bl V j ∧ l < sz V j ∧ f = nI j ∧ b = nI k ∧ i = nI l) : gFn G YX3_isPlace (d + 3) [.ref 114, .int f, .int b, .int i] (hp n I L D) (.inl (some (.int (nI 0)))) (hp n (gUp I 114 0 (nI 1)) L D) 0 0 := by
  by_cases hq : ∃ j k, j < 8 ∧ V (10 * j) = 1 ∧ k < bl V j ∧ f = nI j ∧ b = nI k
  · obtain ⟨j, k, hj, h1, hk, rfl, rfl⟩ := hq
    have hs := sz_le (hW.1 j hj)
    refine g_aload_n (pc := 0) dX3_isPlace_0 rfl rfl ?_
    refine g_aload_n (pc := 1) dX3_isPlace_1 rfl rfl ?_
    refine g_iload_n (pc := 2) dX3_isPlace_2 rfl rfl ?_
    refine g_iload_n (pc := 3) dX3_isPlace_3 rfl rfl ?_
    refine g_fV (av := [.int _, .int _]) (pc := 4) dX3_isPlace_4 mt_X3_isBlock lk_X3_153 im_X3_isBlock se_X3_isBlock np_X3_isBlock s_114 (by decide) (by decide) rfl (gc_i (gc_i gc_0)) (Nat.le_of_ble_eq_true rfl) (Nat.le_of_ble_eq_true rfl) ⟨Nat.zero_le _, Nat.zero_le _⟩ (m_X3_isBlock_t hV hW hj h1 hk) ?_
    refine g_if_eqN (tgt := 29) (pc := 7) dX3_isPlace_7 (by decide) (by omega) (fun c7 => ?_) (fun c7 => ?_)
    · exact absurd c7 (by decide)
    · refine g_iload_n (pc := 10) dX3_isPlace_10 rfl rfl ?_
      refine g_iconst (v := nI 0) (pc := 11) dX3_isPlace_11 rfl ?_
      refine g_aload_n (pc := 12) dX3_isPlace_12 rfl rfl ?_
      refine g_iload_n (pc := 13) dX3_isPlace_13 rfl rfl ?_
      refine g_fV (av := [.int _]) (pc := 14) dX3_isPlace_14 mt_X3_size lk_X3_84 im_X3_size se_X3_size np_X3_size s_114 (by decide) (by decide) rfl (gc_i gc_0) (Nat.le_of_ble_eq_true rfl) (Nat.le_of_ble_eq_true rfl) ⟨Nat.zero_le _, Nat.zero_le _⟩ (m_X3_size hV hj) ?_
      refine g_iconst (v := nI 1) (pc := 17) dX3_isPlace_17 rfl ?_
      refine g_isubN (pc := 18) dX3_isPlace_18 (by omega) ?_
      refine g_fS (av := [.int _, .int _, .int _]) (pc := 19) dX3_isPlace_19 mt_X3_isIn lk_X3_73 sf_X3_isIn np_X3_isIn rfl (gc_i (gc_i (gc_i gc_0))) (Nat.le_of_ble_eq_true rfl) (Nat.le_of_ble_eq_true rfl) ⟨Nat.zero_le _, Nat.zero_le _⟩ (m_X3_isIn) ?_
      refine g_if_eqB (tgt := 29) (pc := 22) dX3_isPlace_22 (by decide) (fun c22 => ?_) (fun c22 => ?_)
      · refine g_iconst (v := nI 1) (pc := 29) dX3_isPlace_29 rfl ?_
        refine g_putI (pc := 30) dX3_isPlace_30 fl_X3_67 s_114 (by decide) rfl rfl rfl rfl ?_
        refine g_aload_n (pc := 33) dX3_isPlace_33 rfl rfl ?_
        refine g_getIV (pc := 34) dX3_isPlace_34 fl_X3_67 s_114 (by decide) rfl (show _ = nI 1 from rfl) ?_
        refine g_if_neN (tgt := 44) (pc := 37) dX3_isPlace_37 (by decide) (by omega) (fun c37 => ?_) (fun c37 => ?_)
        · refine g_iconst (v := nI 0) (pc := 44) dX3_isPlace_44 rfl ?_
          refine g_iret (pc := 45) dX3_isPlace_45 rfl rfl ?_
          first | exact ⟨rfl, rfl⟩ | exact ⟨by rw [bI_t (by first | assumption | omega)], rfl⟩ | exact ⟨by rw [bI_f (by first | assumption | omega)], rfl⟩
        · exact absurd c37 (by decide)
      · obtain ⟨l, hl, rfl⟩ := nI_rng (by omega) c22
        exact absurd ⟨j, k, l, hj, h1, hk, by omega, rfl, rfl, rfl⟩ hb
  · skip
    refine g_aload_n (pc := 0) dX3_isPlace_0 rfl rfl ?_
    refine g_aload_n (pc := 1) dX3_isPlace_1 rfl rfl ?_
    refine g_iload_n (pc := 2) dX3_isPlace_2 rfl rfl ?_
    refine g_iload_n (pc := 3) dX3_isPlace_3 rfl rfl ?_
    refine g_fV (av := [.int _, .int _]) (pc := 4) dX3_isPlace_4 mt_X3_isBlock lk_X3_153 im_X3_isBlock se_X3_isBlock np_X3_isBlock s_114 (by decide) (by decide) rfl (gc_i (gc_i gc_0)) (Nat.le_of_ble_eq_true rfl) (Nat.le_of_ble_eq_true rfl) ⟨Nat.zero_le _, Nat.zero_le _⟩ (m_X3_isBlock_f hV hW hq) ?_
    refine g_if_eqN (tgt := 29) (pc := 7) dX3_isPlace_7 (by decide) (by omega) (fun c7 => ?_) (fun c7 => ?_)
    · refine g_iconst (v := nI 1) (pc := 29) dX3_isPlace_29 rfl ?_
      refine g_putI (pc := 30) dX3_isPlace_30 fl_X3_67 s_114 (by decide) rfl rfl rfl rfl ?_
      refine g_aload_n (pc := 33) dX3_isPlace_33 rfl rfl ?_
      refine g_getIV (pc := 34) dX3_isPlace_34 fl_X3_67 s_114 (by decide) rfl (show _ = nI 1 from rfl) ?_
      refine g_if_neN (tgt := 44) (pc := 37) dX3_isPlace_37 (by decide) (by omega) (fun c37 => ?_) (fun c37 => ?_)
      · refine g_iconst (v := nI 0) (pc := 44) dX3_isPlace_44 rfl ?_
        refine g_iret (pc := 45) dX3_isPlace_45 rfl rfl ?_
        first | exact ⟨rfl, rfl⟩ | exact ⟨by rw [bI_t (by first | assumption | omega)], rfl⟩ | exact ⟨by rw [bI_f (by first | assumption | omega)], rfl⟩
      · exact absurd c37 (by decide)
    · exact absurd c7 (by decide)
theorem m_X3_isFileOrAll_a : gFn G YX3_isFileOrAll (d + 2) [.ref 114, .int (-1)] (hp n I L D) (.inl (some (.int (nI 1)))) (hp n (gUp I 114 0 (nI 0)) L D) 0 0 := by
  refine g_aload_n (pc := 0) dX3_isFileOrAll_0 rfl rfl ?_
  refine g_iload_n (pc := 1) dX3_isFileOrAll_1 rfl rfl ?_
  refine g_iconst (v := (-1)) (pc := 2) dX3_isFileOrAll_2 rfl ?_
  refine g_icmp_eq (tgt := 14) (pc := 3) dX3_isFileOrAll_3 (by decide) (fun c3 => ?_) (fun c3 => ?_)
  · refine g_iconst (v := nI 0) (pc := 14) dX3_isFileOrAll_14 rfl ?_
    refine g_goto (tgt := 19) (pc := 15) dX3_isFileOrAll_15 (by decide) ?_
    refine g_putI (pc := 19) dX3_isFileOrAll_19 fl_X3_67 s_114 (by decide) rfl rfl rfl rfl ?_
    refine g_aload_n (pc := 22) dX3_isFileOrAll_22 rfl rfl ?_
    refine g_getIV (pc := 23) dX3_isFileOrAll_23 fl_X3_67 s_114 (by decide) rfl (show _ = nI 0 from rfl) ?_
    refine g_if_neN (tgt := 33) (pc := 26) dX3_isFileOrAll_26 (by decide) (by omega) (fun c26 => ?_) (fun c26 => ?_)
    · exact absurd c26 (by decide)
    · refine g_iconst (v := nI 1) (pc := 29) dX3_isFileOrAll_29 rfl ?_
      refine g_goto (tgt := 34) (pc := 30) dX3_isFileOrAll_30 (by decide) ?_
      refine g_iret (pc := 34) dX3_isFileOrAll_34 rfl rfl ?_
      first | exact ⟨rfl, rfl⟩ | exact ⟨by rw [bI_t (by first | assumption | omega)], rfl⟩ | exact ⟨by rw [bI_f (by first | assumption | omega)], rfl⟩
  · exact absurd rfl c3
theorem m_X3_isFileOrAll_t (hV : Vok I V) (hW : WF V) {j : Nat} (hj : j < 8) (h1 : V (10 * j) = 1) : gFn G YX3_isFileOrAll (d + 2) [.ref 114, .int (nI j)] (hp n I L D) (.inl (some (.int (nI 1)))) (hp n (gUp I 114 0 (nI 0)) L D) 0 0 := by
  refine g_aload_n (pc := 0) dX3_isFileOrAll_0 rfl rfl ?_
  refine g_iload_n (pc := 1) dX3_isFileOrAll_1 rfl rfl ?_
  refine g_iconst (v := (-1)) (pc := 2) dX3_isFileOrAll_2 rfl ?_
  refine g_icmp_eq (tgt := 14) (pc := 3) dX3_isFileOrAll_3 (by decide) (fun c3 => ?_) (fun c3 => ?_)
  · refine g_iconst (v := nI 0) (pc := 14) dX3_isFileOrAll_14 rfl ?_
    refine g_goto (tgt := 19) (pc := 15) dX3_isFileOrAll_15 (by decide) ?_
    refine g_putI (pc := 19) dX3_isFileOrAll_19 fl_X3_67 s_114 (by decide) rfl rfl rfl rfl ?_
    refine g_aload_n (pc := 22) dX3_isFileOrAll_22 rfl rfl ?_
    refine g_getIV (pc := 23) dX3_isFileOrAll_23 fl_X3_67 s_114 (by decide) rfl (show _ = nI 0 from rfl) ?_
    refine g_if_neN (tgt := 33) (pc := 26) dX3_isFileOrAll_26 (by decide) (by omega) (fun c26 => ?_) (fun c26 => ?_)
    · exact absurd c26 (by decide)
    · refine g_iconst (v := nI 1) (pc := 29) dX3_isFileOrAll_29 rfl ?_
      refine g_goto (tgt := 34) (pc := 30) dX3_isFileOrAll_30 (by decide) ?_
      refine g_iret (pc := 34) dX3_isFileOrAll_34 rfl rfl ?_
      first | exact ⟨rfl, rfl⟩ | exact ⟨by rw [bI_t (by first | assumption | omega)], rfl⟩ | exact ⟨by rw [bI_f (by first | assumption | omega)], rfl⟩
  · refine g_aload_n (pc := 6) dX3_isFileOrAll_6 rfl rfl ?_
    refine g_iload_n (pc := 7) dX3_isFileOrAll_7 rfl rfl ?_
    refine g_fV (av := [.int _]) (pc := 8) dX3_isFileOrAll_8 mt_X3_isFile lk_X3_87 im_X3_isFile se_X3_isFile np_X3_isFile s_114 (by decide) (by decide) rfl (gc_i gc_0) (Nat.le_of_ble_eq_true rfl) (Nat.le_of_ble_eq_true rfl) ⟨Nat.zero_le _, Nat.zero_le _⟩ (m_X3_isFileN hV hW hj) ?_
    refine g_if_eqB (tgt := 18) (pc := 11) dX3_isFileOrAll_11 (by decide) (fun c11 => ?_) (fun c11 => ?_)
    · exact absurd h1 c11
    · refine g_iconst (v := nI 0) (pc := 14) dX3_isFileOrAll_14 rfl ?_
      refine g_goto (tgt := 19) (pc := 15) dX3_isFileOrAll_15 (by decide) ?_
      refine g_putI (pc := 19) dX3_isFileOrAll_19 fl_X3_67 s_114 (by decide) rfl rfl rfl rfl ?_
      refine g_aload_n (pc := 22) dX3_isFileOrAll_22 rfl rfl ?_
      refine g_getIV (pc := 23) dX3_isFileOrAll_23 fl_X3_67 s_114 (by decide) rfl (show _ = nI 0 from rfl) ?_
      refine g_if_neN (tgt := 33) (pc := 26) dX3_isFileOrAll_26 (by decide) (by omega) (fun c26 => ?_) (fun c26 => ?_)
      · exact absurd c26 (by decide)
      · refine g_iconst (v := nI 1) (pc := 29) dX3_isFileOrAll_29 rfl ?_
        refine g_goto (tgt := 34) (pc := 30) dX3_isFileOrAll_30 (by decide) ?_
        refine g_iret (pc := 34) dX3_isFileOrAll_34 rfl rfl ?_
        first | exact ⟨rfl, rfl⟩ | exact ⟨by rw [bI_t (by first | assumption | omega)], rfl⟩ | exact ⟨by rw [bI_f (by first | assumption | omega)], rfl⟩
theorem m_X3_isFileOrAll_f (hV : Vok I V) (hW : WF V) {f : Int32} (h0 : ¬ f = -1) (hf : ¬ isFi V f) : gFn G YX3_isFileOrAll (d + 2) [.ref 114, .int f] (hp n I L D) (.inl (some (.int (nI 0)))) (hp n (gUp I 114 0 (nI 1)) L D) 0 0 := by
  refine g_aload_n (pc := 0) dX3_isFileOrAll_0 rfl rfl ?_
  refine g_iload_n (pc := 1) dX3_isFileOrAll_1 rfl rfl ?_
  refine g_iconst (v := (-1)) (pc := 2) dX3_isFileOrAll_2 rfl ?_
  refine g_icmp_eq (tgt := 14) (pc := 3) dX3_isFileOrAll_3 (by decide) (fun c3 => ?_) (fun c3 => ?_)
  · exact absurd c3 h0
  · refine g_aload_n (pc := 6) dX3_isFileOrAll_6 rfl rfl ?_
    refine g_iload_n (pc := 7) dX3_isFileOrAll_7 rfl rfl ?_
    refine g_fV (av := [.int _]) (pc := 8) dX3_isFileOrAll_8 mt_X3_isFile lk_X3_87 im_X3_isFile se_X3_isFile np_X3_isFile s_114 (by decide) (by decide) rfl (gc_i gc_0) (Nat.le_of_ble_eq_true rfl) (Nat.le_of_ble_eq_true rfl) ⟨Nat.zero_le _, Nat.zero_le _⟩ (m_X3_isFile hV hW) ?_
    refine g_if_eqB (tgt := 18) (pc := 11) dX3_isFileOrAll_11 (by decide) (fun c11 => ?_) (fun c11 => ?_)
    · refine g_iconst (v := nI 1) (pc := 18) dX3_isFileOrAll_18 rfl ?_
      refine g_putI (pc := 19) dX3_isFileOrAll_19 fl_X3_67 s_114 (by decide) rfl rfl rfl rfl ?_
      refine g_aload_n (pc := 22) dX3_isFileOrAll_22 rfl rfl ?_
      refine g_getIV (pc := 23) dX3_isFileOrAll_23 fl_X3_67 s_114 (by decide) rfl (show _ = nI 1 from rfl) ?_
      refine g_if_neN (tgt := 33) (pc := 26) dX3_isFileOrAll_26 (by decide) (by omega) (fun c26 => ?_) (fun c26 => ?_)
      · refine g_iconst (v := nI 0) (pc := 33) dX3_isFileOrAll_33 rfl ?_
        refine g_iret (pc := 34) dX3_isFileOrAll_34 rfl rfl ?_
        first | exact ⟨rfl, rfl⟩ | exact ⟨by rw [bI_t (by first | assumption | omega)], rfl⟩ | exact ⟨by rw [bI_f (by first | assumption | omega)], rfl⟩
      · exact absurd c26 (by decide)
    · exact absurd c11 hf
theorem Vb (hW : WF V) {c : Nat} (hc : c < 240) : V (80 + c) ≤ 15 ∧ V (320 + c) ≤ 1 ∧ V (560 + c) ≤ 15 := hW.2.2.2 c hc
theorem m_X3_isWrong (hV : Vok I V) (hW : WF V) {c : Nat} (hc : c < 240) : gFn G YX3_isWrong d [.ref 114, .int (nI c)] (hp n I L D) (.inl (some (.int (bI (¬ V (80 + c) = V (560 + c)))))) (hp n I L D) 0 0 := by
  have hb := Vb hW hc
  refine g_aload_n (pc := 0) dX3_isWrong_0 rfl rfl ?_
  refine g_getR (pc := 1) dX3_isWrong_1 fl_X3_9 s_114 (by decide) rfl t_114_1 ?_
  refine g_bipush (v := nI 80) (pc := 4) dX3_isWrong_4 rfl ?_
  refine g_iload_n (pc := 6) dX3_isWrong_6 rfl rfl ?_
  refine g_iaddN (pc := 7) dX3_isWrong_7 ?_
  refine g_ialoadN (pc := 8) dX3_isWrong_8 s_115 (by decide) (by omega) (by decide) (hV _ (by omega)) ?_
  refine g_aload_n (pc := 9) dX3_isWrong_9 rfl rfl ?_
  refine g_getR (pc := 10) dX3_isWrong_10 fl_X3_9 s_114 (by decide) rfl t_114_1 ?_
  refine g_sipush (v := nI 560) (pc := 13) dX3_isWrong_13 rfl ?_
  refine g_iload_n (pc := 16) dX3_isWrong_16 rfl rfl ?_
  refine g_iaddN (pc := 17) dX3_isWrong_17 ?_
  refine g_ialoadN (pc := 18) dX3_isWrong_18 s_115 (by decide) (by omega) (by decide) (hV _ (by omega)) ?_
  refine g_icmp_eqN (tgt := 26) (pc := 19) dX3_isWrong_19 (by decide) (by omega) (by omega) (fun c19 => ?_) (fun c19 => ?_)
  · refine g_iconst (v := nI 0) (pc := 26) dX3_isWrong_26 rfl ?_
    refine g_iret (pc := 27) dX3_isWrong_27 rfl rfl ?_
    first | exact ⟨rfl, rfl⟩ | exact ⟨by rw [bI_t (by first | assumption | omega)], rfl⟩ | exact ⟨by rw [bI_f (by first | assumption | omega)], rfl⟩
  · refine g_iconst (v := nI 1) (pc := 22) dX3_isWrong_22 rfl ?_
    refine g_goto (tgt := 27) (pc := 23) dX3_isWrong_23 (by decide) ?_
    refine g_iret (pc := 27) dX3_isWrong_27 rfl rfl ?_
    first | exact ⟨rfl, rfl⟩ | exact ⟨by rw [bI_t (by first | assumption | omega)], rfl⟩ | exact ⟨by rw [bI_f (by first | assumption | omega)], rfl⟩
end

