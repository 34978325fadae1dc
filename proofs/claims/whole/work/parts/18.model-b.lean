/-! ===== the reference: places, owners ===== -/
theorem m_X3_isInN {G : gG} {d : Nat} {h : gH} {x lo hi : Nat} (h1 : x < 2 ^ 31) (h2 : lo < 2 ^ 31) (h3 : hi < 2 ^ 31) : gFn G YX3_isIn d [.int (nI x), .int (nI lo), .int (nI hi)] h (.inl (some (.int (bI (lo ≤ x ∧ x ≤ hi))))) h 0 0 := by
  have e : bI (lo ≤ x ∧ x ≤ hi) = bI (nI lo ≤ nI x ∧ nI x ≤ nI hi) := bI_congr (by rw [nI_leI h2 h1, nI_leI h1 h3])
  rw [e]
  exact m_X3_isIn
abbrev isOwn (V : Nat → Nat) (c j : Nat) : Prop := V (10 * j) = 1 ∧ V (10 * j + 5) ≤ c ∧ c < V (10 * j + 5) + ce V j
/-- the file that has a cell; 8 for none -/
def own (V : Nat → Nat) (c : Nat) : Option Nat := (List.range 8).find? (fun j => decide (isOwn V c j))
def ownI (V : Nat → Nat) (c : Nat) : Int32 := match own V c with
  | some j => nI j
  | none => -1
theorem find_first {p : Nat → Bool} {n j : Nat} (hj : j < n) (h : p j = true) (hn : ∀ i, i < j → p i = false) : (List.range n).find? p = some j := by
  rw [List.find?_range_eq_some]
  refine ⟨h, List.mem_range.mpr hj, fun i hi => ?_⟩
  simp [hn i hi]
theorem find_none {p : Nat → Bool} {n : Nat} (hn : ∀ i, i < n → p i = false) : (List.range n).find? p = none := by
  rw [List.find?_eq_none]
  intro i hi
  simp [hn i (List.mem_range.mp hi)]
theorem own_some {V : Nat → Nat} {c j : Nat} (hj : j < 8) (h : isOwn V c j) (hn : ∀ i, i < j → ¬ isOwn V c i) : own V c = some j := find_first hj (decide_eq_true h) (fun i hi => decide_eq_false (hn i hi))
theorem own_none {V : Nat → Nat} {c : Nat} (hn : ∀ i, i < 8 → ¬ isOwn V c i) : own V c = none := find_none (fun i hi => decide_eq_false (hn i hi))
theorem own_of {V : Nat → Nat} {c j : Nat} (h : own V c = some j) : j < 8 ∧ isOwn V c j := by
  unfold own at h
  rw [List.find?_range_eq_some] at h
  exact ⟨List.mem_range.mp h.2.1, of_decide_eq_true h.1⟩
theorem own_no {V : Nat → Nat} {c : Nat} (h : own V c = none) : ∀ j, j < 8 → ¬ isOwn V c j := fun j hj hw => by
  unfold own at h
  rw [List.find?_eq_none] at h
  exact h j (List.mem_range.mpr hj) (decide_eq_true hw)
theorem ce_pos {V : Nat → Nat} {j : Nat} (h : WFj V j) (h1 : V (10 * j) = 1) : 9 ≤ ce V j := by
  obtain ⟨a1, a2, -⟩ := h.2.2.2.2.2.2.2.2 h1
  have hb : 1 ≤ bl V j := by unfold bl; omega
  have hs : 9 ≤ sz V j := by unfold sz; omega
  unfold ce
  exact Nat.le_trans hs (Nat.le_mul_of_pos_left _ hb)
section
variable {G : gG} {d n : Nat} {I : Nat → Nat → Int32} {L : Nat → Nat → Int64} {D : Nat → Nat → UInt64} {V : Nat → Nat}
theorem m_X3_isFileN (hV : Vok I V) (hW : WF V) {j : Nat} (hj : j < 8) : gFn G YX3_isFile (d + 1) [.ref 114, .int (nI j)] (hp n I L D) (.inl (some (.int (bI (V (10 * j) = 1))))) (hp n I L D) 0 0 := by
  rw [← bI_congr (isFi_n hj)]
  exact m_X3_isFile hV hW
theorem l_X3_ownerOf (hV : Vok I V) (hW : WF V) {c : Nat} (hc : c < 240) (f : Nat) (hf : f ≤ 8) (hn : ∀ i, i < f → ¬ isOwn V c i) : gGo G YX3_ownerOf (d + 3) 2 [some (.ref 114), some (.int (nI c)), some (.int (nI f))] [] (hp n I L D) 0 0 (fun o g => o = .inl (some (.int (ownI V c))) ∧ g = hp n I L D) := by
  induction hk : 8 - f using Nat.strongRecOn generalizing f with
  | _ k ih =>
    refine g_iload_n (pc := 2) dX3_ownerOf_2 rfl rfl ?_
    refine g_bipush (v := nI 8) (pc := 3) dX3_ownerOf_3 rfl ?_
    refine g_icmp_geN (tgt := 51) (pc := 5) dX3_ownerOf_5 (by decide) (by omega) (by omega) (fun c5 => ?_) (fun c5 => ?_)
    · rw [show ownI V c = -1 from by unfold ownI; rw [own_none (fun i hi => hn i (by omega))]]
      refine g_iconst (v := (-1)) (pc := 51) dX3_ownerOf_51 rfl ?_
      refine g_iret (pc := 52) dX3_ownerOf_52 rfl rfl ?_
      first | exact ⟨rfl, rfl⟩ | exact ⟨by rw [bI_t (by first | assumption | omega)], rfl⟩ | exact ⟨by rw [bI_f (by first | assumption | omega)], rfl⟩
    · have hj : f < 8 := by omega
      have hw := hW.1 f hj
      have hnext : ∀ (hno : ¬ isOwn V c f) (i : Nat), i < f + 1 → ¬ isOwn V c i := fun hno i hi => (Nat.lt_succ_iff_lt_or_eq.mp hi).elim (hn i) (fun e => by rw [e]; exact hno)
      refine g_aload_n (pc := 8) dX3_ownerOf_8 rfl rfl ?_
      refine g_iload_n (pc := 9) dX3_ownerOf_9 rfl rfl ?_
      refine g_fV (av := [.int _]) (pc := 10) dX3_ownerOf_10 mt_X3_isFile lk_X3_87 im_X3_isFile se_X3_isFile np_X3_isFile s_114 (by decide) (by decide) rfl (gc_i gc_0) (Nat.le_of_ble_eq_true rfl) (Nat.le_of_ble_eq_true rfl) ⟨Nat.zero_le _, Nat.zero_le _⟩ (m_X3_isFileN hV hW hj) ?_
      refine g_if_eqB (tgt := 45) (pc := 13) dX3_ownerOf_13 (by decide) (fun c13 => ?_) (fun c13 => ?_)
      · refine g_iincN (pc := 45) dX3_ownerOf_45 (Nat.le_of_ble_eq_true rfl) rfl rfl ?_
        refine g_goto (tgt := 2) (pc := 48) dX3_ownerOf_48 (by decide) ?_
        exact ih (8 - (f + 1)) (by omega) (f + 1) (by omega) (hnext (fun q => by first | exact c13 q.1 | exact c40 ⟨q.2.1, by have := q.2.2; omega⟩)) rfl
      · have hcp := ce_pos hw c13
        have hcl := ce_le hw
        have h5 := hw.2.2.2.2.2.1
        refine g_iload_n (pc := 16) dX3_ownerOf_16 rfl rfl ?_
        refine g_aload_n (pc := 17) dX3_ownerOf_17 rfl rfl ?_
        refine g_iload_n (pc := 18) dX3_ownerOf_18 rfl rfl ?_
        refine g_iconst (v := nI 5) (pc := 19) dX3_ownerOf_19 rfl ?_
        refine g_fV (av := [.int _, .int _]) (pc := 20) dX3_ownerOf_20 mt_X3_of lk_X3_77 im_X3_of se_X3_of np_X3_of s_114 (by decide) (by decide) rfl (gc_i (gc_i gc_0)) (Nat.le_of_ble_eq_true rfl) (Nat.le_of_ble_eq_true rfl) ⟨Nat.zero_le _, Nat.zero_le _⟩ (m_X3_of hV (j := f) (w := 5) hj (by decide)) ?_
        refine g_aload_n (pc := 23) dX3_ownerOf_23 rfl rfl ?_
        refine g_iload_n (pc := 24) dX3_ownerOf_24 rfl rfl ?_
        refine g_iconst (v := nI 5) (pc := 25) dX3_ownerOf_25 rfl ?_
        refine g_fV (av := [.int _, .int _]) (pc := 26) dX3_ownerOf_26 mt_X3_of lk_X3_77 im_X3_of se_X3_of np_X3_of s_114 (by decide) (by decide) rfl (gc_i (gc_i gc_0)) (Nat.le_of_ble_eq_true rfl) (Nat.le_of_ble_eq_true rfl) ⟨Nat.zero_le _, Nat.zero_le _⟩ (m_X3_of hV (j := f) (w := 5) hj (by decide)) ?_
        refine g_aload_n (pc := 29) dX3_ownerOf_29 rfl rfl ?_
        refine g_iload_n (pc := 30) dX3_ownerOf_30 rfl rfl ?_
        refine g_fV (av := [.int _]) (pc := 31) dX3_ownerOf_31 mt_X3_cells lk_X3_91 im_X3_cells se_X3_cells np_X3_cells s_114 (by decide) (by decide) rfl (gc_i gc_0) (Nat.le_of_ble_eq_true rfl) (Nat.le_of_ble_eq_true rfl) ⟨Nat.zero_le _, Nat.zero_le _⟩ (m_X3_cells hV hW hj) ?_
        refine g_iaddN (pc := 34) dX3_ownerOf_34 ?_
        refine g_iconst (v := nI 1) (pc := 35) dX3_ownerOf_35 rfl ?_
        refine g_isubN (pc := 36) dX3_ownerOf_36 (by omega) ?_
        refine g_fS (av := [.int _, .int _, .int _]) (pc := 37) dX3_ownerOf_37 mt_X3_isIn lk_X3_73 sf_X3_isIn np_X3_isIn rfl (gc_i (gc_i (gc_i gc_0))) (Nat.le_of_ble_eq_true rfl) (Nat.le_of_ble_eq_true rfl) ⟨Nat.zero_le _, Nat.zero_le _⟩ (m_X3_isInN (by omega) (by omega) (by omega)) ?_
        refine g_if_eqB (tgt := 45) (pc := 40) dX3_ownerOf_40 (by decide) (fun c40 => ?_) (fun c40 => ?_)
        · refine g_iincN (pc := 45) dX3_ownerOf_45 (Nat.le_of_ble_eq_true rfl) rfl rfl ?_
          refine g_goto (tgt := 2) (pc := 48) dX3_ownerOf_48 (by decide) ?_
          exact ih (8 - (f + 1)) (by omega) (f + 1) (by omega) (hnext (fun q => by first | exact c13 q.1 | exact c40 ⟨q.2.1, by have := q.2.2; omega⟩)) rfl
        · have ho : isOwn V c f := ⟨c13, by omega, by omega⟩
          rw [show ownI V c = nI f from by unfold ownI; rw [own_some hj ho hn]]
          refine g_iload_n (pc := 43) dX3_ownerOf_43 rfl rfl ?_
          refine g_iret (pc := 44) dX3_ownerOf_44 rfl rfl ?_
          first | exact ⟨rfl, rfl⟩ | exact ⟨by rw [bI_t (by first | assumption | omega)], rfl⟩ | exact ⟨by rw [bI_f (by first | assumption | omega)], rfl⟩
theorem m_X3_ownerOf (hV : Vok I V) (hW : WF V) {c : Nat} (hc : c < 240) : gFn G YX3_ownerOf (d + 3) [.ref 114, .int (nI c)] (hp n I L D) (.inl (some (.int (ownI V c)))) (hp n I L D) 0 0 := by
  refine g_iconst (v := nI 0) (pc := 0) dX3_ownerOf_0 rfl ?_
  refine g_istore_n (pc := 1) dX3_ownerOf_1 rfl (Nat.le_of_ble_eq_true rfl) rfl ?_
  exact l_X3_ownerOf hV hW hc 0 (by omega) (fun i hi => absurd hi (Nat.not_lt_zero i))
end

