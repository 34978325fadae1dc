/-! ===== places in an area ===== -/
def pF (dp s off : Nat) : Nat := off / (dp * s) * dp
def pG (dp bl fi : Nat) : Nat := if dp ≤ bl - fi then dp else bl - fi
theorem pG_le {dp bl fi : Nat} : pG dp bl fi ≤ dp ∧ pG dp bl fi ≤ bl - fi := by unfold pG; split <;> omega
theorem geo1 {dp s bl b i fi gr off : Nat} (hd : 1 ≤ dp) (hb : b < bl) (hi : i < s) (hf : fi = b / dp * dp) (hg : gr = pG dp bl fi) (ho : off = fi * s + i * gr + (b - fi)) :
    off < bl * s ∧ pF dp s off = fi ∧ fi + (off - fi * s) % gr = b ∧ (off - fi * s) / gr = i := by
  have h1 : fi ≤ b := by rw [hf]; exact Nat.div_mul_le_self _ _
  have h2 : b < fi + dp := by rw [hf]; exact Nat.lt_div_mul_add hd
  have hgl := pG_le (dp := dp) (bl := bl) (fi := fi)
  rw [← hg] at hgl
  have ht : b - fi < gr := by rw [hg]; unfold pG; split <;> omega
  have hi2 : i * gr + (b - fi) < s * gr := by
    have := Nat.mul_le_mul_right gr (show i + 1 ≤ s from hi)
    rw [Nat.add_mul, Nat.one_mul] at this
    omega
  have h3 : fi * s + s * gr ≤ bl * s := by
    rw [Nat.mul_comm s gr, ← Nat.add_mul]
    exact Nat.mul_le_mul_right s (by omega)
  have h4 : s * gr ≤ dp * s := by rw [Nat.mul_comm s gr]; exact Nat.mul_le_mul_right s hgl.1
  have h5 : off / (dp * s) = b / dp := by
    refine Nat.div_eq_of_lt_le ?_ ?_
    · rw [← Nat.mul_assoc, ← hf]; omega
    · rw [Nat.add_mul, Nat.one_mul, ← Nat.mul_assoc, ← hf]; omega
  have h6 : off - fi * s = gr * i + (b - fi) := by rw [Nat.mul_comm gr i]; omega
  refine ⟨by omega, by unfold pF; rw [h5, hf], ?_, ?_⟩
  · rw [h6, Nat.mul_add_mod, Nat.mod_eq_of_lt ht]; omega
  · rw [h6, Nat.mul_add_div (by omega), Nat.div_eq_of_lt ht]; rfl
theorem geo2 {dp s bl b i fi gr off : Nat} (hd : 1 ≤ dp) (hs : 1 ≤ s) (ho : off < bl * s) (hf : fi = pF dp s off) (hg : gr = pG dp bl fi) (hb : b = fi + (off - fi * s) % gr) (hi : i = (off - fi * s) / gr) :
    b < bl ∧ i < s ∧ b / dp * dp = fi ∧ fi * s + i * gr + (b - fi) = off := by
  have hds : 0 < dp * s := Nat.mul_pos hd hs
  have h0 : fi * s = off / (dp * s) * (dp * s) := by rw [hf]; unfold pF; rw [Nat.mul_assoc]
  have h1 : fi * s ≤ off := by rw [h0]; exact Nat.div_mul_le_self _ _
  have h2 : off < fi * s + dp * s := by rw [h0]; exact Nat.lt_div_mul_add hds
  have h3 : fi < bl := by
    rcases Nat.lt_or_ge fi bl with q | q
    · exact q
    · have := Nat.mul_le_mul_right s q
      omega
  have hgl := pG_le (dp := dp) (bl := bl) (fi := fi)
  rw [← hg] at hgl
  have hg1 : 1 ≤ gr := by rw [hg]; unfold pG; split <;> omega
  have h4 : off - fi * s < gr * s := by
    rw [hg]
    unfold pG
    split
    · omega
    · rw [Nat.sub_mul]; omega
  have h5 : (off - fi * s) % gr < gr := Nat.mod_lt _ hg1
  refine ⟨by omega, ?_, ?_, ?_⟩
  · rw [hi]; exact Nat.div_lt_of_lt_mul h4
  · have : b / dp = off / (dp * s) := by
      have e : fi = dp * (off / (dp * s)) := by rw [hf]; unfold pF; exact Nat.mul_comm _ _
      rw [hb, e, Nat.mul_add_div hd, ← e, Nat.div_eq_of_lt (show (off - fi * s) % gr < dp by omega)]
      rfl
    rw [this, hf]; rfl
  · have := Nat.mod_add_div (off - fi * s) gr
    rw [hi, hb, Nat.mul_comm ((off - fi * s) / gr) gr]
    omega
def plF (V : Nat → Nat) (j c : Nat) : Nat := pF (V (10 * j + 3)) (sz V j) (c - V (10 * j + 5))
def plG (V : Nat → Nat) (j c : Nat) : Nat := pG (V (10 * j + 3)) (bl V j) (plF V j c)
def plB (V : Nat → Nat) (j c : Nat) : Nat := plF V j c + (c - V (10 * j + 5) - plF V j c * sz V j) % plG V j c
def plI (V : Nat → Nat) (j c : Nat) : Nat := (c - V (10 * j + 5) - plF V j c * sz V j) / plG V j c
theorem cellN_off {V : Nat → Nat} {j b i : Nat} : cellN V j b i = V (10 * j + 5) + (fiN V j b * sz V j + i * pG (V (10 * j + 3)) (bl V j) (fiN V j b) + (b - fiN V j b)) := by
  have := fiN_le (V := V) (j := j) (b := b)
  have e : grN V j b = pG (V (10 * j + 3)) (bl V j) (fiN V j b) := rfl
  unfold cellN
  rw [e]
  omega
theorem geo_pl {V : Nat → Nat} {j b i : Nat} (hw : WFj V j) (h1 : V (10 * j) = 1) (hb : b < bl V j) (hi : i < sz V j) : (V (10 * j + 5) ≤ cellN V j b i ∧ cellN V j b i < V (10 * j + 5) + ce V j) ∧ plB V j (cellN V j b i) = b ∧ plI V j (cellN V j b i) = i := by
  have h3 := (hw.2.2.2.2.2.2.2.2 h1).2.2.1
  have e := cellN_off (V := V) (j := j) (b := b) (i := i)
  obtain ⟨g1, g2, g3, g4⟩ := geo1 (fi := fiN V j b) (gr := pG (V (10 * j + 3)) (bl V j) (fiN V j b)) (off := cellN V j b i - V (10 * j + 5)) h3 hb hi rfl rfl (by rw [e]; omega)
  refine ⟨⟨by rw [e]; omega, by unfold ce; omega⟩, ?_, ?_⟩
  · unfold plB plG plF; rw [g2]; exact g3
  · unfold plI plG plF; rw [g2]; exact g4
theorem geo_ex {V : Nat → Nat} {j c : Nat} (hw : WFj V j) (h1 : V (10 * j) = 1) (hc : V (10 * j + 5) ≤ c ∧ c < V (10 * j + 5) + ce V j) : plB V j c < bl V j ∧ plI V j c < sz V j ∧ cellN V j (plB V j c) (plI V j c) = c := by
  have h3 := (hw.2.2.2.2.2.2.2.2 h1).2.2.1
  have hs := (sz_le hw).2
  obtain ⟨g1, g2, g3, g4⟩ := geo2 (b := plB V j c) (i := plI V j c) (fi := plF V j c) (gr := plG V j c) (off := c - V (10 * j + 5)) h3 (by omega) (show c - V (10 * j + 5) < bl V j * sz V j by unfold ce at hc; omega) rfl rfl rfl rfl
  refine ⟨g1, g2, ?_⟩
  have e : fiN V j (plB V j c) = plF V j c := g3
  rw [cellN_off, e]
  have e2 : pG (V (10 * j + 3)) (bl V j) (plF V j c) = plG V j c := rfl
  rw [e2, g4]
  omega
theorem cellN_lt {V : Nat → Nat} {j b i : Nat} (hw : WFj V j) (h1 : V (10 * j) = 1) (hb : b < bl V j) (hi : i < sz V j) : cellN V j b i < 240 := by
  have := (geo_pl hw h1 hb hi).1
  have := (hw.2.2.2.2.2.2.2.2 h1).2.2.2
  omega
/-- how many places of a block lie in a burst -/
def ovB (V : Nat → Nat) (j fr ln b : Nat) : Nat → Nat := cnt (fun i => decide (fr ≤ cellN V j b i ∧ cellN V j b i < fr + ln))
def isSt (V : Nat → Nat) (j fr ln : Nat) : Prop := ∀ b, b < bl V j → ovB V j fr ln b (sz V j) ≤ V (10 * j + 2)
/-- how long bursts can be that always stand -/
def isBL (V : Nat → Nat) (j r : Nat) : Prop := r ≤ ce V j ∧ (∀ ln, 1 ≤ ln → ln ≤ r → ∀ fr, V (10 * j + 5) ≤ fr → fr + ln ≤ V (10 * j + 5) + ce V j → isSt V j fr ln) ∧ (r < ce V j → ∃ fr, V (10 * j + 5) ≤ fr ∧ fr + (r + 1) ≤ V (10 * j + 5) + ce V j ∧ ¬ isSt V j fr (r + 1))
theorem isBL_one {V : Nat → Nat} {j r s : Nat} (h : isBL V j r) (k : isBL V j s) : r = s := by
  rcases Nat.lt_trichotomy r s with q | q | q
  · obtain ⟨fr, a, b, c⟩ := h.2.2 (by have := k.1; omega)
    exact absurd (k.2.1 (r + 1) (by omega) (by omega) fr a b) c
  · exact q
  · obtain ⟨fr, a, b, c⟩ := k.2.2 (by have := h.1; omega)
    exact absurd (h.2.1 (s + 1) (by omega) (by omega) fr a b) c
section
variable {G : gG} {d n : Nat} {I : Nat → Nat → Int32} {L : Nat → Nat → Int64} {D : Nat → Nat → UInt64} {V : Nat → Nat}
theorem m_X3_placeOf_1 {c : Int32} (hc : ¬ (nI 0 ≤ c ∧ c ≤ nI 239)) : gFn G YX3_placeOf (d + 4) [.ref 114, .int c] (hp n I L D) (.inl (some (.int (nI 0)))) (hp n (gUp I 114 0 (nI 1)) L D) 0 0 := by
  refine g_aload_n (pc := 0) dX3_placeOf_0 rfl rfl ?_
  refine g_iload_n (pc := 1) dX3_placeOf_1 rfl rfl ?_
  refine g_fV (av := [.int _]) (pc := 2) dX3_placeOf_2 mt_X3_isCell lk_X3_160 im_X3_isCell se_X3_isCell np_X3_isCell s_114 (by decide) (by decide) rfl (gc_i gc_0) (Nat.le_of_ble_eq_true rfl) (Nat.le_of_ble_eq_true rfl) ⟨Nat.zero_le _, Nat.zero_le _⟩ (m_X3_isCell_f hc) ?_
  refine g_if_neN (tgt := 10) (pc := 5) dX3_placeOf_5 (by decide) (by omega) (fun c5 => ?_) (fun c5 => ?_)
  · exact absurd c5 (by decide)
  · refine g_iconst (v := nI 0) (pc := 8) dX3_placeOf_8 rfl ?_
    refine g_iret (pc := 9) dX3_placeOf_9 rfl rfl ?_
    first | exact ⟨rfl, rfl⟩ | exact ⟨by rw [bI_t (by first | assumption | omega)], rfl⟩ | exact ⟨by rw [bI_f (by first | assumption | omega)], rfl⟩
theorem m_X3_placeOf_2 (hV : Vok I V) (hW : WF V) {c : Nat} (hc : c < 240) (ho : own V c = none) : gFn G YX3_placeOf (d + 4) [.ref 114, .int (nI c)] (hp n I L D) (.inl (some (.int (nI 0)))) (hp n (gUp (gUp I 114 0 (nI 0)) 114 0 (nI 2)) L D) 0 0 := by
  refine g_aload_n (pc := 0) dX3_placeOf_0 rfl rfl ?_
  refine g_iload_n (pc := 1) dX3_placeOf_1 rfl rfl ?_
  refine g_fV (av := [.int _]) (pc := 2) dX3_placeOf_2 mt_X3_isCell lk_X3_160 im_X3_isCell se_X3_isCell np_X3_isCell s_114 (by decide) (by decide) rfl (gc_i gc_0) (Nat.le_of_ble_eq_true rfl) (Nat.le_of_ble_eq_true rfl) ⟨Nat.zero_le _, Nat.zero_le _⟩ (m_X3_isCell_t hc) ?_
  refine g_if_neN (tgt := 10) (pc := 5) dX3_placeOf_5 (by decide) (by omega) (fun c5 => ?_) (fun c5 => ?_)
  rotate_left
  · exact absurd c5 (by decide)
  refine g_aload_n (pc := 10) dX3_placeOf_10 rfl rfl ?_
  refine g_iload_n (pc := 11) dX3_placeOf_11 rfl rfl ?_
  refine g_fV (av := [.int _]) (pc := 12) dX3_placeOf_12 mt_X3_ownerOf lk_X3_111 im_X3_ownerOf se_X3_ownerOf np_X3_ownerOf s_114 (by decide) (by decide) rfl (gc_i gc_0) (Nat.le_of_ble_eq_true rfl) (Nat.le_of_ble_eq_true rfl) ⟨Nat.zero_le _, Nat.zero_le _⟩ (m_X3_ownerOf hV.f hW hc) ?_
  refine g_istore_n (pc := 15) dX3_placeOf_15 rfl (Nat.le_of_ble_eq_true rfl) rfl ?_
  refine g_iload_n (pc := 16) dX3_placeOf_16 rfl rfl ?_
  refine g_if_ge (tgt := 26) (pc := 17) dX3_placeOf_17 (by decide) (fun c17 => ?_) (fun c17 => ?_)
  · exact absurd ho (ownI_ge.mp c17)
  · refine g_aload_n (pc := 20) dX3_placeOf_20 rfl rfl ?_
    refine g_iconst (v := nI 2) (pc := 21) dX3_placeOf_21 rfl ?_
    refine g_fV (av := [.int _]) (pc := 22) dX3_placeOf_22 mt_X3_no lk_X3_124 im_X3_no se_X3_no np_X3_no s_114 (by decide) (by decide) rfl (gc_i gc_0) (Nat.le_of_ble_eq_true rfl) (Nat.le_of_ble_eq_true rfl) ⟨Nat.zero_le _, Nat.zero_le _⟩ (m_X3_no) ?_
    refine g_iret (pc := 25) dX3_placeOf_25 rfl rfl ?_
    first | exact ⟨rfl, rfl⟩ | exact ⟨by rw [bI_t (by first | assumption | omega)], rfl⟩ | exact ⟨by rw [bI_f (by first | assumption | omega)], rfl⟩
theorem m_X3_placeOf_0 (hV : Vok I V) (hW : WF V) {c j : Nat} (hc : c < 240) (ho : own V c = some j) : gFn G YX3_placeOf (d + 4) [.ref 114, .int (nI c)] (hp n I L D) (.inl (some (.int (nI (100 * plB V j c + plI V j c))))) (hp n (gUp I 114 0 (nI 0)) L D) 0 0 := by
  obtain ⟨hj, h1, hw1, hw2⟩ := own_of ho
  have hw := hW.1 j hj
  obtain ⟨x1, x2, x3⟩ := geo_ex hw h1 ⟨hw1, hw2⟩
  have hbl := bl_le hw
  have hsz := sz_le hw
  refine g_aload_n (pc := 0) dX3_placeOf_0 rfl rfl ?_
  refine g_iload_n (pc := 1) dX3_placeOf_1 rfl rfl ?_
  refine g_fV (av := [.int _]) (pc := 2) dX3_placeOf_2 mt_X3_isCell lk_X3_160 im_X3_isCell se_X3_isCell np_X3_isCell s_114 (by decide) (by decide) rfl (gc_i gc_0) (Nat.le_of_ble_eq_true rfl) (Nat.le_of_ble_eq_true rfl) ⟨Nat.zero_le _, Nat.zero_le _⟩ (m_X3_isCell_t hc) ?_
  refine g_if_neN (tgt := 10) (pc := 5) dX3_placeOf_5 (by decide) (by omega) (fun c5 => ?_) (fun c5 => ?_)
  rotate_left
  · exact absurd c5 (by decide)
  refine g_aload_n (pc := 10) dX3_placeOf_10 rfl rfl ?_
  refine g_iload_n (pc := 11) dX3_placeOf_11 rfl rfl ?_
  refine g_fV (av := [.int _]) (pc := 12) dX3_placeOf_12 mt_X3_ownerOf lk_X3_111 im_X3_ownerOf se_X3_ownerOf np_X3_ownerOf s_114 (by decide) (by decide) rfl (gc_i gc_0) (Nat.le_of_ble_eq_true rfl) (Nat.le_of_ble_eq_true rfl) ⟨Nat.zero_le _, Nat.zero_le _⟩ (m_X3_ownerOf hV.f hW hc) ?_
  rw [ownI_some ho]
  refine g_istore_n (pc := 15) dX3_placeOf_15 rfl (Nat.le_of_ble_eq_true rfl) rfl ?_
  refine g_iload_n (pc := 16) dX3_placeOf_16 rfl rfl ?_
  refine g_if_geN (tgt := 26) (pc := 17) dX3_placeOf_17 (by decide) (by omega) (fun c17 => ?_) (fun c17 => ?_)
  rotate_left
  · omega
  refine g_iconst (v := nI 0) (pc := 26) dX3_placeOf_26 rfl ?_
  refine g_istore_n (pc := 27) dX3_placeOf_27 rfl (Nat.le_of_ble_eq_true rfl) rfl ?_
  refine g_loop (bl V j) (fun k (_ : Unit) => k ≤ plB V j c) (fun k _ => [some (.ref 114), some (.int (nI c)), some (.int (nI j)), some (.int (nI k)), none]) (fun _ => hp n (gUp I 114 0 (nI 0)) L D) (fun b _ hb hbi kn => ?_) (fun _ hbi => ?_) 0 () (Nat.zero_le _) (Nat.zero_le _)
  · skip
    refine g_iload_n (pc := 28) dX3_placeOf_28 rfl rfl ?_
    refine g_aload_n (pc := 29) dX3_placeOf_29 rfl rfl ?_
    refine g_iload_n (pc := 30) dX3_placeOf_30 rfl rfl ?_
    refine g_fV (av := [.int _]) (pc := 31) dX3_placeOf_31 mt_X3_blocks lk_X3_80 im_X3_blocks se_X3_blocks np_X3_blocks s_114 (by decide) (by decide) rfl (gc_i gc_0) (Nat.le_of_ble_eq_true rfl) (Nat.le_of_ble_eq_true rfl) ⟨Nat.zero_le _, Nat.zero_le _⟩ (m_X3_blocks hV.f hW hj) ?_
    refine g_icmp_geN (tgt := 82) (pc := 34) dX3_placeOf_34 (by decide) (by omega) (by omega) (fun c34 => ?_) (fun c34 => ?_)
    · omega
    refine g_iconst (v := nI 0) (pc := 37) dX3_placeOf_37 rfl ?_
    refine g_istore (pc := 38) dX3_placeOf_38 (Nat.le_of_ble_eq_true rfl) rfl ?_
    refine g_loop (sz V j) (fun k (_ : Unit) => b < plB V j c ∨ (b = plB V j c ∧ k ≤ plI V j c)) (fun k _ => [some (.ref 114), some (.int (nI c)), some (.int (nI j)), some (.int (nI b)), some (.int (nI k))]) (fun _ => hp n (gUp I 114 0 (nI 0)) L D) (fun i _ hi hii kb => ?_) (fun _ hii => ?_) 0 () (Nat.zero_le _) (by omega)
    · have hcl := cellN_lt hw h1 hb hi
      have hgp := (geo_pl hw h1 hb hi).2
      refine g_iload (pc := 40) dX3_placeOf_40 rfl ?_
      refine g_aload_n (pc := 42) dX3_placeOf_42 rfl rfl ?_
      refine g_iload_n (pc := 43) dX3_placeOf_43 rfl rfl ?_
      refine g_fV (av := [.int _]) (pc := 44) dX3_placeOf_44 mt_X3_size lk_X3_84 im_X3_size se_X3_size np_X3_size s_114 (by decide) (by decide) rfl (gc_i gc_0) (Nat.le_of_ble_eq_true rfl) (Nat.le_of_ble_eq_true rfl) ⟨Nat.zero_le _, Nat.zero_le _⟩ (m_X3_size hV.f hj) ?_
      refine g_icmp_geN (tgt := 76) (pc := 47) dX3_placeOf_47 (by decide) (by omega) (by omega) (fun c47 => ?_) (fun c47 => ?_)
      · omega
      refine g_aload_n (pc := 50) dX3_placeOf_50 rfl rfl ?_
      refine g_iload_n (pc := 51) dX3_placeOf_51 rfl rfl ?_
      refine g_iload_n (pc := 52) dX3_placeOf_52 rfl rfl ?_
      refine g_iload (pc := 53) dX3_placeOf_53 rfl ?_
      refine g_fV (av := [.int _, .int _, .int _]) (pc := 55) dX3_placeOf_55 mt_X3_cell lk_X3_145 im_X3_cell se_X3_cell np_X3_cell s_114 (by decide) (by decide) rfl (gc_i (gc_i (gc_i gc_0))) (Nat.le_of_ble_eq_true rfl) (Nat.le_of_ble_eq_true rfl) ⟨Nat.zero_le _, Nat.zero_le _⟩ (m_X3_cell hV.f hW hj h1 hb) ?_
      refine g_iload_n (pc := 58) dX3_placeOf_58 rfl rfl ?_
      refine g_icmp_neN (tgt := 70) (pc := 59) dX3_placeOf_59 (by decide) (by omega) (by omega) (fun c59 => ?_) (fun c59 => ?_)
      · refine g_iincN (pc := 70) dX3_placeOf_70 (Nat.le_of_ble_eq_true rfl) rfl rfl ?_
        refine g_goto (tgt := 40) (pc := 73) dX3_placeOf_73 (by decide) ?_
        refine kb () ?_
        rcases hii with q | ⟨q1, q2⟩
        · exact Or.inl q
        · rcases Nat.lt_or_ge i (plI V j c) with z | z
          · exact Or.inr ⟨q1, z⟩
          · have z2 : i = plI V j c := by omega
            rw [z2, q1] at c59
            exact absurd x3 c59
      · rw [c59] at hgp
        rw [hgp.1, hgp.2]
        refine g_bipush (v := nI 100) (pc := 62) dX3_placeOf_62 rfl ?_
        refine g_iload_n (pc := 64) dX3_placeOf_64 rfl rfl ?_
        refine g_imulN (pc := 65) dX3_placeOf_65 ?_
        refine g_iload (pc := 66) dX3_placeOf_66 rfl ?_
        refine g_iaddN (pc := 68) dX3_placeOf_68 ?_
        refine g_iret (pc := 69) dX3_placeOf_69 rfl rfl ?_
        first | exact ⟨rfl, rfl⟩ | exact ⟨by rw [bI_t (by first | assumption | omega)], rfl⟩ | exact ⟨by rw [bI_f (by first | assumption | omega)], rfl⟩
    · skip
      refine g_iload (pc := 40) dX3_placeOf_40 rfl ?_
      refine g_aload_n (pc := 42) dX3_placeOf_42 rfl rfl ?_
      refine g_iload_n (pc := 43) dX3_placeOf_43 rfl rfl ?_
      refine g_fV (av := [.int _]) (pc := 44) dX3_placeOf_44 mt_X3_size lk_X3_84 im_X3_size se_X3_size np_X3_size s_114 (by decide) (by decide) rfl (gc_i gc_0) (Nat.le_of_ble_eq_true rfl) (Nat.le_of_ble_eq_true rfl) ⟨Nat.zero_le _, Nat.zero_le _⟩ (m_X3_size hV.f hj) ?_
      refine g_icmp_geN (tgt := 76) (pc := 47) dX3_placeOf_47 (by decide) (by omega) (by omega) (fun c47 => ?_) (fun c47 => ?_)
      rotate_left
      · omega
      refine g_iincN (pc := 76) dX3_placeOf_76 (Nat.le_of_ble_eq_true rfl) rfl rfl ?_
      refine g_goto (tgt := 28) (pc := 79) dX3_placeOf_79 (by decide) ?_
      refine g_fg 4 ?_
      exact kn () (by omega)
  · exact absurd hbi (by omega)
theorem m_X3_isStood (hV : Vok I V) (hW : WF V) {j fr ln : Nat} (hj : j < 8) (h1 : V (10 * j) = 1) (hf : fr + ln ≤ 240) (hl : 1 ≤ ln) : gRi G YX3_isStood (d + 3) [.ref 114, .int (nI j), .int (nI fr), .int (nI ln)] n I L D (fun v J => ((v = nI 1 ∧ isSt V j fr ln) ∨ (v = nI 0 ∧ ¬ isSt V j fr ln)) ∧ J = I) := by
  have hw := hW.1 j hj
  have hbl := bl_le hw
  have hsz := sz_le hw
  have h62 := hw.2.2.1
  refine g_iconst (v := nI 0) (pc := 0) dX3_isStood_0 rfl ?_
  refine g_istore (pc := 1) dX3_isStood_1 (Nat.le_of_ble_eq_true rfl) rfl ?_
  refine g_loop (bl V j) (fun k (_ : Unit) => ∀ b, b < k → ovB V j fr ln b (sz V j) ≤ V (10 * j + 2)) (fun k _ => [some (.ref 114), some (.int (nI j)), some (.int (nI fr)), some (.int (nI ln)), some (.int (nI k)), none, none]) (fun _ => hp n I L D) (fun b _ hb hbi kn => ?_) (fun _ hbi => ?_) 0 () (Nat.zero_le _) (fun b hb => absurd hb (Nat.not_lt_zero b))
  · skip
    refine g_iload (pc := 3) dX3_isStood_3 rfl ?_
    refine g_aload_n (pc := 5) dX3_isStood_5 rfl rfl ?_
    refine g_iload_n (pc := 6) dX3_isStood_6 rfl rfl ?_
    refine g_fV (av := [.int _]) (pc := 7) dX3_isStood_7 mt_X3_blocks lk_X3_80 im_X3_blocks se_X3_blocks np_X3_blocks s_114 (by decide) (by decide) rfl (gc_i gc_0) (Nat.le_of_ble_eq_true rfl) (Nat.le_of_ble_eq_true rfl) ⟨Nat.zero_le _, Nat.zero_le _⟩ (m_X3_blocks hV hW hj) ?_
    refine g_icmp_geN (tgt := 85) (pc := 10) dX3_isStood_10 (by decide) (by omega) (by omega) (fun c10 => ?_) (fun c10 => ?_)
    · omega
    refine g_iconst (v := nI 0) (pc := 13) dX3_isStood_13 rfl ?_
    refine g_istore (pc := 14) dX3_isStood_14 (Nat.le_of_ble_eq_true rfl) rfl ?_
    refine g_iconst (v := nI 0) (pc := 16) dX3_isStood_16 rfl ?_
    refine g_istore (pc := 17) dX3_isStood_17 (Nat.le_of_ble_eq_true rfl) rfl ?_
    refine g_loop (sz V j) (fun k (_ : Unit) => True) (fun k _ => [some (.ref 114), some (.int (nI j)), some (.int (nI fr)), some (.int (nI ln)), some (.int (nI b)), some (.int (nI (ovB V j fr ln b k))), some (.int (nI k))]) (fun _ => hp n I L D) (fun i _ hi hii kb => ?_) (fun _ hii => ?_) 0 () (Nat.zero_le _) trivial
    · have hcl := cellN_lt hw h1 hb hi
      refine g_iload (pc := 19) dX3_isStood_19 rfl ?_
      refine g_aload_n (pc := 21) dX3_isStood_21 rfl rfl ?_
      refine g_iload_n (pc := 22) dX3_isStood_22 rfl rfl ?_
      refine g_fV (av := [.int _]) (pc := 23) dX3_isStood_23 mt_X3_size lk_X3_84 im_X3_size se_X3_size np_X3_size s_114 (by decide) (by decide) rfl (gc_i gc_0) (Nat.le_of_ble_eq_true rfl) (Nat.le_of_ble_eq_true rfl) ⟨Nat.zero_le _, Nat.zero_le _⟩ (m_X3_size hV hj) ?_
      refine g_icmp_geN (tgt := 66) (pc := 26) dX3_isStood_26 (by decide) (by omega) (by omega) (fun c26 => ?_) (fun c26 => ?_)
      · omega
      refine g_iload (pc := 29) dX3_isStood_29 rfl ?_
      refine g_aload_n (pc := 31) dX3_isStood_31 rfl rfl ?_
      refine g_iload_n (pc := 32) dX3_isStood_32 rfl rfl ?_
      refine g_iload (pc := 33) dX3_isStood_33 rfl ?_
      refine g_iload (pc := 35) dX3_isStood_35 rfl ?_
      refine g_fV (av := [.int _, .int _, .int _]) (pc := 37) dX3_isStood_37 mt_X3_cell lk_X3_145 im_X3_cell se_X3_cell np_X3_cell s_114 (by decide) (by decide) rfl (gc_i (gc_i (gc_i gc_0))) (Nat.le_of_ble_eq_true rfl) (Nat.le_of_ble_eq_true rfl) ⟨Nat.zero_le _, Nat.zero_le _⟩ (m_X3_cell hV hW hj h1 hb) ?_
      refine g_iload_n (pc := 40) dX3_isStood_40 rfl rfl ?_
      refine g_iload_n (pc := 41) dX3_isStood_41 rfl rfl ?_
      refine g_iload_n (pc := 42) dX3_isStood_42 rfl rfl ?_
      refine g_iaddN (pc := 43) dX3_isStood_43 ?_
      refine g_iconst (v := nI 1) (pc := 44) dX3_isStood_44 rfl ?_
      refine g_isubN (pc := 45) dX3_isStood_45 (by omega) ?_
      refine g_fS (av := [.int _, .int _, .int _]) (pc := 46) dX3_isStood_46 mt_X3_isIn lk_X3_73 sf_X3_isIn np_X3_isIn rfl (gc_i (gc_i (gc_i gc_0))) (Nat.le_of_ble_eq_true rfl) (Nat.le_of_ble_eq_true rfl) ⟨Nat.zero_le _, Nat.zero_le _⟩ (m_X3_isInN (by omega) (by omega) (by omega)) ?_
      refine g_if_eqB (tgt := 56) (pc := 49) dX3_isStood_49 (by decide) (fun c49 => ?_) (fun c49 => ?_)
      · have e := cnt_f (p := fun i => decide (fr ≤ cellN V j b i ∧ cellN V j b i < fr + ln)) (c := i) (decide_eq_false (fun q => c49 ⟨q.1, by omega⟩))
        refine g_iconst (v := nI 0) (pc := 56) dX3_isStood_56 rfl ?_
        refine g_iaddN (pc := 57) dX3_isStood_57 ?_
        refine g_istore (pc := 58) dX3_isStood_58 (Nat.le_of_ble_eq_true rfl) rfl ?_
        refine g_iincN (pc := 60) dX3_isStood_60 (Nat.le_of_ble_eq_true rfl) rfl rfl ?_
        refine g_goto (tgt := 19) (pc := 63) dX3_isStood_63 (by decide) ?_
        have e2 : ovB V j fr ln b (i + 1) = _ := e
        have kb2 := kb () trivial
        rw [e2] at kb2
        exact kb2
      · have e := cnt_t (p := fun i => decide (fr ≤ cellN V j b i ∧ cellN V j b i < fr + ln)) (c := i) (decide_eq_true ⟨c49.1, by have := c49.2; omega⟩)
        refine g_iconst (v := nI 1) (pc := 52) dX3_isStood_52 rfl ?_
        refine g_goto (tgt := 57) (pc := 53) dX3_isStood_53 (by decide) ?_
        refine g_iaddN (pc := 57) dX3_isStood_57 ?_
        refine g_istore (pc := 58) dX3_isStood_58 (Nat.le_of_ble_eq_true rfl) rfl ?_
        refine g_iincN (pc := 60) dX3_isStood_60 (Nat.le_of_ble_eq_true rfl) rfl rfl ?_
        refine g_goto (tgt := 19) (pc := 63) dX3_isStood_63 (by decide) ?_
        have e2 : ovB V j fr ln b (i + 1) = _ := e
        have kb2 := kb () trivial
        rw [e2] at kb2
        exact kb2
    · have hcn : ovB V j fr ln b (sz V j) ≤ sz V j := cnt_le _ _
      refine g_iload (pc := 19) dX3_isStood_19 rfl ?_
      refine g_aload_n (pc := 21) dX3_isStood_21 rfl rfl ?_
      refine g_iload_n (pc := 22) dX3_isStood_22 rfl rfl ?_
      refine g_fV (av := [.int _]) (pc := 23) dX3_isStood_23 mt_X3_size lk_X3_84 im_X3_size se_X3_size np_X3_size s_114 (by decide) (by decide) rfl (gc_i gc_0) (Nat.le_of_ble_eq_true rfl) (Nat.le_of_ble_eq_true rfl) ⟨Nat.zero_le _, Nat.zero_le _⟩ (m_X3_size hV hj) ?_
      refine g_icmp_geN (tgt := 66) (pc := 26) dX3_isStood_26 (by decide) (by omega) (by omega) (fun c26 => ?_) (fun c26 => ?_)
      rotate_left
      · omega
      refine g_iload (pc := 66) dX3_isStood_66 rfl ?_
      refine g_aload_n (pc := 68) dX3_isStood_68 rfl rfl ?_
      refine g_iload_n (pc := 69) dX3_isStood_69 rfl rfl ?_
      refine g_iconst (v := nI 2) (pc := 70) dX3_isStood_70 rfl ?_
      refine g_fV (av := [.int _, .int _]) (pc := 71) dX3_isStood_71 mt_X3_of lk_X3_77 im_X3_of se_X3_of np_X3_of s_114 (by decide) (by decide) rfl (gc_i (gc_i gc_0)) (Nat.le_of_ble_eq_true rfl) (Nat.le_of_ble_eq_true rfl) ⟨Nat.zero_le _, Nat.zero_le _⟩ (m_X3_of hV (j := j) (w := 2) hj (by decide)) ?_
      refine g_icmp_leN (tgt := 79) (pc := 74) dX3_isStood_74 (by decide) (by omega) (by omega) (fun c74 => ?_) (fun c74 => ?_)
      · refine g_iincN (pc := 79) dX3_isStood_79 (Nat.le_of_ble_eq_true rfl) rfl rfl ?_
        refine g_goto (tgt := 3) (pc := 82) dX3_isStood_82 (by decide) ?_
        refine g_fg 5 (g_fg 6 ?_)
        refine kn () (fun b2 hb2 => ?_)
        rcases Nat.lt_or_ge b2 b with q | q
        · exact hbi b2 q
        · rw [show b2 = b by omega]; exact c74
      · refine g_iconst (v := nI 0) (pc := 77) dX3_isStood_77 rfl ?_
        refine g_iret (pc := 78) dX3_isStood_78 rfl rfl ?_
        refine ⟨_, _, ⟨rfl, rfl⟩, ?_⟩
        exact ⟨Or.inr ⟨rfl, fun q => c74 (q b hb)⟩, rfl⟩
  · skip
    refine g_iload (pc := 3) dX3_isStood_3 rfl ?_
    refine g_aload_n (pc := 5) dX3_isStood_5 rfl rfl ?_
    refine g_iload_n (pc := 6) dX3_isStood_6 rfl rfl ?_
    refine g_fV (av := [.int _]) (pc := 7) dX3_isStood_7 mt_X3_blocks lk_X3_80 im_X3_blocks se_X3_blocks np_X3_blocks s_114 (by decide) (by decide) rfl (gc_i gc_0) (Nat.le_of_ble_eq_true rfl) (Nat.le_of_ble_eq_true rfl) ⟨Nat.zero_le _, Nat.zero_le _⟩ (m_X3_blocks hV hW hj) ?_
    refine g_icmp_geN (tgt := 85) (pc := 10) dX3_isStood_10 (by decide) (by omega) (by omega) (fun c10 => ?_) (fun c10 => ?_)
    rotate_left
    · omega
    refine g_iconst (v := nI 1) (pc := 85) dX3_isStood_85 rfl ?_
    refine g_iret (pc := 86) dX3_isStood_86 rfl rfl ?_
    refine ⟨_, _, ⟨rfl, rfl⟩, ?_⟩
    exact ⟨Or.inl ⟨rfl, hbi⟩, rfl⟩
theorem m_X3_burstLimit_f (hV : Vok I V) (hW : WF V) {f : Int32} (h : ¬ isFi V f) : gFn G YX3_burstLimit (d + 4) [.ref 114, .int f] (hp n I L D) (.inl (some (.int (nI 0)))) (hp n (gUp I 114 0 (nI 1)) L D) 0 0 := by
  refine g_aload_n (pc := 0) dX3_burstLimit_0 rfl rfl ?_
  refine g_aload_n (pc := 1) dX3_burstLimit_1 rfl rfl ?_
  refine g_iload_n (pc := 2) dX3_burstLimit_2 rfl rfl ?_
  refine g_fV (av := [.int _]) (pc := 3) dX3_burstLimit_3 mt_X3_isFile lk_X3_87 im_X3_isFile se_X3_isFile np_X3_isFile s_114 (by decide) (by decide) rfl (gc_i gc_0) (Nat.le_of_ble_eq_true rfl) (Nat.le_of_ble_eq_true rfl) ⟨Nat.zero_le _, Nat.zero_le _⟩ (m_X3_isFile hV hW) ?_
  refine g_if_eqB (tgt := 13) (pc := 6) dX3_burstLimit_6 (by decide) (fun c6 => ?_) (fun c6 => ?_)
  · refine g_iconst (v := nI 1) (pc := 13) dX3_burstLimit_13 rfl ?_
    refine g_putI (pc := 14) dX3_burstLimit_14 fl_X3_67 s_114 (by decide) rfl rfl rfl rfl ?_
    refine g_aload_n (pc := 17) dX3_burstLimit_17 rfl rfl ?_
    refine g_getIV (pc := 18) dX3_burstLimit_18 fl_X3_67 s_114 (by decide) rfl (show _ = nI 1 from rfl) ?_
    refine g_iconst (v := nI 1) (pc := 21) dX3_burstLimit_21 rfl ?_
    refine g_icmp_neN (tgt := 27) (pc := 22) dX3_burstLimit_22 (by decide) (by omega) (by omega) (fun c22 => ?_) (fun c22 => ?_)
    · exact absurd c22 (by decide)
    · refine g_iconst (v := nI 0) (pc := 25) dX3_burstLimit_25 rfl ?_
      refine g_iret (pc := 26) dX3_burstLimit_26 rfl rfl ?_
      first | exact ⟨rfl, rfl⟩ | exact ⟨by rw [bI_t (by first | assumption | omega)], rfl⟩ | exact ⟨by rw [bI_f (by first | assumption | omega)], rfl⟩
  · exact absurd c6 h
theorem m_X3_burstLimit_t (hV : Vok I V) (hW : WF V) {j : Nat} (hj : j < 8) (h1 : V (10 * j) = 1) : gRi G YX3_burstLimit (d + 4) [.ref 114, .int (nI j)] n I L D (fun v J => ∃ r, v = nI r ∧ isBL V j r ∧ J = gUp I 114 0 (nI 0)) := by
  have hw := hW.1 j hj
  have hce := ce_le hw
  have h54 := (hw.2.2.2.2.2.2.2.2 h1).2.2.2
  refine g_aload_n (pc := 0) dX3_burstLimit_0 rfl rfl ?_
  refine g_aload_n (pc := 1) dX3_burstLimit_1 rfl rfl ?_
  refine g_iload_n (pc := 2) dX3_burstLimit_2 rfl rfl ?_
  refine g_fV (av := [.int _]) (pc := 3) dX3_burstLimit_3 mt_X3_isFile lk_X3_87 im_X3_isFile se_X3_isFile np_X3_isFile s_114 (by decide) (by decide) rfl (gc_i gc_0) (Nat.le_of_ble_eq_true rfl) (Nat.le_of_ble_eq_true rfl) ⟨Nat.zero_le _, Nat.zero_le _⟩ (m_X3_isFileN hV hW hj) ?_
  refine g_if_eqB (tgt := 13) (pc := 6) dX3_burstLimit_6 (by decide) (fun c6 => ?_) (fun c6 => ?_)
  · exact absurd h1 c6
  refine g_iconst (v := nI 0) (pc := 9) dX3_burstLimit_9 rfl ?_
  refine g_goto (tgt := 14) (pc := 10) dX3_burstLimit_10 (by decide) ?_
  refine g_putI (pc := 14) dX3_burstLimit_14 fl_X3_67 s_114 (by decide) rfl rfl rfl rfl ?_
  refine g_aload_n (pc := 17) dX3_burstLimit_17 rfl rfl ?_
  refine g_getIV (pc := 18) dX3_burstLimit_18 fl_X3_67 s_114 (by decide) rfl (show _ = nI 0 from rfl) ?_
  refine g_iconst (v := nI 1) (pc := 21) dX3_burstLimit_21 rfl ?_
  refine g_icmp_neN (tgt := 27) (pc := 22) dX3_burstLimit_22 (by decide) (by omega) (by omega) (fun c22 => ?_) (fun c22 => ?_)
  rotate_left
  · exact absurd c22 (by decide)
  refine g_iconst (v := nI 1) (pc := 27) dX3_burstLimit_27 rfl ?_
  refine g_istore_n (pc := 28) dX3_burstLimit_28 rfl (Nat.le_of_ble_eq_true rfl) rfl ?_
  refine g_loop (ce V j) (fun k (_ : Unit) => ∀ ln, 1 ≤ ln → ln ≤ k → ∀ fr, V (10 * j + 5) ≤ fr → fr + ln ≤ V (10 * j + 5) + ce V j → isSt V j fr ln) (fun k _ => [some (.ref 114), some (.int (nI j)), some (.int (nI (k + 1))), none, none]) (fun _ => hp n (gUp I 114 0 (nI 0)) L D) (fun k _ hk hki kn => ?_) (fun _ hki => ?_) 0 () (Nat.zero_le _) (fun ln a b => absurd b (by omega))
  · skip
    refine g_iload_n (pc := 29) dX3_burstLimit_29 rfl rfl ?_
    refine g_aload_n (pc := 30) dX3_burstLimit_30 rfl rfl ?_
    refine g_iload_n (pc := 31) dX3_burstLimit_31 rfl rfl ?_
    refine g_fV (av := [.int _]) (pc := 32) dX3_burstLimit_32 mt_X3_cells lk_X3_91 im_X3_cells se_X3_cells np_X3_cells s_114 (by decide) (by decide) rfl (gc_i gc_0) (Nat.le_of_ble_eq_true rfl) (Nat.le_of_ble_eq_true rfl) ⟨Nat.zero_le _, Nat.zero_le _⟩ (m_X3_cells hV.f hW hj) ?_
    refine g_icmp_gtN (tgt := 94) (pc := 35) dX3_burstLimit_35 (by decide) (by omega) (by omega) (fun c35 => ?_) (fun c35 => ?_)
    · omega
    refine g_aload_n (pc := 38) dX3_burstLimit_38 rfl rfl ?_
    refine g_iload_n (pc := 39) dX3_burstLimit_39 rfl rfl ?_
    refine g_iconst (v := nI 5) (pc := 40) dX3_burstLimit_40 rfl ?_
    refine g_fV (av := [.int _, .int _]) (pc := 41) dX3_burstLimit_41 mt_X3_of lk_X3_77 im_X3_of se_X3_of np_X3_of s_114 (by decide) (by decide) rfl (gc_i (gc_i gc_0)) (Nat.le_of_ble_eq_true rfl) (Nat.le_of_ble_eq_true rfl) ⟨Nat.zero_le _, Nat.zero_le _⟩ (m_X3_of hV.f (j := j) (w := 5) hj (by decide)) ?_
    refine g_aload_n (pc := 44) dX3_burstLimit_44 rfl rfl ?_
    refine g_iload_n (pc := 45) dX3_burstLimit_45 rfl rfl ?_
    refine g_fV (av := [.int _]) (pc := 46) dX3_burstLimit_46 mt_X3_cells lk_X3_91 im_X3_cells se_X3_cells np_X3_cells s_114 (by decide) (by decide) rfl (gc_i gc_0) (Nat.le_of_ble_eq_true rfl) (Nat.le_of_ble_eq_true rfl) ⟨Nat.zero_le _, Nat.zero_le _⟩ (m_X3_cells hV.f hW hj) ?_
    refine g_iaddN (pc := 49) dX3_burstLimit_49 ?_
    refine g_iload_n (pc := 50) dX3_burstLimit_50 rfl rfl ?_
    refine g_isubN (pc := 51) dX3_burstLimit_51 (by omega) ?_
    refine g_istore_n (pc := 52) dX3_burstLimit_52 rfl (Nat.le_of_ble_eq_true rfl) rfl ?_
    refine g_aload_n (pc := 53) dX3_burstLimit_53 rfl rfl ?_
    refine g_iload_n (pc := 54) dX3_burstLimit_54 rfl rfl ?_
    refine g_iconst (v := nI 5) (pc := 55) dX3_burstLimit_55 rfl ?_
    refine g_fV (av := [.int _, .int _]) (pc := 56) dX3_burstLimit_56 mt_X3_of lk_X3_77 im_X3_of se_X3_of np_X3_of s_114 (by decide) (by decide) rfl (gc_i (gc_i gc_0)) (Nat.le_of_ble_eq_true rfl) (Nat.le_of_ble_eq_true rfl) ⟨Nat.zero_le _, Nat.zero_le _⟩ (m_X3_of hV.f (j := j) (w := 5) hj (by decide)) ?_
    refine g_istore (pc := 59) dX3_burstLimit_59 (Nat.le_of_ble_eq_true rfl) rfl ?_
    refine g_loop (ce V j - k) (fun t (_ : Unit) => ∀ x, x < t → isSt V j (V (10 * j + 5) + x) (k + 1)) (fun t _ => [some (.ref 114), some (.int (nI j)), some (.int (nI (k + 1))), some (.int (nI (V (10 * j + 5) + ce V j - (k + 1)))), some (.int (nI (V (10 * j + 5) + t)))]) (fun _ => hp n (gUp I 114 0 (nI 0)) L D) (fun t _ ht hti kb => ?_) (fun _ hti => ?_) 0 () (Nat.zero_le _) (fun x hx => absurd hx (Nat.not_lt_zero x))
    · skip
      refine g_iload (pc := 61) dX3_burstLimit_61 rfl ?_
      refine g_iload_n (pc := 63) dX3_burstLimit_63 rfl rfl ?_
      refine g_icmp_gtN (tgt := 88) (pc := 64) dX3_burstLimit_64 (by decide) (by omega) (by omega) (fun c64 => ?_) (fun c64 => ?_)
      · omega
      refine g_aload_n (pc := 67) dX3_burstLimit_67 rfl rfl ?_
      refine g_iload_n (pc := 68) dX3_burstLimit_68 rfl rfl ?_
      refine g_iload (pc := 69) dX3_burstLimit_69 rfl ?_
      refine g_iload_n (pc := 71) dX3_burstLimit_71 rfl rfl ?_
      refine g_riV (av := [.int _, .int _, .int _]) (pc := 72) dX3_burstLimit_72 mt_X3_isStood lk_X3_213 im_X3_isStood se_X3_isStood np_X3_isStood s_114 (by decide) (by decide) rfl (gc_i (gc_i (gc_i gc_0))) (Nat.le_of_ble_eq_true rfl) (Nat.le_of_ble_eq_true rfl) (m_X3_isStood hV.f hW hj h1 (by omega) (by omega)) ?_
      rintro v I2 ⟨hv, rfl⟩
      rcases hv with ⟨rfl, hs⟩ | ⟨rfl, hs⟩
      rotate_left
      refine g_if_neN (tgt := 82) (pc := 75) dX3_burstLimit_75 (by decide) (by decide) (fun c => absurd rfl c) (fun c => ?_)
      · skip
        refine g_iload_n (pc := 78) dX3_burstLimit_78 rfl rfl ?_
        refine g_iconst (v := nI 1) (pc := 79) dX3_burstLimit_79 rfl ?_
        refine g_isubN (pc := 80) dX3_burstLimit_80 (by omega) ?_
        refine g_iret (pc := 81) dX3_burstLimit_81 rfl rfl ?_
        refine ⟨_, _, ⟨rfl, rfl⟩, ?_⟩
        exact ⟨k, rfl, ⟨by omega, hki, fun _ => ⟨V (10 * j + 5) + t, by omega, by omega, hs⟩⟩, rfl⟩
      · refine g_if_neN (tgt := 82) (pc := 75) dX3_burstLimit_75 (by decide) (by decide) (fun c => ?_) (fun c => absurd c (by decide))
        refine g_iincN (pc := 82) dX3_burstLimit_82 (Nat.le_of_ble_eq_true rfl) rfl rfl ?_
        refine g_goto (tgt := 61) (pc := 85) dX3_burstLimit_85 (by decide) ?_
        refine kb () (fun x hx => ?_)
        rcases Nat.lt_or_ge x t with q | q
        · exact hti x q
        · rw [show x = t by omega]; exact hs
    · skip
      refine g_iload (pc := 61) dX3_burstLimit_61 rfl ?_
      refine g_iload_n (pc := 63) dX3_burstLimit_63 rfl rfl ?_
      refine g_icmp_gtN (tgt := 88) (pc := 64) dX3_burstLimit_64 (by decide) (by omega) (by omega) (fun c64 => ?_) (fun c64 => ?_)
      rotate_left
      · omega
      refine g_iincN (pc := 88) dX3_burstLimit_88 (Nat.le_of_ble_eq_true rfl) rfl rfl ?_
      refine g_goto (tgt := 29) (pc := 91) dX3_burstLimit_91 (by decide) ?_
      refine g_fg 3 (g_fg 4 ?_)
      refine kn () (fun ln a b fr q1 q2 => ?_)
      rcases Nat.lt_or_ge k ln with q | q
      · have e : ln = k + 1 := by omega
        subst e
        have := hti (fr - V (10 * j + 5)) (by omega)
        rw [show V (10 * j + 5) + (fr - V (10 * j + 5)) = fr by omega] at this
        exact this
      · exact hki ln a q fr q1 q2
  · skip
    refine g_iload_n (pc := 29) dX3_burstLimit_29 rfl rfl ?_
    refine g_aload_n (pc := 30) dX3_burstLimit_30 rfl rfl ?_
    refine g_iload_n (pc := 31) dX3_burstLimit_31 rfl rfl ?_
    refine g_fV (av := [.int _]) (pc := 32) dX3_burstLimit_32 mt_X3_cells lk_X3_91 im_X3_cells se_X3_cells np_X3_cells s_114 (by decide) (by decide) rfl (gc_i gc_0) (Nat.le_of_ble_eq_true rfl) (Nat.le_of_ble_eq_true rfl) ⟨Nat.zero_le _, Nat.zero_le _⟩ (m_X3_cells hV.f hW hj) ?_
    refine g_icmp_gtN (tgt := 94) (pc := 35) dX3_burstLimit_35 (by decide) (by omega) (by omega) (fun c35 => ?_) (fun c35 => ?_)
    rotate_left
    · omega
    refine g_aload_n (pc := 94) dX3_burstLimit_94 rfl rfl ?_
    refine g_iload_n (pc := 95) dX3_burstLimit_95 rfl rfl ?_
    refine g_fV (av := [.int _]) (pc := 96) dX3_burstLimit_96 mt_X3_cells lk_X3_91 im_X3_cells se_X3_cells np_X3_cells s_114 (by decide) (by decide) rfl (gc_i gc_0) (Nat.le_of_ble_eq_true rfl) (Nat.le_of_ble_eq_true rfl) ⟨Nat.zero_le _, Nat.zero_le _⟩ (m_X3_cells hV.f hW hj) ?_
    refine g_iret (pc := 99) dX3_burstLimit_99 rfl rfl ?_
    refine ⟨_, _, ⟨rfl, rfl⟩, ?_⟩
    exact ⟨_, rfl, ⟨Nat.le_refl _, hki, fun q => absurd q (Nat.lt_irrefl _)⟩, rfl⟩
end

