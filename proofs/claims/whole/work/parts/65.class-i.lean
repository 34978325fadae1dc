/-! ===== the class stores ===== -/
theorem PE_one {T : Nat → Nat} {t : Nat} {r q : Option Nat} (h : PE T t r) (k : PE T t q) : r = q := by
  cases r with
  | none =>
    cases q with
    | none => rfl
    | some p =>
      obtain ⟨h1, h2⟩ := h
      obtain ⟨k1, k2, k3⟩ := k
      rcases k3 with ⟨k3, k4⟩ | ⟨k3, k4⟩
      · exact absurd (h2 p k3) k4
      · omega
  | some p =>
    obtain ⟨h1, h2, h3⟩ := h
    cases q with
    | none =>
      obtain ⟨k1, k2⟩ := k
      rcases h3 with ⟨h3, h4⟩ | ⟨h3, h4⟩
      · exact absurd (k2 p h3) h4
      · omega
    | some q =>
      obtain ⟨k1, k2, k3⟩ := k
      rcases Nat.lt_trichotomy p q with w | w | w
      · rcases h3 with ⟨h3, h4⟩ | ⟨h3, h4⟩
        · exact absurd (k2 p w) h4
        · omega
      · rw [w]
      · rcases k3 with ⟨k3, k4⟩ | ⟨k3, k4⟩
        · exact absurd (h2 q w) k4
        · omega
def peI : Option Nat → Int32
  | some p => nI p
  | none => -1
/-- the blocks of a file written, its days set before -/
noncomputable def clB (W : Nat → Nat) (T : Nat → Nat) (f n c : Nat) : Nat → Nat → Nat
  | 0 => W
  | b + 1 => mnV (clB W T f n c b) f b (2 ^ (c + 8) - 1) (stY T n c b) (c + 8)
theorem clB_ok {W T : Nat → Nat} {f n c : Nat} (h : stK W f n c) : ∀ b, b ≤ (n + 7) / 8 → stK (clB W T f n c b) f n c ∧ ∀ i, i < 80 ∨ 800 ≤ i → clB W T f n c b i = W i
  | 0, _ => ⟨h, fun _ _ => rfl⟩
  | b + 1, hb => by
    obtain ⟨⟨h1, h2, h3, h4, h5⟩, i2⟩ := clB_ok (T := T) h b (by omega)
    have hbb : b < bl (clB W T f n c b) f := by rw [h4]; omega
    have hs : c + 8 ≤ sz (clB W T f n c b) f := by rw [h5]; exact Nat.le_refl _
    have lo : ∀ i, i < 80 ∨ 800 ≤ i → clB W T f n c (b + 1) i = clB W T f n c b i := fun i hi => mnV_lo (h1.1 f h2) h3 hbb hi (c + 8) hs
    have eb : bl (clB W T f n c (b + 1)) f = bl (clB W T f n c b) f := by unfold bl; rw [lo _ (by omega)]
    have es : sz (clB W T f n c (b + 1)) f = sz (clB W T f n c b) f := by unfold sz; rw [lo _ (by omega)]
    exact ⟨⟨WF_mn h1 h2 h3 hbb (c + 8) hs, h2, (lo _ (by omega)).trans h3, eb.trans h4, es.trans h5⟩, fun i hi => (lo i hi).trans (i2 i hi)⟩
def Pz (f k : Nat) : Prop := k < 10 * f + 4 ∨ k = 10 * f + 5 ∨ 10 * f + 10 ≤ k
theorem mnV_cmp {A B : Nat → Nat} {f b S : Nat} {X : Nat → F6} (hf : f < 8) (h : ∀ k, Pz f k → A k = B k) : ∀ m k, Pz f k → mnV A f b S X m k = mnV B f b S X m k
  | 0, k, hk => h k hk
  | m + 1, k, hk => by
    have ih := mnV_cmp (S := S) (b := b) (X := X) hf h m
    have e : cellN A f b m = cellN B f b m := by
      have e1 := h (10 * f + 1) (Or.inl (by omega))
      have e2 := h (10 * f + 2) (Or.inl (by omega))
      have e3 := h (10 * f + 3) (Or.inl (by omega))
      have e5 := h (10 * f + 5) (Or.inr (Or.inl rfl))
      unfold cellN grN fiN sz bl
      rw [e1, e2, e3, e5]
    rw [mnV, mnV]
    by_cases ht : S.testBit m = true
    · rw [if_pos ht, if_pos ht, e]
      unfold wrV uV
      rw [ih k hk]
    · rw [if_neg ht, if_neg ht]; exact ih k hk
theorem stB_cmp {E W T : Nat → Nat} {f n c : Nat} (hf : f < 8) (h : ∀ k, Pz f k → E k = W k) : ∀ b, b ≤ 4 → ∀ k, Pz f k → stB E T f n c b k = clB W T f n c b k
  | 0, _, k, hk => h k hk
  | b + 1, hb, k, hk => mnV_cmp hf (fun i hi => by rw [uV_n (by unfold Pz at hi; omega)]; exact stB_cmp hf h b (by omega) i hi) (c + 8) k hk
theorem stB_day {E T : Nat → Nat} {f n c : Nat} (h : stK E f n c) : ∀ b, b ≤ (n + 7) / 8 → ∀ q, q < b → stB E T f n c b (10 * f + (6 + q)) = E 800
  | 0, _, q, hq => absurd hq (Nat.not_lt_zero q)
  | b + 1, hb, q, hq => by
    obtain ⟨⟨h1, h2, h3, h4, h5⟩, i2, i3⟩ := stB_ok (T := T) h b (by omega)
    have hbb : b < bl (stB E T f n c b) f := by rw [h4]; omega
    have hb4 : b < 4 := Nat.lt_of_lt_of_le hbb (bl_le (h1.1 f h2))
    have g := chk_geo (V := stB E T f n c b) (f := f) hb4 (E 800)
    have hWW : WF (uV (stB E T f n c b) (10 * f + (6 + b)) (E 800)) := by rw [← i3]; exact WF_chk h1 h2 h3 hb4
    have h1u : uV (stB E T f n c b) (10 * f + (6 + b)) (E 800) (10 * f) = 1 := by rw [uV_n (by omega)]; exact h3
    have hbu : b < bl (uV (stB E T f n c b) (10 * f + (6 + b)) (E 800)) f := by rw [g.1]; exact hbb
    have hsu : c + 8 ≤ sz (uV (stB E T f n c b) (10 * f + (6 + b)) (E 800)) f := by rw [g.2.1, h5]; exact Nat.le_refl _
    have lo : stB E T f n c (b + 1) (10 * f + (6 + q)) = uV (stB E T f n c b) (10 * f + (6 + b)) (E 800) (10 * f + (6 + q)) := mnV_lo (hWW.1 f h2) h1u hbu (Or.inl (by omega)) (c + 8) hsu
    rw [lo]
    by_cases e : q = b
    · rw [e, uV_s]
    · rw [uV_n (by omega)]; exact stB_day h b (by omega) q (by omega)
theorem edV_eq {V : Nat → Nat} {f n c dp fs : Nat} : edV V f n c dp fs = uV (uV (uV (uV (enV V f n c dp fs 0) (10 * f + (6 + 0)) (V 800)) (10 * f + (6 + 1)) (V 800)) (10 * f + (6 + 2)) (V 800)) (10 * f + (6 + 3)) (V 800) := by
  funext k
  unfold edV uV
  by_cases h : 10 * f + 6 ≤ k ∧ k < 10 * f + 10
  · rw [if_pos h]
    by_cases e3 : k = 10 * f + (6 + 3)
    · rw [if_pos e3]
    · rw [if_neg e3]
      by_cases e2 : k = 10 * f + (6 + 2)
      · rw [if_pos e2]
      · rw [if_neg e2]
        by_cases e1 : k = 10 * f + (6 + 1)
        · rw [if_pos e1]
        · rw [if_neg e1, if_pos (by omega)]
  · rw [if_neg h, if_neg (by omega), if_neg (by omega), if_neg (by omega), if_neg (by omega)]
theorem edV_K {V : Nat → Nat} {f n c dp fs : Nat} (hf : f < 8) (h : stK (enV V f n c dp fs 0) f n c) : stK (edV V f n c dp fs) f n c := by
  obtain ⟨h1, h2, h3, h4, h5⟩ := h
  have w0 := WF_chk (b := 0) h1 hf h3 (by decide)
  have w1 := WF_chk (b := 1) w0 hf (by rw [uV_n (by omega)]; exact h3) (by decide)
  have w2 := WF_chk (b := 2) w1 hf (by rw [uV_n (by omega), uV_n (by omega)]; exact h3) (by decide)
  have w3 := WF_chk (b := 3) w2 hf (by rw [uV_n (by omega), uV_n (by omega), uV_n (by omega)]; exact h3) (by decide)
  have e8 : enV V f n c dp fs 0 800 = V 800 := enV_o (by omega)
  have u0 : uV (enV V f n c dp fs 0) (10 * f + (6 + 0)) (V 800) 800 = V 800 := by rw [uV_n (by omega)]; exact e8
  have u1 : uV (uV (enV V f n c dp fs 0) (10 * f + (6 + 0)) (V 800)) (10 * f + (6 + 1)) (V 800) 800 = V 800 := by rw [uV_n (by omega)]; exact u0
  have u2 : uV (uV (uV (enV V f n c dp fs 0) (10 * f + (6 + 0)) (V 800)) (10 * f + (6 + 1)) (V 800)) (10 * f + (6 + 2)) (V 800) 800 = V 800 := by rw [uV_n (by omega)]; exact u1
  rw [e8] at w3
  rw [u0] at w3
  rw [u1] at w3
  rw [u2] at w3
  obtain ⟨f0, f1, f2, f3, f4, f5⟩ := edV_f (V := V) (f := f) (n := n) (c := c) (dp := dp) (fs := fs)
  refine ⟨by rw [edV_eq]; exact w3, hf, f0, by unfold bl; rw [f1], by unfold sz; rw [f2]⟩
theorem stG_cut {T : Nat → Nat} {n c b : Nat} : smF (fun i => if i < c + 8 then stG T n c b i else 0) (c + 8) = smF (stG T n c b) (c + 8) := by
  funext j
  unfold smF
  exact xs_ext (fun k hk => by show fm (if k < c + 8 then stG T n c b k else 0) _ = _; rw [if_pos hk])
theorem stY_d {T : Nat → Nat} {n c b i : Nat} (hc : c ≤ 6) (hi : 8 * b + i < n) (hs : syV (T (4 + (8 * b + i))) < 16) (hi8 : i < 8) : (stY T n c b (c + i)).val = syV (T (4 + (8 * b + i))) := by
  have hz : stX (smF (stG T n c b) (c + 8)) c (c + i) = 0 := (stX_sol (smF (stG T n c b) (c + 8)) (show c ≤ 14 by omega)).1 _ (Or.inl (by rw [Nat.testBit_two_pow_sub_one]; simp))
  have hg : stG T n c b (c + i) = fF (syV (T (4 + (8 * b + i)))) := by
    unfold stG
    rw [if_pos ⟨Nat.le_add_right _ _, by omega⟩, show 8 * b + (c + i) - c = 8 * b + i by omega]
  unfold stY
  rw [hz, fa_0, hg]
  exact fF_v (by omega)
theorem Snap.seal {I : Nat → Nat → Int32} {V : Nat → Nat} {C : Nat → Int32} {f x : Nat} (h : Snap I 4 V C) (hbl : ∀ j, j < 8 → bl V j ≤ 4) (hf : f < 8) : Snap (gUp I 13 f (nI x)) 4 (uV V (10 * f + 4) x) C := by
  obtain ⟨h1, h2, h3, h4, h5⟩ := h
  have hbb : ∀ j, j < 8 → bl (uV V (10 * f + 4) x) j = bl V j := fun j hj => by unfold bl; rw [uV_n (by omega)]
  refine ⟨fun i hi => ?_, fun k hk => ?_, fun j hj => ?_, fun j hj q hq => ?_, ?_⟩
  · rw [gUp_ne (by decide), gUp_ne (by decide), gUp_ne (by decide), uV_n (by omega), uV_n (by omega), uV_n (by omega)]; exact h1 i hi
  · rw [gUp_ne (by decide)]; exact h2 k hk
  · obtain ⟨g1, g2, g3, g4, g5, g6⟩ := h3 j hj
    rw [gUp_ne (by decide), gUp_ne (by decide), gUp_ne (by decide), gUp_ne (by decide), gUp_ne (show 4 + 10 ≠ 13 by decide), hbb j hj, uV_n (by omega), uV_n (by omega), uV_n (by omega), uV_n (show 10 * j + 5 ≠ 10 * f + 4 by omega)]
    refine ⟨g1, g2, g3, g4, ?_, g6⟩
    show gUp I 13 f (nI x) 13 j = _
    rw [gUp_c]
    by_cases e : j = f
    · rw [if_pos e, e, uV_s]
    · rw [if_neg e, uV_n (by omega)]; exact g5
  · rw [hbb j hj] at hq
    have hb4 := hbl j hj
    rw [gUp_ne (by decide), uV_n (by omega)]; exact h4 j hj q hq
  · rw [gUp_ne (by decide), uV_n (by omega)]; exact h5
section
variable {G : gG} {d n : Nat} {I : Nat → Nat → Int32} {L : Nat → Nat → Int64} {D : Nat → Nat → UInt64} {V : Nat → Nat}
variable {C : Nat → Int32} {H : hT} {m o : Nat}
theorem m_X2_symbolOf {c : Nat} (hc : c < 200) : gFn G YX2_symbolOf d [.int (nI c)] (hp n I L D) (.inl (some (.int (if isSy c = true then nI (syV c) else -1)))) (hp n I L D) 0 0 := by
  by_cases h : isSy c = true
  · rw [if_pos h]
    have h2 := h
    unfold isSy at h2
    simp only [Bool.or_eq_true, decide_eq_true_eq] at h2
    by_cases h5 : c ≤ 57
    · have e2 : syV c = c - 48 := if_pos h5
      rw [e2]
      refine g_iload_n (pc := 0) dX2_symbolOf_0 rfl rfl ?_
      refine g_bipush (v := nI 48) (pc := 1) dX2_symbolOf_1 rfl ?_
      refine g_icmp_ltN (tgt := 17) (pc := 3) dX2_symbolOf_3 (by decide) (by omega) (by omega) (fun c3 => ?_) (fun c3 => ?_)
      · omega
      · refine g_iload_n (pc := 6) dX2_symbolOf_6 rfl rfl ?_
        refine g_bipush (v := nI 57) (pc := 7) dX2_symbolOf_7 rfl ?_
        refine g_icmp_gtN (tgt := 17) (pc := 9) dX2_symbolOf_9 (by decide) (by omega) (by omega) (fun c9 => ?_) (fun c9 => ?_)
        · omega
        refine g_iload_n (pc := 12) dX2_symbolOf_12 rfl rfl ?_
        refine g_bipush (v := nI 48) (pc := 13) dX2_symbolOf_13 rfl ?_
        refine g_isubN (pc := 15) dX2_symbolOf_15 (by omega) ?_
        refine g_iret (pc := 16) dX2_symbolOf_16 rfl rfl ?_
        first | exact ⟨rfl, rfl⟩ | exact ⟨by rw [bI_t (by first | assumption | omega)], rfl⟩ | exact ⟨by rw [bI_f (by first | assumption | omega)], rfl⟩
    · have e2 : syV c = c - 97 + 10 := if_neg h5
      rw [e2]
      refine g_iload_n (pc := 0) dX2_symbolOf_0 rfl rfl ?_
      refine g_bipush (v := nI 48) (pc := 1) dX2_symbolOf_1 rfl ?_
      refine g_icmp_ltN (tgt := 17) (pc := 3) dX2_symbolOf_3 (by decide) (by omega) (by omega) (fun c3 => ?_) (fun c3 => ?_)
      · omega
      refine g_iload_n (pc := 6) dX2_symbolOf_6 rfl rfl ?_
      refine g_bipush (v := nI 57) (pc := 7) dX2_symbolOf_7 rfl ?_
      refine g_icmp_gtN (tgt := 17) (pc := 9) dX2_symbolOf_9 (by decide) (by omega) (by omega) (fun c9 => ?_) (fun c9 => ?_)
      rotate_left
      · omega
      refine g_iload_n (pc := 17) dX2_symbolOf_17 rfl rfl ?_
      refine g_bipush (v := nI 97) (pc := 18) dX2_symbolOf_18 rfl ?_
      refine g_icmp_ltN (tgt := 37) (pc := 20) dX2_symbolOf_20 (by decide) (by omega) (by omega) (fun c20 => ?_) (fun c20 => ?_)
      · omega
      refine g_iload_n (pc := 23) dX2_symbolOf_23 rfl rfl ?_
      refine g_bipush (v := nI 102) (pc := 24) dX2_symbolOf_24 rfl ?_
      refine g_icmp_gtN (tgt := 37) (pc := 26) dX2_symbolOf_26 (by decide) (by omega) (by omega) (fun c26 => ?_) (fun c26 => ?_)
      · omega
      refine g_iload_n (pc := 29) dX2_symbolOf_29 rfl rfl ?_
      refine g_bipush (v := nI 97) (pc := 30) dX2_symbolOf_30 rfl ?_
      refine g_isubN (pc := 32) dX2_symbolOf_32 (by omega) ?_
      refine g_bipush (v := nI 10) (pc := 33) dX2_symbolOf_33 rfl ?_
      refine g_iaddN (pc := 35) dX2_symbolOf_35 ?_
      refine g_iret (pc := 36) dX2_symbolOf_36 rfl rfl ?_
      first | exact ⟨rfl, rfl⟩ | exact ⟨by rw [bI_t (by first | assumption | omega)], rfl⟩ | exact ⟨by rw [bI_f (by first | assumption | omega)], rfl⟩
  · rw [if_neg h]
    have h2 := h
    unfold isSy at h2
    simp only [Bool.or_eq_true, decide_eq_true_eq, not_or] at h2
    refine g_iload_n (pc := 0) dX2_symbolOf_0 rfl rfl ?_
    refine g_bipush (v := nI 48) (pc := 1) dX2_symbolOf_1 rfl ?_
    refine g_icmp_ltN (tgt := 17) (pc := 3) dX2_symbolOf_3 (by decide) (by omega) (by omega) (fun c3 => ?_) (fun c3 => ?_)
    · refine g_iload_n (pc := 17) dX2_symbolOf_17 rfl rfl ?_
      refine g_bipush (v := nI 97) (pc := 18) dX2_symbolOf_18 rfl ?_
      refine g_icmp_ltN (tgt := 37) (pc := 20) dX2_symbolOf_20 (by decide) (by omega) (by omega) (fun c20 => ?_) (fun c20 => ?_)
      · refine g_iconst (v := (-1)) (pc := 37) dX2_symbolOf_37 rfl ?_
        refine g_iret (pc := 38) dX2_symbolOf_38 rfl rfl ?_
        first | exact ⟨rfl, rfl⟩ | exact ⟨by rw [bI_t (by first | assumption | omega)], rfl⟩ | exact ⟨by rw [bI_f (by first | assumption | omega)], rfl⟩
      · refine g_iload_n (pc := 23) dX2_symbolOf_23 rfl rfl ?_
        refine g_bipush (v := nI 102) (pc := 24) dX2_symbolOf_24 rfl ?_
        refine g_icmp_gtN (tgt := 37) (pc := 26) dX2_symbolOf_26 (by decide) (by omega) (by omega) (fun c26 => ?_) (fun c26 => ?_)
        · refine g_iconst (v := (-1)) (pc := 37) dX2_symbolOf_37 rfl ?_
          refine g_iret (pc := 38) dX2_symbolOf_38 rfl rfl ?_
          first | exact ⟨rfl, rfl⟩ | exact ⟨by rw [bI_t (by first | assumption | omega)], rfl⟩ | exact ⟨by rw [bI_f (by first | assumption | omega)], rfl⟩
        · exact absurd ⟨by omega, by omega⟩ h2.2
    · refine g_iload_n (pc := 6) dX2_symbolOf_6 rfl rfl ?_
      refine g_bipush (v := nI 57) (pc := 7) dX2_symbolOf_7 rfl ?_
      refine g_icmp_gtN (tgt := 17) (pc := 9) dX2_symbolOf_9 (by decide) (by omega) (by omega) (fun c9 => ?_) (fun c9 => ?_)
      · refine g_iload_n (pc := 17) dX2_symbolOf_17 rfl rfl ?_
        refine g_bipush (v := nI 97) (pc := 18) dX2_symbolOf_18 rfl ?_
        refine g_icmp_ltN (tgt := 37) (pc := 20) dX2_symbolOf_20 (by decide) (by omega) (by omega) (fun c20 => ?_) (fun c20 => ?_)
        · refine g_iconst (v := (-1)) (pc := 37) dX2_symbolOf_37 rfl ?_
          refine g_iret (pc := 38) dX2_symbolOf_38 rfl rfl ?_
          first | exact ⟨rfl, rfl⟩ | exact ⟨by rw [bI_t (by first | assumption | omega)], rfl⟩ | exact ⟨by rw [bI_f (by first | assumption | omega)], rfl⟩
        · refine g_iload_n (pc := 23) dX2_symbolOf_23 rfl rfl ?_
          refine g_bipush (v := nI 102) (pc := 24) dX2_symbolOf_24 rfl ?_
          refine g_icmp_gtN (tgt := 37) (pc := 26) dX2_symbolOf_26 (by decide) (by omega) (by omega) (fun c26 => ?_) (fun c26 => ?_)
          · refine g_iconst (v := (-1)) (pc := 37) dX2_symbolOf_37 rfl ?_
            refine g_iret (pc := 38) dX2_symbolOf_38 rfl rfl ?_
            first | exact ⟨rfl, rfl⟩ | exact ⟨by rw [bI_t (by first | assumption | omega)], rfl⟩ | exact ⟨by rw [bI_f (by first | assumption | omega)], rfl⟩
          · exact absurd ⟨by omega, by omega⟩ h2.2
      · exact absurd ⟨by omega, by omega⟩ h2.1
theorem m_X2_fitsText_t {i c : Nat} (hi : i < 100) (hc : c < 200) (h : fitC i c) : gFn G YX2_fitsText (d + 1) [.int (nI i), .int (nI c)] (hp n I L D) (.inl (some (.int (nI 1)))) (hp n I L D) 0 0 := by
  unfold fitC at h
  by_cases e0 : i = 0
  · rw [if_pos e0] at h
    subst e0
    refine g_iload_n (pc := 0) dX2_fitsText_0 rfl rfl ?_
    refine g_tabIn (pc := 1) (tgt := 32) dX2_fitsText_1 (by decide) (by decide) rfl (by decide) ?_
    refine g_iload_n (pc := 32) dX2_fitsText_32 rfl rfl ?_
    refine g_bipush (v := nI 49) (pc := 33) dX2_fitsText_33 rfl ?_
    refine g_icmp_ltN (tgt := 48) (pc := 35) dX2_fitsText_35 (by decide) (by omega) (by omega) (fun c35 => ?_) (fun c35 => ?_)
    · omega
    · refine g_iload_n (pc := 38) dX2_fitsText_38 rfl rfl ?_
      refine g_bipush (v := nI 54) (pc := 39) dX2_fitsText_39 rfl ?_
      refine g_icmp_gtN (tgt := 48) (pc := 41) dX2_fitsText_41 (by decide) (by omega) (by omega) (fun c41 => ?_) (fun c41 => ?_)
      · omega
      · refine g_iconst (v := nI 1) (pc := 44) dX2_fitsText_44 rfl ?_
        refine g_goto (tgt := 49) (pc := 45) dX2_fitsText_45 (by decide) ?_
        refine g_iret (pc := 49) dX2_fitsText_49 rfl rfl ?_
        first | exact ⟨rfl, rfl⟩ | exact ⟨by rw [bI_t (by first | assumption | omega)], rfl⟩ | exact ⟨by rw [bI_f (by first | assumption | omega)], rfl⟩
  by_cases e1 : i = 1
  · rw [if_neg e0, if_pos e1] at h
    subst e1
    refine g_iload_n (pc := 0) dX2_fitsText_0 rfl rfl ?_
    refine g_tabIn (pc := 1) (tgt := 50) dX2_fitsText_1 (by decide) (by decide) rfl (by decide) ?_
    refine g_iload_n (pc := 50) dX2_fitsText_50 rfl rfl ?_
    refine g_bipush (v := nI 42) (pc := 51) dX2_fitsText_51 rfl ?_
    refine g_icmp_neN (tgt := 60) (pc := 53) dX2_fitsText_53 (by decide) (by omega) (by omega) (fun c53 => ?_) (fun c53 => ?_)
    · exact absurd h c53
    · refine g_iconst (v := nI 1) (pc := 56) dX2_fitsText_56 rfl ?_
      refine g_goto (tgt := 61) (pc := 57) dX2_fitsText_57 (by decide) ?_
      refine g_iret (pc := 61) dX2_fitsText_61 rfl rfl ?_
      first | exact ⟨rfl, rfl⟩ | exact ⟨by rw [bI_t (by first | assumption | omega)], rfl⟩ | exact ⟨by rw [bI_f (by first | assumption | omega)], rfl⟩
  by_cases e2 : i = 2
  · rw [if_neg e0, if_neg e1, if_pos e2] at h
    subst e2
    refine g_iload_n (pc := 0) dX2_fitsText_0 rfl rfl ?_
    refine g_tabIn (pc := 1) (tgt := 62) dX2_fitsText_1 (by decide) (by decide) rfl (by decide) ?_
    refine g_iload_n (pc := 62) dX2_fitsText_62 rfl rfl ?_
    refine g_bipush (v := nI 49) (pc := 63) dX2_fitsText_63 rfl ?_
    refine g_icmp_ltN (tgt := 78) (pc := 65) dX2_fitsText_65 (by decide) (by omega) (by omega) (fun c65 => ?_) (fun c65 => ?_)
    · omega
    · refine g_iload_n (pc := 68) dX2_fitsText_68 rfl rfl ?_
      refine g_bipush (v := nI 52) (pc := 69) dX2_fitsText_69 rfl ?_
      refine g_icmp_gtN (tgt := 78) (pc := 71) dX2_fitsText_71 (by decide) (by omega) (by omega) (fun c71 => ?_) (fun c71 => ?_)
      · omega
      · refine g_iconst (v := nI 1) (pc := 74) dX2_fitsText_74 rfl ?_
        refine g_goto (tgt := 79) (pc := 75) dX2_fitsText_75 (by decide) ?_
        refine g_iret (pc := 79) dX2_fitsText_79 rfl rfl ?_
        first | exact ⟨rfl, rfl⟩ | exact ⟨by rw [bI_t (by first | assumption | omega)], rfl⟩ | exact ⟨by rw [bI_f (by first | assumption | omega)], rfl⟩
  by_cases e3 : i = 3
  · rw [if_neg e0, if_neg e1, if_neg e2, if_pos e3] at h
    subst e3
    refine g_iload_n (pc := 0) dX2_fitsText_0 rfl rfl ?_
    refine g_tabIn (pc := 1) (tgt := 80) dX2_fitsText_1 (by decide) (by decide) rfl (by decide) ?_
    refine g_iload_n (pc := 80) dX2_fitsText_80 rfl rfl ?_
    refine g_bipush (v := nI 58) (pc := 81) dX2_fitsText_81 rfl ?_
    refine g_icmp_neN (tgt := 90) (pc := 83) dX2_fitsText_83 (by decide) (by omega) (by omega) (fun c83 => ?_) (fun c83 => ?_)
    · exact absurd h c83
    · refine g_iconst (v := nI 1) (pc := 86) dX2_fitsText_86 rfl ?_
      refine g_goto (tgt := 91) (pc := 87) dX2_fitsText_87 (by decide) ?_
      refine g_iret (pc := 91) dX2_fitsText_91 rfl rfl ?_
      first | exact ⟨rfl, rfl⟩ | exact ⟨by rw [bI_t (by first | assumption | omega)], rfl⟩ | exact ⟨by rw [bI_f (by first | assumption | omega)], rfl⟩
  rw [if_neg e0, if_neg e1, if_neg e2, if_neg e3] at h
  have h4 : ((nI i).toInt < 0 ∨ 3 < (nI i).toInt) := Or.inr (by rw [nI_toInt (by omega)]; omega)
  refine g_iload_n (pc := 0) dX2_fitsText_0 rfl rfl ?_
  refine g_tabOut (pc := 1) (tgt := 92) dX2_fitsText_1 h4 (by decide) ?_
  have hs := m_X2_symbolOf (G := G) (d := d) (n := n) (I := I) (L := L) (D := D) hc
  rw [if_pos h.2] at hs
  have hv := syV_lt h.2
  refine g_iload_n (pc := 92) dX2_fitsText_92 rfl rfl ?_
  refine g_bipush (v := nI 36) (pc := 93) dX2_fitsText_93 rfl ?_
  refine g_icmp_geN (tgt := 109) (pc := 95) dX2_fitsText_95 (by decide) (by omega) (by omega) (fun c95 => ?_) (fun c95 => ?_)
  · omega
  refine g_iload_n (pc := 98) dX2_fitsText_98 rfl rfl ?_
  refine g_fS (av := [.int _]) (pc := 99) dX2_fitsText_99 mt_X2_symbolOf lk_X2_319 sf_X2_symbolOf np_X2_symbolOf rfl (gc_i gc_0) (Nat.le_of_ble_eq_true rfl) (Nat.le_of_ble_eq_true rfl) ⟨Nat.zero_le _, Nat.zero_le _⟩ hs ?_
  refine g_if_ltN (tgt := 109) (pc := 102) dX2_fitsText_102 (by decide) (by omega) (fun c102 => ?_) (fun c102 => ?_)
  · omega
  · refine g_iconst (v := nI 1) (pc := 105) dX2_fitsText_105 rfl ?_
    refine g_goto (tgt := 110) (pc := 106) dX2_fitsText_106 (by decide) ?_
    refine g_iret (pc := 110) dX2_fitsText_110 rfl rfl ?_
    first | exact ⟨rfl, rfl⟩ | exact ⟨by rw [bI_t (by first | assumption | omega)], rfl⟩ | exact ⟨by rw [bI_f (by first | assumption | omega)], rfl⟩
theorem m_X2_fitsText_f {i c : Nat} (hi : i < 100) (hc : c < 200) (h : ¬ fitC i c) : gFn G YX2_fitsText (d + 1) [.int (nI i), .int (nI c)] (hp n I L D) (.inl (some (.int (nI 0)))) (hp n I L D) 0 0 := by
  unfold fitC at h
  by_cases e0 : i = 0
  · rw [if_pos e0] at h
    subst e0
    refine g_iload_n (pc := 0) dX2_fitsText_0 rfl rfl ?_
    refine g_tabIn (pc := 1) (tgt := 32) dX2_fitsText_1 (by decide) (by decide) rfl (by decide) ?_
    refine g_iload_n (pc := 32) dX2_fitsText_32 rfl rfl ?_
    refine g_bipush (v := nI 49) (pc := 33) dX2_fitsText_33 rfl ?_
    refine g_icmp_ltN (tgt := 48) (pc := 35) dX2_fitsText_35 (by decide) (by omega) (by omega) (fun c35 => ?_) (fun c35 => ?_)
    · refine g_iconst (v := nI 0) (pc := 48) dX2_fitsText_48 rfl ?_
      refine g_iret (pc := 49) dX2_fitsText_49 rfl rfl ?_
      first | exact ⟨rfl, rfl⟩ | exact ⟨by rw [bI_t (by first | assumption | omega)], rfl⟩ | exact ⟨by rw [bI_f (by first | assumption | omega)], rfl⟩
    · refine g_iload_n (pc := 38) dX2_fitsText_38 rfl rfl ?_
      refine g_bipush (v := nI 54) (pc := 39) dX2_fitsText_39 rfl ?_
      refine g_icmp_gtN (tgt := 48) (pc := 41) dX2_fitsText_41 (by decide) (by omega) (by omega) (fun c41 => ?_) (fun c41 => ?_)
      · refine g_iconst (v := nI 0) (pc := 48) dX2_fitsText_48 rfl ?_
        refine g_iret (pc := 49) dX2_fitsText_49 rfl rfl ?_
        first | exact ⟨rfl, rfl⟩ | exact ⟨by rw [bI_t (by first | assumption | omega)], rfl⟩ | exact ⟨by rw [bI_f (by first | assumption | omega)], rfl⟩
      · omega
  by_cases e1 : i = 1
  · rw [if_neg e0, if_pos e1] at h
    subst e1
    refine g_iload_n (pc := 0) dX2_fitsText_0 rfl rfl ?_
    refine g_tabIn (pc := 1) (tgt := 50) dX2_fitsText_1 (by decide) (by decide) rfl (by decide) ?_
    refine g_iload_n (pc := 50) dX2_fitsText_50 rfl rfl ?_
    refine g_bipush (v := nI 42) (pc := 51) dX2_fitsText_51 rfl ?_
    refine g_icmp_neN (tgt := 60) (pc := 53) dX2_fitsText_53 (by decide) (by omega) (by omega) (fun c53 => ?_) (fun c53 => ?_)
    · refine g_iconst (v := nI 0) (pc := 60) dX2_fitsText_60 rfl ?_
      refine g_iret (pc := 61) dX2_fitsText_61 rfl rfl ?_
      first | exact ⟨rfl, rfl⟩ | exact ⟨by rw [bI_t (by first | assumption | omega)], rfl⟩ | exact ⟨by rw [bI_f (by first | assumption | omega)], rfl⟩
    · exact absurd c53 h
  by_cases e2 : i = 2
  · rw [if_neg e0, if_neg e1, if_pos e2] at h
    subst e2
    refine g_iload_n (pc := 0) dX2_fitsText_0 rfl rfl ?_
    refine g_tabIn (pc := 1) (tgt := 62) dX2_fitsText_1 (by decide) (by decide) rfl (by decide) ?_
    refine g_iload_n (pc := 62) dX2_fitsText_62 rfl rfl ?_
    refine g_bipush (v := nI 49) (pc := 63) dX2_fitsText_63 rfl ?_
    refine g_icmp_ltN (tgt := 78) (pc := 65) dX2_fitsText_65 (by decide) (by omega) (by omega) (fun c65 => ?_) (fun c65 => ?_)
    · refine g_iconst (v := nI 0) (pc := 78) dX2_fitsText_78 rfl ?_
      refine g_iret (pc := 79) dX2_fitsText_79 rfl rfl ?_
      first | exact ⟨rfl, rfl⟩ | exact ⟨by rw [bI_t (by first | assumption | omega)], rfl⟩ | exact ⟨by rw [bI_f (by first | assumption | omega)], rfl⟩
    · refine g_iload_n (pc := 68) dX2_fitsText_68 rfl rfl ?_
      refine g_bipush (v := nI 52) (pc := 69) dX2_fitsText_69 rfl ?_
      refine g_icmp_gtN (tgt := 78) (pc := 71) dX2_fitsText_71 (by decide) (by omega) (by omega) (fun c71 => ?_) (fun c71 => ?_)
      · refine g_iconst (v := nI 0) (pc := 78) dX2_fitsText_78 rfl ?_
        refine g_iret (pc := 79) dX2_fitsText_79 rfl rfl ?_
        first | exact ⟨rfl, rfl⟩ | exact ⟨by rw [bI_t (by first | assumption | omega)], rfl⟩ | exact ⟨by rw [bI_f (by first | assumption | omega)], rfl⟩
      · omega
  by_cases e3 : i = 3
  · rw [if_neg e0, if_neg e1, if_neg e2, if_pos e3] at h
    subst e3
    refine g_iload_n (pc := 0) dX2_fitsText_0 rfl rfl ?_
    refine g_tabIn (pc := 1) (tgt := 80) dX2_fitsText_1 (by decide) (by decide) rfl (by decide) ?_
    refine g_iload_n (pc := 80) dX2_fitsText_80 rfl rfl ?_
    refine g_bipush (v := nI 58) (pc := 81) dX2_fitsText_81 rfl ?_
    refine g_icmp_neN (tgt := 90) (pc := 83) dX2_fitsText_83 (by decide) (by omega) (by omega) (fun c83 => ?_) (fun c83 => ?_)
    · refine g_iconst (v := nI 0) (pc := 90) dX2_fitsText_90 rfl ?_
      refine g_iret (pc := 91) dX2_fitsText_91 rfl rfl ?_
      first | exact ⟨rfl, rfl⟩ | exact ⟨by rw [bI_t (by first | assumption | omega)], rfl⟩ | exact ⟨by rw [bI_f (by first | assumption | omega)], rfl⟩
    · exact absurd c83 h
  rw [if_neg e0, if_neg e1, if_neg e2, if_neg e3] at h
  have h4 : ((nI i).toInt < 0 ∨ 3 < (nI i).toInt) := Or.inr (by rw [nI_toInt (by omega)]; omega)
  refine g_iload_n (pc := 0) dX2_fitsText_0 rfl rfl ?_
  refine g_tabOut (pc := 1) (tgt := 92) dX2_fitsText_1 h4 (by decide) ?_
  have hs := m_X2_symbolOf (G := G) (d := d) (n := n) (I := I) (L := L) (D := D) hc
  by_cases h36 : i < 36
  · have hq : ¬ isSy c = true := fun q => h ⟨h36, q⟩
    rw [if_neg hq] at hs
    refine g_iload_n (pc := 92) dX2_fitsText_92 rfl rfl ?_
    refine g_bipush (v := nI 36) (pc := 93) dX2_fitsText_93 rfl ?_
    refine g_icmp_geN (tgt := 109) (pc := 95) dX2_fitsText_95 (by decide) (by omega) (by omega) (fun c95 => ?_) (fun c95 => ?_)
    · omega
    refine g_iload_n (pc := 98) dX2_fitsText_98 rfl rfl ?_
    refine g_fS (av := [.int _]) (pc := 99) dX2_fitsText_99 mt_X2_symbolOf lk_X2_319 sf_X2_symbolOf np_X2_symbolOf rfl (gc_i gc_0) (Nat.le_of_ble_eq_true rfl) (Nat.le_of_ble_eq_true rfl) ⟨Nat.zero_le _, Nat.zero_le _⟩ hs ?_
    refine g_if_lt (tgt := 109) (pc := 102) dX2_fitsText_102 (by decide) (fun c102 => ?_) (fun c102 => ?_)
    · refine g_iconst (v := nI 0) (pc := 109) dX2_fitsText_109 rfl ?_
      refine g_iret (pc := 110) dX2_fitsText_110 rfl rfl ?_
      first | exact ⟨rfl, rfl⟩ | exact ⟨by rw [bI_t (by first | assumption | omega)], rfl⟩ | exact ⟨by rw [bI_f (by first | assumption | omega)], rfl⟩
    · exact absurd (by decide) c102
  · skip
    refine g_iload_n (pc := 92) dX2_fitsText_92 rfl rfl ?_
    refine g_bipush (v := nI 36) (pc := 93) dX2_fitsText_93 rfl ?_
    refine g_icmp_geN (tgt := 109) (pc := 95) dX2_fitsText_95 (by decide) (by omega) (by omega) (fun c95 => ?_) (fun c95 => ?_)
    · refine g_iconst (v := nI 0) (pc := 109) dX2_fitsText_109 rfl ?_
      refine g_iret (pc := 110) dX2_fitsText_110 rfl rfl ?_
      first | exact ⟨rfl, rfl⟩ | exact ⟨by rw [bI_t (by first | assumption | omega)], rfl⟩ | exact ⟨by rw [bI_f (by first | assumption | omega)], rfl⟩
    · omega
theorem m_X2_textError {T : Nat → Nat} {t : Nat} {r : Option Nat} (hT : Tx I 39 T t) (hP : PE T t r) : gFn G YX2_textError (d + 2) [.ref 39, .int (nI t)] (hp n I L D) (.inl (some (.int (peI r)))) (hp n I L D) 0 0 := by
  have ht60 := hT.1
  refine g_iconst (v := nI 0) (pc := 0) dX2_textError_0 rfl ?_
  refine g_istore_n (pc := 1) dX2_textError_1 rfl (Nat.le_of_ble_eq_true rfl) rfl ?_
  refine g_loop t (fun k (_ : Unit) => ∀ i, i < k → fitC i (T i)) (fun k _ => [some (.ref 39), some (.int (nI t)), some (.int (nI k))]) (fun _ => hp n I L D) (fun k _ hk hz kn => ?_) (fun _ hz => ?_) 0 () (Nat.zero_le _) (fun i hi => absurd hi (Nat.not_lt_zero i))
  · obtain ⟨hv, hl⟩ := hT.2 k hk
    by_cases hfit : fitC k (T k)
    · skip
      refine g_iload_n (pc := 2) dX2_textError_2 rfl rfl ?_
      refine g_iload_n (pc := 3) dX2_textError_3 rfl rfl ?_
      refine g_icmp_geN (tgt := 31) (pc := 4) dX2_textError_4 (by decide) (by omega) (by omega) (fun c4 => ?_) (fun c4 => ?_)
      · omega
      refine g_iload_n (pc := 7) dX2_textError_7 rfl rfl ?_
      refine g_aload_n (pc := 8) dX2_textError_8 rfl rfl ?_
      refine g_alen (pc := 9) dX2_textError_9 s_39 (by decide) (by decide) ?_
      show gGo _ _ _ _ _ [.int (nI 60), .int (nI k)] _ _ _ _
      refine g_icmp_ge (tgt := 31) (pc := 10) dX2_textError_10 (by decide) (fun c10 => ?_) (fun c10 => ?_)
      · exact absurd ((nI_leI (by decide) (by omega)).mp c10) (by omega)
      refine g_iload_n (pc := 13) dX2_textError_13 rfl rfl ?_
      refine g_aload_n (pc := 14) dX2_textError_14 rfl rfl ?_
      refine g_iload_n (pc := 15) dX2_textError_15 rfl rfl ?_
      refine g_caloadN (pc := 16) dX2_textError_16 s_39 (by decide) (by omega) (by decide) hv ?_
      refine g_fS (av := [.int _, .int _]) (pc := 17) dX2_textError_17 mt_X2_fitsText lk_X2_315 sf_X2_fitsText np_X2_fitsText rfl (gc_i (gc_i gc_0)) (Nat.le_of_ble_eq_true rfl) (Nat.le_of_ble_eq_true rfl) ⟨Nat.zero_le _, Nat.zero_le _⟩ (m_X2_fitsText_t (by omega) (by omega) hfit) ?_
      refine g_if_neN (tgt := 25) (pc := 20) dX2_textError_20 (by decide) (by omega) (fun c20 => ?_) (fun c20 => ?_)
      rotate_left
      · exact absurd c20 (by decide)
      refine g_iincN (pc := 25) dX2_textError_25 (Nat.le_of_ble_eq_true rfl) rfl rfl ?_
      refine g_goto (tgt := 2) (pc := 28) dX2_textError_28 (by decide) ?_
      refine kn () (fun i hi => ?_)
      rcases Nat.lt_or_ge i k with w | w
      · exact hz i w
      · rw [show i = k by omega]; exact hfit
    · have e : r = some k := PE_one hP ⟨by omega, hz, Or.inl ⟨hk, hfit⟩⟩
      subst e
      refine g_iload_n (pc := 2) dX2_textError_2 rfl rfl ?_
      refine g_iload_n (pc := 3) dX2_textError_3 rfl rfl ?_
      refine g_icmp_geN (tgt := 31) (pc := 4) dX2_textError_4 (by decide) (by omega) (by omega) (fun c4 => ?_) (fun c4 => ?_)
      · omega
      refine g_iload_n (pc := 7) dX2_textError_7 rfl rfl ?_
      refine g_aload_n (pc := 8) dX2_textError_8 rfl rfl ?_
      refine g_alen (pc := 9) dX2_textError_9 s_39 (by decide) (by decide) ?_
      show gGo _ _ _ _ _ [.int (nI 60), .int (nI k)] _ _ _ _
      refine g_icmp_ge (tgt := 31) (pc := 10) dX2_textError_10 (by decide) (fun c10 => ?_) (fun c10 => ?_)
      · exact absurd ((nI_leI (by decide) (by omega)).mp c10) (by omega)
      refine g_iload_n (pc := 13) dX2_textError_13 rfl rfl ?_
      refine g_aload_n (pc := 14) dX2_textError_14 rfl rfl ?_
      refine g_iload_n (pc := 15) dX2_textError_15 rfl rfl ?_
      refine g_caloadN (pc := 16) dX2_textError_16 s_39 (by decide) (by omega) (by decide) hv ?_
      refine g_fS (av := [.int _, .int _]) (pc := 17) dX2_textError_17 mt_X2_fitsText lk_X2_315 sf_X2_fitsText np_X2_fitsText rfl (gc_i (gc_i gc_0)) (Nat.le_of_ble_eq_true rfl) (Nat.le_of_ble_eq_true rfl) ⟨Nat.zero_le _, Nat.zero_le _⟩ (m_X2_fitsText_f (by omega) (by omega) hfit) ?_
      refine g_if_neN (tgt := 25) (pc := 20) dX2_textError_20 (by decide) (by omega) (fun c20 => ?_) (fun c20 => ?_)
      · exact absurd rfl c20
      refine g_iload_n (pc := 23) dX2_textError_23 rfl rfl ?_
      refine g_iret (pc := 24) dX2_textError_24 rfl rfl ?_
      first | exact ⟨rfl, rfl⟩ | exact ⟨by rw [bI_t (by first | assumption | omega)], rfl⟩ | exact ⟨by rw [bI_f (by first | assumption | omega)], rfl⟩
  · by_cases h4 : 4 < t
    · have e : r = none := PE_one hP ⟨h4, hz⟩
      subst e
      refine g_iload_n (pc := 2) dX2_textError_2 rfl rfl ?_
      refine g_iload_n (pc := 3) dX2_textError_3 rfl rfl ?_
      refine g_icmp_geN (tgt := 31) (pc := 4) dX2_textError_4 (by decide) (by omega) (by omega) (fun c4 => ?_) (fun c4 => ?_)
      rotate_left
      · omega
      refine g_iload_n (pc := 31) dX2_textError_31 rfl rfl ?_
      refine g_iconst (v := nI 4) (pc := 32) dX2_textError_32 rfl ?_
      refine g_icmp_gtN (tgt := 40) (pc := 33) dX2_textError_33 (by decide) (by omega) (by omega) (fun c33 => ?_) (fun c33 => ?_)
      · refine g_iconst (v := (-1)) (pc := 40) dX2_textError_40 rfl ?_
        refine g_iret (pc := 41) dX2_textError_41 rfl rfl ?_
        first | exact ⟨rfl, rfl⟩ | exact ⟨by rw [bI_t (by first | assumption | omega)], rfl⟩ | exact ⟨by rw [bI_f (by first | assumption | omega)], rfl⟩
      · omega
    · have e : r = some t := PE_one hP ⟨Nat.le_refl _, hz, Or.inr ⟨rfl, by omega⟩⟩
      subst e
      refine g_iload_n (pc := 2) dX2_textError_2 rfl rfl ?_
      refine g_iload_n (pc := 3) dX2_textError_3 rfl rfl ?_
      refine g_icmp_geN (tgt := 31) (pc := 4) dX2_textError_4 (by decide) (by omega) (by omega) (fun c4 => ?_) (fun c4 => ?_)
      rotate_left
      · omega
      refine g_iload_n (pc := 31) dX2_textError_31 rfl rfl ?_
      refine g_iconst (v := nI 4) (pc := 32) dX2_textError_32 rfl ?_
      refine g_icmp_gtN (tgt := 40) (pc := 33) dX2_textError_33 (by decide) (by omega) (by omega) (fun c33 => ?_) (fun c33 => ?_)
      · omega
      · refine g_iload_n (pc := 36) dX2_textError_36 rfl rfl ?_
        refine g_goto (tgt := 41) (pc := 37) dX2_textError_37 (by decide) ?_
        refine g_iret (pc := 41) dX2_textError_41 rfl rfl ?_
        first | exact ⟨rfl, rfl⟩ | exact ⟨by rw [bI_t (by first | assumption | omega)], rfl⟩ | exact ⟨by rw [bI_f (by first | assumption | omega)], rfl⟩
theorem m_X2_writeFile {W T : Nat → Nat} {f q c : Nat} (hK : Kt I) (hS : Snap I 4 W C) (hKs : stK W f q c) (hc6 : c ≤ 6) (hq : q ≤ 32) (hcs : W (10 * f + 2) = c) (hqs : W (10 * f + 1) = q) {t : Nat} (hT : Tx I 39 T t) (htq : t = q + 4) (hsy : ∀ i, i < q → isSy (T (4 + i)) = true) : gRv G YX2_writeFile (d + 6) [.ref 3, .int (nI f)] n I L D (fun J => Snap J 4 (uV (clB W T f q c ((q + 7) / 8)) (10 * f + 4) (slT T q)) (addC C 7 (nI ((q + 7) / 8 * (c + 8)))) ∧ Sm [5, 6, 7, 8, 13, 29, 30, 31, 32, 33] I J) := by
  have hf := hKs.2.1
  have hp4 : 2 ^ (c + 8) ≤ 16384 := Nat.pow_le_pow_right (n := 2) (by decide) (show c + 8 ≤ 14 by omega)
  have hp1 : 1 ≤ 2 ^ (c + 8) := Nat.pow_pos (by decide)
  have hbs := m_X1_blockSize (G := G) (d := d + 5) (n := n) (L := L) (D := D) hS hKs.1 hf
  rw [hKs.2.2.2.2] at hbs
  refine g_iconst (v := nI 1) (pc := 0) dX2_writeFile_0 rfl ?_
  refine g_istore_n (pc := 1) dX2_writeFile_1 rfl (Nat.le_of_ble_eq_true rfl) rfl ?_
  refine g_aload_n (pc := 2) dX2_writeFile_2 rfl rfl ?_
  refine g_getR (pc := 3) dX2_writeFile_3 fl_X2_12 s_3 (by decide) rfl t_3_0 ?_
  refine g_iload_n (pc := 6) dX2_writeFile_6 rfl rfl ?_
  refine g_fV (av := [.int _]) (pc := 7) dX2_writeFile_7 mt_X1_blockSize lk_X2_323 im_X1_blockSize se_X1_blockSize np_X1_blockSize s_4 (by decide) (by decide) rfl (gc_i gc_0) (Nat.le_of_ble_eq_true rfl) (Nat.le_of_ble_eq_true rfl) ⟨Nat.zero_le _, Nat.zero_le _⟩ hbs ?_
  refine g_istore_n (pc := 10) dX2_writeFile_10 rfl (Nat.le_of_ble_eq_true rfl) rfl ?_
  refine g_iconst (v := nI 0) (pc := 11) dX2_writeFile_11 rfl ?_
  refine g_istore (pc := 12) dX2_writeFile_12 (Nat.le_of_ble_eq_true rfl) rfl ?_
  refine g_loop ((q + 7) / 8) (fun b J => Snap J 4 (clB W T f q c b) (addC C 7 (nI (b * (c + 8)))) ∧ Sm [5, 6, 7, 8, 29, 30, 31, 32, 33] I J) (fun b _ => [some (.ref 3), some (.int (nI f)), some (.int (nI (slT T (min (8 * b) q)))), some (.int (nI (c + 8))), some (.int (nI b)), none]) (fun J => hp n J L D) (fun b J hb hJ kn => ?_) (fun J hJ => ?_) 0 I (Nat.zero_le _) ⟨by rw [Nat.zero_mul, addC_0]; exact hS, Sm.rfl⟩
  · obtain ⟨u1, u2⟩ := hJ
    obtain ⟨kb, klo⟩ := clB_ok (T := T) hKs b (by omega)
    obtain ⟨w1, w2, w3, w4, w5⟩ := id kb
    have hbb : b < bl (clB W T f q c b) f := by rw [w4]; exact hb
    have ec : clB W T f q c b (10 * f + 2) = c := (klo _ (by omega)).trans hcs
    have eq1 : clB W T f q c b (10 * f + 1) = q := (klo _ (by omega)).trans hqs
    have hb4 : b < 4 := by omega
    have hsl := slT_le T (min (8 * b) q)
    have e8 : min (8 * b) q = 8 * b := by omega
    have hT1 : Tx J 39 T t := hT.s (u2 39 (by decide))
    refine g_iload (pc := 14) dX2_writeFile_14 rfl ?_
    refine g_aload_n (pc := 16) dX2_writeFile_16 rfl rfl ?_
    refine g_getR (pc := 17) dX2_writeFile_17 fl_X2_12 s_3 (by decide) rfl t_3_0 ?_
    refine g_getR (pc := 20) dX2_writeFile_20 fl_X2_141 s_4 (by decide) rfl t_4_5 ?_
    refine g_iload_n (pc := 23) dX2_writeFile_23 rfl rfl ?_
    refine g_ialoadN (pc := 24) dX2_writeFile_24 s_10 (by decide) (by omega) (by decide) (show _ = nI ((q + 7) / 8) from by rw [← w4]; exact (u1.2.2.1 f hf).2.1) ?_
    refine g_icmp_geN (tgt := 141) (pc := 25) dX2_writeFile_25 (by decide) (by omega) (by omega) (fun c25 => ?_) (fun c25 => ?_)
    · omega
    refine g_aload_n (pc := 28) dX2_writeFile_28 rfl rfl ?_
    refine g_getR (pc := 29) dX2_writeFile_29 fl_X2_26 s_3 (by decide) rfl t_3_3 ?_
    refine g_aload_n (pc := 32) dX2_writeFile_32 rfl rfl ?_
    refine g_getR (pc := 33) dX2_writeFile_33 fl_X2_12 s_3 (by decide) rfl t_3_0 ?_
    refine g_getR (pc := 36) dX2_writeFile_36 fl_X2_132 s_4 (by decide) rfl t_4_6 ?_
    refine g_iload_n (pc := 39) dX2_writeFile_39 rfl rfl ?_
    refine g_ialoadN (pc := 40) dX2_writeFile_40 s_11 (by decide) (by omega) (by decide) (show _ = nI c from by rw [← ec]; exact (u1.2.2.1 f hf).2.2.1) ?_
    refine g_rvV (av := [.int _]) (pc := 41) dX2_writeFile_41 mt_X0_clearBlock lk_X2_326 im_X0_clearBlock se_X0_clearBlock np_X0_clearBlock s_29 (by decide) (by decide) rfl (gc_i gc_0) (Nat.le_of_ble_eq_true rfl) (Nat.le_of_ble_eq_true rfl) (m_X0_clearBlock (d := d + 5) hc6) ?_
    rintro J1 ⟨k1, k2, k3, k4, k5, k6⟩
    refine g_iconst (v := nI 0) (pc := 44) dX2_writeFile_44 rfl ?_
    refine g_istore (pc := 45) dX2_writeFile_45 (Nat.le_of_ble_eq_true rfl) rfl ?_
    have hS1 : Snap J1 4 (clB W T f q c b) (addC C 7 (nI (b * (c + 8)))) := u1.f (fun x h1 h2 => k6 x (by intro z; simp at z; omega))
    refine g_loop (min 8 (q - 8 * b)) (fun k J2 => (∀ x, x < 14 → J2 30 x = if c ≤ x ∧ x < c + k then nI (syV (T (4 + (8 * b + (x - c))))) else nI 0) ∧ Sm [30] J1 J2) (fun k _ => [some (.ref 3), some (.int (nI f)), some (.int (nI (slT T (min (8 * b) q)))), some (.int (nI (c + 8))), some (.int (nI b)), some (.int (nI k))]) (fun J => hp n J L D) (fun k J2 hk hJ2 kk => ?_) (fun J2 hJ2 => ?_) 0 J1 (Nat.zero_le _) ⟨fun x hx => by rw [if_neg (by omega)]; exact k5 x hx, Sm.rfl⟩
    · obtain ⟨v1, v2⟩ := hJ2
      have hS2 : Snap J2 4 (clB W T f q c b) (addC C 7 (nI (b * (c + 8)))) := hS1.f (fun x h1 h2 => v2 x (by intro z; simp at z; omega))
      have hdi := m_X2_dataIn (G := G) (d := d + 5) (n := n) (L := L) (D := D) hS2 w1 hf w3 hbb
      rw [eq1] at hdi
      have hkq : 8 * b + k < q := by omega
      have hsyk := hsy (8 * b + k) hkq
      have hv := syV_lt hsyk
      obtain ⟨ht1, ht2⟩ := hT1.2 (4 + (8 * b + k)) (by omega)
      have hso := m_X2_symbolOf (G := G) (d := d + 5) (n := n) (I := J2) (L := L) (D := D) (c := T (4 + (8 * b + k))) (by omega)
      rw [if_pos hsyk] at hso
      refine g_iload (pc := 47) dX2_writeFile_47 rfl ?_
      refine g_aload_n (pc := 49) dX2_writeFile_49 rfl rfl ?_
      refine g_iload_n (pc := 50) dX2_writeFile_50 rfl rfl ?_
      refine g_iload (pc := 51) dX2_writeFile_51 rfl ?_
      refine g_fV (av := [.int _, .int _]) (pc := 53) dX2_writeFile_53 mt_X2_dataIn lk_X2_329 im_X2_dataIn se_X2_dataIn np_X2_dataIn s_3 (by decide) (by decide) rfl (gc_i (gc_i gc_0)) (Nat.le_of_ble_eq_true rfl) (Nat.le_of_ble_eq_true rfl) ⟨Nat.zero_le _, Nat.zero_le _⟩ hdi ?_
      refine g_icmp_geN (tgt := 107) (pc := 56) dX2_writeFile_56 (by decide) (by omega) (by omega) (fun c56 => ?_) (fun c56 => ?_)
      · omega
      refine g_aload_n (pc := 59) dX2_writeFile_59 rfl rfl ?_
      refine g_getR (pc := 60) dX2_writeFile_60 fl_X2_26 s_3 (by decide) rfl t_3_3 ?_
      refine g_getR (pc := 63) dX2_writeFile_63 fl_X2_332 s_29 (by decide) rfl t_29_0 ?_
      refine g_aload_n (pc := 66) dX2_writeFile_66 rfl rfl ?_
      refine g_getR (pc := 67) dX2_writeFile_67 fl_X2_12 s_3 (by decide) rfl t_3_0 ?_
      refine g_getR (pc := 70) dX2_writeFile_70 fl_X2_132 s_4 (by decide) rfl t_4_6 ?_
      refine g_iload_n (pc := 73) dX2_writeFile_73 rfl rfl ?_
      refine g_ialoadN (pc := 74) dX2_writeFile_74 s_11 (by decide) (by omega) (by decide) (show _ = nI c from by rw [← ec]; exact (hS2.2.2.1 f hf).2.2.1) ?_
      refine g_iload (pc := 75) dX2_writeFile_75 rfl ?_
      refine g_iaddN (pc := 77) dX2_writeFile_77 ?_
      refine g_iconst (v := nI 0) (pc := 78) dX2_writeFile_78 rfl ?_
      refine g_aload_n (pc := 79) dX2_writeFile_79 rfl rfl ?_
      refine g_getR (pc := 80) dX2_writeFile_80 fl_X2_30 s_3 (by decide) rfl t_3_4 ?_
      refine g_iconst (v := nI 4) (pc := 83) dX2_writeFile_83 rfl ?_
      refine g_iload (pc := 84) dX2_writeFile_84 rfl ?_
      refine g_bipush (v := nI 8) (pc := 86) dX2_writeFile_86 rfl ?_
      refine g_imulN (pc := 88) dX2_writeFile_88 ?_
      refine g_iaddN (pc := 89) dX2_writeFile_89 ?_
      refine g_iload (pc := 90) dX2_writeFile_90 rfl ?_
      refine g_iaddN (pc := 92) dX2_writeFile_92 ?_
      rw [show 4 + b * 8 + k = 4 + (8 * b + k) by omega]
      refine g_caloadN (pc := 93) dX2_writeFile_93 s_39 (by decide) (by omega) (by decide) (show _ = nI (T (4 + (8 * b + k))) from by rw [v2 39 (by decide), k6 39 (by decide)]; exact ht1) ?_
      refine g_fS (av := [.int _]) (pc := 94) dX2_writeFile_94 mt_X2_symbolOf lk_X2_319 sf_X2_symbolOf np_X2_symbolOf rfl (gc_i gc_0) (Nat.le_of_ble_eq_true rfl) (Nat.le_of_ble_eq_true rfl) ⟨Nat.zero_le _, Nat.zero_le _⟩ hso ?_
      refine g_mmaxN (pc := 97) dX2_writeFile_97 lkm_X2_max (Nat.le_of_ble_eq_true rfl) (by omega) (by omega) ?_
      rw [Nat.zero_max]
      refine g_iastoreN (pc := 100) dX2_writeFile_100 s_30 (by decide) (by omega) (by decide) ?_
      refine g_iincN (pc := 101) dX2_writeFile_101 (Nat.le_of_ble_eq_true rfl) rfl rfl ?_
      refine g_goto (tgt := 47) (pc := 104) dX2_writeFile_104 (by decide) ?_
      refine kk _ ⟨fun x hx => ?_, Sm.up (by decide) v2⟩
      rw [gUp_c]
      by_cases e : x = c + k
      · rw [if_pos e, if_pos (by omega), show x - c = k by omega]
      · rw [if_neg e, v1 x hx]
        by_cases e2 : c ≤ x ∧ x < c + k
        · rw [if_pos e2, if_pos (by omega)]
        · rw [if_neg e2, if_neg (by omega)]
    · obtain ⟨v1, v2⟩ := hJ2
      have hS2 : Snap J2 4 (clB W T f q c b) (addC C 7 (nI (b * (c + 8)))) := hS1.f (fun x h1 h2 => v2 x (by intro z; simp at z; omega))
      have hdi := m_X2_dataIn (G := G) (d := d + 5) (n := n) (L := L) (D := D) hS2 w1 hf w3 hbb
      rw [eq1] at hdi
      have hK2 : Kt J2 := ((hK.s u2 (by decide) (by decide)).s k6 (by decide) (by decide)).s v2 (by decide) (by decide)
      have hg : ∀ x, x < 14 → J2 30 x = fI (if x < c + 8 then stG T q c b x else 0) := fun x hx => by
        rw [v1 x hx]
        by_cases e1 : c ≤ x ∧ x < c + min 8 (q - 8 * b)
        · rw [if_pos e1, if_pos (by omega)]
          have hv := syV_lt (hsy (8 * b + (x - c)) (by omega))
          unfold stG
          rw [if_pos (by omega), show 8 * b + x - c = 8 * b + (x - c) by omega]
          exact fF_I (by omega)
        · rw [if_neg e1]
          by_cases e2 : x < c + 8
          · rw [if_pos e2]
            unfold stG
            rw [if_neg (by omega)]; rfl
          · rw [if_neg e2]; rfl
      refine g_iload (pc := 47) dX2_writeFile_47 rfl ?_
      refine g_aload_n (pc := 49) dX2_writeFile_49 rfl rfl ?_
      refine g_iload_n (pc := 50) dX2_writeFile_50 rfl rfl ?_
      refine g_iload (pc := 51) dX2_writeFile_51 rfl ?_
      refine g_fV (av := [.int _, .int _]) (pc := 53) dX2_writeFile_53 mt_X2_dataIn lk_X2_329 im_X2_dataIn se_X2_dataIn np_X2_dataIn s_3 (by decide) (by decide) rfl (gc_i (gc_i gc_0)) (Nat.le_of_ble_eq_true rfl) (Nat.le_of_ble_eq_true rfl) ⟨Nat.zero_le _, Nat.zero_le _⟩ hdi ?_
      refine g_icmp_geN (tgt := 107) (pc := 56) dX2_writeFile_56 (by decide) (by omega) (by omega) (fun c56 => ?_) (fun c56 => ?_)
      rotate_left
      · omega
      refine g_aload_n (pc := 107) dX2_writeFile_107 rfl rfl ?_
      refine g_getR (pc := 108) dX2_writeFile_108 fl_X2_26 s_3 (by decide) rfl t_3_3 ?_
      refine g_rvV (av := []) (pc := 111) dX2_writeFile_111 mt_X0_encode lk_X2_340 im_X0_encode se_X0_encode np_X0_encode s_29 (by decide) (by decide) rfl gc_0 (Nat.le_of_ble_eq_true rfl) (Nat.le_of_ble_eq_true rfl) (gRv_deep (by omega) (m_X0_encode (d := d) hK2 (by rw [v2 29 (by decide)]; exact k1) hc6 hg)) ?_
      rintro J3 ⟨p1, p2⟩
      have hS3 : Snap J3 4 (clB W T f q c b) (addC C 7 (nI (b * (c + 8)))) := hS2.f (fun x h1 h2 => p2 x (by intro z; simp at z; omega))
      have hR : ∀ i, i < c + 8 → J3 31 i = fI (stY T q c b i) := fun i hi => by
        rw [p1 i (by omega), stG_cut, if_pos hi]; rfl
      have hse := m_X2_sealBehind (G := G) (d := d + 4) (n := n) (L := L) (D := D) hS3 w1 hf w3 hbb (S := fun i => slT T (8 * b + i)) (R := fun i => stY T q c b (c + i)) (fun i => slT_le T _) (fun i hi => by rw [ec]; exact hR _ (by omega)) (fun i hi => by
        rw [eq1] at hi
        show slT T (8 * b + i + 1) = _
        rw [stY_d hc6 (show 8 * b + i < q by omega) (syV_lt (hsy _ (by omega))) (by omega)]
        rfl)
      rw [eq1] at hse
      simp only [Nat.add_zero] at hse
      rw [show 8 * b + min 8 (q - 8 * b) = min (8 * (b + 1)) q by omega] at hse
      rw [e8]
      have hsl2 := slT_le T (min (8 * (b + 1)) q)
      have hmn : clB W T f q c (b + 1) = mnV (clB W T f q c b) f b (2 ^ (c + 8) - 1) (stY T q c b) (sz (clB W T f q c b) f) := by rw [w5]; rfl
      have hns : nS (2 ^ (c + 8) - 1) 14 = c + 8 := nS_full _ (by omega)
      refine g_aload_n (pc := 114) dX2_writeFile_114 rfl rfl ?_
      refine g_iload_n (pc := 115) dX2_writeFile_115 rfl rfl ?_
      refine g_iload_n (pc := 116) dX2_writeFile_116 rfl rfl ?_
      refine g_iload (pc := 117) dX2_writeFile_117 rfl ?_
      refine g_fV (av := [.int _, .int _, .int _]) (pc := 119) dX2_writeFile_119 mt_X2_sealBehind lk_X2_244 im_X2_sealBehind se_X2_sealBehind np_X2_sealBehind s_3 (by decide) (by decide) rfl (gc_i (gc_i (gc_i gc_0))) (Nat.le_of_ble_eq_true rfl) (Nat.le_of_ble_eq_true rfl) ⟨Nat.zero_le _, Nat.zero_le _⟩ (gFn_deep (by omega) hse) ?_
      refine g_istore_n (pc := 122) dX2_writeFile_122 rfl (Nat.le_of_ble_eq_true rfl) rfl ?_
      refine g_aload_n (pc := 123) dX2_writeFile_123 rfl rfl ?_
      refine g_iload_n (pc := 124) dX2_writeFile_124 rfl rfl ?_
      refine g_iload (pc := 125) dX2_writeFile_125 rfl ?_
      refine g_iconst (v := nI 1) (pc := 127) dX2_writeFile_127 rfl ?_
      refine g_iload_n (pc := 128) dX2_writeFile_128 rfl rfl ?_
      refine g_ishl (pc := 129) dX2_writeFile_129 ?_
      rw [sh_1 (c + 8) (by omega)]
      refine g_iconst (v := nI 1) (pc := 130) dX2_writeFile_130 rfl ?_
      refine g_isubN (pc := 131) dX2_writeFile_131 (by omega) ?_
      refine g_rvV (av := [.int _, .int _, .int _]) (pc := 132) dX2_writeFile_132 mt_X2_writeFound lk_X2_278 im_X2_writeFound se_X2_writeFound np_X2_writeFound s_3 (by decide) (by decide) rfl (gc_i (gc_i (gc_i gc_0))) (Nat.le_of_ble_eq_true rfl) (Nat.le_of_ble_eq_true rfl) (gRv_deep (by omega) (m_X2_writeFound (d := d) hS3 w1 hf w3 hbb (S := 2 ^ (c + 8) - 1) (by rw [w5]; omega) (X := stY T q c b) (fun i hi => hR i (by rw [w5] at hi; exact hi)))) ?_
      rintro J4 ⟨z1, z2⟩
      refine g_iincN (pc := 135) dX2_writeFile_135 (Nat.le_of_ble_eq_true rfl) rfl rfl ?_
      refine g_goto (tgt := 14) (pc := 138) dX2_writeFile_138 (by decide) ?_
      refine g_fg 5 ?_
      refine kn _ ⟨?_, Sm.trans u2 (Sm.trans (k6.mono (by decide)) (Sm.trans (v2.mono (by decide)) (Sm.trans (p2.mono (by decide)) (z2.mono (by decide)))))⟩
      rw [hmn]
      rw [hns, addC_add, nI_add] at z1
      rw [show (b + 1) * (c + 8) = b * (c + 8) + (c + 8) by rw [Nat.add_mul, Nat.one_mul]]
      exact z1
  · obtain ⟨u1, u2⟩ := hJ
    obtain ⟨kb, klo⟩ := clB_ok (T := T) hKs ((q + 7) / 8) (Nat.le_refl _)
    have hsl := slT_le T q
    rw [show min (8 * ((q + 7) / 8)) q = q by omega]
    refine g_iload (pc := 14) dX2_writeFile_14 rfl ?_
    refine g_aload_n (pc := 16) dX2_writeFile_16 rfl rfl ?_
    refine g_getR (pc := 17) dX2_writeFile_17 fl_X2_12 s_3 (by decide) rfl t_3_0 ?_
    refine g_getR (pc := 20) dX2_writeFile_20 fl_X2_141 s_4 (by decide) rfl t_4_5 ?_
    refine g_iload_n (pc := 23) dX2_writeFile_23 rfl rfl ?_
    refine g_ialoadN (pc := 24) dX2_writeFile_24 s_10 (by decide) (by omega) (by decide) (show _ = nI ((q + 7) / 8) from by rw [← kb.2.2.2.1]; exact (u1.2.2.1 f hf).2.1) ?_
    refine g_icmp_geN (tgt := 141) (pc := 25) dX2_writeFile_25 (by decide) (by omega) (by omega) (fun c25 => ?_) (fun c25 => ?_)
    rotate_left
    · omega
    refine g_aload_n (pc := 141) dX2_writeFile_141 rfl rfl ?_
    refine g_getR (pc := 142) dX2_writeFile_142 fl_X2_12 s_3 (by decide) rfl t_3_0 ?_
    refine g_getR (pc := 145) dX2_writeFile_145 fl_X2_138 s_4 (by decide) rfl t_4_8 ?_
    refine g_iload_n (pc := 148) dX2_writeFile_148 rfl rfl ?_
    refine g_iload_n (pc := 149) dX2_writeFile_149 rfl rfl ?_
    refine g_iastoreN (pc := 150) dX2_writeFile_150 s_13 (by decide) (by omega) (by decide) ?_
    refine g_vret (pc := 151) dX2_writeFile_151 rfl ?_
    refine ⟨_, ⟨rfl, rfl⟩, ?_⟩
    exact ⟨Snap.seal u1 kb.1.bl4 hf, Sm.up (by decide) (u2.mono (by decide))⟩
def Ftc (I J : Nat → Nat → Int32) : Prop := (∀ a, a < 3 ∨ (16 ≤ a ∧ a < 29) ∨ a = 39 ∨ a = 40 ∨ 114 ≤ a → J a = I a) ∧ Sc 3 [7, 11, 12] I J
theorem m_X2_store_1 {T : Nat → Nat} {t p : Nat} (hT : Tx I 39 T t) (ht : I 3 7 = nI t) (hP : PE T t (some p)) : gX G YX2_store (d + 9) [.ref 3] n I L D (.inr "java/lang/IllegalArgumentException") (fun J => J = gUp (gUp I 3 7 (nI 0)) 3 9 (nI p)) := by
  have ht60 := hT.1
  have hp60 := hP.1
  refine g_aload_n (pc := 0) dX2_store_0 rfl rfl ?_
  refine g_getIV (pc := 1) dX2_store_1 fl_X2_41 s_3 (by decide) rfl ht ?_
  refine g_istore_n (pc := 4) dX2_store_4 rfl (Nat.le_of_ble_eq_true rfl) rfl ?_
  refine g_aload_n (pc := 5) dX2_store_5 rfl rfl ?_
  refine g_iconst (v := nI 0) (pc := 6) dX2_store_6 rfl ?_
  refine g_putI (pc := 7) dX2_store_7 fl_X2_41 s_3 (by decide) rfl rfl rfl rfl ?_
  refine g_aload_n (pc := 10) dX2_store_10 rfl rfl ?_
  refine g_getR (pc := 11) dX2_store_11 fl_X2_30 s_3 (by decide) rfl t_3_4 ?_
  refine g_iload_n (pc := 14) dX2_store_14 rfl rfl ?_
  refine g_fS (av := [.ref 39, .int _]) (pc := 15) dX2_store_15 mt_X2_textError lk_X2_83 sf_X2_textError np_X2_textError rfl (gc_r (gc_i gc_0)) (Nat.le_of_ble_eq_true rfl) (Nat.le_of_ble_eq_true rfl) ⟨Nat.zero_le _, Nat.zero_le _⟩ (gFn_deep (by omega) (m_X2_textError (d := d) (hT.s (J := gUp I 3 7 (nI 0)) (gUp_ne (by decide))) hP)) ?_
  refine g_istore_n (pc := 18) dX2_store_18 rfl (Nat.le_of_ble_eq_true rfl) rfl ?_
  refine g_iload_n (pc := 19) dX2_store_19 rfl rfl ?_
  refine g_if_ltN (tgt := 38) (pc := 20) dX2_store_20 (by decide) (by omega) (fun c20 => ?_) (fun c20 => ?_)
  · omega
  · refine g_aload_n (pc := 23) dX2_store_23 rfl rfl ?_
    refine g_iload_n (pc := 24) dX2_store_24 rfl rfl ?_
    refine g_putI (pc := 25) dX2_store_25 fl_X2_48 s_3 (by decide) rfl rfl rfl rfl ?_
    refine g_throw (pc := 28) th_X2_store_28 (Nat.le_of_ble_eq_true rfl) (Nat.le_of_ble_eq_true rfl) ?_
    exact ⟨_, ⟨rfl, rfl⟩, rfl⟩
theorem m_X2_store_2 {T : Nat → Nat} {t f : Nat} (hS : Snap I 4 V C) (hW : WF V) (hT : Tx I 39 T t) (ht : I 3 7 = nI t) (hP : PE T t none) (hF : FF V f) (hN : f = 8 ∨ ¬ (0 : Int32) ≤ arI V ((t - 4 + 7) / 8 * (T 0 - 48 + 8))) : gX G YX2_store (d + 9) [.ref 3] n I L D (.inr "java/lang/IllegalStateException") (fun J => J = gUp I 3 7 (nI 0)) := by
  obtain ⟨h5, h36, hc, hd, hs⟩ := PE_fit hP
  have hb4 : (t - 4 + 7) / 8 ≤ 4 := by omega
  have hm1 : (t - 4 + 7) / 8 * (T 0 - 48 + 8) < 1000 := Nat.lt_of_le_of_lt (Nat.mul_le_mul hb4 (show T 0 - 48 + 8 ≤ 14 by omega)) (by decide)
  have em : (t - 4 + 7) / 8 * (8 + (T 0 - 48)) = (t - 4 + 7) / 8 * (T 0 - 48 + 8) := by rw [Nat.add_comm 8]
  have hS0 : Snap (gUp I 3 7 (nI 0)) 4 V C := hS.f (fun x h1 h2 => gUp_ne (by omega))
  have hT0 : Tx (gUp I 3 7 (nI 0)) 39 T t := hT.s (gUp_ne (by decide))
  have t0 := hT.2 0 (by omega)
  have t2 := hT.2 2 (by omega)
  refine g_aload_n (pc := 0) dX2_store_0 rfl rfl ?_
  refine g_getIV (pc := 1) dX2_store_1 fl_X2_41 s_3 (by decide) rfl ht ?_
  refine g_istore_n (pc := 4) dX2_store_4 rfl (Nat.le_of_ble_eq_true rfl) rfl ?_
  refine g_aload_n (pc := 5) dX2_store_5 rfl rfl ?_
  refine g_iconst (v := nI 0) (pc := 6) dX2_store_6 rfl ?_
  refine g_putI (pc := 7) dX2_store_7 fl_X2_41 s_3 (by decide) rfl rfl rfl rfl ?_
  refine g_aload_n (pc := 10) dX2_store_10 rfl rfl ?_
  refine g_getR (pc := 11) dX2_store_11 fl_X2_30 s_3 (by decide) rfl t_3_4 ?_
  refine g_iload_n (pc := 14) dX2_store_14 rfl rfl ?_
  refine g_fS (av := [.ref 39, .int _]) (pc := 15) dX2_store_15 mt_X2_textError lk_X2_83 sf_X2_textError np_X2_textError rfl (gc_r (gc_i gc_0)) (Nat.le_of_ble_eq_true rfl) (Nat.le_of_ble_eq_true rfl) ⟨Nat.zero_le _, Nat.zero_le _⟩ (gFn_deep (by omega) (m_X2_textError (d := d) hT0 hP)) ?_
  refine g_istore_n (pc := 18) dX2_store_18 rfl (Nat.le_of_ble_eq_true rfl) rfl ?_
  refine g_iload_n (pc := 19) dX2_store_19 rfl rfl ?_
  refine g_if_lt (tgt := 38) (pc := 20) dX2_store_20 (by decide) (fun c20 => ?_) (fun c20 => ?_)
  rotate_left
  · exact absurd (show (-1 : Int32) < 0 by decide) c20
  refine g_iload_n (pc := 38) dX2_store_38 rfl rfl ?_
  refine g_iconst (v := nI 4) (pc := 39) dX2_store_39 rfl ?_
  refine g_isubN (pc := 40) dX2_store_40 (by omega) ?_
  refine g_istore_n (pc := 41) dX2_store_41 rfl (Nat.le_of_ble_eq_true rfl) rfl ?_
  refine g_aload_n (pc := 42) dX2_store_42 rfl rfl ?_
  refine g_getR (pc := 43) dX2_store_43 fl_X2_30 s_3 (by decide) rfl t_3_4 ?_
  refine g_iconst (v := nI 0) (pc := 46) dX2_store_46 rfl ?_
  refine g_caloadN (pc := 47) dX2_store_47 s_39 (by decide) (by omega) (by decide) (show _ = nI (T 0) from t0.1) ?_
  refine g_bipush (v := nI 48) (pc := 48) dX2_store_48 rfl ?_
  refine g_isubN (pc := 50) dX2_store_50 (by omega) ?_
  refine g_istore (pc := 51) dX2_store_51 (Nat.le_of_ble_eq_true rfl) rfl ?_
  refine g_aload_n (pc := 53) dX2_store_53 rfl rfl ?_
  refine g_getR (pc := 54) dX2_store_54 fl_X2_12 s_3 (by decide) rfl t_3_0 ?_
  refine g_fV (av := []) (pc := 57) dX2_store_57 mt_X1_freeFile lk_X2_89 im_X1_freeFile se_X1_freeFile np_X1_freeFile s_4 (by decide) (by decide) rfl gc_0 (Nat.le_of_ble_eq_true rfl) (Nat.le_of_ble_eq_true rfl) ⟨Nat.zero_le _, Nat.zero_le _⟩ (m_X1_freeFile hS0 hW hF) ?_
  refine g_istore (pc := 60) dX2_store_60 (Nat.le_of_ble_eq_true rfl) rfl ?_
  refine g_aload_n (pc := 62) dX2_store_62 rfl rfl ?_
  refine g_getR (pc := 63) dX2_store_63 fl_X2_12 s_3 (by decide) rfl t_3_0 ?_
  refine g_iload_n (pc := 66) dX2_store_66 rfl rfl ?_
  refine g_fS (av := [.int _]) (pc := 67) dX2_store_67 mt_X2_blocksFor lk_X2_92 sf_X2_blocksFor np_X2_blocksFor rfl (gc_i gc_0) (Nat.le_of_ble_eq_true rfl) (Nat.le_of_ble_eq_true rfl) ⟨Nat.zero_le _, Nat.zero_le _⟩ (m_X2_blocksFor (by omega)) ?_
  refine g_bipush (v := nI 8) (pc := 70) dX2_store_70 rfl ?_
  refine g_iload (pc := 72) dX2_store_72 rfl ?_
  refine g_iaddN (pc := 74) dX2_store_74 ?_
  refine g_imulN (pc := 75) dX2_store_75 ?_
  rw [em]
  refine g_fV (av := [.int _]) (pc := 76) dX2_store_76 mt_X1_freeArea lk_X2_96 im_X1_freeArea se_X1_freeArea np_X1_freeArea s_4 (by decide) (by decide) rfl (gc_i gc_0) (Nat.le_of_ble_eq_true rfl) (Nat.le_of_ble_eq_true rfl) ⟨Nat.zero_le _, Nat.zero_le _⟩ (m_X1_freeArea hS0 hW hm1) ?_
  refine g_istore (pc := 79) dX2_store_79 (Nat.le_of_ble_eq_true rfl) rfl ?_
  refine g_iload (pc := 81) dX2_store_81 rfl ?_
  refine g_if_lt (tgt := 91) (pc := 83) dX2_store_83 (by decide) (fun c83 => ?_) (fun c83 => ?_)
  · refine g_throw (pc := 91) th_X2_store_91 (Nat.le_of_ble_eq_true rfl) (Nat.le_of_ble_eq_true rfl) ?_
    exact ⟨_, ⟨rfl, rfl⟩, rfl⟩
  · refine g_iload (pc := 86) dX2_store_86 rfl ?_
    refine g_if_ge (tgt := 101) (pc := 88) dX2_store_88 (by decide) (fun c88 => ?_) (fun c88 => ?_)
    · rcases hN with q | q
      · rw [if_neg (by omega)] at c83
        exact absurd (by decide) c83
      · exact absurd c88 q
    · refine g_throw (pc := 91) th_X2_store_91 (Nat.le_of_ble_eq_true rfl) (Nat.le_of_ble_eq_true rfl) ?_
      exact ⟨_, ⟨rfl, rfl⟩, rfl⟩
theorem l_st_out {J I1 I2 : Nat → Nat → Int32} {V1 T : Nat → Nat} {C1 E : Nat → Int32} {f q c dp fs o2 : Nat} (hf : f < 8) (hW : WF V) (hK0 : stK (enV V f q c dp fs 0) f q c) (hKe : stK (enV V f q c dp fs (slT T q)) f q c) (hKd : stK (edV V f q c dp fs) f q c) (hC1 : Cs I1 V1 C1 H m o2) (k2 : Sm [9, 10, 11, 12, 14, 15] I1 I2) (q1 : Snap J 4 (uV (clB (edV V f q c dp fs) T f q c ((q + 7) / 8)) (10 * f + 4) (slT T q)) E) (q2 : Sm [5, 6, 7, 8, 13, 29, 30, 31, 32, 33] I2 J) : ∃ o2, Cs J (stB (enV V f q c dp fs (slT T q)) T f q c ((q + 7) / 8)) E H m o2 := by
  obtain ⟨kb, klo⟩ := clB_ok (T := T) hKd ((q + 7) / 8) (Nat.le_refl _)
  obtain ⟨sb, sb6, sb8⟩ := stB_ok (T := T) hKe ((q + 7) / 8) (Nat.le_refl _)
  have hbl4 : (q + 7) / 8 ≤ 4 := by rw [← kb.2.2.2.1]; exact bl_le (kb.1.1 f hf)
  have hcmp := stB_cmp (T := T) (n := q) (c := c) hf (E := enV V f q c dp fs (slT T q)) (W := edV V f q c dp fs) (fun k hk => by
    unfold Pz at hk
    unfold edV
    rw [if_neg (by omega)]
    unfold enV
    rw [uV_n (show k ≠ 10 * f + 4 by omega), uV_n (show k ≠ 10 * f + 4 by omega)]) ((q + 7) / 8) hbl4
  have hblA : bl (uV (clB (edV V f q c dp fs) T f q c ((q + 7) / 8)) (10 * f + 4) (slT T q)) f = (q + 7) / 8 := by
    have e := kb.2.2.2.1
    unfold bl at e ⊢
    rw [uV_n (by omega)]; exact e
  refine ⟨o2, hC1.f (q1.ext (fun j hj x hx => ?_) (fun k hk hm => ?_) (fun k _ => rfl)) (fun a h1 h2 => by rw [q2 a (by intro z; simp at z; omega), k2 a (by intro z; simp at z; omega)]) (by rw [q2 3 (by decide), k2 3 (by decide)]) (by rw [q2 3 (by decide), k2 3 (by decide)])⟩
  · by_cases e : j = f
    · subst e
      rw [hblA] at hx
      rw [stB_day hKe _ (Nat.le_refl _) x hx, uV_n (by omega), klo _ (by omega), edV_d (by omega), enV_o (by omega)]
    · by_cases hx4 : x < 4
      · rw [uV_n (by omega)]
        exact hcmp _ (by unfold Pz; omega)
      · have hbj : bl (uV (clB (edV V f q c dp fs) T f q c ((q + 7) / 8)) (10 * f + 4) (slT T q)) j ≤ 4 := by
          have e2 : bl (uV (clB (edV V f q c dp fs) T f q c ((q + 7) / 8)) (10 * f + 4) (slT T q)) j = bl (clB (edV V f q c dp fs) T f q c ((q + 7) / 8)) j := by unfold bl; rw [uV_n (by omega)]
          rw [e2]; exact kb.1.bl4 j hj
        omega
  · by_cases e : k = 10 * f + 4
    · rw [e, uV_s, sb6 4 (by decide)]
      exact enV_f.2.2.2.2.1
    · rw [uV_n e]
      exact hcmp k (by
        unfold Pz
        by_cases h8 : k < 80
        · have := hm h8
          omega
        · omega)
theorem m_X2_store_0 {T : Nat → Nat} {t f fs : Nat} (hK : Kt I) (h : Cs I V C H m o) (hW : WF V) (hT : Tx I 39 T t) (ht : I 3 7 = nI t) (hP : PE T t none) (hF : FF V f) (hf : f < 8) (hfl : fs ≤ 240) (hfs : arI V ((t - 4 + 7) / 8 * (T 0 - 48 + 8)) = nI fs) : gX G YX2_store (d + 9) [.ref 3] n I L D (.inl (some (.int (nI f)))) (fun J => (∃ o2, Cs J (stF V T t f fs) (addC C 7 (nI ((t - 4 + 7) / 8 * (T 0 - 48 + 8)))) (push H m (V, C)) (pm m) o2) ∧ J 3 7 = nI 0 ∧ Ftc I J) := by
  have hS := h.1
  obtain ⟨h5, h36, hc, hd, hs⟩ := PE_fit hP
  have hb4 : (t - 4 + 7) / 8 ≤ 4 := by omega
  have hm1 : (t - 4 + 7) / 8 * (T 0 - 48 + 8) < 1000 := Nat.lt_of_le_of_lt (Nat.mul_le_mul hb4 (show T 0 - 48 + 8 ≤ 14 by omega)) (by decide)
  have em : (t - 4 + 7) / 8 * (8 + (T 0 - 48)) = (t - 4 + 7) / 8 * (T 0 - 48 + 8) := by rw [Nat.add_comm 8]
  have hS0 : Snap (gUp I 3 7 (nI 0)) 4 V C := hS.f (fun x h1 h2 => gUp_ne (by omega))
  have hT0 : Tx (gUp I 3 7 (nI 0)) 39 T t := hT.s (gUp_ne (by decide))
  have t0 := hT.2 0 (by omega)
  have t2 := hT.2 2 (by omega)
  have hKe := (st_K hW hP hF hf hfs hfl).1
  have g := en_geo (V := V) (f := f) (n := t - 4) (c := T 0 - 48) (dp := T 2 - 48) (fs := fs) (sl := 0)
  obtain ⟨fs2, e9, r1, r2⟩ := arI_ok (V := V) (m := (t - 4 + 7) / 8 * (T 0 - 48 + 8)) (by rw [hfs]; exact nI_pos' (by omega))
  have e92 : fs = fs2 := (nI_eq (by omega) (by omega)).mp (hfs.symm.trans e9)
  rw [← e92] at r1 r2
  have hK0 : stK (enV V f (t - 4) (T 0 - 48) (T 2 - 48) fs 0) f (t - 4) (T 0 - 48) := ⟨WF_en hW hf (hF.2.2 hf) (by omega) (by omega) (by omega) (Nat.zero_le _) r1 r2, hf, enV_f.1, g.1, g.2.1⟩
  have hKd := edV_K hf hK0
  have hfe := edV_f (V := V) (f := f) (n := t - 4) (c := T 0 - 48) (dp := T 2 - 48) (fs := fs)
  have h0 : Cs (gUp I 3 7 (nI 0)) V C H m o := h.f hS0 (fun x h1 h2 => gUp_ne (by omega)) (by rw [gUp_c, if_neg (by decide)]) (by rw [gUp_c, if_neg (by decide)])
  refine g_aload_n (pc := 0) dX2_store_0 rfl rfl ?_
  refine g_getIV (pc := 1) dX2_store_1 fl_X2_41 s_3 (by decide) rfl ht ?_
  refine g_istore_n (pc := 4) dX2_store_4 rfl (Nat.le_of_ble_eq_true rfl) rfl ?_
  refine g_aload_n (pc := 5) dX2_store_5 rfl rfl ?_
  refine g_iconst (v := nI 0) (pc := 6) dX2_store_6 rfl ?_
  refine g_putI (pc := 7) dX2_store_7 fl_X2_41 s_3 (by decide) rfl rfl rfl rfl ?_
  refine g_aload_n (pc := 10) dX2_store_10 rfl rfl ?_
  refine g_getR (pc := 11) dX2_store_11 fl_X2_30 s_3 (by decide) rfl t_3_4 ?_
  refine g_iload_n (pc := 14) dX2_store_14 rfl rfl ?_
  refine g_fS (av := [.ref 39, .int _]) (pc := 15) dX2_store_15 mt_X2_textError lk_X2_83 sf_X2_textError np_X2_textError rfl (gc_r (gc_i gc_0)) (Nat.le_of_ble_eq_true rfl) (Nat.le_of_ble_eq_true rfl) ⟨Nat.zero_le _, Nat.zero_le _⟩ (gFn_deep (by omega) (m_X2_textError (d := d) hT0 hP)) ?_
  refine g_istore_n (pc := 18) dX2_store_18 rfl (Nat.le_of_ble_eq_true rfl) rfl ?_
  refine g_iload_n (pc := 19) dX2_store_19 rfl rfl ?_
  refine g_if_lt (tgt := 38) (pc := 20) dX2_store_20 (by decide) (fun c20 => ?_) (fun c20 => ?_)
  rotate_left
  · exact absurd (show (-1 : Int32) < 0 by decide) c20
  refine g_iload_n (pc := 38) dX2_store_38 rfl rfl ?_
  refine g_iconst (v := nI 4) (pc := 39) dX2_store_39 rfl ?_
  refine g_isubN (pc := 40) dX2_store_40 (by omega) ?_
  refine g_istore_n (pc := 41) dX2_store_41 rfl (Nat.le_of_ble_eq_true rfl) rfl ?_
  refine g_aload_n (pc := 42) dX2_store_42 rfl rfl ?_
  refine g_getR (pc := 43) dX2_store_43 fl_X2_30 s_3 (by decide) rfl t_3_4 ?_
  refine g_iconst (v := nI 0) (pc := 46) dX2_store_46 rfl ?_
  refine g_caloadN (pc := 47) dX2_store_47 s_39 (by decide) (by omega) (by decide) (show _ = nI (T 0) from t0.1) ?_
  refine g_bipush (v := nI 48) (pc := 48) dX2_store_48 rfl ?_
  refine g_isubN (pc := 50) dX2_store_50 (by omega) ?_
  refine g_istore (pc := 51) dX2_store_51 (Nat.le_of_ble_eq_true rfl) rfl ?_
  refine g_aload_n (pc := 53) dX2_store_53 rfl rfl ?_
  refine g_getR (pc := 54) dX2_store_54 fl_X2_12 s_3 (by decide) rfl t_3_0 ?_
  refine g_fV (av := []) (pc := 57) dX2_store_57 mt_X1_freeFile lk_X2_89 im_X1_freeFile se_X1_freeFile np_X1_freeFile s_4 (by decide) (by decide) rfl gc_0 (Nat.le_of_ble_eq_true rfl) (Nat.le_of_ble_eq_true rfl) ⟨Nat.zero_le _, Nat.zero_le _⟩ (m_X1_freeFile hS0 hW hF) ?_
  rw [if_pos hf]
  refine g_istore (pc := 60) dX2_store_60 (Nat.le_of_ble_eq_true rfl) rfl ?_
  refine g_aload_n (pc := 62) dX2_store_62 rfl rfl ?_
  refine g_getR (pc := 63) dX2_store_63 fl_X2_12 s_3 (by decide) rfl t_3_0 ?_
  refine g_iload_n (pc := 66) dX2_store_66 rfl rfl ?_
  refine g_fS (av := [.int _]) (pc := 67) dX2_store_67 mt_X2_blocksFor lk_X2_92 sf_X2_blocksFor np_X2_blocksFor rfl (gc_i gc_0) (Nat.le_of_ble_eq_true rfl) (Nat.le_of_ble_eq_true rfl) ⟨Nat.zero_le _, Nat.zero_le _⟩ (m_X2_blocksFor (by omega)) ?_
  refine g_bipush (v := nI 8) (pc := 70) dX2_store_70 rfl ?_
  refine g_iload (pc := 72) dX2_store_72 rfl ?_
  refine g_iaddN (pc := 74) dX2_store_74 ?_
  refine g_imulN (pc := 75) dX2_store_75 ?_
  rw [em]
  refine g_fV (av := [.int _]) (pc := 76) dX2_store_76 mt_X1_freeArea lk_X2_96 im_X1_freeArea se_X1_freeArea np_X1_freeArea s_4 (by decide) (by decide) rfl (gc_i gc_0) (Nat.le_of_ble_eq_true rfl) (Nat.le_of_ble_eq_true rfl) ⟨Nat.zero_le _, Nat.zero_le _⟩ (m_X1_freeArea hS0 hW hm1) ?_
  rw [hfs]
  refine g_istore (pc := 79) dX2_store_79 (Nat.le_of_ble_eq_true rfl) rfl ?_
  refine g_iload (pc := 81) dX2_store_81 rfl ?_
  refine g_if_ltN (tgt := 91) (pc := 83) dX2_store_83 (by decide) (by omega) (fun c83 => ?_) (fun c83 => ?_)
  · omega
  refine g_iload (pc := 86) dX2_store_86 rfl ?_
  refine g_if_geN (tgt := 101) (pc := 88) dX2_store_88 (by decide) (by omega) (fun c88 => ?_) (fun c88 => ?_)
  rotate_left
  · omega
  refine g_aload_n (pc := 101) dX2_store_101 rfl rfl ?_
  refine g_rvV (av := []) (pc := 102) dX2_store_102 mt_X2_remember lk_X2_101 im_X2_remember se_X2_remember np_X2_remember s_3 (by decide) (by decide) rfl gc_0 (Nat.le_of_ble_eq_true rfl) (Nat.le_of_ble_eq_true rfl) (m_X2_remember h0 hW) ?_
  rintro I1 ⟨⟨o2, hC1⟩, hR⟩
  refine g_aload_n (pc := 105) dX2_store_105 rfl rfl ?_
  refine g_getR (pc := 106) dX2_store_106 fl_X2_12 s_3 (by decide) rfl t_3_0 ?_
  refine g_iload (pc := 109) dX2_store_109 rfl ?_
  refine g_iload_n (pc := 111) dX2_store_111 rfl rfl ?_
  refine g_iload (pc := 112) dX2_store_112 rfl ?_
  refine g_aload_n (pc := 114) dX2_store_114 rfl rfl ?_
  refine g_getR (pc := 115) dX2_store_115 fl_X2_30 s_3 (by decide) rfl t_3_4 ?_
  refine g_iconst (v := nI 2) (pc := 118) dX2_store_118 rfl ?_
  refine g_caloadN (pc := 119) dX2_store_119 s_39 (by decide) (by omega) (by decide) (show _ = nI (T 2) from by rw [hR.1 39 (by omega), gUp_ne (by decide)]; exact t2.1) ?_
  refine g_bipush (v := nI 48) (pc := 120) dX2_store_120 rfl ?_
  refine g_isubN (pc := 122) dX2_store_122 (by omega) ?_
  refine g_iload (pc := 123) dX2_store_123 rfl ?_
  refine g_rvV (av := [.int _, .int _, .int _, .int _, .int _]) (pc := 125) dX2_store_125 mt_X1_enter lk_X2_104 im_X1_enter se_X1_enter np_X1_enter s_4 (by decide) (by decide) rfl (gc_i (gc_i (gc_i (gc_i (gc_i gc_0))))) (Nat.le_of_ble_eq_true rfl) (Nat.le_of_ble_eq_true rfl) (m_X1_enter hC1.1 hW hf (hF.2.2 hf) (by omega) (by omega) (by omega) (by omega)) ?_
  rintro I2 ⟨k1, k2⟩
  refine g_aload_n (pc := 128) dX2_store_128 rfl rfl ?_
  refine g_iload (pc := 129) dX2_store_129 rfl ?_
  refine g_rvV (av := [.int _]) (pc := 131) dX2_store_131 mt_X2_writeFile lk_X2_108 im_X2_writeFile se_X2_writeFile np_X2_writeFile s_3 (by decide) (by decide) rfl (gc_i gc_0) (Nat.le_of_ble_eq_true rfl) (Nat.le_of_ble_eq_true rfl) (gRv_deep (by omega) (m_X2_writeFile (d := d) (T := T) (t := t) (hK.e (by rw [k2 1 (by decide), hR.1 1 (by omega), gUp_ne (by decide)]) (by rw [k2 2 (by decide), hR.1 2 (by omega), gUp_ne (by decide)])) k1 hKd (by omega) (by omega) hfe.2.2.1 hfe.2.1 (hT.s (by rw [k2 39 (by decide), hR.1 39 (by omega), gUp_ne (by decide)])) (by omega) hs)) ?_
  rintro I3 ⟨q1, q2⟩
  refine g_iload (pc := 134) dX2_store_134 rfl ?_
  refine g_iret (pc := 136) dX2_store_136 rfl rfl ?_
  exact ⟨_, ⟨rfl, rfl⟩, l_st_out hf hW hK0 hKe hKd hC1 k2 q1 q2, by rw [q2 3 (by decide), k2 3 (by decide), hR.2 7 (by decide), gUp_c, if_pos rfl], fun a ha => by rw [q2 a (by intro z; simp at z; omega), k2 a (by intro z; simp at z; omega), hR.1 a (by omega), gUp_ne (by omega)], fun j hj => by rw [q2 3 (by decide), k2 3 (by decide), hR.2 j (by intro z; simp at z; exact hj (by simp; omega)), gUp_c, if_neg (fun e => hj (by rw [e]; decide))]⟩
end

