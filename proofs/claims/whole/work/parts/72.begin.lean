/-! ===== the law's beginning ===== -/
theorem rel_start {I J : Nat → Nat → Int32} (hz : Zr I 3) (h1 : ∀ j, I 1 j = gPow j) (h2 : ∀ j, I 2 j = gLog j) (hT : Tb J) (hS : Sm [120, 121, 122] (gUp (gUp I 3 9 (-1)) 114 5 (-1)) J) : Rel J := by
  have z : ∀ a j, 3 ≤ a → a ≠ 120 → a ≠ 121 → a ≠ 122 → ¬ (a = 3 ∧ j = 9) → ¬ (a = 114 ∧ j = 5) → J a j = nI 0 := fun a j g1 g2 g3 g4 g5 g6 => by
    rw [hS a (by simp; omega)]
    exact gUp_k g6 (gUp_k g5 (hz a g1 j))
  have zz : ∀ a j, 3 < a → a < 114 → J a j = nI 0 := fun a j g1 g2 => z a j (by omega) (by omega) (by omega) (by omega) (by omega) (by omega)
  have zy : ∀ j, j ≠ 9 → J 3 j = nI 0 := fun j g => z 3 j (by omega) (by omega) (by omega) (by omega) (by omega) (by omega)
  have zm : ∀ j, j ≠ 5 → J 114 j = nI 0 := fun j g => z 114 j (by omega) (by omega) (by omega) (by omega) (by omega) (by omega)
  have e1 : J 3 9 = -1 := by
    rw [hS 3 (by decide)]
    exact gUp_k (by decide) (by rw [gUp_c]; exact if_pos rfl)
  have e2 : J 114 5 = -1 := by
    rw [hS 114 (by decide), gUp_c]
    exact if_pos rfl
  have k1 : ∀ j, J 1 j = gPow j := fun j => by
    rw [hS 1 (by decide)]
    exact gUp_a (by decide) (gUp_a (by decide) (h1 j))
  have k2 : ∀ j, J 2 j = gLog j := fun j => by
    rw [hS 2 (by decide)]
    exact gUp_a (by decide) (gUp_a (by decide) (h2 j))
  have kP : ∀ k, k < 15 → gPow k = fI (fp k) := by decide +kernel
  have kL : ∀ a : F6, gLog a.val = nI (lgN a) := by decide +kernel
  have hsn : Snap J 4 (fun _ => 0) (fun _ => 0) := ⟨fun c _ => ⟨zz _ _ (by decide) (by decide), zz _ _ (by decide) (by decide), zz _ _ (by decide) (by decide)⟩, fun k _ => zz 8 k (by decide) (by decide), fun j _ => ⟨zz 9 j (by decide) (by decide), (zz 10 j (by decide) (by decide)).trans (by rw [show bl (fun _ => 0) j = 0 by unfold bl; simp]), zz 11 j (by decide) (by decide), zz 12 j (by decide) (by decide), zz 13 j (by decide) (by decide), zz 14 j (by decide) (by decide)⟩, fun j _ q _ => zz 15 _ (by decide) (by decide), zz 4 _ (by decide) (by decide)⟩
  have hn : ∀ {P : Nat → Prop} (k : Nat), k < 0 → P k := fun k h => absurd h (Nat.not_lt_zero k)
  refine ⟨fun _ => 0, fun _ => 0, fun _ => (fun _ => 0, fun _ => 0), 0, fun _ => 0, 0, -1, none, 0, fun _ => 0, ⟨fun k hk => (k1 k).trans (kP k hk), fun a => (k2 _).trans (kL a)⟩, ⟨WF_0, fun k h => absurd h (Nat.not_lt_zero k), fun s h => (by cases h), by decide⟩, ⟨⟨0, hsn, zy _ (by decide), zy _ (by decide), by decide, by decide, fun k h => absurd h (Nat.not_lt_zero k)⟩, ⟨⟨by decide, fun k h => absurd h (Nat.not_lt_zero k)⟩, zy _ (by decide)⟩, e1, zy _ (by decide), zy _ (by decide), fun k h => absurd h (Nat.not_lt_zero k)⟩, ⟨⟨?_, ?_⟩, zm _ (by decide), by decide, fun k h => absurd h (Nat.not_lt_zero k)⟩, ⟨⟨by decide, fun k h => absurd h (Nat.not_lt_zero k)⟩, zm _ (by decide)⟩, e2, zm _ (by decide), ⟨zm _ (by decide), fun k h => absurd h (Nat.not_lt_zero k)⟩, hT, fun _ _ => 0, ?_⟩
  · exact fun k _ => z 115 k (by decide) (by decide) (by decide) (by decide) (by omega) (by omega)
  · exact fun k _ => z 115 _ (by decide) (by decide) (by decide) (by decide) (by omega) (by omega)
  · exact fun j x _ _ => z 128 _ (by decide) (by decide) (by decide) (by decide) (by omega) (by omega)
def I00 (xs : Nat → Int32) : Nat → Nat → Int32 := fun k => if k = 0 then xs else if k = 1 then gPow else if k = 2 then gLog else fun _ => 0
theorem I00_z {xs : Nat → Int32} : Zr (I00 xs) 3 := fun a ha b => by
  unfold I00
  rw [if_neg (by omega), if_neg (by omega), if_neg (by omega)]
theorem gH0_hg {n : Nat} {xs : Nat → Int32} : gH0 n xs = hg n 3 0 (I00 xs) := rfl
theorem hg_hp {n : Nat} {J : Nat → Nat → Int32} : hg n 133 126 J = hp n J zL zD := by
  have e1 : (S0 n).take 133 = S0 n := List.take_of_length_le (Nat.le_of_eq (show (S0 n).length = 133 from rfl))
  have e2 : T0l.take 126 = T0l := List.take_of_length_le (Nat.le_of_eq T0_len)
  show ((S0 n).take 133, gLt (T0l.take 126), J, zL, zD) = (S0 n, gLt T0l, J, zL, zD)
  rw [e1, e2]
theorem law_start {G : gG} {n : Nat} {xs : Nat → Int32} (hn : n ≤ 2048) : gGo G gYlaw 40 0 (gIn 9 [.ref 0]) [] (gH0 n xs) room_1.cells room_1.slots (fun o _ => o = .inl (some (.int 1))) := by
  refine g_bud (kc' := 642) (ks' := 17114) (by decide) (by decide) ?_
  rw [gH0_hg]
  have hz := I00_z (xs := xs)
  have hz2 : Zr (gUp (I00 xs) 3 9 (-1)) 4 := Zr.u (hz.m (by decide)) (by decide)
  have hz3 : Zr (gUp (gUp (I00 xs) 3 9 (-1)) 114 5 (-1)) 115 := Zr.u (hz2.m (by decide)) (by decide)
  refine h_new (pc := 0) dL_law_0 mk_L_2 s_3 (by decide +kernel) hz (by decide) (by decide) ?_
  refine g_dup (pc := 3) dL_law_3 rfl ?_
  refine h_callI (pc := 4) dL_law_4 mt_X2_init lk_L_130 im_X2_init rfl rfl np_X2_init (by decide) (by decide) ⟨by decide, by decide⟩ (c_X2 (d := 38) hz) ?_
  refine g_astore_n (pc := 7) dL_law_7 rfl (Nat.le_of_ble_eq_true rfl) rfl ?_
  refine h_new (pc := 8) dL_law_8 mk_L_3 s_114 (by decide +kernel) (hz2.m (by decide)) (by decide) (by decide) ?_
  refine g_dup (pc := 11) dL_law_11 rfl ?_
  refine g_callI (av := []) (st := [.ref 114]) (pc := 12) dL_law_12 mt_X3_init lk_L_133 im_X3_init rfl rfl rfl np_X3_init gc_0 (by decide) (by decide) ⟨by decide, by decide⟩ (c_X3 (d := 38) (hz2.m (by decide))) (fun v h9 _ q => ?_) (fun X h9 q => ?_)
  · obtain ⟨J, ⟨q1, rfl⟩, hT, hS⟩ := q
    cases q1
    have hzJ : Zr J 131 := fun a ha b => by
      rw [hS a (by simp; omega)]
      exact hz3 a (by omega) b
    refine g_astore_n (pc := 15) dL_law_15 rfl (Nat.le_of_ble_eq_true rfl) rfl ?_
    refine g_iconst (v := nI 1) (pc := 16) dL_law_16 rfl ?_
    refine h_newL (N := 1) (pc := 17) dL_law_17 s_131 (by decide +kernel) hzJ rfl (by decide) (by decide) (by decide) ?_
    refine g_astore_n (pc := 19) dL_law_19 rfl (Nat.le_of_ble_eq_true rfl) rfl ?_
    refine g_iconst (v := nI 1) (pc := 20) dL_law_20 rfl ?_
    refine h_newD (N := 1) (pc := 21) dL_law_21 s_132 (by decide +kernel) (hzJ.m (by decide)) rfl (by decide) (by decide) (by decide) ?_
    refine g_astore (pc := 23) dL_law_23 (Nat.le_of_ble_eq_true rfl) rfl ?_
    refine g_iconst (v := nI 0) (pc := 25) dL_law_25 rfl ?_
    refine g_istore (pc := 26) dL_law_26 (Nat.le_of_ble_eq_true rfl) rfl ?_
    show gGo G gYlaw 40 28 [some (.ref 0), some (.ref 3), some (.ref 114), some (.ref 131), some (.ref 132), some (.int (nI (4 * 0))), none, none, none] [] (hg n 133 126 J) 512 (6 * 512) _
    rw [hg_hp]
    exact l_loop (G := G) (n := n) hn (fun h => rfl) 512 0 J zL zD (by decide) (rel_start hz (fun j => rfl) (fun j => rfl) hT hS)
  · obtain ⟨J, ⟨q1, -⟩, -⟩ := q
    cases q1

