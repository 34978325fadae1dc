/-! ===== specifications by what holds behind a call; loops; frames ===== -/
def gRi (G : gG) (Y : gY) (d : Nat) (av : List Value) (n : Nat) (I : Nat → Nat → Int32) (L : Nat → Nat → Int64) (D : Nat → Nat → UInt64) (P : Int32 → (Nat → Nat → Int32) → Prop) : Prop := gEv G Y d av (hp n I L D) 0 0 (fun o g => ∃ v I', (o = .inl (some (.int v)) ∧ g = hp n I' L D) ∧ P v I')
def gRv (G : gG) (Y : gY) (d : Nat) (av : List Value) (n : Nat) (I : Nat → Nat → Int32) (L : Nat → Nat → Int64) (D : Nat → Nat → UInt64) (P : (Nat → Nat → Int32) → Prop) : Prop := gEv G Y d av (hp n I L D) 0 0 (fun o g => ∃ I', (o = .inl none ∧ g = hp n I' L D) ∧ P I')
theorem gRi_of {G : gG} {Y : gY} {d n : Nat} {av : List Value} {I I' : Nat → Nat → Int32} {L : Nat → Nat → Int64} {D : Nat → Nat → UInt64} {v : Int32} {P : Int32 → (Nat → Nat → Int32) → Prop} (k : gFn G Y d av (hp n I L D) (.inl (some (.int v))) (hp n I' L D) 0 0) (hP : P v I') : gRi G Y d av n I L D P := g_imp (fun o g q => ⟨v, I', q, hP⟩) k
theorem gRi_imp {G : gG} {Y : gY} {d n : Nat} {av : List Value} {I : Nat → Nat → Int32} {L : Nat → Nat → Int64} {D : Nat → Nat → UInt64} {P Q : Int32 → (Nat → Nat → Int32) → Prop} (k : gRi G Y d av n I L D P) (h : ∀ v J, P v J → Q v J) : gRi G Y d av n I L D Q := g_imp (fun o g q => by obtain ⟨v, J, e, hP⟩ := q; exact ⟨v, J, e, h v J hP⟩) k
theorem gRv_imp {G : gG} {Y : gY} {d n : Nat} {av : List Value} {I : Nat → Nat → Int32} {L : Nat → Nat → Int64} {D : Nat → Nat → UInt64} {P Q : (Nat → Nat → Int32) → Prop} (k : gRv G Y d av n I L D P) (h : ∀ J, P J → Q J) : gRv G Y d av n I L D Q := g_imp (fun o g q => by obtain ⟨J, e, hP⟩ := q; exact ⟨J, e, h J hP⟩) k
theorem gRi_deep {G : gG} {Y : gY} {d d' n : Nat} {av : List Value} {I : Nat → Nat → Int32} {L : Nat → Nat → Int64} {D : Nat → Nat → UInt64} {P : Int32 → (Nat → Nat → Int32) → Prop} (hd : d ≤ d') (k : gRi G Y d av n I L D P) : gRi G Y d' av n I L D P := g_deep hd k
section
variable {G : gG} {Y Z : gY} {d pc ix n : Nat} {al : List (Option Value)} {av st st0 : List Value} {I : Nat → Nat → Int32} {L : Nat → Nat → Int64} {D : Nat → Nat → UInt64} {kc ks : Nat} {Q : gQ}
theorem g_riS {P : Int32 → (Nat → Nat → Int32) → Prop} (dg : decode Y.2.1 pc = .ok (.invokestatic ix, 3)) (hZ : gMt Z) (hl : gLk Y.1.cls ix Z.1) (hstc : Cond.static Z.1 ∈ gW) (hn : gNp Z.1 = some av.length) (hst0 : st0 = av.reverse ++ st) (hcat : ∀ v ∈ av, v.category = 1) (hnl : av.length ≤ Z.2.2.1) (hrest : (st.map fun v => v.category).sum ≤ 8) (he : gRi G Z d av n I L D P)
    (k : ∀ v I', P v I' → gGo G Y (d + 1) (pc + 3) al (.int v :: st) (hp n I' L D) kc ks Q) : gGo G Y (d + 1) pc al st0 (hp n I L D) kc ks Q :=
  g_callS dg hZ hl hstc hst0 hn hcat hnl hrest ⟨Nat.zero_le _, Nat.zero_le _⟩ he (fun v' h9 _ q => by obtain ⟨v, I', ⟨e1, e2⟩, hP⟩ := q; cases e1; rw [e2]; exact k v I' hP) (fun X h9 q => by obtain ⟨v, I', ⟨e1, e2⟩, hP⟩ := q; cases e1)
theorem g_rvS {P : (Nat → Nat → Int32) → Prop} (dg : decode Y.2.1 pc = .ok (.invokestatic ix, 3)) (hZ : gMt Z) (hl : gLk Y.1.cls ix Z.1) (hstc : Cond.static Z.1 ∈ gW) (hn : gNp Z.1 = some av.length) (hst0 : st0 = av.reverse ++ st) (hcat : ∀ v ∈ av, v.category = 1) (hnl : av.length ≤ Z.2.2.1) (hrest : (st.map fun v => v.category).sum ≤ 8) (he : gRv G Z d av n I L D P)
    (k : ∀ I', P I' → gGo G Y (d + 1) (pc + 3) al st (hp n I' L D) kc ks Q) : gGo G Y (d + 1) pc al st0 (hp n I L D) kc ks Q :=
  g_callS dg hZ hl hstc hst0 hn hcat hnl hrest ⟨Nat.zero_le _, Nat.zero_le _⟩ he (fun v' h9 _ q => by obtain ⟨I', ⟨e1, e2⟩, hP⟩ := q; cases e1; rw [e2]; exact k I' hP) (fun X h9 q => by obtain ⟨I', ⟨e1, e2⟩, hP⟩ := q; cases e1)
theorem g_riV {P : Int32 → (Nat → Nat → Int32) → Prop} {r ci n0 : Nat} (dg : decode Y.2.1 pc = .ok (.invokevirtual ix, 3)) (hZ : gMt Z) (hl : gLk Y.1.cls ix Z.1) (hin : Cond.instanceMethod Z.1 ∈ gW) (hsel : Cond.selects (gRx ci) Z.1 Z.1 ∈ gW) (hn : gNp Z.1 = some av.length) (hS : (hp n I L D).1[r]? = some (1, ci, n0)) (hci : ci < 4) (h3 : 3 ≤ r) (hst0 : st0 = av.reverse ++ .ref r :: st) (hcat : ∀ v ∈ av, v.category = 1) (hnl : av.length + 1 ≤ Z.2.2.1) (hrest : (st.map fun v => v.category).sum ≤ 8) (he : gRi G Z d (.ref r :: av) n I L D P)
    (k : ∀ v I', P v I' → gGo G Y (d + 1) (pc + 3) al (.int v :: st) (hp n I' L D) kc ks Q) : gGo G Y (d + 1) pc al st0 (hp n I L D) kc ks Q :=
  g_callV dg hZ hl hin hsel hci hS h3 hst0 hn hcat hnl hrest ⟨Nat.zero_le _, Nat.zero_le _⟩ he (fun v' h9 _ q => by obtain ⟨v, I', ⟨e1, e2⟩, hP⟩ := q; cases e1; rw [e2]; exact k v I' hP) (fun X h9 q => by obtain ⟨v, I', ⟨e1, e2⟩, hP⟩ := q; cases e1)
theorem g_rvV {P : (Nat → Nat → Int32) → Prop} {r ci n0 : Nat} (dg : decode Y.2.1 pc = .ok (.invokevirtual ix, 3)) (hZ : gMt Z) (hl : gLk Y.1.cls ix Z.1) (hin : Cond.instanceMethod Z.1 ∈ gW) (hsel : Cond.selects (gRx ci) Z.1 Z.1 ∈ gW) (hn : gNp Z.1 = some av.length) (hS : (hp n I L D).1[r]? = some (1, ci, n0)) (hci : ci < 4) (h3 : 3 ≤ r) (hst0 : st0 = av.reverse ++ .ref r :: st) (hcat : ∀ v ∈ av, v.category = 1) (hnl : av.length + 1 ≤ Z.2.2.1) (hrest : (st.map fun v => v.category).sum ≤ 8) (he : gRv G Z d (.ref r :: av) n I L D P)
    (k : ∀ I', P I' → gGo G Y (d + 1) (pc + 3) al st (hp n I' L D) kc ks Q) : gGo G Y (d + 1) pc al st0 (hp n I L D) kc ks Q :=
  g_callV dg hZ hl hin hsel hci hS h3 hst0 hn hcat hnl hrest ⟨Nat.zero_le _, Nat.zero_le _⟩ he (fun v' h9 _ q => by obtain ⟨I', ⟨e1, e2⟩, hP⟩ := q; cases e1; rw [e2]; exact k I' hP) (fun X h9 q => by obtain ⟨I', ⟨e1, e2⟩, hP⟩ := q; cases e1)
end
/-- a loop whose head is pc: N rounds at most -/
theorem g_loop {σ : Type} {G : gG} {Y : gY} {d pc kc ks : Nat} {st : List Value} {Q : gQ} (N : Nat) (Inv : Nat → σ → Prop) (al : Nat → σ → List (Option Value)) (hh : σ → gH)
    (step : ∀ k s, k < N → Inv k s → (∀ s', Inv (k + 1) s' → gGo G Y d pc (al (k + 1) s') st (hh s') kc ks Q) → gGo G Y d pc (al k s) st (hh s) kc ks Q)
    (fin : ∀ s, Inv N s → gGo G Y d pc (al N s) st (hh s) kc ks Q) (k : Nat) (s : σ) (hk : k ≤ N) (h : Inv k s) : gGo G Y d pc (al k s) st (hh s) kc ks Q := by
  induction hm : N - k using Nat.strongRecOn generalizing k s with
  | _ m ih =>
    by_cases he : k = N
    · subst he; exact fin s h
    · exact step k s (by omega) h (fun s' h' => ih (N - (k + 1)) (by omega) (k + 1) s' (by omega) h' rfl)
def Sm (l : List Nat) (I J : Nat → Nat → Int32) : Prop := ∀ a, a ∉ l → J a = I a
def Sc (c : Nat) (l : List Nat) (I J : Nat → Nat → Int32) : Prop := ∀ j, j ∉ l → J c j = I c j
theorem Sm.rfl {l : List Nat} {I : Nat → Nat → Int32} : Sm l I I := fun _ _ => Eq.refl _
theorem Sc.rfl {c : Nat} {l : List Nat} {I : Nat → Nat → Int32} : Sc c l I I := fun _ _ => Eq.refl _
theorem Sm.trans {l : List Nat} {I J K : Nat → Nat → Int32} (h : Sm l I J) (k : Sm l J K) : Sm l I K := fun a ha => (k a ha).trans (h a ha)
theorem Sc.trans {c : Nat} {l : List Nat} {I J K : Nat → Nat → Int32} (h : Sc c l I J) (k : Sc c l J K) : Sc c l I K := fun a ha => (k a ha).trans (h a ha)
theorem Sm.mono {l l' : List Nat} {I J : Nat → Nat → Int32} (h : Sm l I J) (hl : ∀ a, a ∈ l → a ∈ l') : Sm l' I J := fun a ha => h a (fun q => ha (hl a q))
theorem Sc.mono {c : Nat} {l l' : List Nat} {I J : Nat → Nat → Int32} (h : Sc c l I J) (hl : ∀ a, a ∈ l → a ∈ l') : Sc c l' I J := fun a ha => h a (fun q => ha (hl a q))
theorem Sm.up {l : List Nat} {I J : Nat → Nat → Int32} {a j : Nat} {x : Int32} (ha : a ∈ l) (h : Sm l I J) : Sm l I (gUp J a j x) := fun b hb => (gUp_ne (fun e => hb (by rw [e]; exact ha))).trans (h b hb)
theorem Sc.up {c : Nat} {l : List Nat} {I J : Nat → Nat → Int32} {j : Nat} {x : Int32} (ha : j ∈ l) (h : Sc c l I J) : Sc c l I (gUp J c j x) := fun b hb => by
  rw [gUp_at, ← h b hb]
  exact if_neg (fun e => hb (by rw [e]; exact ha))
theorem Sc.un {c a : Nat} {l : List Nat} {I J : Nat → Nat → Int32} {j : Nat} {x : Int32} (ha : c ≠ a) (h : Sc c l I J) : Sc c l I (gUp J a j x) := fun b hb => by
  rw [gUp_ne ha]
  exact h b hb
theorem Sm.sc {c : Nat} {l l' : List Nat} {I J : Nat → Nat → Int32} (h : Sm l I J) (hc : c ∉ l) : Sc c l' I J := fun b _ => by rw [h c hc]
theorem gUp_c {J : Nat → Nat → Int32} {r k x : Nat} {v : Int32} : gUp J r k v r x = if x = k then v else J r x := by rw [gUp_at]
theorem Vok.o {I : Nat → Nat → Int32} {V : Nat → Nat} {a j : Nat} {x : Int32} (ha : 115 ≠ a) (h : Vok I V) : Vok (gUp I a j x) V := fun k hk => by rw [gUp_ne ha]; exact h k hk
theorem Vok.s {I J : Nat → Nat → Int32} {V : Nat → Nat} {l : List Nat} (h : Vok I V) (s : Sm l I J) (hl : 115 ∉ l) : Vok J V := fun k hk => by rw [s 115 hl]; exact h k hk
def uV (V : Nat → Nat) (k x : Nat) : Nat → Nat := fun j => if j = k then x else V j
theorem uV_s {V : Nat → Nat} {k x : Nat} : uV V k x k = x := if_pos rfl
theorem uV_n {V : Nat → Nat} {k x j : Nat} (h : j ≠ k) : uV V k x j = V j := if_neg h
theorem Vok.up {I : Nat → Nat → Int32} {V : Nat → Nat} {k x : Nat} (h : Vok I V) : Vok (gUp I 115 k (nI x)) (uV V k x) := fun j hj => by
  rw [gUp_c]
  by_cases e : j = k
  · rw [if_pos e, e, uV_s]
  · rw [if_neg e, uV_n e]; exact h j hj
theorem Vok.hi {I : Nat → Nat → Int32} {V : Nat → Nat} {k : Nat} {x : Int32} (hk : 801 ≤ k) (h : Vok I V) : Vok (gUp I 115 k x) V := fun j hj => by
  rw [gUp_c, if_neg (by omega)]; exact h j hj
/-- the counts -/
def Cok (I : Nat → Nat → Int32) (C : Nat → Int32) : Prop := ∀ k, k < 8 → I 115 (801 + k) = C k
theorem Cok.o {I : Nat → Nat → Int32} {C : Nat → Int32} {a j : Nat} {x : Int32} (ha : 115 ≠ a) (h : Cok I C) : Cok (gUp I a j x) C := fun k hk => by rw [gUp_ne ha]; exact h k hk
theorem Cok.s {I J : Nat → Nat → Int32} {C : Nat → Int32} {l : List Nat} (h : Cok I C) (s : Sm l I J) (hl : 115 ∉ l) : Cok J C := fun k hk => by rw [s 115 hl]; exact h k hk
theorem Cok.lo {I : Nat → Nat → Int32} {C : Nat → Int32} {k : Nat} {x : Int32} (hk : k < 801) (h : Cok I C) : Cok (gUp I 115 k x) C := fun j hj => by
  rw [gUp_c, if_neg (by omega)]; exact h j hj
def uC (C : Nat → Int32) (k : Nat) (x : Int32) : Nat → Int32 := fun j => if j = k then x else C j
theorem uC_s {C : Nat → Int32} {k : Nat} {x : Int32} : uC C k x k = x := if_pos rfl
theorem uC_n {C : Nat → Int32} {k j : Nat} {x : Int32} (h : j ≠ k) : uC C k x j = C j := if_neg h
theorem Cok.up {I : Nat → Nat → Int32} {C : Nat → Int32} {k : Nat} {x : Int32} (h : Cok I C) : Cok (gUp I 115 (801 + k) x) (uC C k x) := fun j hj => by
  rw [gUp_c]
  by_cases e : j = k
  · rw [if_pos (by omega), e, uC_s]
  · rw [if_neg (by omega), uC_n e]; exact h j hj
/-- what is remembered: rows of the past -/
abbrev hT : Type := Nat → (Nat → Nat) × (Nat → Int32)
def Snp (r : Nat → Int32) (s : (Nat → Nat) × (Nat → Int32)) : Prop := (∀ k, k < 801 → r k = nI (s.1 k)) ∧ ∀ k, k < 8 → r (801 + k) = s.2 k
def Pa (I : Nat → Nat → Int32) (H : hT) (m : Nat) : Prop := ∀ k, k < m → Snp (fun i => I 117 (809 * k + i)) (H k)
def pm (m : Nat) : Nat := if m = 6 then 6 else m + 1
def push (H : hT) (m : Nat) (s : (Nat → Nat) × (Nat → Int32)) : hT := if m = 6 then (fun k => if k = 5 then s else H (k + 1)) else (fun k => if k = m then s else H k)
theorem push_6 {H : hT} {s : (Nat → Nat) × (Nat → Int32)} {k : Nat} : push H 6 s k = if k = 5 then s else H (k + 1) := by unfold push; rw [if_pos rfl]
theorem push_n {H : hT} {m : Nat} {s : (Nat → Nat) × (Nat → Int32)} {k : Nat} (h : ¬ m = 6) : push H m s k = if k = m then s else H k := by unfold push; rw [if_neg h]
theorem pm_6 : pm 6 = 6 := rfl
theorem pm_n {m : Nat} (h : ¬ m = 6) : pm m = m + 1 := if_neg h
theorem pm_le {m : Nat} (h : m ≤ 6) : pm m ≤ 6 ∧ 1 ≤ pm m := by unfold pm; split <;> omega
section
variable {G : gG} {d n : Nat} {I : Nat → Nat → Int32} {L : Nat → Nat → Int64} {D : Nat → Nat → UInt64} {V : Nat → Nat}
theorem l_X3_keeps2 {H : hT} {q : Nat} {C : Nat → Int32} {x : Option Value} (hq : q < 6) (h4 : I 114 4 = nI q) (hP : Pa I H q) (hV : Vok I V) (hC : Cok I C) : gGo G YX3_keeps d 50 [some (.ref 114), x] [] (hp n I L D) 0 0 (fun o g => ∃ J, (o = .inl none ∧ g = hp n J L D) ∧ Sm [114, 117] I J ∧ Sc 114 [4] I J ∧ J 114 4 = nI (q + 1) ∧ Pa J (fun k => if k = q then (V, C) else H k) (q + 1)) := by
  refine g_iconst (v := nI 0) (pc := 50) dX3_keeps_50 rfl ?_
  refine g_istore_n (pc := 51) dX3_keeps_51 rfl (Nat.le_of_ble_eq_true rfl) rfl ?_
  refine g_loop 809 (fun k J => Sm [117] I J ∧ ∀ x, J 117 x = if 809 * q ≤ x ∧ x < 809 * q + k then I 115 (x - 809 * q) else I 117 x) (fun k _ => [some (.ref 114), some (.int (nI k))]) (fun J => hp n J L D) (fun k J hk hJ kn => ?_) (fun J hJ => ?_) 0 I (Nat.zero_le _) ⟨Sm.rfl, fun x => by rw [if_neg (by omega)]⟩
  · obtain ⟨s1, s2⟩ := hJ
    have e4 : J 114 4 = nI q := by rw [s1 114 (by decide)]; exact h4
    refine g_iload_n (pc := 52) dX3_keeps_52 rfl rfl ?_
    refine g_sipush (v := nI 809) (pc := 53) dX3_keeps_53 rfl ?_
    refine g_icmp_geN (tgt := 86) (pc := 56) dX3_keeps_56 (by decide) (by omega) (by omega) (fun c56 => ?_) (fun c56 => ?_)
    · omega
    · refine g_aload_n (pc := 59) dX3_keeps_59 rfl rfl ?_
      refine g_getR (pc := 60) dX3_keeps_60 fl_X3_16 s_114 (by decide) rfl t_114_3 ?_
      refine g_aload_n (pc := 63) dX3_keeps_63 rfl rfl ?_
      refine g_getIV (pc := 64) dX3_keeps_64 fl_X3_70 s_114 (by decide) rfl e4 ?_
      refine g_sipush (v := nI 809) (pc := 67) dX3_keeps_67 rfl ?_
      refine g_imulN (pc := 70) dX3_keeps_70 ?_
      refine g_iload_n (pc := 71) dX3_keeps_71 rfl rfl ?_
      refine g_iaddN (pc := 72) dX3_keeps_72 ?_
      refine g_aload_n (pc := 73) dX3_keeps_73 rfl rfl ?_
      refine g_getR (pc := 74) dX3_keeps_74 fl_X3_9 s_114 (by decide) rfl t_114_1 ?_
      refine g_iload_n (pc := 77) dX3_keeps_77 rfl rfl ?_
      refine g_ialoadN (pc := 78) dX3_keeps_78 s_115 (by decide) (by omega) (by decide) rfl ?_
      refine g_iastoreN (pc := 79) dX3_keeps_79 s_117 (by decide) (by omega) (by decide) ?_
      refine g_iincN (pc := 80) dX3_keeps_80 (Nat.le_of_ble_eq_true rfl) rfl rfl ?_
      refine g_goto (tgt := 52) (pc := 83) dX3_keeps_83 (by decide) ?_
      refine kn _ ⟨(by repeat' first | assumption | exact Sm.rfl | exact Sc.rfl | refine Sm.up (by decide) ?_ | refine Sc.up (by decide) ?_ | refine Sc.un (by decide) ?_), fun x => ?_⟩
      rw [gUp_c, s2 x, s1 115 (by decide)]
      by_cases e : x = q * 809 + k
      · rw [if_pos e, if_pos (by omega)]
        congr 1
        omega
      · rw [if_neg e]
        by_cases e2 : 809 * q ≤ x ∧ x < 809 * q + k
        · rw [if_pos e2, if_pos (by omega)]
        · rw [if_neg e2, if_neg (by omega)]
  · obtain ⟨s1, s2⟩ := hJ
    have e4 : J 114 4 = nI q := by rw [s1 114 (by decide)]; exact h4
    refine g_iload_n (pc := 52) dX3_keeps_52 rfl rfl ?_
    refine g_sipush (v := nI 809) (pc := 53) dX3_keeps_53 rfl ?_
    refine g_icmp_geN (tgt := 86) (pc := 56) dX3_keeps_56 (by decide) (by omega) (by omega) (fun c56 => ?_) (fun c56 => ?_)
    · refine g_aload_n (pc := 86) dX3_keeps_86 rfl rfl ?_
      refine g_dup (pc := 87) dX3_keeps_87 rfl ?_
      refine g_getIV (pc := 88) dX3_keeps_88 fl_X3_70 s_114 (by decide) rfl e4 ?_
      refine g_iconst (v := nI 1) (pc := 91) dX3_keeps_91 rfl ?_
      refine g_iaddN (pc := 92) dX3_keeps_92 ?_
      refine g_putI (pc := 93) dX3_keeps_93 fl_X3_70 s_114 (by decide) rfl rfl rfl rfl ?_
      refine g_vret (pc := 96) dX3_keeps_96 rfl ?_
      refine ⟨_, ⟨rfl, rfl⟩, ?_⟩
      refine ⟨?_, ?_, ?_, ?_⟩
      · exact Sm.up (by decide) (s1.mono (by decide))
      · exact Sc.up (by decide) (s1.sc (by decide))
      · rw [gUp_c, if_pos rfl]
      · intro k hk
        have e7 : ∀ i, i < 809 → gUp J 114 4 (nI (q + 1)) 117 (809 * k + i) = if k = q then I 115 i else I 117 (809 * k + i) := by
          intro i hi
          rw [gUp_ne (by decide), s2]
          by_cases e : k = q
          · subst e
            rw [if_pos (by omega), if_pos rfl]
            congr 1
            omega
          · rw [if_neg e, if_neg (by omega)]
        show Snp _ (if k = q then (V, C) else H k)
        by_cases e : k = q
        · rw [if_pos e]
          exact ⟨fun i hi => ((e7 i (by omega)).trans (if_pos e)).trans (hV i hi), fun i hi => ((e7 _ (by omega)).trans (if_pos e)).trans (hC i hi)⟩
        · rw [if_neg e]
          have h9 := hP k (by omega)
          exact ⟨fun i hi => ((e7 i (by omega)).trans (if_neg e)).trans (h9.1 i hi), fun i hi => ((e7 _ (by omega)).trans (if_neg e)).trans (h9.2 i hi)⟩
    · exact absurd (Nat.le_refl _) c56
theorem m_X3_keeps {H : hT} {m : Nat} {C : Nat → Int32} (hm : m ≤ 6) (h4 : I 114 4 = nI m) (hP : Pa I H m) (hV : Vok I V) (hC : Cok I C) : gRv G YX3_keeps d [.ref 114] n I L D (fun J => Sm [114, 117] I J ∧ Sc 114 [4] I J ∧ J 114 4 = nI (pm m) ∧ Pa J (push H m (V, C)) (pm m)) := by
  refine g_aload_n (pc := 0) dX3_keeps_0 rfl rfl ?_
  refine g_getIV (pc := 1) dX3_keeps_1 fl_X3_70 s_114 (by decide) rfl h4 ?_
  refine g_bipush (v := nI 6) (pc := 4) dX3_keeps_4 rfl ?_
  refine g_icmp_neN (tgt := 50) (pc := 6) dX3_keeps_6 (by decide) (by omega) (by omega) (fun c6 => ?_) (fun c6 => ?_)
  · refine g_imp ?_ (l_X3_keeps2 (x := none) (q := m) (by omega) h4 hP hV hC)
    rintro o g ⟨J, e, k1, k2, k3, k4⟩
    refine ⟨J, e, k1, k2, ?_, ?_⟩
    · rw [pm_n c6]; exact k3
    · rw [pm_n c6]; intro k hk; rw [push_n c6]; exact k4 k hk
  refine g_iconst (v := nI 0) (pc := 9) dX3_keeps_9 rfl ?_
  refine g_istore_n (pc := 10) dX3_keeps_10 rfl (Nat.le_of_ble_eq_true rfl) rfl ?_
  subst c6
  refine g_loop 4045 (fun k J => Sm [117] I J ∧ ∀ x, J 117 x = if x < k then I 117 (x + 809) else I 117 x) (fun k _ => [some (.ref 114), some (.int (nI k))]) (fun J => hp n J L D) (fun k J hk hJ kn => ?_) (fun J hJ => ?_) 0 I (Nat.zero_le _) ⟨Sm.rfl, fun x => by rw [if_neg (by omega)]⟩
  · obtain ⟨s1, s2⟩ := hJ
    refine g_iload_n (pc := 11) dX3_keeps_11 rfl rfl ?_
    refine g_sipush (v := nI 4045) (pc := 12) dX3_keeps_12 rfl ?_
    refine g_icmp_geN (tgt := 40) (pc := 15) dX3_keeps_15 (by decide) (by omega) (by omega) (fun c15 => ?_) (fun c15 => ?_)
    · omega
    · refine g_aload_n (pc := 18) dX3_keeps_18 rfl rfl ?_
      refine g_getR (pc := 19) dX3_keeps_19 fl_X3_16 s_114 (by decide) rfl t_114_3 ?_
      refine g_iload_n (pc := 22) dX3_keeps_22 rfl rfl ?_
      refine g_aload_n (pc := 23) dX3_keeps_23 rfl rfl ?_
      refine g_getR (pc := 24) dX3_keeps_24 fl_X3_16 s_114 (by decide) rfl t_114_3 ?_
      refine g_iload_n (pc := 27) dX3_keeps_27 rfl rfl ?_
      refine g_sipush (v := nI 809) (pc := 28) dX3_keeps_28 rfl ?_
      refine g_iaddN (pc := 31) dX3_keeps_31 ?_
      refine g_ialoadN (pc := 32) dX3_keeps_32 s_117 (by decide) (by omega) (by decide) rfl ?_
      refine g_iastoreN (pc := 33) dX3_keeps_33 s_117 (by decide) (by omega) (by decide) ?_
      refine g_iincN (pc := 34) dX3_keeps_34 (Nat.le_of_ble_eq_true rfl) rfl rfl ?_
      refine g_goto (tgt := 11) (pc := 37) dX3_keeps_37 (by decide) ?_
      refine kn _ ⟨(by repeat' first | assumption | exact Sm.rfl | exact Sc.rfl | refine Sm.up (by decide) ?_ | refine Sc.up (by decide) ?_ | refine Sc.un (by decide) ?_), fun x => ?_⟩
      rw [gUp_c, s2 x, s2 (k + 809)]
      by_cases e : x = k
      · rw [if_pos e, if_neg (by omega), if_pos (by omega), e]
      · rw [if_neg e]
        by_cases e2 : x < k
        · rw [if_pos e2, if_pos (by omega)]
        · rw [if_neg e2, if_neg (by omega)]
  · obtain ⟨s1, s2⟩ := hJ
    have e4 : J 114 4 = nI 6 := by rw [s1 114 (by decide)]; exact h4
    refine g_iload_n (pc := 11) dX3_keeps_11 rfl rfl ?_
    refine g_sipush (v := nI 4045) (pc := 12) dX3_keeps_12 rfl ?_
    refine g_icmp_geN (tgt := 40) (pc := 15) dX3_keeps_15 (by decide) (by omega) (by omega) (fun c15 => ?_) (fun c15 => ?_)
    · refine g_aload_n (pc := 40) dX3_keeps_40 rfl rfl ?_
      refine g_dup (pc := 41) dX3_keeps_41 rfl ?_
      refine g_getIV (pc := 42) dX3_keeps_42 fl_X3_70 s_114 (by decide) rfl e4 ?_
      refine g_iconst (v := nI 1) (pc := 45) dX3_keeps_45 rfl ?_
      refine g_isubN (pc := 46) dX3_keeps_46 (by omega) ?_
      refine g_putI (pc := 47) dX3_keeps_47 fl_X3_70 s_114 (by decide) rfl rfl rfl rfl ?_
      refine g_imp ?_ (l_X3_keeps2 (H := fun k => H (k + 1)) (q := 5) (by decide) (by rw [gUp_c, if_pos rfl]) ?_ ((hV.s s1 (by decide)).o (by decide)) ((hC.s s1 (by decide)).o (by decide)))
      · rintro o g ⟨K, e, k1, k2, k3, k4⟩
        refine ⟨K, e, ?_, ?_, k3, ?_⟩
        · exact Sm.trans (Sm.up (by decide) (s1.mono (by decide))) k1
        · exact Sc.trans (Sc.up (by decide) (s1.sc (by decide))) k2
        · intro k hk; rw [push_6]; exact k4 k hk
      · intro k hk
        have h9 := hP (k + 1) (by omega)
        have e7 : ∀ i, i < 809 → gUp J 114 4 (nI 5) 117 (809 * k + i) = I 117 (809 * (k + 1) + i) := by
          intro i hi
          rw [gUp_ne (by decide), s2, if_pos (by omega)]
          congr 1
          omega
        exact ⟨fun i hi => (e7 i (by omega)).trans (h9.1 i hi), fun i hi => (e7 _ (by omega)).trans (h9.2 i hi)⟩
    · exact absurd (Nat.le_refl _) c15
end

