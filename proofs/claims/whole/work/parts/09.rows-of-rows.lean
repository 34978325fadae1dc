/-! ===== rows of rows; the law's start ===== -/
/-- a heap with one more cell, that holds references -/
def gNewR (h : gH) (s : Nat × Nat × Nat) (f : Nat → Option Nat) : gH := (h.1 ++ [s], (fun a => if a = h.1.length then f else h.2.1 a), gNw h.2.2.1 h.1.length 0, gNw h.2.2.2.1 h.1.length 0, gNw h.2.2.2.2 h.1.length 0)
theorem gCe_newR {ca : Nat → ClassId} {ad : List Nat} {h : gH} {s : Nat × Nat × Nat} {f : Nat → Option Nat} {q k : Nat} (hk : k < h.1.length) (ha : ad.length = h.1.length) (hv : ∀ k j r, h.2.1 k j = some r → r < ad.length) : gCe ca (ad ++ [q]) (gNewR h s f) k = gCe ca ad h k := by
  have hne : k ≠ h.1.length := by omega
  have hr : ∀ j, ((h.2.1 k j).map (fun r => (ad ++ [q]).getD r 0)) = (h.2.1 k j).map (fun r => ad.getD r 0) := fun j => by
    cases hj : h.2.1 k j with
    | none => rfl
    | some r =>
      have := hv k j r hj
      simp only [Option.map_some, List.getD_eq_getElem?_getD, List.getElem?_append_left this]
  have a1 : ∀ ci, gFc (ad ++ [q]) (gNewR h s f) k ci = gFc ad h k ci := fun ci => by
    funext j
    simp only [gFc, gNewR, gNw_ne hne, if_neg hne, hr]
  have a2 : ∀ t n, gAr (ad ++ [q]) (gNewR h s f) k t n = gAr ad h k t n := fun t n => by
    simp only [gAr, gNewR, gNw_ne hne, if_neg hne, hr]
  simp only [gCe, a1, a2]
  have e1 : (gNewR h s f).1[k]? = h.1[k]? := List.getElem?_append_left hk
  rw [e1]
theorem gWs_newR {ca : Nat → ClassId} {ad : List Nat} {h : gH} {s : Nat × Nat × Nat} {f : Nat → Option Nat} {q : Nat} (ha : ad.length = h.1.length) (h3 : 3 ≤ ad.length) (hv : ∀ k j r, h.2.1 k j = some r → r < ad.length) : gWs ca (ad ++ [q]) (gNewR h s f) = gWs ca ad h ++ [(q, gCe ca (ad ++ [q]) (gNewR h s f) h.1.length)] := by
  unfold gWs
  have e1 : (gNewR h s f).1.length - 3 = (h.1.length - 3) + 1 := by
    show (h.1 ++ [s]).length - 3 = _
    rw [List.length_append, List.length_singleton]
    omega
  rw [e1, List.range_succ, List.map_append, List.map_singleton]
  have e2 : h.1.length - 3 + 3 = h.1.length := by omega
  congr 1
  · apply List.map_congr_left
    intro i hi
    have hi := List.mem_range.mp hi
    rw [gCe_newR (by omega) ha hv]
    simp only [List.getD_eq_getElem?_getD]
    rw [List.getElem?_append_left (by omega)]
  · rw [e2]
    simp only [List.getD_eq_getElem?_getD]
    rw [List.getElem?_append_right (by omega), ← ha]
    simp
theorem gRep_newR {G : gG} {ad : List Nat} {h : gH} {s : Nat × Nat × Nat} {f : Nat → Option Nat} {q : Nat} {H H1 : Heap} {e : va_E} (hR : gRep G ad h H) (hf : ∀ j r, f j = some r → r < ad.length) (he : gCe G.2.1 (ad ++ [q]) (gNewR h s f) h.1.length = e) (hP : va_P G.1 gK (gWs G.2.1 ad h ++ [(q, e)]) H1) (hD : va_D (fun q => G.2.2.1 ≤ q) (gWs G.2.1 ad h ++ [(q, e)])) : gRep G (ad ++ [q]) (gNewR h s f) H1 := by
  subst he
  obtain ⟨⟨r1, r2⟩, r3, r4, -, -⟩ := hR
  rw [← gWs_newR r1 r2 r4] at hP hD
  refine ⟨⟨?_, ?_⟩, fun j hj => ⟨?_, ?_, ?_⟩, fun k j r hr => ?_, hP, hD⟩
  · show (ad ++ [q]).length = (h.1 ++ [s]).length
    rw [List.length_append, List.length_append, r1]
    rfl
  · rw [List.length_append]
    omega
  · rw [List.getElem?_append_left (by omega)]
    exact (r3 j hj).1
  · show (h.1 ++ [s])[j]? = _
    rw [List.getElem?_append_left (by omega)]
    exact (r3 j hj).2.1
  · show gNw h.2.2.1 h.1.length 0 j = _
    rw [gNw_ne (by omega)]
    exact (r3 j hj).2.2
  · have hr : (if k = h.1.length then f else h.2.1 k) j = some r := hr
    rw [List.length_append]
    split at hr
    · exact Nat.lt_of_lt_of_le (hf j r hr) (Nat.le_add_right _ _)
    · exact Nat.lt_of_lt_of_le (r4 k j r hr) (Nat.le_add_right _ _)
/-- four rows of six ints, and the row of them behind -/
def gM4 (h : gH) : gH := gNewR (gNew (gNew (gNew (gNew h (2, 0, 6)) (2, 0, 6)) (2, 0, 6)) (2, 0, 6)) (2, 4, 4) (fun j => if j < 4 then some (h.1.length + j) else none)
theorem gRep_P {G : gG} {ad : List Nat} {h : gH} {H H1 : Heap} (hR : gRep G ad h H) (hP : va_P G.1 gK (gWs G.2.1 ad h) H1) : gRep G ad h H1 := ⟨hR.1, hR.2.1, hR.2.2.1, hP, hR.2.2.2.2⟩
theorem va_P_fst {D : va_G} {cl : List vw_C} {a b : va_W} {H : Heap} (h : va_P D cl (a ++ b) H) : va_P D cl a H := fun k q hk => h k q (by rw [List.getElem?_append_left (List.getElem?_eq_some_iff.mp hk).1]; exact hk)
theorem va_D_fst {A : Nat → Prop} {a b : va_W} (h : va_D A (a ++ b)) : va_D A a := ⟨fun i j p q hi hj e => h.1 i j p q (by rw [List.getElem?_append_left (List.getElem?_eq_some_iff.mp hi).1]; exact hi) (by rw [List.getElem?_append_left (List.getElem?_eq_some_iff.mp hj).1]; exact hj) e, fun k q hk => h.2 k q (by rw [List.getElem?_append_left (List.getElem?_eq_some_iff.mp hk).1]; exact hk)⟩
theorem g_mna {G : gG} {Y : gY} {d pc ix : Nat} {al : List (Option Value)} {st : List Value} {h : gH} {kc ks : Nat} {Q : gQ} (dg : decode Y.2.1 pc = .ok (.multianewarray ix 2, 4)) (hl : Cond.classLink Y.1.cls ix ("[" ++ (FieldType.array .int).toString) ∈ gW) (hc : 5 ≤ kc) (hk : 28 ≤ ks) (k : gGo G Y d (pc + 4) al (.ref (h.1.length + 4) :: st) (gM4 h) (kc - 5) (ks - 28) Q) : gGo G Y d pc al (.int 6 :: .int 4 :: st) h kc ks Q := by
  intro p l e R s m args below meth c QS mc ms ad0 C E ad ls sk H locs cells slots ha hL hs hR hV h1 h2
  obtain ⟨sk0, rfl, hz0⟩ := gSk_int hs
  obtain ⟨sk1, rfl, hz1⟩ := gSk_int hz0
  obtain ⟨hmc, hms⟩ := C.2.2.2.2.2.2.2.2.2.2.2.2
  have hA : ∀ q : Nat, s.heap.size ≤ q → (fun q => G.2.2.1 ≤ q) q := fun q h => Nat.le_trans C.2.2.2.2.2.1.1 h
  have hcy : s.vm.findClass (FieldType.array .int).toString = some (G.2.1 0) := (C.2.2.2.2.2.1.2.1.2 0 _ rfl).2
  have eL : gWs G.2.1 ad h ++ va_pl [] (fun _ => (Sum.inr (0, []) : va_E)) = gWs G.2.1 ad h := List.append_nil _
  refine va_mna (X := gWs G.2.1 ad h) (L := []) (f := fun _ => .inr (0, [])) (ty := .int) (N' := 4) (K' := 6) (z := (6, .inl (fun _ => 0))) C.1 C.2.1 C.2.2.2.1 (C.2.2.2.2.1 _ hl) C.2.2.2.2.2.1.2.2.2.2.2.2.2.2 (C.2.2.2.2.1 _ gAcl0) hcy C.2.2.2.2.2.1.2.1 (by rw [eL]; exact hR.2.2.2.1) (by rw [eL]; exact hR.2.2.2.2) hV hA (by decide) (by decide) rfl rfl (by decide) (by decide) (by decide) rfl rfl (by omega) (by omega) (fun c => rfl) dg (fun q r cA H1 hinj _ hK1 hP hD hS1 => ?_)
  have hca : cA = G.2.1 4 := by
    have h9 : s.vm.findClass ("[" ++ (FieldType.array .int).toString) = some cA := (hK1.2 6 (cA, .array .int) rfl).2
    exact gTs_cls C.2.2.2.2.2.1.2.1 (t := 4) (ty := .array .int) rfl h9
  subst hca
  have hP := va_P.swap hP
  have hD := va_D.swap hD
  have er : va_pl ([] ++ (List.range 4).map r) (vr_up (fun _ => (Sum.inr (0, []) : va_E)) ((List.range 4).map r) (.inl (G.2.1 0, (6, .inl (fun _ => 0))))) = [(r 0, .inl (G.2.1 0, (6, .inl (fun _ => 0))))] ++ [(r 1, .inl (G.2.1 0, (6, .inl (fun _ => 0))))] ++ [(r 2, .inl (G.2.1 0, (6, .inl (fun _ => 0))))] ++ [(r 3, .inl (G.2.1 0, (6, .inl (fun _ => 0))))] := by
    simp [va_pl, vr_up, List.range_succ]
  rw [er] at hP hD
  have eo : (fun i => if i < 4 then some (r i) else none) = (fun j => ((fun j => if j < 4 then some (h.1.length + j) else none) j).map (fun z => (ad ++ [r 0] ++ [r 1] ++ [r 2] ++ [r 3] ++ [q]).getD z 0)) := by
    funext j
    have hl9 := hR.1.1
    by_cases hj : j < 4
    · simp only [if_pos hj, Option.map_some]
      congr 1
      simp only [List.append_assoc, List.getD_eq_getElem?_getD]
      rw [List.getElem?_append_right (by omega), show h.1.length + j - ad.length = j by omega]
      match j, hj with
      | 0, _ => rfl
      | 1, _ => rfl
      | 2, _ => rfl
      | 3, _ => rfl
    · simp only [if_neg hj, Option.map_none]
  simp only [← List.append_assoc] at hP hD
  have ez : ∀ (ad : List Nat) (h : gH), gCe G.2.1 ad (gNew h (2, 0, 6)) h.1.length = .inl (G.2.1 0, (6, .inl (fun _ => 0))) := fun ad h => by
    rw [gCe_newA]
    simp only [gAr, gNew, gNw_at]
  have R1 := gRep_new (s := (2, 0, 6)) hR (ez _ _) (va_P_fst (va_P_fst (va_P_fst (va_P_fst hP)))) (va_D_fst (va_D_fst (va_D_fst (va_D_fst hD))))
  have w1 := gWs_new (ca := G.2.1) (s := (2, 0, 6)) (q := r 0) hR.1.1 hR.1.2 hR.2.2.1
  rw [ez] at w1
  rw [← w1] at hP hD
  have R2 := gRep_new (s := (2, 0, 6)) (q := r 1) R1 (ez _ _) (va_P_fst (va_P_fst (va_P_fst hP))) (va_D_fst (va_D_fst (va_D_fst hD)))
  have w2 := gWs_new (ca := G.2.1) (s := (2, 0, 6)) (q := r 1) R1.1.1 R1.1.2 R1.2.2.1
  rw [ez] at w2
  rw [← w2] at hP hD
  have R3 := gRep_new (s := (2, 0, 6)) (q := r 2) R2 (ez _ _) (va_P_fst (va_P_fst hP)) (va_D_fst (va_D_fst hD))
  have w3 := gWs_new (ca := G.2.1) (s := (2, 0, 6)) (q := r 2) R2.1.1 R2.1.2 R2.2.2.1
  rw [ez] at w3
  rw [← w3] at hP hD
  have R4 := gRep_new (s := (2, 0, 6)) (q := r 3) R3 (ez _ _) (va_P_fst hP) (va_D_fst hD)
  have w4 := gWs_new (ca := G.2.1) (s := (2, 0, 6)) (q := r 3) R3.1.1 R3.1.2 R3.2.2.1
  rw [ez] at w4
  rw [← w4] at hP hD
  have hlen : (gNew (gNew (gNew (gNew h (2, 0, 6)) (2, 0, 6)) (2, 0, 6)) (2, 0, 6)).1.length = h.1.length + 4 := by
    show ((((h.1 ++ [_]) ++ [_]) ++ [_]) ++ [_]).length = _
    simp only [List.length_append, List.length_singleton]
  have R5 := gRep_newR (s := (2, 4, 4)) (q := q) (f := fun j => if j < 4 then some (h.1.length + j) else none) R4 (fun j z hz => by
    have hl9 := R4.1.1
    rw [hlen] at hl9
    split at hz
    · cases hz
      omega
    · cases hz) (by
      rw [gCe_arr (h := gNewR _ _ _) (t := 4) (n := 4) (by show (_ ++ [_])[_]? = _; simp)]
      simp only [gAr, gNewR, if_true]
      rw [← eo]) hP hD
  have hpre : ad <+: ad ++ [r 0] ++ [r 1] ++ [r 2] ++ [r 3] ++ [q] := by
    simp only [List.append_assoc]
    exact List.prefix_append _ _
  have hv : gV (ad ++ [r 0] ++ [r 1] ++ [r 2] ++ [r 3] ++ [q]) (.ref (h.1.length + 4)) = some (.ref q) := by
    apply gV_at
    have hl9 := hR.1.1
    simp only [List.append_assoc]
    rw [List.getElem?_append_right (by omega), show h.1.length + 4 - ad.length = 4 by omega]
    rfl
  have hk9 := k p l e R s m args below meth c QS mc ms ad0 C E _ ls (.ref q :: sk1) H1 locs (cells + 5) (slots + 28) (ha.trans hpre) (gLoc_up hpre hL) (gSk_in hv (gSk_up hpre hz1)) R5 hS1 (by omega) (by omega)
  exact hk9
