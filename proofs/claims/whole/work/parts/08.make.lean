/-! ===== cells that are made; references that are put; rows that are copied ===== -/
theorem gAcl0 : Cond.arrayClass (newarray.typeOf .int) ∈ gW := by decide +kernel
theorem gAcl1 : Cond.arrayClass (newarray.typeOf .char) ∈ gW := by decide +kernel
theorem gAcl2 : Cond.arrayClass (newarray.typeOf .long) ∈ gW := by decide +kernel
theorem gAcl3 : Cond.arrayClass (newarray.typeOf .double) ∈ gW := by decide +kernel
theorem gObj1 : Cond.instanceMethod Lib.objectInit ∈ gW := by decide +kernel
theorem gObj2 : Cond.code Lib.objectInit ⟨#[0xb1]⟩ 1 none ∈ gW := by decide +kernel
theorem gCpy1 : Cond.native arraycopyName ∈ gW := by decide +kernel
theorem gCpy2 : Cond.static arraycopyName ∈ gW := by decide +kernel
theorem gCpy3 : Cond.initialized "java/lang/System" ∈ gW := by decide +kernel
def gNw {α : Type} (f : Nat → Nat → α) (k : Nat) (x : α) : Nat → Nat → α := fun a b => if a = k then x else f a b
theorem gNw_ne {α : Type} {f : Nat → Nat → α} {k j : Nat} {x : α} (h : j ≠ k) : gNw f k x j = f j := by
  funext b
  simp [gNw, h]
theorem gNw_at {α : Type} {f : Nat → Nat → α} {k : Nat} {x : α} : gNw f k x k = fun _ => x := by
  funext b
  simp [gNw]
/-- a heap with one more cell -/
def gNew (h : gH) (s : Nat × Nat × Nat) : gH := (h.1 ++ [s], gNw h.2.1 h.1.length none, gNw h.2.2.1 h.1.length 0, gNw h.2.2.2.1 h.1.length 0, gNw h.2.2.2.2 h.1.length 0)
theorem gCe_new {ca : Nat → ClassId} {ad : List Nat} {h : gH} {s : Nat × Nat × Nat} {q k : Nat} (hk : k < h.1.length) (ha : ad.length = h.1.length) (hv : ∀ k j r, h.2.1 k j = some r → r < ad.length) : gCe ca (ad ++ [q]) (gNew h s) k = gCe ca ad h k := by
  have hne : k ≠ h.1.length := by omega
  have hr : ∀ j, ((h.2.1 k j).map (fun r => (ad ++ [q]).getD r 0)) = (h.2.1 k j).map (fun r => ad.getD r 0) := fun j => by
    cases hj : h.2.1 k j with
    | none => rfl
    | some r =>
      have := hv k j r hj
      simp only [Option.map_some, List.getD_eq_getElem?_getD, List.getElem?_append_left this]
  have a1 : ∀ ci, gFc (ad ++ [q]) (gNew h s) k ci = gFc ad h k ci := fun ci => by
    funext j
    simp only [gFc, gNew, gNw_ne hne, hr]
  have a2 : ∀ t n, gAr (ad ++ [q]) (gNew h s) k t n = gAr ad h k t n := fun t n => by
    simp only [gAr, gNew, gNw_ne hne, hr]
  simp only [gCe, a1, a2]
  have e1 : (gNew h s).1[k]? = h.1[k]? := List.getElem?_append_left hk
  rw [e1]
theorem gWs_new {ca : Nat → ClassId} {ad : List Nat} {h : gH} {s : Nat × Nat × Nat} {q : Nat} (ha : ad.length = h.1.length) (h3 : 3 ≤ ad.length) (hv : ∀ k j r, h.2.1 k j = some r → r < ad.length) : gWs ca (ad ++ [q]) (gNew h s) = gWs ca ad h ++ [(q, gCe ca (ad ++ [q]) (gNew h s) h.1.length)] := by
  unfold gWs
  have e1 : (gNew h s).1.length - 3 = (h.1.length - 3) + 1 := by
    show (h.1 ++ [s]).length - 3 = _
    rw [List.length_append, List.length_singleton]
    omega
  rw [e1, List.range_succ, List.map_append, List.map_singleton]
  have e2 : h.1.length - 3 + 3 = h.1.length := by omega
  congr 1
  · apply List.map_congr_left
    intro i hi
    have hi := List.mem_range.mp hi
    rw [gCe_new (by omega) ha hv]
    simp only [List.getD_eq_getElem?_getD]
    rw [List.getElem?_append_left (by omega)]
  · rw [e2]
    simp only [List.getD_eq_getElem?_getD]
    rw [List.getElem?_append_right (by omega), ← ha]
    simp
theorem gRep_new {G : gG} {ad : List Nat} {h : gH} {s : Nat × Nat × Nat} {q : Nat} {H H1 : Heap} {e : va_E} (hR : gRep G ad h H) (he : gCe G.2.1 (ad ++ [q]) (gNew h s) h.1.length = e) (hP : va_P G.1 gK (gWs G.2.1 ad h ++ [(q, e)]) H1) (hD : va_D (fun q => G.2.2.1 ≤ q) (gWs G.2.1 ad h ++ [(q, e)])) : gRep G (ad ++ [q]) (gNew h s) H1 := by
  subst he
  obtain ⟨⟨r1, r2⟩, r3, r4, -, -⟩ := hR
  rw [← gWs_new r1 r2 r4] at hP hD
  refine ⟨⟨?_, ?_⟩, fun j hj => ⟨?_, ?_, ?_⟩, fun k j r hr => ?_, hP, hD⟩
  · show (ad ++ [q]).length = (h.1 ++ [s]).length
    rw [List.length_append, List.length_append, r1]
    rfl
  · rw [List.length_append]
    omega
  · rw [List.getElem?_append_left (by omega)]
    exact (r3 j hj).1
  · show (h.1 ++ [s])[j]? = _
    rw [List.getElem?_append_left (by omega)]
    exact (r3 j hj).2.1
  · show gNw h.2.2.1 h.1.length 0 j = _
    rw [gNw_ne (by omega)]
    exact (r3 j hj).2.2
  · have hr : gNw h.2.1 h.1.length none k j = some r := hr
    unfold gNw at hr
    split at hr
    · cases hr
    · rw [List.length_append]
      exact Nat.lt_of_lt_of_le (r4 k j r hr) (Nat.le_add_right _ _)
theorem gV_new {ad : List Nat} {h : gH} {q : Nat} (ha : ad.length = h.1.length) : gV (ad ++ [q]) (.ref h.1.length) = some (.ref q) := by
  apply gV_at
  rw [← ha]
  simp
/-- the class ci can be made, by the constant ix of the class own -/
def gMk (own : String) (ix ci : Nat) : Prop := ci < 4 ∧ Cond.classLink own ix (gRx ci) ∈ gW ∧ Cond.instantiable (gRx ci) (gN ci) ∈ gW ∧ Cond.initialized (gRx ci) ∈ gW

theorem gDef_ok : ∀ ci, ci < 4 → ∀ j, j < gN ci → defaultValue (gTy ci j) = (if gIsR ci j then .null else .int 0) := by decide +kernel
theorem gFc_new {ad : List Nat} {h : gH} {s : Nat × Nat × Nat} {ci : Nat} : gFc ad (gNew h s) h.1.length ci = fun j => if gIsR ci j then .null else .int 0 := by
  funext j
  simp only [gFc, gNew, gNw_at]
  rfl
theorem gCe_newO {ca : Nat → ClassId} {ad : List Nat} {h : gH} {ci n : Nat} : gCe ca ad (gNew h (1, ci, n)) h.1.length = .inr (ci, (List.range (gN ci)).map (fun j => if gIsR ci j then .null else .int 0)) := by
  rw [gCe_obj (h := gNew h (1, ci, n)) (n := n) (ci := ci) (by show (h.1 ++ [(1, ci, n)])[h.1.length]? = _; simp), gFc_new]
theorem g_new {G : gG} {Y : gY} {d pc ix ci : Nat} {al : List (Option Value)} {st : List Value} {h : gH} {kc ks : Nat} {Q : gQ} (dg : decode Y.2.1 pc = .ok (.new ix, 3)) (hm : gMk Y.1.cls ix ci) (hc : 1 ≤ kc) (hk : gN ci ≤ ks) (k : gGo G Y d (pc + 3) al (.ref h.1.length :: st) (gNew h (1, ci, gN ci)) (kc - 1) (ks - gN ci) Q) : gGo G Y d pc al st h kc ks Q := by
  intro p l e R s m args below meth c QS mc ms ad0 C E ad ls sk H locs cells slots ha hL hs hR hV h1 h2
  obtain ⟨m1, m2, m3, m4⟩ := hm
  obtain ⟨hmc, hms⟩ := C.2.2.2.2.2.2.2.2.2.2.2.2
  have hA : ∀ q : Nat, s.heap.size ≤ q → (fun q => G.2.2.1 ≤ q) q := fun q h => Nat.le_trans C.2.2.2.2.2.1.1 h
  have hfs : ∀ j, j < gN ci → defaultValue (gTy ci j) = vp_V ((List.range (gN ci)).map (fun j => if gIsR ci j then .null else .int 0)) j := fun j hj => by
    unfold vp_V
    rw [List.getD_eq_getElem?_getD, List.getElem?_map, List.getElem?_range hj]
    exact gDef_ok ci m1 j hj
  refine va_new C.1 C.2.1 C.2.2.2.2.1 (gLays m1) (gTy ci) (gTx_ty ci m1) C.2.2.2.1 (C.2.2.2.2.1 _ m2) (C.2.2.2.2.1 _ m3) (C.2.2.2.2.1 _ m4) C.2.2.2.2.2.1.2.1 hR.2.2.2.1 hR.2.2.2.2 hV hA (gK_at m1) hfs (by omega) (by omega) dg (fun q H1 hP hD hS1 => ?_)
  have hpre : ad <+: ad ++ [q] := List.prefix_append _ _
  exact k p l e R s m args below meth c QS mc ms ad0 C E (ad ++ [q]) ls _ H1 locs (cells + 1) (slots + gN ci) (ha.trans hpre) (gLoc_up hpre hL) (gSk_in (gV_new hR.1.1) (gSk_up hpre hs)) (gRep_new hR gCe_newO hP hD) hS1 (by omega) (by omega)
theorem gCe_newA {ca : Nat → ClassId} {ad : List Nat} {h : gH} {t n : Nat} : gCe ca ad (gNew h (2, t, n)) h.1.length = .inl (ca t, gAr ad (gNew h (2, t, n)) h.1.length t n) := gCe_arr (h := gNew h (2, t, n)) (by show (h.1 ++ [(2, t, n)])[h.1.length]? = _; simp)
theorem gTs_cls {G : gG} {s : State} {t : Nat} {ty : FieldType} {cA : ClassId} (hK : va_K G.1 gK (gTs G.2.1) s) (ht : (gTs G.2.1)[t]? = some (G.2.1 t, ty)) (hc : s.vm.findClass ("[" ++ ty.toString) = some cA) : cA = G.2.1 t := by
  have h1 := (hK.2 t _ ht).2
  cases ty with
  | object C =>
    obtain ⟨kA, comp, h2, h3, h4, h5⟩ := h1
    exact Option.some.inj (hc.symm.trans h5)
  | _ => exact Option.some.inj (hc.symm.trans h1)
theorem g_newI {G : gG} {Y : gY} {d pc N : Nat} {al : List (Option Value)} {st : List Value} {h : gH} {n : Int32} {kc ks : Nat} {Q : gQ} (dg : decode Y.2.1 pc = .ok (.newarray .int, 2)) (hn : n = Int32.ofNat N) (hN : N < 100000) (hc : 1 ≤ kc) (hk : N ≤ ks) (k : gGo G Y d (pc + 2) al (.ref h.1.length :: st) (gNew h (2, 0, N)) (kc - 1) (ks - N) Q) : gGo G Y d pc al (.int n :: st) h kc ks Q := by
  intro p l e R s m args below meth c QS mc ms ad0 C E ad ls sk H locs cells slots ha hL hs hR hV h1 h2
  obtain ⟨sk1, rfl, hz1⟩ := gSk_int hs
  obtain ⟨hmc, hms⟩ := C.2.2.2.2.2.2.2.2.2.2.2.2
  have hA : ∀ q : Nat, s.heap.size ≤ q → (fun q => G.2.2.1 ≤ q) q := fun q h => Nat.le_trans C.2.2.2.2.2.1.1 h
  have hnN : n = nI N := hn
  have h31 : N < 2 ^ 31 := Nat.lt_trans hN (by decide)
  refine va_newa (atype := .int) (ty := .int) (N' := N) (a0 := gAr ad (gNew h (2, 0, N)) h.1.length 0 N) C.1 C.2.1 (C.2.2.2.2.1 _ gAcl0) rfl C.2.2.2.2.2.1.2.1 hR.2.2.2.1 hR.2.2.2.2 hV hA (fun cA => ?_) (by rw [hnN]; exact nI_pos h31) (by rw [hnN]; exact nI_clamp h31) ?_ (by omega) (by omega) dg (fun q cA H1 hK1 hP hD hS1 => ?_)
  · simp only [gAr, gNew, gNw_at]
    rfl
  · show N * 4 ≤ 536870912
    omega
  · have hca : cA = G.2.1 0 := gTs_cls C.2.2.2.2.2.1.2.1 rfl (hK1.2 6 (cA, .int) rfl).2
    subst hca
    have hpre : ad <+: ad ++ [q] := List.prefix_append _ _
    have ear : gAr (ad ++ [q]) (gNew h (2, 0, N)) h.1.length 0 N = gAr ad (gNew h (2, 0, N)) h.1.length 0 N := rfl
    exact k p l e R s m args below meth c QS mc ms ad0 C E (ad ++ [q]) ls _ H1 locs (cells + 1) (slots + N) (ha.trans hpre) (gLoc_up hpre hL) (gSk_in (gV_new hR.1.1) (gSk_up hpre hz1)) (gRep_new hR (by rw [gCe_newA, ear]) hP hD) hS1 (by omega) (by omega)
theorem g_newC {G : gG} {Y : gY} {d pc N : Nat} {al : List (Option Value)} {st : List Value} {h : gH} {n : Int32} {kc ks : Nat} {Q : gQ} (dg : decode Y.2.1 pc = .ok (.newarray .char, 2)) (hn : n = Int32.ofNat N) (hN : N < 100000) (hc : 1 ≤ kc) (hk : N ≤ ks) (k : gGo G Y d (pc + 2) al (.ref h.1.length :: st) (gNew h (2, 1, N)) (kc - 1) (ks - N) Q) : gGo G Y d pc al (.int n :: st) h kc ks Q := by
  intro p l e R s m args below meth c QS mc ms ad0 C E ad ls sk H locs cells slots ha hL hs hR hV h1 h2
  obtain ⟨sk1, rfl, hz1⟩ := gSk_int hs
  obtain ⟨hmc, hms⟩ := C.2.2.2.2.2.2.2.2.2.2.2.2
  have hA : ∀ q : Nat, s.heap.size ≤ q → (fun q => G.2.2.1 ≤ q) q := fun q h => Nat.le_trans C.2.2.2.2.2.1.1 h
  have hnN : n = nI N := hn
  have h31 : N < 2 ^ 31 := Nat.lt_trans hN (by decide)
  refine va_newa (atype := .char) (ty := .char) (N' := N) (a0 := gAr ad (gNew h (2, 1, N)) h.1.length 1 N) C.1 C.2.1 (C.2.2.2.2.1 _ gAcl1) rfl C.2.2.2.2.2.1.2.1 hR.2.2.2.1 hR.2.2.2.2 hV hA (fun cA => ?_) (by rw [hnN]; exact nI_pos h31) (by rw [hnN]; exact nI_clamp h31) ?_ (by omega) (by omega) dg (fun q cA H1 hK1 hP hD hS1 => ?_)
  · simp only [gAr, gNew, gNw_at]
    rfl
  · show N * 2 ≤ 536870912
    omega
  · have hca : cA = G.2.1 1 := gTs_cls C.2.2.2.2.2.1.2.1 rfl (hK1.2 6 (cA, .char) rfl).2
    subst hca
    have hpre : ad <+: ad ++ [q] := List.prefix_append _ _
    have ear : gAr (ad ++ [q]) (gNew h (2, 1, N)) h.1.length 1 N = gAr ad (gNew h (2, 1, N)) h.1.length 1 N := rfl
    exact k p l e R s m args below meth c QS mc ms ad0 C E (ad ++ [q]) ls _ H1 locs (cells + 1) (slots + N) (ha.trans hpre) (gLoc_up hpre hL) (gSk_in (gV_new hR.1.1) (gSk_up hpre hz1)) (gRep_new hR (by rw [gCe_newA, ear]) hP hD) hS1 (by omega) (by omega)
theorem g_newL {G : gG} {Y : gY} {d pc N : Nat} {al : List (Option Value)} {st : List Value} {h : gH} {n : Int32} {kc ks : Nat} {Q : gQ} (dg : decode Y.2.1 pc = .ok (.newarray .long, 2)) (hn : n = Int32.ofNat N) (hN : N < 100000) (hc : 1 ≤ kc) (hk : N ≤ ks) (k : gGo G Y d (pc + 2) al (.ref h.1.length :: st) (gNew h (2, 2, N)) (kc - 1) (ks - N) Q) : gGo G Y d pc al (.int n :: st) h kc ks Q := by
  intro p l e R s m args below meth c QS mc ms ad0 C E ad ls sk H locs cells slots ha hL hs hR hV h1 h2
  obtain ⟨sk1, rfl, hz1⟩ := gSk_int hs
  obtain ⟨hmc, hms⟩ := C.2.2.2.2.2.2.2.2.2.2.2.2
  have hA : ∀ q : Nat, s.heap.size ≤ q → (fun q => G.2.2.1 ≤ q) q := fun q h => Nat.le_trans C.2.2.2.2.2.1.1 h
  have hnN : n = nI N := hn
  have h31 : N < 2 ^ 31 := Nat.lt_trans hN (by decide)
  refine va_newa (atype := .long) (ty := .long) (N' := N) (a0 := gAr ad (gNew h (2, 2, N)) h.1.length 2 N) C.1 C.2.1 (C.2.2.2.2.1 _ gAcl2) rfl C.2.2.2.2.2.1.2.1 hR.2.2.2.1 hR.2.2.2.2 hV hA (fun cA => ?_) (by rw [hnN]; exact nI_pos h31) (by rw [hnN]; exact nI_clamp h31) ?_ (by omega) (by omega) dg (fun q cA H1 hK1 hP hD hS1 => ?_)
  · simp only [gAr, gNew, gNw_at]
    rfl
  · show N * 8 ≤ 536870912
    omega
  · have hca : cA = G.2.1 2 := gTs_cls C.2.2.2.2.2.1.2.1 rfl (hK1.2 6 (cA, .long) rfl).2
    subst hca
    have hpre : ad <+: ad ++ [q] := List.prefix_append _ _
    have ear : gAr (ad ++ [q]) (gNew h (2, 2, N)) h.1.length 2 N = gAr ad (gNew h (2, 2, N)) h.1.length 2 N := rfl
    exact k p l e R s m args below meth c QS mc ms ad0 C E (ad ++ [q]) ls _ H1 locs (cells + 1) (slots + N) (ha.trans hpre) (gLoc_up hpre hL) (gSk_in (gV_new hR.1.1) (gSk_up hpre hz1)) (gRep_new hR (by rw [gCe_newA, ear]) hP hD) hS1 (by omega) (by omega)
theorem g_newD {G : gG} {Y : gY} {d pc N : Nat} {al : List (Option Value)} {st : List Value} {h : gH} {n : Int32} {kc ks : Nat} {Q : gQ} (dg : decode Y.2.1 pc = .ok (.newarray .double, 2)) (hn : n = Int32.ofNat N) (hN : N < 100000) (hc : 1 ≤ kc) (hk : N ≤ ks) (k : gGo G Y d (pc + 2) al (.ref h.1.length :: st) (gNew h (2, 3, N)) (kc - 1) (ks - N) Q) : gGo G Y d pc al (.int n :: st) h kc ks Q := by
  intro p l e R s m args below meth c QS mc ms ad0 C E ad ls sk H locs cells slots ha hL hs hR hV h1 h2
  obtain ⟨sk1, rfl, hz1⟩ := gSk_int hs
  obtain ⟨hmc, hms⟩ := C.2.2.2.2.2.2.2.2.2.2.2.2
  have hA : ∀ q : Nat, s.heap.size ≤ q → (fun q => G.2.2.1 ≤ q) q := fun q h => Nat.le_trans C.2.2.2.2.2.1.1 h
  have hnN : n = nI N := hn
  have h31 : N < 2 ^ 31 := Nat.lt_trans hN (by decide)
  refine va_newa (atype := .double) (ty := .double) (N' := N) (a0 := gAr ad (gNew h (2, 3, N)) h.1.length 3 N) C.1 C.2.1 (C.2.2.2.2.1 _ gAcl3) rfl C.2.2.2.2.2.1.2.1 hR.2.2.2.1 hR.2.2.2.2 hV hA (fun cA => ?_) (by rw [hnN]; exact nI_pos h31) (by rw [hnN]; exact nI_clamp h31) ?_ (by omega) (by omega) dg (fun q cA H1 hK1 hP hD hS1 => ?_)
  · simp only [gAr, gNew, gNw_at]
    rfl
  · show N * 8 ≤ 536870912
    omega
  · have hca : cA = G.2.1 3 := gTs_cls C.2.2.2.2.2.1.2.1 rfl (hK1.2 6 (cA, .double) rfl).2
    subst hca
    have hpre : ad <+: ad ++ [q] := List.prefix_append _ _
    have ear : gAr (ad ++ [q]) (gNew h (2, 3, N)) h.1.length 3 N = gAr ad (gNew h (2, 3, N)) h.1.length 3 N := rfl
    exact k p l e R s m args below meth c QS mc ms ad0 C E (ad ++ [q]) ls _ H1 locs (cells + 1) (slots + N) (ha.trans hpre) (gLoc_up hpre hL) (gSk_in (gV_new hR.1.1) (gSk_up hpre hz1)) (gRep_new hR (by rw [gCe_newA, ear]) hP hD) hS1 (by omega) (by omega)
theorem g_newS {G : gG} {Y : gY} {d pc ix N : Nat} {al : List (Option Value)} {st : List Value} {h : gH} {n : Int32} {kc ks : Nat} {Q : gQ} (dg : decode Y.2.1 pc = .ok (.anewarray ix, 3)) (hl : Cond.classLink Y.1.cls ix RX1 ∈ gW) (hn : n = Int32.ofNat N) (hN : N < 100000) (hc : 1 ≤ kc) (hk : N ≤ ks) (k : gGo G Y d (pc + 3) al (.ref h.1.length :: st) (gNew h (2, 5, N)) (kc - 1) (ks - N) Q) : gGo G Y d pc al (.int n :: st) h kc ks Q := by
  intro p l e R s m args below meth c QS mc ms ad0 C E ad ls sk H locs cells slots ha hL hs hR hV h1 h2
  obtain ⟨sk1, rfl, hz1⟩ := gSk_int hs
  obtain ⟨hmc, hms⟩ := C.2.2.2.2.2.2.2.2.2.2.2.2
  have hA : ∀ q : Nat, s.heap.size ≤ q → (fun q => G.2.2.1 ≤ q) q := fun q h => Nat.le_trans C.2.2.2.2.2.1.1 h
  have hnN : n = nI N := hn
  have h31 : N < 2 ^ 31 := Nat.lt_trans hN (by decide)
  refine va_newq (N' := N) C.1 C.2.1 C.2.2.2.1 (C.2.2.2.2.1 _ hl) C.2.2.2.2.2.1.2.2.2.2.2.2.2.1 C.2.2.2.2.2.1.2.1 hR.2.2.2.1 hR.2.2.2.2 hV hA (by rw [hnN]; exact nI_pos h31) (by rw [hnN]; exact nI_clamp h31) (by omega) (by omega) (by omega) dg (fun q cA H1 hK1 hP hD hS1 => ?_)
  have hca : cA = G.2.1 5 := by
    obtain ⟨kA, comp, h2, h3, h4, h5⟩ := (hK1.2 6 (cA, .object RX1) rfl).2
    exact gTs_cls C.2.2.2.2.2.1.2.1 (t := 5) (ty := .object RX1) rfl h5
  subst hca
  have hpre : ad <+: ad ++ [q] := List.prefix_append _ _
  refine k p l e R s m args below meth c QS mc ms ad0 C E (ad ++ [q]) ls _ H1 locs (cells + 1) (slots + N) (ha.trans hpre) (gLoc_up hpre hL) (gSk_in (gV_new hR.1.1) (gSk_up hpre hz1)) (gRep_new hR ?_ hP hD) hS1 (by omega) (by omega)
  rw [gCe_newA]
  simp only [gAr, gNew, gNw_at]
  rfl
theorem gFs_ref {ad : List Nat} {S : List (Nat × Nat × Nat)} {T : Nat → Nat → Option Nat} {I : Nat → Nat → Int32} {L : Nat → Nat → Int64} {D : Nat → Nat → UInt64} {k ci j N q a : Nat} (ht : gIsR ci j = true) (hq : ad[q]? = some a) : ((List.range N).map (gFc ad (S, T, I, L, D) k ci)).set j (.ref a) = (List.range N).map (gFc ad (S, gUp T k j (some q), I, L, D) k ci) := by
  apply List.ext_getElem?
  intro i
  by_cases hi : i = j
  · subst hi
    by_cases hN : i < N
    · rw [List.getElem?_set_self (by simpa using hN), List.getElem?_map, List.getElem?_range hN]
      simp only [gFc, ht, gUp, if_true, Option.map_some, and_self, g_adr hq]
      rfl
    · rw [List.getElem?_eq_none (by simp; omega), List.getElem?_eq_none (by simp; omega)]
  · rw [List.getElem?_set_ne (Ne.symm hi), List.getElem?_map, List.getElem?_map]
    by_cases hN : i < N
    · rw [List.getElem?_range hN]
      simp [gFc, gUp, hi]
    · rw [List.getElem?_eq_none (by simp; omega)]
      rfl
theorem g_putR {G : gG} {Y : gY} {d pc : Nat} {al : List (Option Value)} {st : List Value} {S : List (Nat × Nat × Nat)} {T : Nat → Nat → Option Nat} {I : Nat → Nat → Int32} {L : Nat → Nat → Int64} {D : Nat → Nat → UInt64} {kc ks : Nat} {Q : gQ} {ix r ci j n0 q : Nat} (dg : decode Y.2.1 pc = .ok (.putfield ix, 3)) (hf : gFl Y.1.cls ix ci j) (hno : ∀ host, Cond.fieldLinkNest Y.1.cls ix (gRx ci) (gTx ci j).2.1 (gTx ci j).2.2.1 host ∉ gW) (hS : S[r]? = some (1, ci, n0)) (h3 : 3 ≤ r) (hty : gIsR ci j = true) (hfin : (gTx ci j).2.2.2 = true) (hnm : Y.1.name = "<init>") (hown : gRx ci = Y.1.cls) (k : gGo G Y d (pc + 3) al (st) (S, gUp T r j (some q), I, L, D) (kc) (ks) Q) : gGo G Y d pc al (.ref q :: .ref r :: st) (S, T, I, L, D) kc ks Q := by
  intro p l e R s m args below meth c QS mc ms ad0 C E ad ls sk H locs cells slots ha hL hs hR hV h1 h2
  obtain ⟨a0, sk0, hq0, rfl, hz0⟩ := gSk_ref hs
  obtain ⟨a, sk1, hq, rfl, hz1⟩ := gSk_ref hz0
  have hl : r < S.length := (List.getElem?_eq_some_iff.mp hS).1
  have haq : ad.getD r 0 = a := g_adr hq
  have he := gWs_at (ca := G.2.1) (ad := ad) (h := (S, T, I, L, D)) h3 hl
  rw [haq, gCe_obj (h := (S, T, I, L, D)) hS] at he
  obtain ⟨⟨hc4, hjN⟩, hlk⟩ := hf
  have hsm : ∀ x, s.fieldFound? (gTx ci j).1 (gTx ci j).2.1 (gTx ci j).2.2.1 = some x → s.fieldFound? (gRx ci) (gTx ci j).2.1 (gTx ci j).2.2.1 = some x := fun x hx => by rw [gTx_own ci hc4 j hjN] at hx; exact hx
  have hk9 : ∀ (H1 : Heap) (locs1 : List Loc), va_P G.1 gK ((gWs G.2.1 ad (S, T, I, L, D)).set (r - 3) (a, .inr (ci, ((List.range (gN ci)).map (gFc ad (S, T, I, L, D) r ci)).set j (.ref a0)))) H1 → va_D (fun q => G.2.2.1 ≤ q) ((gWs G.2.1 ad (S, T, I, L, D)).set (r - 3) (a, .inr (ci, ((List.range (gN ci)).map (gFc ad (S, T, I, L, D) r ci)).set j (.ref a0)))) → va_S (fun q => G.2.2.1 ≤ q) s.heap H1 locs1 → W p l e R s m args below meth c H1 locs1 cells slots QS (F0 m (pc + 3) ls sk1) := fun H1 locs1 hP hD hS1 => by
    rw [← haq, gFs_ref hty hq0] at hP hD
    refine k p l e R s m args below meth c QS mc ms ad0 C E ad ls sk1 H1 locs1 cells slots ha hL hz1 (gRep_set (h' := (S, gUp T r j (some q), I, L, D)) hR h3 hl rfl (fun j9 hj9 => gCe_congr rfl (gUp_ne hj9) rfl rfl rfl) (fun j9 hj9 => rfl) (fun k9 j9 r9 hr9 => ?_) (gCe_obj (h := (S, gUp T r j (some q), I, L, D)) hS) hP hD) hS1 h1 h2
    have hr9 : gUp T r j (some q) k9 j9 = some r9 := hr9
    unfold gUp at hr9
    split at hr9
    · cases hr9
      exact (List.getElem?_eq_some_iff.mp hq0).1
    · exact hR.2.2.1 k9 j9 r9 hr9
  have hnf : narrow (gTy ci j) (.ref a0) = .ref a0 ∧ fits (gTy ci j) (.ref a0) = true := by
    unfold gIsR at hty
    split at hty <;> first | (rename_i hh; rw [hh]; exact ⟨rfl, rfl⟩) | cases hty
  rcases hlk with hlk | ⟨host, hlk⟩
  · exact va_putF C.1 C.2.1 C.2.2.2.2.1 (gLays hc4) (gTy ci) (gTx_ty ci hc4) (gTx_nm ci hc4) C.2.2.2.1 C.2.2.2.2.2.1.2.1 hR.2.2.2.1 hR.2.2.2.2 hV (r - 3) he (gK_at hc4) j hjN (C.2.2.2.2.1 _ hlk) hsm hfin ((C.2.2.2.2.2.2.2.2.2.1 (fun q9 => by rw [q9] at hnm; revert hnm; decide)).trans hnm) ((gTx_own ci hc4 j hjN).trans hown) (gTx_ty ci hc4 j hjN) hnf.1 hnf.2 (by simpa using hjN) dg hk9
  · exact absurd hlk (hno host)
theorem g_aastore {G : gG} {Y : gY} {d pc : Nat} {al : List (Option Value)} {st : List Value} {S : List (Nat × Nat × Nat)} {T : Nat → Nat → Option Nat} {I : Nat → Nat → Int32} {L : Nat → Nat → Int64} {D : Nat → Nat → UInt64} {kc ks : Nat} {Q : gQ} {r q n n0 : Nat} {i : Int32} (dg : decode Y.2.1 pc = .ok (.aastore, 1)) (hS : S[r]? = some (2, 5, n)) (h3 : 3 ≤ r) (hSq : S[q]? = some (1, 1, n0)) (h3q : 3 ≤ q) (hin : vp_in i n) (k : gGo G Y d (pc + 1) al (st) (S, gUp T r i.toNatClampNeg (some q), I, L, D) (kc) (ks) Q) : gGo G Y d pc al (.ref q :: .int i :: .ref r :: st) (S, T, I, L, D) kc ks Q := by
  intro p l e R s m args below meth c QS mc ms ad0 C E ad ls sk H locs cells slots ha hL hs hR hV h1 h2
  obtain ⟨a0, sk9, hq0, rfl, hz9⟩ := gSk_ref hs
  obtain ⟨sk0, rfl, hz0⟩ := gSk_int hz9
  obtain ⟨a, sk1, hq, rfl, hz1⟩ := gSk_ref hz0
  have hl : r < S.length := (List.getElem?_eq_some_iff.mp hS).1
  have haq : ad.getD r 0 = a := g_adr hq
  have he := gWs_at (ca := G.2.1) (ad := ad) (h := (S, T, I, L, D)) h3 hl
  rw [haq, gCe_arr (h := (S, T, I, L, D)) hS] at he
  have hlq : q < S.length := (List.getElem?_eq_some_iff.mp hSq).1
  have heq := gWs_at (ca := G.2.1) (ad := ad) (h := (S, T, I, L, D)) h3q hlq
  rw [g_adr hq0, gCe_obj (h := (S, T, I, L, D)) hSq] at heq
  refine va_astq C.1 C.2.1 C.2.2.2.2.2.1.2.1 hR.2.2.2.1 hR.2.2.2.2 hV (r - 3) 5 (q - 3) 1 he rfl heq rfl hin dg (fun H1 locs1 hP hD hS1 => ?_)
  rw [← haq] at hP hD
  refine k p l e R s m args below meth c QS mc ms ad0 C E ad ls sk1 H1 locs1 cells slots ha hL hz1 (gRep_set (h' := (S, gUp T r i.toNatClampNeg (some q), I, L, D)) hR h3 hl rfl (fun j9 hj9 => gCe_congr rfl (gUp_ne hj9) rfl rfl rfl) (fun j9 hj9 => rfl) (fun k9 j9 r9 hr9 => ?_) ?_ hP hD) hS1 h1 h2
  · have hr9 : gUp T r i.toNatClampNeg (some q) k9 j9 = some r9 := hr9
    unfold gUp at hr9
    split at hr9
    · cases hr9
      exact (List.getElem?_eq_some_iff.mp hq0).1
    · exact hR.2.2.1 k9 j9 r9 hr9
  · rw [gCe_arr (h := (S, gUp T r i.toNatClampNeg (some q), I, L, D)) hS]
    have ef : (fun j => (gUp T r i.toNatClampNeg (some q) r j).map (fun z => ad.getD z 0)) = va_up (fun j => (T r j).map (fun z => ad.getD z 0)) i.toNatClampNeg (some a0) := by
      funext j
      simp only [gUp, va_up, true_and]
      split
      · simp only [Option.map_some, g_adr hq0]
      · rfl
    simp only [gAr, ef]
theorem g_objInit {G : gG} {Y : gY} {d pc ix r : Nat} {al : List (Option Value)} {st : List Value} {h : gH} {kc ks : Nat} {Q : gQ} (dg : decode Y.2.1 pc = .ok (.invokespecial ix, 3)) (hl : Cond.methodLink Y.1.cls ix Lib.objectInit ∈ gW) (hrest : (st.map fun v => v.category).sum ≤ 8) (k : gGo G Y d (pc + 3) al st h kc ks Q) : gGo G Y d pc al (.ref r :: st) h kc ks Q := by
  intro p l e R s m args below meth c QS mc ms ad0 C E ad ls sk H locs cells slots ha hL hs hR hV h1 h2
  obtain ⟨a, sk1, hq, rfl, hz1⟩ := gSk_ref hs
  obtain ⟨r1, r2⟩ := C.2.2.2.2.2.2.2.2.2.2.2.1
  have h8 : 2 * (F0 m pc ls (.ref a :: sk1)).monitorRoom + (sk1.map fun v => v.category).sum ≤ 8 := lv_room (by rw [gSk_cat hz1]; exact hrest)
  exact W.objInit C.1 C.2.1 C.2.2.2.1 (C.2.2.2.2.1 _ hl) (C.2.2.2.2.1 _ gObj1) (C.2.2.2.2.1 _ gObj2) rfl (hL.1.trans C.2.2.1.symm) rfl dg (by omega) (by omega) (k p l e R s m args below meth c QS mc ms ad0 C E ad ls sk1 H locs cells slots ha hL hz1 hR hV h1 h2)
theorem g_copy {G : gG} {Y : gY} {d pc : Nat} {al : List (Option Value)} {st : List Value} {S : List (Nat × Nat × Nat)} {T : Nat → Nat → Option Nat} {I : Nat → Nat → Int32} {L : Nat → Nat → Int64} {D : Nat → Nat → UInt64} {kc ks : Nat} {Q : gQ} {ix r q n0 n1 : Nat} {x y n : Int32} (dg : decode Y.2.1 pc = .ok (.invokestatic ix, 3)) (hlk : Cond.methodLink Y.1.cls ix arraycopyName ∈ gW) (hS : S[r]? = some (2, 0, n1)) (h3 : 3 ≤ r) (hSq : S[q]? = some (2, 0, n0)) (h3q : 3 ≤ q) (p1 : ¬ x < 0) (p2 : ¬ y < 0) (p3 : ¬ n < 0) (p4 : x.toNatClampNeg + n.toNatClampNeg ≤ n0) (p5 : y.toNatClampNeg + n.toNatClampNeg ≤ n1) (hrest : (st.map fun v => v.category).sum ≤ 8) (k : gGo G Y d (pc + 3) al (st) (S, T, (fun a b => if a = r then va_cpy (I q) (I r) x.toNatClampNeg y.toNatClampNeg n.toNatClampNeg b else I a b), L, D) (kc) (ks) Q) : gGo G Y d pc al (.int n :: .int y :: .ref r :: .int x :: .ref q :: st) (S, T, I, L, D) kc ks Q := by
  intro p l e R s m args below meth c QS mc ms ad0 C E ad ls sk H locs cells slots ha hL hs hR hV h1 h2
  obtain ⟨s1, rfl, z1⟩ := gSk_int hs
  obtain ⟨s2, rfl, z2⟩ := gSk_int z1
  obtain ⟨a, s3, hq, rfl, z3⟩ := gSk_ref z2
  obtain ⟨s4, rfl, z4⟩ := gSk_int z3
  obtain ⟨a0, s5, hq0, rfl, z5⟩ := gSk_ref z4
  obtain ⟨r1, r2⟩ := C.2.2.2.2.2.2.2.2.2.2.2.1
  have hl : r < S.length := (List.getElem?_eq_some_iff.mp hS).1
  have he := gWs_at (ca := G.2.1) (ad := ad) (h := (S, T, I, L, D)) h3 hl
  rw [g_adr hq, gCe_arr (h := (S, T, I, L, D)) hS] at he
  have hl0 : q < S.length := (List.getElem?_eq_some_iff.mp hSq).1
  have he0 := gWs_at (ca := G.2.1) (ad := ad) (h := (S, T, I, L, D)) h3q hl0
  rw [g_adr hq0, gCe_arr (h := (S, T, I, L, D)) hSq] at he0
  have hcs : (s5.map fun v => v.category).sum ≤ 8 := by rw [gSk_cat z5]; exact hrest
  have hnf : nativeFrameWords "java/lang/System" "arraycopy" 5 ≤ 100 := by decide
  refine va_copyi C.1 C.2.1 (C.2.2.1.trans hL.1.symm) C.2.2.2.1 (C.2.2.2.2.1 _ hlk) (C.2.2.2.2.1 _ gCpy1) (C.2.2.2.2.1 _ gCpy2) (C.2.2.2.2.1 _ gCpy3) C.2.2.2.2.2.1.2.1 hR.2.2.2.1 hR.2.2.2.2 hV (q - 3) (r - 3) 0 0 he0 he rfl rfl rfl p1 p2 p3 p4 p5 (fun i _ => rfl) (by omega) (by omega) dg (fun H1 locs1 hP hD hS1 => ?_)
  rw [← g_adr hq] at hP hD
  refine k p l e R s m args below meth c QS mc ms ad0 C E ad ls s5 H1 locs1 cells slots ha hL z5 (gRep_set (h' := (S, T, (fun a b => if a = r then va_cpy (I q) (I r) x.toNatClampNeg y.toNatClampNeg n.toNatClampNeg b else I a b), L, D)) hR h3 hl rfl (fun j9 hj9 => gCe_congr rfl rfl (by funext b; simp only [if_neg hj9]) rfl rfl) (fun j9 hj9 => by funext b; simp only [if_neg (show j9 ≠ r by omega)]) hR.2.2.1 ?_ hP hD) hS1 h1 h2
  rw [gCe_arr (h := (S, T, (fun a b => if a = r then va_cpy (I q) (I r) x.toNatClampNeg y.toNatClampNeg n.toNatClampNeg b else I a b), L, D)) hS]
  simp only [gAr, if_true]
