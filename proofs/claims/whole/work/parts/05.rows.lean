theorem g_iconst {G : gG} {Y : gY} {d pc : Nat} {al : List (Option Value)} {st : List Value} {h : gH} {kc ks : Nat} {Q : gQ} {n : Int} {v : Int32} (dg : decode Y.2.1 pc = .ok (.iconst n, 1)) (hv : Int32.ofInt n = v) (k : gGo G Y d (pc + 1) al (.int v :: st) h kc ks Q) : gGo G Y d pc al st h kc ks Q := by
  intro p l e R s m args below meth c QS mc ms ad0 C E ad ls sk H locs cells slots ha hL hs hR hV h1 h2
  exact lv_iconst C.1 C.2.1 dg hv (k p l e R s m args below meth c QS mc ms ad0 C E ad ls _ H locs cells slots ha hL (gSk_in gV_int hs) hR hV h1 h2)
theorem g_bipush {G : gG} {Y : gY} {d pc : Nat} {al : List (Option Value)} {st : List Value} {h : gH} {kc ks : Nat} {Q : gQ} {n : Int} {v : Int32} (dg : decode Y.2.1 pc = .ok (.bipush n, 2)) (hv : (Int8.ofInt n).toInt32 = v) (k : gGo G Y d (pc + 2) al (.int v :: st) h kc ks Q) : gGo G Y d pc al st h kc ks Q := by
  intro p l e R s m args below meth c QS mc ms ad0 C E ad ls sk H locs cells slots ha hL hs hR hV h1 h2
  exact lv_bipush C.1 C.2.1 dg hv (k p l e R s m args below meth c QS mc ms ad0 C E ad ls _ H locs cells slots ha hL (gSk_in gV_int hs) hR hV h1 h2)
theorem g_sipush {G : gG} {Y : gY} {d pc : Nat} {al : List (Option Value)} {st : List Value} {h : gH} {kc ks : Nat} {Q : gQ} {n : Int} {v : Int32} (dg : decode Y.2.1 pc = .ok (.sipush n, 3)) (hv : (Int16.ofInt n).toInt32 = v) (k : gGo G Y d (pc + 3) al (.int v :: st) h kc ks Q) : gGo G Y d pc al st h kc ks Q := by
  intro p l e R s m args below meth c QS mc ms ad0 C E ad ls sk H locs cells slots ha hL hs hR hV h1 h2
  exact lv_sipush C.1 C.2.1 dg hv (k p l e R s m args below meth c QS mc ms ad0 C E ad ls _ H locs cells slots ha hL (gSk_in gV_int hs) hR hV h1 h2)
theorem g_lconst {G : gG} {Y : gY} {d pc : Nat} {al : List (Option Value)} {st : List Value} {h : gH} {kc ks : Nat} {Q : gQ} {n : Fin 2} {v : Int64} (dg : decode Y.2.1 pc = .ok (.lconst n, 1)) (hv : Int64.ofNat (n : Nat) = v) (k : gGo G Y d (pc + 1) al (.long v :: st) h kc ks Q) : gGo G Y d pc al st h kc ks Q := by
  intro p l e R s m args below meth c QS mc ms ad0 C E ad ls sk H locs cells slots ha hL hs hR hV h1 h2
  exact lv_lconst C.1 C.2.1 dg hv (k p l e R s m args below meth c QS mc ms ad0 C E ad ls _ H locs cells slots ha hL (gSk_in gV_long hs) hR hV h1 h2)
theorem g_dconst0 {G : gG} {Y : gY} {d pc : Nat} {al : List (Option Value)} {st : List Value} {h : gH} {kc ks : Nat} {Q : gQ} (dg : decode Y.2.1 pc = .ok (.dconst 0, 1)) (k : gGo G Y d (pc + 1) al (.double 0 :: st) h kc ks Q) : gGo G Y d pc al st h kc ks Q := by
  intro p l e R s m args below meth c QS mc ms ad0 C E ad ls sk H locs cells slots ha hL hs hR hV h1 h2
  exact lv_dconst0 C.1 C.2.1 dg (k p l e R s m args below meth c QS mc ms ad0 C E ad ls _ H locs cells slots ha hL (gSk_in gV_double hs) hR hV h1 h2)
theorem g_ldc {G : gG} {Y : gY} {d pc : Nat} {al : List (Option Value)} {st : List Value} {h : gH} {kc ks : Nat} {Q : gQ} {ix : Nat} {v : Int32} (dg : decode Y.2.1 pc = .ok (.ldc ix, 2)) (hv : Cond.constant Y.1.cls ix v ∈ gW) (k : gGo G Y d (pc + 2) al (.int v :: st) h kc ks Q) : gGo G Y d pc al st h kc ks Q := by
  intro p l e R s m args below meth c QS mc ms ad0 C E ad ls sk H locs cells slots ha hL hs hR hV h1 h2
  exact lv_ldc C.1 C.2.1 C.2.2.2.1 (C.2.2.2.2.1 _ hv) dg (k p l e R s m args below meth c QS mc ms ad0 C E ad ls _ H locs cells slots ha hL (gSk_in gV_int hs) hR hV h1 h2)
theorem g_ldcw {G : gG} {Y : gY} {d pc : Nat} {al : List (Option Value)} {st : List Value} {h : gH} {kc ks : Nat} {Q : gQ} {ix : Nat} {v : Int32} (dg : decode Y.2.1 pc = .ok (.ldc_w ix, 3)) (hv : Cond.constant Y.1.cls ix v ∈ gW) (k : gGo G Y d (pc + 3) al (.int v :: st) h kc ks Q) : gGo G Y d pc al st h kc ks Q := by
  intro p l e R s m args below meth c QS mc ms ad0 C E ad ls sk H locs cells slots ha hL hs hR hV h1 h2
  exact lv_ldcw C.1 C.2.1 C.2.2.2.1 (C.2.2.2.2.1 _ hv) dg (k p l e R s m args below meth c QS mc ms ad0 C E ad ls _ H locs cells slots ha hL (gSk_in gV_int hs) hR hV h1 h2)
theorem g_iload_n {G : gG} {Y : gY} {d pc : Nat} {al : List (Option Value)} {st : List Value} {h : gH} {kc ks : Nat} {Q : gQ} {k0 : Fin 4} {i : Nat} {x : Int32} (dg : decode Y.2.1 pc = .ok (.iload_n k0, 1)) (hi : (k0 : Nat) = i) (hl : al[i]? = some (some (.int x))) (k : gGo G Y d (pc + 1) al (.int x :: st) h kc ks Q) : gGo G Y d pc al st h kc ks Q := by
  intro p l e R s m args below meth c QS mc ms ad0 C E ad ls sk H locs cells slots ha hL hs hR hV h1 h2
  exact lv_iload_n C.1 C.2.1 dg hi (gLoc_int hL hl) (k p l e R s m args below meth c QS mc ms ad0 C E ad ls _ H locs cells slots ha hL (gSk_in gV_int hs) hR hV h1 h2)
theorem g_iload {G : gG} {Y : gY} {d pc : Nat} {al : List (Option Value)} {st : List Value} {h : gH} {kc ks : Nat} {Q : gQ} {i : Nat} {x : Int32} (dg : decode Y.2.1 pc = .ok (.iload i, 2)) (hl : al[i]? = some (some (.int x))) (k : gGo G Y d (pc + 2) al (.int x :: st) h kc ks Q) : gGo G Y d pc al st h kc ks Q := by
  intro p l e R s m args below meth c QS mc ms ad0 C E ad ls sk H locs cells slots ha hL hs hR hV h1 h2
  exact lv_iload C.1 C.2.1 dg (gLoc_int hL hl) (k p l e R s m args below meth c QS mc ms ad0 C E ad ls _ H locs cells slots ha hL (gSk_in gV_int hs) hR hV h1 h2)
theorem g_dload {G : gG} {Y : gY} {d pc : Nat} {al : List (Option Value)} {st : List Value} {h : gH} {kc ks : Nat} {Q : gQ} {i : Nat} {x : UInt64} (dg : decode Y.2.1 pc = .ok (.dload i, 2)) (hl : al[i]? = some (some (.double x))) (k : gGo G Y d (pc + 2) al (.double x :: st) h kc ks Q) : gGo G Y d pc al st h kc ks Q := by
  intro p l e R s m args below meth c QS mc ms ad0 C E ad ls sk H locs cells slots ha hL hs hR hV h1 h2
  exact lv_dload C.1 C.2.1 dg (gLoc_double hL hl) (k p l e R s m args below meth c QS mc ms ad0 C E ad ls _ H locs cells slots ha hL (gSk_in gV_double hs) hR hV h1 h2)
theorem gV_at {ad : List Nat} {k a : Nat} (h : ad[k]? = some a) : gV ad (.ref k) = some (.ref a) := by
  show (ad[k]?).map Value.ref = _
  rw [h]; rfl
theorem g_aload_n {G : gG} {Y : gY} {d pc : Nat} {al : List (Option Value)} {st : List Value} {h : gH} {kc ks : Nat} {Q : gQ} {k0 : Fin 4} {i r : Nat} (dg : decode Y.2.1 pc = .ok (.aload_n k0, 1)) (hi : (k0 : Nat) = i) (hl : al[i]? = some (some (.ref r))) (k : gGo G Y d (pc + 1) al (.ref r :: st) h kc ks Q) : gGo G Y d pc al st h kc ks Q := by
  intro p l e R s m args below meth c QS mc ms ad0 C E ad ls sk H locs cells slots ha hL hs hR hV h1 h2
  obtain ⟨a, hq, hz⟩ := gLoc_ref hL hl
  exact lv_aload_n C.1 C.2.1 dg hi hz (k p l e R s m args below meth c QS mc ms ad0 C E ad ls _ H locs cells slots ha hL (gSk_in (gV_at hq) hs) hR hV h1 h2)
theorem g_aload {G : gG} {Y : gY} {d pc : Nat} {al : List (Option Value)} {st : List Value} {h : gH} {kc ks : Nat} {Q : gQ} {i r : Nat} (dg : decode Y.2.1 pc = .ok (.aload i, 2)) (hl : al[i]? = some (some (.ref r))) (k : gGo G Y d (pc + 2) al (.ref r :: st) h kc ks Q) : gGo G Y d pc al st h kc ks Q := by
  intro p l e R s m args below meth c QS mc ms ad0 C E ad ls sk H locs cells slots ha hL hs hR hV h1 h2
  obtain ⟨a, hq, hz⟩ := gLoc_ref hL hl
  exact lv_aload C.1 C.2.1 dg hz (k p l e R s m args below meth c QS mc ms ad0 C E ad ls _ H locs cells slots ha hL (gSk_in (gV_at hq) hs) hR hV h1 h2)
theorem g_istore_n {G : gG} {Y : gY} {d pc : Nat} {al : List (Option Value)} {st : List Value} {h : gH} {kc ks : Nat} {Q : gQ} {k0 : Fin 4} {i : Nat} {x : Int32} {al' : List (Option Value)} (dg : decode Y.2.1 pc = .ok (.istore_n k0, 1)) (hi : (k0 : Nat) = i) (hn : i < Y.2.2.1) (he : gSto al i (.int x) = al') (k : gGo G Y d (pc + 1) al' st h kc ks Q) : gGo G Y d pc al (.int x :: st) h kc ks Q := by
  intro p l e R s m args below meth c QS mc ms ad0 C E ad ls sk H locs cells slots ha hL hs hR hV h1 h2
  subst he
  obtain ⟨sk', rfl, hs'⟩ := gSk_int hs
  exact lv_istore_n C.1 C.2.1 dg hi (gLoc_has hL) hn rfl (fun ls' hl' => k p l e R s m args below meth c QS mc ms ad0 C E ad ls' _ H locs cells slots ha (gLoc_sto hl' gV_int (gLoc_val hL)) hs' hR hV h1 h2)
theorem g_istore {G : gG} {Y : gY} {d pc : Nat} {al : List (Option Value)} {st : List Value} {h : gH} {kc ks : Nat} {Q : gQ} {i : Nat} {x : Int32} {al' : List (Option Value)} (dg : decode Y.2.1 pc = .ok (.istore i, 2)) (hn : i < Y.2.2.1) (he : gSto al i (.int x) = al') (k : gGo G Y d (pc + 2) al' st h kc ks Q) : gGo G Y d pc al (.int x :: st) h kc ks Q := by
  intro p l e R s m args below meth c QS mc ms ad0 C E ad ls sk H locs cells slots ha hL hs hR hV h1 h2
  subst he
  obtain ⟨sk', rfl, hs'⟩ := gSk_int hs
  exact lv_istore C.1 C.2.1 dg (gLoc_has hL) hn rfl (fun ls' hl' => k p l e R s m args below meth c QS mc ms ad0 C E ad ls' _ H locs cells slots ha (gLoc_sto hl' gV_int (gLoc_val hL)) hs' hR hV h1 h2)
theorem g_astore_n {G : gG} {Y : gY} {d pc : Nat} {al : List (Option Value)} {st : List Value} {h : gH} {kc ks : Nat} {Q : gQ} {k0 : Fin 4} {i r : Nat} {al' : List (Option Value)} (dg : decode Y.2.1 pc = .ok (.astore_n k0, 1)) (hi : (k0 : Nat) = i) (hn : i < Y.2.2.1) (he : gSto al i (.ref r) = al') (k : gGo G Y d (pc + 1) al' st h kc ks Q) : gGo G Y d pc al (.ref r :: st) h kc ks Q := by
  intro p l e R s m args below meth c QS mc ms ad0 C E ad ls sk H locs cells slots ha hL hs hR hV h1 h2
  subst he
  obtain ⟨a, sk', hq, rfl, hs'⟩ := gSk_ref hs
  exact lv_astore_n C.1 C.2.1 dg hi (gLoc_has hL) hn rfl (fun ls' hl' => k p l e R s m args below meth c QS mc ms ad0 C E ad ls' _ H locs cells slots ha (gLoc_sto hl' (gV_at hq) (gLoc_val hL)) hs' hR hV h1 h2)
theorem g_astore {G : gG} {Y : gY} {d pc : Nat} {al : List (Option Value)} {st : List Value} {h : gH} {kc ks : Nat} {Q : gQ} {i r : Nat} {al' : List (Option Value)} (dg : decode Y.2.1 pc = .ok (.astore i, 2)) (hn : i < Y.2.2.1) (he : gSto al i (.ref r) = al') (k : gGo G Y d (pc + 2) al' st h kc ks Q) : gGo G Y d pc al (.ref r :: st) h kc ks Q := by
  intro p l e R s m args below meth c QS mc ms ad0 C E ad ls sk H locs cells slots ha hL hs hR hV h1 h2
  subst he
  obtain ⟨a, sk', hq, rfl, hs'⟩ := gSk_ref hs
  exact lv_astore C.1 C.2.1 dg (gLoc_has hL) hn rfl (fun ls' hl' => k p l e R s m args below meth c QS mc ms ad0 C E ad ls' _ H locs cells slots ha (gLoc_sto hl' (gV_at hq) (gLoc_val hL)) hs' hR hV h1 h2)
/-- the locals behind a store of two slots -/
def gStw (al : List (Option Value)) (i : Nat) (v : Value) : List (Option Value) := ((al.map gDw).set i (some v)).set (i + 1) none
theorem gLoc_stw {ad : List Nat} {al : List (Option Value)} {ls' : Array Slot} {n i : Nat} {v w : Value} (h : lv_has ls' n ((i, w) :: (gLv ad al).filter (fun q => !(q.1 == i) && (!(q.1 == i + 1) && !(q.1 + 1 == i && q.2.category == 2))))) (hv : gV ad v = some w) (h2 : ∀ (j : Nat) (u : Value), al[j]? = some (some u) → ∃ z, gV ad u = some z) : gLoc ad (gStw al i v) ls' n := by
  refine ⟨h.1, h.2.1, fun j u hu => ?_⟩
  unfold gStw at hu
  by_cases h9 : j = i + 1
  · subst h9
    have hl : i + 1 < ((al.map gDw).set i (some v)).length := by
      have := (List.getElem?_eq_some_iff.mp hu).1
      rw [List.length_set] at this
      exact this
    rw [List.getElem?_set_self hl] at hu
    cases Option.some.inj hu
  · rw [List.getElem?_set_ne (Ne.symm h9)] at hu
    rcases gSto_get hu with ⟨rfl, rfl⟩ | ⟨hj, ha, hc⟩
    · exact ⟨w, hv, h.2.2 _ List.mem_cons_self⟩
    · obtain ⟨z, hz⟩ := h2 j u ha
      refine ⟨z, hz, h.2.2 (j, z) (List.mem_cons_of_mem _ (List.mem_filter.mpr ⟨gLv_mem ha hz, ?_⟩))⟩
      have hcz : z.category = 1 := (gV_cat hz).trans hc
      simp [hj, h9, hcz]
theorem g_dstore {G : gG} {Y : gY} {d pc : Nat} {al : List (Option Value)} {st : List Value} {h : gH} {kc ks : Nat} {Q : gQ} {i : Nat} {x : UInt64} {al' : List (Option Value)} (dg : decode Y.2.1 pc = .ok (.dstore i, 2)) (hn : i + 1 < Y.2.2.1) (he : gStw al i (.double x) = al') (k : gGo G Y d (pc + 2) al' st h kc ks Q) : gGo G Y d pc al (.double x :: st) h kc ks Q := by
  intro p l e R s m args below meth c QS mc ms ad0 C E ad ls sk H locs cells slots ha hL hs hR hV h1 h2
  subst he
  obtain ⟨sk', rfl, hs'⟩ := gSk_double hs
  exact lv_dstore C.1 C.2.1 dg (gLoc_has hL) hn rfl (fun ls' hl' => k p l e R s m args below meth c QS mc ms ad0 C E ad ls' _ H locs cells slots ha (gLoc_stw hl' gV_double (gLoc_val hL)) hs' hR hV h1 h2)
theorem g_iinc {G : gG} {Y : gY} {d pc : Nat} {al : List (Option Value)} {st : List Value} {h : gH} {kc ks : Nat} {Q : gQ} {i : Nat} {n : Int} {x v : Int32} {al' : List (Option Value)} (dg : decode Y.2.1 pc = .ok (.iinc i n, 3)) (hn : i < Y.2.2.1) (hl : al[i]? = some (some (.int x))) (hv : x + Int32.ofInt n = v) (he : gSto al i (.int v) = al') (k : gGo G Y d (pc + 3) al' st h kc ks Q) : gGo G Y d pc al st h kc ks Q := by
  intro p l e R s m args below meth c QS mc ms ad0 C E ad ls sk H locs cells slots ha hL hs hR hV h1 h2
  subst he
  obtain ⟨j, hj⟩ := List.getElem?_of_mem (gLv_mem hl (gV_int (ad := ad)))
  have hs' := hs
  exact lv_iinc C.1 C.2.1 dg (gLoc_has hL) hj hv hn rfl (fun ls' hl' => k p l e R s m args below meth c QS mc ms ad0 C E ad ls' _ H locs cells slots ha (gLoc_sto hl' gV_int (gLoc_val hL)) hs' hR hV h1 h2)
theorem g_iadd {G : gG} {Y : gY} {d pc : Nat} {al : List (Option Value)} {st : List Value} {h : gH} {kc ks : Nat} {Q : gQ} {x y : Int32} (dg : decode Y.2.1 pc = .ok (.iadd, 1)) (k : gGo G Y d (pc + 1) al (.int (x + y) :: st) h kc ks Q) : gGo G Y d pc al (.int y :: .int x :: st) h kc ks Q := by
  intro p l e R s m args below meth c QS mc ms ad0 C E ad ls sk H locs cells slots ha hL hs hR hV h1 h2
  obtain ⟨sk1, rfl, hz1⟩ := gSk_int hs
  obtain ⟨sk2, rfl, hz2⟩ := gSk_int hz1
  exact lv_iadd C.1 C.2.1 dg (k p l e R s m args below meth c QS mc ms ad0 C E ad ls _ H locs cells slots ha hL (gSk_in gV_int hz2) hR hV h1 h2)
theorem g_isub {G : gG} {Y : gY} {d pc : Nat} {al : List (Option Value)} {st : List Value} {h : gH} {kc ks : Nat} {Q : gQ} {x y : Int32} (dg : decode Y.2.1 pc = .ok (.isub, 1)) (k : gGo G Y d (pc + 1) al (.int (x - y) :: st) h kc ks Q) : gGo G Y d pc al (.int y :: .int x :: st) h kc ks Q := by
  intro p l e R s m args below meth c QS mc ms ad0 C E ad ls sk H locs cells slots ha hL hs hR hV h1 h2
  obtain ⟨sk1, rfl, hz1⟩ := gSk_int hs
  obtain ⟨sk2, rfl, hz2⟩ := gSk_int hz1
  exact lv_isub C.1 C.2.1 dg (k p l e R s m args below meth c QS mc ms ad0 C E ad ls _ H locs cells slots ha hL (gSk_in gV_int hz2) hR hV h1 h2)
theorem g_imul {G : gG} {Y : gY} {d pc : Nat} {al : List (Option Value)} {st : List Value} {h : gH} {kc ks : Nat} {Q : gQ} {x y : Int32} (dg : decode Y.2.1 pc = .ok (.imul, 1)) (k : gGo G Y d (pc + 1) al (.int (x * y) :: st) h kc ks Q) : gGo G Y d pc al (.int y :: .int x :: st) h kc ks Q := by
  intro p l e R s m args below meth c QS mc ms ad0 C E ad ls sk H locs cells slots ha hL hs hR hV h1 h2
  obtain ⟨sk1, rfl, hz1⟩ := gSk_int hs
  obtain ⟨sk2, rfl, hz2⟩ := gSk_int hz1
  exact lv_imul C.1 C.2.1 dg (k p l e R s m args below meth c QS mc ms ad0 C E ad ls _ H locs cells slots ha hL (gSk_in gV_int hz2) hR hV h1 h2)
theorem g_iand {G : gG} {Y : gY} {d pc : Nat} {al : List (Option Value)} {st : List Value} {h : gH} {kc ks : Nat} {Q : gQ} {x y : Int32} (dg : decode Y.2.1 pc = .ok (.iand, 1)) (k : gGo G Y d (pc + 1) al (.int (x &&& y) :: st) h kc ks Q) : gGo G Y d pc al (.int y :: .int x :: st) h kc ks Q := by
  intro p l e R s m args below meth c QS mc ms ad0 C E ad ls sk H locs cells slots ha hL hs hR hV h1 h2
  obtain ⟨sk1, rfl, hz1⟩ := gSk_int hs
  obtain ⟨sk2, rfl, hz2⟩ := gSk_int hz1
  exact lv_iand C.1 C.2.1 dg (k p l e R s m args below meth c QS mc ms ad0 C E ad ls _ H locs cells slots ha hL (gSk_in gV_int hz2) hR hV h1 h2)
theorem g_ior {G : gG} {Y : gY} {d pc : Nat} {al : List (Option Value)} {st : List Value} {h : gH} {kc ks : Nat} {Q : gQ} {x y : Int32} (dg : decode Y.2.1 pc = .ok (.ior, 1)) (k : gGo G Y d (pc + 1) al (.int (x ||| y) :: st) h kc ks Q) : gGo G Y d pc al (.int y :: .int x :: st) h kc ks Q := by
  intro p l e R s m args below meth c QS mc ms ad0 C E ad ls sk H locs cells slots ha hL hs hR hV h1 h2
  obtain ⟨sk1, rfl, hz1⟩ := gSk_int hs
  obtain ⟨sk2, rfl, hz2⟩ := gSk_int hz1
  exact lv_ior C.1 C.2.1 dg (k p l e R s m args below meth c QS mc ms ad0 C E ad ls _ H locs cells slots ha hL (gSk_in gV_int hz2) hR hV h1 h2)
theorem g_ixor {G : gG} {Y : gY} {d pc : Nat} {al : List (Option Value)} {st : List Value} {h : gH} {kc ks : Nat} {Q : gQ} {x y : Int32} (dg : decode Y.2.1 pc = .ok (.ixor, 1)) (k : gGo G Y d (pc + 1) al (.int (x ^^^ y) :: st) h kc ks Q) : gGo G Y d pc al (.int y :: .int x :: st) h kc ks Q := by
  intro p l e R s m args below meth c QS mc ms ad0 C E ad ls sk H locs cells slots ha hL hs hR hV h1 h2
  obtain ⟨sk1, rfl, hz1⟩ := gSk_int hs
  obtain ⟨sk2, rfl, hz2⟩ := gSk_int hz1
  exact lv_ixor C.1 C.2.1 dg (k p l e R s m args below meth c QS mc ms ad0 C E ad ls _ H locs cells slots ha hL (gSk_in gV_int hz2) hR hV h1 h2)
theorem g_ishl {G : gG} {Y : gY} {d pc : Nat} {al : List (Option Value)} {st : List Value} {h : gH} {kc ks : Nat} {Q : gQ} {x y : Int32} (dg : decode Y.2.1 pc = .ok (.ishl, 1)) (k : gGo G Y d (pc + 1) al (.int (x <<< (y &&& 31)) :: st) h kc ks Q) : gGo G Y d pc al (.int y :: .int x :: st) h kc ks Q := by
  intro p l e R s m args below meth c QS mc ms ad0 C E ad ls sk H locs cells slots ha hL hs hR hV h1 h2
  obtain ⟨sk1, rfl, hz1⟩ := gSk_int hs
  obtain ⟨sk2, rfl, hz2⟩ := gSk_int hz1
  exact lv_ishl C.1 C.2.1 dg (k p l e R s m args below meth c QS mc ms ad0 C E ad ls _ H locs cells slots ha hL (gSk_in gV_int hz2) hR hV h1 h2)
theorem g_ishr {G : gG} {Y : gY} {d pc : Nat} {al : List (Option Value)} {st : List Value} {h : gH} {kc ks : Nat} {Q : gQ} {x y : Int32} (dg : decode Y.2.1 pc = .ok (.ishr, 1)) (k : gGo G Y d (pc + 1) al (.int (x >>> (y &&& 31)) :: st) h kc ks Q) : gGo G Y d pc al (.int y :: .int x :: st) h kc ks Q := by
  intro p l e R s m args below meth c QS mc ms ad0 C E ad ls sk H locs cells slots ha hL hs hR hV h1 h2
  obtain ⟨sk1, rfl, hz1⟩ := gSk_int hs
  obtain ⟨sk2, rfl, hz2⟩ := gSk_int hz1
  exact lv_ishr C.1 C.2.1 dg (k p l e R s m args below meth c QS mc ms ad0 C E ad ls _ H locs cells slots ha hL (gSk_in gV_int hz2) hR hV h1 h2)
theorem g_iushr {G : gG} {Y : gY} {d pc : Nat} {al : List (Option Value)} {st : List Value} {h : gH} {kc ks : Nat} {Q : gQ} {x y : Int32} (dg : decode Y.2.1 pc = .ok (.iushr, 1)) (k : gGo G Y d (pc + 1) al (.int (x.toUInt32 >>> (y.toUInt32 &&& Int32.toUInt32 31)).toInt32 :: st) h kc ks Q) : gGo G Y d pc al (.int y :: .int x :: st) h kc ks Q := by
  intro p l e R s m args below meth c QS mc ms ad0 C E ad ls sk H locs cells slots ha hL hs hR hV h1 h2
  obtain ⟨sk1, rfl, hz1⟩ := gSk_int hs
  obtain ⟨sk2, rfl, hz2⟩ := gSk_int hz1
  exact lv_iushr C.1 C.2.1 dg rfl (k p l e R s m args below meth c QS mc ms ad0 C E ad ls _ H locs cells slots ha hL (gSk_in gV_int hz2) hR hV h1 h2)
theorem g_idiv {G : gG} {Y : gY} {d pc : Nat} {al : List (Option Value)} {st : List Value} {h : gH} {kc ks : Nat} {Q : gQ} {x y v : Int32} (dg : decode Y.2.1 pc = .ok (.idiv, 1)) (hne : ¬ y = 0) (hv : x / y = v) (k : gGo G Y d (pc + 1) al (.int v :: st) h kc ks Q) : gGo G Y d pc al (.int y :: .int x :: st) h kc ks Q := by
  intro p l e R s m args below meth c QS mc ms ad0 C E ad ls sk H locs cells slots ha hL hs hR hV h1 h2
  subst hv
  obtain ⟨sk1, rfl, hz1⟩ := gSk_int hs
  obtain ⟨sk2, rfl, hz2⟩ := gSk_int hz1
  exact lv_idiv C.1 C.2.1 dg hne (k p l e R s m args below meth c QS mc ms ad0 C E ad ls _ H locs cells slots ha hL (gSk_in gV_int hz2) hR hV h1 h2)
theorem g_irem {G : gG} {Y : gY} {d pc : Nat} {al : List (Option Value)} {st : List Value} {h : gH} {kc ks : Nat} {Q : gQ} {x y v : Int32} (dg : decode Y.2.1 pc = .ok (.irem, 1)) (hne : ¬ y = 0) (hv : x - x / y * y = v) (k : gGo G Y d (pc + 1) al (.int v :: st) h kc ks Q) : gGo G Y d pc al (.int y :: .int x :: st) h kc ks Q := by
  intro p l e R s m args below meth c QS mc ms ad0 C E ad ls sk H locs cells slots ha hL hs hR hV h1 h2
  subst hv
  obtain ⟨sk1, rfl, hz1⟩ := gSk_int hs
  obtain ⟨sk2, rfl, hz2⟩ := gSk_int hz1
  exact lv_irem C.1 C.2.1 dg hne (k p l e R s m args below meth c QS mc ms ad0 C E ad ls _ H locs cells slots ha hL (gSk_in gV_int hz2) hR hV h1 h2)
theorem g_ineg {G : gG} {Y : gY} {d pc : Nat} {al : List (Option Value)} {st : List Value} {h : gH} {kc ks : Nat} {Q : gQ} {x : Int32} (dg : decode Y.2.1 pc = .ok (.ineg, 1)) (k : gGo G Y d (pc + 1) al (.int (-x) :: st) h kc ks Q) : gGo G Y d pc al (.int x :: st) h kc ks Q := by
  intro p l e R s m args below meth c QS mc ms ad0 C E ad ls sk H locs cells slots ha hL hs hR hV h1 h2
  obtain ⟨sk1, rfl, hz1⟩ := gSk_int hs
  exact lv_ineg C.1 C.2.1 dg (k p l e R s m args below meth c QS mc ms ad0 C E ad ls _ H locs cells slots ha hL (gSk_in gV_int hz1) hR hV h1 h2)
theorem g_i2l {G : gG} {Y : gY} {d pc : Nat} {al : List (Option Value)} {st : List Value} {h : gH} {kc ks : Nat} {Q : gQ} {x : Int32} (dg : decode Y.2.1 pc = .ok (.i2l, 1)) (k : gGo G Y d (pc + 1) al (.long x.toInt64 :: st) h kc ks Q) : gGo G Y d pc al (.int x :: st) h kc ks Q := by
  intro p l e R s m args below meth c QS mc ms ad0 C E ad ls sk H locs cells slots ha hL hs hR hV h1 h2
  obtain ⟨sk1, rfl, hz1⟩ := gSk_int hs
  exact lv_i2l C.1 C.2.1 dg rfl (k p l e R s m args below meth c QS mc ms ad0 C E ad ls _ H locs cells slots ha hL (gSk_in gV_long hz1) hR hV h1 h2)
theorem g_i2c {G : gG} {Y : gY} {d pc : Nat} {al : List (Option Value)} {st : List Value} {h : gH} {kc ks : Nat} {Q : gQ} {x : Int32} (dg : decode Y.2.1 pc = .ok (.i2c, 1)) (k : gGo G Y d (pc + 1) al (.int (x.toUInt32 % 65536).toInt32 :: st) h kc ks Q) : gGo G Y d pc al (.int x :: st) h kc ks Q := by
  intro p l e R s m args below meth c QS mc ms ad0 C E ad ls sk H locs cells slots ha hL hs hR hV h1 h2
  obtain ⟨sk1, rfl, hz1⟩ := gSk_int hs
  exact lv_i2c C.1 C.2.1 dg rfl (k p l e R s m args below meth c QS mc ms ad0 C E ad ls _ H locs cells slots ha hL (gSk_in gV_int hz1) hR hV h1 h2)
theorem g_i2d {G : gG} {Y : gY} {d pc : Nat} {al : List (Option Value)} {st : List Value} {h : gH} {kc ks : Nat} {Q : gQ} {x : Int32} (dg : decode Y.2.1 pc = .ok (.i2d, 1)) (k : gGo G Y d (pc + 1) al (.double (FP.i2d x) :: st) h kc ks Q) : gGo G Y d pc al (.int x :: st) h kc ks Q := by
  intro p l e R s m args below meth c QS mc ms ad0 C E ad ls sk H locs cells slots ha hL hs hR hV h1 h2
  obtain ⟨sk1, rfl, hz1⟩ := gSk_int hs
  exact lv_i2d C.1 C.2.1 dg (k p l e R s m args below meth c QS mc ms ad0 C E ad ls _ H locs cells slots ha hL (gSk_in gV_double hz1) hR hV h1 h2)
theorem g_ddiv {G : gG} {Y : gY} {d pc : Nat} {al : List (Option Value)} {st : List Value} {h : gH} {kc ks : Nat} {Q : gQ} {x y : UInt64} (dg : decode Y.2.1 pc = .ok (.ddiv, 1)) (hne : vf_n64 (FP.ddiv x y)) (k : gGo G Y d (pc + 1) al (.double (FP.ddiv x y) :: st) h kc ks Q) : gGo G Y d pc al (.double y :: .double x :: st) h kc ks Q := by
  intro p l e R s m args below meth c QS mc ms ad0 C E ad ls sk H locs cells slots ha hL hs hR hV h1 h2
  obtain ⟨sk1, rfl, hz1⟩ := gSk_double hs
  obtain ⟨sk2, rfl, hz2⟩ := gSk_double hz1
  exact lv_ddiv C.1 C.2.1 dg hne (k p l e R s m args below meth c QS mc ms ad0 C E ad ls _ H locs cells slots ha hL (gSk_in gV_double hz2) hR hV h1 h2)
theorem g_dcmp {G : gG} {Y : gY} {d pc : Nat} {al : List (Option Value)} {st : List Value} {h : gH} {kc ks : Nat} {Q : gQ} {x y : UInt64} {op : CmpOp} (dg : decode Y.2.1 pc = .ok (.dcmp op, 1)) (k : gGo G Y d (pc + 1) al (.int (Op.cmpValue (FP.dcmp x y) op) :: st) h kc ks Q) : gGo G Y d pc al (.double y :: .double x :: st) h kc ks Q := by
  intro p l e R s m args below meth c QS mc ms ad0 C E ad ls sk H locs cells slots ha hL hs hR hV h1 h2
  obtain ⟨sk1, rfl, hz1⟩ := gSk_double hs
  obtain ⟨sk2, rfl, hz2⟩ := gSk_double hz1
  exact lv_dcmp C.1 C.2.1 dg (k p l e R s m args below meth c QS mc ms ad0 C E ad ls _ H locs cells slots ha hL (gSk_in gV_int hz2) hR hV h1 h2)
theorem g_lcmp {G : gG} {Y : gY} {d pc : Nat} {al : List (Option Value)} {st : List Value} {h : gH} {kc ks : Nat} {Q : gQ} {x y : Int64} (dg : decode Y.2.1 pc = .ok (.lcmp, 1)) (k : gGo G Y d (pc + 1) al (.int (lg_cmp x y) :: st) h kc ks Q) : gGo G Y d pc al (.long y :: .long x :: st) h kc ks Q := by
  intro p l e R s m args below meth c QS mc ms ad0 C E ad ls sk H locs cells slots ha hL hs hR hV h1 h2
  obtain ⟨sk1, rfl, hz1⟩ := gSk_long hs
  obtain ⟨sk2, rfl, hz2⟩ := gSk_long hz1
  exact W.lcmp C.1 C.2.1 dg (k p l e R s m args below meth c QS mc ms ad0 C E ad ls _ H locs cells slots ha hL (gSk_in gV_int hz2) hR hV h1 h2)
theorem g_dup {G : gG} {Y : gY} {d pc : Nat} {al : List (Option Value)} {st : List Value} {h : gH} {kc ks : Nat} {Q : gQ} {v : Value} (dg : decode Y.2.1 pc = .ok (.dup, 1)) (hc : v.category = 1) (k : gGo G Y d (pc + 1) al (v :: v :: st) h kc ks Q) : gGo G Y d pc al (v :: st) h kc ks Q := by
  intro p l e R s m args below meth c QS mc ms ad0 C E ad ls sk H locs cells slots ha hL hs hR hV h1 h2
  obtain ⟨w, sk1, hw, rfl, hz1⟩ := gSk_cons hs
  exact lv_dup C.1 C.2.1 dg (by rw [gV_cat hw]; exact hc) (k p l e R s m args below meth c QS mc ms ad0 C E ad ls _ H locs cells slots ha hL (gSk_in hw (gSk_in hw hz1)) hR hV h1 h2)
theorem g_dup2 {G : gG} {Y : gY} {d pc : Nat} {al : List (Option Value)} {st : List Value} {h : gH} {kc ks : Nat} {Q : gQ} {v u : Value} (dg : decode Y.2.1 pc = .ok (.dup2, 1)) (hc : v.category = 1) (hd : u.category = 1) (k : gGo G Y d (pc + 1) al (v :: u :: v :: u :: st) h kc ks Q) : gGo G Y d pc al (v :: u :: st) h kc ks Q := by
  intro p l e R s m args below meth c QS mc ms ad0 C E ad ls sk H locs cells slots ha hL hs hR hV h1 h2
  obtain ⟨w, sk1, hw, rfl, hz1⟩ := gSk_cons hs
  obtain ⟨w2, sk2, hw2, rfl, hz2⟩ := gSk_cons hz1
  exact lv_dup2_11 C.1 C.2.1 dg (by rw [gV_cat hw]; exact hc) (by rw [gV_cat hw2]; exact hd) (k p l e R s m args below meth c QS mc ms ad0 C E ad ls _ H locs cells slots ha hL (gSk_in hw (gSk_in hw2 (gSk_in hw (gSk_in hw2 hz2)))) hR hV h1 h2)
theorem g_pop {G : gG} {Y : gY} {d pc : Nat} {al : List (Option Value)} {st : List Value} {h : gH} {kc ks : Nat} {Q : gQ} {v : Value} (dg : decode Y.2.1 pc = .ok (.pop, 1)) (hc : v.category = 1) (k : gGo G Y d (pc + 1) al st h kc ks Q) : gGo G Y d pc al (v :: st) h kc ks Q := by
  intro p l e R s m args below meth c QS mc ms ad0 C E ad ls sk H locs cells slots ha hL hs hR hV h1 h2
  obtain ⟨w, sk1, hw, rfl, hz1⟩ := gSk_cons hs
  exact lv_pop C.1 C.2.1 dg (by rw [gV_cat hw]; exact hc) (k p l e R s m args below meth c QS mc ms ad0 C E ad ls _ H locs cells slots ha hL hz1 hR hV h1 h2)
theorem g_if_eq {G : gG} {Y : gY} {d pc : Nat} {al : List (Option Value)} {st : List Value} {h : gH} {kc ks : Nat} {Q : gQ} {x : Int32} {off : Int} {tgt : Nat} (dg : decode Y.2.1 pc = .ok (.ifCond .eq off, 3)) (ht : (pc : Int) + off = (tgt : Int)) (kt : x = 0 → gGo G Y d tgt al st h kc ks Q) (kf : ¬ x = 0 → gGo G Y d (pc + 3) al st h kc ks Q) : gGo G Y d pc al (.int x :: st) h kc ks Q := by
  intro p l e R s m args below meth c QS mc ms ad0 C E ad ls sk H locs cells slots ha hL hs hR hV h1 h2
  obtain ⟨sk1, rfl, hz1⟩ := gSk_int hs
  exact lv_if_eq C.1 C.2.1 dg ht (fun q => kt q p l e R s m args below meth c QS mc ms ad0 C E ad ls _ H locs cells slots ha hL hz1 hR hV h1 h2) (fun q => kf q p l e R s m args below meth c QS mc ms ad0 C E ad ls _ H locs cells slots ha hL hz1 hR hV h1 h2)
theorem g_icmp_eq {G : gG} {Y : gY} {d pc : Nat} {al : List (Option Value)} {st : List Value} {h : gH} {kc ks : Nat} {Q : gQ} {x y : Int32} {off : Int} {tgt : Nat} (dg : decode Y.2.1 pc = .ok (.if_icmp .eq off, 3)) (ht : (pc : Int) + off = (tgt : Int)) (kt : x = y → gGo G Y d tgt al st h kc ks Q) (kf : ¬ x = y → gGo G Y d (pc + 3) al st h kc ks Q) : gGo G Y d pc al (.int y :: .int x :: st) h kc ks Q := by
  intro p l e R s m args below meth c QS mc ms ad0 C E ad ls sk H locs cells slots ha hL hs hR hV h1 h2
  obtain ⟨sk1, rfl, hz1⟩ := gSk_int hs
  obtain ⟨sk2, rfl, hz2⟩ := gSk_int hz1
  exact lv_icmp_eq C.1 C.2.1 dg ht (fun q => kt q p l e R s m args below meth c QS mc ms ad0 C E ad ls _ H locs cells slots ha hL hz2 hR hV h1 h2) (fun q => kf q p l e R s m args below meth c QS mc ms ad0 C E ad ls _ H locs cells slots ha hL hz2 hR hV h1 h2)
theorem g_if_ne {G : gG} {Y : gY} {d pc : Nat} {al : List (Option Value)} {st : List Value} {h : gH} {kc ks : Nat} {Q : gQ} {x : Int32} {off : Int} {tgt : Nat} (dg : decode Y.2.1 pc = .ok (.ifCond .ne off, 3)) (ht : (pc : Int) + off = (tgt : Int)) (kt : ¬ x = 0 → gGo G Y d tgt al st h kc ks Q) (kf : x = 0 → gGo G Y d (pc + 3) al st h kc ks Q) : gGo G Y d pc al (.int x :: st) h kc ks Q := by
  intro p l e R s m args below meth c QS mc ms ad0 C E ad ls sk H locs cells slots ha hL hs hR hV h1 h2
  obtain ⟨sk1, rfl, hz1⟩ := gSk_int hs
  exact lv_if_ne C.1 C.2.1 dg ht (fun q => kt q p l e R s m args below meth c QS mc ms ad0 C E ad ls _ H locs cells slots ha hL hz1 hR hV h1 h2) (fun q => kf q p l e R s m args below meth c QS mc ms ad0 C E ad ls _ H locs cells slots ha hL hz1 hR hV h1 h2)
theorem g_icmp_ne {G : gG} {Y : gY} {d pc : Nat} {al : List (Option Value)} {st : List Value} {h : gH} {kc ks : Nat} {Q : gQ} {x y : Int32} {off : Int} {tgt : Nat} (dg : decode Y.2.1 pc = .ok (.if_icmp .ne off, 3)) (ht : (pc : Int) + off = (tgt : Int)) (kt : ¬ x = y → gGo G Y d tgt al st h kc ks Q) (kf : x = y → gGo G Y d (pc + 3) al st h kc ks Q) : gGo G Y d pc al (.int y :: .int x :: st) h kc ks Q := by
  intro p l e R s m args below meth c QS mc ms ad0 C E ad ls sk H locs cells slots ha hL hs hR hV h1 h2
  obtain ⟨sk1, rfl, hz1⟩ := gSk_int hs
  obtain ⟨sk2, rfl, hz2⟩ := gSk_int hz1
  exact lv_icmp_ne C.1 C.2.1 dg ht (fun q => kt q p l e R s m args below meth c QS mc ms ad0 C E ad ls _ H locs cells slots ha hL hz2 hR hV h1 h2) (fun q => kf q p l e R s m args below meth c QS mc ms ad0 C E ad ls _ H locs cells slots ha hL hz2 hR hV h1 h2)
theorem g_if_lt {G : gG} {Y : gY} {d pc : Nat} {al : List (Option Value)} {st : List Value} {h : gH} {kc ks : Nat} {Q : gQ} {x : Int32} {off : Int} {tgt : Nat} (dg : decode Y.2.1 pc = .ok (.ifCond .lt off, 3)) (ht : (pc : Int) + off = (tgt : Int)) (kt : x < 0 → gGo G Y d tgt al st h kc ks Q) (kf : ¬ x < 0 → gGo G Y d (pc + 3) al st h kc ks Q) : gGo G Y d pc al (.int x :: st) h kc ks Q := by
  intro p l e R s m args below meth c QS mc ms ad0 C E ad ls sk H locs cells slots ha hL hs hR hV h1 h2
  obtain ⟨sk1, rfl, hz1⟩ := gSk_int hs
  exact lv_if_lt C.1 C.2.1 dg ht (fun q => kt q p l e R s m args below meth c QS mc ms ad0 C E ad ls _ H locs cells slots ha hL hz1 hR hV h1 h2) (fun q => kf q p l e R s m args below meth c QS mc ms ad0 C E ad ls _ H locs cells slots ha hL hz1 hR hV h1 h2)
theorem g_icmp_lt {G : gG} {Y : gY} {d pc : Nat} {al : List (Option Value)} {st : List Value} {h : gH} {kc ks : Nat} {Q : gQ} {x y : Int32} {off : Int} {tgt : Nat} (dg : decode Y.2.1 pc = .ok (.if_icmp .lt off, 3)) (ht : (pc : Int) + off = (tgt : Int)) (kt : x < y → gGo G Y d tgt al st h kc ks Q) (kf : ¬ x < y → gGo G Y d (pc + 3) al st h kc ks Q) : gGo G Y d pc al (.int y :: .int x :: st) h kc ks Q := by
  intro p l e R s m args below meth c QS mc ms ad0 C E ad ls sk H locs cells slots ha hL hs hR hV h1 h2
  obtain ⟨sk1, rfl, hz1⟩ := gSk_int hs
  obtain ⟨sk2, rfl, hz2⟩ := gSk_int hz1
  exact lv_icmp_lt C.1 C.2.1 dg ht (fun q => kt q p l e R s m args below meth c QS mc ms ad0 C E ad ls _ H locs cells slots ha hL hz2 hR hV h1 h2) (fun q => kf q p l e R s m args below meth c QS mc ms ad0 C E ad ls _ H locs cells slots ha hL hz2 hR hV h1 h2)
theorem g_if_ge {G : gG} {Y : gY} {d pc : Nat} {al : List (Option Value)} {st : List Value} {h : gH} {kc ks : Nat} {Q : gQ} {x : Int32} {off : Int} {tgt : Nat} (dg : decode Y.2.1 pc = .ok (.ifCond .ge off, 3)) (ht : (pc : Int) + off = (tgt : Int)) (kt : 0 ≤ x → gGo G Y d tgt al st h kc ks Q) (kf : ¬ 0 ≤ x → gGo G Y d (pc + 3) al st h kc ks Q) : gGo G Y d pc al (.int x :: st) h kc ks Q := by
  intro p l e R s m args below meth c QS mc ms ad0 C E ad ls sk H locs cells slots ha hL hs hR hV h1 h2
  obtain ⟨sk1, rfl, hz1⟩ := gSk_int hs
  exact lv_if_ge C.1 C.2.1 dg ht (fun q => kt q p l e R s m args below meth c QS mc ms ad0 C E ad ls _ H locs cells slots ha hL hz1 hR hV h1 h2) (fun q => kf q p l e R s m args below meth c QS mc ms ad0 C E ad ls _ H locs cells slots ha hL hz1 hR hV h1 h2)
theorem g_icmp_ge {G : gG} {Y : gY} {d pc : Nat} {al : List (Option Value)} {st : List Value} {h : gH} {kc ks : Nat} {Q : gQ} {x y : Int32} {off : Int} {tgt : Nat} (dg : decode Y.2.1 pc = .ok (.if_icmp .ge off, 3)) (ht : (pc : Int) + off = (tgt : Int)) (kt : y ≤ x → gGo G Y d tgt al st h kc ks Q) (kf : ¬ y ≤ x → gGo G Y d (pc + 3) al st h kc ks Q) : gGo G Y d pc al (.int y :: .int x :: st) h kc ks Q := by
  intro p l e R s m args below meth c QS mc ms ad0 C E ad ls sk H locs cells slots ha hL hs hR hV h1 h2
  obtain ⟨sk1, rfl, hz1⟩ := gSk_int hs
  obtain ⟨sk2, rfl, hz2⟩ := gSk_int hz1
  exact lv_icmp_ge C.1 C.2.1 dg ht (fun q => kt q p l e R s m args below meth c QS mc ms ad0 C E ad ls _ H locs cells slots ha hL hz2 hR hV h1 h2) (fun q => kf q p l e R s m args below meth c QS mc ms ad0 C E ad ls _ H locs cells slots ha hL hz2 hR hV h1 h2)
theorem g_if_gt {G : gG} {Y : gY} {d pc : Nat} {al : List (Option Value)} {st : List Value} {h : gH} {kc ks : Nat} {Q : gQ} {x : Int32} {off : Int} {tgt : Nat} (dg : decode Y.2.1 pc = .ok (.ifCond .gt off, 3)) (ht : (pc : Int) + off = (tgt : Int)) (kt : 0 < x → gGo G Y d tgt al st h kc ks Q) (kf : ¬ 0 < x → gGo G Y d (pc + 3) al st h kc ks Q) : gGo G Y d pc al (.int x :: st) h kc ks Q := by
  intro p l e R s m args below meth c QS mc ms ad0 C E ad ls sk H locs cells slots ha hL hs hR hV h1 h2
  obtain ⟨sk1, rfl, hz1⟩ := gSk_int hs
  exact lv_if_gt C.1 C.2.1 dg ht (fun q => kt q p l e R s m args below meth c QS mc ms ad0 C E ad ls _ H locs cells slots ha hL hz1 hR hV h1 h2) (fun q => kf q p l e R s m args below meth c QS mc ms ad0 C E ad ls _ H locs cells slots ha hL hz1 hR hV h1 h2)
theorem g_icmp_gt {G : gG} {Y : gY} {d pc : Nat} {al : List (Option Value)} {st : List Value} {h : gH} {kc ks : Nat} {Q : gQ} {x y : Int32} {off : Int} {tgt : Nat} (dg : decode Y.2.1 pc = .ok (.if_icmp .gt off, 3)) (ht : (pc : Int) + off = (tgt : Int)) (kt : y < x → gGo G Y d tgt al st h kc ks Q) (kf : ¬ y < x → gGo G Y d (pc + 3) al st h kc ks Q) : gGo G Y d pc al (.int y :: .int x :: st) h kc ks Q := by
  intro p l e R s m args below meth c QS mc ms ad0 C E ad ls sk H locs cells slots ha hL hs hR hV h1 h2
  obtain ⟨sk1, rfl, hz1⟩ := gSk_int hs
  obtain ⟨sk2, rfl, hz2⟩ := gSk_int hz1
  exact lv_icmp_gt C.1 C.2.1 dg ht (fun q => kt q p l e R s m args below meth c QS mc ms ad0 C E ad ls _ H locs cells slots ha hL hz2 hR hV h1 h2) (fun q => kf q p l e R s m args below meth c QS mc ms ad0 C E ad ls _ H locs cells slots ha hL hz2 hR hV h1 h2)
theorem g_if_le {G : gG} {Y : gY} {d pc : Nat} {al : List (Option Value)} {st : List Value} {h : gH} {kc ks : Nat} {Q : gQ} {x : Int32} {off : Int} {tgt : Nat} (dg : decode Y.2.1 pc = .ok (.ifCond .le off, 3)) (ht : (pc : Int) + off = (tgt : Int)) (kt : x ≤ 0 → gGo G Y d tgt al st h kc ks Q) (kf : ¬ x ≤ 0 → gGo G Y d (pc + 3) al st h kc ks Q) : gGo G Y d pc al (.int x :: st) h kc ks Q := by
  intro p l e R s m args below meth c QS mc ms ad0 C E ad ls sk H locs cells slots ha hL hs hR hV h1 h2
  obtain ⟨sk1, rfl, hz1⟩ := gSk_int hs
  exact lv_if_le C.1 C.2.1 dg ht (fun q => kt q p l e R s m args below meth c QS mc ms ad0 C E ad ls _ H locs cells slots ha hL hz1 hR hV h1 h2) (fun q => kf q p l e R s m args below meth c QS mc ms ad0 C E ad ls _ H locs cells slots ha hL hz1 hR hV h1 h2)
theorem g_icmp_le {G : gG} {Y : gY} {d pc : Nat} {al : List (Option Value)} {st : List Value} {h : gH} {kc ks : Nat} {Q : gQ} {x y : Int32} {off : Int} {tgt : Nat} (dg : decode Y.2.1 pc = .ok (.if_icmp .le off, 3)) (ht : (pc : Int) + off = (tgt : Int)) (kt : x ≤ y → gGo G Y d tgt al st h kc ks Q) (kf : ¬ x ≤ y → gGo G Y d (pc + 3) al st h kc ks Q) : gGo G Y d pc al (.int y :: .int x :: st) h kc ks Q := by
  intro p l e R s m args below meth c QS mc ms ad0 C E ad ls sk H locs cells slots ha hL hs hR hV h1 h2
  obtain ⟨sk1, rfl, hz1⟩ := gSk_int hs
  obtain ⟨sk2, rfl, hz2⟩ := gSk_int hz1
  exact lv_icmp_le C.1 C.2.1 dg ht (fun q => kt q p l e R s m args below meth c QS mc ms ad0 C E ad ls _ H locs cells slots ha hL hz2 hR hV h1 h2) (fun q => kf q p l e R s m args below meth c QS mc ms ad0 C E ad ls _ H locs cells slots ha hL hz2 hR hV h1 h2)
theorem g_goto {G : gG} {Y : gY} {d pc : Nat} {al : List (Option Value)} {st : List Value} {h : gH} {kc ks : Nat} {Q : gQ} {off : Int} {tgt : Nat} (dg : decode Y.2.1 pc = .ok (.goto off, 3)) (ht : (pc : Int) + off = (tgt : Int)) (k : gGo G Y d tgt al st h kc ks Q) : gGo G Y d pc al st h kc ks Q := by
  intro p l e R s m args below meth c QS mc ms ad0 C E ad ls sk H locs cells slots ha hL hs hR hV h1 h2
  exact lv_goto C.1 C.2.1 dg ht (k p l e R s m args below meth c QS mc ms ad0 C E ad ls _ H locs cells slots ha hL hs hR hV h1 h2)
theorem g_tabOut {G : gG} {Y : gY} {d pc : Nat} {al : List (Option Value)} {st : List Value} {h : gH} {kc ks : Nat} {Q : gQ} {dflt lo hi : Int} {offs : Array Int} {len : Nat} {x : Int32} {tgt : Nat} (dg : decode Y.2.1 pc = .ok (.tableswitch dflt lo hi offs, len)) (hx : x.toInt < lo ∨ hi < x.toInt) (ht : (pc : Int) + dflt = (tgt : Int)) (k : gGo G Y d tgt al st h kc ks Q) : gGo G Y d pc al (.int x :: st) h kc ks Q := by
  intro p l e R s m args below meth c QS mc ms ad0 C E ad ls sk H locs cells slots ha hL hs hR hV h1 h2
  obtain ⟨sk1, rfl, hz1⟩ := gSk_int hs
  exact lv_tableOut C.1 C.2.1 dg hx ht (k p l e R s m args below meth c QS mc ms ad0 C E ad ls _ H locs cells slots ha hL hz1 hR hV h1 h2)
theorem g_tabIn {G : gG} {Y : gY} {d pc : Nat} {al : List (Option Value)} {st : List Value} {h : gH} {kc ks : Nat} {Q : gQ} {dflt lo hi : Int} {offs : Array Int} {len : Nat} {x : Int32} {off : Int} {tgt : Nat} (dg : decode Y.2.1 pc = .ok (.tableswitch dflt lo hi offs, len)) (hx : ¬ x.toInt < lo) (hy : ¬ hi < x.toInt) (ho : offs[(x.toInt - lo).toNat]? = some off) (ht : (pc : Int) + off = (tgt : Int)) (k : gGo G Y d tgt al st h kc ks Q) : gGo G Y d pc al (.int x :: st) h kc ks Q := by
  intro p l e R s m args below meth c QS mc ms ad0 C E ad ls sk H locs cells slots ha hL hs hR hV h1 h2
  obtain ⟨sk1, rfl, hz1⟩ := gSk_int hs
  exact lv_tableIn C.1 C.2.1 dg hx hy ho ht (k p l e R s m args below meth c QS mc ms ad0 C E ad ls _ H locs cells slots ha hL hz1 hR hV h1 h2)
theorem g_sub {G : gG} {Y : gY} {d pc : Nat} {al : List (Option Value)} {st : List Value} {h : gH} {kc ks : Nat} {Q : gQ} {al' : List (Option Value)} (hsub : ∀ (i : Nat) (v : Value), al'[i]? = some (some v) → al[i]? = some (some v)) (k : gGo G Y d pc al' st h kc ks Q) : gGo G Y d pc al st h kc ks Q := by
  intro p l e R s m args below meth c QS mc ms ad0 C E ad ls sk H locs cells slots ha hL hs hR hV h1 h2
  exact k p l e R s m args below meth c QS mc ms ad0 C E ad ls _ H locs cells slots ha (gLoc_sub hL hsub) hs hR hV h1 h2
theorem g_bud {G : gG} {Y : gY} {d pc : Nat} {al : List (Option Value)} {st : List Value} {h : gH} {kc ks kc' ks' : Nat} {Q : gQ} (hc : kc' ≤ kc) (hk : ks' ≤ ks) (k : gGo G Y d pc al st h kc' ks' Q) : gGo G Y d pc al st h kc ks Q := by
  intro p l e R s m args below meth c QS mc ms ad0 C E ad ls sk H locs cells slots ha hL hs hR hV h1 h2
  exact k p l e R s m args below meth c QS mc ms ad0 C E ad ls sk H locs cells slots ha hL hs hR hV (by omega) (by omega)
theorem g_imp {G : gG} {Y : gY} {d pc : Nat} {al : List (Option Value)} {st : List Value} {h : gH} {kc ks : Nat} {Q Q' : gQ} (hq : ∀ o h', Q' o h' → Q o h') (k : gGo G Y d pc al st h kc ks Q') : gGo G Y d pc al st h kc ks Q := by
  intro p l e R s m args below meth c QS mc ms ad0 C E ad ls sk H locs cells slots ha hL hs hR hV h1 h2
  refine k p l e R s m args below meth c QS mc ms ad0 C (fun ad h H locs cells slots ls pc g1 g2 g3 g4 => ?_) ad ls sk H locs cells slots ha hL hs hR hV h1 h2
  obtain ⟨e1, e2⟩ := E ad h H locs cells slots ls pc g1 g2 g3 g4
  exact ⟨fun v a b q => e1 v a b (hq _ _ q), fun x a b q => e2 x a b (hq _ _ q)⟩
theorem g_deep {G : gG} {Y : gY} {d d' pc : Nat} {al : List (Option Value)} {st : List Value} {h : gH} {kc ks : Nat} {Q : gQ} (hd : d ≤ d') (k : gGo G Y d pc al st h kc ks Q) : gGo G Y d' pc al st h kc ks Q := by
  intro p l e R s m args below meth c QS mc ms ad0 C E ad ls sk H locs cells slots ha hL hs hR hV h1 h2
  obtain ⟨c1, c2, c3, c4, c5, c6, c7, c8, c9, c10, c11, ⟨c12, c13⟩, c14⟩ := C
  exact k p l e R s m args below meth c QS mc ms ad0 ⟨c1, c2, c3, c4, c5, c6, c7, c8, c9, c10, c11, ⟨by omega, by omega⟩, c14⟩ E ad ls sk H locs cells slots ha hL hs hR hV h1 h2
theorem g_ireturn {G : gG} {Y : gY} {d pc : Nat} {al : List (Option Value)} {st : List Value} {h : gH} {kc ks : Nat} {Q : gQ} {x : Int32} {ty : FieldType} (dg : decode Y.2.1 pc = .ok (.ireturn, 1)) (hr : Y.2.2.2.1 = some ty) (hn : narrow ty (.int x) = .int x) (hq : Q (.inl (some (.int x))) h)  : gGo G Y d pc al [.int x] h kc ks Q := by
  intro p l e R s m args below meth c QS mc ms ad0 C E ad ls sk H locs cells slots ha hL hs hR hV h1 h2
  obtain ⟨sk1, rfl, hz1⟩ := gSk_int hs
  cases gSk_nil hz1
  exact (E ad h H locs cells slots ls pc ha hR hV hL.1).1 (some (.int x)) (by omega) (by omega) hq ⟨dg, ty, hr, hn⟩
theorem g_dreturn {G : gG} {Y : gY} {d pc : Nat} {al : List (Option Value)} {st : List Value} {h : gH} {kc ks : Nat} {Q : gQ} {x : UInt64} (dg : decode Y.2.1 pc = .ok (.dreturn, 1)) (hr : Y.2.2.2.1 = some .double) (hq : Q (.inl (some (.double x))) h)  : gGo G Y d pc al [.double x] h kc ks Q := by
  intro p l e R s m args below meth c QS mc ms ad0 C E ad ls sk H locs cells slots ha hL hs hR hV h1 h2
  obtain ⟨sk1, rfl, hz1⟩ := gSk_double hs
  cases gSk_nil hz1
  exact (E ad h H locs cells slots ls pc ha hR hV hL.1).1 (some (.double x)) (by omega) (by omega) hq ⟨dg, hr⟩
theorem g_return {G : gG} {Y : gY} {d pc : Nat} {al : List (Option Value)} {st : List Value} {h : gH} {kc ks : Nat} {Q : gQ} (dg : decode Y.2.1 pc = .ok (.return_, 1)) (hr : Y.2.2.2.1 = none) (hq : Q (.inl none) h)  : gGo G Y d pc al [] h kc ks Q := by
  intro p l e R s m args below meth c QS mc ms ad0 C E ad ls sk H locs cells slots ha hL hs hR hV h1 h2
  cases gSk_nil hs
  exact (E ad h H locs cells slots ls pc ha hR hV hL.1).1 none (by omega) (by omega) hq ⟨dg, hr⟩
theorem g_throw {G : gG} {Y : gY} {d pc : Nat} {al : List (Option Value)} {h : gH} {kc ks : Nat} {Q : gQ} {X : String} (ht : gThr Y pc X) (hc : 1 ≤ kc) (hk : 6 ≤ ks) (hq : Q (.inr X) h) : gGo G Y d pc al [] h kc ks Q := by
  intro p l e R s m args below meth c QS mc ms ad0 C E ad ls sk H locs cells slots ha hL hs hR hV h1 h2
  cases gSk_nil hs
  exact (E ad h H locs cells slots ls pc ha hR hV hL.1).2 X (by omega) (by omega) hq ht
