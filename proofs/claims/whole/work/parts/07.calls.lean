/-! ===== calls ===== -/
def gRm (d mc ms : Nat) : Room := { frames := d + 12, cells := mc, slots := ms, locals := 100 * d + 400 }
theorem gRm_f {d mc ms : Nat} : (gRm d mc ms).frames = d + 12 := rfl
theorem gRm_l {d mc ms : Nat} : (gRm d mc ms).locals = 100 * d + 400 := rfl
set_option maxRecDepth 20000 in
theorem gRt0 {d n x : Nat} (r2 : 100 * (d + 1) + 400 ≤ x) (z5 : n ≤ 80) : 8 + (n + 11) + (100 * d + 400) ≤ x := by
  rw [Nat.mul_add] at r2
  generalize 100 * d = y at r2 ⊢
  omega
theorem gRt {d kc ks n : Nat} {R : Room} (r1 : d + 1 + 12 ≤ R.frames) (r2 : 100 * (d + 1) + 400 ≤ R.locals) (z5 : n ≤ 80) : (gRm d kc ks).frames + 1 ≤ R.frames ∧ 8 + (n + 11) + (gRm d kc ks).locals ≤ R.locals := by
  constructor
  · rw [gRm_f]
    omega
  · rw [gRm_l]
    exact gRt0 r2 z5
def gPrim : Option Value → Prop
  | none => True
  | some (.int _) => True
  | some (.double _) => True
  | _ => False
theorem gPrim_of {Y : gY} {pc : Nat} {v : Option Value} (h : gRet Y pc v) : gPrim v := by
  cases v with
  | none => trivial
  | some w => cases w <;> first | trivial | exact h.elim
theorem gPrim_st {v : Option Value} (h : gPrim v) {ad : List Nat} {st sk : List Value} (hs : st.map (gV ad) = sk.map some) : (v.toList ++ st).map (gV ad) = (v.toList ++ sk).map some := by
  cases v with
  | none => exact hs
  | some w => cases w <;> first | exact gSk_in rfl hs | exact h.elim
def gPc (G : gG) (ad : List Nat) (h : gH) (av : List Value) : Array Value → State → Prop := fun a U => a = av.toArray ∧ gGlob G U U.heap ∧ gRep G ad h U.heap
def gQc (G : gG) (ad : List Nat) (Q : gQ) : Array Value → State → Outcome → State → Prop := fun _ st oc t => ∃ (v : Option Value) (h' : gH) (ad' : List Nat), oc = .returned v ∧ gPrim v ∧ Q (.inl v) h' ∧ ad <+: ad' ∧ gRep G ad' h' t.heap ∧ va_F (fun q => G.2.2.1 ≤ q) st t
def gXc (G : gG) (ad : List Nat) (Q : gQ) : String → State → State → Prop := fun X st t => ∃ (h' : gH) (ad' : List Nat), Q (.inr X) h' ∧ ad <+: ad' ∧ gRep G ad' h' t.heap ∧ va_F (fun q => G.2.2.1 ≤ q) st t
theorem gPc_blind {G : gG} {ad : List Nat} {h : gH} {av : List Value} : FrameBlind (gPc G ad h av) := fun a U g mk q => ⟨q.1, q.2.1.moved (State.WarmedH.refl U) (Nat.le_refl _) (fun _ _ _ => rfl), q.2.2⟩
theorem gRep_kept {G : gG} {ad : List Nat} {h : gH} {H H1 : Heap} (hR : gRep G ad h H) (hk : ∀ q : Nat, q < H.size → H1[q]? = H[q]?) : gRep G ad h H1 :=
  ⟨hR.1, hR.2.1, hR.2.2.1, hR.2.2.2.1.kept (fun k q hq => hk q.1 ((hR.2.2.2.1 k q hq).lt)), hR.2.2.2.2⟩
theorem gArgs_len : ∀ (aw : List Value), (∀ v ∈ aw, v.category = 1) → (lg_sl aw).length = aw.length
  | [], _ => rfl
  | v :: aw, h => by
    have h1 := h v List.mem_cons_self
    have h2 := gArgs_len aw (fun z hz => h z (List.mem_cons_of_mem _ hz))
    unfold lg_sl at h2 ⊢
    rw [List.flatMap_cons, List.length_append, h2]
    simp [h1, Nat.add_comm]
theorem gArgs_at : ∀ (aw : List Value) (k i : Nat) (w : Value), (∀ v ∈ aw, v.category = 1) → aw[i]? = some w → (k + i, w) ∈ lv_args k aw
  | [], _, _, _, _, h => by simp at h
  | v :: aw, k, i, w, hc, h => by
    have h1 := hc v List.mem_cons_self
    unfold lv_args
    rw [if_neg (by rw [h1]; decide)]
    cases i with
    | zero =>
      rw [List.getElem?_cons_zero] at h
      cases h
      exact List.mem_cons_self
    | succ i =>
      rw [List.getElem?_cons_succ] at h
      have := gArgs_at aw (k + 1) i w (fun z hz => hc z (List.mem_cons_of_mem _ hz)) h
      rw [show k + 1 + i = k + (i + 1) by omega] at this
      exact List.mem_cons_of_mem _ this
theorem gSk_at {ad : List Nat} {av aw : List Value} (h : av.map (gV ad) = aw.map some) {i : Nat} {v : Value} (hi : av[i]? = some v) : ∃ w, gV ad v = some w ∧ aw[i]? = some w := by
  have h1 : (av.map (gV ad))[i]? = some (gV ad v) := by rw [List.getElem?_map, hi]; rfl
  rw [h, List.getElem?_map] at h1
  cases hw : aw[i]? with
  | none => rw [hw] at h1; cases h1
  | some w =>
    rw [hw] at h1
    exact ⟨w, (Option.some.inj h1).symm, rfl⟩
theorem gSk_cats {ad : List Nat} {av aw : List Value} (h : av.map (gV ad) = aw.map some) (hc : ∀ v ∈ av, v.category = 1) : ∀ w ∈ aw, w.category = 1 := by
  intro w hw
  obtain ⟨i, hi⟩ := List.getElem?_of_mem hw
  have h1 : (aw.map some)[i]? = some (some w) := by rw [List.getElem?_map, hi]; rfl
  rw [← h, List.getElem?_map] at h1
  cases hv : av[i]? with
  | none => rw [hv] at h1; cases h1
  | some v =>
    rw [hv] at h1
    rw [gV_cat (Option.some.inj h1)]
    exact hc v (List.mem_of_getElem? hv)
theorem gSk_len {ad : List Nat} {av aw : List Value} (h : av.map (gV ad) = aw.map some) : av.length = aw.length := by
  have := congrArg List.length h
  simpa using this
theorem gLoc_in {ad : List Nat} {av aw : List Value} {n : Nat} (h : av.map (gV ad) = aw.map some) (hc : ∀ v ∈ av, v.category = 1) (hn : av.length ≤ n) : gLoc ad (gIn n av) ((lg_sl aw ++ List.replicate (n - (lg_sl aw).length) Slot.unset).toArray) n := by
  have hc' := gSk_cats h hc
  have hl := gSk_len h
  have hv := lv_entry aw (n := n) (by rw [gArgs_len aw hc', ← hl]; exact hn)
  refine ⟨hv.1, hv.2.1, fun i v hi => ?_⟩
  unfold gIn at hi
  have hia : av[i]? = some v := by
    by_cases hlt : i < (av.map some).length
    · rw [List.getElem?_append_left hlt, List.getElem?_map] at hi
      cases ha : av[i]? with
      | none => rw [ha] at hi; cases hi
      | some z => rw [ha] at hi; rw [Option.some.inj (Option.some.inj hi)]
    · rw [List.getElem?_append_right (by omega), List.getElem?_replicate] at hi
      split at hi <;> cases hi
  obtain ⟨w, h1, h2⟩ := gSk_at h hia
  have h3 := gArgs_at aw 0 i w hc' h2
  rw [Nat.zero_add] at h3
  exact ⟨w, h1, hv.2.2 _ h3⟩
/-- the end of a body: it returns or throws, as the contract wants it -/
theorem gEnd_of {G : gG} {Y : gY} {d : Nat} {p : Program} {l : Launch} {e : Env} {R : Room} {s : State} {m : MethodId} {args : Array Value} {below : List Frame} {meth : Method} {c : Code} {mc ms : Nat} {ad0 : List Nat} {Q : gQ} (C : gCtx G Y d p l R s m args meth c mc ms) :
    gEnd G Y p l e R s m args below meth c mc ms ad0 (vx_MQ below (gQc G ad0 Q) (gXc G ad0 Q) args s mc ms (fun q => G.2.2.1 ≤ q)) Q := by
  obtain ⟨c1, c2, c3, c4, c5, c6, c7, c8, c9, c10, c11, ⟨c12, c13⟩, c14, c15⟩ := C
  intro ad h H locs cells slots ls pc hp hR hV hz
  refine ⟨fun v hc hk hq hret => ?_, fun X hc hk hq ht => ?_⟩
  · have hpr := gPrim_of hret
    cases v with
    | none => exact W.widen hc hk (vx_ret (W.vret c1 c2 (by rw [c8]; exact hret.2) (fun t ht hW => ⟨none, h, ad, rfl, hpr, hq, hp, by rw [ht]; exact hR, hV.F ht⟩) hV.2.2 hret.1 c7))
    | some w =>
      cases w with
      | int x =>
        obtain ⟨r1, ty, r2, r3⟩ := hret
        exact W.widen hc hk (vx_ret (W.zret c1 c2 (by rw [c8]; exact r2) r3 (fun t ht hW => ⟨_, h, ad, rfl, hpr, hq, hp, by rw [ht]; exact hR, hV.F ht⟩) hV.2.2 r1 c7))
      | double x => exact W.widen hc hk (vx_ret (W.dret c1 c2 (by rw [c8]; exact hret.2) (fun t ht hW => ⟨_, h, ad, rfl, hpr, hq, hp, by rw [ht]; exact hR, hV.F ht⟩) hV.2.2 hret.1 c7))
      | _ => exact hret.elim
  · obtain ⟨t1, t2, names, ik, is, ic, tx, u1, u2, u3, u4, u5, u6, u78, u9, u10, u11⟩ := ht
    obtain ⟨sa, hsa⟩ := c6.2.2.2.2.2.1 _ u6
    have hown : s.vm.findClass RX2 = some m.cls := by rw [← t1]; exact c4
    have hout : ∀ (pc : Nat), ∀ x ∈ c.exceptionTable.toList, covers x pc = false := fun pc x hx => by
      rw [c11 (fun q9 => by rw [q9] at t1; revert t1; decide), t2] at hx
      cases hx
    have hx : ∀ t : State, s.vm.Alike t.vm → H.size ≤ t.heap.size → (∀ q : Nat, q < H.size → t.heap[q]? = H[q]?) → gXc G ad0 Q X s t := fun t _ hz hk9 =>
      ⟨h, ad, hq, hp, gRep_kept hR hk9, Nat.le_trans hV.1 hz, fun q hq1 hq2 => by rw [hk9 q (Nat.lt_of_lt_of_le hq1 hV.1)]; exact hV.2.1 q hq1 hq2⟩
    rcases u78 with ⟨u7, u8⟩ | ⟨Y0, r0, ix, rx, rfl, ⟨x0, x1, x2, x5⟩, u7, u8⟩
    · rcases u11 with ⟨v1, v2, v3⟩ | ⟨v1, v2, v3⟩
      · exact vx_throwS c1 c2 c9 hown u1 u2 (c5 _ u4) (c5 _ u5) hsa (fun w hw => c5 w (u7 w hw)) u8 c6.2.2.2.2.1.1 c6.2.2.2.2.1.2 hV (hz.trans c3.symm) u9 u10 v1 v2 v3 (hout _) (by omega) (by simp only [List.map_nil, List.sum_nil]; omega) (by omega) (by omega) c7 hx hV.2.2 hc hk
      · exact vx_throwSW c1 c2 c9 hown u1 u2 (c5 _ u4) (c5 _ u5) hsa (fun w hw => c5 w (u7 w hw)) u8 c6.2.2.2.2.1.1 c6.2.2.2.2.1.2 hV (hz.trans c3.symm) u9 u10 v1 v2 v3 (hout _) (by omega) (by simp only [List.map_nil, List.sum_nil]; omega) (by omega) (by omega) c7 hx hV.2.2 hc hk
    · rcases u11 with ⟨v1, v2, v3⟩ | ⟨v1, v2, v3⟩
      · exact vz_throwS c1 c2 c9 x0 x1 x2 x5 hown u1 u2 (c5 _ u4) (c5 _ u5) hsa (fun w hw => c5 w (u7 w hw)) u8 c6.2.2.2.2.1.1 c6.2.2.2.2.1.2 hV (hz.trans c3.symm) u9 u10 v1 v2 v3 (hout _) (by omega) (by simp only [List.map_nil, List.sum_nil]; omega) (by omega) (by omega) c7 hx hV.2.2 hc hk
      · exact vz_throwSW c1 c2 c9 x0 x1 x2 x5 hown u1 u2 (c5 _ u4) (c5 _ u5) hsa (fun w hw => c5 w (u7 w hw)) u8 c6.2.2.2.2.1.1 c6.2.2.2.2.1.2 hV (hz.trans c3.symm) u9 u10 v1 v2 v3 (hout _) (by omega) (by simp only [List.map_nil, List.sum_nil]; omega) (by omega) (by omega) c7 hx hV.2.2 hc hk
def gCw (Y : gY) : Cond := .code Y.1 Y.2.1 Y.2.2.1 Y.2.2.2.1
def gCh (Y : gY) : Cond := .codeWith Y.1 Y.2.1 Y.2.2.1 Y.2.2.2.1 Y.2.2.2.2
theorem gTable_nil : tableOf [] = [] := rfl
/-- a contract of the kit, out of a walk -/
theorem gMet {G : gG} {Y : gY} {d : Nat} {l : Launch} {av aw : List Value} {ad : List Nat} {h : gH} {kc ks : Nat} {Q : gQ} (hl : l.stackTraces = false) (hy : plainName Y.1.cls = true) (hh : Y.2.2.2.2 = []) (hE : gEv G Y d av h kc ks Q) (hs : av.map (gV ad) = aw.map some) (hc : ∀ v ∈ av, v.category = 1) (hn : av.length ≤ Y.2.2.1) :
    vx_Met l Y.1 (gCw Y :: gW) (gRm d kc ks) (gPc G ad h aw) (gQc G ad Q) (gXc G ad Q) kc ks (fun q => G.2.2.1 ≤ q) := by
  refine vx_ofW (cc := Y.2.1) (maxL := Y.2.2.1) (ret := Y.2.2.2.1) hy rfl ?_
  intro p e s m args below meth c s₁ B hml ht hv
  obtain ⟨rfl, hG, hR⟩ := hv
  have hts := atoms_spec (ws := gCw Y :: gW) B.pre
  have htab : c.exceptionTable.toList = tableOf Y.2.2.2.2 := by
    rw [hh, gTable_nil]
    exact List.eq_nil_iff_forall_not_mem.mpr ht
  have C : gCtx G Y d p l (headSpec (gCw Y :: gW) (gRm d kc ks)).room s m aw.toArray meth c kc ks :=
    ⟨B.exec, B.bytes, hml, findClass_of_methodNamed B.named, fun w hw => hts w (List.mem_cons_of_mem _ hw), hG, B.notSynchronized, B.returns, hl, fun _ => (name_of_methodNamed B.named B.method).1, fun _ => htab, ⟨Nat.le_refl _, Nat.le_refl _⟩, Nat.le_refl _, Nat.le_refl _⟩
  rw [lg_entry_eq]
  exact hE p l e _ s m aw.toArray below meth c _ kc ks ad C (gEnd_of C) ad _ [] s.heap [] 0 0 (List.prefix_refl _) (gLoc_in hs hc hn) rfl hR va_S.rf (by omega) (by omega)
theorem gMetH {G : gG} {Y : gY} {d : Nat} {l : Launch} {av aw : List Value} {ad : List Nat} {h : gH} {kc ks : Nat} {Q : gQ} (hl : l.stackTraces = false) (hy : plainName Y.1.cls = true) (hE : gEv G Y d av h kc ks Q) (hs : av.map (gV ad) = aw.map some) (hc : ∀ v ∈ av, v.category = 1) (hn : av.length ≤ Y.2.2.1) :
    vx_Met l Y.1 (gCh Y :: gW) (gRm d kc ks) (gPc G ad h aw) (gQc G ad Q) (gXc G ad Q) kc ks (fun q => G.2.2.1 ≤ q) := by
  refine vx_ofWH (cc := Y.2.1) (maxL := Y.2.2.1) (ret := Y.2.2.2.1) (hh := Y.2.2.2.2) hy rfl ?_
  intro p e s m args below meth c s₁ B hml hv
  obtain ⟨rfl, hG, hR⟩ := hv
  have hts := atoms_spec (ws := gCh Y :: gW) B.pre
  have htab : c.exceptionTable.toList = tableOf Y.2.2.2.2 := vx_table (x := Y.1) B (hts _ List.mem_cons_self)
  have C : gCtx G Y d p l (headSpec (gCh Y :: gW) (gRm d kc ks)).room s m aw.toArray meth c kc ks :=
    ⟨B.exec, B.bytes, hml, findClass_of_methodNamed B.named, fun w hw => hts w (List.mem_cons_of_mem _ hw), hG, B.notSynchronized, B.returns, hl, fun _ => (name_of_methodNamed B.named B.method).1, fun _ => htab, ⟨Nat.le_refl _, Nat.le_refl _⟩, Nat.le_refl _, Nat.le_refl _⟩
  rw [lg_entry_eq]
  exact hE p l e _ s m aw.toArray below meth c _ kc ks ad C (gEnd_of C) ad _ [] s.heap [] 0 0 (List.prefix_refl _) (gLoc_in hs hc hn) rfl hR va_S.rf (by omega) (by omega)
/-- a method of the tables -/
def gMt (Z : gY) : Prop := gCw Z ∈ gW ∧ Cond.initialized Z.1.cls ∈ gW ∧ plainName Z.1.cls = true ∧ (Z.1.cls ≠ "java/lang/invoke/MethodHandle" ∧ Z.1.cls ≠ "java/lang/invoke/VarHandle") ∧ Z.2.2.1 ≤ 80 ∧ Z.2.2.2.2 = []
def gMh (Z : gY) : Prop := gCh Z ∈ gW ∧ Cond.initialized Z.1.cls ∈ gW ∧ plainName Z.1.cls = true ∧ (Z.1.cls ≠ "java/lang/invoke/MethodHandle" ∧ Z.1.cls ≠ "java/lang/invoke/VarHandle") ∧ Z.2.2.1 ≤ 80
def gLk (own : String) (ix : Nat) (y : MethodName) : Prop := Cond.methodLink own ix y ∈ gW ∨ ∃ host, Cond.methodLinkNest own ix y host ∈ gW
def gNp (y : MethodName) : Option Nat := (parseMethodDescriptor y.desc).map (fun d => d.parameters.length)
theorem gNp_len {y : MethodName} {n : Nat} (h : gNp y = some n) : ∀ sig, parseMethodDescriptor y.desc = some sig → n = sig.parameters.length := fun sig hs => by
  unfold gNp at h
  rw [hs] at h
  exact (Option.some.inj h).symm
theorem gPays {s : State} {args : Array Value} (h : ∀ w ∈ gW, w.before args s = true) {w0 : Cond} (h0 : w0 ∈ gW) : ∀ w ∈ w0 :: gW, ∀ (a' : Array Value) (U : State), s.WarmedH U.vm → w.before a' U = true := fun w hw a' U hW => by
  have hm : w ∈ gW := (List.mem_cons.mp hw).elim (fun e => by rw [e]; exact h0) id
  exact gMv_use (gW_good hm) hW (h w hm)
/-- the locals behind a handler's store of what was caught -/
def gKl (al : List (Option Value)) (i : Nat) : List (Option Value) := (al.map gDw).set i none
theorem gLoc_kl {ad : List Nat} {al : List (Option Value)} {ls' : Array Slot} {n i a : Nat} (h : lv_has ls' n ((i, Value.ref a) :: (gLv ad al).filter (fun q => !(q.1 == i) && !(q.1 + 1 == i && q.2.category == 2)))) (h2 : ∀ (j : Nat) (u : Value), al[j]? = some (some u) → ∃ z, gV ad u = some z) : gLoc ad (gKl al i) ls' n := by
  refine ⟨h.1, h.2.1, fun j u hu => ?_⟩
  unfold gKl at hu
  by_cases hj : j = i
  · subst hj
    have hl : j < (al.map gDw).length := by
      have := (List.getElem?_eq_some_iff.mp hu).1
      rw [List.length_set] at this
      exact this
    rw [List.getElem?_set_self hl] at hu
    cases Option.some.inj hu
  · have hu' : (gSto al i (.int 0))[j]? = some (some u) := by
      unfold gSto
      rw [List.getElem?_set_ne (Ne.symm hj)] at hu ⊢
      exact hu
    rcases gSto_get hu' with ⟨q, -⟩ | ⟨-, ha, hc⟩
    · exact absurd q hj
    · obtain ⟨z, hz⟩ := h2 j u ha
      refine ⟨z, hz, h.2.2 (j, z) (List.mem_cons_of_mem _ (List.mem_filter.mpr ⟨gLv_mem ha hz, ?_⟩))⟩
      have h9 : z.category = 1 := (gV_cat hz).trans hc
      simp [hj, h9]
/-- what is thrown at pc, an X, is caught at hp -/
def gHd (Y : gY) (pc : Nat) (X : String) (hp : Nat) : Prop := Y.1 ≠ gLaw ∧ ∃ (pre : List ExceptionTableEntry) (x : ExceptionTableEntry) (suf : List ExceptionTableEntry) (nm : String), tableOf Y.2.2.2.2 = pre ++ x :: suf ∧
  (∀ z ∈ pre, covers z pc = false ∨ (z.catchType ≠ 0 ∧ ∃ nm : String, Cond.classLink Y.1.cls z.catchType nm ∈ gW ∧ (X, nm) ∈ gNc)) ∧ covers x pc = true ∧ x.catchType ≠ 0 ∧ Cond.classLink Y.1.cls x.catchType nm ∈ gW ∧ Cond.castable X nm ∈ gW ∧ x.handlerPc = hp
/-- .. and stored in the local i, then it goes on at nx -/
def gHs (Y : gY) (hp i nx : Nat) : Prop := i < Y.2.2.1 ∧ ((decode Y.2.1 hp = .ok (.astore i, 2) ∧ nx = hp + 2) ∨ ∃ k0 : Fin 4, decode Y.2.1 hp = .ok (.astore_n k0, 1) ∧ (k0 : Nat) = i ∧ nx = hp + 1)
/-- what follows a call -/
theorem g_fin {G : gG} {Y : gY} {d pc : Nat} {al : List (Option Value)} {st : List Value} {kc ks kc1 ks1 : Nat} {Q Q1 : gQ} {p : Program} {l : Launch} {e : Env} {R : Room} {s : State} {m : MethodId} {args a : Array Value} {below : List Frame} {meth : Method} {c : Code} {QS : State → Prop} {mc ms : Nat} {ad0 ad : List Nat} {ls : Array Slot} {sk0 sk : List Value} {H : Heap} {locs : List Loc} {cells slots : Nat}
    (C : gCtx G Y d p l R s m args meth c mc ms) (E : gEnd G Y p l e R s m args below meth c mc ms ad0 QS Q) (ha : ad0 <+: ad) (hL : gLoc ad al ls Y.2.2.1) (hs : st.map (gV ad) = sk.map some) (hV : va_S (fun q => G.2.2.1 ≤ q) s.heap H locs) (h1 : cells + kc ≤ mc) (h2 : slots + ks ≤ ms) (hb : kc1 ≤ kc ∧ ks1 ≤ ks)
    (hr : vx_Run p l e R s m args below meth c H locs cells slots kc1 ks1 (F0 m pc ls sk0) sk (gQc G ad Q1 a) (gXc G ad Q1) (fun q => G.2.2.1 ≤ q))
    (kk : ∀ v h', gPrim v → Q1 (.inl v) h' → gGo G Y d (pc + 3) al (v.toList ++ st) h' (kc - kc1) (ks - ks1) Q)
    (kx : ∀ X h', Q1 (.inr X) h' → ∃ hp i nx, gHd Y pc X hp ∧ gHs Y hp i nx ∧ gGo G Y d nx (gKl al i) [] h' (kc - kc1) (ks - ks1) Q) :
    W p l e R s m args below meth c H locs cells slots QS (F0 m pc ls sk0) := by
  intro T hT X
  rcases hr T hT X with ⟨v, st₀, t, T', L', h0, X', hLq, e1, e2, ⟨v', h', ad', hv, hp, hq, hpre, hR', hF⟩, stp⟩ | ⟨q, st₀, t, T', L', E1, ce, h0, X', hLq, e1, e2, ⟨h', ad', hq, hpre, hR', hF⟩, hce, hcv, hcl, stp⟩
  · cases Outcome.returned.inj hv
    obtain ⟨k1, k2, k3⟩ := vx_keep h0 e1 hV (fun q _ h => h) (fun q h => h) hLq hF
    obtain ⟨t2, a1, b1⟩ := kk v h' hp hq p l e R s m args below meth c QS mc ms ad0 C E ad' ls (v.toList ++ sk) T'.heap (locs ++ L') (cells + kc1) (slots + ks1) (ha.trans hpre) (gLoc_up hpre hL) (gPrim_st hp (gSk_up hpre hs)) (by rw [e1]; exact hR') k3 (by omega) (by omega) T' rfl X'
    exact ⟨t2, stp t2 a1, b1⟩
  · obtain ⟨k1, k2, k3⟩ := vx_keep h0 e1 hV (fun q _ h => h) (fun q h => h) hLq hF
    obtain ⟨hp, i, nx, ⟨g0, pre, x, suf, nm, g1, g2, g3, g4, g5, g6, g7⟩, ⟨hi, hst⟩, hgo⟩ := kx E1 h' hq
    have hal := X'.warmed.alike
    have hgo' : ∀ ls' : Array Slot, gLoc ad' (gKl al i) ls' Y.2.2.1 → W p l e R s m args below meth c T'.heap (locs ++ L') (cells + kc1) (slots + ks1) QS (F0 m nx ls' []) := fun ls' hl' =>
      hgo p l e R s m args below meth c QS mc ms ad0 C E ad' ls' [] T'.heap (locs ++ L') (cells + kc1) (slots + ks1) (ha.trans hpre) hl' rfl (by rw [e1]; exact hR') k3 (by omega) (by omega)
    have hL' := gLoc_up hpre hL
    have hW : W p l e R s m args below meth c T'.heap (locs ++ L') (cells + kc1) (slots + ks1) QS (F0 m x.handlerPc ls [.ref q]) := by
      rw [g7]
      rcases hst with ⟨d1, d2⟩ | ⟨k0, d1, d2, d3⟩
      · exact lv_astore C.1 C.2.1 d1 (gLoc_has hL') hi rfl (fun ls' hl' => by rw [← d2]; exact hgo' ls' (gLoc_kl hl' (gLoc_val hL')))
      · exact lv_astore_n C.1 C.2.1 d1 d2 (gLoc_has hL') hi rfl (fun ls' hl' => by rw [← d3]; exact hgo' ls' (gLoc_kl hl' (gLoc_val hL')))
    obtain ⟨t2, a1, b1⟩ := vx_catch (rest := sk) (pc := pc) C.2.2.2.1 pre x suf ((C.2.2.2.2.2.2.2.2.2.2.1 g0).trans g1) (fun z hz => (g2 z hz).imp id (fun ⟨w1, nm2, w2, w3⟩ => ⟨w1, nm2, C.2.2.2.2.1 _ w2, C.2.2.2.2.2.1.2.2.2.2.2.2.1 _ w3⟩)) g3 g4 (C.2.2.2.2.1 _ g5) (C.2.2.2.2.1 _ g6) (by rw [e1]; exact hce) hcv hcl hW T' rfl X'
    exact ⟨t2, stp.trans a1, b1⟩

theorem gSk_app {ad : List Nat} : ∀ {a b sk : List Value}, (a ++ b).map (gV ad) = sk.map some → ∃ s1 s2, sk = s1 ++ s2 ∧ a.map (gV ad) = s1.map some ∧ b.map (gV ad) = s2.map some
  | [], b, sk, h => ⟨[], sk, rfl, rfl, h⟩
  | v :: a, b, sk, h => by
    obtain ⟨w, sk', h1, rfl, h3⟩ := gSk_cons (st := a ++ b) h
    obtain ⟨s1, s2, rfl, h4, h5⟩ := gSk_app h3
    exact ⟨w :: s1, s2, rfl, gSk_in h1 h4, h5⟩
theorem gSk_rev {ad : List Nat} {av s1 : List Value} (h : av.reverse.map (gV ad) = s1.map some) : av.map (gV ad) = s1.reverse.map some := by
  have := congrArg List.reverse h
  rw [← List.map_reverse, ← List.map_reverse, List.reverse_reverse] at this
  exact this
theorem g_callS {G : gG} {Y Z : gY} {d pc ix : Nat} {al : List (Option Value)} {av st st0 : List Value} {h : gH} {kc ks kc1 ks1 : Nat} {Q Q1 : gQ} (dg : decode Y.2.1 pc = .ok (.invokestatic ix, 3)) (hZ : gMt Z) (hl : gLk Y.1.cls ix Z.1) (hstc : Cond.static Z.1 ∈ gW) (hst0 : st0 = av.reverse ++ st) (hn : gNp Z.1 = some av.length) (hcat : ∀ v ∈ av, v.category = 1) (hnl : av.length ≤ Z.2.2.1) (hrest : (st.map fun v => v.category).sum ≤ 8) (hb : kc1 ≤ kc ∧ ks1 ≤ ks) (he : gEv G Z d av h kc1 ks1 Q1)
    (kk : ∀ v h', gPrim v → Q1 (.inl v) h' → gGo G Y (d + 1) (pc + 3) al (v.toList ++ st) h' (kc - kc1) (ks - ks1) Q)
    (kx : ∀ X h', Q1 (.inr X) h' → ∃ hp i nx, gHd Y pc X hp ∧ gHs Y hp i nx ∧ gGo G Y (d + 1) nx (gKl al i) [] h' (kc - kc1) (ks - ks1) Q) : gGo G Y (d + 1) pc al st0 h kc ks Q := by
  subst hst0
  intro p l e R s m args below meth c QS mc ms ad0 C E ad ls sk H locs cells slots ha hL hs hR hV h1 h2
  obtain ⟨s1, s2, rfl, hs1, hs2⟩ := gSk_app hs
  have hsa := gSk_rev hs1
  obtain ⟨z1, z2, z3, z4, z5, z6⟩ := hZ
  obtain ⟨r1, r2⟩ := C.2.2.2.2.2.2.2.2.2.2.2.1
  have hM := gMet (ad := ad) (aw := s1.reverse) C.2.2.2.2.2.2.2.2.1 z3 z6 he hsa hcat hnl
  have hp : PreS s H (gPc G ad h s1.reverse) s1.reverse := ⟨gPc_blind, fun U hU hW => ⟨rfl, by rw [hU]; exact C.2.2.2.2.2.1.moved hW hV.1 hV.2.1, by rw [hU]; exact hR⟩⟩
  have hlen : ∀ sig, parseMethodDescriptor Z.1.desc = some sig → s1.reverse.length = sig.parameters.length := fun sig hsig => by rw [← gSk_len hsa]; exact gNp_len hn sig hsig
  have hW8 : 2 * (F0 m pc ls (s1 ++ s2)).monitorRoom + (s2.map fun v => v.category).sum ≤ 8 := lv_room (by rw [gSk_cat hs2]; exact hrest)
  have hrt : (gRm d kc1 ks1).frames + 1 ≤ R.frames ∧ 8 + (Z.2.2.1 + 11) + (gRm d kc1 ks1).locals ≤ R.locals := gRt r1 r2 z5
  obtain ⟨hmc, hms⟩ := C.2.2.2.2.2.2.2.2.2.2.2.2
  have hcw : gCw Z ∈ gCw Z :: gW := List.mem_cons_self
  refine g_fin (a := s1.reverse.toArray) C E ha hL hs2 hV h1 h2 hb ?_ kk kx
  rcases hl with hl | ⟨host, hl⟩
  · exact vx_runS (ret := Z.2.2.2.1) (bytes := Z.2.1) (maxL := Z.2.2.1) (n := s1.reverse.length) ⟨C.1, C.2.1, C.2.2.1, C.2.2.2.1, C.2.2.2.2.1⟩ hM ⟨⟨rfl, rfl, hrt.1, hrt.2, gPays C.2.2.2.2.1 z1, hcw, C.2.2.2.2.1 _ z1, C.2.2.2.2.1 _ z2, z4, hlen, C.2.2.2.2.1 _ hl⟩, C.2.2.2.2.1 _ hstc⟩ hp rfl rfl hL.1 (by rw [List.reverse_reverse]) hW8 dg ⟨by omega, by omega⟩
  · exact vx_runSN (ret := Z.2.2.2.1) (bytes := Z.2.1) (maxL := Z.2.2.1) (host := host) (n := s1.reverse.length) ⟨C.1, C.2.1, C.2.2.1, C.2.2.2.1, C.2.2.2.2.1⟩ hM ⟨⟨⟨rfl, rfl, hrt.1, hrt.2, gPays C.2.2.2.2.1 z1, hcw⟩, C.2.2.2.2.1 _ z1, C.2.2.2.2.1 _ z2, z4, hlen, C.2.2.2.2.1 _ hl⟩, C.2.2.2.2.1 _ hstc, trivial⟩ hp rfl rfl hL.1 (by rw [List.reverse_reverse]) hW8 dg ⟨by omega, by omega⟩
theorem g_callH {G : gG} {Y Z : gY} {d pc ix : Nat} {al : List (Option Value)} {av st st0 : List Value} {h : gH} {kc ks kc1 ks1 : Nat} {Q Q1 : gQ} (dg : decode Y.2.1 pc = .ok (.invokestatic ix, 3)) (hZ : gMh Z) (hl : Cond.methodLink Y.1.cls ix Z.1 ∈ gW) (hstc : Cond.static Z.1 ∈ gW) (hst0 : st0 = av.reverse ++ st) (hn : gNp Z.1 = some av.length) (hcat : ∀ v ∈ av, v.category = 1) (hnl : av.length ≤ Z.2.2.1) (hrest : (st.map fun v => v.category).sum ≤ 8) (hb : kc1 ≤ kc ∧ ks1 ≤ ks) (he : gEv G Z d av h kc1 ks1 Q1)
    (kk : ∀ v h', gPrim v → Q1 (.inl v) h' → gGo G Y (d + 1) (pc + 3) al (v.toList ++ st) h' (kc - kc1) (ks - ks1) Q)
    (kx : ∀ X h', Q1 (.inr X) h' → ∃ hp i nx, gHd Y pc X hp ∧ gHs Y hp i nx ∧ gGo G Y (d + 1) nx (gKl al i) [] h' (kc - kc1) (ks - ks1) Q) : gGo G Y (d + 1) pc al st0 h kc ks Q := by
  subst hst0
  intro p l e R s m args below meth c QS mc ms ad0 C E ad ls sk H locs cells slots ha hL hs hR hV h1 h2
  obtain ⟨s1, s2, rfl, hs1, hs2⟩ := gSk_app hs
  have hsa := gSk_rev hs1
  obtain ⟨z1, z2, z3, z4, z5⟩ := hZ
  obtain ⟨r1, r2⟩ := C.2.2.2.2.2.2.2.2.2.2.2.1
  have hM := gMetH (ad := ad) (aw := s1.reverse) C.2.2.2.2.2.2.2.2.1 z3 he hsa hcat hnl
  have hp : PreS s H (gPc G ad h s1.reverse) s1.reverse := ⟨gPc_blind, fun U hU hW => ⟨rfl, by rw [hU]; exact C.2.2.2.2.2.1.moved hW hV.1 hV.2.1, by rw [hU]; exact hR⟩⟩
  have hlen : ∀ sig, parseMethodDescriptor Z.1.desc = some sig → s1.reverse.length = sig.parameters.length := fun sig hsig => by rw [← gSk_len hsa]; exact gNp_len hn sig hsig
  have hW8 : 2 * (F0 m pc ls (s1 ++ s2)).monitorRoom + (s2.map fun v => v.category).sum ≤ 8 := lv_room (by rw [gSk_cat hs2]; exact hrest)
  have hrt : (gRm d kc1 ks1).frames + 1 ≤ R.frames ∧ 8 + (Z.2.2.1 + 11) + (gRm d kc1 ks1).locals ≤ R.locals := gRt r1 r2 z5
  obtain ⟨hmc, hms⟩ := C.2.2.2.2.2.2.2.2.2.2.2.2
  refine g_fin (a := s1.reverse.toArray) C E ha hL hs2 hV h1 h2 hb ?_ kk kx
  exact vx_runSX (hh := Z.2.2.2.2) (ret := Z.2.2.2.1) (bytes := Z.2.1) (maxL := Z.2.2.1) (n := s1.reverse.length) ⟨C.1, C.2.1, C.2.2.1, C.2.2.2.1, C.2.2.2.2.1⟩ hM ⟨⟨rfl, rfl, hrt.1, hrt.2, gPays C.2.2.2.2.1 z1, List.mem_cons_self⟩, C.2.2.2.2.1 _ z1, C.2.2.2.2.1 _ z2, z4, hlen, C.2.2.2.2.1 _ hl, C.2.2.2.2.1 _ hstc⟩ hp rfl rfl hL.1 (by rw [List.reverse_reverse]) hW8 dg ⟨by omega, by omega⟩
theorem g_callV {G : gG} {Y Z : gY} {d pc ix : Nat} {al : List (Option Value)} {av st st0 : List Value} {h : gH} {kc ks kc1 ks1 : Nat} {Q Q1 : gQ} {r ci n0 : Nat} (dg : decode Y.2.1 pc = .ok (.invokevirtual ix, 3)) (hZ : gMt Z) (hl : gLk Y.1.cls ix Z.1) (hin : Cond.instanceMethod Z.1 ∈ gW) (hsel : Cond.selects (gRx ci) Z.1 Z.1 ∈ gW) (hci : ci < 4) (hS : h.1[r]? = some (1, ci, n0)) (h3 : 3 ≤ r) (hst0 : st0 = av.reverse ++ .ref r :: st) (hn : gNp Z.1 = some av.length) (hcat : ∀ v ∈ av, v.category = 1) (hnl : av.length + 1 ≤ Z.2.2.1) (hrest : (st.map fun v => v.category).sum ≤ 8) (hb : kc1 ≤ kc ∧ ks1 ≤ ks) (he : gEv G Z d (.ref r :: av) h kc1 ks1 Q1)
    (kk : ∀ v h', gPrim v → Q1 (.inl v) h' → gGo G Y (d + 1) (pc + 3) al (v.toList ++ st) h' (kc - kc1) (ks - ks1) Q)
    (kx : ∀ X h', Q1 (.inr X) h' → ∃ hp i nx, gHd Y pc X hp ∧ gHs Y hp i nx ∧ gGo G Y (d + 1) nx (gKl al i) [] h' (kc - kc1) (ks - ks1) Q) : gGo G Y (d + 1) pc al st0 h kc ks Q := by
  subst hst0
  intro p l e R s m args below meth c QS mc ms ad0 C E ad ls sk H locs cells slots ha hL hs hR hV h1 h2
  obtain ⟨s1, s2, rfl, hs1, hs2⟩ := gSk_app hs
  obtain ⟨a, s3, hq, rfl, hs3⟩ := gSk_ref hs2
  have hsa := gSk_rev hs1
  obtain ⟨z1, z2, z3, z4, z5, z6⟩ := hZ
  obtain ⟨r1, r2⟩ := C.2.2.2.2.2.2.2.2.2.2.2.1
  have hM := gMet (ad := ad) (aw := .ref a :: s1.reverse) C.2.2.2.2.2.2.2.2.1 z3 z6 he (gSk_in (gV_at hq) hsa) (fun v hv => (List.mem_cons.mp hv).elim (fun e9 => by rw [e9]; rfl) (hcat v)) (by simpa using hnl)
  have hlt : r < h.1.length := (List.getElem?_eq_some_iff.mp hS).1
  have hew := gWs_at (ca := G.2.1) (ad := ad) (h := h) h3 hlt
  rw [g_adr hq, gCe_obj hS] at hew
  have hp : PreV s H (gRx ci) a (gPc G ad h (.ref a :: s1.reverse)) s1.reverse := ⟨gPc_blind, va_recv C.2.2.2.2.2.1.2.1 hR.2.2.2.1 (gK_at hci) hew, fun U hU hW => ⟨rfl, by rw [hU]; exact C.2.2.2.2.2.1.moved hW hV.1 hV.2.1, by rw [hU]; exact hR⟩⟩
  have hlen : ∀ sig, parseMethodDescriptor Z.1.desc = some sig → s1.reverse.length = sig.parameters.length := fun sig hsig => by rw [← gSk_len hsa]; exact gNp_len hn sig hsig
  have hW8 : 2 * (F0 m pc ls (s1 ++ .ref a :: s3)).monitorRoom + (s3.map fun v => v.category).sum ≤ 8 := lv_room (by rw [gSk_cat hs3]; exact hrest)
  have hrt : (gRm d kc1 ks1).frames + 1 ≤ R.frames ∧ 8 + (Z.2.2.1 + 11) + (gRm d kc1 ks1).locals ≤ R.locals := gRt r1 r2 z5
  obtain ⟨hmc, hms⟩ := C.2.2.2.2.2.2.2.2.2.2.2.2
  have hcw : gCw Z ∈ gCw Z :: gW := List.mem_cons_self
  refine g_fin (a := (Value.ref a :: s1.reverse).toArray) C E ha hL hs3 hV h1 h2 hb ?_ kk kx
  rcases hl with hl | ⟨host, hl⟩
  · exact vx_runV (ret := Z.2.2.2.1) (bytes := Z.2.1) (maxL := Z.2.2.1) (n := s1.reverse.length) ⟨C.1, C.2.1, C.2.2.1, C.2.2.2.1, C.2.2.2.2.1⟩ hM ⟨⟨rfl, rfl, hrt.1, hrt.2, gPays C.2.2.2.2.1 z1, hcw, C.2.2.2.2.1 _ z1, C.2.2.2.2.1 _ z2, z4, hlen, C.2.2.2.2.1 _ hl⟩, C.2.2.2.2.1 _ hin, C.2.2.2.2.1 _ hsel⟩ hp rfl rfl hL.1 (by rw [List.reverse_reverse]) hW8 dg ⟨by omega, by omega⟩
  · exact vx_runVN (ret := Z.2.2.2.1) (bytes := Z.2.1) (maxL := Z.2.2.1) (host := host) (n := s1.reverse.length) ⟨C.1, C.2.1, C.2.2.1, C.2.2.2.1, C.2.2.2.2.1⟩ hM ⟨⟨⟨rfl, rfl, hrt.1, hrt.2, gPays C.2.2.2.2.1 z1, hcw⟩, C.2.2.2.2.1 _ z1, C.2.2.2.2.1 _ z2, z4, hlen, C.2.2.2.2.1 _ hl⟩, C.2.2.2.2.1 _ hin, C.2.2.2.2.1 _ hsel⟩ hp rfl rfl hL.1 (by rw [List.reverse_reverse]) hW8 dg ⟨by omega, by omega⟩
theorem g_callI {G : gG} {Y Z : gY} {d pc ix : Nat} {al : List (Option Value)} {av st st0 : List Value} {h : gH} {kc ks kc1 ks1 : Nat} {Q Q1 : gQ} {r : Nat} (dg : decode Y.2.1 pc = .ok (.invokespecial ix, 3)) (hZ : gMt Z) (hl : gLk Y.1.cls ix Z.1) (hin : Cond.instanceMethod Z.1 ∈ gW) (hnm : Z.1.name = "<init>") (hrt0 : Z.2.2.2.1 = none) (hst0 : st0 = av.reverse ++ .ref r :: st) (hn : gNp Z.1 = some av.length) (hcat : ∀ v ∈ av, v.category = 1) (hnl : av.length + 1 ≤ Z.2.2.1) (hrest : (st.map fun v => v.category).sum ≤ 8) (hb : kc1 ≤ kc ∧ ks1 ≤ ks) (he : gEv G Z d (.ref r :: av) h kc1 ks1 Q1)
    (kk : ∀ v h', gPrim v → Q1 (.inl v) h' → gGo G Y (d + 1) (pc + 3) al (v.toList ++ st) h' (kc - kc1) (ks - ks1) Q)
    (kx : ∀ X h', Q1 (.inr X) h' → ∃ hp i nx, gHd Y pc X hp ∧ gHs Y hp i nx ∧ gGo G Y (d + 1) nx (gKl al i) [] h' (kc - kc1) (ks - ks1) Q) : gGo G Y (d + 1) pc al st0 h kc ks Q := by
  subst hst0
  intro p l e R s m args below meth c QS mc ms ad0 C E ad ls sk H locs cells slots ha hL hs hR hV h1 h2
  obtain ⟨s1, s2, rfl, hs1, hs2⟩ := gSk_app hs
  obtain ⟨a, s3, hq, rfl, hs3⟩ := gSk_ref hs2
  have hsa := gSk_rev hs1
  obtain ⟨z1, z2, z3, z4, z5, z6⟩ := hZ
  obtain ⟨r1, r2⟩ := C.2.2.2.2.2.2.2.2.2.2.2.1
  have hM := gMet (ad := ad) (aw := .ref a :: s1.reverse) C.2.2.2.2.2.2.2.2.1 z3 z6 he (gSk_in (gV_at hq) hsa) (fun v hv => (List.mem_cons.mp hv).elim (fun e9 => by rw [e9]; rfl) (hcat v)) (by simpa using hnl)
  have hp : PreS s H (gPc G ad h (.ref a :: s1.reverse)) (.ref a :: s1.reverse) := ⟨gPc_blind, fun U hU hW => ⟨rfl, by rw [hU]; exact C.2.2.2.2.2.1.moved hW hV.1 hV.2.1, by rw [hU]; exact hR⟩⟩
  have hlen : ∀ sig, parseMethodDescriptor Z.1.desc = some sig → s1.reverse.length = sig.parameters.length := fun sig hsig => by rw [← gSk_len hsa]; exact gNp_len hn sig hsig
  have hW8 : 2 * (F0 m pc ls (s1 ++ .ref a :: s3)).monitorRoom + (s3.map fun v => v.category).sum ≤ 8 := lv_room (by rw [gSk_cat hs3]; exact hrest)
  have hrt : (gRm d kc1 ks1).frames + 1 ≤ R.frames ∧ 8 + (Z.2.2.1 + 11) + (gRm d kc1 ks1).locals ≤ R.locals := gRt r1 r2 z5
  obtain ⟨hmc, hms⟩ := C.2.2.2.2.2.2.2.2.2.2.2.2
  unfold gCw at z1 hM
  rw [hrt0] at z1 hM
  refine g_fin (a := (Value.ref a :: s1.reverse).toArray) C E ha hL hs3 hV h1 h2 hb ?_ kk kx
  rcases hl with hl | ⟨host, hl⟩
  · exact vx_runI (bytes := Z.2.1) (maxL := Z.2.2.1) (n := s1.reverse.length) ⟨C.1, C.2.1, C.2.2.1, C.2.2.2.1, C.2.2.2.2.1⟩ hM ⟨⟨rfl, rfl, hrt.1, hrt.2, gPays C.2.2.2.2.1 z1, List.mem_cons_self, C.2.2.2.2.1 _ z1, C.2.2.2.2.1 _ z2, z4, hlen, C.2.2.2.2.1 _ hl⟩, hnm, C.2.2.2.2.1 _ hin⟩ hp rfl rfl hL.1 (by rw [List.reverse_reverse]) hW8 dg ⟨by omega, by omega⟩
  · exact vx_runIN (bytes := Z.2.1) (maxL := Z.2.2.1) (host := host) (n := s1.reverse.length) ⟨C.1, C.2.1, C.2.2.1, C.2.2.2.1, C.2.2.2.2.1⟩ hM ⟨⟨⟨rfl, rfl, hrt.1, hrt.2, gPays C.2.2.2.2.1 z1, List.mem_cons_self⟩, C.2.2.2.2.1 _ z1, C.2.2.2.2.1 _ z2, z4, hlen, C.2.2.2.2.1 _ hl⟩, hnm, C.2.2.2.2.1 _ hin⟩ hp rfl rfl hL.1 (by rw [List.reverse_reverse]) hW8 dg ⟨by omega, by omega⟩
