/-! ===== rows that read and write cells ===== -/
def gRx : Nat → String
  | 0 => RX0
  | 1 => RX1
  | 2 => RX2
  | _ => RX3
def gTx : Nat → u_T
  | 0 => TX0
  | 1 => TX1
  | 2 => TX2
  | _ => TX3
theorem g_four {P : Nat → Prop} (h0 : P 0) (h1 : P 1) (h2 : P 2) (h3 : P 3) {ci : Nat} (h : ci < 4) : P ci := by
  match ci, h with
  | 0, _ => exact h0
  | 1, _ => exact h1
  | 2, _ => exact h2
  | 3, _ => exact h3
theorem gK_at {ci : Nat} (h : ci < 4) : gK[ci]? = some (gRx ci, gTx ci, gN ci) := g_four (P := fun ci => gK[ci]? = some (gRx ci, gTx ci, gN ci)) rfl rfl rfl rfl h
theorem gTx_own : ∀ ci, ci < 4 → ∀ j, j < gN ci → (gTx ci j).1 = gRx ci := by decide +kernel
theorem gTx_ty : ∀ ci, ci < 4 → ∀ j, j < gN ci → parseFieldDescriptor (gTx ci j).2.2.1 = some (gTy ci j) := by decide +kernel
theorem gTx_nm : ∀ ci, ci < 4 → ∀ a, a < gN ci → ∀ b, b < gN ci → a ≠ b → (gTx ci a).2.1 ≠ (gTx ci b).2.1 := by decide +kernel
theorem gLays0 : ∀ w ∈ u_ws RX0 TX0 9, w ∈ gW := by decide +kernel
theorem gLays1 : ∀ w ∈ u_ws RX1 TX1 12, w ∈ gW := by decide +kernel
theorem gLays2 : ∀ w ∈ u_ws RX2 TX2 13, w ∈ gW := by decide +kernel
theorem gLays3 : ∀ w ∈ u_ws RX3 TX3 31, w ∈ gW := by decide +kernel
theorem gLays {ci : Nat} (h : ci < 4) : ∀ w ∈ u_ws (gRx ci) (gTx ci) (gN ci), w ∈ gW := g_four (P := fun ci => ∀ w ∈ u_ws (gRx ci) (gTx ci) (gN ci), w ∈ gW) gLays0 gLays1 gLays2 gLays3 h
/-- the constant ix of the class own names the field j of the class ci -/
def gFl (own : String) (ix ci j : Nat) : Prop := (ci < 4 ∧ j < gN ci) ∧ (Cond.fieldLink own ix (gRx ci) (gTx ci j).2.1 (gTx ci j).2.2.1 ∈ gW ∨ ∃ host, Cond.fieldLinkNest own ix (gRx ci) (gTx ci j).2.1 (gTx ci j).2.2.1 host ∈ gW)
theorem gUp_ne {α : Type} {f : Nat → Nat → α} {k i j : Nat} {x : α} (h : j ≠ k) : gUp f k i x j = f j := by
  funext b
  simp [gUp, h]
theorem gUp_at {α : Type} {f : Nat → Nat → α} {k i : Nat} {x : α} : gUp f k i x k = fun b => if b = i then x else f k b := by
  funext b
  simp [gUp]
theorem gUp_get {α : Type} {f : Nat → Nat → α} {k i a b : Nat} {x : α} : gUp f k i x a b = if a = k ∧ b = i then x else f a b := rfl
theorem gCe_congr {ca : Nat → ClassId} {ad : List Nat} {h h' : gH} {k : Nat} (e1 : h'.1[k]? = h.1[k]?) (e2 : h'.2.1 k = h.2.1 k) (e3 : h'.2.2.1 k = h.2.2.1 k) (e4 : h'.2.2.2.1 k = h.2.2.2.1 k) (e5 : h'.2.2.2.2 k = h.2.2.2.2 k) : gCe ca ad h' k = gCe ca ad h k := by
  have a1 : ∀ ci, gFc ad h' k ci = gFc ad h k ci := fun ci => by
    funext j
    simp only [gFc, e2, e3]
  have a2 : ∀ t n, gAr ad h' k t n = gAr ad h k t n := fun t n => by simp only [gAr, e2, e3, e4, e5]
  simp only [gCe, e1, a1, a2]
theorem gCe_obj {ca : Nat → ClassId} {ad : List Nat} {h : gH} {k ci n : Nat} (hs : h.1[k]? = some (1, ci, n)) : gCe ca ad h k = .inr (ci, (List.range (gN ci)).map (gFc ad h k ci)) := by
  unfold gCe
  rw [hs]
  rfl
theorem gCe_arr {ca : Nat → ClassId} {ad : List Nat} {h : gH} {k t n : Nat} (hs : h.1[k]? = some (2, t, n)) : gCe ca ad h k = .inl (ca t, gAr ad h k t n) := by
  unfold gCe
  rw [hs]
  rfl
theorem g_adr {ad : List Nat} {r a : Nat} (h : ad[r]? = some a) : ad.getD r 0 = a := by
  rw [List.getD_eq_getElem?_getD, h]
  rfl
theorem gRep_set {G : gG} {ad : List Nat} {h h' : gH} {H H1 : Heap} {k : Nat} {e : va_E} (hR : gRep G ad h H) (h3 : 3 ≤ k) (hl : k < h.1.length) (hs : h'.1 = h.1) (ho : ∀ j, j ≠ k → gCe G.2.1 ad h' j = gCe G.2.1 ad h j) (hc : ∀ j, j < 3 → h'.2.2.1 j = h.2.2.1 j) (hr : ∀ k j r, h'.2.1 k j = some r → r < ad.length) (hk : gCe G.2.1 ad h' k = e)
    (hP : va_P G.1 gK ((gWs G.2.1 ad h).set (k - 3) (ad.getD k 0, e)) H1) (hD : va_D (fun q => G.2.2.1 ≤ q) ((gWs G.2.1 ad h).set (k - 3) (ad.getD k 0, e))) : gRep G ad h' H1 := by
  subst hk
  rw [← gWs_set hs h3 hl ho] at hP hD
  exact ⟨by rw [hs]; exact hR.1, fun j hj => ⟨(hR.2.1 j hj).1, by rw [hs]; exact (hR.2.1 j hj).2.1, by rw [hc j hj]; exact (hR.2.1 j hj).2.2⟩, hr, hP, hD⟩
theorem gFs_int {ad : List Nat} {S : List (Nat × Nat × Nat)} {T : Nat → Nat → Option Nat} {I : Nat → Nat → Int32} {L : Nat → Nat → Int64} {D : Nat → Nat → UInt64} {k ci j N : Nat} {x : Int32} (ht : gIsR ci j = false) : ((List.range N).map (gFc ad (S, T, I, L, D) k ci)).set j (.int x) = (List.range N).map (gFc ad (S, T, gUp I k j x, L, D) k ci) := by
  apply List.ext_getElem?
  intro i
  by_cases hi : i = j
  · subst hi
    by_cases hN : i < N
    · rw [List.getElem?_set_self (by simpa using hN), List.getElem?_map, List.getElem?_range hN]
      simp [gFc, ht, gUp]
    · rw [List.getElem?_eq_none (by simp; omega), List.getElem?_eq_none (by simp; omega)]
  · rw [List.getElem?_set_ne (Ne.symm hi), List.getElem?_map, List.getElem?_map]
    by_cases hN : i < N
    · rw [List.getElem?_range hN]
      simp [gFc, gUp, hi]
    · rw [List.getElem?_eq_none (by simp; omega)]
      rfl

theorem g_getI {G : gG} {Y : gY} {d pc : Nat} {al : List (Option Value)} {st : List Value} {S : List (Nat × Nat × Nat)} {T : Nat → Nat → Option Nat} {I : Nat → Nat → Int32} {L : Nat → Nat → Int64} {D : Nat → Nat → UInt64} {kc ks : Nat} {Q : gQ} {ix r ci j n0 : Nat} (dg : decode Y.2.1 pc = .ok (.getfield ix, 3)) (hf : gFl Y.1.cls ix ci j) (hS : S[r]? = some (1, ci, n0)) (h3 : 3 ≤ r) (hty : gIsR ci j = false) (k : gGo G Y d (pc + 3) al (.int (I r j) :: st) (S, T, I, L, D) kc ks Q) : gGo G Y d pc al (.ref r :: st) (S, T, I, L, D) kc ks Q := by
  intro p l e R s m args below meth c QS mc ms ad0 C E ad ls sk H locs cells slots ha hL hs hR hV h1 h2
  obtain ⟨a, sk1, hq, rfl, hz1⟩ := gSk_ref hs
  have hl : r < S.length := (List.getElem?_eq_some_iff.mp hS).1
  have haq : ad.getD r 0 = a := g_adr hq
  have he := gWs_at (ca := G.2.1) (ad := ad) (h := (S, T, I, L, D)) h3 hl
  rw [haq, gCe_obj (h := (S, T, I, L, D)) hS] at he
  obtain ⟨⟨hc4, hjN⟩, hlk⟩ := hf
  have hv : ((List.range (gN ci)).map (gFc ad (S, T, I, L, D) r ci))[j]? = some (.int (I r j)) := by
    rw [List.getElem?_map, List.getElem?_range hjN]
    simp [gFc, hty]
  have hk9 := k p l e R s m args below meth c QS mc ms ad0 C E ad ls _ H locs cells slots ha hL (gSk_in gV_int hz1) hR hV h1 h2
  have hsm : ∀ x, s.fieldFound? (gTx ci j).1 (gTx ci j).2.1 (gTx ci j).2.2.1 = some x → s.fieldFound? (gRx ci) (gTx ci j).2.1 (gTx ci j).2.2.1 = some x := fun x hx => by rw [gTx_own ci hc4 j hjN] at hx; exact hx
  rcases hlk with hlk | ⟨host, hlk⟩
  · exact va_get C.1 C.2.1 C.2.2.2.2.1 (gLays hc4) C.2.2.2.1 C.2.2.2.2.2.1.2.1 hR.2.2.2.1 (r - 3) he (gK_at hc4) j hjN (C.2.2.2.2.1 _ hlk) hsm hv dg hk9
  · exact va_getN C.1 C.2.1 C.2.2.2.2.1 (gLays hc4) C.2.2.2.1 C.2.2.2.2.2.1.2.1 hR.2.2.2.1 (r - 3) he (gK_at hc4) j hjN (C.2.2.2.2.1 _ hlk) hsm hv dg hk9
theorem g_getR {G : gG} {Y : gY} {d pc : Nat} {al : List (Option Value)} {st : List Value} {S : List (Nat × Nat × Nat)} {T : Nat → Nat → Option Nat} {I : Nat → Nat → Int32} {L : Nat → Nat → Int64} {D : Nat → Nat → UInt64} {kc ks : Nat} {Q : gQ} {ix r ci j n0 q : Nat} (dg : decode Y.2.1 pc = .ok (.getfield ix, 3)) (hf : gFl Y.1.cls ix ci j) (hS : S[r]? = some (1, ci, n0)) (h3 : 3 ≤ r) (hty : gIsR ci j = true) (hq0 : T r j = some q) (k : gGo G Y d (pc + 3) al (.ref q :: st) (S, T, I, L, D) kc ks Q) : gGo G Y d pc al (.ref r :: st) (S, T, I, L, D) kc ks Q := by
  intro p l e R s m args below meth c QS mc ms ad0 C E ad ls sk H locs cells slots ha hL hs hR hV h1 h2
  obtain ⟨a, sk1, hq, rfl, hz1⟩ := gSk_ref hs
  have hl : r < S.length := (List.getElem?_eq_some_iff.mp hS).1
  have haq : ad.getD r 0 = a := g_adr hq
  have he := gWs_at (ca := G.2.1) (ad := ad) (h := (S, T, I, L, D)) h3 hl
  rw [haq, gCe_obj (h := (S, T, I, L, D)) hS] at he
  obtain ⟨⟨hc4, hjN⟩, hlk⟩ := hf
  obtain ⟨a2, ha2⟩ : ∃ a2, ad[q]? = some a2 := ⟨_, List.getElem?_eq_getElem (hR.2.2.1 r j q hq0)⟩
  have hv : ((List.range (gN ci)).map (gFc ad (S, T, I, L, D) r ci))[j]? = some (.ref a2) := by
    rw [List.getElem?_map, List.getElem?_range hjN]
    simp only [Option.map_some, gFc, hty, if_true, hq0, g_adr ha2]
    rfl
  have hk9 := k p l e R s m args below meth c QS mc ms ad0 C E ad ls _ H locs cells slots ha hL (gSk_in (gV_at ha2) hz1) hR hV h1 h2
  have hsm : ∀ x, s.fieldFound? (gTx ci j).1 (gTx ci j).2.1 (gTx ci j).2.2.1 = some x → s.fieldFound? (gRx ci) (gTx ci j).2.1 (gTx ci j).2.2.1 = some x := fun x hx => by rw [gTx_own ci hc4 j hjN] at hx; exact hx
  rcases hlk with hlk | ⟨host, hlk⟩
  · exact va_get C.1 C.2.1 C.2.2.2.2.1 (gLays hc4) C.2.2.2.1 C.2.2.2.2.2.1.2.1 hR.2.2.2.1 (r - 3) he (gK_at hc4) j hjN (C.2.2.2.2.1 _ hlk) hsm hv dg hk9
  · exact va_getN C.1 C.2.1 C.2.2.2.2.1 (gLays hc4) C.2.2.2.1 C.2.2.2.2.2.1.2.1 hR.2.2.2.1 (r - 3) he (gK_at hc4) j hjN (C.2.2.2.2.1 _ hlk) hsm hv dg hk9
theorem g_putI {G : gG} {Y : gY} {d pc : Nat} {al : List (Option Value)} {st : List Value} {S : List (Nat × Nat × Nat)} {T : Nat → Nat → Option Nat} {I : Nat → Nat → Int32} {L : Nat → Nat → Int64} {D : Nat → Nat → UInt64} {kc ks : Nat} {Q : gQ} {ix r ci j n0 : Nat} {x : Int32} (dg : decode Y.2.1 pc = .ok (.putfield ix, 3)) (hf : gFl Y.1.cls ix ci j) (hS : S[r]? = some (1, ci, n0)) (h3 : 3 ≤ r) (hty : gIsR ci j = false) (hfin : (gTx ci j).2.2.2 = false) (hn : narrow (gTy ci j) (.int x) = .int x) (hfit : fits (gTy ci j) (.int x) = true) (k : gGo G Y d (pc + 3) al (st) (S, T, gUp I r j x, L, D) kc ks Q) : gGo G Y d pc al (.int x :: .ref r :: st) (S, T, I, L, D) kc ks Q := by
  intro p l e R s m args below meth c QS mc ms ad0 C E ad ls sk H locs cells slots ha hL hs hR hV h1 h2
  obtain ⟨sk0, rfl, hz0⟩ := gSk_int hs
  obtain ⟨a, sk1, hq, rfl, hz1⟩ := gSk_ref hz0
  have hl : r < S.length := (List.getElem?_eq_some_iff.mp hS).1
  have haq : ad.getD r 0 = a := g_adr hq
  have he := gWs_at (ca := G.2.1) (ad := ad) (h := (S, T, I, L, D)) h3 hl
  rw [haq, gCe_obj (h := (S, T, I, L, D)) hS] at he
  obtain ⟨⟨hc4, hjN⟩, hlk⟩ := hf
  have hsm : ∀ x, s.fieldFound? (gTx ci j).1 (gTx ci j).2.1 (gTx ci j).2.2.1 = some x → s.fieldFound? (gRx ci) (gTx ci j).2.1 (gTx ci j).2.2.1 = some x := fun x hx => by rw [gTx_own ci hc4 j hjN] at hx; exact hx
  have hk9 : ∀ (H1 : Heap) (locs1 : List Loc), va_P G.1 gK ((gWs G.2.1 ad (S, T, I, L, D)).set (r - 3) (a, .inr (ci, ((List.range (gN ci)).map (gFc ad (S, T, I, L, D) r ci)).set j (.int x)))) H1 → va_D (fun q => G.2.2.1 ≤ q) ((gWs G.2.1 ad (S, T, I, L, D)).set (r - 3) (a, .inr (ci, ((List.range (gN ci)).map (gFc ad (S, T, I, L, D) r ci)).set j (.int x)))) → va_S (fun q => G.2.2.1 ≤ q) s.heap H1 locs1 → W p l e R s m args below meth c H1 locs1 cells slots QS (F0 m (pc + 3) ls sk1) := fun H1 locs1 hP hD hS1 => by
    rw [← haq, gFs_int hty] at hP hD
    exact k p l e R s m args below meth c QS mc ms ad0 C E ad ls sk1 H1 locs1 cells slots ha hL hz1 (gRep_set (h' := (S, T, gUp I r j x, L, D)) hR h3 hl rfl (fun j9 hj9 => gCe_congr rfl rfl (gUp_ne hj9) rfl rfl) (fun j9 hj9 => gUp_ne (by omega)) hR.2.2.1 (gCe_obj (h := (S, T, gUp I r j x, L, D)) hS) hP hD) hS1 h1 h2
  rcases hlk with hlk | ⟨host, hlk⟩
  · exact va_put C.1 C.2.1 C.2.2.2.2.1 (gLays hc4) (gTy ci) (gTx_ty ci hc4) (gTx_nm ci hc4) C.2.2.2.1 C.2.2.2.2.2.1.2.1 hR.2.2.2.1 hR.2.2.2.2 hV (r - 3) he (gK_at hc4) j hjN (C.2.2.2.2.1 _ hlk) hsm hfin (gTx_ty ci hc4 j hjN) hn hfit (by simpa using hjN) dg hk9
  · exact va_putN C.1 C.2.1 C.2.2.2.2.1 (gLays hc4) (gTy ci) (gTx_ty ci hc4) (gTx_nm ci hc4) C.2.2.2.1 C.2.2.2.2.2.1.2.1 hR.2.2.2.1 hR.2.2.2.2 hV (r - 3) he (gK_at hc4) j hjN (C.2.2.2.2.1 _ hlk) hsm hfin (gTx_ty ci hc4 j hjN) hn hfit (by simpa using hjN) dg hk9
theorem g_iaload {G : gG} {Y : gY} {d pc : Nat} {al : List (Option Value)} {st : List Value} {S : List (Nat × Nat × Nat)} {T : Nat → Nat → Option Nat} {I : Nat → Nat → Int32} {L : Nat → Nat → Int64} {D : Nat → Nat → UInt64} {kc ks : Nat} {Q : gQ} {r n : Nat} {i : Int32} (dg : decode Y.2.1 pc = .ok (.iaload, 1)) (hS : S[r]? = some (2, 0, n)) (h3 : 3 ≤ r) (hin : vp_in i n) (k : gGo G Y d (pc + 1) al (.int (I r i.toNatClampNeg) :: st) (S, T, I, L, D) kc ks Q) : gGo G Y d pc al (.int i :: .ref r :: st) (S, T, I, L, D) kc ks Q := by
  intro p l e R s m args below meth c QS mc ms ad0 C E ad ls sk H locs cells slots ha hL hs hR hV h1 h2
  obtain ⟨sk0, rfl, hz0⟩ := gSk_int hs
  obtain ⟨a, sk1, hq, rfl, hz1⟩ := gSk_ref hz0
  have hl : r < S.length := (List.getElem?_eq_some_iff.mp hS).1
  have haq : ad.getD r 0 = a := g_adr hq
  have he := gWs_at (ca := G.2.1) (ad := ad) (h := (S, T, I, L, D)) h3 hl
  rw [haq, gCe_arr (h := (S, T, I, L, D)) hS] at he
  exact va_iald C.1 C.2.1 C.2.2.2.2.2.1.2.1 hR.2.2.2.1 (r - 3) 0 he rfl hin dg (k p l e R s m args below meth c QS mc ms ad0 C E ad ls _ H locs cells slots ha hL (gSk_in gV_int hz1) hR hV h1 h2)
theorem g_caload {G : gG} {Y : gY} {d pc : Nat} {al : List (Option Value)} {st : List Value} {S : List (Nat × Nat × Nat)} {T : Nat → Nat → Option Nat} {I : Nat → Nat → Int32} {L : Nat → Nat → Int64} {D : Nat → Nat → UInt64} {kc ks : Nat} {Q : gQ} {r n : Nat} {i : Int32} (dg : decode Y.2.1 pc = .ok (.caload, 1)) (hS : S[r]? = some (2, 1, n)) (h3 : 3 ≤ r) (hin : vp_in i n) (k : gGo G Y d (pc + 1) al (.int (I r i.toNatClampNeg) :: st) (S, T, I, L, D) kc ks Q) : gGo G Y d pc al (.int i :: .ref r :: st) (S, T, I, L, D) kc ks Q := by
  intro p l e R s m args below meth c QS mc ms ad0 C E ad ls sk H locs cells slots ha hL hs hR hV h1 h2
  obtain ⟨sk0, rfl, hz0⟩ := gSk_int hs
  obtain ⟨a, sk1, hq, rfl, hz1⟩ := gSk_ref hz0
  have hl : r < S.length := (List.getElem?_eq_some_iff.mp hS).1
  have haq : ad.getD r 0 = a := g_adr hq
  have he := gWs_at (ca := G.2.1) (ad := ad) (h := (S, T, I, L, D)) h3 hl
  rw [haq, gCe_arr (h := (S, T, I, L, D)) hS] at he
  exact va_cald C.1 C.2.1 C.2.2.2.2.2.1.2.1 hR.2.2.2.1 (r - 3) 1 he rfl hin dg (k p l e R s m args below meth c QS mc ms ad0 C E ad ls _ H locs cells slots ha hL (gSk_in gV_int hz1) hR hV h1 h2)
theorem g_laload {G : gG} {Y : gY} {d pc : Nat} {al : List (Option Value)} {st : List Value} {S : List (Nat × Nat × Nat)} {T : Nat → Nat → Option Nat} {I : Nat → Nat → Int32} {L : Nat → Nat → Int64} {D : Nat → Nat → UInt64} {kc ks : Nat} {Q : gQ} {r n : Nat} {i : Int32} (dg : decode Y.2.1 pc = .ok (.laload, 1)) (hS : S[r]? = some (2, 2, n)) (h3 : 3 ≤ r) (hin : vp_in i n) (k : gGo G Y d (pc + 1) al (.long (L r i.toNatClampNeg) :: st) (S, T, I, L, D) kc ks Q) : gGo G Y d pc al (.int i :: .ref r :: st) (S, T, I, L, D) kc ks Q := by
  intro p l e R s m args below meth c QS mc ms ad0 C E ad ls sk H locs cells slots ha hL hs hR hV h1 h2
  obtain ⟨sk0, rfl, hz0⟩ := gSk_int hs
  obtain ⟨a, sk1, hq, rfl, hz1⟩ := gSk_ref hz0
  have hl : r < S.length := (List.getElem?_eq_some_iff.mp hS).1
  have haq : ad.getD r 0 = a := g_adr hq
  have he := gWs_at (ca := G.2.1) (ad := ad) (h := (S, T, I, L, D)) h3 hl
  rw [haq, gCe_arr (h := (S, T, I, L, D)) hS] at he
  exact va_lald C.1 C.2.1 C.2.2.2.2.2.1.2.1 hR.2.2.2.1 (r - 3) 2 he rfl hin dg (k p l e R s m args below meth c QS mc ms ad0 C E ad ls _ H locs cells slots ha hL (gSk_in gV_long hz1) hR hV h1 h2)
theorem g_daload {G : gG} {Y : gY} {d pc : Nat} {al : List (Option Value)} {st : List Value} {S : List (Nat × Nat × Nat)} {T : Nat → Nat → Option Nat} {I : Nat → Nat → Int32} {L : Nat → Nat → Int64} {D : Nat → Nat → UInt64} {kc ks : Nat} {Q : gQ} {r n : Nat} {i : Int32} (dg : decode Y.2.1 pc = .ok (.daload, 1)) (hS : S[r]? = some (2, 3, n)) (h3 : 3 ≤ r) (hin : vp_in i n) (k : gGo G Y d (pc + 1) al (.double (D r i.toNatClampNeg) :: st) (S, T, I, L, D) kc ks Q) : gGo G Y d pc al (.int i :: .ref r :: st) (S, T, I, L, D) kc ks Q := by
  intro p l e R s m args below meth c QS mc ms ad0 C E ad ls sk H locs cells slots ha hL hs hR hV h1 h2
  obtain ⟨sk0, rfl, hz0⟩ := gSk_int hs
  obtain ⟨a, sk1, hq, rfl, hz1⟩ := gSk_ref hz0
  have hl : r < S.length := (List.getElem?_eq_some_iff.mp hS).1
  have haq : ad.getD r 0 = a := g_adr hq
  have he := gWs_at (ca := G.2.1) (ad := ad) (h := (S, T, I, L, D)) h3 hl
  rw [haq, gCe_arr (h := (S, T, I, L, D)) hS] at he
  exact va_dald C.1 C.2.1 C.2.2.2.2.2.1.2.1 hR.2.2.2.1 (r - 3) 3 he rfl hin dg (k p l e R s m args below meth c QS mc ms ad0 C E ad ls _ H locs cells slots ha hL (gSk_in gV_double hz1) hR hV h1 h2)
theorem g_ialoadK {G : gG} {Y : gY} {d pc : Nat} {al : List (Option Value)} {st : List Value} {S : List (Nat × Nat × Nat)} {T : Nat → Nat → Option Nat} {I : Nat → Nat → Int32} {L : Nat → Nat → Int64} {D : Nat → Nat → UInt64} {kc ks : Nat} {Q : gQ} {r n : Nat} {i : Int32} (dg : decode Y.2.1 pc = .ok (.iaload, 1)) (hS : S[r]? = some (0, 0, n)) (h3 : r < 3) (hin : vp_in i n) (k : gGo G Y d (pc + 1) al (.int (I r i.toNatClampNeg) :: st) (S, T, I, L, D) kc ks Q) : gGo G Y d pc al (.int i :: .ref r :: st) (S, T, I, L, D) kc ks Q := by
  intro p l e R s m args below meth c QS mc ms ad0 C E ad ls sk H locs cells slots ha hL hs hR hV h1 h2
  obtain ⟨sk0, rfl, hz0⟩ := gSk_int hs
  obtain ⟨a, sk1, hq, rfl, hz1⟩ := gSk_ref hz0
  obtain ⟨e1, e2, e3⟩ := hR.2.1 r h3
  have g2 := C.2.2.2.2.2.1.2.2.1 r h3
  have ea : a = G.2.2.2.1 r := Option.some.inj (hq.symm.trans e1)
  subst ea
  have en : (0, 0, n) = (0, 0, G.2.2.2.2.1 r) := Option.some.inj (hS.symm.trans e2)
  have en : n = G.2.2.2.2.1 r := by injection en with _ en; injection en
  subst en
  have ei : I r = G.2.2.2.2.2 r := e3
  exact va_ti C.1 C.2.1 g2 hV hin (v := .int (I r i.toNatClampNeg)) (by rw [ei]) dg (k p l e R s m args below meth c QS mc ms ad0 C E ad ls _ H locs cells slots ha hL (gSk_in gV_int hz1) hR hV h1 h2)
theorem g_alenK {G : gG} {Y : gY} {d pc : Nat} {al : List (Option Value)} {st : List Value} {S : List (Nat × Nat × Nat)} {T : Nat → Nat → Option Nat} {I : Nat → Nat → Int32} {L : Nat → Nat → Int64} {D : Nat → Nat → UInt64} {kc ks : Nat} {Q : gQ} {r n : Nat} (dg : decode Y.2.1 pc = .ok (.arraylength, 1)) (hS : S[r]? = some (0, 0, n)) (h3 : r < 3) (k : gGo G Y d (pc + 1) al (.int (nI n) :: st) (S, T, I, L, D) kc ks Q) : gGo G Y d pc al (.ref r :: st) (S, T, I, L, D) kc ks Q := by
  intro p l e R s m args below meth c QS mc ms ad0 C E ad ls sk H locs cells slots ha hL hs hR hV h1 h2
  obtain ⟨a, sk1, hq, rfl, hz1⟩ := gSk_ref hs
  obtain ⟨e1, e2, e3⟩ := hR.2.1 r h3
  have g2 := C.2.2.2.2.2.1.2.2.1 r h3
  have ea : a = G.2.2.2.1 r := Option.some.inj (hq.symm.trans e1)
  subst ea
  have en : (0, 0, n) = (0, 0, G.2.2.2.2.1 r) := Option.some.inj (hS.symm.trans e2)
  have en : n = G.2.2.2.2.1 r := by injection en with _ en; injection en
  subst en
  exact va_tlen C.1 C.2.1 g2 hV rfl dg (k p l e R s m args below meth c QS mc ms ad0 C E ad ls _ H locs cells slots ha hL (gSk_in gV_int hz1) hR hV h1 h2)
theorem g_alen {G : gG} {Y : gY} {d pc : Nat} {al : List (Option Value)} {st : List Value} {S : List (Nat × Nat × Nat)} {T : Nat → Nat → Option Nat} {I : Nat → Nat → Int32} {L : Nat → Nat → Int64} {D : Nat → Nat → UInt64} {kc ks : Nat} {Q : gQ} {r t n : Nat} (dg : decode Y.2.1 pc = .ok (.arraylength, 1)) (hS : S[r]? = some (2, t, n)) (h3 : 3 ≤ r) (ht : t < 6) (k : gGo G Y d (pc + 1) al (.int (Int32.ofNat n) :: st) (S, T, I, L, D) kc ks Q) : gGo G Y d pc al (.ref r :: st) (S, T, I, L, D) kc ks Q := by
  intro p l e R s m args below meth c QS mc ms ad0 C E ad ls sk H locs cells slots ha hL hs hR hV h1 h2
  obtain ⟨a, sk1, hq, rfl, hz1⟩ := gSk_ref hs
  have hl : r < S.length := (List.getElem?_eq_some_iff.mp hS).1
  have haq : ad.getD r 0 = a := g_adr hq
  have he := gWs_at (ca := G.2.1) (ad := ad) (h := (S, T, I, L, D)) h3 hl
  rw [haq, gCe_arr (h := (S, T, I, L, D)) hS] at he
  obtain ⟨ty, hty⟩ : ∃ ty, (gTs G.2.1)[t]? = some (G.2.1 t, ty) := by
    match t, ht with
    | 0, _ => exact ⟨_, rfl⟩
    | 1, _ => exact ⟨_, rfl⟩
    | 2, _ => exact ⟨_, rfl⟩
    | 3, _ => exact ⟨_, rfl⟩
    | 4, _ => exact ⟨_, rfl⟩
    | 5, _ => exact ⟨_, rfl⟩
  exact va_alen C.1 C.2.1 C.2.2.2.2.2.1.2.1 hR.2.2.2.1 (r - 3) t he hty rfl dg (k p l e R s m args below meth c QS mc ms ad0 C E ad ls _ H locs cells slots ha hL (gSk_in gV_int hz1) hR hV h1 h2)
theorem g_iastore {G : gG} {Y : gY} {d pc : Nat} {al : List (Option Value)} {st : List Value} {S : List (Nat × Nat × Nat)} {T : Nat → Nat → Option Nat} {I : Nat → Nat → Int32} {L : Nat → Nat → Int64} {D : Nat → Nat → UInt64} {kc ks : Nat} {Q : gQ} {r n : Nat} {i : Int32} {x : Int32} (dg : decode Y.2.1 pc = .ok (.iastore, 1)) (hS : S[r]? = some (2, 0, n)) (h3 : 3 ≤ r) (hin : vp_in i n) (k : gGo G Y d (pc + 1) al (st) (S, T, gUp I r i.toNatClampNeg x, L, D) kc ks Q) : gGo G Y d pc al (.int x :: .int i :: .ref r :: st) (S, T, I, L, D) kc ks Q := by
  intro p l e R s m args below meth c QS mc ms ad0 C E ad ls sk H locs cells slots ha hL hs hR hV h1 h2
  obtain ⟨sk9, rfl, hz9⟩ := gSk_int hs
  obtain ⟨sk0, rfl, hz0⟩ := gSk_int hz9
  obtain ⟨a, sk1, hq, rfl, hz1⟩ := gSk_ref hz0
  have hl : r < S.length := (List.getElem?_eq_some_iff.mp hS).1
  have haq : ad.getD r 0 = a := g_adr hq
  have he := gWs_at (ca := G.2.1) (ad := ad) (h := (S, T, I, L, D)) h3 hl
  rw [haq, gCe_arr (h := (S, T, I, L, D)) hS] at he
  refine va_iast C.1 C.2.1 C.2.2.2.2.2.1.2.1 hR.2.2.2.1 hR.2.2.2.2 hV (r - 3) 0 he rfl hin dg (fun H1 locs1 hP hD hS1 => ?_)
  rw [← haq] at hP hD
  refine k p l e R s m args below meth c QS mc ms ad0 C E ad ls sk1 H1 locs1 cells slots ha hL hz1 (gRep_set (h' := (S, T, gUp I r i.toNatClampNeg x, L, D)) hR h3 hl rfl (fun j9 hj9 => gCe_congr rfl rfl (gUp_ne hj9) rfl rfl) (fun j9 hj9 => gUp_ne (by omega)) hR.2.2.1 ?_ hP hD) hS1 h1 h2
  rw [gCe_arr (h := (S, T, gUp I r i.toNatClampNeg x, L, D)) hS]
  simp only [gAr, gUp_at]
  rfl
theorem g_castore {G : gG} {Y : gY} {d pc : Nat} {al : List (Option Value)} {st : List Value} {S : List (Nat × Nat × Nat)} {T : Nat → Nat → Option Nat} {I : Nat → Nat → Int32} {L : Nat → Nat → Int64} {D : Nat → Nat → UInt64} {kc ks : Nat} {Q : gQ} {r n : Nat} {i : Int32} {x : Int32} (dg : decode Y.2.1 pc = .ok (.castore, 1)) (hS : S[r]? = some (2, 1, n)) (h3 : 3 ≤ r) (hin : vp_in i n) (k : gGo G Y d (pc + 1) al (st) (S, T, gUp I r i.toNatClampNeg (vp_nar .char x), L, D) kc ks Q) : gGo G Y d pc al (.int x :: .int i :: .ref r :: st) (S, T, I, L, D) kc ks Q := by
  intro p l e R s m args below meth c QS mc ms ad0 C E ad ls sk H locs cells slots ha hL hs hR hV h1 h2
  obtain ⟨sk9, rfl, hz9⟩ := gSk_int hs
  obtain ⟨sk0, rfl, hz0⟩ := gSk_int hz9
  obtain ⟨a, sk1, hq, rfl, hz1⟩ := gSk_ref hz0
  have hl : r < S.length := (List.getElem?_eq_some_iff.mp hS).1
  have haq : ad.getD r 0 = a := g_adr hq
  have he := gWs_at (ca := G.2.1) (ad := ad) (h := (S, T, I, L, D)) h3 hl
  rw [haq, gCe_arr (h := (S, T, I, L, D)) hS] at he
  refine va_cast C.1 C.2.1 C.2.2.2.2.2.1.2.1 hR.2.2.2.1 hR.2.2.2.2 hV (r - 3) 1 he rfl hin dg (fun H1 locs1 hP hD hS1 => ?_)
  rw [← haq] at hP hD
  refine k p l e R s m args below meth c QS mc ms ad0 C E ad ls sk1 H1 locs1 cells slots ha hL hz1 (gRep_set (h' := (S, T, gUp I r i.toNatClampNeg (vp_nar .char x), L, D)) hR h3 hl rfl (fun j9 hj9 => gCe_congr rfl rfl (gUp_ne hj9) rfl rfl) (fun j9 hj9 => gUp_ne (by omega)) hR.2.2.1 ?_ hP hD) hS1 h1 h2
  rw [gCe_arr (h := (S, T, gUp I r i.toNatClampNeg (vp_nar .char x), L, D)) hS]
  simp only [gAr, gUp_at]
  rfl
theorem g_lastore {G : gG} {Y : gY} {d pc : Nat} {al : List (Option Value)} {st : List Value} {S : List (Nat × Nat × Nat)} {T : Nat → Nat → Option Nat} {I : Nat → Nat → Int32} {L : Nat → Nat → Int64} {D : Nat → Nat → UInt64} {kc ks : Nat} {Q : gQ} {r n : Nat} {i : Int32} {x : Int64} (dg : decode Y.2.1 pc = .ok (.lastore, 1)) (hS : S[r]? = some (2, 2, n)) (h3 : 3 ≤ r) (hin : vp_in i n) (k : gGo G Y d (pc + 1) al (st) (S, T, I, gUp L r i.toNatClampNeg x, D) kc ks Q) : gGo G Y d pc al (.long x :: .int i :: .ref r :: st) (S, T, I, L, D) kc ks Q := by
  intro p l e R s m args below meth c QS mc ms ad0 C E ad ls sk H locs cells slots ha hL hs hR hV h1 h2
  obtain ⟨sk9, rfl, hz9⟩ := gSk_long hs
  obtain ⟨sk0, rfl, hz0⟩ := gSk_int hz9
  obtain ⟨a, sk1, hq, rfl, hz1⟩ := gSk_ref hz0
  have hl : r < S.length := (List.getElem?_eq_some_iff.mp hS).1
  have haq : ad.getD r 0 = a := g_adr hq
  have he := gWs_at (ca := G.2.1) (ad := ad) (h := (S, T, I, L, D)) h3 hl
  rw [haq, gCe_arr (h := (S, T, I, L, D)) hS] at he
  refine va_last C.1 C.2.1 C.2.2.2.2.2.1.2.1 hR.2.2.2.1 hR.2.2.2.2 hV (r - 3) 2 he rfl hin dg (fun H1 locs1 hP hD hS1 => ?_)
  rw [← haq] at hP hD
  refine k p l e R s m args below meth c QS mc ms ad0 C E ad ls sk1 H1 locs1 cells slots ha hL hz1 (gRep_set (h' := (S, T, I, gUp L r i.toNatClampNeg x, D)) hR h3 hl rfl (fun j9 hj9 => gCe_congr rfl rfl rfl (gUp_ne hj9) rfl) (fun j9 hj9 => rfl) hR.2.2.1 ?_ hP hD) hS1 h1 h2
  rw [gCe_arr (h := (S, T, I, gUp L r i.toNatClampNeg x, D)) hS]
  simp only [gAr, gUp_at]
  rfl
theorem g_dastore {G : gG} {Y : gY} {d pc : Nat} {al : List (Option Value)} {st : List Value} {S : List (Nat × Nat × Nat)} {T : Nat → Nat → Option Nat} {I : Nat → Nat → Int32} {L : Nat → Nat → Int64} {D : Nat → Nat → UInt64} {kc ks : Nat} {Q : gQ} {r n : Nat} {i : Int32} {x : UInt64} (dg : decode Y.2.1 pc = .ok (.dastore, 1)) (hS : S[r]? = some (2, 3, n)) (h3 : 3 ≤ r) (hin : vp_in i n) (k : gGo G Y d (pc + 1) al (st) (S, T, I, L, gUp D r i.toNatClampNeg x) kc ks Q) : gGo G Y d pc al (.double x :: .int i :: .ref r :: st) (S, T, I, L, D) kc ks Q := by
  intro p l e R s m args below meth c QS mc ms ad0 C E ad ls sk H locs cells slots ha hL hs hR hV h1 h2
  obtain ⟨sk9, rfl, hz9⟩ := gSk_double hs
  obtain ⟨sk0, rfl, hz0⟩ := gSk_int hz9
  obtain ⟨a, sk1, hq, rfl, hz1⟩ := gSk_ref hz0
  have hl : r < S.length := (List.getElem?_eq_some_iff.mp hS).1
  have haq : ad.getD r 0 = a := g_adr hq
  have he := gWs_at (ca := G.2.1) (ad := ad) (h := (S, T, I, L, D)) h3 hl
  rw [haq, gCe_arr (h := (S, T, I, L, D)) hS] at he
  refine va_dast C.1 C.2.1 C.2.2.2.2.2.1.2.1 hR.2.2.2.1 hR.2.2.2.2 hV (r - 3) 3 he rfl hin dg (fun H1 locs1 hP hD hS1 => ?_)
  rw [← haq] at hP hD
  refine k p l e R s m args below meth c QS mc ms ad0 C E ad ls sk1 H1 locs1 cells slots ha hL hz1 (gRep_set (h' := (S, T, I, L, gUp D r i.toNatClampNeg x)) hR h3 hl rfl (fun j9 hj9 => gCe_congr rfl rfl rfl rfl (gUp_ne hj9)) (fun j9 hj9 => rfl) hR.2.2.1 ?_ hP hD) hS1 h1 h2
  rw [gCe_arr (h := (S, T, I, L, gUp D r i.toNatClampNeg x)) hS]
  simp only [gAr, gUp_at]
  rfl
theorem g_aaload {G : gG} {Y : gY} {d pc : Nat} {al : List (Option Value)} {st : List Value} {S : List (Nat × Nat × Nat)} {T : Nat → Nat → Option Nat} {I : Nat → Nat → Int32} {L : Nat → Nat → Int64} {D : Nat → Nat → UInt64} {kc ks : Nat} {Q : gQ} {r t n q : Nat} {i : Int32} (dg : decode Y.2.1 pc = .ok (.aaload, 1)) (ht : t = 4 ∨ t = 5) (hS : S[r]? = some (2, t, n)) (h3 : 3 ≤ r) (hin : vp_in i n) (hq0 : T r i.toNatClampNeg = some q) (k : gGo G Y d (pc + 1) al (.ref q :: st) (S, T, I, L, D) kc ks Q) : gGo G Y d pc al (.int i :: .ref r :: st) (S, T, I, L, D) kc ks Q := by
  intro p l e R s m args below meth c QS mc ms ad0 C E ad ls sk H locs cells slots ha hL hs hR hV h1 h2
  obtain ⟨sk0, rfl, hz0⟩ := gSk_int hs
  obtain ⟨a, sk1, hq, rfl, hz1⟩ := gSk_ref hz0
  have hl : r < S.length := (List.getElem?_eq_some_iff.mp hS).1
  have haq : ad.getD r 0 = a := g_adr hq
  have he := gWs_at (ca := G.2.1) (ad := ad) (h := (S, T, I, L, D)) h3 hl
  rw [haq, gCe_arr (h := (S, T, I, L, D)) hS] at he
  obtain ⟨a2, ha2⟩ : ∃ a2, ad[q]? = some a2 := ⟨_, List.getElem?_eq_getElem (hR.2.2.1 r _ q hq0)⟩
  have hk9 := k p l e R s m args below meth c QS mc ms ad0 C E ad ls _ H locs cells slots ha hL (gSk_in (gV_at ha2) hz1) hR hV h1 h2
  have hlt : i.toNatClampNeg < n := Nat.not_le.mp fun z => hin (Or.inr z)
  have hkn := C.2.2.2.2.2.1.2.1.2
  rcases ht with rfl | rfl
  · have hcell : H[a]? = some (arrV (G.2.1 4) n (fun j => va_rf ((T r j).map (fun z => ad.getD z 0)))) := hR.2.2.2.1 (r - 3) _ he
    refine W.aald (v := va_rf ((T r i.toNatClampNeg).map (fun z => ad.getD z 0))) (ty := .array .int) C.1 C.2.1 hcell ((hkn 4 _ rfl).1 n (fun j => va_rf ((T r j).map (fun z => ad.getD z 0)))) rfl (fun z => by cases z) (by rw [arrV_size]; exact hin) (by rw [arrV_read _ _ hlt]) rfl rfl dg ?_
    rw [hq0, Option.map_some, g_adr ha2]
    exact hk9
  · have hcell : H[a]? = some (arrV (G.2.1 5) n (fun j => va_rf ((T r j).map (fun z => ad.getD z 0)))) := hR.2.2.2.1 (r - 3) _ he
    refine W.aald (v := va_rf ((T r i.toNatClampNeg).map (fun z => ad.getD z 0))) (ty := .object RX1) C.1 C.2.1 hcell ((hkn 5 _ rfl).1 n (fun j => va_rf ((T r j).map (fun z => ad.getD z 0)))) rfl (fun z => by cases z) (by rw [arrV_size]; exact hin) (by rw [arrV_read _ _ hlt]) rfl rfl dg ?_
    rw [hq0, Option.map_some, g_adr ha2]
    exact hk9
theorem g_powers {G : gG} {Y : gY} {d pc : Nat} {al : List (Option Value)} {st : List Value} {S : List (Nat × Nat × Nat)} {T : Nat → Nat → Option Nat} {I : Nat → Nat → Int32} {L : Nat → Nat → Int64} {D : Nat → Nat → UInt64} {kc ks : Nat} {Q : gQ} {ix : Nat} (dg : decode Y.2.1 pc = .ok (.getstatic ix, 3)) (hf : Cond.fieldLink Y.1.cls ix RX2 "POWERS" "[I" ∈ gW ∨ ∃ host, Cond.fieldLinkNest Y.1.cls ix RX2 "POWERS" "[I" host ∈ gW) (k : gGo G Y d (pc + 3) al (.ref 1 :: st) (S, T, I, L, D) kc ks Q) : gGo G Y d pc al st (S, T, I, L, D) kc ks Q := by
  intro p l e R s m args below meth c QS mc ms ad0 C E ad ls sk H locs cells slots ha hL hs hR hV h1 h2
  have e1 := (hR.2.1 1 (by omega)).1
  have hk9 := k p l e R s m args below meth c QS mc ms ad0 C E ad ls _ H locs cells slots ha hL (gSk_in (gV_at e1) hs) hR hV h1 h2
  have hz := C.2.2.2.2.2.1.2.2.2.1.1
  rcases hf with hf | ⟨host, hf⟩
  · exact va_gets C.1 C.2.1 hz hV C.2.2.2.1 (C.2.2.2.2.1 _ hf) (fun x hx => hx) dg hk9
  · exact va_getsN C.1 C.2.1 hz hV C.2.2.2.1 (C.2.2.2.2.1 _ hf) (fun x hx => hx) dg hk9
theorem g_logs {G : gG} {Y : gY} {d pc : Nat} {al : List (Option Value)} {st : List Value} {S : List (Nat × Nat × Nat)} {T : Nat → Nat → Option Nat} {I : Nat → Nat → Int32} {L : Nat → Nat → Int64} {D : Nat → Nat → UInt64} {kc ks : Nat} {Q : gQ} {ix : Nat} (dg : decode Y.2.1 pc = .ok (.getstatic ix, 3)) (hf : Cond.fieldLink Y.1.cls ix RX2 "LOGARITHMS" "[I" ∈ gW ∨ ∃ host, Cond.fieldLinkNest Y.1.cls ix RX2 "LOGARITHMS" "[I" host ∈ gW) (k : gGo G Y d (pc + 3) al (.ref 2 :: st) (S, T, I, L, D) kc ks Q) : gGo G Y d pc al st (S, T, I, L, D) kc ks Q := by
  intro p l e R s m args below meth c QS mc ms ad0 C E ad ls sk H locs cells slots ha hL hs hR hV h1 h2
  have e1 := (hR.2.1 2 (by omega)).1
  have hk9 := k p l e R s m args below meth c QS mc ms ad0 C E ad ls _ H locs cells slots ha hL (gSk_in (gV_at e1) hs) hR hV h1 h2
  have hz := C.2.2.2.2.2.1.2.2.2.1.2
  rcases hf with hf | ⟨host, hf⟩
  · exact va_gets C.1 C.2.1 hz hV C.2.2.2.1 (C.2.2.2.2.1 _ hf) (fun x hx => hx) dg hk9
  · exact va_getsN C.1 C.2.1 hz hV C.2.2.2.1 (C.2.2.2.2.1 _ hf) (fun x hx => hx) dg hk9
