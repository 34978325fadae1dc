/-! ===== what is made at the start ===== -/
def zL : Nat → Nat → Int64 := fun _ _ => 0
def zD : Nat → Nat → UInt64 := fun _ _ => 0
/-- the heap under way: k cells, i references -/
abbrev hg (n k i : Nat) (I : Nat → Nat → Int32) : gH := ((S0 n).take k, gLt (T0l.take i), I, zL, zD)
def Zr (I : Nat → Nat → Int32) (k : Nat) : Prop := ∀ a, k ≤ a → ∀ b, I a b = 0
abbrev Fr (k i : Nat) : Prop := ∀ e ∈ T0l.take i, e.1 < k
theorem Zr.m {I : Nat → Nat → Int32} {k k' : Nat} (h : Zr I k) (hk : k ≤ k') : Zr I k' := fun a ha b => h a (Nat.le_trans hk ha) b
theorem gNw_z {α : Type} {x : α} {k : Nat} : gNw (fun _ _ => x) k x = fun _ _ => x := by
  funext a b
  simp [gNw]
theorem gNw_I {I : Nat → Nat → Int32} {k : Nat} (hz : Zr I k) : gNw I k 0 = I := by
  funext a b
  unfold gNw
  by_cases h : a = k
  · rw [if_pos h]; exact (hz a (Nat.le_of_eq h.symm) b).symm
  · rw [if_neg h]
theorem gLt_none {l : List (Nat × Nat × Nat)} {k b : Nat} (h : ∀ e ∈ l, e.1 < k) : gLt l k b = none := by
  unfold gLt
  rw [List.find?_eq_none.mpr (fun e he q => ?_)]
  · rfl
  · simp at q
    have := h e he
    omega
theorem gNw_T {k i : Nat} (h : Fr k i) : gNw (gLt (T0l.take i)) k none = gLt (T0l.take i) := by
  funext a b
  unfold gNw
  by_cases e : a = k
  · rw [if_pos e, e, gLt_none h]
  · rw [if_neg e]
theorem gLt_app {l : List (Nat × Nat × Nat)} {a j q : Nat} (h : ∀ e ∈ l, ¬ (e.1 = a ∧ e.2.1 = j)) : gUp (gLt l) a j (some q) = gLt (l ++ [(a, j, q)]) := by
  funext x y
  unfold gUp gLt
  rw [List.find?_append]
  by_cases e : x = a ∧ y = j
  · rw [if_pos e]
    obtain ⟨rfl, rfl⟩ := e
    rw [List.find?_eq_none.mpr (fun e he q => h e he (by simpa using q))]
    simp
  · rw [if_neg e]
    have : List.find? (fun e => e.1 == x && e.2.1 == y) [(a, j, q)] = none := List.find?_eq_none.mpr (fun f hf q => e (by
      rw [List.mem_singleton] at hf
      subst hf
      simp at q
      exact ⟨q.1.symm, q.2.symm⟩))
    rw [this, Option.or_none]
theorem T0_nodup : ∀ i, i < 126 → ∀ e ∈ T0l.take i, ¬ (e.1 = (T0l.getD i (0, 0, 0)).1 ∧ e.2.1 = (T0l.getD i (0, 0, 0)).2.1) := by decide +kernel
theorem T0_len : T0l.length = 126 := by decide +kernel
theorem T_suc {i a j q : Nat} (h : T0l[i]? = some (a, j, q)) : gUp (gLt (T0l.take i)) a j (some q) = gLt (T0l.take (i + 1)) := by
  have hi : i < 126 := by rw [← T0_len]; exact (List.getElem?_eq_some_iff.mp h).1
  have e : T0l.getD i (0, 0, 0) = (a, j, q) := by rw [List.getD_eq_getElem?_getD, h]; rfl
  have hn := T0_nodup i hi
  rw [e] at hn
  rw [gLt_app hn, List.take_succ, h]
  rfl
theorem S_len {n k : Nat} (hk : k ≤ 133) : ((S0 n).take k).length = k := by
  rw [List.length_take]
  exact Nat.min_eq_left hk
theorem S_suc {n k : Nat} {s : Nat × Nat × Nat} (hs : (S0 n)[k]? = some s) : (S0 n).take k ++ [s] = (S0 n).take (k + 1) := by
  rw [List.take_succ, hs]
  rfl
theorem S_lt {n k : Nat} {s : Nat × Nat × Nat} (hs : (S0 n)[k]? = some s) : k < 133 := (List.getElem?_eq_some_iff.mp hs).1
theorem S_at {n k r : Nat} {s : Nat × Nat × Nat} (hs : (S0 n)[r]? = some s) (hr : r < k) : ((S0 n).take k)[r]? = some s := by
  rw [List.getElem?_take_of_lt hr]
  exact hs
theorem S0s {n a : Nat} : (S0 n)[a + 1]? = (S0 0)[a + 1]? := rfl
theorem hg_len {n k i : Nat} {I : Nat → Nat → Int32} {s : Nat × Nat × Nat} (hs : (S0 n)[k]? = some s) : (hg n k i I).1.length = k := S_len (Nat.le_of_lt (S_lt hs))
theorem gNew_k {n k i : Nat} {I : Nat → Nat → Int32} {s : Nat × Nat × Nat} (hs : (S0 n)[k]? = some s) (hf : Fr k i) (hz : Zr I k) : gNew (hg n k i I) s = hg n (k + 1) i I := by
  unfold gNew
  rw [hg_len hs]
  show ((S0 n).take k ++ [s], gNw (gLt (T0l.take i)) k none, gNw I k 0, gNw zL k 0, gNw zD k 0) = _
  rw [S_suc hs, gNw_T hf, gNw_I hz]
  unfold zL zD
  rw [gNw_z, gNw_z]
  rfl
/-! no nest's links stand where the constructors write -/
def noNest (w : Cond) : Bool := match w with
  | .fieldLinkNest o i _ _ _ _ => !((o == RX0 && [9, 15, 18, 21, 26].contains i) || (o == RX1 && [9, 15, 18, 21, 24, 27, 30, 33, 36, 39, 42].contains i) || (o == RX2 && [12, 16, 19, 26, 30, 34, 38].contains i) || (o == RX3 && [9, 13, 16, 23, 27, 30, 33, 36, 39, 42, 45, 48, 51, 54, 57, 60].contains i))
  | _ => true
theorem noNest_all : gW.all noNest = true := by decide +kernel
theorem hno {o rc nm ds : String} {i : Nat} (h : noNest (.fieldLinkNest o i rc nm ds "") = false) (host : String) : Cond.fieldLinkNest o i rc nm ds host ∉ gW := fun q => by
  have h1 : noNest (.fieldLinkNest o i rc nm ds host) = true := List.all_eq_true.mp noNest_all _ q
  have h2 : noNest (.fieldLinkNest o i rc nm ds host) = noNest (.fieldLinkNest o i rc nm ds "") := rfl
  rw [h2, h] at h1
  cases h1
section
variable {G : gG} {Y : gY} {d n k i : Nat} {I : Nat → Nat → Int32} {kc ks : Nat} {Q : gQ} {pc : Nat} {al : List (Option Value)} {st : List Value}
theorem h_newI {N : Nat} {v : Int32} (dg : decode Y.2.1 pc = .ok (.newarray .int, 2)) (hs : (S0 n)[k]? = some (2, 0, N)) (hf : Fr k i) (hz : Zr I k) (hv : v = Int32.ofNat N) (hN : N < 100000) (hc : 1 ≤ kc) (hks : N ≤ ks) (kk : gGo G Y d (pc + 2) al (.ref k :: st) (hg n (k + 1) i I) (kc - 1) (ks - N) Q) : gGo G Y d pc al (.int v :: st) (hg n k i I) kc ks Q := by
  refine g_newI dg hv hN hc hks ?_
  rw [gNew_k hs hf hz, hg_len hs]
  exact kk
theorem h_newC {N : Nat} {v : Int32} (dg : decode Y.2.1 pc = .ok (.newarray .char, 2)) (hs : (S0 n)[k]? = some (2, 1, N)) (hf : Fr k i) (hz : Zr I k) (hv : v = Int32.ofNat N) (hN : N < 100000) (hc : 1 ≤ kc) (hks : N ≤ ks) (kk : gGo G Y d (pc + 2) al (.ref k :: st) (hg n (k + 1) i I) (kc - 1) (ks - N) Q) : gGo G Y d pc al (.int v :: st) (hg n k i I) kc ks Q := by
  refine g_newC dg hv hN hc hks ?_
  rw [gNew_k hs hf hz, hg_len hs]
  exact kk
theorem h_newL {N : Nat} {v : Int32} (dg : decode Y.2.1 pc = .ok (.newarray .long, 2)) (hs : (S0 n)[k]? = some (2, 2, N)) (hf : Fr k i) (hz : Zr I k) (hv : v = Int32.ofNat N) (hN : N < 100000) (hc : 1 ≤ kc) (hks : N ≤ ks) (kk : gGo G Y d (pc + 2) al (.ref k :: st) (hg n (k + 1) i I) (kc - 1) (ks - N) Q) : gGo G Y d pc al (.int v :: st) (hg n k i I) kc ks Q := by
  refine g_newL dg hv hN hc hks ?_
  rw [gNew_k hs hf hz, hg_len hs]
  exact kk
theorem h_newD {N : Nat} {v : Int32} (dg : decode Y.2.1 pc = .ok (.newarray .double, 2)) (hs : (S0 n)[k]? = some (2, 3, N)) (hf : Fr k i) (hz : Zr I k) (hv : v = Int32.ofNat N) (hN : N < 100000) (hc : 1 ≤ kc) (hks : N ≤ ks) (kk : gGo G Y d (pc + 2) al (.ref k :: st) (hg n (k + 1) i I) (kc - 1) (ks - N) Q) : gGo G Y d pc al (.int v :: st) (hg n k i I) kc ks Q := by
  refine g_newD dg hv hN hc hks ?_
  rw [gNew_k hs hf hz, hg_len hs]
  exact kk
theorem h_newS {N ix : Nat} {v : Int32} (dg : decode Y.2.1 pc = .ok (.anewarray ix, 3)) (hl : Cond.classLink Y.1.cls ix RX1 ∈ gW) (hs : (S0 n)[k]? = some (2, 5, N)) (hf : Fr k i) (hz : Zr I k) (hv : v = Int32.ofNat N) (hN : N < 100000) (hc : 1 ≤ kc) (hks : N ≤ ks) (kk : gGo G Y d (pc + 3) al (.ref k :: st) (hg n (k + 1) i I) (kc - 1) (ks - N) Q) : gGo G Y d pc al (.int v :: st) (hg n k i I) kc ks Q := by
  refine g_newS dg hl hv hN hc hks ?_
  rw [gNew_k hs hf hz, hg_len hs]
  exact kk
theorem h_new {ix ci : Nat} (dg : decode Y.2.1 pc = .ok (.new ix, 3)) (hm : gMk Y.1.cls ix ci) (hs : (S0 n)[k]? = some (1, ci, gN ci)) (hf : Fr k i) (hz : Zr I k) (hc : 1 ≤ kc) (hks : gN ci ≤ ks) (kk : gGo G Y d (pc + 3) al (.ref k :: st) (hg n (k + 1) i I) (kc - 1) (ks - gN ci) Q) : gGo G Y d pc al st (hg n k i I) kc ks Q := by
  refine g_new dg hm hc hks ?_
  rw [gNew_k hs hf hz, hg_len hs]
  exact kk
theorem h_putR {ix r ci j n0 q : Nat} (dg : decode Y.2.1 pc = .ok (.putfield ix, 3)) (hf : gFl Y.1.cls ix ci j) (hn : noNest (.fieldLinkNest Y.1.cls ix (gRx ci) (gTx ci j).2.1 (gTx ci j).2.2.1 "") = false) (hs : (S0 n)[r]? = some (1, ci, n0)) (hr : r < k) (h3 : 3 ≤ r) (hty : gIsR ci j = true) (hfin : (gTx ci j).2.2.2 = true) (hnm : Y.1.name = "<init>") (hown : gRx ci = Y.1.cls) (he : T0l[i]? = some (r, j, q)) (kk : gGo G Y d (pc + 3) al st (hg n k (i + 1) I) kc ks Q) : gGo G Y d pc al (.ref q :: .ref r :: st) (hg n k i I) kc ks Q := by
  refine g_putR dg hf (fun host => hno hn host) (S_at hs hr) h3 hty hfin hnm hown ?_
  rw [T_suc he]
  exact kk
theorem h_aastore {r q m n0 x : Nat} (dg : decode Y.2.1 pc = .ok (.aastore, 1)) (hs : (S0 n)[r]? = some (2, 5, m)) (hr : r < k) (h3 : 3 ≤ r) (hq : (S0 n)[q]? = some (1, 1, n0)) (hqk : q < k) (h3q : 3 ≤ q) (hx : x < m) (hm : m < 2 ^ 31) (he : T0l[i]? = some (r, x, q)) (kk : gGo G Y d (pc + 1) al st (hg n k (i + 1) I) kc ks Q) : gGo G Y d pc al (.ref q :: .int (nI x) :: .ref r :: st) (hg n k i I) kc ks Q := by
  refine g_aastore dg (S_at hs hr) h3 (S_at hq hqk) h3q (vp_in_nI hx hm) ?_
  rw [nI_clamp (Nat.lt_trans hx hm), T_suc he]
  exact kk
theorem h_put0 {ix r ci j n0 : Nat} {x : Int32} (dg : decode Y.2.1 pc = .ok (.putfield ix, 3)) (hf : gFl Y.1.cls ix ci j) (hs : (S0 n)[r]? = some (1, ci, n0)) (hr : r < k) (h3 : 3 ≤ r) (hty : gIsR ci j = false) (hfin : (gTx ci j).2.2.2 = false) (hn : narrow (gTy ci j) (.int x) = .int x) (hfit : fits (gTy ci j) (.int x) = true) (hx : I r j = x) (kk : gGo G Y d (pc + 3) al st (hg n k i I) kc ks Q) : gGo G Y d pc al (.int x :: .ref r :: st) (hg n k i I) kc ks Q := by
  refine g_putI dg hf (S_at hs hr) h3 hty hfin hn hfit ?_
  have e : gUp I r j x = I := by
    funext a b
    unfold gUp
    by_cases h : a = r ∧ b = j
    · rw [if_pos h, h.1, h.2, hx]
    · rw [if_neg h]
  rw [e]
  exact kk
theorem h_putI {ix r ci j n0 : Nat} {x : Int32} (dg : decode Y.2.1 pc = .ok (.putfield ix, 3)) (hf : gFl Y.1.cls ix ci j) (hs : (S0 n)[r]? = some (1, ci, n0)) (hr : r < k) (h3 : 3 ≤ r) (hty : gIsR ci j = false) (hfin : (gTx ci j).2.2.2 = false) (hn : narrow (gTy ci j) (.int x) = .int x) (hfit : fits (gTy ci j) (.int x) = true) (kk : gGo G Y d (pc + 3) al st (hg n k i (gUp I r j x)) kc ks Q) : gGo G Y d pc al (.int x :: .ref r :: st) (hg n k i I) kc ks Q := g_putI dg hf (S_at hs hr) h3 hty hfin hn hfit kk
theorem h_callI {Z : gY} {ix r : Nat} {h h' : gH} {kc1 ks1 : Nat} (dg : decode Y.2.1 pc = .ok (.invokespecial ix, 3)) (hZ : gMt Z) (hl : gLk Y.1.cls ix Z.1) (hin : Cond.instanceMethod Z.1 ∈ gW) (hnm : Z.1.name = "<init>") (hrt0 : Z.2.2.2.1 = none) (hn : gNp Z.1 = some 0) (hnl : 1 ≤ Z.2.2.1) (hrest : (st.map fun v => v.category).sum ≤ 8) (hb : kc1 ≤ kc ∧ ks1 ≤ ks) (he : gFn G Z d [.ref r] h (.inl none) h' kc1 ks1) (kk : gGo G Y (d + 1) (pc + 3) al st h' (kc - kc1) (ks - ks1) Q) : gGo G Y (d + 1) pc al (.ref r :: st) h kc ks Q := by
  refine g_callI (av := []) (st := st) dg hZ hl hin hnm hrt0 rfl hn gc_0 hnl hrest hb he (fun v h9 _ q => ?_) (fun X h9 q => ?_)
  · obtain ⟨q1, rfl⟩ := q
    cases q1
    exact kk
  · cases q.1
theorem h_mna {ix : Nat} (dg : decode Y.2.1 pc = .ok (.multianewarray ix 2, 4)) (hl : Cond.classLink Y.1.cls ix ("[" ++ (FieldType.array .int).toString) ∈ gW) (hz : Zr I 34) (hc : 5 ≤ kc) (hks : 28 ≤ ks) (kk : gGo G Y d (pc + 4) al (.ref 38 :: st) (hg n 39 33 I) (kc - 5) (ks - 28) Q) : gGo G Y d pc al (.int 6 :: .int 4 :: st) (hg n 34 29 I) kc ks Q := by
  refine g_mna dg hl hc hks ?_
  have e0 : gM4 (hg n 34 29 I) = hg n 39 33 I := by
    unfold gM4
    rw [gNew_k s_34 (by decide +kernel) hz, gNew_k s_35 (by decide +kernel) (hz.m (by decide)), gNew_k s_36 (by decide +kernel) (hz.m (by decide)), gNew_k s_37 (by decide +kernel) (hz.m (by decide)), hg_len s_34]
    unfold gNewR
    rw [hg_len s_38]
    show ((S0 n).take 38 ++ [(2, 4, 4)], (fun a => if a = 38 then (fun j => if j < 4 then some (34 + j) else none) else gLt (T0l.take 29) a), gNw I 38 0, gNw zL 38 0, gNw zD 38 0) = _
    rw [S_suc s_38, gNw_I (hz.m (by decide))]
    have e1 : (fun a => if a = 38 then (fun j => if j < 4 then some (34 + j) else none) else gLt (T0l.take 29) a) = gLt (T0l.take 33) := by
      rw [← T_suc (i := 32) (a := 38) (j := 3) (q := 37) (by decide +kernel), ← T_suc (i := 31) (a := 38) (j := 2) (q := 36) (by decide +kernel), ← T_suc (i := 30) (a := 38) (j := 1) (q := 35) (by decide +kernel), ← T_suc (i := 29) (a := 38) (j := 0) (q := 34) (by decide +kernel)]
      funext a j
      unfold gUp
      by_cases h : a = 38
      · subst h
        rw [if_pos rfl, gLt_none (l := T0l.take 29) (by decide +kernel)]
        match j with
        | 0 => rfl
        | 1 => rfl
        | 2 => rfl
        | 3 => rfl
        | j + 4 => simp
      · simp [h]
    rw [e1]
    unfold zL zD
    rw [gNw_z, gNw_z]
    rfl
  have e2 : (hg n 34 29 I).1.length = 34 := hg_len s_34
  rw [e0, e2]
  exact kk
end
theorem oi_X0 : Cond.methodLink RX0 3 Lib.objectInit ∈ gW := by decide +kernel
theorem oi_X1 : Cond.methodLink RX1 3 Lib.objectInit ∈ gW := by decide +kernel
theorem oi_X2 : Cond.methodLink RX2 3 Lib.objectInit ∈ gW := by decide +kernel
theorem oi_X3 : Cond.methodLink RX3 3 Lib.objectInit ∈ gW := by decide +kernel
theorem mk_X2_9 : gMk RX2 9 1 := by unfold gMk; decide +kernel
theorem mk_X2_23 : gMk RX2 23 0 := by unfold gMk; decide +kernel
theorem mk_L_2 : gMk RL 8 2 := by unfold gMk; decide +kernel
theorem mk_L_3 : gMk RL 131 3 := by unfold gMk; decide +kernel
theorem an_X2 : Cond.classLink RX2 9 RX1 ∈ gW := by decide +kernel
theorem an_X0 : Cond.classLink RX0 24 ("[" ++ (FieldType.array .int).toString) ∈ gW := by decide +kernel
/-- a state's rows -/
def cN (j : Nat) : Nat := ([240, 240, 240, 8, 8, 8, 8, 8, 8, 8, 32] : List Nat).getD j 0

section
variable {G : gG} {d n k i : Nat} {I : Nat → Nat → Int32}
theorem c_X1 (h3 : 3 ≤ k) (hS : (S0 n)[k]? = some (1, 1, 12)) (hA : ∀ j, j < 11 → (S0 n)[k + 1 + j]? = some (2, 0, cN j)) (hT : ∀ j, j < 11 → T0l[i + j]? = some (k, j, k + 1 + j)) (hF : ∀ j, j < 11 → Fr (k + 1 + j) (i + j)) (hz : Zr I (k + 1)) (h0 : I k 11 = 0) : gFn G YX1_init d [.ref k] (hg n (k + 1) i I) (.inl none) (hg n (k + 12) (i + 11) I) 11 808 := by
  refine g_aload_n (pc := 0) dX1_init_0 rfl rfl ?_
  refine g_objInit (pc := 1) dX1_init_1 oi_X1 (by decide) ?_
  refine g_aload_n (pc := 4) dX1_init_4 rfl rfl ?_
  refine g_sipush (v := nI 240) (pc := 5) dX1_init_5 rfl ?_
  refine h_newI (N := 240) (pc := 8) dX1_init_8 (hA 0 (by decide)) (hF 0 (by decide)) (hz.m (by omega)) rfl (by decide) (by decide) (by decide) ?_
  refine h_putR (pc := 10) dX1_init_10 fl_X1_9 (by decide +kernel) hS (by omega) h3 rfl rfl rfl rfl (hT 0 (by decide)) ?_
  refine g_aload_n (pc := 13) dX1_init_13 rfl rfl ?_
  refine g_sipush (v := nI 240) (pc := 14) dX1_init_14 rfl ?_
  refine h_newI (N := 240) (pc := 17) dX1_init_17 (hA 1 (by decide)) (hF 1 (by decide)) (hz.m (by omega)) rfl (by decide) (by decide) (by decide) ?_
  refine h_putR (pc := 19) dX1_init_19 fl_X1_15 (by decide +kernel) hS (by omega) h3 rfl rfl rfl rfl (hT 1 (by decide)) ?_
  refine g_aload_n (pc := 22) dX1_init_22 rfl rfl ?_
  refine g_sipush (v := nI 240) (pc := 23) dX1_init_23 rfl ?_
  refine h_newI (N := 240) (pc := 26) dX1_init_26 (hA 2 (by decide)) (hF 2 (by decide)) (hz.m (by omega)) rfl (by decide) (by decide) (by decide) ?_
  refine h_putR (pc := 28) dX1_init_28 fl_X1_18 (by decide +kernel) hS (by omega) h3 rfl rfl rfl rfl (hT 2 (by decide)) ?_
  refine g_aload_n (pc := 31) dX1_init_31 rfl rfl ?_
  refine g_bipush (v := nI 8) (pc := 32) dX1_init_32 rfl ?_
  refine h_newI (N := 8) (pc := 34) dX1_init_34 (hA 3 (by decide)) (hF 3 (by decide)) (hz.m (by omega)) rfl (by decide) (by decide) (by decide) ?_
  refine h_putR (pc := 36) dX1_init_36 fl_X1_21 (by decide +kernel) hS (by omega) h3 rfl rfl rfl rfl (hT 3 (by decide)) ?_
  refine g_aload_n (pc := 39) dX1_init_39 rfl rfl ?_
  refine g_bipush (v := nI 8) (pc := 40) dX1_init_40 rfl ?_
  refine h_newI (N := 8) (pc := 42) dX1_init_42 (hA 4 (by decide)) (hF 4 (by decide)) (hz.m (by omega)) rfl (by decide) (by decide) (by decide) ?_
  refine h_putR (pc := 44) dX1_init_44 fl_X1_24 (by decide +kernel) hS (by omega) h3 rfl rfl rfl rfl (hT 4 (by decide)) ?_
  refine g_aload_n (pc := 47) dX1_init_47 rfl rfl ?_
  refine g_bipush (v := nI 8) (pc := 48) dX1_init_48 rfl ?_
  refine h_newI (N := 8) (pc := 50) dX1_init_50 (hA 5 (by decide)) (hF 5 (by decide)) (hz.m (by omega)) rfl (by decide) (by decide) (by decide) ?_
  refine h_putR (pc := 52) dX1_init_52 fl_X1_27 (by decide +kernel) hS (by omega) h3 rfl rfl rfl rfl (hT 5 (by decide)) ?_
  refine g_aload_n (pc := 55) dX1_init_55 rfl rfl ?_
  refine g_bipush (v := nI 8) (pc := 56) dX1_init_56 rfl ?_
  refine h_newI (N := 8) (pc := 58) dX1_init_58 (hA 6 (by decide)) (hF 6 (by decide)) (hz.m (by omega)) rfl (by decide) (by decide) (by decide) ?_
  refine h_putR (pc := 60) dX1_init_60 fl_X1_30 (by decide +kernel) hS (by omega) h3 rfl rfl rfl rfl (hT 6 (by decide)) ?_
  refine g_aload_n (pc := 63) dX1_init_63 rfl rfl ?_
  refine g_bipush (v := nI 8) (pc := 64) dX1_init_64 rfl ?_
  refine h_newI (N := 8) (pc := 66) dX1_init_66 (hA 7 (by decide)) (hF 7 (by decide)) (hz.m (by omega)) rfl (by decide) (by decide) (by decide) ?_
  refine h_putR (pc := 68) dX1_init_68 fl_X1_33 (by decide +kernel) hS (by omega) h3 rfl rfl rfl rfl (hT 7 (by decide)) ?_
  refine g_aload_n (pc := 71) dX1_init_71 rfl rfl ?_
  refine g_bipush (v := nI 8) (pc := 72) dX1_init_72 rfl ?_
  refine h_newI (N := 8) (pc := 74) dX1_init_74 (hA 8 (by decide)) (hF 8 (by decide)) (hz.m (by omega)) rfl (by decide) (by decide) (by decide) ?_
  refine h_putR (pc := 76) dX1_init_76 fl_X1_36 (by decide +kernel) hS (by omega) h3 rfl rfl rfl rfl (hT 8 (by decide)) ?_
  refine g_aload_n (pc := 79) dX1_init_79 rfl rfl ?_
  refine g_bipush (v := nI 8) (pc := 80) dX1_init_80 rfl ?_
  refine h_newI (N := 8) (pc := 82) dX1_init_82 (hA 9 (by decide)) (hF 9 (by decide)) (hz.m (by omega)) rfl (by decide) (by decide) (by decide) ?_
  refine h_putR (pc := 84) dX1_init_84 fl_X1_39 (by decide +kernel) hS (by omega) h3 rfl rfl rfl rfl (hT 9 (by decide)) ?_
  refine g_aload_n (pc := 87) dX1_init_87 rfl rfl ?_
  refine g_bipush (v := nI 32) (pc := 88) dX1_init_88 rfl ?_
  refine h_newI (N := 32) (pc := 90) dX1_init_90 (hA 10 (by decide)) (hF 10 (by decide)) (hz.m (by omega)) rfl (by decide) (by decide) (by decide) ?_
  refine h_putR (pc := 92) dX1_init_92 fl_X1_42 (by decide +kernel) hS (by omega) h3 rfl rfl rfl rfl (hT 10 (by decide)) ?_
  refine g_aload_n (pc := 95) dX1_init_95 rfl rfl ?_
  refine g_iconst (v := nI 0) (pc := 96) dX1_init_96 rfl ?_
  refine h_put0 (pc := 97) dX1_init_97 fl_X1_45 hS (by omega) h3 rfl rfl rfl rfl h0 ?_
  refine g_vret (pc := 100) dX1_init_100 rfl ?_
  exact ⟨rfl, rfl⟩
end
section
variable {G : gG} {d n : Nat} {I : Nat → Nat → Int32}
theorem c_X0 (hz : Zr I 29) : gFn G YX0_init d [.ref 29] (hg n 30 25 I) (.inl none) (hg n 39 34 I) 9 68 := by
  refine g_aload_n (pc := 0) dX0_init_0 rfl rfl ?_
  refine g_objInit (pc := 1) dX0_init_1 oi_X0 (by decide) ?_
  refine g_aload_n (pc := 4) dX0_init_4 rfl rfl ?_
  refine g_bipush (v := nI 14) (pc := 5) dX0_init_5 rfl ?_
  refine h_newI (N := 14) (pc := 7) dX0_init_7 s_30 (by decide +kernel) (hz.m (by decide)) rfl (by decide) (by decide) (by decide) ?_
  refine h_putR (pc := 9) dX0_init_9 fl_X0_9 (by decide +kernel) s_29 (by decide) (by decide) rfl rfl rfl rfl (by decide +kernel) ?_
  refine g_aload_n (pc := 12) dX0_init_12 rfl rfl ?_
  refine g_bipush (v := nI 14) (pc := 13) dX0_init_13 rfl ?_
  refine h_newI (N := 14) (pc := 15) dX0_init_15 s_31 (by decide +kernel) (hz.m (by decide)) rfl (by decide) (by decide) (by decide) ?_
  refine h_putR (pc := 17) dX0_init_17 fl_X0_15 (by decide +kernel) s_29 (by decide) (by decide) rfl rfl rfl rfl (by decide +kernel) ?_
  refine g_aload_n (pc := 20) dX0_init_20 rfl rfl ?_
  refine g_bipush (v := nI 6) (pc := 21) dX0_init_21 rfl ?_
  refine h_newI (N := 6) (pc := 23) dX0_init_23 s_32 (by decide +kernel) (hz.m (by decide)) rfl (by decide) (by decide) (by decide) ?_
  refine h_putR (pc := 25) dX0_init_25 fl_X0_18 (by decide +kernel) s_29 (by decide) (by decide) rfl rfl rfl rfl (by decide +kernel) ?_
  refine g_aload_n (pc := 28) dX0_init_28 rfl rfl ?_
  refine g_bipush (v := nI 6) (pc := 29) dX0_init_29 rfl ?_
  refine h_newI (N := 6) (pc := 31) dX0_init_31 s_33 (by decide +kernel) (hz.m (by decide)) rfl (by decide) (by decide) (by decide) ?_
  refine h_putR (pc := 33) dX0_init_33 fl_X0_21 (by decide +kernel) s_29 (by decide) (by decide) rfl rfl rfl rfl (by decide +kernel) ?_
  refine g_aload_n (pc := 36) dX0_init_36 rfl rfl ?_
  refine g_iconst (v := nI 4) (pc := 37) dX0_init_37 rfl ?_
  refine g_bipush (v := nI 6) (pc := 38) dX0_init_38 rfl ?_
  refine h_mna (pc := 40) dX0_init_40 an_X0 (hz.m (by decide)) (by decide) (by decide) ?_
  refine h_putR (pc := 44) dX0_init_44 fl_X0_26 (by decide +kernel) s_29 (by decide) (by decide) rfl rfl rfl rfl (by decide +kernel) ?_
  refine g_aload_n (pc := 47) dX0_init_47 rfl rfl ?_
  refine g_iconst (v := nI 0) (pc := 48) dX0_init_48 rfl ?_
  refine h_put0 (pc := 49) dX0_init_49 fl_X0_29 s_29 (by decide) (by decide) rfl rfl rfl rfl (hz 29 (by decide) _) ?_
  refine g_aload_n (pc := 52) dX0_init_52 rfl rfl ?_
  refine g_iconst (v := nI 0) (pc := 53) dX0_init_53 rfl ?_
  refine h_put0 (pc := 54) dX0_init_54 fl_X0_33 s_29 (by decide) (by decide) rfl rfl rfl rfl (hz 29 (by decide) _) ?_
  refine g_aload_n (pc := 57) dX0_init_57 rfl rfl ?_
  refine g_iconst (v := nI 0) (pc := 58) dX0_init_58 rfl ?_
  refine h_put0 (pc := 59) dX0_init_59 fl_X0_36 s_29 (by decide) (by decide) rfl rfl rfl rfl (hz 29 (by decide) _) ?_
  refine g_aload_n (pc := 62) dX0_init_62 rfl rfl ?_
  refine g_iconst (v := nI 0) (pc := 63) dX0_init_63 rfl ?_
  refine h_put0 (pc := 64) dX0_init_64 fl_X0_39 s_29 (by decide) (by decide) rfl rfl rfl rfl (hz 29 (by decide) _) ?_
  refine g_vret (pc := 67) dX0_init_67 rfl ?_
  exact ⟨rfl, rfl⟩
end
theorem A_at {n k : Nat} (h : ∀ j, j < 11 → (S0 0)[k + 1 + j]? = some (2, 0, cN j)) : ∀ j, j < 11 → (S0 n)[k + 1 + j]? = some (2, 0, cN j) := fun j hj => by
  have := h j hj
  rw [show k + 1 + j = (k + j) + 1 by omega] at this ⊢
  exact this
section
variable {G : gG} {d n : Nat} {I : Nat → Nat → Int32}
theorem Zr.u {I : Nat → Nat → Int32} {k r j : Nat} {x : Int32} (h : Zr I k) (hr : r < k) : Zr (gUp I r j x) k := fun a ha b => gUp_a (by omega) (h a ha b)
theorem c_X2 (hz : Zr I 3) : gFn G YX2_init (d + 1) [.ref 3] (hg n 4 0 I) (.inl none) (hg n 114 110 (gUp I 3 9 (-1))) 110 6835 := by
  have hz2 : Zr (gUp I 3 9 (-1)) 4 := Zr.u (hz.m (by decide)) (by decide)
  refine g_aload_n (pc := 0) dX2_init_0 rfl rfl ?_
  refine g_objInit (pc := 1) dX2_init_1 oi_X2 (by decide) ?_
  refine g_aload_n (pc := 4) dX2_init_4 rfl rfl ?_
  refine h_new (pc := 5) dX2_init_5 mk_X2_9 s_4 (by decide +kernel) (hz.m (by decide)) (by decide) (by decide) ?_
  refine g_dup (pc := 8) dX2_init_8 rfl ?_
  refine h_callI (pc := 9) dX2_init_9 mt_X1_init lk_X2_11 im_X1_init rfl rfl np_X1_init (by decide) (by decide) ⟨by decide, by decide⟩ (c_X1 (k := 4) (i := 0) (by decide) s_4 (A_at (by decide +kernel)) (by decide +kernel) (by decide +kernel) (hz.m (by decide)) (hz 4 (by decide) _)) ?_
  refine h_putR (pc := 12) dX2_init_12 fl_X2_12 (by decide +kernel) s_3 (by decide) (by decide) rfl rfl rfl rfl (by decide +kernel) ?_
  refine g_aload_n (pc := 15) dX2_init_15 rfl rfl ?_
  refine h_new (pc := 16) dX2_init_16 mk_X2_9 s_16 (by decide +kernel) (hz.m (by decide)) (by decide) (by decide) ?_
  refine g_dup (pc := 19) dX2_init_19 rfl ?_
  refine h_callI (pc := 20) dX2_init_20 mt_X1_init lk_X2_11 im_X1_init rfl rfl np_X1_init (by decide) (by decide) ⟨by decide, by decide⟩ (c_X1 (k := 16) (i := 12) (by decide) s_16 (A_at (by decide +kernel)) (by decide +kernel) (by decide +kernel) (hz.m (by decide)) (hz 16 (by decide) _)) ?_
  refine h_putR (pc := 23) dX2_init_23 fl_X2_16 (by decide +kernel) s_3 (by decide) (by decide) rfl rfl rfl rfl (by decide +kernel) ?_
  refine g_aload_n (pc := 26) dX2_init_26 rfl rfl ?_
  refine g_bipush (v := nI 6) (pc := 27) dX2_init_27 rfl ?_
  refine h_newS (N := 6) (pc := 29) dX2_init_29 an_X2 s_28 (by decide +kernel) (hz.m (by decide)) rfl (by decide) (by decide) (by decide) ?_
  refine h_putR (pc := 32) dX2_init_32 fl_X2_19 (by decide +kernel) s_3 (by decide) (by decide) rfl rfl rfl rfl (by decide +kernel) ?_
  refine g_aload_n (pc := 35) dX2_init_35 rfl rfl ?_
  refine h_new (pc := 36) dX2_init_36 mk_X2_23 s_29 (by decide +kernel) (hz.m (by decide)) (by decide) (by decide) ?_
  refine g_dup (pc := 39) dX2_init_39 rfl ?_
  refine h_callI (pc := 40) dX2_init_40 mt_X0_init lk_X2_25 im_X0_init rfl rfl np_X0_init (by decide) (by decide) ⟨by decide, by decide⟩ (c_X0 (hz.m (by decide))) ?_
  refine h_putR (pc := 43) dX2_init_43 fl_X2_26 (by decide +kernel) s_3 (by decide) (by decide) rfl rfl rfl rfl (by decide +kernel) ?_
  refine g_aload_n (pc := 46) dX2_init_46 rfl rfl ?_
  refine g_bipush (v := nI 60) (pc := 47) dX2_init_47 rfl ?_
  refine h_newC (N := 60) (pc := 49) dX2_init_49 s_39 (by decide +kernel) (hz.m (by decide)) rfl (by decide) (by decide) (by decide) ?_
  refine h_putR (pc := 51) dX2_init_51 fl_X2_30 (by decide +kernel) s_3 (by decide) (by decide) rfl rfl rfl rfl (by decide +kernel) ?_
  refine g_aload_n (pc := 54) dX2_init_54 rfl rfl ?_
  refine g_sipush (v := nI 128) (pc := 55) dX2_init_55 rfl ?_
  refine h_newI (N := 128) (pc := 58) dX2_init_58 s_40 (by decide +kernel) (hz.m (by decide)) rfl (by decide) (by decide) (by decide) ?_
  refine h_putR (pc := 60) dX2_init_60 fl_X2_34 (by decide +kernel) s_3 (by decide) (by decide) rfl rfl rfl rfl (by decide +kernel) ?_
  refine g_aload_n (pc := 63) dX2_init_63 rfl rfl ?_
  refine g_iconst (v := nI 4) (pc := 64) dX2_init_64 rfl ?_
  refine h_newI (N := 4) (pc := 65) dX2_init_65 s_41 (by decide +kernel) (hz.m (by decide)) rfl (by decide) (by decide) (by decide) ?_
  refine h_putR (pc := 67) dX2_init_67 fl_X2_38 (by decide +kernel) s_3 (by decide) (by decide) rfl rfl rfl rfl (by decide +kernel) ?_
  refine g_aload_n (pc := 70) dX2_init_70 rfl rfl ?_
  refine g_iconst (v := nI 0) (pc := 71) dX2_init_71 rfl ?_
  refine h_put0 (pc := 72) dX2_init_72 fl_X2_41 s_3 (by decide) (by decide) rfl rfl rfl rfl (hz 3 (by decide) _) ?_
  refine g_aload_n (pc := 75) dX2_init_75 rfl rfl ?_
  refine g_iconst (v := nI 0) (pc := 76) dX2_init_76 rfl ?_
  refine h_put0 (pc := 77) dX2_init_77 fl_X2_45 s_3 (by decide) (by decide) rfl rfl rfl rfl (hz 3 (by decide) _) ?_
  refine g_aload_n (pc := 80) dX2_init_80 rfl rfl ?_
  refine g_iconst (v := (-1)) (pc := 81) dX2_init_81 rfl ?_
  refine h_putI (pc := 82) dX2_init_82 fl_X2_48 s_3 (by decide) (by decide) rfl rfl rfl rfl ?_
  refine g_aload_n (pc := 85) dX2_init_85 rfl rfl ?_
  refine g_iconst (v := nI 0) (pc := 86) dX2_init_86 rfl ?_
  refine h_put0 (pc := 87) dX2_init_87 fl_X2_51 s_3 (by decide) (by decide) rfl rfl rfl rfl (gUp_k (by decide) (hz 3 (by decide) _)) ?_
  refine g_aload_n (pc := 90) dX2_init_90 rfl rfl ?_
  refine g_iconst (v := nI 0) (pc := 91) dX2_init_91 rfl ?_
  refine h_put0 (pc := 92) dX2_init_92 fl_X2_55 s_3 (by decide) (by decide) rfl rfl rfl rfl (gUp_k (by decide) (hz 3 (by decide) _)) ?_
  refine g_aload_n (pc := 95) dX2_init_95 rfl rfl ?_
  refine g_iconst (v := nI 0) (pc := 96) dX2_init_96 rfl ?_
  refine h_put0 (pc := 97) dX2_init_97 fl_X2_58 s_3 (by decide) (by decide) rfl rfl rfl rfl (gUp_k (by decide) (hz 3 (by decide) _)) ?_
  refine g_iconst (v := nI 0) (pc := 100) dX2_init_100 rfl ?_
  refine g_istore_n (pc := 101) dX2_init_101 rfl (Nat.le_of_ble_eq_true rfl) rfl ?_
  refine g_iload_n (pc := 102) dX2_init_102 rfl rfl ?_
  refine g_bipush (v := nI 6) (pc := 103) dX2_init_103 rfl ?_
  refine g_icmp_geN (a := 0) (tgt := 127) (pc := 105) dX2_init_105 (by decide) (by decide) (by decide) (fun c => absurd c (by decide)) (fun _ => ?_)
  refine g_aload_n (pc := 108) dX2_init_108 rfl rfl ?_
  refine g_getR (pc := 109) (q := 28) dX2_init_109 fl_X2_19 (S_at s_3 (by decide)) (by decide) rfl (by decide +kernel) ?_
  refine g_iload_n (pc := 112) dX2_init_112 rfl rfl ?_
  refine h_new (pc := 113) dX2_init_113 mk_X2_9 s_42 (by decide +kernel) (hz2.m (by decide)) (by decide) (by decide) ?_
  refine g_dup (pc := 116) dX2_init_116 rfl ?_
  refine h_callI (pc := 117) dX2_init_117 mt_X1_init lk_X2_11 im_X1_init rfl rfl np_X1_init (by decide) (by decide) ⟨by decide, by decide⟩ (c_X1 (k := 42) (i := 38) (by decide) s_42 (A_at (by decide +kernel)) (by decide +kernel) (by decide +kernel) (hz2.m (by decide)) (hz2 42 (by decide) _)) ?_
  refine h_aastore (x := 0) (pc := 120) dX2_init_120 s_28 (by decide) (by decide) s_42 (by decide) (by decide) (by decide) (by decide) (by decide +kernel) ?_
  refine g_iincN (a := 0) (pc := 121) dX2_init_121 (Nat.le_of_ble_eq_true rfl) rfl rfl ?_
  refine g_goto (tgt := 102) (pc := 124) dX2_init_124 (by decide) ?_
  refine g_iload_n (pc := 102) dX2_init_102 rfl rfl ?_
  refine g_bipush (v := nI 6) (pc := 103) dX2_init_103 rfl ?_
  refine g_icmp_geN (a := 1) (tgt := 127) (pc := 105) dX2_init_105 (by decide) (by decide) (by decide) (fun c => absurd c (by decide)) (fun _ => ?_)
  refine g_aload_n (pc := 108) dX2_init_108 rfl rfl ?_
  refine g_getR (pc := 109) (q := 28) dX2_init_109 fl_X2_19 (S_at s_3 (by decide)) (by decide) rfl (by decide +kernel) ?_
  refine g_iload_n (pc := 112) dX2_init_112 rfl rfl ?_
  refine h_new (pc := 113) dX2_init_113 mk_X2_9 s_54 (by decide +kernel) (hz2.m (by decide)) (by decide) (by decide) ?_
  refine g_dup (pc := 116) dX2_init_116 rfl ?_
  refine h_callI (pc := 117) dX2_init_117 mt_X1_init lk_X2_11 im_X1_init rfl rfl np_X1_init (by decide) (by decide) ⟨by decide, by decide⟩ (c_X1 (k := 54) (i := 50) (by decide) s_54 (A_at (by decide +kernel)) (by decide +kernel) (by decide +kernel) (hz2.m (by decide)) (hz2 54 (by decide) _)) ?_
  refine h_aastore (x := 1) (pc := 120) dX2_init_120 s_28 (by decide) (by decide) s_54 (by decide) (by decide) (by decide) (by decide) (by decide +kernel) ?_
  refine g_iincN (a := 1) (pc := 121) dX2_init_121 (Nat.le_of_ble_eq_true rfl) rfl rfl ?_
  refine g_goto (tgt := 102) (pc := 124) dX2_init_124 (by decide) ?_
  refine g_iload_n (pc := 102) dX2_init_102 rfl rfl ?_
  refine g_bipush (v := nI 6) (pc := 103) dX2_init_103 rfl ?_
  refine g_icmp_geN (a := 2) (tgt := 127) (pc := 105) dX2_init_105 (by decide) (by decide) (by decide) (fun c => absurd c (by decide)) (fun _ => ?_)
  refine g_aload_n (pc := 108) dX2_init_108 rfl rfl ?_
  refine g_getR (pc := 109) (q := 28) dX2_init_109 fl_X2_19 (S_at s_3 (by decide)) (by decide) rfl (by decide +kernel) ?_
  refine g_iload_n (pc := 112) dX2_init_112 rfl rfl ?_
  refine h_new (pc := 113) dX2_init_113 mk_X2_9 s_66 (by decide +kernel) (hz2.m (by decide)) (by decide) (by decide) ?_
  refine g_dup (pc := 116) dX2_init_116 rfl ?_
  refine h_callI (pc := 117) dX2_init_117 mt_X1_init lk_X2_11 im_X1_init rfl rfl np_X1_init (by decide) (by decide) ⟨by decide, by decide⟩ (c_X1 (k := 66) (i := 62) (by decide) s_66 (A_at (by decide +kernel)) (by decide +kernel) (by decide +kernel) (hz2.m (by decide)) (hz2 66 (by decide) _)) ?_
  refine h_aastore (x := 2) (pc := 120) dX2_init_120 s_28 (by decide) (by decide) s_66 (by decide) (by decide) (by decide) (by decide) (by decide +kernel) ?_
  refine g_iincN (a := 2) (pc := 121) dX2_init_121 (Nat.le_of_ble_eq_true rfl) rfl rfl ?_
  refine g_goto (tgt := 102) (pc := 124) dX2_init_124 (by decide) ?_
  refine g_iload_n (pc := 102) dX2_init_102 rfl rfl ?_
  refine g_bipush (v := nI 6) (pc := 103) dX2_init_103 rfl ?_
  refine g_icmp_geN (a := 3) (tgt := 127) (pc := 105) dX2_init_105 (by decide) (by decide) (by decide) (fun c => absurd c (by decide)) (fun _ => ?_)
  refine g_aload_n (pc := 108) dX2_init_108 rfl rfl ?_
  refine g_getR (pc := 109) (q := 28) dX2_init_109 fl_X2_19 (S_at s_3 (by decide)) (by decide) rfl (by decide +kernel) ?_
  refine g_iload_n (pc := 112) dX2_init_112 rfl rfl ?_
  refine h_new (pc := 113) dX2_init_113 mk_X2_9 s_78 (by decide +kernel) (hz2.m (by decide)) (by decide) (by decide) ?_
  refine g_dup (pc := 116) dX2_init_116 rfl ?_
  refine h_callI (pc := 117) dX2_init_117 mt_X1_init lk_X2_11 im_X1_init rfl rfl np_X1_init (by decide) (by decide) ⟨by decide, by decide⟩ (c_X1 (k := 78) (i := 74) (by decide) s_78 (A_at (by decide +kernel)) (by decide +kernel) (by decide +kernel) (hz2.m (by decide)) (hz2 78 (by decide) _)) ?_
  refine h_aastore (x := 3) (pc := 120) dX2_init_120 s_28 (by decide) (by decide) s_78 (by decide) (by decide) (by decide) (by decide) (by decide +kernel) ?_
  refine g_iincN (a := 3) (pc := 121) dX2_init_121 (Nat.le_of_ble_eq_true rfl) rfl rfl ?_
  refine g_goto (tgt := 102) (pc := 124) dX2_init_124 (by decide) ?_
  refine g_iload_n (pc := 102) dX2_init_102 rfl rfl ?_
  refine g_bipush (v := nI 6) (pc := 103) dX2_init_103 rfl ?_
  refine g_icmp_geN (a := 4) (tgt := 127) (pc := 105) dX2_init_105 (by decide) (by decide) (by decide) (fun c => absurd c (by decide)) (fun _ => ?_)
  refine g_aload_n (pc := 108) dX2_init_108 rfl rfl ?_
  refine g_getR (pc := 109) (q := 28) dX2_init_109 fl_X2_19 (S_at s_3 (by decide)) (by decide) rfl (by decide +kernel) ?_
  refine g_iload_n (pc := 112) dX2_init_112 rfl rfl ?_
  refine h_new (pc := 113) dX2_init_113 mk_X2_9 s_90 (by decide +kernel) (hz2.m (by decide)) (by decide) (by decide) ?_
  refine g_dup (pc := 116) dX2_init_116 rfl ?_
  refine h_callI (pc := 117) dX2_init_117 mt_X1_init lk_X2_11 im_X1_init rfl rfl np_X1_init (by decide) (by decide) ⟨by decide, by decide⟩ (c_X1 (k := 90) (i := 86) (by decide) s_90 (A_at (by decide +kernel)) (by decide +kernel) (by decide +kernel) (hz2.m (by decide)) (hz2 90 (by decide) _)) ?_
  refine h_aastore (x := 4) (pc := 120) dX2_init_120 s_28 (by decide) (by decide) s_90 (by decide) (by decide) (by decide) (by decide) (by decide +kernel) ?_
  refine g_iincN (a := 4) (pc := 121) dX2_init_121 (Nat.le_of_ble_eq_true rfl) rfl rfl ?_
  refine g_goto (tgt := 102) (pc := 124) dX2_init_124 (by decide) ?_
  refine g_iload_n (pc := 102) dX2_init_102 rfl rfl ?_
  refine g_bipush (v := nI 6) (pc := 103) dX2_init_103 rfl ?_
  refine g_icmp_geN (a := 5) (tgt := 127) (pc := 105) dX2_init_105 (by decide) (by decide) (by decide) (fun c => absurd c (by decide)) (fun _ => ?_)
  refine g_aload_n (pc := 108) dX2_init_108 rfl rfl ?_
  refine g_getR (pc := 109) (q := 28) dX2_init_109 fl_X2_19 (S_at s_3 (by decide)) (by decide) rfl (by decide +kernel) ?_
  refine g_iload_n (pc := 112) dX2_init_112 rfl rfl ?_
  refine h_new (pc := 113) dX2_init_113 mk_X2_9 s_102 (by decide +kernel) (hz2.m (by decide)) (by decide) (by decide) ?_
  refine g_dup (pc := 116) dX2_init_116 rfl ?_
  refine h_callI (pc := 117) dX2_init_117 mt_X1_init lk_X2_11 im_X1_init rfl rfl np_X1_init (by decide) (by decide) ⟨by decide, by decide⟩ (c_X1 (k := 102) (i := 98) (by decide) s_102 (A_at (by decide +kernel)) (by decide +kernel) (by decide +kernel) (hz2.m (by decide)) (hz2 102 (by decide) _)) ?_
  refine h_aastore (x := 5) (pc := 120) dX2_init_120 s_28 (by decide) (by decide) s_102 (by decide) (by decide) (by decide) (by decide) (by decide +kernel) ?_
  refine g_iincN (a := 5) (pc := 121) dX2_init_121 (Nat.le_of_ble_eq_true rfl) rfl rfl ?_
  refine g_goto (tgt := 102) (pc := 124) dX2_init_124 (by decide) ?_
  refine g_iload_n (pc := 102) dX2_init_102 rfl rfl ?_
  refine g_bipush (v := nI 6) (pc := 103) dX2_init_103 rfl ?_
  refine g_icmp_geN (a := 6) (tgt := 127) (pc := 105) dX2_init_105 (by decide) (by decide) (by decide) (fun _ => ?_) (fun c => absurd (Nat.le_refl 6) c)
  refine g_vret (pc := 127) dX2_init_127 rfl ?_
  exact ⟨rfl, rfl⟩
end
theorem mx1 : ∀ s : F6, s.val < 8 → nI (s.val * 2) = fI (fx s) := by decide +kernel
theorem mx2 : ∀ s : F6, ¬ s.val < 8 → nI (s.val * 2) ^^^ nI 19 = fI (fx s) := by decide +kernel
theorem mx3 : ∀ a b : F6, fa (fa (fa (fa 0 (if b.val.testBit 0 then a else 0)) (if b.val.testBit 1 then fx a else 0)) (if b.val.testBit 2 then fx (fx a) else 0)) (if b.val.testBit 3 then fx (fx (fx a)) else 0) = fm a b := by decide +kernel
section
variable {G : gG} {d : Nat} {h : gH} {Q : gQ}
theorem l_mul49 {a b s : F6} {p : Int32} {i : Nat} (k : gGo G YX3_multiplied d 7 [some (.int (fI a)), some (.int (fI b)), some (.int p), some (.int (fI (fx s))), some (.int (nI (i + 1)))] [] h 0 0 Q) : gGo G YX3_multiplied d 31 [some (.int (fI a)), some (.int (fI b)), some (.int p), some (.int (fI s)), some (.int (nI i))] [] h 0 0 Q := by
  have hs := s.isLt
  refine g_iload_n (pc := 31) dX3_multiplied_31 rfl rfl ?_
  refine g_bipush (v := nI 8) (pc := 32) dX3_multiplied_32 rfl ?_
  refine g_icmp_geN (a := s.val) (tgt := 43) (pc := 34) dX3_multiplied_34 (by decide) (by omega) (by decide) (fun c => ?_) (fun c => ?_)
  · refine g_iload_n (pc := 43) dX3_multiplied_43 rfl rfl ?_
    refine g_iconst (v := nI 2) (pc := 44) dX3_multiplied_44 rfl ?_
    refine g_imulN (a := s.val) (pc := 45) dX3_multiplied_45 ?_
    refine g_bipush (v := nI 19) (pc := 46) dX3_multiplied_46 rfl ?_
    refine g_ixor (pc := 48) dX3_multiplied_48 ?_
    rw [mx2 s (by omega)]
    refine g_istore_n (pc := 49) dX3_multiplied_49 rfl (Nat.le_of_ble_eq_true rfl) rfl ?_
    refine g_iincN (pc := 50) dX3_multiplied_50 (Nat.le_of_ble_eq_true rfl) rfl rfl ?_
    refine g_goto (tgt := 7) (pc := 53) dX3_multiplied_53 (by decide) ?_
    exact k
  · refine g_iload_n (pc := 37) dX3_multiplied_37 rfl rfl ?_
    refine g_iconst (v := nI 2) (pc := 38) dX3_multiplied_38 rfl ?_
    refine g_imulN (a := s.val) (pc := 39) dX3_multiplied_39 ?_
    rw [mx1 s (by omega)]
    refine g_goto (tgt := 49) (pc := 40) dX3_multiplied_40 (by decide) ?_
    refine g_istore_n (pc := 49) dX3_multiplied_49 rfl (Nat.le_of_ble_eq_true rfl) rfl ?_
    refine g_iincN (pc := 50) dX3_multiplied_50 (Nat.le_of_ble_eq_true rfl) rfl rfl ?_
    refine g_goto (tgt := 7) (pc := 53) dX3_multiplied_53 (by decide) ?_
    exact k
theorem l_mul {a b p s : F6} {i : Nat} (hi : i < 4) (k : gGo G YX3_multiplied d 7 [some (.int (fI a)), some (.int (fI b)), some (.int (fI (fa p (if b.val.testBit i then s else 0)))), some (.int (fI (fx s))), some (.int (nI (i + 1)))] [] h 0 0 Q) : gGo G YX3_multiplied d 7 [some (.int (fI a)), some (.int (fI b)), some (.int (fI p)), some (.int (fI s)), some (.int (nI i))] [] h 0 0 Q := by
  have hb := b.isLt
  by_cases hq : b.val.testBit i = true
  · rw [if_pos hq] at k
    refine g_iload (pc := 7) dX3_multiplied_7 rfl ?_
    refine g_iconst (v := nI 4) (pc := 9) dX3_multiplied_9 rfl ?_
    refine g_icmp_geN (tgt := 56) (pc := 10) dX3_multiplied_10 (by decide) (by omega) (by omega) (fun c10 => ?_) (fun c10 => ?_)
    · omega
    refine g_iload_n (pc := 13) dX3_multiplied_13 rfl rfl ?_
    refine g_iload_n (pc := 14) dX3_multiplied_14 rfl rfl ?_
    refine g_iload (pc := 15) dX3_multiplied_15 rfl ?_
    refine g_ishr (pc := 17) dX3_multiplied_17 ?_
    refine g_iconst (v := nI 1) (pc := 18) dX3_multiplied_18 rfl ?_
    refine g_iand (pc := 19) dX3_multiplied_19 ?_
    show gGo G YX3_multiplied d 20 _ [.int ((nI b.val >>> (nI i &&& 31)) &&& nI 1), _] h 0 0 Q
    rw [bt_n (by omega) (by omega), if_pos hq]
    refine g_iconst (v := nI 1) (pc := 20) dX3_multiplied_20 rfl ?_
    refine g_icmp_neN (tgt := 28) (pc := 21) dX3_multiplied_21 (by decide) (by omega) (by omega) (fun c21 => ?_) (fun c21 => ?_)
    · exact absurd rfl c21
    refine g_iload_n (pc := 24) dX3_multiplied_24 rfl rfl ?_
    refine g_goto (tgt := 29) (pc := 25) dX3_multiplied_25 (by decide) ?_
    refine g_ixor (pc := 29) dX3_multiplied_29 ?_
    rw [fI_x]
    refine g_istore_n (pc := 30) dX3_multiplied_30 rfl (Nat.le_of_ble_eq_true rfl) rfl ?_
    exact l_mul49 k
  · rw [if_neg hq] at k
    refine g_iload (pc := 7) dX3_multiplied_7 rfl ?_
    refine g_iconst (v := nI 4) (pc := 9) dX3_multiplied_9 rfl ?_
    refine g_icmp_geN (tgt := 56) (pc := 10) dX3_multiplied_10 (by decide) (by omega) (by omega) (fun c10 => ?_) (fun c10 => ?_)
    · omega
    refine g_iload_n (pc := 13) dX3_multiplied_13 rfl rfl ?_
    refine g_iload_n (pc := 14) dX3_multiplied_14 rfl rfl ?_
    refine g_iload (pc := 15) dX3_multiplied_15 rfl ?_
    refine g_ishr (pc := 17) dX3_multiplied_17 ?_
    refine g_iconst (v := nI 1) (pc := 18) dX3_multiplied_18 rfl ?_
    refine g_iand (pc := 19) dX3_multiplied_19 ?_
    show gGo G YX3_multiplied d 20 _ [.int ((nI b.val >>> (nI i &&& 31)) &&& nI 1), _] h 0 0 Q
    rw [bt_n (by omega) (by omega), if_neg hq]
    refine g_iconst (v := nI 1) (pc := 20) dX3_multiplied_20 rfl ?_
    refine g_icmp_neN (tgt := 28) (pc := 21) dX3_multiplied_21 (by decide) (by omega) (by omega) (fun c21 => ?_) (fun c21 => ?_)
    rotate_left
    · exact absurd c21 (by decide)
    refine g_iconst (v := nI 0) (pc := 28) dX3_multiplied_28 rfl ?_
    refine g_ixor (pc := 29) dX3_multiplied_29 ?_
    rw [← fI_0, fI_x]
    refine g_istore_n (pc := 30) dX3_multiplied_30 rfl (Nat.le_of_ble_eq_true rfl) rfl ?_
    exact l_mul49 k
theorem c_mul {a b : F6} : gFn G YX3_multiplied d [.int (fI a), .int (fI b)] h (.inl (some (.int (fI (fm a b))))) h 0 0 := by
  refine g_iconst (v := nI 0) (pc := 0) dX3_multiplied_0 rfl ?_
  refine g_istore_n (pc := 1) dX3_multiplied_1 rfl (Nat.le_of_ble_eq_true rfl) rfl ?_
  refine g_iload_n (pc := 2) dX3_multiplied_2 rfl rfl ?_
  refine g_istore_n (pc := 3) dX3_multiplied_3 rfl (Nat.le_of_ble_eq_true rfl) rfl ?_
  refine g_iconst (v := nI 0) (pc := 4) dX3_multiplied_4 rfl ?_
  refine g_istore (pc := 5) dX3_multiplied_5 (Nat.le_of_ble_eq_true rfl) rfl ?_
  refine l_mul (p := 0) (i := 0) (by decide) ?_
  refine l_mul (i := 1) (by decide) ?_
  refine l_mul (i := 2) (by decide) ?_
  refine l_mul (i := 3) (by decide) ?_
  rw [mx3]
  refine g_iload (pc := 7) dX3_multiplied_7 rfl ?_
  refine g_iconst (v := nI 4) (pc := 9) dX3_multiplied_9 rfl ?_
  refine g_icmp_geN (tgt := 56) (pc := 10) dX3_multiplied_10 (by decide) (by omega) (by omega) (fun c10 => ?_) (fun c10 => ?_)
  rotate_left
  · exact absurd (Nat.le_refl 4) c10
  refine g_iload_n (pc := 56) dX3_multiplied_56 rfl rfl ?_
  refine g_iret (pc := 57) dX3_multiplied_57 rfl rfl ?_
  exact ⟨rfl, rfl⟩
end
/-- the tables, as far as they are made -/
def MT (J : Nat → Nat → Int32) (c : Nat) : Prop := (∀ x y : F6, 16 * x.val + y.val < c → J 120 (16 * x.val + y.val) = fI (fm x y)) ∧ ∀ x : F6, x ≠ 0 → 16 * x.val + (fv x).val < c → J 122 x.val = fI (fv x)
theorem fm_u : ∀ a b : F6, fm a b = 1 → b = fv a := by decide +kernel
theorem fI_1 : ∀ a : F6, fI a = nI 1 → a = 1 := by decide +kernel
theorem MT_n {J : Nat → Nat → Int32} {a b : F6} (h : MT J (16 * a.val + b.val)) (hn : fm a b ≠ 1) : MT (gUp J 120 (16 * a.val + b.val) (fI (fm a b))) (16 * a.val + b.val + 1) := by
  have la := a.isLt
  have lb := b.isLt
  refine ⟨fun x y hxy => ?_, fun x hx hxy => ?_⟩
  · have lx := x.isLt
    have ly := y.isLt
    rw [gUp_c]
    by_cases e : 16 * x.val + y.val = 16 * a.val + b.val
    · rw [if_pos e]
      have e1 : a = x := Fin.ext (by omega)
      have e2 : b = y := Fin.ext (by omega)
      rw [e1, e2]
    · rw [if_neg e]; exact h.1 x y (by omega)
  · have lx := x.isLt
    have ly := (fv x).isLt
    refine gUp_a (by decide) (h.2 x hx ?_)
    rcases Nat.lt_or_ge (16 * x.val + (fv x).val) (16 * a.val + b.val) with q | q
    · exact q
    · have e1 : x = a := Fin.ext (by omega)
      have e2 : fv x = b := Fin.ext (by omega)
      rw [← e1, ← e2] at hn
      exact absurd (fm_v x hx) hn
theorem MT_y {J : Nat → Nat → Int32} {a b : F6} (h : MT J (16 * a.val + b.val)) (hn : fm a b = 1) : MT (gUp (gUp J 120 (16 * a.val + b.val) (fI (fm a b))) 122 a.val (fI b)) (16 * a.val + b.val + 1) := by
  have la := a.isLt
  have lb := b.isLt
  refine ⟨fun x y hxy => ?_, fun x hx hxy => ?_⟩
  · have lx := x.isLt
    have ly := y.isLt
    refine gUp_a (by decide) ?_
    rw [gUp_c]
    by_cases e : 16 * x.val + y.val = 16 * a.val + b.val
    · rw [if_pos e]
      have e1 : a = x := Fin.ext (by omega)
      have e2 : b = y := Fin.ext (by omega)
      rw [e1, e2]
    · rw [if_neg e]; exact h.1 x y (by omega)
  · have lx := x.isLt
    have ly := (fv x).isLt
    rw [gUp_c]
    by_cases e : x.val = a.val
    · rw [if_pos e]
      have e1 : x = a := Fin.ext e
      rw [e1, fm_u a b hn]
    · rw [if_neg e]
      exact gUp_a (by decide) (h.2 x hx (by omega))

theorem u_11 : gLt (T0l.take 126) 114 11 = some 120 := by decide +kernel
theorem u_12 : gLt (T0l.take 126) 114 12 = some 121 := by decide +kernel
theorem u_13 : gLt (T0l.take 126) 114 13 = some 122 := by decide +kernel
section
variable {G : gG} {d n : Nat} {I : Nat → Nat → Int32}
theorem l_X3_in {J : Nat → Nat → Int32} {a : Nat} {x : Option Value} {Q : gQ} (ha : a < 16) (hM : MT J (16 * a)) (kn : ∀ K, MT K (16 * (a + 1)) → Sm [120, 122] J K → gGo G YX3_init (d + 1) 144 [some (.ref 114), some (.int (nI (a + 1))), some (.int (nI 16))] [] (hg n 131 126 K) 0 0 Q) : gGo G YX3_init (d + 1) 150 [some (.ref 114), some (.int (nI a)), x] [] (hg n 131 126 J) 0 0 Q := by
  refine g_iconst (v := nI 0) (pc := 150) dX3_init_150 rfl ?_
  refine g_istore_n (pc := 151) dX3_init_151 rfl (Nat.le_of_ble_eq_true rfl) rfl ?_
  refine g_loop (σ := Nat → Nat → Int32) 16 (fun b K => MT K (16 * a + b) ∧ Sm [120, 122] J K) (fun b _ => [some (.ref 114), some (.int (nI a)), some (.int (nI b))]) (fun K => hg n 131 126 K) (fun b K hb hs kk => ?_) (fun K hs => ?_) 0 J (by decide) ⟨hM, Sm.rfl⟩
  · obtain ⟨h1, h2⟩ := hs
    refine g_iload_n (pc := 152) dX3_init_152 rfl rfl ?_
    refine g_bipush (v := nI 16) (pc := 153) dX3_init_153 rfl ?_
    refine g_icmp_geN (tgt := 202) (pc := 155) dX3_init_155 (by decide) (by omega) (by omega) (fun c155 => ?_) (fun c155 => ?_)
    · omega
    refine g_aload_n (pc := 158) dX3_init_158 rfl rfl ?_
    refine g_getR (pc := 159) dX3_init_159 fl_X3_30 (S_at s_114 (by decide)) (by decide) rfl u_11 ?_
    refine g_bipush (v := nI 16) (pc := 162) dX3_init_162 rfl ?_
    refine g_iload_n (pc := 164) dX3_init_164 rfl rfl ?_
    refine g_imulN (pc := 165) dX3_init_165 ?_
    refine g_iload_n (pc := 166) dX3_init_166 rfl rfl ?_
    refine g_iaddN (pc := 167) dX3_init_167 ?_
    refine g_iload_n (pc := 168) dX3_init_168 rfl rfl ?_
    refine g_iload_n (pc := 169) dX3_init_169 rfl rfl ?_
    refine g_fS (av := [.int _, .int _]) (pc := 170) dX3_init_170 mt_X3_multiplied lk_X3_63 sf_X3_multiplied np_X3_multiplied rfl (gc_i (gc_i gc_0)) (Nat.le_of_ble_eq_true rfl) (Nat.le_of_ble_eq_true rfl) ⟨Nat.zero_le _, Nat.zero_le _⟩ (c_mul (a := ⟨a, ha⟩) (b := ⟨b, hb⟩)) ?_
    refine g_iastoreN (pc := 173) dX3_init_173 (S_at s_120 (by decide)) (by decide) (by omega) (by decide) ?_
    refine g_aload_n (pc := 174) dX3_init_174 rfl rfl ?_
    refine g_getR (pc := 175) dX3_init_175 fl_X3_30 (S_at s_114 (by decide)) (by decide) rfl u_11 ?_
    refine g_bipush (v := nI 16) (pc := 178) dX3_init_178 rfl ?_
    refine g_iload_n (pc := 180) dX3_init_180 rfl rfl ?_
    refine g_imulN (pc := 181) dX3_init_181 ?_
    refine g_iload_n (pc := 182) dX3_init_182 rfl rfl ?_
    refine g_iaddN (pc := 183) dX3_init_183 ?_
    refine g_ialoadN (pc := 184) dX3_init_184 (S_at s_120 (by decide)) (by decide) (by omega) (by decide) (show _ = fI (fm ⟨a, ha⟩ ⟨b, hb⟩) by rw [gUp_c]; exact if_pos rfl) ?_
    refine g_iconst (v := nI 1) (pc := 185) dX3_init_185 rfl ?_
    refine g_icmp_ne (tgt := 196) (pc := 186) dX3_init_186 (by decide) (fun c186 => ?_) (fun c186 => ?_)
    · have hK : MT (gUp K 120 (16 * a + b) (fI (fm ⟨a, ha⟩ ⟨b, hb⟩))) (16 * a + b + 1) := MT_n (a := ⟨a, ha⟩) (b := ⟨b, hb⟩) h1 (fun q => c186 (by rw [q]; rfl))
      refine g_iincN (pc := 196) dX3_init_196 (Nat.le_of_ble_eq_true rfl) rfl rfl ?_
      refine g_goto (tgt := 152) (pc := 199) dX3_init_199 (by decide) ?_
      exact kk _ ⟨hK, (by repeat' first | assumption | exact Sm.rfl | exact Sc.rfl | refine Sm.up (by decide) ?_ | refine Sc.up (by decide) ?_ | refine Sc.un (by decide) ?_)⟩
    · have hK : MT (gUp (gUp K 120 (16 * a + b) (fI (fm ⟨a, ha⟩ ⟨b, hb⟩))) 122 a (nI b)) (16 * a + b + 1) := MT_y (a := ⟨a, ha⟩) (b := ⟨b, hb⟩) h1 (fI_1 _ c186)
      refine g_aload_n (pc := 189) dX3_init_189 rfl rfl ?_
      refine g_getR (pc := 190) dX3_init_190 fl_X3_36 (S_at s_114 (by decide)) (by decide) rfl u_13 ?_
      refine g_iload_n (pc := 193) dX3_init_193 rfl rfl ?_
      refine g_iload_n (pc := 194) dX3_init_194 rfl rfl ?_
      refine g_iastoreN (pc := 195) dX3_init_195 (S_at s_122 (by decide)) (by decide) (by omega) (by decide) ?_
      refine g_iincN (pc := 196) dX3_init_196 (Nat.le_of_ble_eq_true rfl) rfl rfl ?_
      refine g_goto (tgt := 152) (pc := 199) dX3_init_199 (by decide) ?_
      exact kk _ ⟨hK, (by repeat' first | assumption | exact Sm.rfl | exact Sc.rfl | refine Sm.up (by decide) ?_ | refine Sc.up (by decide) ?_ | refine Sc.un (by decide) ?_)⟩
  · obtain ⟨h1, h2⟩ := hs
    refine g_iload_n (pc := 152) dX3_init_152 rfl rfl ?_
    refine g_bipush (v := nI 16) (pc := 153) dX3_init_153 rfl ?_
    refine g_icmp_geN (tgt := 202) (pc := 155) dX3_init_155 (by decide) (by omega) (by omega) (fun c155 => ?_) (fun c155 => ?_)
    rotate_left
    · omega
    refine g_iincN (pc := 202) dX3_init_202 (Nat.le_of_ble_eq_true rfl) rfl rfl ?_
    refine g_goto (tgt := 144) (pc := 205) dX3_init_205 (by decide) ?_
    exact kn _ h1 h2
theorem c_X3 (hz : Zr I 114) : gEv G YX3_init (d + 1) [.ref 114] (hg n 115 110 I) 16 7161 (fun o g => ∃ J, (o = .inl none ∧ g = hg n 131 126 J) ∧ Tb J ∧ Sm [120, 121, 122] (gUp I 114 5 (-1)) J) := by
  have hz2 : Zr (gUp I 114 5 (-1)) 115 := Zr.u (hz.m (by decide)) (by decide)
  refine g_aload_n (pc := 0) dX3_init_0 rfl rfl ?_
  refine g_objInit (pc := 1) dX3_init_1 oi_X3 (by decide) ?_
  refine g_aload_n (pc := 4) dX3_init_4 rfl rfl ?_
  refine g_sipush (v := nI 809) (pc := 5) dX3_init_5 rfl ?_
  refine h_newI (N := 809) (pc := 8) dX3_init_8 s_115 (by decide +kernel) (hz.m (by decide)) rfl (by decide) (by decide) (by decide) ?_
  refine h_putR (pc := 10) dX3_init_10 fl_X3_9 (by decide +kernel) s_114 (by decide) (by decide) rfl rfl rfl rfl (by decide +kernel) ?_
  refine g_aload_n (pc := 13) dX3_init_13 rfl rfl ?_
  refine g_sipush (v := nI 809) (pc := 14) dX3_init_14 rfl ?_
  refine h_newI (N := 809) (pc := 17) dX3_init_17 s_116 (by decide +kernel) (hz.m (by decide)) rfl (by decide) (by decide) (by decide) ?_
  refine h_putR (pc := 19) dX3_init_19 fl_X3_13 (by decide +kernel) s_114 (by decide) (by decide) rfl rfl rfl rfl (by decide +kernel) ?_
  refine g_aload_n (pc := 22) dX3_init_22 rfl rfl ?_
  refine g_sipush (v := nI 4854) (pc := 23) dX3_init_23 rfl ?_
  refine h_newI (N := 4854) (pc := 26) dX3_init_26 s_117 (by decide +kernel) (hz.m (by decide)) rfl (by decide) (by decide) (by decide) ?_
  refine h_putR (pc := 28) dX3_init_28 fl_X3_16 (by decide +kernel) s_114 (by decide) (by decide) rfl rfl rfl rfl (by decide +kernel) ?_
  refine g_aload_n (pc := 31) dX3_init_31 rfl rfl ?_
  refine g_iconst (v := (-1)) (pc := 32) dX3_init_32 rfl ?_
  refine h_putI (pc := 33) dX3_init_33 fl_X3_19 s_114 (by decide) (by decide) rfl rfl rfl rfl ?_
  refine g_aload_n (pc := 36) dX3_init_36 rfl rfl ?_
  refine g_bipush (v := nI 60) (pc := 37) dX3_init_37 rfl ?_
  refine h_newC (N := 60) (pc := 39) dX3_init_39 s_118 (by decide +kernel) (hz2.m (by decide)) rfl (by decide) (by decide) (by decide) ?_
  refine h_putR (pc := 41) dX3_init_41 fl_X3_23 (by decide +kernel) s_114 (by decide) (by decide) rfl rfl rfl rfl (by decide +kernel) ?_
  refine g_aload_n (pc := 44) dX3_init_44 rfl rfl ?_
  refine g_sipush (v := nI 160) (pc := 45) dX3_init_45 rfl ?_
  refine h_newI (N := 160) (pc := 48) dX3_init_48 s_119 (by decide +kernel) (hz2.m (by decide)) rfl (by decide) (by decide) (by decide) ?_
  refine h_putR (pc := 50) dX3_init_50 fl_X3_27 (by decide +kernel) s_114 (by decide) (by decide) rfl rfl rfl rfl (by decide +kernel) ?_
  refine g_aload_n (pc := 53) dX3_init_53 rfl rfl ?_
  refine g_sipush (v := nI 256) (pc := 54) dX3_init_54 rfl ?_
  refine h_newI (N := 256) (pc := 57) dX3_init_57 s_120 (by decide +kernel) (hz2.m (by decide)) rfl (by decide) (by decide) (by decide) ?_
  refine h_putR (pc := 59) dX3_init_59 fl_X3_30 (by decide +kernel) s_114 (by decide) (by decide) rfl rfl rfl rfl (by decide +kernel) ?_
  refine g_aload_n (pc := 62) dX3_init_62 rfl rfl ?_
  refine g_bipush (v := nI 15) (pc := 63) dX3_init_63 rfl ?_
  refine h_newI (N := 15) (pc := 65) dX3_init_65 s_121 (by decide +kernel) (hz2.m (by decide)) rfl (by decide) (by decide) (by decide) ?_
  refine h_putR (pc := 67) dX3_init_67 fl_X3_33 (by decide +kernel) s_114 (by decide) (by decide) rfl rfl rfl rfl (by decide +kernel) ?_
  refine g_aload_n (pc := 70) dX3_init_70 rfl rfl ?_
  refine g_bipush (v := nI 16) (pc := 71) dX3_init_71 rfl ?_
  refine h_newI (N := 16) (pc := 73) dX3_init_73 s_122 (by decide +kernel) (hz2.m (by decide)) rfl (by decide) (by decide) (by decide) ?_
  refine h_putR (pc := 75) dX3_init_75 fl_X3_36 (by decide +kernel) s_114 (by decide) (by decide) rfl rfl rfl rfl (by decide +kernel) ?_
  refine g_aload_n (pc := 78) dX3_init_78 rfl rfl ?_
  refine g_bipush (v := nI 32) (pc := 79) dX3_init_79 rfl ?_
  refine h_newI (N := 32) (pc := 81) dX3_init_81 s_123 (by decide +kernel) (hz2.m (by decide)) rfl (by decide) (by decide) (by decide) ?_
  refine h_putR (pc := 83) dX3_init_83 fl_X3_39 (by decide +kernel) s_114 (by decide) (by decide) rfl rfl rfl rfl (by decide +kernel) ?_
  refine g_aload_n (pc := 86) dX3_init_86 rfl rfl ?_
  refine g_bipush (v := nI 14) (pc := 87) dX3_init_87 rfl ?_
  refine h_newI (N := 14) (pc := 89) dX3_init_89 s_124 (by decide +kernel) (hz2.m (by decide)) rfl (by decide) (by decide) (by decide) ?_
  refine h_putR (pc := 91) dX3_init_91 fl_X3_42 (by decide +kernel) s_114 (by decide) (by decide) rfl rfl rfl rfl (by decide +kernel) ?_
  refine g_aload_n (pc := 94) dX3_init_94 rfl rfl ?_
  refine g_bipush (v := nI 14) (pc := 95) dX3_init_95 rfl ?_
  refine h_newI (N := 14) (pc := 97) dX3_init_97 s_125 (by decide +kernel) (hz2.m (by decide)) rfl (by decide) (by decide) (by decide) ?_
  refine h_putR (pc := 99) dX3_init_99 fl_X3_45 (by decide +kernel) s_114 (by decide) (by decide) rfl rfl rfl rfl (by decide +kernel) ?_
  refine g_aload_n (pc := 102) dX3_init_102 rfl rfl ?_
  refine g_bipush (v := nI 14) (pc := 103) dX3_init_103 rfl ?_
  refine h_newI (N := 14) (pc := 105) dX3_init_105 s_126 (by decide +kernel) (hz2.m (by decide)) rfl (by decide) (by decide) (by decide) ?_
  refine h_putR (pc := 107) dX3_init_107 fl_X3_48 (by decide +kernel) s_114 (by decide) (by decide) rfl rfl rfl rfl (by decide +kernel) ?_
  refine g_aload_n (pc := 110) dX3_init_110 rfl rfl ?_
  refine g_bipush (v := nI 14) (pc := 111) dX3_init_111 rfl ?_
  refine h_newI (N := 14) (pc := 113) dX3_init_113 s_127 (by decide +kernel) (hz2.m (by decide)) rfl (by decide) (by decide) (by decide) ?_
  refine h_putR (pc := 115) dX3_init_115 fl_X3_51 (by decide +kernel) s_114 (by decide) (by decide) rfl rfl rfl rfl (by decide +kernel) ?_
  refine g_aload_n (pc := 118) dX3_init_118 rfl rfl ?_
  refine g_bipush (v := nI 56) (pc := 119) dX3_init_119 rfl ?_
  refine h_newI (N := 56) (pc := 121) dX3_init_121 s_128 (by decide +kernel) (hz2.m (by decide)) rfl (by decide) (by decide) (by decide) ?_
  refine h_putR (pc := 123) dX3_init_123 fl_X3_54 (by decide +kernel) s_114 (by decide) (by decide) rfl rfl rfl rfl (by decide +kernel) ?_
  refine g_aload_n (pc := 126) dX3_init_126 rfl rfl ?_
  refine g_bipush (v := nI 6) (pc := 127) dX3_init_127 rfl ?_
  refine h_newI (N := 6) (pc := 129) dX3_init_129 s_129 (by decide +kernel) (hz2.m (by decide)) rfl (by decide) (by decide) (by decide) ?_
  refine h_putR (pc := 131) dX3_init_131 fl_X3_57 (by decide +kernel) s_114 (by decide) (by decide) rfl rfl rfl rfl (by decide +kernel) ?_
  refine g_aload_n (pc := 134) dX3_init_134 rfl rfl ?_
  refine g_bipush (v := nI 32) (pc := 135) dX3_init_135 rfl ?_
  refine h_newI (N := 32) (pc := 137) dX3_init_137 s_130 (by decide +kernel) (hz2.m (by decide)) rfl (by decide) (by decide) (by decide) ?_
  refine h_putR (pc := 139) dX3_init_139 fl_X3_60 (by decide +kernel) s_114 (by decide) (by decide) rfl rfl rfl rfl (by decide +kernel) ?_
  refine g_bud (Nat.zero_le _) (Nat.zero_le _) ?_
  refine g_iconst (v := nI 0) (pc := 142) dX3_init_142 rfl ?_
  refine g_istore_n (pc := 143) dX3_init_143 rfl (Nat.le_of_ble_eq_true rfl) rfl ?_
  refine g_loop (σ := (Nat → Nat → Int32) × Option Value) 16 (fun a s => MT s.1 (16 * a) ∧ Sm [120, 122] (gUp I 114 5 (-1)) s.1 ∧ (0 < a → s.2 = some (.int (nI 16)))) (fun a s => [some (.ref 114), some (.int (nI a)), s.2]) (fun s => hg n 131 126 s.1) (fun a s ha hs kk => ?_) (fun s hs => ?_) 0 (gUp I 114 5 (-1), none) (by decide) ⟨⟨fun x y q => absurd q (Nat.not_lt_zero _), fun x _ q => absurd q (Nat.not_lt_zero _)⟩, Sm.rfl, fun q => absurd q (Nat.not_lt_zero _)⟩
  · obtain ⟨J, x⟩ := s
    obtain ⟨h1, h2, h3⟩ := hs
    refine g_iload_n (pc := 144) dX3_init_144 rfl rfl ?_
    refine g_bipush (v := nI 16) (pc := 145) dX3_init_145 rfl ?_
    refine g_icmp_geN (tgt := 208) (pc := 147) dX3_init_147 (by decide) (by omega) (by omega) (fun c147 => ?_) (fun c147 => ?_)
    · omega
    exact l_X3_in ha h1 (fun K q1 q2 => kk (K, some (.int (nI 16))) ⟨q1, h2.trans q2, fun _ => rfl⟩)
  · obtain ⟨J, x⟩ := s
    obtain ⟨h1, h2, h3⟩ := hs
    dsimp only at h1 h2 h3
    have h4 := h3 (by decide)
    subst h4
    have h2' : Sm [120, 121, 122] (gUp I 114 5 (-1)) J := h2.mono (by decide)
    refine g_iload_n (pc := 144) dX3_init_144 rfl rfl ?_
    refine g_bipush (v := nI 16) (pc := 145) dX3_init_145 rfl ?_
    refine g_icmp_geN (tgt := 208) (pc := 147) dX3_init_147 (by decide) (by omega) (by omega) (fun c147 => ?_) (fun c147 => ?_)
    rotate_left
    · omega
    refine g_aload_n (pc := 208) dX3_init_208 rfl rfl ?_
    refine g_getR (pc := 209) dX3_init_209 fl_X3_33 (S_at s_114 (by decide)) (by decide) rfl u_12 ?_
    refine g_iconst (v := nI 0) (pc := 212) dX3_init_212 rfl ?_
    refine g_iconst (v := nI 1) (pc := 213) dX3_init_213 rfl ?_
    refine g_iastoreN (pc := 214) dX3_init_214 (S_at s_121 (by decide)) (by decide) (by omega) (by decide) ?_
    refine g_iconst (v := nI 1) (pc := 215) dX3_init_215 rfl ?_
    refine g_istore_n (pc := 216) dX3_init_216 rfl (Nat.le_of_ble_eq_true rfl) rfl ?_
    show gGo G YX3_init (d + 1) 217 [some (.ref 114), some (.int (nI 1)), some (.int (nI 16))] [] (hg n 131 126 (gUp J 121 0 (nI 1))) 0 0 _
    refine g_loop (σ := Nat → Nat → Int32) 15 (fun k K => 1 ≤ k ∧ (∀ m, m < k → K 121 m = fI (fp m)) ∧ MT K 256 ∧ Sm [120, 121, 122] (gUp I 114 5 (-1)) K) (fun k _ => [some (.ref 114), some (.int (nI k)), some (.int (nI 16))]) (fun K => hg n 131 126 K) (fun k K hk hs kk => ?_) (fun K hs => ?_) 1 (gUp J 121 0 (nI 1)) (by decide) ⟨Nat.le_refl 1, fun m hm => ?_, ⟨fun x y q => gUp_a (by decide) (h1.1 x y q), fun x q1 q2 => gUp_a (by decide) (h1.2 x q1 q2)⟩, (by repeat' first | assumption | exact Sm.rfl | exact Sc.rfl | refine Sm.up (by decide) ?_ | refine Sc.up (by decide) ?_ | refine Sc.un (by decide) ?_)⟩
    · obtain ⟨v0, v1, v2, v3⟩ := hs
      refine g_iload_n (pc := 217) dX3_init_217 rfl rfl ?_
      refine g_bipush (v := nI 15) (pc := 218) dX3_init_218 rfl ?_
      refine g_icmp_geN (tgt := 247) (pc := 220) dX3_init_220 (by decide) (by omega) (by omega) (fun c220 => ?_) (fun c220 => ?_)
      · omega
      refine g_aload_n (pc := 223) dX3_init_223 rfl rfl ?_
      refine g_getR (pc := 224) dX3_init_224 fl_X3_33 (S_at s_114 (by decide)) (by decide) rfl u_12 ?_
      refine g_iload_n (pc := 227) dX3_init_227 rfl rfl ?_
      refine g_aload_n (pc := 228) dX3_init_228 rfl rfl ?_
      refine g_getR (pc := 229) dX3_init_229 fl_X3_33 (S_at s_114 (by decide)) (by decide) rfl u_12 ?_
      refine g_iload_n (pc := 232) dX3_init_232 rfl rfl ?_
      refine g_iconst (v := nI 1) (pc := 233) dX3_init_233 rfl ?_
      refine g_isubN (pc := 234) dX3_init_234 (by omega) ?_
      refine g_ialoadN (pc := 235) dX3_init_235 (S_at s_121 (by decide)) (by decide) (by omega) (by decide) (v1 (k - 1) (by omega)) ?_
      refine g_iconst (v := nI 2) (pc := 236) dX3_init_236 rfl ?_
      refine g_fS (av := [.int _, .int _]) (pc := 237) dX3_init_237 mt_X3_multiplied lk_X3_63 sf_X3_multiplied np_X3_multiplied rfl (gc_i (gc_i gc_0)) (Nat.le_of_ble_eq_true rfl) (Nat.le_of_ble_eq_true rfl) ⟨Nat.zero_le _, Nat.zero_le _⟩ (c_mul (a := fp (k - 1)) (b := 2)) ?_
      refine g_iastoreN (pc := 240) dX3_init_240 (S_at s_121 (by decide)) (by decide) (by omega) (by decide) ?_
      refine g_iincN (pc := 241) dX3_init_241 (Nat.le_of_ble_eq_true rfl) rfl rfl ?_
      refine g_goto (tgt := 217) (pc := 244) dX3_init_244 (by decide) ?_
      refine kk _ ⟨Nat.le_add_left 1 k, fun m hm => ?_, ⟨fun x y q => gUp_a (by decide) (v2.1 x y q), fun x q1 q2 => gUp_a (by decide) (v2.2 x q1 q2)⟩, (by repeat' first | assumption | exact Sm.rfl | exact Sc.rfl | refine Sm.up (by decide) ?_ | refine Sc.up (by decide) ?_ | refine Sc.un (by decide) ?_)⟩
      rw [gUp_c]
      by_cases e : m = k
      · rw [if_pos e]
        have e2 := fp_add (k - 1) 1
        rw [show k - 1 + 1 = k by omega] at e2
        rw [e, e2]
        rfl
      · rw [if_neg e]; exact v1 m (by omega)
    · obtain ⟨v0, v1, v2, v3⟩ := hs
      refine g_iload_n (pc := 217) dX3_init_217 rfl rfl ?_
      refine g_bipush (v := nI 15) (pc := 218) dX3_init_218 rfl ?_
      refine g_icmp_geN (tgt := 247) (pc := 220) dX3_init_220 (by decide) (by omega) (by omega) (fun c220 => ?_) (fun c220 => ?_)
      rotate_left
      · omega
      refine g_vret (pc := 247) dX3_init_247 rfl ?_
      exact ⟨_, ⟨rfl, rfl⟩, ⟨fun a b => v2.1 a b (by omega), v1, fun a ha => v2.2 a ha (by omega)⟩, v3⟩
    · have : m = 0 := by omega
      subst this
      rw [gUp_c, if_pos rfl]
      rfl
end

