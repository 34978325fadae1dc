/-! THE CLAIM OUT OF ONE WALK OF THE LAW'S BODY. Your part is whole_start (and what it stands on); all else here is the same for every law, but numbers. -/
def R_law : String := "InterleavedArchiveLaw"
def lw_P (b : Addr) (xs : List Int32) (args : Array Value) (s : State) : Prop := args = #[.ref b] ∧ s.IntsAt b xs ∧ xs.length ≤ 2048 ∧ (Jvm.Cond.and given_1 narrow_1).before args s = true
/-- what a walk over the start with the record d0 says of its end, said of the start itself -/
theorem lw_closed {s t : State} {o : Outcome} {d0 : Drawn} {L : List Loc} {k n : Nat} (hd0 : s.drawn.sameBut d0 lw_cs) (hv : ∃ v, o = .returned v) (hW : (s.setDrawn d0).WarmedH t.vm) (hs : (s.setDrawn d0).sameButNew ({ t with vm := s.vm } : State) L k n) : State.butDraws s t lw_cs (fun t1 => Framed s o t1 L k n) := by
  have h2 : t.drawn = d0 := congrArg State.drawn hs.1
  refine ⟨⟨hv, hW, State.sameButNew.setDrawn hs s.drawn⟩, ?_, by decide⟩
  rw [h2]
  exact hd0
def lw_Q (_ : Array Value) (s : State) (o : Outcome) (t : State) : Prop := o = .returned (some (.int 1)) ∧ State.butDraws s t lw_cs (fun t1 => Framed s o t1 [] room_1.cells room_1.slots)
def lw_Z (below : List Frame) (a : Array Value) (s : State) : State → Prop := fun t => ∃ o, t.status = .running ∧ Ended t below o ∧ lw_Q a s o t
/-- the law's own end, with 1 on the stack, nothing written that was there before, its room as the claim has it; d0: the record of draws at this point (at the entry s.drawn: begin with 'refine W.base ?_' and 'have hd0 := Drawn.sameBut.refl s.drawn lw_cs') -/
theorem lw_ret {p : Program} {l : Launch} {e : Env} {s : State} {m : MethodId} {below : List Frame} {meth : Method} {c : Code} {b : Nat} {d0 : Drawn} (hd0 : s.drawn.sameBut d0 lw_cs) (hx : p.tables.exec = Jvm.exec) (hb : c.code = code) (hr : meth.sig.returnType = ret) (hlocks : meth.locks = false) {pc : Nat} {H : Heap} {ls : Array Slot} (hdg : decode code pc = .ok (.ireturn, 1)) : W p l e room_1 (s.setDrawn d0) m #[Value.ref b] below meth c H [] room_1.cells room_1.slots (lw_Z below #[Value.ref b] s) (F0 m pc ls [.int 1]) := by
  intro T hT X
  obtain ⟨fs, hret, hrun, hended, hW, hframe⟩ := X.leave (v := some (.int 1)) (hlocks := hlocks) (fun h => by rw [hr] at h; cases h)
  have hmeth' : T.vm.method? m = some meth := X.method'
  refine ⟨T.setFrames fs, ?_, .returned (some (.int 1)), hrun, hended, rfl, lw_closed hd0 ⟨_, rfl⟩ hW hframe⟩
  jvm_step X.here [X.here.top, hx, hb, hdg, hmeth', hr, ret, narrow_b1]
  (try refine ⟨rfl, ?_⟩); (try refine ⟨rfl, ?_⟩)
  first | (intro acts; rw [hret _ acts rfl rfl rfl]) | rw [hret _ _ rfl rfl rfl]
  exact Steps.refl _
/-- what holds at the law's entry: the machine, the code, the tables' words (any of lw_tbl by 'hts w (by decide +kernel)'), the script of L ints xs at the cell b, what the Statement gives of the start (any of its parts by flat_of_before) -/
def lw_At (p : Program) (s : State) (m : MethodId) (meth : Method) (c : Code) (b L : Nat) (xs : Nat → Int32) : Prop :=
  p.tables.exec = Jvm.exec ∧ c.code = code ∧ meth.sig.returnType = ret ∧ c.maxLocals = 9 ∧ s.vm.findClass R_law = some m.cls ∧ (∀ w ∈ lw_tbl, w.before #[Value.ref b] s = true) ∧ va_X b L xs s s.heap ∧ b < s.heap.size ∧ meth.locks = false ∧ (Jvm.Cond.and given_1 narrow_1).before #[Value.ref b] s = true
/-! ===== from the law's walk over numbered cells to whole_start ===== -/
def gPow (j : Nat) : Int32 := ([1, 2, 4, 8, 3, 6, 12, 11, 5, 10, 7, 14, 15, 13, 9] : List Int32).getD j 0
def gLog (j : Nat) : Int32 := ([0, 0, 1, 4, 2, 8, 5, 10, 3, 14, 9, 7, 6, 13, 11, 12] : List Int32).getD j 0
def gYlaw : gY := (gLaw, code, 9, ret, [])
/-- the heap at the law's entry: the script, the two constant rows -/
def gH0 (n : Nat) (xs : Nat → Int32) : gH := ([(0, 0, n), (0, 0, 15), (0, 0, 16)], fun _ _ => none, fun k => if k = 0 then xs else if k = 1 then gPow else if k = 2 then gLog else fun _ => 0, fun _ _ => 0, fun _ _ => 0)
theorem gSt_str : ∀ q ∈ gStr, Cond.stringRef RX2 q.1 q.2 ∈ lw_tbl := by decide +kernel
theorem gSt_exa : ∀ q ∈ gStr, Cond.exactly (Term.string RX2 q.1) "java/lang/String" ∈ flatC (Jvm.Cond.and given_1 narrow_1) := by decide +kernel
theorem gSt_nc : ∀ q ∈ gNc, Cond.not (Cond.castable q.1 q.2) ∈ flatC (Jvm.Cond.and given_1 narrow_1) := by decide +kernel
theorem gSt_pow : ∀ j, j < 15 → Cond.eq (.elem (.static RX2 "POWERS" "[I") (.int (Int32.ofNat j))) (.int (gPow j)) ∈ flatC (Jvm.Cond.and given_1 narrow_1) := by decide +kernel
theorem gSt_log : ∀ j, j < 16 → Cond.eq (.elem (.static RX2 "LOGARITHMS" "[I") (.int (Int32.ofNat j))) (.int (gLog j)) ∈ flatC (Jvm.Cond.and given_1 narrow_1) := by decide +kernel
theorem gSt_rest : (Cond.arrayOf (.static RX2 "POWERS" "[I") .int ∈ flatC (Jvm.Cond.and given_1 narrow_1) ∧ Cond.eq (.length (.static RX2 "POWERS" "[I")) (.int (Int32.ofNat 15)) ∈ flatC (Jvm.Cond.and given_1 narrow_1)) ∧ (Cond.arrayOf (.static RX2 "LOGARITHMS" "[I") .int ∈ flatC (Jvm.Cond.and given_1 narrow_1) ∧ Cond.eq (.length (.static RX2 "LOGARITHMS" "[I")) (.int (Int32.ofNat 16)) ∈ flatC (Jvm.Cond.and given_1 narrow_1)) ∧
  Cond.isRef (.static Bundle.tN "UNASSIGNED_STACK" Bundle.steD) ∈ flatC (Jvm.Cond.and given_1 narrow_1) ∧ Cond.isRef (.static Bundle.tN "SUPPRESSED_SENTINEL" Bundle.listD) ∈ flatC (Jvm.Cond.and given_1 narrow_1) := by decide +kernel
theorem gSt_words : (Cond.laysStatic RX2 "POWERS" "[I" ∈ lw_tbl ∧ Cond.laysStatic RX2 "LOGARITHMS" "[I" ∈ lw_tbl) ∧ (Cond.initialized RX2 ∈ lw_tbl ∧ Cond.initialized Bundle.tN ∈ lw_tbl) ∧ (Cond.laysStatic Bundle.tN "UNASSIGNED_STACK" Bundle.steD ∈ lw_tbl ∧ Cond.laysStatic Bundle.tN "SUPPRESSED_SENTINEL" Bundle.listD ∈ lw_tbl) ∧ (Cond.arrayOver (.object RX1) ∈ lw_tbl ∧ Cond.arrayOver (.array .int) ∈ lw_tbl) ∧
  (Cond.instantiable RX0 9 ∈ lw_tbl ∧ Cond.instantiable RX1 12 ∈ lw_tbl ∧ Cond.instantiable RX2 13 ∈ lw_tbl ∧ Cond.instantiable RX3 31 ∈ lw_tbl) ∧ (Cond.arrayClass .int ∈ lw_tbl ∧ Cond.arrayClass .char ∈ lw_tbl ∧ Cond.arrayClass .long ∈ lw_tbl ∧ Cond.arrayClass .double ∈ lw_tbl) := by decide +kernel
theorem gW_sub {w : Cond} (h : w ∈ gW) : w ∈ lw_tbl := (List.mem_filter.mp h).1
/-- an array class that the tables name -/
theorem gArrP {s : State} {ty : FieldType} (h : (Cond.arrayClass ty).before #[] s = true) (hty : ∀ C, ty ≠ .object C) : ∃ cA, ArrOfT s cA ty ∧ va_RA s cA ty := by
  obtain ⟨c, k, comp, h1, h2, h3⟩ := Cond.arrayClass_spec h
  refine ⟨c, fun n z => ⟨fun k h => (by cases h), k, h2, comp, h3⟩, ?_⟩
  cases ty with
  | object C => exact absurd rfl (hty C)
  | _ => exact h1
theorem gArrS {s : State} (h : va_AO RX1 s) : ∃ cA, ArrOfT s cA (.object RX1) ∧ va_RA s cA (.object RX1) := by
  obtain ⟨comp, c, k, h1, h2, h3, h4, h5⟩ := Cond.arrayOver_spec h
  exact ⟨c, fun n z => ⟨fun k h => (by cases h), k, h3, comp, h4⟩, k, comp, h3, h4, h1, h5⟩
theorem gArrA {s : State} (h : va_AOA .int s) : ∃ cA, ArrOfT s cA (.array .int) ∧ va_RA s cA (.array .int) := by
  obtain ⟨comp, c, k, h1, h2, h3, h4, h5⟩ := va_AOA.spec h
  exact ⟨c, fun n z => ⟨fun k h => (by cases h), k, h3, comp, h4⟩, h5⟩
set_option maxHeartbeats 4000000 in
theorem gStart {p : Program} {e : Env} {s : State} {m : MethodId} {below : List Frame} {meth : Method} {c : Code} (l : Launch) (hflags : l.flags = flags0) {b L : Nat} {xs : Nat → Int32} (hL : L ≤ 2048) (C0 : lw_At p s m meth c b L xs)
    (hgo : ∀ G : gG, gGo G gYlaw 40 0 (gIn 9 [.ref 0]) [] (gH0 L xs) room_1.cells room_1.slots (fun o _ => o = .inl (some (.int 1)))) : W p l e room_1 s m #[Value.ref b] below meth c s.heap [] 0 0 (lw_Z below #[Value.ref b] s) (entryFrame m ([Value.ref b] : List Value).toArray 9) := by
  obtain ⟨hx, hb, hr, hml, hown, hts, hX, hbl, hlocks, hgv⟩ := id C0
  have hfl := flat_of_before _ hgv
  have hA : ∀ a : Nat, a < s.heap.size → ¬ (fun q : Nat => s.heap.size ≤ q) a := fun a h => Nat.not_le.mpr h
  obtain ⟨⟨q1, q2⟩, ⟨q3, q4⟩, q5, q6⟩ := gSt_rest
  obtain ⟨⟨w1, w2⟩, ⟨w3, w4⟩, ⟨w5, w6⟩, ⟨w7, w8⟩, ⟨w9, w10, w11, w12⟩, w13, w14, w15, w16⟩ := gSt_words
  obtain ⟨b1, hb1, hT1⟩ := va_Tof (N := 15) (f := fun j => .int (gPow j)) (by decide) (hfl _ q1) (va_eqt (hfl _ q2)) (fun j hj => va_eqt (hfl _ (gSt_pow j hj))) hA
  obtain ⟨b2, hb2, hT2⟩ := va_Tof (N := 16) (f := fun j => .int (gLog j)) (by decide) (hfl _ q3) (va_eqt (hfl _ q4)) (fun j hj => va_eqt (hfl _ (gSt_log j hj))) hA
  have hT0 : va_T .int b L (fun j => .int (xs j)) (fun q : Nat => s.heap.size ≤ q) s s.heap := by
    obtain ⟨scr, h1, h2, h3, h4, h5⟩ := hX
    exact ⟨scr, h1, h2, h3, Nat.le_of_eq h4.symm, congrArg Nat.toInt32 h4, h5, hA b hbl⟩
  have tl : ∀ {w : Cond}, w ∈ lw_tbl → w.before #[] s = w.before #[Value.ref b] s → w.before #[] s = true := fun h e9 => e9.trans (hts _ h)
  obtain ⟨c0, iS0, hKn0⟩ := u_known (C := RX0) (T := TX0) (N := 9) (n := 9) hts (fun w hw => gW_sub (gLays0 w hw)) (hts _ w9)
  obtain ⟨c1, iS1, hKn1⟩ := u_known (C := RX1) (T := TX1) (N := 12) (n := 12) hts (fun w hw => gW_sub (gLays1 w hw)) (hts _ w10)
  obtain ⟨c2, iS2, hKn2⟩ := u_known (C := RX2) (T := TX2) (N := 13) (n := 13) hts (fun w hw => gW_sub (gLays2 w hw)) (hts _ w11)
  obtain ⟨c3, iS3, hKn3⟩ := u_known (C := RX3) (T := TX3) (N := 31) (n := 31) hts (fun w hw => gW_sub (gLays3 w hw)) (hts _ w12)
  obtain ⟨a0, t0⟩ := gArrP (ty := .int) (hts _ w13) (fun C h => by cases h)
  obtain ⟨a1, t1⟩ := gArrP (ty := .char) (hts _ w14) (fun C h => by cases h)
  obtain ⟨a2, t2⟩ := gArrP (ty := .long) (hts _ w15) (fun C h => by cases h)
  obtain ⟨a3, t3⟩ := gArrP (ty := .double) (hts _ w16) (fun C h => by cases h)
  have hAO : va_AO RX1 s := va_AO.of (hts _ w7)
  have hAOA : va_AOA .int s := va_AOA.of (hts _ w8)
  obtain ⟨a4, t4⟩ := gArrA hAOA
  obtain ⟨a5, t5⟩ := gArrS hAO
  have hG : ∃ G : gG, gGlob G s s.heap ∧ G.2.2.1 = s.heap.size ∧ G.2.2.2.1 0 = b ∧ G.2.2.2.1 1 = b1 ∧ G.2.2.2.1 2 = b2 ∧ (∀ j, j < 3 → (gH0 L xs).1[j]? = some (0, 0, G.2.2.2.2.1 j) ∧ (gH0 L xs).2.2.1 j = G.2.2.2.2.2 j) := by
    refine ⟨((fun k => if k = 0 then c0 else if k = 1 then c1 else if k = 2 then c2 else c3, fun k => if k = 0 then iS0 else if k = 1 then iS1 else if k = 2 then iS2 else iS3), (fun k => if k = 0 then a0 else if k = 1 then a1 else if k = 2 then a2 else if k = 3 then a3 else if k = 4 then a4 else a5), s.heap.size, (fun j => if j = 0 then b else if j = 1 then b1 else b2), (fun j => if j = 0 then L else if j = 1 then 15 else 16), (gH0 L xs).2.2.1), ⟨Nat.le_refl _, ⟨?_, ?_⟩, ?_, ⟨va_Zof (hts _ w1) (hts _ w3) hb1 hA, va_Zof (hts _ w2) (hts _ w3) hb2 hA⟩, ⟨vx_Zqof (hts _ w5) (hts _ w4) (hfl _ q5) hA, vx_Zqof (hts _ w6) (hts _ w4) (hfl _ q6) hA⟩, ?_, ?_, hAO, hAOA⟩, rfl, rfl, rfl, rfl, ?_⟩
    · intro k q hq
      match k, hq with
      | 0, hq => cases hq; exact hKn0
      | 1, hq => cases hq; exact hKn1
      | 2, hq => cases hq; exact hKn2
      | 3, hq => cases hq; exact hKn3
      | k + 4, hq => simp [gK] at hq
    · intro k q hq
      match k, hq with
      | 0, hq => cases hq; exact t0
      | 1, hq => cases hq; exact t1
      | 2, hq => cases hq; exact t2
      | 3, hq => cases hq; exact t3
      | 4, hq => cases hq; exact t4
      | 5, hq => cases hq; exact t5
      | k + 6, hq => simp [gTs] at hq
    · intro j hj
      match j, hj with
      | 0, _ => exact hT0
      | 1, _ => exact hT1
      | 2, _ => exact hT2
    · intro q hq
      obtain ⟨a, c9, cA, kA, e1, -⟩ := Cond.exactly_spec (args := #[Value.ref b]) (first := s) (o := none) (s := s) (idx := []) (hfl _ (gSt_exa q hq))
      exact ⟨a, vk_R.of (hts _ (gSt_str q hq)) e1⟩
    · intro q hq
      exact va_Nc.of (hfl _ (gSt_nc q hq))
    · intro j hj
      match j, hj with
      | 0, _ => exact ⟨rfl, rfl⟩
      | 1, _ => exact ⟨rfl, rfl⟩
      | 2, _ => exact ⟨rfl, rfl⟩
  obtain ⟨G, hG, hB, e0, e1, e2, eh⟩ := hG
  have hl : l.stackTraces = false := by
    unfold Launch.stackTraces
    rw [hflags]
    decide
  have C : gCtx G gYlaw 40 p l room_1 s m #[Value.ref b] meth c room_1.cells room_1.slots :=
    ⟨hx, hb, hml, hown, fun w hw => hts w (gW_sub hw), hG, hlocks, hr, hl, fun h => absurd rfl h, fun h => absurd rfl h, ⟨by decide, by decide⟩, Nat.le_refl _, Nat.le_refl _⟩
  have E : gEnd G gYlaw p l e room_1 s m #[Value.ref b] below meth c room_1.cells room_1.slots [b, b1, b2] (lw_Z below #[Value.ref b] s) (fun o _ => o = .inl (some (.int 1))) := by
    intro ad h H locs cells slots ls pc hp hR hV hz
    refine ⟨fun v hc hk hq hret => ?_, fun X hc hk hq ht => by cases hq⟩
    cases hq
    refine W.widen hc hk (va_forget (fun q hq => by rw [← hB]; exact hV.2.2 q hq) ?_)
    exact lw_ret (d0 := s.drawn) (Drawn.sameBut.refl s.drawn lw_cs) hx hb hr hlocks hret.1
  have hR : gRep G [b, b1, b2] (gH0 L xs) s.heap := by
    refine ⟨⟨rfl, Nat.le_refl _⟩, fun j hj => ⟨?_, (eh j hj).1, (eh j hj).2⟩, (fun k j r hr => by cases hr), (fun k q hq => by simp [gWs, gH0] at hq), (fun i j p q hi => by simp [gWs, gH0] at hi), (fun k q hq => by simp [gWs, gH0] at hq)⟩
    match j, hj with
    | 0, _ => rw [e0]; rfl
    | 1, _ => rw [e1]; rfl
    | 2, _ => rw [e2]; rfl
  rw [lg_entry_eq]
  exact hgo G p l e room_1 s m #[Value.ref b] below meth c _ room_1.cells room_1.slots [b, b1, b2] C E [b, b1, b2] _ [] s.heap [] 0 0 (List.prefix_refl _) (gLoc_in (av := [.ref 0]) (aw := [.ref b]) rfl (fun v hv => by rw [List.mem_singleton.mp hv]; rfl) (by decide)) rfl hR va_S.rf (by decide) (by decide)
