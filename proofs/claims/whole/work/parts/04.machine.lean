/-! ===== an abstract machine with numbered cells, over the kit's rows: a method's code is walked over heaps that are
lists of kinds with their contents; every row here is one of the kit's rows, the frame and the room carried along ===== -/
def gMv : Cond → Bool
  | .castable .. => true
  | .declares _ => true
  | .fieldLinkNest .. => true
  | .methodLinkNest .. => true
  | w => goodWord w
theorem gMv_use {w : Cond} (hw : gMv w = true) {args a' : Array Value} {s U : State} (hW : s.WarmedH U.vm) (h : w.before args s = true) : w.before a' U = true := by
  cases w with
  | castable C T => exact va_Nw.use rfl (va_Nw.warmC hW (va_Nw.of rfl h))
  | declares x => exact va_Nw.use rfl (va_Nw.warmD hW (va_Nw.of rfl h))
  | fieldLinkNest a b c d e f => exact va_Nw.use rfl (va_Nw.warmF hW (va_Nw.of rfl h))
  | methodLinkNest a b c d => exact va_Nw.use rfl (va_Nw.warmM hW (va_Nw.of rfl h))
  | _ => exact word_at hW (good_of_word hw) h
/-- the words that every method is given -/
def gW : List Cond := lw_tbl.filter gMv
theorem gW_good {w : Cond} (h : w ∈ gW) : gMv w = true := (List.mem_filter.mp h).2
theorem gW_in {w : Cond} (h : w ∈ lw_tbl) (g : gMv w = true) : w ∈ gW := List.mem_filter.mpr ⟨h, g⟩
theorem va_AOA.spec {ty : FieldType} {s : State} (h : va_AOA ty s) :
    ∃ comp c k, s.vm.findClass (FieldType.array ty).toString = some comp ∧ (s.vm.classes.findIdx? fun (x : Class) => match x.kind with | .array component _ => component == comp | _ => false) = some c ∧ s.vm.classes[c]? = some k ∧ k.kind = .array comp (.array ty) ∧ s.vm.findClass ("[" ++ (FieldType.array ty).toString) = some c := by
  unfold va_AOA at h
  simp only [Cond.before, Cond.holds, Cond.value, beq_iff_eq] at h
  cases hc : s.vm.findClass (FieldType.array ty).toString with
  | none => simp [hc] at h
  | some comp =>
    simp only [hc, Option.bind_some, Option.bind_eq_some_iff, Option.map_eq_some_iff] at h
    obtain ⟨c, hi, k, hk, hb⟩ := h
    obtain ⟨hlt, hp, -⟩ := Array.findIdx?_eq_some_iff_getElem.mp hi
    have hkk : s.vm.classes[c] = k := (Array.getElem?_eq_some_iff.mp hk).2
    rw [hkk] at hp
    cases hkind : k.kind with
    | array component ty =>
      rw [hkind] at hb hp
      simp at hb hp
      exact ⟨comp, c, k, rfl, hi, hk, by rw [hkind, hp, hb.1], hb.2⟩
    | _ => rw [hkind] at hb; simp at hb
theorem va_AOA.moved {ty : FieldType} {u U : State} (hvm : u.vm.Alike U.vm) (h : va_AOA ty u) : va_AOA ty U := by
  obtain ⟨comp, c, k, h1, h2, h3, h4, h5⟩ := va_AOA.spec h
  obtain ⟨k', hk', he⟩ := hvm.2.2 _ _ h3
  have hi : (U.vm.classes.findIdx? fun (x : Class) => match x.kind with | .array component _ => component == comp | _ => false) = some c := by
    have e1 := va_idx_bare U.vm comp
    have e2 := va_idx_bare u.vm comp
    have e3 : U.vm.bare = u.vm.bare := by first | exact hvm.bare_eq | exact hvm.bare_eq.symm
    rw [e3] at e1
    exact (e1.symm.trans e2).trans h2
  have hkind : k'.kind = .array comp (.array ty) := by rw [he]; exact h4
  have f1 : U.vm.findClass (FieldType.array ty).toString = some comp := by rw [hvm.findClass]; exact h1
  have f2 : U.vm.findClass ("[" ++ (FieldType.array ty).toString) = some c := by rw [hvm.findClass]; exact h5
  unfold va_AOA
  simp only [Cond.before, Cond.holds, Cond.value, f1, Option.bind_some, beq_iff_eq]
  rw [Option.bind_eq_some_iff]
  refine ⟨c, hi, ?_⟩
  simp [hk', hkind, f2]
/-- what is fixed for a whole run: classes, array classes, the first address that may be written, three constant rows -/
abbrev gG : Type := va_G × (Nat → ClassId) × Nat × (Nat → Nat) × (Nat → Nat) × (Nat → Nat → Int32)
/-- a method: name, bytes, locals, answer, handlers -/
abbrev gY : Type := MethodName × ByteArray × Nat × Option FieldType × List (Nat × Nat × Nat × Nat)
/-- a heap: kinds (0: a constant row of so many; 1: an object of a class; 2: an array of a kind, its length), references, ints, longs, doubles -/
abbrev gH : Type := List (Nat × Nat × Nat) × (Nat → Nat → Option Nat) × (Nat → Nat → Int32) × (Nat → Nat → Int64) × (Nat → Nat → UInt64)
def gN : Nat → Nat
  | 0 => 9
  | 1 => 12
  | 2 => 13
  | _ => 31
def gTy : Nat → Nat → FieldType
  | 0 => tyX0
  | 1 => tyX1
  | 2 => tyX2
  | _ => tyX3
def gK : List vw_C := [(RX0, TX0, 9), (RX1, TX1, 12), (RX2, TX2, 13), (RX3, TX3, 31)]
def gTs (ca : Nat → ClassId) : List (ClassId × FieldType) := [(ca 0, .int), (ca 1, .char), (ca 2, .long), (ca 3, .double), (ca 4, .array .int), (ca 5, .object RX1)]
def gIsR (ci j : Nat) : Bool := match gTy ci j with
  | .object _ => true
  | .array _ => true
  | _ => false
def gUp {α : Type} (f : Nat → Nat → α) (k i : Nat) (x : α) : Nat → Nat → α := fun a b => if a = k ∧ b = i then x else f a b
def gFc (ad : List Nat) (h : gH) (k ci j : Nat) : Value := if gIsR ci j then va_rf ((h.2.1 k j).map (fun r => ad.getD r 0)) else .int (h.2.2.1 k j)
def gAr (ad : List Nat) (h : gH) (k t n : Nat) : vp_A := (n, match t with
  | 0 => .inl (h.2.2.1 k)
  | 1 => .inl (h.2.2.1 k)
  | 2 => .inr (.inl (h.2.2.2.1 k))
  | 3 => .inr (.inr (.inr (.inl (h.2.2.2.2 k))))
  | _ => .inr (.inr (.inr (.inr (fun j => (h.2.1 k j).map (fun r => ad.getD r 0))))))
def gCe (ca : Nat → ClassId) (ad : List Nat) (h : gH) (k : Nat) : va_E := match h.1[k]? with
  | some (1, ci, _) => .inr (ci, (List.range (gN ci)).map (gFc ad h k ci))
  | some (_, t, n) => .inl (ca t, gAr ad h k t n)
  | none => .inr (0, [])
def gWs (ca : Nat → ClassId) (ad : List Nat) (h : gH) : va_W := (List.range (h.1.length - 3)).map (fun i => (ad.getD (i + 3) 0, gCe ca ad h (i + 3)))
theorem gWs_at {ca : Nat → ClassId} {ad : List Nat} {h : gH} {k : Nat} (h3 : 3 ≤ k) (hl : k < h.1.length) : (gWs ca ad h)[k - 3]? = some (ad.getD k 0, gCe ca ad h k) := by
  unfold gWs
  rw [List.getElem?_map, List.getElem?_range (by omega), Option.map_some]
  rw [show k - 3 + 3 = k by omega]
theorem gWs_len {ca : Nat → ClassId} {ad : List Nat} {h : gH} : (gWs ca ad h).length = h.1.length - 3 := by simp [gWs]
/-- one cell written -/
theorem gWs_set {ca : Nat → ClassId} {ad : List Nat} {h h' : gH} {k : Nat} (hs : h'.1 = h.1) (h3 : 3 ≤ k) (hl : k < h.1.length) (ho : ∀ j, j ≠ k → gCe ca ad h' j = gCe ca ad h j) : gWs ca ad h' = (gWs ca ad h).set (k - 3) (ad.getD k 0, gCe ca ad h' k) := by
  apply List.ext_getElem?
  intro i
  by_cases hi : i = k - 3
  · subst hi
    rw [List.getElem?_set_self (by rw [gWs_len]; omega), gWs_at h3 (by rw [hs]; exact hl)]
  · rw [List.getElem?_set_ne (Ne.symm hi)]
    by_cases hb : i < h.1.length - 3
    · have e1 := gWs_at (ca := ca) (ad := ad) (h := h') (k := i + 3) (by omega) (by rw [hs]; omega)
      have e2 := gWs_at (ca := ca) (ad := ad) (h := h) (k := i + 3) (by omega) (by omega)
      rw [show i + 3 - 3 = i by omega] at e1 e2
      rw [e1, e2, ho (i + 3) (by omega)]
    · rw [List.getElem?_eq_none (by rw [gWs_len, hs]; omega), List.getElem?_eq_none (by rw [gWs_len]; omega)]

def gStr : List (Nat × String) := [(73, "character out of range"), (80, "input full"), (87, "not a text of a file"), (99, "no number or no area for the file"), (114, "no error position"), (123, "no such file"), (150, "no such number of a file"), (156, "no such file, block or position"), (165, "no such cell"), (170, "the cell belongs to no file"), (185, "difference out of range"), (191, "length or kind out of range"), (206, "no such file, block or sum"), (215, "no such file or block"), (217, "no such number of a decoding"), (231, "the block cannot be decoded"), (239, "no such file or symbol"), (253, "days out of range"), (258, "the day number would be too great"), (260, "budget out of range"), (271, "no such line"), (273, "no such number of a line"), (285, "no block is to be checked"), (290, "no such account"), (294, "no files"), (297, "the file cannot be decoded"), (299, "no such character"), (307, "no change is remembered"), (313, "nothing was saved")]
def gNc : List (String × String) := [("InterleavedArchive", "java/lang/IllegalArgumentException"), ("InterleavedArchive$State", "java/lang/IllegalArgumentException"), ("InterleavedArchive$Decoder", "java/lang/IllegalArgumentException"), ("InterleavedArchiveModel", "java/lang/IllegalArgumentException"), ("java/lang/IllegalStateException", "java/lang/IllegalArgumentException"), ("java/util/NoSuchElementException", "java/lang/IllegalArgumentException"), ("java/lang/ArrayIndexOutOfBoundsException", "java/lang/IllegalArgumentException"), ("java/lang/IndexOutOfBoundsException", "java/lang/IllegalArgumentException"), ("java/lang/UnsupportedOperationException", "java/lang/IllegalArgumentException"), ("java/lang/ArithmeticException", "java/lang/IllegalArgumentException"), ("InterleavedArchive", "java/lang/IllegalStateException"), ("InterleavedArchive$State", "java/lang/IllegalStateException"), ("InterleavedArchive$Decoder", "java/lang/IllegalStateException"), ("InterleavedArchiveModel", "java/lang/IllegalStateException"), ("java/lang/IllegalArgumentException", "java/lang/IllegalStateException"), ("java/util/NoSuchElementException", "java/lang/IllegalStateException"), ("java/lang/ArrayIndexOutOfBoundsException", "java/lang/IllegalStateException"), ("java/lang/IndexOutOfBoundsException", "java/lang/IllegalStateException"), ("java/lang/UnsupportedOperationException", "java/lang/IllegalStateException"), ("java/lang/ArithmeticException", "java/lang/IllegalStateException"), ("InterleavedArchive", "java/util/NoSuchElementException"), ("InterleavedArchive$State", "java/util/NoSuchElementException"), ("InterleavedArchive$Decoder", "java/util/NoSuchElementException"), ("InterleavedArchiveModel", "java/util/NoSuchElementException"), ("java/lang/IllegalArgumentException", "java/util/NoSuchElementException"), ("java/lang/IllegalStateException", "java/util/NoSuchElementException"), ("java/lang/ArrayIndexOutOfBoundsException", "java/util/NoSuchElementException"), ("java/lang/IndexOutOfBoundsException", "java/util/NoSuchElementException"), ("java/lang/UnsupportedOperationException", "java/util/NoSuchElementException"), ("java/lang/ArithmeticException", "java/util/NoSuchElementException"), ("InterleavedArchive", "java/lang/IndexOutOfBoundsException"), ("InterleavedArchive$State", "java/lang/IndexOutOfBoundsException"), ("InterleavedArchive$Decoder", "java/lang/IndexOutOfBoundsException"), ("InterleavedArchiveModel", "java/lang/IndexOutOfBoundsException"), ("java/lang/IllegalArgumentException", "java/lang/IndexOutOfBoundsException"), ("java/lang/IllegalStateException", "java/lang/IndexOutOfBoundsException"), ("java/util/NoSuchElementException", "java/lang/IndexOutOfBoundsException"), ("java/lang/UnsupportedOperationException", "java/lang/IndexOutOfBoundsException"), ("java/lang/ArithmeticException", "java/lang/IndexOutOfBoundsException"), ("InterleavedArchive", "java/lang/UnsupportedOperationException"), ("InterleavedArchive$State", "java/lang/UnsupportedOperationException"), ("InterleavedArchive$Decoder", "java/lang/UnsupportedOperationException"), ("InterleavedArchiveModel", "java/lang/UnsupportedOperationException"), ("java/lang/IllegalArgumentException", "java/lang/UnsupportedOperationException"), ("java/lang/IllegalStateException", "java/lang/UnsupportedOperationException"), ("java/util/NoSuchElementException", "java/lang/UnsupportedOperationException"), ("java/lang/ArrayIndexOutOfBoundsException", "java/lang/UnsupportedOperationException"), ("java/lang/IndexOutOfBoundsException", "java/lang/UnsupportedOperationException"), ("java/lang/ArithmeticException", "java/lang/UnsupportedOperationException"), ("InterleavedArchive", "java/lang/ArithmeticException"), ("InterleavedArchive$State", "java/lang/ArithmeticException"), ("InterleavedArchive$Decoder", "java/lang/ArithmeticException"), ("InterleavedArchiveModel", "java/lang/ArithmeticException"), ("java/lang/IllegalArgumentException", "java/lang/ArithmeticException"), ("java/lang/IllegalStateException", "java/lang/ArithmeticException"), ("java/util/NoSuchElementException", "java/lang/ArithmeticException"), ("java/lang/ArrayIndexOutOfBoundsException", "java/lang/ArithmeticException"), ("java/lang/IndexOutOfBoundsException", "java/lang/ArithmeticException"), ("java/lang/UnsupportedOperationException", "java/lang/ArithmeticException")]
/-- what stands outside of the numbered cells: class tables, constant rows, statics, texts -/
def gGlob (G : gG) (U : State) (H : Heap) : Prop :=
  G.2.2.1 ≤ H.size ∧ va_K G.1 gK (gTs G.2.1) U ∧ (∀ j, j < 3 → va_T .int (G.2.2.2.1 j) (G.2.2.2.2.1 j) (fun i => .int (G.2.2.2.2.2 j i)) (fun q => G.2.2.1 ≤ q) U H) ∧
  (va_Z RX2 "POWERS" "[I" (.ref (G.2.2.2.1 1)) (fun q => G.2.2.1 ≤ q) U H ∧ va_Z RX2 "LOGARITHMS" "[I" (.ref (G.2.2.2.1 2)) (fun q => G.2.2.1 ≤ q) U H) ∧
  (vx_Zq Bundle.tN "UNASSIGNED_STACK" Bundle.steD (fun q => G.2.2.1 ≤ q) U H ∧ vx_Zq Bundle.tN "SUPPRESSED_SENTINEL" Bundle.listD (fun q => G.2.2.1 ≤ q) U H) ∧
  (∀ q ∈ gStr, ∃ sa, vk_R RX2 q.1 q.2 sa U) ∧ (∀ q ∈ gNc, va_Nc q.1 q.2 U) ∧ va_AO RX1 U ∧ va_AOA .int U
theorem gGlob.moved {G : gG} {u U : State} {H H1 : Heap} (h : gGlob G u H) (hW : u.WarmedH U.vm) (hz : H.size ≤ H1.size) (hq : ∀ a : Nat, a < H.size → ¬ G.2.2.1 ≤ a → H1[a]? = H[a]?) : gGlob G U H1 := by
  obtain ⟨h1, h2, h3, ⟨h4, h4'⟩, ⟨h5, h5'⟩, h6, h7, h8, h9⟩ := h
  have hv := hW.alike
  refine ⟨Nat.le_trans h1 hz, va_K.moved hv h2, fun j hj => ((h3 j hj).moved hv).kept hq,
    ⟨va_Z.moved hv (h4.kept hq), va_Z.moved hv (h4'.kept hq)⟩, ⟨vx_Zq.moved hv (h5.kept hq), vx_Zq.moved hv (h5'.kept hq)⟩, fun q hm => ?_, fun q hm => va_Nc.moved hv (h7 q hm), h8.moved hv, h9.moved hv⟩
  obtain ⟨sa, hs⟩ := h6 q hm
  exact ⟨sa, hs.warm hW⟩
/-- the numbered cells lie in H, at the addresses ad -/
def gRep (G : gG) (ad : List Nat) (h : gH) (H : Heap) : Prop :=
  (ad.length = h.1.length ∧ 3 ≤ ad.length) ∧ (∀ j, j < 3 → ad[j]? = some (G.2.2.2.1 j) ∧ h.1[j]? = some (0, 0, G.2.2.2.2.1 j) ∧ h.2.2.1 j = G.2.2.2.2.2 j) ∧ (∀ k j r, h.2.1 k j = some r → r < ad.length) ∧
  va_P G.1 gK (gWs G.2.1 ad h) H ∧ va_D (fun q => G.2.2.1 ≤ q) (gWs G.2.1 ad h)
/-- a value where the cells lie -/
def gV (ad : List Nat) : Value → Option Value
  | .ref k => (ad[k]?).map .ref
  | v => some v
def gLoc (ad : List Nat) (al : List (Option Value)) (ls : Array Slot) (nL : Nat) : Prop := ls.size = nL ∧ lv_wf ls ∧ ∀ (i : Nat) (v : Value), al[i]? = some (some v) → ∃ w, gV ad v = some w ∧ ls[i]? = some (.val w)
/-- the law's own name: of it alone name and handlers aren't known (it has none, and is no constructor) -/
def gLaw : MethodName := ⟨"InterleavedArchiveLaw", "law", "([I)Z"⟩
/-- a method's facts: its code, its name, the words, what is fixed, its room -/
def gCtx (G : gG) (Y : gY) (d : Nat) (p : Program) (l : Launch) (R : Room) (s : State) (m : MethodId) (args : Array Value) (meth : Method) (c : Code) (mc ms : Nat) : Prop :=
  p.tables.exec = Jvm.exec ∧ c.code = Y.2.1 ∧ c.maxLocals = Y.2.2.1 ∧ s.vm.findClass Y.1.cls = some m.cls ∧ (∀ w ∈ gW, w.before args s = true) ∧ gGlob G s s.heap ∧ meth.locks = false ∧ meth.sig.returnType = Y.2.2.2.1 ∧
  l.stackTraces = false ∧ (Y.1 ≠ gLaw → meth.name = Y.1.name) ∧ (Y.1 ≠ gLaw → c.exceptionTable.toList = tableOf Y.2.2.2.2) ∧ (d + 12 ≤ R.frames ∧ 100 * d + 400 ≤ R.locals) ∧ mc ≤ R.cells ∧ ms ≤ R.slots
/-- the instruction at pc answers v -/
def gRet (Y : gY) (pc : Nat) : Option Value → Prop
  | none => decode Y.2.1 pc = .ok (.return_, 1) ∧ Y.2.2.2.1 = none
  | some (.int x) => decode Y.2.1 pc = .ok (.ireturn, 1) ∧ ∃ ty, Y.2.2.2.1 = some ty ∧ narrow ty (.int x) = .int x
  | some (.double _) => decode Y.2.1 pc = .ok (.dreturn, 1) ∧ Y.2.2.2.1 = some .double
  | _ => False
/-- the words of a throw: its class passes the text on by the entry 7, or by one of its own -/
def gThW (ik ic : Nat) (E : String) (names : List String) : Prop := ((∀ w ∈ vx_atS RX2 ic E names, w ∈ gW) ∧ ∀ w ∈ Cond.classLink RX2 ik E :: Cond.initialized E :: vx_atS RX2 ic E names, vx_ot w = true) ∨
  ∃ (Y0 : String) (r0 : List String) (ix : Nat) (rx : ByteArray), names = Y0 :: r0 ∧ (decode rx 0 = .ok (.aload_n 0, 1) ∧ decode rx 1 = .ok (.aload_n 1, 1) ∧ decode rx 2 = .ok (.invokespecial ix, 3) ∧ decode rx 5 = .ok (.return_, 1)) ∧
    (∀ w ∈ vz_atX RX2 ic E ix rx (Y0 :: r0), w ∈ gW) ∧ ∀ w ∈ Cond.classLink RX2 ik E :: Cond.initialized E :: vz_atX RX2 ic E ix rx (Y0 :: r0), vx_ot w = true
/-- at pc stands 'throw new E(a text)' -/
def gThr (Y : gY) (pc : Nat) (E : String) : Prop := Y.1.cls = RX2 ∧ Y.2.2.2.2 = [] ∧ ∃ (names : List String) (ik is ic : Nat) (tx : String),
  Bundle.fit E = true ∧ (∀ n ∈ names, Bundle.fit n = true) ∧ names.length ≤ 3 ∧ Cond.classLink RX2 ik E ∈ gW ∧ Cond.initialized E ∈ gW ∧ (is, tx) ∈ gStr ∧ gThW ik ic E names ∧
  decode Y.2.1 pc = .ok (.new ik, 3) ∧ decode Y.2.1 (pc + 3) = .ok (.dup, 1) ∧
  ((decode Y.2.1 (pc + 4) = .ok (.ldc is, 2) ∧ decode Y.2.1 (pc + 6) = .ok (.invokespecial ic, 3) ∧ decode Y.2.1 (pc + 9) = .ok (.athrow, 1)) ∨
   (decode Y.2.1 (pc + 4) = .ok (.ldc_w is, 3) ∧ decode Y.2.1 (pc + 7) = .ok (.invokespecial ic, 3) ∧ decode Y.2.1 (pc + 10) = .ok (.athrow, 1)))
abbrev gQ : Type := Option Value ⊕ String → gH → Prop
/-- what the end of a method does for QS -/
def gEnd (G : gG) (Y : gY) (p : Program) (l : Launch) (e : Env) (R : Room) (s : State) (m : MethodId) (args : Array Value) (below : List Frame) (meth : Method) (c : Code) (mc ms : Nat) (ad0 : List Nat) (QS : State → Prop) (Q : gQ) : Prop :=
  ∀ (ad : List Nat) (h : gH) (H : Heap) (locs : List Loc) (cells slots : Nat) (ls : Array Slot) (pc : Nat), ad0 <+: ad → gRep G ad h H → va_S (fun q => G.2.2.1 ≤ q) s.heap H locs → ls.size = Y.2.2.1 →
    (∀ v : Option Value, cells ≤ mc → slots ≤ ms → Q (.inl v) h → gRet Y pc v → W p l e R s m args below meth c H locs cells slots QS (F0 m pc ls v.toList)) ∧
    (∀ (E : String), cells + 1 ≤ mc → slots + 6 ≤ ms → Q (.inr E) h → gThr Y pc E → W p l e R s m args below meth c H locs cells slots QS (F0 m pc ls []))
/-- from pc on, over locals al, stack st and heap h, with kc cells of ks slots left to make: the method ends as Q says -/
def gGo (G : gG) (Y : gY) (d pc : Nat) (al : List (Option Value)) (st : List Value) (h : gH) (kc ks : Nat) (Q : gQ) : Prop :=
  ∀ (p : Program) (l : Launch) (e : Env) (R : Room) (s : State) (m : MethodId) (args : Array Value) (below : List Frame) (meth : Method) (c : Code) (QS : State → Prop) (mc ms : Nat) (ad0 : List Nat),
    gCtx G Y d p l R s m args meth c mc ms → gEnd G Y p l e R s m args below meth c mc ms ad0 QS Q →
    ∀ (ad : List Nat) (ls : Array Slot) (sk : List Value) (H : Heap) (locs : List Loc) (cells slots : Nat), ad0 <+: ad → gLoc ad al ls Y.2.2.1 → st.map (gV ad) = sk.map some → gRep G ad h H → va_S (fun q => G.2.2.1 ≤ q) s.heap H locs → cells + kc ≤ mc → slots + ks ≤ ms →
      W p l e R s m args below meth c H locs cells slots QS (F0 m pc ls sk)
/-- the entry's locals -/
def gIn (n : Nat) (a : List Value) : List (Option Value) := a.map some ++ List.replicate (n - a.length) none
/-- a call of the method -/
def gEv (G : gG) (Y : gY) (d : Nat) (a : List Value) (h : gH) (kc ks : Nat) (Q : gQ) : Prop := gGo G Y d 0 (gIn Y.2.2.1 a) [] h kc ks Q
theorem gV_int {ad : List Nat} {x : Int32} : gV ad (.int x) = some (.int x) := rfl
theorem gV_long {ad : List Nat} {x : Int64} : gV ad (.long x) = some (.long x) := rfl
theorem gV_double {ad : List Nat} {x : UInt64} : gV ad (.double x) = some (.double x) := rfl
theorem gV_ref {ad : List Nat} {k : Nat} {w : Value} (h : gV ad (.ref k) = some w) : ∃ a, ad[k]? = some a ∧ w = .ref a := by
  have h : (ad[k]?).map Value.ref = some w := h
  cases hk : ad[k]? with
  | none => rw [hk] at h; cases h
  | some a => rw [hk] at h; exact ⟨a, rfl, (Option.some.inj h).symm⟩
theorem gV_cat {ad : List Nat} {v w : Value} (h : gV ad v = some w) : w.category = v.category := by
  cases v with
  | ref k => obtain ⟨a, -, rfl⟩ := gV_ref h; rfl
  | _ => cases h; rfl
theorem gV_up {ad ad' : List Nat} {v w : Value} (h : gV ad v = some w) (hp : ad <+: ad') : gV ad' v = some w := by
  cases v with
  | ref k =>
    obtain ⟨a, ha, rfl⟩ := gV_ref h
    show (ad'[k]?).map Value.ref = _
    obtain ⟨t, rfl⟩ := hp
    rw [List.getElem?_append_left (List.getElem?_eq_some_iff.mp ha).1, ha]
    rfl
  | _ => exact h
theorem gSk_cons {ad : List Nat} {v : Value} {st sk : List Value} (h : (v :: st).map (gV ad) = sk.map some) : ∃ w sk', gV ad v = some w ∧ sk = w :: sk' ∧ st.map (gV ad) = sk'.map some := by
  cases sk with
  | nil => simp at h
  | cons w sk' =>
    simp only [List.map_cons, List.cons.injEq] at h
    exact ⟨w, sk', h.1, rfl, h.2⟩
theorem gSk_int {ad : List Nat} {x : Int32} {st sk : List Value} (h : (Value.int x :: st).map (gV ad) = sk.map some) : ∃ sk', sk = .int x :: sk' ∧ st.map (gV ad) = sk'.map some := by
  obtain ⟨w, sk', h1, h2, h3⟩ := gSk_cons h
  cases h1
  exact ⟨sk', h2, h3⟩
theorem gSk_long {ad : List Nat} {x : Int64} {st sk : List Value} (h : (Value.long x :: st).map (gV ad) = sk.map some) : ∃ sk', sk = .long x :: sk' ∧ st.map (gV ad) = sk'.map some := by
  obtain ⟨w, sk', h1, h2, h3⟩ := gSk_cons h
  cases h1
  exact ⟨sk', h2, h3⟩
theorem gSk_double {ad : List Nat} {x : UInt64} {st sk : List Value} (h : (Value.double x :: st).map (gV ad) = sk.map some) : ∃ sk', sk = .double x :: sk' ∧ st.map (gV ad) = sk'.map some := by
  obtain ⟨w, sk', h1, h2, h3⟩ := gSk_cons h
  cases h1
  exact ⟨sk', h2, h3⟩
theorem gSk_ref {ad : List Nat} {k : Nat} {st sk : List Value} (h : (Value.ref k :: st).map (gV ad) = sk.map some) : ∃ a sk', ad[k]? = some a ∧ sk = .ref a :: sk' ∧ st.map (gV ad) = sk'.map some := by
  obtain ⟨w, sk', h1, h2, h3⟩ := gSk_cons h
  obtain ⟨a, ha, rfl⟩ := gV_ref h1
  exact ⟨a, sk', ha, h2, h3⟩
theorem gSk_nil {ad : List Nat} {sk : List Value} (h : ([] : List Value).map (gV ad) = sk.map some) : sk = [] := by
  cases sk with
  | nil => rfl
  | cons w sk' => simp at h
theorem gSk_in {ad : List Nat} {v w : Value} {st sk : List Value} (h1 : gV ad v = some w) (h : st.map (gV ad) = sk.map some) : (v :: st).map (gV ad) = (w :: sk).map some := by
  simp only [List.map_cons, h1, h]
theorem gSk_cat {ad : List Nat} : ∀ {st sk : List Value}, st.map (gV ad) = sk.map some → (sk.map fun v => v.category).sum = (st.map fun v => v.category).sum
  | [], sk, h => by rw [gSk_nil h]
  | v :: st, sk, h => by
    obtain ⟨w, sk', h1, rfl, h3⟩ := gSk_cons h
    simp only [List.map_cons, List.sum_cons, gV_cat h1, gSk_cat h3]
theorem gSk_up {ad ad' : List Nat} (hp : ad <+: ad') : ∀ {st sk : List Value}, st.map (gV ad) = sk.map some → st.map (gV ad') = sk.map some
  | [], sk, h => by rw [gSk_nil h]; rfl
  | v :: st, sk, h => by
    obtain ⟨w, sk', h1, rfl, h3⟩ := gSk_cons h
    exact gSk_in (gV_up h1 hp) (gSk_up hp h3)
theorem gLoc_up {ad ad' : List Nat} {al : List (Option Value)} {ls : Array Slot} {n : Nat} (hp : ad <+: ad') (h : gLoc ad al ls n) : gLoc ad' al ls n := ⟨h.1, h.2.1, fun i v hv => by
  obtain ⟨w, h1, h2⟩ := h.2.2 i v hv
  exact ⟨w, gV_up h1 hp, h2⟩⟩
theorem gLoc_int {ad : List Nat} {al : List (Option Value)} {ls : Array Slot} {n i : Nat} {x : Int32} (h : gLoc ad al ls n) (hi : al[i]? = some (some (.int x))) : ls[i]? = some (.val (.int x)) := by
  obtain ⟨w, h1, h2⟩ := h.2.2 i _ hi
  cases h1
  exact h2
theorem gLoc_double {ad : List Nat} {al : List (Option Value)} {ls : Array Slot} {n i : Nat} {x : UInt64} (h : gLoc ad al ls n) (hi : al[i]? = some (some (.double x))) : ls[i]? = some (.val (.double x)) := by
  obtain ⟨w, h1, h2⟩ := h.2.2 i _ hi
  cases h1
  exact h2
theorem gLoc_ref {ad : List Nat} {al : List (Option Value)} {ls : Array Slot} {n i k : Nat} (h : gLoc ad al ls n) (hi : al[i]? = some (some (.ref k))) : ∃ a, ad[k]? = some a ∧ ls[i]? = some (.val (.ref a)) := by
  obtain ⟨w, h1, h2⟩ := h.2.2 i _ hi
  obtain ⟨a, ha, rfl⟩ := gV_ref h1
  exact ⟨a, ha, h2⟩
/-- the list of what is known of the locals, as the kit's rows want it -/
def gLv (ad : List Nat) (al : List (Option Value)) : List (Nat × Value) := (List.range al.length).filterMap (fun i => (al[i]?.bind id).bind (fun v => (gV ad v).map (fun w => (i, w))))
theorem gLv_mem {ad : List Nat} {al : List (Option Value)} {i : Nat} {v w : Value} (h : al[i]? = some (some v)) (hw : gV ad v = some w) : (i, w) ∈ gLv ad al := by
  unfold gLv
  refine List.mem_filterMap.mpr ⟨i, List.mem_range.mpr (List.getElem?_eq_some_iff.mp h).1, ?_⟩
  simp [h, hw]
theorem gLv_of {ad : List Nat} {al : List (Option Value)} {q : Nat × Value} (h : q ∈ gLv ad al) : ∃ v, al[q.1]? = some (some v) ∧ gV ad v = some q.2 := by
  unfold gLv at h
  obtain ⟨i, -, hi⟩ := List.mem_filterMap.mp h
  cases ha : al[i]? with
  | none => simp [ha] at hi
  | some o =>
    cases o with
    | none => simp [ha] at hi
    | some v =>
      cases hv : gV ad v with
      | none => simp [ha, hv] at hi
      | some w =>
        simp [ha, hv] at hi
        subst hi
        exact ⟨v, ha, hv⟩
theorem gLoc_has {ad : List Nat} {al : List (Option Value)} {ls : Array Slot} {n : Nat} (h : gLoc ad al ls n) : lv_has ls n (gLv ad al) := by
  refine ⟨h.1, h.2.1, fun q hq => ?_⟩
  obtain ⟨v, h1, h2⟩ := gLv_of hq
  obtain ⟨w, h3, h4⟩ := h.2.2 _ _ h1
  rw [h2] at h3
  cases h3
  exact h4
def gDw : Option Value → Option Value
  | some v => if v.category = 2 then none else some v
  | none => none
/-- the locals behind a store of one slot (what takes two slots is forgotten) -/
def gSto (al : List (Option Value)) (i : Nat) (v : Value) : List (Option Value) := (al.map gDw).set i (some v)
theorem gSto_get {al : List (Option Value)} {i j : Nat} {v u : Value} (h : (gSto al i v)[j]? = some (some u)) : (j = i ∧ u = v) ∨ (j ≠ i ∧ al[j]? = some (some u) ∧ u.category = 1) := by
  unfold gSto at h
  by_cases hj : j = i
  · subst hj
    have hl : j < (al.map gDw).length := by
      have := (List.getElem?_eq_some_iff.mp h).1
      rw [List.length_set] at this
      exact this
    rw [List.getElem?_set_self hl] at h
    exact Or.inl ⟨rfl, (Option.some.inj (Option.some.inj h)).symm⟩
  · rw [List.getElem?_set_ne (Ne.symm hj), List.getElem?_map] at h
    refine Or.inr ⟨hj, ?_⟩
    cases ha : al[j]? with
    | none => rw [ha] at h; cases h
    | some o =>
      rw [ha, Option.map_some] at h
      cases o with
      | none => cases Option.some.inj h
      | some z =>
        have h := Option.some.inj h
        unfold gDw at h
        rcases lv_cat z with hc | hc
        · simp only [hc] at h
          cases h
          exact ⟨rfl, hc⟩
        · simp only [hc] at h
          cases h
theorem gLoc_sto {ad : List Nat} {al : List (Option Value)} {ls' : Array Slot} {n i : Nat} {v w : Value} (h : lv_has ls' n ((i, w) :: (gLv ad al).filter (fun q => !(q.1 == i) && !(q.1 + 1 == i && q.2.category == 2)))) (hv : gV ad v = some w) (h2 : ∀ (j : Nat) (u : Value), al[j]? = some (some u) → ∃ z, gV ad u = some z) : gLoc ad (gSto al i v) ls' n := by
  refine ⟨h.1, h.2.1, fun j u hu => ?_⟩
  rcases gSto_get hu with ⟨rfl, rfl⟩ | ⟨hj, ha, hc⟩
  · exact ⟨w, hv, h.2.2 _ List.mem_cons_self⟩
  · obtain ⟨z, hz⟩ := h2 j u ha
    refine ⟨z, hz, h.2.2 (j, z) (List.mem_cons_of_mem _ (List.mem_filter.mpr ⟨gLv_mem ha hz, ?_⟩))⟩
    have h9 : z.category = 1 := (gV_cat hz).trans hc
    simp [hj, h9]
theorem gLoc_val {ad : List Nat} {al : List (Option Value)} {ls : Array Slot} {n : Nat} (h : gLoc ad al ls n) : ∀ (j : Nat) (u : Value), al[j]? = some (some u) → ∃ z, gV ad u = some z := fun j u hu => by
  obtain ⟨w, h1, -⟩ := h.2.2 j u hu
  exact ⟨w, h1⟩
theorem gLoc_sub {ad : List Nat} {al al' : List (Option Value)} {ls : Array Slot} {n : Nat} (h : gLoc ad al ls n) (hs : ∀ (i : Nat) (v : Value), al'[i]? = some (some v) → al[i]? = some (some v)) : gLoc ad al' ls n := ⟨h.1, h.2.1, fun i v hv => h.2.2 i v (hs i v hv)⟩

