/-! ===== scrubbing, without the machine; the reference scrubs ===== -/
def addC (C : Nat → Int32) (k : Nat) (x : Int32) : Nat → Int32 := uC C k (C k + x)
theorem addC_com {C : Nat → Int32} {k l : Nat} {x y : Int32} (h : k ≠ l) : addC (addC C k x) l y = addC (addC C l y) k x := by
  funext i
  unfold addC uC
  by_cases e1 : i = l
  · subst e1
    simp [h.symm]
  · by_cases e2 : i = k
    · subst e2
      simp [h]
    · simp [e1, e2]
theorem addC_add {C : Nat → Int32} {k : Nat} {x y : Int32} : addC (addC C k x) k y = addC C k (x + y) := by
  funext i
  unfold addC uC
  by_cases e : i = k
  · simp [e, Int32.add_assoc]
  · simp [e]
theorem addC_0 {C : Nat → Int32} {k : Nat} : addC C k (nI 0) = C := by
  funext i
  unfold addC uC
  by_cases e : i = k
  · simp [e, nI_0]
  · simp [e]
theorem addC_at {C : Nat → Int32} {k : Nat} {x : Int32} : addC C k x k = C k + x := uC_s
theorem addC_ne {C : Nat → Int32} {k l : Nat} {x : Int32} (h : l ≠ k) : addC C k x l = C l := uC_n h
theorem Cok.add {I : Nat → Nat → Int32} {C : Nat → Int32} {k : Nat} {x y : Int32} (h : Cok I C) (hk : k < 8) (e : y = I 115 (801 + k) + x) : Cok (gUp I 115 (801 + k) y) (addC C k x) := by
  rw [e, h k hk]
  exact h.up
/-- a line of the report -/
def lnS (l f b o m : Nat) (Ls : Nat → Int32) : Nat → Int32 := fun i => if i = 4 * l + 3 then nI m else if i = 4 * l + 2 then nI o else if i = 4 * l + 1 then nI b else if i = 4 * l then nI f else Ls i
/-- files, counts, what is left, lines -/
abbrev scT : Type := (Nat → Nat) × (Nat → Int32) × Nat × Nat × (Nat → Int32)
noncomputable def dmN (V : Nat → Nat) (f b : Nat) : Nat := if isD V f b = true then dcN V f b + ern V f b else 0
noncomputable def scO (V : Nat → Nat) (f b : Nat) : Nat := if isD V f b = true then (if 0 < dmN V f b then 1 else 0) else 2
noncomputable def scV (V : Nat → Nat) (f b : Nat) : Nat → Nat := if dmN V f b = 0 then uV V (10 * f + (6 + b)) (V 800) else meV (uV V (10 * f + (6 + b)) (V 800)) V f b
noncomputable def scC (V : Nat → Nat) (C : Nat → Int32) (f b : Nat) : Nat → Int32 := if dmN V f b = 0 then addC C (scO V f b) (nI 1) else addC (addC (addC (addC C (scO V f b) (nI 1)) 7 (nI (dmN V f b))) 4 (nI (dcN V f b))) 5 (nI (ern V f b))
noncomputable def scStep (s : scT) (f b : Nat) : scT := (scV s.1 f b, scC s.1 s.2.1 f b, s.2.2.1 - 1 - dmN s.1 f b, s.2.2.2.1 + 1, lnS s.2.2.2.1 f b (scO s.1 f b) (dmN s.1 f b) s.2.2.2.2)
noncomputable def scPost (s : scT) (f b : Nat) : scT := (s.1, addC s.2.1 3 (nI 1), s.2.2.1 - 1, s.2.2.2.1 + 1, lnS s.2.2.2.1 f b 3 (dmN s.1 f b) s.2.2.2.2)
noncomputable def scrF : Nat → scT → scT
  | 0, s => s
  | k + 1, s => if 0 ≤ nxI s.1 ∧ 0 < s.2.2.1 then (if s.2.2.1 - 1 < dmN s.1 ((nxI s.1).toNatClampNeg / 100) ((nxI s.1).toNatClampNeg % 100) then scPost s ((nxI s.1).toNatClampNeg / 100) ((nxI s.1).toNatClampNeg % 100) else scrF k (scStep s ((nxI s.1).toNatClampNeg / 100) ((nxI s.1).toNatClampNeg % 100))) else s
def due (V : Nat → Nat) (k : Nat) : Bool := decide (V (10 * (k / 4)) = 1 ∧ k % 4 < bl V (k / 4) ∧ V (10 * (k / 4) + (6 + k % 4)) < V 800)
def dueN (V : Nat → Nat) : Nat := cnt (due V) 32
theorem cnt_ext {p q : Nat → Bool} : ∀ {n : Nat}, (∀ k, k < n → p k = q k) → cnt p n = cnt q n
  | 0, _ => rfl
  | n + 1, h => by
    unfold cnt
    rw [cnt_ext (fun k hk => h k (by omega)), h n (by omega)]
theorem cnt_dec {p q : Nat → Bool} {i : Nat} : ∀ {n : Nat}, i < n → p i = true → q i = false → (∀ k, k < n → k ≠ i → q k = p k) → cnt p n = cnt q n + 1
  | 0, h, _, _, _ => absurd h (Nat.not_lt_zero i)
  | n + 1, h, h1, h2, hk => by
    unfold cnt
    by_cases e : i = n
    · subst e
      rw [cnt_ext (p := p) (q := q) (fun k hk9 => (hk k (by omega) (by omega)).symm), h1, h2]
      simp
    · rw [cnt_dec (show i < n by omega) h1 h2 (fun k hk9 hne => hk k (by omega) hne), hk n (by omega) (fun q9 => e q9.symm)]
      omega
theorem cnt_pos {p : Nat → Bool} {i : Nat} : ∀ {n : Nat}, i < n → p i = true → 1 ≤ cnt p n
  | 0, h, _ => absurd h (Nat.not_lt_zero i)
  | n + 1, h, h1 => by
    unfold cnt
    by_cases e : i = n
    · subst e; rw [h1]; simp
    · have := cnt_pos (show i < n by omega) h1
      omega
def nxOk (V : Nat → Nat) (r : Int32 × Nat) : Prop := (r.1 = -1 ∧ r.2 = V 800) ∨ ∃ f b, f < 8 ∧ V (10 * f) = 1 ∧ b < bl V f ∧ r.1 = nI (100 * f + b) ∧ r.2 = V (10 * f + (6 + b)) ∧ r.2 < V 800
theorem nxB_ok {V : Nat → Nat} {j : Nat} {s : Int32 × Nat} (hs : nxOk V s) (hj : j < 8) (h1 : V (10 * j) = 1) (hle : s.2 ≤ V 800) : ∀ b, b ≤ bl V j → nxOk V (nxB V j s b)
  | 0, _ => hs
  | b + 1, hb => by
    have ih := nxB_ok hs hj h1 hle b (by omega)
    by_cases e : V (10 * j + (6 + b)) < (nxB V j s b).2
    · rw [nxB_t e]
      have := nxB_le (V := V) (j := j) (s := s) b
      exact Or.inr ⟨j, b, hj, h1, hb, rfl, rfl, by show V (10 * j + (6 + b)) < V 800; omega⟩
    · rw [nxB_f e]; exact ih
theorem nxF_ok {V : Nat → Nat} : ∀ j, j ≤ 8 → nxOk V (nxF V j)
  | 0, _ => Or.inl ⟨rfl, rfl⟩
  | j + 1, hj => by
    have ih := nxF_ok (V := V) j (by omega)
    show nxOk V (nxB V j (nxF V j) (if V (10 * j) = 1 then bl V j else 0))
    by_cases h1 : V (10 * j) = 1
    · rw [if_pos h1]; exact nxB_ok ih (by omega) h1 (nxF_le j) _ (Nat.le_refl _)
    · rw [if_neg h1]; exact ih
theorem nxI_ok {V : Nat → Nat} (h : (0 : Int32) ≤ nxI V) : ∃ f b, f < 8 ∧ V (10 * f) = 1 ∧ b < bl V f ∧ nxI V = nI (100 * f + b) ∧ V (10 * f + (6 + b)) < V 800 := by
  rcases nxF_ok (V := V) 8 (Nat.le_refl _) with ⟨h1, -⟩ | ⟨f, b, h1, h2, h3, h4, h5, h6⟩
  · have e : nxI V = -1 := h1
    rw [e] at h
    exact absurd h (by decide)
  · exact ⟨f, b, h1, h2, h3, h4, by rw [← h5]; exact h6⟩
theorem scrF_t {k : Nat} {s : scT} {f b : Nat} (h0 : (0 : Int32) ≤ nxI s.1) (hl : 0 < s.2.2.1) (hx : nxI s.1 = nI (100 * f + b)) (hf : f < 8) (hb : b < 4) : scrF (k + 1) s = if s.2.2.1 - 1 < dmN s.1 f b then scPost s f b else scrF k (scStep s f b) := by
  rw [scrF, if_pos ⟨h0, hl⟩, hx, nI_clamp (by omega), show (100 * f + b) / 100 = f by omega, show (100 * f + b) % 100 = b by omega]
theorem scrF_f {k : Nat} {s : scT} (h : ¬ ((0 : Int32) ≤ nxI s.1 ∧ 0 < s.2.2.1)) : scrF k s = s := by
  cases k with
  | zero => rfl
  | succ k => rw [scrF, if_neg h]
theorem WF_chk {V : Nat → Nat} {f b : Nat} (h : WF V) (hf : f < 8) (h1 : V (10 * f) = 1) (hb : b < 4) : WF (uV V (10 * f + (6 + b)) (V 800)) := by
  have o : ∀ i k, k < 6 → uV V (10 * f + (6 + b)) (V 800) (10 * i + k) = V (10 * i + k) := fun i k hk => uV_n (by omega)
  have o0 : ∀ i, uV V (10 * f + (6 + b)) (V 800) (10 * i) = V (10 * i) := fun i => o i 0 (by decide)
  have e8 : uV V (10 * f + (6 + b)) (V 800) 800 = V 800 := uV_n (by omega)
  have hblz : ∀ i, bl (uV V (10 * f + (6 + b)) (V 800)) i = bl V i ∧ ce (uV V (10 * f + (6 + b)) (V 800)) i = ce V i := fun i => by
    have a : bl (uV V (10 * f + (6 + b)) (V 800)) i = bl V i := by unfold bl; rw [o i 1 (by decide)]
    exact ⟨a, by unfold ce sz; rw [a, o i 2 (by decide)]⟩
  refine ⟨fun i hi => ?_, fun i k hi hk hn q1 q2 => ?_, by rw [e8]; exact h.2.2.1, fun c hc => ?_⟩
  · obtain ⟨g0, g1, g2, g3, g4, g5, g6, g7, g8⟩ := h.1 i hi
    refine ⟨by rw [o0]; exact g0, by rw [o i 1 (by decide)]; exact g1, by rw [o i 2 (by decide)]; exact g2, by rw [o i 3 (by decide)]; exact g3, by rw [o i 4 (by decide)]; exact g4, by rw [o i 5 (by decide)]; exact g5, fun c hc => ?_, fun q k hk => ?_, fun q => ?_⟩
    · rw [e8]
      unfold uV
      split
      · exact Nat.le_refl _
      · exact g6 c hc
    · rw [o0] at q
      have hne : i ≠ f := fun e => by rw [e] at q; omega
      rw [uV_n (by omega)]; exact g7 q k hk
    · rw [o0] at q
      rw [o i 1 (by decide), o i 2 (by decide), o i 3 (by decide), o i 5 (by decide), (hblz i).2]
      exact g8 q
  · rw [o0] at q1 q2
    rw [o i 5 (by decide), o k 5 (by decide), (hblz i).2, (hblz k).2]
    exact h.2.1 i k hi hk hn q1 q2
  · rw [uV_n (by omega), uV_n (by omega), uV_n (by omega)]; exact h.2.2.2 c hc
theorem chk_geo {V : Nat → Nat} {f b : Nat} (hb : b < 4) (x : Nat) : bl (uV V (10 * f + (6 + b)) x) f = bl V f ∧ sz (uV V (10 * f + (6 + b)) x) f = sz V f ∧ ∀ c i, cellN (uV V (10 * f + (6 + b)) x) f c i = cellN V f c i := by
  have o : ∀ k, k < 6 → uV V (10 * f + (6 + b)) x (10 * f + k) = V (10 * f + k) := fun k hk => uV_n (by omega)
  have a1 : bl (uV V (10 * f + (6 + b)) x) f = bl V f := by unfold bl; rw [o 1 (by decide)]
  have a2 : sz (uV V (10 * f + (6 + b)) x) f = sz V f := by unfold sz; rw [o 2 (by decide)]
  exact ⟨a1, a2, fun c i => by unfold cellN grN fiN; rw [o 3 (by decide), o 5 (by decide), a1, a2]⟩
theorem meV_lo {V : Nat → Nat} {f b i : Nat} (hw : WFj V f) (h1 : V (10 * f) = 1) (hb : b < bl V f) (hb4 : b < 4) (hwu : WFj (uV V (10 * f + (6 + b)) (V 800)) f) (hi : i < 80 ∨ 800 ≤ i) : meV (uV V (10 * f + (6 + b)) (V 800)) V f b i = uV V (10 * f + (6 + b)) (V 800) i := by
  have g := chk_geo (V := V) (f := f) hb4 (V 800)
  unfold meV
  exact mnV_lo hwu (by rw [uV_n (by omega)]; exact h1) (by rw [g.1]; exact hb) hi _ (by rw [g.2.1]; exact Nat.le_refl _)
theorem WF_sc {V : Nat → Nat} {f b : Nat} (h : WF V) (hf : f < 8) (h1 : V (10 * f) = 1) (hb : b < bl V f) : WF (scV V f b) := by
  have hb4 : b < 4 := Nat.lt_of_lt_of_le hb (bl_le (h.1 f hf))
  have g := chk_geo (V := V) (f := f) hb4 (V 800)
  unfold scV
  split
  · exact WF_chk h hf h1 hb4
  · exact WF_mn (WF_chk h hf h1 hb4) hf (by rw [uV_n (by omega)]; exact h1) (by rw [g.1]; exact hb) _ (by rw [g.2.1]; exact Nat.le_refl _)
theorem scV_lo {V : Nat → Nat} {f b i : Nat} (h : WF V) (hf : f < 8) (h1 : V (10 * f) = 1) (hb : b < bl V f) (hi : i < 80 ∨ 800 ≤ i) : scV V f b i = uV V (10 * f + (6 + b)) (V 800) i := by
  have hb4 : b < 4 := Nat.lt_of_lt_of_le hb (bl_le (h.1 f hf))
  unfold scV
  split
  · rfl
  · exact meV_lo (h.1 f hf) h1 hb hb4 ((WF_chk h hf h1 hb4).1 f hf) hi
theorem due_dec {V : Nat → Nat} {f b : Nat} (h : WF V) (hf : f < 8) (h1 : V (10 * f) = 1) (hb : b < bl V f) (hd : V (10 * f + (6 + b)) < V 800) : dueN V = dueN (scV V f b) + 1 := by
  have hb4 : b < 4 := Nat.lt_of_lt_of_le hb (bl_le (h.1 f hf))
  have lo : ∀ i, i < 80 ∨ 800 ≤ i → scV V f b i = uV V (10 * f + (6 + b)) (V 800) i := fun i hi => scV_lo h hf h1 hb hi
  have e8 : scV V f b 800 = V 800 := by rw [lo 800 (Or.inr (by decide)), uV_n (by omega)]
  have eb : ∀ j, j < 8 → bl (scV V f b) j = bl V j := fun j hj => by unfold bl; rw [lo _ (Or.inl (by omega)), uV_n (by omega)]
  have e0 : ∀ j, j < 8 → scV V f b (10 * j) = V (10 * j) := fun j hj => by rw [lo _ (Or.inl (by omega)), uV_n (by omega)]
  unfold dueN
  refine cnt_dec (i := 4 * f + b) (by omega) ?_ ?_ (fun k hk hne => ?_)
  · unfold due
    rw [show (4 * f + b) / 4 = f by omega, show (4 * f + b) % 4 = b by omega]
    exact decide_eq_true ⟨h1, hb, hd⟩
  · unfold due
    rw [show (4 * f + b) / 4 = f by omega, show (4 * f + b) % 4 = b by omega]
    refine decide_eq_false (fun q => ?_)
    have := q.2.2
    rw [e8, lo _ (Or.inl (by omega)), uV_s] at this
    omega
  · unfold due
    have hk8 : k / 4 < 8 := by omega
    rw [e8, eb _ hk8, e0 _ hk8, lo _ (Or.inl (by omega)), uV_n (by omega)]

