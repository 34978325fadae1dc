/-! ===== the next set of as many places ===== -/
def allF (p : Nat → Bool) : Nat → Bool
  | 0 => true
  | k + 1 => p k && allF p k
theorem allF_of {p : Nat → Bool} : ∀ {n : Nat}, allF p n = true → ∀ k, k < n → p k = true
  | 0, _, k, hk => absurd hk (Nat.not_lt_zero k)
  | n + 1, h, k, hk => by
    unfold allF at h
    rw [Bool.and_eq_true] at h
    by_cases e : k = n
    · rw [e]; exact h.1
    · exact allF_of h.2 k (by omega)
/-- bits, quickly -/
def pcF (x : Nat) : Nat :=
  let a := (x &&& 0x1555) + ((x >>> 1) &&& 0x1555)
  let b := (a &&& 0x3333) + ((a >>> 2) &&& 0x3333)
  let c := (b &&& 0x0F0F) + ((b >>> 4) &&& 0x0F0F)
  (c &&& 0xFF) + (c >>> 8)
def bn (S : Nat) : Nat :=
  let low := S - (S &&& (S - 1))
  let up := S + low
  (((up ^^^ S) >>> 2) / low) ||| up
def bnI (x : Int32) : Int32 :=
  let low := x &&& (-x)
  let up := x + low
  ((up ^^^ x) >>> (nI 2 &&& 31)) / low ||| up
theorem pc_ok0 : allF (fun S => pcF S == nS S 14) 16384 = true := by decide +kernel

