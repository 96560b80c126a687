/-! Numbers, guarded reads. -/
theorem nI_inc1 (i : Nat) : nI i + Int32.ofInt 1 = nI (i + 1) := nI_1 i
theorem nI_addc (n c : Nat) : nI n + (OfNat.ofNat c : Int32) = nI (n + c) := nI_add n c
theorem nI_addcl (c n : Nat) : (OfNat.ofNat c : Int32) + nI n = nI (c + n) := nI_add c n
theorem nI_mulc (n c : Nat) : nI n * (OfNat.ofNat c : Int32) = nI (n * c) := pk_mul n c
theorem nI_mulcl (c n : Nat) : (OfNat.ofNat c : Int32) * nI n = nI (c * n) := pk_mul c n
theorem nI_subc {n : Nat} (c : Nat) (h : c ≤ n) : nI n - (OfNat.ofNat c : Int32) = nI (n - c) := pk_sub h
theorem clampInt (x : Int32) : x.toNatClampNeg = x.toInt.toNat := rfl
theorem toInt_nI {x : Int32} {n : Nat} (h : x.toInt = n) : x = nI n := by
  have h1 : n < 2 ^ 31 := by have := Int32.toInt_lt x; omega
  exact Int32.toInt_inj.mp (by rw [h, nI_toInt h1])
theorem nI_ofInt {x : Int32} (h0 : 0 ≤ x.toInt) : x = nI x.toInt.toNat := toInt_nI (by omega)
theorem i32_lo (x : Int32) : -2147483648 ≤ x.toInt := by have := Int32.le_toInt x; omega
theorem i32_hi (x : Int32) : x.toInt < 2147483648 := by have := Int32.toInt_lt x; omega
/-- a read with a guard -/
def gA (h : mH) (c n : Nat) (d x : Int32) : Int32 := if 0 ≤ x.toInt ∧ x.toInt < n then h c x.toInt.toNat else d
theorem gA_in {h : mH} {c n : Nat} {d : Int32} {i : Nat} (hi : i < n) (hn : n < 2 ^ 31) : gA h c n d (nI i) = h c i := by
  unfold gA
  rw [nI_toInt (by omega), if_pos (by omega)]
  rfl
/-- how many texts of its own a sign has -/
def aOf (x : Int) : Int := if (48 ≤ x ∧ x ≤ 55) ∨ x = 120 then 0 else if x = 112 ∨ x = 113 ∨ x = 114 ∨ x = 107 ∨ x = 64 then 1 else if x = 43 ∨ x = 45 ∨ x = 42 ∨ x = 109 then 2 else if x = 63 then 3 else -1
def aI (x : Int) : Int32 := if (48 ≤ x ∧ x ≤ 55) ∨ x = 120 then 0 else if x = 112 ∨ x = 113 ∨ x = 114 ∨ x = 107 ∨ x = 64 then 1 else if x = 43 ∨ x = 45 ∨ x = 42 ∨ x = 109 then 2 else if x = 63 then 3 else -1
theorem aI_toInt (x : Int) : (aI x).toInt = aOf x := by
  unfold aI aOf
  repeat' split
  all_goals rfl
def bI (b : Bool) : Int32 := if b then 1 else 0
theorem bI_01 (b : Bool) : bI b = 0 ∨ bI b = 1 := by cases b <;> simp [bI]
