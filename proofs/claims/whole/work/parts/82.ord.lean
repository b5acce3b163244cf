def u_cO (L : Nat) : Bool := (List.range (10 ^ L)).all fun o => decide (p_io L o = y_io L o) && (decide (p_io L o ≠ 1) || ((List.range L).all fun i => decide (p_li L o i < L)) && (List.range L).all fun l => (List.range L).any fun i => decide (p_li L o i = l))
theorem u_cO_0 : u_cO 0 = true := by decide +kernel
theorem u_cO_1 : u_cO 1 = true := by decide +kernel
theorem u_cO_2 : u_cO 2 = true := by decide +kernel
theorem u_cO_3 : u_cO 3 = true := by decide +kernel
def u_cD : Bool := (List.range 10).all fun a => (List.range 10).all fun b => (List.range 10).all fun c => (List.range 10).all fun d => (((2 ^ a ||| 2 ^ b) ||| 2 ^ c) ||| 2 ^ d == ((2 ^ d ||| 2 ^ c) ||| 2 ^ b) ||| 2 ^ a) && ((((2 ^ a ||| 2 ^ b) ||| 2 ^ c) ||| 2 ^ d != 15) || (Nat.blt a 4 && Nat.blt b 4 && Nat.blt c 4 && Nat.blt d 4 && (List.range 4).all fun l => (l == a || l == b || l == c || l == d)))
theorem u_cD_t : u_cD = true := by decide +kernel
theorem u_bit : ∀ a : Nat, a < 10 → (Int32.ofInt 1 <<< (Int32.ofInt (a : Int) &&& 31)).toInt = ((2 ^ a : Nat) : Int) := by decide
theorem u_or2 {x y : Nat} (hx : x < 1024) (hy : y < 1024) : (Int32.ofInt (x : Int) ||| Int32.ofInt (y : Int)).toInt = ((x ||| y : Nat) : Int) := by
  have hxy : x ||| y < 1024 := Nat.or_lt_two_pow (n := 10) hx hy
  have e : Int32.ofInt (x : Int) ||| Int32.ofInt (y : Int) = Int32.ofNat (x ||| y) := by
    rw [Int32.ofInt_eq_ofNat, Int32.ofInt_eq_ofNat]
    apply Int32.toBitVec.inj
    apply BitVec.eq_of_toNat_eq
    show ((BitVec.ofNat 32 x) ||| (BitVec.ofNat 32 y)).toNat = (BitVec.ofNat 32 (x ||| y)).toNat
    rw [BitVec.toNat_or, BitVec.toNat_ofNat, BitVec.toNat_ofNat, BitVec.toNat_ofNat, Nat.mod_eq_of_lt (by omega), Nat.mod_eq_of_lt (by omega), Nat.mod_eq_of_lt (by omega)]
  rw [e, Int32.toInt_ofNat_of_lt (by omega)]
