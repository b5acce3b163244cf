theorem gj_eq6 {a b : Int} (ha : gj_in6 a) (hb : gj_in6 b) : Int64.ofInt a = Int64.ofInt b ↔ a = b := by
  rw [← Int64.toInt_inj, gj_tl ha, gj_tl hb]
theorem gj_lt6 {a b : Int} (ha : gj_in6 a) (hb : gj_in6 b) : Int64.ofInt a < Int64.ofInt b ↔ a < b := by
  rw [Int64.lt_iff_toInt_lt, gj_tl ha, gj_tl hb]
theorem gj_06 : Int64.ofInt 0 = 0 := by decide
section GLn
variable {xt : Nat × (Nat → Int)} {Y : gj_Y} {S : List gj_H} {k n pc : Nat} {lv lv' : List (Option gj_V)} {st : List gj_V} {M : gj_M} {Q : Option gj_V → List gj_H → gj_M → Prop}
theorem gj_ladd {a b : Int} (np : Nat) (hd : decode Y.2.1 pc = .ok (.ladd, 1)) (hp : pc + 1 = np) (kk : gj_G xt Y S k n np lv (gL (a + b) :: st) M Q) : gj_G xt Y S k n pc lv (gL b :: gL a :: st) M Q := by
  subst hp
  intro p l e s m args below meth c H locs ls ad cA cZ D A Z hC hW hL hR
  have hk := kk p l e s m args below meth c H locs ls ad cA cZ D A Z hC hW hL hR
  refine lv_ladd hC.1 hC.2.1 hd ?_
  rw [← Int64.ofInt_add]
  exact hk
theorem gj_lsub {a b : Int} (np : Nat) (hd : decode Y.2.1 pc = .ok (.lsub, 1)) (hp : pc + 1 = np) (kk : gj_G xt Y S k n np lv (gL (a - b) :: st) M Q) : gj_G xt Y S k n pc lv (gL b :: gL a :: st) M Q := by
  subst hp
  intro p l e s m args below meth c H locs ls ad cA cZ D A Z hC hW hL hR
  have hk := kk p l e s m args below meth c H locs ls ad cA cZ D A Z hC hW hL hR
  refine lv_lsub hC.1 hC.2.1 hd ?_
  rw [← Int64.ofInt_sub]
  exact hk
theorem gj_lmul {a b : Int} (np : Nat) (hd : decode Y.2.1 pc = .ok (.lmul, 1)) (hp : pc + 1 = np) (kk : gj_G xt Y S k n np lv (gL (a * b) :: st) M Q) : gj_G xt Y S k n pc lv (gL b :: gL a :: st) M Q := by
  subst hp
  intro p l e s m args below meth c H locs ls ad cA cZ D A Z hC hW hL hR
  have hk := kk p l e s m args below meth c H locs ls ad cA cZ D A Z hC hW hL hR
  refine lv_lmul hC.1 hC.2.1 hd ?_
  rw [← Int64.ofInt_mul]
  exact hk
theorem gj_ld_eq {a b : Int} (ha : 0 ≤ a ∧ a ≤ 9223372036854775807) (hb : 0 < b ∧ b ≤ 9223372036854775807) : Int64.ofInt a / Int64.ofInt b = Int64.ofInt (a / b) := by
  have h1 : 0 ≤ a / b := Int.ediv_nonneg ha.1 (by omega)
  have h2 : a / b ≤ a := Int.ediv_le_self _ ha.1
  rw [← Int64.toInt_inj, Int64.toInt_div, gj_tl ⟨by omega, by omega⟩, gj_tl ⟨by omega, by omega⟩, gj_tl ⟨by omega, by omega⟩, Int.tdiv_eq_ediv_of_nonneg ha.1]
  exact Int.bmod_eq_of_le (by omega) (by omega)
theorem gj_ldiv {a b : Int} (np : Nat) (hd : decode Y.2.1 pc = .ok (.ldiv, 1)) (hp : pc + 1 = np) (ha : 0 ≤ a ∧ a ≤ 9223372036854775807) (hb : 0 < b ∧ b ≤ 9223372036854775807) (kk : gj_G xt Y S k n np lv (gL (a / b) :: st) M Q) : gj_G xt Y S k n pc lv (gL b :: gL a :: st) M Q := by
  subst hp
  intro p l e s m args below meth c H locs ls ad cA cZ D A Z hC hW hL hR
  have hk := kk p l e s m args below meth c H locs ls ad cA cZ D A Z hC hW hL hR
  have hne : ¬ Int64.ofInt b = 0 := by rw [← gj_06, gj_eq6 ⟨by omega, by omega⟩ ⟨by omega, by omega⟩]; omega
  refine lv_ldiv hC.1 hC.2.1 hd hne ?_
  rw [gj_ld_eq ha hb]
  exact hk
theorem gj_lrem {a b : Int} (np : Nat) (hd : decode Y.2.1 pc = .ok (.lrem, 1)) (hp : pc + 1 = np) (ha : 0 ≤ a ∧ a ≤ 9223372036854775807) (hb : 0 < b ∧ b ≤ 9223372036854775807) (kk : gj_G xt Y S k n np lv (gL (a % b) :: st) M Q) : gj_G xt Y S k n pc lv (gL b :: gL a :: st) M Q := by
  subst hp
  intro p l e s m args below meth c H locs ls ad cA cZ D A Z hC hW hL hR
  have hk := kk p l e s m args below meth c H locs ls ad cA cZ D A Z hC hW hL hR
  have hne : ¬ Int64.ofInt b = 0 := by rw [← gj_06, gj_eq6 ⟨by omega, by omega⟩ ⟨by omega, by omega⟩]; omega
  refine lv_lrem hC.1 hC.2.1 hd hne ?_
  have e2 : a % b = a - a / b * b := by rw [Int.emod_def, Int.mul_comm]
  rw [gj_ld_eq ha hb, ← Int64.ofInt_mul, ← Int64.ofInt_sub, ← e2]
  exact hk
theorem gj_land {a b : Int} (np : Nat) (hd : decode Y.2.1 pc = .ok (.land, 1)) (hp : pc + 1 = np) (kk : gj_G xt Y S k n np lv (gL (Int64.ofInt a &&& Int64.ofInt b).toInt :: st) M Q) : gj_G xt Y S k n pc lv (gL b :: gL a :: st) M Q := by
  subst hp
  intro p l e s m args below meth c H locs ls ad cA cZ D A Z hC hW hL hR
  have hk := kk p l e s m args below meth c H locs ls ad cA cZ D A Z hC hW hL hR
  refine lv_land hC.1 hC.2.1 hd ?_
  rw [← Int64.ofInt_toInt (Int64.ofInt a &&& Int64.ofInt b)]
  exact hk
theorem gj_lor {a b : Int} (np : Nat) (hd : decode Y.2.1 pc = .ok (.lor, 1)) (hp : pc + 1 = np) (kk : gj_G xt Y S k n np lv (gL (Int64.ofInt a ||| Int64.ofInt b).toInt :: st) M Q) : gj_G xt Y S k n pc lv (gL b :: gL a :: st) M Q := by
  subst hp
  intro p l e s m args below meth c H locs ls ad cA cZ D A Z hC hW hL hR
  have hk := kk p l e s m args below meth c H locs ls ad cA cZ D A Z hC hW hL hR
  refine lv_lor hC.1 hC.2.1 hd ?_
  rw [← Int64.ofInt_toInt (Int64.ofInt a ||| Int64.ofInt b)]
  exact hk
theorem gj_lshl {a b : Int} (np : Nat) (hd : decode Y.2.1 pc = .ok (.lshl, 1)) (hp : pc + 1 = np) (kk : gj_G xt Y S k n np lv (gL (Int64.ofInt a <<< ((Int32.ofInt b).toInt64 &&& 63)).toInt :: st) M Q) : gj_G xt Y S k n pc lv (gI b :: gL a :: st) M Q := by
  subst hp
  intro p l e s m args below meth c H locs ls ad cA cZ D A Z hC hW hL hR
  have hk := kk p l e s m args below meth c H locs ls ad cA cZ D A Z hC hW hL hR
  refine lv_lshl hC.1 hC.2.1 hd rfl ?_
  rw [← Int64.ofInt_toInt (Int64.ofInt a <<< ((Int32.ofInt b).toInt64 &&& 63))]
  exact hk
theorem gj_us_eq (a : Int) : ((Int64.ofInt a).toUInt64 >>> ((Int32.ofInt 33).toInt64.toUInt64 &&& Int64.toUInt64 63)).toInt64 = Int64.ofInt (a % 18446744073709551616 / 8589934592) := by
  have e0 : (Int32.ofInt 33).toInt64.toUInt64 &&& Int64.toUInt64 63 = 33 := by decide
  rw [e0]
  have e1 : ((Int64.ofInt a).toUInt64 >>> (33 : UInt64)).toNat = (a % 18446744073709551616 / 8589934592).toNat := by
    have h1 : (Int64.ofInt a).toUInt64.toNat = (a % 18446744073709551616).toNat := by
      show (BitVec.ofInt 64 a).toNat = _
      rw [BitVec.toNat_ofInt]
      rfl
    rw [UInt64.toNat_shiftRight, h1]
    show (a % 18446744073709551616).toNat >>> (33 % 64) = _
    rw [Nat.shiftRight_eq_div_pow]
    have h2 : 0 ≤ a % 18446744073709551616 := Int.emod_nonneg _ (by decide)
    generalize a % 18446744073709551616 = y at *
    obtain ⟨z, rfl⟩ := Int.eq_ofNat_of_zero_le h2
    simp
    omega
  have h3 : 0 ≤ a % 18446744073709551616 := Int.emod_nonneg _ (by decide)
  have h4 : a % 18446744073709551616 < 18446744073709551616 := Int.emod_lt_of_pos _ (by decide)
  have h5 : 0 ≤ a % 18446744073709551616 / 8589934592 := by omega
  have h6 : a % 18446744073709551616 / 8589934592 < 2147483648 := by omega
  rw [← Int64.toInt_inj, gj_tl ⟨by omega, by omega⟩]
  generalize a % 18446744073709551616 / 8589934592 = y at *
  show (BitVec.toInt ((Int64.ofInt a).toUInt64 >>> (33 : UInt64)).toBitVec) = y
  have e2 : ((Int64.ofInt a).toUInt64 >>> (33 : UInt64)).toBitVec.toNat = y.toNat := e1
  rw [BitVec.toInt_eq_toNat_of_lt (by rw [e2]; omega), e2]
  omega
theorem gj_lushr {a : Int} (np : Nat) (hd : decode Y.2.1 pc = .ok (.lushr, 1)) (hp : pc + 1 = np) (kk : gj_G xt Y S k n np lv (gL (a % 18446744073709551616 / 8589934592) :: st) M Q) : gj_G xt Y S k n pc lv (gI 33 :: gL a :: st) M Q := by
  subst hp
  intro p l e s m args below meth c H locs ls ad cA cZ D A Z hC hW hL hR
  exact lv_lushr hC.1 hC.2.1 hd (gj_us_eq a) (kk p l e s m args below meth c H locs ls ad cA cZ D A Z hC hW hL hR)
theorem gj_i2l {a : Int} (np : Nat) (hd : decode Y.2.1 pc = .ok (.i2l, 1)) (hp : pc + 1 = np) (ha : gj_in a) (kk : gj_G xt Y S k n np lv (gL a :: st) M Q) : gj_G xt Y S k n pc lv (gI a :: st) M Q := by
  subst hp
  intro p l e s m args below meth c H locs ls ad cA cZ D A Z hC hW hL hR
  refine lv_i2l (v := Int64.ofInt a) hC.1 hC.2.1 hd ?_ (kk p l e s m args below meth c H locs ls ad cA cZ D A Z hC hW hL hR)
  rw [← Int64.toInt_inj, Int32.toInt_toInt64, gj_ti ha, gj_tl ⟨by omega, by omega⟩]
theorem gj_l2i {a : Int} (np : Nat) (hd : decode Y.2.1 pc = .ok (.l2i, 1)) (hp : pc + 1 = np) (ha : gj_in a) (kk : gj_G xt Y S k n np lv (gI a :: st) M Q) : gj_G xt Y S k n pc lv (gL a :: st) M Q := by
  subst hp
  intro p l e s m args below meth c H locs ls ad cA cZ D A Z hC hW hL hR
  refine lv_l2i (v := Int32.ofInt a) hC.1 hC.2.1 hd ?_ (kk p l e s m args below meth c H locs ls ad cA cZ D A Z hC hW hL hR)
  rw [← Int32.toInt_inj, Int64.toInt_toInt32, gj_ti ha, gj_tl ⟨by omega, by omega⟩]
  exact Int.bmod_eq_of_le (by omega) (by omega)
theorem gj_lcmp {a b : Int} (np : Nat) (hd : decode Y.2.1 pc = .ok (.lcmp, 1)) (hp : pc + 1 = np) (ha : gj_in6 a) (hb : gj_in6 b) (kk : gj_G xt Y S k n np lv (gI (if b < a then 1 else if a = b then 0 else -1) :: st) M Q) : gj_G xt Y S k n pc lv (gL b :: gL a :: st) M Q := by
  subst hp
  intro p l e s m args below meth c H locs ls ad cA cZ D A Z hC hW hL hR
  have hk := kk p l e s m args below meth c H locs ls ad cA cZ D A Z hC hW hL hR
  refine W.lcmp hC.1 hC.2.1 hd ?_
  have e1 : lg_cmp (Int64.ofInt a) (Int64.ofInt b) = Int32.ofInt (if b < a then 1 else if a = b then 0 else -1) := by
    unfold lg_cmp
    simp only [gt_iff_lt, gj_lt6 hb ha, gj_eq6 ha hb]
    split
    · decide
    · split <;> decide
  rw [e1]
  exact hk
theorem gj_ishl {a b : Int} (np : Nat) (hd : decode Y.2.1 pc = .ok (.ishl, 1)) (hp : pc + 1 = np) (kk : gj_G xt Y S k n np lv (gI (Int32.ofInt a <<< (Int32.ofInt b &&& 31)).toInt :: st) M Q) : gj_G xt Y S k n pc lv (gI b :: gI a :: st) M Q := by
  subst hp
  intro p l e s m args below meth c H locs ls ad cA cZ D A Z hC hW hL hR
  have hk := kk p l e s m args below meth c H locs ls ad cA cZ D A Z hC hW hL hR
  refine lv_ishl hC.1 hC.2.1 hd ?_
  rw [← Int32.ofInt_toInt (Int32.ofInt a <<< (Int32.ofInt b &&& 31))]
  exact hk
theorem gj_ishr {a b : Int} (np : Nat) (hd : decode Y.2.1 pc = .ok (.ishr, 1)) (hp : pc + 1 = np) (kk : gj_G xt Y S k n np lv (gI (Int32.ofInt a >>> (Int32.ofInt b &&& 31)).toInt :: st) M Q) : gj_G xt Y S k n pc lv (gI b :: gI a :: st) M Q := by
  subst hp
  intro p l e s m args below meth c H locs ls ad cA cZ D A Z hC hW hL hR
  have hk := kk p l e s m args below meth c H locs ls ad cA cZ D A Z hC hW hL hR
  refine lv_ishr hC.1 hC.2.1 hd ?_
  rw [← Int32.ofInt_toInt (Int32.ofInt a >>> (Int32.ofInt b &&& 31))]
  exact hk
theorem gj_tabI {a dflt lo hi off : Int} {offs : Array Int} {len : Nat} (tp : Nat) (hd : decode Y.2.1 pc = .ok (.tableswitch dflt lo hi offs, len)) (h : gj_in a) (h1 : lo ≤ a ∧ a ≤ hi) (ho : offs[(a - lo).toNat]? = some off) (ht : (pc : Int) + off = (tp : Int)) (kk : gj_G xt Y S k n tp lv st M Q) : gj_G xt Y S k n pc lv (gI a :: st) M Q := by
  intro p l e s m args below meth c H locs ls ad cA cZ D A Z hC hW hL hR
  exact lv_tableIn hC.1 hC.2.1 hd (by rw [gj_ti h]; omega) (by rw [gj_ti h]; omega) (by rw [gj_ti h]; exact ho) ht (kk p l e s m args below meth c H locs ls ad cA cZ D A Z hC hW hL hR)
theorem gj_tabO {a dflt lo hi : Int} {offs : Array Int} {len : Nat} (tp : Nat) (hd : decode Y.2.1 pc = .ok (.tableswitch dflt lo hi offs, len)) (h : gj_in a) (h1 : a < lo ∨ hi < a) (ht : (pc : Int) + dflt = (tp : Int)) (kk : gj_G xt Y S k n tp lv st M Q) : gj_G xt Y S k n pc lv (gI a :: st) M Q := by
  intro p l e s m args below meth c H locs ls ad cA cZ D A Z hC hW hL hR
  exact lv_tableOut hC.1 hC.2.1 hd (by rw [gj_ti h]; exact h1) ht (kk p l e s m args below meth c H locs ls ad cA cZ D A Z hC hW hL hR)
theorem gj_look {a dflt off : Int} {ps : Array (Int × Int)} {len : Nat} (tp : Nat) (hd : decode Y.2.1 pc = .ok (.lookupswitch dflt ps, len)) (h : gj_in a) (hq : (ps.toList.zip (ps.toList.drop 1)).all (fun (a, next) => a.1 < next.1) = true) (ho : Op.lookupswitch.offset ps.toList dflt a = off) (ht : (pc : Int) + off = (tp : Int)) (kk : gj_G xt Y S k n tp lv st M Q) : gj_G xt Y S k n pc lv (gI a :: st) M Q := by
  intro p l e s m args below meth c H locs ls ad cA cZ D A Z hC hW hL hR
  exact lv_lookup hC.1 hC.2.1 hd hq (by rw [gj_ti h]; exact ho) ht (kk p l e s m args below meth c H locs ls ad cA cZ D A Z hC hW hL hR)
end GLn
