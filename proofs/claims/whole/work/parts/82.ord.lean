def u_cO (L : Nat) : Bool := (List.range (10 ^ L)).all fun o => decide (p_io L o = y_io L o) && (decide (p_io L o ≠ 1) || ((List.range L).all fun i => decide (p_li L o i < L)) && (List.range L).all fun l => (List.range L).any fun i => decide (p_li L o i = l))
theorem u_cO_0 : u_cO 0 = true := by decide +kernel
theorem u_cO_1 : u_cO 1 = true := by decide +kernel
theorem u_cO_2 : u_cO 2 = true := by decide +kernel
theorem u_cO_3 : u_cO 3 = true := by decide +kernel
def u_cD : Bool := (List.range 10).all fun a => (List.range 10).all fun b => (List.range 10).all fun c => (List.range 10).all fun d => (((2 ^ a ||| 2 ^ b) ||| 2 ^ c) ||| 2 ^ d == ((2 ^ d ||| 2 ^ c) ||| 2 ^ b) ||| 2 ^ a) && ((((2 ^ a ||| 2 ^ b) ||| 2 ^ c) ||| 2 ^ d != 15) || (Nat.blt a 4 && Nat.blt b 4 && Nat.blt c 4 && Nat.blt d 4 && (List.range 4).all fun l => (l == a || l == b || l == c || l == d)))
theorem u_cD_t : u_cD = true := by decide +kernel
theorem u_bit : ∀ a : Nat, a < 10 → (Int32.ofInt 1 <<< (Int32.ofInt (a : Int) &&& 31)).toInt = ((2 ^ a : Nat) : Int) := by decide
theorem u_or2 {x y : Nat} (hx : x < 1024) (hy : y < 1024) : (Int32.ofInt (x : Int) ||| Int32.ofInt (y : Int)).toInt = ((x ||| y : Nat) : Int) := by
  have hxy : x ||| y < 1024 := Nat.or_lt_two_pow (n := 10) hx hy
  have e : Int32.ofInt (x : Int) ||| Int32.ofInt (y : Int) = Int32.ofNat (x ||| y) := by
    rw [Int32.ofInt_eq_ofNat, Int32.ofInt_eq_ofNat]
    apply Int32.toBitVec.inj
    apply BitVec.eq_of_toNat_eq
    show ((BitVec.ofNat 32 x) ||| (BitVec.ofNat 32 y)).toNat = (BitVec.ofNat 32 (x ||| y)).toNat
    rw [BitVec.toNat_or, BitVec.toNat_ofNat, BitVec.toNat_ofNat, BitVec.toNat_ofNat, Nat.mod_eq_of_lt (by omega), Nat.mod_eq_of_lt (by omega), Nat.mod_eq_of_lt (by omega)]
  rw [e, Int32.toInt_ofNat_of_lt (by omega)]
theorem u_pw2 : ∀ a : Nat, a < 10 → 2 ^ a < 1024 := by decide
theorem u_p4 (o : Nat) : p_met 4 o 4 = ((((2 ^ (o / 1000 % 10) ||| 2 ^ (o / 100 % 10)) ||| 2 ^ (o / 10 % 10)) ||| 2 ^ (o % 10) : Nat) : Int) := by
  have a0 := u_pw2 (o / 1000 % 10) (by omega)
  have a1 := u_pw2 (o / 100 % 10) (by omega)
  have a2 := u_pw2 (o / 10 % 10) (by omega)
  have a3 := u_pw2 (o % 10) (by omega)
  have b1 : 2 ^ (o / 1000 % 10) ||| 2 ^ (o / 100 % 10) < 1024 := Nat.or_lt_two_pow (n := 10) a0 a1
  have b2 : (2 ^ (o / 1000 % 10) ||| 2 ^ (o / 100 % 10)) ||| 2 ^ (o / 10 % 10) < 1024 := Nat.or_lt_two_pow (n := 10) b1 a2
  have l0 : p_li 4 (o : Int) ((0 : Nat) : Int) = ((o / 1000 % 10 : Nat) : Int) := by
    unfold p_li
    rw [if_neg (by decide)]
    show (o : Int) / 1000 % 10 = _
    omega
  have l1 : p_li 4 (o : Int) ((1 : Nat) : Int) = ((o / 100 % 10 : Nat) : Int) := by
    unfold p_li
    rw [if_neg (by decide)]
    show (o : Int) / 100 % 10 = _
    omega
  have l2 : p_li 4 (o : Int) ((2 : Nat) : Int) = ((o / 10 % 10 : Nat) : Int) := by
    unfold p_li
    rw [if_neg (by decide)]
    show (o : Int) / 10 % 10 = _
    omega
  have l3 : p_li 4 (o : Int) ((3 : Nat) : Int) = ((o % 10 : Nat) : Int) := by
    unfold p_li
    rw [if_neg (by decide)]
    show (o : Int) / 1 % 10 = _
    omega
  have h1 : p_met 4 o 1 = ((2 ^ (o / 1000 % 10) : Nat) : Int) := by
    show (Int32.ofInt ((0 : Nat) : Int) ||| Int32.ofInt (Int32.ofInt 1 <<< (Int32.ofInt (p_li 4 (o : Int) ((0 : Nat) : Int)) &&& 31)).toInt).toInt = _
    rw [l0, u_bit _ (by omega), u_or2 (by decide) a0, Nat.zero_or]
  have h2 : p_met 4 o 2 = ((2 ^ (o / 1000 % 10) ||| 2 ^ (o / 100 % 10) : Nat) : Int) := by
    show (Int32.ofInt (p_met 4 o 1) ||| Int32.ofInt (Int32.ofInt 1 <<< (Int32.ofInt (p_li 4 (o : Int) ((1 : Nat) : Int)) &&& 31)).toInt).toInt = _
    rw [h1, l1, u_bit _ (by omega), u_or2 a0 a1]
  have h3 : p_met 4 o 3 = (((2 ^ (o / 1000 % 10) ||| 2 ^ (o / 100 % 10)) ||| 2 ^ (o / 10 % 10) : Nat) : Int) := by
    show (Int32.ofInt (p_met 4 o 2) ||| Int32.ofInt (Int32.ofInt 1 <<< (Int32.ofInt (p_li 4 (o : Int) ((2 : Nat) : Int)) &&& 31)).toInt).toInt = _
    rw [h2, l2, u_bit _ (by omega), u_or2 b1 a2]
  show (Int32.ofInt (p_met 4 o 3) ||| Int32.ofInt (Int32.ofInt 1 <<< (Int32.ofInt (p_li 4 (o : Int) ((3 : Nat) : Int)) &&& 31)).toInt).toInt = _
  rw [h3, l3, u_bit _ (by omega), u_or2 b2 a3]
theorem u_y4 (o : Nat) : y_mt o 4 = ((((2 ^ (o % 10) ||| 2 ^ (o / 10 % 10)) ||| 2 ^ (o / 100 % 10)) ||| 2 ^ (o / 1000 % 10) : Nat) : Int) := by
  have a0 := u_pw2 (o / 1000 % 10) (by omega)
  have a1 := u_pw2 (o / 100 % 10) (by omega)
  have a2 := u_pw2 (o / 10 % 10) (by omega)
  have a3 := u_pw2 (o % 10) (by omega)
  have b1 : 2 ^ (o % 10) ||| 2 ^ (o / 10 % 10) < 1024 := Nat.or_lt_two_pow (n := 10) a3 a2
  have b2 : (2 ^ (o % 10) ||| 2 ^ (o / 10 % 10)) ||| 2 ^ (o / 100 % 10) < 1024 := Nat.or_lt_two_pow (n := 10) b1 a1
  have l0 : (o : Int) / e_pw 10 0 % 10 = ((o % 10 : Nat) : Int) := by
    show (o : Int) / 1 % 10 = _
    omega
  have l1 : (o : Int) / e_pw 10 1 % 10 = ((o / 10 % 10 : Nat) : Int) := by
    show (o : Int) / 10 % 10 = _
    omega
  have l2 : (o : Int) / e_pw 10 2 % 10 = ((o / 100 % 10 : Nat) : Int) := by
    show (o : Int) / 100 % 10 = _
    omega
  have l3 : (o : Int) / e_pw 10 3 % 10 = ((o / 1000 % 10 : Nat) : Int) := by
    show (o : Int) / 1000 % 10 = _
    omega
  have h1 : y_mt o 1 = ((2 ^ (o % 10) : Nat) : Int) := by
    show (Int32.ofInt ((0 : Nat) : Int) ||| Int32.ofInt (Int32.ofInt 1 <<< (Int32.ofInt ((o : Int) / e_pw 10 0 % 10) &&& 31)).toInt).toInt = _
    rw [l0, u_bit _ (by omega), u_or2 (by decide) a3, Nat.zero_or]
  have h2 : y_mt o 2 = ((2 ^ (o % 10) ||| 2 ^ (o / 10 % 10) : Nat) : Int) := by
    show (Int32.ofInt (y_mt o 1) ||| Int32.ofInt (Int32.ofInt 1 <<< (Int32.ofInt ((o : Int) / e_pw 10 1 % 10) &&& 31)).toInt).toInt = _
    rw [h1, l1, u_bit _ (by omega), u_or2 a3 a2]
  have h3 : y_mt o 3 = (((2 ^ (o % 10) ||| 2 ^ (o / 10 % 10)) ||| 2 ^ (o / 100 % 10) : Nat) : Int) := by
    show (Int32.ofInt (y_mt o 2) ||| Int32.ofInt (Int32.ofInt 1 <<< (Int32.ofInt ((o : Int) / e_pw 10 2 % 10) &&& 31)).toInt).toInt = _
    rw [h2, l2, u_bit _ (by omega), u_or2 b1 a1]
  show (Int32.ofInt (y_mt o 3) ||| Int32.ofInt (Int32.ofInt 1 <<< (Int32.ofInt ((o : Int) / e_pw 10 3 % 10) &&& 31)).toInt).toInt = _
  rw [h3, l3, u_bit _ (by omega), u_or2 b2 a0]
theorem u_ok {L o : Nat} (hL : L ≤ 4) (ho : o < 10 ^ L) : p_io L o = y_io L o ∧ (p_io L o = 1 → (∀ i : Nat, i < L → p_li L o i < L) ∧ ∀ l : Nat, l < L → ∃ i : Nat, i < L ∧ p_li L o i = l) := by
  have key : ∀ L : Nat, u_cO L = true → o < 10 ^ L → p_io L o = y_io L o ∧ (p_io L o = 1 → (∀ i : Nat, i < L → p_li L o i < L) ∧ ∀ l : Nat, l < L → ∃ i : Nat, i < L ∧ p_li L o i = l) := by
    intro L hc ho
    unfold u_cO at hc
    have h := List.all_eq_true.mp hc o (List.mem_range.mpr ho)
    simp only [Bool.and_eq_true, Bool.or_eq_true, decide_eq_true_eq, List.all_eq_true, List.any_eq_true, List.mem_range] at h
    refine ⟨h.1, fun h1 => ?_⟩
    rcases h.2 with z | z
    · exact absurd h1 z
    · exact z
  have h5 : L = 0 ∨ L = 1 ∨ L = 2 ∨ L = 3 ∨ L = 4 := by omega
  rcases h5 with rfl | rfl | rfl | rfl | rfl
  · exact key 0 u_cO_0 ho
  · exact key 1 u_cO_1 ho
  · exact key 2 u_cO_2 ho
  · exact key 3 u_cO_3 ho
  · have hD := u_cD_t
    unfold u_cD at hD
    have h1 := List.all_eq_true.mp hD (o / 1000 % 10) (List.mem_range.mpr (by omega))
    have h2 := List.all_eq_true.mp h1 (o / 100 % 10) (List.mem_range.mpr (by omega))
    have h3 := List.all_eq_true.mp h2 (o / 10 % 10) (List.mem_range.mpr (by omega))
    have h4 := List.all_eq_true.mp h3 (o % 10) (List.mem_range.mpr (by omega))
    simp only [Bool.and_eq_true, Bool.or_eq_true, beq_iff_eq, bne_iff_ne, Nat.blt_eq, List.all_eq_true, List.mem_range] at h4
    obtain ⟨e1, e2⟩ := h4
    have ep : p_io ((4 : Nat) : Int) o = if 0 ≤ (o : Int) ∧ (o : Int) < 10000 ∧ p_met 4 o 4 = 15 then 1 else 0 := rfl
    have ey : y_io ((4 : Nat) : Int) o = if (0 ≤ (o : Int) ∧ (o : Int) ≤ 10000 - 1) ∧ y_mt o 4 = 15 then 1 else 0 := rfl
    have ho2 : o < 10000 := ho
    have em : p_met 4 o 4 = y_mt o 4 := by rw [u_p4, u_y4, e1]
    refine ⟨?_, fun h => ?_⟩
    · rw [ep, ey, em]
      by_cases q : y_mt o 4 = 15
      · rw [if_pos ⟨by omega, by omega, q⟩, if_pos ⟨⟨by omega, by omega⟩, q⟩]
      · rw [if_neg (fun z => q z.2.2), if_neg (fun z => q z.2)]
    · rw [ep, u_p4] at h
      have hm : ((2 ^ (o / 1000 % 10) ||| 2 ^ (o / 100 % 10)) ||| 2 ^ (o / 10 % 10)) ||| 2 ^ (o % 10) = 15 := by
        by_cases q : ((2 ^ (o / 1000 % 10) ||| 2 ^ (o / 100 % 10)) ||| 2 ^ (o / 10 % 10)) ||| 2 ^ (o % 10) = 15
        · exact q
        · rw [if_neg (fun z => q (by exact_mod_cast z.2.2))] at h
          exact absurd h (by decide)
      rcases e2 with z | ⟨⟨⟨⟨d0, d1⟩, d2⟩, d3⟩, dl⟩
      · exact absurd hm z
      · have l0 : p_li ((4 : Nat) : Int) (o : Int) ((0 : Nat) : Int) = ((o / 1000 % 10 : Nat) : Int) := by
          unfold p_li
          rw [if_neg (by decide)]
          show (o : Int) / 1000 % 10 = _
          omega
        have l1 : p_li ((4 : Nat) : Int) (o : Int) ((1 : Nat) : Int) = ((o / 100 % 10 : Nat) : Int) := by
          unfold p_li
          rw [if_neg (by decide)]
          show (o : Int) / 100 % 10 = _
          omega
        have l2 : p_li ((4 : Nat) : Int) (o : Int) ((2 : Nat) : Int) = ((o / 10 % 10 : Nat) : Int) := by
          unfold p_li
          rw [if_neg (by decide)]
          show (o : Int) / 10 % 10 = _
          omega
        have l3 : p_li ((4 : Nat) : Int) (o : Int) ((3 : Nat) : Int) = ((o % 10 : Nat) : Int) := by
          unfold p_li
          rw [if_neg (by decide)]
          show (o : Int) / 1 % 10 = _
          omega
        refine ⟨fun i hi => ?_, fun l hl => ?_⟩
        · have h4 : i = 0 ∨ i = 1 ∨ i = 2 ∨ i = 3 := by omega
          rcases h4 with rfl | rfl | rfl | rfl
          · rw [l0]; omega
          · rw [l1]; omega
          · rw [l2]; omega
          · rw [l3]; omega
        · have := dl l hl
          rcases this with ((h | h) | h) | h
          · exact ⟨0, by omega, by rw [l0]; omega⟩
          · exact ⟨1, by omega, by rw [l1]; omega⟩
          · exact ⟨2, by omega, by rw [l2]; omega⟩
          · exact ⟨3, by omega, by rw [l3]; omega⟩
theorem u_tens : ∀ L : Nat, L ≤ 4 → gj_tens L = ((10 ^ L : Nat) : Int) ∧ e_pw 10 L = ((10 ^ L : Nat) : Int) ∧ 10 ^ L ≤ 10000 := by decide
theorem p_io_eq {L o : Int} (hL : 0 ≤ L ∧ L ≤ 4) : p_io L o = y_io L o := by
  obtain ⟨n, rfl⟩ := Int.eq_ofNat_of_zero_le hL.1
  have ht := u_tens n (by omega)
  by_cases q : 0 ≤ o ∧ o < ((10 ^ n : Nat) : Int)
  · obtain ⟨m, rfl⟩ := Int.eq_ofNat_of_zero_le q.1
    exact (u_ok (by omega) (by omega)).1
  · unfold p_io y_io
    rw [Int.toNat_natCast, ht.1, ht.2.1, if_neg (fun z => q ⟨z.1, z.2.1⟩), if_neg (fun z => q ⟨z.1.1, by have := z.1.2; omega⟩)]
theorem p_io_od {L o : Int} (hL : 0 ≤ L ∧ L ≤ 4) (h : p_io L o = 1) : p_od L o := by
  obtain ⟨n, rfl⟩ := Int.eq_ofNat_of_zero_le hL.1
  have ht := u_tens n (by omega)
  have q : 0 ≤ o ∧ o < ((10 ^ n : Nat) : Int) := by
    unfold p_io at h
    rw [Int.toNat_natCast, ht.1] at h
    split at h
    · next z => exact ⟨z.1, z.2.1⟩
    · omega
  obtain ⟨m, rfl⟩ := Int.eq_ofNat_of_zero_le q.1
  have hk := (u_ok (L := n) (o := m) (by omega) (by omega)).2 h
  refine ⟨by omega, fun i h0 hi => ?_, fun l h0 hl => ?_⟩
  · obtain ⟨j, rfl⟩ := Int.eq_ofNat_of_zero_le h0
    exact hk.1 j (by omega)
  · obtain ⟨j, rfl⟩ := Int.eq_ofNat_of_zero_le h0
    obtain ⟨i, hi, e⟩ := hk.2 j (by omega)
    exact ⟨i, by omega, by omega, e⟩
