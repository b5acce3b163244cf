/-! whole numbers as the machine has them -/
theorem gj_ti {a : Int} (h : gj_in a) : (Int32.ofInt a).toInt = a := Int32.toInt_ofInt_of_le (by have := h.1; omega) (by have := h.2; omega)
theorem gj_tl {a : Int} (h : gj_in6 a) : (Int64.ofInt a).toInt = a := Int64.toInt_ofInt_of_le (by have := h.1; omega) (by have := h.2; omega)
theorem gj_eq {a b : Int} (ha : gj_in a) (hb : gj_in b) : Int32.ofInt a = Int32.ofInt b ↔ a = b := by
  rw [← Int32.toInt_inj, gj_ti ha, gj_ti hb]
theorem gj_lt {a b : Int} (ha : gj_in a) (hb : gj_in b) : Int32.ofInt a < Int32.ofInt b ↔ a < b := by
  rw [Int32.lt_iff_toInt_lt, gj_ti ha, gj_ti hb]
theorem gj_lq {a b : Int} (ha : gj_in a) (hb : gj_in b) : Int32.ofInt a ≤ Int32.ofInt b ↔ a ≤ b := by
  rw [Int32.le_iff_toInt_le, gj_ti ha, gj_ti hb]
theorem gj_0 : Int32.ofInt 0 = 0 := by decide
theorem gj_cl {a : Int} (h : gj_in a) : (Int32.ofInt a).toNatClampNeg = a.toNat := by
  show (Int32.ofInt a).toInt.toNat = a.toNat
  rw [gj_ti h]
theorem gj_vin {a : Int} {n : Nat} (h : 0 ≤ a ∧ a < n) (ha : gj_in a) : vp_in (Int32.ofInt a) n := by
  intro q
  rcases q with q | q
  · rw [← gj_0, gj_lt ha ⟨by omega, by omega⟩] at q
    omega
  · rw [gj_cl ha] at q
    omega
section GR
variable {xt : Nat × (Nat → Int)} {Y : gj_Y} {S : List gj_H} {k n pc : Nat} {lv lv' : List (Option gj_V)} {st : List gj_V} {M : gj_M} {Q : Option gj_V → List gj_H → gj_M → Prop}
theorem gj_iconst {z : Int} (np : Nat) (hd : decode Y.2.1 pc = .ok (.iconst z, 1)) (hp : pc + 1 = np) (kk : gj_G xt Y S k n np lv (gI z :: st) M Q) : gj_G xt Y S k n pc lv st M Q := by
  subst hp
  intro p l e s m args below meth c H locs ls ad cA cZ D A Z hC hW hL hR
  exact lv_iconst hC.1 hC.2.1 hd rfl (kk p l e s m args below meth c H locs ls ad cA cZ D A Z hC hW hL hR)
theorem gj_bipush {z : Int} (np : Nat) (hd : decode Y.2.1 pc = .ok (.bipush z, 2)) (hp : pc + 2 = np) (hz : -128 ≤ z ∧ z ≤ 127) (kk : gj_G xt Y S k n np lv (gI z :: st) M Q) : gj_G xt Y S k n pc lv st M Q := by
  subst hp
  intro p l e s m args below meth c H locs ls ad cA cZ D A Z hC hW hL hR
  refine lv_bipush (v := Int32.ofInt z) hC.1 hC.2.1 hd ?_ (kk p l e s m args below meth c H locs ls ad cA cZ D A Z hC hW hL hR)
  rw [← Int32.toInt_inj, gj_ti ⟨by omega, by omega⟩, Int8.toInt_toInt32, Int8.toInt_ofInt_of_le (by omega) (by omega)]
theorem gj_sipush {z : Int} (np : Nat) (hd : decode Y.2.1 pc = .ok (.sipush z, 3)) (hp : pc + 3 = np) (hz : -32768 ≤ z ∧ z ≤ 32767) (kk : gj_G xt Y S k n np lv (gI z :: st) M Q) : gj_G xt Y S k n pc lv st M Q := by
  subst hp
  intro p l e s m args below meth c H locs ls ad cA cZ D A Z hC hW hL hR
  refine lv_sipush (v := Int32.ofInt z) hC.1 hC.2.1 hd ?_ (kk p l e s m args below meth c H locs ls ad cA cZ D A Z hC hW hL hR)
  rw [← Int32.toInt_inj, gj_ti ⟨by omega, by omega⟩, Int16.toInt_toInt32, Int16.toInt_ofInt_of_le (by omega) (by omega)]
theorem gj_lconst {z : Fin 2} {a : Int} (np : Nat) (hd : decode Y.2.1 pc = .ok (.lconst z, 1)) (hp : pc + 1 = np) (ha : ((z : Nat) : Int) = a) (kk : gj_G xt Y S k n np lv (gL a :: st) M Q) : gj_G xt Y S k n pc lv st M Q := by
  subst hp
  intro p l e s m args below meth c H locs ls ad cA cZ D A Z hC hW hL hR
  refine lv_lconst (v := Int64.ofInt a) hC.1 hC.2.1 hd ?_ (kk p l e s m args below meth c H locs ls ad cA cZ D A Z hC hW hL hR)
  subst ha
  exact (Int64.ofInt_eq_ofNat).symm
theorem gj_ldc2 {idx : Nat} {a : Int} (np : Nat) (hd : decode Y.2.1 pc = .ok (.ldc2_w idx, 3)) (hp : pc + 3 = np) (hw : Cond.constantLong Y.1.cls idx (Int64.ofInt a) ∈ gj_tb) (kk : gj_G xt Y S k n np lv (gL a :: st) M Q) : gj_G xt Y S k n pc lv st M Q := by
  subst hp
  intro p l e s m args below meth c H locs ls ad cA cZ D A Z hC hW hL hR
  exact lv_ldc2 hC.1 hC.2.1 hC.2.2.2.1 (hC.2.2.2.2.1 _ hw) hd (kk p l e s m args below meth c H locs ls ad cA cZ D A Z hC hW hL hR)
theorem gj_iload_n {i : Fin 4} {a : Int} (np : Nat) (hd : decode Y.2.1 pc = .ok (.iload_n i, 1)) (hp : pc + 1 = np) (hv : lv[(i : Nat)]? = some (some (gI a))) (kk : gj_G xt Y S k n np lv (gI a :: st) M Q) : gj_G xt Y S k n pc lv st M Q := by
  subst hp
  intro p l e s m args below meth c H locs ls ad cA cZ D A Z hC hW hL hR
  exact lv_iload_n hC.1 hC.2.1 hd rfl (hL.2.2 _ _ hv) (kk p l e s m args below meth c H locs ls ad cA cZ D A Z hC hW hL hR)
theorem gj_iload {i : Nat} {a : Int} (np : Nat) (hd : decode Y.2.1 pc = .ok (.iload i, 2)) (hp : pc + 2 = np) (hv : lv[i]? = some (some (gI a))) (kk : gj_G xt Y S k n np lv (gI a :: st) M Q) : gj_G xt Y S k n pc lv st M Q := by
  subst hp
  intro p l e s m args below meth c H locs ls ad cA cZ D A Z hC hW hL hR
  exact lv_iload hC.1 hC.2.1 hd (hL.2.2 _ _ hv) (kk p l e s m args below meth c H locs ls ad cA cZ D A Z hC hW hL hR)
theorem gj_lload_n {i : Fin 4} {a : Int} (np : Nat) (hd : decode Y.2.1 pc = .ok (.lload_n i, 1)) (hp : pc + 1 = np) (hv : lv[(i : Nat)]? = some (some (gL a))) (kk : gj_G xt Y S k n np lv (gL a :: st) M Q) : gj_G xt Y S k n pc lv st M Q := by
  subst hp
  intro p l e s m args below meth c H locs ls ad cA cZ D A Z hC hW hL hR
  exact lv_lload_n hC.1 hC.2.1 hd rfl (hL.2.2 _ _ hv) (kk p l e s m args below meth c H locs ls ad cA cZ D A Z hC hW hL hR)
theorem gj_lload {i : Nat} {a : Int} (np : Nat) (hd : decode Y.2.1 pc = .ok (.lload i, 2)) (hp : pc + 2 = np) (hv : lv[i]? = some (some (gL a))) (kk : gj_G xt Y S k n np lv (gL a :: st) M Q) : gj_G xt Y S k n pc lv st M Q := by
  subst hp
  intro p l e s m args below meth c H locs ls ad cA cZ D A Z hC hW hL hR
  exact lv_lload hC.1 hC.2.1 hd (hL.2.2 _ _ hv) (kk p l e s m args below meth c H locs ls ad cA cZ D A Z hC hW hL hR)
theorem gj_aload_n {i : Fin 4} {h : Nat} (np : Nat) (hd : decode Y.2.1 pc = .ok (.aload_n i, 1)) (hp : pc + 1 = np) (hv : lv[(i : Nat)]? = some (some (gR h))) (kk : gj_G xt Y S k n np lv (gR h :: st) M Q) : gj_G xt Y S k n pc lv st M Q := by
  subst hp
  intro p l e s m args below meth c H locs ls ad cA cZ D A Z hC hW hL hR
  exact lv_aload_n hC.1 hC.2.1 hd rfl (hL.2.2 _ _ hv) (kk p l e s m args below meth c H locs ls ad cA cZ D A Z hC hW hL hR)
theorem gj_astore_n {i : Fin 4} {h : Nat} (np : Nat) (hd : decode Y.2.1 pc = .ok (.astore_n i, 1)) (hp : pc + 1 = np) (hi : (i : Nat) < Y.2.2.1) (hl : gj_s1 lv i (gR h) = lv') (kk : gj_G xt Y S k n np lv' st M Q) : gj_G xt Y S k n pc lv (gR h :: st) M Q := by
  subst hp
  subst hl
  intro p l e s m args below meth c H locs ls ad cA cZ D A Z hC hW hL hR
  exact lv_astore_n hC.1 hC.2.1 hd rfl hL.has hi rfl (fun ls' hl' => kk p l e s m args below meth c H locs ls' ad cA cZ D A Z hC hW (gj_l.s1 hl') hR)
theorem gj_istore_n {i : Fin 4} {a : Int} (np : Nat) (hd : decode Y.2.1 pc = .ok (.istore_n i, 1)) (hp : pc + 1 = np) (hi : (i : Nat) < Y.2.2.1) (hl : gj_s1 lv i (gI a) = lv') (kk : gj_G xt Y S k n np lv' st M Q) : gj_G xt Y S k n pc lv (gI a :: st) M Q := by
  subst hp
  subst hl
  intro p l e s m args below meth c H locs ls ad cA cZ D A Z hC hW hL hR
  exact lv_istore_n hC.1 hC.2.1 hd rfl hL.has hi rfl (fun ls' hl' => kk p l e s m args below meth c H locs ls' ad cA cZ D A Z hC hW (gj_l.s1 hl') hR)
theorem gj_istore {i : Nat} {a : Int} (np : Nat) (hd : decode Y.2.1 pc = .ok (.istore i, 2)) (hp : pc + 2 = np) (hi : i < Y.2.2.1) (hl : gj_s1 lv i (gI a) = lv') (kk : gj_G xt Y S k n np lv' st M Q) : gj_G xt Y S k n pc lv (gI a :: st) M Q := by
  subst hp
  subst hl
  intro p l e s m args below meth c H locs ls ad cA cZ D A Z hC hW hL hR
  exact lv_istore hC.1 hC.2.1 hd hL.has hi rfl (fun ls' hl' => kk p l e s m args below meth c H locs ls' ad cA cZ D A Z hC hW (gj_l.s1 hl') hR)
theorem gj_lstore_n {i : Fin 4} {a : Int} (np : Nat) (hd : decode Y.2.1 pc = .ok (.lstore_n i, 1)) (hp : pc + 1 = np) (hi : (i : Nat) + 1 < Y.2.2.1) (hl : gj_s2 lv i (gL a) = lv') (kk : gj_G xt Y S k n np lv' st M Q) : gj_G xt Y S k n pc lv (gL a :: st) M Q := by
  subst hp
  subst hl
  intro p l e s m args below meth c H locs ls ad cA cZ D A Z hC hW hL hR
  exact lv_lstore_n hC.1 hC.2.1 hd rfl hL.has hi rfl (fun ls' hl' => kk p l e s m args below meth c H locs ls' ad cA cZ D A Z hC hW (gj_l.s2 hl') hR)
theorem gj_lstore {i : Nat} {a : Int} (np : Nat) (hd : decode Y.2.1 pc = .ok (.lstore i, 2)) (hp : pc + 2 = np) (hi : i + 1 < Y.2.2.1) (hl : gj_s2 lv i (gL a) = lv') (kk : gj_G xt Y S k n np lv' st M Q) : gj_G xt Y S k n pc lv (gL a :: st) M Q := by
  subst hp
  subst hl
  intro p l e s m args below meth c H locs ls ad cA cZ D A Z hC hW hL hR
  exact lv_lstore hC.1 hC.2.1 hd hL.has hi rfl (fun ls' hl' => kk p l e s m args below meth c H locs ls' ad cA cZ D A Z hC hW (gj_l.s2 hl') hR)
theorem gj_iinc {i : Nat} {a z b : Int} (np : Nat) (hd : decode Y.2.1 pc = .ok (.iinc i z, 3)) (hp : pc + 3 = np) (hv : lv[i]? = some (some (gI a))) (hb : a + z = b) (hi : i < Y.2.2.1) (hl : gj_s1 lv i (gI b) = lv') (kk : gj_G xt Y S k n np lv' st M Q) : gj_G xt Y S k n pc lv st M Q := by
  subst hp
  subst hl
  subst hb
  intro p l e s m args below meth c H locs ls ad cA cZ D A Z hC hW hL hR
  obtain ⟨j, hj⟩ := List.getElem?_of_mem ((gj_as_mem (ad := ad) lv 0 (i, gj_c ad (gI a))).mpr ⟨i, gI a, hv, by simp⟩)
  exact lv_iinc hC.1 hC.2.1 hd hL.has hj (v := Int32.ofInt (a + z)) (by rw [Int32.ofInt_add]) hi rfl (fun ls' hl' => kk p l e s m args below meth c H locs ls' ad cA cZ D A Z hC hW (gj_l.s1 hl') hR)
/-- fewer known locals -/
theorem gj_drop (lv' : List (Option gj_V)) (hle : gj_le lv' lv) (kk : gj_G xt Y S k n pc lv' st M Q) : gj_G xt Y S k n pc lv st M Q := by
  intro p l e s m args below meth c H locs ls ad cA cZ D A Z hC hW hL hR
  exact kk p l e s m args below meth c H locs ls ad cA cZ D A Z hC hW ⟨hL.1, hL.2.1, fun i v hi => hL.2.2 i v (gj_le_get lv' lv i v hle hi)⟩ hR
theorem gj_iadd {a b : Int} (np : Nat) (hd : decode Y.2.1 pc = .ok (.iadd, 1)) (hp : pc + 1 = np) (kk : gj_G xt Y S k n np lv (gI (a + b) :: st) M Q) : gj_G xt Y S k n pc lv (gI b :: gI a :: st) M Q := by
  subst hp
  intro p l e s m args below meth c H locs ls ad cA cZ D A Z hC hW hL hR
  have hk := kk p l e s m args below meth c H locs ls ad cA cZ D A Z hC hW hL hR
  refine lv_iadd hC.1 hC.2.1 hd ?_
  rw [← Int32.ofInt_add]
  exact hk
theorem gj_isub {a b : Int} (np : Nat) (hd : decode Y.2.1 pc = .ok (.isub, 1)) (hp : pc + 1 = np) (kk : gj_G xt Y S k n np lv (gI (a - b) :: st) M Q) : gj_G xt Y S k n pc lv (gI b :: gI a :: st) M Q := by
  subst hp
  intro p l e s m args below meth c H locs ls ad cA cZ D A Z hC hW hL hR
  have hk := kk p l e s m args below meth c H locs ls ad cA cZ D A Z hC hW hL hR
  refine lv_isub hC.1 hC.2.1 hd ?_
  rw [← Int32.ofInt_sub]
  exact hk
theorem gj_imul {a b : Int} (np : Nat) (hd : decode Y.2.1 pc = .ok (.imul, 1)) (hp : pc + 1 = np) (kk : gj_G xt Y S k n np lv (gI (a * b) :: st) M Q) : gj_G xt Y S k n pc lv (gI b :: gI a :: st) M Q := by
  subst hp
  intro p l e s m args below meth c H locs ls ad cA cZ D A Z hC hW hL hR
  have hk := kk p l e s m args below meth c H locs ls ad cA cZ D A Z hC hW hL hR
  refine lv_imul hC.1 hC.2.1 hd ?_
  rw [← Int32.ofInt_mul]
  exact hk
theorem gj_ineg {a : Int} (np : Nat) (hd : decode Y.2.1 pc = .ok (.ineg, 1)) (hp : pc + 1 = np) (kk : gj_G xt Y S k n np lv (gI (-a) :: st) M Q) : gj_G xt Y S k n pc lv (gI a :: st) M Q := by
  subst hp
  intro p l e s m args below meth c H locs ls ad cA cZ D A Z hC hW hL hR
  have hk := kk p l e s m args below meth c H locs ls ad cA cZ D A Z hC hW hL hR
  refine lv_ineg hC.1 hC.2.1 hd ?_
  rw [← Int32.ofInt_neg]
  exact hk
theorem gj_idiv {a b : Int} (np : Nat) (hd : decode Y.2.1 pc = .ok (.idiv, 1)) (hp : pc + 1 = np) (ha : 0 ≤ a ∧ a ≤ 2147483647) (hb : 0 < b ∧ b ≤ 2147483647) (kk : gj_G xt Y S k n np lv (gI (a / b) :: st) M Q) : gj_G xt Y S k n pc lv (gI b :: gI a :: st) M Q := by
  subst hp
  intro p l e s m args below meth c H locs ls ad cA cZ D A Z hC hW hL hR
  have hk := kk p l e s m args below meth c H locs ls ad cA cZ D A Z hC hW hL hR
  have ha' : gj_in a := ⟨by omega, by omega⟩
  have hb' : gj_in b := ⟨by omega, by omega⟩
  have hne : ¬ Int32.ofInt b = 0 := by rw [← gj_0, gj_eq hb' ⟨by omega, by omega⟩]; omega
  refine lv_idiv hC.1 hC.2.1 hd hne ?_
  have e1 : Int32.ofInt a / Int32.ofInt b = Int32.ofInt (a / b) := by
    have h1 : 0 ≤ a / b := Int.ediv_nonneg ha.1 (by omega)
    have h2 : a / b ≤ a := Int.ediv_le_self _ ha.1
    rw [← Int32.toInt_inj, Int32.toInt_div, gj_ti ha', gj_ti hb', gj_ti ⟨by omega, by omega⟩, Int.tdiv_eq_ediv_of_nonneg ha.1]
    exact Int.bmod_eq_of_le (by omega) (by omega)
  rw [e1]
  exact hk
theorem gj_irem {a b : Int} (np : Nat) (hd : decode Y.2.1 pc = .ok (.irem, 1)) (hp : pc + 1 = np) (ha : 0 ≤ a ∧ a ≤ 2147483647) (hb : 0 < b ∧ b ≤ 2147483647) (kk : gj_G xt Y S k n np lv (gI (a % b) :: st) M Q) : gj_G xt Y S k n pc lv (gI b :: gI a :: st) M Q := by
  subst hp
  intro p l e s m args below meth c H locs ls ad cA cZ D A Z hC hW hL hR
  have hk := kk p l e s m args below meth c H locs ls ad cA cZ D A Z hC hW hL hR
  have ha' : gj_in a := ⟨by omega, by omega⟩
  have hb' : gj_in b := ⟨by omega, by omega⟩
  have hne : ¬ Int32.ofInt b = 0 := by rw [← gj_0, gj_eq hb' ⟨by omega, by omega⟩]; omega
  refine lv_irem hC.1 hC.2.1 hd hne ?_
  have e1 : Int32.ofInt a / Int32.ofInt b = Int32.ofInt (a / b) := by
    have h1 : 0 ≤ a / b := Int.ediv_nonneg ha.1 (by omega)
    have h2 : a / b ≤ a := Int.ediv_le_self _ ha.1
    rw [← Int32.toInt_inj, Int32.toInt_div, gj_ti ha', gj_ti hb', gj_ti ⟨by omega, by omega⟩, Int.tdiv_eq_ediv_of_nonneg ha.1]
    exact Int.bmod_eq_of_le (by omega) (by omega)
  have e2 : a % b = a - a / b * b := by rw [Int.emod_def, Int.mul_comm]
  rw [e1, ← Int32.ofInt_mul, ← Int32.ofInt_sub, ← e2]
  exact hk
theorem gj_ior {a b : Int} (np : Nat) (hd : decode Y.2.1 pc = .ok (.ior, 1)) (hp : pc + 1 = np) (kk : gj_G xt Y S k n np lv (gI (Int32.ofInt a ||| Int32.ofInt b).toInt :: st) M Q) : gj_G xt Y S k n pc lv (gI b :: gI a :: st) M Q := by
  subst hp
  intro p l e s m args below meth c H locs ls ad cA cZ D A Z hC hW hL hR
  have hk := kk p l e s m args below meth c H locs ls ad cA cZ D A Z hC hW hL hR
  refine lv_ior hC.1 hC.2.1 hd ?_
  rw [← Int32.ofInt_toInt (Int32.ofInt a ||| Int32.ofInt b)]
  exact hk
theorem gj_iand {a b : Int} (np : Nat) (hd : decode Y.2.1 pc = .ok (.iand, 1)) (hp : pc + 1 = np) (kk : gj_G xt Y S k n np lv (gI (Int32.ofInt a &&& Int32.ofInt b).toInt :: st) M Q) : gj_G xt Y S k n pc lv (gI b :: gI a :: st) M Q := by
  subst hp
  intro p l e s m args below meth c H locs ls ad cA cZ D A Z hC hW hL hR
  have hk := kk p l e s m args below meth c H locs ls ad cA cZ D A Z hC hW hL hR
  refine lv_iand hC.1 hC.2.1 hd ?_
  rw [← Int32.ofInt_toInt (Int32.ofInt a &&& Int32.ofInt b)]
  exact hk
theorem gj_dup {v : gj_V} (np : Nat) (hd : decode Y.2.1 pc = .ok (.dup, 1)) (hp : pc + 1 = np) (hv : ∀ ad, (gj_c ad v).category = 1) (kk : gj_G xt Y S k n np lv (v :: v :: st) M Q) : gj_G xt Y S k n pc lv (v :: st) M Q := by
  subst hp
  intro p l e s m args below meth c H locs ls ad cA cZ D A Z hC hW hL hR
  exact lv_dup hC.1 hC.2.1 hd (hv ad) (kk p l e s m args below meth c H locs ls ad cA cZ D A Z hC hW hL hR)
theorem gj_dup2 {v w : gj_V} (np : Nat) (hd : decode Y.2.1 pc = .ok (.dup2, 1)) (hp : pc + 1 = np) (hv : ∀ ad, (gj_c ad v).category = 1) (hw : ∀ ad, (gj_c ad w).category = 1) (kk : gj_G xt Y S k n np lv (v :: w :: v :: w :: st) M Q) : gj_G xt Y S k n pc lv (v :: w :: st) M Q := by
  subst hp
  intro p l e s m args below meth c H locs ls ad cA cZ D A Z hC hW hL hR
  exact lv_dup2_11 hC.1 hC.2.1 hd (hv ad) (hw ad) (kk p l e s m args below meth c H locs ls ad cA cZ D A Z hC hW hL hR)
theorem gj_pop {v : gj_V} (np : Nat) (hd : decode Y.2.1 pc = .ok (.pop, 1)) (hp : pc + 1 = np) (hv : ∀ ad, (gj_c ad v).category = 1) (kk : gj_G xt Y S k n np lv st M Q) : gj_G xt Y S k n pc lv (v :: st) M Q := by
  subst hp
  intro p l e s m args below meth c H locs ls ad cA cZ D A Z hC hW hL hR
  exact lv_pop hC.1 hC.2.1 hd (hv ad) (kk p l e s m args below meth c H locs ls ad cA cZ D A Z hC hW hL hR)
theorem gj_goto {off : Int} (np : Nat) (hd : decode Y.2.1 pc = .ok (.goto off, 3)) (hp : (pc : Int) + off = (np : Int)) (kk : gj_G xt Y S k n np lv st M Q) : gj_G xt Y S k n pc lv st M Q := by
  intro p l e s m args below meth c H locs ls ad cA cZ D A Z hC hW hL hR
  exact lv_goto hC.1 hC.2.1 hd hp (kk p l e s m args below meth c H locs ls ad cA cZ D A Z hC hW hL hR)
end GR
