section GB
variable {xt : Nat × (Nat → Int)} {Y : gj_Y} {S : List gj_H} {k n pc : Nat} {lv lv' : List (Option gj_V)} {st : List gj_V} {M : gj_M} {Q : Option gj_V → List gj_H → gj_M → Prop}
theorem gj_icmp_eq {a b off : Int} (tp np : Nat) (hd : decode Y.2.1 pc = .ok (.if_icmp .eq off, 3)) (ht : (pc : Int) + off = (tp : Int)) (hp : pc + 3 = np) (ha : gj_in a) (hb : gj_in b) (kt : a = b → gj_G xt Y S k n tp lv st M Q) (kf : ¬ (a = b) → gj_G xt Y S k n np lv st M Q) : gj_G xt Y S k n pc lv (gI b :: gI a :: st) M Q := by
  subst hp
  intro p l e s m args below meth c H locs ls ad cA cZ D A Z hC hW hL hR
  have e1 : (Int32.ofInt a = Int32.ofInt b) ↔ (a = b) := by
    first | exact gj_eq ha hb | exact gj_lt ha hb | exact gj_lq hb ha | exact not_congr (gj_eq ha hb) | exact gj_lt hb ha | exact gj_lq ha hb
  exact lv_icmp_eq hC.1 hC.2.1 hd ht (fun h => kt (by first | exact e1.mp h | exact e1.mp (by simpa using h)) p l e s m args below meth c H locs ls ad cA cZ D A Z hC hW hL hR) (fun h => kf (by first | exact fun q => h (e1.mpr q) | exact fun q => (e1.mpr q) h | exact fun q => absurd (e1.mpr q) (by simpa using h)) p l e s m args below meth c H locs ls ad cA cZ D A Z hC hW hL hR)
theorem gj_icmp_ne {a b off : Int} (tp np : Nat) (hd : decode Y.2.1 pc = .ok (.if_icmp .ne off, 3)) (ht : (pc : Int) + off = (tp : Int)) (hp : pc + 3 = np) (ha : gj_in a) (hb : gj_in b) (kt : ¬ a = b → gj_G xt Y S k n tp lv st M Q) (kf : ¬ (¬ a = b) → gj_G xt Y S k n np lv st M Q) : gj_G xt Y S k n pc lv (gI b :: gI a :: st) M Q := by
  subst hp
  intro p l e s m args below meth c H locs ls ad cA cZ D A Z hC hW hL hR
  have e1 : (¬ Int32.ofInt a = Int32.ofInt b) ↔ (¬ a = b) := by
    first | exact gj_eq ha hb | exact gj_lt ha hb | exact gj_lq hb ha | exact not_congr (gj_eq ha hb) | exact gj_lt hb ha | exact gj_lq ha hb
  exact lv_icmp_ne hC.1 hC.2.1 hd ht (fun h => kt (by first | exact e1.mp h | exact e1.mp (by simpa using h)) p l e s m args below meth c H locs ls ad cA cZ D A Z hC hW hL hR) (fun h => kf (by first | exact fun q => h (e1.mpr q) | exact fun q => (e1.mpr q) h | exact fun q => absurd (e1.mpr q) (by simpa using h)) p l e s m args below meth c H locs ls ad cA cZ D A Z hC hW hL hR)
theorem gj_icmp_lt {a b off : Int} (tp np : Nat) (hd : decode Y.2.1 pc = .ok (.if_icmp .lt off, 3)) (ht : (pc : Int) + off = (tp : Int)) (hp : pc + 3 = np) (ha : gj_in a) (hb : gj_in b) (kt : a < b → gj_G xt Y S k n tp lv st M Q) (kf : ¬ (a < b) → gj_G xt Y S k n np lv st M Q) : gj_G xt Y S k n pc lv (gI b :: gI a :: st) M Q := by
  subst hp
  intro p l e s m args below meth c H locs ls ad cA cZ D A Z hC hW hL hR
  have e1 : (Int32.ofInt a < Int32.ofInt b) ↔ (a < b) := by
    first | exact gj_eq ha hb | exact gj_lt ha hb | exact gj_lq hb ha | exact not_congr (gj_eq ha hb) | exact gj_lt hb ha | exact gj_lq ha hb
  exact lv_icmp_lt hC.1 hC.2.1 hd ht (fun h => kt (by first | exact e1.mp h | exact e1.mp (by simpa using h)) p l e s m args below meth c H locs ls ad cA cZ D A Z hC hW hL hR) (fun h => kf (by first | exact fun q => h (e1.mpr q) | exact fun q => (e1.mpr q) h | exact fun q => absurd (e1.mpr q) (by simpa using h)) p l e s m args below meth c H locs ls ad cA cZ D A Z hC hW hL hR)
theorem gj_icmp_ge {a b off : Int} (tp np : Nat) (hd : decode Y.2.1 pc = .ok (.if_icmp .ge off, 3)) (ht : (pc : Int) + off = (tp : Int)) (hp : pc + 3 = np) (ha : gj_in a) (hb : gj_in b) (kt : b ≤ a → gj_G xt Y S k n tp lv st M Q) (kf : ¬ (b ≤ a) → gj_G xt Y S k n np lv st M Q) : gj_G xt Y S k n pc lv (gI b :: gI a :: st) M Q := by
  subst hp
  intro p l e s m args below meth c H locs ls ad cA cZ D A Z hC hW hL hR
  have e1 : (Int32.ofInt b ≤ Int32.ofInt a) ↔ (b ≤ a) := by
    first | exact gj_eq ha hb | exact gj_lt ha hb | exact gj_lq hb ha | exact not_congr (gj_eq ha hb) | exact gj_lt hb ha | exact gj_lq ha hb
  exact lv_icmp_ge hC.1 hC.2.1 hd ht (fun h => kt (by first | exact e1.mp h | exact e1.mp (by simpa using h)) p l e s m args below meth c H locs ls ad cA cZ D A Z hC hW hL hR) (fun h => kf (by first | exact fun q => h (e1.mpr q) | exact fun q => (e1.mpr q) h | exact fun q => absurd (e1.mpr q) (by simpa using h)) p l e s m args below meth c H locs ls ad cA cZ D A Z hC hW hL hR)
theorem gj_icmp_gt {a b off : Int} (tp np : Nat) (hd : decode Y.2.1 pc = .ok (.if_icmp .gt off, 3)) (ht : (pc : Int) + off = (tp : Int)) (hp : pc + 3 = np) (ha : gj_in a) (hb : gj_in b) (kt : b < a → gj_G xt Y S k n tp lv st M Q) (kf : ¬ (b < a) → gj_G xt Y S k n np lv st M Q) : gj_G xt Y S k n pc lv (gI b :: gI a :: st) M Q := by
  subst hp
  intro p l e s m args below meth c H locs ls ad cA cZ D A Z hC hW hL hR
  have e1 : (Int32.ofInt b < Int32.ofInt a) ↔ (b < a) := by
    first | exact gj_eq ha hb | exact gj_lt ha hb | exact gj_lq hb ha | exact not_congr (gj_eq ha hb) | exact gj_lt hb ha | exact gj_lq ha hb
  exact lv_icmp_gt hC.1 hC.2.1 hd ht (fun h => kt (by first | exact e1.mp h | exact e1.mp (by simpa using h)) p l e s m args below meth c H locs ls ad cA cZ D A Z hC hW hL hR) (fun h => kf (by first | exact fun q => h (e1.mpr q) | exact fun q => (e1.mpr q) h | exact fun q => absurd (e1.mpr q) (by simpa using h)) p l e s m args below meth c H locs ls ad cA cZ D A Z hC hW hL hR)
theorem gj_icmp_le {a b off : Int} (tp np : Nat) (hd : decode Y.2.1 pc = .ok (.if_icmp .le off, 3)) (ht : (pc : Int) + off = (tp : Int)) (hp : pc + 3 = np) (ha : gj_in a) (hb : gj_in b) (kt : a ≤ b → gj_G xt Y S k n tp lv st M Q) (kf : ¬ (a ≤ b) → gj_G xt Y S k n np lv st M Q) : gj_G xt Y S k n pc lv (gI b :: gI a :: st) M Q := by
  subst hp
  intro p l e s m args below meth c H locs ls ad cA cZ D A Z hC hW hL hR
  have e1 : (Int32.ofInt a ≤ Int32.ofInt b) ↔ (a ≤ b) := by
    first | exact gj_eq ha hb | exact gj_lt ha hb | exact gj_lq hb ha | exact not_congr (gj_eq ha hb) | exact gj_lt hb ha | exact gj_lq ha hb
  exact lv_icmp_le hC.1 hC.2.1 hd ht (fun h => kt (by first | exact e1.mp h | exact e1.mp (by simpa using h)) p l e s m args below meth c H locs ls ad cA cZ D A Z hC hW hL hR) (fun h => kf (by first | exact fun q => h (e1.mpr q) | exact fun q => (e1.mpr q) h | exact fun q => absurd (e1.mpr q) (by simpa using h)) p l e s m args below meth c H locs ls ad cA cZ D A Z hC hW hL hR)
theorem gj_if_eq {a off : Int} (tp np : Nat) (hd : decode Y.2.1 pc = .ok (.ifCond .eq off, 3)) (ht : (pc : Int) + off = (tp : Int)) (hp : pc + 3 = np) (ha : gj_in a) (kt : a = 0 → gj_G xt Y S k n tp lv st M Q) (kf : ¬ (a = 0) → gj_G xt Y S k n np lv st M Q) : gj_G xt Y S k n pc lv (gI a :: st) M Q := by
  subst hp
  intro p l e s m args below meth c H locs ls ad cA cZ D A Z hC hW hL hR
  have h0 : gj_in 0 := ⟨by omega, by omega⟩
  have e1 : (Int32.ofInt a = 0) ↔ (a = 0) := by
    rw [← gj_0]
    first | exact gj_eq ha h0 | exact gj_lt ha h0 | exact gj_lq h0 ha | exact not_congr (gj_eq ha h0) | exact gj_lt h0 ha | exact gj_lq ha h0
  exact lv_if_eq hC.1 hC.2.1 hd ht (fun h => kt (by first | exact e1.mp h | exact e1.mp (by simpa using h)) p l e s m args below meth c H locs ls ad cA cZ D A Z hC hW hL hR) (fun h => kf (by first | exact fun q => h (e1.mpr q) | exact fun q => (e1.mpr q) h | exact fun q => absurd (e1.mpr q) (by simpa using h)) p l e s m args below meth c H locs ls ad cA cZ D A Z hC hW hL hR)
theorem gj_if_ne {a off : Int} (tp np : Nat) (hd : decode Y.2.1 pc = .ok (.ifCond .ne off, 3)) (ht : (pc : Int) + off = (tp : Int)) (hp : pc + 3 = np) (ha : gj_in a) (kt : ¬ a = 0 → gj_G xt Y S k n tp lv st M Q) (kf : ¬ (¬ a = 0) → gj_G xt Y S k n np lv st M Q) : gj_G xt Y S k n pc lv (gI a :: st) M Q := by
  subst hp
  intro p l e s m args below meth c H locs ls ad cA cZ D A Z hC hW hL hR
  have h0 : gj_in 0 := ⟨by omega, by omega⟩
  have e1 : (¬ Int32.ofInt a = 0) ↔ (¬ a = 0) := by
    rw [← gj_0]
    first | exact gj_eq ha h0 | exact gj_lt ha h0 | exact gj_lq h0 ha | exact not_congr (gj_eq ha h0) | exact gj_lt h0 ha | exact gj_lq ha h0
  exact lv_if_ne hC.1 hC.2.1 hd ht (fun h => kt (by first | exact e1.mp h | exact e1.mp (by simpa using h)) p l e s m args below meth c H locs ls ad cA cZ D A Z hC hW hL hR) (fun h => kf (by first | exact fun q => h (e1.mpr q) | exact fun q => (e1.mpr q) h | exact fun q => absurd (e1.mpr q) (by simpa using h)) p l e s m args below meth c H locs ls ad cA cZ D A Z hC hW hL hR)
theorem gj_if_lt {a off : Int} (tp np : Nat) (hd : decode Y.2.1 pc = .ok (.ifCond .lt off, 3)) (ht : (pc : Int) + off = (tp : Int)) (hp : pc + 3 = np) (ha : gj_in a) (kt : a < 0 → gj_G xt Y S k n tp lv st M Q) (kf : ¬ (a < 0) → gj_G xt Y S k n np lv st M Q) : gj_G xt Y S k n pc lv (gI a :: st) M Q := by
  subst hp
  intro p l e s m args below meth c H locs ls ad cA cZ D A Z hC hW hL hR
  have h0 : gj_in 0 := ⟨by omega, by omega⟩
  have e1 : (Int32.ofInt a < 0) ↔ (a < 0) := by
    rw [← gj_0]
    first | exact gj_eq ha h0 | exact gj_lt ha h0 | exact gj_lq h0 ha | exact not_congr (gj_eq ha h0) | exact gj_lt h0 ha | exact gj_lq ha h0
  exact lv_if_lt hC.1 hC.2.1 hd ht (fun h => kt (by first | exact e1.mp h | exact e1.mp (by simpa using h)) p l e s m args below meth c H locs ls ad cA cZ D A Z hC hW hL hR) (fun h => kf (by first | exact fun q => h (e1.mpr q) | exact fun q => (e1.mpr q) h | exact fun q => absurd (e1.mpr q) (by simpa using h)) p l e s m args below meth c H locs ls ad cA cZ D A Z hC hW hL hR)
theorem gj_if_ge {a off : Int} (tp np : Nat) (hd : decode Y.2.1 pc = .ok (.ifCond .ge off, 3)) (ht : (pc : Int) + off = (tp : Int)) (hp : pc + 3 = np) (ha : gj_in a) (kt : 0 ≤ a → gj_G xt Y S k n tp lv st M Q) (kf : ¬ (0 ≤ a) → gj_G xt Y S k n np lv st M Q) : gj_G xt Y S k n pc lv (gI a :: st) M Q := by
  subst hp
  intro p l e s m args below meth c H locs ls ad cA cZ D A Z hC hW hL hR
  have h0 : gj_in 0 := ⟨by omega, by omega⟩
  have e1 : (0 ≤ Int32.ofInt a) ↔ (0 ≤ a) := by
    rw [← gj_0]
    first | exact gj_eq ha h0 | exact gj_lt ha h0 | exact gj_lq h0 ha | exact not_congr (gj_eq ha h0) | exact gj_lt h0 ha | exact gj_lq ha h0
  exact lv_if_ge hC.1 hC.2.1 hd ht (fun h => kt (by first | exact e1.mp h | exact e1.mp (by simpa using h)) p l e s m args below meth c H locs ls ad cA cZ D A Z hC hW hL hR) (fun h => kf (by first | exact fun q => h (e1.mpr q) | exact fun q => (e1.mpr q) h | exact fun q => absurd (e1.mpr q) (by simpa using h)) p l e s m args below meth c H locs ls ad cA cZ D A Z hC hW hL hR)
theorem gj_if_gt {a off : Int} (tp np : Nat) (hd : decode Y.2.1 pc = .ok (.ifCond .gt off, 3)) (ht : (pc : Int) + off = (tp : Int)) (hp : pc + 3 = np) (ha : gj_in a) (kt : 0 < a → gj_G xt Y S k n tp lv st M Q) (kf : ¬ (0 < a) → gj_G xt Y S k n np lv st M Q) : gj_G xt Y S k n pc lv (gI a :: st) M Q := by
  subst hp
  intro p l e s m args below meth c H locs ls ad cA cZ D A Z hC hW hL hR
  have h0 : gj_in 0 := ⟨by omega, by omega⟩
  have e1 : (0 < Int32.ofInt a) ↔ (0 < a) := by
    rw [← gj_0]
    first | exact gj_eq ha h0 | exact gj_lt ha h0 | exact gj_lq h0 ha | exact not_congr (gj_eq ha h0) | exact gj_lt h0 ha | exact gj_lq ha h0
  exact lv_if_gt hC.1 hC.2.1 hd ht (fun h => kt (by first | exact e1.mp h | exact e1.mp (by simpa using h)) p l e s m args below meth c H locs ls ad cA cZ D A Z hC hW hL hR) (fun h => kf (by first | exact fun q => h (e1.mpr q) | exact fun q => (e1.mpr q) h | exact fun q => absurd (e1.mpr q) (by simpa using h)) p l e s m args below meth c H locs ls ad cA cZ D A Z hC hW hL hR)
theorem gj_if_le {a off : Int} (tp np : Nat) (hd : decode Y.2.1 pc = .ok (.ifCond .le off, 3)) (ht : (pc : Int) + off = (tp : Int)) (hp : pc + 3 = np) (ha : gj_in a) (kt : a ≤ 0 → gj_G xt Y S k n tp lv st M Q) (kf : ¬ (a ≤ 0) → gj_G xt Y S k n np lv st M Q) : gj_G xt Y S k n pc lv (gI a :: st) M Q := by
  subst hp
  intro p l e s m args below meth c H locs ls ad cA cZ D A Z hC hW hL hR
  have h0 : gj_in 0 := ⟨by omega, by omega⟩
  have e1 : (Int32.ofInt a ≤ 0) ↔ (a ≤ 0) := by
    rw [← gj_0]
    first | exact gj_eq ha h0 | exact gj_lt ha h0 | exact gj_lq h0 ha | exact not_congr (gj_eq ha h0) | exact gj_lt h0 ha | exact gj_lq ha h0
  exact lv_if_le hC.1 hC.2.1 hd ht (fun h => kt (by first | exact e1.mp h | exact e1.mp (by simpa using h)) p l e s m args below meth c H locs ls ad cA cZ D A Z hC hW hL hR) (fun h => kf (by first | exact fun q => h (e1.mpr q) | exact fun q => (e1.mpr q) h | exact fun q => absurd (e1.mpr q) (by simpa using h)) p l e s m args below meth c H locs ls ad cA cZ D A Z hC hW hL hR)
end GB
