def gj_k (ci : Nat) (C : String) (T : u_T) (N : Nat) (ty : Nat → FieldType) : Prop := vwCl[ci]? = some (C, T, N) ∧ (∀ w ∈ u_ws C T N, w ∈ gj_tb) ∧ (∀ k, k < N → parseFieldDescriptor (T k).2.2.1 = some (ty k)) ∧ (∀ a, a < N → ∀ b, b < N → a ≠ b → (T a).2.1 ≠ (T b).2.1)
def gj_fl (own : String) (idx ci j : Nat) (z : Int) : Prop := ∃ C T N ty, gj_k ci C T N ty ∧ j < N ∧ (j : Int) = z ∧ Cond.fieldLink own idx (T j).1 (T j).2.1 (T j).2.2.1 ∈ gj_tb
def gj_fw (own : String) (idx ci j : Nat) (z : Int) (t : FieldType) (fin : Bool) : Prop := ∃ C T N ty, gj_k ci C T N ty ∧ j < N ∧ (j : Int) = z ∧ Cond.fieldLink own idx (T j).1 (T j).2.1 (T j).2.2.1 ∈ gj_tb ∧ (T j).2.2.2 = fin ∧ parseFieldDescriptor (T j).2.2.1 = some t ∧ (fin = true → (T j).1 = own)
theorem gj_hl {S : List gj_H} {h : Nat} {x : gj_H} (hs : S[h]? = some x) (hn : S.length ≤ 1000) : h < 1000 := Nat.lt_of_lt_of_le (List.getElem?_eq_some_iff.mp hs).1 hn
theorem gj_u_o {M : gj_M} {h j : Nat} {i v x : Int} (hne : j ≠ h) : gj_u M h i v j x = M j x := if_neg (fun q => hne q.1)
section GH
variable {xt : Nat × (Nat → Int)} {Y : gj_Y} {S : List gj_H} {k n pc : Nat} {lv lv' : List (Option gj_V)} {st : List gj_V} {M : gj_M} {Q : Option gj_V → List gj_H → gj_M → Prop}
theorem gj_getfi {h ci idx j : Nat} {z : Int} {fs : List Nat} (np : Nat) (hd : decode Y.2.1 pc = .ok (.getfield idx, 3)) (hp : pc + 3 = np) (hl : gj_fl Y.1.cls idx ci j z) (hs : S[h]? = some (.inl (ci, fs))) (hf : fs[j]? = some 0) (kk : gj_in (M h z) → gj_G xt Y S k n np lv (gI (M h z) :: st) M Q) : gj_G xt Y S k n pc lv (gR h :: st) M Q := by
  subst hp
  obtain ⟨C, T, N, ty, ⟨h1, h2, h3, h4⟩, hj, rfl, hlk⟩ := hl
  intro p l e s m args below meth c H locs ls ad cA cZ D A Z hC hW hL hR
  have hh := gj_hl hs hW.2.2.2.2.2
  refine va_get hC.1 hC.2.1 hC.2.2.2.2.1 h2 hC.2.2.2.1 hW.2.2.1 hW.1 h (gj_w_at hs) h1 j hj (hC.2.2.2.2.1 _ hlk) (fun _ q => q) (v := .int (Int32.ofInt (M h j))) ?_ hd (kk (hW.2.2.2.2.1 h (by omega) j) p l e s m args below meth c H locs ls ad cA cZ D A Z hC hW hL hR)
  rw [gj_fs_get, hf, Nat.zero_add]
  rfl
theorem gj_getfl {h ci idx j : Nat} {z : Int} {fs : List Nat} (np : Nat) (hd : decode Y.2.1 pc = .ok (.getfield idx, 3)) (hp : pc + 3 = np) (hl : gj_fl Y.1.cls idx ci j z) (hs : S[h]? = some (.inl (ci, fs))) (hf : fs[j]? = some 1) (kk : gj_G xt Y S k n np lv (gL (M (h + 5000) z) :: st) M Q) : gj_G xt Y S k n pc lv (gR h :: st) M Q := by
  subst hp
  obtain ⟨C, T, N, ty, ⟨h1, h2, h3, h4⟩, hj, rfl, hlk⟩ := hl
  intro p l e s m args below meth c H locs ls ad cA cZ D A Z hC hW hL hR
  refine va_get hC.1 hC.2.1 hC.2.2.2.2.1 h2 hC.2.2.2.1 hW.2.2.1 hW.1 h (gj_w_at hs) h1 j hj (hC.2.2.2.2.1 _ hlk) (fun _ q => q) (v := .long (Int64.ofInt (M (h + 5000) j))) ?_ hd (kk p l e s m args below meth c H locs ls ad cA cZ D A Z hC hW hL hR)
  rw [gj_fs_get, hf, Nat.zero_add]
  rfl
theorem gj_getfr {h g ci idx j : Nat} {z : Int} {fs : List Nat} (np : Nat) (hd : decode Y.2.1 pc = .ok (.getfield idx, 3)) (hp : pc + 3 = np) (hl : gj_fl Y.1.cls idx ci j z) (hs : S[h]? = some (.inl (ci, fs))) (hf : fs[j]? = some (g + 3)) (kk : gj_G xt Y S k n np lv (gR g :: st) M Q) : gj_G xt Y S k n pc lv (gR h :: st) M Q := by
  subst hp
  obtain ⟨C, T, N, ty, ⟨h1, h2, h3, h4⟩, hj, rfl, hlk⟩ := hl
  intro p l e s m args below meth c H locs ls ad cA cZ D A Z hC hW hL hR
  refine va_get hC.1 hC.2.1 hC.2.2.2.2.1 h2 hC.2.2.2.1 hW.2.2.1 hW.1 h (gj_w_at hs) h1 j hj (hC.2.2.2.2.1 _ hlk) (fun _ q => q) (v := .ref (ad g)) ?_ hd (kk p l e s m args below meth c H locs ls ad cA cZ D A Z hC hW hL hR)
  rw [gj_fs_get, hf, Nat.zero_add]
  rfl
theorem gj_putfi {h ci idx j : Nat} {z a : Int} {fs : List Nat} (np : Nat) (hd : decode Y.2.1 pc = .ok (.putfield idx, 3)) (hp : pc + 3 = np) (hl : gj_fw Y.1.cls idx ci j z .int false) (hs : S[h]? = some (.inl (ci, fs))) (hf : fs[j]? = some 0) (hr : gj_in a) (kk : gj_G xt Y S k n np lv st (gj_u M h z a) Q) : gj_G xt Y S k n pc lv (gI a :: gR h :: st) M Q := by
  subst hp
  obtain ⟨C, T, N, ty, ⟨h1, h2, h3, h4⟩, hj, rfl, hlk, hfin, hpd, -⟩ := hl
  intro p l e s m args below meth c H locs ls ad cA cZ D A Z hC hW hL hR
  obtain ⟨hP, hD, hK, hS, hRm, hSl⟩ := hW
  have hh := gj_hl hs hSl
  have e1 : (gj_w ad cA cZ M 0 S).set h (ad h, .inr (ci, (gj_fs ad M h 0 fs).set j (.int (Int32.ofInt a)))) = gj_w ad cA cZ (gj_u M h j a) 0 S := by
    refine gj_w_set hs ?_ (fun j' x hne _ => gj_e_o (fun i => gj_u_o hne) (fun i => gj_u_o (by omega)))
    show Sum.inr (ci, gj_fs ad (gj_u M h j a) h 0 fs) = Sum.inr (ci, _)
    rw [gj_fs_set (M' := gj_u M h j a) fs 0 j hf (by simp [gj_fv, gj_u]) (fun i g hne _ _ => ?_)]
    match g with
    | 0 => simp only [gj_fv, gj_u]; rw [if_neg (by omega)]
    | 1 => simp only [gj_fv, gj_u]; rw [if_neg (by omega)]
    | 2 => rfl
    | g + 3 => rfl
  refine va_put hC.1 hC.2.1 hC.2.2.2.2.1 h2 ty h3 h4 hC.2.2.2.1 hK hP hD hS h (gj_w_at hs) h1 j hj (hC.2.2.2.2.1 _ hlk) (fun _ q => q) hfin (v := .int (Int32.ofInt a)) hpd rfl rfl (by rw [gj_fs_len]; exact (List.getElem?_eq_some_iff.mp hf).1) hd (fun H1 locs1 hP1 hD1 hS1 => ?_)
  rw [e1] at hP1 hD1
  exact kk p l e s m args below meth c H1 locs1 ls ad cA cZ D A Z hC ⟨hP1, hD1, hK, hS1, hRm.u h j hr, hSl⟩ hL hR
theorem gj_putfl {h ci idx j : Nat} {z a : Int} {fs : List Nat} (np : Nat) (hd : decode Y.2.1 pc = .ok (.putfield idx, 3)) (hp : pc + 3 = np) (hl : gj_fw Y.1.cls idx ci j z .long false) (hs : S[h]? = some (.inl (ci, fs))) (hf : fs[j]? = some 1) (kk : gj_G xt Y S k n np lv st (gj_u M (h + 5000) z a) Q) : gj_G xt Y S k n pc lv (gL a :: gR h :: st) M Q := by
  subst hp
  obtain ⟨C, T, N, ty, ⟨h1, h2, h3, h4⟩, hj, rfl, hlk, hfin, hpd, -⟩ := hl
  intro p l e s m args below meth c H locs ls ad cA cZ D A Z hC hW hL hR
  obtain ⟨hP, hD, hK, hS, hRm, hSl⟩ := hW
  have hh := gj_hl hs hSl
  have e1 : (gj_w ad cA cZ M 0 S).set h (ad h, .inr (ci, (gj_fs ad M h 0 fs).set j (.long (Int64.ofInt a)))) = gj_w ad cA cZ (gj_u M (h + 5000) j a) 0 S := by
    refine gj_w_set hs ?_ (fun j' x hne hx => gj_e_o (fun i => gj_u_o (by have := gj_hl hx hSl; omega)) (fun i => gj_u_o (by omega)))
    show Sum.inr (ci, gj_fs ad (gj_u M (h + 5000) j a) h 0 fs) = Sum.inr (ci, _)
    rw [gj_fs_set (M' := gj_u M (h + 5000) j a) fs 0 j hf (by simp [gj_fv, gj_u]) (fun i g hne _ _ => ?_)]
    match g with
    | 0 => simp only [gj_fv, gj_u]; rw [if_neg (by omega)]
    | 1 => simp only [gj_fv, gj_u]; rw [if_neg (by omega)]
    | 2 => rfl
    | g + 3 => rfl
  refine va_put hC.1 hC.2.1 hC.2.2.2.2.1 h2 ty h3 h4 hC.2.2.2.1 hK hP hD hS h (gj_w_at hs) h1 j hj (hC.2.2.2.2.1 _ hlk) (fun _ q => q) hfin (v := .long (Int64.ofInt a)) hpd rfl rfl (by rw [gj_fs_len]; exact (List.getElem?_eq_some_iff.mp hf).1) hd (fun H1 locs1 hP1 hD1 hS1 => ?_)
  rw [e1] at hP1 hD1
  exact kk p l e s m args below meth c H1 locs1 ls ad cA cZ D A Z hC ⟨hP1, hD1, hK, hS1, hRm.uL h j a, hSl⟩ hL hR
/-! arrays -/
theorem gj_iald {h N : Nat} {i : Int} (np : Nat) (hd : decode Y.2.1 pc = .ok (.iaload, 1)) (hp : pc + 1 = np) (hs : S[h]? = some (.inr (false, N))) (hi : 0 ≤ i ∧ i < N) (hr : gj_in i) (kk : gj_in (M h i) → gj_G xt Y S k n np lv (gI (M h i) :: st) M Q) : gj_G xt Y S k n pc lv (gI i :: gR h :: st) M Q := by
  subst hp
  intro p l e s m args below meth c H locs ls ad cA cZ D A Z hC hW hL hR
  have hh := gj_hl hs hW.2.2.2.2.2
  have hk := kk (hW.2.2.2.2.1 h (by omega) i) p l e s m args below meth c H locs ls ad cA cZ D A Z hC hW hL hR
  refine va_iald hC.1 hC.2.1 hW.2.2.1 hW.1 h 0 (gj_w_at hs) rfl (gj_vin hi hr) hd ?_
  rw [gj_cl hr]
  have e1 : ((i.toNat : Nat) : Int) = i := by omega
  show W p l e _ s m args below meth c H locs k n Z (F0 m (pc + 1) ls (.int (Int32.ofInt (M h ((i.toNat : Nat) : Int))) :: List.map (gj_c ad) st))
  rw [e1]
  exact hk
theorem gj_bald {h N : Nat} {i : Int} (np : Nat) (hd : decode Y.2.1 pc = .ok (.baload, 1)) (hp : pc + 1 = np) (hs : S[h]? = some (.inr (true, N))) (hi : 0 ≤ i ∧ i < N) (hr : gj_in i) (kk : gj_in (M h i) → gj_G xt Y S k n np lv (gI (M h i) :: st) M Q) : gj_G xt Y S k n pc lv (gI i :: gR h :: st) M Q := by
  subst hp
  intro p l e s m args below meth c H locs ls ad cA cZ D A Z hC hW hL hR
  have hh := gj_hl hs hW.2.2.2.2.2
  have hk := kk (hW.2.2.2.2.1 h (by omega) i) p l e s m args below meth c H locs ls ad cA cZ D A Z hC hW hL hR
  refine va_zald hC.1 hC.2.1 hW.2.2.1 hW.1 h 1 (gj_w_at hs) rfl (gj_vin hi hr) hd ?_
  rw [gj_cl hr]
  have e1 : ((i.toNat : Nat) : Int) = i := by omega
  show W p l e _ s m args below meth c H locs k n Z (F0 m (pc + 1) ls (.int (Int32.ofInt (M h ((i.toNat : Nat) : Int))) :: List.map (gj_c ad) st))
  rw [e1]
  exact hk
theorem gj_up_eq (M : gj_M) (h : Nat) {i : Int} (a : Int) (hi : 0 ≤ i) : upd (fun x : Nat => Int32.ofInt (M h x)) i.toNat (Int32.ofInt a) = fun x : Nat => Int32.ofInt (gj_u M h i a h x) := by
  funext x
  unfold upd gj_u
  by_cases q : x = i.toNat
  · rw [if_pos q, if_pos ⟨rfl, by omega⟩]
  · rw [if_neg q, if_neg (by omega)]
theorem gj_iast {h N : Nat} {i a : Int} (np : Nat) (hd : decode Y.2.1 pc = .ok (.iastore, 1)) (hp : pc + 1 = np) (hs : S[h]? = some (.inr (false, N))) (hi : 0 ≤ i ∧ i < N) (hr : gj_in i) (ha : gj_in a) (kk : gj_G xt Y S k n np lv st (gj_u M h i a) Q) : gj_G xt Y S k n pc lv (gI a :: gI i :: gR h :: st) M Q := by
  subst hp
  intro p l e s m args below meth c H locs ls ad cA cZ D A Z hC hW hL hR
  obtain ⟨hP, hD, hK, hS, hRm, hSl⟩ := hW
  have hh := gj_hl hs hSl
  refine va_iast hC.1 hC.2.1 hK hP hD hS h 0 (gj_w_at hs) rfl (gj_vin hi hr) hd (fun H1 locs1 hP1 hD1 hS1 => ?_)
  have e1 : (gj_w ad cA cZ M 0 S).set h (ad h, .inl (cA, N, .inl (upd (fun x : Nat => Int32.ofInt (M h x)) (Int32.ofInt i).toNatClampNeg (Int32.ofInt a)))) = gj_w ad cA cZ (gj_u M h i a) 0 S := by
    rw [gj_cl hr, gj_up_eq M h a hi.1]
    exact gj_w_set hs rfl (fun j' x hne _ => gj_e_o (fun i => gj_u_o hne) (fun i => gj_u_o (by omega)))
  have hP2 : va_P D vwCl ((gj_w ad cA cZ M 0 S).set h (ad h, .inl (cA, N, .inl (upd (fun x : Nat => Int32.ofInt (M h x)) (Int32.ofInt i).toNatClampNeg (Int32.ofInt a))))) H1 := hP1
  have hD2 : va_D A ((gj_w ad cA cZ M 0 S).set h (ad h, .inl (cA, N, .inl (upd (fun x : Nat => Int32.ofInt (M h x)) (Int32.ofInt i).toNatClampNeg (Int32.ofInt a))))) := hD1
  rw [e1] at hP2 hD2
  exact kk p l e s m args below meth c H1 locs1 ls ad cA cZ D A Z hC ⟨hP2, hD2, hK, hS1, hRm.u h i ha, hSl⟩ hL hR
theorem gj_nar {a : Int} (h : a = 0 ∨ a = 1) : vp_nar .boolean (Int32.ofInt a) = Int32.ofInt a := by
  rcases h with rfl | rfl <;> decide
theorem gj_bast {h N : Nat} {i a : Int} (np : Nat) (hd : decode Y.2.1 pc = .ok (.bastore, 1)) (hp : pc + 1 = np) (hs : S[h]? = some (.inr (true, N))) (hi : 0 ≤ i ∧ i < N) (hr : gj_in i) (ha : a = 0 ∨ a = 1) (kk : gj_G xt Y S k n np lv st (gj_u M h i a) Q) : gj_G xt Y S k n pc lv (gI a :: gI i :: gR h :: st) M Q := by
  subst hp
  intro p l e s m args below meth c H locs ls ad cA cZ D A Z hC hW hL hR
  obtain ⟨hP, hD, hK, hS, hRm, hSl⟩ := hW
  have hh := gj_hl hs hSl
  refine va_zast hC.1 hC.2.1 hK hP hD hS h 1 (gj_w_at hs) rfl (gj_vin hi hr) hd (fun H1 locs1 hP1 hD1 hS1 => ?_)
  have e1 : (gj_w ad cA cZ M 0 S).set h (ad h, .inl (cZ, N, .inl (upd (fun x : Nat => Int32.ofInt (M h x)) (Int32.ofInt i).toNatClampNeg (vp_nar .boolean (Int32.ofInt a))))) = gj_w ad cA cZ (gj_u M h i a) 0 S := by
    rw [gj_cl hr, gj_nar ha, gj_up_eq M h a hi.1]
    exact gj_w_set hs rfl (fun j' x hne _ => gj_e_o (fun i => gj_u_o hne) (fun i => gj_u_o (by omega)))
  have hP2 : va_P D vwCl ((gj_w ad cA cZ M 0 S).set h (ad h, .inl (cZ, N, .inl (upd (fun x : Nat => Int32.ofInt (M h x)) (Int32.ofInt i).toNatClampNeg (vp_nar .boolean (Int32.ofInt a)))))) H1 := hP1
  have hD2 : va_D A ((gj_w ad cA cZ M 0 S).set h (ad h, .inl (cZ, N, .inl (upd (fun x : Nat => Int32.ofInt (M h x)) (Int32.ofInt i).toNatClampNeg (vp_nar .boolean (Int32.ofInt a)))))) := hD1
  rw [e1] at hP2 hD2
  exact kk p l e s m args below meth c H1 locs1 ls ad cA cZ D A Z hC ⟨hP2, hD2, hK, hS1, hRm.u h i (by omega), hSl⟩ hL hR
theorem gj_alen {h N : Nat} {b : Bool} {z : Int} (np : Nat) (hd : decode Y.2.1 pc = .ok (.arraylength, 1)) (hp : pc + 1 = np) (hs : S[h]? = some (.inr (b, N))) (hz : (N : Int) = z) (kk : gj_G xt Y S k n np lv (gI z :: st) M Q) : gj_G xt Y S k n pc lv (gR h :: st) M Q := by
  subst hp
  subst hz
  intro p l e s m args below meth c H locs ls ad cA cZ D A Z hC hW hL hR
  have hk := kk p l e s m args below meth c H locs ls ad cA cZ D A Z hC hW hL hR
  cases b with
  | false => exact va_alen hC.1 hC.2.1 hW.2.2.1 hW.1 h 0 (gj_w_at hs) (ty := .int) rfl (v := Int32.ofInt N) (Int32.ofInt_eq_ofNat).symm hd hk
  | true => exact va_alen hC.1 hC.2.1 hW.2.2.1 hW.1 h 1 (gj_w_at hs) (ty := .boolean) rfl (v := Int32.ofInt N) (Int32.ofInt_eq_ofNat).symm hd hk
/-! the table of tens, the script -/
theorem gj_tld {i : Int} (np : Nat) (hd : decode Y.2.1 pc = .ok (.iaload, 1)) (hp : pc + 1 = np) (hi : 0 ≤ i ∧ i < 5) (kk : gj_G xt Y S k n np lv (gI (gj_tens i.toNat) :: st) M Q) : gj_G xt Y S k n pc lv (gI i :: gR 1000 :: st) M Q := by
  subst hp
  intro p l e s m args below meth c H locs ls ad cA cZ D A Z hC hW hL hR
  have hr : gj_in i := ⟨by omega, by omega⟩
  exact va_ti hC.1 hC.2.1 hC.2.2.2.2.2.2.2.2.1 hW.2.2.2.1 (gj_vin hi hr) (by rw [gj_cl hr]; rfl) hd (kk p l e s m args below meth c H locs ls ad cA cZ D A Z hC hW hL hR)
theorem gj_tln (np : Nat) (hd : decode Y.2.1 pc = .ok (.arraylength, 1)) (hp : pc + 1 = np) (kk : gj_G xt Y S k n np lv (gI 5 :: st) M Q) : gj_G xt Y S k n pc lv (gR 1000 :: st) M Q := by
  subst hp
  intro p l e s m args below meth c H locs ls ad cA cZ D A Z hC hW hL hR
  exact va_tlen hC.1 hC.2.1 hC.2.2.2.2.2.2.2.2.1 hW.2.2.2.1 (by decide) hd (kk p l e s m args below meth c H locs ls ad cA cZ D A Z hC hW hL hR)
theorem gj_xld {i : Int} (np : Nat) (hd : decode Y.2.1 pc = .ok (.iaload, 1)) (hp : pc + 1 = np) (hi : 0 ≤ i ∧ i < xt.1) (hr : gj_in i) (kk : gj_G xt Y S k n np lv (gI (xt.2 i.toNat) :: st) M Q) : gj_G xt Y S k n pc lv (gI i :: gR 1001 :: st) M Q := by
  subst hp
  intro p l e s m args below meth c H locs ls ad cA cZ D A Z hC hW hL hR
  exact va_ti hC.1 hC.2.1 hC.2.2.2.2.2.2.2.2.2.1 hW.2.2.2.1 (gj_vin hi hr) (by rw [gj_cl hr]; rfl) hd (kk p l e s m args below meth c H locs ls ad cA cZ D A Z hC hW hL hR)
theorem gj_xln {z : Int} (np : Nat) (hd : decode Y.2.1 pc = .ok (.arraylength, 1)) (hp : pc + 1 = np) (hz : (xt.1 : Int) = z) (kk : gj_G xt Y S k n np lv (gI z :: st) M Q) : gj_G xt Y S k n pc lv (gR 1001 :: st) M Q := by
  subst hp
  subst hz
  intro p l e s m args below meth c H locs ls ad cA cZ D A Z hC hW hL hR
  exact va_tlen hC.1 hC.2.1 hC.2.2.2.2.2.2.2.2.2.1 hW.2.2.2.1 (v := Int32.ofInt xt.1) (Int32.ofInt_eq_ofNat).symm hd (kk p l e s m args below meth c H locs ls ad cA cZ D A Z hC hW hL hR)
theorem gj_gets {idx : Nat} {host : String} (np : Nat) (hd : decode Y.2.1 pc = .ok (.getstatic idx, 3)) (hp : pc + 3 = np) (hl : Cond.fieldLinkNest Y.1.cls idx "CelSheets" "TENS" "[I" host ∈ gj_nb) (kk : gj_G xt Y S k n np lv (gR 1000 :: st) M Q) : gj_G xt Y S k n pc lv st M Q := by
  subst hp
  intro p l e s m args below meth c H locs ls ad cA cZ D A Z hC hW hL hR
  exact va_getsN hC.1 hC.2.1 hC.2.2.2.2.2.2.2.1 hW.2.2.2.1 hC.2.2.2.1 (va_Nw.use rfl (hC.2.2.2.2.2.2.2.2.2.2 _ hl)) (fun _ q => q) hd (kk p l e s m args below meth c H locs ls ad cA cZ D A Z hC hW hL hR)
end GH
