/-! pure words, shared by the class and the reference -/
def p_sum (g : Nat → Int) : Nat → Int
  | 0 => 0
  | n + 1 => p_sum g n + g n
def p_first (v : Nat → Int) : Nat → Nat → Int
  | 0, _ => -9
  | n + 1, i => if v i = -9 then p_first v n (i + 1) else v i
/-- where a pan is -/
def p_pan (a b e : Int → Int) (q f : Int) : Int := if e q < 1 then a q else a q + b q * (f / e q)
/-- what a sheet tells -/
def p_ex (dl lg sh : Int → Int) (l f : Int) : Int := if f - dl l < 0 ∨ lg l ≤ f - dl l then -9 else sh (l * 48 + (f - dl l))
/-- which switch tells the order -/
def p_sf (fr : Int → Int) (f : Int) : Nat → Int
  | 0 => -1
  | n + 1 => if fr n ≤ f ∧ (p_sf fr f n < 0 ∨ fr (p_sf fr f n) ≤ fr n) then n else p_sf fr f n
def p_fo : Nat → Int
  | 0 => 0
  | n + 1 => p_fo n * 10 + n
def p_or (L : Int) (sw : Int) (fr od : Int → Int) (f : Int) : Int := if 0 ≤ p_sf fr f sw.toNat then od (p_sf fr f sw.toNat) else p_fo L.toNat
/-- a figure of an order -/
def p_li (L o : Int) (i : Int) : Int := if L - 1 - i < 0 ∨ 5 ≤ L - 1 - i then 0 else o / gj_tens (L - 1 - i).toNat % 10
/-- whether a drawing on a level covers a window's column: 1 or 0 -/
def p_cw (D : Int) (xs ws a b e : Int → Int) (l d f c : Int) : Int := if (0 ≤ d ∧ d < D) ∧ xs d + p_pan a b e l f ≤ c + p_pan a b e 4 f ∧ c + p_pan a b e 4 f < xs d + p_pan a b e l f + ws d then 1 else 0
theorem p_cw_01 (D : Int) (xs ws a b e : Int → Int) (l d f c : Int) : p_cw D xs ws a b e l d f c = 0 ∨ p_cw D xs ws a b e l d f c = 1 := by
  unfold p_cw
  split <;> simp
theorem gj_tens_b (j : Nat) : 1 ≤ gj_tens j ∧ gj_tens j ≤ 10000 := by
  unfold gj_tens
  split <;> decide
theorem p_li_b {L o i : Int} (ho : 0 ≤ o) : 0 ≤ p_li L o i ∧ p_li L o i ≤ 9 := by
  unfold p_li
  split
  · decide
  · have h1 := Int.emod_nonneg (o / gj_tens (L - 1 - i).toNat) (by decide : (10 : Int) ≠ 0)
    have h2 := Int.emod_lt_of_pos (o / gj_tens (L - 1 - i).toNat) (by decide : (0 : Int) < 10)
    omega
theorem p_ex_cases (dl lg sh : Int → Int) (l f : Int) : p_ex dl lg sh l f = -9 ∨ (0 ≤ f - dl l ∧ f - dl l < lg l ∧ p_ex dl lg sh l f = sh (l * 48 + (f - dl l))) := by
  unfold p_ex
  split
  · exact Or.inl rfl
  · right
    refine ⟨by omega, by omega, rfl⟩
theorem p_pan_b {a b e : Int → Int} {q f : Int} (hf : 0 ≤ f ∧ f < 48) (ha : -9 ≤ a q ∧ a q ≤ 9) (hb : -3 ≤ b q ∧ b q ≤ 3) (he : 1 ≤ e q ∧ e q ≤ 9) : -150 ≤ p_pan a b e q f ∧ p_pan a b e q f ≤ 150 := by
  unfold p_pan
  rw [if_neg (by omega)]
  have h1 : 0 ≤ f / e q := Int.ediv_nonneg hf.1 (by omega)
  have h2 : f / e q ≤ f := Int.ediv_le_self _ hf.1
  generalize f / e q = z at *
  have h3 : b q = -3 ∨ b q = -2 ∨ b q = -1 ∨ b q = 0 ∨ b q = 1 ∨ b q = 2 ∨ b q = 3 := by omega
  rcases h3 with h | h | h | h | h | h | h <;> rw [h] <;> omega
def p_va (L D o : Int) (dl lg sh xs ws a b e : Int → Int) (f c rub : Int) (i : Nat) : Int := if p_ex dl lg sh (p_li L o i) f ≠ rub ∧ p_cw D xs ws a b e (p_li L o i) (p_ex dl lg sh (p_li L o i) f) f c = 1 then 10 * p_li L o i + p_ex dl lg sh (p_li L o i) f else -9
theorem p_sf_lo (fr : Int → Int) (f : Int) : ∀ n, -1 ≤ p_sf fr f n ∧ p_sf fr f n < n := by
  intro n
  induction n with
  | zero => simp [p_sf]
  | succ n ih =>
    simp only [p_sf]
    split
    · omega
    · omega
theorem gj_lvE {xt : Nat × (Nat → Int)} {Y : gj_Y} {S : List gj_H} {k n pc : Nat} {lv lv' : List (Option gj_V)} {st : List gj_V} {M : gj_M} {Q : Option gj_V → List gj_H → gj_M → Prop} (h : lv = lv') (kk : gj_G xt Y S k n pc lv' st M Q) : gj_G xt Y S k n pc lv st M Q := h ▸ kk
/-- memory outside some cells is as it was -/
def gj_E (hs : List Nat) (M M' : gj_M) : Prop := ∀ h : Nat, h ∉ hs → ∀ i : Int, M' h i = M h i
theorem gj_E.rf {hs : List Nat} {M : gj_M} : gj_E hs M M := fun _ _ _ => rfl
theorem gj_E.tr {hs : List Nat} {M M' M'' : gj_M} (h : gj_E hs M M') (g : gj_E hs M' M'') : gj_E hs M M'' := fun x hx i => (g x hx i).trans (h x hx i)
theorem gj_E.u {hs : List Nat} {M : gj_M} {h : Nat} {i v : Int} (hh : h ∈ hs) : gj_E hs M (gj_u M h i v) := fun x hx j => gj_u_o (fun e => hx (e ▸ hh))
theorem gj_E.mono {hs hs' : List Nat} {M M' : gj_M} (h : gj_E hs M M') (hh : ∀ x ∈ hs, x ∈ hs') : gj_E hs' M M' := fun x hx i => h x (fun q => hx (hh x q)) i
theorem gj_u_s {M : gj_M} {h : Nat} {i v : Int} : gj_u M h i v h i = v := if_pos ⟨rfl, rfl⟩
theorem gj_u_i {M : gj_M} {h h' : Nat} {i i' v : Int} (hne : i' ≠ i) : gj_u M h i v h' i' = M h' i' := if_neg (fun q => hne q.2)
theorem gj_wk {xt : Nat × (Nat → Int)} {Y : gj_Y} {S : List gj_H} {k n pc : Nat} {lv lv' : List (Option gj_V)} {st : List gj_V} {M : gj_M} {Q : Option gj_V → List gj_H → gj_M → Prop} (kk : gj_G xt Y S k n pc lv' st M Q) (hle : gj_le lv' lv) : gj_G xt Y S k n pc lv st M Q := gj_drop lv' hle kk
theorem gj_rg {xt : Nat × (Nat → Int)} {Y : gj_Y} {S : List gj_H} {k n pc : Nat} {lv : List (Option gj_V)} {st : List gj_V} {M : gj_M} {Q : Option gj_V → List gj_H → gj_M → Prop} (kk : gj_R M → gj_G xt Y S k n pc lv st M Q) : gj_G xt Y S k n pc lv st M Q :=
  fun p l e s m args below meth c H locs ls ad cA cZ D A Z hC hW hL hR => kk hW.2.2.2.2.1 p l e s m args below meth c H locs ls ad cA cZ D A Z hC hW hL hR
theorem p_ex_in {dl lg sh : Int → Int} (h : ∀ i, gj_in (sh i)) (l f : Int) : gj_in (p_ex dl lg sh l f) := by
  unfold p_ex
  split
  · exact ⟨by omega, by omega⟩
  · exact h _
theorem p_first_stop {v : Nat → Int} {n i : Nat} (h : v i ≠ -9) : p_first v (n + 1) i = v i := if_neg h
theorem p_first_go {v : Nat → Int} {n i : Nat} (h : v i = -9) : p_first v (n + 1) i = p_first v n (i + 1) := if_pos h
