/-! pure words, shared by the class and the reference -/
def p_sum (g : Nat → Int) : Nat → Int
  | 0 => 0
  | n + 1 => p_sum g n + g n
def p_first (v : Nat → Int) : Nat → Nat → Int
  | 0, _ => -9
  | n + 1, i => if v i = -9 then p_first v n (i + 1) else v i
/-- where a pan is -/
def p_pan (a b e : Int → Int) (q f : Int) : Int := if e q < 1 then a q else a q + b q * (f / e q)
/-- what a sheet tells -/
def p_ex (dl lg sh : Int → Int) (l f : Int) : Int := if f - dl l < 0 ∨ lg l ≤ f - dl l then -9 else sh (l * 48 + (f - dl l))
/-- which switch tells the order -/
def p_sf (fr : Int → Int) (f : Int) : Nat → Int
  | 0 => -1
  | n + 1 => if fr n ≤ f ∧ (p_sf fr f n < 0 ∨ fr (p_sf fr f n) ≤ fr n) then n else p_sf fr f n
def p_fo : Nat → Int
  | 0 => 0
  | n + 1 => p_fo n * 10 + n
def p_or (L : Int) (sw : Int) (fr od : Int → Int) (f : Int) : Int := if 0 ≤ p_sf fr f sw.toNat then od (p_sf fr f sw.toNat) else p_fo L.toNat
/-- a figure of an order -/
def p_li (L o : Int) (i : Int) : Int := if L - 1 - i < 0 ∨ 5 ≤ L - 1 - i then 0 else o / gj_tens (L - 1 - i).toNat % 10
def p_cv (D : Int) (xs ws a b e : Int → Int) (l d f c : Int) : Prop := (0 ≤ d ∧ d < D) ∧ xs d + p_pan a b e l f ≤ c + p_pan a b e 4 f ∧ c + p_pan a b e 4 f < xs d + p_pan a b e l f + ws d
theorem p_sf_lo (fr : Int → Int) (f : Int) : ∀ n, -1 ≤ p_sf fr f n ∧ p_sf fr f n < n := by
  intro n
  induction n with
  | zero => simp [p_sf]
  | succ n ih =>
    simp only [p_sf]
    split
    · omega
    · omega
theorem gj_lvE {xt : Nat × (Nat → Int)} {Y : gj_Y} {S : List gj_H} {k n pc : Nat} {lv lv' : List (Option gj_V)} {st : List gj_V} {M : gj_M} {Q : Option gj_V → List gj_H → gj_M → Prop} (h : lv = lv') (kk : gj_G xt Y S k n pc lv' st M Q) : gj_G xt Y S k n pc lv st M Q := h ▸ kk
/-- memory outside some cells is as it was -/
def gj_E (hs : List Nat) (M M' : gj_M) : Prop := ∀ h : Nat, h ∉ hs → ∀ i : Int, M' h i = M h i
theorem gj_E.rf {hs : List Nat} {M : gj_M} : gj_E hs M M := fun _ _ _ => rfl
theorem gj_E.tr {hs : List Nat} {M M' M'' : gj_M} (h : gj_E hs M M') (g : gj_E hs M' M'') : gj_E hs M M'' := fun x hx i => (g x hx i).trans (h x hx i)
theorem gj_E.u {hs : List Nat} {M : gj_M} {h : Nat} {i v : Int} (hh : h ∈ hs) : gj_E hs M (gj_u M h i v) := fun x hx j => gj_u_o (fun e => hx (e ▸ hh))
theorem gj_E.mono {hs hs' : List Nat} {M M' : gj_M} (h : gj_E hs M M') (hh : ∀ x ∈ hs, x ∈ hs') : gj_E hs' M M' := fun x hx i => h x (fun q => hx (hh x q)) i
theorem gj_u_s {M : gj_M} {h : Nat} {i v : Int} : gj_u M h i v h i = v := if_pos ⟨rfl, rfl⟩
theorem gj_u_i {M : gj_M} {h h' : Nat} {i i' v : Int} (hne : i' ≠ i) : gj_u M h i v h' i' = M h' i' := if_neg (fun q => hne q.2)
theorem gj_wk {xt : Nat × (Nat → Int)} {Y : gj_Y} {S : List gj_H} {k n pc : Nat} {lv lv' : List (Option gj_V)} {st : List gj_V} {M : gj_M} {Q : Option gj_V → List gj_H → gj_M → Prop} (kk : gj_G xt Y S k n pc lv' st M Q) (hle : gj_le lv' lv) : gj_G xt Y S k n pc lv st M Q := gj_drop lv' hle kk
