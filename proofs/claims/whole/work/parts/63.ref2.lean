/-- two pages are alike -/
def y_eq (M : gj_M) (r : Nat) (M' : gj_M) (r' : Nat) : Prop := (∀ i : Int, 0 ≤ i → i < 40 → M' r' i = M r i) ∧ M' 69 4 = M 69 4 ∧ M' 69 5 = M 69 5 ∧ M' 71 = M 71 ∧ M' 72 = M 72
theorem y_eq.I {M M' : gj_M} {r r' : Nat} (h : y_eq M r M' r') (hI : y_I M r) : y_I M' r' := by
  obtain ⟨h1, h2, h3, h4, h5, h6, h7, h8⟩ := hI
  obtain ⟨g1, g2, g3, g4, g5⟩ := h
  refine ⟨by rw [g3]; exact h1, by rw [g2]; exact h2, by rw [g1 31 (by omega) (by omega)]; exact h3, fun l a b => ?_, fun q a b => ?_, fun d a b => ?_, fun k a b => ?_, fun l g a b c d => ?_⟩
  · rw [g1 (12 + l) (by omega) (by omega), g5]; exact h4 l a b
  · rw [g1 (16 + 3 * q) (by omega) (by omega), g1 (16 + 3 * q + 1) (by omega) (by omega), g1 (16 + 3 * q + 2) (by omega) (by omega)]; exact h5 q a b
  · rw [g1 (0 + d) (by omega) (by omega), g1 (6 + d) (by omega) (by omega)]; exact h6 d a b
  · rw [g1 31 (by omega) (by omega)] at b
    rw [g1 (32 + k) (by omega) (by omega), g1 (36 + k) (by omega) (by omega), g3]; exact h7 k a b
  · rw [g3] at b
    rw [g5] at d
    rw [g4, g2]; exact h8 l g a b c d
theorem y_eq.ex {M M' : gj_M} {r r' : Nat} (h : y_eq M r M' r') {l : Int} (hl : 0 ≤ l ∧ l < 4) (f : Int) : y_ex M' r' l f = y_ex M r l f := by
  unfold y_ex
  rw [h.1 (12 + l) (by omega) (by omega), h.2.2.2.2, h.2.2.2.1]
theorem y_eq.wh {M M' : gj_M} {r r' : Nat} (h : y_eq M r M' r') {q : Int} (hq : 0 ≤ q ∧ q < 5) (f : Int) : y_wh M' r' q f = y_wh M r q f := by
  unfold y_wh
  rw [h.1 (16 + 3 * q) (by omega) (by omega), h.1 (16 + 3 * q + 1) (by omega) (by omega), h.1 (16 + 3 * q + 2) (by omega) (by omega)]
theorem y_eq.ord {M M' : gj_M} {r r' : Nat} (h : y_eq M r M' r') (hI : y_I M r) (f : Int) : y_ord M' r' f = y_ord M r f := by
  have key : ∀ n : Nat, (n : Int) ≤ 4 → y_lt M' r' f n = y_lt M r f n ∧ y_od M' r' f n = y_od M r f n := by
    intro n
    induction n with
    | zero => intro _; exact ⟨rfl, by show y_fo _ = y_fo _; rw [h.2.2.1]⟩
    | succ n ih =>
      intro hn
      have h1 := ih (by omega)
      simp only [y_lt, y_od]
      rw [h1.1, h1.2, h.1 (32 + n) (by omega) (by omega), h.1 (36 + n) (by omega) (by omega)]
      exact ⟨rfl, rfl⟩
  have hs := hI.2.2.1
  unfold y_ord
  rw [h.1 31 (by omega) (by omega)]
  exact (key _ (by omega)).2
theorem p_first_congr {v w : Nat → Int} : ∀ (n i : Nat), (∀ j, i ≤ j → j < i + n → v j = w j) → p_first v n i = p_first w n i := by
  intro n
  induction n with
  | zero => intro i _; rfl
  | succ n ih =>
    intro i h
    simp only [p_first]
    rw [h i (by omega) (by omega), ih (i + 1) (fun j h1 h2 => h j (by omega) (by omega))]
theorem y_eq.look {M M' : gj_M} {r r' : Nat} (h : y_eq M r M' r') (hI : y_I M r) (f c sm rub : Int) : y_look M' r' f c sm rub = y_look M r f c sm rub := by
  have hod := hI.od f
  have hL := hI.1
  have hD := hI.2.1
  unfold y_look
  rw [h.ord hI, h.2.2.1]
  apply p_first_congr
  intro k _ hk
  have h1 := hod.2.1 k (by omega) (by omega)
  have h2 := p_li_b (L := M 69 5) (i := (k : Int)) hod.1.1
  have hx := y_ex_b hI (l := p_li (M 69 5) (y_ord M r f) k) (f := f) (by omega)
  unfold y_va
  rw [h.2.2.1, h.ex (by omega), h.wh (by omega), h.wh (by omega)]
  by_cases q : y_ex M r (p_li (M 69 5) (y_ord M r f) k) f = -9
  · rw [if_neg (fun z => z.1.1 q), if_neg (fun z => z.1.1 q)]
  · rw [h.1 (0 + _) (by omega) (by omega), h.1 (6 + _) (by omega) (by omega)]
def y_mo (M : gj_M) (r : Nat) (d : Int) : Int := p_mo (y_ex M r) (M 69 5).toNat d 48
def y_cels (M : gj_M) (r : Nat) : Int := p_cels (y_ex M r) (M 69 5).toNat (M 69 4).toNat
theorem p_mo_congr {ex ex' : Int → Int → Int} {L : Nat} {d : Int} : ∀ n : Nat, (∀ l f : Nat, l < L → f < n → ex l f = ex' l f) → p_mo ex L d n = p_mo ex' L d n := by
  intro n
  induction n with
  | zero => intro _; rfl
  | succ n ih =>
    intro h
    simp only [p_mo]
    rw [ih (fun l f h1 h2 => h l f h1 (by omega))]
    congr 1
    unfold p_cn
    exact p_sum_congr L (fun l hl => by rw [h l n hl (by omega)])
theorem y_eq.mo {M M' : gj_M} {r r' : Nat} (h : y_eq M r M' r') (hI : y_I M r) (d : Int) : y_mo M' r' d = y_mo M r d := by
  have hL := hI.1
  unfold y_mo
  rw [h.2.2.1]
  exact p_mo_congr 48 (fun l f h1 _ => h.ex (by omega) f)
theorem y_eq.cels {M M' : gj_M} {r r' : Nat} (h : y_eq M r M' r') (hI : y_I M r) : y_cels M' r' = y_cels M r := by
  have hL := hI.1
  unfold y_cels p_cels
  rw [h.2.2.1, h.2.1]
  exact p_sum_congr _ (fun d _ => p_mo_congr 48 (fun l f h1 _ => h.ex (by omega) f))
def y_chg (M : gj_M) : Nat → Int
  | 0 => 0
  | n + 1 => y_chg M n + p_df (fun c : Nat => y_look M 78 ((n : Int) + 1) c (y_all (M 69 5)) (-9)) (fun c : Nat => y_look M 78 n c (y_all (M 69 5)) (-9)) 10
def y_best (M : gj_M) (l : Int) : Int := p_bb (fun v : Nat => y_cels (gj_u M 78 (12 + l) v) 78) 10
def y_sh (M : gj_M) : Nat → gj_M
  | 0 => M
  | n + 1 => gj_u (y_sh M n) 80 n (y_sh M n 80 ((n : Int) + 40))
def y_pg (M : gj_M) (b : Int) : Nat → gj_M
  | 0 => M
  | n + 1 => gj_u (y_pg M b n) 80 (40 * b + n) (y_pg M b n 78 n)
def y_n1 (M : gj_M) : gj_M := if M 69 18 = 14 then gj_u (y_sh M 520) 69 18 13 else M
def y_nt (M : gj_M) : gj_M := gj_u (y_pg (y_n1 M) (y_n1 M 69 18) 40) 69 18 (y_n1 M 69 18 + 1)
def y_mt (o : Int) : Nat → Int
  | 0 => 0
  | k + 1 => (Int32.ofInt (y_mt o k) ||| Int32.ofInt (Int32.ofInt 1 <<< (Int32.ofInt (o / e_pw 10 k % 10) &&& 31)).toInt).toInt
def y_io (L o : Int) : Int := if (0 ≤ o ∧ o ≤ e_pw 10 L.toNat - 1) ∧ y_mt o L.toNat = y_all L then 1 else 0
theorem y_mt_in (o : Int) (k : Nat) : gj_in (y_mt o k) := by
  cases k with
  | zero => show gj_in 0; decide
  | succ k => exact gj_in32 _
theorem y_all_b {L : Int} (h : 0 ≤ L ∧ L ≤ 4) : 0 ≤ y_all L ∧ y_all L ≤ 15 := by
  have h5 : L = 0 ∨ L = 1 ∨ L = 2 ∨ L = 3 ∨ L = 4 := by omega
  rcases h5 with h | h | h | h | h <;> rw [h] <;> decide
def y_fc : Nat → Int
  | 0 => 1
  | n + 1 => y_fc n * ((n : Int) + 1)
theorem y_fc_b : ∀ n : Nat, n ≤ 4 → 1 ≤ y_fc n ∧ y_fc n ≤ 24 := by decide
def y_cov (M : gj_M) (s : Int) : Int := p_sum (fun f : Nat => p_sum (fun c : Nat => if y_look M 78 f c s (-9) = -9 then 0 else 1) 10) 24
/-- the greatest divisor, by as many steps as it takes -/
def y_gd : Nat → Int → Int → Int
  | 0, p, _ => p
  | n + 1, p, q => if q = 0 then p else y_gd n q (p % q)
