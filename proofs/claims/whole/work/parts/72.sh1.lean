def y_cv (x : Int) : Int := if x = 1000 then -9 else x
theorem y_cv_c (x : Int) : (x = 1000 ∧ y_cv x = -9) ∨ (x ≠ 1000 ∧ y_cv x = x) := by
  unfold y_cv
  by_cases h : x = 1000
  · rw [if_pos h]; exact Or.inl ⟨h, rfl⟩
  · rw [if_neg h]; exact Or.inr ⟨h, rfl⟩
theorem q_dv {m k : Int} (hm : 1 ≤ m) (hk : 2 ≤ k) (h : m % k = 0) : 1 ≤ m / k ∧ m / k < m := by
  have h2 := Int.emod_add_mul_ediv m k
  rw [h] at h2
  have h3 : 0 ≤ m / k := Int.ediv_nonneg (by omega) (by omega)
  have h1 : 1 ≤ m / k := by
    rcases Int.lt_or_le 0 (m / k) with q | q
    · omega
    · rw [show m / k = 0 by omega] at h2; omega
  have h5 : 2 * (m / k) ≤ k * (m / k) := Int.mul_le_mul_of_nonneg_right hk h3
  exact ⟨h1, by omega⟩
theorem q_it_c {lk inner : Int → Int} {P K m : Int} (hm : 1 ≤ m) (hi : ∀ p : Int, 1 ≤ p → p < m → 0 ≤ inner p ∧ inner p ≤ 96) : ∀ t : Nat, q_it lk inner P K m t = 1000 ∨ (0 ≤ q_it lk inner P K m t ∧ q_it lk inner P K m t ≤ 99) := by
  intro t
  induction t with
  | zero => have := q_b_b (lk 1) m; simp only [q_it]; omega
  | succ t ih =>
    simp only [q_it]
    split
    · next h =>
      have h1 := q_dv hm (show (2 : Int) ≤ (t : Int) + 2 by omega) h.1
      have := hi _ h1.1 h1.2
      omega
    · exact ih
theorem q_it_le {lk inner : Int → Int} {P K m : Int} : ∀ t : Nat, q_it lk inner P K m t ≤ q_b (lk 1) m := by
  intro t
  induction t with
  | zero => exact Int.le_refl _
  | succ t ih => simp only [q_it]; split <;> omega
def y_iv (lk : Int → Int → Int) (T : Int → Int) (e j m : Int) : Int := if e = 0 then q_b (lk j 1) m else q_it (lk j) (fun z => T (2401 * (e - 1) + 49 * j + (j + z))) 48 1 m 8
theorem y_iv_c {lk : Int → Int → Int} {T : Int → Int} {e j m : Int} (hm : 1 ≤ m) (hi : e ≠ 0 → ∀ p : Int, 1 ≤ p → p < m → 0 ≤ T (2401 * (e - 1) + 49 * j + (j + p)) ∧ T (2401 * (e - 1) + 49 * j + (j + p)) ≤ 96) : y_iv lk T e j m = 1000 ∨ (0 ≤ y_iv lk T e j m ∧ y_iv lk T e j m ≤ 99) := by
  unfold y_iv
  split
  · have := q_b_b (lk j 1) m; omega
  · next h => exact q_it_c hm (hi h) 8
theorem y_iv_1 {lk : Int → Int → Int} {T : Int → Int} {e j : Int} (h : 0 ≤ lk j 1) : y_iv lk T e j 1 ≤ 2 := by
  have hb : q_b (lk j 1) 1 = 2 := if_pos ⟨by omega, by omega⟩
  unfold y_iv
  split
  · omega
  · have := q_it_le (lk := lk j) (inner := fun z => T (2401 * (e - 1) + 49 * j + (j + z))) (P := 48) (K := 1) (m := 1) 8
    omega
theorem y_iv_congr {lk : Int → Int → Int} {T T' : Int → Int} {e j m : Int} (hm : 1 ≤ m) (h : e ≠ 0 → ∀ p : Int, 1 ≤ p → p < m → T (2401 * (e - 1) + 49 * j + (j + p)) = T' (2401 * (e - 1) + 49 * j + (j + p))) : y_iv lk T e j m = y_iv lk T' e j m := by
  unfold y_iv
  split
  · rfl
  · next hh => exact q_it_congr hm (fun _ _ _ => rfl) (h hh) 8
def y_V (n : Int) (lk : Int → Int → Int) (T : Int → Int) (d to fr : Int) : Prop := ∀ e k j : Int, 0 ≤ e → e < 3 → 0 ≤ j → j ≤ k → k ≤ n → (e < d ∨ (e = d ∧ (k < to ∨ (k = to ∧ fr < j)))) → (0 ≤ T (2401 * e + 49 * j + k) ∧ T (2401 * e + 49 * j + k) ≤ 2 * (k - j)) ∧ T (2401 * e + 49 * j + k) = if j = k then 0 else q_mn (y_iv lk T e j) (fun q => T (2401 * e + 49 * (j + q) + k)) (k - j).toNat
theorem y_V.in_ {n : Int} {lk : Int → Int → Int} {T : Int → Int} {d to fr : Int} (hn : n ≤ 48) (hV : y_V n lk T d to fr) (hd : 0 ≤ d ∧ d < 3) {j m : Int} (hj : 0 ≤ j) (hm : j + m ≤ n) : d ≠ 0 → ∀ p : Int, 1 ≤ p → p < m → 0 ≤ T (2401 * (d - 1) + 49 * j + (j + p)) ∧ T (2401 * (d - 1) + 49 * j + (j + p)) ≤ 96 := by
  intro h0 p p1 pm
  have := (hV (d - 1) (j + p) j (by omega) (by omega) hj (by omega) (by omega) (Or.inl (by omega))).1
  omega
theorem y_V.f_ {n : Int} {lk : Int → Int → Int} {T : Int → Int} {d to fr : Int} (hn : n ≤ 48) (hV : y_V n lk T d to fr) (hd : 0 ≤ d ∧ d < 3) (hfr : 0 ≤ fr) (hto : to ≤ n) {q : Int} (h1 : 1 ≤ q) (h2 : fr + q ≤ to) : 0 ≤ T (2401 * d + 49 * (fr + q) + to) ∧ T (2401 * d + 49 * (fr + q) + to) ≤ 2 * (to - (fr + q)) :=
  (hV d to (fr + q) hd.1 hd.2 (by omega) h2 hto (Or.inr ⟨rfl, Or.inr ⟨rfl, by omega⟩⟩)).1
theorem y_V.step {n : Int} {lk : Int → Int → Int} {T T' : Int → Int} {d to fr x : Int} (hn : n ≤ 48) (hV : y_V n lk T d to fr) (hd : 0 ≤ d ∧ d < 3) (hfr : 0 ≤ fr) (hft : fr ≤ to) (hto : to ≤ n) (hlk : fr < to → 0 ≤ lk fr 1) (hx : x = if fr = to then 0 else q_mn (y_iv lk T d fr) (fun q => T (2401 * d + 49 * (fr + q) + to)) (to - fr).toNat) (hT : T' (2401 * d + 49 * fr + to) = x) (hO : ∀ i, i ≠ 2401 * d + 49 * fr + to → T' i = T i) : (0 ≤ x ∧ x ≤ 2 * (to - fr)) ∧ y_V n lk T' d to (fr - 1) := by
  have hb : 0 ≤ x ∧ x ≤ 2 * (to - fr) := by
    rw [hx]
    split
    · omega
    · next hne =>
      have h1 := q_mn_b (it := y_iv lk T d fr) (f := fun q => T (2401 * d + 49 * (fr + q) + to)) (to - fr).toNat (fun q q1 q2 => ⟨by have := y_iv_c (lk := lk) (T := T) (e := d) (j := fr) q1 (hV.in_ hn hd hfr (by omega)); omega, (hV.f_ hn hd hfr hto q1 (by omega)).1⟩)
      have h2 := y_iv_1 (lk := lk) (T := T) (e := d) (j := fr) (hlk (by omega))
      have h3 := q_mn_le (it := y_iv lk T d fr) (f := fun q => T (2401 * d + 49 * (fr + q) + to)) (m := 1) (Nat.le_refl _) (by show y_iv lk T d fr 1 < 1000; omega) (to - fr).toNat (by omega)
      have h4 := hV.f_ hn hd hfr hto (q := 1) (by omega) (by omega)
      have h5 : q_mn (y_iv lk T d fr) (fun q => T (2401 * d + 49 * (fr + q) + to)) (to - fr).toNat ≤ y_iv lk T d fr 1 + T (2401 * d + 49 * (fr + 1) + to) := h3
      omega
  refine ⟨hb, fun e k j e0 e3 j0 jk kn hc => ?_⟩
  have hiv : ∀ q : Int, 1 ≤ q → j + q ≤ k → y_iv lk T' e j q = y_iv lk T e j q := fun q q1 q2 => y_iv_congr q1 (fun hne p p1 p2 => hO _ (by omega))
  by_cases hit : e = d ∧ k = to ∧ j = fr
  · obtain ⟨rfl, rfl, rfl⟩ := hit
    rw [hT]
    refine ⟨hb, ?_⟩
    rw [hx]
    split
    · rfl
    · exact q_mn_congr _ (fun q q1 q2 => ⟨(hiv q q1 (by omega)).symm, (hO _ (by omega)).symm⟩)
  · have ho : T' (2401 * e + 49 * j + k) = T (2401 * e + 49 * j + k) := hO _ (by omega)
    have hold := hV e k j e0 e3 j0 jk kn (by omega)
    rw [ho]
    refine ⟨hold.1, ?_⟩
    rw [hold.2]
    split
    · rfl
    · exact q_mn_congr _ (fun q q1 q2 => ⟨(hiv q q1 (by omega)).symm, (hO _ (by omega)).symm⟩)
theorem y_V.nx {n : Int} {lk : Int → Int → Int} {T : Int → Int} {d to : Int} (hV : y_V n lk T d to (-1)) : y_V n lk T d (to + 1) (to + 1) := fun e k j e0 e3 j0 jk kn hc => hV e k j e0 e3 j0 jk kn (by omega)
theorem y_V.dp {n : Int} {lk : Int → Int → Int} {T : Int → Int} {d : Int} (hV : y_V n lk T d (n + 1) (n + 1)) : y_V n lk T (d + 1) 0 0 := fun e k j e0 e3 j0 jk kn hc => hV e k j e0 e3 j0 jk kn (by omega)
theorem y_V.st {n : Int} {lk : Int → Int → Int} {T : Int → Int} : y_V n lk T 0 0 0 := fun e k j e0 e3 j0 jk kn hc => by omega
theorem q_mn_mt {it f : Int → Int} : ∀ t : Nat, (∀ q : Int, 1 ≤ q → q ≤ t → it q ≤ 1000 ∧ 0 ≤ it q ∧ 0 ≤ f q) → q_mn it f t = q_mt it f t := by
  intro t
  induction t with
  | zero => intro _; rfl
  | succ t ih =>
    intro h
    have h1 := ih (fun q a b => h q a (by omega))
    have h2 := h ((t : Int) + 1) (by omega) (by omega)
    have h3 := q_mn_b (it := it) (f := f) t (fun q a b => (h q a (by omega)).2)
    simp only [q_mn, q_mt]
    rw [← h1]
    split
    · rfl
    · omega
theorem y_V.sh {F : Int → Int} {n : Int} {T : Int → Int} (hn : 0 ≤ n ∧ n ≤ 48) (hV : y_V n (fun j p => q_L F n j p) T 3 0 0) : q_sh F n (T (4802 + n)) := by
  have g := fun (e k j : Int) (e0 : 0 ≤ e) (e3 : e < 3) (j0 : 0 ≤ j) (jk : j ≤ k) (kn : k ≤ n) => hV e k j e0 e3 j0 jk kn (Or.inl e3)
  have h0 : ∀ (p : Nat) (j : Int), 0 ≤ j → j + p ≤ n → T (2401 * 0 + 49 * j + (j + p)) = q_pl F j p := by
    refine q_plain (E := fun j p => T (2401 * 0 + 49 * j + (j + p))) hn.2 (fun j j0 jn => ?_) (fun j p j0 p1 jp => ?_)
    · rw [(g 0 (j + 0) j (by omega) (by omega) j0 (by omega) (by omega)).2, if_pos (by omega)]
    · show T (2401 * 0 + 49 * j + (j + p)) = _
      rw [(g 0 (j + p) j (by omega) (by omega) j0 (by omega) jp).2, if_neg (by omega), show (j + p - j).toNat = p.toNat by congr 1; omega]
      refine q_mn_congr _ (fun q q1 q2 => ⟨if_pos rfl, ?_⟩)
      show _ = T (2401 * 0 + 49 * (j + q) + (j + q + (p - q)))
      congr 1; omega
  refine ⟨fun j p => T (2401 * 1 + 49 * j + (j + p)), fun j => T (2401 * 2 + 49 * j + n), ⟨fun j j0 jn => ?_, fun j p j0 jn p1 jp => ?_⟩, ⟨?_, fun j j0 jn => ?_⟩, ?_⟩
  · show T (2401 * 1 + 49 * j + (j + 0)) = 0
    rw [(g 1 (j + 0) j (by omega) (by omega) j0 (by omega) (by omega)).2, if_pos (by omega)]
  · show T (2401 * 1 + 49 * j + (j + p)) = _
    rw [(g 1 (j + p) j (by omega) (by omega) j0 (by omega) jp).2, if_neg (by omega), show (j + p - j).toNat = p.toNat by congr 1; omega]
    refine q_mn_congr _ (fun q q1 q2 => ⟨?_, ?_⟩)
    · show y_iv _ T 1 j q = _
      unfold y_iv
      rw [if_neg (by omega)]
      refine q_it_congr q1 (fun _ _ _ => rfl) (fun z z1 z2 => ?_) 8
      have := h0 z.toNat j j0 (by omega)
      rw [show (z.toNat : Int) = z by omega] at this
      rw [← this]
      rfl
    · show _ = T (2401 * 1 + 49 * (j + q) + (j + q + (p - q)))
      congr 1; omega
  · show T (2401 * 2 + 49 * n + n) = 0
    rw [(g 2 n n (by omega) (by omega) hn.1 (by omega) (by omega)).2, if_pos rfl]
  · show T (2401 * 2 + 49 * j + n) = _
    rw [(g 2 n j (by omega) (by omega) j0 (by omega) (by omega)).2, if_neg (by omega)]
    rw [q_mn_mt _ (fun q q1 q2 => by
      have h1 := y_iv_c (lk := fun j p => q_L F n j p) (T := T) (e := 2) (j := j) q1 (fun _ p p1 p2 => by have := (g 1 (j + p) j (by omega) (by omega) j0 (by omega) (by omega)).1; simp only [show (2 : Int) - 1 = 1 from rfl]; omega)
      have h2 := (g 2 n (j + q) (by omega) (by omega) (by omega) (by omega) (by omega)).1.1
      omega)]
    refine q_mt_congr _ (fun q q1 q2 => ⟨?_, rfl⟩)
    show y_iv _ T 2 j q = _
    unfold y_iv
    rw [if_neg (by omega)]
    rfl
  · show T (4802 + n) = T (2401 * 2 + 49 * 0 + n)
    congr 1
