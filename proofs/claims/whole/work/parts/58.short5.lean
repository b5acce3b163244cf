theorem q_on_step {F : Int → Int} {n i : Int} {f f' : Int → Int → Int} {it : Int → Int} (hi : 0 ≤ i ∧ i < n) (h : q_on F n (i + 1) f) (hs : ∀ j p : Int, i < j → j ≤ n → 0 ≤ p → j + p ≤ n → f' j p = f j p) (hz : f' i 0 = 0) (he : ∀ p : Int, 1 ≤ p → i + p ≤ n → f' i p = q_mn it (fun q => f (i + q) (p - q)) p.toNat) (hit : ∀ m : Int, 1 ≤ m → i + m ≤ n → it m = q_it (q_L F n i) (fun z => q_pl F i z.toNat) 48 1 m 8) : q_on F n i f' := by
  refine ⟨fun j h1 h2 => ?_, fun j p h1 h2 hp hjp => ?_⟩
  · by_cases q : j = i
    · rw [q]; exact hz
    · rw [hs j 0 (by omega) h2 (by omega) (by omega)]
      exact h.1 j (by omega) h2
  · by_cases q : j = i
    · subst q
      rw [he p hp hjp]
      exact q_mn_congr _ (fun z z1 z2 => ⟨hit z z1 (by omega), (hs (j + z) (p - z) (by omega) (by omega) (by omega) (by omega)).symm⟩)
    · rw [hs j p (by omega) (by omega) (by omega) hjp, h.2 j p (by omega) h2 hp hjp]
      exact q_mn_congr _ (fun z z1 z2 => ⟨rfl, (hs (j + z) (p - z) (by omega) (by omega) (by omega) (by omega)).symm⟩)
theorem q_tw_step {F : Int → Int} {n i : Int} {f f' : Int → Int → Int} {g g' it : Int → Int} (hi : 0 ≤ i ∧ i < n) (h : q_tw F n (i + 1) f g) (hs : ∀ j p : Int, i < j → j ≤ n → 0 ≤ p → j + p ≤ n → f' j p = f j p) (hg : ∀ j : Int, i < j → j ≤ n → g' j = g j) (he : g' i = q_mt it (fun q => g (i + q)) (n - i).toNat) (hit : ∀ m : Int, 1 ≤ m → i + m ≤ n → it m = q_it (q_L F n i) (f' i) 48 1 m 8) : q_tw F n i f' g' := by
  refine ⟨by rw [hg n (by omega) (by omega)]; exact h.1, fun j h1 h2 => ?_⟩
  by_cases q : j = i
  · subst q
    rw [he]
    exact q_mt_congr _ (fun z z1 z2 => ⟨hit z z1 (by omega), (hg (j + z) (by omega) (by omega)).symm⟩)
  · rw [hg j (by omega) (by omega), h.2 j (by omega) h2]
    refine q_mt_congr _ (fun z z1 z2 => ⟨?_, (hg (j + z) (by omega) (by omega)).symm⟩)
    exact q_it_congr z1 (fun _ _ _ => rfl) (fun p p1 p2 => (hs j p (by omega) (by omega) (by omega) (by omega)).symm) 8
theorem q_L_step {F : Int → Int} {n i p : Int} (h : i + p < n) : q_L F n i p = if F i = F (i + p) then q_L F n (i + 1) p + 1 else 0 := by
  unfold q_L
  rw [show (n - p - i).toNat = (n - p - (i + 1)).toNat + 1 by omega]
  rfl
theorem q_L_out {F : Int → Int} {n i p : Int} (h : n ≤ i + p) : q_L F n i p = 0 := by
  unfold q_L
  rw [show (n - p - i).toNat = 0 by omega]
  rfl
theorem q_lk_congr {F F' : Int → Int} {p n : Int} (hp : 0 ≤ p) (hF : ∀ g : Int, 0 ≤ g → g < n → F g = F' g) : ∀ (m : Nat) (i : Int), 0 ≤ i → i + p + m ≤ n → q_lk F p m i = q_lk F' p m i := by
  intro m
  induction m with
  | zero => intro i _ _; rfl
  | succ m ih =>
    intro i h0 h1
    simp only [q_lk]
    rw [hF i h0 (by omega), hF (i + p) (by omega) (by omega), ih (i + 1) (by omega) (by omega)]
theorem q_rn_congr {F F' : Int → Int} {n i : Int} (hi : 0 ≤ i) (hF : ∀ g : Int, 0 ≤ g → g < n → F g = F' g) : ∀ p : Nat, i + p ≤ n → q_rn F i p = q_rn F' i p ∧ q_pl F i p = q_pl F' i p := by
  intro p
  induction p with
  | zero => intro _; exact ⟨rfl, rfl⟩
  | succ p ih =>
    intro h
    have h1 := ih (by omega)
    by_cases h0 : 1 ≤ p
    · simp only [q_rn, q_pl]
      rw [h1.1, h1.2, hF (i + p) (by omega) (by omega), hF (i + p - 1) (by omega) (by omega)]
      exact ⟨rfl, rfl⟩
    · simp only [q_rn, q_pl]
      rw [if_neg (fun q => h0 q.1), if_neg (fun q => h0 q.1), if_neg (fun q => h0 q.1), if_neg (fun q => h0 q.1), h1.2]
      exact ⟨rfl, rfl⟩
theorem q_L_congr {F F' : Int → Int} {n i p : Int} (hi : 0 ≤ i) (hp : 0 ≤ p) (hF : ∀ g : Int, 0 ≤ g → g < n → F g = F' g) : q_L F n i p = q_L F' n i p := by
  unfold q_L
  by_cases h : 0 ≤ n - p - i
  · exact q_lk_congr hp hF _ i hi (by omega)
  · rw [show (n - p - i).toNat = 0 by omega]; rfl
theorem q_sh_congr {F F' : Int → Int} {n v : Int} (hF : ∀ g : Int, 0 ≤ g → g < n → F g = F' g) (h : q_sh F n v) : q_sh F' n v := by
  obtain ⟨f, g, hf, hg, hv⟩ := h
  refine ⟨f, g, ⟨hf.1, fun j p h1 h2 hp hjp => ?_⟩, ⟨hg.1, fun j h1 h2 => ?_⟩, hv⟩
  · rw [hf.2 j p h1 h2 hp hjp]
    refine q_mn_congr _ (fun z z1 z2 => ⟨?_, rfl⟩)
    exact q_it_congr z1 (fun x x1 x2 => q_L_congr h1 (by omega) hF) (fun x x1 x2 => (q_rn_congr h1 hF x.toNat (by omega)).2) 8
  · rw [hg.2 j h1 h2]
    refine q_mt_congr _ (fun z z1 z2 => ⟨?_, rfl⟩)
    exact q_it_congr z1 (fun x x1 x2 => q_L_congr h1 (by omega) hF) (fun _ _ _ => rfl) 8
/-- there is but one -/
theorem q_sh_one {F : Int → Int} {n v w : Int} (hn : 0 ≤ n) (h : q_sh F n v) (h' : q_sh F n w) : v = w := by
  obtain ⟨f, g, hf, hg, rfl⟩ := h
  obtain ⟨f', g', hf', hg', rfl⟩ := h'
  have key : ∀ (d : Nat) (j p : Int), (n - j).toNat = d → 0 ≤ j → j ≤ n → 0 ≤ p → j + p ≤ n → f j p = f' j p := by
    intro d
    induction d using Nat.strongRecOn with
    | ind d ih =>
      intro j p hd h0 hj hp hjp
      by_cases q : p = 0
      · rw [q, hf.1 j h0 hj, hf'.1 j h0 hj]
      · rw [hf.2 j p h0 (by omega) (by omega) hjp, hf'.2 j p h0 (by omega) (by omega) hjp]
        exact q_mn_congr _ (fun z z1 z2 => ⟨rfl, ih _ (by omega) (j + z) (p - z) rfl (by omega) (by omega) (by omega) (by omega)⟩)
  have key2 : ∀ (d : Nat) (j : Int), (n - j).toNat = d → 0 ≤ j → j ≤ n → g j = g' j := by
    intro d
    induction d using Nat.strongRecOn with
    | ind d ih =>
      intro j hd h0 hj
      by_cases q : j = n
      · rw [q, hg.1, hg'.1]
      · rw [hg.2 j h0 (by omega), hg'.2 j h0 (by omega)]
        refine q_mt_congr _ (fun z z1 z2 => ⟨?_, ih _ (by omega) (j + z) rfl (by omega) (by omega)⟩)
        exact q_it_congr z1 (fun _ _ _ => rfl) (fun p p1 p2 => key _ j p rfl h0 hj (by omega) (by omega)) 8
  exact key2 _ 0 rfl (by omega) hn
