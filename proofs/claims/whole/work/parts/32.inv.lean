/-! the class's state, as its questions need it -/
def c_ord (M : gj_M) (f : Int) : Int := p_or (M 10 1) (M 15 6) (M 22) (M 23) f
def c_ex (M : gj_M) (l f : Int) : Int := p_ex (M 18) (M 13) (M 14) l f
def c_cw (M : gj_M) (l f c : Int) : Int := p_cw (M 10 0) (M 16) (M 17) (M 19) (M 20) (M 21) l (p_ex (M 18) (M 13) (M 14) l f) f c
def c_seen (M : gj_M) (f c rub : Int) : Int := p_first (p_va (M 10 1) (M 10 0) (c_ord M f) (M 18) (M 13) (M 14) (M 16) (M 17) (M 19) (M 20) (M 21) f c rub) (M 10 1).toNat 0
def c_lc (M : gj_M) (f c : Int) : Int := p_sum (fun l : Nat => c_cw M l f c) (M 10 1).toNat
/-- of the places of an order each holds a level, and each level has its place -/
def p_od (L o : Int) : Prop := (0 ≤ o ∧ o ≤ 9999) ∧ (∀ i : Int, 0 ≤ i → i < L → p_li L o i < L) ∧ ∀ l : Int, 0 ≤ l → l < L → ∃ i : Int, 0 ≤ i ∧ i < L ∧ p_li L o i = l
def c_I (M : gj_M) : Prop := (0 ≤ M 10 1 ∧ M 10 1 ≤ 4) ∧ (0 ≤ M 10 0 ∧ M 10 0 ≤ 6) ∧ (0 ≤ M 15 6 ∧ M 15 6 ≤ 4) ∧
  (∀ l : Int, 0 ≤ l → l < 4 → (0 ≤ M 18 l ∧ M 18 l ≤ 9) ∧ 0 ≤ M 13 l ∧ M 13 l ≤ 48) ∧
  (∀ q : Int, 0 ≤ q → q < 5 → (-9 ≤ M 19 q ∧ M 19 q ≤ 9) ∧ (-3 ≤ M 20 q ∧ M 20 q ≤ 3) ∧ 1 ≤ M 21 q ∧ M 21 q ≤ 9) ∧
  (∀ d : Int, 0 ≤ d → d < 6 → (0 ≤ M 16 d ∧ M 16 d ≤ 9) ∧ 0 ≤ M 17 d ∧ M 17 d ≤ 5) ∧
  (∀ k : Int, 0 ≤ k → k < M 15 6 → (0 ≤ M 22 k ∧ M 22 k ≤ 47) ∧ p_od (M 10 1) (M 23 k)) ∧
  (∀ l g : Int, 0 ≤ l → l < M 10 1 → 0 ≤ g → g < M 13 l → M 14 (l * 48 + g) = -9 ∨ (0 ≤ M 14 (l * 48 + g) ∧ M 14 (l * 48 + g) < M 10 0))
def c_hs : List Nat := [10, 13, 14, 15, 16, 17, 18, 19, 20, 21, 22, 23]
def c_eq (M M1 : gj_M) : Prop := ∀ h ∈ c_hs, M1 h = M h
theorem c_eq.of {hs : List Nat} {M M1 : gj_M} (h : gj_E hs M M1) (hd : c_hs.all (fun x => !(hs.contains x)) = true) : c_eq M M1 := by
  intro x hx
  funext i
  refine h x (fun q => ?_) i
  have := List.all_eq_true.mp hd x hx
  simp only [Bool.not_eq_true', List.contains_eq_mem, decide_eq_false_iff_not] at this
  exact this q
theorem c_eq.I {M M1 : gj_M} (h : c_eq M M1) (hI : c_I M) : c_I M1 := by
  unfold c_I at hI ⊢
  rw [h 10 (by decide), h 13 (by decide), h 14 (by decide), h 15 (by decide), h 16 (by decide), h 17 (by decide), h 18 (by decide), h 19 (by decide), h 20 (by decide), h 21 (by decide), h 22 (by decide), h 23 (by decide)]
  exact hI
theorem c_eq.ord {M M1 : gj_M} (h : c_eq M M1) (f : Int) : c_ord M1 f = c_ord M f := by
  unfold c_ord
  rw [h 10 (by decide), h 15 (by decide), h 22 (by decide), h 23 (by decide)]
theorem c_eq.ex {M M1 : gj_M} (h : c_eq M M1) (l f : Int) : c_ex M1 l f = c_ex M l f := by
  unfold c_ex
  rw [h 18 (by decide), h 13 (by decide), h 14 (by decide)]
theorem c_eq.cw {M M1 : gj_M} (h : c_eq M M1) (l f c : Int) : c_cw M1 l f c = c_cw M l f c := by
  unfold c_cw
  rw [h 10 (by decide), h 16 (by decide), h 17 (by decide), h 19 (by decide), h 20 (by decide), h 21 (by decide), h 18 (by decide), h 13 (by decide), h 14 (by decide)]
theorem c_eq.seen {M M1 : gj_M} (h : c_eq M M1) (f c rub : Int) : c_seen M1 f c rub = c_seen M f c rub := by
  unfold c_seen
  rw [h.ord, h 10 (by decide), h 16 (by decide), h 17 (by decide), h 19 (by decide), h 20 (by decide), h 21 (by decide), h 18 (by decide), h 13 (by decide), h 14 (by decide)]
theorem p_fo_od {L : Int} (h : 0 ≤ L ∧ L ≤ 4) : p_od L (p_fo L.toNat) := by
  have h2 : L = 0 ∨ L = 1 ∨ L = 2 ∨ L = 3 ∨ L = 4 := by omega
  have key : ∀ n : Nat, n ≤ 4 → (0 ≤ p_fo n ∧ p_fo n ≤ 9999) ∧ ∀ i : Nat, i < n → p_li n (p_fo n) i = i := by decide
  obtain ⟨n, rfl⟩ := Int.eq_ofNat_of_zero_le h.1
  have hk := key n (by omega)
  simp only [Int.toNat_natCast]
  refine ⟨hk.1, fun i h0 hi => ?_, fun l h0 hl => ⟨l, h0, hl, ?_⟩⟩
  · obtain ⟨j, rfl⟩ := Int.eq_ofNat_of_zero_le h0
    rw [hk.2 j (by omega)]
    exact hi
  · obtain ⟨j, rfl⟩ := Int.eq_ofNat_of_zero_le h0
    exact hk.2 j (by omega)
theorem c_I.od {M : gj_M} (hI : c_I M) (f : Int) : p_od (M 10 1) (c_ord M f) := by
  unfold c_ord p_or
  have hb := p_sf_lo (M 22) f (M 15 6).toNat
  split
  · exact (hI.2.2.2.2.2.2.1 _ (by omega) (by omega)).2
  · exact p_fo_od hI.1
theorem t3_orderAt {xt : Nat × (Nat → Int)} {M : gj_M} {f : Int} (hI : c_I M) (hf : 0 ≤ f ∧ f < 48) : gj_F xt Y3_orderAt gS [gR 9, gI f] M (some (gI (c_ord M f))) M := s3_orderAt hf hI.1 hI.2.2.1
theorem t3_drawingOn {xt : Nat × (Nat → Int)} {M : gj_M} {l f : Int} (hI : c_I M) (hl : 0 ≤ l ∧ l < 4) (hf : 0 ≤ f ∧ f < 48) : gj_F xt Y3_drawingOn gS [gR 9, gI l, gI f] M (some (gI (c_ex M l f))) M := s3_drawingOn hl hf hI.2.2.2.1
theorem t3_levelCovers {xt : Nat × (Nat → Int)} {M : gj_M} {l f c : Int} (hI : c_I M) (hl : 0 ≤ l ∧ l < 4) (hf : 0 ≤ f ∧ f < 48) (hc : 0 ≤ c ∧ c < 10) : gj_F xt Y3_levelCovers gS [gR 9, gI l, gI f, gI c] M (some (gI (c_cw M l f c))) M := s3_levelCovers hl hf hc hI.2.1 hI.2.2.2.1 hI.2.2.2.2.1 hI.2.2.2.2.2.1
theorem t3_seenAt {xt : Nat × (Nat → Int)} {M : gj_M} {f c rub : Int} (hI : c_I M) (hf : 0 ≤ f ∧ f < 48) (hc : 0 ≤ c ∧ c < 10) (hr : gj_in rub) : gj_F xt Y3_seenAt gS [gR 9, gI f, gI c, gI rub] M (some (gI (c_seen M f c rub))) M := s3_seenAt hf hc hr hI.1 hI.2.1 hI.2.2.2.1 hI.2.2.2.2.1 hI.2.2.2.2.2.1 (hI.od f).1 (hI.od f).2.1 hI.2.2.1
theorem t3_levelsCovering {xt : Nat × (Nat → Int)} {M : gj_M} {f c : Int} (hI : c_I M) (hf : 0 ≤ f ∧ f < 48) (hc : 0 ≤ c ∧ c < 10) : gj_F xt Y3_levelsCovering gS [gR 9, gI f, gI c] M (some (gI (c_lc M f c))) M := s3_levelsCovering hf hc hI.1 hI.2.1 hI.2.2.2.1 hI.2.2.2.2.1 hI.2.2.2.2.2.1
theorem c_cw_01 (M : gj_M) (l f c : Int) : c_cw M l f c = 0 ∨ c_cw M l f c = 1 := p_cw_01 _ _ _ _ _ _ _ _ _ _
theorem p_sum_b {g : Nat → Int} {m : Int} : ∀ n : Nat, (∀ i, i < n → 0 ≤ g i ∧ g i ≤ m) → 0 ≤ p_sum g n ∧ p_sum g n ≤ m * n := by
  intro n
  induction n with
  | zero => intro _; simp [p_sum]
  | succ n ih =>
    intro h
    have h1 := ih (fun i hi => h i (by omega))
    have h2 := h n (by omega)
    simp only [p_sum]
    have e : m * ((n + 1 : Nat) : Int) = m * n + m := by push_cast; rw [Int.mul_add, Int.mul_one]
    rw [e]
    omega
theorem c_lc_b {M : gj_M} (hI : c_I M) (f c : Int) : 0 ≤ c_lc M f c ∧ c_lc M f c ≤ 4 := by
  have h1 := p_sum_b (g := fun l : Nat => c_cw M l f c) (m := 1) (M 10 1).toNat (fun i _ => by have := c_cw_01 M i f c; omega)
  have h2 := hI.1
  unfold c_lc
  omega
theorem c_seen_in {M : gj_M} (hI : c_I M) (f c rub : Int) : c_seen M f c rub = -9 ∨ (0 ≤ c_seen M f c rub ∧ c_seen M f c rub ≤ 35) := by
  unfold c_seen
  have hod := hI.od f
  have hL := hI.1
  have hD := hI.2.1
  have key : ∀ (n i : Nat), (i : Int) + n = M 10 1 → p_first (p_va (M 10 1) (M 10 0) (c_ord M f) (M 18) (M 13) (M 14) (M 16) (M 17) (M 19) (M 20) (M 21) f c rub) n i = -9 ∨ (0 ≤ p_first (p_va (M 10 1) (M 10 0) (c_ord M f) (M 18) (M 13) (M 14) (M 16) (M 17) (M 19) (M 20) (M 21) f c rub) n i ∧ p_first (p_va (M 10 1) (M 10 0) (c_ord M f) (M 18) (M 13) (M 14) (M 16) (M 17) (M 19) (M 20) (M 21) f c rub) n i ≤ 35) := by
    intro n
    induction n with
    | zero => intro i _; exact Or.inl rfl
    | succ n ih =>
      intro i hi
      simp only [p_first]
      split
      · exact ih (i + 1) (by omega)
      · have h1 := hod.2.1 i (by omega) (by omega)
        have h2 := p_li_b (L := M 10 1) (i := (i : Int)) hod.1.1
        unfold p_va
        split
        · next hh =>
          have h3 := hh.2
          unfold p_cw at h3
          split at h3
          · next h4 => right; omega
          · omega
        · exact Or.inl rfl
  exact key (M 10 1).toNat 0 (by omega)
