/-! what the relation gives the calls; how it begins -/
theorem R_.I {C K : gj_M} (h : R_ C K) : c_I C := h.2.2.2.2.1.1.1
theorem R_.yI {C K : gj_M} (h : R_ C K) : y_I K 78 := h.2.2.2.2.1.1.2.1
theorem R_.t {C K : gj_M} (h : R_ C K) : 0 ≤ C 0 1 ∧ C 0 1 ≤ 80 := h.2.2.1.1
theorem R_.tk {C K : gj_M} (h : R_ C K) : 0 ≤ K 69 2 ∧ K 69 2 ≤ 80 := by rw [h.2.2.1.2.1]; exact h.t
theorem R_.tc {C K : gj_M} (h : R_ C K) : ∀ i : Int, 0 ≤ i → i < C 0 1 → 0 ≤ C 1 i ∧ C 1 i ≤ 255 := fun i a b => (h.2.2.1.2.2 i a b).2
theorem R_.h5 {C K : gj_M} (h : R_ C K) : ∀ l : Int, 0 ≤ l → l < 4 → 0 ≤ C 6 l ∧ C 6 l ≤ 48 := h.2.2.2.1.1
theorem R_.h6 {C K : gj_M} (h : R_ C K) : ∀ i : Int, 0 ≤ i → i < 2 → 0 ≤ C 8 i ∧ C 8 i ≤ 48 := h.2.2.2.1.2.1
theorem R_.g {C K : gj_M} (h : R_ C K) : 0 ≤ C 37 0 ∧ C 37 0 ≤ 6 := h.2.2.2.2.2.2.2.2.1
theorem R_.gk {C K : gj_M} (h : R_ C K) : 0 ≤ K 69 21 ∧ K 69 21 ≤ 6 := by rw [h.2.2.2.2.2.2.2.2.2.1]; exact h.g
theorem R_.gc {C K : gj_M} (h : R_ C K) : ∀ i : Int, 0 ≤ i → i < C 37 0 → (0 ≤ C 38 i ∧ C 38 i < 48) ∧ 0 ≤ C 39 i ∧ C 39 i < 10 := fun i a b => (h.2.2.2.2.2.2.2.2.2.2 i a b).2
theorem R_.gkc {C K : gj_M} (h : R_ C K) : ∀ i : Int, 0 ≤ i → i < K 69 21 → (0 ≤ K 83 i ∧ K 83 i < 48) ∧ 0 ≤ K 84 i ∧ K 84 i < 10 := fun i a b => by
  rw [h.2.2.2.2.2.2.2.2.2.1] at b
  have := h.2.2.2.2.2.2.2.2.2.2 i a b
  rw [this.1.1, this.1.2.1]
  exact this.2
theorem R_.up1 {C K : gj_M} (h : R_ C K) {l : Int} : 0 ≤ l → l < K 69 5 → 0 ≤ y_us K l (y_all (K 69 5) + 1).toNat ∧ y_us K l (y_all (K 69 5) + 1).toNat ≤ 2147483647 := fun a b => by
  have hV := h.2.2.2.2.1.1
  have := hV.sh (l := l) ⟨a, by rw [← hV.2.2.1.2]; exact b⟩
  exact ⟨this.1, this.2.1⟩
theorem R_.up2 {C K : gj_M} (h : R_ C K) {f c x : Int} : 0 ≤ x → x ≤ 10 → 0 ≤ y_ul K f c x (y_all (K 69 5) + 1).toNat ∧ y_ul K f c x (y_all (K 69 5) + 1).toNat ≤ 2147483647 := fun a b => by
  have := h.2.2.2.2.1.1.up f c ⟨a, b⟩
  exact ⟨this.1, this.2.1⟩
theorem R_.tN {C K : gj_M} (h : R_ C K) : K 69 2 = (((C 0 1).toNat : Nat) : Int) := by
  have := h.t
  rw [h.2.2.1.2.1]
  omega
theorem R_.tt {C K : gj_M} (h : R_ C K) : ∀ i : Nat, i < (C 0 1).toNat → K 70 i = C 1 i := fun i a => (h.2.2.1.2.2 i (by omega) (by omega)).1
theorem R_.tcN {C K : gj_M} (h : R_ C K) : ∀ i : Nat, i < (C 0 1).toNat → 0 ≤ C 1 i ∧ C 1 i ≤ 255 := fun i a => h.tc i (by omega) (by omega)
def zM_ : gj_M := fun _ _ => 0
def M0_ : gj_M := y_fr (w_one (w_one (w_one (w_one zM_ 21 5) 47 5) 56 5) 65 5) 78 40
theorem M0_z {h : Nat} (h1 : h ≠ 21) (h2 : h ≠ 47) (h3 : h ≠ 56) (h4 : h ≠ 65) (h5 : h ≠ 78) (i : Int) : M0_ h i = 0 := by
  unfold M0_
  rw [y_fr_o h5, w_one_o h4, w_one_o h3, w_one_o h2, w_one_o h1]
  rfl
theorem M0_21 {q : Int} (h0 : 0 ≤ q) (h1 : q < 5) : M0_ 21 q = 1 := by
  unfold M0_
  rw [y_fr_o (by decide), w_one_o (by decide), w_one_o (by decide), w_one_o (by decide), w_one_i 5 h0 (by omega)]
theorem M0_78 {i : Int} (h0 : 0 ≤ i) (h1 : i < 40) : M0_ 78 i = y_fi i := by
  unfold M0_
  exact y_fr_i 40 h0 (by omega)
theorem R_init : R_ M0_ M0_ := by
  have z : ∀ h : Nat, h ∉ [21, 47, 56, 65, 78] → ∀ i : Int, M0_ h i = 0 := fun h hh i => by
    simp only [List.mem_cons, List.not_mem_nil, or_false, not_or] at hh
    exact M0_z hh.1 hh.2.1 hh.2.2.1 hh.2.2.2.1 hh.2.2.2.2 i
  have fz : ∀ i : Int, i < 16 ∨ 31 ≤ i → y_fi i = 0 := fun i a => if_neg (by omega)
  have p31 : M0_ 78 31 = 0 := by rw [M0_78 (by decide) (by decide), fz 31 (by decide)]
  have hcI : c_I M0_ := by
    refine ⟨by rw [z 10 (by decide)]; decide, by rw [z 10 (by decide)]; decide, by rw [z 15 (by decide)]; decide, fun l a b => ?_, fun q a b => ?_, fun d a b => ?_, fun k a b => ?_, fun l g a b c d => ?_⟩
    · rw [z 18 (by decide), z 13 (by decide)]; decide
    · rw [z 19 (by decide), z 20 (by decide), M0_21 a b]; decide
    · rw [z 16 (by decide), z 17 (by decide)]; decide
    · rw [z 15 (by decide)] at b; omega
    · rw [z 10 (by decide)] at b; omega
  have hyI : y_I M0_ 78 := by
    refine ⟨by rw [z 69 (by decide)]; decide, by rw [z 69 (by decide)]; decide, by rw [p31]; decide, fun l a b => ?_, fun q a b => ?_, fun d a b => ?_, fun k a b => ?_, fun l g a b c d => ?_⟩
    · rw [M0_78 (by omega) (by omega), fz _ (by omega), z 72 (by decide)]; decide
    · rw [M0_78 (by omega) (by omega), M0_78 (by omega) (by omega), M0_78 (by omega) (by omega), (y_fi_q a b).1, (y_fi_q a b).2.1, (y_fi_q a b).2.2]; decide
    · rw [M0_78 (by omega) (by omega), M0_78 (by omega) (by omega), fz _ (by omega), fz _ (by omega)]; decide
    · rw [p31] at b; omega
    · rw [z 69 (by decide)] at b; omega
  have hW : W_ M0_ M0_ 78 := by
    refine ⟨hcI, hyI, by rw [z 69 (by decide), z 69 (by decide), z 10 (by decide), z 10 (by decide)]; exact ⟨rfl, rfl⟩, fun l a b => ?_, fun d a b => ?_, fun l a b => ?_, fun q a b => ?_, ?_, fun k a b => ?_⟩
    · rw [z 10 (by decide)] at b; omega
    · rw [z 10 (by decide)] at b; omega
    · show M0_ 78 (12 + l) = M0_ 18 l
      rw [M0_78 (by omega) (by omega), fz _ (by omega), z 18 (by decide)]
    · show M0_ 78 (16 + 3 * q) = M0_ 19 q ∧ M0_ 78 (16 + 3 * q + 1) = M0_ 20 q ∧ M0_ 78 (16 + 3 * q + 2) = M0_ 21 q
      rw [M0_78 (by omega) (by omega), M0_78 (by omega) (by omega), M0_78 (by omega) (by omega), (y_fi_q a b).1, (y_fi_q a b).2.1, (y_fi_q a b).2.2, z 19 (by decide), z 20 (by decide), M0_21 a b]
      exact ⟨rfl, rfl, rfl⟩
    · show M0_ 78 31 = M0_ 15 6
      rw [p31, z 15 (by decide)]
    · have b2 : k < M0_ 15 6 := b
      rw [z 15 (by decide)] at b2
      omega
  refine ⟨z 69 (by decide) 0, by rw [z 5069 (by decide), z 5000 (by decide)], ⟨by rw [z 0 (by decide)]; decide, by rw [z 69 (by decide), z 0 (by decide)], fun i a b => ?_⟩, ⟨fun l a b => ?_, fun i a b => ?_, fun d a b => ?_, fun l a b => ?_⟩, ⟨hW, fun k a b => ?_⟩, ⟨0, by decide, z 35 (by decide) 0, z 69 (by decide) 18, trivial⟩, ⟨⟨by rw [z 82 (by decide), z 68 (by decide)], by rw [z 82 (by decide), z 68 (by decide)]⟩, fun q => absurd (z 68 (by decide) 0) q, fun q => absurd (z 68 (by decide) 1) q⟩, fun l a b => ?_, ⟨by rw [z 37 (by decide)]; decide, by rw [z 69 (by decide), z 37 (by decide)], fun i a b => ?_⟩⟩
  · rw [z 0 (by decide)] at b; omega
  · rw [z 6 (by decide)]; decide
  · rw [z 8 (by decide)]; decide
  · rw [z 4 (by decide), z 5 (by decide)]; decide
  · rw [z 74 (by decide)]; decide
  · rw [z 15 (by decide)] at b; omega
  · rw [z 10 (by decide)] at b; omega
  · rw [z 37 (by decide)] at b; omega
