/-! the class's reader keeps what it has read within bounds -/
def r_V (A : gj_M) (d : Int) : Prop := d = -9 ∨ (0 ≤ d ∧ d < A 3 0)
def r_S (A : gj_M) : Prop := ∀ l g : Int, 0 ≤ l → l < A 3 1 → 0 ≤ g → g < A 6 l → r_V A (A 7 (l * 48 + g))
def r_B (A : gj_M) : Prop := ∀ d : Int, 0 ≤ d → d < 6 → (0 ≤ A 4 d ∧ A 4 d ≤ 9) ∧ 0 ≤ A 5 d ∧ A 5 d ≤ 5
def r_J (A : gj_M) : Prop := r_B A ∧ r_S A ∧ (A 2 1 = 3 → 0 ≤ A 2 3 ∧ A 2 3 ≤ 9) ∧ (A 2 1 = 7 → r_V A (A 2 4))
theorem r_ap_3 (A : gj_M) (d i : Int) : r_ap A d 3 i = A 3 i := r_ap_67 A d 3 (by decide) i
theorem r_ap_S {A : gj_M} {d : Int} (hI : r_I A) (h : r_S A) (hd : r_V A d) : r_S (r_ap A d) := by
  have hL := hI.2.1
  intro l g l0 l1 g0 g1
  have hv : ∀ x, r_V A x → r_V (r_ap A d) x := fun x hx => by unfold r_V at hx ⊢; rw [r_ap_3]; exact hx
  rw [r_ap_3] at l1
  have h6 := hI.2.2.2.2.1
  have hl := h6 l l0 (by omega)
  apply hv
  unfold r_ap at g1 ⊢
  split at g1
  · next q => rw [if_pos q]; exact h l g l0 l1 g0 g1
  · next q =>
    rw [if_neg q, gj_u_o (show (7 : Nat) ≠ 6 by decide)]
    have hl2 := h6 (A 3 1 - 1) (by omega) (by omega)
    by_cases z : l = A 3 1 - 1
    · rw [z, gj_u_s] at g1
      rw [z]
      by_cases y : g = A 6 (A 3 1 - 1)
      · rw [y, gj_u_s]; exact hd
      · rw [gj_u_i (by omega), ← z]
        exact h l g l0 l1 g0 (by rw [z]; omega)
    · rw [gj_u_i z, gj_u_o (by decide)] at g1
      rw [gj_u_i (by omega)]
      exact h l g l0 l1 g0 g1
theorem r_ho_S {A : gj_M} {d : Int} (hI : r_I A) (h : r_S A) (hd : r_V A d) : ∀ n, r_S (r_ho A d n) ∧ r_ho A d n 3 0 = A 3 0 := by
  intro n
  induction n with
  | zero => exact ⟨h, rfl⟩
  | succ n ih =>
    refine ⟨r_ap_S (r_ho_I hI n) ih.1 ?_, ?_⟩
    · unfold r_V at hd ⊢; rw [ih.2]; exact hd
    · show r_ap _ _ 3 0 = _
      rw [r_ap_3]; exact ih.2
theorem r_r1_S {A : gj_M} {st L : Int} (hI : r_I A) (h : r_S A) (hs : 0 ≤ st) (hL : A 3 1 = L + 1) (h0 : 0 ≤ L) {len : Nat} (hn : ∀ j : Nat, j < len → st + j < A 6 L) : ∀ n, n ≤ len → r_S (r_r1 A (L * 48) st n) ∧ (∀ i, r_r1 A (L * 48) st n 3 i = A 3 i) ∧ A 6 L ≤ r_r1 A (L * 48) st n 6 L := by
  intro n
  induction n with
  | zero => intro _; exact ⟨h, fun _ => rfl, Int.le_refl _⟩
  | succ n ih =>
    intro hle
    have ih := ih (by omega)
    have hj := hn n (by omega)
    refine ⟨r_ap_S (r_r1_I hI n) ih.1 ?_, fun i => ?_, ?_⟩
    · exact ih.1 L (st + n) h0 (by rw [ih.2.1]; omega) (by omega) (by omega)
    · show r_ap _ _ 3 i = _
      rw [r_ap_3]; exact ih.2.1 i
    · exact Int.le_trans ih.2.2 (r_ap_up L)
theorem r_rp_S {A : gj_M} {st L : Int} (hI : r_I A) (h : r_S A) (hs : 0 ≤ st) (hL : A 3 1 = L + 1) (h0 : 0 ≤ L) {len : Nat} (hn : ∀ j : Nat, j < len → st + j < A 6 L) : ∀ k, r_S (r_rp A (L * 48) st len k) ∧ (∀ i, r_rp A (L * 48) st len k 3 i = A 3 i) ∧ A 6 L ≤ r_rp A (L * 48) st len k 6 L := by
  intro k
  induction k with
  | zero => exact ⟨h, fun _ => rfl, Int.le_refl _⟩
  | succ k ih =>
    have hh := r_r1_S (r_rp_I hI k) ih.1 hs (by rw [ih.2.1]; exact hL) h0 (len := len) (fun j hj => by have := hn j hj; have := ih.2.2; omega) len (Nat.le_refl _)
    exact ⟨hh.1, fun i => (hh.2.1 i).trans (ih.2.1 i), Int.le_trans ih.2.2 hh.2.2⟩
theorem r_rf_67 (A : gj_M) (st k : Int) : gj_E [6, 7] A (r_rf A st k) := by
  unfold r_rf
  split
  · exact gj_E.rf
  · exact r_rp_67 _ _ _ _ _
theorem r_rf_S {A : gj_M} {st k : Int} (hI : r_I A) (h : r_S A) (hs : 0 ≤ st) : r_S (r_rf A st k) := by
  have hb := hI.2.1
  by_cases q : A 3 1 < 1
  · have e : r_rf A st k = A := if_pos (Or.inl (by omega))
    rw [e]; exact h
  · rw [r_rf_eq (L := A 3 1 - 1) (by omega) (by omega) hs]
    exact (r_rp_S hI h hs (by omega) (by omega) (fun j hj => by omega) _).1
theorem r_S.o {A A' : gj_M} (h : r_S A) (e3 : ∀ i, A' 3 i = A 3 i) (e6 : A' 6 = A 6) (e7 : A' 7 = A 7) : r_S A' := by
  unfold r_S r_V at h ⊢
  rw [e3, e3, e6, e7]
  exact h
theorem r_B.o {A A' : gj_M} (h : r_B A) (e4 : A' 4 = A 4) (e5 : A' 5 = A 5) : r_B A' := by
  unfold r_B at h ⊢
  rw [e4, e5]
  exact h
theorem r_S.aw {A : gj_M} (h : r_S A) {i v : Int} : r_S (gj_u A 2 i v) := h.o (fun _ => rfl) rfl rfl
theorem r_B.aw {A : gj_M} (h : r_B A) {i v : Int} : r_B (gj_u A 2 i v) := h.o rfl rfl
theorem r_lv_J {A : gj_M} {c : Int} (hI : r_I A) (h : r_J A) : r_J (r_lv A c) := by
  obtain ⟨hB, hS, h3, h7⟩ := h
  unfold r_lv
  split
  · exact ⟨hB, hS, h3, h7⟩
  · next q =>
    have e : r_al A = gj_u (gj_u A 6 (A 3 1) 0) 3 1 (A 3 1 + 1) := if_pos (by omega)
    rw [e]
    refine ⟨hB.o rfl rfl, ?_, fun z => by rw [gj_u_s] at z; exact absurd z (by decide), fun z => by rw [gj_u_s] at z; exact absurd z (by decide)⟩
    intro l g l0 l1 g0 g1
    have l2 : l < A 3 1 + 1 := l1
    have g2 : g < gj_u A 6 (A 3 1) 0 6 l := g1
    by_cases z : l = A 3 1
    · rw [z, gj_u_s] at g2; omega
    · rw [gj_u_i z] at g2
      exact hS l g l0 (by omega) g0 g2
theorem r_it_J {A : gj_M} {c : Int} (h : r_J A) (h5 : A 2 1 = 5 ∨ A 2 1 = 6) : r_J (r_it A c) := by
  obtain ⟨hB, hS, h3, h7⟩ := id h
  unfold r_it
  split
  · unfold r_op
    split
    · exact h
    · exact ⟨hB.o rfl rfl, hS.o (fun _ => rfl) rfl rfl, fun z => by rw [gj_u_s] at z; exact absurd z (by decide), fun z => by rw [gj_u_s] at z; exact absurd z (by decide)⟩
  split
  · exact ⟨hB.o rfl rfl, hS.o (fun _ => rfl) rfl rfl, fun z => by rw [gj_u_s] at z; exact absurd z (by decide), fun _ => Or.inl rfl⟩
  split
  · next q => exact ⟨hB.o rfl rfl, hS.o (fun _ => rfl) rfl rfl, fun z => by rw [gj_u_s] at z; exact absurd z (by decide), fun _ => Or.inr q⟩
  · exact h
/-- a letter that is taken -/
theorem r_tk_J {A : gj_M} {c : Int} (hI : r_I A) (h : r_J A) (ha : a_tk A c ≠ 0) : r_J (r_tk A c) := by
  obtain ⟨hB, hS, h3, h7⟩ := id h
  have hb := hI.2.2.1
  rcases (show A 2 1 = 0 ∨ A 2 1 = 1 ∨ A 2 1 = 2 ∨ A 2 1 = 3 ∨ A 2 1 = 4 ∨ A 2 1 = 5 ∨ A 2 1 = 6 ∨ A 2 1 = 7 ∨ A 2 1 = 8 by omega) with z | z | z | z | z | z | z | z | z
  · rw [(tk_0 z).2]
    exact ⟨hB.aw, hS.aw, fun z => by rw [gj_u_s] at z; exact absurd z (by decide), fun z => by rw [gj_u_s] at z; exact absurd z (by decide)⟩
  · rw [(tk_1 z).2]
    split
    · exact ⟨hB.aw, hS.aw, fun z => by unfold r_dr at z; rw [gj_u_s] at z; exact absurd z (by decide), fun z => by unfold r_dr at z; rw [gj_u_s] at z; exact absurd z (by decide)⟩
    · exact r_lv_J hI h
  · rw [(tk_2 z).1] at ha
    rw [(tk_2 z).2]
    refine ⟨hB.o rfl rfl, hS.o (fun _ => rfl) rfl rfl, fun _ => ?_, fun z => by rw [gj_u_s] at z; exact absurd z (by decide)⟩
    show 0 ≤ c - 48 ∧ c - 48 ≤ 9
    split at ha
    · exact absurd rfl ha
    · omega
  · rw [(tk_3 z).2]
    unfold r_wd
    split
    · exact h
    · next q =>
      have hx := h3 z
      have hD := hI.1
      refine ⟨?_, ?_, fun z => by rw [gj_u_s] at z; exact absurd z (by decide), fun z => by rw [gj_u_s] at z; exact absurd z (by decide)⟩
      · refine r_B.aw ?_
        unfold r_ad
        split
        · intro d d0 d6
          have := hB d d0 d6
          by_cases y : d = A 3 0
          · rw [y, gj_u_o (show (4 : Nat) ≠ 3 by decide), gj_u_o (show (4 : Nat) ≠ 5 by decide), gj_u_s, gj_u_o (show (5 : Nat) ≠ 3 by decide), gj_u_s]
            omega
          · rw [gj_u_o (show (4 : Nat) ≠ 3 by decide), gj_u_i y, gj_u_i y, gj_u_o (show (5 : Nat) ≠ 3 by decide), gj_u_i y, gj_u_i y]
            exact this
        · exact hB
      · refine r_S.aw ?_
        unfold r_ad
        split
        · intro l g l0 l1 g0 g1
          have := hS l g l0 l1 g0 g1
          unfold r_V at this ⊢
          rw [gj_u_s]
          show A 7 (l * 48 + g) = -9 ∨ 0 ≤ A 7 (l * 48 + g) ∧ A 7 (l * 48 + g) < A 3 0 + 1
          omega
        · exact hS
  · rw [(tk_4 z).2]
    exact r_lv_J hI h
  · rw [(tk_5 z).2]
    unfold r_ie
    split
    · exact ⟨hB.aw, hS.aw, fun z => by rw [gj_u_s] at z; exact absurd z (by decide), fun z => by rw [gj_u_s] at z; exact absurd z (by decide)⟩
    split
    · exact ⟨hB.aw, hS.aw, fun z => by rw [gj_u_s] at z; exact absurd z (by decide), fun z => by rw [gj_u_s] at z; exact absurd z (by decide)⟩
    · exact r_it_J h (Or.inl z)
  · rw [(tk_6 z).2]
    exact r_it_J h (Or.inr z)
  · rw [(tk_7 z).2]
    unfold r_hd
    split
    · exact h
    · have e := r_ho_67 A (A 2 4) (c - 48).toNat
      exact ⟨(hB.o (e.f (by decide)) (e.f (by decide))).aw, (r_ho_S hI hS (h7 z) _).1.aw, fun z => by rw [gj_u_s] at z; exact absurd z (by decide), fun z => by rw [gj_u_s] at z; exact absurd z (by decide)⟩
  · rw [(tk_8 z).2]
    unfold r_tm
    split
    · exact h
    · next q =>
      have e := r_rf_67 (gj_u A 2 2 (A 2 2 - 1)) (A 8 (A 2 2 - 1)) (c - 48)
      have h8 := (hI.2.2.2.2.2 (A 2 2 - 1) (by omega) (by omega)).1
      refine ⟨((hB.aw (i := 2) (v := A 2 2 - 1)).o (e.f (by decide)) (e.f (by decide))).aw, (r_rf_S (hI.dp (by omega)) hS.aw h8).aw, fun z => by rw [gj_u_s] at z; exact absurd z (by decide), fun z => by rw [gj_u_s] at z; exact absurd z (by decide)⟩
/-- any letter leaves the drawings in bounds -/
theorem r_tk_B {A : gj_M} {c : Int} (hI : r_I A) (h : r_J A) : r_B (r_tk A c) := by
  by_cases ha : a_tk A c = 0
  · obtain ⟨hB, hS, h3, h7⟩ := id h
    have hb := hI.2.2.1
    rcases (show A 2 1 = 2 ∨ A 2 1 ≠ 2 by omega) with z | z
    · rw [(tk_2 z).2]
      exact hB.o rfl rfl
    · rcases (show A 2 1 = 0 ∨ A 2 1 = 1 ∨ A 2 1 = 3 ∨ A 2 1 = 4 ∨ A 2 1 = 5 ∨ A 2 1 = 6 ∨ A 2 1 = 7 ∨ A 2 1 = 8 by omega) with z | z | z | z | z | z | z | z
      · rw [(tk_0 z).2]; exact hB.aw
      · rw [(tk_1 z).2]
        split
        · exact hB.aw
        · exact (r_lv_J hI h).1
      · rw [(tk_3 z).1] at ha
        rw [(tk_3 z).2]
        unfold a_wd at ha
        unfold r_wd
        split
        · exact hB
        · next q => rw [if_neg q] at ha; exact absurd ha (by decide)
      · rw [(tk_4 z).2]; exact (r_lv_J hI h).1
      · rw [(tk_5 z).2]
        unfold r_ie
        split
        · exact hB.aw
        split
        · exact hB.aw
        · exact (r_it_J h (Or.inl z)).1
      · rw [(tk_6 z).2]; exact (r_it_J h (Or.inr z)).1
      · rw [(tk_7 z).2]
        unfold r_hd
        split
        · exact hB
        · exact (hB.o ((r_ho_67 A (A 2 4) (c - 48).toNat).f (by decide)) ((r_ho_67 A (A 2 4) (c - 48).toNat).f (by decide))).aw
      · rw [(tk_8 z).2]
        unfold r_tm
        split
        · exact hB
        · have e := r_rf_67 (gj_u A 2 2 (A 2 2 - 1)) (A 8 (A 2 2 - 1)) (c - 48)
          exact ((hB.aw (i := 2) (v := A 2 2 - 1)).o (e.f (by decide)) (e.f (by decide))).aw
  · exact (r_tk_J hI h ha).1
theorem r_in_J {C : gj_M} (hB : r_B C) : r_J (r_in C) := by
  refine ⟨hB.o rfl rfl, ?_, fun z => by unfold r_in at z; rw [gj_u_i (by decide), gj_u_s] at z; exact absurd z (by decide), fun z => by unfold r_in at z; rw [gj_u_i (by decide), gj_u_s] at z; exact absurd z (by decide)⟩
  intro l g l0 l1 g0 g1
  have : l < 0 := l1
  omega
theorem r_fn_B {C : gj_M} {t : Int → Int} (h5 : ∀ l : Int, 0 ≤ l → l < 4 → 0 ≤ C 6 l ∧ C 6 l ≤ 48) (h6 : ∀ i : Int, 0 ≤ i → i < 2 → 0 ≤ C 8 i ∧ C 8 i ≤ 48) : ∀ (n p : Nat), r_J (r_ru C t p) → r_B (r_ru C t (r_fn C t n p)) ∧ (r_ff C t n p = -9 → r_fn C t n p = p + n ∧ r_J (r_ru C t (p + n))) := by
  intro n
  induction n with
  | zero => intro p h; exact ⟨h.1, fun _ => ⟨rfl, h⟩⟩
  | succ n ih =>
    intro p h
    have hI := r_ru_I (t := t) h5 h6 p
    simp only [r_fn, r_ff]
    by_cases q : a_tk (r_ru C t p) (t p) = 0
    · rw [if_pos q, if_pos q]
      exact ⟨r_tk_B hI h, fun z => by omega⟩
    · rw [if_neg q, if_neg q]
      have := ih (p + 1) (r_tk_J hI h q)
      refine ⟨this.1, fun z => ?_⟩
      have := this.2 z
      rw [show p + (n + 1) = p + 1 + n by omega]
      exact this
theorem r_ff_nn {C : gj_M} {t : Int → Int} : ∀ (n p : Nat), r_ff C t n p = -9 ∨ 0 ≤ r_ff C t n p := by
  intro n
  induction n with
  | zero => intro p; simp only [r_ff]; split <;> omega
  | succ n ih => intro p; simp only [r_ff]; split
                 · omega
                 · exact ih (p + 1)
theorem m_fault_E (C : gj_M) : gj_E r_hs C (m_fault C) := r_ru_E _ _ _
theorem R_.fault {C K K' : gj_M} (h : R_ C K) (hF : v_F K K') : R_ (m_fault C) K' := by
  obtain ⟨h0, h1, hT, ⟨d1, d2, d3, d4⟩, hV, hZ, hP, hH, hG⟩ := h
  have hE := m_fault_E C
  have e : ∀ x : Nat, x ∉ r_hs → m_fault C x = C x := fun x hx => hE.f hx
  have k : ∀ x : Nat, x ∉ [69, 73, 74, 75, 76, 77] → K' x = K x := fun x hx => hF.1.f hx
  have k69 : ∀ i : Int, i ≠ 3 → i ≠ 8 → i ≠ 9 → K' 69 i = K 69 i := hF.2.1
  have kr : kr_ K K' := ⟨k69 4 (by decide) (by decide) (by decide), k69 5 (by decide) (by decide) (by decide), k 71 (by decide), k 72 (by decide)⟩
  have hce : c_eq C (m_fault C) := fun x hx => e x ((by decide : ∀ x ∈ c_hs, x ∉ r_hs) x hx)
  have hI : r_I (m_fault C) := r_ru_I d1 d2 _
  have hB : r_B (m_fault C) := (r_fn_B d1 d2 (C 0 1).toNat 0 (r_in_J d3)).1
  exact ⟨by rw [k69 0 (by decide) (by decide) (by decide)]; exact h0, by rw [k 5069 (by decide), e 5000 (by decide)]; exact h1, hT.cg (by rw [e 0 (by decide)]) (e 1 (by decide)) (k69 2 (by decide) (by decide) (by decide)) (k 70 (by decide)), ⟨hI.2.2.2.2.1, hI.2.2.2.2.2, hB, hF.2.2 d4⟩, hV.cg hce ⟨fun i _ _ => by rw [k 78 (by decide)], kr⟩, hZ.cg (by rw [e 35 (by decide)]) (e 36 (by decide)) hce.ce (k69 18 (by decide) (by decide) (by decide)) (k 80 (by decide)) kr, hP.cg (fun x hx => e x ((by decide : ∀ x ∈ cP_, x ∉ r_hs) x hx)) (k 81 (by decide)) (k 82 (by decide)) kr, hH.cg (by rw [e 10 (by decide)]) (e 13 (by decide)) (e 14 (by decide)) (e 31 (by decide)), hG.cg (by rw [e 37 (by decide)]) (e 38 (by decide)) (e 39 (by decide)) (e 40 (by decide)) (k69 21 (by decide) (by decide) (by decide)) (k 83 (by decide)) (k 84 (by decide)) (k 85 (by decide))⟩
/-! a reel told: both sides -/
def w_rl (A : gj_M) : gj_M := p_clr (gj_u (p_clr (b_bg (b_rc A)) 31 4) 35 0 0) 68 2
theorem b_tp_o {M : gj_M} {h : Nat} (h1 : h ≠ 19) (h2 : h ≠ 20) (h3 : h ≠ 21) (i : Int) : ∀ n, b_tp M n h i = M h i := by
  intro n
  induction n with
  | zero => rfl
  | succ n ih => simp only [b_tp]; rw [gj_u_o h3, gj_u_o h2, gj_u_o h1, ih]
theorem b_tp_i {M : gj_M} {q : Int} : ∀ n : Nat, 0 ≤ q → q < n → b_tp M n 19 q = 0 ∧ b_tp M n 20 q = 0 ∧ b_tp M n 21 q = 1 := by
  intro n
  induction n with
  | zero => intro h0 h1; omega
  | succ n ih =>
    intro h0 h1
    simp only [b_tp]
    by_cases z : q = n
    · rw [z]
      refine ⟨?_, ?_, ?_⟩
      · rw [gj_u_o (by decide), gj_u_o (by decide), gj_u_s]
      · rw [gj_u_o (by decide), gj_u_s]
      · rw [gj_u_s]
    · rw [gj_u_i z, gj_u_i z, gj_u_i z, gj_u_i z, gj_u_i z, gj_u_i z, gj_u_i z, gj_u_i z, gj_u_i z]
      exact ih h0 (by omega)
theorem w_rl_o {A : gj_M} {x : Nat} (hx : x ∉ [10, 11, 12, 13, 14, 15, 16, 17, 18, 19, 20, 21, 31, 35, 68]) : w_rl A x = A x := by
  simp only [List.mem_cons, List.not_mem_nil, or_false, not_or] at hx
  obtain ⟨a, b, c, d, e, f, g, h, i, j, k, l, m, n, o⟩ := hx
  funext y
  unfold w_rl b_bg b_rc
  rw [p_clr_o o, gj_u_o n, p_clr_o m, gj_u_o f, b_tp_o j k l, p_clr_o i, gj_cp_o h, gj_cp_o g, gj_cp_o e, gj_cp_o d, gj_cp_o c, gj_cp_o b, gj_u_o a, gj_u_o a]
theorem w_rl_10 {A : gj_M} : w_rl A 10 0 = A 3 0 ∧ w_rl A 10 1 = A 3 1 := by
  unfold w_rl b_bg b_rc
  constructor
  · rw [p_clr_o (by decide), gj_u_o (by decide), p_clr_o (by decide), gj_u_o (by decide), b_tp_o (by decide) (by decide) (by decide), p_clr_o (by decide), gj_cp_o (by decide), gj_cp_o (by decide), gj_cp_o (by decide), gj_cp_o (by decide), gj_cp_o (by decide), gj_cp_o (by decide), gj_u_i (by decide), gj_u_s]
  · rw [p_clr_o (by decide), gj_u_o (by decide), p_clr_o (by decide), gj_u_o (by decide), b_tp_o (by decide) (by decide) (by decide), p_clr_o (by decide), gj_cp_o (by decide), gj_cp_o (by decide), gj_cp_o (by decide), gj_cp_o (by decide), gj_cp_o (by decide), gj_cp_o (by decide), gj_u_s]
theorem w_rl_13 {A : gj_M} {l : Int} (h0 : 0 ≤ l) (h1 : l < 4) : w_rl A 13 l = A 6 l := by
  unfold w_rl b_bg b_rc
  rw [p_clr_o (by decide), gj_u_o (by decide), p_clr_o (by decide), gj_u_o (by decide), b_tp_o (by decide) (by decide) (by decide), p_clr_o (by decide), gj_cp_o (by decide), gj_cp_o (by decide), gj_cp_o (by decide), gj_cp_s h0 h1, gj_cp_o (by decide), gj_cp_o (by decide), gj_u_o (by decide), gj_u_o (by decide)]
theorem w_rl_14 {A : gj_M} {i : Int} (h0 : 0 ≤ i) (h1 : i < 192) : w_rl A 14 i = A 7 i := by
  unfold w_rl b_bg b_rc
  rw [p_clr_o (by decide), gj_u_o (by decide), p_clr_o (by decide), gj_u_o (by decide), b_tp_o (by decide) (by decide) (by decide), p_clr_o (by decide), gj_cp_o (by decide), gj_cp_o (by decide), gj_cp_s h0 h1, gj_cp_o (by decide), gj_cp_o (by decide), gj_cp_o (by decide), gj_u_o (by decide), gj_u_o (by decide)]
theorem w_rl_15 {A : gj_M} : w_rl A 15 6 = 0 := by
  unfold w_rl b_bg
  rw [p_clr_o (by decide), gj_u_o (by decide), p_clr_o (by decide), gj_u_s]
theorem w_rl_16 {A : gj_M} {d : Int} (h0 : 0 ≤ d) (h1 : d < 6) : w_rl A 16 d = A 4 d ∧ w_rl A 17 d = A 5 d := by
  unfold w_rl b_bg b_rc
  constructor
  · rw [p_clr_o (by decide), gj_u_o (by decide), p_clr_o (by decide), gj_u_o (by decide), b_tp_o (by decide) (by decide) (by decide), p_clr_o (by decide), gj_cp_o (by decide), gj_cp_s h0 h1, gj_cp_o (by decide), gj_cp_o (by decide), gj_cp_o (by decide), gj_cp_s h0 h1, gj_u_o (by decide), gj_u_o (by decide)]
  · rw [p_clr_o (by decide), gj_u_o (by decide), p_clr_o (by decide), gj_u_o (by decide), b_tp_o (by decide) (by decide) (by decide), p_clr_o (by decide), gj_cp_s h0 h1, gj_cp_o (by decide), gj_cp_o (by decide), gj_cp_o (by decide), gj_cp_s h0 h1, gj_cp_o (by decide), gj_u_o (by decide), gj_u_o (by decide)]
theorem w_rl_18 {A : gj_M} {l : Int} (h0 : 0 ≤ l) (h1 : l < 4) : w_rl A 18 l = 0 := by
  unfold w_rl b_bg
  rw [p_clr_o (by decide), gj_u_o (by decide), p_clr_o (by decide), gj_u_o (by decide), b_tp_o (by decide) (by decide) (by decide), p_clr_i 4 h0 (by omega)]
theorem w_rl_19 {A : gj_M} {q : Int} (h0 : 0 ≤ q) (h1 : q < 5) : w_rl A 19 q = 0 ∧ w_rl A 20 q = 0 ∧ w_rl A 21 q = 1 := by
  unfold w_rl b_bg
  rw [p_clr_o (by decide), gj_u_o (by decide), p_clr_o (by decide), gj_u_o (by decide), p_clr_o (by decide), gj_u_o (by decide), p_clr_o (by decide), gj_u_o (by decide), p_clr_o (by decide), gj_u_o (by decide), p_clr_o (by decide), gj_u_o (by decide)]
  exact b_tp_i 5 h0 (by omega)
theorem w_rl_31 {A : gj_M} {l : Int} (h0 : 0 ≤ l) (h1 : l < 4) : w_rl A 31 l = 0 := by
  unfold w_rl
  rw [p_clr_o (by decide), gj_u_o (by decide), p_clr_i 4 h0 (by omega)]
theorem w_rl_35 {A : gj_M} : w_rl A 35 0 = 0 ∧ w_rl A 68 0 = 0 ∧ w_rl A 68 1 = 0 := by
  unfold w_rl
  refine ⟨?_, p_clr_i 2 (by decide) (by decide), p_clr_i 2 (by decide) (by decide)⟩
  rw [p_clr_o (by decide), gj_u_s]
theorem n_reel_o {K : gj_M} {x : Nat} (hx : x ∉ [69, 71, 72, 78, 82]) : n_reel K x = K x := by
  simp only [List.mem_cons, List.not_mem_nil, or_false, not_or] at hx
  obtain ⟨a, b, c, d, e⟩ := hx
  funext y
  unfold n_reel
  rw [gj_u_o e, gj_u_o e, gj_u_o a, y_cp_o d, y_cp_o c, y_cp_o b, gj_u_o a, gj_u_o a]
theorem n_reel_69 {K : gj_M} {i : Int} (h1 : i ≠ 4) (h2 : i ≠ 5) (h3 : i ≠ 18) : n_reel K 69 i = K 69 i := by
  unfold n_reel
  rw [gj_u_o (by decide), gj_u_o (by decide), gj_u_i h3, y_cp_o (by decide), y_cp_o (by decide), y_cp_o (by decide), gj_u_i h2, gj_u_i h1]
theorem n_reel_4 {K : gj_M} : n_reel K 69 4 = K 69 8 ∧ n_reel K 69 5 = K 69 9 ∧ n_reel K 69 18 = 0 ∧ n_reel K 82 0 = 0 ∧ n_reel K 82 1 = 0 := by
  unfold n_reel
  refine ⟨?_, ?_, ?_, ?_, ?_⟩
  · rw [gj_u_o (by decide), gj_u_o (by decide), gj_u_i (by decide), y_cp_o (by decide), y_cp_o (by decide), y_cp_o (by decide), gj_u_i (by decide), gj_u_s]
  · rw [gj_u_o (by decide), gj_u_o (by decide), gj_u_i (by decide), y_cp_o (by decide), y_cp_o (by decide), y_cp_o (by decide), gj_u_s]
  · rw [gj_u_o (by decide), gj_u_o (by decide), gj_u_s]
  · rw [gj_u_i (by decide), gj_u_s]
  · rw [gj_u_s]
theorem n_reel_71 {K : gj_M} {i : Int} (h0 : 0 ≤ i) (h1 : i < 192) : n_reel K 71 i = K 73 i := by
  unfold n_reel
  rw [gj_u_o (by decide), gj_u_o (by decide), gj_u_o (by decide), y_cp_o (by decide), y_cp_o (by decide), y_cp_i (by decide), if_pos ⟨h0, by omega⟩, gj_u_o (by decide), gj_u_o (by decide)]
theorem n_reel_72 {K : gj_M} {i : Int} (h0 : 0 ≤ i) (h1 : i < 4) : n_reel K 72 i = K 74 i := by
  unfold n_reel
  rw [gj_u_o (by decide), gj_u_o (by decide), gj_u_o (by decide), y_cp_o (by decide), y_cp_i (by decide), if_pos ⟨h0, by omega⟩, y_cp_o (by decide), gj_u_o (by decide), gj_u_o (by decide)]
theorem n_reel_78 {K : gj_M} {i : Int} (h0 : 0 ≤ i) (h1 : i < 40) : n_reel K 78 i = K 75 i := by
  unfold n_reel
  rw [gj_u_o (by decide), gj_u_o (by decide), gj_u_o (by decide), y_cp_i (by decide), if_pos ⟨h0, by omega⟩, y_cp_o (by decide), y_cp_o (by decide), gj_u_o (by decide), gj_u_o (by decide)]
theorem y_fi_q {q : Int} (h0 : 0 ≤ q) (h1 : q < 5) : y_fi (16 + 3 * q) = 0 ∧ y_fi (16 + 3 * q + 1) = 0 ∧ y_fi (16 + 3 * q + 2) = 1 := by
  unfold y_fi
  refine ⟨if_neg (by omega), if_neg (by omega), if_pos (by omega)⟩
theorem R_.told {C K K1 A : gj_M} {N : Nat} (h : R_ C K) (hA : A = m_fault C) (hB : v_B K A K1 N) (h9 : K1 69 9 = A 3 1) (hJ : r_J A) : R_ (w_rl A) (n_reel K1) := by
  obtain ⟨h0, h1, hT, ⟨d1, d2, d3, d4⟩, hV, hZ, hP, hH, hG⟩ := h
  obtain ⟨hF, ⟨q1, q2, q3, q4⟩, hR, hI, -⟩ := hB
  have hE : gj_E r_hs C A := by rw [hA]; exact m_fault_E C
  have e : ∀ x : Nat, x ∉ [10, 11, 12, 13, 14, 15, 16, 17, 18, 19, 20, 21, 31, 35, 68] → x ∉ r_hs → w_rl A x = C x := fun x hx hy => (w_rl_o hx).trans (hE.f hy)
  have k : ∀ x : Nat, x ∉ [69, 71, 72, 78, 82] → x ∉ [69, 73, 74, 75, 76, 77] → n_reel K1 x = K x := fun x hx hy => (n_reel_o hx).trans (hF.1.f hy)
  have k69 : ∀ i : Int, i ≠ 4 → i ≠ 5 → i ≠ 18 → i ≠ 3 → i ≠ 8 → i ≠ 9 → n_reel K1 69 i = K 69 i := fun i a b c x y z => (n_reel_69 a b c).trans (hF.2.1 i x y z)
  have hLb := hF.2.2 d4
  obtain ⟨i1, i2, i3, i4, i5, i6⟩ := hI
  obtain ⟨jB, jS, -, -⟩ := hJ
  have w10 := w_rl_10 (A := A)
  have n4 := n_reel_4 (K := K1)
  have hcI : c_I (w_rl A) := by
    refine ⟨by rw [w10.2]; exact i2, by rw [w10.1]; exact i1, by rw [w_rl_15]; decide, fun l a b => ?_, fun q a b => ?_, fun d a b => ?_, fun x a b => ?_, fun l g a b c d => ?_⟩
    · rw [w_rl_18 a b, w_rl_13 a b]; exact ⟨by decide, i5 l a b⟩
    · rw [(w_rl_19 a b).1, (w_rl_19 a b).2.1, (w_rl_19 a b).2.2]; decide
    · rw [(w_rl_16 a b).1, (w_rl_16 a b).2]; exact jB d a b
    · rw [w_rl_15] at b; omega
    · rw [w10.2] at b
      rw [w_rl_13 a (by omega)] at d
      have := i5 l a (by omega)
      rw [w_rl_14 (by omega) (by omega), w10.1]
      exact jS l g a b c d
  have f12 : ∀ i : Int, 12 ≤ i → i < 40 → n_reel K1 78 i = y_fi i := fun i a b => by rw [n_reel_78 (by omega) b]; exact q4 i a b
  have fz : ∀ i : Int, i < 16 ∨ 31 ≤ i → y_fi i = 0 := fun i a => if_neg (by omega)
  have hyI : y_I (n_reel K1) 78 := by
    refine ⟨by rw [n4.2.1, h9]; exact i2, by rw [n4.1, q1]; exact i1, by rw [f12 31 (by decide) (by decide), fz 31 (by decide)]; decide, fun l a b => ?_, fun q a b => ?_, fun d a b => ?_, fun x a b => ?_, fun l g a b c d => ?_⟩
    · rw [f12 _ (by omega) (by omega), fz _ (by omega), n_reel_72 a b]; exact ⟨by decide, hLb l a b⟩
    · rw [f12 _ (by omega) (by omega), f12 _ (by omega) (by omega), f12 _ (by omega) (by omega), (y_fi_q a b).1, (y_fi_q a b).2.1, (y_fi_q a b).2.2]; decide
    · rw [n_reel_78 (by omega) (by omega), n_reel_78 (by omega) (by omega)]; exact q3 d a b
    · rw [f12 31 (by decide) (by decide), fz 31 (by decide)] at b; omega
    · rw [n4.2.1, h9] at b
      have hl := hR l a b
      have := i5 l a (by omega)
      rw [n_reel_72 a (by omega), hl.1] at d
      rw [n_reel_71 (by omega) (by omega), hl.2 g c d, n4.1, q1]
      exact jS l g a b c d
  have hW : W_ (w_rl A) (n_reel K1) 78 := by
    refine ⟨hcI, hyI, by rw [n4.1, n4.2.1, q1, h9, w10.1, w10.2]; exact ⟨rfl, rfl⟩, fun l a b => ?_, fun d a b => ?_, fun l a b => ?_, fun q a b => ?_, ?_, fun x a b => ?_⟩
    · rw [w10.2] at b
      have hl := hR l a b
      have hb := i5 l a (by omega)
      rw [n_reel_72 a (by omega), w_rl_13 a (by omega)]
      refine ⟨hl.1, fun g c d => ?_⟩
      rw [n_reel_71 (by omega) (by omega), w_rl_14 (by omega) (by omega)]
      exact hl.2 g c d
    · have b2 : d < A 3 0 := by rw [← w10.1]; exact b
      show n_reel K1 78 (0 + d) = w_rl A 16 d ∧ n_reel K1 78 (6 + d) = w_rl A 17 d
      rw [n_reel_78 (by omega) (by omega), n_reel_78 (by omega) (by omega), (w_rl_16 a (by omega)).1, (w_rl_16 a (by omega)).2]
      exact q2 d a b2
    · show n_reel K1 78 (12 + l) = w_rl A 18 l
      rw [f12 _ (by omega) (by omega), fz _ (by omega), w_rl_18 a b]
    · show n_reel K1 78 (16 + 3 * q) = w_rl A 19 q ∧ n_reel K1 78 (16 + 3 * q + 1) = w_rl A 20 q ∧ n_reel K1 78 (16 + 3 * q + 2) = w_rl A 21 q
      rw [f12 _ (by omega) (by omega), f12 _ (by omega) (by omega), f12 _ (by omega) (by omega), (y_fi_q a b).1, (y_fi_q a b).2.1, (y_fi_q a b).2.2, (w_rl_19 a b).1, (w_rl_19 a b).2.1, (w_rl_19 a b).2.2]
      exact ⟨rfl, rfl, rfl⟩
    · show n_reel K1 78 31 = w_rl A 15 6
      rw [f12 31 (by decide) (by decide), fz 31 (by decide), w_rl_15]
    · have b2 : x < 0 := by rw [← w_rl_15 (A := A)]; exact b
      omega
  refine ⟨by rw [k69 0 (by decide) (by decide) (by decide) (by decide) (by decide) (by decide)]; exact h0, by rw [k 5069 (by decide) (by decide), e 5000 (by decide) (by decide)]; exact h1, hT.cg (by rw [e 0 (by decide) (by decide)]) (e 1 (by decide) (by decide)) (k69 2 (by decide) (by decide) (by decide) (by decide) (by decide) (by decide)) (k 70 (by decide) (by decide)), ⟨?_, ?_, ?_, ?_⟩, ⟨hW, fun x a b => ?_⟩, ⟨0, by decide, w_rl_35.1, n4.2.2.1, trivial⟩, ⟨⟨?_, ?_⟩, fun q => absurd w_rl_35.2.1 q, fun q => absurd w_rl_35.2.2 q⟩, fun l a b => Or.inl ?_, hG.cg (by rw [e 37 (by decide) (by decide)]) (e 38 (by decide) (by decide)) (e 39 (by decide) (by decide)) (e 40 (by decide) (by decide)) (k69 21 (by decide) (by decide) (by decide) (by decide) (by decide) (by decide)) (k 83 (by decide) (by decide)) (k 84 (by decide) (by decide)) (k 85 (by decide) (by decide))⟩
  · rw [w_rl_o (by decide)]; exact i5
  · rw [w_rl_o (by decide)]; exact i6
  · rw [w_rl_o (x := 4) (by decide), w_rl_o (x := 5) (by decide)]; exact jB
  · exact y_Lb.o (n_reel_o (by decide)) hLb
  · rw [w_rl_15] at b; omega
  · rw [n4.2.2.2.1, w_rl_35.2.1]
  · rw [n4.2.2.2.2, w_rl_35.2.2]
  · rw [w10.2] at b
    exact w_rl_31 a (by omega)
/-! a level's questions -/
theorem R_.level {C K C2 K2 : gj_M} {l w v v' : Int} (h : R_ C K) (hv : if 0 ≤ l ∧ l < C 10 1 then (if w = 0 then v = C 13 l else if w = 1 then v = C 18 l else if w = 2 then q_sh (fun g => C 14 (l * 48 + g)) (C 13 l) v else if w = 3 then v = c_best C l else v = -2) else v = -1) (hE : gj_E [24, 25, 26, 27, 28, 29, 30, 31, 33, 34] C C2) (h31 : ∀ i : Int, C2 31 i = C 31 i ∨ (i = l ∧ q_sh (fun g => C 14 (i * 48 + g)) (C 13 i) (C2 31 i))) (hv' : if 0 ≤ l ∧ l < K 69 5 then (if w = 0 then v' = K 72 l else if w = 1 then v' = K 78 (12 + l) else if w = 2 then q_sh (fun g => K 71 (48 * l + g)) (K 72 l) v' else if w = 3 then v' = y_best K l else v' = -2) else v' = -1) (hE' : gj_E [79, 86, 87] K K2) : v = v' ∧ R_ C2 K2 := by
  have hV := h.2.2.2.2.1.1
  have hL := hV.1.1
  constructor
  · rw [hV.2.2.1.2] at hv'
    by_cases q : 0 ≤ l ∧ l < C 10 1
    · rw [if_pos q] at hv hv'
      have hs := hV.2.2.2.1 l q.1 q.2
      by_cases w0 : w = 0
      · rw [if_pos w0] at hv hv'
        rw [hv, hv', hs.1]
      rw [if_neg w0] at hv hv'
      by_cases w1 : w = 1
      · rw [if_pos w1] at hv hv'
        rw [hv, hv', hV.dl q.1 (by omega)]
      rw [if_neg w1] at hv hv'
      by_cases w2 : w = 2
      · rw [if_pos w2] at hv hv'
        rw [hs.1] at hv'
        have hn := (hV.1.2.2.2.1 l q.1 (by omega)).2.1
        exact q_sh_one hn hv (q_sh_congr (fun g a b => hs.2 g a b) hv')
      rw [if_neg w2] at hv hv'
      by_cases w3 : w = 3
      · rw [if_pos w3] at hv hv'
        rw [hv, hv', hV.best ⟨q.1, by omega⟩]
      rw [if_neg w3] at hv hv'
      omega
    · rw [if_neg q] at hv hv'
      omega
  · have h2 : R_ C K2 := h.kE hE' (by decide)
    obtain ⟨h0, h1, hT, hD, hV2, hZ, hP, hH, hG⟩ := h2
    have e : ∀ x : Nat, x ∉ [24, 25, 26, 27, 28, 29, 30, 31, 33, 34] → C2 x = C x := fun x hx => hE.f hx
    have hce : c_eq C C2 := fun x hx => e x ((by decide : ∀ x ∈ c_hs, x ∉ [24, 25, 26, 27, 28, 29, 30, 31, 33, 34]) x hx)
    refine ⟨h0, by rw [e 5000 (by decide)]; exact h1, hT.cg (by rw [e 0 (by decide)]) (e 1 (by decide)) rfl rfl, hD.cg (e 4 (by decide)) (e 5 (by decide)) (e 6 (by decide)) (e 8 (by decide)) rfl, hV2.cg hce ⟨fun _ _ _ => rfl, rfl, rfl, rfl, rfl⟩, hZ.cg (by rw [e 35 (by decide)]) (e 36 (by decide)) hce.ce rfl rfl ⟨rfl, rfl, rfl, rfl⟩, hP.cg (fun x hx => e x ((by decide : ∀ x ∈ cP_, x ∉ [24, 25, 26, 27, 28, 29, 30, 31, 33, 34]) x hx)) rfl rfl ⟨rfl, rfl, rfl, rfl⟩, fun i a b => ?_, hG.cg (by rw [e 37 (by decide)]) (e 38 (by decide)) (e 39 (by decide)) (e 40 (by decide)) rfl rfl rfl rfl⟩
    rw [e 10 (by decide)] at b
    rw [e 13 (by decide), e 14 (by decide)]
    rcases h31 i with z | z
    · rw [z]; exact hH i a b
    · exact Or.inr z.2
