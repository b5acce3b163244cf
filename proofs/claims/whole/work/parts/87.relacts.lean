/-! acts -/
def cA_ : List Nat := [0, 1, 4, 5, 6, 8, 10, 13, 14, 31, 37, 38, 39, 40, 50, 51, 52, 53, 54, 55, 56, 57, 58, 59, 60, 61, 62, 63, 64, 65, 66, 67, 68, 5000]
def kA_ : List Nat := [70, 71, 72, 74, 81, 82, 83, 84, 85, 5069]
/-- what a change of the setting, with its acts, leaves as it was -/
theorem R_.st {C K C2 K2 : gj_M} (h : R_ C K) (eC : ∀ x ∈ cA_, C2 x = C x) (eK : ∀ x ∈ kA_, K2 x = K x) (e69 : K2 69 0 = K 69 0 ∧ K2 69 2 = K 69 2 ∧ K2 69 4 = K 69 4 ∧ K2 69 5 = K 69 5 ∧ K2 69 21 = K 69 21) (hZ : Z_ C2 K2) (hV : V_ C2 K2 78) : R_ C2 K2 := by
  obtain ⟨h0, h1, hT, hD, hV0, hZ0, hP, hH, hG⟩ := h
  obtain ⟨k0, k2, k4, k5, k21⟩ := e69
  have hkr : kr_ K K2 := ⟨k4, k5, eK 71 (by decide), eK 72 (by decide)⟩
  exact ⟨by rw [k0]; exact h0, by rw [eK 5069 (by decide), eC 5000 (by decide)]; exact h1, hT.cg (by rw [eC 0 (by decide)]) (eC 1 (by decide)) k2 (eK 70 (by decide)), hD.cg (eC 4 (by decide)) (eC 5 (by decide)) (eC 6 (by decide)) (eC 8 (by decide)) (eK 74 (by decide)), hV, hZ, hP.cg (fun x hx => eC x ((by decide : ∀ x ∈ cP_, x ∈ cA_) x hx)) (eK 81 (by decide)) (eK 82 (by decide)) hkr, hH.cg (by rw [eC 10 (by decide)]) (eC 13 (by decide)) (eC 14 (by decide)) (eC 31 (by decide)), hG.cg (by rw [eC 37 (by decide)]) (eC 38 (by decide)) (eC 39 (by decide)) (eC 40 (by decide)) k21 (eK 83 (by decide)) (eK 84 (by decide)) (eK 85 (by decide))⟩
theorem R_.n14 {C K : gj_M} (h : R_ C K) : (0 ≤ C 35 0 ∧ C 35 0 ≤ 14) ∧ 0 ≤ K 69 18 ∧ K 69 18 ≤ 14 := by
  obtain ⟨n, h1, h2, h3, -⟩ := h.2.2.2.2.2.1
  omega
theorem cA_ne : ∀ x ∈ cA_, (x ≠ 35 ∧ x ≠ 36) ∧ x ≠ 15 ∧ x ≠ 16 ∧ x ≠ 17 ∧ x ≠ 18 ∧ x ≠ 19 ∧ x ≠ 20 ∧ x ≠ 21 ∧ x ≠ 22 ∧ x ≠ 23 := by decide
theorem kA_ne : ∀ x ∈ kA_, x ≠ 69 ∧ x ≠ 78 ∧ x ≠ 80 := by decide
theorem c_hs_ne : ∀ x ∈ c_hs, x ≠ 35 ∧ x ≠ 36 := by decide
/-- an act is noted on both sides: C2 and K2 are the settings behind it -/
theorem R_.act {C K C2 K2 : gj_M} {kd w a b c : Int} (h : R_ C K) (eC : ∀ x ∈ cA_, C2 x = C x) (eK : ∀ (x : Nat) (i : Int), x ≠ 78 → K2 x i = y_nt K x i) (e36 : ∀ i, C2 36 i = k_ad C kd w a b c 36 i) (e35 : C2 35 0 = k_ad C kd w a b c 35 0) (hok : k_ok C2 kd w) (hin : ce_ C (k_in C2 kd w a b c)) (hV : V_ C2 K2 78) : R_ C2 K2 := by
  have e69 : ∀ i : Int, i ≠ 18 → K2 69 i = K 69 i := fun i hi => by rw [eK 69 i (by decide), y_nt_69 hi]
  have ek : ∀ x ∈ kA_, K2 x = K x := fun x hx => by
    have := kA_ne x hx
    funext i
    rw [eK x i this.2.1, y_nt_o this.1 this.2.2]
  obtain ⟨n, n1, n2, n3, n4⟩ := h.2.2.2.2.2.1
  exact h.st eC ek ⟨e69 0 (by decide), e69 2 (by decide), e69 4 (by decide), e69 5 (by decide), e69 21 (by decide)⟩ (A_.ad n1 n4 n2 n3 h.2.2.2.2.1 e36 e35 (fun i => eK 80 i (by decide)) (eK 69 18 (by decide)) ⟨e69 4 (by decide), e69 5 (by decide), ek 71 (by decide), ek 72 (by decide)⟩ hok hin) hV
/-- with the act noted, the settings are as they were -/
theorem R_.nt {C K : gj_M} (h : R_ C K) (kd w a b c : Int) : V_ (k_ad C kd w a b c) (y_nt K) 78 := h.2.2.2.2.1.cg (fun x hx => by
    have := c_hs_ne x hx
    funext i
    rw [k_ad_o this.1 this.2]) ⟨fun i _ _ => y_nt_o (by decide) (by decide) i, y_nt_69 (by decide), y_nt_69 (by decide), funext fun i => y_nt_o (by decide) (by decide) i, funext fun i => y_nt_o (by decide) (by decide) i⟩
theorem R_.redraw {C K : gj_M} (h : R_ C K) (d x w : Int) : x_redraw C d x w = z_redraw K d x w ∧ R_ (m_redraw C d x w) (n_redraw K d x w) := by
  have hV := h.2.2.2.2.1.1
  have hD := hV.1.2.1
  unfold x_redraw z_redraw m_redraw n_redraw
  rw [hV.2.2.1.1]
  by_cases q : 0 ≤ d ∧ d < C 10 0
  · rw [if_pos q, if_pos q, if_pos q, if_pos q]
    by_cases z : x < 0 ∨ 9 < x ∨ w < 1 ∨ 5 < w
    · rw [if_pos z, if_pos z, if_pos z, if_pos z]; exact ⟨rfl, h⟩
    · rw [if_neg z, if_neg z, if_neg z, if_neg z]
      refine ⟨by rw [(hV.xs q.1 q.2).1, (hV.xs q.1 q.2).2], ?_⟩
      refine h.act (kd := 0) (w := d) (a := C 16 d) (b := C 17 d) (c := 0) (fun y hy => ?_) (fun y i hy => ?_) (fun i => ?_) ?_ (Or.inl ⟨rfl, by omega, by omega⟩) ?_ ((h.nt 0 d (C 16 d) (C 17 d) 0).xwu (by decide) (by rw [k_ad_o (by decide) (by decide)]; exact q) (by omega) (by omega))
      · have := cA_ne y hy
        funext i
        rw [gj_u_o this.2.2.2.1, gj_u_o this.2.2.1, k_ad_o this.1.1 this.1.2]
      · rw [gj_u_o hy, gj_u_o hy]
      · rw [gj_u_o (by decide), gj_u_o (by decide)]
      · rw [gj_u_o (by decide), gj_u_o (by decide)]
      · show ce_ C (gj_u (gj_u (gj_u (gj_u (k_ad C 0 d (C 16 d) (C 17 d) 0) 16 d x) 17 d w) 16 d (C 16 d)) 17 d (C 17 d))
        refine c_eq.ce (fun y hy => ?_)
        have hn := c_hs_ne y hy
        funext i
        by_cases y6 : y = 16
        · subst y6
          rw [gj_u_o (by decide)]
          by_cases z : i = d
          · rw [z, gj_u_s]
          · rw [gj_u_i z, gj_u_i z, gj_u_i z, k_ad_o (by decide) (by decide)]
        by_cases y7 : y = 17
        · subst y7
          by_cases z : i = d
          · rw [z, gj_u_s]
          · rw [gj_u_i z, gj_u_i z, gj_u_i z, gj_u_i z, k_ad_o (by decide) (by decide)]
        rw [gj_u_o y7, gj_u_o y6, gj_u_o y7, gj_u_o y6, k_ad_o hn.1 hn.2]
  · rw [if_neg q, if_neg q, if_neg q, if_neg q]; exact ⟨rfl, h⟩
theorem R_.delay {C K : gj_M} (h : R_ C K) (l v : Int) : x_delay C l v = z_delay K l v ∧ R_ (m_delay C l v) (n_delay K l v) := by
  have hV := h.2.2.2.2.1.1
  have hL := hV.1.1
  unfold x_delay z_delay m_delay n_delay
  rw [hV.2.2.1.2]
  by_cases q : 0 ≤ l ∧ l < C 10 1
  · rw [if_pos q, if_pos q, if_pos q, if_pos q]
    by_cases z : v < 0 ∨ 9 < v
    · rw [if_pos z, if_pos z, if_pos z, if_pos z]; exact ⟨rfl, h⟩
    · rw [if_neg z, if_neg z, if_neg z, if_neg z]
      refine ⟨by rw [hV.dl q.1 (by omega)], ?_⟩
      refine h.act (kd := 1) (w := l) (a := C 18 l) (b := 0) (c := 0) (fun y hy => ?_) (fun y i hy => ?_) (fun i => ?_) ?_ (Or.inr (Or.inl ⟨rfl, by omega, by omega⟩)) ?_ ((h.nt 1 l (C 18 l) 0 0).dlu (by decide) (by omega) (by omega))
      · have := cA_ne y hy
        funext i
        rw [gj_u_o this.2.2.2.2.1, k_ad_o this.1.1 this.1.2]
      · rw [gj_u_o hy]
      · rw [gj_u_o (by decide)]
      · rw [gj_u_o (by decide)]
      · show ce_ C (gj_u (gj_u (k_ad C 1 l (C 18 l) 0 0) 18 l v) 18 l (C 18 l))
        refine c_eq.ce (fun y hy => ?_)
        have hn := c_hs_ne y hy
        funext i
        by_cases y6 : y = 18
        · subst y6
          by_cases z : i = l
          · rw [z, gj_u_s]
          · rw [gj_u_i z, gj_u_i z, k_ad_o (by decide) (by decide)]
        rw [gj_u_o y6, gj_u_o y6, k_ad_o hn.1 hn.2]
  · rw [if_neg q, if_neg q, if_neg q, if_neg q]; exact ⟨rfl, h⟩
theorem R_.pan {C K : gj_M} (h : R_ C K) (l s b e : Int) : x_pan C l s b e = z_pan K l s b e ∧ R_ (m_pan C l s b e) (n_pan K l s b e) := by
  have hV := h.2.2.2.2.1.1
  have hL := hV.1.1
  unfold x_pan z_pan m_pan n_pan
  rw [hV.2.2.1.2]
  by_cases q : l = 9 ∨ (0 ≤ l ∧ l < C 10 1)
  · rw [if_pos q, if_pos q, if_pos q, if_pos q]
    by_cases z : s < -9 ∨ 9 < s ∨ b < -3 ∨ 3 < b ∨ e < 1 ∨ 9 < e
    · rw [if_pos z, if_pos z, if_pos z, if_pos z]; exact ⟨rfl, h⟩
    · rw [if_neg z, if_neg z, if_neg z, if_neg z]
      have hp : 0 ≤ x_panOf l ∧ x_panOf l < 5 := by unfold x_panOf; split <;> omega
      generalize x_panOf l = p at *
      refine ⟨Int.add_comm _ _, ?_⟩
      refine h.act (kd := 2) (w := p) (a := C 19 p) (b := C 20 p) (c := C 21 p) (fun y hy => ?_) (fun y i hy => ?_) (fun i => ?_) ?_ (Or.inr (Or.inr (Or.inl ⟨rfl, by omega, by omega⟩))) ?_ ((h.nt 2 p (C 19 p) (C 20 p) (C 21 p)).pnu (by decide) hp (by omega) (by omega) (by omega))
      · have := cA_ne y hy
        funext i
        rw [gj_u_o this.2.2.2.2.2.2.2.1, gj_u_o this.2.2.2.2.2.2.1, gj_u_o this.2.2.2.2.2.1, k_ad_o this.1.1 this.1.2]
      · rw [gj_u_o hy, gj_u_o hy, gj_u_o hy]
      · rw [gj_u_o (by decide), gj_u_o (by decide), gj_u_o (by decide)]
      · rw [gj_u_o (by decide), gj_u_o (by decide), gj_u_o (by decide)]
      · show ce_ C (gj_u (gj_u (gj_u (gj_u (gj_u (gj_u (k_ad C 2 p (C 19 p) (C 20 p) (C 21 p)) 19 p s) 20 p b) 21 p e) 19 p (C 19 p)) 20 p (C 20 p)) 21 p (C 21 p))
        refine c_eq.ce (fun y hy => ?_)
        have hn := c_hs_ne y hy
        funext i
        by_cases y9 : y = 19
        · subst y9
          rw [gj_u_o (by decide), gj_u_o (by decide)]
          by_cases z : i = p
          · rw [z, gj_u_s]
          · rw [gj_u_i z, gj_u_i z, gj_u_i z, gj_u_i z, k_ad_o (by decide) (by decide)]
        by_cases y0 : y = 20
        · subst y0
          rw [gj_u_o (by decide)]
          by_cases z : i = p
          · rw [z, gj_u_s]
          · rw [gj_u_i z, gj_u_i z, gj_u_i z, gj_u_i z, gj_u_i z, k_ad_o (by decide) (by decide)]
        by_cases y1 : y = 21
        · subst y1
          by_cases z : i = p
          · rw [z, gj_u_s]
          · rw [gj_u_i z, gj_u_i z, gj_u_i z, gj_u_i z, gj_u_i z, gj_u_i z, k_ad_o (by decide) (by decide)]
        rw [gj_u_o y1, gj_u_o y0, gj_u_o y9, gj_u_o y1, gj_u_o y0, gj_u_o y9, k_ad_o hn.1 hn.2]
  · rw [if_neg q, if_neg q, if_neg q, if_neg q]; exact ⟨rfl, h⟩
theorem p_io_t {L o : Int} (h : p_io L o = 1) : o < gj_tens L.toNat := by
  unfold p_io at h
  split at h
  · next z => exact z.2.1
  · omega
theorem R_.swap {C K : gj_M} (h : R_ C K) (f o : Int) : x_swap C f o = z_swap K f o ∧ R_ (m_swap C f o) (n_swap K f o) := by
  have hV := h.2.2.2.2.1.1
  have hL := hV.1.1
  have hs := hV.1.2.2.1
  unfold x_swap z_swap m_swap n_swap
  rw [hV.2.2.1.2, hV.sw, ← p_io_eq hL]
  by_cases q : (0 ≤ f ∧ f < 48) ∧ p_io (C 10 1) o = 1
  · rw [if_pos q, if_pos q, if_pos q, if_pos q]
    by_cases z : 4 ≤ C 15 6
    · rw [if_pos z, if_pos z, if_pos (by omega), if_pos (by omega)]; exact ⟨rfl, h⟩
    · rw [if_neg z, if_neg z, if_neg (by omega), if_neg (by omega)]
      refine ⟨rfl, ?_⟩
      have e15 : k_ad C 3 0 0 0 0 15 6 = C 15 6 := k_ad_o (by decide) (by decide)
      have e10 : k_ad C 3 0 0 0 0 10 1 = C 10 1 := k_ad_o (by decide) (by decide)
      have hV2 := (h.nt 3 0 0 0 0).asu (by decide) (f := f) (o := o) (by rw [e15]; omega) q.1 (by rw [e10]; exact p_io_od hL q.2) (by rw [e10]; exact p_io_t q.2)
      unfold b_as
      rw [e15] at hV2 ⊢
      refine h.act (kd := 3) (w := 0) (a := 0) (b := 0) (c := 0) (fun y hy => ?_) (fun y i hy => ?_) (fun i => ?_) ?_ (Or.inr (Or.inr (Or.inr (Or.inl ⟨rfl, ?_⟩)))) ?_ hV2
      · have := cA_ne y hy
        funext i
        rw [gj_u_o this.2.1, gj_u_o this.2.2.2.2.2.2.2.2.2, gj_u_o this.2.2.2.2.2.2.2.2.1, k_ad_o this.1.1 this.1.2]
      · rw [gj_u_o hy, gj_u_o hy, gj_u_o hy]
      · rw [gj_u_o (by decide), gj_u_o (by decide), gj_u_o (by decide)]
      · rw [gj_u_o (by decide), gj_u_o (by decide), gj_u_o (by decide)]
      · rw [gj_u_s]; omega
      · show ce_ C (gj_u (gj_u (gj_u (gj_u (k_ad C 3 0 0 0 0) 22 (C 15 6) f) 23 (C 15 6) o) 15 6 (C 15 6 + 1)) 15 6 (gj_u (gj_u (gj_u (k_ad C 3 0 0 0 0) 22 (C 15 6) f) 23 (C 15 6) o) 15 6 (C 15 6 + 1) 15 6 - 1))
        refine ⟨⟨?_, ?_, ?_⟩, ?_, fun y a b => ⟨?_, ?_⟩, fun y a b => ?_, fun y a b => ⟨?_, ?_, ?_⟩, fun k a b => ⟨?_, ?_⟩⟩
        · funext i; rw [gj_u_o (by decide), gj_u_o (by decide), gj_u_o (by decide), gj_u_o (by decide), k_ad_o (by decide) (by decide)]
        · funext i; rw [gj_u_o (by decide), gj_u_o (by decide), gj_u_o (by decide), gj_u_o (by decide), k_ad_o (by decide) (by decide)]
        · funext i; rw [gj_u_o (by decide), gj_u_o (by decide), gj_u_o (by decide), gj_u_o (by decide), k_ad_o (by decide) (by decide)]
        · rw [gj_u_s, gj_u_s]; omega
        · rw [gj_u_o (by decide), gj_u_o (by decide), gj_u_o (by decide), gj_u_o (by decide), k_ad_o (by decide) (by decide)]
        · rw [gj_u_o (by decide), gj_u_o (by decide), gj_u_o (by decide), gj_u_o (by decide), k_ad_o (by decide) (by decide)]
        · rw [gj_u_o (by decide), gj_u_o (by decide), gj_u_o (by decide), gj_u_o (by decide), k_ad_o (by decide) (by decide)]
        · rw [gj_u_o (by decide), gj_u_o (by decide), gj_u_o (by decide), gj_u_o (by decide), k_ad_o (by decide) (by decide)]
        · rw [gj_u_o (by decide), gj_u_o (by decide), gj_u_o (by decide), gj_u_o (by decide), k_ad_o (by decide) (by decide)]
        · rw [gj_u_o (by decide), gj_u_o (by decide), gj_u_o (by decide), gj_u_o (by decide), k_ad_o (by decide) (by decide)]
        · rw [gj_u_o (by decide), gj_u_o (by decide), gj_u_o (by decide), gj_u_i (by omega), k_ad_o (by decide) (by decide)]
        · rw [gj_u_o (by decide), gj_u_o (by decide), gj_u_i (by omega), gj_u_o (by decide), k_ad_o (by decide) (by decide)]
  · rw [if_neg q, if_neg q, if_neg q, if_neg q]; exact ⟨rfl, h⟩
theorem R_.back {C K : gj_M} (h : R_ C K) : x_back C = z_back K ∧ R_ (m_back C) (n_back K) := by
  have hV := h.2.2.2.2.1.1
  have hs := hV.1.2.2.1
  unfold x_back z_back m_back n_back
  rw [hV.sw]
  by_cases q : C 15 6 < 1
  · rw [if_pos q, if_pos q, if_pos (by omega), if_pos (by omega)]; exact ⟨rfl, h⟩
  · rw [if_neg q, if_neg q, if_neg (by omega), if_neg (by omega)]
    refine ⟨rfl, ?_⟩
    have e15 : k_ad C 4 0 (C 22 (C 15 6 - 1)) (C 23 (C 15 6 - 1)) 0 15 6 = C 15 6 := k_ad_o (by decide) (by decide)
    have hV2 := (h.nt 4 0 (C 22 (C 15 6 - 1)) (C 23 (C 15 6 - 1)) 0).dsu (by decide) (by rw [e15]; omega)
    rw [e15] at hV2
    refine h.act (kd := 4) (w := 0) (a := C 22 (C 15 6 - 1)) (b := C 23 (C 15 6 - 1)) (c := 0) (fun y hy => ?_) (fun y i hy => ?_) (fun i => ?_) ?_ (Or.inr (Or.inr (Or.inr (Or.inr ⟨rfl, ?_⟩)))) ?_ hV2
    · have := cA_ne y hy
      funext i
      rw [gj_u_o this.2.1, k_ad_o this.1.1 this.1.2]
    · rw [gj_u_o hy]
    · rw [gj_u_o (by decide)]
    · rw [gj_u_o (by decide)]
    · rw [gj_u_s]; omega
    · show ce_ C (gj_u (gj_u (gj_u (gj_u (k_ad C 4 0 (C 22 (C 15 6 - 1)) (C 23 (C 15 6 - 1)) 0) 15 6 (C 15 6 - 1)) 22 (C 15 6 - 1) (C 22 (C 15 6 - 1))) 23 (C 15 6 - 1) (C 23 (C 15 6 - 1))) 15 6 (C 15 6 - 1 + 1))
      refine ⟨⟨?_, ?_, ?_⟩, ?_, fun y a b => ⟨?_, ?_⟩, fun y a b => ?_, fun y a b => ⟨?_, ?_, ?_⟩, fun k a b => ⟨?_, ?_⟩⟩
      · funext i; rw [gj_u_o (by decide), gj_u_o (by decide), gj_u_o (by decide), gj_u_o (by decide), k_ad_o (by decide) (by decide)]
      · funext i; rw [gj_u_o (by decide), gj_u_o (by decide), gj_u_o (by decide), gj_u_o (by decide), k_ad_o (by decide) (by decide)]
      · funext i; rw [gj_u_o (by decide), gj_u_o (by decide), gj_u_o (by decide), gj_u_o (by decide), k_ad_o (by decide) (by decide)]
      · rw [gj_u_s]; omega
      · rw [gj_u_o (by decide), gj_u_o (by decide), gj_u_o (by decide), gj_u_o (by decide), k_ad_o (by decide) (by decide)]
      · rw [gj_u_o (by decide), gj_u_o (by decide), gj_u_o (by decide), gj_u_o (by decide), k_ad_o (by decide) (by decide)]
      · rw [gj_u_o (by decide), gj_u_o (by decide), gj_u_o (by decide), gj_u_o (by decide), k_ad_o (by decide) (by decide)]
      · rw [gj_u_o (by decide), gj_u_o (by decide), gj_u_o (by decide), gj_u_o (by decide), k_ad_o (by decide) (by decide)]
      · rw [gj_u_o (by decide), gj_u_o (by decide), gj_u_o (by decide), gj_u_o (by decide), k_ad_o (by decide) (by decide)]
      · rw [gj_u_o (by decide), gj_u_o (by decide), gj_u_o (by decide), gj_u_o (by decide), k_ad_o (by decide) (by decide)]
      · rw [gj_u_o (by decide), gj_u_o (by decide)]
        by_cases z : k = C 15 6 - 1
        · rw [z, gj_u_s]
        · rw [gj_u_i z, gj_u_o (by decide), k_ad_o (by decide) (by decide)]
      · rw [gj_u_o (by decide)]
        by_cases z : k = C 15 6 - 1
        · rw [z, gj_u_s]
        · rw [gj_u_i z, gj_u_o (by decide), gj_u_o (by decide), k_ad_o (by decide) (by decide)]
theorem k_in_o {M : gj_M} {kd w a b c : Int} {h : Nat} (hh : h < 15 ∨ 23 < h) (i : Int) : k_in M kd w a b c h i = M h i := by
  unfold k_in
  split
  · rw [gj_u_o (by omega), gj_u_o (by omega)]
  split
  · rw [gj_u_o (by omega)]
  split
  · rw [gj_u_o (by omega), gj_u_o (by omega), gj_u_o (by omega)]
  split
  · rw [gj_u_o (by omega)]
  · rw [gj_u_o (by omega), gj_u_o (by omega), gj_u_o (by omega)]
theorem R_.undo {C K : gj_M} (h : R_ C K) : x_undo C = z_undo K ∧ (0 < C 35 0 → k_ok C (C 36 ((C 35 0 - 1) * 5)) (C 36 ((C 35 0 - 1) * 5 + 1))) ∧ R_ (m_undo C) (n_undo K) := by
  obtain ⟨n, n1, n2, n3, n4⟩ := h.2.2.2.2.2.1
  unfold x_undo z_undo m_undo n_undo
  rw [n2, n3]
  match n, n1, n2, n3, n4 with
  | 0, n1, n2, n3, n4 =>
    have z0 : ((0 : Nat) : Int) = 0 := rfl
    rw [if_pos z0, if_pos z0, if_pos z0]
    exact ⟨rfl, fun z => absurd z (by decide), h⟩
  | n + 1, n1, n2, n3, n4 =>
    obtain ⟨a1, a2, a3⟩ := n4
    have en : ((n + 1 : Nat) : Int) - 1 = (n : Int) := by omega
    have z0 : ¬ ((n + 1 : Nat) : Int) = 0 := by omega
    rw [if_neg z0, if_neg z0, if_neg z0, en]
    refine ⟨rfl, fun _ => a1, ?_⟩
    unfold k_bk
    rw [n2, en]
    have hce : ce_ C (gj_u C 35 0 (n : Int)) := c_eq.ce (fun x hx => by
      funext i
      rw [gj_u_o (c_hs_ne x hx).1])
    have hc2 := hce.k (C 36 ((n : Int) * 5)) (C 36 ((n : Int) * 5 + 1)) (C 36 ((n : Int) * 5 + 2)) (C 36 ((n : Int) * 5 + 3)) (C 36 ((n : Int) * 5 + 4))
    have kr : kr_ K (y_ub (gj_u K 69 18 (n : Int)) 80 (n : Int) 40) := ⟨by rw [y_ub_o (by decide)]; rfl, by rw [y_ub_o (by decide)]; rfl, funext fun i => by rw [y_ub_o (by decide)]; rfl, funext fun i => by rw [y_ub_o (by decide)]; rfl⟩
    refine h.st (fun x hx => ?_) (fun x hx => ?_) ⟨?_, ?_, kr.1, kr.2.1, ?_⟩ ⟨n, by omega, ?_, ?_, ?_⟩ ?_
    · have hx2 := cA_ne x hx
      have hx3 := (by decide : ∀ x ∈ cA_, x < 15 ∨ 23 < x) x hx
      funext i
      rw [k_in_o hx3, gj_u_o hx2.1.1]
    · have hx2 := kA_ne x hx
      funext i
      rw [y_ub_o hx2.2.1, gj_u_o hx2.1]
    · rw [y_ub_o (by decide)]; rfl
    · rw [y_ub_o (by decide)]; rfl
    · rw [y_ub_o (by decide)]; rfl
    · rw [k_in_o (by decide), gj_u_s]
    · rw [y_ub_o (by decide), gj_u_s]
    · refine A_.cg kr n a3 hc2 (fun i _ _ => ?_) (fun i _ _ => ?_)
      · rw [k_in_o (by decide), gj_u_o (by decide)]
      · rw [y_ub_o (by decide), gj_u_o (by decide)]
    · refine a2.cw hc2 ⟨fun i i0 i1 => ?_, ?_, ?_, ?_, ?_⟩
      · rw [y_ub_i (by decide), if_pos ⟨i0, by omega⟩, pg_s]; rfl
      · rw [pg_o (by decide)]; exact kr.1
      · rw [pg_o (by decide)]; exact kr.2.1
      · rw [pg_o (by decide)]; exact kr.2.2.1
      · rw [pg_o (by decide)]; exact kr.2.2.2
/-! places to keep in -/
theorem ce_kp50 {C : gj_M} (h4 : C 15 6 ≤ 4) : ce_ C (b_cp (gj_u (b_cp C 50 15) 68 0 1) 15 50) := by
  have e : ∀ (x : Nat) (i : Int), x ≠ 68 → gj_u (b_cp C 50 15) 68 0 1 x i = b_cp C 50 15 x i := fun x i hx => gj_u_o hx
  refine ⟨⟨?_, ?_, ?_⟩, ?_, fun d x y => ⟨?_, ?_⟩, fun l x y => ?_, fun q x y => ⟨?_, ?_, ?_⟩, fun k x y => ⟨?_, ?_⟩⟩
  · funext i; rw [b_cp_big (by omega), e _ _ (by decide), b_cp_big (by omega)]
  · funext i; rw [b_cp_big (by omega), e _ _ (by decide), b_cp_big (by omega)]
  · funext i; rw [b_cp_big (by omega), e _ _ (by decide), b_cp_big (by omega)]
  · rw [bc_6, e _ _ (by decide), bc_6]
  · rw [bc_15_50_1 x y, e _ _ (by decide), bc_50_15_1 x y]
  · rw [bc_15_50_2 x y, e _ _ (by decide), bc_50_15_2 x y]
  · rw [bc_15_50_3 x y, e _ _ (by decide), bc_50_15_3 x y]
  · rw [bc_15_50_4 x y, e _ _ (by decide), bc_50_15_4 x y]
  · rw [bc_15_50_5 x y, e _ _ (by decide), bc_50_15_5 x y]
  · rw [bc_15_50_6 x y, e _ _ (by decide), bc_50_15_6 x y]
  · rw [bc_15_50_7 x (by omega), e _ _ (by decide), bc_50_15_7 x (by omega)]
  · rw [bc_15_50_8 x (by omega), e _ _ (by decide), bc_50_15_8 x (by omega)]
theorem R_.keep0 {C K : gj_M} (h : R_ C K) : R_ (gj_u (b_cp C 50 15) 68 0 1) (y_kp (gj_u K 82 0 1) 0 40) := by
  obtain ⟨h0, h1, hT, hD, hV, hZ, ⟨p1, p2, p3⟩, hH, hG⟩ := h
  have hs := hV.1.1.2.2.1
  have e : ∀ x : Nat, x ≠ 68 → x < 50 ∨ 58 < x → gj_u (b_cp C 50 15) 68 0 1 x = C x := fun x hx hy => funext fun i => by rw [gj_u_o hx, b_cp_big hy]
  have k : ∀ x : Nat, x ≠ 81 → x ≠ 82 → y_kp (gj_u K 82 0 1) 0 40 x = K x := fun x hx hy => funext fun i => by rw [y_kp_o hx, gj_u_o hy]
  have kr : kr_ K (y_kp (gj_u K 82 0 1) 0 40) := ⟨by rw [k 69 (by decide) (by decide)], by rw [k 69 (by decide) (by decide)], k 71 (by decide) (by decide), k 72 (by decide) (by decide)⟩
  have hce : c_eq C (gj_u (b_cp C 50 15) 68 0 1) := fun x hx => e x ((by decide : ∀ x ∈ c_hs, x ≠ 68) x hx) ((by decide : ∀ x ∈ c_hs, x < 50 ∨ 58 < x) x hx)
  refine ⟨by rw [k 69 (by decide) (by decide)]; exact h0, by rw [k 5069 (by decide) (by decide), e 5000 (by decide) (by decide)]; exact h1, hT.cg (by rw [e 0 (by decide) (by decide)]) (e 1 (by decide) (by decide)) (by rw [k 69 (by decide) (by decide)]) (k 70 (by decide) (by decide)), hD.cg (e 4 (by decide) (by decide)) (e 5 (by decide) (by decide)) (e 6 (by decide) (by decide)) (e 8 (by decide) (by decide)) (k 74 (by decide) (by decide)), hV.cg hce ⟨fun i _ _ => by rw [k 78 (by decide) (by decide)], kr⟩, hZ.cg (by rw [e 35 (by decide) (by decide)]) (e 36 (by decide) (by decide)) hce.ce (by rw [k 69 (by decide) (by decide)]) (k 80 (by decide) (by decide)) kr, ⟨⟨?_, ?_⟩, fun q => ?_, fun q => ?_⟩, hH.cg (by rw [e 10 (by decide) (by decide)]) (e 13 (by decide) (by decide)) (e 14 (by decide) (by decide)) (e 31 (by decide) (by decide)), hG.cg (by rw [e 37 (by decide) (by decide)]) (e 38 (by decide) (by decide)) (e 39 (by decide) (by decide)) (e 40 (by decide) (by decide)) (by rw [k 69 (by decide) (by decide)]) (k 83 (by decide) (by decide)) (k 84 (by decide) (by decide)) (k 85 (by decide) (by decide))⟩
  · rw [y_kp_o (by decide), gj_u_s, gj_u_s]
  · rw [y_kp_o (by decide), gj_u_i (by decide), gj_u_i (by decide), b_cp_big (by omega)]; exact p1.2
  · refine hV.cw (ce_kp50 hs.2) ⟨fun i i0 i1 => ?_, ?_, ?_, ?_, ?_⟩
    · rw [pg_s, y_kp_i, if_pos (by omega), gj_u_o (by decide)]
      congr 1
      omega
    · rw [pg_o (by decide)]; exact kr.1
    · rw [pg_o (by decide)]; exact kr.2.1
    · rw [pg_o (by decide)]; exact kr.2.2.1
    · rw [pg_o (by decide)]; exact kr.2.2.2
  · have q2 : C 68 1 ≠ 0 := by
      rw [gj_u_i (by decide), b_cp_big (by omega)] at q
      exact q
    have := p3 q2
    refine this.cw (ce_bc59 (e 10 (by decide) (by decide)) (e 13 (by decide) (by decide)) (e 14 (by decide) (by decide)) (e 59 (by decide) (by decide)) (e 60 (by decide) (by decide)) (e 61 (by decide) (by decide)) (e 62 (by decide) (by decide)) (e 63 (by decide) (by decide)) (e 64 (by decide) (by decide)) (e 65 (by decide) (by decide)) (e 66 (by decide) (by decide)) (e 67 (by decide) (by decide)) this.b59) (y_eq.pg kr (fun i i0 i1 => ?_))
    rw [y_kp_i, if_neg (by omega), gj_u_o (by decide)]
theorem ce_kp59 {C : gj_M} (h4 : C 15 6 ≤ 4) : ce_ C (b_cp (gj_u (b_cp C 59 15) 68 1 1) 15 59) := by
  have e : ∀ (x : Nat) (i : Int), x ≠ 68 → gj_u (b_cp C 59 15) 68 1 1 x i = b_cp C 59 15 x i := fun x i hx => gj_u_o hx
  refine ⟨⟨?_, ?_, ?_⟩, ?_, fun d x y => ⟨?_, ?_⟩, fun l x y => ?_, fun q x y => ⟨?_, ?_, ?_⟩, fun k x y => ⟨?_, ?_⟩⟩
  · funext i; rw [b_cp_big (by omega), e _ _ (by decide), b_cp_big (by omega)]
  · funext i; rw [b_cp_big (by omega), e _ _ (by decide), b_cp_big (by omega)]
  · funext i; rw [b_cp_big (by omega), e _ _ (by decide), b_cp_big (by omega)]
  · rw [bc_6, e _ _ (by decide), bc_6]
  · rw [bc_15_59_1 x y, e _ _ (by decide), bc_59_15_1 x y]
  · rw [bc_15_59_2 x y, e _ _ (by decide), bc_59_15_2 x y]
  · rw [bc_15_59_3 x y, e _ _ (by decide), bc_59_15_3 x y]
  · rw [bc_15_59_4 x y, e _ _ (by decide), bc_59_15_4 x y]
  · rw [bc_15_59_5 x y, e _ _ (by decide), bc_59_15_5 x y]
  · rw [bc_15_59_6 x y, e _ _ (by decide), bc_59_15_6 x y]
  · rw [bc_15_59_7 x (by omega), e _ _ (by decide), bc_59_15_7 x (by omega)]
  · rw [bc_15_59_8 x (by omega), e _ _ (by decide), bc_59_15_8 x (by omega)]
theorem R_.keep1 {C K : gj_M} (h : R_ C K) : R_ (gj_u (b_cp C 59 15) 68 1 1) (y_kp (gj_u K 82 1 1) 1 40) := by
  obtain ⟨h0, h1, hT, hD, hV, hZ, ⟨p1, p2, p3⟩, hH, hG⟩ := h
  have hs := hV.1.1.2.2.1
  have e : ∀ x : Nat, x ≠ 68 → x < 59 ∨ 67 < x → gj_u (b_cp C 59 15) 68 1 1 x = C x := fun x hx hy => funext fun i => by rw [gj_u_o hx, b_cp_big hy]
  have k : ∀ x : Nat, x ≠ 81 → x ≠ 82 → y_kp (gj_u K 82 1 1) 1 40 x = K x := fun x hx hy => funext fun i => by rw [y_kp_o hx, gj_u_o hy]
  have kr : kr_ K (y_kp (gj_u K 82 1 1) 1 40) := ⟨by rw [k 69 (by decide) (by decide)], by rw [k 69 (by decide) (by decide)], k 71 (by decide) (by decide), k 72 (by decide) (by decide)⟩
  have hce : c_eq C (gj_u (b_cp C 59 15) 68 1 1) := fun x hx => e x ((by decide : ∀ x ∈ c_hs, x ≠ 68) x hx) ((by decide : ∀ x ∈ c_hs, x < 59 ∨ 67 < x) x hx)
  refine ⟨by rw [k 69 (by decide) (by decide)]; exact h0, by rw [k 5069 (by decide) (by decide), e 5000 (by decide) (by decide)]; exact h1, hT.cg (by rw [e 0 (by decide) (by decide)]) (e 1 (by decide) (by decide)) (by rw [k 69 (by decide) (by decide)]) (k 70 (by decide) (by decide)), hD.cg (e 4 (by decide) (by decide)) (e 5 (by decide) (by decide)) (e 6 (by decide) (by decide)) (e 8 (by decide) (by decide)) (k 74 (by decide) (by decide)), hV.cg hce ⟨fun i _ _ => by rw [k 78 (by decide) (by decide)], kr⟩, hZ.cg (by rw [e 35 (by decide) (by decide)]) (e 36 (by decide) (by decide)) hce.ce (by rw [k 69 (by decide) (by decide)]) (k 80 (by decide) (by decide)) kr, ⟨⟨?_, ?_⟩, fun q => ?_, fun q => ?_⟩, hH.cg (by rw [e 10 (by decide) (by decide)]) (e 13 (by decide) (by decide)) (e 14 (by decide) (by decide)) (e 31 (by decide) (by decide)), hG.cg (by rw [e 37 (by decide) (by decide)]) (e 38 (by decide) (by decide)) (e 39 (by decide) (by decide)) (e 40 (by decide) (by decide)) (by rw [k 69 (by decide) (by decide)]) (k 83 (by decide) (by decide)) (k 84 (by decide) (by decide)) (k 85 (by decide) (by decide))⟩
  · rw [y_kp_o (by decide), gj_u_i (by decide), gj_u_i (by decide), b_cp_big (by omega)]; exact p1.1
  · rw [y_kp_o (by decide), gj_u_s, gj_u_s]
  · have q2 : C 68 0 ≠ 0 := by
      rw [gj_u_i (by decide), b_cp_big (by omega)] at q
      exact q
    have := p2 q2
    refine this.cw (ce_bc50 (e 10 (by decide) (by decide)) (e 13 (by decide) (by decide)) (e 14 (by decide) (by decide)) (e 50 (by decide) (by decide)) (e 51 (by decide) (by decide)) (e 52 (by decide) (by decide)) (e 53 (by decide) (by decide)) (e 54 (by decide) (by decide)) (e 55 (by decide) (by decide)) (e 56 (by decide) (by decide)) (e 57 (by decide) (by decide)) (e 58 (by decide) (by decide)) this.b50) (y_eq.pg kr (fun i i0 i1 => ?_))
    rw [y_kp_i, if_neg (by omega), gj_u_o (by decide)]
  · refine hV.cw (ce_kp59 hs.2) ⟨fun i i0 i1 => ?_, ?_, ?_, ?_, ?_⟩
    · rw [pg_s, y_kp_i, if_pos (by omega), gj_u_o (by decide)]
      congr 1
      omega
    · rw [pg_o (by decide)]; exact kr.1
    · rw [pg_o (by decide)]; exact kr.2.1
    · rw [pg_o (by decide)]; exact kr.2.2.1
    · rw [pg_o (by decide)]; exact kr.2.2.2
theorem R_.keep {C K : gj_M} (h : R_ C K) (s : Int) : x_keep C s = z_keep K s ∧ R_ (m_keep C s) (n_keep K s) := by
  have hV := h.2.2.2.2.1.1
  unfold x_keep z_keep m_keep n_keep
  rw [hV.sw]
  by_cases q : s < 0 ∨ 2 ≤ s
  · rw [if_pos q, if_pos q, if_pos q]; exact ⟨rfl, h⟩
  · rw [if_neg q, if_neg q, if_neg q]
    refine ⟨rfl, ?_⟩
    by_cases z : s = 0
    · rw [if_pos z, z]; exact h.keep0
    · rw [if_neg z, show s = 1 by omega]; exact h.keep1
theorem R_.again0 {C K : gj_M} (h : R_ C K) (hk : C 68 0 ≠ 0) : C 50 6 = K 81 (40 * 0 + 31) ∧ R_ (gj_u (b_cp C 15 50) 35 0 0) (gj_u (y_ub K 81 0 40) 69 18 0) := by
  obtain ⟨h0, h1, hT, hD, hV0, hZ, ⟨p1, p2, p3⟩, hH, hG⟩ := id h
  have hV := p2 hk
  have e31 := hV.1.sw
  rw [pg_s, bc_6] at e31
  refine ⟨e31.symm, ?_⟩
  have kr : kr_ K (gj_u (y_ub K 81 0 40) 69 18 0) := ⟨by rw [gj_u_i (by decide), y_ub_o (by decide)], by rw [gj_u_i (by decide), y_ub_o (by decide)], funext fun i => by rw [gj_u_o (by decide), y_ub_o (by decide)], funext fun i => by rw [gj_u_o (by decide), y_ub_o (by decide)]⟩
  refine h.st (fun x hx => ?_) (fun x hx => ?_) ⟨?_, ?_, kr.1, kr.2.1, ?_⟩ ⟨0, by omega, gj_u_s, gj_u_s, trivial⟩ ?_
  · have hx2 := cA_ne x hx
    have hx3 := (by decide : ∀ x ∈ cA_, x < 15 ∨ 15 + 8 < x) x hx
    funext i
    rw [gj_u_o hx2.1.1, b_cp_big hx3]
  · have hx2 := kA_ne x hx
    funext i
    rw [gj_u_o hx2.1, y_ub_o hx2.2.1]
  · rw [gj_u_i (by decide), y_ub_o (by decide)]
  · rw [gj_u_i (by decide), y_ub_o (by decide)]
  · rw [gj_u_i (by decide), y_ub_o (by decide)]
  · refine hV.cg (fun x hx => ?_) ⟨fun i i0 i1 => ?_, ?_, ?_, ?_, ?_⟩
    · funext i
      rw [gj_u_o (c_hs_ne x hx).1]
    · rw [gj_u_o (by decide), y_ub_i (by decide), if_pos ⟨i0, by omega⟩, pg_s]
    · rw [pg_o (by decide)]; exact kr.1
    · rw [pg_o (by decide)]; exact kr.2.1
    · rw [pg_o (by decide)]; exact kr.2.2.1
    · rw [pg_o (by decide)]; exact kr.2.2.2
theorem R_.again1 {C K : gj_M} (h : R_ C K) (hk : C 68 1 ≠ 0) : C 59 6 = K 81 (40 * 1 + 31) ∧ R_ (gj_u (b_cp C 15 59) 35 0 0) (gj_u (y_ub K 81 1 40) 69 18 0) := by
  obtain ⟨h0, h1, hT, hD, hV0, hZ, ⟨p1, p2, p3⟩, hH, hG⟩ := id h
  have hV := p3 hk
  have e31 := hV.1.sw
  rw [pg_s, bc_6] at e31
  refine ⟨e31.symm, ?_⟩
  have kr : kr_ K (gj_u (y_ub K 81 1 40) 69 18 0) := ⟨by rw [gj_u_i (by decide), y_ub_o (by decide)], by rw [gj_u_i (by decide), y_ub_o (by decide)], funext fun i => by rw [gj_u_o (by decide), y_ub_o (by decide)], funext fun i => by rw [gj_u_o (by decide), y_ub_o (by decide)]⟩
  refine h.st (fun x hx => ?_) (fun x hx => ?_) ⟨?_, ?_, kr.1, kr.2.1, ?_⟩ ⟨0, by omega, gj_u_s, gj_u_s, trivial⟩ ?_
  · have hx2 := cA_ne x hx
    have hx3 := (by decide : ∀ x ∈ cA_, x < 15 ∨ 15 + 8 < x) x hx
    funext i
    rw [gj_u_o hx2.1.1, b_cp_big hx3]
  · have hx2 := kA_ne x hx
    funext i
    rw [gj_u_o hx2.1, y_ub_o hx2.2.1]
  · rw [gj_u_i (by decide), y_ub_o (by decide)]
  · rw [gj_u_i (by decide), y_ub_o (by decide)]
  · rw [gj_u_i (by decide), y_ub_o (by decide)]
  · refine hV.cg (fun x hx => ?_) ⟨fun i i0 i1 => ?_, ?_, ?_, ?_, ?_⟩
    · funext i
      rw [gj_u_o (c_hs_ne x hx).1]
    · rw [gj_u_o (by decide), y_ub_i (by decide), if_pos ⟨i0, by omega⟩, pg_s]
    · rw [pg_o (by decide)]; exact kr.1
    · rw [pg_o (by decide)]; exact kr.2.1
    · rw [pg_o (by decide)]; exact kr.2.2.1
    · rw [pg_o (by decide)]; exact kr.2.2.2
theorem R_.again {C K : gj_M} (h : R_ C K) (s : Int) : x_again C s = z_again K s ∧ R_ (m_again C s) (n_again K s) := by
  have p1 := h.2.2.2.2.2.2.1.1
  unfold x_again z_again m_again n_again
  by_cases q : s < 0 ∨ 2 ≤ s
  · rw [if_pos q, if_pos q, if_pos q, if_pos q]; exact ⟨rfl, h⟩
  · rw [if_neg q, if_neg q, if_neg q, if_neg q]
    have e : K 82 s = C 68 s := by
      by_cases z : s = 0
      · rw [z]; exact p1.1
      · rw [show s = 1 by omega]; exact p1.2
    rw [e]
    by_cases y : C 68 s = 0
    · rw [if_pos y, if_pos y, if_pos y, if_pos y]; exact ⟨rfl, h⟩
    · rw [if_neg y, if_neg y, if_neg y, if_neg y]
      by_cases z : s = 0
      · rw [if_pos z, if_pos z]
        rw [z] at y ⊢
        exact h.again0 y
      · rw [if_neg z, if_neg z]
        rw [show s = 1 by omega] at y ⊢
        exact h.again1 y
