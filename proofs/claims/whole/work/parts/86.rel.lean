/-! the whole relation of class and reference -/
def T_ (C K : gj_M) : Prop := (0 ≤ C 0 1 ∧ C 0 1 ≤ 80) ∧ K 69 2 = C 0 1 ∧ ∀ i : Int, 0 ≤ i → i < C 0 1 → K 70 i = C 1 i ∧ 0 ≤ C 1 i ∧ C 1 i ≤ 255
def D_ (C K : gj_M) : Prop := (∀ l : Int, 0 ≤ l → l < 4 → 0 ≤ C 6 l ∧ C 6 l ≤ 48) ∧ (∀ i : Int, 0 ≤ i → i < 2 → 0 ≤ C 8 i ∧ C 8 i ≤ 48) ∧ (∀ d : Int, 0 ≤ d → d < 6 → (0 ≤ C 4 d ∧ C 4 d ≤ 9) ∧ 0 ≤ C 5 d ∧ C 5 d ≤ 5) ∧ y_Lb K
def Z_ (C K : gj_M) : Prop := ∃ n : Nat, n ≤ 14 ∧ C 35 0 = (n : Int) ∧ K 69 18 = (n : Int) ∧ A_ (C 36) (K 80) K n C
def P_ (C K : gj_M) : Prop := (K 82 0 = C 68 0 ∧ K 82 1 = C 68 1) ∧ (C 68 0 ≠ 0 → V_ (b_cp C 15 50) (pg_ K (K 81) 0) 78) ∧ (C 68 1 ≠ 0 → V_ (b_cp C 15 59) (pg_ K (K 81) 1) 78)
def H_ (C : gj_M) : Prop := ∀ l : Int, 0 ≤ l → l < C 10 1 → C 31 l = 0 ∨ q_sh (fun g => C 14 (l * 48 + g)) (C 13 l) (C 31 l)
def G_ (C K : gj_M) : Prop := (0 ≤ C 37 0 ∧ C 37 0 ≤ 6) ∧ K 69 21 = C 37 0 ∧ ∀ i : Int, 0 ≤ i → i < C 37 0 → (K 83 i = C 38 i ∧ K 84 i = C 39 i ∧ K 85 i = C 40 i) ∧ (0 ≤ C 38 i ∧ C 38 i < 48) ∧ 0 ≤ C 39 i ∧ C 39 i < 10
def R_ (C K : gj_M) : Prop := K 69 0 = 0 ∧ K 5069 25 = C 5000 12 ∧ T_ C K ∧ D_ C K ∧ V_ C K 78 ∧ Z_ C K ∧ P_ C K ∧ H_ C ∧ G_ C K
theorem T_.cg {C C' K K' : gj_M} (h : T_ C K) (c0 : C' 0 1 = C 0 1) (c1 : C' 1 = C 1) (k2 : K' 69 2 = K 69 2) (k70 : K' 70 = K 70) : T_ C' K' := by
  unfold T_ at h ⊢
  rw [c0, c1, k2, k70]
  exact h
theorem D_.cg {C C' K K' : gj_M} (h : D_ C K) (c4 : C' 4 = C 4) (c5 : C' 5 = C 5) (c6 : C' 6 = C 6) (c8 : C' 8 = C 8) (k74 : K' 74 = K 74) : D_ C' K' := by
  unfold D_ y_Lb at h ⊢
  rw [c4, c5, c6, c8, k74]
  exact h
theorem Z_.cg {C C' K K' : gj_M} (h : Z_ C K) (c35 : C' 35 0 = C 35 0) (c36 : C' 36 = C 36) (hc : ce_ C C') (k18 : K' 69 18 = K 69 18) (k80 : K' 80 = K 80) (hk : kr_ K K') : Z_ C' K' := by
  obtain ⟨n, h1, h2, h3, h4⟩ := h
  refine ⟨n, h1, by rw [c35]; exact h2, by rw [k18]; exact h3, ?_⟩
  rw [c36, k80]
  exact A_.cg hk n h4 hc (fun _ _ _ => rfl) (fun _ _ _ => rfl)
theorem bc_6 {M : gj_M} {t u : Nat} : b_cp M t u t 6 = M u 6 := gj_u_s
theorem H_.cg {C C' : gj_M} (h : H_ C) (c10 : C' 10 1 = C 10 1) (c13 : C' 13 = C 13) (c14 : C' 14 = C 14) (c31 : C' 31 = C 31) : H_ C' := by
  unfold H_ at h ⊢
  rw [c10, c13, c14, c31]
  exact h
theorem G_.cg {C C' K K' : gj_M} (h : G_ C K) (c37 : C' 37 0 = C 37 0) (c38 : C' 38 = C 38) (c39 : C' 39 = C 39) (c40 : C' 40 = C 40) (k21 : K' 69 21 = K 69 21) (k83 : K' 83 = K 83) (k84 : K' 84 = K 84) (k85 : K' 85 = K 85) : G_ C' K' := by
  unfold G_ at h ⊢
  rw [c37, c38, c39, c40, k21, k83, k84, k85]
  exact h
theorem ce_bc50 {C C' : gj_M} (h10 : C' 10 = C 10) (h13 : C' 13 = C 13) (h14 : C' 14 = C 14) (e50 : C' 50 = C 50) (e51 : C' 51 = C 51) (e52 : C' 52 = C 52) (e53 : C' 53 = C 53) (e54 : C' 54 = C 54) (e55 : C' 55 = C 55) (e56 : C' 56 = C 56) (e57 : C' 57 = C 57) (e58 : C' 58 = C 58) (h4 : C 50 6 ≤ 4) : ce_ (b_cp C 15 50) (b_cp C' 15 50) := by
  refine ⟨⟨?_, ?_, ?_⟩, ?_, fun d x y => ⟨?_, ?_⟩, fun l x y => ?_, fun q x y => ⟨?_, ?_, ?_⟩, fun k x y => ⟨?_, ?_⟩⟩
  · funext i; rw [b_cp_big (by omega), b_cp_big (by omega), h10]
  · funext i; rw [b_cp_big (by omega), b_cp_big (by omega), h13]
  · funext i; rw [b_cp_big (by omega), b_cp_big (by omega), h14]
  · rw [bc_6, bc_6, e50]
  · rw [bc_15_50_1 x y, bc_15_50_1 x y, e51]
  · rw [bc_15_50_2 x y, bc_15_50_2 x y, e52]
  · rw [bc_15_50_3 x y, bc_15_50_3 x y, e53]
  · rw [bc_15_50_4 x y, bc_15_50_4 x y, e54]
  · rw [bc_15_50_5 x y, bc_15_50_5 x y, e55]
  · rw [bc_15_50_6 x y, bc_15_50_6 x y, e56]
  · rw [bc_6] at y
    rw [bc_15_50_7 x (by omega), bc_15_50_7 x (by omega), e57]
  · rw [bc_6] at y
    rw [bc_15_50_8 x (by omega), bc_15_50_8 x (by omega), e58]
theorem V_.b50 {C K : gj_M} (h : V_ (b_cp C 15 50) K 78) : C 50 6 ≤ 4 := by
  have := h.1.1.2.2.1.2
  rw [bc_6] at this
  exact this
theorem ce_bc59 {C C' : gj_M} (h10 : C' 10 = C 10) (h13 : C' 13 = C 13) (h14 : C' 14 = C 14) (e59 : C' 59 = C 59) (e60 : C' 60 = C 60) (e61 : C' 61 = C 61) (e62 : C' 62 = C 62) (e63 : C' 63 = C 63) (e64 : C' 64 = C 64) (e65 : C' 65 = C 65) (e66 : C' 66 = C 66) (e67 : C' 67 = C 67) (h4 : C 59 6 ≤ 4) : ce_ (b_cp C 15 59) (b_cp C' 15 59) := by
  refine ⟨⟨?_, ?_, ?_⟩, ?_, fun d x y => ⟨?_, ?_⟩, fun l x y => ?_, fun q x y => ⟨?_, ?_, ?_⟩, fun k x y => ⟨?_, ?_⟩⟩
  · funext i; rw [b_cp_big (by omega), b_cp_big (by omega), h10]
  · funext i; rw [b_cp_big (by omega), b_cp_big (by omega), h13]
  · funext i; rw [b_cp_big (by omega), b_cp_big (by omega), h14]
  · rw [bc_6, bc_6, e59]
  · rw [bc_15_59_1 x y, bc_15_59_1 x y, e60]
  · rw [bc_15_59_2 x y, bc_15_59_2 x y, e61]
  · rw [bc_15_59_3 x y, bc_15_59_3 x y, e62]
  · rw [bc_15_59_4 x y, bc_15_59_4 x y, e63]
  · rw [bc_15_59_5 x y, bc_15_59_5 x y, e64]
  · rw [bc_15_59_6 x y, bc_15_59_6 x y, e65]
  · rw [bc_6] at y
    rw [bc_15_59_7 x (by omega), bc_15_59_7 x (by omega), e66]
  · rw [bc_6] at y
    rw [bc_15_59_8 x (by omega), bc_15_59_8 x (by omega), e67]
theorem V_.b59 {C K : gj_M} (h : V_ (b_cp C 15 59) K 78) : C 59 6 ≤ 4 := by
  have := h.1.1.2.2.1.2
  rw [bc_6] at this
  exact this
def cP_ : List Nat := [10, 13, 14, 50, 51, 52, 53, 54, 55, 56, 57, 58, 59, 60, 61, 62, 63, 64, 65, 66, 67, 68]
theorem P_.cg {C C' K K' : gj_M} (h : P_ C K) (hc : ∀ x ∈ cP_, C' x = C x) (k81 : K' 81 = K 81) (k82 : K' 82 = K 82) (hk : kr_ K K') : P_ C' K' := by
  obtain ⟨h1, h2, h3⟩ := h
  have e10 := hc 10 (by decide)
  have e13 := hc 13 (by decide)
  have e14 := hc 14 (by decide)
  have e68 := hc 68 (by decide)
  refine ⟨by rw [k82, e68]; exact h1, fun q => ?_, fun q => ?_⟩
  · rw [e68] at q
    have := h2 q
    rw [k81]
    exact this.cw (ce_bc50 e10 e13 e14 (hc 50 (by decide)) (hc 51 (by decide)) (hc 52 (by decide)) (hc 53 (by decide)) (hc 54 (by decide)) (hc 55 (by decide)) (hc 56 (by decide)) (hc 57 (by decide)) (hc 58 (by decide)) this.b50) (y_eq.pg hk (fun _ _ _ => rfl))
  · rw [e68] at q
    have := h3 q
    rw [k81]
    exact this.cw (ce_bc59 e10 e13 e14 (hc 59 (by decide)) (hc 60 (by decide)) (hc 61 (by decide)) (hc 62 (by decide)) (hc 63 (by decide)) (hc 64 (by decide)) (hc 65 (by decide)) (hc 66 (by decide)) (hc 67 (by decide)) this.b59) (y_eq.pg hk (fun _ _ _ => rfl))
def cU_ : List Nat := [0, 1, 4, 5, 6, 8, 10, 13, 14, 15, 16, 17, 18, 19, 20, 21, 22, 23, 31, 35, 36, 37, 38, 39, 40, 50, 51, 52, 53, 54, 55, 56, 57, 58, 59, 60, 61, 62, 63, 64, 65, 66, 67, 68, 5000]
def kU_ : List Nat := [69, 70, 71, 72, 74, 78, 80, 81, 82, 83, 84, 85, 5069]
theorem R_.cg {C C' K K' : gj_M} (h : R_ C K) (hc : ∀ x ∈ cU_, C' x = C x) (hk : ∀ x ∈ kU_, K' x = K x) : R_ C' K' := by
  obtain ⟨h0, h1, hT, hD, hV, hZ, hP, hH, hG⟩ := h
  have e69 := hk 69 (by decide)
  have hkr : kr_ K K' := ⟨by rw [e69], by rw [e69], hk 71 (by decide), hk 72 (by decide)⟩
  have hce : c_eq C C' := fun x hx => hc x ((by decide : ∀ x ∈ c_hs, x ∈ cU_) x hx)
  refine ⟨by rw [e69]; exact h0, by rw [hk 5069 (by decide), hc 5000 (by decide)]; exact h1, hT.cg (by rw [hc 0 (by decide)]) (hc 1 (by decide)) (by rw [e69]) (hk 70 (by decide)), hD.cg (hc 4 (by decide)) (hc 5 (by decide)) (hc 6 (by decide)) (hc 8 (by decide)) (hk 74 (by decide)), hV.cg hce ⟨fun i _ _ => by rw [hk 78 (by decide)], hkr⟩, hZ.cg (by rw [hc 35 (by decide)]) (hc 36 (by decide)) hce.ce (by rw [e69]) (hk 80 (by decide)) hkr, hP.cg (fun x hx => hc x ((by decide : ∀ x ∈ cP_, x ∈ cU_) x hx)) (hk 81 (by decide)) (hk 82 (by decide)) hkr, hH.cg (by rw [hc 10 (by decide)]) (hc 13 (by decide)) (hc 14 (by decide)) (hc 31 (by decide)), hG.cg (by rw [hc 37 (by decide)]) (hc 38 (by decide)) (hc 39 (by decide)) (hc 40 (by decide)) (by rw [e69]) (hk 83 (by decide)) (hk 84 (by decide)) (hk 85 (by decide))⟩
/-- the class's cells, the reference's cells -/
def cK_ (M M1 : gj_M) : Prop := ∀ x : Nat, 69 ≤ x → x ≠ 5000 → M1 x = M x
def rK_ (M M1 : gj_M) : Prop := ∀ x : Nat, x < 69 ∨ x = 5000 → M1 x = M x
theorem gj_E.cK {hs : List Nat} {M M1 : gj_M} (h : gj_E hs M M1) (hd : hs.all (fun x => Nat.blt x 69 || x == 5000) = true) : cK_ M M1 := by
  intro x h1 h2
  funext i
  refine h x (fun q => ?_) i
  have := List.all_eq_true.mp hd x q
  simp only [Bool.or_eq_true, Nat.blt_eq, beq_iff_eq] at this
  omega
theorem gj_E.rK {hs : List Nat} {M M1 : gj_M} (h : gj_E hs M M1) (hd : hs.all (fun x => Nat.ble 69 x && x != 5000) = true) : rK_ M M1 := by
  intro x h1
  funext i
  refine h x (fun q => ?_) i
  have := List.all_eq_true.mp hd x q
  simp only [Bool.and_eq_true, Nat.ble_eq, bne_iff_ne, ne_eq] at this
  omega
theorem gj_E.f {hs : List Nat} {M M1 : gj_M} (h : gj_E hs M M1) {x : Nat} (hx : x ∉ hs) : M1 x = M x := funext (h x hx)
theorem R_.k {C K K' : gj_M} (h : R_ C K) (hk : cK_ K K') : R_ C K' := h.cg (fun _ _ => rfl) (fun x hx => hk x ((by decide : ∀ x ∈ kU_, 69 ≤ x) x hx) ((by decide : ∀ x ∈ kU_, x ≠ 5000) x hx))
theorem R_.c {C C' K : gj_M} (h : R_ C K) (hc : rK_ C C') : R_ C' K := h.cg (fun x hx => hc x ((by decide : ∀ x ∈ cU_, x < 69 ∨ x = 5000) x hx)) (fun _ _ => rfl)
theorem R_.cE {C C' K : gj_M} {hs : List Nat} (h : R_ C K) (hE : gj_E hs C C') (hd : cU_.all (fun x => !(hs.contains x)) = true) : R_ C' K := h.cg (fun x hx => hE.f (fun q => by
  have := List.all_eq_true.mp hd x hx
  simp only [Bool.not_eq_true', List.contains_eq_mem, decide_eq_false_iff_not] at this
  exact this q)) (fun _ _ => rfl)
theorem R_.kE {C K K' : gj_M} {hs : List Nat} (h : R_ C K) (hE : gj_E hs K K') (hd : kU_.all (fun x => !(hs.contains x)) = true) : R_ C K' := h.cg (fun _ _ => rfl) (fun x hx => hE.f (fun q => by
  have := List.all_eq_true.mp hd x hx
  simp only [Bool.not_eq_true', List.contains_eq_mem, decide_eq_false_iff_not] at this
  exact this q))
/-! text -/
theorem R_.write {C K : gj_M} (h : R_ C K) (c : Int) : x_write C c = z_write K c ∧ R_ (m_write C c) (n_write K c) := by
  have h' := h
  obtain ⟨h0, h1, ⟨t1, t2, t3⟩, hD, hV, hZ, hP, hH, hG⟩ := h
  unfold x_write z_write m_write n_write
  rw [t2]
  by_cases q : c < 0 ∨ 255 < c
  · rw [if_pos q, if_pos q, if_pos q, if_pos q]; exact ⟨rfl, h'⟩
  rw [if_neg q, if_neg q, if_neg q, if_neg q]
  by_cases z : 80 ≤ C 0 1
  · rw [if_pos z, if_pos z, if_pos (by omega), if_pos (by omega)]; exact ⟨rfl, h'⟩
  rw [if_neg z, if_neg z, if_neg (by omega), if_neg (by omega)]
  refine ⟨rfl, h0, h1, ⟨?_, ?_, fun i a b => ?_⟩, hD.cg rfl rfl rfl rfl rfl, hV.cg (fun x hx => ?_) ⟨fun i _ _ => rfl, rfl, rfl, rfl, rfl⟩, hZ.cg rfl rfl ce_.rf rfl rfl ⟨rfl, rfl, rfl, rfl⟩, hP.cg (fun x hx => ?_) rfl rfl ⟨rfl, rfl, rfl, rfl⟩, hH.cg rfl rfl rfl rfl, hG.cg rfl rfl rfl rfl rfl rfl rfl rfl⟩
  · rw [gj_u_s]; omega
  · rw [gj_u_s, gj_u_s]
  · rw [gj_u_s] at b
    rw [gj_u_o (show (70 : Nat) ≠ 69 by decide), gj_u_o (show (1 : Nat) ≠ 0 by decide)]
    by_cases y : i = C 0 1
    · rw [y, gj_u_s, gj_u_s]; omega
    · rw [gj_u_i y, gj_u_i y]; exact t3 i a (by omega)
  · have := (by decide : ∀ x ∈ c_hs, x ≠ 0 ∧ x ≠ 1) x hx
    funext i
    rw [gj_u_o this.1, gj_u_o this.2]
  · have := (by decide : ∀ x ∈ cP_, x ≠ 0 ∧ x ≠ 1) x hx
    funext i
    rw [gj_u_o this.1, gj_u_o this.2]
theorem R_.wipe {C K : gj_M} (h : R_ C K) : C 0 1 = K 69 2 ∧ R_ (gj_u C 0 1 0) (gj_u K 69 2 0) := by
  obtain ⟨h0, h1, ⟨t1, t2, t3⟩, hD, hV, hZ, hP, hH, hG⟩ := h
  refine ⟨t2.symm, h0, h1, ⟨?_, ?_, fun i a b => ?_⟩, hD.cg rfl rfl rfl rfl rfl, hV.cg (fun x hx => ?_) ⟨fun i _ _ => rfl, rfl, rfl, rfl, rfl⟩, hZ.cg rfl rfl ce_.rf rfl rfl ⟨rfl, rfl, rfl, rfl⟩, hP.cg (fun x hx => ?_) rfl rfl ⟨rfl, rfl, rfl, rfl⟩, hH.cg rfl rfl rfl rfl, hG.cg rfl rfl rfl rfl rfl rfl rfl rfl⟩
  · rw [gj_u_s]; omega
  · rw [gj_u_s, gj_u_s]
  · rw [gj_u_s] at b; omega
  · have := (by decide : ∀ x ∈ c_hs, x ≠ 0) x hx
    funext i
    rw [gj_u_o this]
  · have := (by decide : ∀ x ∈ cP_, x ≠ 0) x hx
    funext i
    rw [gj_u_o this]
/-! asked -/
theorem R_.drawing {C K : gj_M} (h : R_ C K) (d w : Int) : x_drawing C d w = z_drawing K d w := by
  have hV := h.2.2.2.2.1.1
  unfold x_drawing z_drawing
  rw [hV.2.2.1.1]
  by_cases q : 0 ≤ d ∧ d < C 10 0
  · rw [if_pos q, if_pos q, (hV.xs q.1 q.2).1, (hV.xs q.1 q.2).2, hV.mo]
  · rw [if_neg q, if_neg q]
theorem R_.where_ {C K : gj_M} (h : R_ C K) (l f : Int) : x_where C l f = z_where K l f := by
  have hV := h.2.2.2.2.1.1
  have hL := hV.1.1
  unfold x_where z_where
  rw [hV.2.2.1.2]
  by_cases q : l = 9 ∨ (0 ≤ l ∧ l < C 10 1)
  · rw [if_pos q, if_pos q]
    have hp : 0 ≤ x_panOf l ∧ x_panOf l < 5 := by unfold x_panOf; split <;> omega
    rw [hV.wh hp.1 hp.2, Int.add_comm]
  · rw [if_neg q, if_neg q]
theorem R_.exposed {C K : gj_M} (h : R_ C K) (l f : Int) : x_exposed C l f = z_exposed K l f := by
  have hV := h.2.2.2.2.1.1
  unfold x_exposed z_exposed
  rw [hV.2.2.1.2]
  by_cases q : 0 ≤ l ∧ l < C 10 1
  · rw [if_pos q, if_pos q, hV.ex q.1 q.2]
  · rw [if_neg q, if_neg q]
theorem R_.order {C K : gj_M} (h : R_ C K) (f : Int) : x_order C f = z_order K f := by
  unfold x_order z_order
  rw [h.2.2.2.2.1.1.ord]
theorem R_.look {C K : gj_M} (h : R_ C K) (f c : Int) : x_look C f c = z_look K f c := by
  unfold x_look z_look
  rw [h.2.2.2.2.1.1.seen f c (rub' := -9) (Or.inl ⟨rfl, rfl⟩)]
theorem R_.ask {C K : gj_M} (h : R_ C K) (w : Int) : x_ask C w = z_ask K w := by
  unfold x_ask z_ask
  rw [h.2.2.2.2.1.1.chg, h.2.2.2.2.1.1.cels]
theorem R_.judge {C K : gj_M} (h : R_ C K) (n row : Int) : x_judge C n row = z_judge K n row := h.2.2.2.2.1.judge n row
theorem R_.share {C K : gj_M} (h : R_ C K) (l u : Int) : x_share C l u = z_share K l u := by
  have hV := h.2.2.2.2.1.1
  unfold x_share z_share
  by_cases q : 0 ≤ l ∧ l < C 10 1
  · rw [if_pos q, if_pos (by rw [hV.2.2.1.2]; exact q)]
    exact (hV.sh q).2.2 u
  · rw [if_neg q, if_neg (by rw [hV.2.2.1.2]; exact q)]
theorem R_.lost {C K : gj_M} (h : R_ C K) (f c x u : Int) : x_lost C f c x u = z_lost K f c x u := by
  have hV := h.2.2.2.2.1.1
  unfold x_lost z_lost
  by_cases q : (0 ≤ f ∧ f < 48) ∧ (0 ≤ c ∧ c < 10) ∧ 0 ≤ x ∧ x ≤ 10
  · rw [if_pos q, if_pos q]
    exact (hV.up f c q.2.2).2.2 u
  · rw [if_neg q, if_neg q]
theorem R_.count {C K : gj_M} (h : R_ C K) (w : Int) : x_count C w = z_count K w := by
  have hV := h.2.2.2.2.1.1
  obtain ⟨n, -, z1, z2, -⟩ := h.2.2.2.2.2.1
  unfold x_count z_count
  rw [h.2.2.1.2.1, hV.2.2.1.1, hV.2.2.1.2, hV.sw, z1, z2, h.2.2.2.2.2.2.2.2.2.1]
theorem g_al_iff (M : gj_M) (d : Int) : ∀ (n i : Nat), g_al M d n i = 1 ↔ ∀ j : Nat, i ≤ j → j < i + n → c_seen M (M 38 j) (M 39 j) d = M 40 j := by
  intro n
  induction n with
  | zero => intro i; exact ⟨fun _ j a b => by omega, fun _ => rfl⟩
  | succ n ih =>
    intro i
    simp only [g_al]
    by_cases q : c_seen M (M 38 i) (M 39 i) d = M 40 i
    · rw [if_pos q, ih]
      constructor
      · intro h j a b
        by_cases z : j = i
        · rw [z]; exact q
        · exact h j (by omega) (by omega)
      · intro h j a b
        exact h j (by omega) (by omega)
    · rw [if_neg q]
      exact ⟨fun h => by omega, fun h => absurd (h i (by omega) (by omega)) q⟩
theorem y_al_iff (M : gj_M) (d : Int) : ∀ n : Nat, y_al M d n = 1 ↔ ∀ j : Nat, j < n → y_look M 78 (M 83 j) (M 84 j) (y_all (M 69 5)) d = M 85 j := by
  intro n
  induction n with
  | zero => exact ⟨fun _ j a => by omega, fun _ => rfl⟩
  | succ n ih =>
    have h01 := y_al_01 M d n
    simp only [y_al]
    by_cases q : y_al M d n ≠ 0 ∧ y_look M 78 (M 83 n) (M 84 n) (y_all (M 69 5)) d = M 85 n
    · rw [if_pos q]
      refine ⟨fun _ j a => ?_, fun _ => rfl⟩
      by_cases z : j = n
      · rw [z]; exact q.2
      · exact ih.mp (by omega) j (by omega)
    · rw [if_neg q]
      refine ⟨fun h => by omega, fun h => absurd ⟨?_, h n (by omega)⟩ q⟩
      have := ih.mpr (fun j a => h j (by omega))
      omega
theorem R_.al {C K : gj_M} (h : R_ C K) {d : Int} (hd : 0 ≤ d) : g_al C d (C 37 0).toNat 0 = y_al K d (K 69 21).toNat := by
  have hV := h.2.2.2.2.1.1
  obtain ⟨g1, g2, g3⟩ := h.2.2.2.2.2.2.2.2
  have a01 := g_al_01 C d (C 37 0).toNat 0
  have b01 := y_al_01 K d (K 69 21).toNat
  have hi : g_al C d (C 37 0).toNat 0 = 1 ↔ y_al K d (K 69 21).toNat = 1 := by
    rw [g_al_iff, y_al_iff, g2]
    have hj : ∀ j : Nat, (j : Int) < C 37 0 → (c_seen C (C 38 j) (C 39 j) d = C 40 j ↔ y_look K 78 (K 83 j) (K 84 j) (y_all (K 69 5)) d = K 85 j) := by
      intro j hj
      have hg := (g3 j (by omega) hj).1
      rw [hg.1, hg.2.1, hg.2.2, hV.seen _ _ (rub' := d) (Or.inr ⟨rfl, hd⟩)]
    constructor
    · intro hh j a
      exact (hj j (by omega)).mp (hh j (by omega) (by omega))
    · intro hh j _ a
      exact (hj j (by omega)).mpr (hh j (by omega))
  rcases a01 with a | a <;> rcases b01 with b | b
  · omega
  · have := hi.mpr b; omega
  · have := hi.mp a; omega
  · omega
theorem gj_or0 {a : Int} (h : gj_in a) : (Int32.ofInt a ||| Int32.ofInt 0).toInt = a := by
  rw [gj_0, Int32.or_zero, gj_ti h]
theorem R_.which {C K : gj_M} (h : R_ C K) : x_wh C (C 10 0).toNat = y_ws K (K 69 4).toNat := by
  rw [h.2.2.2.2.1.1.2.2.1.1]
  have key : ∀ n : Nat, x_wh C n = y_ws K n := by
    intro n
    induction n with
    | zero => rfl
    | succ n ih =>
      have ha := h.al (d := (n : Int)) (by omega)
      have hin := y_ws_in K n
      simp only [x_wh, y_ws]
      rw [ih, ha]
      by_cases q : y_al K n (K 69 21).toNat = 0
      · rw [if_pos q, if_pos q, gj_or0 hin]
      · rw [if_neg q, if_neg q]
  exact key _
/-! seen, seed -/
theorem R_.see {C K : gj_M} (h : R_ C K) (f c v : Int) : x_see C f c v = z_see K f c v ∧ R_ (m_see C f c v) (n_see K f c v) := by
  have h' := h
  obtain ⟨h0, h1, hT, hD, hV, hZ, hP, hH, g1, g2, g3⟩ := h
  unfold x_see z_see m_see n_see
  rw [g2]
  by_cases q : (0 ≤ f ∧ f < 48) ∧ (0 ≤ c ∧ c < 10) ∧ (v = -9 ∨ (0 ≤ v ∧ v ≤ 39))
  · rw [if_pos q, if_pos q, if_pos q, if_pos q]
    by_cases z : 6 ≤ C 37 0
    · rw [if_pos z, if_pos z, if_pos (by omega), if_pos (by omega)]; exact ⟨rfl, h'⟩
    rw [if_neg z, if_neg z, if_neg (by omega), if_neg (by omega)]
    unfold g_ad
    refine ⟨rfl, h0, h1, hT.cg rfl rfl rfl rfl, hD.cg rfl rfl rfl rfl rfl, hV.cg (fun x hx => ?_) ⟨fun i _ _ => rfl, rfl, rfl, rfl, rfl⟩, hZ.cg rfl rfl ce_.rf rfl rfl ⟨rfl, rfl, rfl, rfl⟩, hP.cg (fun x hx => ?_) rfl rfl ⟨rfl, rfl, rfl, rfl⟩, hH.cg rfl rfl rfl rfl, ?_, ?_, fun i a b => ?_⟩
    · have := (by decide : ∀ x ∈ c_hs, x ≠ 37 ∧ x ≠ 38 ∧ x ≠ 39 ∧ x ≠ 40) x hx
      funext i
      rw [gj_u_o this.1, gj_u_o this.2.2.2, gj_u_o this.2.2.1, gj_u_o this.2.1]
    · have := (by decide : ∀ x ∈ cP_, x ≠ 37 ∧ x ≠ 38 ∧ x ≠ 39 ∧ x ≠ 40) x hx
      funext i
      rw [gj_u_o this.1, gj_u_o this.2.2.2, gj_u_o this.2.2.1, gj_u_o this.2.1]
    · rw [gj_u_s]; omega
    · rw [gj_u_s, gj_u_s]
    · rw [gj_u_s] at b
      by_cases y : i = C 37 0
      · rw [y]
        refine ⟨⟨?_, ?_, ?_⟩, ?_, ?_⟩
        · rw [gj_u_o (by decide), gj_u_o (by decide), gj_u_o (by decide), gj_u_s, gj_u_o (by decide), gj_u_o (by decide), gj_u_o (by decide), gj_u_s]
        · rw [gj_u_o (by decide), gj_u_o (by decide), gj_u_s, gj_u_o (by decide), gj_u_o (by decide), gj_u_s]
        · rw [gj_u_o (by decide), gj_u_s, gj_u_o (by decide), gj_u_s]
        · rw [gj_u_o (by decide), gj_u_o (by decide), gj_u_o (by decide), gj_u_s]; exact q.1
        · rw [gj_u_o (by decide), gj_u_o (by decide), gj_u_s]; exact q.2.1
      · have := g3 i a (by omega)
        refine ⟨⟨?_, ?_, ?_⟩, ?_, ?_⟩
        · rw [gj_u_o (by decide), gj_u_o (by decide), gj_u_o (by decide), gj_u_i y, gj_u_o (by decide), gj_u_o (by decide), gj_u_o (by decide), gj_u_i y]; exact this.1.1
        · rw [gj_u_o (by decide), gj_u_o (by decide), gj_u_i y, gj_u_o (by decide), gj_u_o (by decide), gj_u_o (by decide), gj_u_i y, gj_u_o (by decide)]; exact this.1.2.1
        · rw [gj_u_o (by decide), gj_u_i y, gj_u_o (by decide), gj_u_o (by decide), gj_u_o (by decide), gj_u_i y, gj_u_o (by decide), gj_u_o (by decide)]; exact this.1.2.2
        · rw [gj_u_o (by decide), gj_u_o (by decide), gj_u_o (by decide), gj_u_i y]; exact this.2.1
        · rw [gj_u_o (by decide), gj_u_o (by decide), gj_u_i y, gj_u_o (by decide)]; exact this.2.2
  · rw [if_neg q, if_neg q, if_neg q, if_neg q]; exact ⟨rfl, h'⟩
theorem R_.unsee {C K : gj_M} (h : R_ C K) : C 37 0 = K 69 21 ∧ R_ (gj_u C 37 0 0) (gj_u K 69 21 0) := by
  obtain ⟨h0, h1, hT, hD, hV, hZ, hP, hH, g1, g2, g3⟩ := h
  refine ⟨g2.symm, h0, h1, hT.cg rfl rfl rfl rfl, hD.cg rfl rfl rfl rfl rfl, hV.cg (fun x hx => ?_) ⟨fun i _ _ => rfl, rfl, rfl, rfl, rfl⟩, hZ.cg rfl rfl ce_.rf rfl rfl ⟨rfl, rfl, rfl, rfl⟩, hP.cg (fun x hx => ?_) rfl rfl ⟨rfl, rfl, rfl, rfl⟩, hH.cg rfl rfl rfl rfl, ?_, ?_, fun i a b => ?_⟩
  · have := (by decide : ∀ x ∈ c_hs, x ≠ 37) x hx
    funext i
    rw [gj_u_o this]
  · have := (by decide : ∀ x ∈ cP_, x ≠ 37) x hx
    funext i
    rw [gj_u_o this]
  · rw [gj_u_s]; omega
  · rw [gj_u_s, gj_u_s]
  · rw [gj_u_s] at b; omega
theorem R_.seed {C K : gj_M} (h : R_ C K) (v : Int) : C 5000 12 = K 5069 25 ∧ R_ (gj_u C 5000 12 v) (gj_u K 5069 25 v) := by
  obtain ⟨h0, h1, hT, hD, hV, hZ, hP, hH, hG⟩ := h
  refine ⟨h1.symm, h0, ?_, hT.cg rfl rfl rfl rfl, hD.cg rfl rfl rfl rfl rfl, hV.cg (fun x hx => ?_) ⟨fun i _ _ => rfl, rfl, rfl, rfl, rfl⟩, hZ.cg rfl rfl ce_.rf rfl rfl ⟨rfl, rfl, rfl, rfl⟩, hP.cg (fun x hx => ?_) rfl rfl ⟨rfl, rfl, rfl, rfl⟩, hH.cg rfl rfl rfl rfl, hG.cg rfl rfl rfl rfl rfl rfl rfl rfl⟩
  · rw [gj_u_s, gj_u_s]
  · have := (by decide : ∀ x ∈ c_hs, x ≠ 5000) x hx
    funext i
    rw [gj_u_o this]
  · have := (by decide : ∀ x ∈ cP_, x ≠ 5000) x hx
    funext i
    rw [gj_u_o this]
theorem R_.looks {C K : gj_M} (h : R_ C K) (m : Int) : x_looks C m = z_looks K m ∧ R_ (m_looks C m) (n_looks K m) := by
  have hV := h.2.2.2.2.1.1
  have e := h.2.1
  have key : ∀ n : Nat, x_lk C n = y_lk K n := by
    intro n
    induction n with
    | zero => rfl
    | succ n ih =>
      simp only [x_lk, y_lk]
      rw [ih, e, hV.seen _ _ (rub' := -9) (Or.inl ⟨rfl, rfl⟩)]
      split
      · omega
      · rfl
  unfold x_looks z_looks m_looks n_looks
  by_cases q : m < 1 ∨ 40 < m
  · rw [if_pos q, if_pos q, if_pos q, if_pos q]; exact ⟨rfl, h⟩
  · rw [if_neg q, if_neg q, if_neg q, if_neg q, key, e]
    exact ⟨rfl, (h.seed _).2⟩
