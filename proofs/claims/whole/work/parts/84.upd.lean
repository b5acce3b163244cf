/-! the relation over changes -/
theorem W_.cg {C C' K K' : gj_M} {r r' : Nat} (h : W_ C K r) (hc : c_eq C C') (hk : y_eq K r K' r') : W_ C' K' r' := by
  have e10 := hc 10 (by decide)
  have e13 := hc 13 (by decide)
  have e14 := hc 14 (by decide)
  have e15 := hc 15 (by decide)
  have e16 := hc 16 (by decide)
  have e17 := hc 17 (by decide)
  have e18 := hc 18 (by decide)
  have e19 := hc 19 (by decide)
  have e20 := hc 20 (by decide)
  have e21 := hc 21 (by decide)
  have e22 := hc 22 (by decide)
  have e23 := hc 23 (by decide)
  have hs := h.1.2.2.1
  have hD := h.1.2.1
  refine ⟨hc.I h.1, hk.I h.2.1, ?_, ?_, fun d d0 d1 => ?_, fun l a b => ?_, fun q a b => ?_, ?_, fun k a b => ?_⟩
  · rw [hk.2.1, hk.2.2.1, e10]; exact h.2.2.1
  · rw [e10, e13, e14, hk.2.2.2.1, hk.2.2.2.2]; exact h.2.2.2.1
  · have d2 : d < C 10 0 := by rw [← e10]; exact d1
    show K' r' (0 + d) = C' 16 d ∧ K' r' (6 + d) = C' 17 d
    rw [e16, e17, hk.1 (0 + d) (by omega) (by omega), hk.1 (6 + d) (by omega) (by omega)]
    exact h.xs d0 d2
  · show K' r' (12 + l) = C' 18 l
    rw [e18, hk.1 (12 + l) (by omega) (by omega)]
    exact h.dl a b
  · show K' r' (16 + 3 * q) = C' 19 q ∧ K' r' (16 + 3 * q + 1) = C' 20 q ∧ K' r' (16 + 3 * q + 2) = C' 21 q
    rw [e19, e20, e21, hk.1 (16 + 3 * q) (by omega) (by omega), hk.1 (16 + 3 * q + 1) (by omega) (by omega), hk.1 (16 + 3 * q + 2) (by omega) (by omega)]
    exact h.pn a b
  · show K' r' 31 = C' 15 6
    rw [e15, hk.1 31 (by omega) (by omega)]
    exact h.sw
  · have b2 : k < C 15 6 := by rw [← e15]; exact b
    show K' r' (32 + k) = C' 22 k ∧ K' r' (36 + k) = C' 23 k
    rw [e22, e23, hk.1 (32 + k) (by omega) (by omega), hk.1 (36 + k) (by omega) (by omega)]
    exact h.st a b2
theorem W_.of {M M' K K' : gj_M} {r : Nat} (h : W_ M K r) (hI : c_I M') (e10 : M' 10 = M 10) (e13 : M' 13 = M 13) (e14 : M' 14 = M 14) (k4 : K' 69 4 = K 69 4) (k5 : K' 69 5 = K 69 5) (k71 : K' 71 = K 71) (k72 : K' 72 = K 72) (hx : ∀ d : Int, M 10 0 ≤ d → d < 6 → (0 ≤ K' r (0 + d) ∧ K' r (0 + d) ≤ 9) ∧ 0 ≤ K' r (6 + d) ∧ K' r (6 + d) ≤ 5) (hS : S_ (M 10 0) M' 15 (K' r)) : W_ M' K' r := by
  obtain ⟨i1, i2, i3, i4, i5, i6, i7, i8⟩ := h.2.1
  obtain ⟨c1, c2, c3, c4, c5, c6, c7, c8⟩ := hI
  obtain ⟨g1, g2, g3, g4, g5⟩ := hS
  have g4' : K' r 31 = M' 15 6 := g4
  refine ⟨⟨c1, c2, c3, c4, c5, c6, c7, c8⟩, ⟨by rw [k5]; exact i1, by rw [k4]; exact i2, by rw [g4']; exact c3, fun l a b => ?_, fun q a b => ?_, fun d a b => ?_, fun k a b => ?_, fun l g a b c d => ?_⟩, by rw [k4, k5, e10]; exact h.2.2.1, by rw [e10, e13, e14, k71, k72]; exact h.2.2.2.1, by rw [e10]; exact ⟨g1, g2, g3, g4, g5⟩⟩
  · have e : K' r (12 + l) = M' 18 l := g2 l a b
    rw [e, k72]
    exact ⟨(c4 l a b).1, (i4 l a b).2⟩
  · have e : K' r (16 + 3 * q) = M' 19 q ∧ K' r (16 + 3 * q + 1) = M' 20 q ∧ K' r (16 + 3 * q + 2) = M' 21 q := g3 q a b
    rw [e.1, e.2.1, e.2.2]
    exact c5 q a b
  · by_cases q : d < M 10 0
    · have e : K' r (0 + d) = M' 16 d ∧ K' r (6 + d) = M' 17 d := g1 d a q
      rw [e.1, e.2]
      exact c6 d a b
    · exact hx d (by omega) b
  · have b2 : k < M' 15 6 := by rw [← g4']; exact b
    have e : K' r (32 + k) = M' 22 k ∧ K' r (36 + k) = M' 23 k := g5 k a b2
    rw [e.1, e.2, k5, h.2.2.1.2, ← e10]
    exact c7 k a b2
  · rw [k5] at b
    rw [k72] at d
    rw [k71, k4]
    exact i8 l g a b c d
theorem c_I.pn {M : gj_M} (hI : c_I M) {q s b e : Int} (hs : -9 ≤ s ∧ s ≤ 9) (hb : -3 ≤ b ∧ b ≤ 3) (he : 1 ≤ e ∧ e ≤ 9) : c_I (gj_u (gj_u (gj_u M 19 q s) 20 q b) 21 q e) := by
  obtain ⟨h1, h2, h3, h4, h5, h6, h7, h8⟩ := hI
  refine ⟨h1, h2, h3, h4, fun q' h0 h5' => ?_, h6, h7, h8⟩
  have := h5 q' h0 h5'
  by_cases z : q' = q
  · subst z
    rw [gj_u_s, gj_u_o (show (19 : Nat) ≠ 21 by decide), gj_u_o (show (19 : Nat) ≠ 20 by decide), gj_u_s, gj_u_o (show (20 : Nat) ≠ 21 by decide), gj_u_s]
    exact ⟨hs, hb, he⟩
  · rw [gj_u_i z, gj_u_i z, gj_u_i z, gj_u_i z, gj_u_i z, gj_u_i z, gj_u_i z, gj_u_i z, gj_u_i z]
    exact this
theorem c_I.as {M : gj_M} (hI : c_I M) {f o : Int} (h4 : M 15 6 < 4) (hf : 0 ≤ f ∧ f < 48) (ho : p_od (M 10 1) o) : c_I (gj_u (gj_u (gj_u M 22 (M 15 6) f) 23 (M 15 6) o) 15 6 (M 15 6 + 1)) := by
  obtain ⟨h1, h2, h3, h4', h5, h6, h7, h8⟩ := hI
  refine ⟨h1, h2, ?_, h4', h5, h6, fun k h0 hk => ?_, h8⟩
  · show 0 ≤ M 15 6 + 1 ∧ M 15 6 + 1 ≤ 4
    omega
  · have hk2 : k < M 15 6 + 1 := hk
    show (0 ≤ gj_u (gj_u M 22 (M 15 6) f) 23 (M 15 6) o 22 k ∧ gj_u (gj_u M 22 (M 15 6) f) 23 (M 15 6) o 22 k ≤ 47) ∧ p_od (M 10 1) (gj_u (gj_u M 22 (M 15 6) f) 23 (M 15 6) o 23 k)
    by_cases z : k = M 15 6
    · rw [z, gj_u_s, gj_u_o (show (22 : Nat) ≠ 23 by decide), gj_u_s]
      exact ⟨by omega, ho⟩
    · rw [gj_u_i z, gj_u_i z, gj_u_i z, gj_u_i z]
      exact h7 k h0 (by omega)
theorem W_.xwu {M K : gj_M} {r : Nat} (h : W_ M K r) (hr : r ≠ 69 ∧ r ≠ 71 ∧ r ≠ 72) {d x w : Int} (hd : 0 ≤ d ∧ d < M 10 0) (hx : 0 ≤ x ∧ x ≤ 9) (hw : 0 ≤ w ∧ w ≤ 5) : W_ (gj_u (gj_u M 16 d x) 17 d w) (gj_u (gj_u K r (0 + d) x) r (6 + d) w) r := by
  have hD := h.1.2.1
  have hs := h.1.2.2.1
  have hne : ∀ i : Int, i ≠ 0 + d → i ≠ 6 + d → gj_u (gj_u K r (0 + d) x) r (6 + d) w r i = K r i := fun i a b => by rw [gj_u_i b, gj_u_i a]
  have ho : ∀ g : Nat, g ≠ r → ∀ i, gj_u (gj_u K r (0 + d) x) r (6 + d) w g i = K g i := fun g hg i => by rw [gj_u_o hg, gj_u_o hg]
  have hy := h.2.1.2.2.2.2.2.1
  refine h.of (h.1.xw hx hw) rfl rfl rfl (ho 69 hr.1.symm 4) (ho 69 hr.1.symm 5) (funext (ho 71 hr.2.1.symm)) (funext (ho 72 hr.2.2.symm)) (fun d' a b => ?_) ⟨fun d' a b => ?_, fun l a b => ?_, fun q a b => ?_, ?_, fun k a b => ?_⟩
  · rw [hne _ (by omega) (by omega), hne _ (by omega) (by omega)]
    exact hy d' (by omega) b
  · show gj_u (gj_u K r (0 + d) x) r (6 + d) w r (0 + d') = gj_u (gj_u M 16 d x) 17 d w 16 d' ∧ gj_u (gj_u K r (0 + d) x) r (6 + d) w r (6 + d') = gj_u (gj_u M 16 d x) 17 d w 17 d'
    by_cases z : d' = d
    · subst z
      rw [gj_u_i (by omega), gj_u_s, gj_u_s, gj_u_s, gj_u_o (by decide), gj_u_s]
      exact ⟨rfl, rfl⟩
    · rw [hne _ (by omega) (by omega), hne _ (by omega) (by omega), gj_u_i z, gj_u_i z, gj_u_i z, gj_u_i z]
      exact h.xs a b
  · rw [hne _ (by omega) (by omega)]
    exact h.dl a b
  · rw [hne _ (by omega) (by omega), hne _ (by omega) (by omega), hne _ (by omega) (by omega)]
    exact h.pn a b
  · rw [hne _ (by omega) (by omega)]
    exact h.sw
  · have b2 : k < M 15 6 := b
    rw [hne _ (by omega) (by omega), hne _ (by omega) (by omega)]
    exact h.st a b2
theorem W_.pnu {M K : gj_M} {r : Nat} (h : W_ M K r) (hr : r ≠ 69 ∧ r ≠ 71 ∧ r ≠ 72) {q s b e : Int} (hq : 0 ≤ q ∧ q < 5) (hs : -9 ≤ s ∧ s ≤ 9) (hb : -3 ≤ b ∧ b ≤ 3) (he : 1 ≤ e ∧ e ≤ 9) : W_ (gj_u (gj_u (gj_u M 19 q s) 20 q b) 21 q e) (gj_u (gj_u (gj_u K r (16 + 3 * q) s) r (16 + 3 * q + 1) b) r (16 + 3 * q + 2) e) r := by
  have hD := h.1.2.1
  have hsw := h.1.2.2.1
  have hne : ∀ i : Int, i < 16 + 3 * q ∨ 16 + 3 * q + 2 < i → gj_u (gj_u (gj_u K r (16 + 3 * q) s) r (16 + 3 * q + 1) b) r (16 + 3 * q + 2) e r i = K r i := fun i a => by rw [gj_u_i (by omega), gj_u_i (by omega), gj_u_i (by omega)]
  have ho : ∀ g : Nat, g ≠ r → ∀ i, gj_u (gj_u (gj_u K r (16 + 3 * q) s) r (16 + 3 * q + 1) b) r (16 + 3 * q + 2) e g i = K g i := fun g hg i => by rw [gj_u_o hg, gj_u_o hg, gj_u_o hg]
  have hy := h.2.1.2.2.2.2.2.1
  refine h.of (h.1.pn hs hb he) rfl rfl rfl (ho 69 hr.1.symm 4) (ho 69 hr.1.symm 5) (funext (ho 71 hr.2.1.symm)) (funext (ho 72 hr.2.2.symm)) (fun d' a b => ?_) ⟨fun d' a b => ?_, fun l a b => ?_, fun q' a z => ?_, ?_, fun k a z => ?_⟩
  · rw [hne _ (by omega), hne _ (by omega)]
    exact hy d' (by omega) b
  · have b2 : d' < M 10 0 := b
    rw [hne _ (by omega), hne _ (by omega)]
    exact h.xs a b2
  · rw [hne _ (by omega)]
    exact h.dl a b
  · show gj_u (gj_u (gj_u K r (16 + 3 * q) s) r (16 + 3 * q + 1) b) r (16 + 3 * q + 2) e r (16 + 3 * q') = gj_u (gj_u (gj_u M 19 q s) 20 q b) 21 q e 19 q' ∧ gj_u (gj_u (gj_u K r (16 + 3 * q) s) r (16 + 3 * q + 1) b) r (16 + 3 * q + 2) e r (16 + 3 * q' + 1) = gj_u (gj_u (gj_u M 19 q s) 20 q b) 21 q e 20 q' ∧ gj_u (gj_u (gj_u K r (16 + 3 * q) s) r (16 + 3 * q + 1) b) r (16 + 3 * q + 2) e r (16 + 3 * q' + 2) = gj_u (gj_u (gj_u M 19 q s) 20 q b) 21 q e 21 q'
    by_cases y : q' = q
    · subst y
      refine ⟨?_, ?_, ?_⟩
      · rw [gj_u_i (by omega), gj_u_i (by omega), gj_u_s, gj_u_o (by decide), gj_u_o (by decide), gj_u_s]
      · rw [gj_u_i (by omega), gj_u_s, gj_u_o (by decide), gj_u_s]
      · rw [gj_u_s, gj_u_s]
    · rw [hne _ (by omega), hne _ (by omega), hne _ (by omega), gj_u_i y, gj_u_i y, gj_u_i y, gj_u_i y, gj_u_i y, gj_u_i y, gj_u_i y, gj_u_i y, gj_u_i y]
      exact h.pn a z
  · rw [hne _ (by omega)]
    exact h.sw
  · have b2 : k < M 15 6 := z
    rw [hne _ (by omega), hne _ (by omega)]
    exact h.st a b2
theorem W_.asu {M K : gj_M} {r : Nat} (h : W_ M K r) (hr : r ≠ 69 ∧ r ≠ 71 ∧ r ≠ 72) {f o : Int} (h4 : M 15 6 < 4) (hf : 0 ≤ f ∧ f < 48) (ho' : p_od (M 10 1) o) : W_ (gj_u (gj_u (gj_u M 22 (M 15 6) f) 23 (M 15 6) o) 15 6 (M 15 6 + 1)) (gj_u (gj_u (gj_u K r (32 + M 15 6) f) r (36 + M 15 6) o) r 31 (M 15 6 + 1)) r := by
  have hD := h.1.2.1
  have hsw := h.1.2.2.1
  have hne : ∀ i : Int, i ≠ 31 → i ≠ 32 + M 15 6 → i ≠ 36 + M 15 6 → gj_u (gj_u (gj_u K r (32 + M 15 6) f) r (36 + M 15 6) o) r 31 (M 15 6 + 1) r i = K r i := fun i a b c => by rw [gj_u_i a, gj_u_i c, gj_u_i b]
  have ho : ∀ g : Nat, g ≠ r → ∀ i, gj_u (gj_u (gj_u K r (32 + M 15 6) f) r (36 + M 15 6) o) r 31 (M 15 6 + 1) g i = K g i := fun g hg i => by rw [gj_u_o hg, gj_u_o hg, gj_u_o hg]
  have hy := h.2.1.2.2.2.2.2.1
  refine h.of (h.1.as h4 hf ho') rfl rfl rfl (ho 69 hr.1.symm 4) (ho 69 hr.1.symm 5) (funext (ho 71 hr.2.1.symm)) (funext (ho 72 hr.2.2.symm)) (fun d' a b => ?_) ⟨fun d' a b => ?_, fun l a b => ?_, fun q' a z => ?_, ?_, fun k a z => ?_⟩
  · rw [hne _ (by omega) (by omega) (by omega), hne _ (by omega) (by omega) (by omega)]
    exact hy d' (by omega) b
  · have b2 : d' < M 10 0 := b
    rw [hne _ (by omega) (by omega) (by omega), hne _ (by omega) (by omega) (by omega)]
    exact h.xs a b2
  · rw [hne _ (by omega) (by omega) (by omega)]
    exact h.dl a b
  · rw [hne _ (by omega) (by omega) (by omega), hne _ (by omega) (by omega) (by omega), hne _ (by omega) (by omega) (by omega)]
    exact h.pn a z
  · rw [gj_u_s]
    exact gj_u_s.symm
  · have b2 : k < M 15 6 + 1 := z
    show gj_u (gj_u (gj_u K r (32 + M 15 6) f) r (36 + M 15 6) o) r 31 (M 15 6 + 1) r (32 + k) = gj_u (gj_u (gj_u M 22 (M 15 6) f) 23 (M 15 6) o) 15 6 (M 15 6 + 1) 22 k ∧ gj_u (gj_u (gj_u K r (32 + M 15 6) f) r (36 + M 15 6) o) r 31 (M 15 6 + 1) r (36 + k) = gj_u (gj_u (gj_u M 22 (M 15 6) f) 23 (M 15 6) o) 15 6 (M 15 6 + 1) 23 k
    by_cases y : k = M 15 6
    · rw [y]
      constructor
      · rw [gj_u_i (by omega), gj_u_i (by omega), gj_u_s, gj_u_o (by decide), gj_u_o (by decide), gj_u_s]
      · rw [gj_u_i (by omega), gj_u_s, gj_u_o (by decide), gj_u_s]
    · rw [hne _ (by omega) (by omega) (by omega), hne _ (by omega) (by omega) (by omega), gj_u_o (show (22 : Nat) ≠ 15 by decide), gj_u_o (show (23 : Nat) ≠ 15 by decide), gj_u_i y, gj_u_i y, gj_u_i y, gj_u_i y]
      exact h.st a (by omega)
theorem W_.dsu {M K : gj_M} {r : Nat} (h : W_ M K r) (hr : r ≠ 69 ∧ r ≠ 71 ∧ r ≠ 72) (h1 : 1 ≤ M 15 6) : W_ (gj_u M 15 6 (M 15 6 - 1)) (gj_u K r 31 (M 15 6 - 1)) r := by
  have hD := h.1.2.1
  have hsw := h.1.2.2.1
  have hne : ∀ i : Int, i ≠ 31 → gj_u K r 31 (M 15 6 - 1) r i = K r i := fun i a => gj_u_i a
  have ho : ∀ g : Nat, g ≠ r → ∀ i, gj_u K r 31 (M 15 6 - 1) g i = K g i := fun g hg i => gj_u_o hg
  have hy := h.2.1.2.2.2.2.2.1
  refine h.of (h.1.ds h1) rfl rfl rfl (ho 69 hr.1.symm 4) (ho 69 hr.1.symm 5) (funext (ho 71 hr.2.1.symm)) (funext (ho 72 hr.2.2.symm)) (fun d' a b => ?_) ⟨fun d' a b => ?_, fun l a b => ?_, fun q' a z => ?_, ?_, fun k a z => ?_⟩
  · rw [hne _ (by omega), hne _ (by omega)]
    exact hy d' (by omega) b
  · have b2 : d' < M 10 0 := b
    rw [hne _ (by omega), hne _ (by omega)]
    exact h.xs a b2
  · rw [hne _ (by omega)]
    exact h.dl a b
  · rw [hne _ (by omega), hne _ (by omega), hne _ (by omega)]
    exact h.pn a z
  · rw [gj_u_s]
    exact gj_u_s.symm
  · have b2 : k < M 15 6 - 1 := z
    rw [hne _ (by omega), hne _ (by omega)]
    exact h.st a (by omega)
/-- each order is shorter than its levels ask -/
def O_ (M : gj_M) : Prop := ∀ k : Int, 0 ≤ k → k < M 15 6 → M 23 k < gj_tens (M 10 1).toNat
def V_ (M K : gj_M) (r : Nat) : Prop := W_ M K r ∧ O_ M
theorem V_.cg {C C' K K' : gj_M} {r r' : Nat} (h : V_ C K r) (hc : c_eq C C') (hk : y_eq K r K' r') : V_ C' K' r' := by
  refine ⟨h.1.cg hc hk, ?_⟩
  have := h.2
  unfold O_ at this ⊢
  rw [hc 10 (by decide), hc 15 (by decide), hc 23 (by decide)]
  exact this
theorem V_.dlu {M K : gj_M} {r : Nat} (h : V_ M K r) (hr : r ≠ 69 ∧ r ≠ 71 ∧ r ≠ 72) {l v : Int} (hl : 0 ≤ l ∧ l < 4) (hv : 0 ≤ v ∧ v ≤ 9) : V_ (gj_u M 18 l v) (gj_u K r (12 + l) v) r := ⟨h.1.dlu hr hl hv, h.2⟩
theorem V_.xwu {M K : gj_M} {r : Nat} (h : V_ M K r) (hr : r ≠ 69 ∧ r ≠ 71 ∧ r ≠ 72) {d x w : Int} (hd : 0 ≤ d ∧ d < M 10 0) (hx : 0 ≤ x ∧ x ≤ 9) (hw : 0 ≤ w ∧ w ≤ 5) : V_ (gj_u (gj_u M 16 d x) 17 d w) (gj_u (gj_u K r (0 + d) x) r (6 + d) w) r := ⟨h.1.xwu hr hd hx hw, h.2⟩
theorem V_.pnu {M K : gj_M} {r : Nat} (h : V_ M K r) (hr : r ≠ 69 ∧ r ≠ 71 ∧ r ≠ 72) {q s b e : Int} (hq : 0 ≤ q ∧ q < 5) (hs : -9 ≤ s ∧ s ≤ 9) (hb : -3 ≤ b ∧ b ≤ 3) (he : 1 ≤ e ∧ e ≤ 9) : V_ (gj_u (gj_u (gj_u M 19 q s) 20 q b) 21 q e) (gj_u (gj_u (gj_u K r (16 + 3 * q) s) r (16 + 3 * q + 1) b) r (16 + 3 * q + 2) e) r := ⟨h.1.pnu hr hq hs hb he, h.2⟩
theorem V_.asu {M K : gj_M} {r : Nat} (h : V_ M K r) (hr : r ≠ 69 ∧ r ≠ 71 ∧ r ≠ 72) {f o : Int} (h4 : M 15 6 < 4) (hf : 0 ≤ f ∧ f < 48) (ho' : p_od (M 10 1) o) (ht : o < gj_tens (M 10 1).toNat) : V_ (gj_u (gj_u (gj_u M 22 (M 15 6) f) 23 (M 15 6) o) 15 6 (M 15 6 + 1)) (gj_u (gj_u (gj_u K r (32 + M 15 6) f) r (36 + M 15 6) o) r 31 (M 15 6 + 1)) r := by
  refine ⟨h.1.asu hr h4 hf ho', fun k h0 hk => ?_⟩
  have hk2 : k < M 15 6 + 1 := hk
  show gj_u (gj_u M 22 (M 15 6) f) 23 (M 15 6) o 23 k < gj_tens (M 10 1).toNat
  by_cases z : k = M 15 6
  · rw [z, gj_u_s]; exact ht
  · rw [gj_u_i z, gj_u_i z]
    exact h.2 k h0 (by omega)
theorem V_.dsu {M K : gj_M} {r : Nat} (h : V_ M K r) (hr : r ≠ 69 ∧ r ≠ 71 ∧ r ≠ 72) (h1 : 1 ≤ M 15 6) : V_ (gj_u M 15 6 (M 15 6 - 1)) (gj_u K r 31 (M 15 6 - 1)) r := by
  refine ⟨h.1.dsu hr h1, fun k h0 hk => ?_⟩
  have hk2 : k < M 15 6 - 1 := hk
  exact h.2 k h0 (by omega)
theorem p_fo_t : ∀ n : Nat, n ≤ 4 → p_fo n < gj_tens n := by decide
theorem V_.ot {M K : gj_M} {r : Nat} (h : V_ M K r) (f : Int) : c_ord M f < gj_tens (M 10 1).toNat := by
  have hL := h.1.1.1
  have hs := h.1.1.2.2.1
  unfold c_ord p_or
  have hb := p_sf_lo (M 22) f (M 15 6).toNat
  split
  · exact h.2 _ (by omega) (by omega)
  · exact p_fo_t _ (by omega)
/-! told doings, judged alike -/
theorem V_.ok {M K : gj_M} (h : V_ M K 79) {q : Int} (hq : 0 ≤ q ∧ q < 10000) : j_ok M q = y_qk K q := by
  have hL := h.1.1.1
  have hD := h.1.1.2.1
  have h4 := h.1.2.2.1.1
  have h5 := h.1.2.2.1.2
  have ef : 10 * (q / 100 % 10) + q / 10 % 10 = q / 10 % 100 := by omega
  have eg : 10 * (q / 10 % 10) + q % 10 = q % 100 := by omega
  unfold j_ok y_qk y_dk
  rw [ef, eg, h4, h5]
  by_cases q1 : q / 1000 = 1
  · rw [if_pos q1, if_pos q1]
    by_cases z : q / 10 % 10 = 0 ∧ 0 ≤ q / 100 % 10 ∧ q / 100 % 10 < M 10 1
    · rw [if_pos z, if_pos (by omega)]
    · rw [if_neg z, if_neg (by omega)]
  rw [if_neg q1, if_neg q1]
  by_cases q2 : q / 1000 = 2
  · rw [if_pos q2, if_pos q2]
    by_cases z : q % 10 < M 10 1
    · rw [h.1.ex (by omega) z]
    · rw [if_neg (fun w => z w.2.1), if_neg (fun w => z w.2.1)]
  rw [if_neg q2, if_neg q2]
  by_cases q3 : q / 1000 = 3
  · rw [if_pos q3, if_pos q3, h.1.seen _ _ (rub' := -9) (Or.inl ⟨rfl, rfl⟩), h5]
  rw [if_neg q3, if_neg q3]
  by_cases q4 : q / 1000 = 4
  · rw [if_pos q4, if_pos q4]
  rw [if_neg q4, if_neg q4]
  by_cases q5 : q / 1000 = 5
  · rw [if_pos q5, if_pos q5, h.1.cels]
  rw [if_neg q5, if_neg q5]
  by_cases q6 : q / 1000 = 6
  · rw [if_pos q6, if_pos q6]
    by_cases z : q % 10 < M 10 1
    · have ht := h.ot (q / 10 % 100)
      have ho := (h.1.1.od (q / 10 % 100)).1
      have e : p_li (M 10 1) (c_ord M (q / 10 % 100)) 0 = y_ord K 79 (q / 10 % 100) / e_pw 10 (M 10 1 - 1).toNat := by
        rw [← h.1.ord, p_li_pw hL (by omega), show M 10 1 - 1 - 0 = M 10 1 - 1 by omega]
        generalize c_ord M (q / 10 % 100) = o at *
        have hc : M 10 1 = 1 ∨ M 10 1 = 2 ∨ M 10 1 = 3 ∨ M 10 1 = 4 := by omega
        rcases hc with w | w | w | w
        · rw [w] at ht ⊢
          have t2 : o < 10 := ht
          show o / 1 % 10 = o / 1
          omega
        · rw [w] at ht ⊢
          have t2 : o < 100 := ht
          show o / 10 % 10 = o / 10
          omega
        · rw [w] at ht ⊢
          have t2 : o < 1000 := ht
          show o / 100 % 10 = o / 100
          omega
        · rw [w] at ht ⊢
          have t2 : o < 10000 := ht
          show o / 1000 % 10 = o / 1000
          omega
      rw [e]
    · rw [if_neg (fun w => z w.2.1), if_neg (fun w => z w.2.1)]
  rw [if_neg q6, if_neg q6]
  by_cases q7 : q / 1000 = 7
  · rw [if_pos q7, if_pos q7, h.1.sw]
    have hs := h.1.1.2.2.1
    by_cases z : q = 7000 ∧ 1 ≤ M 15 6
    · rw [if_pos z, if_pos (by omega)]
    · rw [if_neg z, if_neg (by omega)]
  rw [if_neg q7, if_neg q7]
theorem V_.qm {M K : gj_M} (h : V_ M K 79) {q : Int} (hq : 0 ≤ q ∧ q < 10000) : V_ (j_do M q) (y_qm K q) 79 := by
  have hk := h.ok hq
  have hL := h.1.1.1
  have hD := h.1.1.2.1
  have h01 := j_ok_01 M q
  unfold j_do y_qm y_dm
  have hk' : y_dk K (q / 1000) (q / 100 % 10) (q / 10 % 10) (q % 10) = j_ok M q := hk.symm
  rw [hk']
  by_cases z : j_ok M q = 0
  · rw [if_pos z, if_pos z]; exact h
  rw [if_neg z, if_neg z]
  have hk1 : j_ok M q = 1 := by omega
  unfold j_ok at hk1
  by_cases q1 : q / 1000 = 1
  · rw [if_pos q1, if_pos q1]
    rw [if_pos q1] at hk1
    split at hk1
    · next w => exact h.dlu (by decide) (by omega) (by omega)
    · omega
  rw [if_neg q1, if_neg q1]
  rw [if_neg q1] at hk1
  by_cases q4 : q / 1000 = 4
  · rw [if_pos q4, if_pos q4]
    rw [if_neg (by omega), if_neg (by omega), if_pos q4] at hk1
    split at hk1
    · next w => exact h.xwu (by decide) (by omega) (by omega) (by omega)
    · omega
  rw [if_neg q4, if_neg q4]
  by_cases q7 : q / 1000 = 7
  · rw [if_pos q7, if_pos q7, h.1.sw]
    rw [if_neg (by omega), if_neg (by omega), if_neg (by omega), if_neg (by omega), if_neg (by omega), if_pos q7] at hk1
    split at hk1
    · next w => exact h.dsu (by decide) w.2
    · omega
  rw [if_neg q7, if_neg q7]
  exact h
theorem V_.run {row : Int} (hr : 0 ≤ row) : ∀ (n i : Nat) {M K : gj_M}, V_ M K 79 → j_run M row n i = y_jr K row n i := by
  intro n
  induction n with
  | zero => intro i M K _; rfl
  | succ n ih =>
    intro i M K h
    have h1 := Int.emod_nonneg (row / 10000 ^ n) (by decide : (10000 : Int) ≠ 0)
    have h2 := Int.emod_lt_of_pos (row / 10000 ^ n) (by decide : (0 : Int) < 10000)
    simp only [j_run, y_jr]
    rw [h.ok ⟨h1, h2⟩, ih (i + 1) (h.qm ⟨h1, h2⟩)]
theorem y_eq.lay {K : gj_M} : y_eq K 78 (y_cp K 78 79 40) 79 :=
  ⟨fun i h0 h1 => by rw [y_cp_i (by decide), if_pos ⟨h0, h1⟩], y_cp_o (by decide) 4 40, y_cp_o (by decide) 5 40, funext fun i => y_cp_o (by decide) i 40, funext fun i => y_cp_o (by decide) i 40⟩
theorem c_eq.rf {M : gj_M} : c_eq M M := fun _ _ => rfl
theorem V_.judge {M K : gj_M} (h : V_ M K 78) (n row : Int) : x_judge M n row = z_judge K n row := by
  unfold x_judge z_judge
  by_cases q : n < 1 ∨ 4 < n ∨ row < 0 ∨ 10000 ^ n.toNat ≤ row
  · rw [if_pos q, if_pos q]
  · rw [if_neg q, if_neg q]
    exact V_.run (by omega) _ _ (h.cg c_eq.rf y_eq.lay)
