/-! settings alike as far as they count -/
def ce_ (C C' : gj_M) : Prop := (C' 10 = C 10 ∧ C' 13 = C 13 ∧ C' 14 = C 14) ∧ C' 15 6 = C 15 6 ∧ (∀ d : Int, 0 ≤ d → d < 6 → C' 16 d = C 16 d ∧ C' 17 d = C 17 d) ∧ (∀ l : Int, 0 ≤ l → l < 4 → C' 18 l = C 18 l) ∧ (∀ q : Int, 0 ≤ q → q < 5 → C' 19 q = C 19 q ∧ C' 20 q = C 20 q ∧ C' 21 q = C 21 q) ∧ ∀ k : Int, 0 ≤ k → k < C 15 6 → C' 22 k = C 22 k ∧ C' 23 k = C 23 k
theorem ce_.rf {C : gj_M} : ce_ C C := ⟨⟨rfl, rfl, rfl⟩, rfl, fun _ _ _ => ⟨rfl, rfl⟩, fun _ _ _ => rfl, fun _ _ _ => ⟨rfl, rfl, rfl⟩, fun _ _ _ => ⟨rfl, rfl⟩⟩
theorem ce_.tr {A B C : gj_M} (h : ce_ A B) (g : ce_ B C) : ce_ A C := by
  obtain ⟨⟨a1, a2, a3⟩, a4, a5, a6, a7, a8⟩ := h
  obtain ⟨⟨b1, b2, b3⟩, b4, b5, b6, b7, b8⟩ := g
  refine ⟨⟨b1.trans a1, b2.trans a2, b3.trans a3⟩, b4.trans a4, fun d x y => ⟨(b5 d x y).1.trans (a5 d x y).1, (b5 d x y).2.trans (a5 d x y).2⟩, fun l x y => (b6 l x y).trans (a6 l x y), fun q x y => ⟨(b7 q x y).1.trans (a7 q x y).1, (b7 q x y).2.1.trans (a7 q x y).2.1, (b7 q x y).2.2.trans (a7 q x y).2.2⟩, fun k x y => ?_⟩
  have hb := b8 k x (by omega)
  have ha := a8 k x y
  exact ⟨hb.1.trans ha.1, hb.2.trans ha.2⟩
theorem c_eq.ce {C C' : gj_M} (h : c_eq C C') : ce_ C C' := by
  refine ⟨⟨h 10 (by decide), h 13 (by decide), h 14 (by decide)⟩, ?_, fun d _ _ => ⟨?_, ?_⟩, fun l _ _ => ?_, fun q _ _ => ⟨?_, ?_, ?_⟩, fun k _ _ => ⟨?_, ?_⟩⟩
  · rw [h 15 (by decide)]
  · rw [h 16 (by decide)]
  · rw [h 17 (by decide)]
  · rw [h 18 (by decide)]
  · rw [h 19 (by decide)]
  · rw [h 20 (by decide)]
  · rw [h 21 (by decide)]
  · rw [h 22 (by decide)]
  · rw [h 23 (by decide)]
theorem ce_.I {C C' : gj_M} (h : ce_ C C') (hI : c_I C) : c_I C' := by
  obtain ⟨⟨a1, a2, a3⟩, a4, a5, a6, a7, a8⟩ := h
  obtain ⟨h1, h2, h3, h4, h5, h6, h7, h8⟩ := hI
  refine ⟨by rw [a1]; exact h1, by rw [a1]; exact h2, by rw [a4]; exact h3, fun l x y => ?_, fun q x y => ?_, fun d x y => ?_, fun k x y => ?_, by rw [a1, a2, a3]; exact h8⟩
  · rw [a6 l x y, a2]; exact h4 l x y
  · rw [(a7 q x y).1, (a7 q x y).2.1, (a7 q x y).2.2]; exact h5 q x y
  · rw [(a5 d x y).1, (a5 d x y).2]; exact h6 d x y
  · rw [a4] at y
    rw [(a8 k x y).1, (a8 k x y).2, a1]; exact h7 k x y
theorem V_.ce {C C' K : gj_M} {r : Nat} (h : V_ C K r) (hc : ce_ C C') : V_ C' K r := by
  have hI := hc.I h.1.1
  obtain ⟨⟨a1, a2, a3⟩, a4, a5, a6, a7, a8⟩ := hc
  have hD := h.1.1.2.1
  refine ⟨h.1.of hI a1 a2 a3 rfl rfl rfl rfl (fun d x y => h.1.2.1.2.2.2.2.2.1 d (by omega) y) ⟨fun d x y => ?_, fun l x y => ?_, fun q x y => ?_, ?_, fun k x y => ?_⟩, fun k x y => ?_⟩
  · show K r (0 + d) = C' 16 d ∧ K r (6 + d) = C' 17 d
    rw [(a5 d x (by omega)).1, (a5 d x (by omega)).2]; exact h.1.xs x y
  · show K r (12 + l) = C' 18 l
    rw [a6 l x y]; exact h.1.dl x y
  · show K r (16 + 3 * q) = C' 19 q ∧ K r (16 + 3 * q + 1) = C' 20 q ∧ K r (16 + 3 * q + 2) = C' 21 q
    rw [(a7 q x y).1, (a7 q x y).2.1, (a7 q x y).2.2]; exact h.1.pn x y
  · show K r 31 = C' 15 6
    rw [a4]; exact h.1.sw
  · have y2 : k < C 15 6 := by rw [← a4]; exact y
    show K r (32 + k) = C' 22 k ∧ K r (36 + k) = C' 23 k
    rw [(a8 k x y2).1, (a8 k x y2).2]; exact h.1.st x y2
  · have y2 : k < C 15 6 := by rw [← a4]; exact y
    rw [(a8 k x y2).2, a1]; exact h.2 k x y2
theorem V_.cw {C C' K K' : gj_M} {r r' : Nat} (h : V_ C K r) (hc : ce_ C C') (hk : y_eq K r K' r') : V_ C' K' r' := (h.ce hc).cg c_eq.rf hk
theorem ce_.k {C C' : gj_M} (h : ce_ C C') (kd w a b c : Int) : ce_ (k_in C kd w a b c) (k_in C' kd w a b c) := by
  obtain ⟨⟨a1, a2, a3⟩, a4, a5, a6, a7, a8⟩ := h
  unfold k_in
  split
  · refine ⟨⟨a1, a2, a3⟩, a4, fun d x y => ?_, a6, a7, a8⟩
    have := a5 d x y
    by_cases z : d = w
    · rw [z, gj_u_o (show (16 : Nat) ≠ 17 by decide), gj_u_o (show (16 : Nat) ≠ 17 by decide), gj_u_s, gj_u_s, gj_u_s, gj_u_s]; exact ⟨rfl, rfl⟩
    · rw [gj_u_i z, gj_u_i z, gj_u_i z, gj_u_i z, gj_u_i z, gj_u_i z, gj_u_i z, gj_u_i z]; exact this
  split
  · refine ⟨⟨a1, a2, a3⟩, a4, a5, fun l x y => ?_, a7, a8⟩
    by_cases z : l = w
    · rw [z, gj_u_s, gj_u_s]
    · rw [gj_u_i z, gj_u_i z]; exact a6 l x y
  split
  · refine ⟨⟨a1, a2, a3⟩, a4, a5, a6, fun q x y => ?_, a8⟩
    by_cases z : q = w
    · rw [z]
      refine ⟨?_, ?_, ?_⟩
      · rw [gj_u_o (by decide), gj_u_o (by decide), gj_u_s, gj_u_o (by decide), gj_u_o (by decide), gj_u_s]
      · rw [gj_u_o (by decide), gj_u_s, gj_u_o (by decide), gj_u_s]
      · rw [gj_u_s, gj_u_s]
    · refine ⟨?_, ?_, ?_⟩
      · rw [gj_u_i z, gj_u_i z, gj_u_i z, gj_u_i z, gj_u_i z, gj_u_i z]; exact (a7 q x y).1
      · rw [gj_u_i z, gj_u_i z, gj_u_i z, gj_u_i z, gj_u_i z, gj_u_i z]; exact (a7 q x y).2.1
      · rw [gj_u_i z, gj_u_i z, gj_u_i z, gj_u_i z, gj_u_i z, gj_u_i z]; exact (a7 q x y).2.2
  split
  · refine ⟨⟨a1, a2, a3⟩, ?_, a5, a6, a7, fun k x y => ?_⟩
    · rw [gj_u_s, gj_u_s, a4]
    · have y2 : k < C 15 6 - 1 := y
      exact a8 k x (by omega)
  · refine ⟨⟨a1, a2, a3⟩, ?_, a5, a6, a7, fun k x y => ?_⟩
    · rw [gj_u_s, gj_u_s, a4]
    · have y2 : k < C 15 6 + 1 := y
      rw [gj_u_o (show (22 : Nat) ≠ 15 by decide), gj_u_o (show (22 : Nat) ≠ 15 by decide), gj_u_o (show (22 : Nat) ≠ 23 by decide), gj_u_o (show (22 : Nat) ≠ 23 by decide), gj_u_o (show (23 : Nat) ≠ 15 by decide), gj_u_o (show (23 : Nat) ≠ 15 by decide), a4]
      by_cases z : k = C 15 6
      · rw [z, gj_u_s, gj_u_s, gj_u_s, gj_u_s]; exact ⟨rfl, rfl⟩
      · rw [gj_u_i z, gj_u_i z, gj_u_i z, gj_u_i z, gj_u_i z, gj_u_i z]; exact a8 k x (by omega)
theorem ce_.ok {C C' : gj_M} (h : ce_ C C') {kd w : Int} (hk : k_ok C kd w) : k_ok C' kd w := by
  unfold k_ok at hk ⊢
  rw [h.2.1]
  exact hk
/-- a page of many as the page -/
def pg_ (K : gj_M) (B : Int → Int) (n : Int) : gj_M := fun h i => if h = 78 then B (40 * n + i) else K h i
theorem pg_s {K : gj_M} {B : Int → Int} {n i : Int} : pg_ K B n 78 i = B (40 * n + i) := if_pos rfl
theorem pg_o {K : gj_M} {B : Int → Int} {n : Int} {h : Nat} (hh : h ≠ 78) : pg_ K B n h = K h := funext fun _ => if_neg hh
/-- as told, one has the same reel -/
def kr_ (K K' : gj_M) : Prop := K' 69 4 = K 69 4 ∧ K' 69 5 = K 69 5 ∧ K' 71 = K 71 ∧ K' 72 = K 72
theorem y_eq.pg {K K' : gj_M} {B B' : Int → Int} {n n' : Int} (hk : kr_ K K') (hB : ∀ i : Int, 0 ≤ i → i < 40 → B' (40 * n' + i) = B (40 * n + i)) : y_eq (pg_ K B n) 78 (pg_ K' B' n') 78 := by
  refine ⟨fun i h0 h1 => ?_, ?_, ?_, ?_, ?_⟩
  · rw [pg_s, pg_s]; exact hB i h0 h1
  · rw [pg_o (by decide), pg_o (by decide)]; exact hk.1
  · rw [pg_o (by decide), pg_o (by decide)]; exact hk.2.1
  · rw [pg_o (by decide), pg_o (by decide)]; exact hk.2.2.1
  · rw [pg_o (by decide), pg_o (by decide)]; exact hk.2.2.2
/-- what n acts took: each can be undone, and the page of then is as the setting was -/
def A_ (w B : Int → Int) (K : gj_M) : Nat → gj_M → Prop
  | 0, _ => True
  | n + 1, C => k_ok C (w ((n : Int) * 5)) (w ((n : Int) * 5 + 1)) ∧ V_ (k_in C (w ((n : Int) * 5)) (w ((n : Int) * 5 + 1)) (w ((n : Int) * 5 + 2)) (w ((n : Int) * 5 + 3)) (w ((n : Int) * 5 + 4))) (pg_ K B n) 78 ∧ A_ w B K n (k_in C (w ((n : Int) * 5)) (w ((n : Int) * 5 + 1)) (w ((n : Int) * 5 + 2)) (w ((n : Int) * 5 + 3)) (w ((n : Int) * 5 + 4)))
theorem A_.cg {w w' B B' : Int → Int} {K K' : gj_M} (hk : kr_ K K') : ∀ (n : Nat) {C C' : gj_M}, A_ w B K n C → ce_ C C' → (∀ i : Int, 0 ≤ i → i < 5 * n → w' i = w i) → (∀ i : Int, 0 ≤ i → i < 40 * n → B' i = B i) → A_ w' B' K' n C' := by
  intro n
  induction n with
  | zero => intro C C' _ _ _ _; trivial
  | succ n ih =>
    intro C C' hA hc hw hB
    obtain ⟨h1, h2, h3⟩ := hA
    have e0 := hw ((n : Int) * 5) (by omega) (by omega)
    have e1 := hw ((n : Int) * 5 + 1) (by omega) (by omega)
    have e2 := hw ((n : Int) * 5 + 2) (by omega) (by omega)
    have e3 := hw ((n : Int) * 5 + 3) (by omega) (by omega)
    have e4 := hw ((n : Int) * 5 + 4) (by omega) (by omega)
    unfold A_
    rw [e0, e1, e2, e3, e4]
    exact ⟨hc.ok h1, h2.cw (hc.k _ _ _ _ _) (y_eq.pg hk (fun i a b => hB _ (by omega) (by omega))), ih h3 (hc.k _ _ _ _ _) (fun i a b => hw i a (by omega)) (fun i a b => hB i a (by omega))⟩
theorem A_.sh {w w' B B' : Int → Int} {K K' : gj_M} (hk : kr_ K K') : ∀ (n : Nat) {C : gj_M}, A_ w B K (n + 1) C → (∀ i : Int, 0 ≤ i → i < 5 * n → w' i = w (i + 5)) → (∀ i : Int, 0 ≤ i → i < 40 * n → B' i = B (i + 40)) → A_ w' B' K' n C := by
  intro n
  induction n with
  | zero => intro C _ _ _; trivial
  | succ n ih =>
    intro C hA hw hB
    obtain ⟨h1, h2, h3⟩ := hA
    have e : ∀ j : Int, 0 ≤ j → j < 5 → w' ((n : Int) * 5 + j) = w (((n + 1 : Nat) : Int) * 5 + j) := by
      intro j a b
      rw [hw _ (by omega) (by omega)]
      congr 1
      omega
    have e0 := e 0 (by omega) (by omega)
    rw [Int.add_zero, Int.add_zero] at e0
    unfold A_
    rw [e0, e 1 (by omega) (by omega), e 2 (by omega) (by omega), e 3 (by omega) (by omega), e 4 (by omega) (by omega)]
    exact ⟨h1, h2.cw ce_.rf (y_eq.pg hk (fun i a b => by rw [hB _ (by omega) (by omega)]; congr 1; omega)), ih h3 (fun i a b => hw i a (by omega)) (fun i a b => hB i a (by omega))⟩
/-- one act more, while there is room -/
theorem A_.pt {C C2 K K2 : gj_M} {n : Nat} {kd w a b c : Int} (hA : A_ (C 36) (K 80) K n C) (hn : C 35 0 = (n : Int)) (hV : V_ C K 78) (e36 : ∀ i, C2 36 i = k_pt C kd w a b c 36 i) (e80 : ∀ i, K2 80 i = y_pg K n 40 80 i) (hk : kr_ K K2) (hok : k_ok C2 kd w) (hin : ce_ C (k_in C2 kd w a b c)) : A_ (C2 36) (K2 80) K2 (n + 1) C2 := by
  have f : ∀ i, C2 36 i = if i = (n : Int) * 5 then kd else if i = (n : Int) * 5 + 1 then w else if i = (n : Int) * 5 + 2 then a else if i = (n : Int) * 5 + 3 then b else if i = (n : Int) * 5 + 4 then c else C 36 i := by
    intro i
    rw [e36]
    unfold k_pt
    rw [gj_u_o (by decide), hn]
    by_cases z4 : i = (n : Int) * 5 + 4
    · rw [z4, gj_u_s, if_neg (by omega), if_neg (by omega), if_neg (by omega), if_neg (by omega), if_pos rfl]
    rw [gj_u_i z4]
    by_cases z3 : i = (n : Int) * 5 + 3
    · rw [z3, gj_u_s, if_neg (by omega), if_neg (by omega), if_neg (by omega), if_pos rfl]
    rw [gj_u_i z3]
    by_cases z2 : i = (n : Int) * 5 + 2
    · rw [z2, gj_u_s, if_neg (by omega), if_neg (by omega), if_pos rfl]
    rw [gj_u_i z2]
    by_cases z1 : i = (n : Int) * 5 + 1
    · rw [z1, gj_u_s, if_neg (by omega), if_pos rfl]
    rw [gj_u_i z1]
    by_cases z0 : i = (n : Int) * 5
    · rw [z0, gj_u_s, if_pos rfl]
    rw [gj_u_i z0, if_neg z0, if_neg z1, if_neg z2, if_neg z3, if_neg z4]
  have f0 : C2 36 ((n : Int) * 5) = kd := by rw [f, if_pos rfl]
  have f1 : C2 36 ((n : Int) * 5 + 1) = w := by rw [f, if_neg (by omega), if_pos rfl]
  have f2 : C2 36 ((n : Int) * 5 + 2) = a := by rw [f, if_neg (by omega), if_neg (by omega), if_pos rfl]
  have f3 : C2 36 ((n : Int) * 5 + 3) = b := by rw [f, if_neg (by omega), if_neg (by omega), if_neg (by omega), if_pos rfl]
  have f4 : C2 36 ((n : Int) * 5 + 4) = c := by rw [f, if_neg (by omega), if_neg (by omega), if_neg (by omega), if_neg (by omega), if_pos rfl]
  unfold A_
  rw [f0, f1, f2, f3, f4]
  refine ⟨hok, ?_, ?_⟩
  · refine hV.cw hin ⟨fun i a b => ?_, ?_, ?_, ?_, ?_⟩
    · rw [pg_s, e80, y_pg_i, if_pos (by omega)]
      congr 1
      omega
    · rw [pg_o (by decide)]; exact hk.1
    · rw [pg_o (by decide)]; exact hk.2.1
    · rw [pg_o (by decide)]; exact hk.2.2.1
    · rw [pg_o (by decide)]; exact hk.2.2.2
  · refine A_.cg hk n hA hin (fun i a b => ?_) (fun i a b => ?_)
    · rw [f, if_neg (by omega), if_neg (by omega), if_neg (by omega), if_neg (by omega), if_neg (by omega)]
    · rw [e80, y_pg_i, if_neg (by omega)]
theorem kr_.n1 {K : gj_M} : kr_ K (y_n1 K) := by
  unfold y_n1
  split
  · refine ⟨?_, ?_, ?_, ?_⟩
    · rw [gj_u_i (by decide), y_sh_o (by decide)]
    · rw [gj_u_i (by decide), y_sh_o (by decide)]
    · funext i; rw [gj_u_o (by decide), y_sh_o (by decide)]
    · funext i; rw [gj_u_o (by decide), y_sh_o (by decide)]
  · exact ⟨rfl, rfl, rfl, rfl⟩
theorem kr_.tr {A B C : gj_M} (h : kr_ A B) (g : kr_ B C) : kr_ A C := ⟨g.1.trans h.1, g.2.1.trans h.2.1, g.2.2.1.trans h.2.2.1, g.2.2.2.trans h.2.2.2⟩
theorem kr_.sy {A B : gj_M} (h : kr_ A B) : kr_ B A := ⟨h.1.symm, h.2.1.symm, h.2.2.1.symm, h.2.2.2.symm⟩
/-- one act more -/
theorem A_.ad {C C2 K K2 : gj_M} {n : Nat} {kd w a b c : Int} (hn14 : n ≤ 14) (hA : A_ (C 36) (K 80) K n C) (hn : C 35 0 = (n : Int)) (hk18 : K 69 18 = (n : Int)) (hV : V_ C K 78) (e36 : ∀ i, C2 36 i = k_ad C kd w a b c 36 i) (e35 : C2 35 0 = k_ad C kd w a b c 35 0) (e80 : ∀ i, K2 80 i = y_nt K 80 i) (e18 : K2 69 18 = y_nt K 69 18) (hk : kr_ K K2) (hok : k_ok C2 kd w) (hin : ce_ C (k_in C2 kd w a b c)) : ∃ n2 : Nat, n2 ≤ 14 ∧ C2 35 0 = (n2 : Int) ∧ K2 69 18 = (n2 : Int) ∧ A_ (C2 36) (K2 80) K2 n2 C2 := by
  have t80 : ∀ i, y_nt K 80 i = y_pg (y_n1 K) (y_n1 K 69 18) 40 80 i := fun i => by unfold y_nt; rw [gj_u_o (by decide)]
  have t18 : y_nt K 69 18 = y_n1 K 69 18 + 1 := by unfold y_nt; rw [gj_u_s]
  by_cases q : n < 14
  · have k1 : y_n1 K = K := if_neg (by omega)
    have c1 : k_ad C kd w a b c = k_pt C kd w a b c := if_pos (by omega)
    rw [k1] at t80 t18
    rw [c1] at e36 e35
    refine ⟨n + 1, by omega, ?_, ?_, A_.pt hA hn hV e36 (fun i => by rw [e80, t80, hk18]) hk hok hin⟩
    · rw [e35]; unfold k_pt; rw [gj_u_s, hn]; omega
    · rw [e18, t18, hk18]; omega
  · have n14 : n = 14 := by omega
    subst n14
    have k1 : y_n1 K = gj_u (y_sh K 520) 69 18 13 := if_pos (by omega)
    have c1 : k_ad C kd w a b c = k_pt (k_fg C) kd w a b c := if_neg (by omega)
    have g13 : y_n1 K 69 18 = 13 := by rw [k1, gj_u_s]
    have hce : ce_ C (k_fg C) := c_eq.ce (fun h hh => by
      funext i
      unfold k_fg
      rw [gj_u_o (fun z => by subst z; revert hh; decide), gj_cp_o (fun z => by subst z; revert hh; decide)])
    have hA13 : A_ (k_fg C 36) (y_n1 K 80) (y_n1 K) 13 (k_fg C) := by
      have h1 := A_.sh (w' := k_fg C 36) (B' := y_n1 K 80) (kr_.n1 (K := K)) 13 hA (fun i a b => ?_) (fun i a b => ?_)
      · exact A_.cg ⟨rfl, rfl, rfl, rfl⟩ 13 h1 hce (fun _ _ _ => rfl) (fun _ _ _ => rfl)
      · unfold k_fg
        rw [gj_u_o (by decide)]
        unfold gj_cp
        rw [if_pos ⟨rfl, by omega, by omega⟩]
        congr 1
        omega
      · rw [k1, gj_u_o (by decide), y_sh_i, if_pos (by omega)]
    have hV2 : V_ (k_fg C) (y_n1 K) 78 := by
      refine hV.cw hce ⟨fun i a b => ?_, kr_.n1.1, kr_.n1.2.1, kr_.n1.2.2.1, kr_.n1.2.2.2⟩
      rw [k1, gj_u_o (by decide), y_sh_o (by decide)]
    have hin2 : ce_ (k_fg C) (k_in C2 kd w a b c) := by
      have hs : ce_ (k_fg C) C := c_eq.ce (fun h hh => by
        funext i
        unfold k_fg
        rw [gj_u_o (fun z => by subst z; revert hh; decide), gj_cp_o (fun z => by subst z; revert hh; decide)])
      exact hs.tr hin
    refine ⟨14, Nat.le_refl _, ?_, ?_, A_.pt (n := 13) hA13 rfl hV2 (fun i => by rw [e36, c1]) (fun i => by rw [e80, t80, g13]; rfl) (kr_.n1.sy.tr hk) hok hin2⟩
    · rw [e35, c1]; unfold k_pt; rw [gj_u_s]; rfl
    · rw [e18, t18, g13]; rfl
