def gj_sm (M M' : gj_M) (h : Nat) : gj_H → Prop
  | .inl o => ∀ i : Nat, (o.2[i]? = some 0 → M h i = M' h i) ∧ (o.2[i]? = some 1 → M (h + 5000) i = M' (h + 5000) i)
  | .inr a => ∀ i : Nat, i < a.2 → M h i = M' h i
theorem gj_arrV {cI : ClassId} {N : Nat} {f g : Nat → Value} (h : ∀ j, j < N → f j = g j) : arrV cI N f = arrV cI N g := by
  unfold arrV
  congr 1
  apply Array.ext_getElem?
  intro i
  by_cases hi : i < N
  · simp [hi, h i hi]
  · simp [hi]
/-- only what lies within the cells is seen -/
theorem gj_norm {xt : Nat × (Nat → Int)} {Y : gj_Y} {S : List gj_H} {k n pc : Nat} {lv : List (Option gj_V)} {st : List gj_V} {M : gj_M} {Q : Option gj_V → List gj_H → gj_M → Prop} (M' : gj_M) (hM : ∀ (h : Nat) (x : gj_H), S[h]? = some x → gj_sm M M' h x) (hR' : gj_R M → gj_R M') (kk : gj_G xt Y S k n pc lv st M' Q) : gj_G xt Y S k n pc lv st M Q := by
  intro p l e s m args below meth c H locs ls ad cA cZ D A Z hC hW hL hR
  obtain ⟨hP, hD, hK, hS, hRm, hSl⟩ := hW
  refine kk p l e s m args below meth c H locs ls ad cA cZ D A Z hC ⟨?_, ?_, hK, hS, hR' hRm, hSl⟩ hL hR
  · intro j q hq
    rw [gj_w_get] at hq
    cases hx : S[j]? with
    | none => rw [hx] at hq; cases hq
    | some x =>
      rw [hx] at hq
      simp only [Option.map_some, Nat.zero_add, Option.some.injEq] at hq
      subst hq
      have h0 := hP j _ (gj_w_at hx)
      match x, hx, h0 with
      | .inl o, hx, h0 =>
        have e1 : gj_e ad cA cZ M' j (.inl o) = gj_e ad cA cZ M j (.inl o) := by
          show Sum.inr (o.1, gj_fs ad M' j 0 o.2) = Sum.inr (o.1, gj_fs ad M j 0 o.2)
          congr 2
          apply List.ext_getElem?
          intro i
          rw [gj_fs_get, gj_fs_get]
          cases hf : o.2[i]? with
          | none => rfl
          | some f =>
            have hi := hM j _ hx i
            simp only [Option.map_some, Nat.zero_add, Option.some.injEq]
            match f, hf with
            | 0, hf => simp only [gj_fv]; rw [hi.1 hf]
            | 1, hf => simp only [gj_fv]; rw [hi.2 hf]
            | 2, _ => rfl
            | g + 3, _ => rfl
        rw [e1]
        exact h0
      | .inr a, hx, h0 =>
        show H[ad j]? = some (vp_cell _ _)
        have h1 : H[ad j]? = some (vp_cell (cond a.1 cZ cA) (a.2, .inl (fun i : Nat => Int32.ofInt (M j i)))) := h0
        rw [h1, vp_cell_i, vp_cell_i]
        congr 1
        exact gj_arrV (fun i hi => by rw [hM j _ hx i hi])
  · refine ⟨fun i j p' q' hp hq he => ?_, fun j q hq => ?_⟩
    · rw [gj_w_get] at hp hq
      cases hx : S[i]? with
      | none => rw [hx] at hp; cases hp
      | some x =>
        cases hy : S[j]? with
        | none => rw [hy] at hq; cases hq
        | some y =>
          rw [hx] at hp
          rw [hy] at hq
          simp only [Option.map_some, Nat.zero_add, Option.some.injEq] at hp hq
          subst hp
          subst hq
          exact hD.1 i j _ _ (gj_w_at hx) (gj_w_at hy) he
    · rw [gj_w_get] at hq
      cases hx : S[j]? with
      | none => rw [hx] at hq; cases hq
      | some x =>
        rw [hx] at hq
        simp only [Option.map_some, Nat.zero_add, Option.some.injEq] at hq
        subst hq
        exact hD.2 j (ad j, gj_e ad cA cZ M j x) (gj_w_at hx)
theorem e_tp : ∀ k : Nat, k ≤ 4 → 1 ≤ (10000 : Int) ^ k ∧ (10000 : Int) ^ k ≤ 10000000000000000 := by decide
theorem e_tp_s (k : Nat) : (10000 : Int) ^ k * 10000 = 10000 ^ (k + 1) := (Int.pow_succ 10000 k).symm
theorem e_tp_d (k : Nat) : (10000 : Int) ^ (k + 1) / 10000 = 10000 ^ k := by
  rw [Int.pow_succ]
  exact Int.mul_ediv_cancel _ (by decide)
def j_hs : List Nat := [15, 16, 17, 18, 33, 34]
theorem gj_cp_o {M : gj_M} {a b h : Nat} {sp dp n i : Int} (hne : h ≠ b) : gj_cp M a b sp dp n h i = M h i := if_neg (fun q => hne q.1)
theorem gj_cp_s {M : gj_M} {a b : Nat} {n i : Int} (h0 : 0 ≤ i) (hn : i < n) : gj_cp M a b 0 0 n b i = M a i := by
  unfold gj_cp
  rw [if_pos ⟨rfl, by omega, by omega⟩]
  congr 1
  omega
theorem bc_41_15_1 {M : gj_M} {i : Int} (h0 : 0 ≤ i) (hn : i < 6) : b_cp M 41 15 42 i = M 16 i := by
  unfold b_cp
  show gj_u _ 41 6 _ 42 i = _
  rw [gj_u_o (by decide), gj_cp_o (by decide), gj_cp_o (by decide), gj_cp_o (by decide), gj_cp_o (by decide), gj_cp_o (by decide), gj_cp_o (by decide), gj_cp_o (by decide), gj_cp_s h0 hn]
theorem bc_41_15_2 {M : gj_M} {i : Int} (h0 : 0 ≤ i) (hn : i < 6) : b_cp M 41 15 43 i = M 17 i := by
  unfold b_cp
  show gj_u _ 41 6 _ 43 i = _
  rw [gj_u_o (by decide), gj_cp_o (by decide), gj_cp_o (by decide), gj_cp_o (by decide), gj_cp_o (by decide), gj_cp_o (by decide), gj_cp_o (by decide), gj_cp_s h0 hn, gj_cp_o (by decide)]
theorem bc_41_15_3 {M : gj_M} {i : Int} (h0 : 0 ≤ i) (hn : i < 4) : b_cp M 41 15 44 i = M 18 i := by
  unfold b_cp
  show gj_u _ 41 6 _ 44 i = _
  rw [gj_u_o (by decide), gj_cp_o (by decide), gj_cp_o (by decide), gj_cp_o (by decide), gj_cp_o (by decide), gj_cp_o (by decide), gj_cp_s h0 hn, gj_cp_o (by decide), gj_cp_o (by decide)]
theorem bc_41_15_4 {M : gj_M} {i : Int} (h0 : 0 ≤ i) (hn : i < 5) : b_cp M 41 15 45 i = M 19 i := by
  unfold b_cp
  show gj_u _ 41 6 _ 45 i = _
  rw [gj_u_o (by decide), gj_cp_o (by decide), gj_cp_o (by decide), gj_cp_o (by decide), gj_cp_o (by decide), gj_cp_s h0 hn, gj_cp_o (by decide), gj_cp_o (by decide), gj_cp_o (by decide)]
theorem bc_41_15_5 {M : gj_M} {i : Int} (h0 : 0 ≤ i) (hn : i < 5) : b_cp M 41 15 46 i = M 20 i := by
  unfold b_cp
  show gj_u _ 41 6 _ 46 i = _
  rw [gj_u_o (by decide), gj_cp_o (by decide), gj_cp_o (by decide), gj_cp_o (by decide), gj_cp_s h0 hn, gj_cp_o (by decide), gj_cp_o (by decide), gj_cp_o (by decide), gj_cp_o (by decide)]
theorem bc_41_15_6 {M : gj_M} {i : Int} (h0 : 0 ≤ i) (hn : i < 5) : b_cp M 41 15 47 i = M 21 i := by
  unfold b_cp
  show gj_u _ 41 6 _ 47 i = _
  rw [gj_u_o (by decide), gj_cp_o (by decide), gj_cp_o (by decide), gj_cp_s h0 hn, gj_cp_o (by decide), gj_cp_o (by decide), gj_cp_o (by decide), gj_cp_o (by decide), gj_cp_o (by decide)]
theorem bc_41_15_7 {M : gj_M} {i : Int} (h0 : 0 ≤ i) (hn : i < 4) : b_cp M 41 15 48 i = M 22 i := by
  unfold b_cp
  show gj_u _ 41 6 _ 48 i = _
  rw [gj_u_o (by decide), gj_cp_o (by decide), gj_cp_s h0 hn, gj_cp_o (by decide), gj_cp_o (by decide), gj_cp_o (by decide), gj_cp_o (by decide), gj_cp_o (by decide), gj_cp_o (by decide)]
theorem bc_41_15_8 {M : gj_M} {i : Int} (h0 : 0 ≤ i) (hn : i < 4) : b_cp M 41 15 49 i = M 23 i := by
  unfold b_cp
  show gj_u _ 41 6 _ 49 i = _
  rw [gj_u_o (by decide), gj_cp_s h0 hn, gj_cp_o (by decide), gj_cp_o (by decide), gj_cp_o (by decide), gj_cp_o (by decide), gj_cp_o (by decide), gj_cp_o (by decide), gj_cp_o (by decide)]
theorem bc_15_41_1 {M : gj_M} {i : Int} (h0 : 0 ≤ i) (hn : i < 6) : b_cp M 15 41 16 i = M 42 i := by
  unfold b_cp
  show gj_u _ 15 6 _ 16 i = _
  rw [gj_u_o (by decide), gj_cp_o (by decide), gj_cp_o (by decide), gj_cp_o (by decide), gj_cp_o (by decide), gj_cp_o (by decide), gj_cp_o (by decide), gj_cp_o (by decide), gj_cp_s h0 hn]
theorem bc_15_41_2 {M : gj_M} {i : Int} (h0 : 0 ≤ i) (hn : i < 6) : b_cp M 15 41 17 i = M 43 i := by
  unfold b_cp
  show gj_u _ 15 6 _ 17 i = _
  rw [gj_u_o (by decide), gj_cp_o (by decide), gj_cp_o (by decide), gj_cp_o (by decide), gj_cp_o (by decide), gj_cp_o (by decide), gj_cp_o (by decide), gj_cp_s h0 hn, gj_cp_o (by decide)]
theorem bc_15_41_3 {M : gj_M} {i : Int} (h0 : 0 ≤ i) (hn : i < 4) : b_cp M 15 41 18 i = M 44 i := by
  unfold b_cp
  show gj_u _ 15 6 _ 18 i = _
  rw [gj_u_o (by decide), gj_cp_o (by decide), gj_cp_o (by decide), gj_cp_o (by decide), gj_cp_o (by decide), gj_cp_o (by decide), gj_cp_s h0 hn, gj_cp_o (by decide), gj_cp_o (by decide)]
theorem bc_15_41_4 {M : gj_M} {i : Int} (h0 : 0 ≤ i) (hn : i < 5) : b_cp M 15 41 19 i = M 45 i := by
  unfold b_cp
  show gj_u _ 15 6 _ 19 i = _
  rw [gj_u_o (by decide), gj_cp_o (by decide), gj_cp_o (by decide), gj_cp_o (by decide), gj_cp_o (by decide), gj_cp_s h0 hn, gj_cp_o (by decide), gj_cp_o (by decide), gj_cp_o (by decide)]
theorem bc_15_41_5 {M : gj_M} {i : Int} (h0 : 0 ≤ i) (hn : i < 5) : b_cp M 15 41 20 i = M 46 i := by
  unfold b_cp
  show gj_u _ 15 6 _ 20 i = _
  rw [gj_u_o (by decide), gj_cp_o (by decide), gj_cp_o (by decide), gj_cp_o (by decide), gj_cp_s h0 hn, gj_cp_o (by decide), gj_cp_o (by decide), gj_cp_o (by decide), gj_cp_o (by decide)]
theorem bc_15_41_6 {M : gj_M} {i : Int} (h0 : 0 ≤ i) (hn : i < 5) : b_cp M 15 41 21 i = M 47 i := by
  unfold b_cp
  show gj_u _ 15 6 _ 21 i = _
  rw [gj_u_o (by decide), gj_cp_o (by decide), gj_cp_o (by decide), gj_cp_s h0 hn, gj_cp_o (by decide), gj_cp_o (by decide), gj_cp_o (by decide), gj_cp_o (by decide), gj_cp_o (by decide)]
theorem bc_15_41_7 {M : gj_M} {i : Int} (h0 : 0 ≤ i) (hn : i < 4) : b_cp M 15 41 22 i = M 48 i := by
  unfold b_cp
  show gj_u _ 15 6 _ 22 i = _
  rw [gj_u_o (by decide), gj_cp_o (by decide), gj_cp_s h0 hn, gj_cp_o (by decide), gj_cp_o (by decide), gj_cp_o (by decide), gj_cp_o (by decide), gj_cp_o (by decide), gj_cp_o (by decide)]
theorem bc_15_41_8 {M : gj_M} {i : Int} (h0 : 0 ≤ i) (hn : i < 4) : b_cp M 15 41 23 i = M 49 i := by
  unfold b_cp
  show gj_u _ 15 6 _ 23 i = _
  rw [gj_u_o (by decide), gj_cp_s h0 hn, gj_cp_o (by decide), gj_cp_o (by decide), gj_cp_o (by decide), gj_cp_o (by decide), gj_cp_o (by decide), gj_cp_o (by decide), gj_cp_o (by decide)]
theorem bc_50_15_1 {M : gj_M} {i : Int} (h0 : 0 ≤ i) (hn : i < 6) : b_cp M 50 15 51 i = M 16 i := by
  unfold b_cp
  show gj_u _ 50 6 _ 51 i = _
  rw [gj_u_o (by decide), gj_cp_o (by decide), gj_cp_o (by decide), gj_cp_o (by decide), gj_cp_o (by decide), gj_cp_o (by decide), gj_cp_o (by decide), gj_cp_o (by decide), gj_cp_s h0 hn]
theorem bc_50_15_2 {M : gj_M} {i : Int} (h0 : 0 ≤ i) (hn : i < 6) : b_cp M 50 15 52 i = M 17 i := by
  unfold b_cp
  show gj_u _ 50 6 _ 52 i = _
  rw [gj_u_o (by decide), gj_cp_o (by decide), gj_cp_o (by decide), gj_cp_o (by decide), gj_cp_o (by decide), gj_cp_o (by decide), gj_cp_o (by decide), gj_cp_s h0 hn, gj_cp_o (by decide)]
theorem bc_50_15_3 {M : gj_M} {i : Int} (h0 : 0 ≤ i) (hn : i < 4) : b_cp M 50 15 53 i = M 18 i := by
  unfold b_cp
  show gj_u _ 50 6 _ 53 i = _
  rw [gj_u_o (by decide), gj_cp_o (by decide), gj_cp_o (by decide), gj_cp_o (by decide), gj_cp_o (by decide), gj_cp_o (by decide), gj_cp_s h0 hn, gj_cp_o (by decide), gj_cp_o (by decide)]
theorem bc_50_15_4 {M : gj_M} {i : Int} (h0 : 0 ≤ i) (hn : i < 5) : b_cp M 50 15 54 i = M 19 i := by
  unfold b_cp
  show gj_u _ 50 6 _ 54 i = _
  rw [gj_u_o (by decide), gj_cp_o (by decide), gj_cp_o (by decide), gj_cp_o (by decide), gj_cp_o (by decide), gj_cp_s h0 hn, gj_cp_o (by decide), gj_cp_o (by decide), gj_cp_o (by decide)]
theorem bc_50_15_5 {M : gj_M} {i : Int} (h0 : 0 ≤ i) (hn : i < 5) : b_cp M 50 15 55 i = M 20 i := by
  unfold b_cp
  show gj_u _ 50 6 _ 55 i = _
  rw [gj_u_o (by decide), gj_cp_o (by decide), gj_cp_o (by decide), gj_cp_o (by decide), gj_cp_s h0 hn, gj_cp_o (by decide), gj_cp_o (by decide), gj_cp_o (by decide), gj_cp_o (by decide)]
theorem bc_50_15_6 {M : gj_M} {i : Int} (h0 : 0 ≤ i) (hn : i < 5) : b_cp M 50 15 56 i = M 21 i := by
  unfold b_cp
  show gj_u _ 50 6 _ 56 i = _
  rw [gj_u_o (by decide), gj_cp_o (by decide), gj_cp_o (by decide), gj_cp_s h0 hn, gj_cp_o (by decide), gj_cp_o (by decide), gj_cp_o (by decide), gj_cp_o (by decide), gj_cp_o (by decide)]
theorem bc_50_15_7 {M : gj_M} {i : Int} (h0 : 0 ≤ i) (hn : i < 4) : b_cp M 50 15 57 i = M 22 i := by
  unfold b_cp
  show gj_u _ 50 6 _ 57 i = _
  rw [gj_u_o (by decide), gj_cp_o (by decide), gj_cp_s h0 hn, gj_cp_o (by decide), gj_cp_o (by decide), gj_cp_o (by decide), gj_cp_o (by decide), gj_cp_o (by decide), gj_cp_o (by decide)]
theorem bc_50_15_8 {M : gj_M} {i : Int} (h0 : 0 ≤ i) (hn : i < 4) : b_cp M 50 15 58 i = M 23 i := by
  unfold b_cp
  show gj_u _ 50 6 _ 58 i = _
  rw [gj_u_o (by decide), gj_cp_s h0 hn, gj_cp_o (by decide), gj_cp_o (by decide), gj_cp_o (by decide), gj_cp_o (by decide), gj_cp_o (by decide), gj_cp_o (by decide), gj_cp_o (by decide)]
theorem bc_59_15_1 {M : gj_M} {i : Int} (h0 : 0 ≤ i) (hn : i < 6) : b_cp M 59 15 60 i = M 16 i := by
  unfold b_cp
  show gj_u _ 59 6 _ 60 i = _
  rw [gj_u_o (by decide), gj_cp_o (by decide), gj_cp_o (by decide), gj_cp_o (by decide), gj_cp_o (by decide), gj_cp_o (by decide), gj_cp_o (by decide), gj_cp_o (by decide), gj_cp_s h0 hn]
theorem bc_59_15_2 {M : gj_M} {i : Int} (h0 : 0 ≤ i) (hn : i < 6) : b_cp M 59 15 61 i = M 17 i := by
  unfold b_cp
  show gj_u _ 59 6 _ 61 i = _
  rw [gj_u_o (by decide), gj_cp_o (by decide), gj_cp_o (by decide), gj_cp_o (by decide), gj_cp_o (by decide), gj_cp_o (by decide), gj_cp_o (by decide), gj_cp_s h0 hn, gj_cp_o (by decide)]
theorem bc_59_15_3 {M : gj_M} {i : Int} (h0 : 0 ≤ i) (hn : i < 4) : b_cp M 59 15 62 i = M 18 i := by
  unfold b_cp
  show gj_u _ 59 6 _ 62 i = _
  rw [gj_u_o (by decide), gj_cp_o (by decide), gj_cp_o (by decide), gj_cp_o (by decide), gj_cp_o (by decide), gj_cp_o (by decide), gj_cp_s h0 hn, gj_cp_o (by decide), gj_cp_o (by decide)]
theorem bc_59_15_4 {M : gj_M} {i : Int} (h0 : 0 ≤ i) (hn : i < 5) : b_cp M 59 15 63 i = M 19 i := by
  unfold b_cp
  show gj_u _ 59 6 _ 63 i = _
  rw [gj_u_o (by decide), gj_cp_o (by decide), gj_cp_o (by decide), gj_cp_o (by decide), gj_cp_o (by decide), gj_cp_s h0 hn, gj_cp_o (by decide), gj_cp_o (by decide), gj_cp_o (by decide)]
theorem bc_59_15_5 {M : gj_M} {i : Int} (h0 : 0 ≤ i) (hn : i < 5) : b_cp M 59 15 64 i = M 20 i := by
  unfold b_cp
  show gj_u _ 59 6 _ 64 i = _
  rw [gj_u_o (by decide), gj_cp_o (by decide), gj_cp_o (by decide), gj_cp_o (by decide), gj_cp_s h0 hn, gj_cp_o (by decide), gj_cp_o (by decide), gj_cp_o (by decide), gj_cp_o (by decide)]
theorem bc_59_15_6 {M : gj_M} {i : Int} (h0 : 0 ≤ i) (hn : i < 5) : b_cp M 59 15 65 i = M 21 i := by
  unfold b_cp
  show gj_u _ 59 6 _ 65 i = _
  rw [gj_u_o (by decide), gj_cp_o (by decide), gj_cp_o (by decide), gj_cp_s h0 hn, gj_cp_o (by decide), gj_cp_o (by decide), gj_cp_o (by decide), gj_cp_o (by decide), gj_cp_o (by decide)]
theorem bc_59_15_7 {M : gj_M} {i : Int} (h0 : 0 ≤ i) (hn : i < 4) : b_cp M 59 15 66 i = M 22 i := by
  unfold b_cp
  show gj_u _ 59 6 _ 66 i = _
  rw [gj_u_o (by decide), gj_cp_o (by decide), gj_cp_s h0 hn, gj_cp_o (by decide), gj_cp_o (by decide), gj_cp_o (by decide), gj_cp_o (by decide), gj_cp_o (by decide), gj_cp_o (by decide)]
theorem bc_59_15_8 {M : gj_M} {i : Int} (h0 : 0 ≤ i) (hn : i < 4) : b_cp M 59 15 67 i = M 23 i := by
  unfold b_cp
  show gj_u _ 59 6 _ 67 i = _
  rw [gj_u_o (by decide), gj_cp_s h0 hn, gj_cp_o (by decide), gj_cp_o (by decide), gj_cp_o (by decide), gj_cp_o (by decide), gj_cp_o (by decide), gj_cp_o (by decide), gj_cp_o (by decide)]
theorem bc_15_50_1 {M : gj_M} {i : Int} (h0 : 0 ≤ i) (hn : i < 6) : b_cp M 15 50 16 i = M 51 i := by
  unfold b_cp
  show gj_u _ 15 6 _ 16 i = _
  rw [gj_u_o (by decide), gj_cp_o (by decide), gj_cp_o (by decide), gj_cp_o (by decide), gj_cp_o (by decide), gj_cp_o (by decide), gj_cp_o (by decide), gj_cp_o (by decide), gj_cp_s h0 hn]
theorem bc_15_50_2 {M : gj_M} {i : Int} (h0 : 0 ≤ i) (hn : i < 6) : b_cp M 15 50 17 i = M 52 i := by
  unfold b_cp
  show gj_u _ 15 6 _ 17 i = _
  rw [gj_u_o (by decide), gj_cp_o (by decide), gj_cp_o (by decide), gj_cp_o (by decide), gj_cp_o (by decide), gj_cp_o (by decide), gj_cp_o (by decide), gj_cp_s h0 hn, gj_cp_o (by decide)]
theorem bc_15_50_3 {M : gj_M} {i : Int} (h0 : 0 ≤ i) (hn : i < 4) : b_cp M 15 50 18 i = M 53 i := by
  unfold b_cp
  show gj_u _ 15 6 _ 18 i = _
  rw [gj_u_o (by decide), gj_cp_o (by decide), gj_cp_o (by decide), gj_cp_o (by decide), gj_cp_o (by decide), gj_cp_o (by decide), gj_cp_s h0 hn, gj_cp_o (by decide), gj_cp_o (by decide)]
theorem bc_15_50_4 {M : gj_M} {i : Int} (h0 : 0 ≤ i) (hn : i < 5) : b_cp M 15 50 19 i = M 54 i := by
  unfold b_cp
  show gj_u _ 15 6 _ 19 i = _
  rw [gj_u_o (by decide), gj_cp_o (by decide), gj_cp_o (by decide), gj_cp_o (by decide), gj_cp_o (by decide), gj_cp_s h0 hn, gj_cp_o (by decide), gj_cp_o (by decide), gj_cp_o (by decide)]
theorem bc_15_50_5 {M : gj_M} {i : Int} (h0 : 0 ≤ i) (hn : i < 5) : b_cp M 15 50 20 i = M 55 i := by
  unfold b_cp
  show gj_u _ 15 6 _ 20 i = _
  rw [gj_u_o (by decide), gj_cp_o (by decide), gj_cp_o (by decide), gj_cp_o (by decide), gj_cp_s h0 hn, gj_cp_o (by decide), gj_cp_o (by decide), gj_cp_o (by decide), gj_cp_o (by decide)]
theorem bc_15_50_6 {M : gj_M} {i : Int} (h0 : 0 ≤ i) (hn : i < 5) : b_cp M 15 50 21 i = M 56 i := by
  unfold b_cp
  show gj_u _ 15 6 _ 21 i = _
  rw [gj_u_o (by decide), gj_cp_o (by decide), gj_cp_o (by decide), gj_cp_s h0 hn, gj_cp_o (by decide), gj_cp_o (by decide), gj_cp_o (by decide), gj_cp_o (by decide), gj_cp_o (by decide)]
theorem bc_15_50_7 {M : gj_M} {i : Int} (h0 : 0 ≤ i) (hn : i < 4) : b_cp M 15 50 22 i = M 57 i := by
  unfold b_cp
  show gj_u _ 15 6 _ 22 i = _
  rw [gj_u_o (by decide), gj_cp_o (by decide), gj_cp_s h0 hn, gj_cp_o (by decide), gj_cp_o (by decide), gj_cp_o (by decide), gj_cp_o (by decide), gj_cp_o (by decide), gj_cp_o (by decide)]
theorem bc_15_50_8 {M : gj_M} {i : Int} (h0 : 0 ≤ i) (hn : i < 4) : b_cp M 15 50 23 i = M 58 i := by
  unfold b_cp
  show gj_u _ 15 6 _ 23 i = _
  rw [gj_u_o (by decide), gj_cp_s h0 hn, gj_cp_o (by decide), gj_cp_o (by decide), gj_cp_o (by decide), gj_cp_o (by decide), gj_cp_o (by decide), gj_cp_o (by decide), gj_cp_o (by decide)]
theorem bc_15_59_1 {M : gj_M} {i : Int} (h0 : 0 ≤ i) (hn : i < 6) : b_cp M 15 59 16 i = M 60 i := by
  unfold b_cp
  show gj_u _ 15 6 _ 16 i = _
  rw [gj_u_o (by decide), gj_cp_o (by decide), gj_cp_o (by decide), gj_cp_o (by decide), gj_cp_o (by decide), gj_cp_o (by decide), gj_cp_o (by decide), gj_cp_o (by decide), gj_cp_s h0 hn]
theorem bc_15_59_2 {M : gj_M} {i : Int} (h0 : 0 ≤ i) (hn : i < 6) : b_cp M 15 59 17 i = M 61 i := by
  unfold b_cp
  show gj_u _ 15 6 _ 17 i = _
  rw [gj_u_o (by decide), gj_cp_o (by decide), gj_cp_o (by decide), gj_cp_o (by decide), gj_cp_o (by decide), gj_cp_o (by decide), gj_cp_o (by decide), gj_cp_s h0 hn, gj_cp_o (by decide)]
theorem bc_15_59_3 {M : gj_M} {i : Int} (h0 : 0 ≤ i) (hn : i < 4) : b_cp M 15 59 18 i = M 62 i := by
  unfold b_cp
  show gj_u _ 15 6 _ 18 i = _
  rw [gj_u_o (by decide), gj_cp_o (by decide), gj_cp_o (by decide), gj_cp_o (by decide), gj_cp_o (by decide), gj_cp_o (by decide), gj_cp_s h0 hn, gj_cp_o (by decide), gj_cp_o (by decide)]
theorem bc_15_59_4 {M : gj_M} {i : Int} (h0 : 0 ≤ i) (hn : i < 5) : b_cp M 15 59 19 i = M 63 i := by
  unfold b_cp
  show gj_u _ 15 6 _ 19 i = _
  rw [gj_u_o (by decide), gj_cp_o (by decide), gj_cp_o (by decide), gj_cp_o (by decide), gj_cp_o (by decide), gj_cp_s h0 hn, gj_cp_o (by decide), gj_cp_o (by decide), gj_cp_o (by decide)]
theorem bc_15_59_5 {M : gj_M} {i : Int} (h0 : 0 ≤ i) (hn : i < 5) : b_cp M 15 59 20 i = M 64 i := by
  unfold b_cp
  show gj_u _ 15 6 _ 20 i = _
  rw [gj_u_o (by decide), gj_cp_o (by decide), gj_cp_o (by decide), gj_cp_o (by decide), gj_cp_s h0 hn, gj_cp_o (by decide), gj_cp_o (by decide), gj_cp_o (by decide), gj_cp_o (by decide)]
theorem bc_15_59_6 {M : gj_M} {i : Int} (h0 : 0 ≤ i) (hn : i < 5) : b_cp M 15 59 21 i = M 65 i := by
  unfold b_cp
  show gj_u _ 15 6 _ 21 i = _
  rw [gj_u_o (by decide), gj_cp_o (by decide), gj_cp_o (by decide), gj_cp_s h0 hn, gj_cp_o (by decide), gj_cp_o (by decide), gj_cp_o (by decide), gj_cp_o (by decide), gj_cp_o (by decide)]
theorem bc_15_59_7 {M : gj_M} {i : Int} (h0 : 0 ≤ i) (hn : i < 4) : b_cp M 15 59 22 i = M 66 i := by
  unfold b_cp
  show gj_u _ 15 6 _ 22 i = _
  rw [gj_u_o (by decide), gj_cp_o (by decide), gj_cp_s h0 hn, gj_cp_o (by decide), gj_cp_o (by decide), gj_cp_o (by decide), gj_cp_o (by decide), gj_cp_o (by decide), gj_cp_o (by decide)]
theorem bc_15_59_8 {M : gj_M} {i : Int} (h0 : 0 ≤ i) (hn : i < 4) : b_cp M 15 59 23 i = M 67 i := by
  unfold b_cp
  show gj_u _ 15 6 _ 23 i = _
  rw [gj_u_o (by decide), gj_cp_s h0 hn, gj_cp_o (by decide), gj_cp_o (by decide), gj_cp_o (by decide), gj_cp_o (by decide), gj_cp_o (by decide), gj_cp_o (by decide), gj_cp_o (by decide)]
