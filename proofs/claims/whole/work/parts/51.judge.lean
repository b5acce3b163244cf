set_option maxRecDepth 100000 in
set_option maxHeartbeats 4000000 in
theorem s7_ftb_l {xt : Nat × (Nat → Int)} {M : gj_M} {nn row : Int} (hn : 1 ≤ nn ∧ nn ≤ 4) (hrow : 0 ≤ row ∧ row ≤ 10000000000000000) : ∀ (d i : Nat) (Mp M1 : gj_M) (u : Int), (i : Int) + d = nn → (∀ e : Nat, d = e + 1 → u = 10000 ^ e) → c_eq Mp M1 → c_I Mp → gj_E j_hs M M1 → gj_G xt Y7_firstThatCanNotBe gS 0 0 29 [some (gR 0), some (gI nn), some (gL row), none, some (gL u), none, some (gI (i : Int))] [] M1 (fun r S2 M2 => S2 = gS ∧ r = some (gI (j_run Mp row d i)) ∧ gj_E j_hs M M2) := by
  intro d
  induction d with
  | zero =>
    intro i Mp M1 u hk hu hc hI hE
    refine gj_iload 31 dX7_firstThatCanNotBe_29 rfl rfl ?_
    refine gj_iload_n 32 dX7_firstThatCanNotBe_31 rfl rfl ?_
    refine gj_icmp_ge 75 35 dX7_firstThatCanNotBe_32 (by decide) rfl (by omega) (by omega) (fun c_32 => ?_) (fun c_32 => absurd c_32 (by omega))
    refine gj_bipush 77 dX7_firstThatCanNotBe_75 rfl (by decide) ?_
    refine gj_iret dX7_firstThatCanNotBe_77 rfl ⟨Nat.zero_le _, Nat.zero_le _⟩ ?_
    exact ⟨rfl, rfl, hE⟩
  | succ d ih =>
    intro i Mp M1 u hk hu hc hI hE
    have hu2 := hu d rfl
    subst hu2
    refine gj_iload 31 dX7_firstThatCanNotBe_29 rfl rfl ?_
    refine gj_iload_n 32 dX7_firstThatCanNotBe_31 rfl rfl ?_
    refine gj_icmp_ge 75 35 dX7_firstThatCanNotBe_32 (by decide) rfl (by omega) (by omega) (fun c_32 => absurd c_32 (by omega)) (fun c_32 => ?_)
    have htp := e_tp d (by omega)
    have hqd : 0 ≤ row / 10000 ^ d := Int.ediv_nonneg hrow.1 (by omega)
    have hqd2 : row / 10000 ^ d ≤ row := Int.ediv_le_self _ hrow.1
    have hq0 := Int.emod_nonneg (row / 10000 ^ d) (by decide : (10000 : Int) ≠ 0)
    have hq1 := Int.emod_lt_of_pos (row / 10000 ^ d) (by decide : (0 : Int) < 10000)
    have h01 := j_ok_01 Mp (row / 10000 ^ d % 10000)
    have hI1 := hc.I hI
    refine gj_lload 37 dX7_firstThatCanNotBe_35 rfl rfl ?_
    refine gj_lconst (a := 1) 38 dX7_firstThatCanNotBe_37 rfl rfl ?_
    refine gj_lcmp 39 dX7_firstThatCanNotBe_38 rfl (by omega) (by omega) ?_
    refine gj_if_lt 58 42 dX7_firstThatCanNotBe_39 (by decide) rfl (by split <;> (try split) <;> decide) (fun c_39 => absurd c_39 (by split <;> omega)) (fun c_39 => ?_)
    refine gj_aload_n 43 dX7_firstThatCanNotBe_42 rfl rfl ?_
    refine gj_lload_n 44 dX7_firstThatCanNotBe_43 rfl rfl ?_
    refine gj_lload 46 dX7_firstThatCanNotBe_44 rfl rfl ?_
    refine gj_ldiv 47 dX7_firstThatCanNotBe_46 rfl (by omega) (by omega) ?_
    refine gj_ldc2 (a := 10000) 50 dX7_firstThatCanNotBe_47 rfl lc_7_206 ?_
    refine gj_lrem 51 dX7_firstThatCanNotBe_50 rfl (by omega) (by omega) ?_
    refine gj_l2i 52 dX7_firstThatCanNotBe_51 rfl (by omega) ?_
    refine gj_callV 55 dX7_firstThatCanNotBe_52 rfl ok_7_comesTrue ml_7_248 iv_7_comesTrue (As := [gI _]) rfl rfl rfl rfl (Nat.le_of_ble_eq_true rfl) ⟨Nat.le_of_ble_eq_true rfl, Nat.le_of_ble_eq_true rfl⟩ (Nat.le_of_ble_eq_true rfl) ⟨rfl, rfl⟩ ⟨Nat.zero_le _, Nat.zero_le _⟩ (s7_comesTrue hI1 (by omega)) (fun r_52 M_52 q_52 => ?_)
    obtain ⟨rfl, hE2⟩ := q_52
    have eo : j_ok M1 (row / 10000 ^ d % 10000) = j_ok Mp (row / 10000 ^ d % 10000) := by
      unfold j_ok
      rw [hc.ex, hc.seen, hc.cels, hc.ord, hc 10 (by decide), hc 15 (by decide)]
    rw [eo]
    have hE3 : gj_E j_hs M M_52 := (hE.tr ((j_do_E M1 _).mono (by decide))).tr (hE2.mono (by decide))
    show gj_G _ _ gS 0 0 55 _ [gI (j_ok Mp (row / 10000 ^ d % 10000))] M_52 _
    refine gj_if_ne 61 58 dX7_firstThatCanNotBe_55 (by decide) rfl (by omega) (fun c_55 => ?_) (fun c_55 => ?_)
    · refine gj_lload 63 dX7_firstThatCanNotBe_61 rfl rfl ?_
      refine gj_ldc2 (a := 10000) 66 dX7_firstThatCanNotBe_63 rfl lc_7_206 ?_
      refine gj_ldiv 67 dX7_firstThatCanNotBe_66 rfl (by omega) (by omega) ?_
      refine gj_lstore (lv' := [_, _, _, _, _, _, _]) 69 dX7_firstThatCanNotBe_67 rfl (by decide) rfl ?_
      refine gj_iinc (b := ((i + 1 : Nat) : Int)) (lv' := [_, _, _, _, _, _, _]) 72 dX7_firstThatCanNotBe_69 rfl rfl (by omega) (by decide) rfl ?_
      refine gj_goto 29 dX7_firstThatCanNotBe_72 (by decide) ?_
      have e : j_run Mp row (d + 1) i = j_run (j_do Mp (row / 10000 ^ d % 10000)) row d (i + 1) := if_neg (by omega)
      rw [e]
      have hcc : c_eq (j_do Mp (row / 10000 ^ d % 10000)) M_52 := by
        have ha : c_eq (j_do M1 (row / 10000 ^ d % 10000)) M_52 := c_eq.of hE2 (by decide)
        intro x hx
        rw [ha x hx]
        unfold j_do
        rw [eo]
        split
        · exact hc x hx
        split
        · funext j; unfold gj_u; rw [hc x hx]
        split
        · funext j; unfold gj_u; rw [hc x hx]
        split
        · rw [hc 15 (by decide)]; funext j; unfold gj_u; rw [hc x hx]
        · exact hc x hx
      exact gj_wk (ih (i + 1) _ M_52 (10000 ^ d / 10000) (by omega) (fun e he => by rw [he]; exact e_tp_d e) hcc (j_do_I hI (by omega)) hE3 ) ⟨rfl, rfl, rfl, rfl, rfl, trivial⟩
    · refine gj_iload 60 dX7_firstThatCanNotBe_58 rfl rfl ?_
      refine gj_iret dX7_firstThatCanNotBe_60 rfl ⟨Nat.zero_le _, Nat.zero_le _⟩ ?_
      exact ⟨rfl, by rw [show j_run Mp row (d + 1) i = i from if_pos (by omega)], hE3⟩

set_option maxRecDepth 100000 in
set_option maxHeartbeats 4000000 in
theorem s7_ftb_1 {xt : Nat × (Nat → Int)} {M : gj_M} {nn row : Int} (hI : c_I M) (hn : 1 ≤ nn ∧ nn ≤ 4) (hrow : 0 ≤ row ∧ row ≤ 10000000000000000) : ∀ (n k : Nat), (k : Int) + 1 + n = nn → gj_G xt Y7_firstThatCanNotBe gS 0 0 6 [some (gR 0), some (gI nn), some (gL row), none, some (gL (10000 ^ k)), none, some (gI ((k : Int) + 1))] [] M (fun r S2 M2 => S2 = gS ∧ r = some (gI (j_run M row nn.toNat 0)) ∧ gj_E j_hs M M2) := by
  intro n
  induction n with
  | zero =>
    intro k hk
    refine gj_iload 8 dX7_firstThatCanNotBe_6 rfl rfl ?_
    refine gj_iload_n 9 dX7_firstThatCanNotBe_8 rfl rfl ?_
    refine gj_icmp_ge 26 12 dX7_firstThatCanNotBe_9 (by decide) rfl (by omega) (by omega) (fun c_9 => ?_) (fun c_9 => absurd c_9 (by omega))
    refine gj_iconst 27 dX7_firstThatCanNotBe_26 rfl ?_
    refine gj_istore (lv' := [_, _, _, _, _, _, _]) 29 dX7_firstThatCanNotBe_27 rfl (by decide) rfl ?_
    have hk5 : nn.toNat = k + 1 := by omega
    exact gj_wk (s7_ftb_l hn hrow nn.toNat 0 M M (10000 ^ k) (by omega) (fun e he => by rw [show e = k by omega]) (fun _ _ => rfl) hI gj_E.rf) ⟨rfl, rfl, rfl, rfl, rfl, trivial⟩
  | succ n ih =>
    intro k hk
    refine gj_iload 8 dX7_firstThatCanNotBe_6 rfl rfl ?_
    refine gj_iload_n 9 dX7_firstThatCanNotBe_8 rfl rfl ?_
    refine gj_icmp_ge 26 12 dX7_firstThatCanNotBe_9 (by decide) rfl (by omega) (by omega) (fun c_9 => absurd c_9 (by omega)) (fun c_9 => ?_)
    refine gj_lload 14 dX7_firstThatCanNotBe_12 rfl rfl ?_
    refine gj_ldc2 (a := 10000) 17 dX7_firstThatCanNotBe_14 rfl lc_7_206 ?_
    refine gj_lmul 18 dX7_firstThatCanNotBe_17 rfl ?_
    refine gj_lstore (lv' := [_, _, _, _, _, _, _]) 20 dX7_firstThatCanNotBe_18 rfl (by decide) rfl ?_
    refine gj_iinc (b := (((k + 1 : Nat) : Int) + 1)) (lv' := [_, _, _, _, _, _, _]) 23 dX7_firstThatCanNotBe_20 rfl rfl (by omega) (by decide) rfl ?_
    refine gj_goto 6 dX7_firstThatCanNotBe_23 (by decide) ?_
    rw [e_tp_s]
    exact gj_wk (ih (k + 1) (by omega)) ⟨rfl, rfl, rfl, rfl, rfl, trivial⟩

set_option maxRecDepth 100000 in
set_option maxHeartbeats 4000000 in
theorem s7_ftb {xt : Nat × (Nat → Int)} {M : gj_M} {nn row : Int} (hI : c_I M) (hn : 1 ≤ nn ∧ nn ≤ 4) (hrow : 0 ≤ row ∧ row ≤ 10000000000000000) : gj_T xt Y7_firstThatCanNotBe gS [gR 0, gI nn, gL row] M (fun r M2 => r = some (gI (j_run M row nn.toNat 0)) ∧ gj_E j_hs M M2) := by
  show gj_G _ Y7_firstThatCanNotBe gS 0 0 0 [_, _, _, _, _, _, _] [] M _
  refine gj_lconst (a := 1) 1 dX7_firstThatCanNotBe_0 rfl rfl ?_
  refine gj_lstore (lv' := [_, _, _, _, _, _, _]) 3 dX7_firstThatCanNotBe_1 rfl (by decide) rfl ?_
  refine gj_iconst 4 dX7_firstThatCanNotBe_3 rfl ?_
  refine gj_istore (lv' := [_, _, _, _, _, _, _]) 6 dX7_firstThatCanNotBe_4 rfl (by decide) rfl ?_
  exact gj_wk (s7_ftb_1 hI hn hrow (nn - 1).toNat 0 (by omega)) ⟨rfl, rfl, rfl, rfl, rfl, trivial⟩

theorem b_cp_big {M : gj_M} {t u h : Nat} {i : Int} (hb : h < t ∨ t + 8 < h) : b_cp M t u h i = M h i := by
  unfold b_cp
  show gj_u _ t 6 _ h i = _
  rw [gj_u_o (by omega), gj_cp_o (by omega), gj_cp_o (by omega), gj_cp_o (by omega), gj_cp_o (by omega), gj_cp_o (by omega), gj_cp_o (by omega), gj_cp_o (by omega), gj_cp_o (by omega)]

theorem j_nm {M M1 : gj_M} (hE : gj_E j_hs (b_cp M 41 15) M1) {h : Nat} {x : gj_H} (hx : gS[h]? = some x) : gj_sm (b_cp M1 15 41) (fun h i => if h ∈ [33, 34, 41, 42, 43, 44, 45, 46, 47, 48, 49] then b_cp M1 15 41 h i else M h i) h x := by
  have hlt : h < 88 := (List.getElem?_eq_some_iff.mp hx).1
  have hs : ∀ (a : Nat), 41 ≤ a → a ≤ 49 → ∀ j, M1 a j = b_cp M 41 15 a j := fun a h1 h2 j => hE a (by unfold j_hs; simp; omega) j
  have hbig : ∀ (g : Nat) (i : Int), (g < 15 ∨ 23 < g) → b_cp M1 15 41 g i = if g ∈ [33, 34, 41, 42, 43, 44, 45, 46, 47, 48, 49] then b_cp M1 15 41 g i else M g i := by
    intro g i hb
    split
    · rfl
    · next hn =>
      simp only [List.mem_cons, List.not_mem_nil, or_false] at hn
      rw [b_cp_big hb, hE g (by unfold j_hs; simp only [List.mem_cons, List.not_mem_nil, or_false]; omega), b_cp_big (by omega)]
  by_cases hb : h < 15 ∨ 23 < h
  · match x with
    | .inl o => exact fun i => ⟨fun _ => hbig h i hb, fun _ => hbig (h + 5000) i (by omega)⟩
    | .inr a => exact fun i _ => hbig h i hb
  · have h2 : h = 15 ∨ h = 16 ∨ h = 17 ∨ h = 18 ∨ h = 19 ∨ h = 20 ∨ h = 21 ∨ h = 22 ∨ h = 23 := by omega
    rcases h2 with rfl | rfl | rfl | rfl | rfl | rfl | rfl | rfl | rfl <;> cases hx
    · intro i
      refine ⟨fun hi => ?_, fun _ => hbig 5015 i (by omega)⟩
      have hl : i < 9 := (List.getElem?_eq_some_iff.mp hi).1
      have h6 : i = 6 := by
        have h9 : i = 0 ∨ i = 1 ∨ i = 2 ∨ i = 3 ∨ i = 4 ∨ i = 5 ∨ i = 6 ∨ i = 7 ∨ i = 8 := by omega
        rcases h9 with rfl | rfl | rfl | rfl | rfl | rfl | rfl | rfl | rfl
        all_goals first | rfl | exact absurd hi (by decide)
      subst h6
      show M1 41 6 = M 15 6
      rw [hs 41 (by omega) (by omega)]
      rfl
    · intro i hi
      have hi2 : i < 6 := hi
      show b_cp M1 15 41 16 i = M 16 i
      rw [bc_15_41_1 (by omega) (by omega), hs 42 (by omega) (by omega), bc_41_15_1 (by omega) (by omega)]
    · intro i hi
      have hi2 : i < 6 := hi
      show b_cp M1 15 41 17 i = M 17 i
      rw [bc_15_41_2 (by omega) (by omega), hs 43 (by omega) (by omega), bc_41_15_2 (by omega) (by omega)]
    · intro i hi
      have hi2 : i < 4 := hi
      show b_cp M1 15 41 18 i = M 18 i
      rw [bc_15_41_3 (by omega) (by omega), hs 44 (by omega) (by omega), bc_41_15_3 (by omega) (by omega)]
    · intro i hi
      have hi2 : i < 5 := hi
      show b_cp M1 15 41 19 i = M 19 i
      rw [bc_15_41_4 (by omega) (by omega), hs 45 (by omega) (by omega), bc_41_15_4 (by omega) (by omega)]
    · intro i hi
      have hi2 : i < 5 := hi
      show b_cp M1 15 41 20 i = M 20 i
      rw [bc_15_41_5 (by omega) (by omega), hs 46 (by omega) (by omega), bc_41_15_5 (by omega) (by omega)]
    · intro i hi
      have hi2 : i < 5 := hi
      show b_cp M1 15 41 21 i = M 21 i
      rw [bc_15_41_6 (by omega) (by omega), hs 47 (by omega) (by omega), bc_41_15_6 (by omega) (by omega)]
    · intro i hi
      have hi2 : i < 4 := hi
      show b_cp M1 15 41 22 i = M 22 i
      rw [bc_15_41_7 (by omega) (by omega), hs 48 (by omega) (by omega), bc_41_15_7 (by omega) (by omega)]
    · intro i hi
      have hi2 : i < 4 := hi
      show b_cp M1 15 41 23 i = M 23 i
      rw [bc_15_41_8 (by omega) (by omega), hs 49 (by omega) (by omega), bc_41_15_8 (by omega) (by omega)]

set_option maxRecDepth 100000 in
set_option maxHeartbeats 4000000 in
theorem s7_judge_l {xt : Nat × (Nat → Int)} {M : gj_M} {nn row : Int} (hI : c_I M) (hn : 1 ≤ nn ∧ nn ≤ 4) (hrow : 0 ≤ row ∧ row ≤ 9223372036854775807) (hR : gj_R M) : ∀ (n k : Nat), (k : Int) + n = nn → gj_G xt Y7_judge gS 0 0 25 [some (gR 0), some (gI nn), some (gL row), none, some (gL (10000 ^ k)), none, some (gI (k : Int))] [] M (fun r S2 M2 => S2 = gS ∧ r = some (gI (x_judge M nn row)) ∧ gj_E [33, 34, 41, 42, 43, 44, 45, 46, 47, 48, 49] M M2) := by
  intro n
  induction n with
  | zero =>
    intro k hk
    have hcq0 : c_eq M (b_cp M 41 15) := by
      intro h hh
      have h2 : h = 10 ∨ h = 13 ∨ h = 14 ∨ h = 15 ∨ h = 16 ∨ h = 17 ∨ h = 18 ∨ h = 19 ∨ h = 20 ∨ h = 21 ∨ h = 22 ∨ h = 23 := by simpa [c_hs] using hh
      funext i
      rcases h2 with rfl | rfl | rfl | rfl | rfl | rfl | rfl | rfl | rfl | rfl | rfl | rfl <;> rfl
    refine gj_iload 27 dX7_judge_25 rfl rfl ?_
    refine gj_iload_n 28 dX7_judge_27 rfl rfl ?_
    refine gj_icmp_ge 45 31 dX7_judge_28 (by decide) rfl (by omega) (by omega) (fun c_28 => ?_) (fun c_28 => absurd c_28 (by omega))
    have hk5 : nn.toNat = k := by omega
    have htp := e_tp k (by omega)
    refine gj_lload_n 46 dX7_judge_45 rfl rfl ?_
    refine gj_lload 48 dX7_judge_46 rfl rfl ?_
    refine gj_lcmp 49 dX7_judge_48 rfl (by omega) (by omega) ?_
    refine gj_if_lt 55 52 dX7_judge_49 (by decide) rfl (by split <;> (try split) <;> decide) (fun c_49 => ?_) (fun c_49 => ?_)
    · refine gj_aload_n 56 dX7_judge_55 rfl rfl ?_
      refine gj_getfr 59 dX7_judge_56 rfl fl_7_58 rfl rfl ?_
      refine gj_aload_n 60 dX7_judge_59 rfl rfl ?_
      refine gj_getfr 63 dX7_judge_60 rfl fl_7_38 rfl rfl ?_
      refine gj_vV 66 dX7_judge_63 rfl ok_4_copyFrom ml_7_208 iv_4_copyFrom (As := [gR _]) rfl rfl rfl rfl (Nat.le_of_ble_eq_true rfl) ⟨Nat.le_of_ble_eq_true rfl, Nat.le_of_ble_eq_true rfl⟩ (Nat.le_of_ble_eq_true rfl) ⟨rfl, rfl⟩ ⟨Nat.zero_le _, Nat.zero_le _⟩ (s4_copy_41_15) ?_
      refine gj_aload_n 67 dX7_judge_66 rfl rfl ?_
      refine gj_iload_n 68 dX7_judge_67 rfl rfl ?_
      refine gj_lload_n 69 dX7_judge_68 rfl rfl ?_
      refine gj_callV 72 dX7_judge_69 rfl ok_7_firstThatCanNotBe ml_7_210 iv_7_firstThatCanNotBe (As := [gI _, gL _]) rfl rfl rfl rfl (Nat.le_of_ble_eq_true rfl) ⟨Nat.le_of_ble_eq_true rfl, Nat.le_of_ble_eq_true rfl⟩ (Nat.le_of_ble_eq_true rfl) ⟨rfl, rfl⟩ ⟨Nat.zero_le _, Nat.zero_le _⟩ (s7_ftb (hcq0.I hI) hn (by split at c_49 <;> omega)) (fun r_69 M_69 q_69 => ?_)
      obtain ⟨rfl, hE⟩ := q_69
      have hcq : c_eq M (b_cp M 41 15) := by
        intro h hh
        have h2 : h = 10 ∨ h = 13 ∨ h = 14 ∨ h = 15 ∨ h = 16 ∨ h = 17 ∨ h = 18 ∨ h = 19 ∨ h = 20 ∨ h = 21 ∨ h = 22 ∨ h = 23 := by simpa [c_hs] using hh
        funext i
        rcases h2 with rfl | rfl | rfl | rfl | rfl | rfl | rfl | rfl | rfl | rfl | rfl | rfl <;> rfl
      rw [hcq.run]
      show gj_G _ _ gS 0 0 72 _ [gI (j_run M row nn.toNat 0)] M_69 _
      refine gj_istore (lv' := [_, _, _, _, _, _, _]) 74 dX7_judge_72 rfl (by decide) rfl ?_
      refine gj_aload_n 75 dX7_judge_74 rfl rfl ?_
      refine gj_getfr 78 dX7_judge_75 rfl fl_7_38 rfl rfl ?_
      refine gj_aload_n 79 dX7_judge_78 rfl rfl ?_
      refine gj_getfr 82 dX7_judge_79 rfl fl_7_58 rfl rfl ?_
      refine gj_vV 85 dX7_judge_82 rfl ok_4_copyFrom ml_7_208 iv_4_copyFrom (As := [gR _]) rfl rfl rfl rfl (Nat.le_of_ble_eq_true rfl) ⟨Nat.le_of_ble_eq_true rfl, Nat.le_of_ble_eq_true rfl⟩ (Nat.le_of_ble_eq_true rfl) ⟨rfl, rfl⟩ ⟨Nat.zero_le _, Nat.zero_le _⟩ (s4_copy_15_41) ?_
      refine gj_iload 87 dX7_judge_85 rfl rfl ?_
      have hlt : row < 10000 ^ k := by split at c_49 <;> omega
      refine gj_norm (fun h i => if h ∈ [33, 34, 41, 42, 43, 44, 45, 46, 47, 48, 49] then b_cp M_69 15 41 h i else M h i) ?_ ?_ ?_
      · exact fun h x hx => j_nm hE hx
      · intro hr h hh i
        show gj_in (if h ∈ [33, 34, 41, 42, 43, 44, 45, 46, 47, 48, 49] then b_cp M_69 15 41 h i else M h i)
        split
        · exact hr h hh i
        · exact hR h hh i
      refine gj_iret dX7_judge_87 rfl ⟨Nat.zero_le _, Nat.zero_le _⟩ ?_
      exact ⟨rfl, by unfold x_judge; rw [if_neg (by rw [hk5]; omega)], fun h hh i => if_neg hh⟩
    · refine gj_bipush 54 dX7_judge_52 rfl (by decide) ?_
      refine gj_iret dX7_judge_54 rfl ⟨Nat.zero_le _, Nat.zero_le _⟩ ?_
      exact ⟨rfl, by unfold x_judge; rw [if_pos (by rw [hk5]; split at c_49 <;> omega)], gj_E.rf⟩
  | succ n ih =>
    intro k hk
    refine gj_iload 27 dX7_judge_25 rfl rfl ?_
    refine gj_iload_n 28 dX7_judge_27 rfl rfl ?_
    refine gj_icmp_ge 45 31 dX7_judge_28 (by decide) rfl (by omega) (by omega) (fun c_28 => absurd c_28 (by omega)) (fun c_28 => ?_)
    refine gj_lload 33 dX7_judge_31 rfl rfl ?_
    refine gj_ldc2 (a := 10000) 36 dX7_judge_33 rfl lc_7_206 ?_
    refine gj_lmul 37 dX7_judge_36 rfl ?_
    refine gj_lstore (lv' := [_, _, _, _, _, _, _]) 39 dX7_judge_37 rfl (by decide) rfl ?_
    refine gj_iinc (b := ((k + 1 : Nat) : Int)) (lv' := [_, _, _, _, _, _, _]) 42 dX7_judge_39 rfl rfl (by omega) (by decide) rfl ?_
    refine gj_goto 25 dX7_judge_42 (by decide) ?_
    rw [e_tp_s]
    exact gj_wk (ih (k + 1) (by omega)) ⟨rfl, rfl, rfl, rfl, rfl, trivial⟩
