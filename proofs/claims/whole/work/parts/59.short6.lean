set_option maxRecDepth 100000 in
set_option maxHeartbeats 1000000 in
theorem s5_letters_i {xt : Nat × (Nat → Int)} {M : gj_M} {F : Int → Int} {n l : Int} (hn : 0 ≤ n ∧ n ≤ 48) (hn0 : M 24 0 = n) (hF0 : ∀ g, M 25 g = F g) : ∀ (d : Nat) (M1 : gj_M), gj_E [26, 27, 28, 29, 30] M M1 → (d : Int) ≤ n → (∀ p : Int, 1 ≤ p → p < 49 → M1 26 p = q_L F n (d) p) → q_on F n (d) (fun j p => M1 29 (49 * j + p)) → q_tw F n (d) (fun j p => M1 29 (49 * j + p)) (fun j => M1 30 j) → gj_G xt Y5_lettersFor gS 0 0 86 [some (gR 24), some (gR 10), some (gI l), some (gI ((d : Int) - 1))] [] M1 (fun r S2 M2 => S2 = gS ∧ gj_E [26, 27, 28, 29, 30] M M2 ∧ ∃ v, r = some (gI v) ∧ q_sh F n v) := by
  intro d
  induction d with
  | zero =>
    intro M1 hE hd hlk hon htw
    refine gj_iload_n 87 dX5_lettersFor_86 rfl rfl ?_
    refine gj_if_lt 149 90 dX5_lettersFor_87 (by decide) rfl (by omega) (fun c_87 => ?_) (fun c_87 => absurd c_87 (by omega))
    refine gj_aload_n 150 dX5_lettersFor_149 rfl rfl ?_
    refine gj_getfr 153 dX5_lettersFor_150 rfl fl_5_27 rfl rfl ?_
    refine gj_iconst 154 dX5_lettersFor_153 rfl ?_
    refine gj_iald 155 dX5_lettersFor_154 rfl rfl (by omega) (by omega) (fun r_154 => ?_)
    refine gj_iret dX5_lettersFor_155 rfl ⟨Nat.zero_le _, Nat.zero_le _⟩ ?_
    refine ⟨rfl, hE, _, rfl, ?_⟩
    exact ⟨_, _, hon, htw, rfl⟩
  | succ d ih =>
    intro M1 hE hd hlk hon htw
    refine gj_lvE (lv' := [some (gR 24), some (gR 10), some (gI l), some (gI (d : Int))]) (by rw [show (((d + 1 : Nat) : Int)) - 1 = (d : Int) by omega]) ?_
    have en : M1 24 0 = n := (hE 24 (by decide) 0).trans hn0
    have eFF : M1 25 = F := by funext g; exact (hE 25 (by decide) g).trans (hF0 g)
    have hi0 : 0 ≤ (d : Int) ∧ (d : Int) < n := by omega
    rw [show (((d + 1 : Nat) : Int)) = (d : Int) + 1 by omega] at hlk hon htw
    refine gj_iload_n 87 dX5_lettersFor_86 rfl rfl ?_
    refine gj_if_lt 149 90 dX5_lettersFor_87 (by decide) rfl (by omega) (fun c_87 => absurd c_87 (by omega)) (fun c_87 => ?_)
    refine gj_aload_n 91 dX5_lettersFor_90 rfl rfl ?_
    refine gj_iload_n 92 dX5_lettersFor_91 rfl rfl ?_
    refine gj_callV 95 dX5_lettersFor_92 rfl ok_5_findLike ml_5_54 iv_5_findLike (As := [gI _]) rfl rfl rfl rfl (Nat.le_of_ble_eq_true rfl) ⟨Nat.le_of_ble_eq_true rfl, Nat.le_of_ble_eq_true rfl⟩ (Nat.le_of_ble_eq_true rfl) ⟨rfl, rfl⟩ ⟨Nat.zero_le _, Nat.zero_le _⟩ (s5_like (by rw [en]; omega) (by rw [en]; omega) (fun p h1 h2 => by rw [hlk p h1 h2]; have := q_lk_b F p (n - p - ((d : Int) + 1)).toNat ((d : Int) + 1); unfold q_L; omega)) (fun r_92 M_92 q_92 => ?_)
    obtain ⟨rfl, hE2, hv2, hw2⟩ := q_92
    rw [eFF, en] at hv2
    rw [en] at hw2
    have hlk2 : ∀ p : Int, 1 ≤ p → p < 49 → M_92 26 p = q_L F n d p := by
      intro p h1 h2
      by_cases q : (d : Int) + p < n
      · rw [hv2 p h1 q, q_L_step q, hlk p h1 h2]
      · rw [hw2 p (by omega), hlk p h1 h2, q_L_out (by omega), q_L_out (by omega)]
    have en2 : M_92 24 0 = n := (hE2 24 (by decide) 0).trans en
    have eF2 : M_92 25 = F := by funext g; rw [hE2 25 (by decide) g, eFF]
    show gj_G _ _ gS 0 0 95 _ [] M_92 _
    refine gj_aload_n 96 dX5_lettersFor_95 rfl rfl ?_
    refine gj_iload_n 97 dX5_lettersFor_96 rfl rfl ?_
    refine gj_callV 100 dX5_lettersFor_97 rfl ok_5_findPlain ml_5_58 iv_5_findPlain (As := [gI _]) rfl rfl rfl rfl (Nat.le_of_ble_eq_true rfl) ⟨Nat.le_of_ble_eq_true rfl, Nat.le_of_ble_eq_true rfl⟩ (Nat.le_of_ble_eq_true rfl) ⟨rfl, rfl⟩ ⟨Nat.zero_le _, Nat.zero_le _⟩ (s5_plain (by rw [en2]; omega) (by rw [en2]; omega)) (fun r_97 M_97 q_97 => ?_)
    obtain ⟨rfl, hE3, hv3⟩ := q_97
    rw [eF2, en2] at hv3
    have en3 : M_97 24 0 = n := (hE3 24 (by decide) 0).trans en2
    have hlk3 : ∀ p : Int, 1 ≤ p → p < 49 → M_97 26 p = q_L F n d p := fun p h1 h2 => (hE3 26 (by decide) p).trans (hlk2 p h1 h2)
    have hLb : ∀ p : Int, 1 ≤ p → p < 49 → 0 ≤ q_L F n d p ∧ q_L F n d p ≤ 100 := fun p h1 h2 => by have := q_lk_b F p (n - p - d).toNat d; unfold q_L; omega
    show gj_G _ _ gS 0 0 100 _ [] M_97 _
    refine gj_aload_n 101 dX5_lettersFor_100 rfl rfl ?_
    refine gj_aload_n 102 dX5_lettersFor_101 rfl rfl ?_
    refine gj_getfr 105 dX5_lettersFor_102 rfl fl_5_18 rfl rfl ?_
    refine gj_iconst 106 dX5_lettersFor_105 rfl ?_
    refine gj_aload_n 107 dX5_lettersFor_106 rfl rfl ?_
    refine gj_getfiE (n) 110 dX5_lettersFor_107 rfl fl_5_41 rfl rfl en3 (fun r_107 => ?_)
    refine gj_iload_n 111 dX5_lettersFor_110 rfl rfl ?_
    refine gj_isub 112 dX5_lettersFor_111 rfl ?_
    refine gj_callV 115 dX5_lettersFor_112 rfl ok_5_findItems ml_5_61 iv_5_findItems (As := [gR _, gI _, gI _]) rfl rfl rfl rfl (Nat.le_of_ble_eq_true rfl) ⟨Nat.le_of_ble_eq_true rfl, Nat.le_of_ble_eq_true rfl⟩ (Nat.le_of_ble_eq_true rfl) ⟨rfl, rfl⟩ ⟨Nat.zero_le _, Nat.zero_le _⟩ (s5_items rfl (Or.inl rfl) (by omega) (by omega) (by omega) (fun p h1 h2 => by have h9 := hv3 p.toNat (by omega); rw [show ((p.toNat : Nat) : Int) = p by omega] at h9; rw [show (0 : Int) + p = p by omega, h9]; have := q_pl_b F d p.toNat; omega) (fun p h1 h2 => by rw [hlk3 p h1 h2]; exact hLb p h1 h2)) (fun r_112 M_112 q_112 => ?_)
    obtain ⟨rfl, hE4, hv4⟩ := q_112
    have en4 : M_112 24 0 = n := (hE4 24 (by decide) 0).trans en3
    have hit4 : ∀ m : Int, 1 ≤ m → (d : Int) + m ≤ n → M_112 28 m = q_it (q_L F n d) (fun z => q_pl F d z.toNat) 48 1 m 8 := by
      intro m h1 h2
      rw [hv4 m h1 (by omega)]
      refine q_it_congr h1 (fun p p1 p2 => hlk3 p p1 (by omega)) (fun p p1 p2 => ?_) 8
      have h9 := hv3 p.toNat (by omega)
      rw [show ((p.toNat : Nat) : Int) = p by omega] at h9
      rw [show (0 : Int) + p = p by omega]
      exact h9
    have hitb4 : ∀ m : Int, 1 ≤ m → m ≤ n - d → 0 ≤ M_112 28 m ∧ M_112 28 m ≤ 1000 := fun m h1 h2 => by
      rw [hit4 m h1 (by omega)]
      exact q_it_b (fun z _ _ => (q_pl_b F d z.toNat).1) h1 8
    have e294 : ∀ j, M_112 29 j = M1 29 j := fun j => by rw [hE4 29 (by decide), hE3 29 (by decide), hE2 29 (by decide)]
    have e304 : ∀ j, M_112 30 j = M1 30 j := fun j => by rw [hE4 30 (by decide), hE3 30 (by decide), hE2 30 (by decide)]
    have honb : ∀ j p : Int, (d : Int) < j → j ≤ n → 0 ≤ p → j + p ≤ n → 0 ≤ M_112 29 (49 * j + p) ∧ M_112 29 (49 * j + p) ≤ 1000 := fun j p h1 h2 h3 h4 => by rw [e294]; exact q_on_b hon _ j p rfl (by omega) h2 h3 h4
    have htwb : ∀ j : Int, (d : Int) < j → j ≤ n → 0 ≤ M1 30 j ∧ M1 30 j ≤ 1000 := fun j h1 h2 => q_tw_b hon htw _ j rfl (by omega) h2
    show gj_G _ _ gS 0 0 115 _ [] M_112 _
    refine gj_aload_n 116 dX5_lettersFor_115 rfl rfl ?_
    refine gj_iload_n 117 dX5_lettersFor_116 rfl rfl ?_
    refine gj_callV 120 dX5_lettersFor_117 rfl ok_5_findOnce ml_5_65 iv_5_findOnce (As := [gI _]) rfl rfl rfl rfl (Nat.le_of_ble_eq_true rfl) ⟨Nat.le_of_ble_eq_true rfl, Nat.le_of_ble_eq_true rfl⟩ (Nat.le_of_ble_eq_true rfl) ⟨rfl, rfl⟩ ⟨Nat.zero_le _, Nat.zero_le _⟩ (s5_once (by rw [en4]; omega) (by rw [en4]; omega) (by rw [en4]; exact hitb4) (by rw [en4]; exact honb)) (fun r_117 M_117 q_117 => ?_)
    obtain ⟨rfl, hE5, ho5, hz5, hv5⟩ := q_117
    rw [en4] at ho5 hv5
    have en5 : M_117 24 0 = n := (hE5 24 (by decide) 0).trans en4
    have hon5 : q_on F n d (fun j p => M_117 29 (49 * j + p)) := by
      refine q_on_step (f := fun j p => M1 29 (49 * j + p)) (it := M_112 28) hi0 hon (fun j p h1 h2 h3 h4 => ?_) ?_ (fun p h1 h2 => ?_) hit4
      · show M_117 29 (49 * j + p) = M1 29 (49 * j + p)
        rw [ho5 _ (by omega), e294]
      · show M_117 29 (49 * (d : Int) + 0) = 0
        rw [Int.add_zero]; exact hz5
      · show M_117 29 (49 * (d : Int) + p) = _
        have h9 := hv5 p.toNat (by omega) (by omega)
        rw [show ((p.toNat : Nat) : Int) = p by omega] at h9
        rw [h9]
        exact q_mn_congr _ (fun z z1 z2 => ⟨rfl, e294 _⟩)
    have hsm5 : ∀ j p : Int, (d : Int) < j → j ≤ n → 0 ≤ p → j + p ≤ n → M_117 29 (49 * j + p) = M1 29 (49 * j + p) := fun j p h1 h2 h3 h4 => by rw [ho5 _ (by omega), e294]
    have hlk5 : ∀ p : Int, 1 ≤ p → p < 49 → M_117 26 p = q_L F n d p := fun p h1 h2 => by rw [hE5 26 (by decide), hE4 26 (by decide)]; exact hlk3 p h1 h2
    show gj_G _ _ gS 0 0 120 _ [] M_117 _
    refine gj_aload_n 121 dX5_lettersFor_120 rfl rfl ?_
    refine gj_aload_n 122 dX5_lettersFor_121 rfl rfl ?_
    refine gj_getfr 125 dX5_lettersFor_122 rfl fl_5_24 rfl rfl ?_
    refine gj_bipush 127 dX5_lettersFor_125 rfl (by decide) ?_
    refine gj_iload_n 128 dX5_lettersFor_127 rfl rfl ?_
    refine gj_imul 129 dX5_lettersFor_128 rfl ?_
    refine gj_aload_n 130 dX5_lettersFor_129 rfl rfl ?_
    refine gj_getfiE (n) 133 dX5_lettersFor_130 rfl fl_5_41 rfl rfl en5 (fun r_130 => ?_)
    refine gj_iload_n 134 dX5_lettersFor_133 rfl rfl ?_
    refine gj_isub 135 dX5_lettersFor_134 rfl ?_
    refine gj_callV 138 dX5_lettersFor_135 rfl ok_5_findItems ml_5_61 iv_5_findItems (As := [gR _, gI _, gI _]) rfl rfl rfl rfl (Nat.le_of_ble_eq_true rfl) ⟨Nat.le_of_ble_eq_true rfl, Nat.le_of_ble_eq_true rfl⟩ (Nat.le_of_ble_eq_true rfl) ⟨rfl, rfl⟩ ⟨Nat.zero_le _, Nat.zero_le _⟩ (s5_items rfl (Or.inr rfl) (by omega) (by omega) (by omega) (fun p h1 h2 => q_on_b hon5 _ d p rfl (by omega) (by omega) (by omega) (by omega)) (fun p h1 h2 => by rw [hlk5 p h1 h2]; exact hLb p h1 h2)) (fun r_135 M_135 q_135 => ?_)
    obtain ⟨rfl, hE6, hv6⟩ := q_135
    have en6 : M_135 24 0 = n := (hE6 24 (by decide) 0).trans en5
    have hit6 : ∀ m : Int, 1 ≤ m → (d : Int) + m ≤ n → M_135 28 m = q_it (q_L F n d) (fun p => M_117 29 (49 * (d : Int) + p)) 48 1 m 8 := by
      intro m h1 h2
      rw [hv6 m h1 (by omega)]
      exact q_it_congr h1 (fun p p1 p2 => hlk5 p p1 (by omega)) (fun p p1 p2 => rfl) 8
    have hitb6 : ∀ m : Int, 1 ≤ m → m ≤ n - d → 0 ≤ M_135 28 m ∧ M_135 28 m ≤ 1000 := fun m h1 h2 => by
      rw [hit6 m h1 (by omega)]
      exact q_it_b (fun z z1 z2 => (q_on_b hon5 _ d z rfl (by omega) (by omega) (by omega) (by omega)).1) h1 8
    have e306 : ∀ j, M_135 30 j = M1 30 j := fun j => by rw [hE6 30 (by decide), hE5 30 (by decide), e304]
    show gj_G _ _ gS 0 0 138 _ [] M_135 _
    refine gj_aload_n 139 dX5_lettersFor_138 rfl rfl ?_
    refine gj_iload_n 140 dX5_lettersFor_139 rfl rfl ?_
    refine gj_callV 143 dX5_lettersFor_140 rfl ok_5_findTwice ml_5_68 iv_5_findTwice (As := [gI _]) rfl rfl rfl rfl (Nat.le_of_ble_eq_true rfl) ⟨Nat.le_of_ble_eq_true rfl, Nat.le_of_ble_eq_true rfl⟩ (Nat.le_of_ble_eq_true rfl) ⟨rfl, rfl⟩ ⟨Nat.zero_le _, Nat.zero_le _⟩ (s5_twice (by rw [en6]; omega) (by rw [en6]; omega) (by rw [en6]; exact hitb6) (by rw [en6]; exact fun j h1 h2 => by rw [e306]; exact htwb j h1 h2)) (fun r_140 M_140 q_140 => ?_)
    obtain ⟨rfl, hE7, hs7, hv7⟩ := q_140
    rw [en6] at hv7
    have e297 : ∀ j, M_140 29 j = M_117 29 j := fun j => by rw [hE7 29 (by decide), hE6 29 (by decide)]
    have eon : (fun j p => M_140 29 (49 * j + p)) = (fun j p => M_117 29 (49 * j + p)) := by funext j p; exact e297 _
    have htw7 : q_tw F n d (fun j p => M_140 29 (49 * j + p)) (fun j => M_140 30 j) := by
      rw [eon]
      refine q_tw_step (f := fun j p => M1 29 (49 * j + p)) (g := fun j => M1 30 j) (it := M_135 28) hi0 htw hsm5 (fun j h1 h2 => ?_) ?_ hit6
      · show M_140 30 j = M1 30 j
        rw [hs7 j (by omega), e306]
      · show M_140 30 d = _
        rw [hv7]
        exact q_mt_congr _ (fun z z1 z2 => ⟨rfl, e306 _⟩)
    have hon7 : q_on F n d (fun j p => M_140 29 (49 * j + p)) := by rw [eon]; exact hon5
    have hlk7 : ∀ p : Int, 1 ≤ p → p < 49 → M_140 26 p = q_L F n d p := fun p h1 h2 => by rw [hE7 26 (by decide), hE6 26 (by decide)]; exact hlk5 p h1 h2
    have hE9 : gj_E [26, 27, 28, 29, 30] M M_140 := (((((hE.tr (hE2.mono (by decide))).tr (hE3.mono (by decide))).tr (hE4.mono (by decide))).tr (hE5.mono (by decide))).tr (hE6.mono (by decide))).tr (hE7.mono (by decide))
    show gj_G _ _ gS 0 0 143 _ [] M_140 _
    refine gj_iinc (b := ((d : Int) - 1)) (lv' := [_, _, _, _]) 146 dX5_lettersFor_143 rfl rfl (by omega) (by decide) rfl ?_
    refine gj_goto 86 dX5_lettersFor_146 (by decide) ?_
    exact gj_wk (ih M_140 hE9 (by omega) hlk7 hon7 htw7) ⟨rfl, rfl, rfl, rfl, trivial⟩
