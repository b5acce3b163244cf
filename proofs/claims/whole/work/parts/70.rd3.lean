set_option maxRecDepth 100000 in
set_option maxHeartbeats 1000000 in
theorem s8_rdraw {xt : Nat × (Nat → Int)} {M : gj_M} {M0 C : gj_M} {t : Int → Int} {N : Nat} {v : Int} (hN : N ≤ 80) (hN2 : M0 69 2 = (N : Int)) (ht : ∀ i : Nat, i < N → M0 70 i = t i) (hc : ∀ i : Nat, i < N → 0 ≤ t i ∧ t i ≤ 255) {p : Nat} (hB : v_B M0 (r_ru C t p) M p) (hp : p < N) (h1 : r_ru C t p 2 1 = 1) (h100 : t p = 100) (hv : r_ff C t (N - p) p = v) : gj_T xt Y8_readDrawing gS [gR 69] M (fun r M2 => ∃ b : Int, r = some (gI b) ∧ ((b = 1 ∧ p + 3 ≤ N ∧ v_B M0 (r_ru C t (p + 3)) M2 (p + 3) ∧ r_ru C t (p + 3) 2 1 = 1 ∧ r_ru C t (p + 3) 2 2 = r_ru C t p 2 2 ∧ r_ru C t (p + 3) 3 1 = r_ru C t p 3 1 ∧ M2 69 9 = M 69 9 ∧ r_ff C t (N - (p + 3)) (p + 3) = v) ∨ (b = 0 ∧ v_F M0 M2 ∧ v = M2 69 3 ∧ v ≠ -9))) := by
  show gj_G _ Y8_readDrawing gS 0 0 0 [_, _, _] [] M _
  have hI := hB.2.2.2.1
  have hD := hI.1
  have h3 := hB.2.2.2.2
  have k1 : a_tk (r_ru C t p) (t p) = a_dr (r_ru C t p) := (tk_1 h1).1.trans (if_pos h100)
  have n1 : r_ru C t (p + 1) = gj_u (r_ru C t p) 2 1 2 := (tk_1 h1).2.trans (if_pos h100)
  refine gj_aload_n 1 dX8_readDrawing_0 rfl rfl ?_
  refine gj_getfiE (r_ru C t p 3 0) 4 dX8_readDrawing_1 rfl fl_8_93 rfl rfl hB.2.1.1 (fun r_1 => ?_)
  refine gj_bipush 6 dX8_readDrawing_4 rfl (by decide) ?_
  refine gj_icmp_ne 11 9 dX8_readDrawing_6 (by decide) rfl (by omega) (by omega) (fun c_6 => ?_) (fun c_6 => ?_)
  · refine gj_aload_n 12 dX8_readDrawing_11 rfl rfl ?_
    refine gj_dup 13 dX8_readDrawing_12 rfl (fun _ => rfl) ?_
    refine gj_getfiE ((p : Int)) 16 dX8_readDrawing_13 rfl fl_8_90 rfl rfl h3 (fun r_13 => ?_)
    refine gj_iconst 17 dX8_readDrawing_16 rfl ?_
    refine gj_iadd 18 dX8_readDrawing_17 rfl ?_
    refine gj_top ((p + 1 : Nat) : Int) (by omega) ?_
    refine gj_putfi 21 dX8_readDrawing_18 rfl fw_8_90 rfl rfl (by omega) ?_
    have g1 := ff_go hp (by rw [k1]; unfold a_dr; rw [if_pos (by omega)]; decide) hv
    have hB1 : v_B M0 (r_ru C t (p + 1)) (gj_u M 69 3 ((p + 1 : Nat) : Int)) (p + 1) := hB.p (by rw [n1]; exact hI.aw (by omega)) (fun k hk => by rw [n1]; funext i; simp at hk; rw [gj_u_o (by omega)]) rfl
    have f1 := y_fg_c (a := 0) (b := 9) hB1.1 hN2 ht (q := p + 1) hB1.2.2.2.2
    have s1 : r_ru C t (p + 1) 2 1 = 2 := by rw [n1]; rfl
    refine gj_aload_n 22 dX8_readDrawing_21 rfl rfl ?_
    refine gj_iconst 23 dX8_readDrawing_22 rfl ?_
    refine gj_bipush 25 dX8_readDrawing_23 rfl (by decide) ?_
    refine gj_fV 28 dX8_readDrawing_25 rfl ok_8_figure ml_8_96 iv_8_figure (As := [gI _, gI _]) rfl rfl rfl rfl (Nat.le_of_ble_eq_true rfl) ⟨Nat.le_of_ble_eq_true rfl, Nat.le_of_ble_eq_true rfl⟩ (Nat.le_of_ble_eq_true rfl) ⟨rfl, rfl⟩ ⟨Nat.zero_le _, Nat.zero_le _⟩ (s8_fig hN hN2 ht hc (by omega) (by omega) hB1.1 hB1.2.2.2.2 (by omega)) ?_
    refine gj_istore_n (lv' := [_, _, _]) 29 dX8_readDrawing_28 rfl (by decide) rfl ?_
    refine gj_iload_n 30 dX8_readDrawing_29 rfl rfl ?_
    refine gj_bipush 32 dX8_readDrawing_30 rfl (by decide) ?_
    refine gj_icmp_ne 40 35 dX8_readDrawing_32 (by decide) rfl (by omega) (by omega) (fun c_32 => ?_) (fun c_32 => ?_)
    · have w1 := f1.resolve_right (fun z => c_32 z.2.1)
      obtain ⟨z1, z2, z3, z4⟩ := w1
      have n2 : r_ru C t (p + 2) = gj_u (gj_u (r_ru C t (p + 1)) 2 3 (t ((p + 1 : Nat) : Int) - 48)) 2 1 3 := (tk_2 s1).2
      have g2 := ff_go z1 (by rw [(tk_2 s1).1, if_neg (by omega)]; decide) g1
      have hB2 : v_B M0 (r_ru C t (p + 2)) (gj_u M 69 3 ((p + 1 + 1 : Nat) : Int)) (p + 2) := hB.p (by rw [n2]; exact hB1.2.2.2.1.x.aw (by omega)) (fun k hk => by rw [n2, n1]; funext i; simp at hk; rw [gj_u_o (by omega), gj_u_o (by omega), gj_u_o (by omega)]) rfl
      have s2 : r_ru C t (p + 2) 2 1 = 3 := by rw [n2]; rfl
      have f2 := y_fg_c (a := 1) (b := 5) hB2.1 hN2 ht (q := p + 2) hB2.2.2.2.2
      rw [z3]
      refine gj_mem (z4.trans (gj_u_u _ _ _ _ _)) ?_
      refine gj_aload_n 41 dX8_readDrawing_40 rfl rfl ?_
      refine gj_iconst 42 dX8_readDrawing_41 rfl ?_
      refine gj_iconst 43 dX8_readDrawing_42 rfl ?_
      refine gj_fV 46 dX8_readDrawing_43 rfl ok_8_figure ml_8_96 iv_8_figure (As := [gI _, gI _]) rfl rfl rfl rfl (Nat.le_of_ble_eq_true rfl) ⟨Nat.le_of_ble_eq_true rfl, Nat.le_of_ble_eq_true rfl⟩ (Nat.le_of_ble_eq_true rfl) ⟨rfl, rfl⟩ ⟨Nat.zero_le _, Nat.zero_le _⟩ (s8_fig hN hN2 ht hc (by omega) (by omega) hB2.1 hB2.2.2.2.2 (by omega)) ?_
      refine gj_istore_n (lv' := [_, _, _]) 47 dX8_readDrawing_46 rfl (by decide) rfl ?_
      refine gj_iload_n 48 dX8_readDrawing_47 rfl rfl ?_
      refine gj_bipush 50 dX8_readDrawing_48 rfl (by decide) ?_
      refine gj_icmp_ne 55 53 dX8_readDrawing_50 (by decide) rfl (by omega) (by omega) (fun c_50 => ?_) (fun c_50 => ?_)
      · have w2 := f2.resolve_right (fun z => c_50 z.2.1)
        obtain ⟨y1, y2, y3, y4⟩ := w2
        rw [y3]
        refine gj_mem (y4.trans (gj_u_u _ _ _ _ _)) ?_
        refine gj_aload_n 56 dX8_readDrawing_55 rfl rfl ?_
        refine gj_getfr 59 dX8_readDrawing_56 rfl fl_8_25 rfl rfl ?_
        refine gj_iconst 60 dX8_readDrawing_59 rfl ?_
        refine gj_aload_n 61 dX8_readDrawing_60 rfl rfl ?_
        refine gj_getfiE (r_ru C t p 3 0) 64 dX8_readDrawing_61 rfl fl_8_93 rfl rfl hB.2.1.1 (fun r_61 => ?_)
        refine gj_iadd 65 dX8_readDrawing_64 rfl ?_
        refine gj_iload_n 66 dX8_readDrawing_65 rfl rfl ?_
        refine gj_iast 67 dX8_readDrawing_66 rfl rfl (by omega) (by omega) (by omega) ?_
        refine gj_aload_n 68 dX8_readDrawing_67 rfl rfl ?_
        refine gj_getfr 71 dX8_readDrawing_68 rfl fl_8_25 rfl rfl ?_
        refine gj_bipush 73 dX8_readDrawing_71 rfl (by decide) ?_
        refine gj_aload_n 74 dX8_readDrawing_73 rfl rfl ?_
        refine gj_getfiE (r_ru C t p 3 0) 77 dX8_readDrawing_74 rfl fl_8_93 rfl rfl hB.2.1.1 (fun r_74 => ?_)
        refine gj_iadd 78 dX8_readDrawing_77 rfl ?_
        refine gj_iload_n 79 dX8_readDrawing_78 rfl rfl ?_
        refine gj_iast 80 dX8_readDrawing_79 rfl rfl (by omega) (by omega) (by omega) ?_
        refine gj_aload_n 81 dX8_readDrawing_80 rfl rfl ?_
        refine gj_dup 82 dX8_readDrawing_81 rfl (fun _ => rfl) ?_
        refine gj_getfiE (r_ru C t p 3 0) 85 dX8_readDrawing_82 rfl fl_8_93 rfl rfl hB.2.1.1 (fun r_82 => ?_)
        refine gj_iconst 86 dX8_readDrawing_85 rfl ?_
        refine gj_iadd 87 dX8_readDrawing_86 rfl ?_
        refine gj_putfi 90 dX8_readDrawing_87 rfl fw_8_93 rfl rfl (by omega) ?_
        refine gj_iconst 91 dX8_readDrawing_90 rfl ?_
        refine gj_zret dX8_readDrawing_91 rfl (by omega) ⟨Nat.zero_le _, Nat.zero_le _⟩ ?_
        have e3 : r_ru C t (p + 3) = gj_u (gj_u (gj_u (gj_u (r_ru C t (p + 2)) 4 (r_ru C t (p + 2) 3 0) (r_ru C t (p + 2) 2 3)) 5 (r_ru C t (p + 2) 3 0) (t ((p + 2 : Nat) : Int) - 48)) 3 0 (r_ru C t (p + 2) 3 0 + 1)) 2 1 1 := by
          have q1 : r_ru C t (p + 3) = r_wd (r_ru C t (p + 2)) (t ((p + 2 : Nat) : Int) - 48) := (tk_3 s2).2
          rw [q1]
          unfold r_wd r_ad
          rw [if_neg (by omega), if_pos (by rw [n2, n1]; show r_ru C t p 3 0 < 6; omega)]
        have g3 := ff_go y1 (by rw [(tk_3 s2).1]; unfold a_wd; rw [if_neg (by omega)]; decide) g2
        have hI3 : r_I (r_ru C t (p + 3)) := r_tk_I hB2.2.2.2.1
        refine ⟨rfl, 1, rfl, Or.inl ⟨rfl, by omega, ?_, by rw [e3]; rfl, by rw [e3, n2, n1]; rfl, by rw [e3, n2, n1]; rfl, rfl, g3⟩⟩
        exact v_dr hB (by omega) z2 y2 hI3 (by rw [e3, n2, n1]; rfl) (by rw [e3, n2, n1]; rfl) (fun d => by rw [e3, n2, n1]; simp [gj_u]) (fun d => by rw [e3, n2, n1]; simp [gj_u]) (by rw [e3, n2, n1]; rfl) (by rw [e3, n2, n1]; rfl)
      · refine gj_iconst 54 dX8_readDrawing_53 rfl ?_
        refine gj_zret dX8_readDrawing_54 rfl (by omega) ⟨Nat.zero_le _, Nat.zero_le _⟩ ?_
        first
        | (have e : v = ((p + 1 : Nat) : Int) := by
            by_cases z : p + 1 < N
            · exact ff_no z (by rw [(tk_2 s1).1, if_pos (by have := w1.1; omega)]) g1
            · exact ff_end (by omega) (by omega) g1
           exact ⟨rfl, 0, rfl, Or.inr ⟨rfl, hB1.1, e.trans hB1.2.2.2.2.symm, by omega⟩⟩)
        | (have w2 := f2.resolve_left (fun z => by have y1 := z.2.1; have y2 := z.2.2.1; omega)
           have e : v = ((p + 2 : Nat) : Int) := by
            by_cases z : p + 2 < N
            · exact ff_no z (by rw [(tk_3 s2).1]; unfold a_wd; rw [if_pos (by have := w2.1; omega)]) g2
            · exact ff_end (by omega) (by omega) g2
           rw [w2.2.2]
           exact ⟨rfl, 0, rfl, Or.inr ⟨rfl, hB2.1, e.trans hB2.2.2.2.2.symm, by omega⟩⟩)
    · have w1 := f1.resolve_left (fun z => by have y1 := z.2.1; have y2 := z.2.2.1; omega)
      refine gj_mem w1.2.2 ?_
      refine gj_bipush 37 dX8_readDrawing_35 rfl (by decide) ?_
      refine gj_goto 46 dX8_readDrawing_37 (by decide) ?_
      refine gj_istore_n (lv' := [_, _, _]) 47 dX8_readDrawing_46 rfl (by decide) rfl ?_
      refine gj_iload_n 48 dX8_readDrawing_47 rfl rfl ?_
      refine gj_bipush 50 dX8_readDrawing_48 rfl (by decide) ?_
      refine gj_icmp_ne 55 53 dX8_readDrawing_50 (by decide) rfl (by omega) (by omega) (fun c_50 => absurd c_50 (by decide)) (fun c_50 => ?_)
      refine gj_iconst 54 dX8_readDrawing_53 rfl ?_
      refine gj_zret dX8_readDrawing_54 rfl (by omega) ⟨Nat.zero_le _, Nat.zero_le _⟩ ?_
      first
      | (have e : v = ((p + 1 : Nat) : Int) := by
          by_cases z : p + 1 < N
          · exact ff_no z (by rw [(tk_2 s1).1, if_pos (by have := w1.1; omega)]) g1
          · exact ff_end (by omega) (by omega) g1
         exact ⟨rfl, 0, rfl, Or.inr ⟨rfl, hB1.1, e.trans hB1.2.2.2.2.symm, by omega⟩⟩)
      | (have w2 := f2.resolve_left (fun z => by have y1 := z.2.1; have y2 := z.2.2.1; omega)
         have e : v = ((p + 2 : Nat) : Int) := by
          by_cases z : p + 2 < N
          · exact ff_no z (by rw [(tk_3 s2).1]; unfold a_wd; rw [if_pos (by have := w2.1; omega)]) g2
          · exact ff_end (by omega) (by omega) g2
         rw [w2.2.2]
         exact ⟨rfl, 0, rfl, Or.inr ⟨rfl, hB2.1, e.trans hB2.2.2.2.2.symm, by omega⟩⟩)
  · refine gj_iconst 10 dX8_readDrawing_9 rfl ?_
    refine gj_zret dX8_readDrawing_10 rfl (by omega) ⟨Nat.zero_le _, Nat.zero_le _⟩ ?_
    have e : v = (p : Int) := ff_no hp (by rw [k1]; unfold a_dr; rw [if_neg (by omega)]) hv
    exact ⟨rfl, 0, rfl, Or.inr ⟨rfl, hB.1, e.trans h3.symm, by omega⟩⟩

set_option maxRecDepth 100000 in
set_option maxHeartbeats 1000000 in
theorem s8_rs_l {xt : Nat × (Nat → Int)} {M0 C : gj_M} {t : Int → Int} {N : Nat} {v : Int} (hN : N ≤ 80) (hN2 : M0 69 2 = (N : Int)) (ht : ∀ i : Nat, i < N → M0 70 i = t i) (hc : ∀ i : Nat, i < N → 0 ≤ t i ∧ t i ≤ 255) {L : Int} {p0 : Nat} : ∀ (n p : Nat) (M : gj_M), N ≤ p + n → p ≤ N → p0 ≤ p → v_B M0 (r_ru C t p) M p → v_S (r_ru C t p) M L → r_ff C t (N - p) p = v → gj_G xt Y8_readSheet gS 0 0 19 [some (gR 69), some (gI (r_ru C t p 2 2)), none, none] [] M (fun r S2 M2 => S2 = gS ∧ ∃ b : Int, r = some (gI b) ∧ ((b = 1 ∧ ∃ p1 : Nat, p0 ≤ p1 ∧ p1 ≤ N ∧ v_B M0 (r_ru C t p1) M2 p1 ∧ r_ru C t p1 2 1 = 4 ∧ r_ru C t p1 2 2 = 0 ∧ r_ru C t p1 3 1 = L + 1 ∧ M2 69 9 = L ∧ r_ff C t (N - p1) p1 = v) ∨ (b = 0 ∧ v_F M0 M2 ∧ v = M2 69 3 ∧ v ≠ -9))) := by
  intro n
  induction n with
  | zero =>
    intro p M hNp hpN hp0 hB hS hv
    have hI := hB.2.2.2.1
    have hD := hI.1
    have hL := hI.2.1
    have hdp := hI.2.2.2.1
    have h2 : M 69 2 = (N : Int) := by rw [hB.1.2.1 2 (by omega) (by omega) (by omega)]; exact hN2
    have h3 := hB.2.2.2.2
    have hst := hS.st
    have h1 := hS.1
    have hL2 := hS.2.2
    have hRI := v_RI hB hS.2.2.1 hS.2.2.2.1 hS.2.2.2.2
    have hb1 := hRI.1
    have hb2 := hRI.2
    refine gj_aload_n 20 dX8_readSheet_19 rfl rfl ?_
    refine gj_getfiE ((p : Int)) 23 dX8_readSheet_20 rfl fl_8_90 rfl rfl h3 (fun r_20 => ?_)
    refine gj_aload_n 24 dX8_readSheet_23 rfl rfl ?_
    refine gj_getfiE ((N : Int)) 27 dX8_readSheet_24 rfl fl_8_87 rfl rfl h2 (fun r_24 => ?_)
    refine gj_icmp_ge 279 30 dX8_readSheet_27 (by decide) rfl (by omega) (by omega) (fun c_27 => ?_) (fun c_27 => absurd c_27 (by omega))
    refine gj_iconst 280 dX8_readSheet_279 rfl ?_
    refine gj_zret dX8_readSheet_280 rfl (by omega) ⟨Nat.zero_le _, Nat.zero_le _⟩ ?_
    have e : v = (p : Int) := ff_end (by omega) (by omega) hv
    exact ⟨rfl, 0, rfl, Or.inr ⟨rfl, hB.1, e.trans h3.symm, by omega⟩⟩
  | succ n ih =>
    intro p M hNp hpN hp0 hB hS hv
    have hI := hB.2.2.2.1
    have hD := hI.1
    have hL := hI.2.1
    have hdp := hI.2.2.2.1
    have h2 : M 69 2 = (N : Int) := by rw [hB.1.2.1 2 (by omega) (by omega) (by omega)]; exact hN2
    have h3 := hB.2.2.2.2
    have hst := hS.st
    have h1 := hS.1
    have hL2 := hS.2.2
    have hRI := v_RI hB hS.2.2.1 hS.2.2.2.1 hS.2.2.2.2
    have hb1 := hRI.1
    have hb2 := hRI.2
    refine gj_aload_n 20 dX8_readSheet_19 rfl rfl ?_
    refine gj_getfiE ((p : Int)) 23 dX8_readSheet_20 rfl fl_8_90 rfl rfl h3 (fun r_20 => ?_)
    refine gj_aload_n 24 dX8_readSheet_23 rfl rfl ?_
    refine gj_getfiE ((N : Int)) 27 dX8_readSheet_24 rfl fl_8_87 rfl rfl h2 (fun r_24 => ?_)
    refine gj_icmp_ge 279 30 dX8_readSheet_27 (by decide) rfl (by omega) (by omega) (fun c_27 => ?_) (fun c_27 => ?_)
    · refine gj_iconst 280 dX8_readSheet_279 rfl ?_
      refine gj_zret dX8_readSheet_280 rfl (by omega) ⟨Nat.zero_le _, Nat.zero_le _⟩ ?_
      have e : v = (p : Int) := ff_end (by omega) (by omega) hv
      exact ⟨rfl, 0, rfl, Or.inr ⟨rfl, hB.1, e.trans h3.symm, by omega⟩⟩
    · have hpN2 : p < N := by omega
      have htp : M 70 (p : Int) = t p := by rw [hB.1.1 70 (by decide)]; exact ht p hpN2
      have htc := hc p hpN2
      refine gj_aload_n 31 dX8_readSheet_30 rfl rfl ?_
      refine gj_getfr 34 dX8_readSheet_31 rfl fl_8_7 rfl rfl ?_
      refine gj_aload_n 35 dX8_readSheet_34 rfl rfl ?_
      refine gj_getfiE ((p : Int)) 38 dX8_readSheet_35 rfl fl_8_90 rfl rfl h3 (fun r_35 => ?_)
      refine gj_ialdE (t p) 39 dX8_readSheet_38 rfl rfl (by omega) (by omega) htp (fun r_38 => ?_)
      refine gj_istore_n (lv' := [_, _, _, _]) 40 dX8_readSheet_39 rfl (by decide) rfl ?_
      refine gj_iload_n 41 dX8_readSheet_40 rfl rfl ?_
      refine gj_bipush 43 dX8_readSheet_41 rfl (by decide) ?_
      refine gj_icmp_ne 74 46 dX8_readSheet_43 (by decide) rfl (by omega) (by omega) (fun c_43 => ?_) (fun c_43 => ?_)
      · refine gj_iload_n 75 dX8_readSheet_74 rfl rfl ?_
        refine gj_bipush 77 dX8_readSheet_75 rfl (by decide) ?_
        refine gj_icmp_ne 125 80 dX8_readSheet_77 (by decide) rfl (by omega) (by omega) (fun c_77 => ?_) (fun c_77 => ?_)
        · refine gj_iload_n 126 dX8_readSheet_125 rfl rfl ?_
          refine gj_bipush 128 dX8_readSheet_126 rfl (by decide) ?_
          refine gj_icmp_ne 196 131 dX8_readSheet_128 (by decide) rfl (by omega) (by omega) (fun c_128 => ?_) (fun c_128 => ?_)
          · refine gj_iload_n 197 dX8_readSheet_196 rfl rfl ?_
            refine gj_bipush 199 dX8_readSheet_197 rfl (by decide) ?_
            refine gj_icmp_eq 223 202 dX8_readSheet_199 (by decide) rfl (by omega) (by omega) (fun c_199 => ?_) (fun c_199 => ?_)
            · refine gj_aload_n 224 dX8_readSheet_223 rfl rfl ?_
              refine gj_dup 225 dX8_readSheet_224 rfl (fun _ => rfl) ?_
              refine gj_getfiE ((p : Int)) 228 dX8_readSheet_225 rfl fl_8_90 rfl rfl h3 (fun r_225 => ?_)
              refine gj_iconst 229 dX8_readSheet_228 rfl ?_
              refine gj_iadd 230 dX8_readSheet_229 rfl ?_
              refine gj_top ((p + 1 : Nat) : Int) (by omega) ?_
              refine gj_putfi 233 dX8_readSheet_230 rfl fw_8_90 rfl rfl (by omega) ?_
              have hd : ∃ d : Int, (t p = 45 ∧ d = -9) ∨ (t p - 97 = d ∧ 0 ≤ d ∧ d < r_ru C t p 3 0) := by
                by_cases z : t p = 45
                · exact ⟨-9, Or.inl ⟨z, rfl⟩⟩
                · exact ⟨t p - 97, Or.inr ⟨rfl, by omega, by omega⟩⟩
              obtain ⟨d, hd⟩ := hd
              have k := rs_it1 hst hd
              have n1 : r_ru C t (p + 1) = gj_u (gj_u (r_ru C t p) 2 4 d) 2 1 7 := k.2
              have g1 := ff_go hpN2 k.1 hv
              have hF1 : v_F M0 (gj_u M 69 3 ((p + 1 : Nat) : Int)) := hB.1.f (Or.inl rfl)
              have f1 := y_fg_c (a := 1) (b := 9) hF1 hN2 ht (q := p + 1) gj_u_s
              have s1 : r_ru C t (p + 1) 2 1 = 7 := by rw [n1]; rfl
              refine gj_aload_n 234 dX8_readSheet_233 rfl rfl ?_
              refine gj_iconst 235 dX8_readSheet_234 rfl ?_
              refine gj_bipush 237 dX8_readSheet_235 rfl (by decide) ?_
              refine gj_fV 240 dX8_readSheet_237 rfl ok_8_figure ml_8_96 iv_8_figure (As := [gI _, gI _]) rfl rfl rfl rfl (Nat.le_of_ble_eq_true rfl) ⟨Nat.le_of_ble_eq_true rfl, Nat.le_of_ble_eq_true rfl⟩ (Nat.le_of_ble_eq_true rfl) ⟨rfl, rfl⟩ ⟨Nat.zero_le _, Nat.zero_le _⟩ (s8_fig hN hN2 ht hc (by omega) (by omega) hF1 gj_u_s (by omega)) ?_
              refine gj_istore_n (lv' := [_, _, _, _]) 241 dX8_readSheet_240 rfl (by decide) rfl ?_
              refine gj_iload_n 242 dX8_readSheet_241 rfl rfl ?_
              refine gj_bipush 244 dX8_readSheet_242 rfl (by decide) ?_
              refine gj_icmp_ne 249 247 dX8_readSheet_244 (by decide) rfl (by omega) (by omega) (fun c_244 => ?_) (fun c_244 => ?_)
              · have w := f1.resolve_right (fun z => c_244 z.2.1)
                obtain ⟨z1, z2, z3, z4⟩ := w
                rw [z3]
                refine gj_mem (z4.trans (gj_u_u _ _ _ _ _)) ?_
                refine gj_aload_n 250 dX8_readSheet_249 rfl rfl ?_
                refine gj_iload_n 251 dX8_readSheet_250 rfl rfl ?_
                refine gj_bipush 253 dX8_readSheet_251 rfl (by decide) ?_
                refine gj_icmp_ne 261 256 dX8_readSheet_253 (by decide) rfl (by omega) (by omega) (fun c_253 => ?_) (fun c_253 => ?_)
                · refine gj_iload_n 262 dX8_readSheet_261 rfl rfl ?_
                  refine gj_bipush 264 dX8_readSheet_262 rfl (by decide) ?_
                  refine gj_isub 265 dX8_readSheet_264 rfl ?_
                  refine gj_top d (by omega) ?_
                  refine gj_iload_n 266 dX8_readSheet_265 rfl rfl ?_
                  refine gj_vV 269 dX8_readSheet_266 rfl ok_8_spread ml_8_103 iv_8_spread (As := [gI _, gI _]) rfl rfl rfl rfl (Nat.le_of_ble_eq_true rfl) ⟨Nat.le_of_ble_eq_true rfl, Nat.le_of_ble_eq_true rfl⟩ (Nat.le_of_ble_eq_true rfl) ⟨rfl, rfl⟩ ⟨Nat.zero_le _, Nat.zero_le _⟩ (s8_spread (show y_RI _ from hRI) (by omega) (by omega)) ?_
                  refine gj_aload_n 270 dX8_readSheet_269 rfl rfl ?_
                  refine gj_getfr 273 dX8_readSheet_270 rfl fl_8_31 rfl rfl ?_
                  refine gj_iload_n 274 dX8_readSheet_273 rfl rfl ?_
                  refine gj_iconst 275 dX8_readSheet_274 rfl ?_
                  refine gj_bast 276 dX8_readSheet_275 rfl rfl (by omega) (by omega) (by omega) ?_
                  refine gj_goto 19 dX8_readSheet_276 (by decide) ?_
                  first
                  | (have c40 : t p = 40 := by omega
                     have k := v_opn hB hS (by omega)
                     have n1 : r_ru C t (p + 1) = r_op (r_ru C t p) := by
                       show r_tk _ (t p) = _
                       rw [c40]; exact (rs_op hst).2
                     exact gj_wk (ih (p + 1) _ (by omega) (by omega) (by omega) (by rw [n1]; exact k.2.1) (by rw [n1]; exact k.2.2.1) (ff_go hpN2 (by rw [c40, (rs_op hst).1]; exact k.1) hv)) ⟨rfl, by rw [n1, k.2.2.2], trivial⟩)
                  | (have n2 : r_ru C t (p + 2) = r_tm (gj_u (r_ru C t p) 2 1 8) (t ((p + 1 : Nat) : Int) - 48) := by
                       show r_tk (r_ru C t (p + 1)) _ = _
                       rw [(tk_8 s1).2, n1]
                     have k2 := v_cls (k := t ((p + 1 : Nat) : Int) - 48) hB hS hd1 z2
                     exact gj_wk (ih (p + 2) _ (by omega) (by omega) (by omega) (by rw [n2]; exact k2.2.1) (by rw [n2]; exact k2.2.2.1) (ff_go z1 (by rw [(tk_8 s1).1, n1]; exact k2.1) g1)) ⟨rfl, by rw [n2, k2.2.2.2], trivial⟩)
                  | (have n2 : r_ru C t (p + 2) = r_hd (gj_u (gj_u (r_ru C t p) 2 4 d) 2 1 7) (t ((p + 1 : Nat) : Int) - 48) := by
                       show r_tk (r_ru C t (p + 1)) _ = _
                       rw [(tk_7 s1).2, n1]
                     have k2 := v_itm (d := d) (n := t ((p + 1 : Nat) : Int) - 48) hB hS z2
                     exact gj_wk (ih (p + 2) _ (by omega) (by omega) (by omega) (by rw [n2]; exact k2.2.1) (by rw [n2]; exact k2.2.2.1) (ff_go z1 (by rw [(tk_7 s1).1]; exact k2.1) g1)) ⟨rfl, by rw [n2, k2.2.2.2] <;> rfl, trivial⟩)
                · refine gj_bipush 258 dX8_readSheet_256 rfl (by decide) ?_
                  refine gj_goto 265 dX8_readSheet_258 (by decide) ?_
                  refine gj_top d (by omega) ?_
                  refine gj_iload_n 266 dX8_readSheet_265 rfl rfl ?_
                  refine gj_vV 269 dX8_readSheet_266 rfl ok_8_spread ml_8_103 iv_8_spread (As := [gI _, gI _]) rfl rfl rfl rfl (Nat.le_of_ble_eq_true rfl) ⟨Nat.le_of_ble_eq_true rfl, Nat.le_of_ble_eq_true rfl⟩ (Nat.le_of_ble_eq_true rfl) ⟨rfl, rfl⟩ ⟨Nat.zero_le _, Nat.zero_le _⟩ (s8_spread (show y_RI _ from hRI) (by omega) (by omega)) ?_
                  refine gj_aload_n 270 dX8_readSheet_269 rfl rfl ?_
                  refine gj_getfr 273 dX8_readSheet_270 rfl fl_8_31 rfl rfl ?_
                  refine gj_iload_n 274 dX8_readSheet_273 rfl rfl ?_
                  refine gj_iconst 275 dX8_readSheet_274 rfl ?_
                  refine gj_bast 276 dX8_readSheet_275 rfl rfl (by omega) (by omega) (by omega) ?_
                  refine gj_goto 19 dX8_readSheet_276 (by decide) ?_
                  first
                  | (have c40 : t p = 40 := by omega
                     have k := v_opn hB hS (by omega)
                     have n1 : r_ru C t (p + 1) = r_op (r_ru C t p) := by
                       show r_tk _ (t p) = _
                       rw [c40]; exact (rs_op hst).2
                     exact gj_wk (ih (p + 1) _ (by omega) (by omega) (by omega) (by rw [n1]; exact k.2.1) (by rw [n1]; exact k.2.2.1) (ff_go hpN2 (by rw [c40, (rs_op hst).1]; exact k.1) hv)) ⟨rfl, by rw [n1, k.2.2.2], trivial⟩)
                  | (have n2 : r_ru C t (p + 2) = r_tm (gj_u (r_ru C t p) 2 1 8) (t ((p + 1 : Nat) : Int) - 48) := by
                       show r_tk (r_ru C t (p + 1)) _ = _
                       rw [(tk_8 s1).2, n1]
                     have k2 := v_cls (k := t ((p + 1 : Nat) : Int) - 48) hB hS hd1 z2
                     exact gj_wk (ih (p + 2) _ (by omega) (by omega) (by omega) (by rw [n2]; exact k2.2.1) (by rw [n2]; exact k2.2.2.1) (ff_go z1 (by rw [(tk_8 s1).1, n1]; exact k2.1) g1)) ⟨rfl, by rw [n2, k2.2.2.2], trivial⟩)
                  | (have n2 : r_ru C t (p + 2) = r_hd (gj_u (gj_u (r_ru C t p) 2 4 d) 2 1 7) (t ((p + 1 : Nat) : Int) - 48) := by
                       show r_tk (r_ru C t (p + 1)) _ = _
                       rw [(tk_7 s1).2, n1]
                     have k2 := v_itm (d := d) (n := t ((p + 1 : Nat) : Int) - 48) hB hS z2
                     exact gj_wk (ih (p + 2) _ (by omega) (by omega) (by omega) (by rw [n2]; exact k2.2.1) (by rw [n2]; exact k2.2.2.1) (ff_go z1 (by rw [(tk_7 s1).1]; exact k2.1) g1)) ⟨rfl, by rw [n2, k2.2.2.2] <;> rfl, trivial⟩)
              · refine gj_iconst 248 dX8_readSheet_247 rfl ?_
                refine gj_zret dX8_readSheet_248 rfl (by omega) ⟨Nat.zero_le _, Nat.zero_le _⟩ ?_
                have w := f1.resolve_left (fun z => by have y1 := z.2.1; have y2 := z.2.2.1; omega)
                have e : v = ((p + 1 : Nat) : Int) := by
                  by_cases z : p + 1 < N
                  · exact ff_no z (by rw [(tk_7 s1).1]; unfold a_hd; rw [if_pos (by have := w.1; omega)]) g1
                  · exact ff_end (by omega) (by omega) g1
                rw [w.2.2]
                exact ⟨rfl, 0, rfl, Or.inr ⟨rfl, hF1, e.trans gj_u_s.symm, by omega⟩⟩
            · refine gj_iload_n 203 dX8_readSheet_202 rfl rfl ?_
              refine gj_bipush 205 dX8_readSheet_203 rfl (by decide) ?_
              refine gj_isub 206 dX8_readSheet_205 rfl ?_
              refine gj_i2l 207 dX8_readSheet_206 rfl (by omega) ?_
              refine gj_lconst (a := 0) 208 dX8_readSheet_207 rfl rfl ?_
              refine gj_aload_n 209 dX8_readSheet_208 rfl rfl ?_
              refine gj_getfiE (r_ru C t p 3 0) 212 dX8_readSheet_209 rfl fl_8_93 rfl rfl hB.2.1.1 (fun r_209 => ?_)
              refine gj_iconst 213 dX8_readSheet_212 rfl ?_
              refine gj_isub 214 dX8_readSheet_213 rfl ?_
              refine gj_i2l 215 dX8_readSheet_214 rfl (by omega) ?_
              refine gj_fS 218 dX8_readSheet_215 rfl ok_8_in ml_8_76 is_8_in (As := [gL _, gL _, gL _]) rfl rfl (Nat.le_of_ble_eq_true rfl) ⟨Nat.le_of_ble_eq_true rfl, Nat.le_of_ble_eq_true rfl⟩ (Nat.le_of_ble_eq_true rfl) ⟨rfl, rfl⟩ ⟨Nat.zero_le _, Nat.zero_le _⟩ (s8_in (by omega) (by omega) (by omega)) ?_
              have hci := y_in_c (t p - 97) 0 (r_ru C t p 3 0 - 1)
              refine gj_if_ne 223 221 dX8_readSheet_218 (by decide) rfl (by omega) (fun c_218 => ?_) (fun c_218 => ?_)
              · refine gj_aload_n 224 dX8_readSheet_223 rfl rfl ?_
                refine gj_dup 225 dX8_readSheet_224 rfl (fun _ => rfl) ?_
                refine gj_getfiE ((p : Int)) 228 dX8_readSheet_225 rfl fl_8_90 rfl rfl h3 (fun r_225 => ?_)
                refine gj_iconst 229 dX8_readSheet_228 rfl ?_
                refine gj_iadd 230 dX8_readSheet_229 rfl ?_
                refine gj_top ((p + 1 : Nat) : Int) (by omega) ?_
                refine gj_putfi 233 dX8_readSheet_230 rfl fw_8_90 rfl rfl (by omega) ?_
                have hd : ∃ d : Int, (t p = 45 ∧ d = -9) ∨ (t p - 97 = d ∧ 0 ≤ d ∧ d < r_ru C t p 3 0) := by
                  by_cases z : t p = 45
                  · exact ⟨-9, Or.inl ⟨z, rfl⟩⟩
                  · exact ⟨t p - 97, Or.inr ⟨rfl, by omega, by omega⟩⟩
                obtain ⟨d, hd⟩ := hd
                have k := rs_it1 hst hd
                have n1 : r_ru C t (p + 1) = gj_u (gj_u (r_ru C t p) 2 4 d) 2 1 7 := k.2
                have g1 := ff_go hpN2 k.1 hv
                have hF1 : v_F M0 (gj_u M 69 3 ((p + 1 : Nat) : Int)) := hB.1.f (Or.inl rfl)
                have f1 := y_fg_c (a := 1) (b := 9) hF1 hN2 ht (q := p + 1) gj_u_s
                have s1 : r_ru C t (p + 1) 2 1 = 7 := by rw [n1]; rfl
                refine gj_aload_n 234 dX8_readSheet_233 rfl rfl ?_
                refine gj_iconst 235 dX8_readSheet_234 rfl ?_
                refine gj_bipush 237 dX8_readSheet_235 rfl (by decide) ?_
                refine gj_fV 240 dX8_readSheet_237 rfl ok_8_figure ml_8_96 iv_8_figure (As := [gI _, gI _]) rfl rfl rfl rfl (Nat.le_of_ble_eq_true rfl) ⟨Nat.le_of_ble_eq_true rfl, Nat.le_of_ble_eq_true rfl⟩ (Nat.le_of_ble_eq_true rfl) ⟨rfl, rfl⟩ ⟨Nat.zero_le _, Nat.zero_le _⟩ (s8_fig hN hN2 ht hc (by omega) (by omega) hF1 gj_u_s (by omega)) ?_
                refine gj_istore_n (lv' := [_, _, _, _]) 241 dX8_readSheet_240 rfl (by decide) rfl ?_
                refine gj_iload_n 242 dX8_readSheet_241 rfl rfl ?_
                refine gj_bipush 244 dX8_readSheet_242 rfl (by decide) ?_
                refine gj_icmp_ne 249 247 dX8_readSheet_244 (by decide) rfl (by omega) (by omega) (fun c_244 => ?_) (fun c_244 => ?_)
                · have w := f1.resolve_right (fun z => c_244 z.2.1)
                  obtain ⟨z1, z2, z3, z4⟩ := w
                  rw [z3]
                  refine gj_mem (z4.trans (gj_u_u _ _ _ _ _)) ?_
                  refine gj_aload_n 250 dX8_readSheet_249 rfl rfl ?_
                  refine gj_iload_n 251 dX8_readSheet_250 rfl rfl ?_
                  refine gj_bipush 253 dX8_readSheet_251 rfl (by decide) ?_
                  refine gj_icmp_ne 261 256 dX8_readSheet_253 (by decide) rfl (by omega) (by omega) (fun c_253 => ?_) (fun c_253 => ?_)
                  · refine gj_iload_n 262 dX8_readSheet_261 rfl rfl ?_
                    refine gj_bipush 264 dX8_readSheet_262 rfl (by decide) ?_
                    refine gj_isub 265 dX8_readSheet_264 rfl ?_
                    refine gj_top d (by omega) ?_
                    refine gj_iload_n 266 dX8_readSheet_265 rfl rfl ?_
                    refine gj_vV 269 dX8_readSheet_266 rfl ok_8_spread ml_8_103 iv_8_spread (As := [gI _, gI _]) rfl rfl rfl rfl (Nat.le_of_ble_eq_true rfl) ⟨Nat.le_of_ble_eq_true rfl, Nat.le_of_ble_eq_true rfl⟩ (Nat.le_of_ble_eq_true rfl) ⟨rfl, rfl⟩ ⟨Nat.zero_le _, Nat.zero_le _⟩ (s8_spread (show y_RI _ from hRI) (by omega) (by omega)) ?_
                    refine gj_aload_n 270 dX8_readSheet_269 rfl rfl ?_
                    refine gj_getfr 273 dX8_readSheet_270 rfl fl_8_31 rfl rfl ?_
                    refine gj_iload_n 274 dX8_readSheet_273 rfl rfl ?_
                    refine gj_iconst 275 dX8_readSheet_274 rfl ?_
                    refine gj_bast 276 dX8_readSheet_275 rfl rfl (by omega) (by omega) (by omega) ?_
                    refine gj_goto 19 dX8_readSheet_276 (by decide) ?_
                    first
                    | (have c40 : t p = 40 := by omega
                       have k := v_opn hB hS (by omega)
                       have n1 : r_ru C t (p + 1) = r_op (r_ru C t p) := by
                         show r_tk _ (t p) = _
                         rw [c40]; exact (rs_op hst).2
                       exact gj_wk (ih (p + 1) _ (by omega) (by omega) (by omega) (by rw [n1]; exact k.2.1) (by rw [n1]; exact k.2.2.1) (ff_go hpN2 (by rw [c40, (rs_op hst).1]; exact k.1) hv)) ⟨rfl, by rw [n1, k.2.2.2], trivial⟩)
                    | (have n2 : r_ru C t (p + 2) = r_tm (gj_u (r_ru C t p) 2 1 8) (t ((p + 1 : Nat) : Int) - 48) := by
                         show r_tk (r_ru C t (p + 1)) _ = _
                         rw [(tk_8 s1).2, n1]
                       have k2 := v_cls (k := t ((p + 1 : Nat) : Int) - 48) hB hS hd1 z2
                       exact gj_wk (ih (p + 2) _ (by omega) (by omega) (by omega) (by rw [n2]; exact k2.2.1) (by rw [n2]; exact k2.2.2.1) (ff_go z1 (by rw [(tk_8 s1).1, n1]; exact k2.1) g1)) ⟨rfl, by rw [n2, k2.2.2.2], trivial⟩)
                    | (have n2 : r_ru C t (p + 2) = r_hd (gj_u (gj_u (r_ru C t p) 2 4 d) 2 1 7) (t ((p + 1 : Nat) : Int) - 48) := by
                         show r_tk (r_ru C t (p + 1)) _ = _
                         rw [(tk_7 s1).2, n1]
                       have k2 := v_itm (d := d) (n := t ((p + 1 : Nat) : Int) - 48) hB hS z2
                       exact gj_wk (ih (p + 2) _ (by omega) (by omega) (by omega) (by rw [n2]; exact k2.2.1) (by rw [n2]; exact k2.2.2.1) (ff_go z1 (by rw [(tk_7 s1).1]; exact k2.1) g1)) ⟨rfl, by rw [n2, k2.2.2.2] <;> rfl, trivial⟩)
                  · refine gj_bipush 258 dX8_readSheet_256 rfl (by decide) ?_
                    refine gj_goto 265 dX8_readSheet_258 (by decide) ?_
                    refine gj_top d (by omega) ?_
                    refine gj_iload_n 266 dX8_readSheet_265 rfl rfl ?_
                    refine gj_vV 269 dX8_readSheet_266 rfl ok_8_spread ml_8_103 iv_8_spread (As := [gI _, gI _]) rfl rfl rfl rfl (Nat.le_of_ble_eq_true rfl) ⟨Nat.le_of_ble_eq_true rfl, Nat.le_of_ble_eq_true rfl⟩ (Nat.le_of_ble_eq_true rfl) ⟨rfl, rfl⟩ ⟨Nat.zero_le _, Nat.zero_le _⟩ (s8_spread (show y_RI _ from hRI) (by omega) (by omega)) ?_
                    refine gj_aload_n 270 dX8_readSheet_269 rfl rfl ?_
                    refine gj_getfr 273 dX8_readSheet_270 rfl fl_8_31 rfl rfl ?_
                    refine gj_iload_n 274 dX8_readSheet_273 rfl rfl ?_
                    refine gj_iconst 275 dX8_readSheet_274 rfl ?_
                    refine gj_bast 276 dX8_readSheet_275 rfl rfl (by omega) (by omega) (by omega) ?_
                    refine gj_goto 19 dX8_readSheet_276 (by decide) ?_
                    first
                    | (have c40 : t p = 40 := by omega
                       have k := v_opn hB hS (by omega)
                       have n1 : r_ru C t (p + 1) = r_op (r_ru C t p) := by
                         show r_tk _ (t p) = _
                         rw [c40]; exact (rs_op hst).2
                       exact gj_wk (ih (p + 1) _ (by omega) (by omega) (by omega) (by rw [n1]; exact k.2.1) (by rw [n1]; exact k.2.2.1) (ff_go hpN2 (by rw [c40, (rs_op hst).1]; exact k.1) hv)) ⟨rfl, by rw [n1, k.2.2.2], trivial⟩)
                    | (have n2 : r_ru C t (p + 2) = r_tm (gj_u (r_ru C t p) 2 1 8) (t ((p + 1 : Nat) : Int) - 48) := by
                         show r_tk (r_ru C t (p + 1)) _ = _
                         rw [(tk_8 s1).2, n1]
                       have k2 := v_cls (k := t ((p + 1 : Nat) : Int) - 48) hB hS hd1 z2
                       exact gj_wk (ih (p + 2) _ (by omega) (by omega) (by omega) (by rw [n2]; exact k2.2.1) (by rw [n2]; exact k2.2.2.1) (ff_go z1 (by rw [(tk_8 s1).1, n1]; exact k2.1) g1)) ⟨rfl, by rw [n2, k2.2.2.2], trivial⟩)
                    | (have n2 : r_ru C t (p + 2) = r_hd (gj_u (gj_u (r_ru C t p) 2 4 d) 2 1 7) (t ((p + 1 : Nat) : Int) - 48) := by
                         show r_tk (r_ru C t (p + 1)) _ = _
                         rw [(tk_7 s1).2, n1]
                       have k2 := v_itm (d := d) (n := t ((p + 1 : Nat) : Int) - 48) hB hS z2
                       exact gj_wk (ih (p + 2) _ (by omega) (by omega) (by omega) (by rw [n2]; exact k2.2.1) (by rw [n2]; exact k2.2.2.1) (ff_go z1 (by rw [(tk_7 s1).1]; exact k2.1) g1)) ⟨rfl, by rw [n2, k2.2.2.2] <;> rfl, trivial⟩)
                · refine gj_iconst 248 dX8_readSheet_247 rfl ?_
                  refine gj_zret dX8_readSheet_248 rfl (by omega) ⟨Nat.zero_le _, Nat.zero_le _⟩ ?_
                  have w := f1.resolve_left (fun z => by have y1 := z.2.1; have y2 := z.2.2.1; omega)
                  have e : v = ((p + 1 : Nat) : Int) := by
                    by_cases z : p + 1 < N
                    · exact ff_no z (by rw [(tk_7 s1).1]; unfold a_hd; rw [if_pos (by have := w.1; omega)]) g1
                    · exact ff_end (by omega) (by omega) g1
                  rw [w.2.2]
                  exact ⟨rfl, 0, rfl, Or.inr ⟨rfl, hF1, e.trans gj_u_s.symm, by omega⟩⟩
              · refine gj_iconst 222 dX8_readSheet_221 rfl ?_
                refine gj_zret dX8_readSheet_222 rfl (by omega) ⟨Nat.zero_le _, Nat.zero_le _⟩ ?_
                have e : v = (p : Int) := ff_no hpN2 (rs_it0 hst (by omega) (by omega) (by omega) (by omega) (by omega)) hv
                exact ⟨rfl, 0, rfl, Or.inr ⟨rfl, hB.1, e.trans h3.symm, by omega⟩⟩
          · refine gj_iload_n 132 dX8_readSheet_131 rfl rfl ?_
            refine gj_if_eq 144 135 dX8_readSheet_132 (by decide) rfl (by omega) (fun c_132 => ?_) (fun c_132 => ?_)
            · refine gj_iconst 145 dX8_readSheet_144 rfl ?_
              refine gj_zret dX8_readSheet_145 rfl (by omega) ⟨Nat.zero_le _, Nat.zero_le _⟩ ?_
              have e : v = (p : Int) := ff_no hpN2 (by rw [show t p = 41 by omega]; exact rs_cl0 (by omega)) hv
              exact ⟨rfl, 0, rfl, Or.inr ⟨rfl, hB.1, e.trans h3.symm, by omega⟩⟩
            · refine gj_aload_n 136 dX8_readSheet_135 rfl rfl ?_
              refine gj_getfr 139 dX8_readSheet_136 rfl fl_8_31 rfl rfl ?_
              refine gj_iload_n 140 dX8_readSheet_139 rfl rfl ?_
              refine gj_bald 141 dX8_readSheet_140 rfl rfl (by omega) (by omega) (fun r_140 => ?_)
              refine gj_if_ne 146 144 dX8_readSheet_141 (by decide) rfl (by omega) (fun c_141 => ?_) (fun c_141 => ?_)
              · refine gj_aload_n 147 dX8_readSheet_146 rfl rfl ?_
                refine gj_dup 148 dX8_readSheet_147 rfl (fun _ => rfl) ?_
                refine gj_getfiE ((p : Int)) 151 dX8_readSheet_148 rfl fl_8_90 rfl rfl h3 (fun r_148 => ?_)
                refine gj_iconst 152 dX8_readSheet_151 rfl ?_
                refine gj_iadd 153 dX8_readSheet_152 rfl ?_
                refine gj_top ((p + 1 : Nat) : Int) (by omega) ?_
                refine gj_putfi 156 dX8_readSheet_153 rfl fw_8_90 rfl rfl (by omega) ?_
                have c41 : t p = 41 := by omega
                have h5 : r_ru C t p 2 1 = 5 := by omega
                have hd1 : 1 ≤ r_ru C t p 2 2 := by omega
                have k := rs_cl1 h5 (show 0 < r_ru C t p 2 2 by omega)
                rw [← c41] at k
                have n1 : r_ru C t (p + 1) = gj_u (r_ru C t p) 2 1 8 := k.2
                have g1 := ff_go hpN2 k.1 hv
                have hF1 : v_F M0 (gj_u M 69 3 ((p + 1 : Nat) : Int)) := hB.1.f (Or.inl rfl)
                have f1 := y_fg_c (a := 2) (b := 9) hF1 hN2 ht (q := p + 1) gj_u_s
                have s1 : r_ru C t (p + 1) 2 1 = 8 := by rw [n1]; rfl
                refine gj_aload_n 157 dX8_readSheet_156 rfl rfl ?_
                refine gj_iconst 158 dX8_readSheet_157 rfl ?_
                refine gj_bipush 160 dX8_readSheet_158 rfl (by decide) ?_
                refine gj_fV 163 dX8_readSheet_160 rfl ok_8_figure ml_8_96 iv_8_figure (As := [gI _, gI _]) rfl rfl rfl rfl (Nat.le_of_ble_eq_true rfl) ⟨Nat.le_of_ble_eq_true rfl, Nat.le_of_ble_eq_true rfl⟩ (Nat.le_of_ble_eq_true rfl) ⟨rfl, rfl⟩ ⟨Nat.zero_le _, Nat.zero_le _⟩ (s8_fig hN hN2 ht hc (by omega) (by omega) hF1 gj_u_s (by omega)) ?_
                refine gj_istore_n (lv' := [_, _, _, _]) 164 dX8_readSheet_163 rfl (by decide) rfl ?_
                refine gj_iload_n 165 dX8_readSheet_164 rfl rfl ?_
                refine gj_bipush 167 dX8_readSheet_165 rfl (by decide) ?_
                refine gj_icmp_ne 172 170 dX8_readSheet_167 (by decide) rfl (by omega) (by omega) (fun c_167 => ?_) (fun c_167 => ?_)
                · have w := f1.resolve_right (fun z => c_167 z.2.1)
                  obtain ⟨z1, z2, z3, z4⟩ := w
                  rw [z3]
                  refine gj_mem (z4.trans (gj_u_u _ _ _ _ _)) ?_
                  refine gj_aload_n 173 dX8_readSheet_172 rfl rfl ?_
                  refine gj_aload_n 174 dX8_readSheet_173 rfl rfl ?_
                  refine gj_getfr 177 dX8_readSheet_174 rfl fl_8_28 rfl rfl ?_
                  refine gj_iload_n 178 dX8_readSheet_177 rfl rfl ?_
                  refine gj_ialdE (r_ru C t p 8 (r_ru C t p 2 2 - 1)) 179 dX8_readSheet_178 rfl rfl (by omega) (by omega) (hS.2.1 _ (by omega) (by omega)) (fun r_178 => ?_)
                  refine gj_iload_n 180 dX8_readSheet_179 rfl rfl ?_
                  refine gj_vV 183 dX8_readSheet_180 rfl ok_8_over ml_8_107 iv_8_over (As := [gI _, gI _]) rfl rfl rfl rfl (Nat.le_of_ble_eq_true rfl) ⟨Nat.le_of_ble_eq_true rfl, Nat.le_of_ble_eq_true rfl⟩ (Nat.le_of_ble_eq_true rfl) ⟨rfl, rfl⟩ ⟨Nat.zero_le _, Nat.zero_le _⟩ (s8_over (show y_RI _ from hRI) (hI.2.2.2.2.2 _ (by omega) (by omega)) (by omega)) ?_
                  refine gj_iinc (b := (r_ru C t p 2 2 - 1)) (lv' := [_, _, _, _]) 186 dX8_readSheet_183 rfl rfl (by omega) (by decide) rfl ?_
                  refine gj_aload_n 187 dX8_readSheet_186 rfl rfl ?_
                  refine gj_getfr 190 dX8_readSheet_187 rfl fl_8_31 rfl rfl ?_
                  refine gj_iload_n 191 dX8_readSheet_190 rfl rfl ?_
                  refine gj_iconst 192 dX8_readSheet_191 rfl ?_
                  refine gj_bast 193 dX8_readSheet_192 rfl rfl (by omega) (by omega) (by omega) ?_
                  refine gj_goto 276 dX8_readSheet_193 (by decide) ?_
                  refine gj_goto 19 dX8_readSheet_276 (by decide) ?_
                  first
                  | (have c40 : t p = 40 := by omega
                     have k := v_opn hB hS (by omega)
                     have n1 : r_ru C t (p + 1) = r_op (r_ru C t p) := by
                       show r_tk _ (t p) = _
                       rw [c40]; exact (rs_op hst).2
                     exact gj_wk (ih (p + 1) _ (by omega) (by omega) (by omega) (by rw [n1]; exact k.2.1) (by rw [n1]; exact k.2.2.1) (ff_go hpN2 (by rw [c40, (rs_op hst).1]; exact k.1) hv)) ⟨rfl, by rw [n1, k.2.2.2], trivial⟩)
                  | (have n2 : r_ru C t (p + 2) = r_tm (gj_u (r_ru C t p) 2 1 8) (t ((p + 1 : Nat) : Int) - 48) := by
                       show r_tk (r_ru C t (p + 1)) _ = _
                       rw [(tk_8 s1).2, n1]
                     have k2 := v_cls (k := t ((p + 1 : Nat) : Int) - 48) hB hS hd1 z2
                     exact gj_wk (ih (p + 2) _ (by omega) (by omega) (by omega) (by rw [n2]; exact k2.2.1) (by rw [n2]; exact k2.2.2.1) (ff_go z1 (by rw [(tk_8 s1).1, n1]; exact k2.1) g1)) ⟨rfl, by rw [n2, k2.2.2.2], trivial⟩)
                  | (have n2 : r_ru C t (p + 2) = r_hd (gj_u (gj_u (r_ru C t p) 2 4 d) 2 1 7) (t ((p + 1 : Nat) : Int) - 48) := by
                       show r_tk (r_ru C t (p + 1)) _ = _
                       rw [(tk_7 s1).2, n1]
                     have k2 := v_itm (d := d) (n := t ((p + 1 : Nat) : Int) - 48) hB hS z2
                     exact gj_wk (ih (p + 2) _ (by omega) (by omega) (by omega) (by rw [n2]; exact k2.2.1) (by rw [n2]; exact k2.2.2.1) (ff_go z1 (by rw [(tk_7 s1).1]; exact k2.1) g1)) ⟨rfl, by rw [n2, k2.2.2.2] <;> rfl, trivial⟩)
                · refine gj_iconst 171 dX8_readSheet_170 rfl ?_
                  refine gj_zret dX8_readSheet_171 rfl (by omega) ⟨Nat.zero_le _, Nat.zero_le _⟩ ?_
                  have w := f1.resolve_left (fun z => by have y1 := z.2.1; have y2 := z.2.2.1; omega)
                  have e : v = ((p + 1 : Nat) : Int) := by
                    by_cases z : p + 1 < N
                    · exact ff_no z (by rw [(tk_8 s1).1]; unfold a_tm; rw [if_pos (by have := w.1; omega)]) g1
                    · exact ff_end (by omega) (by omega) g1
                  rw [w.2.2]
                  exact ⟨rfl, 0, rfl, Or.inr ⟨rfl, hF1, e.trans gj_u_s.symm, by omega⟩⟩
              · refine gj_iconst 145 dX8_readSheet_144 rfl ?_
                refine gj_zret dX8_readSheet_145 rfl (by omega) ⟨Nat.zero_le _, Nat.zero_le _⟩ ?_
                have e : v = (p : Int) := ff_no hpN2 (by rw [show t p = 41 by omega]; exact rs_cl0 (by omega)) hv
                exact ⟨rfl, 0, rfl, Or.inr ⟨rfl, hB.1, e.trans h3.symm, by omega⟩⟩
        · refine gj_iload_n 81 dX8_readSheet_80 rfl rfl ?_
          refine gj_iconst 82 dX8_readSheet_81 rfl ?_
          refine gj_icmp_ne 87 85 dX8_readSheet_82 (by decide) rfl (by omega) (by omega) (fun c_82 => ?_) (fun c_82 => ?_)
          · refine gj_iinc (lv' := [_, _, _, _]) 90 dX8_readSheet_87 rfl rfl rfl (by decide) rfl ?_
            refine gj_aload_n 91 dX8_readSheet_90 rfl rfl ?_
            refine gj_getfr 94 dX8_readSheet_91 rfl fl_8_28 rfl rfl ?_
            refine gj_iload_n 95 dX8_readSheet_94 rfl rfl ?_
            refine gj_aload_n 96 dX8_readSheet_95 rfl rfl ?_
            refine gj_getfr 99 dX8_readSheet_96 rfl fl_8_22 rfl rfl ?_
            refine gj_aload_n 100 dX8_readSheet_99 rfl rfl ?_
            refine gj_getfi 103 dX8_readSheet_100 rfl fl_8_100 rfl rfl (fun r_100 => ?_)
            refine gj_iald 104 dX8_readSheet_103 rfl rfl (by omega) (by omega) (fun r_103 => ?_)
            refine gj_iast 105 dX8_readSheet_104 rfl rfl (by omega) (by omega) (by omega) ?_
            refine gj_aload_n 106 dX8_readSheet_105 rfl rfl ?_
            refine gj_getfr 109 dX8_readSheet_106 rfl fl_8_31 rfl rfl ?_
            refine gj_iload_n 110 dX8_readSheet_109 rfl rfl ?_
            refine gj_iconst 111 dX8_readSheet_110 rfl ?_
            refine gj_bast 112 dX8_readSheet_111 rfl rfl (by omega) (by omega) (by omega) ?_
            refine gj_aload_n 113 dX8_readSheet_112 rfl rfl ?_
            refine gj_dup 114 dX8_readSheet_113 rfl (fun _ => rfl) ?_
            refine gj_getfiE ((p : Int)) 117 dX8_readSheet_114 rfl fl_8_90 rfl rfl h3 (fun r_114 => ?_)
            refine gj_iconst 118 dX8_readSheet_117 rfl ?_
            refine gj_iadd 119 dX8_readSheet_118 rfl ?_
            refine gj_top ((p + 1 : Nat) : Int) (by omega) ?_
            refine gj_putfi 122 dX8_readSheet_119 rfl fw_8_90 rfl rfl (by omega) ?_
            refine gj_goto 276 dX8_readSheet_122 (by decide) ?_
            refine gj_goto 19 dX8_readSheet_276 (by decide) ?_
            first
            | (have c40 : t p = 40 := by omega
               have k := v_opn hB hS (by omega)
               have n1 : r_ru C t (p + 1) = r_op (r_ru C t p) := by
                 show r_tk _ (t p) = _
                 rw [c40]; exact (rs_op hst).2
               exact gj_wk (ih (p + 1) _ (by omega) (by omega) (by omega) (by rw [n1]; exact k.2.1) (by rw [n1]; exact k.2.2.1) (ff_go hpN2 (by rw [c40, (rs_op hst).1]; exact k.1) hv)) ⟨rfl, by rw [n1, k.2.2.2], trivial⟩)
            | (have n2 : r_ru C t (p + 2) = r_tm (gj_u (r_ru C t p) 2 1 8) (t ((p + 1 : Nat) : Int) - 48) := by
                 show r_tk (r_ru C t (p + 1)) _ = _
                 rw [(tk_8 s1).2, n1]
               have k2 := v_cls (k := t ((p + 1 : Nat) : Int) - 48) hB hS hd1 z2
               exact gj_wk (ih (p + 2) _ (by omega) (by omega) (by omega) (by rw [n2]; exact k2.2.1) (by rw [n2]; exact k2.2.2.1) (ff_go z1 (by rw [(tk_8 s1).1, n1]; exact k2.1) g1)) ⟨rfl, by rw [n2, k2.2.2.2], trivial⟩)
            | (have n2 : r_ru C t (p + 2) = r_hd (gj_u (gj_u (r_ru C t p) 2 4 d) 2 1 7) (t ((p + 1 : Nat) : Int) - 48) := by
                 show r_tk (r_ru C t (p + 1)) _ = _
                 rw [(tk_7 s1).2, n1]
               have k2 := v_itm (d := d) (n := t ((p + 1 : Nat) : Int) - 48) hB hS z2
               exact gj_wk (ih (p + 2) _ (by omega) (by omega) (by omega) (by rw [n2]; exact k2.2.1) (by rw [n2]; exact k2.2.2.1) (ff_go z1 (by rw [(tk_7 s1).1]; exact k2.1) g1)) ⟨rfl, by rw [n2, k2.2.2.2] <;> rfl, trivial⟩)
          · refine gj_iconst 86 dX8_readSheet_85 rfl ?_
            refine gj_zret dX8_readSheet_86 rfl (by omega) ⟨Nat.zero_le _, Nat.zero_le _⟩ ?_
            have e : v = (p : Int) := ff_no hpN2 (by rw [show t p = 40 by omega, (rs_op hst).1]; unfold a_op; rw [if_pos (by omega)]) hv
            exact ⟨rfl, 0, rfl, Or.inr ⟨rfl, hB.1, e.trans h3.symm, by omega⟩⟩
      · refine gj_aload_n 47 dX8_readSheet_46 rfl rfl ?_
        refine gj_dup 48 dX8_readSheet_47 rfl (fun _ => rfl) ?_
        refine gj_getfiE ((p : Int)) 51 dX8_readSheet_48 rfl fl_8_90 rfl rfl h3 (fun r_48 => ?_)
        refine gj_iload_n 52 dX8_readSheet_51 rfl rfl ?_
        refine gj_if_ne 59 55 dX8_readSheet_52 (by decide) rfl (by omega) (fun c_52 => ?_) (fun c_52 => ?_)
        · refine gj_iconst 60 dX8_readSheet_59 rfl ?_
          refine gj_iadd 61 dX8_readSheet_60 rfl ?_
          refine gj_putfi 64 dX8_readSheet_61 rfl fw_8_90 rfl rfl (by omega) ?_
          refine gj_iload_n 65 dX8_readSheet_64 rfl rfl ?_
          refine gj_if_ne 72 68 dX8_readSheet_65 (by decide) rfl (by omega) (fun c_65 => ?_) (fun c_65 => ?_)
          · refine gj_iconst 73 dX8_readSheet_72 rfl ?_
            refine gj_zret dX8_readSheet_73 rfl (by omega) ⟨Nat.zero_le _, Nat.zero_le _⟩ ?_
            first
            | exact absurd c_52 (by omega)
            | (have h5 : r_ru C t p 2 1 = 5 := by omega
               have c46 : t p = 46 := by omega
               have k := rs_dot1 h5 (show r_ru C t p 2 2 = 0 by omega)
               rw [← c46] at k
               have n1 : r_ru C t (p + 1) = gj_u (r_ru C t p) 2 1 4 := k.2
               exact ⟨rfl, 1, rfl, Or.inl ⟨rfl, p + 1, by omega, by omega, hB.p (by rw [n1]; exact hI.aw (by omega)) (fun k hk => by rw [n1]; funext i; simp at hk; rw [gj_u_o (by omega)]) (by omega), by rw [n1]; rfl, by rw [n1]; show r_ru C t p 2 2 = 0; omega, by rw [n1]; exact hS.2.2.1, hS.2.2.2.1, ff_go hpN2 k.1 hv⟩⟩)
            | (have c46 : t p = 46 := by omega
               have e : v = (p : Int) := ff_no hpN2 (by rw [c46]; exact rs_dot0 hst (by omega)) hv
               exact ⟨rfl, 0, rfl, Or.inr ⟨rfl, hB.1.f (Or.inl rfl), by rw [gj_u_s]; omega, by omega⟩⟩)
          · refine gj_iconst 69 dX8_readSheet_68 rfl ?_
            refine gj_goto 73 dX8_readSheet_69 (by decide) ?_
            refine gj_zret dX8_readSheet_73 rfl (by omega) ⟨Nat.zero_le _, Nat.zero_le _⟩ ?_
            first
            | exact absurd c_52 (by omega)
            | (have h5 : r_ru C t p 2 1 = 5 := by omega
               have c46 : t p = 46 := by omega
               have k := rs_dot1 h5 (show r_ru C t p 2 2 = 0 by omega)
               rw [← c46] at k
               have n1 : r_ru C t (p + 1) = gj_u (r_ru C t p) 2 1 4 := k.2
               exact ⟨rfl, 1, rfl, Or.inl ⟨rfl, p + 1, by omega, by omega, hB.p (by rw [n1]; exact hI.aw (by omega)) (fun k hk => by rw [n1]; funext i; simp at hk; rw [gj_u_o (by omega)]) (by omega), by rw [n1]; rfl, by rw [n1]; show r_ru C t p 2 2 = 0; omega, by rw [n1]; exact hS.2.2.1, hS.2.2.2.1, ff_go hpN2 k.1 hv⟩⟩)
            | (have c46 : t p = 46 := by omega
               have e : v = (p : Int) := ff_no hpN2 (by rw [c46]; exact rs_dot0 hst (by omega)) hv
               exact ⟨rfl, 0, rfl, Or.inr ⟨rfl, hB.1.f (Or.inl rfl), by rw [gj_u_s]; omega, by omega⟩⟩)
        · refine gj_iconst 56 dX8_readSheet_55 rfl ?_
          refine gj_goto 60 dX8_readSheet_56 (by decide) ?_
          refine gj_iadd 61 dX8_readSheet_60 rfl ?_
          refine gj_putfi 64 dX8_readSheet_61 rfl fw_8_90 rfl rfl (by omega) ?_
          refine gj_iload_n 65 dX8_readSheet_64 rfl rfl ?_
          refine gj_if_ne 72 68 dX8_readSheet_65 (by decide) rfl (by omega) (fun c_65 => ?_) (fun c_65 => ?_)
          · refine gj_iconst 73 dX8_readSheet_72 rfl ?_
            refine gj_zret dX8_readSheet_73 rfl (by omega) ⟨Nat.zero_le _, Nat.zero_le _⟩ ?_
            first
            | exact absurd c_52 (by omega)
            | (have h5 : r_ru C t p 2 1 = 5 := by omega
               have c46 : t p = 46 := by omega
               have k := rs_dot1 h5 (show r_ru C t p 2 2 = 0 by omega)
               rw [← c46] at k
               have n1 : r_ru C t (p + 1) = gj_u (r_ru C t p) 2 1 4 := k.2
               exact ⟨rfl, 1, rfl, Or.inl ⟨rfl, p + 1, by omega, by omega, hB.p (by rw [n1]; exact hI.aw (by omega)) (fun k hk => by rw [n1]; funext i; simp at hk; rw [gj_u_o (by omega)]) (by omega), by rw [n1]; rfl, by rw [n1]; show r_ru C t p 2 2 = 0; omega, by rw [n1]; exact hS.2.2.1, hS.2.2.2.1, ff_go hpN2 k.1 hv⟩⟩)
            | (have c46 : t p = 46 := by omega
               have e : v = (p : Int) := ff_no hpN2 (by rw [c46]; exact rs_dot0 hst (by omega)) hv
               exact ⟨rfl, 0, rfl, Or.inr ⟨rfl, hB.1.f (Or.inl rfl), by rw [gj_u_s]; omega, by omega⟩⟩)
          · refine gj_iconst 69 dX8_readSheet_68 rfl ?_
            refine gj_goto 73 dX8_readSheet_69 (by decide) ?_
            refine gj_zret dX8_readSheet_73 rfl (by omega) ⟨Nat.zero_le _, Nat.zero_le _⟩ ?_
            first
            | exact absurd c_52 (by omega)
            | (have h5 : r_ru C t p 2 1 = 5 := by omega
               have c46 : t p = 46 := by omega
               have k := rs_dot1 h5 (show r_ru C t p 2 2 = 0 by omega)
               rw [← c46] at k
               have n1 : r_ru C t (p + 1) = gj_u (r_ru C t p) 2 1 4 := k.2
               exact ⟨rfl, 1, rfl, Or.inl ⟨rfl, p + 1, by omega, by omega, hB.p (by rw [n1]; exact hI.aw (by omega)) (fun k hk => by rw [n1]; funext i; simp at hk; rw [gj_u_o (by omega)]) (by omega), by rw [n1]; rfl, by rw [n1]; show r_ru C t p 2 2 = 0; omega, by rw [n1]; exact hS.2.2.1, hS.2.2.2.1, ff_go hpN2 k.1 hv⟩⟩)
            | (have c46 : t p = 46 := by omega
               have e : v = (p : Int) := ff_no hpN2 (by rw [c46]; exact rs_dot0 hst (by omega)) hv
               exact ⟨rfl, 0, rfl, Or.inr ⟨rfl, hB.1.f (Or.inl rfl), by rw [gj_u_s]; omega, by omega⟩⟩)

set_option maxRecDepth 100000 in
set_option maxHeartbeats 1000000 in
theorem s8_rs {xt : Nat × (Nat → Int)} {M : gj_M} {M0 C : gj_M} {t : Int → Int} {N : Nat} {v : Int} (hN : N ≤ 80) (hN2 : M0 69 2 = (N : Int)) (ht : ∀ i : Nat, i < N → M0 70 i = t i) (hc : ∀ i : Nat, i < N → 0 ≤ t i ∧ t i ≤ 255) {p : Nat} (hB : v_B M0 (gj_u (r_ru C t p) 3 1 (M 69 9)) M p) (h31 : r_ru C t p 3 1 = M 69 9 + 1) (h6 : r_ru C t p 6 (M 69 9) = 0) (h21 : r_ru C t p 2 1 = 5) (h22 : r_ru C t p 2 2 = 0) (hL : 0 ≤ M 69 9 ∧ M 69 9 < 4) (hI : r_I (r_ru C t p)) (hpN : p ≤ N) (hv : r_ff C t (N - p) p = v) : gj_T xt Y8_readSheet gS [gR 69] M (fun r M2 => ∃ b : Int, r = some (gI b) ∧ ((b = 1 ∧ ∃ p1 : Nat, p ≤ p1 ∧ p1 ≤ N ∧ v_B M0 (r_ru C t p1) M2 p1 ∧ r_ru C t p1 2 1 = 4 ∧ r_ru C t p1 2 2 = 0 ∧ r_ru C t p1 3 1 = M 69 9 + 1 ∧ M2 69 9 = M 69 9 ∧ r_ff C t (N - p1) p1 = v) ∨ (b = 0 ∧ v_F M0 M2 ∧ v = M2 69 3 ∧ v ≠ -9))) := by
  show gj_G _ Y8_readSheet gS 0 0 0 [_, _, _, _] [] M _
  refine gj_iconst 1 dX8_readSheet_0 rfl ?_
  refine gj_istore_n (lv' := [_, _, _, _]) 2 dX8_readSheet_1 rfl (by decide) rfl ?_
  refine gj_aload_n 3 dX8_readSheet_2 rfl rfl ?_
  refine gj_getfr 6 dX8_readSheet_3 rfl fl_8_31 rfl rfl ?_
  refine gj_iconst 7 dX8_readSheet_6 rfl ?_
  refine gj_iconst 8 dX8_readSheet_7 rfl ?_
  refine gj_bast 9 dX8_readSheet_8 rfl rfl (by omega) (by omega) (by omega) ?_
  refine gj_aload_n 10 dX8_readSheet_9 rfl rfl ?_
  refine gj_getfr 13 dX8_readSheet_10 rfl fl_8_22 rfl rfl ?_
  refine gj_aload_n 14 dX8_readSheet_13 rfl rfl ?_
  refine gj_getfiE (M 69 9) 17 dX8_readSheet_14 rfl fl_8_100 rfl rfl rfl (fun r_14 => ?_)
  refine gj_iconst 18 dX8_readSheet_17 rfl ?_
  refine gj_iast 19 dX8_readSheet_18 rfl rfl (by omega) (by omega) (by omega) ?_
  have hB2 : v_B M0 (r_ru C t p) (gj_u (gj_u M 77 0 0) 74 (M 69 9) 0) p := by
    refine ⟨(hB.1.u (by decide)).u4, hB.2.1, ?_, hI, hB.2.2.2.2⟩
    intro l l0 l1
    by_cases q : l = M 69 9
    · rw [q, gj_u_s, h6]
      exact ⟨rfl, fun g g0 g1 => by omega⟩
    · rw [gj_u_i q]
      have hh := hB.2.2.1 l l0 (show l < M 69 9 by omega)
      exact hh
  have hS2 : v_S (r_ru C t p) (gj_u (gj_u M 77 0 0) 74 (M 69 9) 0) (M 69 9) := ⟨Or.inl ⟨h21, Or.inl h22⟩, fun i i1 i2 => by omega, h31, rfl, hL.1⟩
  exact gj_wk (s8_rs_l hN hN2 ht hc N p _ (by omega) hpN (Nat.le_refl _) hB2 hS2 hv) ⟨rfl, by rw [h22], trivial⟩

theorem tk_14 {A : gj_M} {c : Int} (h : A 2 1 = 4 ∨ (A 2 1 = 1 ∧ c ≠ 100)) : a_tk A c = a_lv A c ∧ r_tk A c = r_lv A c := by
  rcases h with h | h
  · exact tk_4 h
  · rw [(tk_1 h.1).1, (tk_1 h.1).2, if_neg h.2, if_neg h.2]
    exact ⟨rfl, rfl⟩
/-- a level begins -/
theorem v_lvl {M0 A A' M : gj_M} {p : Nat} (h : v_B M0 A M p) (hL : A 3 1 = M 69 9) (h4 : A 3 1 < 4) (he : A' = gj_u (gj_u (gj_u A 6 (A 3 1) 0) 3 1 (A 3 1 + 1)) 2 1 5) : v_B M0 (gj_u A' 3 1 (M 69 9)) (gj_u M 69 3 ((p + 1 : Nat) : Int)) (p + 1) ∧ r_I A' := by
  obtain ⟨g1, g2, g3, g4, g5⟩ := h
  have hI : r_I A' := by
    rw [he]
    have := r_al_I g4
    unfold r_al at this
    rw [if_pos h4] at this
    exact this.aw (by omega)
  have hb := g4.2.1
  refine ⟨⟨g1.f (Or.inl rfl), ?_, ?_, ⟨hI.1, by show 0 ≤ M 69 9 ∧ M 69 9 ≤ 4; omega, hI.2.2⟩, rfl⟩, hI⟩
  · rw [he]; exact g2
  · intro l l0 l1
    have l2 : l < M 69 9 := l1
    have e6 : gj_u A' 3 1 (M 69 9) 6 l = A 6 l := by
      rw [he, gj_u_o (show (6 : Nat) ≠ 3 by decide), gj_u_o (show (6 : Nat) ≠ 2 by decide), gj_u_o (show (6 : Nat) ≠ 3 by decide), gj_u_i (by omega)]
    have e7 : ∀ i, gj_u A' 3 1 (M 69 9) 7 i = A 7 i := fun i => by rw [he]; rfl
    rw [e6]
    simp only [e7]
    exact g3 l l0 (by omega)

set_option maxRecDepth 100000 in
set_option maxHeartbeats 1000000 in
theorem s8_rr2 {xt : Nat × (Nat → Int)} {M0 C : gj_M} {t : Int → Int} {N : Nat} {v : Int} (hN : N ≤ 80) (hN2 : M0 69 2 = (N : Int)) (ht : ∀ i : Nat, i < N → M0 70 i = t i) (hc : ∀ i : Nat, i < N → 0 ≤ t i ∧ t i ≤ 255)  : ∀ (n p : Nat) (M : gj_M), N ≤ p + n → p ≤ N → v_B M0 (r_ru C t p) M p → (r_ru C t p 2 1 = 4 ∨ (r_ru C t p 2 1 = 1 ∧ (p < N → t p ≠ 100))) → r_ru C t p 2 2 = 0 → r_ru C t p 3 1 = M 69 9 → r_ff C t (N - p) p = v → gj_G xt Y8_readReel gS 0 0 84 [some (gR 69)] [] M (fun r S2 M2 => S2 = gS ∧ r = some (gI v) ∧ v_F M0 M2 ∧ (v = -9 → v_B M0 (r_ru C t N) M2 N ∧ M2 69 9 = r_ru C t N 3 1)) := by
  intro n
  induction n with
  | zero =>
    intro p M hNp hpN hB h14 h22 h9 hv
    have hI := hB.2.2.2.1
    have hL := hI.2.1
    have h2 : M 69 2 = (N : Int) := by rw [hB.1.2.1 2 (by omega) (by omega) (by omega)]; exact hN2
    have h3 := hB.2.2.2.2
    refine gj_aload_n 85 dX8_readReel_84 rfl rfl ?_
    refine gj_getfiE ((p : Int)) 88 dX8_readReel_85 rfl fl_8_90 rfl rfl h3 (fun r_85 => ?_)
    refine gj_aload_n 89 dX8_readReel_88 rfl rfl ?_
    refine gj_getfiE ((N : Int)) 92 dX8_readReel_89 rfl fl_8_87 rfl rfl h2 (fun r_89 => ?_)
    refine gj_icmp_ge 157 95 dX8_readReel_92 (by decide) rfl (by omega) (by omega) (fun c_92 => ?_) (fun c_92 => absurd c_92 (by omega))
    refine gj_bipush 159 dX8_readReel_157 rfl (by decide) ?_
    refine gj_iret dX8_readReel_159 rfl ⟨Nat.zero_le _, Nat.zero_le _⟩ ?_
    have hpe : p = N := by omega
    subst hpe
    have e := ff_ok rfl (by omega) hv
    exact ⟨rfl, by rw [e], hB.1, fun _ => ⟨hB, h9.symm⟩⟩
  | succ n ih =>
    intro p M hNp hpN hB h14 h22 h9 hv
    have hI := hB.2.2.2.1
    have hL := hI.2.1
    have h2 : M 69 2 = (N : Int) := by rw [hB.1.2.1 2 (by omega) (by omega) (by omega)]; exact hN2
    have h3 := hB.2.2.2.2
    refine gj_aload_n 85 dX8_readReel_84 rfl rfl ?_
    refine gj_getfiE ((p : Int)) 88 dX8_readReel_85 rfl fl_8_90 rfl rfl h3 (fun r_85 => ?_)
    refine gj_aload_n 89 dX8_readReel_88 rfl rfl ?_
    refine gj_getfiE ((N : Int)) 92 dX8_readReel_89 rfl fl_8_87 rfl rfl h2 (fun r_89 => ?_)
    refine gj_icmp_ge 157 95 dX8_readReel_92 (by decide) rfl (by omega) (by omega) (fun c_92 => ?_) (fun c_92 => ?_)
    · refine gj_bipush 159 dX8_readReel_157 rfl (by decide) ?_
      refine gj_iret dX8_readReel_159 rfl ⟨Nat.zero_le _, Nat.zero_le _⟩ ?_
      have hpe : p = N := by omega
      subst hpe
      have e := ff_ok rfl (by omega) hv
      exact ⟨rfl, by rw [e], hB.1, fun _ => ⟨hB, h9.symm⟩⟩
    · have hpN2 : p < N := by omega
      have htp : M 70 (p : Int) = t p := by rw [hB.1.1 70 (by decide)]; exact ht p hpN2
      have hk := tk_14 (A := r_ru C t p) (c := t p) (h14.imp id (fun z => ⟨z.1, z.2 hpN2⟩))
      refine gj_aload_n 96 dX8_readReel_95 rfl rfl ?_
      refine gj_getfr 99 dX8_readReel_96 rfl fl_8_7 rfl rfl ?_
      refine gj_aload_n 100 dX8_readReel_99 rfl rfl ?_
      refine gj_getfiE ((p : Int)) 103 dX8_readReel_100 rfl fl_8_90 rfl rfl h3 (fun r_100 => ?_)
      refine gj_ialdE (t p) 104 dX8_readReel_103 rfl rfl (by omega) (by omega) htp (fun r_103 => ?_)
      refine gj_bipush 106 dX8_readReel_104 rfl (by decide) ?_
      refine gj_icmp_ne 117 109 dX8_readReel_106 (by decide) rfl (by omega) (by omega) (fun c_106 => ?_) (fun c_106 => ?_)
      · refine gj_aload_n 118 dX8_readReel_117 rfl rfl ?_
        refine gj_getfiE ((p : Int)) 121 dX8_readReel_118 rfl fl_8_90 rfl rfl h3 (fun r_118 => ?_)
        refine gj_iret dX8_readReel_121 rfl ⟨Nat.zero_le _, Nat.zero_le _⟩ ?_
        have e : v = (p : Int) := ff_no hpN2 (by rw [hk.1]; unfold a_lv; rw [if_pos (by omega)]) hv
        exact ⟨rfl, by rw [e], hB.1, fun z => absurd z (by omega)⟩
      · refine gj_aload_n 110 dX8_readReel_109 rfl rfl ?_
        refine gj_getfiE (r_ru C t p 3 1) 113 dX8_readReel_110 rfl fl_8_100 rfl rfl h9.symm (fun r_110 => ?_)
        refine gj_iconst 114 dX8_readReel_113 rfl ?_
        refine gj_icmp_ne 122 117 dX8_readReel_114 (by decide) rfl (by omega) (by omega) (fun c_114 => ?_) (fun c_114 => ?_)
        · refine gj_aload_n 123 dX8_readReel_122 rfl rfl ?_
          refine gj_dup 124 dX8_readReel_123 rfl (fun _ => rfl) ?_
          refine gj_getfiE ((p : Int)) 127 dX8_readReel_124 rfl fl_8_90 rfl rfl h3 (fun r_124 => ?_)
          refine gj_iconst 128 dX8_readReel_127 rfl ?_
          refine gj_iadd 129 dX8_readReel_128 rfl ?_
          refine gj_top ((p + 1 : Nat) : Int) (by omega) ?_
          refine gj_putfi 132 dX8_readReel_129 rfl fw_8_90 rfl rfl (by omega) ?_
          have n1 : r_ru C t (p + 1) = gj_u (gj_u (gj_u (r_ru C t p) 6 (r_ru C t p 3 1) 0) 3 1 (r_ru C t p 3 1 + 1)) 2 1 5 := by
            show r_tk _ _ = _
            rw [hk.2]
            unfold r_lv r_al
            rw [if_neg (by omega), if_pos (by omega)]
          have hBn := v_lvl hB h9 (by omega) n1
          have g1 := ff_go hpN2 (by rw [hk.1]; unfold a_lv; rw [if_neg (by omega)]; decide) hv
          refine gj_aload_n 133 dX8_readReel_132 rfl rfl ?_
          refine gj_callV 136 dX8_readReel_133 rfl ok_8_readSheet ml_8_114 iv_8_readSheet (As := []) rfl rfl rfl rfl (Nat.le_of_ble_eq_true rfl) ⟨Nat.le_of_ble_eq_true rfl, Nat.le_of_ble_eq_true rfl⟩ (Nat.le_of_ble_eq_true rfl) ⟨rfl, rfl⟩ ⟨Nat.zero_le _, Nat.zero_le _⟩ (s8_rs hN hN2 ht hc hBn.1 (by rw [n1]; show r_ru C t p 3 1 + 1 = M 69 9 + 1; omega) (by rw [n1]; show gj_u (gj_u (gj_u (r_ru C t p) 6 (r_ru C t p 3 1) 0) 3 1 (r_ru C t p 3 1 + 1)) 2 1 5 6 (M 69 9) = 0; rw [← h9]; exact gj_u_s) (by rw [n1]; rfl) (by rw [n1]; exact h22) (by show 0 ≤ M 69 9 ∧ M 69 9 < 4; omega) hBn.2 (by omega) g1) (fun r_133 M_133 q_133 => ?_)
          obtain ⟨b, rfl, hq⟩ := q_133
          show gj_G _ _ gS 0 0 136 _ [gI b] M_133 _
          refine gj_if_ne 144 139 dX8_readReel_136 (by decide) rfl (by omega) (fun c_136 => ?_) (fun c_136 => ?_)
          · obtain ⟨p1, w1, w2, w3, w4, w5, w6, w8, w7⟩ := (hq.resolve_right (fun z => by have := z.1; omega)).2
            refine gj_aload_n 145 dX8_readReel_144 rfl rfl ?_
            refine gj_dup 146 dX8_readReel_145 rfl (fun _ => rfl) ?_
            refine gj_getfiE (M 69 9) 149 dX8_readReel_146 rfl fl_8_100 rfl rfl w8 (fun r_146 => ?_)
            refine gj_iconst 150 dX8_readReel_149 rfl ?_
            refine gj_iadd 151 dX8_readReel_150 rfl ?_
            refine gj_putfi 154 dX8_readReel_151 rfl fw_8_100 rfl rfl (by omega) ?_
            refine gj_goto 84 dX8_readReel_154 (by decide) ?_
            refine gj_wk (ih p1 _ (by omega) w2 ?_ (Or.inl w4) w5 (by rw [gj_u_s]; exact w6) w7) ⟨rfl, trivial⟩
            exact ⟨w3.1.f (Or.inr (Or.inr rfl)), w3.2.1, w3.2.2.1, w3.2.2.2.1, w3.2.2.2.2⟩
          · have w := hq.resolve_left (fun z => by have := z.1; omega)
            refine gj_aload_n 140 dX8_readReel_139 rfl rfl ?_
            refine gj_getfiE (v) 143 dX8_readReel_140 rfl fl_8_90 rfl rfl w.2.2.1.symm (fun r_140 => ?_)
            refine gj_iret dX8_readReel_143 rfl ⟨Nat.zero_le _, Nat.zero_le _⟩ ?_
            exact ⟨rfl, rfl, w.2.1, fun z => absurd z w.2.2.2⟩
        · refine gj_aload_n 118 dX8_readReel_117 rfl rfl ?_
          refine gj_getfiE ((p : Int)) 121 dX8_readReel_118 rfl fl_8_90 rfl rfl h3 (fun r_118 => ?_)
          refine gj_iret dX8_readReel_121 rfl ⟨Nat.zero_le _, Nat.zero_le _⟩ ?_
          have e : v = (p : Int) := ff_no hpN2 (by rw [hk.1]; unfold a_lv; rw [if_pos (by omega)]) hv
          exact ⟨rfl, by rw [e], hB.1, fun z => absurd z (by omega)⟩

set_option maxRecDepth 100000 in
set_option maxHeartbeats 1000000 in
theorem s8_rr1 {xt : Nat × (Nat → Int)} {M0 C : gj_M} {t : Int → Int} {N : Nat} {v : Int} (hN : N ≤ 80) (hN2 : M0 69 2 = (N : Int)) (ht : ∀ i : Nat, i < N → M0 70 i = t i) (hc : ∀ i : Nat, i < N → 0 ≤ t i ∧ t i ≤ 255)  : ∀ (n p : Nat) (M : gj_M), N ≤ p + n → p ≤ N → v_B M0 (r_ru C t p) M p → r_ru C t p 2 1 = 1 → r_ru C t p 2 2 = 0 → r_ru C t p 3 1 = M 69 9 → r_ff C t (N - p) p = v → gj_G xt Y8_readReel gS 0 0 47 [some (gR 69)] [] M (fun r S2 M2 => S2 = gS ∧ r = some (gI v) ∧ v_F M0 M2 ∧ (v = -9 → v_B M0 (r_ru C t N) M2 N ∧ M2 69 9 = r_ru C t N 3 1)) := by
  intro n
  induction n with
  | zero =>
    intro p M hNp hpN hB h1 h22 h9 hv
    have hI := hB.2.2.2.1
    have hL := hI.2.1
    have h2 : M 69 2 = (N : Int) := by rw [hB.1.2.1 2 (by omega) (by omega) (by omega)]; exact hN2
    have h3 := hB.2.2.2.2
    refine gj_aload_n 48 dX8_readReel_47 rfl rfl ?_
    refine gj_getfiE ((p : Int)) 51 dX8_readReel_48 rfl fl_8_90 rfl rfl h3 (fun r_48 => ?_)
    refine gj_aload_n 52 dX8_readReel_51 rfl rfl ?_
    refine gj_getfiE ((N : Int)) 55 dX8_readReel_52 rfl fl_8_87 rfl rfl h2 (fun r_52 => ?_)
    refine gj_icmp_ge 84 58 dX8_readReel_55 (by decide) rfl (by omega) (by omega) (fun c_55 => ?_) (fun c_55 => absurd c_55 (by omega))
    exact s8_rr2 hN hN2 ht hc N p M (by omega) hpN hB (Or.inr ⟨h1, fun z => by omega⟩) h22 h9 hv
  | succ n ih =>
    intro p M hNp hpN hB h1 h22 h9 hv
    have hI := hB.2.2.2.1
    have hL := hI.2.1
    have h2 : M 69 2 = (N : Int) := by rw [hB.1.2.1 2 (by omega) (by omega) (by omega)]; exact hN2
    have h3 := hB.2.2.2.2
    refine gj_aload_n 48 dX8_readReel_47 rfl rfl ?_
    refine gj_getfiE ((p : Int)) 51 dX8_readReel_48 rfl fl_8_90 rfl rfl h3 (fun r_48 => ?_)
    refine gj_aload_n 52 dX8_readReel_51 rfl rfl ?_
    refine gj_getfiE ((N : Int)) 55 dX8_readReel_52 rfl fl_8_87 rfl rfl h2 (fun r_52 => ?_)
    refine gj_icmp_ge 84 58 dX8_readReel_55 (by decide) rfl (by omega) (by omega) (fun c_55 => ?_) (fun c_55 => ?_)
    · exact s8_rr2 hN hN2 ht hc N p M (by omega) hpN hB (Or.inr ⟨h1, fun z => by omega⟩) h22 h9 hv
    · have hpN2 : p < N := by omega
      have htp : M 70 (p : Int) = t p := by rw [hB.1.1 70 (by decide)]; exact ht p hpN2
      have htc := hc p hpN2
      refine gj_aload_n 59 dX8_readReel_58 rfl rfl ?_
      refine gj_getfr 62 dX8_readReel_59 rfl fl_8_7 rfl rfl ?_
      refine gj_aload_n 63 dX8_readReel_62 rfl rfl ?_
      refine gj_getfiE ((p : Int)) 66 dX8_readReel_63 rfl fl_8_90 rfl rfl h3 (fun r_63 => ?_)
      refine gj_ialdE (t p) 67 dX8_readReel_66 rfl rfl (by omega) (by omega) htp (fun r_66 => ?_)
      refine gj_bipush 69 dX8_readReel_67 rfl (by decide) ?_
      refine gj_icmp_ne 84 72 dX8_readReel_69 (by decide) rfl (by omega) (by omega) (fun c_69 => ?_) (fun c_69 => ?_)
      · exact s8_rr2 hN hN2 ht hc N p M (by omega) hpN hB (Or.inr ⟨h1, fun z => by omega⟩) h22 h9 hv
      · refine gj_aload_n 73 dX8_readReel_72 rfl rfl ?_
        refine gj_callV 76 dX8_readReel_73 rfl ok_8_readDrawing ml_8_110 iv_8_readDrawing (As := []) rfl rfl rfl rfl (Nat.le_of_ble_eq_true rfl) ⟨Nat.le_of_ble_eq_true rfl, Nat.le_of_ble_eq_true rfl⟩ (Nat.le_of_ble_eq_true rfl) ⟨rfl, rfl⟩ ⟨Nat.zero_le _, Nat.zero_le _⟩ (s8_rdraw hN hN2 ht hc hB hpN2 h1 (by omega) hv) (fun r_73 M_73 q_73 => ?_)
        obtain ⟨b, rfl, hq⟩ := q_73
        show gj_G _ _ gS 0 0 76 _ [gI b] M_73 _
        refine gj_if_ne 47 79 dX8_readReel_76 (by decide) rfl (by omega) (fun c_76 => ?_) (fun c_76 => ?_)
        · obtain ⟨_, w1, w2, w3, w4, w5, w6, w7⟩ := hq.resolve_right (fun z => by have := z.1; omega)
          exact gj_wk (ih (p + 3) _ (by omega) w1 w2 w3 (by omega) (by omega) w7) ⟨rfl, trivial⟩
        · have w := hq.resolve_left (fun z => by have := z.1; omega)
          refine gj_aload_n 80 dX8_readReel_79 rfl rfl ?_
          refine gj_getfiE (v) 83 dX8_readReel_80 rfl fl_8_90 rfl rfl w.2.2.1.symm (fun r_80 => ?_)
          refine gj_iret dX8_readReel_83 rfl ⟨Nat.zero_le _, Nat.zero_le _⟩ ?_
          exact ⟨rfl, rfl, w.2.1, fun z => absurd z w.2.2.2⟩

set_option maxRecDepth 100000 in
set_option maxHeartbeats 1000000 in
theorem s8_rr {xt : Nat × (Nat → Int)} {M : gj_M} {C : gj_M} {t : Int → Int} {N : Nat} {v : Int} (hN : N ≤ 80) (hN2 : M 69 2 = (N : Int)) (ht : ∀ i : Nat, i < N → M 70 i = t i) (hc : ∀ i : Nat, i < N → 0 ≤ t i ∧ t i ≤ 255) (h5 : ∀ l : Int, 0 ≤ l → l < 4 → 0 ≤ C 6 l ∧ C 6 l ≤ 48) (h6 : ∀ i : Int, 0 ≤ i → i < 2 → 0 ≤ C 8 i ∧ C 8 i ≤ 48) (hv : r_ff C t (N - 0) 0 = v) : gj_T xt Y8_readReel gS [gR 69] M (fun r M2 => r = some (gI v) ∧ v_F M M2 ∧ (v = -9 → v_B M (r_ru C t N) M2 N ∧ M2 69 9 = r_ru C t N 3 1)) := by
  show gj_G _ Y8_readReel gS 0 0 0 [_] [] M _
  refine gj_aload_n 1 dX8_readReel_0 rfl rfl ?_
  refine gj_iconst 2 dX8_readReel_1 rfl ?_
  refine gj_putfi 5 dX8_readReel_2 rfl fw_8_90 rfl rfl (by omega) ?_
  refine gj_aload_n 6 dX8_readReel_5 rfl rfl ?_
  refine gj_iconst 7 dX8_readReel_6 rfl ?_
  refine gj_putfi 10 dX8_readReel_7 rfl fw_8_93 rfl rfl (by omega) ?_
  refine gj_aload_n 11 dX8_readReel_10 rfl rfl ?_
  refine gj_iconst 12 dX8_readReel_11 rfl ?_
  refine gj_putfi 15 dX8_readReel_12 rfl fw_8_100 rfl rfl (by omega) ?_
  refine gj_aload_n 16 dX8_readReel_15 rfl rfl ?_
  refine gj_getfr 19 dX8_readReel_16 rfl fl_8_25 rfl rfl ?_
  refine gj_vS 22 dX8_readReel_19 rfl ok_8_fresh ml_8_65 is_8_fresh (As := [gR _]) rfl rfl (Nat.le_of_ble_eq_true rfl) ⟨Nat.le_of_ble_eq_true rfl, Nat.le_of_ble_eq_true rfl⟩ (Nat.le_of_ble_eq_true rfl) ⟨rfl, rfl⟩ ⟨Nat.zero_le _, Nat.zero_le _⟩ (s8_fresh rfl) ?_
  refine gj_aload_n 23 dX8_readReel_22 rfl rfl ?_
  refine gj_getfiE ((N : Int)) 26 dX8_readReel_23 rfl fl_8_87 rfl rfl (by rw [y_fr_o (by decide)]; exact hN2) (fun r_23 => ?_)
  refine gj_if_eq 40 29 dX8_readReel_26 (by decide) rfl (by omega) (fun c_26 => ?_) (fun c_26 => ?_)
  · refine gj_iconst 41 dX8_readReel_40 rfl ?_
    refine gj_iret dX8_readReel_41 rfl ⟨Nat.zero_le _, Nat.zero_le _⟩ ?_
    have hE : gj_E [75] (gj_u (gj_u (gj_u M 69 3 0) 69 8 0) 69 9 0) (y_fr (gj_u (gj_u (gj_u M 69 3 0) 69 8 0) 69 9 0) 75 40) := fun h hh i => y_fr_o (by simpa using hh) i 40
    have hF : v_F M (y_fr (gj_u (gj_u (gj_u M 69 3 0) 69 8 0) 69 9 0) 75 40) := by
      refine ⟨((((gj_E.u (by decide)).u2 (by decide)).u2 (by decide)).tr (hE.mono (by decide))), fun i a b c => ?_, y_Lb.o (by funext j; exact hE 74 (by decide) j)⟩
      rw [hE 69 (by decide), gj_u_i c, gj_u_i b, gj_u_i a]
    have e : v = ((0 : Nat) : Int) := by
      by_cases z : 0 < N
      · have k0 := tk_0 (A := r_ru C t 0) (c := t 0) rfl
        exact ff_no z (by rw [show ((0 : Nat) : Int) = 0 from rfl, k0.1, if_neg (by first | omega | (exfalso; omega))]) hv
      · exact ff_end (p := 0) (by omega) (by show ¬ ((0 : Int) = 1 ∨ (0 : Int) = 4); decide) hv
    exact ⟨rfl, by rw [e]; rfl, hF, fun z => absurd z (by omega)⟩
  · have hpN2 : 0 < N := by omega
    have htc := hc 0 hpN2
    rw [show ((0 : Nat) : Int) = 0 from rfl] at htc
    refine gj_aload_n 30 dX8_readReel_29 rfl rfl ?_
    refine gj_getfr 33 dX8_readReel_30 rfl fl_8_7 rfl rfl ?_
    refine gj_iconst 34 dX8_readReel_33 rfl ?_
    refine gj_ialdE (t 0) 35 dX8_readReel_34 rfl rfl (by omega) (by omega) (by rw [y_fr_o (by decide)]; exact ht 0 (by omega)) (fun r_34 => ?_)
    refine gj_bipush 37 dX8_readReel_35 rfl (by decide) ?_
    refine gj_icmp_eq 42 40 dX8_readReel_37 (by decide) rfl (by omega) (by omega) (fun c_37 => ?_) (fun c_37 => ?_)
    · refine gj_aload_n 43 dX8_readReel_42 rfl rfl ?_
      refine gj_iconst 44 dX8_readReel_43 rfl ?_
      refine gj_putfi 47 dX8_readReel_44 rfl fw_8_90 rfl rfl (by omega) ?_
      have k0 := tk_0 (A := r_ru C t 0) (c := t 0) rfl
      have n1 : r_ru C t 1 = gj_u (r_ru C t 0) 2 1 1 := k0.2
      have hE : gj_E [75] (gj_u (gj_u (gj_u M 69 3 0) 69 8 0) 69 9 0) (y_fr (gj_u (gj_u (gj_u M 69 3 0) 69 8 0) 69 9 0) 75 40) := fun h hh i => y_fr_o (by simpa using hh) i 40
      have hF : v_F M (gj_u (y_fr (gj_u (gj_u (gj_u M 69 3 0) 69 8 0) 69 9 0) 75 40) 69 3 1) := by
        refine ⟨(((((gj_E.u (by decide)).u2 (by decide)).u2 (by decide)).tr (hE.mono (by decide)))).u2 (by decide), fun i a b c => ?_, y_Lb.o (by funext j; exact hE 74 (by decide) j)⟩
        rw [gj_u_i a, hE 69 (by decide), gj_u_i c, gj_u_i b, gj_u_i a]
      have e75 : ∀ i : Int, 0 ≤ i → i < 40 → gj_u (y_fr (gj_u (gj_u (gj_u M 69 3 0) 69 8 0) 69 9 0) 75 40) 69 3 1 75 i = y_fi i := fun i a b => by rw [gj_u_o (by decide)]; exact y_fr_i 40 a (by omega)
      have hB : v_B M (r_ru C t 1) (gj_u (y_fr (gj_u (gj_u (gj_u M 69 3 0) 69 8 0) 69 9 0) 75 40) 69 3 1) 1 := by
        refine ⟨hF, ⟨?_, fun d d0 d1 => ?_, fun d d0 d1 => ?_, fun i i0 i1 => e75 i (by omega) i1⟩, fun l l0 l1 => ?_, r_ru_I h5 h6 1, rfl⟩
        · rw [n1, gj_u_i (by decide), hE 69 (by decide)]; rfl
        · rw [n1] at d1
          have : d < 0 := d1
          omega
        · rw [e75 _ (by omega) (by omega), e75 _ (by omega) (by omega)]
          unfold y_fi
          rw [if_neg (by omega), if_neg (by omega)]
          omega
        · rw [n1] at l1
          have : l < 0 := l1
          omega
      have hv1 := ff_go (p := 0) (N := N) (by omega) (by rw [show ((0 : Nat) : Int) = 0 from rfl, k0.1, if_pos (by omega)]; decide) hv
      exact gj_wk (s8_rr1 hN hN2 ht hc N 1 _ (by omega) (by omega) hB (by rw [n1]; rfl) (by rw [n1]; rfl) (by rw [n1]; show (0 : Int) = gj_u (y_fr (gj_u (gj_u (gj_u M 69 3 0) 69 8 0) 69 9 0) 75 40) 69 3 1 69 9; rw [gj_u_i (by decide), hE 69 (by decide)]; rfl) hv1) ⟨rfl, trivial⟩
    · refine gj_iconst 41 dX8_readReel_40 rfl ?_
      refine gj_iret dX8_readReel_41 rfl ⟨Nat.zero_le _, Nat.zero_le _⟩ ?_
      have hE : gj_E [75] (gj_u (gj_u (gj_u M 69 3 0) 69 8 0) 69 9 0) (y_fr (gj_u (gj_u (gj_u M 69 3 0) 69 8 0) 69 9 0) 75 40) := fun h hh i => y_fr_o (by simpa using hh) i 40
      have hF : v_F M (y_fr (gj_u (gj_u (gj_u M 69 3 0) 69 8 0) 69 9 0) 75 40) := by
        refine ⟨((((gj_E.u (by decide)).u2 (by decide)).u2 (by decide)).tr (hE.mono (by decide))), fun i a b c => ?_, y_Lb.o (by funext j; exact hE 74 (by decide) j)⟩
        rw [hE 69 (by decide), gj_u_i c, gj_u_i b, gj_u_i a]
      have e : v = ((0 : Nat) : Int) := by
        by_cases z : 0 < N
        · have k0 := tk_0 (A := r_ru C t 0) (c := t 0) rfl
          exact ff_no z (by rw [show ((0 : Nat) : Int) = 0 from rfl, k0.1, if_neg (by first | omega | (exfalso; omega))]) hv
        · exact ff_end (p := 0) (by omega) (by show ¬ ((0 : Int) = 1 ∨ (0 : Int) = 4); decide) hv
      exact ⟨rfl, by rw [e]; rfl, hF, fun z => absurd z (by omega)⟩
