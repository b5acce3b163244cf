set_option maxRecDepth 100000 in
set_option maxHeartbeats 4000000 in
theorem s4_panAt {xt : Nat × (Nat → Int)} {M : gj_M} {pan f : Int} (hp : 0 ≤ pan ∧ pan < 5) (hf : 0 ≤ f ∧ f < 48) : gj_F xt Y4_panAt gS [gR 15, gI pan, gI f] M (some (gI (if M 21 pan < 1 then M 19 pan else M 19 pan + M 20 pan * (f / M 21 pan)))) M := by
  show gj_G _ Y4_panAt gS 0 0 0 [_, _, _, _] [] M _
  refine gj_aload_n 1 dX4_panAt_0 rfl rfl ?_
  refine gj_getfr 4 dX4_panAt_1 rfl fl_4_27 rfl rfl ?_
  refine gj_iload_n 5 dX4_panAt_4 rfl rfl ?_
  refine gj_iald 6 dX4_panAt_5 rfl rfl (by omega) (by omega) (fun r_5 => ?_)
  refine gj_istore_n (lv' := [_, _, _, _]) 7 dX4_panAt_6 rfl (by decide) rfl ?_
  refine gj_iload_n 8 dX4_panAt_7 rfl rfl ?_
  refine gj_iconst 9 dX4_panAt_8 rfl ?_
  refine gj_icmp_ge 21 12 dX4_panAt_9 (by decide) rfl (by omega) (by omega) (fun c_9 => ?_) (fun c_9 => ?_)
  · refine gj_aload_n 22 dX4_panAt_21 rfl rfl ?_
    refine gj_getfr 25 dX4_panAt_22 rfl fl_4_21 rfl rfl ?_
    refine gj_iload_n 26 dX4_panAt_25 rfl rfl ?_
    refine gj_iald 27 dX4_panAt_26 rfl rfl (by omega) (by omega) (fun r_26 => ?_)
    refine gj_aload_n 28 dX4_panAt_27 rfl rfl ?_
    refine gj_getfr 31 dX4_panAt_28 rfl fl_4_24 rfl rfl ?_
    refine gj_iload_n 32 dX4_panAt_31 rfl rfl ?_
    refine gj_iald 33 dX4_panAt_32 rfl rfl (by omega) (by omega) (fun r_32 => ?_)
    refine gj_iload_n 34 dX4_panAt_33 rfl rfl ?_
    refine gj_iload_n 35 dX4_panAt_34 rfl rfl ?_
    refine gj_idiv 36 dX4_panAt_35 rfl (by omega) (by omega) ?_
    refine gj_imul 37 dX4_panAt_36 rfl ?_
    refine gj_iadd 38 dX4_panAt_37 rfl ?_
    refine gj_iret dX4_panAt_38 rfl ⟨Nat.zero_le _, Nat.zero_le _⟩ ?_
    exact ⟨rfl, by first | rw [if_pos (by omega)] | rw [if_neg (by omega)], rfl⟩
  · refine gj_aload_n 13 dX4_panAt_12 rfl rfl ?_
    refine gj_getfr 16 dX4_panAt_13 rfl fl_4_21 rfl rfl ?_
    refine gj_iload_n 17 dX4_panAt_16 rfl rfl ?_
    refine gj_iald 18 dX4_panAt_17 rfl rfl (by omega) (by omega) (fun r_17 => ?_)
    refine gj_goto 38 dX4_panAt_18 (by decide) ?_
    refine gj_iret dX4_panAt_38 rfl ⟨Nat.zero_le _, Nat.zero_le _⟩ ?_
    exact ⟨rfl, by first | rw [if_pos (by omega)] | rw [if_neg (by omega)], rfl⟩

set_option maxRecDepth 100000 in
set_option maxHeartbeats 4000000 in
theorem s4_tellPan {xt : Nat × (Nat → Int)} {M : gj_M} {pan a b e : Int} (hp : 0 ≤ pan ∧ pan < 5) (ha : gj_in a) (hb : gj_in b) (he : gj_in e) : gj_F xt Y4_tellPan gS [gR 15, gI pan, gI a, gI b, gI e] M none (gj_u (gj_u (gj_u M 19 pan a) 20 pan b) 21 pan e) := by
  show gj_G _ Y4_tellPan gS 0 0 0 [_, _, _, _, _] [] M _
  refine gj_aload_n 1 dX4_tellPan_0 rfl rfl ?_
  refine gj_getfr 4 dX4_tellPan_1 rfl fl_4_21 rfl rfl ?_
  refine gj_iload_n 5 dX4_tellPan_4 rfl rfl ?_
  refine gj_iload_n 6 dX4_tellPan_5 rfl rfl ?_
  refine gj_iast 7 dX4_tellPan_6 rfl rfl (by omega) (by omega) (by omega) ?_
  refine gj_aload_n 8 dX4_tellPan_7 rfl rfl ?_
  refine gj_getfr 11 dX4_tellPan_8 rfl fl_4_24 rfl rfl ?_
  refine gj_iload_n 12 dX4_tellPan_11 rfl rfl ?_
  refine gj_iload_n 13 dX4_tellPan_12 rfl rfl ?_
  refine gj_iast 14 dX4_tellPan_13 rfl rfl (by omega) (by omega) (by omega) ?_
  refine gj_aload_n 15 dX4_tellPan_14 rfl rfl ?_
  refine gj_getfr 18 dX4_tellPan_15 rfl fl_4_27 rfl rfl ?_
  refine gj_iload_n 19 dX4_tellPan_18 rfl rfl ?_
  refine gj_iload 21 dX4_tellPan_19 rfl rfl ?_
  refine gj_iast 22 dX4_tellPan_21 rfl rfl (by omega) (by omega) (by omega) ?_
  refine gj_vret dX4_tellPan_22 rfl ⟨Nat.zero_le _, Nat.zero_le _⟩ ?_
  exact ⟨rfl, rfl, rfl⟩
