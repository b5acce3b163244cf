section GE
variable {xt : Nat × (Nat → Int)} {Y : gj_Y} {S : List gj_H} {k n pc : Nat} {lv lv' : List (Option gj_V)} {st : List gj_V} {M : gj_M} {Q : Option gj_V → List gj_H → gj_M → Prop}
theorem gj_getfiE {h ci idx j : Nat} {z : Int} {fs : List Nat} (w : Int) (np : Nat) (hd : decode Y.2.1 pc = .ok (.getfield idx, 3)) (hp : pc + 3 = np) (hl : gj_fl Y.1.cls idx ci j z) (hs : S[h]? = some (.inl (ci, fs))) (hf : fs[j]? = some 0) (hw : M h z = w) (kk : gj_in w → gj_G xt Y S k n np lv (gI w :: st) M Q) : gj_G xt Y S k n pc lv (gR h :: st) M Q := by
  subst hw
  exact gj_getfi np hd hp hl hs hf kk
theorem gj_getflE {h ci idx j : Nat} {z : Int} {fs : List Nat} (w : Int) (np : Nat) (hd : decode Y.2.1 pc = .ok (.getfield idx, 3)) (hp : pc + 3 = np) (hl : gj_fl Y.1.cls idx ci j z) (hs : S[h]? = some (.inl (ci, fs))) (hf : fs[j]? = some 1) (hw : M (h + 5000) z = w) (kk : gj_G xt Y S k n np lv (gL w :: st) M Q) : gj_G xt Y S k n pc lv (gR h :: st) M Q := by
  subst hw
  exact gj_getfl np hd hp hl hs hf kk
theorem gj_ialdE {h N : Nat} {i : Int} (w : Int) (np : Nat) (hd : decode Y.2.1 pc = .ok (.iaload, 1)) (hp : pc + 1 = np) (hs : S[h]? = some (.inr (false, N))) (hi : 0 ≤ i ∧ i < N) (hr : gj_in i) (hw : M h i = w) (kk : gj_in w → gj_G xt Y S k n np lv (gI w :: st) M Q) : gj_G xt Y S k n pc lv (gI i :: gR h :: st) M Q := by
  subst hw
  exact gj_iald np hd hp hs hi hr kk
theorem gj_baldE {h N : Nat} {i : Int} (w : Int) (np : Nat) (hd : decode Y.2.1 pc = .ok (.baload, 1)) (hp : pc + 1 = np) (hs : S[h]? = some (.inr (true, N))) (hi : 0 ≤ i ∧ i < N) (hr : gj_in i) (hw : M h i = w) (kk : gj_in w → gj_G xt Y S k n np lv (gI w :: st) M Q) : gj_G xt Y S k n pc lv (gI i :: gR h :: st) M Q := by
  subst hw
  exact gj_bald np hd hp hs hi hr kk
/-- the number on top, told otherwise -/
theorem gj_top {a : Int} (b : Int) (h : a = b) (kk : gj_G xt Y S k n pc lv (gI b :: st) M Q) : gj_G xt Y S k n pc lv (gI a :: st) M Q := by
  subst h
  exact kk
theorem gj_mem {M' : gj_M} (h : M = M') (kk : gj_G xt Y S k n pc lv st M' Q) : gj_G xt Y S k n pc lv st M Q := by
  subst h
  exact kk
end GE
