def gj_ok (Y : gj_Y) (na : Nat) : Prop := plainName Y.1.cls = true ∧ Cond.code Y.1 Y.2.1 Y.2.2.1 Y.2.2.2.1 ∈ gj_tb ∧ Cond.initialized Y.1.cls ∈ gj_tb ∧ (Y.1.cls ≠ "java/lang/invoke/MethodHandle" ∧ Y.1.cls ≠ "java/lang/invoke/VarHandle" ∧ (parseMethodDescriptor Y.1.desc).map (fun d => d.parameters.length) = some na)
/-- a quiet contract: no cell is made -/
def gj_T (xt : Nat × (Nat → Int)) (Y : gj_Y) (S : List gj_H) (As : List gj_V) (M : gj_M) (q : Option gj_V → gj_M → Prop) : Prop := gj_G xt Y S 0 0 0 (gj_en Y.2.2.1 As) [] M (fun r S' M' => S' = S ∧ q r M')
/-- one answer, one memory behind it -/
def gj_F (xt : Nat × (Nat → Int)) (Y : gj_Y) (S : List gj_H) (As : List gj_V) (M : gj_M) (r : Option gj_V) (M' : gj_M) : Prop := gj_T xt Y S As M (fun r' M'' => r' = r ∧ M'' = M')
theorem gj_blind {xt : Nat × (Nat → Int)} {ad : Nat → Nat} {cA cZ : ClassId} {D : va_G} {S : List gj_H} {M : gj_M} {sz : Nat} {av : List Value} : FrameBlind (va_Pc av (gj_Pre xt ad cA cZ D S M sz)) := by
  intro a U g mk q
  obtain ⟨q0, q1, qP, qK, qD, qR, qS, qX⟩ := q
  exact ⟨q0, q1, qP, va_K.moved (u := U) (U := U.calling g mk a) (Vm.Alike.refl U.vm) qK, qD, qR, qS, gj_X.moved (u := U) (U := U.calling g mk a) (Vm.Alike.refl U.vm) (fun w hw h => gj_nb_same (s := U) (U := U.calling g mk a) (show U.vm = (U.calling g mk a).vm from rfl) hw h) qX⟩
theorem gj_sub {ad : Nat → Nat} {cA cZ : ClassId} {D : va_G} {A : Nat → Prop} {S : List gj_H} {M : gj_M} {s : State} {H : Heap} {locs : List Loc} (hA : ∀ q : Nat, s.heap.size ≤ q → A q) (hW : gj_Wd ad cA cZ D A S M s H locs) : ∀ q, va_A (gj_w ad cA cZ M 0 S) H.size q → A q := by
  intro q h
  rcases h with ⟨k, e, h⟩ | h
  · exact hW.2.1.2 k (q, e) h
  · exact hA q (Nat.le_trans hW.2.2.2.1.1 h)
theorem gj_pre {xt : Nat × (Nat → Int)} {Y : gj_Y} {p : Program} {s : State} {m : MethodId} {args : Array Value} {meth : Method} {c : Code} {ad : Nat → Nat} {A : Nat → Prop} {cA cZ : ClassId} {D : va_G} {S : List gj_H} {M : gj_M} {H : Heap} {locs : List Loc} (hC : gj_C xt Y p s m args meth c ad A) (hW : gj_Wd ad cA cZ D A S M s H locs) (U : State) (hU : U.heap = H) (hWm : s.WarmedH U.vm) : gj_Pre xt ad cA cZ D S M H.size U := by
  have hX := hC.2.2.2.2.2.2.2
  refine ⟨by rw [hU], by rw [hU]; exact hW.1, va_K.moved hWm.alike hW.2.2.1, hW.2.1.weaken (fun _ _ _ _ => trivial), hW.2.2.2.2.1, hW.2.2.2.2.2, ?_⟩
  rw [hU]
  exact ((hX.kept hW.2.2.2.1.2.1).moved hWm.alike (fun w hw h => gj_nb_warm hWm hw h)).narrow (gj_sub hC.2.2.2.2.2.2.1 hW)
/-- behind a call -/
theorem gj_aft {xt : Nat × (Nat → Int)} {Y : gj_Y} {p : Program} {l : Launch} {e : Env} {R : Room} {s : State} {m : MethodId} {args : Array Value} {below : List Frame} {meth : Method} {c : Code} {H : Heap} {locs : List Loc} {k n mc ms pc : Nat} {Z : State → Prop} {ls : Array Slot} {st0 rest : List Value} {ad : Nat → Nat} {cA cZ : ClassId} {D : va_G} {A : Nat → Prop} {S : List gj_H} {M : gj_M} {Q' : Option gj_V → List gj_H → gj_M → Prop} {a : Array Value}
    (hC : gj_C xt Y p s m args meth c ad A) (hW : gj_Wd ad cA cZ D A S M s H locs) (hr : va_Run p l e R s m args below meth c H locs k n mc ms (F0 m pc ls st0) rest (gj_Post ad cA cZ D S M H.size Q' a) (va_A (gj_w ad cA cZ M 0 S) H.size))
    (kk : ∀ (rv : Option gj_V) (S' : List gj_H) (M' : gj_M) (ad' : Nat → Nat) (H1 : Heap) (locs1 : List Loc), Q' rv S' M' → gj_ag S S' ad ad' → gj_Wd ad' cA cZ D A S' M' s H1 locs1 → W p l e R s m args below meth c H1 locs1 (k + mc) (n + ms) Z (F0 m (pc + 3) ls ((rv.map (gj_c ad')).toList ++ rest))) : W p l e R s m args below meth c H locs k n Z (F0 m pc ls st0) := by
  have hsub := gj_sub hC.2.2.2.2.2.2.1 hW
  have hS := hW.2.2.2.1
  intro T hT X
  obtain ⟨v, st₀, t, T', L, h0, X', hL, e1, e2, ⟨rv, S', M', ad', hv, hq, hag, hP1, hD1, hK1, hR1, hS1, hz, hk⟩, st⟩ := hr T hT X
  cases hv
  rw [h0] at hz hk
  have hvm : s.vm.Alike t.vm := by rw [← e2]; exact X'.warmed.alike
  obtain ⟨t2, a1, b1⟩ := kk rv S' M' ad' T'.heap (locs ++ L) hq hag ⟨by rw [e1]; exact hP1, hD1.weaken (fun k q _ h => hsub q.1 h), va_K.moved hvm.symm hK1, ⟨Nat.le_trans hS.1 (by rw [e1]; exact hz), fun q h1 h2 => by rw [e1, hk q (Nat.lt_of_lt_of_le h1 hS.1) (fun z => h2 (hsub q z))]; exact hS.2.1 q h1 h2, fun q hq => by
      rcases List.mem_append.mp hq with h | h
      · exact hS.2.2 q h
      · exact hsub _ (hL q h)⟩, hR1, hS1⟩ T' rfl X'
  exact ⟨t2, st t2 a1, b1⟩
abbrev gj_rm (Y Y' : gj_Y) : Prop := Y'.2.2.2.2.frames + 1 ≤ Y.2.2.2.2.frames ∧ 8 + (Y'.2.2.1 + 11) + Y'.2.2.2.2.locals ≤ Y.2.2.2.2.locals
section GK
variable {xt : Nat × (Nat → Int)} {Y Y' : gj_Y} {S : List gj_H} {k n pc idx na : Nat} {lv lv' : List (Option gj_V)} {st stk : List gj_V} {M : gj_M} {Q Q' : Option gj_V → List gj_H → gj_M → Prop}
/-- any call of a virtual method -/
theorem gj_cV {As : List gj_V} {h ci N : Nat} {T : u_T} {fs : List Nat} (np : Nat) (hd : decode Y.2.1 pc = .ok (.invokevirtual idx, 3)) (hp : pc + 3 = np) (hok : gj_ok Y' na) (hl : Cond.methodLink Y.1.cls idx Y'.1 ∈ gj_tb) (hi : Cond.instanceMethod Y'.1 ∈ gj_tb ∧ Cond.selects Y'.1.cls Y'.1 Y'.1 ∈ gj_tb) (hstk : stk = As.reverse ++ gR h :: st) (hs : S[h]? = some (.inl (ci, fs))) (hcl : vwCl[ci]? = some (Y'.1.cls, T, N)) (hn : As.length = na) (hal : gj_al (gR h :: As) ≤ Y'.2.2.1) (hrm : gj_rm Y Y') (hct : gj_al st ≤ 8) (hf : k + Y'.2.2.2.2.cells ≤ Y.2.2.2.2.cells ∧ n + Y'.2.2.2.2.slots ≤ Y.2.2.2.2.slots)
    (hG : gj_G xt Y' S 0 0 0 (gj_en Y'.2.2.1 (gR h :: As)) [] M Q')
    (kk : ∀ (p : Program) (l : Launch) (e : Env) (s : State) (m : MethodId) (args : Array Value) (below : List Frame) (meth : Method) (c : Code) (ls : Array Slot) (ad : Nat → Nat) (cA cZ : ClassId) (D : va_G) (A : Nat → Prop) (Z : State → Prop), gj_C xt Y p s m args meth c ad A → gj_l ad ls Y.2.2.1 lv →
      (∀ (rv : Option gj_V) (S' : List gj_H) (M' : gj_M) (H' : Heap) (locs' : List Loc) (pc' : Nat) (ls' : Array Slot) (ad' : Nat → Nat), Q rv S' M' → gj_ro Y.2.2.2.1 rv → gj_ag S S' ad ad' → gj_Wd ad' cA cZ D A S' M' s H' locs' → decode Y.2.1 pc' = .ok (gj_ri rv, 1) → W p l e Y.2.2.2.2 s m args below meth c H' locs' Y.2.2.2.2.cells Y.2.2.2.2.slots Z (F0 m pc' ls' (rv.toList.map (gj_c ad')))) →
      ∀ (rv : Option gj_V) (S' : List gj_H) (M' : gj_M) (ad' : Nat → Nat) (H1 : Heap) (locs1 : List Loc), Q' rv S' M' → gj_ag S S' ad ad' → gj_Wd ad' cA cZ D A S' M' s H1 locs1 → W p l e Y.2.2.2.2 s m args below meth c H1 locs1 (k + Y'.2.2.2.2.cells) (n + Y'.2.2.2.2.slots) Z (F0 m np ls ((rv.map (gj_c ad')).toList ++ st.map (gj_c ad)))) : gj_G xt Y S k n pc lv stk M Q := by
  subst hp
  subst hstk
  subst hn
  intro p l e s m args below meth c H locs ls ad cA cZ D A Z hC hW hL hR
  obtain ⟨hpl, hcode, hini, hd1⟩ := hok
  have hts := hC.2.2.2.2.1
  refine gj_aft hC hW (va_runV (As := As.map (gj_c ad)) (rest := st.map (gj_c ad)) (b := ad h) (Ts := gj_tb) ⟨hC.1, hC.2.1, hC.2.2.1, hC.2.2.2.1, hts⟩ (gj_met hpl hal hG l ad cA cZ D H.size) (cwV As.length hts (fun w hw => ?_) rfl rfl rfl ⟨rfl, hd1⟩ hrm) ⟨gj_blind, va_recv hW.2.2.1 hW.1 hcl (gj_w_at hs), fun U hU hWm => ⟨rfl, gj_pre hC hW U hU hWm⟩⟩ rfl (by simp) (hL.1) (by simp [gj_c, gR]) (lv_room (by rw [gj_ct]; exact hct)) hd hf) (fun rv S' M' ad' H1 locs1 => kk p l e s m args below meth c ls ad cA cZ D A Z hC hL hR rv S' M' ad' H1 locs1)
  unfold wsV at hw
  rcases List.mem_append.mp hw with hw | hw
  · simp only [List.mem_cons, List.not_mem_nil, or_false] at hw
    rcases hw with rfl | rfl | rfl | rfl
    · exact gj_goodIn _ hl
    · exact gj_goodIn _ hi.1
    · exact gj_goodIn _ hi.2
    · exact gj_goodIn _ hini
  · exact gj_goodC hcode w hw
theorem gj_cS {As : List gj_V} (np : Nat) (hd : decode Y.2.1 pc = .ok (.invokestatic idx, 3)) (hp : pc + 3 = np) (hok : gj_ok Y' na) (hl : Cond.methodLink Y.1.cls idx Y'.1 ∈ gj_tb) (hi : Cond.static Y'.1 ∈ gj_tb) (hstk : stk = As.reverse ++ st) (hn : As.length = na) (hal : gj_al As ≤ Y'.2.2.1) (hrm : gj_rm Y Y') (hct : gj_al st ≤ 8) (hf : k + Y'.2.2.2.2.cells ≤ Y.2.2.2.2.cells ∧ n + Y'.2.2.2.2.slots ≤ Y.2.2.2.2.slots)
    (hG : gj_G xt Y' S 0 0 0 (gj_en Y'.2.2.1 As) [] M Q')
    (kk : ∀ (p : Program) (l : Launch) (e : Env) (s : State) (m : MethodId) (args : Array Value) (below : List Frame) (meth : Method) (c : Code) (ls : Array Slot) (ad : Nat → Nat) (cA cZ : ClassId) (D : va_G) (A : Nat → Prop) (Z : State → Prop), gj_C xt Y p s m args meth c ad A → gj_l ad ls Y.2.2.1 lv →
      (∀ (rv : Option gj_V) (S' : List gj_H) (M' : gj_M) (H' : Heap) (locs' : List Loc) (pc' : Nat) (ls' : Array Slot) (ad' : Nat → Nat), Q rv S' M' → gj_ro Y.2.2.2.1 rv → gj_ag S S' ad ad' → gj_Wd ad' cA cZ D A S' M' s H' locs' → decode Y.2.1 pc' = .ok (gj_ri rv, 1) → W p l e Y.2.2.2.2 s m args below meth c H' locs' Y.2.2.2.2.cells Y.2.2.2.2.slots Z (F0 m pc' ls' (rv.toList.map (gj_c ad')))) →
      ∀ (rv : Option gj_V) (S' : List gj_H) (M' : gj_M) (ad' : Nat → Nat) (H1 : Heap) (locs1 : List Loc), Q' rv S' M' → gj_ag S S' ad ad' → gj_Wd ad' cA cZ D A S' M' s H1 locs1 → W p l e Y.2.2.2.2 s m args below meth c H1 locs1 (k + Y'.2.2.2.2.cells) (n + Y'.2.2.2.2.slots) Z (F0 m np ls ((rv.map (gj_c ad')).toList ++ st.map (gj_c ad)))) : gj_G xt Y S k n pc lv stk M Q := by
  subst hp
  subst hstk
  subst hn
  intro p l e s m args below meth c H locs ls ad cA cZ D A Z hC hW hL hR
  obtain ⟨hpl, hcode, hini, hd1⟩ := hok
  have hts := hC.2.2.2.2.1
  refine gj_aft hC hW (va_runS (As := As.map (gj_c ad)) (rest := st.map (gj_c ad)) (Ts := gj_tb) ⟨hC.1, hC.2.1, hC.2.2.1, hC.2.2.2.1, hts⟩ (gj_met hpl hal hG l ad cA cZ D H.size) (va_cwS As.length hts (fun w hw => ?_) rfl rfl rfl hd1 hrm) ⟨gj_blind, fun U hU hWm => ⟨rfl, gj_pre hC hW U hU hWm⟩⟩ rfl (by simp) (hL.1) (by simp) (lv_room (by rw [gj_ct]; exact hct)) hd hf) (fun rv S' M' ad' H1 locs1 => kk p l e s m args below meth c ls ad cA cZ D A Z hC hL hR rv S' M' ad' H1 locs1)
  unfold va_wsS at hw
  rcases List.mem_append.mp hw with hw | hw
  · simp only [List.mem_cons, List.not_mem_nil, or_false] at hw
    rcases hw with rfl | rfl | rfl
    · exact gj_goodIn _ hl
    · exact gj_goodIn _ hi
    · exact gj_goodIn _ hini
  · exact gj_goodC hcode w hw
/-- quiet calls -/
theorem gj_callV {As : List gj_V} {h ci N : Nat} {T : u_T} {fs : List Nat} {q : Option gj_V → gj_M → Prop} (np : Nat) (hd : decode Y.2.1 pc = .ok (.invokevirtual idx, 3)) (hp : pc + 3 = np) (hok : gj_ok Y' na) (hl : Cond.methodLink Y.1.cls idx Y'.1 ∈ gj_tb) (hi : Cond.instanceMethod Y'.1 ∈ gj_tb ∧ Cond.selects Y'.1.cls Y'.1 Y'.1 ∈ gj_tb) (hstk : stk = As.reverse ++ gR h :: st) (hs : S[h]? = some (.inl (ci, fs))) (hcl : vwCl[ci]? = some (Y'.1.cls, T, N)) (hn : As.length = na) (hal : gj_al (gR h :: As) ≤ Y'.2.2.1) (hrm : gj_rm Y Y') (hct : gj_al st ≤ 8) (hz : Y'.2.2.2.2.cells = 0 ∧ Y'.2.2.2.2.slots = 0) (hf : k ≤ Y.2.2.2.2.cells ∧ n ≤ Y.2.2.2.2.slots)
    (hG : gj_T xt Y' S (gR h :: As) M q) (kk : ∀ (r : Option gj_V) (M' : gj_M), q r M' → gj_G xt Y S k n np lv (r.toList ++ st) M' Q) : gj_G xt Y S k n pc lv stk M Q := by
  refine gj_cV np hd hp hok hl hi hstk hs hcl hn hal hrm hct (by rw [hz.1, hz.2]; exact hf) hG ?_
  intro p l e s m args below meth c ls ad cA cZ D A Z hC hL hR rv S' M' ad' H1 locs1 hq hag hW
  obtain ⟨rfl, hq⟩ := hq
  have had := hag.2.1 rfl
  subst had
  rw [hz.1, hz.2]
  have := kk rv M' hq p l e s m args below meth c H1 locs1 ls ad' cA cZ D A Z hC hW hL hR
  cases rv with
  | none => exact this
  | some v => exact this
theorem gj_callS {As : List gj_V} {q : Option gj_V → gj_M → Prop} (np : Nat) (hd : decode Y.2.1 pc = .ok (.invokestatic idx, 3)) (hp : pc + 3 = np) (hok : gj_ok Y' na) (hl : Cond.methodLink Y.1.cls idx Y'.1 ∈ gj_tb) (hi : Cond.static Y'.1 ∈ gj_tb) (hstk : stk = As.reverse ++ st) (hn : As.length = na) (hal : gj_al As ≤ Y'.2.2.1) (hrm : gj_rm Y Y') (hct : gj_al st ≤ 8) (hz : Y'.2.2.2.2.cells = 0 ∧ Y'.2.2.2.2.slots = 0) (hf : k ≤ Y.2.2.2.2.cells ∧ n ≤ Y.2.2.2.2.slots)
    (hG : gj_T xt Y' S As M q) (kk : ∀ (r : Option gj_V) (M' : gj_M), q r M' → gj_G xt Y S k n np lv (r.toList ++ st) M' Q) : gj_G xt Y S k n pc lv stk M Q := by
  refine gj_cS np hd hp hok hl hi hstk hn hal hrm hct (by rw [hz.1, hz.2]; exact hf) hG ?_
  intro p l e s m args below meth c ls ad cA cZ D A Z hC hL hR rv S' M' ad' H1 locs1 hq hag hW
  obtain ⟨rfl, hq⟩ := hq
  have had := hag.2.1 rfl
  subst had
  rw [hz.1, hz.2]
  have := kk rv M' hq p l e s m args below meth c H1 locs1 ls ad' cA cZ D A Z hC hW hL hR
  cases rv with
  | none => exact this
  | some v => exact this
/-- with one answer -/
theorem gj_fV {As : List gj_V} {h ci N : Nat} {T : u_T} {fs : List Nat} {v : gj_V} {M' : gj_M} (np : Nat) (hd : decode Y.2.1 pc = .ok (.invokevirtual idx, 3)) (hp : pc + 3 = np) (hok : gj_ok Y' na) (hl : Cond.methodLink Y.1.cls idx Y'.1 ∈ gj_tb) (hi : Cond.instanceMethod Y'.1 ∈ gj_tb ∧ Cond.selects Y'.1.cls Y'.1 Y'.1 ∈ gj_tb) (hstk : stk = As.reverse ++ gR h :: st) (hs : S[h]? = some (.inl (ci, fs))) (hcl : vwCl[ci]? = some (Y'.1.cls, T, N)) (hn : As.length = na) (hal : gj_al (gR h :: As) ≤ Y'.2.2.1) (hrm : gj_rm Y Y') (hct : gj_al st ≤ 8) (hz : Y'.2.2.2.2.cells = 0 ∧ Y'.2.2.2.2.slots = 0) (hf : k ≤ Y.2.2.2.2.cells ∧ n ≤ Y.2.2.2.2.slots)
    (hG : gj_F xt Y' S (gR h :: As) M (some v) M') (kk : gj_G xt Y S k n np lv (v :: st) M' Q) : gj_G xt Y S k n pc lv stk M Q := by
  refine gj_callV np hd hp hok hl hi hstk hs hcl hn hal hrm hct hz hf hG ?_
  rintro r M'' ⟨rfl, rfl⟩
  exact kk
theorem gj_vV {As : List gj_V} {h ci N : Nat} {T : u_T} {fs : List Nat} {M' : gj_M} (np : Nat) (hd : decode Y.2.1 pc = .ok (.invokevirtual idx, 3)) (hp : pc + 3 = np) (hok : gj_ok Y' na) (hl : Cond.methodLink Y.1.cls idx Y'.1 ∈ gj_tb) (hi : Cond.instanceMethod Y'.1 ∈ gj_tb ∧ Cond.selects Y'.1.cls Y'.1 Y'.1 ∈ gj_tb) (hstk : stk = As.reverse ++ gR h :: st) (hs : S[h]? = some (.inl (ci, fs))) (hcl : vwCl[ci]? = some (Y'.1.cls, T, N)) (hn : As.length = na) (hal : gj_al (gR h :: As) ≤ Y'.2.2.1) (hrm : gj_rm Y Y') (hct : gj_al st ≤ 8) (hz : Y'.2.2.2.2.cells = 0 ∧ Y'.2.2.2.2.slots = 0) (hf : k ≤ Y.2.2.2.2.cells ∧ n ≤ Y.2.2.2.2.slots)
    (hG : gj_F xt Y' S (gR h :: As) M none M') (kk : gj_G xt Y S k n np lv st M' Q) : gj_G xt Y S k n pc lv stk M Q := by
  refine gj_callV np hd hp hok hl hi hstk hs hcl hn hal hrm hct hz hf hG ?_
  rintro r M'' ⟨rfl, rfl⟩
  exact kk
theorem gj_fS {As : List gj_V} {v : gj_V} {M' : gj_M} (np : Nat) (hd : decode Y.2.1 pc = .ok (.invokestatic idx, 3)) (hp : pc + 3 = np) (hok : gj_ok Y' na) (hl : Cond.methodLink Y.1.cls idx Y'.1 ∈ gj_tb) (hi : Cond.static Y'.1 ∈ gj_tb) (hstk : stk = As.reverse ++ st) (hn : As.length = na) (hal : gj_al As ≤ Y'.2.2.1) (hrm : gj_rm Y Y') (hct : gj_al st ≤ 8) (hz : Y'.2.2.2.2.cells = 0 ∧ Y'.2.2.2.2.slots = 0) (hf : k ≤ Y.2.2.2.2.cells ∧ n ≤ Y.2.2.2.2.slots)
    (hG : gj_F xt Y' S As M (some v) M') (kk : gj_G xt Y S k n np lv (v :: st) M' Q) : gj_G xt Y S k n pc lv stk M Q := by
  refine gj_callS np hd hp hok hl hi hstk hn hal hrm hct hz hf hG ?_
  rintro r M'' ⟨rfl, rfl⟩
  exact kk
theorem gj_vS {As : List gj_V} {M' : gj_M} (np : Nat) (hd : decode Y.2.1 pc = .ok (.invokestatic idx, 3)) (hp : pc + 3 = np) (hok : gj_ok Y' na) (hl : Cond.methodLink Y.1.cls idx Y'.1 ∈ gj_tb) (hi : Cond.static Y'.1 ∈ gj_tb) (hstk : stk = As.reverse ++ st) (hn : As.length = na) (hal : gj_al As ≤ Y'.2.2.1) (hrm : gj_rm Y Y') (hct : gj_al st ≤ 8) (hz : Y'.2.2.2.2.cells = 0 ∧ Y'.2.2.2.2.slots = 0) (hf : k ≤ Y.2.2.2.2.cells ∧ n ≤ Y.2.2.2.2.slots)
    (hG : gj_F xt Y' S As M none M') (kk : gj_G xt Y S k n np lv st M' Q) : gj_G xt Y S k n pc lv stk M Q := by
  refine gj_callS np hd hp hok hl hi hstk hn hal hrm hct hz hf hG ?_
  rintro r M'' ⟨rfl, rfl⟩
  exact kk
end GK
