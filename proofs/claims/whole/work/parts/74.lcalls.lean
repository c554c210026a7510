/-! the law's world: the class, the reference, the row 'out'; its calls -/
def wL (G : gT) (h0 : Nat) (h : oH) (σ : oS) (m0 : Nat) (mh : Nat → Nat) (μ : mS) (ho : Nat) (fo : Nat → Int64) : va_W := ow G h0 h σ ++ (mw G m0 mh μ ++ [(ho, .inl (G.2.2.1, 1, .inr (.inl fo)))])
def lI (s : State) (A : Nat → Prop) (G : gT) (h0 : Nat) (h : oH) (σ : oS) (m0 : Nat) (mh : Nat → Nat) (μ : mS) (ho : Nat) (fo : Nat → Int64) (H : Heap) (locs : List Loc) : Prop := va_P G.1 vwCl (wL G h0 h σ m0 mh μ ho fo) H ∧ va_D A (wL G h0 h σ m0 mh μ ho fo) ∧ va_S A s.heap H locs
section LC
variable {p : Program} {l : Launch} {e : Env} {R : Room} {s : State} {m : MethodId} {args : Array Value} {below : List Frame} {meth : Method} {c : Code} {H : Heap} {locs : List Loc} {cells slots : Nat} {Q : State → Prop}
variable {cc : ByteArray} {pc : Nat} {ls : Array Slot} {rest st0 : List Value} {A : Nat → Prop} {G : gT} {h0 m0 ho : Nat} {nL : Nat} {Ts : List Cond}
variable {y : MethodName} {ws ws' : List Cond} {rm : Room} {bytes : ByteArray} {maxL n index mc ms : Nat} {ret : Option FieldType} {hh : List (Nat × Nat × Nat × Nat)} {As : List Value}
variable {h : oH} {σ σ' : oS} {mh : Nat → Nat} {μ μ' : mS} {fo fo' : Nat → Int64}
theorem lI_o (hI : lI s A G h0 h σ m0 mh μ ho fo H locs) : va_P G.1 vwCl (ow G h0 h σ) H ∧ va_D A (ow G h0 h σ) := ⟨hI.1.sub [0, 1, 2, 3, 4] rfl, hI.2.1.sub [0, 1, 2, 3, 4] (by decide) rfl⟩
theorem lI_m (hI : lI s A G h0 h σ m0 mh μ ho fo H locs) : va_P G.1 vwCl (mw G m0 mh μ) H ∧ va_D A (mw G m0 mh μ) := ⟨hI.1.sub [5, 6, 7, 8, 9, 10, 11, 12, 13, 14, 15, 16, 17, 18, 19, 20, 21, 22] rfl, hI.2.1.sub [5, 6, 7, 8, 9, 10, 11, 12, 13, 14, 15, 16, 17, 18, 19, 20, 21, 22] (by decide) rfl⟩
theorem lI_oo (hI : lI s A G h0 h σ m0 mh μ ho fo H locs) : va_P G.1 vwCl (owo G h0 h σ ho fo) H ∧ va_D A (owo G h0 h σ ho fo) := ⟨hI.1.sub [0, 1, 2, 3, 4, 23] rfl, hI.2.1.sub [0, 1, 2, 3, 4, 23] (by decide) rfl⟩
/-- a law's method: a call of the class, its exceptions caught -/
theorem lc_s (S : CallFix p m c cc nL s args Ts RL) (hK : gK G s) (hA : ∀ q, s.heap.size ≤ q → A q) (hZ : xZ A s s.heap) (hN : va_Nc "java/lang/IllegalStateException" "java/lang/IllegalArgumentException" s) (hI : lI s A G h0 h σ m0 mh μ ho fo H locs) {k : Int32}
    (hM : Met l y ws rm (lPre G h0 h σ H.size As) (lQ G h0 h k σ' (oA G h0 h σ H.size)) mc ms (oA G h0 h σ H.size))
    (cw : vx_CSW R s args RL index y bytes maxL ret hh ws rm mc ms n) (hn : (Value.ref h0 :: As).length = n) (hs : ls.size = nL) (hst : st0 = (.ref h0 :: As).reverse ++ rest) (hW : (rest.map fun v => v.category).sum ≤ 8)
    (hdg : decode cc pc = .ok (.invokestatic index, 3)) (hf : cells + mc ≤ R.cells ∧ slots + ms ≤ R.slots)
    (kk : ∀ (h1 : oH) (H1 : Heap) (locs1 : List Loc), lI s A G h0 h1 σ' m0 mh μ ho fo H1 locs1 → W p l e R s m args below meth c H1 locs1 (cells + mc) (slots + ms) Q (F0 m (pc + 3) ls (.int k :: rest))) :
    W p l e R s m args below meth c H locs cells slots Q (F0 m pc ls st0) := by
  obtain ⟨hPc, hDc⟩ := lI_o hI
  have hFc := va_free (wc := ow G h0 h σ) hI.2.1 hI.2.2 hA [0, 1, 2, 3, 4] rfl
  subst hst
  refine va_calli (vx_runSW (As := .ref h0 :: As) (rest := rest) S hM cw ⟨lPre_blind, fun U hU hW => ⟨rfl, by rw [hU], by rw [hU]; exact hPc, gK.moved hW.alike hK, hDc.weaken (fun _ _ _ _ => trivial), by rw [hU]; exact ((hZ.kept hI.2.2.2.1).narrow hFc).warm hW, va_Nc.moved hW.alike hN⟩⟩ rfl hn hs rfl (lv_room hW) hdg hf) hI.2.2 (fun q _ h => hFc q h) hFc (fun r1 u t H1 locs1 ht hvm hw hB hz1 hk1 hS => ?_)
  obtain ⟨e1, e2⟩ := hw
  subst e1; subst e2
  obtain ⟨hw1, hn1, hP1, hK1, hD1⟩ := hB
  rw [ht] at hP1
  obtain ⟨hP, hD⟩ := va_join (wr := mw G m0 mh μ ++ [(ho, .inl (G.2.2.1, 1, .inr (.inl fo)))]) (wc := ow G h0 h σ) (w1 := ow G h0 (hw1, h.2.1, hn1, h.2.2.2) u) hI.1 hI.2.1 [0, 1, 2, 3, 4] [5, 6, 7, 8, 9, 10, 11, 12, 13, 14, 15, 16, 17, 18, 19, 20, 21, 22, 23] rfl rfl (by decide) (by decide) hk1 hFc hP1 hD1
  exact kk (hw1, h.2.1, hn1, h.2.2.2) H1 locs1 ⟨hP.sub [19, 20, 21, 22, 23, 0, 1, 2, 3, 4, 5, 6, 7, 8, 9, 10, 11, 12, 13, 14, 15, 16, 17, 18] rfl, hD.sub [19, 20, 21, 22, 23, 0, 1, 2, 3, 4, 5, 6, 7, 8, 9, 10, 11, 12, 13, 14, 15, 16, 17, 18] (by decide) rfl, hS⟩
/-- the same, with an answer laid into 'out' -/
theorem lc_o (S : CallFix p m c cc nL s args Ts RL) (hK : gK G s) (hA : ∀ q, s.heap.size ≤ q → A q) (hZ : xZ A s s.heap) (hN : va_Nc "java/lang/IllegalStateException" "java/lang/IllegalArgumentException" s) (hI : lI s A G h0 h σ m0 mh μ ho fo H locs) {k : Int32}
    (hM : Met l y ws rm (lPreO G h0 h σ ho fo H.size As) (lQO G h0 h k σ' ho fo' (oAo G h0 h σ ho fo H.size)) mc ms (oAo G h0 h σ ho fo H.size))
    (cw : vx_CSW R s args RL index y bytes maxL ret hh ws rm mc ms n) (hn : (Value.ref h0 :: As).length = n) (hs : ls.size = nL) (hst : st0 = (.ref h0 :: As).reverse ++ rest) (hW : (rest.map fun v => v.category).sum ≤ 8)
    (hdg : decode cc pc = .ok (.invokestatic index, 3)) (hf : cells + mc ≤ R.cells ∧ slots + ms ≤ R.slots)
    (kk : ∀ (h1 : oH) (H1 : Heap) (locs1 : List Loc), lI s A G h0 h1 σ' m0 mh μ ho fo' H1 locs1 → W p l e R s m args below meth c H1 locs1 (cells + mc) (slots + ms) Q (F0 m (pc + 3) ls (.int k :: rest))) :
    W p l e R s m args below meth c H locs cells slots Q (F0 m pc ls st0) := by
  obtain ⟨hPc, hDc⟩ := lI_oo hI
  have hFc := va_free (wc := owo G h0 h σ ho fo) hI.2.1 hI.2.2 hA [0, 1, 2, 3, 4, 23] rfl
  subst hst
  refine va_calli (vx_runSW (As := .ref h0 :: As) (rest := rest) S hM cw ⟨lPreO_blind, fun U hU hW => ⟨rfl, by rw [hU], by rw [hU]; exact hPc, gK.moved hW.alike hK, hDc.weaken (fun _ _ _ _ => trivial), by rw [hU]; exact ((hZ.kept hI.2.2.2.1).narrow hFc).warm hW, va_Nc.moved hW.alike hN⟩⟩ rfl hn hs rfl (lv_room hW) hdg hf) hI.2.2 (fun q _ h => hFc q h) hFc (fun r1 u t H1 locs1 ht hvm hw hB hz1 hk1 hS => ?_)
  obtain ⟨e1, e2⟩ := hw
  subst e1; subst e2
  obtain ⟨hw1, hn1, hP1, hK1, hD1⟩ := hB
  rw [ht] at hP1
  obtain ⟨hP, hD⟩ := va_join (wr := mw G m0 mh μ) (wc := owo G h0 h σ ho fo) (w1 := owo G h0 (hw1, h.2.1, hn1, h.2.2.2) u ho fo') hI.1 hI.2.1 [0, 1, 2, 3, 4, 23] [5, 6, 7, 8, 9, 10, 11, 12, 13, 14, 15, 16, 17, 18, 19, 20, 21, 22] rfl rfl (by decide) (by decide) hk1 hFc hP1 hD1
  exact kk (hw1, h.2.1, hn1, h.2.2.2) H1 locs1 ⟨hP.sub [18, 19, 20, 21, 22, 0, 1, 2, 3, 4, 5, 6, 7, 8, 9, 10, 11, 12, 13, 14, 15, 16, 17, 23] rfl, hD.sub [18, 19, 20, 21, 22, 0, 1, 2, 3, 4, 5, 6, 7, 8, 9, 10, 11, 12, 13, 14, 15, 16, 17, 23] (by decide) rfl, hS⟩
/-- the world behind a call of the reference -/
theorem lI_mj (hI : lI s A G h0 h σ m0 mh μ ho fo H locs) (hFc : ∀ q, va_A (mw G m0 mh μ) H.size q → A q) {H1 : Heap} {locs1 : List Loc} (hk1 : ∀ q : Nat, q < H.size → ¬ va_A (mw G m0 mh μ) H.size q → H1[q]? = H[q]?) (hP1 : va_P G.1 vwCl (mw G m0 mh μ') H1) (hD1 : va_D (va_A (mw G m0 mh μ) H.size) (mw G m0 mh μ')) (hS : va_S A s.heap H1 locs1) : lI s A G h0 h σ m0 mh μ' ho fo H1 locs1 := by
  obtain ⟨hP, hD⟩ := va_join (wr := ow G h0 h σ ++ [(ho, .inl (G.2.2.1, 1, .inr (.inl fo)))]) (wc := mw G m0 mh μ) (w1 := mw G m0 mh μ') hI.1 hI.2.1 [5, 6, 7, 8, 9, 10, 11, 12, 13, 14, 15, 16, 17, 18, 19, 20, 21, 22] [0, 1, 2, 3, 4, 23] rfl rfl (by decide) (by decide) hk1 hFc hP1 hD1
  exact ⟨hP.sub [0, 1, 2, 3, 4, 6, 7, 8, 9, 10, 11, 12, 13, 14, 15, 16, 17, 18, 19, 20, 21, 22, 23, 5] rfl, hD.sub [0, 1, 2, 3, 4, 6, 7, 8, 9, 10, 11, 12, 13, 14, 15, 16, 17, 18, 19, 20, 21, 22, 23, 5] (by decide) rfl, hS⟩
theorem lfr (hA : ∀ q, s.heap.size ≤ q → A q) (hI : lI s A G h0 h σ m0 mh μ ho fo H locs) : ∀ q, va_A (mw G m0 mh μ) H.size q → A q := va_free (wc := mw G m0 mh μ) hI.2.1 hI.2.2 hA [5, 6, 7, 8, 9, 10, 11, 12, 13, 14, 15, 16, 17, 18, 19, 20, 21, 22] rfl
theorem lpv (hK : gK G s) (hI : lI s A G h0 h σ m0 mh μ ho fo H locs) : PreV s H RX1 m0 (mPre G m0 mh μ H.size As) As :=
  ⟨mPre_blind, va_recv hK (lI_m hI).1 (ci := 3) (q0 := 0) rfl rfl, fun U hU hW => ⟨rfl, by rw [hU], by rw [hU]; exact (lI_m hI).1, gK.moved hW.alike hK, (lI_m hI).2.weaken (fun _ _ _ _ => trivial)⟩⟩
theorem lm_i (S : CallFix p m c cc nL s args Ts RL) (hK : gK G s) (hA : ∀ q, s.heap.size ≤ q → A q) (hI : lI s A G h0 h σ m0 mh μ ho fo H locs) {r : Int32}
    (hM : Met l y ws rm (mPre G m0 mh μ H.size As) (mQi G m0 mh r μ' (mA G m0 mh μ H.size)) mc ms (mA G m0 mh μ H.size))
    (cw : CallW R s args RL RX1 index y bytes maxL ret ws rm mc ms n) (hn : As.length = n) (hs : ls.size = nL) (hst : st0 = As.reverse ++ .ref m0 :: rest) (hW : (rest.map fun v => v.category).sum ≤ 8)
    (hdg : decode cc pc = .ok (.invokevirtual index, 3)) (hf : cells + mc ≤ R.cells ∧ slots + ms ≤ R.slots)
    (kk : ∀ (H1 : Heap) (locs1 : List Loc), lI s A G h0 h σ m0 mh μ' ho fo H1 locs1 → W p l e R s m args below meth c H1 locs1 (cells + mc) (slots + ms) Q (F0 m (pc + 3) ls (.int r :: rest))) :
    W p l e R s m args below meth c H locs cells slots Q (F0 m pc ls st0) := by
  have hFc := lfr hA hI
  subst hst
  refine va_calli (va_runV (As := As) (rest := rest) S hM cw (lpv hK hI) rfl hn hs rfl (lv_room hW) hdg hf) hI.2.2 (fun q _ h => hFc q h) hFc (fun r1 u t H1 locs1 ht hvm hw hB hz1 hk1 hS => ?_)
  obtain ⟨e1, e2⟩ := hw
  subst e1; subst e2
  obtain ⟨hP1, hK1, hD1⟩ := hB
  rw [ht] at hP1
  exact kk H1 locs1 (lI_mj hI hFc hk1 hP1 hD1 hS)
theorem lm_l (S : CallFix p m c cc nL s args Ts RL) (hK : gK G s) (hA : ∀ q, s.heap.size ≤ q → A q) (hI : lI s A G h0 h σ m0 mh μ ho fo H locs) {r : Int64}
    (hM : Met l y ws rm (mPre G m0 mh μ H.size As) (mQl G m0 mh r μ' (mA G m0 mh μ H.size)) mc ms (mA G m0 mh μ H.size))
    (cw : CallW R s args RL RX1 index y bytes maxL ret ws rm mc ms n) (hn : As.length = n) (hs : ls.size = nL) (hst : st0 = As.reverse ++ .ref m0 :: rest) (hW : (rest.map fun v => v.category).sum ≤ 8)
    (hdg : decode cc pc = .ok (.invokevirtual index, 3)) (hf : cells + mc ≤ R.cells ∧ slots + ms ≤ R.slots)
    (kk : ∀ (H1 : Heap) (locs1 : List Loc), lI s A G h0 h σ m0 mh μ' ho fo H1 locs1 → W p l e R s m args below meth c H1 locs1 (cells + mc) (slots + ms) Q (F0 m (pc + 3) ls (.long r :: rest))) :
    W p l e R s m args below meth c H locs cells slots Q (F0 m pc ls st0) := by
  have hFc := lfr hA hI
  subst hst
  refine va_calll (va_runV (As := As) (rest := rest) S hM cw (lpv hK hI) rfl hn hs rfl (lv_room hW) hdg hf) hI.2.2 (fun q _ h => hFc q h) hFc (fun r1 u t H1 locs1 ht hvm hw hB hz1 hk1 hS => ?_)
  obtain ⟨e1, e2⟩ := hw
  subst e1; subst e2
  obtain ⟨hP1, hK1, hD1⟩ := hB
  rw [ht] at hP1
  exact kk H1 locs1 (lI_mj hI hFc hk1 hP1 hD1 hS)
theorem lm_v (S : CallFix p m c cc nL s args Ts RL) (hK : gK G s) (hA : ∀ q, s.heap.size ≤ q → A q) (hI : lI s A G h0 h σ m0 mh μ ho fo H locs)
    (hM : Met l y ws rm (mPre G m0 mh μ H.size As) (mQv G m0 mh μ' (mA G m0 mh μ H.size)) mc ms (mA G m0 mh μ H.size))
    (cw : CallW R s args RL RX1 index y bytes maxL ret ws rm mc ms n) (hn : As.length = n) (hs : ls.size = nL) (hst : st0 = As.reverse ++ .ref m0 :: rest) (hW : (rest.map fun v => v.category).sum ≤ 8)
    (hdg : decode cc pc = .ok (.invokevirtual index, 3)) (hf : cells + mc ≤ R.cells ∧ slots + ms ≤ R.slots)
    (kk : ∀ (H1 : Heap) (locs1 : List Loc), lI s A G h0 h σ m0 mh μ' ho fo H1 locs1 → W p l e R s m args below meth c H1 locs1 (cells + mc) (slots + ms) Q (F0 m (pc + 3) ls rest)) :
    W p l e R s m args below meth c H locs cells slots Q (F0 m pc ls st0) := by
  have hFc := lfr hA hI
  subst hst
  refine va_callv (va_runV (As := As) (rest := rest) S hM cw (lpv hK hI) rfl hn hs rfl (lv_room hW) hdg hf) hI.2.2 (fun q _ h => hFc q h) hFc (fun u t H1 locs1 ht hvm hw hB hz1 hk1 hS => ?_)
  subst hw
  obtain ⟨hP1, hK1, hD1⟩ := hB
  rw [ht] at hP1
  exact kk H1 locs1 (lI_mj hI hFc hk1 hP1 hD1 hS)
/-- collect of the class -/
theorem lx_i (S : CallFix p m c cc nL s args Ts RL) (hK : gK G s) (hA : ∀ q, s.heap.size ≤ q → A q) (hI : lI s A G h0 h σ m0 mh μ ho fo H locs) {r : Int32}
    (hM : Met l y ws rm (oPre G h0 h σ H.size As) (oQi G h0 h r σ' (oA G h0 h σ H.size)) mc ms (oA G h0 h σ H.size))
    (cw : CallW R s args RL RX0 index y bytes maxL ret ws rm mc ms n) (hn : As.length = n) (hs : ls.size = nL) (hst : st0 = As.reverse ++ .ref h0 :: rest) (hW : (rest.map fun v => v.category).sum ≤ 8)
    (hdg : decode cc pc = .ok (.invokevirtual index, 3)) (hf : cells + mc ≤ R.cells ∧ slots + ms ≤ R.slots)
    (kk : ∀ (H1 : Heap) (locs1 : List Loc), lI s A G h0 h σ' m0 mh μ ho fo H1 locs1 → W p l e R s m args below meth c H1 locs1 (cells + mc) (slots + ms) Q (F0 m (pc + 3) ls (.int r :: rest))) :
    W p l e R s m args below meth c H locs cells slots Q (F0 m pc ls st0) := by
  obtain ⟨hPc, hDc⟩ := lI_o hI
  have hFc := va_free (wc := ow G h0 h σ) hI.2.1 hI.2.2 hA [0, 1, 2, 3, 4] rfl
  subst hst
  refine va_calli (va_runV (As := As) (rest := rest) S hM cw ⟨oPre_blind, va_recv hK hPc (ci := 2) (q0 := 0) rfl rfl, fun U hU hW => ⟨rfl, by rw [hU], by rw [hU]; exact hPc, gK.moved hW.alike hK, hDc.weaken (fun _ _ _ _ => trivial)⟩⟩ rfl hn hs rfl (lv_room hW) hdg hf) hI.2.2 (fun q _ h => hFc q h) hFc (fun r1 u t H1 locs1 ht hvm hw hB hz1 hk1 hS => ?_)
  obtain ⟨e1, e2⟩ := hw
  subst e1; subst e2
  obtain ⟨hP1, hK1, hD1⟩ := hB
  rw [ht] at hP1
  obtain ⟨hP, hD⟩ := va_join (wr := mw G m0 mh μ ++ [(ho, .inl (G.2.2.1, 1, .inr (.inl fo)))]) (wc := ow G h0 h σ) (w1 := ow G h0 h u) hI.1 hI.2.1 [0, 1, 2, 3, 4] [5, 6, 7, 8, 9, 10, 11, 12, 13, 14, 15, 16, 17, 18, 19, 20, 21, 22, 23] rfl rfl (by decide) (by decide) hk1 hFc hP1 hD1
  exact kk H1 locs1 ⟨hP.sub [19, 20, 21, 22, 23, 0, 1, 2, 3, 4, 5, 6, 7, 8, 9, 10, 11, 12, 13, 14, 15, 16, 17, 18] rfl, hD.sub [19, 20, 21, 22, 23, 0, 1, 2, 3, 4, 5, 6, 7, 8, 9, 10, 11, 12, 13, 14, 15, 16, 17, 18] (by decide) rfl, hS⟩
end LC
