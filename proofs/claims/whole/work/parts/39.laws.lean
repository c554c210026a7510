/-! the law's static methods: a call of the class, its exceptions caught -/
def xC {α : Type} (r : Int32 ⊕ α) : Int32 := match r with
  | .inl k => if k = 1 then 1 else 2
  | .inr _ => 0
theorem lwMet {l : Launch} {y : MethodName} {ws ws' : List Cond} {rm : Room} {Pc : Array Value → State → Prop} {Qc : Array Value → State → Outcome → State → Prop} {mc ms : Nat} {free : Addr → Prop} {cc : ByteArray} {maxL : Nat} {ret : Option FieldType} {hh : List (Nat × Nat × Nat × Nat)}
    (hy : plainName y.cls = true) (hw : ws = Cond.codeWith y cc maxL ret hh :: ws')
    (body : ∀ p e s m args below meth c s₁, BodyLoose p l y (headSpec ws rm) cc maxL ret e s m args below meth c s₁ → c.maxLocals = maxL → Pc args s →
      W p l e rm s m args below meth c s.heap [] 0 0 (MQ below Qc args s mc ms free) (entryFrame m args maxL)) : Met l y ws rm Pc Qc mc ms free := by
  refine MetFree.of_bodyS (code := cc) (maxLocals := maxL) (ret := ret) hy ?_ ?_
  · intro args s m h hn
    obtain ⟨m9, meth, c, hn9, h1, h2, h3, h4, -, h5, h6, -⟩ := Cond.codeWith_spec (atoms_spec (ws := ws) h _ (by rw [hw]; exact List.mem_cons_self))
    cases hn.symm.trans hn9
    exact ⟨meth, c, h1, h2, h3, h4, h5, h6⟩
  · intro p e s m args below meth c s₁ B hml hP _
    have hh0 : s₁.heap = s.heap := by rw [B.state]; rfl
    obtain ⟨t, a1, o, b1, b2, b3⟩ := body p e s m args below meth c s₁ B hml hP s₁ hh0 (Stand.of_body B)
    exact ⟨t, o, a1, b1, b2, ⟨b3.1, b3.2⟩⟩
/-- the class's world, and the law's row 'out' beside it -/
def owo (G : gT) (h0 : Nat) (h : oH) (σ : oS) (ho : Nat) (fo : Nat → Int64) : va_W := ow G h0 h σ ++ [(ho, .inl (G.2.2.1, 1, .inr (.inl fo)))]
def lPre (G : gT) (h0 : Nat) (h : oH) (σ : oS) (sz : Nat) (av : List Value) : Array Value → State → Prop := va_Pc (.ref h0 :: av) (fun U => U.heap.size = sz ∧ va_P G.1 vwCl (ow G h0 h σ) U.heap ∧ gK G U ∧ va_D (fun _ => True) (ow G h0 h σ) ∧ xZ (oA G h0 h σ sz) U U.heap ∧ va_Nc "java/lang/IllegalStateException" "java/lang/IllegalArgumentException" U)
theorem lPre_blind {G : gT} {h0 : Nat} {h : oH} {σ : oS} {sz : Nat} {av : List Value} : FrameBlind (lPre G h0 h σ sz av) := by
  intro a U g mk q
  obtain ⟨q0, q1, qP, qK, qD, qZ, qN⟩ := q
  exact ⟨q0, q1, qP, gK.moved (u := U) (U := U.calling g mk a) (Vm.Alike.refl U.vm) qK, qD, xZ.warm (s := U) (U := U.calling g mk a) (State.WarmedH.refl U) qZ, va_Nc.moved (u := U) (U := U.calling g mk a) (Vm.Alike.refl U.vm) qN⟩
def lQ (G : gT) (h0 : Nat) (h : oH) (k : Int32) (σ' : oS) (A : Nat → Prop) : Array Value → State → Outcome → State → Prop := va_Qi (fun (a : Int32) (u : oS) => a = k ∧ u = σ') (oAtE G A h0 h.2.1 h.2.2.2) A
def oAo (G : gT) (h0 : Nat) (h : oH) (σ : oS) (ho : Nat) (fo : Nat → Int64) (sz : Nat) : Nat → Prop := va_A (owo G h0 h σ ho fo) sz
def lPreO (G : gT) (h0 : Nat) (h : oH) (σ : oS) (ho : Nat) (fo : Nat → Int64) (sz : Nat) (av : List Value) : Array Value → State → Prop := va_Pc (.ref h0 :: av) (fun U => U.heap.size = sz ∧ va_P G.1 vwCl (owo G h0 h σ ho fo) U.heap ∧ gK G U ∧ va_D (fun _ => True) (owo G h0 h σ ho fo) ∧ xZ (oAo G h0 h σ ho fo sz) U U.heap ∧ va_Nc "java/lang/IllegalStateException" "java/lang/IllegalArgumentException" U)
theorem lPreO_blind {G : gT} {h0 : Nat} {h : oH} {σ : oS} {ho : Nat} {fo : Nat → Int64} {sz : Nat} {av : List Value} : FrameBlind (lPreO G h0 h σ ho fo sz av) := by
  intro a U g mk q
  obtain ⟨q0, q1, qP, qK, qD, qZ, qN⟩ := q
  exact ⟨q0, q1, qP, gK.moved (u := U) (U := U.calling g mk a) (Vm.Alike.refl U.vm) qK, qD, xZ.warm (s := U) (U := U.calling g mk a) (State.WarmedH.refl U) qZ, va_Nc.moved (u := U) (U := U.calling g mk a) (Vm.Alike.refl U.vm) qN⟩
/-- what 'out' holds behind a call -/
def oOut {α : Type} (v : α → Int64) (r : Int32 ⊕ α) (fo : Nat → Int64) : Nat → Int64 := match r with
  | .inl _ => fo
  | .inr a => vp_updL fo 0 (v a)
noncomputable def zL (a : Int32) : Int64 := cIf (a = 0) 0 1
def lQO (G : gT) (h0 : Nat) (h : oH) (k : Int32) (σ' : oS) (ho : Nat) (fo' : Nat → Int64) (A : Nat → Prop) : Array Value → State → Outcome → State → Prop := va_Qi (fun (a : Int32) (u : oS) => a = k ∧ u = σ') (fun u t => ∃ hw hn, va_P G.1 vwCl (owo G h0 (hw, h.2.1, hn, h.2.2.2) u ho fo') t.heap ∧ gK G t ∧ va_D A (owo G h0 (hw, h.2.1, hn, h.2.2.2) u ho fo')) A

abbrev rL_take (C N : Nat) : Room := { frames := 8, cells := C, slots := N, locals := 141 }
theorem nL_take : yL_take.cls ≠ "java/lang/invoke/MethodHandle" ∧ yL_take.cls ≠ "java/lang/invoke/VarHandle" ∧ (parseMethodDescriptor yL_take.desc).map (fun d => d.parameters.length) = some 5 := by decide +kernel
set_option maxHeartbeats 4000000 in
set_option maxRecDepth 100000 in
theorem kL_take (l : Launch) (htr : l.stackTraces = false) (G : gT) (h0 : Nat) (h : oH) (sz F : Nat) (σ : oS) (p1 : Int32) (p2 : Int32) (p3 : Int32) (p4 : Int32) (r : Int32 ⊕ Unit) (σr : oS) (C N : Nat) (hg : fX0_take F σ p1 p2 p3 p4 = some (r, σr, C, N)) : Met l yL_take wsL_take (rL_take C N) (lPre G h0 h σ sz [.int p1, .int p2, .int p3, .int p4]) (lQ G h0 h (xC r) σr (oA G h0 h σ sz)) C N (oA G h0 h σ sz) := by
  refine lwMet (cc := cL_take) (maxL := 6) (ret := some .int) (hh := [(0, 9, 12, 13), (0, 9, 16, 15)]) (by decide +kernel) rfl ?_
  intro p e s m args below meth c s₁ B hml hv
  obtain ⟨rfl, hsz, hP, hK, hD0, hZ, hNc⟩ := hv
  have hx := B.exec
  have hb := B.bytes
  have hr := B.returns
  have hlocks := B.notSynchronized
  have hts := atoms_spec (ws := wsL_take) B.pre
  have hown : s.vm.findClass RL = some m.cls := findClass_of_methodNamed B.named
  have htab := vx_table (x := yL_take) (hh := [(0, 9, 12, 13), (0, 9, 16, 15)]) B (hts _ List.mem_cons_self)
  subst hsz
  have hD := hD0.self (sz := s.heap.size)
  generalize hAe : va_A (ow G h0 h σ) s.heap.size = A at hD
  have hAe2 : oA G h0 h σ s.heap.size = A := hAe
  rw [hAe2] at hZ ⊢
  have hA : ∀ q : Nat, s.heap.size ≤ q → A q := fun q h => by rw [← hAe]; exact Or.inr h
  have hS : va_S A s.heap s.heap [] := va_S.rf
  have hl := lv_entry ([.ref h0, .int p1, .int p2, .int p3, .int p4]) (n := 6) (Nat.le_of_ble_eq_true rfl)
  rw [lg_entry_eq]
  generalize (lg_sl ([.ref h0, .int p1, .int p2, .int p3, .int p4]) ++ List.replicate (6 - (lg_sl ([.ref h0, .int p1, .int p2, .int p3, .int p4])).length) Slot.unset).toArray = ls at hl ⊢
  have hl : lv_has ls 6 [(0, .ref h0), (1, .int p1), (2, .int p2), (3, .int p3), (4, .int p4)] := hl
  refine lv_aload_n hx hb dL_take_0 rfl (lv_at hl 0 rfl) ?_
  refine lv_iload_n hx hb dL_take_1 rfl (lv_at hl 1 rfl) ?_
  refine lv_iload_n hx hb dL_take_2 rfl (lv_at hl 2 rfl) ?_
  refine lv_iload_n hx hb dL_take_3 rfl (lv_at hl 3 rfl) ?_
  refine lv_iload hx hb dL_take_4 (lv_at hl 4 rfl) ?_
  have hPc : va_P G.1 vwCl (ow G h0 h σ) s.heap := hP
  have hDc : va_D A (ow G h0 h σ) := hD
  have hFc := va_free (wc := ow G h0 h σ) hD hS hA [0, 1, 2, 3, 4] rfl
  refine vx_callv (vx_runV (As := [.int p1, .int p2, .int p3, .int p4]) (rest := []) ⟨hx, hb, hml, hown, hts⟩ (kX0_take l htr G h0 h s.heap.size F σ p1 p2 p3 p4 r σr C N hg) (cwV 4 hts gL_take_X0_take rfl rfl rfl nX0_take ⟨Nat.le_of_ble_eq_true rfl, Nat.le_of_ble_eq_true rfl⟩) ⟨oPreX_blind, va_recv hK hPc (ci := 2) (q0 := 0) rfl rfl, fun U hU hW => ⟨rfl, by rw [hU], by rw [hU]; exact hPc, gK.moved hW.alike hK, hDc.weaken (fun _ _ _ _ => trivial), by rw [hU]; exact (hZ.narrow hFc).warm hW⟩⟩ rfl rfl hl.1 rfl (lv_room (Nat.le_of_ble_eq_true rfl)) dL_take_6 ⟨by show 0 + C ≤ C; omega, by show 0 + N ≤ N; omega⟩) hS (fun q _ h => hFc q h) hFc (fun q _ h => hFc q h) (fun E ce q9 u t H1 locs1 ht hvm hp hB hz hk hS hcell hv hcl => ?_) (fun u t H1 locs1 ht hvm hw hB hz hk hS => ?_)
  · obtain ⟨⟨k, hk9, hE⟩, hB⟩ := hB
    subst hp
    subst hk9
    obtain ⟨hw1, hn1, hP1, hK1, hD1⟩ := hB
    rw [ht] at hP1
    have hP := hP1
    have hD : va_D A (ow G h0 (hw1, h.2.1, hn1, h.2.2.2) u) := hD1.weaken (fun k q _ h => hFc q.1 h)
    by_cases hk1 : k = 1
    · have hE : E = "java/lang/IllegalArgumentException" := by rw [hE]; show (if k = 1 then _ else _) = _; rw [if_pos hk1]
      subst hE
      refine vx_catch hown [] ⟨0, 9, 12, 13⟩ [⟨0, 9, 16, 15⟩] htab (fun z hz => nomatch hz) rfl (by decide) (hts (.classLink RL 13 "java/lang/IllegalArgumentException") (by decide +kernel)) (xface (w := .castable "java/lang/IllegalArgumentException" "java/lang/IllegalArgumentException") rfl rfl (Vm.Alike.refl s.vm) (hZ.2.2.2 _ (by decide +kernel))) hcell hv hcl ?_
      refine lv_astore (lv' := [(5, .ref q9), (0, .ref h0), (1, .int p1), (2, .int p2), (3, .int p3), (4, .int p4)]) hx hb dL_take_12 hl (by decide) rfl (fun ls hl => ?_)
      refine lv_iconst (v := 1) hx hb dL_take_14 (by decide) ?_
      refine W.widen (k := C) (n := N) (by show 0 + C ≤ C; omega) (by show 0 + N ≤ N; omega) ?_
      exact W.iret hx hb hr (fun t ht hW => ⟨⟨1, _, rfl, ⟨by show (1 : Int32) = (if k = 1 then 1 else 2); rw [if_pos hk1], rfl⟩, hw1, hn1, by rw [ht]; exact hP, gK.moved hW.alike hK, hD⟩, hS.F ht⟩) hS.2.2 dL_take_15 hlocks
    · have hE : E = "java/lang/IllegalStateException" := by rw [hE]; show (if k = 1 then _ else _) = _; rw [if_neg hk1]
      subst hE
      refine vx_catch hown [⟨0, 9, 12, 13⟩] ⟨0, 9, 16, 15⟩ [] htab (fun z hz => by rw [List.mem_singleton.mp hz]; exact Or.inr ⟨by decide, _, hts (.classLink RL 13 "java/lang/IllegalArgumentException") (by decide +kernel), hNc⟩) rfl (by decide) (hts (.classLink RL 15 "java/lang/IllegalStateException") (by decide +kernel)) (xface (w := .castable "java/lang/IllegalStateException" "java/lang/IllegalStateException") rfl rfl (Vm.Alike.refl s.vm) (hZ.2.2.2 _ (by decide +kernel))) hcell hv hcl ?_
      refine lv_astore (lv' := [(5, .ref q9), (0, .ref h0), (1, .int p1), (2, .int p2), (3, .int p3), (4, .int p4)]) hx hb dL_take_16 hl (by decide) rfl (fun ls hl => ?_)
      refine lv_iconst (v := 2) hx hb dL_take_18 (by decide) ?_
      refine W.widen (k := C) (n := N) (by show 0 + C ≤ C; omega) (by show 0 + N ≤ N; omega) ?_
      exact W.iret hx hb hr (fun t ht hW => ⟨⟨2, _, rfl, ⟨by show (2 : Int32) = (if k = 1 then 1 else 2); rw [if_neg hk1], rfl⟩, hw1, hn1, by rw [ht]; exact hP, gK.moved hW.alike hK, hD⟩, hS.F ht⟩) hS.2.2 dL_take_19 hlocks
  · obtain ⟨er, eu⟩ := hw
    subst er; subst eu
    obtain ⟨hw1, hn1, hP1, hK1, hD1⟩ := hB
    rw [ht] at hP1
    have hP := hP1
    have hD : va_D A (ow G h0 (hw1, h.2.1, hn1, h.2.2.2) u) := hD1.weaken (fun k q _ h => hFc q.1 h)
    refine lv_goto (tgt := 20) hx hb dL_take_9 (by decide) ?_
    refine lv_iconst (v := 0) hx hb dL_take_20 (by decide) ?_
    refine W.widen (k := C) (n := N) (by show 0 + C ≤ C; omega) (by show 0 + N ≤ N; omega) ?_
    exact W.iret hx hb hr (fun t ht hW => ⟨⟨0, _, rfl, ⟨rfl, rfl⟩, hw1, hn1, by rw [ht]; exact hP, gK.moved hW.alike hK, hD⟩, hS.F ht⟩) hS.2.2 dL_take_21 hlocks
abbrev rL_copy (C N : Nat) : Room := { frames := 8, cells := C, slots := N, locals := 132 }
theorem nL_copy : yL_copy.cls ≠ "java/lang/invoke/MethodHandle" ∧ yL_copy.cls ≠ "java/lang/invoke/VarHandle" ∧ (parseMethodDescriptor yL_copy.desc).map (fun d => d.parameters.length) = some 3 := by decide +kernel
set_option maxHeartbeats 4000000 in
set_option maxRecDepth 100000 in
theorem kL_copy (l : Launch) (htr : l.stackTraces = false) (G : gT) (h0 : Nat) (h : oH) (sz F : Nat) (σ : oS) (p1 : Int32) (p2 : Int32) (r : Int32 ⊕ Unit) (σr : oS) (C N : Nat) (hk1 : ∀ k, r = .inl k → k = 1) (hg : fX0_copy F σ p1 p2 = some (r, σr, C, N)) : Met l yL_copy wsL_copy (rL_copy C N) (lPre G h0 h σ sz [.int p1, .int p2]) (lQ G h0 h (xC r) σr (oA G h0 h σ sz)) C N (oA G h0 h σ sz) := by
  refine lwMet (cc := cL_copy) (maxL := 4) (ret := some .int) (hh := [(0, 6, 9, 13)]) (by decide +kernel) rfl ?_
  intro p e s m args below meth c s₁ B hml hv
  obtain ⟨rfl, hsz, hP, hK, hD0, hZ, hNc⟩ := hv
  have hx := B.exec
  have hb := B.bytes
  have hr := B.returns
  have hlocks := B.notSynchronized
  have hts := atoms_spec (ws := wsL_copy) B.pre
  have hown : s.vm.findClass RL = some m.cls := findClass_of_methodNamed B.named
  have htab := vx_table (x := yL_copy) (hh := [(0, 6, 9, 13)]) B (hts _ List.mem_cons_self)
  subst hsz
  have hD := hD0.self (sz := s.heap.size)
  generalize hAe : va_A (ow G h0 h σ) s.heap.size = A at hD
  have hAe2 : oA G h0 h σ s.heap.size = A := hAe
  rw [hAe2] at hZ ⊢
  have hA : ∀ q : Nat, s.heap.size ≤ q → A q := fun q h => by rw [← hAe]; exact Or.inr h
  have hS : va_S A s.heap s.heap [] := va_S.rf
  have hl := lv_entry ([.ref h0, .int p1, .int p2]) (n := 4) (Nat.le_of_ble_eq_true rfl)
  rw [lg_entry_eq]
  generalize (lg_sl ([.ref h0, .int p1, .int p2]) ++ List.replicate (4 - (lg_sl ([.ref h0, .int p1, .int p2])).length) Slot.unset).toArray = ls at hl ⊢
  have hl : lv_has ls 4 [(0, .ref h0), (1, .int p1), (2, .int p2)] := hl
  refine lv_aload_n hx hb dL_copy_0 rfl (lv_at hl 0 rfl) ?_
  refine lv_iload_n hx hb dL_copy_1 rfl (lv_at hl 1 rfl) ?_
  refine lv_iload_n hx hb dL_copy_2 rfl (lv_at hl 2 rfl) ?_
  have hPc : va_P G.1 vwCl (ow G h0 h σ) s.heap := hP
  have hDc : va_D A (ow G h0 h σ) := hD
  have hFc := va_free (wc := ow G h0 h σ) hD hS hA [0, 1, 2, 3, 4] rfl
  refine vx_callv (vx_runV (As := [.int p1, .int p2]) (rest := []) ⟨hx, hb, hml, hown, hts⟩ (kX0_copy l htr G h0 h s.heap.size F σ p1 p2 r σr C N hg) (cwV 2 hts gL_copy_X0_copy rfl rfl rfl nX0_copy ⟨Nat.le_of_ble_eq_true rfl, Nat.le_of_ble_eq_true rfl⟩) ⟨oPreX_blind, va_recv hK hPc (ci := 2) (q0 := 0) rfl rfl, fun U hU hW => ⟨rfl, by rw [hU], by rw [hU]; exact hPc, gK.moved hW.alike hK, hDc.weaken (fun _ _ _ _ => trivial), by rw [hU]; exact (hZ.narrow hFc).warm hW⟩⟩ rfl rfl hl.1 rfl (lv_room (Nat.le_of_ble_eq_true rfl)) dL_copy_3 ⟨by show 0 + C ≤ C; omega, by show 0 + N ≤ N; omega⟩) hS (fun q _ h => hFc q h) hFc (fun q _ h => hFc q h) (fun E ce q9 u t H1 locs1 ht hvm hp hB hz hk hS hcell hv hcl => ?_) (fun u t H1 locs1 ht hvm hw hB hz hk hS => ?_)
  · obtain ⟨⟨k, hk9, hE⟩, hB⟩ := hB
    subst hp
    subst hk9
    obtain ⟨hP1, hK1, hD1⟩ := hB
    rw [ht] at hP1
    obtain ⟨hw1, hw1e⟩ : ∃ z, z = h.1 := ⟨_, rfl⟩
    obtain ⟨hn1, hn1e⟩ : ∃ z, z = h.2.2.1 := ⟨_, rfl⟩
    have hP1 : va_P G.1 vwCl (ow G h0 (hw1, h.2.1, hn1, h.2.2.2) u) H1 := by rw [hw1e, hn1e]; exact hP1
    have hD1 : va_D (oA G h0 h σ s.heap.size) (ow G h0 (hw1, h.2.1, hn1, h.2.2.2) u) := by rw [hw1e, hn1e]; exact hD1
    have hP := hP1
    have hD : va_D A (ow G h0 (hw1, h.2.1, hn1, h.2.2.2) u) := hD1.weaken (fun k q _ h => hFc q.1 h)
    have hk1 := hk1 k rfl
    have hE : E = "java/lang/IllegalArgumentException" := by rw [hE]; show (if k = 1 then _ else _) = _; rw [if_pos hk1]
    subst hE
    refine vx_catch hown [] ⟨0, 6, 9, 13⟩ [] htab (fun z hz => nomatch hz) rfl (by decide) (hts (.classLink RL 13 "java/lang/IllegalArgumentException") (by decide +kernel)) (xface (w := .castable "java/lang/IllegalArgumentException" "java/lang/IllegalArgumentException") rfl rfl (Vm.Alike.refl s.vm) (hZ.2.2.2 _ (by decide +kernel))) hcell hv hcl ?_
    refine lv_astore_n (lv' := [(3, .ref q9), (0, .ref h0), (1, .int p1), (2, .int p2)]) hx hb dL_copy_9 rfl hl (by decide) rfl (fun ls hl => ?_)
    refine lv_iconst (v := 1) hx hb dL_copy_10 (by decide) ?_
    refine W.widen (k := C) (n := N) (by show 0 + C ≤ C; omega) (by show 0 + N ≤ N; omega) ?_
    exact W.iret hx hb hr (fun t ht hW => ⟨⟨1, _, rfl, ⟨by show (1 : Int32) = (if k = 1 then 1 else 2); rw [if_pos hk1], rfl⟩, hw1, hn1, by rw [ht]; exact hP, gK.moved hW.alike hK, hD⟩, hS.F ht⟩) hS.2.2 dL_copy_11 hlocks
  · obtain ⟨er, eu⟩ := hw
    subst er; subst eu
    obtain ⟨hP1, hK1, hD1⟩ := hB
    rw [ht] at hP1
    obtain ⟨hw1, hw1e⟩ : ∃ z, z = h.1 := ⟨_, rfl⟩
    obtain ⟨hn1, hn1e⟩ : ∃ z, z = h.2.2.1 := ⟨_, rfl⟩
    have hP1 : va_P G.1 vwCl (ow G h0 (hw1, h.2.1, hn1, h.2.2.2) u) H1 := by rw [hw1e, hn1e]; exact hP1
    have hD1 : va_D (oA G h0 h σ s.heap.size) (ow G h0 (hw1, h.2.1, hn1, h.2.2.2) u) := by rw [hw1e, hn1e]; exact hD1
    have hP := hP1
    have hD : va_D A (ow G h0 (hw1, h.2.1, hn1, h.2.2.2) u) := hD1.weaken (fun k q _ h => hFc q.1 h)
    refine lv_goto (tgt := 12) hx hb dL_copy_6 (by decide) ?_
    refine lv_iconst (v := 0) hx hb dL_copy_12 (by decide) ?_
    refine W.widen (k := C) (n := N) (by show 0 + C ≤ C; omega) (by show 0 + N ≤ N; omega) ?_
    exact W.iret hx hb hr (fun t ht hW => ⟨⟨0, _, rfl, ⟨rfl, rfl⟩, hw1, hn1, by rw [ht]; exact hP, gK.moved hW.alike hK, hD⟩, hS.F ht⟩) hS.2.2 dL_copy_13 hlocks
abbrev rL_drop (C N : Nat) : Room := { frames := 8, cells := C, slots := N, locals := 131 }
theorem nL_drop : yL_drop.cls ≠ "java/lang/invoke/MethodHandle" ∧ yL_drop.cls ≠ "java/lang/invoke/VarHandle" ∧ (parseMethodDescriptor yL_drop.desc).map (fun d => d.parameters.length) = some 2 := by decide +kernel
set_option maxHeartbeats 4000000 in
set_option maxRecDepth 100000 in
theorem kL_drop (l : Launch) (htr : l.stackTraces = false) (G : gT) (h0 : Nat) (h : oH) (sz F : Nat) (σ : oS) (p1 : Int32) (r : Int32 ⊕ Unit) (σr : oS) (C N : Nat) (hk1 : ∀ k, r = .inl k → k = 1) (hg : fX0_drop F σ p1 = some (r, σr, C, N)) : Met l yL_drop wsL_drop (rL_drop C N) (lPre G h0 h σ sz [.int p1]) (lQ G h0 h (xC r) σr (oA G h0 h σ sz)) C N (oA G h0 h σ sz) := by
  refine lwMet (cc := cL_drop) (maxL := 3) (ret := some .int) (hh := [(0, 5, 8, 13)]) (by decide +kernel) rfl ?_
  intro p e s m args below meth c s₁ B hml hv
  obtain ⟨rfl, hsz, hP, hK, hD0, hZ, hNc⟩ := hv
  have hx := B.exec
  have hb := B.bytes
  have hr := B.returns
  have hlocks := B.notSynchronized
  have hts := atoms_spec (ws := wsL_drop) B.pre
  have hown : s.vm.findClass RL = some m.cls := findClass_of_methodNamed B.named
  have htab := vx_table (x := yL_drop) (hh := [(0, 5, 8, 13)]) B (hts _ List.mem_cons_self)
  subst hsz
  have hD := hD0.self (sz := s.heap.size)
  generalize hAe : va_A (ow G h0 h σ) s.heap.size = A at hD
  have hAe2 : oA G h0 h σ s.heap.size = A := hAe
  rw [hAe2] at hZ ⊢
  have hA : ∀ q : Nat, s.heap.size ≤ q → A q := fun q h => by rw [← hAe]; exact Or.inr h
  have hS : va_S A s.heap s.heap [] := va_S.rf
  have hl := lv_entry ([.ref h0, .int p1]) (n := 3) (Nat.le_of_ble_eq_true rfl)
  rw [lg_entry_eq]
  generalize (lg_sl ([.ref h0, .int p1]) ++ List.replicate (3 - (lg_sl ([.ref h0, .int p1])).length) Slot.unset).toArray = ls at hl ⊢
  have hl : lv_has ls 3 [(0, .ref h0), (1, .int p1)] := hl
  refine lv_aload_n hx hb dL_drop_0 rfl (lv_at hl 0 rfl) ?_
  refine lv_iload_n hx hb dL_drop_1 rfl (lv_at hl 1 rfl) ?_
  have hPc : va_P G.1 vwCl (ow G h0 h σ) s.heap := hP
  have hDc : va_D A (ow G h0 h σ) := hD
  have hFc := va_free (wc := ow G h0 h σ) hD hS hA [0, 1, 2, 3, 4] rfl
  refine vx_callv (vx_runV (As := [.int p1]) (rest := []) ⟨hx, hb, hml, hown, hts⟩ (kX0_drop l htr G h0 h s.heap.size F σ p1 r σr C N hg) (cwV 1 hts gL_drop_X0_drop rfl rfl rfl nX0_drop ⟨Nat.le_of_ble_eq_true rfl, Nat.le_of_ble_eq_true rfl⟩) ⟨oPreX_blind, va_recv hK hPc (ci := 2) (q0 := 0) rfl rfl, fun U hU hW => ⟨rfl, by rw [hU], by rw [hU]; exact hPc, gK.moved hW.alike hK, hDc.weaken (fun _ _ _ _ => trivial), by rw [hU]; exact (hZ.narrow hFc).warm hW⟩⟩ rfl rfl hl.1 rfl (lv_room (Nat.le_of_ble_eq_true rfl)) dL_drop_2 ⟨by show 0 + C ≤ C; omega, by show 0 + N ≤ N; omega⟩) hS (fun q _ h => hFc q h) hFc (fun q _ h => hFc q h) (fun E ce q9 u t H1 locs1 ht hvm hp hB hz hk hS hcell hv hcl => ?_) (fun u t H1 locs1 ht hvm hw hB hz hk hS => ?_)
  · obtain ⟨⟨k, hk9, hE⟩, hB⟩ := hB
    subst hp
    subst hk9
    obtain ⟨hP1, hK1, hD1⟩ := hB
    rw [ht] at hP1
    obtain ⟨hw1, hw1e⟩ : ∃ z, z = h.1 := ⟨_, rfl⟩
    obtain ⟨hn1, hn1e⟩ : ∃ z, z = h.2.2.1 := ⟨_, rfl⟩
    have hP1 : va_P G.1 vwCl (ow G h0 (hw1, h.2.1, hn1, h.2.2.2) u) H1 := by rw [hw1e, hn1e]; exact hP1
    have hD1 : va_D (oA G h0 h σ s.heap.size) (ow G h0 (hw1, h.2.1, hn1, h.2.2.2) u) := by rw [hw1e, hn1e]; exact hD1
    have hP := hP1
    have hD : va_D A (ow G h0 (hw1, h.2.1, hn1, h.2.2.2) u) := hD1.weaken (fun k q _ h => hFc q.1 h)
    have hk1 := hk1 k rfl
    have hE : E = "java/lang/IllegalArgumentException" := by rw [hE]; show (if k = 1 then _ else _) = _; rw [if_pos hk1]
    subst hE
    refine vx_catch hown [] ⟨0, 5, 8, 13⟩ [] htab (fun z hz => nomatch hz) rfl (by decide) (hts (.classLink RL 13 "java/lang/IllegalArgumentException") (by decide +kernel)) (xface (w := .castable "java/lang/IllegalArgumentException" "java/lang/IllegalArgumentException") rfl rfl (Vm.Alike.refl s.vm) (hZ.2.2.2 _ (by decide +kernel))) hcell hv hcl ?_
    refine lv_astore_n (lv' := [(2, .ref q9), (0, .ref h0), (1, .int p1)]) hx hb dL_drop_8 rfl hl (by decide) rfl (fun ls hl => ?_)
    refine lv_iconst (v := 1) hx hb dL_drop_9 (by decide) ?_
    refine W.widen (k := C) (n := N) (by show 0 + C ≤ C; omega) (by show 0 + N ≤ N; omega) ?_
    exact W.iret hx hb hr (fun t ht hW => ⟨⟨1, _, rfl, ⟨by show (1 : Int32) = (if k = 1 then 1 else 2); rw [if_pos hk1], rfl⟩, hw1, hn1, by rw [ht]; exact hP, gK.moved hW.alike hK, hD⟩, hS.F ht⟩) hS.2.2 dL_drop_10 hlocks
  · obtain ⟨er, eu⟩ := hw
    subst er; subst eu
    obtain ⟨hP1, hK1, hD1⟩ := hB
    rw [ht] at hP1
    obtain ⟨hw1, hw1e⟩ : ∃ z, z = h.1 := ⟨_, rfl⟩
    obtain ⟨hn1, hn1e⟩ : ∃ z, z = h.2.2.1 := ⟨_, rfl⟩
    have hP1 : va_P G.1 vwCl (ow G h0 (hw1, h.2.1, hn1, h.2.2.2) u) H1 := by rw [hw1e, hn1e]; exact hP1
    have hD1 : va_D (oA G h0 h σ s.heap.size) (ow G h0 (hw1, h.2.1, hn1, h.2.2.2) u) := by rw [hw1e, hn1e]; exact hD1
    have hP := hP1
    have hD : va_D A (ow G h0 (hw1, h.2.1, hn1, h.2.2.2) u) := hD1.weaken (fun k q _ h => hFc q.1 h)
    refine lv_goto (tgt := 11) hx hb dL_drop_5 (by decide) ?_
    refine lv_iconst (v := 0) hx hb dL_drop_11 (by decide) ?_
    refine W.widen (k := C) (n := N) (by show 0 + C ≤ C; omega) (by show 0 + N ≤ N; omega) ?_
    exact W.iret hx hb hr (fun t ht hW => ⟨⟨0, _, rfl, ⟨rfl, rfl⟩, hw1, hn1, by rw [ht]; exact hP, gK.moved hW.alike hK, hD⟩, hS.F ht⟩) hS.2.2 dL_drop_12 hlocks
abbrev rL_tie (C N : Nat) : Room := { frames := 10, cells := C, slots := N, locals := 179 }
theorem nL_tie : yL_tie.cls ≠ "java/lang/invoke/MethodHandle" ∧ yL_tie.cls ≠ "java/lang/invoke/VarHandle" ∧ (parseMethodDescriptor yL_tie.desc).map (fun d => d.parameters.length) = some 4 := by decide +kernel
set_option maxHeartbeats 4000000 in
set_option maxRecDepth 100000 in
theorem kL_tie (l : Launch) (htr : l.stackTraces = false) (G : gT) (h0 : Nat) (h : oH) (sz F : Nat) (σ : oS) (p1 : Int32) (p2 : Int32) (p3 : Int32) (r : Int32 ⊕ Unit) (σr : oS) (C N : Nat) (hk1 : ∀ k, r = .inl k → k = 1) (hg : fX0_tie F σ p1 p2 p3 = some (r, σr, C, N)) : Met l yL_tie wsL_tie (rL_tie C N) (lPre G h0 h σ sz [.int p1, .int p2, .int p3]) (lQ G h0 h (xC r) σr (oA G h0 h σ sz)) C N (oA G h0 h σ sz) := by
  refine lwMet (cc := cL_tie) (maxL := 5) (ret := some .int) (hh := [(0, 7, 10, 13)]) (by decide +kernel) rfl ?_
  intro p e s m args below meth c s₁ B hml hv
  obtain ⟨rfl, hsz, hP, hK, hD0, hZ, hNc⟩ := hv
  have hx := B.exec
  have hb := B.bytes
  have hr := B.returns
  have hlocks := B.notSynchronized
  have hts := atoms_spec (ws := wsL_tie) B.pre
  have hown : s.vm.findClass RL = some m.cls := findClass_of_methodNamed B.named
  have htab := vx_table (x := yL_tie) (hh := [(0, 7, 10, 13)]) B (hts _ List.mem_cons_self)
  subst hsz
  have hD := hD0.self (sz := s.heap.size)
  generalize hAe : va_A (ow G h0 h σ) s.heap.size = A at hD
  have hAe2 : oA G h0 h σ s.heap.size = A := hAe
  rw [hAe2] at hZ ⊢
  have hA : ∀ q : Nat, s.heap.size ≤ q → A q := fun q h => by rw [← hAe]; exact Or.inr h
  have hS : va_S A s.heap s.heap [] := va_S.rf
  have hl := lv_entry ([.ref h0, .int p1, .int p2, .int p3]) (n := 5) (Nat.le_of_ble_eq_true rfl)
  rw [lg_entry_eq]
  generalize (lg_sl ([.ref h0, .int p1, .int p2, .int p3]) ++ List.replicate (5 - (lg_sl ([.ref h0, .int p1, .int p2, .int p3])).length) Slot.unset).toArray = ls at hl ⊢
  have hl : lv_has ls 5 [(0, .ref h0), (1, .int p1), (2, .int p2), (3, .int p3)] := hl
  refine lv_aload_n hx hb dL_tie_0 rfl (lv_at hl 0 rfl) ?_
  refine lv_iload_n hx hb dL_tie_1 rfl (lv_at hl 1 rfl) ?_
  refine lv_iload_n hx hb dL_tie_2 rfl (lv_at hl 2 rfl) ?_
  refine lv_iload_n hx hb dL_tie_3 rfl (lv_at hl 3 rfl) ?_
  have hPc : va_P G.1 vwCl (ow G h0 h σ) s.heap := hP
  have hDc : va_D A (ow G h0 h σ) := hD
  have hFc := va_free (wc := ow G h0 h σ) hD hS hA [0, 1, 2, 3, 4] rfl
  refine vx_callv (vx_runV (As := [.int p1, .int p2, .int p3]) (rest := []) ⟨hx, hb, hml, hown, hts⟩ (kX0_tie l htr G h0 h s.heap.size F σ p1 p2 p3 r σr C N hg) (cwV 3 hts gL_tie_X0_tie rfl rfl rfl nX0_tie ⟨Nat.le_of_ble_eq_true rfl, Nat.le_of_ble_eq_true rfl⟩) ⟨oPreX_blind, va_recv hK hPc (ci := 2) (q0 := 0) rfl rfl, fun U hU hW => ⟨rfl, by rw [hU], by rw [hU]; exact hPc, gK.moved hW.alike hK, hDc.weaken (fun _ _ _ _ => trivial), by rw [hU]; exact (hZ.narrow hFc).warm hW⟩⟩ rfl rfl hl.1 rfl (lv_room (Nat.le_of_ble_eq_true rfl)) dL_tie_4 ⟨by show 0 + C ≤ C; omega, by show 0 + N ≤ N; omega⟩) hS (fun q _ h => hFc q h) hFc (fun q _ h => hFc q h) (fun E ce q9 u t H1 locs1 ht hvm hp hB hz hk hS hcell hv hcl => ?_) (fun u t H1 locs1 ht hvm hw hB hz hk hS => ?_)
  · obtain ⟨⟨k, hk9, hE⟩, hB⟩ := hB
    subst hp
    subst hk9
    obtain ⟨hP1, hK1, hD1⟩ := hB
    rw [ht] at hP1
    obtain ⟨hw1, hw1e⟩ : ∃ z, z = h.1 := ⟨_, rfl⟩
    obtain ⟨hn1, hn1e⟩ : ∃ z, z = h.2.2.1 := ⟨_, rfl⟩
    have hP1 : va_P G.1 vwCl (ow G h0 (hw1, h.2.1, hn1, h.2.2.2) u) H1 := by rw [hw1e, hn1e]; exact hP1
    have hD1 : va_D (oA G h0 h σ s.heap.size) (ow G h0 (hw1, h.2.1, hn1, h.2.2.2) u) := by rw [hw1e, hn1e]; exact hD1
    have hP := hP1
    have hD : va_D A (ow G h0 (hw1, h.2.1, hn1, h.2.2.2) u) := hD1.weaken (fun k q _ h => hFc q.1 h)
    have hk1 := hk1 k rfl
    have hE : E = "java/lang/IllegalArgumentException" := by rw [hE]; show (if k = 1 then _ else _) = _; rw [if_pos hk1]
    subst hE
    refine vx_catch hown [] ⟨0, 7, 10, 13⟩ [] htab (fun z hz => nomatch hz) rfl (by decide) (hts (.classLink RL 13 "java/lang/IllegalArgumentException") (by decide +kernel)) (xface (w := .castable "java/lang/IllegalArgumentException" "java/lang/IllegalArgumentException") rfl rfl (Vm.Alike.refl s.vm) (hZ.2.2.2 _ (by decide +kernel))) hcell hv hcl ?_
    refine lv_astore (lv' := [(4, .ref q9), (0, .ref h0), (1, .int p1), (2, .int p2), (3, .int p3)]) hx hb dL_tie_10 hl (by decide) rfl (fun ls hl => ?_)
    refine lv_iconst (v := 1) hx hb dL_tie_12 (by decide) ?_
    refine W.widen (k := C) (n := N) (by show 0 + C ≤ C; omega) (by show 0 + N ≤ N; omega) ?_
    exact W.iret hx hb hr (fun t ht hW => ⟨⟨1, _, rfl, ⟨by show (1 : Int32) = (if k = 1 then 1 else 2); rw [if_pos hk1], rfl⟩, hw1, hn1, by rw [ht]; exact hP, gK.moved hW.alike hK, hD⟩, hS.F ht⟩) hS.2.2 dL_tie_13 hlocks
  · obtain ⟨er, eu⟩ := hw
    subst er; subst eu
    obtain ⟨hP1, hK1, hD1⟩ := hB
    rw [ht] at hP1
    obtain ⟨hw1, hw1e⟩ : ∃ z, z = h.1 := ⟨_, rfl⟩
    obtain ⟨hn1, hn1e⟩ : ∃ z, z = h.2.2.1 := ⟨_, rfl⟩
    have hP1 : va_P G.1 vwCl (ow G h0 (hw1, h.2.1, hn1, h.2.2.2) u) H1 := by rw [hw1e, hn1e]; exact hP1
    have hD1 : va_D (oA G h0 h σ s.heap.size) (ow G h0 (hw1, h.2.1, hn1, h.2.2.2) u) := by rw [hw1e, hn1e]; exact hD1
    have hP := hP1
    have hD : va_D A (ow G h0 (hw1, h.2.1, hn1, h.2.2.2) u) := hD1.weaken (fun k q _ h => hFc q.1 h)
    refine lv_goto (tgt := 14) hx hb dL_tie_7 (by decide) ?_
    refine lv_iconst (v := 0) hx hb dL_tie_14 (by decide) ?_
    refine W.widen (k := C) (n := N) (by show 0 + C ≤ C; omega) (by show 0 + N ≤ N; omega) ?_
    exact W.iret hx hb hr (fun t ht hW => ⟨⟨0, _, rfl, ⟨rfl, rfl⟩, hw1, hn1, by rw [ht]; exact hP, gK.moved hW.alike hK, hD⟩, hS.F ht⟩) hS.2.2 dL_tie_15 hlocks
abbrev rL_lead (C N : Nat) : Room := { frames := 10, cells := C, slots := N, locals := 179 }
theorem nL_lead : yL_lead.cls ≠ "java/lang/invoke/MethodHandle" ∧ yL_lead.cls ≠ "java/lang/invoke/VarHandle" ∧ (parseMethodDescriptor yL_lead.desc).map (fun d => d.parameters.length) = some 4 := by decide +kernel
set_option maxHeartbeats 4000000 in
set_option maxRecDepth 100000 in
theorem kL_lead (l : Launch) (htr : l.stackTraces = false) (G : gT) (h0 : Nat) (h : oH) (sz F : Nat) (σ : oS) (p1 : Int32) (p2 : Int32) (p3 : Int32) (r : Int32 ⊕ Unit) (σr : oS) (C N : Nat) (hk1 : ∀ k, r = .inl k → k = 1) (hg : fX0_lead F σ p1 p2 p3 = some (r, σr, C, N)) : Met l yL_lead wsL_lead (rL_lead C N) (lPre G h0 h σ sz [.int p1, .int p2, .int p3]) (lQ G h0 h (xC r) σr (oA G h0 h σ sz)) C N (oA G h0 h σ sz) := by
  refine lwMet (cc := cL_lead) (maxL := 5) (ret := some .int) (hh := [(0, 7, 10, 13)]) (by decide +kernel) rfl ?_
  intro p e s m args below meth c s₁ B hml hv
  obtain ⟨rfl, hsz, hP, hK, hD0, hZ, hNc⟩ := hv
  have hx := B.exec
  have hb := B.bytes
  have hr := B.returns
  have hlocks := B.notSynchronized
  have hts := atoms_spec (ws := wsL_lead) B.pre
  have hown : s.vm.findClass RL = some m.cls := findClass_of_methodNamed B.named
  have htab := vx_table (x := yL_lead) (hh := [(0, 7, 10, 13)]) B (hts _ List.mem_cons_self)
  subst hsz
  have hD := hD0.self (sz := s.heap.size)
  generalize hAe : va_A (ow G h0 h σ) s.heap.size = A at hD
  have hAe2 : oA G h0 h σ s.heap.size = A := hAe
  rw [hAe2] at hZ ⊢
  have hA : ∀ q : Nat, s.heap.size ≤ q → A q := fun q h => by rw [← hAe]; exact Or.inr h
  have hS : va_S A s.heap s.heap [] := va_S.rf
  have hl := lv_entry ([.ref h0, .int p1, .int p2, .int p3]) (n := 5) (Nat.le_of_ble_eq_true rfl)
  rw [lg_entry_eq]
  generalize (lg_sl ([.ref h0, .int p1, .int p2, .int p3]) ++ List.replicate (5 - (lg_sl ([.ref h0, .int p1, .int p2, .int p3])).length) Slot.unset).toArray = ls at hl ⊢
  have hl : lv_has ls 5 [(0, .ref h0), (1, .int p1), (2, .int p2), (3, .int p3)] := hl
  refine lv_aload_n hx hb dL_lead_0 rfl (lv_at hl 0 rfl) ?_
  refine lv_iload_n hx hb dL_lead_1 rfl (lv_at hl 1 rfl) ?_
  refine lv_iload_n hx hb dL_lead_2 rfl (lv_at hl 2 rfl) ?_
  refine lv_iload_n hx hb dL_lead_3 rfl (lv_at hl 3 rfl) ?_
  have hPc : va_P G.1 vwCl (ow G h0 h σ) s.heap := hP
  have hDc : va_D A (ow G h0 h σ) := hD
  have hFc := va_free (wc := ow G h0 h σ) hD hS hA [0, 1, 2, 3, 4] rfl
  refine vx_callv (vx_runV (As := [.int p1, .int p2, .int p3]) (rest := []) ⟨hx, hb, hml, hown, hts⟩ (kX0_lead l htr G h0 h s.heap.size F σ p1 p2 p3 r σr C N hg) (cwV 3 hts gL_lead_X0_lead rfl rfl rfl nX0_lead ⟨Nat.le_of_ble_eq_true rfl, Nat.le_of_ble_eq_true rfl⟩) ⟨oPreX_blind, va_recv hK hPc (ci := 2) (q0 := 0) rfl rfl, fun U hU hW => ⟨rfl, by rw [hU], by rw [hU]; exact hPc, gK.moved hW.alike hK, hDc.weaken (fun _ _ _ _ => trivial), by rw [hU]; exact (hZ.narrow hFc).warm hW⟩⟩ rfl rfl hl.1 rfl (lv_room (Nat.le_of_ble_eq_true rfl)) dL_lead_4 ⟨by show 0 + C ≤ C; omega, by show 0 + N ≤ N; omega⟩) hS (fun q _ h => hFc q h) hFc (fun q _ h => hFc q h) (fun E ce q9 u t H1 locs1 ht hvm hp hB hz hk hS hcell hv hcl => ?_) (fun u t H1 locs1 ht hvm hw hB hz hk hS => ?_)
  · obtain ⟨⟨k, hk9, hE⟩, hB⟩ := hB
    subst hp
    subst hk9
    obtain ⟨hP1, hK1, hD1⟩ := hB
    rw [ht] at hP1
    obtain ⟨hw1, hw1e⟩ : ∃ z, z = h.1 := ⟨_, rfl⟩
    obtain ⟨hn1, hn1e⟩ : ∃ z, z = h.2.2.1 := ⟨_, rfl⟩
    have hP1 : va_P G.1 vwCl (ow G h0 (hw1, h.2.1, hn1, h.2.2.2) u) H1 := by rw [hw1e, hn1e]; exact hP1
    have hD1 : va_D (oA G h0 h σ s.heap.size) (ow G h0 (hw1, h.2.1, hn1, h.2.2.2) u) := by rw [hw1e, hn1e]; exact hD1
    have hP := hP1
    have hD : va_D A (ow G h0 (hw1, h.2.1, hn1, h.2.2.2) u) := hD1.weaken (fun k q _ h => hFc q.1 h)
    have hk1 := hk1 k rfl
    have hE : E = "java/lang/IllegalArgumentException" := by rw [hE]; show (if k = 1 then _ else _) = _; rw [if_pos hk1]
    subst hE
    refine vx_catch hown [] ⟨0, 7, 10, 13⟩ [] htab (fun z hz => nomatch hz) rfl (by decide) (hts (.classLink RL 13 "java/lang/IllegalArgumentException") (by decide +kernel)) (xface (w := .castable "java/lang/IllegalArgumentException" "java/lang/IllegalArgumentException") rfl rfl (Vm.Alike.refl s.vm) (hZ.2.2.2 _ (by decide +kernel))) hcell hv hcl ?_
    refine lv_astore (lv' := [(4, .ref q9), (0, .ref h0), (1, .int p1), (2, .int p2), (3, .int p3)]) hx hb dL_lead_10 hl (by decide) rfl (fun ls hl => ?_)
    refine lv_iconst (v := 1) hx hb dL_lead_12 (by decide) ?_
    refine W.widen (k := C) (n := N) (by show 0 + C ≤ C; omega) (by show 0 + N ≤ N; omega) ?_
    exact W.iret hx hb hr (fun t ht hW => ⟨⟨1, _, rfl, ⟨by show (1 : Int32) = (if k = 1 then 1 else 2); rw [if_pos hk1], rfl⟩, hw1, hn1, by rw [ht]; exact hP, gK.moved hW.alike hK, hD⟩, hS.F ht⟩) hS.2.2 dL_lead_13 hlocks
  · obtain ⟨er, eu⟩ := hw
    subst er; subst eu
    obtain ⟨hP1, hK1, hD1⟩ := hB
    rw [ht] at hP1
    obtain ⟨hw1, hw1e⟩ : ∃ z, z = h.1 := ⟨_, rfl⟩
    obtain ⟨hn1, hn1e⟩ : ∃ z, z = h.2.2.1 := ⟨_, rfl⟩
    have hP1 : va_P G.1 vwCl (ow G h0 (hw1, h.2.1, hn1, h.2.2.2) u) H1 := by rw [hw1e, hn1e]; exact hP1
    have hD1 : va_D (oA G h0 h σ s.heap.size) (ow G h0 (hw1, h.2.1, hn1, h.2.2.2) u) := by rw [hw1e, hn1e]; exact hD1
    have hP := hP1
    have hD : va_D A (ow G h0 (hw1, h.2.1, hn1, h.2.2.2) u) := hD1.weaken (fun k q _ h => hFc q.1 h)
    refine lv_goto (tgt := 14) hx hb dL_lead_7 (by decide) ?_
    refine lv_iconst (v := 0) hx hb dL_lead_14 (by decide) ?_
    refine W.widen (k := C) (n := N) (by show 0 + C ≤ C; omega) (by show 0 + N ≤ N; omega) ?_
    exact W.iret hx hb hr (fun t ht hW => ⟨⟨0, _, rfl, ⟨rfl, rfl⟩, hw1, hn1, by rw [ht]; exact hP, gK.moved hW.alike hK, hD⟩, hS.F ht⟩) hS.2.2 dL_lead_15 hlocks
abbrev rL_number (C N : Nat) : Room := { frames := 10, cells := C, slots := N, locals := 181 }
theorem nL_number : yL_number.cls ≠ "java/lang/invoke/MethodHandle" ∧ yL_number.cls ≠ "java/lang/invoke/VarHandle" ∧ (parseMethodDescriptor yL_number.desc).map (fun d => d.parameters.length) = some 4 := by decide +kernel
set_option maxHeartbeats 4000000 in
set_option maxRecDepth 100000 in
theorem kL_number (l : Launch) (htr : l.stackTraces = false) (G : gT) (h0 : Nat) (h : oH) (sz F : Nat) (σ : oS) (p1 : Int32) (p2 : Int32) (p3 : Int64) (r : Int32 ⊕ Unit) (σr : oS) (C N : Nat) (hk1 : ∀ k, r = .inl k → k = 1) (hg : fX0_number F σ p1 p2 p3 = some (r, σr, C, N)) : Met l yL_number wsL_number (rL_number C N) (lPre G h0 h σ sz [.int p1, .int p2, .long p3]) (lQ G h0 h (xC r) σr (oA G h0 h σ sz)) C N (oA G h0 h σ sz) := by
  refine lwMet (cc := cL_number) (maxL := 6) (ret := some .int) (hh := [(0, 7, 10, 13)]) (by decide +kernel) rfl ?_
  intro p e s m args below meth c s₁ B hml hv
  obtain ⟨rfl, hsz, hP, hK, hD0, hZ, hNc⟩ := hv
  have hx := B.exec
  have hb := B.bytes
  have hr := B.returns
  have hlocks := B.notSynchronized
  have hts := atoms_spec (ws := wsL_number) B.pre
  have hown : s.vm.findClass RL = some m.cls := findClass_of_methodNamed B.named
  have htab := vx_table (x := yL_number) (hh := [(0, 7, 10, 13)]) B (hts _ List.mem_cons_self)
  subst hsz
  have hD := hD0.self (sz := s.heap.size)
  generalize hAe : va_A (ow G h0 h σ) s.heap.size = A at hD
  have hAe2 : oA G h0 h σ s.heap.size = A := hAe
  rw [hAe2] at hZ ⊢
  have hA : ∀ q : Nat, s.heap.size ≤ q → A q := fun q h => by rw [← hAe]; exact Or.inr h
  have hS : va_S A s.heap s.heap [] := va_S.rf
  have hl := lv_entry ([.ref h0, .int p1, .int p2, .long p3]) (n := 6) (Nat.le_of_ble_eq_true rfl)
  rw [lg_entry_eq]
  generalize (lg_sl ([.ref h0, .int p1, .int p2, .long p3]) ++ List.replicate (6 - (lg_sl ([.ref h0, .int p1, .int p2, .long p3])).length) Slot.unset).toArray = ls at hl ⊢
  have hl : lv_has ls 6 [(0, .ref h0), (1, .int p1), (2, .int p2), (3, .long p3)] := hl
  refine lv_aload_n hx hb dL_number_0 rfl (lv_at hl 0 rfl) ?_
  refine lv_iload_n hx hb dL_number_1 rfl (lv_at hl 1 rfl) ?_
  refine lv_iload_n hx hb dL_number_2 rfl (lv_at hl 2 rfl) ?_
  refine lv_lload_n hx hb dL_number_3 rfl (lv_at hl 3 rfl) ?_
  have hPc : va_P G.1 vwCl (ow G h0 h σ) s.heap := hP
  have hDc : va_D A (ow G h0 h σ) := hD
  have hFc := va_free (wc := ow G h0 h σ) hD hS hA [0, 1, 2, 3, 4] rfl
  refine vx_callv (vx_runV (As := [.int p1, .int p2, .long p3]) (rest := []) ⟨hx, hb, hml, hown, hts⟩ (kX0_number l htr G h0 h s.heap.size F σ p1 p2 p3 r σr C N hg) (cwV 3 hts gL_number_X0_number rfl rfl rfl nX0_number ⟨Nat.le_of_ble_eq_true rfl, Nat.le_of_ble_eq_true rfl⟩) ⟨oPreX_blind, va_recv hK hPc (ci := 2) (q0 := 0) rfl rfl, fun U hU hW => ⟨rfl, by rw [hU], by rw [hU]; exact hPc, gK.moved hW.alike hK, hDc.weaken (fun _ _ _ _ => trivial), by rw [hU]; exact (hZ.narrow hFc).warm hW⟩⟩ rfl rfl hl.1 rfl (lv_room (Nat.le_of_ble_eq_true rfl)) dL_number_4 ⟨by show 0 + C ≤ C; omega, by show 0 + N ≤ N; omega⟩) hS (fun q _ h => hFc q h) hFc (fun q _ h => hFc q h) (fun E ce q9 u t H1 locs1 ht hvm hp hB hz hk hS hcell hv hcl => ?_) (fun u t H1 locs1 ht hvm hw hB hz hk hS => ?_)
  · obtain ⟨⟨k, hk9, hE⟩, hB⟩ := hB
    subst hp
    subst hk9
    obtain ⟨hP1, hK1, hD1⟩ := hB
    rw [ht] at hP1
    obtain ⟨hw1, hw1e⟩ : ∃ z, z = h.1 := ⟨_, rfl⟩
    obtain ⟨hn1, hn1e⟩ : ∃ z, z = h.2.2.1 := ⟨_, rfl⟩
    have hP1 : va_P G.1 vwCl (ow G h0 (hw1, h.2.1, hn1, h.2.2.2) u) H1 := by rw [hw1e, hn1e]; exact hP1
    have hD1 : va_D (oA G h0 h σ s.heap.size) (ow G h0 (hw1, h.2.1, hn1, h.2.2.2) u) := by rw [hw1e, hn1e]; exact hD1
    have hP := hP1
    have hD : va_D A (ow G h0 (hw1, h.2.1, hn1, h.2.2.2) u) := hD1.weaken (fun k q _ h => hFc q.1 h)
    have hk1 := hk1 k rfl
    have hE : E = "java/lang/IllegalArgumentException" := by rw [hE]; show (if k = 1 then _ else _) = _; rw [if_pos hk1]
    subst hE
    refine vx_catch hown [] ⟨0, 7, 10, 13⟩ [] htab (fun z hz => nomatch hz) rfl (by decide) (hts (.classLink RL 13 "java/lang/IllegalArgumentException") (by decide +kernel)) (xface (w := .castable "java/lang/IllegalArgumentException" "java/lang/IllegalArgumentException") rfl rfl (Vm.Alike.refl s.vm) (hZ.2.2.2 _ (by decide +kernel))) hcell hv hcl ?_
    refine lv_astore (lv' := [(5, .ref q9), (0, .ref h0), (1, .int p1), (2, .int p2), (3, .long p3)]) hx hb dL_number_10 hl (by decide) rfl (fun ls hl => ?_)
    refine lv_iconst (v := 1) hx hb dL_number_12 (by decide) ?_
    refine W.widen (k := C) (n := N) (by show 0 + C ≤ C; omega) (by show 0 + N ≤ N; omega) ?_
    exact W.iret hx hb hr (fun t ht hW => ⟨⟨1, _, rfl, ⟨by show (1 : Int32) = (if k = 1 then 1 else 2); rw [if_pos hk1], rfl⟩, hw1, hn1, by rw [ht]; exact hP, gK.moved hW.alike hK, hD⟩, hS.F ht⟩) hS.2.2 dL_number_13 hlocks
  · obtain ⟨er, eu⟩ := hw
    subst er; subst eu
    obtain ⟨hP1, hK1, hD1⟩ := hB
    rw [ht] at hP1
    obtain ⟨hw1, hw1e⟩ : ∃ z, z = h.1 := ⟨_, rfl⟩
    obtain ⟨hn1, hn1e⟩ : ∃ z, z = h.2.2.1 := ⟨_, rfl⟩
    have hP1 : va_P G.1 vwCl (ow G h0 (hw1, h.2.1, hn1, h.2.2.2) u) H1 := by rw [hw1e, hn1e]; exact hP1
    have hD1 : va_D (oA G h0 h σ s.heap.size) (ow G h0 (hw1, h.2.1, hn1, h.2.2.2) u) := by rw [hw1e, hn1e]; exact hD1
    have hP := hP1
    have hD : va_D A (ow G h0 (hw1, h.2.1, hn1, h.2.2.2) u) := hD1.weaken (fun k q _ h => hFc q.1 h)
    refine lv_goto (tgt := 14) hx hb dL_number_7 (by decide) ?_
    refine lv_iconst (v := 0) hx hb dL_number_14 (by decide) ?_
    refine W.widen (k := C) (n := N) (by show 0 + C ≤ C; omega) (by show 0 + N ≤ N; omega) ?_
    exact W.iret hx hb hr (fun t ht hW => ⟨⟨0, _, rfl, ⟨rfl, rfl⟩, hw1, hn1, by rw [ht]; exact hP, gK.moved hW.alike hK, hD⟩, hS.F ht⟩) hS.2.2 dL_number_15 hlocks
abbrev rL_refer (C N : Nat) : Room := { frames := 10, cells := C, slots := N, locals := 179 }
theorem nL_refer : yL_refer.cls ≠ "java/lang/invoke/MethodHandle" ∧ yL_refer.cls ≠ "java/lang/invoke/VarHandle" ∧ (parseMethodDescriptor yL_refer.desc).map (fun d => d.parameters.length) = some 4 := by decide +kernel
set_option maxHeartbeats 4000000 in
set_option maxRecDepth 100000 in
theorem kL_refer (l : Launch) (htr : l.stackTraces = false) (G : gT) (h0 : Nat) (h : oH) (sz F : Nat) (σ : oS) (p1 : Int32) (p2 : Int32) (p3 : Int32) (r : Int32 ⊕ Unit) (σr : oS) (C N : Nat) (hk1 : ∀ k, r = .inl k → k = 1) (hg : fX0_refer F σ p1 p2 p3 = some (r, σr, C, N)) : Met l yL_refer wsL_refer (rL_refer C N) (lPre G h0 h σ sz [.int p1, .int p2, .int p3]) (lQ G h0 h (xC r) σr (oA G h0 h σ sz)) C N (oA G h0 h σ sz) := by
  refine lwMet (cc := cL_refer) (maxL := 5) (ret := some .int) (hh := [(0, 7, 10, 13)]) (by decide +kernel) rfl ?_
  intro p e s m args below meth c s₁ B hml hv
  obtain ⟨rfl, hsz, hP, hK, hD0, hZ, hNc⟩ := hv
  have hx := B.exec
  have hb := B.bytes
  have hr := B.returns
  have hlocks := B.notSynchronized
  have hts := atoms_spec (ws := wsL_refer) B.pre
  have hown : s.vm.findClass RL = some m.cls := findClass_of_methodNamed B.named
  have htab := vx_table (x := yL_refer) (hh := [(0, 7, 10, 13)]) B (hts _ List.mem_cons_self)
  subst hsz
  have hD := hD0.self (sz := s.heap.size)
  generalize hAe : va_A (ow G h0 h σ) s.heap.size = A at hD
  have hAe2 : oA G h0 h σ s.heap.size = A := hAe
  rw [hAe2] at hZ ⊢
  have hA : ∀ q : Nat, s.heap.size ≤ q → A q := fun q h => by rw [← hAe]; exact Or.inr h
  have hS : va_S A s.heap s.heap [] := va_S.rf
  have hl := lv_entry ([.ref h0, .int p1, .int p2, .int p3]) (n := 5) (Nat.le_of_ble_eq_true rfl)
  rw [lg_entry_eq]
  generalize (lg_sl ([.ref h0, .int p1, .int p2, .int p3]) ++ List.replicate (5 - (lg_sl ([.ref h0, .int p1, .int p2, .int p3])).length) Slot.unset).toArray = ls at hl ⊢
  have hl : lv_has ls 5 [(0, .ref h0), (1, .int p1), (2, .int p2), (3, .int p3)] := hl
  refine lv_aload_n hx hb dL_refer_0 rfl (lv_at hl 0 rfl) ?_
  refine lv_iload_n hx hb dL_refer_1 rfl (lv_at hl 1 rfl) ?_
  refine lv_iload_n hx hb dL_refer_2 rfl (lv_at hl 2 rfl) ?_
  refine lv_iload_n hx hb dL_refer_3 rfl (lv_at hl 3 rfl) ?_
  have hPc : va_P G.1 vwCl (ow G h0 h σ) s.heap := hP
  have hDc : va_D A (ow G h0 h σ) := hD
  have hFc := va_free (wc := ow G h0 h σ) hD hS hA [0, 1, 2, 3, 4] rfl
  refine vx_callv (vx_runV (As := [.int p1, .int p2, .int p3]) (rest := []) ⟨hx, hb, hml, hown, hts⟩ (kX0_refer l htr G h0 h s.heap.size F σ p1 p2 p3 r σr C N hg) (cwV 3 hts gL_refer_X0_refer rfl rfl rfl nX0_refer ⟨Nat.le_of_ble_eq_true rfl, Nat.le_of_ble_eq_true rfl⟩) ⟨oPreX_blind, va_recv hK hPc (ci := 2) (q0 := 0) rfl rfl, fun U hU hW => ⟨rfl, by rw [hU], by rw [hU]; exact hPc, gK.moved hW.alike hK, hDc.weaken (fun _ _ _ _ => trivial), by rw [hU]; exact (hZ.narrow hFc).warm hW⟩⟩ rfl rfl hl.1 rfl (lv_room (Nat.le_of_ble_eq_true rfl)) dL_refer_4 ⟨by show 0 + C ≤ C; omega, by show 0 + N ≤ N; omega⟩) hS (fun q _ h => hFc q h) hFc (fun q _ h => hFc q h) (fun E ce q9 u t H1 locs1 ht hvm hp hB hz hk hS hcell hv hcl => ?_) (fun u t H1 locs1 ht hvm hw hB hz hk hS => ?_)
  · obtain ⟨⟨k, hk9, hE⟩, hB⟩ := hB
    subst hp
    subst hk9
    obtain ⟨hP1, hK1, hD1⟩ := hB
    rw [ht] at hP1
    obtain ⟨hw1, hw1e⟩ : ∃ z, z = h.1 := ⟨_, rfl⟩
    obtain ⟨hn1, hn1e⟩ : ∃ z, z = h.2.2.1 := ⟨_, rfl⟩
    have hP1 : va_P G.1 vwCl (ow G h0 (hw1, h.2.1, hn1, h.2.2.2) u) H1 := by rw [hw1e, hn1e]; exact hP1
    have hD1 : va_D (oA G h0 h σ s.heap.size) (ow G h0 (hw1, h.2.1, hn1, h.2.2.2) u) := by rw [hw1e, hn1e]; exact hD1
    have hP := hP1
    have hD : va_D A (ow G h0 (hw1, h.2.1, hn1, h.2.2.2) u) := hD1.weaken (fun k q _ h => hFc q.1 h)
    have hk1 := hk1 k rfl
    have hE : E = "java/lang/IllegalArgumentException" := by rw [hE]; show (if k = 1 then _ else _) = _; rw [if_pos hk1]
    subst hE
    refine vx_catch hown [] ⟨0, 7, 10, 13⟩ [] htab (fun z hz => nomatch hz) rfl (by decide) (hts (.classLink RL 13 "java/lang/IllegalArgumentException") (by decide +kernel)) (xface (w := .castable "java/lang/IllegalArgumentException" "java/lang/IllegalArgumentException") rfl rfl (Vm.Alike.refl s.vm) (hZ.2.2.2 _ (by decide +kernel))) hcell hv hcl ?_
    refine lv_astore (lv' := [(4, .ref q9), (0, .ref h0), (1, .int p1), (2, .int p2), (3, .int p3)]) hx hb dL_refer_10 hl (by decide) rfl (fun ls hl => ?_)
    refine lv_iconst (v := 1) hx hb dL_refer_12 (by decide) ?_
    refine W.widen (k := C) (n := N) (by show 0 + C ≤ C; omega) (by show 0 + N ≤ N; omega) ?_
    exact W.iret hx hb hr (fun t ht hW => ⟨⟨1, _, rfl, ⟨by show (1 : Int32) = (if k = 1 then 1 else 2); rw [if_pos hk1], rfl⟩, hw1, hn1, by rw [ht]; exact hP, gK.moved hW.alike hK, hD⟩, hS.F ht⟩) hS.2.2 dL_refer_13 hlocks
  · obtain ⟨er, eu⟩ := hw
    subst er; subst eu
    obtain ⟨hP1, hK1, hD1⟩ := hB
    rw [ht] at hP1
    obtain ⟨hw1, hw1e⟩ : ∃ z, z = h.1 := ⟨_, rfl⟩
    obtain ⟨hn1, hn1e⟩ : ∃ z, z = h.2.2.1 := ⟨_, rfl⟩
    have hP1 : va_P G.1 vwCl (ow G h0 (hw1, h.2.1, hn1, h.2.2.2) u) H1 := by rw [hw1e, hn1e]; exact hP1
    have hD1 : va_D (oA G h0 h σ s.heap.size) (ow G h0 (hw1, h.2.1, hn1, h.2.2.2) u) := by rw [hw1e, hn1e]; exact hD1
    have hP := hP1
    have hD : va_D A (ow G h0 (hw1, h.2.1, hn1, h.2.2.2) u) := hD1.weaken (fun k q _ h => hFc q.1 h)
    refine lv_goto (tgt := 14) hx hb dL_refer_7 (by decide) ?_
    refine lv_iconst (v := 0) hx hb dL_refer_14 (by decide) ?_
    refine W.widen (k := C) (n := N) (by show 0 + C ≤ C; omega) (by show 0 + N ≤ N; omega) ?_
    exact W.iret hx hb hr (fun t ht hW => ⟨⟨0, _, rfl, ⟨rfl, rfl⟩, hw1, hn1, by rw [ht]; exact hP, gK.moved hW.alike hK, hD⟩, hS.F ht⟩) hS.2.2 dL_refer_15 hlocks
abbrev rL_set (C N : Nat) : Room := { frames := 10, cells := C, slots := N, locals := 179 }
theorem nL_set : yL_set.cls ≠ "java/lang/invoke/MethodHandle" ∧ yL_set.cls ≠ "java/lang/invoke/VarHandle" ∧ (parseMethodDescriptor yL_set.desc).map (fun d => d.parameters.length) = some 4 := by decide +kernel
set_option maxHeartbeats 4000000 in
set_option maxRecDepth 100000 in
theorem kL_set (l : Launch) (htr : l.stackTraces = false) (G : gT) (h0 : Nat) (h : oH) (sz F : Nat) (σ : oS) (p1 : Int32) (p2 : Int32) (p3 : Int32) (r : Int32 ⊕ Unit) (σr : oS) (C N : Nat) (hk1 : ∀ k, r = .inl k → k = 1) (hg : fX0_set F σ p1 p2 p3 = some (r, σr, C, N)) : Met l yL_set wsL_set (rL_set C N) (lPre G h0 h σ sz [.int p1, .int p2, .int p3]) (lQ G h0 h (xC r) σr (oA G h0 h σ sz)) C N (oA G h0 h σ sz) := by
  refine lwMet (cc := cL_set) (maxL := 5) (ret := some .int) (hh := [(0, 7, 10, 13)]) (by decide +kernel) rfl ?_
  intro p e s m args below meth c s₁ B hml hv
  obtain ⟨rfl, hsz, hP, hK, hD0, hZ, hNc⟩ := hv
  have hx := B.exec
  have hb := B.bytes
  have hr := B.returns
  have hlocks := B.notSynchronized
  have hts := atoms_spec (ws := wsL_set) B.pre
  have hown : s.vm.findClass RL = some m.cls := findClass_of_methodNamed B.named
  have htab := vx_table (x := yL_set) (hh := [(0, 7, 10, 13)]) B (hts _ List.mem_cons_self)
  subst hsz
  have hD := hD0.self (sz := s.heap.size)
  generalize hAe : va_A (ow G h0 h σ) s.heap.size = A at hD
  have hAe2 : oA G h0 h σ s.heap.size = A := hAe
  rw [hAe2] at hZ ⊢
  have hA : ∀ q : Nat, s.heap.size ≤ q → A q := fun q h => by rw [← hAe]; exact Or.inr h
  have hS : va_S A s.heap s.heap [] := va_S.rf
  have hl := lv_entry ([.ref h0, .int p1, .int p2, .int p3]) (n := 5) (Nat.le_of_ble_eq_true rfl)
  rw [lg_entry_eq]
  generalize (lg_sl ([.ref h0, .int p1, .int p2, .int p3]) ++ List.replicate (5 - (lg_sl ([.ref h0, .int p1, .int p2, .int p3])).length) Slot.unset).toArray = ls at hl ⊢
  have hl : lv_has ls 5 [(0, .ref h0), (1, .int p1), (2, .int p2), (3, .int p3)] := hl
  refine lv_aload_n hx hb dL_set_0 rfl (lv_at hl 0 rfl) ?_
  refine lv_iload_n hx hb dL_set_1 rfl (lv_at hl 1 rfl) ?_
  refine lv_iload_n hx hb dL_set_2 rfl (lv_at hl 2 rfl) ?_
  refine lv_iload_n hx hb dL_set_3 rfl (lv_at hl 3 rfl) ?_
  have hPc : va_P G.1 vwCl (ow G h0 h σ) s.heap := hP
  have hDc : va_D A (ow G h0 h σ) := hD
  have hFc := va_free (wc := ow G h0 h σ) hD hS hA [0, 1, 2, 3, 4] rfl
  refine vx_callv (vx_runV (As := [.int p1, .int p2, .int p3]) (rest := []) ⟨hx, hb, hml, hown, hts⟩ (kX0_set l htr G h0 h s.heap.size F σ p1 p2 p3 r σr C N hg) (cwV 3 hts gL_set_X0_set rfl rfl rfl nX0_set ⟨Nat.le_of_ble_eq_true rfl, Nat.le_of_ble_eq_true rfl⟩) ⟨oPreX_blind, va_recv hK hPc (ci := 2) (q0 := 0) rfl rfl, fun U hU hW => ⟨rfl, by rw [hU], by rw [hU]; exact hPc, gK.moved hW.alike hK, hDc.weaken (fun _ _ _ _ => trivial), by rw [hU]; exact (hZ.narrow hFc).warm hW⟩⟩ rfl rfl hl.1 rfl (lv_room (Nat.le_of_ble_eq_true rfl)) dL_set_4 ⟨by show 0 + C ≤ C; omega, by show 0 + N ≤ N; omega⟩) hS (fun q _ h => hFc q h) hFc (fun q _ h => hFc q h) (fun E ce q9 u t H1 locs1 ht hvm hp hB hz hk hS hcell hv hcl => ?_) (fun u t H1 locs1 ht hvm hw hB hz hk hS => ?_)
  · obtain ⟨⟨k, hk9, hE⟩, hB⟩ := hB
    subst hp
    subst hk9
    obtain ⟨hP1, hK1, hD1⟩ := hB
    rw [ht] at hP1
    obtain ⟨hw1, hw1e⟩ : ∃ z, z = h.1 := ⟨_, rfl⟩
    obtain ⟨hn1, hn1e⟩ : ∃ z, z = h.2.2.1 := ⟨_, rfl⟩
    have hP1 : va_P G.1 vwCl (ow G h0 (hw1, h.2.1, hn1, h.2.2.2) u) H1 := by rw [hw1e, hn1e]; exact hP1
    have hD1 : va_D (oA G h0 h σ s.heap.size) (ow G h0 (hw1, h.2.1, hn1, h.2.2.2) u) := by rw [hw1e, hn1e]; exact hD1
    have hP := hP1
    have hD : va_D A (ow G h0 (hw1, h.2.1, hn1, h.2.2.2) u) := hD1.weaken (fun k q _ h => hFc q.1 h)
    have hk1 := hk1 k rfl
    have hE : E = "java/lang/IllegalArgumentException" := by rw [hE]; show (if k = 1 then _ else _) = _; rw [if_pos hk1]
    subst hE
    refine vx_catch hown [] ⟨0, 7, 10, 13⟩ [] htab (fun z hz => nomatch hz) rfl (by decide) (hts (.classLink RL 13 "java/lang/IllegalArgumentException") (by decide +kernel)) (xface (w := .castable "java/lang/IllegalArgumentException" "java/lang/IllegalArgumentException") rfl rfl (Vm.Alike.refl s.vm) (hZ.2.2.2 _ (by decide +kernel))) hcell hv hcl ?_
    refine lv_astore (lv' := [(4, .ref q9), (0, .ref h0), (1, .int p1), (2, .int p2), (3, .int p3)]) hx hb dL_set_10 hl (by decide) rfl (fun ls hl => ?_)
    refine lv_iconst (v := 1) hx hb dL_set_12 (by decide) ?_
    refine W.widen (k := C) (n := N) (by show 0 + C ≤ C; omega) (by show 0 + N ≤ N; omega) ?_
    exact W.iret hx hb hr (fun t ht hW => ⟨⟨1, _, rfl, ⟨by show (1 : Int32) = (if k = 1 then 1 else 2); rw [if_pos hk1], rfl⟩, hw1, hn1, by rw [ht]; exact hP, gK.moved hW.alike hK, hD⟩, hS.F ht⟩) hS.2.2 dL_set_13 hlocks
  · obtain ⟨er, eu⟩ := hw
    subst er; subst eu
    obtain ⟨hP1, hK1, hD1⟩ := hB
    rw [ht] at hP1
    obtain ⟨hw1, hw1e⟩ : ∃ z, z = h.1 := ⟨_, rfl⟩
    obtain ⟨hn1, hn1e⟩ : ∃ z, z = h.2.2.1 := ⟨_, rfl⟩
    have hP1 : va_P G.1 vwCl (ow G h0 (hw1, h.2.1, hn1, h.2.2.2) u) H1 := by rw [hw1e, hn1e]; exact hP1
    have hD1 : va_D (oA G h0 h σ s.heap.size) (ow G h0 (hw1, h.2.1, hn1, h.2.2.2) u) := by rw [hw1e, hn1e]; exact hD1
    have hP := hP1
    have hD : va_D A (ow G h0 (hw1, h.2.1, hn1, h.2.2.2) u) := hD1.weaken (fun k q _ h => hFc q.1 h)
    refine lv_goto (tgt := 14) hx hb dL_set_7 (by decide) ?_
    refine lv_iconst (v := 0) hx hb dL_set_14 (by decide) ?_
    refine W.widen (k := C) (n := N) (by show 0 + C ≤ C; omega) (by show 0 + N ≤ N; omega) ?_
    exact W.iret hx hb hr (fun t ht hW => ⟨⟨0, _, rfl, ⟨rfl, rfl⟩, hw1, hn1, by rw [ht]; exact hP, gK.moved hW.alike hK, hD⟩, hS.F ht⟩) hS.2.2 dL_set_15 hlocks
abbrev rL_text (C N : Nat) : Room := { frames := 9, cells := C, slots := N, locals := 167 }
theorem nL_text : yL_text.cls ≠ "java/lang/invoke/MethodHandle" ∧ yL_text.cls ≠ "java/lang/invoke/VarHandle" ∧ (parseMethodDescriptor yL_text.desc).map (fun d => d.parameters.length) = some 4 := by decide +kernel
set_option maxHeartbeats 4000000 in
set_option maxRecDepth 100000 in
theorem kL_text (l : Launch) (htr : l.stackTraces = false) (G : gT) (h0 : Nat) (h : oH) (sz F : Nat) (σ : oS) (p1 : Int32) (p2 : Int64) (p3 : Int32) (r : Int32 ⊕ Unit) (σr : oS) (C N : Nat) (hg : fX0_text F σ p1 p2 p3 = some (r, σr, C, N)) : Met l yL_text wsL_text (rL_text C N) (lPre G h0 h σ sz [.int p1, .long p2, .int p3]) (lQ G h0 h (xC r) σr (oA G h0 h σ sz)) C N (oA G h0 h σ sz) := by
  refine lwMet (cc := cL_text) (maxL := 6) (ret := some .int) (hh := [(0, 8, 11, 13), (0, 8, 15, 15)]) (by decide +kernel) rfl ?_
  intro p e s m args below meth c s₁ B hml hv
  obtain ⟨rfl, hsz, hP, hK, hD0, hZ, hNc⟩ := hv
  have hx := B.exec
  have hb := B.bytes
  have hr := B.returns
  have hlocks := B.notSynchronized
  have hts := atoms_spec (ws := wsL_text) B.pre
  have hown : s.vm.findClass RL = some m.cls := findClass_of_methodNamed B.named
  have htab := vx_table (x := yL_text) (hh := [(0, 8, 11, 13), (0, 8, 15, 15)]) B (hts _ List.mem_cons_self)
  subst hsz
  have hD := hD0.self (sz := s.heap.size)
  generalize hAe : va_A (ow G h0 h σ) s.heap.size = A at hD
  have hAe2 : oA G h0 h σ s.heap.size = A := hAe
  rw [hAe2] at hZ ⊢
  have hA : ∀ q : Nat, s.heap.size ≤ q → A q := fun q h => by rw [← hAe]; exact Or.inr h
  have hS : va_S A s.heap s.heap [] := va_S.rf
  have hl := lv_entry ([.ref h0, .int p1, .long p2, .int p3]) (n := 6) (Nat.le_of_ble_eq_true rfl)
  rw [lg_entry_eq]
  generalize (lg_sl ([.ref h0, .int p1, .long p2, .int p3]) ++ List.replicate (6 - (lg_sl ([.ref h0, .int p1, .long p2, .int p3])).length) Slot.unset).toArray = ls at hl ⊢
  have hl : lv_has ls 6 [(0, .ref h0), (1, .int p1), (2, .long p2), (4, .int p3)] := hl
  refine lv_aload_n hx hb dL_text_0 rfl (lv_at hl 0 rfl) ?_
  refine lv_iload_n hx hb dL_text_1 rfl (lv_at hl 1 rfl) ?_
  refine lv_lload_n hx hb dL_text_2 rfl (lv_at hl 2 rfl) ?_
  refine lv_iload hx hb dL_text_3 (lv_at hl 3 rfl) ?_
  have hPc : va_P G.1 vwCl (ow G h0 h σ) s.heap := hP
  have hDc : va_D A (ow G h0 h σ) := hD
  have hFc := va_free (wc := ow G h0 h σ) hD hS hA [0, 1, 2, 3, 4] rfl
  refine vx_callv (vx_runV (As := [.int p1, .long p2, .int p3]) (rest := []) ⟨hx, hb, hml, hown, hts⟩ (kX0_text l htr G h0 h s.heap.size F σ p1 p2 p3 r σr C N hg) (cwV 3 hts gL_text_X0_text rfl rfl rfl nX0_text ⟨Nat.le_of_ble_eq_true rfl, Nat.le_of_ble_eq_true rfl⟩) ⟨oPreX_blind, va_recv hK hPc (ci := 2) (q0 := 0) rfl rfl, fun U hU hW => ⟨rfl, by rw [hU], by rw [hU]; exact hPc, gK.moved hW.alike hK, hDc.weaken (fun _ _ _ _ => trivial), by rw [hU]; exact (hZ.narrow hFc).warm hW⟩⟩ rfl rfl hl.1 rfl (lv_room (Nat.le_of_ble_eq_true rfl)) dL_text_5 ⟨by show 0 + C ≤ C; omega, by show 0 + N ≤ N; omega⟩) hS (fun q _ h => hFc q h) hFc (fun q _ h => hFc q h) (fun E ce q9 u t H1 locs1 ht hvm hp hB hz hk hS hcell hv hcl => ?_) (fun u t H1 locs1 ht hvm hw hB hz hk hS => ?_)
  · obtain ⟨⟨k, hk9, hE⟩, hB⟩ := hB
    subst hp
    subst hk9
    obtain ⟨hw1, hn1, hP1, hK1, hD1⟩ := hB
    rw [ht] at hP1
    have hP := hP1
    have hD : va_D A (ow G h0 (hw1, h.2.1, hn1, h.2.2.2) u) := hD1.weaken (fun k q _ h => hFc q.1 h)
    by_cases hk1 : k = 1
    · have hE : E = "java/lang/IllegalArgumentException" := by rw [hE]; show (if k = 1 then _ else _) = _; rw [if_pos hk1]
      subst hE
      refine vx_catch hown [] ⟨0, 8, 11, 13⟩ [⟨0, 8, 15, 15⟩] htab (fun z hz => nomatch hz) rfl (by decide) (hts (.classLink RL 13 "java/lang/IllegalArgumentException") (by decide +kernel)) (xface (w := .castable "java/lang/IllegalArgumentException" "java/lang/IllegalArgumentException") rfl rfl (Vm.Alike.refl s.vm) (hZ.2.2.2 _ (by decide +kernel))) hcell hv hcl ?_
      refine lv_astore (lv' := [(5, .ref q9), (0, .ref h0), (1, .int p1), (2, .long p2), (4, .int p3)]) hx hb dL_text_11 hl (by decide) rfl (fun ls hl => ?_)
      refine lv_iconst (v := 1) hx hb dL_text_13 (by decide) ?_
      refine W.widen (k := C) (n := N) (by show 0 + C ≤ C; omega) (by show 0 + N ≤ N; omega) ?_
      exact W.iret hx hb hr (fun t ht hW => ⟨⟨1, _, rfl, ⟨by show (1 : Int32) = (if k = 1 then 1 else 2); rw [if_pos hk1], rfl⟩, hw1, hn1, by rw [ht]; exact hP, gK.moved hW.alike hK, hD⟩, hS.F ht⟩) hS.2.2 dL_text_14 hlocks
    · have hE : E = "java/lang/IllegalStateException" := by rw [hE]; show (if k = 1 then _ else _) = _; rw [if_neg hk1]
      subst hE
      refine vx_catch hown [⟨0, 8, 11, 13⟩] ⟨0, 8, 15, 15⟩ [] htab (fun z hz => by rw [List.mem_singleton.mp hz]; exact Or.inr ⟨by decide, _, hts (.classLink RL 13 "java/lang/IllegalArgumentException") (by decide +kernel), hNc⟩) rfl (by decide) (hts (.classLink RL 15 "java/lang/IllegalStateException") (by decide +kernel)) (xface (w := .castable "java/lang/IllegalStateException" "java/lang/IllegalStateException") rfl rfl (Vm.Alike.refl s.vm) (hZ.2.2.2 _ (by decide +kernel))) hcell hv hcl ?_
      refine lv_astore (lv' := [(5, .ref q9), (0, .ref h0), (1, .int p1), (2, .long p2), (4, .int p3)]) hx hb dL_text_15 hl (by decide) rfl (fun ls hl => ?_)
      refine lv_iconst (v := 2) hx hb dL_text_17 (by decide) ?_
      refine W.widen (k := C) (n := N) (by show 0 + C ≤ C; omega) (by show 0 + N ≤ N; omega) ?_
      exact W.iret hx hb hr (fun t ht hW => ⟨⟨2, _, rfl, ⟨by show (2 : Int32) = (if k = 1 then 1 else 2); rw [if_neg hk1], rfl⟩, hw1, hn1, by rw [ht]; exact hP, gK.moved hW.alike hK, hD⟩, hS.F ht⟩) hS.2.2 dL_text_18 hlocks
  · obtain ⟨er, eu⟩ := hw
    subst er; subst eu
    obtain ⟨hw1, hn1, hP1, hK1, hD1⟩ := hB
    rw [ht] at hP1
    have hP := hP1
    have hD : va_D A (ow G h0 (hw1, h.2.1, hn1, h.2.2.2) u) := hD1.weaken (fun k q _ h => hFc q.1 h)
    refine lv_goto (tgt := 19) hx hb dL_text_8 (by decide) ?_
    refine lv_iconst (v := 0) hx hb dL_text_19 (by decide) ?_
    refine W.widen (k := C) (n := N) (by show 0 + C ≤ C; omega) (by show 0 + N ≤ N; omega) ?_
    exact W.iret hx hb hr (fun t ht hW => ⟨⟨0, _, rfl, ⟨rfl, rfl⟩, hw1, hn1, by rw [ht]; exact hP, gK.moved hW.alike hK, hD⟩, hS.F ht⟩) hS.2.2 dL_text_20 hlocks
abbrev rL_join (C N : Nat) : Room := { frames := 10, cells := C, slots := N, locals := 190 }
theorem nL_join : yL_join.cls ≠ "java/lang/invoke/MethodHandle" ∧ yL_join.cls ≠ "java/lang/invoke/VarHandle" ∧ (parseMethodDescriptor yL_join.desc).map (fun d => d.parameters.length) = some 4 := by decide +kernel
set_option maxHeartbeats 4000000 in
set_option maxRecDepth 100000 in
theorem kL_join (l : Launch) (htr : l.stackTraces = false) (G : gT) (h0 : Nat) (h : oH) (sz F : Nat) (σ : oS) (p1 : Int32) (p2 : Int32) (p3 : Int32) (r : Int32 ⊕ Unit) (σr : oS) (C N : Nat) (hg : fX0_join F σ p1 p2 p3 = some (r, σr, C, N)) : Met l yL_join wsL_join (rL_join C N) (lPre G h0 h σ sz [.int p1, .int p2, .int p3]) (lQ G h0 h (xC r) σr (oA G h0 h σ sz)) C N (oA G h0 h σ sz) := by
  refine lwMet (cc := cL_join) (maxL := 5) (ret := some .int) (hh := [(0, 7, 10, 13), (0, 7, 14, 15)]) (by decide +kernel) rfl ?_
  intro p e s m args below meth c s₁ B hml hv
  obtain ⟨rfl, hsz, hP, hK, hD0, hZ, hNc⟩ := hv
  have hx := B.exec
  have hb := B.bytes
  have hr := B.returns
  have hlocks := B.notSynchronized
  have hts := atoms_spec (ws := wsL_join) B.pre
  have hown : s.vm.findClass RL = some m.cls := findClass_of_methodNamed B.named
  have htab := vx_table (x := yL_join) (hh := [(0, 7, 10, 13), (0, 7, 14, 15)]) B (hts _ List.mem_cons_self)
  subst hsz
  have hD := hD0.self (sz := s.heap.size)
  generalize hAe : va_A (ow G h0 h σ) s.heap.size = A at hD
  have hAe2 : oA G h0 h σ s.heap.size = A := hAe
  rw [hAe2] at hZ ⊢
  have hA : ∀ q : Nat, s.heap.size ≤ q → A q := fun q h => by rw [← hAe]; exact Or.inr h
  have hS : va_S A s.heap s.heap [] := va_S.rf
  have hl := lv_entry ([.ref h0, .int p1, .int p2, .int p3]) (n := 5) (Nat.le_of_ble_eq_true rfl)
  rw [lg_entry_eq]
  generalize (lg_sl ([.ref h0, .int p1, .int p2, .int p3]) ++ List.replicate (5 - (lg_sl ([.ref h0, .int p1, .int p2, .int p3])).length) Slot.unset).toArray = ls at hl ⊢
  have hl : lv_has ls 5 [(0, .ref h0), (1, .int p1), (2, .int p2), (3, .int p3)] := hl
  refine lv_aload_n hx hb dL_join_0 rfl (lv_at hl 0 rfl) ?_
  refine lv_iload_n hx hb dL_join_1 rfl (lv_at hl 1 rfl) ?_
  refine lv_iload_n hx hb dL_join_2 rfl (lv_at hl 2 rfl) ?_
  refine lv_iload_n hx hb dL_join_3 rfl (lv_at hl 3 rfl) ?_
  have hPc : va_P G.1 vwCl (ow G h0 h σ) s.heap := hP
  have hDc : va_D A (ow G h0 h σ) := hD
  have hFc := va_free (wc := ow G h0 h σ) hD hS hA [0, 1, 2, 3, 4] rfl
  refine vx_callv (vx_runV (As := [.int p1, .int p2, .int p3]) (rest := []) ⟨hx, hb, hml, hown, hts⟩ (kX0_join l htr G h0 h s.heap.size F σ p1 p2 p3 r σr C N hg) (cwV 3 hts gL_join_X0_join rfl rfl rfl nX0_join ⟨Nat.le_of_ble_eq_true rfl, Nat.le_of_ble_eq_true rfl⟩) ⟨oPreX_blind, va_recv hK hPc (ci := 2) (q0 := 0) rfl rfl, fun U hU hW => ⟨rfl, by rw [hU], by rw [hU]; exact hPc, gK.moved hW.alike hK, hDc.weaken (fun _ _ _ _ => trivial), by rw [hU]; exact (hZ.narrow hFc).warm hW⟩⟩ rfl rfl hl.1 rfl (lv_room (Nat.le_of_ble_eq_true rfl)) dL_join_4 ⟨by show 0 + C ≤ C; omega, by show 0 + N ≤ N; omega⟩) hS (fun q _ h => hFc q h) hFc (fun q _ h => hFc q h) (fun E ce q9 u t H1 locs1 ht hvm hp hB hz hk hS hcell hv hcl => ?_) (fun u t H1 locs1 ht hvm hw hB hz hk hS => ?_)
  · obtain ⟨⟨k, hk9, hE⟩, hB⟩ := hB
    subst hp
    subst hk9
    obtain ⟨hw1, hn1, hP1, hK1, hD1⟩ := hB
    rw [ht] at hP1
    have hP := hP1
    have hD : va_D A (ow G h0 (hw1, h.2.1, hn1, h.2.2.2) u) := hD1.weaken (fun k q _ h => hFc q.1 h)
    by_cases hk1 : k = 1
    · have hE : E = "java/lang/IllegalArgumentException" := by rw [hE]; show (if k = 1 then _ else _) = _; rw [if_pos hk1]
      subst hE
      refine vx_catch hown [] ⟨0, 7, 10, 13⟩ [⟨0, 7, 14, 15⟩] htab (fun z hz => nomatch hz) rfl (by decide) (hts (.classLink RL 13 "java/lang/IllegalArgumentException") (by decide +kernel)) (xface (w := .castable "java/lang/IllegalArgumentException" "java/lang/IllegalArgumentException") rfl rfl (Vm.Alike.refl s.vm) (hZ.2.2.2 _ (by decide +kernel))) hcell hv hcl ?_
      refine lv_astore (lv' := [(4, .ref q9), (0, .ref h0), (1, .int p1), (2, .int p2), (3, .int p3)]) hx hb dL_join_10 hl (by decide) rfl (fun ls hl => ?_)
      refine lv_iconst (v := 1) hx hb dL_join_12 (by decide) ?_
      refine W.widen (k := C) (n := N) (by show 0 + C ≤ C; omega) (by show 0 + N ≤ N; omega) ?_
      exact W.iret hx hb hr (fun t ht hW => ⟨⟨1, _, rfl, ⟨by show (1 : Int32) = (if k = 1 then 1 else 2); rw [if_pos hk1], rfl⟩, hw1, hn1, by rw [ht]; exact hP, gK.moved hW.alike hK, hD⟩, hS.F ht⟩) hS.2.2 dL_join_13 hlocks
    · have hE : E = "java/lang/IllegalStateException" := by rw [hE]; show (if k = 1 then _ else _) = _; rw [if_neg hk1]
      subst hE
      refine vx_catch hown [⟨0, 7, 10, 13⟩] ⟨0, 7, 14, 15⟩ [] htab (fun z hz => by rw [List.mem_singleton.mp hz]; exact Or.inr ⟨by decide, _, hts (.classLink RL 13 "java/lang/IllegalArgumentException") (by decide +kernel), hNc⟩) rfl (by decide) (hts (.classLink RL 15 "java/lang/IllegalStateException") (by decide +kernel)) (xface (w := .castable "java/lang/IllegalStateException" "java/lang/IllegalStateException") rfl rfl (Vm.Alike.refl s.vm) (hZ.2.2.2 _ (by decide +kernel))) hcell hv hcl ?_
      refine lv_astore (lv' := [(4, .ref q9), (0, .ref h0), (1, .int p1), (2, .int p2), (3, .int p3)]) hx hb dL_join_14 hl (by decide) rfl (fun ls hl => ?_)
      refine lv_iconst (v := 2) hx hb dL_join_16 (by decide) ?_
      refine W.widen (k := C) (n := N) (by show 0 + C ≤ C; omega) (by show 0 + N ≤ N; omega) ?_
      exact W.iret hx hb hr (fun t ht hW => ⟨⟨2, _, rfl, ⟨by show (2 : Int32) = (if k = 1 then 1 else 2); rw [if_neg hk1], rfl⟩, hw1, hn1, by rw [ht]; exact hP, gK.moved hW.alike hK, hD⟩, hS.F ht⟩) hS.2.2 dL_join_17 hlocks
  · obtain ⟨er, eu⟩ := hw
    subst er; subst eu
    obtain ⟨hw1, hn1, hP1, hK1, hD1⟩ := hB
    rw [ht] at hP1
    have hP := hP1
    have hD : va_D A (ow G h0 (hw1, h.2.1, hn1, h.2.2.2) u) := hD1.weaken (fun k q _ h => hFc q.1 h)
    refine lv_goto (tgt := 18) hx hb dL_join_7 (by decide) ?_
    refine lv_iconst (v := 0) hx hb dL_join_18 (by decide) ?_
    refine W.widen (k := C) (n := N) (by show 0 + C ≤ C; omega) (by show 0 + N ≤ N; omega) ?_
    exact W.iret hx hb hr (fun t ht hW => ⟨⟨0, _, rfl, ⟨rfl, rfl⟩, hw1, hn1, by rw [ht]; exact hP, gK.moved hW.alike hK, hD⟩, hS.F ht⟩) hS.2.2 dL_join_19 hlocks
abbrev rL_part (C N : Nat) : Room := { frames := 10, cells := C, slots := N, locals := 188 }
theorem nL_part : yL_part.cls ≠ "java/lang/invoke/MethodHandle" ∧ yL_part.cls ≠ "java/lang/invoke/VarHandle" ∧ (parseMethodDescriptor yL_part.desc).map (fun d => d.parameters.length) = some 5 := by decide +kernel
set_option maxHeartbeats 4000000 in
set_option maxRecDepth 100000 in
theorem kL_part (l : Launch) (htr : l.stackTraces = false) (G : gT) (h0 : Nat) (h : oH) (sz F : Nat) (σ : oS) (p1 : Int32) (p2 : Int32) (p3 : Int32) (p4 : Int32) (r : Int32 ⊕ Unit) (σr : oS) (C N : Nat) (hg : fX0_part F σ p1 p2 p3 p4 = some (r, σr, C, N)) : Met l yL_part wsL_part (rL_part C N) (lPre G h0 h σ sz [.int p1, .int p2, .int p3, .int p4]) (lQ G h0 h (xC r) σr (oA G h0 h σ sz)) C N (oA G h0 h σ sz) := by
  refine lwMet (cc := cL_part) (maxL := 6) (ret := some .int) (hh := [(0, 9, 12, 13), (0, 9, 16, 15)]) (by decide +kernel) rfl ?_
  intro p e s m args below meth c s₁ B hml hv
  obtain ⟨rfl, hsz, hP, hK, hD0, hZ, hNc⟩ := hv
  have hx := B.exec
  have hb := B.bytes
  have hr := B.returns
  have hlocks := B.notSynchronized
  have hts := atoms_spec (ws := wsL_part) B.pre
  have hown : s.vm.findClass RL = some m.cls := findClass_of_methodNamed B.named
  have htab := vx_table (x := yL_part) (hh := [(0, 9, 12, 13), (0, 9, 16, 15)]) B (hts _ List.mem_cons_self)
  subst hsz
  have hD := hD0.self (sz := s.heap.size)
  generalize hAe : va_A (ow G h0 h σ) s.heap.size = A at hD
  have hAe2 : oA G h0 h σ s.heap.size = A := hAe
  rw [hAe2] at hZ ⊢
  have hA : ∀ q : Nat, s.heap.size ≤ q → A q := fun q h => by rw [← hAe]; exact Or.inr h
  have hS : va_S A s.heap s.heap [] := va_S.rf
  have hl := lv_entry ([.ref h0, .int p1, .int p2, .int p3, .int p4]) (n := 6) (Nat.le_of_ble_eq_true rfl)
  rw [lg_entry_eq]
  generalize (lg_sl ([.ref h0, .int p1, .int p2, .int p3, .int p4]) ++ List.replicate (6 - (lg_sl ([.ref h0, .int p1, .int p2, .int p3, .int p4])).length) Slot.unset).toArray = ls at hl ⊢
  have hl : lv_has ls 6 [(0, .ref h0), (1, .int p1), (2, .int p2), (3, .int p3), (4, .int p4)] := hl
  refine lv_aload_n hx hb dL_part_0 rfl (lv_at hl 0 rfl) ?_
  refine lv_iload_n hx hb dL_part_1 rfl (lv_at hl 1 rfl) ?_
  refine lv_iload_n hx hb dL_part_2 rfl (lv_at hl 2 rfl) ?_
  refine lv_iload_n hx hb dL_part_3 rfl (lv_at hl 3 rfl) ?_
  refine lv_iload hx hb dL_part_4 (lv_at hl 4 rfl) ?_
  have hPc : va_P G.1 vwCl (ow G h0 h σ) s.heap := hP
  have hDc : va_D A (ow G h0 h σ) := hD
  have hFc := va_free (wc := ow G h0 h σ) hD hS hA [0, 1, 2, 3, 4] rfl
  refine vx_callv (vx_runV (As := [.int p1, .int p2, .int p3, .int p4]) (rest := []) ⟨hx, hb, hml, hown, hts⟩ (kX0_part l htr G h0 h s.heap.size F σ p1 p2 p3 p4 r σr C N hg) (cwV 4 hts gL_part_X0_part rfl rfl rfl nX0_part ⟨Nat.le_of_ble_eq_true rfl, Nat.le_of_ble_eq_true rfl⟩) ⟨oPreX_blind, va_recv hK hPc (ci := 2) (q0 := 0) rfl rfl, fun U hU hW => ⟨rfl, by rw [hU], by rw [hU]; exact hPc, gK.moved hW.alike hK, hDc.weaken (fun _ _ _ _ => trivial), by rw [hU]; exact (hZ.narrow hFc).warm hW⟩⟩ rfl rfl hl.1 rfl (lv_room (Nat.le_of_ble_eq_true rfl)) dL_part_6 ⟨by show 0 + C ≤ C; omega, by show 0 + N ≤ N; omega⟩) hS (fun q _ h => hFc q h) hFc (fun q _ h => hFc q h) (fun E ce q9 u t H1 locs1 ht hvm hp hB hz hk hS hcell hv hcl => ?_) (fun u t H1 locs1 ht hvm hw hB hz hk hS => ?_)
  · obtain ⟨⟨k, hk9, hE⟩, hB⟩ := hB
    subst hp
    subst hk9
    obtain ⟨hw1, hn1, hP1, hK1, hD1⟩ := hB
    rw [ht] at hP1
    have hP := hP1
    have hD : va_D A (ow G h0 (hw1, h.2.1, hn1, h.2.2.2) u) := hD1.weaken (fun k q _ h => hFc q.1 h)
    by_cases hk1 : k = 1
    · have hE : E = "java/lang/IllegalArgumentException" := by rw [hE]; show (if k = 1 then _ else _) = _; rw [if_pos hk1]
      subst hE
      refine vx_catch hown [] ⟨0, 9, 12, 13⟩ [⟨0, 9, 16, 15⟩] htab (fun z hz => nomatch hz) rfl (by decide) (hts (.classLink RL 13 "java/lang/IllegalArgumentException") (by decide +kernel)) (xface (w := .castable "java/lang/IllegalArgumentException" "java/lang/IllegalArgumentException") rfl rfl (Vm.Alike.refl s.vm) (hZ.2.2.2 _ (by decide +kernel))) hcell hv hcl ?_
      refine lv_astore (lv' := [(5, .ref q9), (0, .ref h0), (1, .int p1), (2, .int p2), (3, .int p3), (4, .int p4)]) hx hb dL_part_12 hl (by decide) rfl (fun ls hl => ?_)
      refine lv_iconst (v := 1) hx hb dL_part_14 (by decide) ?_
      refine W.widen (k := C) (n := N) (by show 0 + C ≤ C; omega) (by show 0 + N ≤ N; omega) ?_
      exact W.iret hx hb hr (fun t ht hW => ⟨⟨1, _, rfl, ⟨by show (1 : Int32) = (if k = 1 then 1 else 2); rw [if_pos hk1], rfl⟩, hw1, hn1, by rw [ht]; exact hP, gK.moved hW.alike hK, hD⟩, hS.F ht⟩) hS.2.2 dL_part_15 hlocks
    · have hE : E = "java/lang/IllegalStateException" := by rw [hE]; show (if k = 1 then _ else _) = _; rw [if_neg hk1]
      subst hE
      refine vx_catch hown [⟨0, 9, 12, 13⟩] ⟨0, 9, 16, 15⟩ [] htab (fun z hz => by rw [List.mem_singleton.mp hz]; exact Or.inr ⟨by decide, _, hts (.classLink RL 13 "java/lang/IllegalArgumentException") (by decide +kernel), hNc⟩) rfl (by decide) (hts (.classLink RL 15 "java/lang/IllegalStateException") (by decide +kernel)) (xface (w := .castable "java/lang/IllegalStateException" "java/lang/IllegalStateException") rfl rfl (Vm.Alike.refl s.vm) (hZ.2.2.2 _ (by decide +kernel))) hcell hv hcl ?_
      refine lv_astore (lv' := [(5, .ref q9), (0, .ref h0), (1, .int p1), (2, .int p2), (3, .int p3), (4, .int p4)]) hx hb dL_part_16 hl (by decide) rfl (fun ls hl => ?_)
      refine lv_iconst (v := 2) hx hb dL_part_18 (by decide) ?_
      refine W.widen (k := C) (n := N) (by show 0 + C ≤ C; omega) (by show 0 + N ≤ N; omega) ?_
      exact W.iret hx hb hr (fun t ht hW => ⟨⟨2, _, rfl, ⟨by show (2 : Int32) = (if k = 1 then 1 else 2); rw [if_neg hk1], rfl⟩, hw1, hn1, by rw [ht]; exact hP, gK.moved hW.alike hK, hD⟩, hS.F ht⟩) hS.2.2 dL_part_19 hlocks
  · obtain ⟨er, eu⟩ := hw
    subst er; subst eu
    obtain ⟨hw1, hn1, hP1, hK1, hD1⟩ := hB
    rw [ht] at hP1
    have hP := hP1
    have hD : va_D A (ow G h0 (hw1, h.2.1, hn1, h.2.2.2) u) := hD1.weaken (fun k q _ h => hFc q.1 h)
    refine lv_goto (tgt := 20) hx hb dL_part_9 (by decide) ?_
    refine lv_iconst (v := 0) hx hb dL_part_20 (by decide) ?_
    refine W.widen (k := C) (n := N) (by show 0 + C ≤ C; omega) (by show 0 + N ≤ N; omega) ?_
    exact W.iret hx hb hr (fun t ht hW => ⟨⟨0, _, rfl, ⟨rfl, rfl⟩, hw1, hn1, by rw [ht]; exact hP, gK.moved hW.alike hK, hD⟩, hS.F ht⟩) hS.2.2 dL_part_21 hlocks
abbrev rL_name (C N : Nat) : Room := { frames := 10, cells := C, slots := N, locals := 186 }
theorem nL_name : yL_name.cls ≠ "java/lang/invoke/MethodHandle" ∧ yL_name.cls ≠ "java/lang/invoke/VarHandle" ∧ (parseMethodDescriptor yL_name.desc).map (fun d => d.parameters.length) = some 3 := by decide +kernel
set_option maxHeartbeats 4000000 in
set_option maxRecDepth 100000 in
theorem kL_name (l : Launch) (htr : l.stackTraces = false) (G : gT) (h0 : Nat) (h : oH) (sz F : Nat) (σ : oS) (p1 : Int32) (p2 : Int32) (r : Int32 ⊕ Unit) (σr : oS) (C N : Nat) (hg : fX0_name F σ p1 p2 = some (r, σr, C, N)) : Met l yL_name wsL_name (rL_name C N) (lPre G h0 h σ sz [.int p1, .int p2]) (lQ G h0 h (xC r) σr (oA G h0 h σ sz)) C N (oA G h0 h σ sz) := by
  refine lwMet (cc := cL_name) (maxL := 4) (ret := some .int) (hh := [(0, 6, 9, 13), (0, 6, 12, 15)]) (by decide +kernel) rfl ?_
  intro p e s m args below meth c s₁ B hml hv
  obtain ⟨rfl, hsz, hP, hK, hD0, hZ, hNc⟩ := hv
  have hx := B.exec
  have hb := B.bytes
  have hr := B.returns
  have hlocks := B.notSynchronized
  have hts := atoms_spec (ws := wsL_name) B.pre
  have hown : s.vm.findClass RL = some m.cls := findClass_of_methodNamed B.named
  have htab := vx_table (x := yL_name) (hh := [(0, 6, 9, 13), (0, 6, 12, 15)]) B (hts _ List.mem_cons_self)
  subst hsz
  have hD := hD0.self (sz := s.heap.size)
  generalize hAe : va_A (ow G h0 h σ) s.heap.size = A at hD
  have hAe2 : oA G h0 h σ s.heap.size = A := hAe
  rw [hAe2] at hZ ⊢
  have hA : ∀ q : Nat, s.heap.size ≤ q → A q := fun q h => by rw [← hAe]; exact Or.inr h
  have hS : va_S A s.heap s.heap [] := va_S.rf
  have hl := lv_entry ([.ref h0, .int p1, .int p2]) (n := 4) (Nat.le_of_ble_eq_true rfl)
  rw [lg_entry_eq]
  generalize (lg_sl ([.ref h0, .int p1, .int p2]) ++ List.replicate (4 - (lg_sl ([.ref h0, .int p1, .int p2])).length) Slot.unset).toArray = ls at hl ⊢
  have hl : lv_has ls 4 [(0, .ref h0), (1, .int p1), (2, .int p2)] := hl
  refine lv_aload_n hx hb dL_name_0 rfl (lv_at hl 0 rfl) ?_
  refine lv_iload_n hx hb dL_name_1 rfl (lv_at hl 1 rfl) ?_
  refine lv_iload_n hx hb dL_name_2 rfl (lv_at hl 2 rfl) ?_
  have hPc : va_P G.1 vwCl (ow G h0 h σ) s.heap := hP
  have hDc : va_D A (ow G h0 h σ) := hD
  have hFc := va_free (wc := ow G h0 h σ) hD hS hA [0, 1, 2, 3, 4] rfl
  refine vx_callv (vx_runV (As := [.int p1, .int p2]) (rest := []) ⟨hx, hb, hml, hown, hts⟩ (kX0_name l htr G h0 h s.heap.size F σ p1 p2 r σr C N hg) (cwV 2 hts gL_name_X0_name rfl rfl rfl nX0_name ⟨Nat.le_of_ble_eq_true rfl, Nat.le_of_ble_eq_true rfl⟩) ⟨oPreX_blind, va_recv hK hPc (ci := 2) (q0 := 0) rfl rfl, fun U hU hW => ⟨rfl, by rw [hU], by rw [hU]; exact hPc, gK.moved hW.alike hK, hDc.weaken (fun _ _ _ _ => trivial), by rw [hU]; exact (hZ.narrow hFc).warm hW⟩⟩ rfl rfl hl.1 rfl (lv_room (Nat.le_of_ble_eq_true rfl)) dL_name_3 ⟨by show 0 + C ≤ C; omega, by show 0 + N ≤ N; omega⟩) hS (fun q _ h => hFc q h) hFc (fun q _ h => hFc q h) (fun E ce q9 u t H1 locs1 ht hvm hp hB hz hk hS hcell hv hcl => ?_) (fun u t H1 locs1 ht hvm hw hB hz hk hS => ?_)
  · obtain ⟨⟨k, hk9, hE⟩, hB⟩ := hB
    subst hp
    subst hk9
    obtain ⟨hw1, hn1, hP1, hK1, hD1⟩ := hB
    rw [ht] at hP1
    have hP := hP1
    have hD : va_D A (ow G h0 (hw1, h.2.1, hn1, h.2.2.2) u) := hD1.weaken (fun k q _ h => hFc q.1 h)
    by_cases hk1 : k = 1
    · have hE : E = "java/lang/IllegalArgumentException" := by rw [hE]; show (if k = 1 then _ else _) = _; rw [if_pos hk1]
      subst hE
      refine vx_catch hown [] ⟨0, 6, 9, 13⟩ [⟨0, 6, 12, 15⟩] htab (fun z hz => nomatch hz) rfl (by decide) (hts (.classLink RL 13 "java/lang/IllegalArgumentException") (by decide +kernel)) (xface (w := .castable "java/lang/IllegalArgumentException" "java/lang/IllegalArgumentException") rfl rfl (Vm.Alike.refl s.vm) (hZ.2.2.2 _ (by decide +kernel))) hcell hv hcl ?_
      refine lv_astore_n (lv' := [(3, .ref q9), (0, .ref h0), (1, .int p1), (2, .int p2)]) hx hb dL_name_9 rfl hl (by decide) rfl (fun ls hl => ?_)
      refine lv_iconst (v := 1) hx hb dL_name_10 (by decide) ?_
      refine W.widen (k := C) (n := N) (by show 0 + C ≤ C; omega) (by show 0 + N ≤ N; omega) ?_
      exact W.iret hx hb hr (fun t ht hW => ⟨⟨1, _, rfl, ⟨by show (1 : Int32) = (if k = 1 then 1 else 2); rw [if_pos hk1], rfl⟩, hw1, hn1, by rw [ht]; exact hP, gK.moved hW.alike hK, hD⟩, hS.F ht⟩) hS.2.2 dL_name_11 hlocks
    · have hE : E = "java/lang/IllegalStateException" := by rw [hE]; show (if k = 1 then _ else _) = _; rw [if_neg hk1]
      subst hE
      refine vx_catch hown [⟨0, 6, 9, 13⟩] ⟨0, 6, 12, 15⟩ [] htab (fun z hz => by rw [List.mem_singleton.mp hz]; exact Or.inr ⟨by decide, _, hts (.classLink RL 13 "java/lang/IllegalArgumentException") (by decide +kernel), hNc⟩) rfl (by decide) (hts (.classLink RL 15 "java/lang/IllegalStateException") (by decide +kernel)) (xface (w := .castable "java/lang/IllegalStateException" "java/lang/IllegalStateException") rfl rfl (Vm.Alike.refl s.vm) (hZ.2.2.2 _ (by decide +kernel))) hcell hv hcl ?_
      refine lv_astore_n (lv' := [(3, .ref q9), (0, .ref h0), (1, .int p1), (2, .int p2)]) hx hb dL_name_12 rfl hl (by decide) rfl (fun ls hl => ?_)
      refine lv_iconst (v := 2) hx hb dL_name_13 (by decide) ?_
      refine W.widen (k := C) (n := N) (by show 0 + C ≤ C; omega) (by show 0 + N ≤ N; omega) ?_
      exact W.iret hx hb hr (fun t ht hW => ⟨⟨2, _, rfl, ⟨by show (2 : Int32) = (if k = 1 then 1 else 2); rw [if_neg hk1], rfl⟩, hw1, hn1, by rw [ht]; exact hP, gK.moved hW.alike hK, hD⟩, hS.F ht⟩) hS.2.2 dL_name_14 hlocks
  · obtain ⟨er, eu⟩ := hw
    subst er; subst eu
    obtain ⟨hw1, hn1, hP1, hK1, hD1⟩ := hB
    rw [ht] at hP1
    have hP := hP1
    have hD : va_D A (ow G h0 (hw1, h.2.1, hn1, h.2.2.2) u) := hD1.weaken (fun k q _ h => hFc q.1 h)
    refine lv_goto (tgt := 15) hx hb dL_name_6 (by decide) ?_
    refine lv_iconst (v := 0) hx hb dL_name_15 (by decide) ?_
    refine W.widen (k := C) (n := N) (by show 0 + C ≤ C; omega) (by show 0 + N ≤ N; omega) ?_
    exact W.iret hx hb hr (fun t ht hW => ⟨⟨0, _, rfl, ⟨rfl, rfl⟩, hw1, hn1, by rw [ht]; exact hP, gK.moved hW.alike hK, hD⟩, hS.F ht⟩) hS.2.2 dL_name_16 hlocks
abbrev rL_stress (C N : Nat) : Room := { frames := 7, cells := C, slots := N, locals := 111 }
theorem nL_stress : yL_stress.cls ≠ "java/lang/invoke/MethodHandle" ∧ yL_stress.cls ≠ "java/lang/invoke/VarHandle" ∧ (parseMethodDescriptor yL_stress.desc).map (fun d => d.parameters.length) = some 2 := by decide +kernel
set_option maxHeartbeats 4000000 in
set_option maxRecDepth 100000 in
theorem kL_stress (l : Launch) (htr : l.stackTraces = false) (G : gT) (h0 : Nat) (h : oH) (sz F : Nat) (σ : oS) (p1 : Int32) (r : Int32 ⊕ Unit) (σr : oS) (C N : Nat) (hk1 : ∀ k, r = .inl k → k = 1) (hg : fX0_stress F σ p1 = some (r, σr, C, N)) : Met l yL_stress wsL_stress (rL_stress C N) (lPre G h0 h σ sz [.int p1]) (lQ G h0 h (xC r) σr (oA G h0 h σ sz)) C N (oA G h0 h σ sz) := by
  refine lwMet (cc := cL_stress) (maxL := 3) (ret := some .int) (hh := [(0, 5, 8, 13)]) (by decide +kernel) rfl ?_
  intro p e s m args below meth c s₁ B hml hv
  obtain ⟨rfl, hsz, hP, hK, hD0, hZ, hNc⟩ := hv
  have hx := B.exec
  have hb := B.bytes
  have hr := B.returns
  have hlocks := B.notSynchronized
  have hts := atoms_spec (ws := wsL_stress) B.pre
  have hown : s.vm.findClass RL = some m.cls := findClass_of_methodNamed B.named
  have htab := vx_table (x := yL_stress) (hh := [(0, 5, 8, 13)]) B (hts _ List.mem_cons_self)
  subst hsz
  have hD := hD0.self (sz := s.heap.size)
  generalize hAe : va_A (ow G h0 h σ) s.heap.size = A at hD
  have hAe2 : oA G h0 h σ s.heap.size = A := hAe
  rw [hAe2] at hZ ⊢
  have hA : ∀ q : Nat, s.heap.size ≤ q → A q := fun q h => by rw [← hAe]; exact Or.inr h
  have hS : va_S A s.heap s.heap [] := va_S.rf
  have hl := lv_entry ([.ref h0, .int p1]) (n := 3) (Nat.le_of_ble_eq_true rfl)
  rw [lg_entry_eq]
  generalize (lg_sl ([.ref h0, .int p1]) ++ List.replicate (3 - (lg_sl ([.ref h0, .int p1])).length) Slot.unset).toArray = ls at hl ⊢
  have hl : lv_has ls 3 [(0, .ref h0), (1, .int p1)] := hl
  refine lv_aload_n hx hb dL_stress_0 rfl (lv_at hl 0 rfl) ?_
  refine lv_iload_n hx hb dL_stress_1 rfl (lv_at hl 1 rfl) ?_
  have hPc : va_P G.1 vwCl (ow G h0 h σ) s.heap := hP
  have hDc : va_D A (ow G h0 h σ) := hD
  have hFc := va_free (wc := ow G h0 h σ) hD hS hA [0, 1, 2, 3, 4] rfl
  refine vx_callv (vx_runV (As := [.int p1]) (rest := []) ⟨hx, hb, hml, hown, hts⟩ (kX0_stress l htr G h0 h s.heap.size F σ p1 r σr C N hg) (cwV 1 hts gL_stress_X0_stress rfl rfl rfl nX0_stress ⟨Nat.le_of_ble_eq_true rfl, Nat.le_of_ble_eq_true rfl⟩) ⟨oPreX_blind, va_recv hK hPc (ci := 2) (q0 := 0) rfl rfl, fun U hU hW => ⟨rfl, by rw [hU], by rw [hU]; exact hPc, gK.moved hW.alike hK, hDc.weaken (fun _ _ _ _ => trivial), by rw [hU]; exact (hZ.narrow hFc).warm hW⟩⟩ rfl rfl hl.1 rfl (lv_room (Nat.le_of_ble_eq_true rfl)) dL_stress_2 ⟨by show 0 + C ≤ C; omega, by show 0 + N ≤ N; omega⟩) hS (fun q _ h => hFc q h) hFc (fun q _ h => hFc q h) (fun E ce q9 u t H1 locs1 ht hvm hp hB hz hk hS hcell hv hcl => ?_) (fun u t H1 locs1 ht hvm hw hB hz hk hS => ?_)
  · obtain ⟨⟨k, hk9, hE⟩, hB⟩ := hB
    subst hp
    subst hk9
    obtain ⟨hP1, hK1, hD1⟩ := hB
    rw [ht] at hP1
    obtain ⟨hw1, hw1e⟩ : ∃ z, z = h.1 := ⟨_, rfl⟩
    obtain ⟨hn1, hn1e⟩ : ∃ z, z = h.2.2.1 := ⟨_, rfl⟩
    have hP1 : va_P G.1 vwCl (ow G h0 (hw1, h.2.1, hn1, h.2.2.2) u) H1 := by rw [hw1e, hn1e]; exact hP1
    have hD1 : va_D (oA G h0 h σ s.heap.size) (ow G h0 (hw1, h.2.1, hn1, h.2.2.2) u) := by rw [hw1e, hn1e]; exact hD1
    have hP := hP1
    have hD : va_D A (ow G h0 (hw1, h.2.1, hn1, h.2.2.2) u) := hD1.weaken (fun k q _ h => hFc q.1 h)
    have hk1 := hk1 k rfl
    have hE : E = "java/lang/IllegalArgumentException" := by rw [hE]; show (if k = 1 then _ else _) = _; rw [if_pos hk1]
    subst hE
    refine vx_catch hown [] ⟨0, 5, 8, 13⟩ [] htab (fun z hz => nomatch hz) rfl (by decide) (hts (.classLink RL 13 "java/lang/IllegalArgumentException") (by decide +kernel)) (xface (w := .castable "java/lang/IllegalArgumentException" "java/lang/IllegalArgumentException") rfl rfl (Vm.Alike.refl s.vm) (hZ.2.2.2 _ (by decide +kernel))) hcell hv hcl ?_
    refine lv_astore_n (lv' := [(2, .ref q9), (0, .ref h0), (1, .int p1)]) hx hb dL_stress_8 rfl hl (by decide) rfl (fun ls hl => ?_)
    refine lv_iconst (v := 1) hx hb dL_stress_9 (by decide) ?_
    refine W.widen (k := C) (n := N) (by show 0 + C ≤ C; omega) (by show 0 + N ≤ N; omega) ?_
    exact W.iret hx hb hr (fun t ht hW => ⟨⟨1, _, rfl, ⟨by show (1 : Int32) = (if k = 1 then 1 else 2); rw [if_pos hk1], rfl⟩, hw1, hn1, by rw [ht]; exact hP, gK.moved hW.alike hK, hD⟩, hS.F ht⟩) hS.2.2 dL_stress_10 hlocks
  · obtain ⟨er, eu⟩ := hw
    subst er; subst eu
    obtain ⟨hP1, hK1, hD1⟩ := hB
    rw [ht] at hP1
    obtain ⟨hw1, hw1e⟩ : ∃ z, z = h.1 := ⟨_, rfl⟩
    obtain ⟨hn1, hn1e⟩ : ∃ z, z = h.2.2.1 := ⟨_, rfl⟩
    have hP1 : va_P G.1 vwCl (ow G h0 (hw1, h.2.1, hn1, h.2.2.2) u) H1 := by rw [hw1e, hn1e]; exact hP1
    have hD1 : va_D (oA G h0 h σ s.heap.size) (ow G h0 (hw1, h.2.1, hn1, h.2.2.2) u) := by rw [hw1e, hn1e]; exact hD1
    have hP := hP1
    have hD : va_D A (ow G h0 (hw1, h.2.1, hn1, h.2.2.2) u) := hD1.weaken (fun k q _ h => hFc q.1 h)
    refine lv_goto (tgt := 11) hx hb dL_stress_5 (by decide) ?_
    refine lv_iconst (v := 0) hx hb dL_stress_11 (by decide) ?_
    refine W.widen (k := C) (n := N) (by show 0 + C ≤ C; omega) (by show 0 + N ≤ N; omega) ?_
    exact W.iret hx hb hr (fun t ht hW => ⟨⟨0, _, rfl, ⟨rfl, rfl⟩, hw1, hn1, by rw [ht]; exact hP, gK.moved hW.alike hK, hD⟩, hS.F ht⟩) hS.2.2 dL_stress_12 hlocks
abbrev rL_kind (C N : Nat) : Room := { frames := 8, cells := C, slots := N, locals := 131 }
theorem nL_kind : yL_kind.cls ≠ "java/lang/invoke/MethodHandle" ∧ yL_kind.cls ≠ "java/lang/invoke/VarHandle" ∧ (parseMethodDescriptor yL_kind.desc).map (fun d => d.parameters.length) = some 3 := by decide +kernel
set_option maxHeartbeats 4000000 in
set_option maxRecDepth 100000 in
theorem kL_kind (l : Launch) (htr : l.stackTraces = false) (G : gT) (h0 : Nat) (h : oH) (ho : Nat) (fo : Nat → Int64) (sz F : Nat) (σ : oS) (p1 : Int32) (r : Int32 ⊕ Int32) (σr : oS) (C N : Nat) (hk1 : ∀ k, r = .inl k → k = 1) (hg : fX0_kind F σ p1 = some (r, σr, C, N)) : Met l yL_kind wsL_kind (rL_kind C N) (lPreO G h0 h σ ho fo sz [.int p1, .ref ho]) (lQO G h0 h (xC r) σr ho (oOut Int32.toInt64 r fo) (oAo G h0 h σ ho fo sz)) C N (oAo G h0 h σ ho fo sz) := by
  refine lwMet (cc := cL_kind) (maxL := 4) (ret := some .int) (hh := [(0, 9, 12, 13)]) (by decide +kernel) rfl ?_
  intro p e s m args below meth c s₁ B hml hv
  obtain ⟨rfl, hsz, hP, hK, hD0, hZ, hNc⟩ := hv
  have hx := B.exec
  have hb := B.bytes
  have hr := B.returns
  have hlocks := B.notSynchronized
  have hts := atoms_spec (ws := wsL_kind) B.pre
  have hown : s.vm.findClass RL = some m.cls := findClass_of_methodNamed B.named
  have htab := vx_table (x := yL_kind) (hh := [(0, 9, 12, 13)]) B (hts _ List.mem_cons_self)
  subst hsz
  have hD := hD0.self (sz := s.heap.size)
  generalize hAe : va_A (owo G h0 h σ ho fo) s.heap.size = A at hD
  have hAe2 : oAo G h0 h σ ho fo s.heap.size = A := hAe
  rw [hAe2] at hZ ⊢
  have hA : ∀ q : Nat, s.heap.size ≤ q → A q := fun q h => by rw [← hAe]; exact Or.inr h
  have hS : va_S A s.heap s.heap [] := va_S.rf
  have hl := lv_entry ([.ref h0, .int p1, .ref ho]) (n := 4) (Nat.le_of_ble_eq_true rfl)
  rw [lg_entry_eq]
  generalize (lg_sl ([.ref h0, .int p1, .ref ho]) ++ List.replicate (4 - (lg_sl ([.ref h0, .int p1, .ref ho])).length) Slot.unset).toArray = ls at hl ⊢
  have hl : lv_has ls 4 [(0, .ref h0), (1, .int p1), (2, .ref ho)] := hl
  refine lv_aload_n hx hb dL_kind_0 rfl (lv_at hl 2 rfl) ?_
  refine lv_iconst (v := 0) hx hb dL_kind_1 (by decide) ?_
  refine lv_aload_n hx hb dL_kind_2 rfl (lv_at hl 0 rfl) ?_
  refine lv_iload_n hx hb dL_kind_3 rfl (lv_at hl 1 rfl) ?_
  have hPc : va_P G.1 vwCl (ow G h0 h σ) s.heap := hP.sub [0, 1, 2, 3, 4] rfl
  have hDc : va_D A (ow G h0 h σ) := hD.sub [0, 1, 2, 3, 4] (by decide) rfl
  have hFc := va_free (wc := ow G h0 h σ) hD hS hA [0, 1, 2, 3, 4] rfl
  refine vx_calli (vx_runV (As := [.int p1]) (rest := [.int 0, .ref ho]) ⟨hx, hb, hml, hown, hts⟩ (kX0_kind l htr G h0 h s.heap.size F σ p1 r σr C N hg) (cwV 1 hts gL_kind_X0_kind rfl rfl rfl nX0_kind ⟨Nat.le_of_ble_eq_true rfl, Nat.le_of_ble_eq_true rfl⟩) ⟨oPreX_blind, va_recv hK hPc (ci := 2) (q0 := 0) rfl rfl, fun U hU hW => ⟨rfl, by rw [hU], by rw [hU]; exact hPc, gK.moved hW.alike hK, hDc.weaken (fun _ _ _ _ => trivial), by rw [hU]; exact (hZ.narrow hFc).warm hW⟩⟩ rfl rfl hl.1 rfl (lv_room (Nat.le_of_ble_eq_true rfl)) dL_kind_4 ⟨by show 0 + C ≤ C; omega, by show 0 + N ≤ N; omega⟩) hS (fun q _ h => hFc q h) hFc (fun q _ h => hFc q h) (fun E ce q9 u t H1 locs1 ht hvm hp hB hz hk hS hcell hv hcl => ?_) (fun a1 u t H1 locs1 ht hvm hw hB hz hk hS => ?_)
  · obtain ⟨⟨k, hk9, hE⟩, hB⟩ := hB
    subst hp
    subst hk9
    obtain ⟨hP1, hK1, hD1⟩ := hB
    rw [ht] at hP1
    obtain ⟨hw1, hw1e⟩ : ∃ z, z = h.1 := ⟨_, rfl⟩
    obtain ⟨hn1, hn1e⟩ : ∃ z, z = h.2.2.1 := ⟨_, rfl⟩
    have hP1 : va_P G.1 vwCl (ow G h0 (hw1, h.2.1, hn1, h.2.2.2) u) H1 := by rw [hw1e, hn1e]; exact hP1
    have hD1 : va_D (oA G h0 h σ s.heap.size) (ow G h0 (hw1, h.2.1, hn1, h.2.2.2) u) := by rw [hw1e, hn1e]; exact hD1
    obtain ⟨hP, hD⟩ := va_join (wr := [(ho, .inl (G.2.2.1, 1, .inr (.inl fo)))]) (w1 := ow G h0 (hw1, h.2.1, hn1, h.2.2.2) u) hP hD [0, 1, 2, 3, 4] [5] rfl rfl (by decide) (by decide) hk hFc hP1 hD1
    have hP : va_P G.1 vwCl (owo G h0 (hw1, h.2.1, hn1, h.2.2.2) u ho fo) H1 := hP.sub [1, 2, 3, 4, 5, 0] rfl
    have hD : va_D A (owo G h0 (hw1, h.2.1, hn1, h.2.2.2) u ho fo) := hD.sub [1, 2, 3, 4, 5, 0] (by decide) rfl
    have hk1 := hk1 k rfl
    have hE : E = "java/lang/IllegalArgumentException" := by rw [hE]; show (if k = 1 then _ else _) = _; rw [if_pos hk1]
    subst hE
    refine vx_catch hown [] ⟨0, 9, 12, 13⟩ [] htab (fun z hz => nomatch hz) rfl (by decide) (hts (.classLink RL 13 "java/lang/IllegalArgumentException") (by decide +kernel)) (xface (w := .castable "java/lang/IllegalArgumentException" "java/lang/IllegalArgumentException") rfl rfl (Vm.Alike.refl s.vm) (hZ.2.2.2 _ (by decide +kernel))) hcell hv hcl ?_
    refine lv_astore_n (lv' := [(3, .ref q9), (0, .ref h0), (1, .int p1), (2, .ref ho)]) hx hb dL_kind_12 rfl hl (by decide) rfl (fun ls hl => ?_)
    refine lv_iconst (v := 1) hx hb dL_kind_13 (by decide) ?_
    refine W.widen (k := C) (n := N) (by show 0 + C ≤ C; omega) (by show 0 + N ≤ N; omega) ?_
    exact W.iret hx hb hr (fun t ht hW => ⟨⟨1, _, rfl, ⟨by show (1 : Int32) = (if k = 1 then 1 else 2); rw [if_pos hk1], rfl⟩, hw1, hn1, by rw [ht]; exact hP, gK.moved hW.alike hK, hD⟩, hS.F ht⟩) hS.2.2 dL_kind_14 hlocks
  · obtain ⟨er, eu⟩ := hw
    subst er; subst eu
    obtain ⟨hP1, hK1, hD1⟩ := hB
    rw [ht] at hP1
    obtain ⟨hw1, hw1e⟩ : ∃ z, z = h.1 := ⟨_, rfl⟩
    obtain ⟨hn1, hn1e⟩ : ∃ z, z = h.2.2.1 := ⟨_, rfl⟩
    have hP1 : va_P G.1 vwCl (ow G h0 (hw1, h.2.1, hn1, h.2.2.2) u) H1 := by rw [hw1e, hn1e]; exact hP1
    have hD1 : va_D (oA G h0 h σ s.heap.size) (ow G h0 (hw1, h.2.1, hn1, h.2.2.2) u) := by rw [hw1e, hn1e]; exact hD1
    obtain ⟨hP, hD⟩ := va_join (wr := [(ho, .inl (G.2.2.1, 1, .inr (.inl fo)))]) (w1 := ow G h0 (hw1, h.2.1, hn1, h.2.2.2) u) hP hD [0, 1, 2, 3, 4] [5] rfl rfl (by decide) (by decide) hk hFc hP1 hD1
    have hP : va_P G.1 vwCl (owo G h0 (hw1, h.2.1, hn1, h.2.2.2) u ho fo) H1 := hP.sub [1, 2, 3, 4, 5, 0] rfl
    have hD : va_D A (owo G h0 (hw1, h.2.1, hn1, h.2.2.2) u ho fo) := hD.sub [1, 2, 3, 4, 5, 0] (by decide) rfl
    refine lv_i2l (v := a1.toInt64) hx hb dL_kind_7 rfl ?_
    refine va_last (f := fo) hx hb hK hP hD hS 5 1 rfl rfl (vp_in_nI (n := 0) (N := 1) (by decide) (by decide)) dL_kind_8 (fun H locs hP hD hS => ?_)
    have hP : va_P G.1 vwCl (owo G h0 (hw1, h.2.1, hn1, h.2.2.2) u ho (vp_updL fo 0 a1.toInt64)) H := hP
    have hD : va_D A (owo G h0 (hw1, h.2.1, hn1, h.2.2.2) u ho (vp_updL fo 0 a1.toInt64)) := hD
    refine lv_goto (tgt := 15) hx hb dL_kind_9 (by decide) ?_
    refine lv_iconst (v := 0) hx hb dL_kind_15 (by decide) ?_
    refine W.widen (k := C) (n := N) (by show 0 + C ≤ C; omega) (by show 0 + N ≤ N; omega) ?_
    exact W.iret hx hb hr (fun t ht hW => ⟨⟨0, _, rfl, ⟨rfl, rfl⟩, hw1, hn1, by rw [ht]; exact hP, gK.moved hW.alike hK, hD⟩, hS.F ht⟩) hS.2.2 dL_kind_16 hlocks
abbrev rL_same (C N : Nat) : Room := { frames := 8, cells := C, slots := N, locals := 132 }
theorem nL_same : yL_same.cls ≠ "java/lang/invoke/MethodHandle" ∧ yL_same.cls ≠ "java/lang/invoke/VarHandle" ∧ (parseMethodDescriptor yL_same.desc).map (fun d => d.parameters.length) = some 4 := by decide +kernel
set_option maxHeartbeats 4000000 in
set_option maxRecDepth 100000 in
theorem kL_same (l : Launch) (htr : l.stackTraces = false) (G : gT) (h0 : Nat) (h : oH) (ho : Nat) (fo : Nat → Int64) (sz F : Nat) (σ : oS) (p1 : Int32) (p2 : Int32) (r : Int32 ⊕ Int32) (σr : oS) (C N : Nat) (hk1 : ∀ k, r = .inl k → k = 1) (hg : fX0_same F σ p1 p2 = some (r, σr, C, N)) : Met l yL_same wsL_same (rL_same C N) (lPreO G h0 h σ ho fo sz [.int p1, .int p2, .ref ho]) (lQO G h0 h (xC r) σr ho (oOut zL r fo) (oAo G h0 h σ ho fo sz)) C N (oAo G h0 h σ ho fo sz) := by
  refine lwMet (cc := cL_same) (maxL := 5) (ret := some .int) (hh := [(0, 17, 20, 13)]) (by decide +kernel) rfl ?_
  intro p e s m args below meth c s₁ B hml hv
  obtain ⟨rfl, hsz, hP, hK, hD0, hZ, hNc⟩ := hv
  have hx := B.exec
  have hb := B.bytes
  have hr := B.returns
  have hlocks := B.notSynchronized
  have hts := atoms_spec (ws := wsL_same) B.pre
  have hown : s.vm.findClass RL = some m.cls := findClass_of_methodNamed B.named
  have htab := vx_table (x := yL_same) (hh := [(0, 17, 20, 13)]) B (hts _ List.mem_cons_self)
  subst hsz
  have hD := hD0.self (sz := s.heap.size)
  generalize hAe : va_A (owo G h0 h σ ho fo) s.heap.size = A at hD
  have hAe2 : oAo G h0 h σ ho fo s.heap.size = A := hAe
  rw [hAe2] at hZ ⊢
  have hA : ∀ q : Nat, s.heap.size ≤ q → A q := fun q h => by rw [← hAe]; exact Or.inr h
  have hS : va_S A s.heap s.heap [] := va_S.rf
  have hl := lv_entry ([.ref h0, .int p1, .int p2, .ref ho]) (n := 5) (Nat.le_of_ble_eq_true rfl)
  rw [lg_entry_eq]
  generalize (lg_sl ([.ref h0, .int p1, .int p2, .ref ho]) ++ List.replicate (5 - (lg_sl ([.ref h0, .int p1, .int p2, .ref ho])).length) Slot.unset).toArray = ls at hl ⊢
  have hl : lv_has ls 5 [(0, .ref h0), (1, .int p1), (2, .int p2), (3, .ref ho)] := hl
  refine lv_aload_n hx hb dL_same_0 rfl (lv_at hl 3 rfl) ?_
  refine lv_iconst (v := 0) hx hb dL_same_1 (by decide) ?_
  refine lv_aload_n hx hb dL_same_2 rfl (lv_at hl 0 rfl) ?_
  refine lv_iload_n hx hb dL_same_3 rfl (lv_at hl 1 rfl) ?_
  refine lv_iload_n hx hb dL_same_4 rfl (lv_at hl 2 rfl) ?_
  have hPc : va_P G.1 vwCl (ow G h0 h σ) s.heap := hP.sub [0, 1, 2, 3, 4] rfl
  have hDc : va_D A (ow G h0 h σ) := hD.sub [0, 1, 2, 3, 4] (by decide) rfl
  have hFc := va_free (wc := ow G h0 h σ) hD hS hA [0, 1, 2, 3, 4] rfl
  refine vx_calli (vx_runV (As := [.int p1, .int p2]) (rest := [.int 0, .ref ho]) ⟨hx, hb, hml, hown, hts⟩ (kX0_same l htr G h0 h s.heap.size F σ p1 p2 r σr C N hg) (cwV 2 hts gL_same_X0_same rfl rfl rfl nX0_same ⟨Nat.le_of_ble_eq_true rfl, Nat.le_of_ble_eq_true rfl⟩) ⟨oPreX_blind, va_recv hK hPc (ci := 2) (q0 := 0) rfl rfl, fun U hU hW => ⟨rfl, by rw [hU], by rw [hU]; exact hPc, gK.moved hW.alike hK, hDc.weaken (fun _ _ _ _ => trivial), by rw [hU]; exact (hZ.narrow hFc).warm hW⟩⟩ rfl rfl hl.1 rfl (lv_room (Nat.le_of_ble_eq_true rfl)) dL_same_5 ⟨by show 0 + C ≤ C; omega, by show 0 + N ≤ N; omega⟩) hS (fun q _ h => hFc q h) hFc (fun q _ h => hFc q h) (fun E ce q9 u t H1 locs1 ht hvm hp hB hz hk hS hcell hv hcl => ?_) (fun a1 u t H1 locs1 ht hvm hw hB hz hk hS => ?_)
  · obtain ⟨⟨k, hk9, hE⟩, hB⟩ := hB
    subst hp
    subst hk9
    obtain ⟨hP1, hK1, hD1⟩ := hB
    rw [ht] at hP1
    obtain ⟨hw1, hw1e⟩ : ∃ z, z = h.1 := ⟨_, rfl⟩
    obtain ⟨hn1, hn1e⟩ : ∃ z, z = h.2.2.1 := ⟨_, rfl⟩
    have hP1 : va_P G.1 vwCl (ow G h0 (hw1, h.2.1, hn1, h.2.2.2) u) H1 := by rw [hw1e, hn1e]; exact hP1
    have hD1 : va_D (oA G h0 h σ s.heap.size) (ow G h0 (hw1, h.2.1, hn1, h.2.2.2) u) := by rw [hw1e, hn1e]; exact hD1
    obtain ⟨hP, hD⟩ := va_join (wr := [(ho, .inl (G.2.2.1, 1, .inr (.inl fo)))]) (w1 := ow G h0 (hw1, h.2.1, hn1, h.2.2.2) u) hP hD [0, 1, 2, 3, 4] [5] rfl rfl (by decide) (by decide) hk hFc hP1 hD1
    have hP : va_P G.1 vwCl (owo G h0 (hw1, h.2.1, hn1, h.2.2.2) u ho fo) H1 := hP.sub [1, 2, 3, 4, 5, 0] rfl
    have hD : va_D A (owo G h0 (hw1, h.2.1, hn1, h.2.2.2) u ho fo) := hD.sub [1, 2, 3, 4, 5, 0] (by decide) rfl
    have hk1 := hk1 k rfl
    have hE : E = "java/lang/IllegalArgumentException" := by rw [hE]; show (if k = 1 then _ else _) = _; rw [if_pos hk1]
    subst hE
    refine vx_catch hown [] ⟨0, 17, 20, 13⟩ [] htab (fun z hz => nomatch hz) rfl (by decide) (hts (.classLink RL 13 "java/lang/IllegalArgumentException") (by decide +kernel)) (xface (w := .castable "java/lang/IllegalArgumentException" "java/lang/IllegalArgumentException") rfl rfl (Vm.Alike.refl s.vm) (hZ.2.2.2 _ (by decide +kernel))) hcell hv hcl ?_
    refine lv_astore (lv' := [(4, .ref q9), (0, .ref h0), (1, .int p1), (2, .int p2), (3, .ref ho)]) hx hb dL_same_20 hl (by decide) rfl (fun ls hl => ?_)
    refine lv_iconst (v := 1) hx hb dL_same_22 (by decide) ?_
    refine W.widen (k := C) (n := N) (by show 0 + C ≤ C; omega) (by show 0 + N ≤ N; omega) ?_
    exact W.iret hx hb hr (fun t ht hW => ⟨⟨1, _, rfl, ⟨by show (1 : Int32) = (if k = 1 then 1 else 2); rw [if_pos hk1], rfl⟩, hw1, hn1, by rw [ht]; exact hP, gK.moved hW.alike hK, hD⟩, hS.F ht⟩) hS.2.2 dL_same_23 hlocks
  · obtain ⟨er, eu⟩ := hw
    subst er; subst eu
    obtain ⟨hP1, hK1, hD1⟩ := hB
    rw [ht] at hP1
    obtain ⟨hw1, hw1e⟩ : ∃ z, z = h.1 := ⟨_, rfl⟩
    obtain ⟨hn1, hn1e⟩ : ∃ z, z = h.2.2.1 := ⟨_, rfl⟩
    have hP1 : va_P G.1 vwCl (ow G h0 (hw1, h.2.1, hn1, h.2.2.2) u) H1 := by rw [hw1e, hn1e]; exact hP1
    have hD1 : va_D (oA G h0 h σ s.heap.size) (ow G h0 (hw1, h.2.1, hn1, h.2.2.2) u) := by rw [hw1e, hn1e]; exact hD1
    obtain ⟨hP, hD⟩ := va_join (wr := [(ho, .inl (G.2.2.1, 1, .inr (.inl fo)))]) (w1 := ow G h0 (hw1, h.2.1, hn1, h.2.2.2) u) hP hD [0, 1, 2, 3, 4] [5] rfl rfl (by decide) (by decide) hk hFc hP1 hD1
    have hP : va_P G.1 vwCl (owo G h0 (hw1, h.2.1, hn1, h.2.2.2) u ho fo) H1 := hP.sub [1, 2, 3, 4, 5, 0] rfl
    have hD : va_D A (owo G h0 (hw1, h.2.1, hn1, h.2.2.2) u ho fo) := hD.sub [1, 2, 3, 4, 5, 0] (by decide) rfl
    refine lv_if_eq (tgt := 15) hx hb dL_same_8 (by decide) (fun c1 => ?_) (fun c1 => ?_)
    · refine lv_lconst (v := 0) hx hb dL_same_15 (by decide) ?_
      refine wn_l (y := zL a1) (by unfold zL; rw [cIf_t c1]) ?_
      refine va_last (f := fo) hx hb hK hP hD hS 5 1 rfl rfl (vp_in_nI (n := 0) (N := 1) (by decide) (by decide)) dL_same_16 (fun H locs hP hD hS => ?_)
      have hP : va_P G.1 vwCl (owo G h0 (hw1, h.2.1, hn1, h.2.2.2) u ho (vp_updL fo 0 (zL a1))) H := hP
      have hD : va_D A (owo G h0 (hw1, h.2.1, hn1, h.2.2.2) u ho (vp_updL fo 0 (zL a1))) := hD
      refine lv_goto (tgt := 24) hx hb dL_same_17 (by decide) ?_
      refine lv_iconst (v := 0) hx hb dL_same_24 (by decide) ?_
      refine W.widen (k := C) (n := N) (by show 0 + C ≤ C; omega) (by show 0 + N ≤ N; omega) ?_
      exact W.iret hx hb hr (fun t ht hW => ⟨⟨0, _, rfl, ⟨rfl, rfl⟩, hw1, hn1, by rw [ht]; exact hP, gK.moved hW.alike hK, hD⟩, hS.F ht⟩) hS.2.2 dL_same_25 hlocks
    · refine lv_lconst (v := 1) hx hb dL_same_11 (by decide) ?_
      refine lv_goto (tgt := 16) hx hb dL_same_12 (by decide) ?_
      refine wn_l (y := zL a1) (by unfold zL; rw [cIf_f c1]) ?_
      refine va_last (f := fo) hx hb hK hP hD hS 5 1 rfl rfl (vp_in_nI (n := 0) (N := 1) (by decide) (by decide)) dL_same_16 (fun H locs hP hD hS => ?_)
      have hP : va_P G.1 vwCl (owo G h0 (hw1, h.2.1, hn1, h.2.2.2) u ho (vp_updL fo 0 (zL a1))) H := hP
      have hD : va_D A (owo G h0 (hw1, h.2.1, hn1, h.2.2.2) u ho (vp_updL fo 0 (zL a1))) := hD
      refine lv_goto (tgt := 24) hx hb dL_same_17 (by decide) ?_
      refine lv_iconst (v := 0) hx hb dL_same_24 (by decide) ?_
      refine W.widen (k := C) (n := N) (by show 0 + C ≤ C; omega) (by show 0 + N ≤ N; omega) ?_
      exact W.iret hx hb hr (fun t ht hW => ⟨⟨0, _, rfl, ⟨rfl, rfl⟩, hw1, hn1, by rw [ht]; exact hP, gK.moved hW.alike hK, hD⟩, hS.F ht⟩) hS.2.2 dL_same_25 hlocks
abbrev rL_bits (C N : Nat) : Room := { frames := 10, cells := C, slots := N, locals := 178 }
theorem nL_bits : yL_bits.cls ≠ "java/lang/invoke/MethodHandle" ∧ yL_bits.cls ≠ "java/lang/invoke/VarHandle" ∧ (parseMethodDescriptor yL_bits.desc).map (fun d => d.parameters.length) = some 4 := by decide +kernel
set_option maxHeartbeats 4000000 in
set_option maxRecDepth 100000 in
theorem kL_bits (l : Launch) (htr : l.stackTraces = false) (G : gT) (h0 : Nat) (h : oH) (ho : Nat) (fo : Nat → Int64) (sz F : Nat) (σ : oS) (p1 : Int32) (p2 : Int32) (r : Int32 ⊕ Int64) (σr : oS) (C N : Nat) (hk1 : ∀ k, r = .inl k → k = 1) (hg : fX0_bits F σ p1 p2 = some (r, σr, C, N)) : Met l yL_bits wsL_bits (rL_bits C N) (lPreO G h0 h σ ho fo sz [.int p1, .int p2, .ref ho]) (lQO G h0 h (xC r) σr ho (oOut id r fo) (oAo G h0 h σ ho fo sz)) C N (oAo G h0 h σ ho fo sz) := by
  refine lwMet (cc := cL_bits) (maxL := 5) (ret := some .int) (hh := [(0, 9, 12, 13)]) (by decide +kernel) rfl ?_
  intro p e s m args below meth c s₁ B hml hv
  obtain ⟨rfl, hsz, hP, hK, hD0, hZ, hNc⟩ := hv
  have hx := B.exec
  have hb := B.bytes
  have hr := B.returns
  have hlocks := B.notSynchronized
  have hts := atoms_spec (ws := wsL_bits) B.pre
  have hown : s.vm.findClass RL = some m.cls := findClass_of_methodNamed B.named
  have htab := vx_table (x := yL_bits) (hh := [(0, 9, 12, 13)]) B (hts _ List.mem_cons_self)
  subst hsz
  have hD := hD0.self (sz := s.heap.size)
  generalize hAe : va_A (owo G h0 h σ ho fo) s.heap.size = A at hD
  have hAe2 : oAo G h0 h σ ho fo s.heap.size = A := hAe
  rw [hAe2] at hZ ⊢
  have hA : ∀ q : Nat, s.heap.size ≤ q → A q := fun q h => by rw [← hAe]; exact Or.inr h
  have hS : va_S A s.heap s.heap [] := va_S.rf
  have hl := lv_entry ([.ref h0, .int p1, .int p2, .ref ho]) (n := 5) (Nat.le_of_ble_eq_true rfl)
  rw [lg_entry_eq]
  generalize (lg_sl ([.ref h0, .int p1, .int p2, .ref ho]) ++ List.replicate (5 - (lg_sl ([.ref h0, .int p1, .int p2, .ref ho])).length) Slot.unset).toArray = ls at hl ⊢
  have hl : lv_has ls 5 [(0, .ref h0), (1, .int p1), (2, .int p2), (3, .ref ho)] := hl
  refine lv_aload_n hx hb dL_bits_0 rfl (lv_at hl 3 rfl) ?_
  refine lv_iconst (v := 0) hx hb dL_bits_1 (by decide) ?_
  refine lv_aload_n hx hb dL_bits_2 rfl (lv_at hl 0 rfl) ?_
  refine lv_iload_n hx hb dL_bits_3 rfl (lv_at hl 1 rfl) ?_
  refine lv_iload_n hx hb dL_bits_4 rfl (lv_at hl 2 rfl) ?_
  have hPc : va_P G.1 vwCl (ow G h0 h σ) s.heap := hP.sub [0, 1, 2, 3, 4] rfl
  have hDc : va_D A (ow G h0 h σ) := hD.sub [0, 1, 2, 3, 4] (by decide) rfl
  have hFc := va_free (wc := ow G h0 h σ) hD hS hA [0, 1, 2, 3, 4] rfl
  refine vx_calll (vx_runV (As := [.int p1, .int p2]) (rest := [.int 0, .ref ho]) ⟨hx, hb, hml, hown, hts⟩ (kX0_bits l htr G h0 h s.heap.size F σ p1 p2 r σr C N hg) (cwV 2 hts gL_bits_X0_bits rfl rfl rfl nX0_bits ⟨Nat.le_of_ble_eq_true rfl, Nat.le_of_ble_eq_true rfl⟩) ⟨oPreX_blind, va_recv hK hPc (ci := 2) (q0 := 0) rfl rfl, fun U hU hW => ⟨rfl, by rw [hU], by rw [hU]; exact hPc, gK.moved hW.alike hK, hDc.weaken (fun _ _ _ _ => trivial), by rw [hU]; exact (hZ.narrow hFc).warm hW⟩⟩ rfl rfl hl.1 rfl (lv_room (Nat.le_of_ble_eq_true rfl)) dL_bits_5 ⟨by show 0 + C ≤ C; omega, by show 0 + N ≤ N; omega⟩) hS (fun q _ h => hFc q h) hFc (fun q _ h => hFc q h) (fun E ce q9 u t H1 locs1 ht hvm hp hB hz hk hS hcell hv hcl => ?_) (fun a1 u t H1 locs1 ht hvm hw hB hz hk hS => ?_)
  · obtain ⟨⟨k, hk9, hE⟩, hB⟩ := hB
    subst hp
    subst hk9
    obtain ⟨hP1, hK1, hD1⟩ := hB
    rw [ht] at hP1
    obtain ⟨hw1, hw1e⟩ : ∃ z, z = h.1 := ⟨_, rfl⟩
    obtain ⟨hn1, hn1e⟩ : ∃ z, z = h.2.2.1 := ⟨_, rfl⟩
    have hP1 : va_P G.1 vwCl (ow G h0 (hw1, h.2.1, hn1, h.2.2.2) u) H1 := by rw [hw1e, hn1e]; exact hP1
    have hD1 : va_D (oA G h0 h σ s.heap.size) (ow G h0 (hw1, h.2.1, hn1, h.2.2.2) u) := by rw [hw1e, hn1e]; exact hD1
    obtain ⟨hP, hD⟩ := va_join (wr := [(ho, .inl (G.2.2.1, 1, .inr (.inl fo)))]) (w1 := ow G h0 (hw1, h.2.1, hn1, h.2.2.2) u) hP hD [0, 1, 2, 3, 4] [5] rfl rfl (by decide) (by decide) hk hFc hP1 hD1
    have hP : va_P G.1 vwCl (owo G h0 (hw1, h.2.1, hn1, h.2.2.2) u ho fo) H1 := hP.sub [1, 2, 3, 4, 5, 0] rfl
    have hD : va_D A (owo G h0 (hw1, h.2.1, hn1, h.2.2.2) u ho fo) := hD.sub [1, 2, 3, 4, 5, 0] (by decide) rfl
    have hk1 := hk1 k rfl
    have hE : E = "java/lang/IllegalArgumentException" := by rw [hE]; show (if k = 1 then _ else _) = _; rw [if_pos hk1]
    subst hE
    refine vx_catch hown [] ⟨0, 9, 12, 13⟩ [] htab (fun z hz => nomatch hz) rfl (by decide) (hts (.classLink RL 13 "java/lang/IllegalArgumentException") (by decide +kernel)) (xface (w := .castable "java/lang/IllegalArgumentException" "java/lang/IllegalArgumentException") rfl rfl (Vm.Alike.refl s.vm) (hZ.2.2.2 _ (by decide +kernel))) hcell hv hcl ?_
    refine lv_astore (lv' := [(4, .ref q9), (0, .ref h0), (1, .int p1), (2, .int p2), (3, .ref ho)]) hx hb dL_bits_12 hl (by decide) rfl (fun ls hl => ?_)
    refine lv_iconst (v := 1) hx hb dL_bits_14 (by decide) ?_
    refine W.widen (k := C) (n := N) (by show 0 + C ≤ C; omega) (by show 0 + N ≤ N; omega) ?_
    exact W.iret hx hb hr (fun t ht hW => ⟨⟨1, _, rfl, ⟨by show (1 : Int32) = (if k = 1 then 1 else 2); rw [if_pos hk1], rfl⟩, hw1, hn1, by rw [ht]; exact hP, gK.moved hW.alike hK, hD⟩, hS.F ht⟩) hS.2.2 dL_bits_15 hlocks
  · obtain ⟨er, eu⟩ := hw
    subst er; subst eu
    obtain ⟨hP1, hK1, hD1⟩ := hB
    rw [ht] at hP1
    obtain ⟨hw1, hw1e⟩ : ∃ z, z = h.1 := ⟨_, rfl⟩
    obtain ⟨hn1, hn1e⟩ : ∃ z, z = h.2.2.1 := ⟨_, rfl⟩
    have hP1 : va_P G.1 vwCl (ow G h0 (hw1, h.2.1, hn1, h.2.2.2) u) H1 := by rw [hw1e, hn1e]; exact hP1
    have hD1 : va_D (oA G h0 h σ s.heap.size) (ow G h0 (hw1, h.2.1, hn1, h.2.2.2) u) := by rw [hw1e, hn1e]; exact hD1
    obtain ⟨hP, hD⟩ := va_join (wr := [(ho, .inl (G.2.2.1, 1, .inr (.inl fo)))]) (w1 := ow G h0 (hw1, h.2.1, hn1, h.2.2.2) u) hP hD [0, 1, 2, 3, 4] [5] rfl rfl (by decide) (by decide) hk hFc hP1 hD1
    have hP : va_P G.1 vwCl (owo G h0 (hw1, h.2.1, hn1, h.2.2.2) u ho fo) H1 := hP.sub [1, 2, 3, 4, 5, 0] rfl
    have hD : va_D A (owo G h0 (hw1, h.2.1, hn1, h.2.2.2) u ho fo) := hD.sub [1, 2, 3, 4, 5, 0] (by decide) rfl
    refine va_last (f := fo) hx hb hK hP hD hS 5 1 rfl rfl (vp_in_nI (n := 0) (N := 1) (by decide) (by decide)) dL_bits_8 (fun H locs hP hD hS => ?_)
    have hP : va_P G.1 vwCl (owo G h0 (hw1, h.2.1, hn1, h.2.2.2) u ho (vp_updL fo 0 a1)) H := hP
    have hD : va_D A (owo G h0 (hw1, h.2.1, hn1, h.2.2.2) u ho (vp_updL fo 0 a1)) := hD
    refine lv_goto (tgt := 16) hx hb dL_bits_9 (by decide) ?_
    refine lv_iconst (v := 0) hx hb dL_bits_16 (by decide) ?_
    refine W.widen (k := C) (n := N) (by show 0 + C ≤ C; omega) (by show 0 + N ≤ N; omega) ?_
    exact W.iret hx hb hr (fun t ht hW => ⟨⟨0, _, rfl, ⟨rfl, rfl⟩, hw1, hn1, by rw [ht]; exact hP, gK.moved hW.alike hK, hD⟩, hS.F ht⟩) hS.2.2 dL_bits_17 hlocks
abbrev rL_follow (C N : Nat) : Room := { frames := 10, cells := C, slots := N, locals := 179 }
theorem nL_follow : yL_follow.cls ≠ "java/lang/invoke/MethodHandle" ∧ yL_follow.cls ≠ "java/lang/invoke/VarHandle" ∧ (parseMethodDescriptor yL_follow.desc).map (fun d => d.parameters.length) = some 5 := by decide +kernel
set_option maxHeartbeats 4000000 in
set_option maxRecDepth 100000 in
theorem kL_follow (l : Launch) (htr : l.stackTraces = false) (G : gT) (h0 : Nat) (h : oH) (ho : Nat) (fo : Nat → Int64) (sz F : Nat) (σ : oS) (p1 : Int32) (p2 : Int32) (p3 : Int32) (r : Int32 ⊕ Int32) (σr : oS) (C N : Nat) (hk1 : ∀ k, r = .inl k → k = 1) (hg : fX0_follow F σ p1 p2 p3 = some (r, σr, C, N)) : Met l yL_follow wsL_follow (rL_follow C N) (lPreO G h0 h σ ho fo sz [.int p1, .int p2, .int p3, .ref ho]) (lQO G h0 h (xC r) σr ho (oOut zL r fo) (oAo G h0 h σ ho fo sz)) C N (oAo G h0 h σ ho fo sz) := by
  refine lwMet (cc := cL_follow) (maxL := 6) (ret := some .int) (hh := [(0, 19, 22, 13)]) (by decide +kernel) rfl ?_
  intro p e s m args below meth c s₁ B hml hv
  obtain ⟨rfl, hsz, hP, hK, hD0, hZ, hNc⟩ := hv
  have hx := B.exec
  have hb := B.bytes
  have hr := B.returns
  have hlocks := B.notSynchronized
  have hts := atoms_spec (ws := wsL_follow) B.pre
  have hown : s.vm.findClass RL = some m.cls := findClass_of_methodNamed B.named
  have htab := vx_table (x := yL_follow) (hh := [(0, 19, 22, 13)]) B (hts _ List.mem_cons_self)
  subst hsz
  have hD := hD0.self (sz := s.heap.size)
  generalize hAe : va_A (owo G h0 h σ ho fo) s.heap.size = A at hD
  have hAe2 : oAo G h0 h σ ho fo s.heap.size = A := hAe
  rw [hAe2] at hZ ⊢
  have hA : ∀ q : Nat, s.heap.size ≤ q → A q := fun q h => by rw [← hAe]; exact Or.inr h
  have hS : va_S A s.heap s.heap [] := va_S.rf
  have hl := lv_entry ([.ref h0, .int p1, .int p2, .int p3, .ref ho]) (n := 6) (Nat.le_of_ble_eq_true rfl)
  rw [lg_entry_eq]
  generalize (lg_sl ([.ref h0, .int p1, .int p2, .int p3, .ref ho]) ++ List.replicate (6 - (lg_sl ([.ref h0, .int p1, .int p2, .int p3, .ref ho])).length) Slot.unset).toArray = ls at hl ⊢
  have hl : lv_has ls 6 [(0, .ref h0), (1, .int p1), (2, .int p2), (3, .int p3), (4, .ref ho)] := hl
  refine lv_aload hx hb dL_follow_0 (lv_at hl 4 rfl) ?_
  refine lv_iconst (v := 0) hx hb dL_follow_2 (by decide) ?_
  refine lv_aload_n hx hb dL_follow_3 rfl (lv_at hl 0 rfl) ?_
  refine lv_iload_n hx hb dL_follow_4 rfl (lv_at hl 1 rfl) ?_
  refine lv_iload_n hx hb dL_follow_5 rfl (lv_at hl 2 rfl) ?_
  refine lv_iload_n hx hb dL_follow_6 rfl (lv_at hl 3 rfl) ?_
  have hPc : va_P G.1 vwCl (ow G h0 h σ) s.heap := hP.sub [0, 1, 2, 3, 4] rfl
  have hDc : va_D A (ow G h0 h σ) := hD.sub [0, 1, 2, 3, 4] (by decide) rfl
  have hFc := va_free (wc := ow G h0 h σ) hD hS hA [0, 1, 2, 3, 4] rfl
  refine vx_calli (vx_runV (As := [.int p1, .int p2, .int p3]) (rest := [.int 0, .ref ho]) ⟨hx, hb, hml, hown, hts⟩ (kX0_follow l htr G h0 h s.heap.size F σ p1 p2 p3 r σr C N hg) (cwV 3 hts gL_follow_X0_follow rfl rfl rfl nX0_follow ⟨Nat.le_of_ble_eq_true rfl, Nat.le_of_ble_eq_true rfl⟩) ⟨oPreX_blind, va_recv hK hPc (ci := 2) (q0 := 0) rfl rfl, fun U hU hW => ⟨rfl, by rw [hU], by rw [hU]; exact hPc, gK.moved hW.alike hK, hDc.weaken (fun _ _ _ _ => trivial), by rw [hU]; exact (hZ.narrow hFc).warm hW⟩⟩ rfl rfl hl.1 rfl (lv_room (Nat.le_of_ble_eq_true rfl)) dL_follow_7 ⟨by show 0 + C ≤ C; omega, by show 0 + N ≤ N; omega⟩) hS (fun q _ h => hFc q h) hFc (fun q _ h => hFc q h) (fun E ce q9 u t H1 locs1 ht hvm hp hB hz hk hS hcell hv hcl => ?_) (fun a1 u t H1 locs1 ht hvm hw hB hz hk hS => ?_)
  · obtain ⟨⟨k, hk9, hE⟩, hB⟩ := hB
    subst hp
    subst hk9
    obtain ⟨hP1, hK1, hD1⟩ := hB
    rw [ht] at hP1
    obtain ⟨hw1, hw1e⟩ : ∃ z, z = h.1 := ⟨_, rfl⟩
    obtain ⟨hn1, hn1e⟩ : ∃ z, z = h.2.2.1 := ⟨_, rfl⟩
    have hP1 : va_P G.1 vwCl (ow G h0 (hw1, h.2.1, hn1, h.2.2.2) u) H1 := by rw [hw1e, hn1e]; exact hP1
    have hD1 : va_D (oA G h0 h σ s.heap.size) (ow G h0 (hw1, h.2.1, hn1, h.2.2.2) u) := by rw [hw1e, hn1e]; exact hD1
    obtain ⟨hP, hD⟩ := va_join (wr := [(ho, .inl (G.2.2.1, 1, .inr (.inl fo)))]) (w1 := ow G h0 (hw1, h.2.1, hn1, h.2.2.2) u) hP hD [0, 1, 2, 3, 4] [5] rfl rfl (by decide) (by decide) hk hFc hP1 hD1
    have hP : va_P G.1 vwCl (owo G h0 (hw1, h.2.1, hn1, h.2.2.2) u ho fo) H1 := hP.sub [1, 2, 3, 4, 5, 0] rfl
    have hD : va_D A (owo G h0 (hw1, h.2.1, hn1, h.2.2.2) u ho fo) := hD.sub [1, 2, 3, 4, 5, 0] (by decide) rfl
    have hk1 := hk1 k rfl
    have hE : E = "java/lang/IllegalArgumentException" := by rw [hE]; show (if k = 1 then _ else _) = _; rw [if_pos hk1]
    subst hE
    refine vx_catch hown [] ⟨0, 19, 22, 13⟩ [] htab (fun z hz => nomatch hz) rfl (by decide) (hts (.classLink RL 13 "java/lang/IllegalArgumentException") (by decide +kernel)) (xface (w := .castable "java/lang/IllegalArgumentException" "java/lang/IllegalArgumentException") rfl rfl (Vm.Alike.refl s.vm) (hZ.2.2.2 _ (by decide +kernel))) hcell hv hcl ?_
    refine lv_astore (lv' := [(5, .ref q9), (0, .ref h0), (1, .int p1), (2, .int p2), (3, .int p3), (4, .ref ho)]) hx hb dL_follow_22 hl (by decide) rfl (fun ls hl => ?_)
    refine lv_iconst (v := 1) hx hb dL_follow_24 (by decide) ?_
    refine W.widen (k := C) (n := N) (by show 0 + C ≤ C; omega) (by show 0 + N ≤ N; omega) ?_
    exact W.iret hx hb hr (fun t ht hW => ⟨⟨1, _, rfl, ⟨by show (1 : Int32) = (if k = 1 then 1 else 2); rw [if_pos hk1], rfl⟩, hw1, hn1, by rw [ht]; exact hP, gK.moved hW.alike hK, hD⟩, hS.F ht⟩) hS.2.2 dL_follow_25 hlocks
  · obtain ⟨er, eu⟩ := hw
    subst er; subst eu
    obtain ⟨hP1, hK1, hD1⟩ := hB
    rw [ht] at hP1
    obtain ⟨hw1, hw1e⟩ : ∃ z, z = h.1 := ⟨_, rfl⟩
    obtain ⟨hn1, hn1e⟩ : ∃ z, z = h.2.2.1 := ⟨_, rfl⟩
    have hP1 : va_P G.1 vwCl (ow G h0 (hw1, h.2.1, hn1, h.2.2.2) u) H1 := by rw [hw1e, hn1e]; exact hP1
    have hD1 : va_D (oA G h0 h σ s.heap.size) (ow G h0 (hw1, h.2.1, hn1, h.2.2.2) u) := by rw [hw1e, hn1e]; exact hD1
    obtain ⟨hP, hD⟩ := va_join (wr := [(ho, .inl (G.2.2.1, 1, .inr (.inl fo)))]) (w1 := ow G h0 (hw1, h.2.1, hn1, h.2.2.2) u) hP hD [0, 1, 2, 3, 4] [5] rfl rfl (by decide) (by decide) hk hFc hP1 hD1
    have hP : va_P G.1 vwCl (owo G h0 (hw1, h.2.1, hn1, h.2.2.2) u ho fo) H1 := hP.sub [1, 2, 3, 4, 5, 0] rfl
    have hD : va_D A (owo G h0 (hw1, h.2.1, hn1, h.2.2.2) u ho fo) := hD.sub [1, 2, 3, 4, 5, 0] (by decide) rfl
    refine lv_if_eq (tgt := 17) hx hb dL_follow_10 (by decide) (fun c1 => ?_) (fun c1 => ?_)
    · refine lv_lconst (v := 0) hx hb dL_follow_17 (by decide) ?_
      refine wn_l (y := zL a1) (by unfold zL; rw [cIf_t c1]) ?_
      refine va_last (f := fo) hx hb hK hP hD hS 5 1 rfl rfl (vp_in_nI (n := 0) (N := 1) (by decide) (by decide)) dL_follow_18 (fun H locs hP hD hS => ?_)
      have hP : va_P G.1 vwCl (owo G h0 (hw1, h.2.1, hn1, h.2.2.2) u ho (vp_updL fo 0 (zL a1))) H := hP
      have hD : va_D A (owo G h0 (hw1, h.2.1, hn1, h.2.2.2) u ho (vp_updL fo 0 (zL a1))) := hD
      refine lv_goto (tgt := 26) hx hb dL_follow_19 (by decide) ?_
      refine lv_iconst (v := 0) hx hb dL_follow_26 (by decide) ?_
      refine W.widen (k := C) (n := N) (by show 0 + C ≤ C; omega) (by show 0 + N ≤ N; omega) ?_
      exact W.iret hx hb hr (fun t ht hW => ⟨⟨0, _, rfl, ⟨rfl, rfl⟩, hw1, hn1, by rw [ht]; exact hP, gK.moved hW.alike hK, hD⟩, hS.F ht⟩) hS.2.2 dL_follow_27 hlocks
    · refine lv_lconst (v := 1) hx hb dL_follow_13 (by decide) ?_
      refine lv_goto (tgt := 18) hx hb dL_follow_14 (by decide) ?_
      refine wn_l (y := zL a1) (by unfold zL; rw [cIf_f c1]) ?_
      refine va_last (f := fo) hx hb hK hP hD hS 5 1 rfl rfl (vp_in_nI (n := 0) (N := 1) (by decide) (by decide)) dL_follow_18 (fun H locs hP hD hS => ?_)
      have hP : va_P G.1 vwCl (owo G h0 (hw1, h.2.1, hn1, h.2.2.2) u ho (vp_updL fo 0 (zL a1))) H := hP
      have hD : va_D A (owo G h0 (hw1, h.2.1, hn1, h.2.2.2) u ho (vp_updL fo 0 (zL a1))) := hD
      refine lv_goto (tgt := 26) hx hb dL_follow_19 (by decide) ?_
      refine lv_iconst (v := 0) hx hb dL_follow_26 (by decide) ?_
      refine W.widen (k := C) (n := N) (by show 0 + C ≤ C; omega) (by show 0 + N ≤ N; omega) ?_
      exact W.iret hx hb hr (fun t ht hW => ⟨⟨0, _, rfl, ⟨rfl, rfl⟩, hw1, hn1, by rw [ht]; exact hP, gK.moved hW.alike hK, hD⟩, hS.F ht⟩) hS.2.2 dL_follow_27 hlocks
abbrev rL_get (C N : Nat) : Room := { frames := 10, cells := C, slots := N, locals := 178 }
theorem nL_get : yL_get.cls ≠ "java/lang/invoke/MethodHandle" ∧ yL_get.cls ≠ "java/lang/invoke/VarHandle" ∧ (parseMethodDescriptor yL_get.desc).map (fun d => d.parameters.length) = some 4 := by decide +kernel
set_option maxHeartbeats 4000000 in
set_option maxRecDepth 100000 in
theorem kL_get (l : Launch) (htr : l.stackTraces = false) (G : gT) (h0 : Nat) (h : oH) (ho : Nat) (fo : Nat → Int64) (sz F : Nat) (σ : oS) (p1 : Int32) (p2 : Int32) (r : Int32 ⊕ Int32) (σr : oS) (C N : Nat) (hk1 : ∀ k, r = .inl k → k = 1) (hg : fX0_get F σ p1 p2 = some (r, σr, C, N)) : Met l yL_get wsL_get (rL_get C N) (lPreO G h0 h σ ho fo sz [.int p1, .int p2, .ref ho]) (lQO G h0 h (xC r) σr ho (oOut Int32.toInt64 r fo) (oAo G h0 h σ ho fo sz)) C N (oAo G h0 h σ ho fo sz) := by
  refine lwMet (cc := cL_get) (maxL := 5) (ret := some .int) (hh := [(0, 10, 13, 13)]) (by decide +kernel) rfl ?_
  intro p e s m args below meth c s₁ B hml hv
  obtain ⟨rfl, hsz, hP, hK, hD0, hZ, hNc⟩ := hv
  have hx := B.exec
  have hb := B.bytes
  have hr := B.returns
  have hlocks := B.notSynchronized
  have hts := atoms_spec (ws := wsL_get) B.pre
  have hown : s.vm.findClass RL = some m.cls := findClass_of_methodNamed B.named
  have htab := vx_table (x := yL_get) (hh := [(0, 10, 13, 13)]) B (hts _ List.mem_cons_self)
  subst hsz
  have hD := hD0.self (sz := s.heap.size)
  generalize hAe : va_A (owo G h0 h σ ho fo) s.heap.size = A at hD
  have hAe2 : oAo G h0 h σ ho fo s.heap.size = A := hAe
  rw [hAe2] at hZ ⊢
  have hA : ∀ q : Nat, s.heap.size ≤ q → A q := fun q h => by rw [← hAe]; exact Or.inr h
  have hS : va_S A s.heap s.heap [] := va_S.rf
  have hl := lv_entry ([.ref h0, .int p1, .int p2, .ref ho]) (n := 5) (Nat.le_of_ble_eq_true rfl)
  rw [lg_entry_eq]
  generalize (lg_sl ([.ref h0, .int p1, .int p2, .ref ho]) ++ List.replicate (5 - (lg_sl ([.ref h0, .int p1, .int p2, .ref ho])).length) Slot.unset).toArray = ls at hl ⊢
  have hl : lv_has ls 5 [(0, .ref h0), (1, .int p1), (2, .int p2), (3, .ref ho)] := hl
  refine lv_aload_n hx hb dL_get_0 rfl (lv_at hl 3 rfl) ?_
  refine lv_iconst (v := 0) hx hb dL_get_1 (by decide) ?_
  refine lv_aload_n hx hb dL_get_2 rfl (lv_at hl 0 rfl) ?_
  refine lv_iload_n hx hb dL_get_3 rfl (lv_at hl 1 rfl) ?_
  refine lv_iload_n hx hb dL_get_4 rfl (lv_at hl 2 rfl) ?_
  have hPc : va_P G.1 vwCl (ow G h0 h σ) s.heap := hP.sub [0, 1, 2, 3, 4] rfl
  have hDc : va_D A (ow G h0 h σ) := hD.sub [0, 1, 2, 3, 4] (by decide) rfl
  have hFc := va_free (wc := ow G h0 h σ) hD hS hA [0, 1, 2, 3, 4] rfl
  refine vx_calli (vx_runV (As := [.int p1, .int p2]) (rest := [.int 0, .ref ho]) ⟨hx, hb, hml, hown, hts⟩ (kX0_get l htr G h0 h s.heap.size F σ p1 p2 r σr C N hg) (cwV 2 hts gL_get_X0_get rfl rfl rfl nX0_get ⟨Nat.le_of_ble_eq_true rfl, Nat.le_of_ble_eq_true rfl⟩) ⟨oPreX_blind, va_recv hK hPc (ci := 2) (q0 := 0) rfl rfl, fun U hU hW => ⟨rfl, by rw [hU], by rw [hU]; exact hPc, gK.moved hW.alike hK, hDc.weaken (fun _ _ _ _ => trivial), by rw [hU]; exact (hZ.narrow hFc).warm hW⟩⟩ rfl rfl hl.1 rfl (lv_room (Nat.le_of_ble_eq_true rfl)) dL_get_5 ⟨by show 0 + C ≤ C; omega, by show 0 + N ≤ N; omega⟩) hS (fun q _ h => hFc q h) hFc (fun q _ h => hFc q h) (fun E ce q9 u t H1 locs1 ht hvm hp hB hz hk hS hcell hv hcl => ?_) (fun a1 u t H1 locs1 ht hvm hw hB hz hk hS => ?_)
  · obtain ⟨⟨k, hk9, hE⟩, hB⟩ := hB
    subst hp
    subst hk9
    obtain ⟨hP1, hK1, hD1⟩ := hB
    rw [ht] at hP1
    obtain ⟨hw1, hw1e⟩ : ∃ z, z = h.1 := ⟨_, rfl⟩
    obtain ⟨hn1, hn1e⟩ : ∃ z, z = h.2.2.1 := ⟨_, rfl⟩
    have hP1 : va_P G.1 vwCl (ow G h0 (hw1, h.2.1, hn1, h.2.2.2) u) H1 := by rw [hw1e, hn1e]; exact hP1
    have hD1 : va_D (oA G h0 h σ s.heap.size) (ow G h0 (hw1, h.2.1, hn1, h.2.2.2) u) := by rw [hw1e, hn1e]; exact hD1
    obtain ⟨hP, hD⟩ := va_join (wr := [(ho, .inl (G.2.2.1, 1, .inr (.inl fo)))]) (w1 := ow G h0 (hw1, h.2.1, hn1, h.2.2.2) u) hP hD [0, 1, 2, 3, 4] [5] rfl rfl (by decide) (by decide) hk hFc hP1 hD1
    have hP : va_P G.1 vwCl (owo G h0 (hw1, h.2.1, hn1, h.2.2.2) u ho fo) H1 := hP.sub [1, 2, 3, 4, 5, 0] rfl
    have hD : va_D A (owo G h0 (hw1, h.2.1, hn1, h.2.2.2) u ho fo) := hD.sub [1, 2, 3, 4, 5, 0] (by decide) rfl
    have hk1 := hk1 k rfl
    have hE : E = "java/lang/IllegalArgumentException" := by rw [hE]; show (if k = 1 then _ else _) = _; rw [if_pos hk1]
    subst hE
    refine vx_catch hown [] ⟨0, 10, 13, 13⟩ [] htab (fun z hz => nomatch hz) rfl (by decide) (hts (.classLink RL 13 "java/lang/IllegalArgumentException") (by decide +kernel)) (xface (w := .castable "java/lang/IllegalArgumentException" "java/lang/IllegalArgumentException") rfl rfl (Vm.Alike.refl s.vm) (hZ.2.2.2 _ (by decide +kernel))) hcell hv hcl ?_
    refine lv_astore (lv' := [(4, .ref q9), (0, .ref h0), (1, .int p1), (2, .int p2), (3, .ref ho)]) hx hb dL_get_13 hl (by decide) rfl (fun ls hl => ?_)
    refine lv_iconst (v := 1) hx hb dL_get_15 (by decide) ?_
    refine W.widen (k := C) (n := N) (by show 0 + C ≤ C; omega) (by show 0 + N ≤ N; omega) ?_
    exact W.iret hx hb hr (fun t ht hW => ⟨⟨1, _, rfl, ⟨by show (1 : Int32) = (if k = 1 then 1 else 2); rw [if_pos hk1], rfl⟩, hw1, hn1, by rw [ht]; exact hP, gK.moved hW.alike hK, hD⟩, hS.F ht⟩) hS.2.2 dL_get_16 hlocks
  · obtain ⟨er, eu⟩ := hw
    subst er; subst eu
    obtain ⟨hP1, hK1, hD1⟩ := hB
    rw [ht] at hP1
    obtain ⟨hw1, hw1e⟩ : ∃ z, z = h.1 := ⟨_, rfl⟩
    obtain ⟨hn1, hn1e⟩ : ∃ z, z = h.2.2.1 := ⟨_, rfl⟩
    have hP1 : va_P G.1 vwCl (ow G h0 (hw1, h.2.1, hn1, h.2.2.2) u) H1 := by rw [hw1e, hn1e]; exact hP1
    have hD1 : va_D (oA G h0 h σ s.heap.size) (ow G h0 (hw1, h.2.1, hn1, h.2.2.2) u) := by rw [hw1e, hn1e]; exact hD1
    obtain ⟨hP, hD⟩ := va_join (wr := [(ho, .inl (G.2.2.1, 1, .inr (.inl fo)))]) (w1 := ow G h0 (hw1, h.2.1, hn1, h.2.2.2) u) hP hD [0, 1, 2, 3, 4] [5] rfl rfl (by decide) (by decide) hk hFc hP1 hD1
    have hP : va_P G.1 vwCl (owo G h0 (hw1, h.2.1, hn1, h.2.2.2) u ho fo) H1 := hP.sub [1, 2, 3, 4, 5, 0] rfl
    have hD : va_D A (owo G h0 (hw1, h.2.1, hn1, h.2.2.2) u ho fo) := hD.sub [1, 2, 3, 4, 5, 0] (by decide) rfl
    refine lv_i2l (v := a1.toInt64) hx hb dL_get_8 rfl ?_
    refine va_last (f := fo) hx hb hK hP hD hS 5 1 rfl rfl (vp_in_nI (n := 0) (N := 1) (by decide) (by decide)) dL_get_9 (fun H locs hP hD hS => ?_)
    have hP : va_P G.1 vwCl (owo G h0 (hw1, h.2.1, hn1, h.2.2.2) u ho (vp_updL fo 0 a1.toInt64)) H := hP
    have hD : va_D A (owo G h0 (hw1, h.2.1, hn1, h.2.2.2) u ho (vp_updL fo 0 a1.toInt64)) := hD
    refine lv_goto (tgt := 17) hx hb dL_get_10 (by decide) ?_
    refine lv_iconst (v := 0) hx hb dL_get_17 (by decide) ?_
    refine W.widen (k := C) (n := N) (by show 0 + C ≤ C; omega) (by show 0 + N ≤ N; omega) ?_
    exact W.iret hx hb hr (fun t ht hW => ⟨⟨0, _, rfl, ⟨rfl, rfl⟩, hw1, hn1, by rw [ht]; exact hP, gK.moved hW.alike hK, hD⟩, hS.F ht⟩) hS.2.2 dL_get_18 hlocks
abbrev rL_length (C N : Nat) : Room := { frames := 9, cells := C, slots := N, locals := 153 }
theorem nL_length : yL_length.cls ≠ "java/lang/invoke/MethodHandle" ∧ yL_length.cls ≠ "java/lang/invoke/VarHandle" ∧ (parseMethodDescriptor yL_length.desc).map (fun d => d.parameters.length) = some 3 := by decide +kernel
set_option maxHeartbeats 4000000 in
set_option maxRecDepth 100000 in
theorem kL_length (l : Launch) (htr : l.stackTraces = false) (G : gT) (h0 : Nat) (h : oH) (ho : Nat) (fo : Nat → Int64) (sz F : Nat) (σ : oS) (p1 : Int32) (r : Int32 ⊕ Int32) (σr : oS) (C N : Nat) (hk1 : ∀ k, r = .inl k → k = 1) (hg : fX0_length F σ p1 = some (r, σr, C, N)) : Met l yL_length wsL_length (rL_length C N) (lPreO G h0 h σ ho fo sz [.int p1, .ref ho]) (lQO G h0 h (xC r) σr ho (oOut Int32.toInt64 r fo) (oAo G h0 h σ ho fo sz)) C N (oAo G h0 h σ ho fo sz) := by
  refine lwMet (cc := cL_length) (maxL := 4) (ret := some .int) (hh := [(0, 9, 12, 13)]) (by decide +kernel) rfl ?_
  intro p e s m args below meth c s₁ B hml hv
  obtain ⟨rfl, hsz, hP, hK, hD0, hZ, hNc⟩ := hv
  have hx := B.exec
  have hb := B.bytes
  have hr := B.returns
  have hlocks := B.notSynchronized
  have hts := atoms_spec (ws := wsL_length) B.pre
  have hown : s.vm.findClass RL = some m.cls := findClass_of_methodNamed B.named
  have htab := vx_table (x := yL_length) (hh := [(0, 9, 12, 13)]) B (hts _ List.mem_cons_self)
  subst hsz
  have hD := hD0.self (sz := s.heap.size)
  generalize hAe : va_A (owo G h0 h σ ho fo) s.heap.size = A at hD
  have hAe2 : oAo G h0 h σ ho fo s.heap.size = A := hAe
  rw [hAe2] at hZ ⊢
  have hA : ∀ q : Nat, s.heap.size ≤ q → A q := fun q h => by rw [← hAe]; exact Or.inr h
  have hS : va_S A s.heap s.heap [] := va_S.rf
  have hl := lv_entry ([.ref h0, .int p1, .ref ho]) (n := 4) (Nat.le_of_ble_eq_true rfl)
  rw [lg_entry_eq]
  generalize (lg_sl ([.ref h0, .int p1, .ref ho]) ++ List.replicate (4 - (lg_sl ([.ref h0, .int p1, .ref ho])).length) Slot.unset).toArray = ls at hl ⊢
  have hl : lv_has ls 4 [(0, .ref h0), (1, .int p1), (2, .ref ho)] := hl
  refine lv_aload_n hx hb dL_length_0 rfl (lv_at hl 2 rfl) ?_
  refine lv_iconst (v := 0) hx hb dL_length_1 (by decide) ?_
  refine lv_aload_n hx hb dL_length_2 rfl (lv_at hl 0 rfl) ?_
  refine lv_iload_n hx hb dL_length_3 rfl (lv_at hl 1 rfl) ?_
  have hPc : va_P G.1 vwCl (ow G h0 h σ) s.heap := hP.sub [0, 1, 2, 3, 4] rfl
  have hDc : va_D A (ow G h0 h σ) := hD.sub [0, 1, 2, 3, 4] (by decide) rfl
  have hFc := va_free (wc := ow G h0 h σ) hD hS hA [0, 1, 2, 3, 4] rfl
  refine vx_calli (vx_runV (As := [.int p1]) (rest := [.int 0, .ref ho]) ⟨hx, hb, hml, hown, hts⟩ (kX0_length l htr G h0 h s.heap.size F σ p1 r σr C N hg) (cwV 1 hts gL_length_X0_length rfl rfl rfl nX0_length ⟨Nat.le_of_ble_eq_true rfl, Nat.le_of_ble_eq_true rfl⟩) ⟨oPreX_blind, va_recv hK hPc (ci := 2) (q0 := 0) rfl rfl, fun U hU hW => ⟨rfl, by rw [hU], by rw [hU]; exact hPc, gK.moved hW.alike hK, hDc.weaken (fun _ _ _ _ => trivial), by rw [hU]; exact (hZ.narrow hFc).warm hW⟩⟩ rfl rfl hl.1 rfl (lv_room (Nat.le_of_ble_eq_true rfl)) dL_length_4 ⟨by show 0 + C ≤ C; omega, by show 0 + N ≤ N; omega⟩) hS (fun q _ h => hFc q h) hFc (fun q _ h => hFc q h) (fun E ce q9 u t H1 locs1 ht hvm hp hB hz hk hS hcell hv hcl => ?_) (fun a1 u t H1 locs1 ht hvm hw hB hz hk hS => ?_)
  · obtain ⟨⟨k, hk9, hE⟩, hB⟩ := hB
    subst hp
    subst hk9
    obtain ⟨hP1, hK1, hD1⟩ := hB
    rw [ht] at hP1
    obtain ⟨hw1, hw1e⟩ : ∃ z, z = h.1 := ⟨_, rfl⟩
    obtain ⟨hn1, hn1e⟩ : ∃ z, z = h.2.2.1 := ⟨_, rfl⟩
    have hP1 : va_P G.1 vwCl (ow G h0 (hw1, h.2.1, hn1, h.2.2.2) u) H1 := by rw [hw1e, hn1e]; exact hP1
    have hD1 : va_D (oA G h0 h σ s.heap.size) (ow G h0 (hw1, h.2.1, hn1, h.2.2.2) u) := by rw [hw1e, hn1e]; exact hD1
    obtain ⟨hP, hD⟩ := va_join (wr := [(ho, .inl (G.2.2.1, 1, .inr (.inl fo)))]) (w1 := ow G h0 (hw1, h.2.1, hn1, h.2.2.2) u) hP hD [0, 1, 2, 3, 4] [5] rfl rfl (by decide) (by decide) hk hFc hP1 hD1
    have hP : va_P G.1 vwCl (owo G h0 (hw1, h.2.1, hn1, h.2.2.2) u ho fo) H1 := hP.sub [1, 2, 3, 4, 5, 0] rfl
    have hD : va_D A (owo G h0 (hw1, h.2.1, hn1, h.2.2.2) u ho fo) := hD.sub [1, 2, 3, 4, 5, 0] (by decide) rfl
    have hk1 := hk1 k rfl
    have hE : E = "java/lang/IllegalArgumentException" := by rw [hE]; show (if k = 1 then _ else _) = _; rw [if_pos hk1]
    subst hE
    refine vx_catch hown [] ⟨0, 9, 12, 13⟩ [] htab (fun z hz => nomatch hz) rfl (by decide) (hts (.classLink RL 13 "java/lang/IllegalArgumentException") (by decide +kernel)) (xface (w := .castable "java/lang/IllegalArgumentException" "java/lang/IllegalArgumentException") rfl rfl (Vm.Alike.refl s.vm) (hZ.2.2.2 _ (by decide +kernel))) hcell hv hcl ?_
    refine lv_astore_n (lv' := [(3, .ref q9), (0, .ref h0), (1, .int p1), (2, .ref ho)]) hx hb dL_length_12 rfl hl (by decide) rfl (fun ls hl => ?_)
    refine lv_iconst (v := 1) hx hb dL_length_13 (by decide) ?_
    refine W.widen (k := C) (n := N) (by show 0 + C ≤ C; omega) (by show 0 + N ≤ N; omega) ?_
    exact W.iret hx hb hr (fun t ht hW => ⟨⟨1, _, rfl, ⟨by show (1 : Int32) = (if k = 1 then 1 else 2); rw [if_pos hk1], rfl⟩, hw1, hn1, by rw [ht]; exact hP, gK.moved hW.alike hK, hD⟩, hS.F ht⟩) hS.2.2 dL_length_14 hlocks
  · obtain ⟨er, eu⟩ := hw
    subst er; subst eu
    obtain ⟨hP1, hK1, hD1⟩ := hB
    rw [ht] at hP1
    obtain ⟨hw1, hw1e⟩ : ∃ z, z = h.1 := ⟨_, rfl⟩
    obtain ⟨hn1, hn1e⟩ : ∃ z, z = h.2.2.1 := ⟨_, rfl⟩
    have hP1 : va_P G.1 vwCl (ow G h0 (hw1, h.2.1, hn1, h.2.2.2) u) H1 := by rw [hw1e, hn1e]; exact hP1
    have hD1 : va_D (oA G h0 h σ s.heap.size) (ow G h0 (hw1, h.2.1, hn1, h.2.2.2) u) := by rw [hw1e, hn1e]; exact hD1
    obtain ⟨hP, hD⟩ := va_join (wr := [(ho, .inl (G.2.2.1, 1, .inr (.inl fo)))]) (w1 := ow G h0 (hw1, h.2.1, hn1, h.2.2.2) u) hP hD [0, 1, 2, 3, 4] [5] rfl rfl (by decide) (by decide) hk hFc hP1 hD1
    have hP : va_P G.1 vwCl (owo G h0 (hw1, h.2.1, hn1, h.2.2.2) u ho fo) H1 := hP.sub [1, 2, 3, 4, 5, 0] rfl
    have hD : va_D A (owo G h0 (hw1, h.2.1, hn1, h.2.2.2) u ho fo) := hD.sub [1, 2, 3, 4, 5, 0] (by decide) rfl
    refine lv_i2l (v := a1.toInt64) hx hb dL_length_7 rfl ?_
    refine va_last (f := fo) hx hb hK hP hD hS 5 1 rfl rfl (vp_in_nI (n := 0) (N := 1) (by decide) (by decide)) dL_length_8 (fun H locs hP hD hS => ?_)
    have hP : va_P G.1 vwCl (owo G h0 (hw1, h.2.1, hn1, h.2.2.2) u ho (vp_updL fo 0 a1.toInt64)) H := hP
    have hD : va_D A (owo G h0 (hw1, h.2.1, hn1, h.2.2.2) u ho (vp_updL fo 0 a1.toInt64)) := hD
    refine lv_goto (tgt := 15) hx hb dL_length_9 (by decide) ?_
    refine lv_iconst (v := 0) hx hb dL_length_15 (by decide) ?_
    refine W.widen (k := C) (n := N) (by show 0 + C ≤ C; omega) (by show 0 + N ≤ N; omega) ?_
    exact W.iret hx hb hr (fun t ht hW => ⟨⟨0, _, rfl, ⟨rfl, rfl⟩, hw1, hn1, by rw [ht]; exact hP, gK.moved hW.alike hK, hD⟩, hS.F ht⟩) hS.2.2 dL_length_16 hlocks
abbrev rL_unit (C N : Nat) : Room := { frames := 10, cells := C, slots := N, locals := 185 }
theorem nL_unit : yL_unit.cls ≠ "java/lang/invoke/MethodHandle" ∧ yL_unit.cls ≠ "java/lang/invoke/VarHandle" ∧ (parseMethodDescriptor yL_unit.desc).map (fun d => d.parameters.length) = some 4 := by decide +kernel
set_option maxHeartbeats 4000000 in
set_option maxRecDepth 100000 in
theorem kL_unit (l : Launch) (htr : l.stackTraces = false) (G : gT) (h0 : Nat) (h : oH) (ho : Nat) (fo : Nat → Int64) (sz F : Nat) (σ : oS) (p1 : Int32) (p2 : Int32) (r : Int32 ⊕ Int32) (σr : oS) (C N : Nat) (hg : fX0_unit F σ p1 p2 = some (r, σr, C, N)) : Met l yL_unit wsL_unit (rL_unit C N) (lPreO G h0 h σ ho fo sz [.int p1, .int p2, .ref ho]) (lQO G h0 h (xC r) σr ho (oOut Int32.toInt64 r fo) (oAo G h0 h σ ho fo sz)) C N (oAo G h0 h σ ho fo sz) := by
  refine lwMet (cc := cL_unit) (maxL := 5) (ret := some .int) (hh := [(0, 10, 13, 13), (0, 10, 17, 15)]) (by decide +kernel) rfl ?_
  intro p e s m args below meth c s₁ B hml hv
  obtain ⟨rfl, hsz, hP, hK, hD0, hZ, hNc⟩ := hv
  have hx := B.exec
  have hb := B.bytes
  have hr := B.returns
  have hlocks := B.notSynchronized
  have hts := atoms_spec (ws := wsL_unit) B.pre
  have hown : s.vm.findClass RL = some m.cls := findClass_of_methodNamed B.named
  have htab := vx_table (x := yL_unit) (hh := [(0, 10, 13, 13), (0, 10, 17, 15)]) B (hts _ List.mem_cons_self)
  subst hsz
  have hD := hD0.self (sz := s.heap.size)
  generalize hAe : va_A (owo G h0 h σ ho fo) s.heap.size = A at hD
  have hAe2 : oAo G h0 h σ ho fo s.heap.size = A := hAe
  rw [hAe2] at hZ ⊢
  have hA : ∀ q : Nat, s.heap.size ≤ q → A q := fun q h => by rw [← hAe]; exact Or.inr h
  have hS : va_S A s.heap s.heap [] := va_S.rf
  have hl := lv_entry ([.ref h0, .int p1, .int p2, .ref ho]) (n := 5) (Nat.le_of_ble_eq_true rfl)
  rw [lg_entry_eq]
  generalize (lg_sl ([.ref h0, .int p1, .int p2, .ref ho]) ++ List.replicate (5 - (lg_sl ([.ref h0, .int p1, .int p2, .ref ho])).length) Slot.unset).toArray = ls at hl ⊢
  have hl : lv_has ls 5 [(0, .ref h0), (1, .int p1), (2, .int p2), (3, .ref ho)] := hl
  refine lv_aload_n hx hb dL_unit_0 rfl (lv_at hl 3 rfl) ?_
  refine lv_iconst (v := 0) hx hb dL_unit_1 (by decide) ?_
  refine lv_aload_n hx hb dL_unit_2 rfl (lv_at hl 0 rfl) ?_
  refine lv_iload_n hx hb dL_unit_3 rfl (lv_at hl 1 rfl) ?_
  refine lv_iload_n hx hb dL_unit_4 rfl (lv_at hl 2 rfl) ?_
  have hPc : va_P G.1 vwCl (ow G h0 h σ) s.heap := hP.sub [0, 1, 2, 3, 4] rfl
  have hDc : va_D A (ow G h0 h σ) := hD.sub [0, 1, 2, 3, 4] (by decide) rfl
  have hFc := va_free (wc := ow G h0 h σ) hD hS hA [0, 1, 2, 3, 4] rfl
  refine vx_calli (vx_runV (As := [.int p1, .int p2]) (rest := [.int 0, .ref ho]) ⟨hx, hb, hml, hown, hts⟩ (kX0_unit l htr G h0 h s.heap.size F σ p1 p2 r σr C N hg) (cwV 2 hts gL_unit_X0_unit rfl rfl rfl nX0_unit ⟨Nat.le_of_ble_eq_true rfl, Nat.le_of_ble_eq_true rfl⟩) ⟨oPreX_blind, va_recv hK hPc (ci := 2) (q0 := 0) rfl rfl, fun U hU hW => ⟨rfl, by rw [hU], by rw [hU]; exact hPc, gK.moved hW.alike hK, hDc.weaken (fun _ _ _ _ => trivial), by rw [hU]; exact (hZ.narrow hFc).warm hW⟩⟩ rfl rfl hl.1 rfl (lv_room (Nat.le_of_ble_eq_true rfl)) dL_unit_5 ⟨by show 0 + C ≤ C; omega, by show 0 + N ≤ N; omega⟩) hS (fun q _ h => hFc q h) hFc (fun q _ h => hFc q h) (fun E ce q9 u t H1 locs1 ht hvm hp hB hz hk hS hcell hv hcl => ?_) (fun a1 u t H1 locs1 ht hvm hw hB hz hk hS => ?_)
  · obtain ⟨⟨k, hk9, hE⟩, hB⟩ := hB
    subst hp
    subst hk9
    obtain ⟨hw1, hn1, hP1, hK1, hD1⟩ := hB
    rw [ht] at hP1
    obtain ⟨hP, hD⟩ := va_join (wr := [(ho, .inl (G.2.2.1, 1, .inr (.inl fo)))]) (w1 := ow G h0 (hw1, h.2.1, hn1, h.2.2.2) u) hP hD [0, 1, 2, 3, 4] [5] rfl rfl (by decide) (by decide) hk hFc hP1 hD1
    have hP : va_P G.1 vwCl (owo G h0 (hw1, h.2.1, hn1, h.2.2.2) u ho fo) H1 := hP.sub [1, 2, 3, 4, 5, 0] rfl
    have hD : va_D A (owo G h0 (hw1, h.2.1, hn1, h.2.2.2) u ho fo) := hD.sub [1, 2, 3, 4, 5, 0] (by decide) rfl
    by_cases hk1 : k = 1
    · have hE : E = "java/lang/IllegalArgumentException" := by rw [hE]; show (if k = 1 then _ else _) = _; rw [if_pos hk1]
      subst hE
      refine vx_catch hown [] ⟨0, 10, 13, 13⟩ [⟨0, 10, 17, 15⟩] htab (fun z hz => nomatch hz) rfl (by decide) (hts (.classLink RL 13 "java/lang/IllegalArgumentException") (by decide +kernel)) (xface (w := .castable "java/lang/IllegalArgumentException" "java/lang/IllegalArgumentException") rfl rfl (Vm.Alike.refl s.vm) (hZ.2.2.2 _ (by decide +kernel))) hcell hv hcl ?_
      refine lv_astore (lv' := [(4, .ref q9), (0, .ref h0), (1, .int p1), (2, .int p2), (3, .ref ho)]) hx hb dL_unit_13 hl (by decide) rfl (fun ls hl => ?_)
      refine lv_iconst (v := 1) hx hb dL_unit_15 (by decide) ?_
      refine W.widen (k := C) (n := N) (by show 0 + C ≤ C; omega) (by show 0 + N ≤ N; omega) ?_
      exact W.iret hx hb hr (fun t ht hW => ⟨⟨1, _, rfl, ⟨by show (1 : Int32) = (if k = 1 then 1 else 2); rw [if_pos hk1], rfl⟩, hw1, hn1, by rw [ht]; exact hP, gK.moved hW.alike hK, hD⟩, hS.F ht⟩) hS.2.2 dL_unit_16 hlocks
    · have hE : E = "java/lang/IllegalStateException" := by rw [hE]; show (if k = 1 then _ else _) = _; rw [if_neg hk1]
      subst hE
      refine vx_catch hown [⟨0, 10, 13, 13⟩] ⟨0, 10, 17, 15⟩ [] htab (fun z hz => by rw [List.mem_singleton.mp hz]; exact Or.inr ⟨by decide, _, hts (.classLink RL 13 "java/lang/IllegalArgumentException") (by decide +kernel), hNc⟩) rfl (by decide) (hts (.classLink RL 15 "java/lang/IllegalStateException") (by decide +kernel)) (xface (w := .castable "java/lang/IllegalStateException" "java/lang/IllegalStateException") rfl rfl (Vm.Alike.refl s.vm) (hZ.2.2.2 _ (by decide +kernel))) hcell hv hcl ?_
      refine lv_astore (lv' := [(4, .ref q9), (0, .ref h0), (1, .int p1), (2, .int p2), (3, .ref ho)]) hx hb dL_unit_17 hl (by decide) rfl (fun ls hl => ?_)
      refine lv_iconst (v := 2) hx hb dL_unit_19 (by decide) ?_
      refine W.widen (k := C) (n := N) (by show 0 + C ≤ C; omega) (by show 0 + N ≤ N; omega) ?_
      exact W.iret hx hb hr (fun t ht hW => ⟨⟨2, _, rfl, ⟨by show (2 : Int32) = (if k = 1 then 1 else 2); rw [if_neg hk1], rfl⟩, hw1, hn1, by rw [ht]; exact hP, gK.moved hW.alike hK, hD⟩, hS.F ht⟩) hS.2.2 dL_unit_20 hlocks
  · obtain ⟨er, eu⟩ := hw
    subst er; subst eu
    obtain ⟨hw1, hn1, hP1, hK1, hD1⟩ := hB
    rw [ht] at hP1
    obtain ⟨hP, hD⟩ := va_join (wr := [(ho, .inl (G.2.2.1, 1, .inr (.inl fo)))]) (w1 := ow G h0 (hw1, h.2.1, hn1, h.2.2.2) u) hP hD [0, 1, 2, 3, 4] [5] rfl rfl (by decide) (by decide) hk hFc hP1 hD1
    have hP : va_P G.1 vwCl (owo G h0 (hw1, h.2.1, hn1, h.2.2.2) u ho fo) H1 := hP.sub [1, 2, 3, 4, 5, 0] rfl
    have hD : va_D A (owo G h0 (hw1, h.2.1, hn1, h.2.2.2) u ho fo) := hD.sub [1, 2, 3, 4, 5, 0] (by decide) rfl
    refine lv_i2l (v := a1.toInt64) hx hb dL_unit_8 rfl ?_
    refine va_last (f := fo) hx hb hK hP hD hS 5 1 rfl rfl (vp_in_nI (n := 0) (N := 1) (by decide) (by decide)) dL_unit_9 (fun H locs hP hD hS => ?_)
    have hP : va_P G.1 vwCl (owo G h0 (hw1, h.2.1, hn1, h.2.2.2) u ho (vp_updL fo 0 a1.toInt64)) H := hP
    have hD : va_D A (owo G h0 (hw1, h.2.1, hn1, h.2.2.2) u ho (vp_updL fo 0 a1.toInt64)) := hD
    refine lv_goto (tgt := 21) hx hb dL_unit_10 (by decide) ?_
    refine lv_iconst (v := 0) hx hb dL_unit_21 (by decide) ?_
    refine W.widen (k := C) (n := N) (by show 0 + C ≤ C; omega) (by show 0 + N ≤ N; omega) ?_
    exact W.iret hx hb hr (fun t ht hW => ⟨⟨0, _, rfl, ⟨rfl, rfl⟩, hw1, hn1, by rw [ht]; exact hP, gK.moved hW.alike hK, hD⟩, hS.F ht⟩) hS.2.2 dL_unit_22 hlocks
abbrev rL_compare (C N : Nat) : Room := { frames := 10, cells := C, slots := N, locals := 190 }
theorem nL_compare : yL_compare.cls ≠ "java/lang/invoke/MethodHandle" ∧ yL_compare.cls ≠ "java/lang/invoke/VarHandle" ∧ (parseMethodDescriptor yL_compare.desc).map (fun d => d.parameters.length) = some 4 := by decide +kernel
set_option maxHeartbeats 4000000 in
set_option maxRecDepth 100000 in
theorem kL_compare (l : Launch) (htr : l.stackTraces = false) (G : gT) (h0 : Nat) (h : oH) (ho : Nat) (fo : Nat → Int64) (sz F : Nat) (σ : oS) (p1 : Int32) (p2 : Int32) (r : Int32 ⊕ Int32) (σr : oS) (C N : Nat) (hg : fX0_compare F σ p1 p2 = some (r, σr, C, N)) : Met l yL_compare wsL_compare (rL_compare C N) (lPreO G h0 h σ ho fo sz [.int p1, .int p2, .ref ho]) (lQO G h0 h (xC r) σr ho (oOut Int32.toInt64 r fo) (oAo G h0 h σ ho fo sz)) C N (oAo G h0 h σ ho fo sz) := by
  refine lwMet (cc := cL_compare) (maxL := 5) (ret := some .int) (hh := [(0, 10, 13, 13), (0, 10, 17, 15)]) (by decide +kernel) rfl ?_
  intro p e s m args below meth c s₁ B hml hv
  obtain ⟨rfl, hsz, hP, hK, hD0, hZ, hNc⟩ := hv
  have hx := B.exec
  have hb := B.bytes
  have hr := B.returns
  have hlocks := B.notSynchronized
  have hts := atoms_spec (ws := wsL_compare) B.pre
  have hown : s.vm.findClass RL = some m.cls := findClass_of_methodNamed B.named
  have htab := vx_table (x := yL_compare) (hh := [(0, 10, 13, 13), (0, 10, 17, 15)]) B (hts _ List.mem_cons_self)
  subst hsz
  have hD := hD0.self (sz := s.heap.size)
  generalize hAe : va_A (owo G h0 h σ ho fo) s.heap.size = A at hD
  have hAe2 : oAo G h0 h σ ho fo s.heap.size = A := hAe
  rw [hAe2] at hZ ⊢
  have hA : ∀ q : Nat, s.heap.size ≤ q → A q := fun q h => by rw [← hAe]; exact Or.inr h
  have hS : va_S A s.heap s.heap [] := va_S.rf
  have hl := lv_entry ([.ref h0, .int p1, .int p2, .ref ho]) (n := 5) (Nat.le_of_ble_eq_true rfl)
  rw [lg_entry_eq]
  generalize (lg_sl ([.ref h0, .int p1, .int p2, .ref ho]) ++ List.replicate (5 - (lg_sl ([.ref h0, .int p1, .int p2, .ref ho])).length) Slot.unset).toArray = ls at hl ⊢
  have hl : lv_has ls 5 [(0, .ref h0), (1, .int p1), (2, .int p2), (3, .ref ho)] := hl
  refine lv_aload_n hx hb dL_compare_0 rfl (lv_at hl 3 rfl) ?_
  refine lv_iconst (v := 0) hx hb dL_compare_1 (by decide) ?_
  refine lv_aload_n hx hb dL_compare_2 rfl (lv_at hl 0 rfl) ?_
  refine lv_iload_n hx hb dL_compare_3 rfl (lv_at hl 1 rfl) ?_
  refine lv_iload_n hx hb dL_compare_4 rfl (lv_at hl 2 rfl) ?_
  have hPc : va_P G.1 vwCl (ow G h0 h σ) s.heap := hP.sub [0, 1, 2, 3, 4] rfl
  have hDc : va_D A (ow G h0 h σ) := hD.sub [0, 1, 2, 3, 4] (by decide) rfl
  have hFc := va_free (wc := ow G h0 h σ) hD hS hA [0, 1, 2, 3, 4] rfl
  refine vx_calli (vx_runV (As := [.int p1, .int p2]) (rest := [.int 0, .ref ho]) ⟨hx, hb, hml, hown, hts⟩ (kX0_compare l htr G h0 h s.heap.size F σ p1 p2 r σr C N hg) (cwV 2 hts gL_compare_X0_compare rfl rfl rfl nX0_compare ⟨Nat.le_of_ble_eq_true rfl, Nat.le_of_ble_eq_true rfl⟩) ⟨oPreX_blind, va_recv hK hPc (ci := 2) (q0 := 0) rfl rfl, fun U hU hW => ⟨rfl, by rw [hU], by rw [hU]; exact hPc, gK.moved hW.alike hK, hDc.weaken (fun _ _ _ _ => trivial), by rw [hU]; exact (hZ.narrow hFc).warm hW⟩⟩ rfl rfl hl.1 rfl (lv_room (Nat.le_of_ble_eq_true rfl)) dL_compare_5 ⟨by show 0 + C ≤ C; omega, by show 0 + N ≤ N; omega⟩) hS (fun q _ h => hFc q h) hFc (fun q _ h => hFc q h) (fun E ce q9 u t H1 locs1 ht hvm hp hB hz hk hS hcell hv hcl => ?_) (fun a1 u t H1 locs1 ht hvm hw hB hz hk hS => ?_)
  · obtain ⟨⟨k, hk9, hE⟩, hB⟩ := hB
    subst hp
    subst hk9
    obtain ⟨hw1, hn1, hP1, hK1, hD1⟩ := hB
    rw [ht] at hP1
    obtain ⟨hP, hD⟩ := va_join (wr := [(ho, .inl (G.2.2.1, 1, .inr (.inl fo)))]) (w1 := ow G h0 (hw1, h.2.1, hn1, h.2.2.2) u) hP hD [0, 1, 2, 3, 4] [5] rfl rfl (by decide) (by decide) hk hFc hP1 hD1
    have hP : va_P G.1 vwCl (owo G h0 (hw1, h.2.1, hn1, h.2.2.2) u ho fo) H1 := hP.sub [1, 2, 3, 4, 5, 0] rfl
    have hD : va_D A (owo G h0 (hw1, h.2.1, hn1, h.2.2.2) u ho fo) := hD.sub [1, 2, 3, 4, 5, 0] (by decide) rfl
    by_cases hk1 : k = 1
    · have hE : E = "java/lang/IllegalArgumentException" := by rw [hE]; show (if k = 1 then _ else _) = _; rw [if_pos hk1]
      subst hE
      refine vx_catch hown [] ⟨0, 10, 13, 13⟩ [⟨0, 10, 17, 15⟩] htab (fun z hz => nomatch hz) rfl (by decide) (hts (.classLink RL 13 "java/lang/IllegalArgumentException") (by decide +kernel)) (xface (w := .castable "java/lang/IllegalArgumentException" "java/lang/IllegalArgumentException") rfl rfl (Vm.Alike.refl s.vm) (hZ.2.2.2 _ (by decide +kernel))) hcell hv hcl ?_
      refine lv_astore (lv' := [(4, .ref q9), (0, .ref h0), (1, .int p1), (2, .int p2), (3, .ref ho)]) hx hb dL_compare_13 hl (by decide) rfl (fun ls hl => ?_)
      refine lv_iconst (v := 1) hx hb dL_compare_15 (by decide) ?_
      refine W.widen (k := C) (n := N) (by show 0 + C ≤ C; omega) (by show 0 + N ≤ N; omega) ?_
      exact W.iret hx hb hr (fun t ht hW => ⟨⟨1, _, rfl, ⟨by show (1 : Int32) = (if k = 1 then 1 else 2); rw [if_pos hk1], rfl⟩, hw1, hn1, by rw [ht]; exact hP, gK.moved hW.alike hK, hD⟩, hS.F ht⟩) hS.2.2 dL_compare_16 hlocks
    · have hE : E = "java/lang/IllegalStateException" := by rw [hE]; show (if k = 1 then _ else _) = _; rw [if_neg hk1]
      subst hE
      refine vx_catch hown [⟨0, 10, 13, 13⟩] ⟨0, 10, 17, 15⟩ [] htab (fun z hz => by rw [List.mem_singleton.mp hz]; exact Or.inr ⟨by decide, _, hts (.classLink RL 13 "java/lang/IllegalArgumentException") (by decide +kernel), hNc⟩) rfl (by decide) (hts (.classLink RL 15 "java/lang/IllegalStateException") (by decide +kernel)) (xface (w := .castable "java/lang/IllegalStateException" "java/lang/IllegalStateException") rfl rfl (Vm.Alike.refl s.vm) (hZ.2.2.2 _ (by decide +kernel))) hcell hv hcl ?_
      refine lv_astore (lv' := [(4, .ref q9), (0, .ref h0), (1, .int p1), (2, .int p2), (3, .ref ho)]) hx hb dL_compare_17 hl (by decide) rfl (fun ls hl => ?_)
      refine lv_iconst (v := 2) hx hb dL_compare_19 (by decide) ?_
      refine W.widen (k := C) (n := N) (by show 0 + C ≤ C; omega) (by show 0 + N ≤ N; omega) ?_
      exact W.iret hx hb hr (fun t ht hW => ⟨⟨2, _, rfl, ⟨by show (2 : Int32) = (if k = 1 then 1 else 2); rw [if_neg hk1], rfl⟩, hw1, hn1, by rw [ht]; exact hP, gK.moved hW.alike hK, hD⟩, hS.F ht⟩) hS.2.2 dL_compare_20 hlocks
  · obtain ⟨er, eu⟩ := hw
    subst er; subst eu
    obtain ⟨hw1, hn1, hP1, hK1, hD1⟩ := hB
    rw [ht] at hP1
    obtain ⟨hP, hD⟩ := va_join (wr := [(ho, .inl (G.2.2.1, 1, .inr (.inl fo)))]) (w1 := ow G h0 (hw1, h.2.1, hn1, h.2.2.2) u) hP hD [0, 1, 2, 3, 4] [5] rfl rfl (by decide) (by decide) hk hFc hP1 hD1
    have hP : va_P G.1 vwCl (owo G h0 (hw1, h.2.1, hn1, h.2.2.2) u ho fo) H1 := hP.sub [1, 2, 3, 4, 5, 0] rfl
    have hD : va_D A (owo G h0 (hw1, h.2.1, hn1, h.2.2.2) u ho fo) := hD.sub [1, 2, 3, 4, 5, 0] (by decide) rfl
    refine lv_i2l (v := a1.toInt64) hx hb dL_compare_8 rfl ?_
    refine va_last (f := fo) hx hb hK hP hD hS 5 1 rfl rfl (vp_in_nI (n := 0) (N := 1) (by decide) (by decide)) dL_compare_9 (fun H locs hP hD hS => ?_)
    have hP : va_P G.1 vwCl (owo G h0 (hw1, h.2.1, hn1, h.2.2.2) u ho (vp_updL fo 0 a1.toInt64)) H := hP
    have hD : va_D A (owo G h0 (hw1, h.2.1, hn1, h.2.2.2) u ho (vp_updL fo 0 a1.toInt64)) := hD
    refine lv_goto (tgt := 21) hx hb dL_compare_10 (by decide) ?_
    refine lv_iconst (v := 0) hx hb dL_compare_21 (by decide) ?_
    refine W.widen (k := C) (n := N) (by show 0 + C ≤ C; omega) (by show 0 + N ≤ N; omega) ?_
    exact W.iret hx hb hr (fun t ht hW => ⟨⟨0, _, rfl, ⟨rfl, rfl⟩, hw1, hn1, by rw [ht]; exact hP, gK.moved hW.alike hK, hD⟩, hS.F ht⟩) hS.2.2 dL_compare_22 hlocks
