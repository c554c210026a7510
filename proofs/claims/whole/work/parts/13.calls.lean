/-! calls, ends and entries over the two worlds -/
def sPre (sz : Nat) (av : List Value) : Array Value → State → Prop := va_Pc av (fun U => U.heap.size = sz)
theorem sPre_blind {sz : Nat} {av : List Value} : FrameBlind (sPre sz av) := by
  intro a U g mk q
  obtain ⟨q0, q1⟩ := q
  exact ⟨q0, q1⟩
def sQi (r : Int32) (sz : Nat) : Array Value → State → Outcome → State → Prop := va_Qi (fun (a : Int32) (_ : Unit) => a = r) (fun _ _ => True) (fun q => sz ≤ q)
def sI (s : State) (H : Heap) (locs : List Loc) : Prop := va_S (fun q => s.heap.size ≤ q) s.heap H locs
section SE
variable {p : Program} {l : Launch} {e : Env} {R : Room} {s : State} {m : MethodId} {args : Array Value} {below : List Frame} {meth : Method} {c : Code} {H : Heap} {locs : List Loc} {cells slots : Nat} {Q : State → Prop}
variable {cc : ByteArray} {pc : Nat} {ls : Array Slot} {rest st0 : List Value} {A : Nat → Prop} {G : gT} {h0 : Nat} {nL : Nat} {Ts : List Cond}
variable {y : MethodName} {ws ws' : List Cond} {rm : Room} {bytes : ByteArray} {maxL n index mc ms : Nat} {ret : Option FieldType} {As : List Value}
variable {own : String}
theorem wn_i {x y : Int32} (h : y = x) (k : W p l e R s m args below meth c H locs cells slots Q (F0 m pc ls (.int y :: rest))) : W p l e R s m args below meth c H locs cells slots Q (F0 m pc ls (.int x :: rest)) := h ▸ k
theorem wn_l {x y : Int64} (h : y = x) (k : W p l e R s m args below meth c H locs cells slots Q (F0 m pc ls (.long y :: rest))) : W p l e R s m args below meth c H locs cells slots Q (F0 m pc ls (.long x :: rest)) := h ▸ k
theorem se_i (S : CallFix p m c cc nL s args Ts own) (hr : meth.sig.returnType = some .int) (hlocks : meth.locks = false) (hS : sI s H locs) {r r0 : Int32} (hg : some r0 = some r) (hdg : decode cc pc = .ok (.ireturn, 1)) :
    W p l e R s m args below meth c H locs cells slots (MQ below (sQi r s.heap.size) args s cells slots (fun q => s.heap.size ≤ q)) (F0 m pc ls [.int r0]) := by
  have e1 := sm_e hg
  subst e1
  exact W.iret S.1 S.2.1 hr (fun t ht hW => ⟨⟨r0, (), rfl, rfl, trivial⟩, va_S.F hS ht⟩) hS.2.2 hdg hlocks
theorem se_z (S : CallFix p m c cc nL s args Ts own) (hr : meth.sig.returnType = some .boolean) (hlocks : meth.locks = false) (hS : sI s H locs) {r r0 : Int32} (hz : narrow .boolean (.int r0) = .int r0) (hg : some r0 = some r) (hdg : decode cc pc = .ok (.ireturn, 1)) :
    W p l e R s m args below meth c H locs cells slots (MQ below (sQi r s.heap.size) args s cells slots (fun q => s.heap.size ≤ q)) (F0 m pc ls [.int r0]) := by
  have e1 := sm_e hg
  subst e1
  exact W.zret S.1 S.2.1 hr hz (fun t ht hW => ⟨⟨r0, (), rfl, rfl, trivial⟩, va_S.F hS ht⟩) hS.2.2 hdg hlocks
/-- a call of a pure static method out of one -/
theorem ss_i (S : CallFix p m c cc nL s args Ts own) (hS : sI s H locs) {r : Int32}
    (hM : Met l y ws rm (sPre H.size As) (sQi r H.size) mc ms (fun q => H.size ≤ q))
    (cw : CallB R s args own index y bytes maxL ret ws rm mc ms n ∧ (Cond.static y).before args s = true) (hn : As.length = n) (hs : ls.size = nL) (hst : st0 = As.reverse ++ rest) (hW : (rest.map fun v => v.category).sum ≤ 8)
    (hdg : decode cc pc = .ok (.invokestatic index, 3)) (hf : cells + mc ≤ R.cells ∧ slots + ms ≤ R.slots)
    (kk : ∀ (H1 : Heap) (locs1 : List Loc), sI s H1 locs1 → W p l e R s m args below meth c H1 locs1 (cells + mc) (slots + ms) Q (F0 m (pc + 3) ls (.int r :: rest))) :
    W p l e R s m args below meth c H locs cells slots Q (F0 m pc ls st0) := by
  subst hst
  refine va_calli (va_runS (As := As) (rest := rest) S hM cw ⟨sPre_blind, fun U hU _ => ⟨rfl, congrArg (fun X : Heap => Array.size X) hU⟩⟩ rfl hn hs rfl (lv_room hW) hdg hf) hS (fun q hq h => absurd h (Nat.not_le.mpr hq)) (fun q h => Nat.le_trans hS.1 h) (fun r1 u t H1 locs1 ht hvm hw hB hz1 hk1 hS => ?_)
  have hw : r1 = r := hw
  subst hw
  exact kk H1 locs1 hS
theorem sMet {av : List Value} {sz : Nat} {Qc : Nat → Array Value → State → Outcome → State → Prop} (hy : plainName y.cls = true) (hR : y.cls = own) (hw : ws = Cond.code y cc maxL ret :: ws') (hlen : (lg_sl av).length ≤ maxL)
    (body : ∀ (p : Program) (e : Env) (s : State) (m : MethodId) (args : Array Value) (below : List Frame) (meth : Method) (c : Code), CallFix p m c cc maxL s args ws own → meth.sig.returnType = ret → meth.locks = false → ∀ (H : Heap) (locs : List Loc), sI s H locs → ∀ ls : Array Slot, lv_has ls maxL (lv_args 0 av) →
      W p l e rm s m args below meth c H locs 0 0 (MQ below (Qc s.heap.size) args s mc ms (fun q => s.heap.size ≤ q)) (F0 m 0 ls [])) : Met l y ws rm (sPre sz av) (Qc sz) mc ms (fun q => sz ≤ q) := by
  refine Met.ofW (cc := cc) (maxL := maxL) (ret := ret) hy hw ?_
  intro p e s m args below meth c s₁ B hml hv
  obtain ⟨rfl, hsz⟩ := hv
  subst hsz
  have hts := atoms_spec (ws := ws) B.pre
  have hown : s.vm.findClass own = some m.cls := by rw [← hR]; exact findClass_of_methodNamed B.named
  rw [lg_entry_eq]
  exact body p e s m _ below meth c ⟨B.exec, B.bytes, hml, hown, hts⟩ B.returns B.notSynchronized _ _ va_S.rf _ (lv_entry _ hlen)
end SE

theorem oPre_blind {G : gT} {h0 : Nat} {h : oH} {σ : oS} {sz : Nat} {av : List Value} : FrameBlind (oPre G h0 h σ sz av) := by
  intro a U g mk q
  obtain ⟨q0, q1, qP, qK, qD⟩ := q
  exact ⟨q0, q1, qP, gK.moved (u := U) (U := U.calling g mk a) (Vm.Alike.refl U.vm) qK, qD⟩
def oQi (G : gT) (h0 : Nat) (h : oH) (r : Int32) (σ' : oS) (A : Nat → Prop) : Array Value → State → Outcome → State → Prop := va_Qi (fun (a : Int32) (u : oS) => a = r ∧ u = σ') (oAt G A h0 h) A
def oQl (G : gT) (h0 : Nat) (h : oH) (r : Int64) (σ' : oS) (A : Nat → Prop) : Array Value → State → Outcome → State → Prop := va_Ql (fun (a : Int64) (u : oS) => a = r ∧ u = σ') (oAt G A h0 h) A
def oQv (G : gT) (h0 : Nat) (h : oH) (σ' : oS) (A : Nat → Prop) : Array Value → State → Outcome → State → Prop := va_Qv (fun (u : oS) => u = σ') (oAt G A h0 h) A
section OC
variable {p : Program} {l : Launch} {e : Env} {R : Room} {s : State} {m : MethodId} {args : Array Value} {below : List Frame} {meth : Method} {c : Code} {H : Heap} {locs : List Loc} {cells slots : Nat} {Q : State → Prop}
variable {cc : ByteArray} {pc : Nat} {ls : Array Slot} {rest st0 : List Value} {A : Nat → Prop} {G : gT} {h0 : Nat} {nL : Nat} {Ts : List Cond}
variable {y : MethodName} {ws ws' : List Cond} {rm : Room} {bytes : ByteArray} {maxL n index mc ms : Nat} {ret : Option FieldType} {As : List Value}

variable {h : oH} {σ σ' : oS}
theorem ofr (hA : ∀ q, s.heap.size ≤ q → A q) (hI : oI s A G h0 h σ H locs) : ∀ q, oA G h0 h σ H.size q → A q := va_free (wc := ow G h0 h σ) hI.2.1 hI.2.2 hA [0, 1, 2, 3, 4] rfl
theorem opv (hK : gK G s) (hI : oI s A G h0 h σ H locs) : PreV s H RX0 h0 (oPre G h0 h σ H.size As) As :=
  ⟨oPre_blind, va_recv hK hI.1 (ci := 2) (q0 := 0) rfl rfl, fun U hU hW => ⟨rfl, by rw [hU], by rw [hU]; exact hI.1, gK.moved hW.alike hK, hI.2.1.weaken (fun _ _ _ _ => trivial)⟩⟩
/-- a call of a method of the same object: an int, a long, nothing -/
theorem oc_i (S : CallFix p m c cc nL s args Ts RX0) (hK : gK G s) (hA : ∀ q, s.heap.size ≤ q → A q) (hI : oI s A G h0 h σ H locs) {r : Int32}
    (hM : Met l y ws rm (oPre G h0 h σ H.size As) (oQi G h0 h r σ' (oA G h0 h σ H.size)) mc ms (oA G h0 h σ H.size))
    (cw : CallW R s args RX0 RX0 index y bytes maxL ret ws rm mc ms n) (hn : As.length = n) (hs : ls.size = nL) (hst : st0 = As.reverse ++ .ref h0 :: rest) (hW : (rest.map fun v => v.category).sum ≤ 8)
    (hdg : decode cc pc = .ok (.invokevirtual index, 3)) (hf : cells + mc ≤ R.cells ∧ slots + ms ≤ R.slots)
    (kk : ∀ (H1 : Heap) (locs1 : List Loc), oI s A G h0 h σ' H1 locs1 → W p l e R s m args below meth c H1 locs1 (cells + mc) (slots + ms) Q (F0 m (pc + 3) ls (.int r :: rest))) :
    W p l e R s m args below meth c H locs cells slots Q (F0 m pc ls st0) := by
  have hFc := ofr hA hI
  subst hst
  refine va_calli (va_runV (As := As) (rest := rest) S hM cw (opv hK hI) rfl hn hs rfl (lv_room hW) hdg hf) hI.2.2 (fun q _ h => hFc q h) hFc (fun r1 u t H1 locs1 ht hvm hw hB hz1 hk1 hS => ?_)
  obtain ⟨e1, e2⟩ := hw
  subst e1; subst e2
  obtain ⟨hP1, hK1, hD1⟩ := hB
  rw [ht] at hP1
  exact kk H1 locs1 ⟨hP1, hD1.weaken (fun k q _ h => hFc q.1 h), hS⟩
theorem oc_l (S : CallFix p m c cc nL s args Ts RX0) (hK : gK G s) (hA : ∀ q, s.heap.size ≤ q → A q) (hI : oI s A G h0 h σ H locs) {r : Int64}
    (hM : Met l y ws rm (oPre G h0 h σ H.size As) (oQl G h0 h r σ' (oA G h0 h σ H.size)) mc ms (oA G h0 h σ H.size))
    (cw : CallW R s args RX0 RX0 index y bytes maxL ret ws rm mc ms n) (hn : As.length = n) (hs : ls.size = nL) (hst : st0 = As.reverse ++ .ref h0 :: rest) (hW : (rest.map fun v => v.category).sum ≤ 8)
    (hdg : decode cc pc = .ok (.invokevirtual index, 3)) (hf : cells + mc ≤ R.cells ∧ slots + ms ≤ R.slots)
    (kk : ∀ (H1 : Heap) (locs1 : List Loc), oI s A G h0 h σ' H1 locs1 → W p l e R s m args below meth c H1 locs1 (cells + mc) (slots + ms) Q (F0 m (pc + 3) ls (.long r :: rest))) :
    W p l e R s m args below meth c H locs cells slots Q (F0 m pc ls st0) := by
  have hFc := ofr hA hI
  subst hst
  refine va_calll (va_runV (As := As) (rest := rest) S hM cw (opv hK hI) rfl hn hs rfl (lv_room hW) hdg hf) hI.2.2 (fun q _ h => hFc q h) hFc (fun r1 u t H1 locs1 ht hvm hw hB hz1 hk1 hS => ?_)
  obtain ⟨e1, e2⟩ := hw
  subst e1; subst e2
  obtain ⟨hP1, hK1, hD1⟩ := hB
  rw [ht] at hP1
  exact kk H1 locs1 ⟨hP1, hD1.weaken (fun k q _ h => hFc q.1 h), hS⟩
theorem oc_v (S : CallFix p m c cc nL s args Ts RX0) (hK : gK G s) (hA : ∀ q, s.heap.size ≤ q → A q) (hI : oI s A G h0 h σ H locs)
    (hM : Met l y ws rm (oPre G h0 h σ H.size As) (oQv G h0 h σ' (oA G h0 h σ H.size)) mc ms (oA G h0 h σ H.size))
    (cw : CallW R s args RX0 RX0 index y bytes maxL ret ws rm mc ms n) (hn : As.length = n) (hs : ls.size = nL) (hst : st0 = As.reverse ++ .ref h0 :: rest) (hW : (rest.map fun v => v.category).sum ≤ 8)
    (hdg : decode cc pc = .ok (.invokevirtual index, 3)) (hf : cells + mc ≤ R.cells ∧ slots + ms ≤ R.slots)
    (kk : ∀ (H1 : Heap) (locs1 : List Loc), oI s A G h0 h σ' H1 locs1 → W p l e R s m args below meth c H1 locs1 (cells + mc) (slots + ms) Q (F0 m (pc + 3) ls rest)) :
    W p l e R s m args below meth c H locs cells slots Q (F0 m pc ls st0) := by
  have hFc := ofr hA hI
  subst hst
  refine va_callv (va_runV (As := As) (rest := rest) S hM cw (opv hK hI) rfl hn hs rfl (lv_room hW) hdg hf) hI.2.2 (fun q _ h => hFc q h) hFc (fun u t H1 locs1 ht hvm hw hB hz1 hk1 hS => ?_)
  subst hw
  obtain ⟨hP1, hK1, hD1⟩ := hB
  rw [ht] at hP1
  exact kk H1 locs1 ⟨hP1, hD1.weaken (fun k q _ h => hFc q.1 h), hS⟩
/-- a call of a pure static method with an int -/
theorem os_i {own : String} (S : CallFix p m c cc nL s args Ts own) (hA : ∀ q, s.heap.size ≤ q → A q) (hI : oI s A G h0 h σ H locs) {r : Int32}
    (hM : Met l y ws rm (sPre H.size As) (sQi r H.size) mc ms (fun q => H.size ≤ q))
    (cw : CallB R s args own index y bytes maxL ret ws rm mc ms n ∧ (Cond.static y).before args s = true) (hn : As.length = n) (hs : ls.size = nL) (hst : st0 = As.reverse ++ rest) (hW : (rest.map fun v => v.category).sum ≤ 8)
    (hdg : decode cc pc = .ok (.invokestatic index, 3)) (hf : cells + mc ≤ R.cells ∧ slots + ms ≤ R.slots)
    (kk : ∀ (H1 : Heap) (locs1 : List Loc), oI s A G h0 h σ H1 locs1 → W p l e R s m args below meth c H1 locs1 (cells + mc) (slots + ms) Q (F0 m (pc + 3) ls (.int r :: rest))) :
    W p l e R s m args below meth c H locs cells slots Q (F0 m pc ls st0) := by
  subst hst
  refine va_calli (va_runS (As := As) (rest := rest) S hM cw ⟨sPre_blind, fun U hU _ => ⟨rfl, congrArg (fun X : Heap => Array.size X) hU⟩⟩ rfl hn hs rfl (lv_room hW) hdg hf) hI.2.2 (fun q hq h => absurd h (Nat.not_le.mpr hq)) (fun q h => hA q (Nat.le_trans hI.2.2.1 h)) (fun r1 u t H1 locs1 ht hvm hw hB hz1 hk1 hS => ?_)
  have hw : r1 = r := hw
  subst hw
  exact kk H1 locs1 ⟨hI.1.kept (fun k q hq => hk1 q.1 (hI.1 k q hq).lt (Nat.not_le.mpr (hI.1 k q hq).lt)), hI.2.1, hS⟩
/-- ends -/
theorem oe_i (S : CallFix p m c cc nL s args Ts RX0) (hr : meth.sig.returnType = some .int) (hlocks : meth.locks = false) (hK : gK G s) (hI : oI s A G h0 h σ H locs) {r r0 : Int32} (hg : some (r0, σ) = some (r, σ')) (hdg : decode cc pc = .ok (.ireturn, 1)) :
    W p l e R s m args below meth c H locs cells slots (MQ below (oQi G h0 h r σ' A) args s cells slots A) (F0 m pc ls [.int r0]) := by
  obtain ⟨e1, e2⟩ := pr_e hg
  subst e1; subst e2
  exact W.iret S.1 S.2.1 hr (fun t ht hW => ⟨⟨r0, σ, rfl, ⟨rfl, rfl⟩, by rw [ht]; exact hI.1, gK.moved hW.alike hK, hI.2.1⟩, hI.2.2.F ht⟩) hI.2.2.2.2 hdg hlocks
theorem oe_z (S : CallFix p m c cc nL s args Ts RX0) (hr : meth.sig.returnType = some .boolean) (hlocks : meth.locks = false) (hK : gK G s) (hI : oI s A G h0 h σ H locs) {r r0 : Int32} (hz : narrow .boolean (.int r0) = .int r0) (hg : some (r0, σ) = some (r, σ')) (hdg : decode cc pc = .ok (.ireturn, 1)) :
    W p l e R s m args below meth c H locs cells slots (MQ below (oQi G h0 h r σ' A) args s cells slots A) (F0 m pc ls [.int r0]) := by
  obtain ⟨e1, e2⟩ := pr_e hg
  subst e1; subst e2
  exact W.zret S.1 S.2.1 hr hz (fun t ht hW => ⟨⟨r0, σ, rfl, ⟨rfl, rfl⟩, by rw [ht]; exact hI.1, gK.moved hW.alike hK, hI.2.1⟩, hI.2.2.F ht⟩) hI.2.2.2.2 hdg hlocks
theorem oe_l (S : CallFix p m c cc nL s args Ts RX0) (hr : meth.sig.returnType = some .long) (hlocks : meth.locks = false) (hK : gK G s) (hI : oI s A G h0 h σ H locs) {r r0 : Int64} (hg : some (r0, σ) = some (r, σ')) (hdg : decode cc pc = .ok (.lreturn, 1)) :
    W p l e R s m args below meth c H locs cells slots (MQ below (oQl G h0 h r σ' A) args s cells slots A) (F0 m pc ls [.long r0]) := by
  obtain ⟨e1, e2⟩ := pr_e hg
  subst e1; subst e2
  exact W.lret S.1 S.2.1 hr (fun t ht hW => ⟨⟨r0, σ, rfl, ⟨rfl, rfl⟩, by rw [ht]; exact hI.1, gK.moved hW.alike hK, hI.2.1⟩, hI.2.2.F ht⟩) hI.2.2.2.2 hdg hlocks
theorem oe_v (S : CallFix p m c cc nL s args Ts RX0) (hr : meth.sig.returnType = none) (hlocks : meth.locks = false) (hK : gK G s) (hI : oI s A G h0 h σ H locs) (hg : some σ = some σ') (hdg : decode cc pc = .ok (.return_, 1)) :
    W p l e R s m args below meth c H locs cells slots (MQ below (oQv G h0 h σ' A) args s cells slots A) (F0 m pc ls []) := by
  have e1 := sm_e hg
  subst e1
  exact W.vret S.1 S.2.1 hr (fun t ht hW => ⟨⟨σ, rfl, rfl, by rw [ht]; exact hI.1, gK.moved hW.alike hK, hI.2.1⟩, hI.2.2.F ht⟩) hI.2.2.2.2 hdg hlocks
/-- a contract out of a walk from the entry -/
theorem oMet {Qc : (Nat → Prop) → Array Value → State → Outcome → State → Prop} {av : List Value} {sz : Nat} (hy : plainName y.cls = true) (hR : y.cls = RX0) (hw : ws = Cond.code y cc maxL ret :: ws') (hlen : (lg_sl (.ref h0 :: av)).length ≤ maxL)
    (body : ∀ (p : Program) (e : Env) (s : State) (m : MethodId) (args : Array Value) (below : List Frame) (meth : Method) (c : Code) (A : Nat → Prop), CallFix p m c cc maxL s args ws RX0 → meth.sig.returnType = ret → meth.locks = false → gK G s → (∀ q, s.heap.size ≤ q → A q) → ∀ (H : Heap) (locs : List Loc), oI s A G h0 h σ H locs → ∀ ls : Array Slot, lv_has ls maxL (lv_args 0 (.ref h0 :: av)) →
      W p l e rm s m args below meth c H locs 0 0 (MQ below (Qc A) args s mc ms A) (F0 m 0 ls [])) : Met l y ws rm (oPre G h0 h σ sz av) (Qc (oA G h0 h σ sz)) mc ms (oA G h0 h σ sz) := by
  refine Met.ofW (cc := cc) (maxL := maxL) (ret := ret) hy hw ?_
  intro p e s m args below meth c s₁ B hml hv
  obtain ⟨rfl, hsz, hP, hK, hD0⟩ := hv
  subst hsz
  have hts := atoms_spec (ws := ws) B.pre
  have hown : s.vm.findClass RX0 = some m.cls := by rw [← hR]; exact findClass_of_methodNamed B.named
  rw [lg_entry_eq]
  exact body p e s m _ below meth c (oA G h0 h σ s.heap.size) ⟨B.exec, B.bytes, hml, hown, hts⟩ B.returns B.notSynchronized hK (fun q h => Or.inr h) _ _ ⟨hP, hD0.self (sz := s.heap.size), va_S.rf⟩ _ (lv_entry _ hlen)
end OC

theorem mPre_blind {G : gT} {h0 : Nat} {h : (Nat → Nat)} {σ : mS} {sz : Nat} {av : List Value} : FrameBlind (mPre G h0 h σ sz av) := by
  intro a U g mk q
  obtain ⟨q0, q1, qP, qK, qD⟩ := q
  exact ⟨q0, q1, qP, gK.moved (u := U) (U := U.calling g mk a) (Vm.Alike.refl U.vm) qK, qD⟩
def mQi (G : gT) (h0 : Nat) (h : (Nat → Nat)) (r : Int32) (σ' : mS) (A : Nat → Prop) : Array Value → State → Outcome → State → Prop := va_Qi (fun (a : Int32) (u : mS) => a = r ∧ u = σ') (mAt G A h0 h) A
def mQl (G : gT) (h0 : Nat) (h : (Nat → Nat)) (r : Int64) (σ' : mS) (A : Nat → Prop) : Array Value → State → Outcome → State → Prop := va_Ql (fun (a : Int64) (u : mS) => a = r ∧ u = σ') (mAt G A h0 h) A
def mQv (G : gT) (h0 : Nat) (h : (Nat → Nat)) (σ' : mS) (A : Nat → Prop) : Array Value → State → Outcome → State → Prop := va_Qv (fun (u : mS) => u = σ') (mAt G A h0 h) A
section MC
variable {p : Program} {l : Launch} {e : Env} {R : Room} {s : State} {m : MethodId} {args : Array Value} {below : List Frame} {meth : Method} {c : Code} {H : Heap} {locs : List Loc} {cells slots : Nat} {Q : State → Prop}
variable {cc : ByteArray} {pc : Nat} {ls : Array Slot} {rest st0 : List Value} {A : Nat → Prop} {G : gT} {h0 : Nat} {nL : Nat} {Ts : List Cond}
variable {y : MethodName} {ws ws' : List Cond} {rm : Room} {bytes : ByteArray} {maxL n index mc ms : Nat} {ret : Option FieldType} {As : List Value}

variable {h : (Nat → Nat)} {σ σ' : mS}
theorem mfr (hA : ∀ q, s.heap.size ≤ q → A q) (hI : mI s A G h0 h σ H locs) : ∀ q, mA G h0 h σ H.size q → A q := va_free (wc := mw G h0 h σ) hI.2.1 hI.2.2 hA [0, 1, 2, 3, 4, 5, 6, 7, 8, 9, 10, 11, 12, 13, 14, 15, 16, 17] rfl
theorem mpv (hK : gK G s) (hI : mI s A G h0 h σ H locs) : PreV s H RX1 h0 (mPre G h0 h σ H.size As) As :=
  ⟨mPre_blind, va_recv hK hI.1 (ci := 3) (q0 := 0) rfl rfl, fun U hU hW => ⟨rfl, by rw [hU], by rw [hU]; exact hI.1, gK.moved hW.alike hK, hI.2.1.weaken (fun _ _ _ _ => trivial)⟩⟩
/-- a call of a method of the same object: an int, a long, nothing -/
theorem mc_i (S : CallFix p m c cc nL s args Ts RX1) (hK : gK G s) (hA : ∀ q, s.heap.size ≤ q → A q) (hI : mI s A G h0 h σ H locs) {r : Int32}
    (hM : Met l y ws rm (mPre G h0 h σ H.size As) (mQi G h0 h r σ' (mA G h0 h σ H.size)) mc ms (mA G h0 h σ H.size))
    (cw : CallW R s args RX1 RX1 index y bytes maxL ret ws rm mc ms n) (hn : As.length = n) (hs : ls.size = nL) (hst : st0 = As.reverse ++ .ref h0 :: rest) (hW : (rest.map fun v => v.category).sum ≤ 8)
    (hdg : decode cc pc = .ok (.invokevirtual index, 3)) (hf : cells + mc ≤ R.cells ∧ slots + ms ≤ R.slots)
    (kk : ∀ (H1 : Heap) (locs1 : List Loc), mI s A G h0 h σ' H1 locs1 → W p l e R s m args below meth c H1 locs1 (cells + mc) (slots + ms) Q (F0 m (pc + 3) ls (.int r :: rest))) :
    W p l e R s m args below meth c H locs cells slots Q (F0 m pc ls st0) := by
  have hFc := mfr hA hI
  subst hst
  refine va_calli (va_runV (As := As) (rest := rest) S hM cw (mpv hK hI) rfl hn hs rfl (lv_room hW) hdg hf) hI.2.2 (fun q _ h => hFc q h) hFc (fun r1 u t H1 locs1 ht hvm hw hB hz1 hk1 hS => ?_)
  obtain ⟨e1, e2⟩ := hw
  subst e1; subst e2
  obtain ⟨hP1, hK1, hD1⟩ := hB
  rw [ht] at hP1
  exact kk H1 locs1 ⟨hP1, hD1.weaken (fun k q _ h => hFc q.1 h), hS⟩
theorem mc_l (S : CallFix p m c cc nL s args Ts RX1) (hK : gK G s) (hA : ∀ q, s.heap.size ≤ q → A q) (hI : mI s A G h0 h σ H locs) {r : Int64}
    (hM : Met l y ws rm (mPre G h0 h σ H.size As) (mQl G h0 h r σ' (mA G h0 h σ H.size)) mc ms (mA G h0 h σ H.size))
    (cw : CallW R s args RX1 RX1 index y bytes maxL ret ws rm mc ms n) (hn : As.length = n) (hs : ls.size = nL) (hst : st0 = As.reverse ++ .ref h0 :: rest) (hW : (rest.map fun v => v.category).sum ≤ 8)
    (hdg : decode cc pc = .ok (.invokevirtual index, 3)) (hf : cells + mc ≤ R.cells ∧ slots + ms ≤ R.slots)
    (kk : ∀ (H1 : Heap) (locs1 : List Loc), mI s A G h0 h σ' H1 locs1 → W p l e R s m args below meth c H1 locs1 (cells + mc) (slots + ms) Q (F0 m (pc + 3) ls (.long r :: rest))) :
    W p l e R s m args below meth c H locs cells slots Q (F0 m pc ls st0) := by
  have hFc := mfr hA hI
  subst hst
  refine va_calll (va_runV (As := As) (rest := rest) S hM cw (mpv hK hI) rfl hn hs rfl (lv_room hW) hdg hf) hI.2.2 (fun q _ h => hFc q h) hFc (fun r1 u t H1 locs1 ht hvm hw hB hz1 hk1 hS => ?_)
  obtain ⟨e1, e2⟩ := hw
  subst e1; subst e2
  obtain ⟨hP1, hK1, hD1⟩ := hB
  rw [ht] at hP1
  exact kk H1 locs1 ⟨hP1, hD1.weaken (fun k q _ h => hFc q.1 h), hS⟩
theorem mc_v (S : CallFix p m c cc nL s args Ts RX1) (hK : gK G s) (hA : ∀ q, s.heap.size ≤ q → A q) (hI : mI s A G h0 h σ H locs)
    (hM : Met l y ws rm (mPre G h0 h σ H.size As) (mQv G h0 h σ' (mA G h0 h σ H.size)) mc ms (mA G h0 h σ H.size))
    (cw : CallW R s args RX1 RX1 index y bytes maxL ret ws rm mc ms n) (hn : As.length = n) (hs : ls.size = nL) (hst : st0 = As.reverse ++ .ref h0 :: rest) (hW : (rest.map fun v => v.category).sum ≤ 8)
    (hdg : decode cc pc = .ok (.invokevirtual index, 3)) (hf : cells + mc ≤ R.cells ∧ slots + ms ≤ R.slots)
    (kk : ∀ (H1 : Heap) (locs1 : List Loc), mI s A G h0 h σ' H1 locs1 → W p l e R s m args below meth c H1 locs1 (cells + mc) (slots + ms) Q (F0 m (pc + 3) ls rest)) :
    W p l e R s m args below meth c H locs cells slots Q (F0 m pc ls st0) := by
  have hFc := mfr hA hI
  subst hst
  refine va_callv (va_runV (As := As) (rest := rest) S hM cw (mpv hK hI) rfl hn hs rfl (lv_room hW) hdg hf) hI.2.2 (fun q _ h => hFc q h) hFc (fun u t H1 locs1 ht hvm hw hB hz1 hk1 hS => ?_)
  subst hw
  obtain ⟨hP1, hK1, hD1⟩ := hB
  rw [ht] at hP1
  exact kk H1 locs1 ⟨hP1, hD1.weaken (fun k q _ h => hFc q.1 h), hS⟩
/-- a call of a pure static method with an int -/
theorem ms_i {own : String} (S : CallFix p m c cc nL s args Ts own) (hA : ∀ q, s.heap.size ≤ q → A q) (hI : mI s A G h0 h σ H locs) {r : Int32}
    (hM : Met l y ws rm (sPre H.size As) (sQi r H.size) mc ms (fun q => H.size ≤ q))
    (cw : CallB R s args own index y bytes maxL ret ws rm mc ms n ∧ (Cond.static y).before args s = true) (hn : As.length = n) (hs : ls.size = nL) (hst : st0 = As.reverse ++ rest) (hW : (rest.map fun v => v.category).sum ≤ 8)
    (hdg : decode cc pc = .ok (.invokestatic index, 3)) (hf : cells + mc ≤ R.cells ∧ slots + ms ≤ R.slots)
    (kk : ∀ (H1 : Heap) (locs1 : List Loc), mI s A G h0 h σ H1 locs1 → W p l e R s m args below meth c H1 locs1 (cells + mc) (slots + ms) Q (F0 m (pc + 3) ls (.int r :: rest))) :
    W p l e R s m args below meth c H locs cells slots Q (F0 m pc ls st0) := by
  subst hst
  refine va_calli (va_runS (As := As) (rest := rest) S hM cw ⟨sPre_blind, fun U hU _ => ⟨rfl, congrArg (fun X : Heap => Array.size X) hU⟩⟩ rfl hn hs rfl (lv_room hW) hdg hf) hI.2.2 (fun q hq h => absurd h (Nat.not_le.mpr hq)) (fun q h => hA q (Nat.le_trans hI.2.2.1 h)) (fun r1 u t H1 locs1 ht hvm hw hB hz1 hk1 hS => ?_)
  have hw : r1 = r := hw
  subst hw
  exact kk H1 locs1 ⟨hI.1.kept (fun k q hq => hk1 q.1 (hI.1 k q hq).lt (Nat.not_le.mpr (hI.1 k q hq).lt)), hI.2.1, hS⟩
/-- ends -/
theorem me_i (S : CallFix p m c cc nL s args Ts RX1) (hr : meth.sig.returnType = some .int) (hlocks : meth.locks = false) (hK : gK G s) (hI : mI s A G h0 h σ H locs) {r r0 : Int32} (hg : some (r0, σ) = some (r, σ')) (hdg : decode cc pc = .ok (.ireturn, 1)) :
    W p l e R s m args below meth c H locs cells slots (MQ below (mQi G h0 h r σ' A) args s cells slots A) (F0 m pc ls [.int r0]) := by
  obtain ⟨e1, e2⟩ := pr_e hg
  subst e1; subst e2
  exact W.iret S.1 S.2.1 hr (fun t ht hW => ⟨⟨r0, σ, rfl, ⟨rfl, rfl⟩, by rw [ht]; exact hI.1, gK.moved hW.alike hK, hI.2.1⟩, hI.2.2.F ht⟩) hI.2.2.2.2 hdg hlocks
theorem me_z (S : CallFix p m c cc nL s args Ts RX1) (hr : meth.sig.returnType = some .boolean) (hlocks : meth.locks = false) (hK : gK G s) (hI : mI s A G h0 h σ H locs) {r r0 : Int32} (hz : narrow .boolean (.int r0) = .int r0) (hg : some (r0, σ) = some (r, σ')) (hdg : decode cc pc = .ok (.ireturn, 1)) :
    W p l e R s m args below meth c H locs cells slots (MQ below (mQi G h0 h r σ' A) args s cells slots A) (F0 m pc ls [.int r0]) := by
  obtain ⟨e1, e2⟩ := pr_e hg
  subst e1; subst e2
  exact W.zret S.1 S.2.1 hr hz (fun t ht hW => ⟨⟨r0, σ, rfl, ⟨rfl, rfl⟩, by rw [ht]; exact hI.1, gK.moved hW.alike hK, hI.2.1⟩, hI.2.2.F ht⟩) hI.2.2.2.2 hdg hlocks
theorem me_l (S : CallFix p m c cc nL s args Ts RX1) (hr : meth.sig.returnType = some .long) (hlocks : meth.locks = false) (hK : gK G s) (hI : mI s A G h0 h σ H locs) {r r0 : Int64} (hg : some (r0, σ) = some (r, σ')) (hdg : decode cc pc = .ok (.lreturn, 1)) :
    W p l e R s m args below meth c H locs cells slots (MQ below (mQl G h0 h r σ' A) args s cells slots A) (F0 m pc ls [.long r0]) := by
  obtain ⟨e1, e2⟩ := pr_e hg
  subst e1; subst e2
  exact W.lret S.1 S.2.1 hr (fun t ht hW => ⟨⟨r0, σ, rfl, ⟨rfl, rfl⟩, by rw [ht]; exact hI.1, gK.moved hW.alike hK, hI.2.1⟩, hI.2.2.F ht⟩) hI.2.2.2.2 hdg hlocks
theorem me_v (S : CallFix p m c cc nL s args Ts RX1) (hr : meth.sig.returnType = none) (hlocks : meth.locks = false) (hK : gK G s) (hI : mI s A G h0 h σ H locs) (hg : some σ = some σ') (hdg : decode cc pc = .ok (.return_, 1)) :
    W p l e R s m args below meth c H locs cells slots (MQ below (mQv G h0 h σ' A) args s cells slots A) (F0 m pc ls []) := by
  have e1 := sm_e hg
  subst e1
  exact W.vret S.1 S.2.1 hr (fun t ht hW => ⟨⟨σ, rfl, rfl, by rw [ht]; exact hI.1, gK.moved hW.alike hK, hI.2.1⟩, hI.2.2.F ht⟩) hI.2.2.2.2 hdg hlocks
/-- a contract out of a walk from the entry -/
theorem mMet {Qc : (Nat → Prop) → Array Value → State → Outcome → State → Prop} {av : List Value} {sz : Nat} (hy : plainName y.cls = true) (hR : y.cls = RX1) (hw : ws = Cond.code y cc maxL ret :: ws') (hlen : (lg_sl (.ref h0 :: av)).length ≤ maxL)
    (body : ∀ (p : Program) (e : Env) (s : State) (m : MethodId) (args : Array Value) (below : List Frame) (meth : Method) (c : Code) (A : Nat → Prop), CallFix p m c cc maxL s args ws RX1 → meth.sig.returnType = ret → meth.locks = false → gK G s → (∀ q, s.heap.size ≤ q → A q) → ∀ (H : Heap) (locs : List Loc), mI s A G h0 h σ H locs → ∀ ls : Array Slot, lv_has ls maxL (lv_args 0 (.ref h0 :: av)) →
      W p l e rm s m args below meth c H locs 0 0 (MQ below (Qc A) args s mc ms A) (F0 m 0 ls [])) : Met l y ws rm (mPre G h0 h σ sz av) (Qc (mA G h0 h σ sz)) mc ms (mA G h0 h σ sz) := by
  refine Met.ofW (cc := cc) (maxL := maxL) (ret := ret) hy hw ?_
  intro p e s m args below meth c s₁ B hml hv
  obtain ⟨rfl, hsz, hP, hK, hD0⟩ := hv
  subst hsz
  have hts := atoms_spec (ws := ws) B.pre
  have hown : s.vm.findClass RX1 = some m.cls := by rw [← hR]; exact findClass_of_methodNamed B.named
  rw [lg_entry_eq]
  exact body p e s m _ below meth c (mA G h0 h σ s.heap.size) ⟨B.exec, B.bytes, hml, hown, hts⟩ B.returns B.notSynchronized hK (fun q h => Or.inr h) _ _ ⟨hP, hD0.self (sz := s.heap.size), va_S.rf⟩ _ (lv_entry _ hlen)
end MC
