/-! throwing methods of the class: what they throw, what it costs, how they are called -/
def xN (k : Int32) : String := if k = 1 then "java/lang/IllegalArgumentException" else "java/lang/IllegalStateException"
def xTx : List (Nat × String) := [(67, "no such block"), (90, "kept for references"), (92, "nothing to refer to"), (95, "a reference"), (102, "no such number of units"), (120, "too many units"), (129, "no such part"), (141, "no such unit"), (160, "below 0"), (162, "no such root"), (164, "no text"), (166, "no block"), (174, "no such link"), (179, "no such value"), (184, "no such plain word"), (211, "full")]
def xBl : List Cond := [.declares (Bundle.initS "java/lang/RuntimeException"), .declares (Bundle.initS "java/lang/Exception"), .declares (Bundle.initS Bundle.tN), .castable "java/lang/IllegalArgumentException" "java/lang/IllegalArgumentException", .castable "java/lang/IllegalStateException" "java/lang/IllegalStateException"]
theorem xBl_face : ∀ w ∈ xBl, w.faceAtom = true ∧ w.onTables = true := by decide +kernel
/-- what a throw needs of the machine: Throwable's statics (outside A), the texts, some words of the classes -/
def xZ (A : Nat → Prop) (U : State) (H : Heap) : Prop := vx_Zq Bundle.tN "UNASSIGNED_STACK" Bundle.steD A U H ∧ vx_Zq Bundle.tN "SUPPRESSED_SENTINEL" Bundle.listD A U H ∧ (∀ q ∈ xTx, ∃ sa, vk_R RX0 q.1 q.2 sa U) ∧ ∀ w ∈ xBl, w.before #[] U = true
theorem xface {w : Cond} {s U : State} {a a' : Array Value} (hf : w.faceAtom = true) (ht : w.onTables = true) (hvm : s.vm.Alike U.vm) (h : w.before a s = true) : w.before a' U = true := by
  have h1 := Cond.faceAtom_setVm hvm w hf h
  rw [Cond.onTables_vm (A := a) (A' := a') (U := s) (U' := U) U.vm w ht] at h1
  exact h1
theorem xZ.warm {A : Nat → Prop} {s U : State} {H : Heap} (hW : s.WarmedH U.vm) (h : xZ A s H) : xZ A U H :=
  ⟨h.1.moved hW.alike, h.2.1.moved hW.alike, fun q hq => (h.2.2.1 q hq).imp (fun _ hs => hs.warm hW), fun w hw => xface (xBl_face w hw).1 (xBl_face w hw).2 hW.alike (h.2.2.2 w hw)⟩
theorem xZ.kept {A : Nat → Prop} {U : State} {H H1 : Heap} (h : xZ A U H) (hq : ∀ a : Nat, a < H.size → ¬ A a → H1[a]? = H[a]?) : xZ A U H1 := ⟨h.1.kept hq, h.2.1.kept hq, h.2.2⟩
theorem xZ.narrow {A B : Nat → Prop} {U : State} {H : Heap} (h : xZ A U H) (hAB : ∀ q, B q → A q) : xZ B U H := ⟨h.1.narrow hAB, h.2.1.narrow hAB, h.2.2⟩
abbrev xT (α : Type) : Type := Option ((Int32 ⊕ α) × oS × Nat × Nat)
def addC {ρ : Type} (c n : Nat) (y : Option (ρ × oS × Nat × Nat)) : Option (ρ × oS × Nat × Nat) := match y with
  | none => none
  | some (r, σ, c', n') => some (r, σ, c + c', n + n')
theorem addC_e {ρ : Type} {c n : Nat} {y : Option (ρ × oS × Nat × Nat)} {r : ρ} {σ : oS} {C N : Nat} (h : addC c n y = some (r, σ, C, N)) : ∃ C' N', y = some (r, σ, C', N') ∧ C = c + C' ∧ N = n + N' := by
  cases y with
  | none => cases h
  | some q =>
    obtain ⟨r', σ1, c', n'⟩ := q
    have h := Option.some.inj h
    cases h
    exact ⟨c', n', rfl, rfl, rfl⟩
/-- a call that may throw -/
def bndX {α β : Type} (x : xT α) (k : α → oS → xT β) : xT β := match x with
  | none => none
  | some (.inl e, σ, c, n) => some (.inl e, σ, c, n)
  | some (.inr a, σ, c, n) => addC c n (k a σ)
theorem bndX_e {α β : Type} {x : xT α} {k : α → oS → xT β} {r : Int32 ⊕ β} {σ' : oS} {C N : Nat} (hg : bndX x k = some (r, σ', C, N)) : (∃ e, x = some (.inl e, σ', C, N) ∧ r = .inl e) ∨ ∃ a σ1 c n C' N', x = some (.inr a, σ1, c, n) ∧ k a σ1 = some (r, σ', C', N') ∧ C = c + C' ∧ N = n + N' := by
  cases x with
  | none => cases hg
  | some q =>
    obtain ⟨r1, σ1, c, n⟩ := q
    cases r1 with
    | inl e => have hg := Option.some.inj hg; cases hg; exact Or.inl ⟨e, rfl, rfl⟩
    | inr a =>
      obtain ⟨C', N', h1, h2, h3⟩ := addC_e hg
      exact Or.inr ⟨a, σ1, c, n, C', N', rfl, h1, h2, h3⟩
/-- a call of needRoot: it throws, or nothing happens -/
def bndN {β : Type} (x : Option (Int32 ⊕ Unit)) (σ : oS) (k : xT β) : xT β := match x with
  | none => none
  | some (.inl e) => some (.inl e, σ, 1, 6)
  | some (.inr _) => k
theorem bndN_e {β : Type} {x : Option (Int32 ⊕ Unit)} {σ : oS} {k : xT β} {r : Int32 ⊕ β} {σ' : oS} {C N : Nat} (hg : bndN x σ k = some (r, σ', C, N)) : (∃ e, x = some (.inl e) ∧ r = .inl e ∧ σ' = σ ∧ C = 1 ∧ N = 6) ∨ (x = some (.inr ()) ∧ k = some (r, σ', C, N)) := by
  cases x with
  | none => cases hg
  | some q =>
    cases q with
    | inl e => have hg := Option.some.inj hg; cases hg; exact Or.inl ⟨e, rfl, rfl, rfl, rfl, rfl⟩
    | inr a => exact Or.inr ⟨rfl, hg⟩
/-- a call that makes cells and doesn't throw -/
def bndA {β : Type} (x : Option (oS × Nat × Nat)) (k : oS → xT β) : xT β := match x with
  | none => none
  | some (σ, c, n) => addC c n (k σ)
theorem bndA_e {β : Type} {x : Option (oS × Nat × Nat)} {k : oS → xT β} {r : Int32 ⊕ β} {σ' : oS} {C N : Nat} (hg : bndA x k = some (r, σ', C, N)) : ∃ σ1 c n C' N', x = some (σ1, c, n) ∧ k σ1 = some (r, σ', C', N') ∧ C = c + C' ∧ N = n + N' := by
  cases x with
  | none => cases hg
  | some q =>
    obtain ⟨σ1, c, n⟩ := q
    obtain ⟨C', N', h1, h2, h3⟩ := addC_e hg
    exact ⟨σ1, c, n, C', N', rfl, h1, h2, h3⟩
theorem x4_e {ρ : Type} {r r' : ρ} {σ σ' : oS} {a b c d : Nat} (h : some (r, σ, a, b) = some (r', σ', c, d)) : r = r' ∧ σ = σ' ∧ a = c ∧ b = d := by cases h; exact ⟨rfl, rfl, rfl, rfl⟩
def cN (r : Int32 ⊕ Unit) : Nat := match r with
  | .inl _ => 1
  | .inr _ => 0
def sN (r : Int32 ⊕ Unit) : Nat := match r with
  | .inl _ => 6
  | .inr _ => 0
def sPreX (sz : Nat) (av : List Value) : Array Value → State → Prop := va_Pc av (fun U => U.heap.size = sz ∧ xZ (fun q => sz ≤ q) U U.heap)
theorem sPreX_blind {sz : Nat} {av : List Value} : FrameBlind (sPreX sz av) := by
  intro a U g mk q
  obtain ⟨q0, q1, q2⟩ := q
  exact ⟨q0, q1, xZ.warm (s := U) (U := U.calling g mk a) (State.WarmedH.refl U) q2⟩
def sXv (r : Int32 ⊕ Unit) (sz : Nat) : Array Value → State → Outcome → State → Prop := va_Qv (fun (_ : Unit) => r = .inr ()) (fun _ _ => True) (fun q => sz ≤ q)
def sXX (r : Int32 ⊕ Unit) (sz : Nat) : String → State → State → Prop := vx_X (fun _ : Unit => True) (fun E _ _ => ∃ k, r = .inl k ∧ E = xN k) (fun q => sz ≤ q)
def oPreX (G : gT) (h0 : Nat) (h : oH) (σ : oS) (sz : Nat) (av : List Value) : Array Value → State → Prop := va_Pc (.ref h0 :: av) (fun U => U.heap.size = sz ∧ va_P G.1 vwCl (ow G h0 h σ) U.heap ∧ gK G U ∧ va_D (fun _ => True) (ow G h0 h σ) ∧ xZ (oA G h0 h σ sz) U U.heap)
theorem oPreX_blind {G : gT} {h0 : Nat} {h : oH} {σ : oS} {sz : Nat} {av : List Value} : FrameBlind (oPreX G h0 h σ sz av) := by
  intro a U g mk q
  obtain ⟨q0, q1, qP, qK, qD, qZ⟩ := q
  exact ⟨q0, q1, qP, gK.moved (u := U) (U := U.calling g mk a) (Vm.Alike.refl U.vm) qK, qD, xZ.warm (s := U) (U := U.calling g mk a) (State.WarmedH.refl U) qZ⟩
/-- the world behind a method that may have made the rows of words and names anew -/
def oAtE (G : gT) (A : Nat → Prop) (h0 hr hp : Nat) (σ : oS) (t : State) : Prop := ∃ hw hn, oAt G A h0 (hw, hr, hn, hp) σ t

def oxi (G : gT) (h0 : Nat) (h : oH) (r : Int32 ⊕ Int32) (σ' : oS) (A : Nat → Prop) : Array Value → State → Outcome → State → Prop := va_Qi (fun (a : Int32) (u : oS) => r = .inr a ∧ u = σ') (oAt G A h0 h) A
def oxl (G : gT) (h0 : Nat) (h : oH) (r : Int32 ⊕ Int64) (σ' : oS) (A : Nat → Prop) : Array Value → State → Outcome → State → Prop := va_Ql (fun (a : Int64) (u : oS) => r = .inr a ∧ u = σ') (oAt G A h0 h) A
def oxv (G : gT) (h0 : Nat) (h : oH) (r : Int32 ⊕ Unit) (σ' : oS) (A : Nat → Prop) : Array Value → State → Outcome → State → Prop := va_Qv (fun (u : oS) => r = .inr () ∧ u = σ') (oAt G A h0 h) A
def oxX {α : Type} (G : gT) (h0 : Nat) (h : oH) (r : Int32 ⊕ α) (σ' : oS) (A : Nat → Prop) : String → State → State → Prop := vx_X (fun u : oS => u = σ') (fun E u t => (∃ k, r = .inl k ∧ E = xN k) ∧ (oAt G A h0 h) u t) A
def oyi (G : gT) (h0 : Nat) (h : oH) (r : Int32 ⊕ Int32) (σ' : oS) (A : Nat → Prop) : Array Value → State → Outcome → State → Prop := va_Qi (fun (a : Int32) (u : oS) => r = .inr a ∧ u = σ') (oAtE G A h0 h.2.1 h.2.2.2) A
def oyl (G : gT) (h0 : Nat) (h : oH) (r : Int32 ⊕ Int64) (σ' : oS) (A : Nat → Prop) : Array Value → State → Outcome → State → Prop := va_Ql (fun (a : Int64) (u : oS) => r = .inr a ∧ u = σ') (oAtE G A h0 h.2.1 h.2.2.2) A
def oyv (G : gT) (h0 : Nat) (h : oH) (r : Int32 ⊕ Unit) (σ' : oS) (A : Nat → Prop) : Array Value → State → Outcome → State → Prop := va_Qv (fun (u : oS) => r = .inr () ∧ u = σ') (oAtE G A h0 h.2.1 h.2.2.2) A
def oyX {α : Type} (G : gT) (h0 : Nat) (h : oH) (r : Int32 ⊕ α) (σ' : oS) (A : Nat → Prop) : String → State → State → Prop := vx_X (fun u : oS => u = σ') (fun E u t => (∃ k, r = .inl k ∧ E = xN k) ∧ (oAtE G A h0 h.2.1 h.2.2.2) u t) A
section OX
variable {p : Program} {l : Launch} {e : Env} {R : Room} {s : State} {m : MethodId} {args : Array Value} {below : List Frame} {meth : Method} {c : Code} {H : Heap} {locs : List Loc} {cells slots : Nat} {Q : State → Prop}
variable {cc : ByteArray} {pc : Nat} {ls : Array Slot} {rest st0 : List Value} {A : Nat → Prop} {G : gT} {h0 : Nat} {nL : Nat} {Ts : List Cond}
variable {y : MethodName} {ws ws' : List Cond} {rm : Room} {bytes : ByteArray} {maxL n index mc ms : Nat} {ret : Option FieldType} {As : List Value}
variable {h : oH} {σ σ' : oS}

theorem oZ (hA : ∀ q, s.heap.size ≤ q → A q) (hI : oI s A G h0 h σ H locs) (hZ : xZ A s s.heap) {U : State} (hU : U.heap = H) (hW : s.WarmedH U.vm) : xZ (oA G h0 h σ H.size) U U.heap := by
  rw [hU]
  exact ((hZ.kept hI.2.2.2.1).narrow (ofr hA hI)).warm hW
theorem oxpv (hK : gK G s) (hA : ∀ q, s.heap.size ≤ q → A q) (hI : oI s A G h0 h σ H locs) (hZ : xZ A s s.heap) : PreV s H RX0 h0 (oPreX G h0 h σ H.size As) As :=
  ⟨oPreX_blind, va_recv hK hI.1 (ci := 2) (q0 := 0) rfl rfl, fun U hU hW => ⟨rfl, by rw [hU], by rw [hU]; exact hI.1, gK.moved hW.alike hK, hI.2.1.weaken (fun _ _ _ _ => trivial), oZ hA hI hZ hU hW⟩⟩

theorem oxc_i (S : CallFix p m c cc nL s args Ts RX0) (hK : gK G s) (hA : ∀ q, s.heap.size ≤ q → A q) (hZ : xZ A s s.heap) (hI : oI s A G h0 h σ H locs) {a : Int32} (hM : vx_Met l y ws rm (oPreX G h0 h σ H.size As) (oxi G h0 h (.inr a) σ' (oA G h0 h σ H.size)) (oxX G h0 h ((.inr a) : Int32 ⊕ Int32) σ' (oA G h0 h σ H.size)) mc ms (oA G h0 h σ H.size)) (cw : CallW R s args RX0 RX0 index y bytes maxL ret ws rm mc ms n) (hn : As.length = n) (hs : ls.size = nL) (hst : st0 = As.reverse ++ .ref h0 :: rest) (hW : (rest.map fun v => v.category).sum ≤ 8) (hdg : decode cc pc = .ok (.invokevirtual index, 3)) (hf : cells + mc ≤ R.cells ∧ slots + ms ≤ R.slots) (kk : ∀ (H1 : Heap) (locs1 : List Loc), oI s A G h0 h σ' H1 locs1 → W p l e R s m args below meth c H1 locs1 (cells + mc) (slots + ms) Q (F0 m (pc + 3) ls (.int a :: rest))) : W p l e R s m args below meth c H locs cells slots Q (F0 m pc ls st0) := by
  have hFc := ofr hA hI
  subst hst
  refine vx_calli (vx_runV (As := As) (rest := rest) S hM cw (oxpv hK hA hI hZ) rfl hn hs rfl (lv_room hW) hdg hf) hI.2.2 (fun q _ h => hFc q h) hFc (fun q _ h => hFc q h) (fun E ce q9 u t H1 locs1 ht hvm hp hB hz hk hS hcell hv hcl => ?_) (fun r1 u t H1 locs1 ht hvm hw hB hz1 hk1 hS => ?_)
  · obtain ⟨⟨k, hk9, -⟩, -⟩ := hB; cases hk9
  · obtain ⟨e1, e2⟩ := hw
    have e1 := Sum.inr.inj e1
    subst e1; subst e2
    obtain ⟨hP1, hK1, hD1⟩ := hB
    rw [ht] at hP1
    exact kk H1 locs1 ⟨hP1, hD1.weaken (fun k q _ h => hFc q.1 h), hS⟩
theorem oxt_ix (S : CallFix p m c cc nL s args Ts RX0) (hK : gK G s) (hA : ∀ q, s.heap.size ≤ q → A q) (hZ : xZ A s s.heap) (hI : oI s A G h0 h σ H locs) {α : Type} {Qc : Array Value → State → Outcome → State → Prop} {C N : Nat} {hq : oH} (hno : ∀ x ∈ c.exceptionTable.toList, False) (hlocks : meth.locks = false) {k : Int32} (hM : vx_Met l y ws rm (oPreX G h0 h σ H.size As) (oxi G h0 h (.inl k) σ' (oA G h0 h σ H.size)) (oxX G h0 h ((.inl k) : Int32 ⊕ Int32) σ' (oA G h0 h σ H.size)) mc ms (oA G h0 h σ H.size)) (cw : CallW R s args RX0 RX0 index y bytes maxL ret ws rm mc ms n) (hn : As.length = n) (hs : ls.size = nL) (hst : st0 = As.reverse ++ .ref h0 :: rest) (hW : (rest.map fun v => v.category).sum ≤ 8) (hdg : decode cc pc = .ok (.invokevirtual index, 3)) (hf : cells + mc ≤ R.cells ∧ slots + ms ≤ R.slots) (hh : hq = h) (hC : cells + mc ≤ C) (hN : slots + ms ≤ N) : W p l e R s m args below meth c H locs cells slots (vx_MQ below Qc (oxX G h0 hq (.inl k : Int32 ⊕ α) σ' A) args s C N A) (F0 m pc ls st0) := by
  have hFc := ofr hA hI
  subst hst
  refine vx_calli (vx_runV (As := As) (rest := rest) S hM cw (oxpv hK hA hI hZ) rfl hn hs rfl (lv_room hW) hdg hf) hI.2.2 (fun q _ h => hFc q h) hFc (fun q _ h => hFc q h) (fun E ce q9 u t H1 locs1 ht hvm hp hB hz hk hS hcell hv hcl => ?_) (fun r1 u t H1 locs1 ht hvm hw hB hz1 hk1 hS => ?_)
  · obtain ⟨⟨k9, hk9, hE⟩, hB⟩ := hB
    have hk9 := Sum.inl.inj hk9
    subst hk9; subst hp
    obtain ⟨hP1, hK1, hD1⟩ := hB
    rw [ht] at hP1
    refine vx_out (fun x hx => (hno x hx).elim) hlocks hcell hv hcl (fun t9 ht9 hvm9 => ⟨_, rfl, ⟨⟨_, rfl, hE⟩, ⟨by rw [ht9, hh]; exact hP1, gK.moved hvm9 hK, by rw [hh]; exact hD1.weaken (fun k q _ h => hFc q.1 h)⟩⟩, hS.F ht9⟩) hS.2.2 hC hN
  · obtain ⟨e1, -⟩ := hw; cases e1
theorem oxt_iy (S : CallFix p m c cc nL s args Ts RX0) (hK : gK G s) (hA : ∀ q, s.heap.size ≤ q → A q) (hZ : xZ A s s.heap) (hI : oI s A G h0 h σ H locs) {α : Type} {Qc : Array Value → State → Outcome → State → Prop} {C N : Nat} {hq : oH} (hno : ∀ x ∈ c.exceptionTable.toList, False) (hlocks : meth.locks = false) {k : Int32} (hM : vx_Met l y ws rm (oPreX G h0 h σ H.size As) (oxi G h0 h (.inl k) σ' (oA G h0 h σ H.size)) (oxX G h0 h ((.inl k) : Int32 ⊕ Int32) σ' (oA G h0 h σ H.size)) mc ms (oA G h0 h σ H.size)) (cw : CallW R s args RX0 RX0 index y bytes maxL ret ws rm mc ms n) (hn : As.length = n) (hs : ls.size = nL) (hst : st0 = As.reverse ++ .ref h0 :: rest) (hW : (rest.map fun v => v.category).sum ≤ 8) (hdg : decode cc pc = .ok (.invokevirtual index, 3)) (hf : cells + mc ≤ R.cells ∧ slots + ms ≤ R.slots) (hh : hq.2 = (h.2.1, hq.2.2.1, h.2.2.2)) (hC : cells + mc ≤ C) (hN : slots + ms ≤ N) : W p l e R s m args below meth c H locs cells slots (vx_MQ below Qc (oyX G h0 hq (.inl k : Int32 ⊕ α) σ' A) args s C N A) (F0 m pc ls st0) := by
  have hFc := ofr hA hI
  subst hst
  refine vx_calli (vx_runV (As := As) (rest := rest) S hM cw (oxpv hK hA hI hZ) rfl hn hs rfl (lv_room hW) hdg hf) hI.2.2 (fun q _ h => hFc q h) hFc (fun q _ h => hFc q h) (fun E ce q9 u t H1 locs1 ht hvm hp hB hz hk hS hcell hv hcl => ?_) (fun r1 u t H1 locs1 ht hvm hw hB hz1 hk1 hS => ?_)
  · obtain ⟨⟨k9, hk9, hE⟩, hB⟩ := hB
    have hk9 := Sum.inl.inj hk9
    subst hk9; subst hp
    obtain ⟨hP1, hK1, hD1⟩ := hB
    rw [ht] at hP1
    refine vx_out (fun x hx => (hno x hx).elim) hlocks hcell hv hcl (fun t9 ht9 hvm9 => ⟨_, rfl, ⟨⟨_, rfl, hE⟩, ⟨h.1, h.2.2.1, by rw [ht9, hh]; exact hP1, gK.moved hvm9 hK, by rw [hh]; exact hD1.weaken (fun k q _ h => hFc q.1 h)⟩⟩, hS.F ht9⟩) hS.2.2 hC hN
  · obtain ⟨e1, -⟩ := hw; cases e1
theorem oxc_l (S : CallFix p m c cc nL s args Ts RX0) (hK : gK G s) (hA : ∀ q, s.heap.size ≤ q → A q) (hZ : xZ A s s.heap) (hI : oI s A G h0 h σ H locs) {a : Int64} (hM : vx_Met l y ws rm (oPreX G h0 h σ H.size As) (oxl G h0 h (.inr a) σ' (oA G h0 h σ H.size)) (oxX G h0 h ((.inr a) : Int32 ⊕ Int64) σ' (oA G h0 h σ H.size)) mc ms (oA G h0 h σ H.size)) (cw : CallW R s args RX0 RX0 index y bytes maxL ret ws rm mc ms n) (hn : As.length = n) (hs : ls.size = nL) (hst : st0 = As.reverse ++ .ref h0 :: rest) (hW : (rest.map fun v => v.category).sum ≤ 8) (hdg : decode cc pc = .ok (.invokevirtual index, 3)) (hf : cells + mc ≤ R.cells ∧ slots + ms ≤ R.slots) (kk : ∀ (H1 : Heap) (locs1 : List Loc), oI s A G h0 h σ' H1 locs1 → W p l e R s m args below meth c H1 locs1 (cells + mc) (slots + ms) Q (F0 m (pc + 3) ls (.long a :: rest))) : W p l e R s m args below meth c H locs cells slots Q (F0 m pc ls st0) := by
  have hFc := ofr hA hI
  subst hst
  refine vx_calll (vx_runV (As := As) (rest := rest) S hM cw (oxpv hK hA hI hZ) rfl hn hs rfl (lv_room hW) hdg hf) hI.2.2 (fun q _ h => hFc q h) hFc (fun q _ h => hFc q h) (fun E ce q9 u t H1 locs1 ht hvm hp hB hz hk hS hcell hv hcl => ?_) (fun r1 u t H1 locs1 ht hvm hw hB hz1 hk1 hS => ?_)
  · obtain ⟨⟨k, hk9, -⟩, -⟩ := hB; cases hk9
  · obtain ⟨e1, e2⟩ := hw
    have e1 := Sum.inr.inj e1
    subst e1; subst e2
    obtain ⟨hP1, hK1, hD1⟩ := hB
    rw [ht] at hP1
    exact kk H1 locs1 ⟨hP1, hD1.weaken (fun k q _ h => hFc q.1 h), hS⟩
theorem oxt_lx (S : CallFix p m c cc nL s args Ts RX0) (hK : gK G s) (hA : ∀ q, s.heap.size ≤ q → A q) (hZ : xZ A s s.heap) (hI : oI s A G h0 h σ H locs) {α : Type} {Qc : Array Value → State → Outcome → State → Prop} {C N : Nat} {hq : oH} (hno : ∀ x ∈ c.exceptionTable.toList, False) (hlocks : meth.locks = false) {k : Int32} (hM : vx_Met l y ws rm (oPreX G h0 h σ H.size As) (oxl G h0 h (.inl k) σ' (oA G h0 h σ H.size)) (oxX G h0 h ((.inl k) : Int32 ⊕ Int64) σ' (oA G h0 h σ H.size)) mc ms (oA G h0 h σ H.size)) (cw : CallW R s args RX0 RX0 index y bytes maxL ret ws rm mc ms n) (hn : As.length = n) (hs : ls.size = nL) (hst : st0 = As.reverse ++ .ref h0 :: rest) (hW : (rest.map fun v => v.category).sum ≤ 8) (hdg : decode cc pc = .ok (.invokevirtual index, 3)) (hf : cells + mc ≤ R.cells ∧ slots + ms ≤ R.slots) (hh : hq = h) (hC : cells + mc ≤ C) (hN : slots + ms ≤ N) : W p l e R s m args below meth c H locs cells slots (vx_MQ below Qc (oxX G h0 hq (.inl k : Int32 ⊕ α) σ' A) args s C N A) (F0 m pc ls st0) := by
  have hFc := ofr hA hI
  subst hst
  refine vx_calll (vx_runV (As := As) (rest := rest) S hM cw (oxpv hK hA hI hZ) rfl hn hs rfl (lv_room hW) hdg hf) hI.2.2 (fun q _ h => hFc q h) hFc (fun q _ h => hFc q h) (fun E ce q9 u t H1 locs1 ht hvm hp hB hz hk hS hcell hv hcl => ?_) (fun r1 u t H1 locs1 ht hvm hw hB hz1 hk1 hS => ?_)
  · obtain ⟨⟨k9, hk9, hE⟩, hB⟩ := hB
    have hk9 := Sum.inl.inj hk9
    subst hk9; subst hp
    obtain ⟨hP1, hK1, hD1⟩ := hB
    rw [ht] at hP1
    refine vx_out (fun x hx => (hno x hx).elim) hlocks hcell hv hcl (fun t9 ht9 hvm9 => ⟨_, rfl, ⟨⟨_, rfl, hE⟩, ⟨by rw [ht9, hh]; exact hP1, gK.moved hvm9 hK, by rw [hh]; exact hD1.weaken (fun k q _ h => hFc q.1 h)⟩⟩, hS.F ht9⟩) hS.2.2 hC hN
  · obtain ⟨e1, -⟩ := hw; cases e1
theorem oxt_ly (S : CallFix p m c cc nL s args Ts RX0) (hK : gK G s) (hA : ∀ q, s.heap.size ≤ q → A q) (hZ : xZ A s s.heap) (hI : oI s A G h0 h σ H locs) {α : Type} {Qc : Array Value → State → Outcome → State → Prop} {C N : Nat} {hq : oH} (hno : ∀ x ∈ c.exceptionTable.toList, False) (hlocks : meth.locks = false) {k : Int32} (hM : vx_Met l y ws rm (oPreX G h0 h σ H.size As) (oxl G h0 h (.inl k) σ' (oA G h0 h σ H.size)) (oxX G h0 h ((.inl k) : Int32 ⊕ Int64) σ' (oA G h0 h σ H.size)) mc ms (oA G h0 h σ H.size)) (cw : CallW R s args RX0 RX0 index y bytes maxL ret ws rm mc ms n) (hn : As.length = n) (hs : ls.size = nL) (hst : st0 = As.reverse ++ .ref h0 :: rest) (hW : (rest.map fun v => v.category).sum ≤ 8) (hdg : decode cc pc = .ok (.invokevirtual index, 3)) (hf : cells + mc ≤ R.cells ∧ slots + ms ≤ R.slots) (hh : hq.2 = (h.2.1, hq.2.2.1, h.2.2.2)) (hC : cells + mc ≤ C) (hN : slots + ms ≤ N) : W p l e R s m args below meth c H locs cells slots (vx_MQ below Qc (oyX G h0 hq (.inl k : Int32 ⊕ α) σ' A) args s C N A) (F0 m pc ls st0) := by
  have hFc := ofr hA hI
  subst hst
  refine vx_calll (vx_runV (As := As) (rest := rest) S hM cw (oxpv hK hA hI hZ) rfl hn hs rfl (lv_room hW) hdg hf) hI.2.2 (fun q _ h => hFc q h) hFc (fun q _ h => hFc q h) (fun E ce q9 u t H1 locs1 ht hvm hp hB hz hk hS hcell hv hcl => ?_) (fun r1 u t H1 locs1 ht hvm hw hB hz1 hk1 hS => ?_)
  · obtain ⟨⟨k9, hk9, hE⟩, hB⟩ := hB
    have hk9 := Sum.inl.inj hk9
    subst hk9; subst hp
    obtain ⟨hP1, hK1, hD1⟩ := hB
    rw [ht] at hP1
    refine vx_out (fun x hx => (hno x hx).elim) hlocks hcell hv hcl (fun t9 ht9 hvm9 => ⟨_, rfl, ⟨⟨_, rfl, hE⟩, ⟨h.1, h.2.2.1, by rw [ht9, hh]; exact hP1, gK.moved hvm9 hK, by rw [hh]; exact hD1.weaken (fun k q _ h => hFc q.1 h)⟩⟩, hS.F ht9⟩) hS.2.2 hC hN
  · obtain ⟨e1, -⟩ := hw; cases e1
theorem oxc_v (S : CallFix p m c cc nL s args Ts RX0) (hK : gK G s) (hA : ∀ q, s.heap.size ≤ q → A q) (hZ : xZ A s s.heap) (hI : oI s A G h0 h σ H locs)  (hM : vx_Met l y ws rm (oPreX G h0 h σ H.size As) (oxv G h0 h (.inr ()) σ' (oA G h0 h σ H.size)) (oxX G h0 h ((.inr ()) : Int32 ⊕ Unit) σ' (oA G h0 h σ H.size)) mc ms (oA G h0 h σ H.size)) (cw : CallW R s args RX0 RX0 index y bytes maxL ret ws rm mc ms n) (hn : As.length = n) (hs : ls.size = nL) (hst : st0 = As.reverse ++ .ref h0 :: rest) (hW : (rest.map fun v => v.category).sum ≤ 8) (hdg : decode cc pc = .ok (.invokevirtual index, 3)) (hf : cells + mc ≤ R.cells ∧ slots + ms ≤ R.slots) (kk : ∀ (H1 : Heap) (locs1 : List Loc), oI s A G h0 h σ' H1 locs1 → W p l e R s m args below meth c H1 locs1 (cells + mc) (slots + ms) Q (F0 m (pc + 3) ls (rest))) : W p l e R s m args below meth c H locs cells slots Q (F0 m pc ls st0) := by
  have hFc := ofr hA hI
  subst hst
  refine vx_callv (vx_runV (As := As) (rest := rest) S hM cw (oxpv hK hA hI hZ) rfl hn hs rfl (lv_room hW) hdg hf) hI.2.2 (fun q _ h => hFc q h) hFc (fun q _ h => hFc q h) (fun E ce q9 u t H1 locs1 ht hvm hp hB hz hk hS hcell hv hcl => ?_) (fun u t H1 locs1 ht hvm hw hB hz1 hk1 hS => ?_)
  · obtain ⟨⟨k, hk9, -⟩, -⟩ := hB; cases hk9
  · obtain ⟨-, e2⟩ := hw
    subst e2
    obtain ⟨hP1, hK1, hD1⟩ := hB
    rw [ht] at hP1
    exact kk H1 locs1 ⟨hP1, hD1.weaken (fun k q _ h => hFc q.1 h), hS⟩
theorem oxt_vx (S : CallFix p m c cc nL s args Ts RX0) (hK : gK G s) (hA : ∀ q, s.heap.size ≤ q → A q) (hZ : xZ A s s.heap) (hI : oI s A G h0 h σ H locs) {α : Type} {Qc : Array Value → State → Outcome → State → Prop} {C N : Nat} {hq : oH} (hno : ∀ x ∈ c.exceptionTable.toList, False) (hlocks : meth.locks = false) {k : Int32} (hM : vx_Met l y ws rm (oPreX G h0 h σ H.size As) (oxv G h0 h (.inl k) σ' (oA G h0 h σ H.size)) (oxX G h0 h ((.inl k) : Int32 ⊕ Unit) σ' (oA G h0 h σ H.size)) mc ms (oA G h0 h σ H.size)) (cw : CallW R s args RX0 RX0 index y bytes maxL ret ws rm mc ms n) (hn : As.length = n) (hs : ls.size = nL) (hst : st0 = As.reverse ++ .ref h0 :: rest) (hW : (rest.map fun v => v.category).sum ≤ 8) (hdg : decode cc pc = .ok (.invokevirtual index, 3)) (hf : cells + mc ≤ R.cells ∧ slots + ms ≤ R.slots) (hh : hq = h) (hC : cells + mc ≤ C) (hN : slots + ms ≤ N) : W p l e R s m args below meth c H locs cells slots (vx_MQ below Qc (oxX G h0 hq (.inl k : Int32 ⊕ α) σ' A) args s C N A) (F0 m pc ls st0) := by
  have hFc := ofr hA hI
  subst hst
  refine vx_callv (vx_runV (As := As) (rest := rest) S hM cw (oxpv hK hA hI hZ) rfl hn hs rfl (lv_room hW) hdg hf) hI.2.2 (fun q _ h => hFc q h) hFc (fun q _ h => hFc q h) (fun E ce q9 u t H1 locs1 ht hvm hp hB hz hk hS hcell hv hcl => ?_) (fun u t H1 locs1 ht hvm hw hB hz1 hk1 hS => ?_)
  · obtain ⟨⟨k9, hk9, hE⟩, hB⟩ := hB
    have hk9 := Sum.inl.inj hk9
    subst hk9; subst hp
    obtain ⟨hP1, hK1, hD1⟩ := hB
    rw [ht] at hP1
    refine vx_out (fun x hx => (hno x hx).elim) hlocks hcell hv hcl (fun t9 ht9 hvm9 => ⟨_, rfl, ⟨⟨_, rfl, hE⟩, ⟨by rw [ht9, hh]; exact hP1, gK.moved hvm9 hK, by rw [hh]; exact hD1.weaken (fun k q _ h => hFc q.1 h)⟩⟩, hS.F ht9⟩) hS.2.2 hC hN
  · obtain ⟨e1, -⟩ := hw; cases e1
theorem oxt_vy (S : CallFix p m c cc nL s args Ts RX0) (hK : gK G s) (hA : ∀ q, s.heap.size ≤ q → A q) (hZ : xZ A s s.heap) (hI : oI s A G h0 h σ H locs) {α : Type} {Qc : Array Value → State → Outcome → State → Prop} {C N : Nat} {hq : oH} (hno : ∀ x ∈ c.exceptionTable.toList, False) (hlocks : meth.locks = false) {k : Int32} (hM : vx_Met l y ws rm (oPreX G h0 h σ H.size As) (oxv G h0 h (.inl k) σ' (oA G h0 h σ H.size)) (oxX G h0 h ((.inl k) : Int32 ⊕ Unit) σ' (oA G h0 h σ H.size)) mc ms (oA G h0 h σ H.size)) (cw : CallW R s args RX0 RX0 index y bytes maxL ret ws rm mc ms n) (hn : As.length = n) (hs : ls.size = nL) (hst : st0 = As.reverse ++ .ref h0 :: rest) (hW : (rest.map fun v => v.category).sum ≤ 8) (hdg : decode cc pc = .ok (.invokevirtual index, 3)) (hf : cells + mc ≤ R.cells ∧ slots + ms ≤ R.slots) (hh : hq.2 = (h.2.1, hq.2.2.1, h.2.2.2)) (hC : cells + mc ≤ C) (hN : slots + ms ≤ N) : W p l e R s m args below meth c H locs cells slots (vx_MQ below Qc (oyX G h0 hq (.inl k : Int32 ⊕ α) σ' A) args s C N A) (F0 m pc ls st0) := by
  have hFc := ofr hA hI
  subst hst
  refine vx_callv (vx_runV (As := As) (rest := rest) S hM cw (oxpv hK hA hI hZ) rfl hn hs rfl (lv_room hW) hdg hf) hI.2.2 (fun q _ h => hFc q h) hFc (fun q _ h => hFc q h) (fun E ce q9 u t H1 locs1 ht hvm hp hB hz hk hS hcell hv hcl => ?_) (fun u t H1 locs1 ht hvm hw hB hz1 hk1 hS => ?_)
  · obtain ⟨⟨k9, hk9, hE⟩, hB⟩ := hB
    have hk9 := Sum.inl.inj hk9
    subst hk9; subst hp
    obtain ⟨hP1, hK1, hD1⟩ := hB
    rw [ht] at hP1
    refine vx_out (fun x hx => (hno x hx).elim) hlocks hcell hv hcl (fun t9 ht9 hvm9 => ⟨_, rfl, ⟨⟨_, rfl, hE⟩, ⟨h.1, h.2.2.1, by rw [ht9, hh]; exact hP1, gK.moved hvm9 hK, by rw [hh]; exact hD1.weaken (fun k q _ h => hFc q.1 h)⟩⟩, hS.F ht9⟩) hS.2.2 hC hN
  · obtain ⟨e1, -⟩ := hw; cases e1
theorem oyc_i (S : CallFix p m c cc nL s args Ts RX0) (hK : gK G s) (hA : ∀ q, s.heap.size ≤ q → A q) (hZ : xZ A s s.heap) (hI : oI s A G h0 h σ H locs) {a : Int32} (hM : vx_Met l y ws rm (oPreX G h0 h σ H.size As) (oyi G h0 h (.inr a) σ' (oA G h0 h σ H.size)) (oyX G h0 h ((.inr a) : Int32 ⊕ Int32) σ' (oA G h0 h σ H.size)) mc ms (oA G h0 h σ H.size)) (cw : CallW R s args RX0 RX0 index y bytes maxL ret ws rm mc ms n) (hn : As.length = n) (hs : ls.size = nL) (hst : st0 = As.reverse ++ .ref h0 :: rest) (hW : (rest.map fun v => v.category).sum ≤ 8) (hdg : decode cc pc = .ok (.invokevirtual index, 3)) (hf : cells + mc ≤ R.cells ∧ slots + ms ≤ R.slots) (kk : ∀ (hw hn : Nat) (H1 : Heap) (locs1 : List Loc), oI s A G h0 (hw, h.2.1, hn, h.2.2.2) σ' H1 locs1 → W p l e R s m args below meth c H1 locs1 (cells + mc) (slots + ms) Q (F0 m (pc + 3) ls (.int a :: rest))) : W p l e R s m args below meth c H locs cells slots Q (F0 m pc ls st0) := by
  have hFc := ofr hA hI
  subst hst
  refine vx_calli (vx_runV (As := As) (rest := rest) S hM cw (oxpv hK hA hI hZ) rfl hn hs rfl (lv_room hW) hdg hf) hI.2.2 (fun q _ h => hFc q h) hFc (fun q _ h => hFc q h) (fun E ce q9 u t H1 locs1 ht hvm hp hB hz hk hS hcell hv hcl => ?_) (fun r1 u t H1 locs1 ht hvm hw hB hz1 hk1 hS => ?_)
  · obtain ⟨⟨k, hk9, -⟩, -⟩ := hB; cases hk9
  · obtain ⟨e1, e2⟩ := hw
    have e1 := Sum.inr.inj e1
    subst e1; subst e2
    obtain ⟨hw1, hn1, hP1, hK1, hD1⟩ := hB
    rw [ht] at hP1
    exact kk hw1 hn1 H1 locs1 ⟨hP1, hD1.weaken (fun k q _ h => hFc q.1 h), hS⟩
theorem oyt_iy (S : CallFix p m c cc nL s args Ts RX0) (hK : gK G s) (hA : ∀ q, s.heap.size ≤ q → A q) (hZ : xZ A s s.heap) (hI : oI s A G h0 h σ H locs) {α : Type} {Qc : Array Value → State → Outcome → State → Prop} {C N : Nat} {hq : oH} (hno : ∀ x ∈ c.exceptionTable.toList, False) (hlocks : meth.locks = false) {k : Int32} (hM : vx_Met l y ws rm (oPreX G h0 h σ H.size As) (oyi G h0 h (.inl k) σ' (oA G h0 h σ H.size)) (oyX G h0 h ((.inl k) : Int32 ⊕ Int32) σ' (oA G h0 h σ H.size)) mc ms (oA G h0 h σ H.size)) (cw : CallW R s args RX0 RX0 index y bytes maxL ret ws rm mc ms n) (hn : As.length = n) (hs : ls.size = nL) (hst : st0 = As.reverse ++ .ref h0 :: rest) (hW : (rest.map fun v => v.category).sum ≤ 8) (hdg : decode cc pc = .ok (.invokevirtual index, 3)) (hf : cells + mc ≤ R.cells ∧ slots + ms ≤ R.slots) (hh : hq.2 = (h.2.1, hq.2.2.1, h.2.2.2)) (hC : cells + mc ≤ C) (hN : slots + ms ≤ N) : W p l e R s m args below meth c H locs cells slots (vx_MQ below Qc (oyX G h0 hq (.inl k : Int32 ⊕ α) σ' A) args s C N A) (F0 m pc ls st0) := by
  have hFc := ofr hA hI
  subst hst
  refine vx_calli (vx_runV (As := As) (rest := rest) S hM cw (oxpv hK hA hI hZ) rfl hn hs rfl (lv_room hW) hdg hf) hI.2.2 (fun q _ h => hFc q h) hFc (fun q _ h => hFc q h) (fun E ce q9 u t H1 locs1 ht hvm hp hB hz hk hS hcell hv hcl => ?_) (fun r1 u t H1 locs1 ht hvm hw hB hz1 hk1 hS => ?_)
  · obtain ⟨⟨k9, hk9, hE⟩, hB⟩ := hB
    have hk9 := Sum.inl.inj hk9
    subst hk9; subst hp
    obtain ⟨hw1, hn1, hP1, hK1, hD1⟩ := hB
    rw [ht] at hP1
    refine vx_out (fun x hx => (hno x hx).elim) hlocks hcell hv hcl (fun t9 ht9 hvm9 => ⟨_, rfl, ⟨⟨_, rfl, hE⟩, ⟨hw1, hn1, by rw [ht9, hh]; exact hP1, gK.moved hvm9 hK, by rw [hh]; exact hD1.weaken (fun k q _ h => hFc q.1 h)⟩⟩, hS.F ht9⟩) hS.2.2 hC hN
  · obtain ⟨e1, -⟩ := hw; cases e1
theorem oyc_l (S : CallFix p m c cc nL s args Ts RX0) (hK : gK G s) (hA : ∀ q, s.heap.size ≤ q → A q) (hZ : xZ A s s.heap) (hI : oI s A G h0 h σ H locs) {a : Int64} (hM : vx_Met l y ws rm (oPreX G h0 h σ H.size As) (oyl G h0 h (.inr a) σ' (oA G h0 h σ H.size)) (oyX G h0 h ((.inr a) : Int32 ⊕ Int64) σ' (oA G h0 h σ H.size)) mc ms (oA G h0 h σ H.size)) (cw : CallW R s args RX0 RX0 index y bytes maxL ret ws rm mc ms n) (hn : As.length = n) (hs : ls.size = nL) (hst : st0 = As.reverse ++ .ref h0 :: rest) (hW : (rest.map fun v => v.category).sum ≤ 8) (hdg : decode cc pc = .ok (.invokevirtual index, 3)) (hf : cells + mc ≤ R.cells ∧ slots + ms ≤ R.slots) (kk : ∀ (hw hn : Nat) (H1 : Heap) (locs1 : List Loc), oI s A G h0 (hw, h.2.1, hn, h.2.2.2) σ' H1 locs1 → W p l e R s m args below meth c H1 locs1 (cells + mc) (slots + ms) Q (F0 m (pc + 3) ls (.long a :: rest))) : W p l e R s m args below meth c H locs cells slots Q (F0 m pc ls st0) := by
  have hFc := ofr hA hI
  subst hst
  refine vx_calll (vx_runV (As := As) (rest := rest) S hM cw (oxpv hK hA hI hZ) rfl hn hs rfl (lv_room hW) hdg hf) hI.2.2 (fun q _ h => hFc q h) hFc (fun q _ h => hFc q h) (fun E ce q9 u t H1 locs1 ht hvm hp hB hz hk hS hcell hv hcl => ?_) (fun r1 u t H1 locs1 ht hvm hw hB hz1 hk1 hS => ?_)
  · obtain ⟨⟨k, hk9, -⟩, -⟩ := hB; cases hk9
  · obtain ⟨e1, e2⟩ := hw
    have e1 := Sum.inr.inj e1
    subst e1; subst e2
    obtain ⟨hw1, hn1, hP1, hK1, hD1⟩ := hB
    rw [ht] at hP1
    exact kk hw1 hn1 H1 locs1 ⟨hP1, hD1.weaken (fun k q _ h => hFc q.1 h), hS⟩
theorem oyt_ly (S : CallFix p m c cc nL s args Ts RX0) (hK : gK G s) (hA : ∀ q, s.heap.size ≤ q → A q) (hZ : xZ A s s.heap) (hI : oI s A G h0 h σ H locs) {α : Type} {Qc : Array Value → State → Outcome → State → Prop} {C N : Nat} {hq : oH} (hno : ∀ x ∈ c.exceptionTable.toList, False) (hlocks : meth.locks = false) {k : Int32} (hM : vx_Met l y ws rm (oPreX G h0 h σ H.size As) (oyl G h0 h (.inl k) σ' (oA G h0 h σ H.size)) (oyX G h0 h ((.inl k) : Int32 ⊕ Int64) σ' (oA G h0 h σ H.size)) mc ms (oA G h0 h σ H.size)) (cw : CallW R s args RX0 RX0 index y bytes maxL ret ws rm mc ms n) (hn : As.length = n) (hs : ls.size = nL) (hst : st0 = As.reverse ++ .ref h0 :: rest) (hW : (rest.map fun v => v.category).sum ≤ 8) (hdg : decode cc pc = .ok (.invokevirtual index, 3)) (hf : cells + mc ≤ R.cells ∧ slots + ms ≤ R.slots) (hh : hq.2 = (h.2.1, hq.2.2.1, h.2.2.2)) (hC : cells + mc ≤ C) (hN : slots + ms ≤ N) : W p l e R s m args below meth c H locs cells slots (vx_MQ below Qc (oyX G h0 hq (.inl k : Int32 ⊕ α) σ' A) args s C N A) (F0 m pc ls st0) := by
  have hFc := ofr hA hI
  subst hst
  refine vx_calll (vx_runV (As := As) (rest := rest) S hM cw (oxpv hK hA hI hZ) rfl hn hs rfl (lv_room hW) hdg hf) hI.2.2 (fun q _ h => hFc q h) hFc (fun q _ h => hFc q h) (fun E ce q9 u t H1 locs1 ht hvm hp hB hz hk hS hcell hv hcl => ?_) (fun r1 u t H1 locs1 ht hvm hw hB hz1 hk1 hS => ?_)
  · obtain ⟨⟨k9, hk9, hE⟩, hB⟩ := hB
    have hk9 := Sum.inl.inj hk9
    subst hk9; subst hp
    obtain ⟨hw1, hn1, hP1, hK1, hD1⟩ := hB
    rw [ht] at hP1
    refine vx_out (fun x hx => (hno x hx).elim) hlocks hcell hv hcl (fun t9 ht9 hvm9 => ⟨_, rfl, ⟨⟨_, rfl, hE⟩, ⟨hw1, hn1, by rw [ht9, hh]; exact hP1, gK.moved hvm9 hK, by rw [hh]; exact hD1.weaken (fun k q _ h => hFc q.1 h)⟩⟩, hS.F ht9⟩) hS.2.2 hC hN
  · obtain ⟨e1, -⟩ := hw; cases e1
theorem oyc_v (S : CallFix p m c cc nL s args Ts RX0) (hK : gK G s) (hA : ∀ q, s.heap.size ≤ q → A q) (hZ : xZ A s s.heap) (hI : oI s A G h0 h σ H locs)  (hM : vx_Met l y ws rm (oPreX G h0 h σ H.size As) (oyv G h0 h (.inr ()) σ' (oA G h0 h σ H.size)) (oyX G h0 h ((.inr ()) : Int32 ⊕ Unit) σ' (oA G h0 h σ H.size)) mc ms (oA G h0 h σ H.size)) (cw : CallW R s args RX0 RX0 index y bytes maxL ret ws rm mc ms n) (hn : As.length = n) (hs : ls.size = nL) (hst : st0 = As.reverse ++ .ref h0 :: rest) (hW : (rest.map fun v => v.category).sum ≤ 8) (hdg : decode cc pc = .ok (.invokevirtual index, 3)) (hf : cells + mc ≤ R.cells ∧ slots + ms ≤ R.slots) (kk : ∀ (hw hn : Nat) (H1 : Heap) (locs1 : List Loc), oI s A G h0 (hw, h.2.1, hn, h.2.2.2) σ' H1 locs1 → W p l e R s m args below meth c H1 locs1 (cells + mc) (slots + ms) Q (F0 m (pc + 3) ls (rest))) : W p l e R s m args below meth c H locs cells slots Q (F0 m pc ls st0) := by
  have hFc := ofr hA hI
  subst hst
  refine vx_callv (vx_runV (As := As) (rest := rest) S hM cw (oxpv hK hA hI hZ) rfl hn hs rfl (lv_room hW) hdg hf) hI.2.2 (fun q _ h => hFc q h) hFc (fun q _ h => hFc q h) (fun E ce q9 u t H1 locs1 ht hvm hp hB hz hk hS hcell hv hcl => ?_) (fun u t H1 locs1 ht hvm hw hB hz1 hk1 hS => ?_)
  · obtain ⟨⟨k, hk9, -⟩, -⟩ := hB; cases hk9
  · obtain ⟨-, e2⟩ := hw
    subst e2
    obtain ⟨hw1, hn1, hP1, hK1, hD1⟩ := hB
    rw [ht] at hP1
    exact kk hw1 hn1 H1 locs1 ⟨hP1, hD1.weaken (fun k q _ h => hFc q.1 h), hS⟩
theorem oyt_vy (S : CallFix p m c cc nL s args Ts RX0) (hK : gK G s) (hA : ∀ q, s.heap.size ≤ q → A q) (hZ : xZ A s s.heap) (hI : oI s A G h0 h σ H locs) {α : Type} {Qc : Array Value → State → Outcome → State → Prop} {C N : Nat} {hq : oH} (hno : ∀ x ∈ c.exceptionTable.toList, False) (hlocks : meth.locks = false) {k : Int32} (hM : vx_Met l y ws rm (oPreX G h0 h σ H.size As) (oyv G h0 h (.inl k) σ' (oA G h0 h σ H.size)) (oyX G h0 h ((.inl k) : Int32 ⊕ Unit) σ' (oA G h0 h σ H.size)) mc ms (oA G h0 h σ H.size)) (cw : CallW R s args RX0 RX0 index y bytes maxL ret ws rm mc ms n) (hn : As.length = n) (hs : ls.size = nL) (hst : st0 = As.reverse ++ .ref h0 :: rest) (hW : (rest.map fun v => v.category).sum ≤ 8) (hdg : decode cc pc = .ok (.invokevirtual index, 3)) (hf : cells + mc ≤ R.cells ∧ slots + ms ≤ R.slots) (hh : hq.2 = (h.2.1, hq.2.2.1, h.2.2.2)) (hC : cells + mc ≤ C) (hN : slots + ms ≤ N) : W p l e R s m args below meth c H locs cells slots (vx_MQ below Qc (oyX G h0 hq (.inl k : Int32 ⊕ α) σ' A) args s C N A) (F0 m pc ls st0) := by
  have hFc := ofr hA hI
  subst hst
  refine vx_callv (vx_runV (As := As) (rest := rest) S hM cw (oxpv hK hA hI hZ) rfl hn hs rfl (lv_room hW) hdg hf) hI.2.2 (fun q _ h => hFc q h) hFc (fun q _ h => hFc q h) (fun E ce q9 u t H1 locs1 ht hvm hp hB hz hk hS hcell hv hcl => ?_) (fun u t H1 locs1 ht hvm hw hB hz1 hk1 hS => ?_)
  · obtain ⟨⟨k9, hk9, hE⟩, hB⟩ := hB
    have hk9 := Sum.inl.inj hk9
    subst hk9; subst hp
    obtain ⟨hw1, hn1, hP1, hK1, hD1⟩ := hB
    rw [ht] at hP1
    refine vx_out (fun x hx => (hno x hx).elim) hlocks hcell hv hcl (fun t9 ht9 hvm9 => ⟨_, rfl, ⟨⟨_, rfl, hE⟩, ⟨hw1, hn1, by rw [ht9, hh]; exact hP1, gK.moved hvm9 hK, by rw [hh]; exact hD1.weaken (fun k q _ h => hFc q.1 h)⟩⟩, hS.F ht9⟩) hS.2.2 hC hN
  · obtain ⟨e1, -⟩ := hw; cases e1
theorem onv (S : CallFix p m c cc nL s args Ts RX0) (hA : ∀ q, s.heap.size ≤ q → A q) (hZ : xZ A s s.heap) (hI : oI s A G h0 h σ H locs)
    (hM : vx_Met l y ws rm (sPreX H.size As) (sXv (.inr ()) H.size) (sXX (.inr ()) H.size) mc ms (fun q => H.size ≤ q))
    (cw : CallB R s args RX0 index y bytes maxL ret ws rm mc ms n ∧ (Cond.static y).before args s = true) (hn : As.length = n) (hs : ls.size = nL) (hst : st0 = As.reverse ++ rest) (hW : (rest.map fun v => v.category).sum ≤ 8) (hdg : decode cc pc = .ok (.invokestatic index, 3)) (hf : cells + mc ≤ R.cells ∧ slots + ms ≤ R.slots)
    (kk : ∀ (H1 : Heap) (locs1 : List Loc), oI s A G h0 h σ H1 locs1 → W p l e R s m args below meth c H1 locs1 (cells + mc) (slots + ms) Q (F0 m (pc + 3) ls rest)) : W p l e R s m args below meth c H locs cells slots Q (F0 m pc ls st0) := by
  subst hst
  refine vx_callv (vx_runS (As := As) (rest := rest) S hM cw ⟨sPreX_blind, fun U hU hW => ⟨rfl, congrArg (fun X : Heap => Array.size X) hU, by rw [hU]; exact ((hZ.kept hI.2.2.2.1).narrow (fun q h => hA q (Nat.le_trans hI.2.2.1 h))).warm hW⟩⟩ rfl hn hs rfl (lv_room hW) hdg hf) hI.2.2 (fun q hq h => absurd h (Nat.not_le.mpr hq)) (fun q h => hA q (Nat.le_trans hI.2.2.1 h)) (fun q hq h => absurd h (Nat.not_le.mpr hq)) (fun E ce q9 u t H1 locs1 ht hvm hp hB hz hk hS hcell hv hcl => ?_) (fun u t H1 locs1 ht hvm hw hB hz1 hk1 hS => ?_)
  · obtain ⟨k, hk9, -⟩ := hB; cases hk9
  · exact kk H1 locs1 ⟨hI.1.kept (fun k q hq => hk1 q.1 (hI.1 k q hq).lt (Nat.not_le.mpr (hI.1 k q hq).lt)), hI.2.1, hS⟩

theorem ont_x (S : CallFix p m c cc nL s args Ts RX0) (hK : gK G s) (hA : ∀ q, s.heap.size ≤ q → A q) (hZ : xZ A s s.heap) (hI : oI s A G h0 h σ H locs) {α : Type} {Qc : Array Value → State → Outcome → State → Prop} {C N : Nat} {hq : oH} (hno : ∀ x ∈ c.exceptionTable.toList, False) (hlocks : meth.locks = false) {k : Int32}
    (hM : vx_Met l y ws rm (sPreX H.size As) (sXv (.inl k) H.size) (sXX (.inl k) H.size) mc ms (fun q => H.size ≤ q))
    (cw : CallB R s args RX0 index y bytes maxL ret ws rm mc ms n ∧ (Cond.static y).before args s = true) (hn : As.length = n) (hs : ls.size = nL) (hst : st0 = As.reverse ++ rest) (hW : (rest.map fun v => v.category).sum ≤ 8) (hdg : decode cc pc = .ok (.invokestatic index, 3)) (hf : cells + mc ≤ R.cells ∧ slots + ms ≤ R.slots) (hh : hq = h) (hC : cells + mc ≤ C) (hN : slots + ms ≤ N) : W p l e R s m args below meth c H locs cells slots (vx_MQ below Qc (oxX G h0 hq (.inl k : Int32 ⊕ α) σ A) args s C N A) (F0 m pc ls st0) := by
  subst hst
  refine vx_callv (vx_runS (As := As) (rest := rest) S hM cw ⟨sPreX_blind, fun U hU hW => ⟨rfl, congrArg (fun X : Heap => Array.size X) hU, by rw [hU]; exact ((hZ.kept hI.2.2.2.1).narrow (fun q h => hA q (Nat.le_trans hI.2.2.1 h))).warm hW⟩⟩ rfl hn hs rfl (lv_room hW) hdg hf) hI.2.2 (fun q hq h => absurd h (Nat.not_le.mpr hq)) (fun q h => hA q (Nat.le_trans hI.2.2.1 h)) (fun q hq h => absurd h (Nat.not_le.mpr hq)) (fun E ce q9 u t H1 locs1 ht hvm hp hB hz hk hS hcell hv hcl => ?_) (fun u t H1 locs1 ht hvm hw hB hz1 hk1 hS => ?_)
  · obtain ⟨k9, hk9, hE⟩ := hB
    have hk9 := Sum.inl.inj hk9
    subst hk9
    have hP1 : va_P G.1 vwCl (ow G h0 h σ) H1 := hI.1.kept (fun k q hq => hk q.1 (hI.1 k q hq).lt (Nat.not_le.mpr (hI.1 k q hq).lt))
    refine vx_out (fun x hx => (hno x hx).elim) hlocks hcell hv hcl (fun t9 ht9 hvm9 => ⟨_, rfl, ⟨⟨_, rfl, hE⟩, ⟨by rw [ht9, hh]; exact hP1, gK.moved hvm9 hK, by rw [hh]; exact hI.2.1⟩⟩, hS.F ht9⟩) hS.2.2 hC hN
  · have e1 : (Sum.inl k : Int32 ⊕ Unit) = .inr () := hw
    cases e1

theorem ont_y (S : CallFix p m c cc nL s args Ts RX0) (hK : gK G s) (hA : ∀ q, s.heap.size ≤ q → A q) (hZ : xZ A s s.heap) (hI : oI s A G h0 h σ H locs) {α : Type} {Qc : Array Value → State → Outcome → State → Prop} {C N : Nat} {hq : oH} (hno : ∀ x ∈ c.exceptionTable.toList, False) (hlocks : meth.locks = false) {k : Int32}
    (hM : vx_Met l y ws rm (sPreX H.size As) (sXv (.inl k) H.size) (sXX (.inl k) H.size) mc ms (fun q => H.size ≤ q))
    (cw : CallB R s args RX0 index y bytes maxL ret ws rm mc ms n ∧ (Cond.static y).before args s = true) (hn : As.length = n) (hs : ls.size = nL) (hst : st0 = As.reverse ++ rest) (hW : (rest.map fun v => v.category).sum ≤ 8) (hdg : decode cc pc = .ok (.invokestatic index, 3)) (hf : cells + mc ≤ R.cells ∧ slots + ms ≤ R.slots) (hh : hq.2 = (h.2.1, hq.2.2.1, h.2.2.2)) (hC : cells + mc ≤ C) (hN : slots + ms ≤ N) : W p l e R s m args below meth c H locs cells slots (vx_MQ below Qc (oyX G h0 hq (.inl k : Int32 ⊕ α) σ A) args s C N A) (F0 m pc ls st0) := by
  subst hst
  refine vx_callv (vx_runS (As := As) (rest := rest) S hM cw ⟨sPreX_blind, fun U hU hW => ⟨rfl, congrArg (fun X : Heap => Array.size X) hU, by rw [hU]; exact ((hZ.kept hI.2.2.2.1).narrow (fun q h => hA q (Nat.le_trans hI.2.2.1 h))).warm hW⟩⟩ rfl hn hs rfl (lv_room hW) hdg hf) hI.2.2 (fun q hq h => absurd h (Nat.not_le.mpr hq)) (fun q h => hA q (Nat.le_trans hI.2.2.1 h)) (fun q hq h => absurd h (Nat.not_le.mpr hq)) (fun E ce q9 u t H1 locs1 ht hvm hp hB hz hk hS hcell hv hcl => ?_) (fun u t H1 locs1 ht hvm hw hB hz1 hk1 hS => ?_)
  · obtain ⟨k9, hk9, hE⟩ := hB
    have hk9 := Sum.inl.inj hk9
    subst hk9
    have hP1 : va_P G.1 vwCl (ow G h0 h σ) H1 := hI.1.kept (fun k q hq => hk q.1 (hI.1 k q hq).lt (Nat.not_le.mpr (hI.1 k q hq).lt))
    refine vx_out (fun x hx => (hno x hx).elim) hlocks hcell hv hcl (fun t9 ht9 hvm9 => ⟨_, rfl, ⟨⟨_, rfl, hE⟩, ⟨h.1, h.2.2.1, by rw [ht9, hh]; exact hP1, gK.moved hvm9 hK, by rw [hh]; exact hI.2.1⟩⟩, hS.F ht9⟩) hS.2.2 hC hN
  · have e1 : (Sum.inl k : Int32 ⊕ Unit) = .inr () := hw
    cases e1

theorem xg1 : ∀ w ∈ Cond.classLink RX0 65 "java/lang/IllegalArgumentException" :: Cond.initialized "java/lang/IllegalArgumentException" :: vx_atS RX0 69 "java/lang/IllegalArgumentException" ["java/lang/RuntimeException", "java/lang/Exception"], vx_ot w = true := by decide +kernel
theorem xb1 : ∀ w ∈ (vx_atS RX0 69 "java/lang/IllegalArgumentException" ["java/lang/RuntimeException", "java/lang/Exception"]).filter (fun w => !goodWord w), w ∈ xBl := by decide +kernel
theorem xf1 : Bundle.fit "java/lang/IllegalArgumentException" = true ∧ ∀ n ∈ ["java/lang/RuntimeException", "java/lang/Exception"], Bundle.fit n = true := by decide +kernel
theorem oth1_x (S : CallFix p m c cc nL s args Ts RX0) (hK : gK G s) (hZ : xZ A s s.heap) (hI : oI s A G h0 h σ H locs) {α : Type} {hq : oH} (hh : hq = h) (hno : ∀ x ∈ c.exceptionTable.toList, False) (hlocks : meth.locks = false) (htr : l.stackTraces = false) {Qc : Array Value → State → Outcome → State → Prop} {is C N : Nat} {tx : String} (htx : (is, tx) ∈ xTx) (h1 : Cond.classLink RX0 65 "java/lang/IllegalArgumentException" ∈ Ts) (h2 : Cond.initialized "java/lang/IllegalArgumentException" ∈ Ts) (h3 : ∀ w ∈ (vx_atS RX0 69 "java/lang/IllegalArgumentException" ["java/lang/RuntimeException", "java/lang/Exception"]).filter goodWord, w ∈ Ts) (hs : ls.size = nL) (d0 : decode cc pc = .ok (.new 65, 3)) (d3 : decode cc (pc + 3) = .ok (.dup, 1)) (d4 : decode cc (pc + 4) = .ok (.ldc is, 2)) (d6 : decode cc (pc + 6) = .ok (.invokespecial 69, 3)) (d9 : decode cc (pc + 9) = .ok (.athrow, 1)) (hRf : 5 < R.frames) (hRl : (rest.map fun v => v.category).sum + 82 ≤ R.locals) (hRc : cells + 1 ≤ R.cells) (hRs : slots + 6 ≤ R.slots) (hC : cells + 1 ≤ C) (hN : slots + 6 ≤ N) : W p l e R s m args below meth c H locs cells slots (vx_MQ below Qc (oxX G h0 hq (.inl 1 : Int32 ⊕ α) σ A) args s C N A) (F0 m pc ls rest) := by
  obtain ⟨sa, hsa⟩ := hZ.2.2.1 _ htx
  have hat : ∀ w ∈ vx_atS RX0 69 "java/lang/IllegalArgumentException" ["java/lang/RuntimeException", "java/lang/Exception"], w.before args s = true := vx_hat (fun w hw => S.2.2.2.2 w (h3 w hw)) xb1 (fun w hw => xface (xBl_face w hw).1 (xBl_face w hw).2 (Vm.Alike.refl s.vm) (hZ.2.2.2 w hw))
  exact vx_throwS S.1 S.2.1 htr S.2.2.2.1 xf1.1 xf1.2 (S.2.2.2.2 _ h1) (S.2.2.2.2 _ h2) hsa hat xg1 hZ.1 hZ.2.1 hI.2.2 (hs.trans S.2.2.1.symm) d0 d3 d4 d6 d9 (fun x hx => (hno x hx).elim) hRf hRl hRc hRs hlocks (fun t hvm hz hk => ⟨_, rfl, ⟨⟨_, rfl, rfl⟩, ⟨by rw [hh]; exact hI.1.kept (fun k q hq => hk q.1 (hI.1 k q hq).lt), gK.moved hvm hK, by rw [hh]; exact hI.2.1⟩⟩, ⟨Nat.le_trans hI.2.2.1 hz, fun q h1 h2 => by rw [hk q (Nat.lt_of_lt_of_le h1 hI.2.2.1)]; exact hI.2.2.2.1 q h1 h2⟩⟩) hI.2.2.2.2 hC hN
theorem oth1_y (S : CallFix p m c cc nL s args Ts RX0) (hK : gK G s) (hZ : xZ A s s.heap) (hI : oI s A G h0 h σ H locs) {α : Type} {hq : oH} (hh : hq.2 = (h.2.1, hq.2.2.1, h.2.2.2)) (hno : ∀ x ∈ c.exceptionTable.toList, False) (hlocks : meth.locks = false) (htr : l.stackTraces = false) {Qc : Array Value → State → Outcome → State → Prop} {is C N : Nat} {tx : String} (htx : (is, tx) ∈ xTx) (h1 : Cond.classLink RX0 65 "java/lang/IllegalArgumentException" ∈ Ts) (h2 : Cond.initialized "java/lang/IllegalArgumentException" ∈ Ts) (h3 : ∀ w ∈ (vx_atS RX0 69 "java/lang/IllegalArgumentException" ["java/lang/RuntimeException", "java/lang/Exception"]).filter goodWord, w ∈ Ts) (hs : ls.size = nL) (d0 : decode cc pc = .ok (.new 65, 3)) (d3 : decode cc (pc + 3) = .ok (.dup, 1)) (d4 : decode cc (pc + 4) = .ok (.ldc is, 2)) (d6 : decode cc (pc + 6) = .ok (.invokespecial 69, 3)) (d9 : decode cc (pc + 9) = .ok (.athrow, 1)) (hRf : 5 < R.frames) (hRl : (rest.map fun v => v.category).sum + 82 ≤ R.locals) (hRc : cells + 1 ≤ R.cells) (hRs : slots + 6 ≤ R.slots) (hC : cells + 1 ≤ C) (hN : slots + 6 ≤ N) : W p l e R s m args below meth c H locs cells slots (vx_MQ below Qc (oyX G h0 hq (.inl 1 : Int32 ⊕ α) σ A) args s C N A) (F0 m pc ls rest) := by
  obtain ⟨sa, hsa⟩ := hZ.2.2.1 _ htx
  have hat : ∀ w ∈ vx_atS RX0 69 "java/lang/IllegalArgumentException" ["java/lang/RuntimeException", "java/lang/Exception"], w.before args s = true := vx_hat (fun w hw => S.2.2.2.2 w (h3 w hw)) xb1 (fun w hw => xface (xBl_face w hw).1 (xBl_face w hw).2 (Vm.Alike.refl s.vm) (hZ.2.2.2 w hw))
  exact vx_throwS S.1 S.2.1 htr S.2.2.2.1 xf1.1 xf1.2 (S.2.2.2.2 _ h1) (S.2.2.2.2 _ h2) hsa hat xg1 hZ.1 hZ.2.1 hI.2.2 (hs.trans S.2.2.1.symm) d0 d3 d4 d6 d9 (fun x hx => (hno x hx).elim) hRf hRl hRc hRs hlocks (fun t hvm hz hk => ⟨_, rfl, ⟨⟨_, rfl, rfl⟩, ⟨h.1, h.2.2.1, by rw [hh]; exact hI.1.kept (fun k q hq => hk q.1 (hI.1 k q hq).lt), gK.moved hvm hK, by rw [hh]; exact hI.2.1⟩⟩, ⟨Nat.le_trans hI.2.2.1 hz, fun q h1 h2 => by rw [hk q (Nat.lt_of_lt_of_le h1 hI.2.2.1)]; exact hI.2.2.2.1 q h1 h2⟩⟩) hI.2.2.2.2 hC hN
theorem oth1_s (S : CallFix p m c cc nL s args Ts RX0) (hS : sI s H locs) (hZ : xZ (fun q => s.heap.size ≤ q) s s.heap) (hno : ∀ x ∈ c.exceptionTable.toList, False) (hlocks : meth.locks = false) (htr : l.stackTraces = false) {Qc : Array Value → State → Outcome → State → Prop} {is C N : Nat} {tx : String} (htx : (is, tx) ∈ xTx) (h1 : Cond.classLink RX0 65 "java/lang/IllegalArgumentException" ∈ Ts) (h2 : Cond.initialized "java/lang/IllegalArgumentException" ∈ Ts) (h3 : ∀ w ∈ (vx_atS RX0 69 "java/lang/IllegalArgumentException" ["java/lang/RuntimeException", "java/lang/Exception"]).filter goodWord, w ∈ Ts) (hs : ls.size = nL) (d0 : decode cc pc = .ok (.new 65, 3)) (d3 : decode cc (pc + 3) = .ok (.dup, 1)) (d4 : decode cc (pc + 4) = .ok (.ldc is, 2)) (d6 : decode cc (pc + 6) = .ok (.invokespecial 69, 3)) (d9 : decode cc (pc + 9) = .ok (.athrow, 1)) (hRf : 5 < R.frames) (hRl : (rest.map fun v => v.category).sum + 82 ≤ R.locals) (hRc : cells + 1 ≤ R.cells) (hRs : slots + 6 ≤ R.slots) (hC : cells + 1 ≤ C) (hN : slots + 6 ≤ N) : W p l e R s m args below meth c H locs cells slots (vx_MQ below Qc (sXX (.inl 1) s.heap.size) args s C N (fun q => s.heap.size ≤ q)) (F0 m pc ls rest) := by
  obtain ⟨sa, hsa⟩ := hZ.2.2.1 _ htx
  have hat : ∀ w ∈ vx_atS RX0 69 "java/lang/IllegalArgumentException" ["java/lang/RuntimeException", "java/lang/Exception"], w.before args s = true := vx_hat (fun w hw => S.2.2.2.2 w (h3 w hw)) xb1 (fun w hw => xface (xBl_face w hw).1 (xBl_face w hw).2 (Vm.Alike.refl s.vm) (hZ.2.2.2 w hw))
  exact vx_throwS S.1 S.2.1 htr S.2.2.2.1 xf1.1 xf1.2 (S.2.2.2.2 _ h1) (S.2.2.2.2 _ h2) hsa hat xg1 hZ.1 hZ.2.1 hS (hs.trans S.2.2.1.symm) d0 d3 d4 d6 d9 (fun x hx => (hno x hx).elim) hRf hRl hRc hRs hlocks (fun t hvm hz hk => ⟨(), trivial, ⟨_, rfl, rfl⟩, ⟨Nat.le_trans hS.1 hz, fun q h1 h2 => by rw [hk q (Nat.lt_of_lt_of_le h1 hS.1)]; exact hS.2.1 q h1 h2⟩⟩) hS.2.2 hC hN
theorem xg2 : ∀ w ∈ Cond.classLink RX0 118 "java/lang/IllegalStateException" :: Cond.initialized "java/lang/IllegalStateException" :: vx_atS RX0 122 "java/lang/IllegalStateException" ["java/lang/RuntimeException", "java/lang/Exception"], vx_ot w = true := by decide +kernel
theorem xb2 : ∀ w ∈ (vx_atS RX0 122 "java/lang/IllegalStateException" ["java/lang/RuntimeException", "java/lang/Exception"]).filter (fun w => !goodWord w), w ∈ xBl := by decide +kernel
theorem xf2 : Bundle.fit "java/lang/IllegalStateException" = true ∧ ∀ n ∈ ["java/lang/RuntimeException", "java/lang/Exception"], Bundle.fit n = true := by decide +kernel
theorem oth2_x (S : CallFix p m c cc nL s args Ts RX0) (hK : gK G s) (hZ : xZ A s s.heap) (hI : oI s A G h0 h σ H locs) {α : Type} {hq : oH} (hh : hq = h) (hno : ∀ x ∈ c.exceptionTable.toList, False) (hlocks : meth.locks = false) (htr : l.stackTraces = false) {Qc : Array Value → State → Outcome → State → Prop} {is C N : Nat} {tx : String} (htx : (is, tx) ∈ xTx) (h1 : Cond.classLink RX0 118 "java/lang/IllegalStateException" ∈ Ts) (h2 : Cond.initialized "java/lang/IllegalStateException" ∈ Ts) (h3 : ∀ w ∈ (vx_atS RX0 122 "java/lang/IllegalStateException" ["java/lang/RuntimeException", "java/lang/Exception"]).filter goodWord, w ∈ Ts) (hs : ls.size = nL) (d0 : decode cc pc = .ok (.new 118, 3)) (d3 : decode cc (pc + 3) = .ok (.dup, 1)) (d4 : decode cc (pc + 4) = .ok (.ldc is, 2)) (d6 : decode cc (pc + 6) = .ok (.invokespecial 122, 3)) (d9 : decode cc (pc + 9) = .ok (.athrow, 1)) (hRf : 5 < R.frames) (hRl : (rest.map fun v => v.category).sum + 82 ≤ R.locals) (hRc : cells + 1 ≤ R.cells) (hRs : slots + 6 ≤ R.slots) (hC : cells + 1 ≤ C) (hN : slots + 6 ≤ N) : W p l e R s m args below meth c H locs cells slots (vx_MQ below Qc (oxX G h0 hq (.inl 2 : Int32 ⊕ α) σ A) args s C N A) (F0 m pc ls rest) := by
  obtain ⟨sa, hsa⟩ := hZ.2.2.1 _ htx
  have hat : ∀ w ∈ vx_atS RX0 122 "java/lang/IllegalStateException" ["java/lang/RuntimeException", "java/lang/Exception"], w.before args s = true := vx_hat (fun w hw => S.2.2.2.2 w (h3 w hw)) xb2 (fun w hw => xface (xBl_face w hw).1 (xBl_face w hw).2 (Vm.Alike.refl s.vm) (hZ.2.2.2 w hw))
  exact vx_throwS S.1 S.2.1 htr S.2.2.2.1 xf2.1 xf2.2 (S.2.2.2.2 _ h1) (S.2.2.2.2 _ h2) hsa hat xg2 hZ.1 hZ.2.1 hI.2.2 (hs.trans S.2.2.1.symm) d0 d3 d4 d6 d9 (fun x hx => (hno x hx).elim) hRf hRl hRc hRs hlocks (fun t hvm hz hk => ⟨_, rfl, ⟨⟨_, rfl, rfl⟩, ⟨by rw [hh]; exact hI.1.kept (fun k q hq => hk q.1 (hI.1 k q hq).lt), gK.moved hvm hK, by rw [hh]; exact hI.2.1⟩⟩, ⟨Nat.le_trans hI.2.2.1 hz, fun q h1 h2 => by rw [hk q (Nat.lt_of_lt_of_le h1 hI.2.2.1)]; exact hI.2.2.2.1 q h1 h2⟩⟩) hI.2.2.2.2 hC hN
theorem oth2_y (S : CallFix p m c cc nL s args Ts RX0) (hK : gK G s) (hZ : xZ A s s.heap) (hI : oI s A G h0 h σ H locs) {α : Type} {hq : oH} (hh : hq.2 = (h.2.1, hq.2.2.1, h.2.2.2)) (hno : ∀ x ∈ c.exceptionTable.toList, False) (hlocks : meth.locks = false) (htr : l.stackTraces = false) {Qc : Array Value → State → Outcome → State → Prop} {is C N : Nat} {tx : String} (htx : (is, tx) ∈ xTx) (h1 : Cond.classLink RX0 118 "java/lang/IllegalStateException" ∈ Ts) (h2 : Cond.initialized "java/lang/IllegalStateException" ∈ Ts) (h3 : ∀ w ∈ (vx_atS RX0 122 "java/lang/IllegalStateException" ["java/lang/RuntimeException", "java/lang/Exception"]).filter goodWord, w ∈ Ts) (hs : ls.size = nL) (d0 : decode cc pc = .ok (.new 118, 3)) (d3 : decode cc (pc + 3) = .ok (.dup, 1)) (d4 : decode cc (pc + 4) = .ok (.ldc is, 2)) (d6 : decode cc (pc + 6) = .ok (.invokespecial 122, 3)) (d9 : decode cc (pc + 9) = .ok (.athrow, 1)) (hRf : 5 < R.frames) (hRl : (rest.map fun v => v.category).sum + 82 ≤ R.locals) (hRc : cells + 1 ≤ R.cells) (hRs : slots + 6 ≤ R.slots) (hC : cells + 1 ≤ C) (hN : slots + 6 ≤ N) : W p l e R s m args below meth c H locs cells slots (vx_MQ below Qc (oyX G h0 hq (.inl 2 : Int32 ⊕ α) σ A) args s C N A) (F0 m pc ls rest) := by
  obtain ⟨sa, hsa⟩ := hZ.2.2.1 _ htx
  have hat : ∀ w ∈ vx_atS RX0 122 "java/lang/IllegalStateException" ["java/lang/RuntimeException", "java/lang/Exception"], w.before args s = true := vx_hat (fun w hw => S.2.2.2.2 w (h3 w hw)) xb2 (fun w hw => xface (xBl_face w hw).1 (xBl_face w hw).2 (Vm.Alike.refl s.vm) (hZ.2.2.2 w hw))
  exact vx_throwS S.1 S.2.1 htr S.2.2.2.1 xf2.1 xf2.2 (S.2.2.2.2 _ h1) (S.2.2.2.2 _ h2) hsa hat xg2 hZ.1 hZ.2.1 hI.2.2 (hs.trans S.2.2.1.symm) d0 d3 d4 d6 d9 (fun x hx => (hno x hx).elim) hRf hRl hRc hRs hlocks (fun t hvm hz hk => ⟨_, rfl, ⟨⟨_, rfl, rfl⟩, ⟨h.1, h.2.2.1, by rw [hh]; exact hI.1.kept (fun k q hq => hk q.1 (hI.1 k q hq).lt), gK.moved hvm hK, by rw [hh]; exact hI.2.1⟩⟩, ⟨Nat.le_trans hI.2.2.1 hz, fun q h1 h2 => by rw [hk q (Nat.lt_of_lt_of_le h1 hI.2.2.1)]; exact hI.2.2.2.1 q h1 h2⟩⟩) hI.2.2.2.2 hC hN
theorem oth2_s (S : CallFix p m c cc nL s args Ts RX0) (hS : sI s H locs) (hZ : xZ (fun q => s.heap.size ≤ q) s s.heap) (hno : ∀ x ∈ c.exceptionTable.toList, False) (hlocks : meth.locks = false) (htr : l.stackTraces = false) {Qc : Array Value → State → Outcome → State → Prop} {is C N : Nat} {tx : String} (htx : (is, tx) ∈ xTx) (h1 : Cond.classLink RX0 118 "java/lang/IllegalStateException" ∈ Ts) (h2 : Cond.initialized "java/lang/IllegalStateException" ∈ Ts) (h3 : ∀ w ∈ (vx_atS RX0 122 "java/lang/IllegalStateException" ["java/lang/RuntimeException", "java/lang/Exception"]).filter goodWord, w ∈ Ts) (hs : ls.size = nL) (d0 : decode cc pc = .ok (.new 118, 3)) (d3 : decode cc (pc + 3) = .ok (.dup, 1)) (d4 : decode cc (pc + 4) = .ok (.ldc is, 2)) (d6 : decode cc (pc + 6) = .ok (.invokespecial 122, 3)) (d9 : decode cc (pc + 9) = .ok (.athrow, 1)) (hRf : 5 < R.frames) (hRl : (rest.map fun v => v.category).sum + 82 ≤ R.locals) (hRc : cells + 1 ≤ R.cells) (hRs : slots + 6 ≤ R.slots) (hC : cells + 1 ≤ C) (hN : slots + 6 ≤ N) : W p l e R s m args below meth c H locs cells slots (vx_MQ below Qc (sXX (.inl 2) s.heap.size) args s C N (fun q => s.heap.size ≤ q)) (F0 m pc ls rest) := by
  obtain ⟨sa, hsa⟩ := hZ.2.2.1 _ htx
  have hat : ∀ w ∈ vx_atS RX0 122 "java/lang/IllegalStateException" ["java/lang/RuntimeException", "java/lang/Exception"], w.before args s = true := vx_hat (fun w hw => S.2.2.2.2 w (h3 w hw)) xb2 (fun w hw => xface (xBl_face w hw).1 (xBl_face w hw).2 (Vm.Alike.refl s.vm) (hZ.2.2.2 w hw))
  exact vx_throwS S.1 S.2.1 htr S.2.2.2.1 xf2.1 xf2.2 (S.2.2.2.2 _ h1) (S.2.2.2.2 _ h2) hsa hat xg2 hZ.1 hZ.2.1 hS (hs.trans S.2.2.1.symm) d0 d3 d4 d6 d9 (fun x hx => (hno x hx).elim) hRf hRl hRc hRs hlocks (fun t hvm hz hk => ⟨(), trivial, ⟨_, rfl, rfl⟩, ⟨Nat.le_trans hS.1 hz, fun q h1 h2 => by rw [hk q (Nat.lt_of_lt_of_le h1 hS.1)]; exact hS.2.1 q h1 h2⟩⟩) hS.2.2 hC hN
theorem oxe_i (S : CallFix p m c cc nL s args Ts RX0) (hr : meth.sig.returnType = some .int) (hlocks : meth.locks = false) (hK : gK G s) (hI : oI s A G h0 h σ H locs) {hq : oH} (hh : hq = h) {r0 : Int32} {r : Int32 ⊕ Int32} {C N Cr Nr : Nat} (hg : some (.inr r0, σ, 0, 0) = some (r, σ', Cr, Nr)) (hC : cells ≤ C) (hN : slots ≤ N) (hdg : decode cc pc = .ok (.ireturn, 1)) : W p l e R s m args below meth c H locs cells slots (vx_MQ below (oxi G h0 hq r σ' A) (oxX G h0 hq r σ' A) args s C N A) (F0 m pc ls [.int r0]) := by
  obtain ⟨e1, e2, -, -⟩ := x4_e hg
  subst e1; subst e2
  refine W.widen (k := C) (n := N) hC hN ?_
  exact vx_ret (W.iret S.1 S.2.1 hr (fun t ht hW => ⟨⟨r0, σ, rfl, ⟨rfl, rfl⟩, by rw [ht, hh]; exact hI.1, gK.moved hW.alike hK, by rw [hh]; exact hI.2.1⟩, hI.2.2.F ht⟩) hI.2.2.2.2 hdg hlocks)
theorem oxe_z (S : CallFix p m c cc nL s args Ts RX0) (hr : meth.sig.returnType = some .boolean) (hlocks : meth.locks = false) (hK : gK G s) (hI : oI s A G h0 h σ H locs) {hq : oH} (hh : hq = h) {r0 : Int32} {r : Int32 ⊕ Int32} {C N Cr Nr : Nat} (hz : narrow .boolean (.int r0) = .int r0) (hg : some (.inr r0, σ, 0, 0) = some (r, σ', Cr, Nr)) (hC : cells ≤ C) (hN : slots ≤ N) (hdg : decode cc pc = .ok (.ireturn, 1)) : W p l e R s m args below meth c H locs cells slots (vx_MQ below (oxi G h0 hq r σ' A) (oxX G h0 hq r σ' A) args s C N A) (F0 m pc ls [.int r0]) := by
  obtain ⟨e1, e2, -, -⟩ := x4_e hg
  subst e1; subst e2
  refine W.widen (k := C) (n := N) hC hN ?_
  exact vx_ret (W.zret S.1 S.2.1 hr hz (fun t ht hW => ⟨⟨r0, σ, rfl, ⟨rfl, rfl⟩, by rw [ht, hh]; exact hI.1, gK.moved hW.alike hK, by rw [hh]; exact hI.2.1⟩, hI.2.2.F ht⟩) hI.2.2.2.2 hdg hlocks)
theorem oxe_l (S : CallFix p m c cc nL s args Ts RX0) (hr : meth.sig.returnType = some .long) (hlocks : meth.locks = false) (hK : gK G s) (hI : oI s A G h0 h σ H locs) {hq : oH} (hh : hq = h) {r0 : Int64} {r : Int32 ⊕ Int64} {C N Cr Nr : Nat} (hg : some (.inr r0, σ, 0, 0) = some (r, σ', Cr, Nr)) (hC : cells ≤ C) (hN : slots ≤ N) (hdg : decode cc pc = .ok (.lreturn, 1)) : W p l e R s m args below meth c H locs cells slots (vx_MQ below (oxl G h0 hq r σ' A) (oxX G h0 hq r σ' A) args s C N A) (F0 m pc ls [.long r0]) := by
  obtain ⟨e1, e2, -, -⟩ := x4_e hg
  subst e1; subst e2
  refine W.widen (k := C) (n := N) hC hN ?_
  exact vx_ret (W.lret S.1 S.2.1 hr (fun t ht hW => ⟨⟨r0, σ, rfl, ⟨rfl, rfl⟩, by rw [ht, hh]; exact hI.1, gK.moved hW.alike hK, by rw [hh]; exact hI.2.1⟩, hI.2.2.F ht⟩) hI.2.2.2.2 hdg hlocks)
theorem oxe_v (S : CallFix p m c cc nL s args Ts RX0) (hr : meth.sig.returnType = none) (hlocks : meth.locks = false) (hK : gK G s) (hI : oI s A G h0 h σ H locs) {hq : oH} (hh : hq = h)  {r : Int32 ⊕ Unit} {C N Cr Nr : Nat} (hg : some (.inr (), σ, 0, 0) = some (r, σ', Cr, Nr)) (hC : cells ≤ C) (hN : slots ≤ N) (hdg : decode cc pc = .ok (.return_, 1)) : W p l e R s m args below meth c H locs cells slots (vx_MQ below (oxv G h0 hq r σ' A) (oxX G h0 hq r σ' A) args s C N A) (F0 m pc ls []) := by
  obtain ⟨e1, e2, -, -⟩ := x4_e hg
  subst e1; subst e2
  refine W.widen (k := C) (n := N) hC hN ?_
  exact vx_ret (W.vret S.1 S.2.1 hr (fun t ht hW => ⟨⟨σ, rfl, ⟨rfl, rfl⟩, by rw [ht, hh]; exact hI.1, gK.moved hW.alike hK, by rw [hh]; exact hI.2.1⟩, hI.2.2.F ht⟩) hI.2.2.2.2 hdg hlocks)
theorem oye_i (S : CallFix p m c cc nL s args Ts RX0) (hr : meth.sig.returnType = some .int) (hlocks : meth.locks = false) (hK : gK G s) (hI : oI s A G h0 h σ H locs) {hq : oH} (hh : hq.2 = (h.2.1, hq.2.2.1, h.2.2.2)) {r0 : Int32} {r : Int32 ⊕ Int32} {C N Cr Nr : Nat} (hg : some (.inr r0, σ, 0, 0) = some (r, σ', Cr, Nr)) (hC : cells ≤ C) (hN : slots ≤ N) (hdg : decode cc pc = .ok (.ireturn, 1)) : W p l e R s m args below meth c H locs cells slots (vx_MQ below (oyi G h0 hq r σ' A) (oyX G h0 hq r σ' A) args s C N A) (F0 m pc ls [.int r0]) := by
  obtain ⟨e1, e2, -, -⟩ := x4_e hg
  subst e1; subst e2
  refine W.widen (k := C) (n := N) hC hN ?_
  exact vx_ret (W.iret S.1 S.2.1 hr (fun t ht hW => ⟨⟨r0, σ, rfl, ⟨rfl, rfl⟩, h.1, h.2.2.1, by rw [ht, hh]; exact hI.1, gK.moved hW.alike hK, by rw [hh]; exact hI.2.1⟩, hI.2.2.F ht⟩) hI.2.2.2.2 hdg hlocks)
theorem oye_z (S : CallFix p m c cc nL s args Ts RX0) (hr : meth.sig.returnType = some .boolean) (hlocks : meth.locks = false) (hK : gK G s) (hI : oI s A G h0 h σ H locs) {hq : oH} (hh : hq.2 = (h.2.1, hq.2.2.1, h.2.2.2)) {r0 : Int32} {r : Int32 ⊕ Int32} {C N Cr Nr : Nat} (hz : narrow .boolean (.int r0) = .int r0) (hg : some (.inr r0, σ, 0, 0) = some (r, σ', Cr, Nr)) (hC : cells ≤ C) (hN : slots ≤ N) (hdg : decode cc pc = .ok (.ireturn, 1)) : W p l e R s m args below meth c H locs cells slots (vx_MQ below (oyi G h0 hq r σ' A) (oyX G h0 hq r σ' A) args s C N A) (F0 m pc ls [.int r0]) := by
  obtain ⟨e1, e2, -, -⟩ := x4_e hg
  subst e1; subst e2
  refine W.widen (k := C) (n := N) hC hN ?_
  exact vx_ret (W.zret S.1 S.2.1 hr hz (fun t ht hW => ⟨⟨r0, σ, rfl, ⟨rfl, rfl⟩, h.1, h.2.2.1, by rw [ht, hh]; exact hI.1, gK.moved hW.alike hK, by rw [hh]; exact hI.2.1⟩, hI.2.2.F ht⟩) hI.2.2.2.2 hdg hlocks)
theorem oye_l (S : CallFix p m c cc nL s args Ts RX0) (hr : meth.sig.returnType = some .long) (hlocks : meth.locks = false) (hK : gK G s) (hI : oI s A G h0 h σ H locs) {hq : oH} (hh : hq.2 = (h.2.1, hq.2.2.1, h.2.2.2)) {r0 : Int64} {r : Int32 ⊕ Int64} {C N Cr Nr : Nat} (hg : some (.inr r0, σ, 0, 0) = some (r, σ', Cr, Nr)) (hC : cells ≤ C) (hN : slots ≤ N) (hdg : decode cc pc = .ok (.lreturn, 1)) : W p l e R s m args below meth c H locs cells slots (vx_MQ below (oyl G h0 hq r σ' A) (oyX G h0 hq r σ' A) args s C N A) (F0 m pc ls [.long r0]) := by
  obtain ⟨e1, e2, -, -⟩ := x4_e hg
  subst e1; subst e2
  refine W.widen (k := C) (n := N) hC hN ?_
  exact vx_ret (W.lret S.1 S.2.1 hr (fun t ht hW => ⟨⟨r0, σ, rfl, ⟨rfl, rfl⟩, h.1, h.2.2.1, by rw [ht, hh]; exact hI.1, gK.moved hW.alike hK, by rw [hh]; exact hI.2.1⟩, hI.2.2.F ht⟩) hI.2.2.2.2 hdg hlocks)
theorem oye_v (S : CallFix p m c cc nL s args Ts RX0) (hr : meth.sig.returnType = none) (hlocks : meth.locks = false) (hK : gK G s) (hI : oI s A G h0 h σ H locs) {hq : oH} (hh : hq.2 = (h.2.1, hq.2.2.1, h.2.2.2))  {r : Int32 ⊕ Unit} {C N Cr Nr : Nat} (hg : some (.inr (), σ, 0, 0) = some (r, σ', Cr, Nr)) (hC : cells ≤ C) (hN : slots ≤ N) (hdg : decode cc pc = .ok (.return_, 1)) : W p l e R s m args below meth c H locs cells slots (vx_MQ below (oyv G h0 hq r σ' A) (oyX G h0 hq r σ' A) args s C N A) (F0 m pc ls []) := by
  obtain ⟨e1, e2, -, -⟩ := x4_e hg
  subst e1; subst e2
  refine W.widen (k := C) (n := N) hC hN ?_
  exact vx_ret (W.vret S.1 S.2.1 hr (fun t ht hW => ⟨⟨σ, rfl, ⟨rfl, rfl⟩, h.1, h.2.2.1, by rw [ht, hh]; exact hI.1, gK.moved hW.alike hK, by rw [hh]; exact hI.2.1⟩, hI.2.2.F ht⟩) hI.2.2.2.2 hdg hlocks)
theorem sxe_v (S : CallFix p m c cc nL s args Ts RX0) (hr : meth.sig.returnType = none) (hlocks : meth.locks = false) (hS : sI s H locs) (hdg : decode cc pc = .ok (.return_, 1)) : W p l e R s m args below meth c H locs 0 0 (vx_MQ below (sXv (.inr ()) s.heap.size) (sXX (.inr ()) s.heap.size) args s 0 0 (fun q => s.heap.size ≤ q)) (F0 m pc ls []) :=
  vx_ret (W.vret S.1 S.2.1 hr (fun t ht hW => ⟨⟨(), rfl, rfl, trivial⟩, va_S.F hS ht⟩) hS.2.2 hdg hlocks)
/-- a contract of a throwing method out of a walk from the entry -/
theorem oxMet {Qc : (Nat → Prop) → Array Value → State → Outcome → State → Prop} {XC : (Nat → Prop) → String → State → State → Prop} {av : List Value} {sz : Nat} (hy : plainName y.cls = true) (hR : y.cls = RX0) (hw : ws = Cond.code y cc maxL ret :: ws') (hlen : (lg_sl (.ref h0 :: av)).length ≤ maxL)
    (body : ∀ (p : Program) (e : Env) (s : State) (m : MethodId) (args : Array Value) (below : List Frame) (meth : Method) (c : Code) (A : Nat → Prop), CallFix p m c cc maxL s args ws RX0 → meth.sig.returnType = ret → meth.locks = false → (∀ x ∈ c.exceptionTable.toList, False) → gK G s → (∀ q, s.heap.size ≤ q → A q) → xZ A s s.heap → ∀ (H : Heap) (locs : List Loc), oI s A G h0 h σ H locs → ∀ ls : Array Slot, lv_has ls maxL (lv_args 0 (.ref h0 :: av)) →
      W p l e rm s m args below meth c H locs 0 0 (vx_MQ below (Qc A) (XC A) args s mc ms A) (F0 m 0 ls [])) : vx_Met l y ws rm (oPreX G h0 h σ sz av) (Qc (oA G h0 h σ sz)) (XC (oA G h0 h σ sz)) mc ms (oA G h0 h σ sz) := by
  refine vx_ofW (cc := cc) (maxL := maxL) (ret := ret) hy hw ?_
  intro p e s m args below meth c s₁ B hml hno hv
  obtain ⟨rfl, hsz, hP, hK, hD0, hZ⟩ := hv
  subst hsz
  have hts := atoms_spec (ws := ws) B.pre
  have hown : s.vm.findClass RX0 = some m.cls := by rw [← hR]; exact findClass_of_methodNamed B.named
  rw [lg_entry_eq]
  exact body p e s m _ below meth c (oA G h0 h σ s.heap.size) ⟨B.exec, B.bytes, hml, hown, hts⟩ B.returns B.notSynchronized hno hK (fun q h => Or.inr h) hZ _ _ ⟨hP, hD0.self (sz := s.heap.size), va_S.rf⟩ _ (lv_entry _ hlen)
theorem sxMet {Qc : Nat → Array Value → State → Outcome → State → Prop} {XC : Nat → String → State → State → Prop} {av : List Value} {sz : Nat} (hy : plainName y.cls = true) (hR : y.cls = RX0) (hw : ws = Cond.code y cc maxL ret :: ws') (hlen : (lg_sl av).length ≤ maxL)
    (body : ∀ (p : Program) (e : Env) (s : State) (m : MethodId) (args : Array Value) (below : List Frame) (meth : Method) (c : Code), CallFix p m c cc maxL s args ws RX0 → meth.sig.returnType = ret → meth.locks = false → (∀ x ∈ c.exceptionTable.toList, False) → xZ (fun q => s.heap.size ≤ q) s s.heap → ∀ (H : Heap) (locs : List Loc), sI s H locs → ∀ ls : Array Slot, lv_has ls maxL (lv_args 0 av) →
      W p l e rm s m args below meth c H locs 0 0 (vx_MQ below (Qc s.heap.size) (XC s.heap.size) args s mc ms (fun q => s.heap.size ≤ q)) (F0 m 0 ls [])) : vx_Met l y ws rm (sPreX sz av) (Qc sz) (XC sz) mc ms (fun q => sz ≤ q) := by
  refine vx_ofW (cc := cc) (maxL := maxL) (ret := ret) hy hw ?_
  intro p e s m args below meth c s₁ B hml hno hv
  obtain ⟨rfl, hsz, hZ⟩ := hv
  subst hsz
  have hts := atoms_spec (ws := ws) B.pre
  have hown : s.vm.findClass RX0 = some m.cls := by rw [← hR]; exact findClass_of_methodNamed B.named
  rw [lg_entry_eq]
  exact body p e s m _ below meth c ⟨B.exec, B.bytes, hml, hown, hts⟩ B.returns B.notSynchronized hno hZ _ _ va_S.rf _ (lv_entry _ hlen)

end OX
