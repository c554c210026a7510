/-! the JDK's own methods that the class calls: signum, fill, fill of a part, rangeCheck, copyOf; a world of one row of ints -/
def aw (G : gT) (a n : Nat) (f : Nat → Int32) : va_W := [(a, .inl (G.2.1, n, .inl f))]
def aI (s : State) (A : Nat → Prop) (G : gT) (a n : Nat) (f : Nat → Int32) (H : Heap) (locs : List Loc) : Prop := va_P G.1 vwCl (aw G a n f) H ∧ va_D A (aw G a n f) ∧ va_S A s.heap H locs
def aAt (G : gT) (A : Nat → Prop) (a n : Nat) (f : Nat → Int32) (t : State) : Prop := va_P G.1 vwCl (aw G a n f) t.heap ∧ gK G t ∧ va_D A (aw G a n f)
def aPre (G : gT) (a n : Nat) (f : Nat → Int32) (sz : Nat) (av : List Value) : Array Value → State → Prop := va_Pc (.ref a :: av) (fun U => U.heap.size = sz ∧ va_P G.1 vwCl (aw G a n f) U.heap ∧ gK G U ∧ va_D (fun _ => True) (aw G a n f))
theorem aPre_blind {G : gT} {a n : Nat} {f : Nat → Int32} {sz : Nat} {av : List Value} : FrameBlind (aPre G a n f sz av) := by
  intro x U g mk q
  obtain ⟨q0, q1, qP, qK, qD⟩ := q
  exact ⟨q0, q1, qP, gK.moved (u := U) (U := U.calling g mk x) (Vm.Alike.refl U.vm) qK, qD⟩
def aQv (G : gT) (a n : Nat) (f' : Nat → Int32) (A : Nat → Prop) : Array Value → State → Outcome → State → Prop := va_Qv (fun (u : Nat → Int32) => u = f') (aAt G A a n) A
/-- between lo and hi there is v -/
def fillF (f : Nat → Int32) (lo hi : Nat) (v : Int32) : Nat → Int32 := fun k => if lo ≤ k ∧ k < hi then v else f k
theorem fillF_0 (f : Nat → Int32) (lo : Nat) (v : Int32) : fillF f lo lo v = f := by
  funext k
  unfold fillF
  rw [if_neg (by omega)]
theorem fillF_s (f : Nat → Int32) {lo i : Nat} (v : Int32) (h : lo ≤ i) : upd (fillF f lo i v) i v = fillF f lo (i + 1) v := by
  funext k
  unfold fillF upd
  by_cases hk : k = i
  · subst hk; simp [h]
  · simp only [hk, if_false]
    by_cases h2 : lo ≤ k ∧ k < i
    · rw [if_pos h2, if_pos (by omega)]
    · rw [if_neg h2, if_neg (by omega)]
def sgn (x : Int32) : Int32 := (x >>> ((31 : Int32) &&& 31)) ||| ((-x).toUInt32 >>> ((31 : Int32).toUInt32 &&& Int32.toUInt32 31)).toInt32
abbrev rJ6_signum : Room := { frames := 0, cells := 0, slots := 0, locals := 0 }
theorem nJ6_signum : yJ6_signum_0f7a4.cls ≠ "java/lang/invoke/MethodHandle" ∧ yJ6_signum_0f7a4.cls ≠ "java/lang/invoke/VarHandle" ∧ (parseMethodDescriptor yJ6_signum_0f7a4.desc).map (fun d => d.parameters.length) = some 1 := by decide +kernel
set_option maxHeartbeats 4000000 in
set_option maxRecDepth 100000 in
theorem kJ6_signum (l : Launch) (sz : Nat) (x : Int32) : Met l yJ6_signum_0f7a4 wsJ6_signum_0f7a4 rJ6_signum (sPre sz [.int x]) (sQi (sgn x) sz) 0 0 (fun q => sz ≤ q) := by
  refine sMet (own := RJ6) (Qc := sQi (sgn x)) (by decide +kernel) rfl rfl (Nat.le_of_ble_eq_true rfl) ?_
  intro p e s m args below meth c S hr hlocks H locs hS ls hl
  have hl : lv_has ls 1 [(0, .int x)] := hl
  have hx := S.1
  have hb := S.2.1
  refine lv_iload_n hx hb dJ6_signum_0f7a4_0 rfl (lv_at hl 0 rfl) ?_
  refine lv_bipush (v := 31) hx hb dJ6_signum_0f7a4_1 (by decide) ?_
  refine lv_ishr hx hb dJ6_signum_0f7a4_3 ?_
  refine lv_iload_n hx hb dJ6_signum_0f7a4_4 rfl (lv_at hl 0 rfl) ?_
  refine lv_ineg hx hb dJ6_signum_0f7a4_5 ?_
  refine lv_bipush (v := 31) hx hb dJ6_signum_0f7a4_6 (by decide) ?_
  refine lv_iushr hx hb dJ6_signum_0f7a4_8 rfl ?_
  refine lv_ior hx hb dJ6_signum_0f7a4_9 ?_
  exact se_i S hr hlocks hS rfl dJ6_signum_0f7a4_10
abbrev rJ7_fill : Room := { frames := 0, cells := 0, slots := 0, locals := 0 }
theorem nJ7_fill : yJ7_fill_53178.cls ≠ "java/lang/invoke/MethodHandle" ∧ yJ7_fill_53178.cls ≠ "java/lang/invoke/VarHandle" ∧ (parseMethodDescriptor yJ7_fill_53178.desc).map (fun d => d.parameters.length) = some 2 := by decide +kernel
set_option maxHeartbeats 4000000 in
set_option maxRecDepth 100000 in
theorem lJ7_fill {p : Program} {l : Launch} {e : Env} {s : State} {m : MethodId} {args : Array Value} {below : List Frame} {meth : Method} {c : Code} {A : Nat → Prop} {G : gT} {a n : Nat} (hn : n < 2 ^ 31) (S : CallFix p m c cJ7_fill_53178 4 s args wsJ7_fill_53178 RJ7) (hr : meth.sig.returnType = none) (hlocks : meth.locks = false) (hK : gK G s) (v : Int32) (f0 : Nat → Int32) (k : Nat) : ∀ (i : Nat) (H : Heap) (locs : List Loc) (ls : Array Slot), i + k = n → aI s A G a n (fillF f0 0 i v) H locs → lv_has ls 4 [(3, .int (nI n)), (2, .int (nI i)), (0, .ref a), (1, .int v)] → W p l e rJ7_fill s m args below meth c H locs 0 0 (MQ below (aQv G a n (fillF f0 0 n v) A) args s 0 0 A) (F0 m 5 ls []) := by
  have hx := S.1
  have hb := S.2.1
  induction k with
  | zero =>
    intro i H locs ls hi hI hl
    refine lv_iload_n hx hb dJ7_fill_53178_5 rfl (lv_at hl 1 rfl) ?_
    refine lv_iload_n hx hb dJ7_fill_53178_6 rfl (lv_at hl 0 rfl) ?_
    refine lv_icmp_ge (tgt := 20) hx hb dJ7_fill_53178_7 (by decide) (fun c1 => ?_) (fun c1 => ?_)
    · have e1 : i = n := by omega
      subst e1
      exact W.vret hx hb hr (fun t ht hW => ⟨⟨_, rfl, rfl, by rw [ht]; exact hI.1, gK.moved hW.alike hK, hI.2.1⟩, hI.2.2.F ht⟩) hI.2.2.2.2 dJ7_fill_53178_20 hlocks
    · exact absurd (nI_le (by omega) (by omega)) c1
  | succ k ih =>
    intro i H locs ls hi hI hl
    refine lv_iload_n hx hb dJ7_fill_53178_5 rfl (lv_at hl 1 rfl) ?_
    refine lv_iload_n hx hb dJ7_fill_53178_6 rfl (lv_at hl 0 rfl) ?_
    refine lv_icmp_ge (tgt := 20) hx hb dJ7_fill_53178_7 (by decide) (fun c1 => ?_) (fun c1 => ?_)
    · exact absurd c1 (nI_ge (by omega) (by omega))
    · refine lv_aload_n hx hb dJ7_fill_53178_10 rfl (lv_at hl 2 rfl) ?_
      refine lv_iload_n hx hb dJ7_fill_53178_11 rfl (lv_at hl 1 rfl) ?_
      refine lv_iload_n hx hb dJ7_fill_53178_12 rfl (lv_at hl 3 rfl) ?_
      refine va_iast (f := fillF f0 0 i v) hx hb hK hI.1 hI.2.1 hI.2.2 0 0 rfl rfl (vp_in_nI (by omega) (by omega)) dJ7_fill_53178_13 (fun H locs hP hD hS => ?_)
      refine lv_iinc (v := nI (i + 1)) (lv' := [(2, .int (nI (i + 1))), (3, .int (nI n)), (0, .ref a), (1, .int v)]) hx hb dJ7_fill_53178_14 hl (k := 1) rfl (nI_1 i) (by decide) rfl (fun ls hl => ?_)
      refine lv_goto (tgt := 5) hx hb dJ7_fill_53178_17 (by decide) ?_
      have e1 : upd (fillF f0 0 i v) (nI i).toNatClampNeg v = fillF f0 0 (i + 1) v := by rw [nI_clamp (by omega)]; exact fillF_s f0 v (Nat.zero_le i)
      rw [e1] at hP hD
      exact ih (i + 1) H locs ls (by omega) ⟨hP, hD, hS⟩ (lv_sub hl [1, 0, 2, 3] rfl)
set_option maxHeartbeats 4000000 in
set_option maxRecDepth 100000 in
theorem kJ7_fill (l : Launch) (G : gT) (a n sz : Nat) (hn : n < 2 ^ 31) (f : Nat → Int32) (v : Int32) : Met l yJ7_fill_53178 wsJ7_fill_53178 rJ7_fill (aPre G a n f sz [.int v]) (aQv G a n (fillF f 0 n v) (va_A (aw G a n f) sz)) 0 0 (va_A (aw G a n f) sz) := by
  refine Met.ofW (cc := cJ7_fill_53178) (maxL := 4) (ret := none) (by decide +kernel) rfl ?_
  intro p e s m args below meth c s₁ B hml hv
  obtain ⟨rfl, hsz, hP, hK, hD0⟩ := hv
  subst hsz
  have hx := B.exec
  have hb := B.bytes
  have hts := atoms_spec (ws := wsJ7_fill_53178) B.pre
  have hown : s.vm.findClass RJ7 = some m.cls := findClass_of_methodNamed B.named
  have S : CallFix p m c cJ7_fill_53178 4 s ([.ref a, .int v] : List Value).toArray wsJ7_fill_53178 RJ7 := ⟨hx, hb, hml, hown, hts⟩
  have hl := lv_entry ([.ref a, .int v]) (n := 4) (Nat.le_of_ble_eq_true rfl)
  rw [lg_entry_eq]
  generalize (lg_sl ([.ref a, .int v]) ++ List.replicate (4 - (lg_sl ([.ref a, .int v])).length) Slot.unset).toArray = ls at hl ⊢
  have hl : lv_has ls 4 [(0, .ref a), (1, .int v)] := hl
  refine lv_iconst (v := 0) hx hb dJ7_fill_53178_0 (by decide) ?_
  refine lv_istore_n (lv' := [(2, .int 0), (0, .ref a), (1, .int v)]) hx hb dJ7_fill_53178_1 rfl hl (by decide) rfl (fun ls hl => ?_)
  refine lv_aload_n hx hb dJ7_fill_53178_2 rfl (lv_at hl 1 rfl) ?_
  refine va_alen (v := nI n) hx hb hK hP 0 0 rfl rfl rfl dJ7_fill_53178_3 ?_
  refine lv_istore_n (lv' := [(3, .int (nI n)), (2, .int 0), (0, .ref a), (1, .int v)]) hx hb dJ7_fill_53178_4 rfl hl (by decide) rfl (fun ls hl => ?_)
  exact lJ7_fill hn S B.returns B.notSynchronized hK v f n 0 s.heap [] ls (by omega) ⟨by rw [fillF_0]; exact hP, by rw [fillF_0]; exact hD0.self (sz := s.heap.size), va_S.rf⟩ hl
def sQv (sz : Nat) : Array Value → State → Outcome → State → Prop := va_Qv (fun (_ : Unit) => True) (fun _ _ => True) (fun q => sz ≤ q)
abbrev rJ7_rangeCheck : Room := { frames := 0, cells := 0, slots := 0, locals := 0 }
theorem nJ7_rangeCheck : yJ7_rangeCheck_23922.cls ≠ "java/lang/invoke/MethodHandle" ∧ yJ7_rangeCheck_23922.cls ≠ "java/lang/invoke/VarHandle" ∧ (parseMethodDescriptor yJ7_rangeCheck_23922.desc).map (fun d => d.parameters.length) = some 3 := by decide +kernel
set_option maxHeartbeats 4000000 in
set_option maxRecDepth 100000 in
theorem kJ7_rangeCheck (l : Launch) (sz : Nat) (x y z : Int32) (h1 : y ≤ z) (h2 : 0 ≤ y) (h3 : z ≤ x) : Met l yJ7_rangeCheck_23922 wsJ7_rangeCheck_23922 rJ7_rangeCheck (sPre sz [.int x, .int y, .int z]) (sQv sz) 0 0 (fun q => sz ≤ q) := by
  refine sMet (own := RJ7) (Qc := sQv) (by decide +kernel) rfl rfl (Nat.le_of_ble_eq_true rfl) ?_
  intro p e s m args below meth c S hr hlocks H locs hS ls hl
  have hl : lv_has ls 3 [(0, .int x), (1, .int y), (2, .int z)] := hl
  have hx := S.1
  have hb := S.2.1
  refine lv_iload_n hx hb dJ7_rangeCheck_23922_0 rfl (lv_at hl 1 rfl) ?_
  refine lv_iload_n hx hb dJ7_rangeCheck_23922_1 rfl (lv_at hl 2 rfl) ?_
  refine lv_icmp_le (tgt := 46) hx hb dJ7_rangeCheck_23922_2 (by decide) (fun c1 => ?_) (fun c1 => absurd h1 c1)
  refine lv_iload_n hx hb dJ7_rangeCheck_23922_46 rfl (lv_at hl 1 rfl) ?_
  refine lv_if_ge (tgt := 59) hx hb dJ7_rangeCheck_23922_47 (by decide) (fun c2 => ?_) (fun c2 => absurd h2 c2)
  refine lv_iload_n hx hb dJ7_rangeCheck_23922_59 rfl (lv_at hl 2 rfl) ?_
  refine lv_iload_n hx hb dJ7_rangeCheck_23922_60 rfl (lv_at hl 0 rfl) ?_
  refine lv_icmp_le (tgt := 73) hx hb dJ7_rangeCheck_23922_61 (by decide) (fun c3 => ?_) (fun c3 => absurd h3 c3)
  exact W.vret hx hb hr (fun t ht hW => ⟨⟨(), rfl, trivial, trivial⟩, va_S.F hS ht⟩) hS.2.2 dJ7_rangeCheck_23922_73 hlocks
abbrev rJ7_fill4 : Room := { frames := 1, cells := 0, slots := 0, locals := 22 }
theorem nJ7_fill4 : yJ7_fill_fda19.cls ≠ "java/lang/invoke/MethodHandle" ∧ yJ7_fill_fda19.cls ≠ "java/lang/invoke/VarHandle" ∧ (parseMethodDescriptor yJ7_fill_fda19.desc).map (fun d => d.parameters.length) = some 4 := by decide +kernel
set_option maxHeartbeats 4000000 in
set_option maxRecDepth 100000 in
theorem lJ7_fill4 {p : Program} {l : Launch} {e : Env} {s : State} {m : MethodId} {args : Array Value} {below : List Frame} {meth : Method} {c : Code} {A : Nat → Prop} {G : gT} {a n lo hj : Nat} (hn : n < 2 ^ 31) (hh : hj ≤ n) (S : CallFix p m c cJ7_fill_fda19 5 s args wsJ7_fill_fda19 RJ7) (hr : meth.sig.returnType = none) (hlocks : meth.locks = false) (hK : gK G s) (v : Int32) (f0 : Nat → Int32) (k : Nat) : ∀ (i : Nat) (H : Heap) (locs : List Loc) (ls : Array Slot), lo ≤ i → i + k = hj → aI s A G a n (fillF f0 lo i v) H locs → lv_has ls 5 [(4, .int (nI i)), (0, .ref a), (1, .int (nI lo)), (2, .int (nI hj)), (3, .int v)] → W p l e rJ7_fill4 s m args below meth c H locs 0 0 (MQ below (aQv G a n (fillF f0 lo hj v) A) args s 0 0 A) (F0 m 10 ls []) := by
  have hx := S.1
  have hb := S.2.1
  induction k with
  | zero =>
    intro i H locs ls hlo hi hI hl
    refine lv_iload hx hb dJ7_fill_fda19_10 (lv_at hl 0 rfl) ?_
    refine lv_iload_n hx hb dJ7_fill_fda19_12 rfl (lv_at hl 3 rfl) ?_
    refine lv_icmp_ge (tgt := 27) hx hb dJ7_fill_fda19_13 (by decide) (fun c1 => ?_) (fun c1 => ?_)
    · have e1 := (show i = _ from hi)
      subst e1
      exact W.vret hx hb hr (fun t ht hW => ⟨⟨_, rfl, rfl, by rw [ht]; exact hI.1, gK.moved hW.alike hK, hI.2.1⟩, hI.2.2.F ht⟩) hI.2.2.2.2 dJ7_fill_fda19_27 hlocks
    · exact absurd (nI_le (by omega) (by omega)) c1
  | succ k ih =>
    intro i H locs ls hlo hi hI hl
    refine lv_iload hx hb dJ7_fill_fda19_10 (lv_at hl 0 rfl) ?_
    refine lv_iload_n hx hb dJ7_fill_fda19_12 rfl (lv_at hl 3 rfl) ?_
    refine lv_icmp_ge (tgt := 27) hx hb dJ7_fill_fda19_13 (by decide) (fun c1 => ?_) (fun c1 => ?_)
    · exact absurd c1 (nI_ge (by omega) (by omega))
    · refine lv_aload_n hx hb dJ7_fill_fda19_16 rfl (lv_at hl 1 rfl) ?_
      refine lv_iload hx hb dJ7_fill_fda19_17 (lv_at hl 0 rfl) ?_
      refine lv_iload_n hx hb dJ7_fill_fda19_19 rfl (lv_at hl 4 rfl) ?_
      refine va_iast (f := fillF f0 lo i v) hx hb hK hI.1 hI.2.1 hI.2.2 0 0 rfl rfl (vp_in_nI (by omega) (by omega)) dJ7_fill_fda19_20 (fun H locs hP hD hS => ?_)
      refine lv_iinc (v := nI (i + 1)) (lv' := [(4, .int (nI (i + 1))), (0, .ref a), (1, .int (nI lo)), (2, .int (nI hj)), (3, .int v)]) hx hb dJ7_fill_fda19_21 hl (k := 0) rfl (nI_1 i) (by decide) rfl (fun ls hl => ?_)
      refine lv_goto (tgt := 10) hx hb dJ7_fill_fda19_24 (by decide) ?_
      have e1 : upd (fillF f0 lo i v) (nI i).toNatClampNeg v = fillF f0 lo (i + 1) v := by rw [nI_clamp (by omega)]; exact fillF_s f0 v hlo
      rw [e1] at hP hD
      exact ih (i + 1) H locs ls (by omega) (by omega) ⟨hP, hD, hS⟩ hl
set_option maxHeartbeats 4000000 in
set_option maxRecDepth 100000 in
theorem kJ7_fill4 (l : Launch) (G : gT) (a n sz lo hi : Nat) (hn : n < 2 ^ 31) (h1 : lo ≤ hi) (h2 : hi ≤ n) (f : Nat → Int32) (v : Int32) : Met l yJ7_fill_fda19 wsJ7_fill_fda19 rJ7_fill4 (aPre G a n f sz [.int (nI lo), .int (nI hi), .int v]) (aQv G a n (fillF f lo hi v) (va_A (aw G a n f) sz)) 0 0 (va_A (aw G a n f) sz) := by
  refine Met.ofW (cc := cJ7_fill_fda19) (maxL := 5) (ret := none) (by decide +kernel) rfl ?_
  intro p e s m args below meth c s₁ B hml hv
  obtain ⟨rfl, hsz, hP, hK, hD0⟩ := hv
  subst hsz
  have hx := B.exec
  have hb := B.bytes
  have hts := atoms_spec (ws := wsJ7_fill_fda19) B.pre
  have hown : s.vm.findClass RJ7 = some m.cls := findClass_of_methodNamed B.named
  have S : CallFix p m c cJ7_fill_fda19 5 s ([.ref a, .int (nI lo), .int (nI hi), .int v] : List Value).toArray wsJ7_fill_fda19 RJ7 := ⟨hx, hb, hml, hown, hts⟩
  have hl := lv_entry ([.ref a, .int (nI lo), .int (nI hi), .int v]) (n := 5) (Nat.le_of_ble_eq_true rfl)
  rw [lg_entry_eq]
  generalize (lg_sl ([.ref a, .int (nI lo), .int (nI hi), .int v]) ++ List.replicate (5 - (lg_sl ([.ref a, .int (nI lo), .int (nI hi), .int v])).length) Slot.unset).toArray = ls at hl ⊢
  have hl : lv_has ls 5 [(0, .ref a), (1, .int (nI lo)), (2, .int (nI hi)), (3, .int v)] := hl
  refine lv_aload_n hx hb dJ7_fill_fda19_0 rfl (lv_at hl 0 rfl) ?_
  refine va_alen (v := nI n) hx hb hK hP 0 0 rfl rfl rfl dJ7_fill_fda19_1 ?_
  refine lv_iload_n hx hb dJ7_fill_fda19_2 rfl (lv_at hl 1 rfl) ?_
  refine lv_iload_n hx hb dJ7_fill_fda19_3 rfl (lv_at hl 2 rfl) ?_
  refine va_callv (va_runS (As := [.int (nI n), .int (nI lo), .int (nI hi)]) (rest := []) S (kJ7_rangeCheck l s.heap.size (nI n) (nI lo) (nI hi) (nI_le h1 (by omega)) (nI_pos' (by omega)) (nI_le h2 hn)) (va_cwS 3 hts gJ7_fill_fda19_J7_rangeCheck_23922 rfl rfl rfl nJ7_rangeCheck ⟨Nat.le_of_ble_eq_true rfl, Nat.le_of_ble_eq_true rfl⟩) ⟨sPre_blind, fun U hU _ => ⟨rfl, congrArg (fun X : Heap => Array.size X) hU⟩⟩ rfl rfl hl.1 rfl (lv_room (Nat.le_of_ble_eq_true rfl)) dJ7_fill_fda19_4 ⟨Nat.le_refl _, Nat.le_refl _⟩) (va_S.rf (A := va_A (aw G a n f) s.heap.size)) (fun q hq h => absurd h (Nat.not_le.mpr hq)) (fun q h => Or.inr h) (fun u t H1 locs1 ht hvm hw hB hz1 hk1 hS => ?_)
  have hP1 : va_P G.1 vwCl (aw G a n f) H1 := hP.kept (fun k q hq => hk1 q.1 (hP k q hq).lt (Nat.not_le.mpr (hP k q hq).lt))
  refine lv_iload_n hx hb dJ7_fill_fda19_7 rfl (lv_at hl 1 rfl) ?_
  refine lv_istore (lv' := [(4, .int (nI lo)), (0, .ref a), (1, .int (nI lo)), (2, .int (nI hi)), (3, .int v)]) hx hb dJ7_fill_fda19_8 hl (by decide) rfl (fun ls hl => ?_)
  exact lJ7_fill4 hn h2 S B.returns B.notSynchronized hK v f (hi - lo) lo H1 locs1 ls (Nat.le_refl _) (by omega) ⟨by rw [fillF_0]; exact hP1, by rw [fillF_0]; exact hD0.self (sz := s.heap.size), hS⟩ hl
