/-! the law's start -/
abbrev rL_cell : Room := { frames := 0, cells := 0, slots := 0, locals := 0 }
theorem nL_cell : yL_cell.cls ≠ "java/lang/invoke/MethodHandle" ∧ yL_cell.cls ≠ "java/lang/invoke/VarHandle" ∧ (parseMethodDescriptor yL_cell.desc).map (fun d => d.parameters.length) = some 2 := by decide +kernel
def cPre (b L : Nat) (xs : Nat → Int32) (sz : Nat) : Array Value → State → Prop := va_Pc [.ref b, .int 0] (fun U => U.heap.size = sz ∧ va_X b L xs U U.heap)
theorem cPre_blind {b L : Nat} {xs : Nat → Int32} {sz : Nat} : FrameBlind (cPre b L xs sz) := by
  intro a U g mk q
  obtain ⟨q0, q1, q2⟩ := q
  exact ⟨q0, q1, va_X.moved (u := U) (U := U.calling g mk a) (Vm.Alike.refl U.vm) q2⟩
set_option maxHeartbeats 4000000 in
set_option maxRecDepth 100000 in
theorem kL_cell (l : Launch) (b L : Nat) (xs : Nat → Int32) (hL : L ≤ 2561) (sz : Nat) : Met l yL_cell wsL_cell rL_cell (cPre b L xs sz) (sQi (if 0 < L then xs 0 else 0) sz) 0 0 (fun q => sz ≤ q) := by
  refine Met.ofW (cc := cL_cell) (maxL := 2) (ret := some .int) (by decide +kernel) rfl ?_
  intro p e s m args below meth c s₁ B hml hv
  obtain ⟨rfl, hsz, hX⟩ := hv
  subst hsz
  have hx := B.exec
  have hb := B.bytes
  have hr := B.returns
  have hlocks := B.notSynchronized
  have hts := atoms_spec (ws := wsL_cell) B.pre
  have hown : s.vm.findClass RL = some m.cls := findClass_of_methodNamed B.named
  have S : CallFix p m c cL_cell 2 s ([Value.ref b, Value.int 0]).toArray wsL_cell RL := ⟨hx, hb, hml, hown, hts⟩
  have hbl : b < s.heap.size := by
    obtain ⟨scr, h1, -⟩ := hX
    exact (Array.getElem?_eq_some_iff.mp h1).1
  have hbA : ¬ (fun q : Nat => s.heap.size ≤ q) b := Nat.not_le.mpr hbl
  have hS : va_S (fun q : Nat => s.heap.size ≤ q) s.heap s.heap [] := va_S.rf
  have hl := lv_entry ([.ref b, .int 0]) (n := 2) (Nat.le_of_ble_eq_true rfl)
  rw [lg_entry_eq]
  generalize (lg_sl ([.ref b, .int 0]) ++ List.replicate (2 - (lg_sl ([.ref b, .int 0])).length) Slot.unset).toArray = ls at hl ⊢
  have hl : lv_has ls 2 [(0, .ref b), (1, .int 0)] := hl
  refine lv_iload_n hx hb dL_cell_0 rfl (lv_at hl 1 rfl) ?_
  refine lv_aload_n hx hb dL_cell_1 rfl (lv_at hl 0 rfl) ?_
  refine va_slen hx hb hX hbl hbA hS dL_cell_2 ?_
  refine lv_icmp_ge (tgt := 12) hx hb dL_cell_3 (by decide) (fun c1 => ?_) (fun c1 => ?_)
  · have hz : ¬ 0 < L := fun q => absurd c1 (show ¬ nI L ≤ 0 from nI_ge (a := 0) (b := L) q (by omega))
    rw [if_neg hz]
    refine lv_iconst (v := 0) hx hb dL_cell_12 (by decide) ?_
    exact se_i S hr hlocks hS rfl dL_cell_13
  · have hz : 0 < L := by
      rcases Nat.eq_zero_or_pos L with q | q
      · exact absurd (by rw [q]; decide) c1
      · exact q
    rw [if_pos hz]
    refine lv_aload_n hx hb dL_cell_6 rfl (lv_at hl 0 rfl) ?_
    refine lv_iload_n hx hb dL_cell_7 rfl (lv_at hl 1 rfl) ?_
    refine va_sld hx hb hX hbl hbA hS (show vp_in (0 : Int32) L from vp_in_nI (n := 0) hz (by omega)) dL_cell_8 ?_
    refine lv_goto (tgt := 13) hx hb dL_cell_9 (by decide) ?_
    exact se_i S hr hlocks hS rfl dL_cell_13
/-- the law asks for an int of the script -/
theorem lc_cell {p : Program} {l : Launch} {e : Env} {s : State} {m : MethodId} {below : List Frame} {meth : Method} {c : Code} {Q : State → Prop} {b L : Nat} {xs : Nat → Int32} {G : gT} {ws : va_W} {H : Heap} {locs : List Loc} {cells slots pc : Nat} {ls : Array Slot} {rest : List Value} (S : CallFix p m c cL_law 8 s #[Value.ref b] wsL_law RL) (hL : L ≤ 2561) (hX : va_X b L xs s s.heap) (hbl : b < s.heap.size) (hS : va_S (fun q : Nat => s.heap.size ≤ q) s.heap H locs) (hP : va_P G.1 vwCl ws H) (hs : ls.size = 8) (hW : (rest.map fun v => v.category).sum ≤ 8) (hdg : decode cL_law pc = .ok (.invokestatic 87, 3)) (hf : cells ≤ 601024 ∧ slots ≤ 7293000)
    (kk : ∀ (H1 : Heap) (locs1 : List Loc), va_P G.1 vwCl ws H1 → va_S (fun q : Nat => s.heap.size ≤ q) s.heap H1 locs1 → W p l e room_1 s m #[Value.ref b] below meth c H1 locs1 cells slots Q (F0 m (pc + 3) ls (.int (if 0 < L then xs 0 else 0) :: rest))) : W p l e room_1 s m #[Value.ref b] below meth c H locs cells slots Q (F0 m pc ls (.int 0 :: .ref b :: rest)) := by
  have hts := S.2.2.2.2
  have hbA : ¬ (fun q : Nat => s.heap.size ≤ q) b := Nat.not_le.mpr hbl
  refine va_calli (va_runS (As := [.ref b, .int 0]) (rest := rest) S (kL_cell l b L xs hL H.size) (va_cwS 2 hts gL_law_L_cell rfl rfl rfl nL_cell ⟨Nat.le_of_ble_eq_true rfl, Nat.le_of_ble_eq_true rfl⟩) ⟨cPre_blind, fun U hU hW => ⟨rfl, by rw [hU], by rw [hU]; exact va_X.moved hW.alike (hX.kept (hS.2.1 b hbl hbA))⟩⟩ rfl rfl hs rfl (lv_room hW) hdg ⟨by show cells + 0 ≤ 601024; omega, by show slots + 0 ≤ 7293000; omega⟩) hS (fun q hq h => absurd h (Nat.not_le.mpr hq)) (fun q h => Nat.le_trans hS.1 h) (fun r1 u t H1 locs1 ht hvm hw hB hz1 hk1 hS => ?_)
  have hw : r1 = (if 0 < L then xs 0 else 0) := hw
  subst hw
  exact kk H1 locs1 (hP.kept (fun k q hq => hk1 q.1 (hP k q hq).lt (Nat.not_le.mpr (hP k q hq).lt))) hS
theorem tx_in : ∀ q ∈ xTx, Cond.stringRef RX0 q.1 q.2 ∈ lw_tbl := by decide +kernel
theorem xb_in : ∀ w ∈ xBl, w ∈ lw_tbl := by decide +kernel
theorem xb_ot : ∀ w ∈ xBl, vx_ot w = true := by decide +kernel
theorem inJ0' : ∀ w ∈ wsJ00, w ∈ lw_tbl := by decide +kernel
theorem lw_t1 : Cond.laysStatic "java/lang/Throwable" "UNASSIGNED_STACK" "[Ljava/lang/StackTraceElement;" ∈ lw_tbl ∧ Cond.laysStatic "java/lang/Throwable" "SUPPRESSED_SENTINEL" "Ljava/util/List;" ∈ lw_tbl ∧ Cond.initialized "java/lang/Throwable" ∈ lw_tbl := by decide +kernel
theorem lw_t2 : Cond.instantiable RJ0 4 ∈ lw_tbl ∧ Cond.instantiable RJ4 4 ∈ lw_tbl ∧ Cond.instantiable RX0 10 ∈ lw_tbl ∧ Cond.instantiable RX1 21 ∈ lw_tbl := by decide +kernel
theorem lw_t3 : Cond.arrayClass .int ∈ lw_tbl ∧ Cond.arrayClass .long ∈ lw_tbl ∧ Cond.arrayClass .boolean ∈ lw_tbl := by decide +kernel
theorem lw_t4 : Cond.classLink RL 8 RX0 ∈ lw_tbl ∧ Cond.classLink RL 95 RX1 ∈ lw_tbl ∧ Cond.initialized RX0 ∈ lw_tbl ∧ Cond.initialized RX1 ∈ lw_tbl ∧ Cond.methodLink RL 93 yX0_init ∈ lw_tbl ∧ Cond.methodLink RL 97 yX1_init ∈ lw_tbl ∧ Cond.instanceMethod yX0_init ∈ lw_tbl ∧ Cond.instanceMethod yX1_init ∈ lw_tbl := by decide +kernel
theorem lw_g1 : Cond.isRef (.static "java/lang/Throwable" "UNASSIGNED_STACK" "[Ljava/lang/StackTraceElement;") ∈ flatC (Jvm.Cond.and given_1 narrow_1) := by decide +kernel
theorem lw_g2 : Cond.isRef (.static "java/lang/Throwable" "SUPPRESSED_SENTINEL" "Ljava/util/List;") ∈ flatC (Jvm.Cond.and given_1 narrow_1) := by decide +kernel
theorem lw_g3 : Cond.not (.castable "java/lang/IllegalStateException" "java/lang/IllegalArgumentException") ∈ flatC (Jvm.Cond.and given_1 narrow_1) := by decide +kernel
theorem arr_of {s : State} {args : Array Value} {ty : FieldType} (hp : ty = .int ∨ ty = .long ∨ ty = .boolean) (h : (Cond.arrayClass ty).before args s = true) : ∃ cA, ArrOfT s cA ty ∧ va_RA s cA ty := by
  obtain ⟨cA, kA, comp, h1, h2, h3⟩ := Cond.arrayClass_spec h
  refine ⟨cA, fun n z => ⟨fun k h => (by cases h), kA, h2, comp, h3⟩, ?_⟩
  rcases hp with rfl | rfl | rfl <;> exact h1
