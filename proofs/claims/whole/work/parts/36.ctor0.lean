/-! the constructors -/
def o_t (x : Int32) : Int32 := if 1048576 < x then 1048576 else x
def o_L (x : Int32) : Int32 := if 16 < o_t x then o_t x else 16
def o_n (x : Int32) : Int32 := if 256 < o_L x then 256 else o_L x
theorem o_L_ok (x : Int32) : 16 ≤ (o_L x).toInt ∧ (o_L x).toInt ≤ 1048576 := by
  have e1 : (1048576 : Int32).toInt = 1048576 := by decide
  have e2 : (16 : Int32).toInt = 16 := by decide
  unfold o_L o_t
  by_cases h : 1048576 < x
  · rw [if_pos h]
    by_cases h2 : (16 : Int32) < 1048576
    · rw [if_pos h2]; omega
    · exact absurd (by decide) h2
  · rw [if_neg h]
    have h3 : ¬ (1048576 : Int32).toInt < x.toInt := fun q => h (Int32.lt_iff_toInt_lt.mpr q)
    by_cases h2 : 16 < x
    · rw [if_pos h2]
      have h4 := Int32.lt_iff_toInt_lt.mp h2
      omega
    · rw [if_neg h2]; omega
theorem o_n_ok (x : Int32) : ¬ o_n x < 0 ∧ (o_n x).toNatClampNeg ≤ 256 := by
  have e1 : (256 : Int32).toInt = 256 := by decide
  have e0 : (0 : Int32).toInt = 0 := by decide
  have hL := o_L_ok x
  have h : 16 ≤ (o_n x).toInt ∧ (o_n x).toInt ≤ 256 := by
    unfold o_n
    by_cases h : 256 < o_L x
    · rw [if_pos h]; omega
    · rw [if_neg h]
      have h3 : ¬ (256 : Int32).toInt < (o_L x).toInt := fun q => h (Int32.lt_iff_toInt_lt.mpr q)
      omega
  refine ⟨fun q => ?_, ?_⟩
  · have := Int32.lt_iff_toInt_lt.mp q
    omega
  · show (o_n x).toInt.toNat ≤ 256
    omega
def o_new (x : Int32) : oS := (o_L x, (o_n x).toNatClampNeg, fun _ => 0, 0, fillF (fun _ => 0) 0 24 (-1), 16, fun _ => 0, 0, fun _ => 0, -1, 0, 0)
theorem gK_arr {G : gT} {s : State} {cA : ClassId} {D : va_G} {cl : List vw_C} {tys : List (ClassId × FieldType)} {ty : FieldType} (k : Nat) {c0 : ClassId} (hk : [(G.2.1, FieldType.int), (G.2.2.1, .long), (G.2.2.2, .boolean)][k]? = some (c0, ty)) (hp : ty = .int ∨ ty = .long ∨ ty = .boolean) (hK : gK G s) (h : va_K D cl (tys ++ [(cA, ty)]) s) : cA = c0 := by
  have h1 := (h.2 tys.length (cA, ty) (by simp)).2
  have h2 := (hK.2 k (c0, ty) hk).2
  rcases hp with rfl | rfl | rfl <;> exact Option.some.inj (h1.symm.trans h2)
def x0Obj : List Value := [.int 0, .null, .int 0, .null, .null, .int 0, .null, .int 0, .int 0, .int 0]
def x1Obj : List Value := [.int 0, .int 0, .null, .int 0, .null, .null, .null, .null, .null, .null, .null, .null, .null, .null, .null, .null, .null, .null, .null, .null, .int 0]
def iw (h0 ci : Nat) (fs : List Value) : va_W := [(h0, .inr (ci, fs))]
def iPre (G : gT) (h0 ci : Nat) (fs : List Value) (sz : Nat) (av : List Value) : Array Value → State → Prop := va_Pc (.ref h0 :: av) (fun U => U.heap.size = sz ∧ va_P G.1 vwCl (iw h0 ci fs) U.heap ∧ gK G U ∧ va_D (fun _ => True) (iw h0 ci fs))
theorem iPre_blind {G : gT} {h0 ci : Nat} {fs : List Value} {sz : Nat} {av : List Value} : FrameBlind (iPre G h0 ci fs sz av) := by
  intro a U g mk q
  obtain ⟨q0, q1, qP, qK, qD⟩ := q
  exact ⟨q0, q1, qP, gK.moved (u := U) (U := U.calling g mk a) (Vm.Alike.refl U.vm) qK, qD⟩

def x0Q (G : gT) (h0 : Nat) (x : Int32) (A : Nat → Prop) : Array Value → State → Outcome → State → Prop := va_Qv (fun (u : oS) => u = o_new x) (fun u t => ∃ h : oH, oAt G A h0 h u t) A
abbrev rX0_init : Room := { frames := 1, cells := 4, slots := 4296, locals := 60 }
theorem nX0_init : yX0_init.cls ≠ "java/lang/invoke/MethodHandle" ∧ yX0_init.cls ≠ "java/lang/invoke/VarHandle" ∧ (parseMethodDescriptor yX0_init.desc).map (fun d => d.parameters.length) = some 1 := by decide +kernel
set_option maxHeartbeats 8000000 in
set_option maxRecDepth 100000 in
theorem kX0_init (l : Launch) (G : gT) (h0 sz : Nat) (p1 : Int32) : Met l yX0_init wsX0_init rX0_init (iPre G h0 2 x0Obj sz [.int p1]) (x0Q G h0 p1 (va_A (iw h0 2 x0Obj) sz)) 4 4296 (va_A (iw h0 2 x0Obj) sz) := by
  refine Met.ofW (cc := cX0_init) (maxL := 2) (ret := none) (by decide +kernel) rfl ?_
  intro p e s m args below meth c s₁ B hml hv
  obtain ⟨rfl, hsz, hP, hK, hD0⟩ := hv
  have hx := B.exec
  have hb := B.bytes
  have hr := B.returns
  have hlocks := B.notSynchronized
  have hts := atoms_spec (ws := wsX0_init) B.pre
  have hown : s.vm.findClass RX0 = some m.cls := findClass_of_methodNamed B.named
  have hin2 : meth.name = "<init>" := (name_of_methodNamed B.named B.method).1
  have hin : ∀ w ∈ wsX00, w ∈ wsX0_init := by decide +kernel
  subst hsz
  have hD := hD0.self (sz := s.heap.size)
  generalize hAe : va_A (iw h0 2 x0Obj) s.heap.size = A at hD ⊢
  have hA : ∀ q : Nat, s.heap.size ≤ q → A q := fun q h => by rw [← hAe]; exact Or.inr h
  have hS : va_S A s.heap s.heap [] := va_S.rf
  have hl := lv_entry ([.ref h0, .int p1]) (n := 2) (Nat.le_of_ble_eq_true rfl)
  rw [lg_entry_eq]
  generalize (lg_sl ([.ref h0, .int p1]) ++ List.replicate (2 - (lg_sl ([.ref h0, .int p1])).length) Slot.unset).toArray = ls at hl ⊢
  have hl : lv_has ls 2 [(0, .ref h0), (1, .int p1)] := hl
  refine lv_aload_n hx hb dX0_init_0 rfl (lv_at hl 0 rfl) ?_
  refine W.objInit hx hb hown (hts (.methodLink RX0 3 objectInit) (by decide +kernel)) (hts (.instanceMethod objectInit) (by decide +kernel)) (hts (.code objectInit ⟨#[0xb1]⟩ 1 none) (by decide +kernel)) rfl (by rw [hml]; exact hl.1) rfl dX0_init_1 (Nat.le_of_ble_eq_true rfl) (Nat.le_of_ble_eq_true rfl) ?_
  refine W.eq (g2 := F0 m 4 ls []) rfl ?_
  refine lv_aload_n hx hb dX0_init_4 rfl (lv_at hl 0 rfl) ?_
  refine lv_bipush (v := 16) hx hb dX0_init_5 (by decide) ?_
  refine lv_iload_n hx hb dX0_init_7 rfl (lv_at hl 1 rfl) ?_
  refine lv_ldc (v := 1048576) hx hb hown (hts (.constant RX0 9 (1048576)) (by decide +kernel)) dX0_init_8 ?_
  refine va_mmin hx hb (by rw [hml]; exact hl.1.symm) hown (hts (.methodLink RX0 10 Lib.Math.min.name) (by decide +kernel)) (hts (.static Lib.Math.min.name) (by decide +kernel)) (hts (.initialized "java/lang/Math") (by decide +kernel)) (hts (.code Lib.Math.min.name Lib.Math.min.code 2 (some .int)) (by decide +kernel)) (Nat.le_of_ble_eq_true rfl) (Nat.le_of_ble_eq_true rfl) (by decide) (by decide) dX0_init_10 ?_
  refine wn_i (y := o_t p1) rfl ?_
  refine va_mmax hx hb (by rw [hml]; exact hl.1.symm) hown (hts (.methodLink RX0 16 Lib.Math.max.name) (by decide +kernel)) (hts (.static Lib.Math.max.name) (by decide +kernel)) (hts (.initialized "java/lang/Math") (by decide +kernel)) (hts (.code Lib.Math.max.name Lib.Math.max.code 2 (some .int)) (by decide +kernel)) (Nat.le_of_ble_eq_true rfl) (Nat.le_of_ble_eq_true rfl) (by decide) (by decide) dX0_init_13 ?_
  refine wn_i (y := o_L p1) rfl ?_
  refine va_putF (D := G.1) (ci := 2) (v := .int (o_L p1)) (ty := .int) (C := RX0) (T := TX0) (N := 10) hx hb hts hin tyX0 tyX0_ok nmX0 hown hK hP hD hS 0 rfl rfl 0 (by decide) (hts (.fieldLink RX0 19 "OwnMemory" "limit" "I") (by decide +kernel)) (fun _ h9 => h9) rfl hin2 rfl (by decide +kernel) rfl rfl (Nat.le_of_ble_eq_true rfl) dX0_init_16 (fun H locs hP hD hS => ?_)
  have hP : va_P G.1 vwCl [(h0, .inr (2, [.int (o_L p1), .null, .int 0, .null, .null, .int 0, .null, .int 0, .int 0, .int 0]))] H := hP
  have hD : va_D A [(h0, .inr (2, [.int (o_L p1), .null, .int 0, .null, .null, .int 0, .null, .int 0, .int 0, .int 0]))] := hD
  refine lv_aload_n hx hb dX0_init_19 rfl (lv_at hl 0 rfl) ?_
  refine lv_aload_n hx hb dX0_init_20 rfl (lv_at hl 0 rfl) ?_
  refine va_get (D := G.1) (ci := 2) (v := .int (o_L p1)) (C := RX0) (T := TX0) (N := 10) hx hb hts hin hown hK hP 0 rfl rfl 0 (by decide) (hts (.fieldLink RX0 19 "OwnMemory" "limit" "I") (by decide +kernel)) (fun _ h9 => h9) rfl dX0_init_21 ?_
  refine lv_sipush (v := 256) hx hb dX0_init_24 (by decide) ?_
  refine va_mmin hx hb (by rw [hml]; exact hl.1.symm) hown (hts (.methodLink RX0 10 Lib.Math.min.name) (by decide +kernel)) (hts (.static Lib.Math.min.name) (by decide +kernel)) (hts (.initialized "java/lang/Math") (by decide +kernel)) (hts (.code Lib.Math.min.name Lib.Math.min.code 2 (some .int)) (by decide +kernel)) (Nat.le_of_ble_eq_true rfl) (Nat.le_of_ble_eq_true rfl) (by decide) (by decide) dX0_init_27 ?_
  refine wn_i (y := o_n p1) rfl ?_
  obtain ⟨n1, n2⟩ := o_n_ok p1
  generalize hN0 : (o_n p1).toNatClampNeg = N0 at n2
  refine va_newa (atype := .int) (ty := .int) (N' := N0) (a0 := (N0, .inl (fun _ => 0))) hx hb (hts (.arrayClass .int) (by decide +kernel)) rfl hK hP hD hS hA (fun _ => rfl) n1 hN0 (by show N0 * 4 ≤ 536870912; omega) (by show 0 + 1 ≤ 4; decide) (by show 0 + N0 ≤ 4296; omega) dX0_init_30 (fun q30 cA H hK2 hP hD hS => ?_)
  have ec := gK_arr 0 rfl (by decide) hK hK2
  subst ec
  have hP : va_P G.1 vwCl [(h0, .inr (2, [.int (o_L p1), .null, .int 0, .null, .null, .int 0, .null, .int 0, .int 0, .int 0])), (q30, .inl (G.2.1, N0, .inl (fun _ => 0)))] H := hP
  have hD : va_D A [(h0, .inr (2, [.int (o_L p1), .null, .int 0, .null, .null, .int 0, .null, .int 0, .int 0, .int 0])), (q30, .inl (G.2.1, N0, .inl (fun _ => 0)))] := hD
  refine va_put (D := G.1) (ci := 2) (v := .ref q30) (ty := .array .int) (C := RX0) (T := TX0) (N := 10) hx hb hts hin tyX0 tyX0_ok nmX0 hown hK hP hD hS 0 rfl rfl 1 (by decide) (hts (.fieldLink RX0 23 "OwnMemory" "words" "[I") (by decide +kernel)) (fun _ h9 => h9) rfl (by decide +kernel) rfl rfl (Nat.le_of_ble_eq_true rfl) dX0_init_32 (fun H locs hP hD hS => ?_)
  have hP : va_P G.1 vwCl [(h0, .inr (2, [.int (o_L p1), .ref q30, .int 0, .null, .null, .int 0, .null, .int 0, .int 0, .int 0])), (q30, .inl (G.2.1, N0, .inl (fun _ => 0)))] H := hP
  have hD : va_D A [(h0, .inr (2, [.int (o_L p1), .ref q30, .int 0, .null, .null, .int 0, .null, .int 0, .int 0, .int 0])), (q30, .inl (G.2.1, N0, .inl (fun _ => 0)))] := hD
  refine lv_aload_n hx hb dX0_init_35 rfl (lv_at hl 0 rfl) ?_
  refine lv_iconst (v := 0) hx hb dX0_init_36 (by decide) ?_
  refine va_put (D := G.1) (ci := 2) (v := .int 0) (ty := .int) (C := RX0) (T := TX0) (N := 10) hx hb hts hin tyX0 tyX0_ok nmX0 hown hK hP hD hS 0 rfl rfl 2 (by decide) (hts (.fieldLink RX0 27 "OwnMemory" "used" "I") (by decide +kernel)) (fun _ h9 => h9) rfl (by decide +kernel) rfl rfl (Nat.le_of_ble_eq_true rfl) dX0_init_37 (fun H locs hP hD hS => ?_)
  have hP : va_P G.1 vwCl [(h0, .inr (2, [.int (o_L p1), .ref q30, .int 0, .null, .null, .int 0, .null, .int 0, .int 0, .int 0])), (q30, .inl (G.2.1, N0, .inl (fun _ => 0)))] H := hP
  have hD : va_D A [(h0, .inr (2, [.int (o_L p1), .ref q30, .int 0, .null, .null, .int 0, .null, .int 0, .int 0, .int 0])), (q30, .inl (G.2.1, N0, .inl (fun _ => 0)))] := hD
  refine lv_aload_n hx hb dX0_init_40 rfl (lv_at hl 0 rfl) ?_
  refine lv_bipush (v := 24) hx hb dX0_init_41 (by decide) ?_
  refine va_newa (atype := .int) (ty := .int) (N' := 24) (a0 := (24, .inl (fun _ => 0))) hx hb (hts (.arrayClass .int) (by decide +kernel)) rfl hK hP hD hS hA (fun _ => rfl) (by decide) (by decide) (by show 24 * 4 ≤ 536870912; omega) (by show 1 + 1 ≤ 4; decide) (by show 0 + N0 + 24 ≤ 4296; omega) dX0_init_43 (fun q43 cA H hK2 hP hD hS => ?_)
  have ec := gK_arr 0 rfl (by decide) hK hK2
  subst ec
  have hP : va_P G.1 vwCl [(h0, .inr (2, [.int (o_L p1), .ref q30, .int 0, .null, .null, .int 0, .null, .int 0, .int 0, .int 0])), (q30, .inl (G.2.1, N0, .inl (fun _ => 0))), (q43, .inl (G.2.1, 24, .inl (fun _ => 0)))] H := hP
  have hD : va_D A [(h0, .inr (2, [.int (o_L p1), .ref q30, .int 0, .null, .null, .int 0, .null, .int 0, .int 0, .int 0])), (q30, .inl (G.2.1, N0, .inl (fun _ => 0))), (q43, .inl (G.2.1, 24, .inl (fun _ => 0)))] := hD
  refine va_putF (D := G.1) (ci := 2) (v := .ref q43) (ty := .array .int) (C := RX0) (T := TX0) (N := 10) hx hb hts hin tyX0 tyX0_ok nmX0 hown hK hP hD hS 0 rfl rfl 3 (by decide) (hts (.fieldLink RX0 30 "OwnMemory" "roots" "[I") (by decide +kernel)) (fun _ h9 => h9) rfl hin2 rfl (by decide +kernel) rfl rfl (Nat.le_of_ble_eq_true rfl) dX0_init_45 (fun H locs hP hD hS => ?_)
  have hP : va_P G.1 vwCl [(h0, .inr (2, [.int (o_L p1), .ref q30, .int 0, .ref q43, .null, .int 0, .null, .int 0, .int 0, .int 0])), (q30, .inl (G.2.1, N0, .inl (fun _ => 0))), (q43, .inl (G.2.1, 24, .inl (fun _ => 0)))] H := hP
  have hD : va_D A [(h0, .inr (2, [.int (o_L p1), .ref q30, .int 0, .ref q43, .null, .int 0, .null, .int 0, .int 0, .int 0])), (q30, .inl (G.2.1, N0, .inl (fun _ => 0))), (q43, .inl (G.2.1, 24, .inl (fun _ => 0)))] := hD
  refine lv_aload_n hx hb dX0_init_48 rfl (lv_at hl 0 rfl) ?_
  refine va_get (D := G.1) (ci := 2) (v := .ref q43) (C := RX0) (T := TX0) (N := 10) hx hb hts hin hown hK hP 0 rfl rfl 3 (by decide) (hts (.fieldLink RX0 30 "OwnMemory" "roots" "[I") (by decide +kernel)) (fun _ h9 => h9) rfl dX0_init_49 ?_
  refine lv_iconst (v := (-1)) hx hb dX0_init_52 (by decide) ?_
  have hPc := hP.sub (ws' := aw G q43 24 (fun _ => 0)) [2] rfl
  have hDc := hD.sub (ws' := aw G q43 24 (fun _ => 0)) [2] (by decide) rfl
  have hFc := va_free (wc := aw G q43 24 (fun _ => 0)) hD hS hA [2] rfl
  refine va_callv (va_runS (As := [.ref q43, .int (-1)]) (rest := []) ⟨hx, hb, hml, hown, hts⟩ (kJ7_fill l G q43 24 H.size (by decide) (fun _ => 0) (-1)) (va_cwS 2 hts gX0_init_J7_fill_53178 rfl rfl rfl nJ7_fill ⟨Nat.le_of_ble_eq_true rfl, Nat.le_of_ble_eq_true rfl⟩) ⟨aPre_blind, fun U hU hW => ⟨rfl, by rw [hU], by rw [hU]; exact hPc, gK.moved hW.alike hK, hDc.weaken (fun _ _ _ _ => trivial)⟩⟩ rfl rfl hl.1 rfl (lv_room (Nat.le_of_ble_eq_true rfl)) dX0_init_53 ⟨by show 2 + 0 ≤ 4; decide, by show 0 + N0 + 24 + 0 ≤ 4296; omega⟩) hS (fun q _ h => hFc q h) hFc (fun u t H1 locs1 ht hvm hw hB hz1 hk1 hS => ?_)
  subst hw
  obtain ⟨hP1, hK1, hD1⟩ := hB
  rw [ht] at hP1
  obtain ⟨hP, hD⟩ := va_join (wr := [(h0, .inr (2, [.int (o_L p1), .ref q30, .int 0, .ref q43, .null, .int 0, .null, .int 0, .int 0, .int 0])), (q30, .inl (G.2.1, N0, .inl (fun _ => 0)))]) (w1 := aw G q43 24 (fillF (fun _ => 0) 0 24 (-1))) hP hD [2] [0, 1] rfl rfl (by decide) (by decide) hk1 hFc hP1 hD1
  generalize H1 = H at hP hS ⊢
  have hP : va_P G.1 vwCl [(h0, .inr (2, [.int (o_L p1), .ref q30, .int 0, .ref q43, .null, .int 0, .null, .int 0, .int 0, .int 0])), (q30, .inl (G.2.1, N0, .inl (fun _ => 0))), (q43, .inl (G.2.1, 24, .inl (fillF (fun _ => 0) 0 24 (-1))))] H := hP
  have hD : va_D A [(h0, .inr (2, [.int (o_L p1), .ref q30, .int 0, .ref q43, .null, .int 0, .null, .int 0, .int 0, .int 0])), (q30, .inl (G.2.1, N0, .inl (fun _ => 0))), (q43, .inl (G.2.1, 24, .inl (fillF (fun _ => 0) 0 24 (-1))))] := hD
  refine lv_aload_n hx hb dX0_init_56 rfl (lv_at hl 0 rfl) ?_
  refine lv_bipush (v := 16) hx hb dX0_init_57 (by decide) ?_
  refine va_newa (atype := .int) (ty := .int) (N' := 16) (a0 := (16, .inl (fun _ => 0))) hx hb (hts (.arrayClass .int) (by decide +kernel)) rfl hK hP hD hS hA (fun _ => rfl) (by decide) (by decide) (by show 16 * 4 ≤ 536870912; omega) (by show 2 + 1 ≤ 4; decide) (by show 0 + N0 + 24 + 0 + 16 ≤ 4296; omega) dX0_init_59 (fun q59 cA H hK2 hP hD hS => ?_)
  have ec := gK_arr 0 rfl (by decide) hK hK2
  subst ec
  have hP : va_P G.1 vwCl [(h0, .inr (2, [.int (o_L p1), .ref q30, .int 0, .ref q43, .null, .int 0, .null, .int 0, .int 0, .int 0])), (q30, .inl (G.2.1, N0, .inl (fun _ => 0))), (q43, .inl (G.2.1, 24, .inl (fillF (fun _ => 0) 0 24 (-1)))), (q59, .inl (G.2.1, 16, .inl (fun _ => 0)))] H := hP
  have hD : va_D A [(h0, .inr (2, [.int (o_L p1), .ref q30, .int 0, .ref q43, .null, .int 0, .null, .int 0, .int 0, .int 0])), (q30, .inl (G.2.1, N0, .inl (fun _ => 0))), (q43, .inl (G.2.1, 24, .inl (fillF (fun _ => 0) 0 24 (-1)))), (q59, .inl (G.2.1, 16, .inl (fun _ => 0)))] := hD
  refine va_put (D := G.1) (ci := 2) (v := .ref q59) (ty := .array .int) (C := RX0) (T := TX0) (N := 10) hx hb hts hin tyX0 tyX0_ok nmX0 hown hK hP hD hS 0 rfl rfl 4 (by decide) (hts (.fieldLink RX0 39 "OwnMemory" "names" "[I") (by decide +kernel)) (fun _ h9 => h9) rfl (by decide +kernel) rfl rfl (Nat.le_of_ble_eq_true rfl) dX0_init_61 (fun H locs hP hD hS => ?_)
  have hP : va_P G.1 vwCl [(h0, .inr (2, [.int (o_L p1), .ref q30, .int 0, .ref q43, .ref q59, .int 0, .null, .int 0, .int 0, .int 0])), (q30, .inl (G.2.1, N0, .inl (fun _ => 0))), (q43, .inl (G.2.1, 24, .inl (fillF (fun _ => 0) 0 24 (-1)))), (q59, .inl (G.2.1, 16, .inl (fun _ => 0)))] H := hP
  have hD : va_D A [(h0, .inr (2, [.int (o_L p1), .ref q30, .int 0, .ref q43, .ref q59, .int 0, .null, .int 0, .int 0, .int 0])), (q30, .inl (G.2.1, N0, .inl (fun _ => 0))), (q43, .inl (G.2.1, 24, .inl (fillF (fun _ => 0) 0 24 (-1)))), (q59, .inl (G.2.1, 16, .inl (fun _ => 0)))] := hD
  refine lv_aload_n hx hb dX0_init_64 rfl (lv_at hl 0 rfl) ?_
  refine lv_iconst (v := 0) hx hb dX0_init_65 (by decide) ?_
  refine va_put (D := G.1) (ci := 2) (v := .int 0) (ty := .int) (C := RX0) (T := TX0) (N := 10) hx hb hts hin tyX0 tyX0_ok nmX0 hown hK hP hD hS 0 rfl rfl 5 (by decide) (hts (.fieldLink RX0 42 "OwnMemory" "nameCount" "I") (by decide +kernel)) (fun _ h9 => h9) rfl (by decide +kernel) rfl rfl (Nat.le_of_ble_eq_true rfl) dX0_init_66 (fun H locs hP hD hS => ?_)
  have hP : va_P G.1 vwCl [(h0, .inr (2, [.int (o_L p1), .ref q30, .int 0, .ref q43, .ref q59, .int 0, .null, .int 0, .int 0, .int 0])), (q30, .inl (G.2.1, N0, .inl (fun _ => 0))), (q43, .inl (G.2.1, 24, .inl (fillF (fun _ => 0) 0 24 (-1)))), (q59, .inl (G.2.1, 16, .inl (fun _ => 0)))] H := hP
  have hD : va_D A [(h0, .inr (2, [.int (o_L p1), .ref q30, .int 0, .ref q43, .ref q59, .int 0, .null, .int 0, .int 0, .int 0])), (q30, .inl (G.2.1, N0, .inl (fun _ => 0))), (q43, .inl (G.2.1, 24, .inl (fillF (fun _ => 0) 0 24 (-1)))), (q59, .inl (G.2.1, 16, .inl (fun _ => 0)))] := hD
  refine lv_aload_n hx hb dX0_init_69 rfl (lv_at hl 0 rfl) ?_
  refine lv_sipush (v := 4000) hx hb dX0_init_70 (by decide) ?_
  refine va_newa (atype := .int) (ty := .int) (N' := 4000) (a0 := (4000, .inl (fun _ => 0))) hx hb (hts (.arrayClass .int) (by decide +kernel)) rfl hK hP hD hS hA (fun _ => rfl) (by decide) (by decide) (by show 4000 * 4 ≤ 536870912; omega) (by show 3 + 1 ≤ 4; decide) (by show 0 + N0 + 24 + 0 + 16 + 4000 ≤ 4296; omega) dX0_init_73 (fun q73 cA H hK2 hP hD hS => ?_)
  have ec := gK_arr 0 rfl (by decide) hK hK2
  subst ec
  have hP : va_P G.1 vwCl [(h0, .inr (2, [.int (o_L p1), .ref q30, .int 0, .ref q43, .ref q59, .int 0, .null, .int 0, .int 0, .int 0])), (q30, .inl (G.2.1, N0, .inl (fun _ => 0))), (q43, .inl (G.2.1, 24, .inl (fillF (fun _ => 0) 0 24 (-1)))), (q59, .inl (G.2.1, 16, .inl (fun _ => 0))), (q73, .inl (G.2.1, 4000, .inl (fun _ => 0)))] H := hP
  have hD : va_D A [(h0, .inr (2, [.int (o_L p1), .ref q30, .int 0, .ref q43, .ref q59, .int 0, .null, .int 0, .int 0, .int 0])), (q30, .inl (G.2.1, N0, .inl (fun _ => 0))), (q43, .inl (G.2.1, 24, .inl (fillF (fun _ => 0) 0 24 (-1)))), (q59, .inl (G.2.1, 16, .inl (fun _ => 0))), (q73, .inl (G.2.1, 4000, .inl (fun _ => 0)))] := hD
  refine va_putF (D := G.1) (ci := 2) (v := .ref q73) (ty := .array .int) (C := RX0) (T := TX0) (N := 10) hx hb hts hin tyX0 tyX0_ok nmX0 hown hK hP hD hS 0 rfl rfl 6 (by decide) (hts (.fieldLink RX0 45 "OwnMemory" "pending" "[I") (by decide +kernel)) (fun _ h9 => h9) rfl hin2 rfl (by decide +kernel) rfl rfl (Nat.le_of_ble_eq_true rfl) dX0_init_75 (fun H locs hP hD hS => ?_)
  have hP : va_P G.1 vwCl [(h0, .inr (2, [.int (o_L p1), .ref q30, .int 0, .ref q43, .ref q59, .int 0, .ref q73, .int 0, .int 0, .int 0])), (q30, .inl (G.2.1, N0, .inl (fun _ => 0))), (q43, .inl (G.2.1, 24, .inl (fillF (fun _ => 0) 0 24 (-1)))), (q59, .inl (G.2.1, 16, .inl (fun _ => 0))), (q73, .inl (G.2.1, 4000, .inl (fun _ => 0)))] H := hP
  have hD : va_D A [(h0, .inr (2, [.int (o_L p1), .ref q30, .int 0, .ref q43, .ref q59, .int 0, .ref q73, .int 0, .int 0, .int 0])), (q30, .inl (G.2.1, N0, .inl (fun _ => 0))), (q43, .inl (G.2.1, 24, .inl (fillF (fun _ => 0) 0 24 (-1)))), (q59, .inl (G.2.1, 16, .inl (fun _ => 0))), (q73, .inl (G.2.1, 4000, .inl (fun _ => 0)))] := hD
  refine lv_aload_n hx hb dX0_init_78 rfl (lv_at hl 0 rfl) ?_
  refine lv_iconst (v := (-1)) hx hb dX0_init_79 (by decide) ?_
  refine va_put (D := G.1) (ci := 2) (v := .int (-1)) (ty := .int) (C := RX0) (T := TX0) (N := 10) hx hb hts hin tyX0 tyX0_ok nmX0 hown hK hP hD hS 0 rfl rfl 7 (by decide) (hts (.fieldLink RX0 48 "OwnMemory" "waiting" "I") (by decide +kernel)) (fun _ h9 => h9) rfl (by decide +kernel) rfl rfl (Nat.le_of_ble_eq_true rfl) dX0_init_80 (fun H locs hP hD hS => ?_)
  have hP : va_P G.1 vwCl [(h0, .inr (2, [.int (o_L p1), .ref q30, .int 0, .ref q43, .ref q59, .int 0, .ref q73, .int (-1), .int 0, .int 0])), (q30, .inl (G.2.1, N0, .inl (fun _ => 0))), (q43, .inl (G.2.1, 24, .inl (fillF (fun _ => 0) 0 24 (-1)))), (q59, .inl (G.2.1, 16, .inl (fun _ => 0))), (q73, .inl (G.2.1, 4000, .inl (fun _ => 0)))] H := hP
  have hD : va_D A [(h0, .inr (2, [.int (o_L p1), .ref q30, .int 0, .ref q43, .ref q59, .int 0, .ref q73, .int (-1), .int 0, .int 0])), (q30, .inl (G.2.1, N0, .inl (fun _ => 0))), (q43, .inl (G.2.1, 24, .inl (fillF (fun _ => 0) 0 24 (-1)))), (q59, .inl (G.2.1, 16, .inl (fun _ => 0))), (q73, .inl (G.2.1, 4000, .inl (fun _ => 0)))] := hD
  refine lv_aload_n hx hb dX0_init_83 rfl (lv_at hl 0 rfl) ?_
  refine lv_iconst (v := 0) hx hb dX0_init_84 (by decide) ?_
  refine va_put (D := G.1) (ci := 2) (v := .int 0) (ty := .int) (C := RX0) (T := TX0) (N := 10) hx hb hts hin tyX0 tyX0_ok nmX0 hown hK hP hD hS 0 rfl rfl 8 (by decide) (hts (.fieldLink RX0 51 "OwnMemory" "stressEvery" "I") (by decide +kernel)) (fun _ h9 => h9) rfl (by decide +kernel) rfl rfl (Nat.le_of_ble_eq_true rfl) dX0_init_85 (fun H locs hP hD hS => ?_)
  have hP : va_P G.1 vwCl [(h0, .inr (2, [.int (o_L p1), .ref q30, .int 0, .ref q43, .ref q59, .int 0, .ref q73, .int (-1), .int 0, .int 0])), (q30, .inl (G.2.1, N0, .inl (fun _ => 0))), (q43, .inl (G.2.1, 24, .inl (fillF (fun _ => 0) 0 24 (-1)))), (q59, .inl (G.2.1, 16, .inl (fun _ => 0))), (q73, .inl (G.2.1, 4000, .inl (fun _ => 0)))] H := hP
  have hD : va_D A [(h0, .inr (2, [.int (o_L p1), .ref q30, .int 0, .ref q43, .ref q59, .int 0, .ref q73, .int (-1), .int 0, .int 0])), (q30, .inl (G.2.1, N0, .inl (fun _ => 0))), (q43, .inl (G.2.1, 24, .inl (fillF (fun _ => 0) 0 24 (-1)))), (q59, .inl (G.2.1, 16, .inl (fun _ => 0))), (q73, .inl (G.2.1, 4000, .inl (fun _ => 0)))] := hD
  refine lv_aload_n hx hb dX0_init_88 rfl (lv_at hl 0 rfl) ?_
  refine lv_iconst (v := 0) hx hb dX0_init_89 (by decide) ?_
  refine va_put (D := G.1) (ci := 2) (v := .int 0) (ty := .int) (C := RX0) (T := TX0) (N := 10) hx hb hts hin tyX0 tyX0_ok nmX0 hown hK hP hD hS 0 rfl rfl 9 (by decide) (hts (.fieldLink RX0 54 "OwnMemory" "made" "I") (by decide +kernel)) (fun _ h9 => h9) rfl (by decide +kernel) rfl rfl (Nat.le_of_ble_eq_true rfl) dX0_init_90 (fun H locs hP hD hS => ?_)
  have hP : va_P G.1 vwCl [(h0, .inr (2, [.int (o_L p1), .ref q30, .int 0, .ref q43, .ref q59, .int 0, .ref q73, .int (-1), .int 0, .int 0])), (q30, .inl (G.2.1, N0, .inl (fun _ => 0))), (q43, .inl (G.2.1, 24, .inl (fillF (fun _ => 0) 0 24 (-1)))), (q59, .inl (G.2.1, 16, .inl (fun _ => 0))), (q73, .inl (G.2.1, 4000, .inl (fun _ => 0)))] H := hP
  have hD : va_D A [(h0, .inr (2, [.int (o_L p1), .ref q30, .int 0, .ref q43, .ref q59, .int 0, .ref q73, .int (-1), .int 0, .int 0])), (q30, .inl (G.2.1, N0, .inl (fun _ => 0))), (q43, .inl (G.2.1, 24, .inl (fillF (fun _ => 0) 0 24 (-1)))), (q59, .inl (G.2.1, 16, .inl (fun _ => 0))), (q73, .inl (G.2.1, 4000, .inl (fun _ => 0)))] := hD
  have hP9 : va_P G.1 vwCl (ow G h0 (q30, q43, q59, q73) (o_new p1)) H := by unfold ow o_new; show va_P G.1 vwCl [(h0, .inr (2, [.int (o_L p1), .ref q30, .int 0, .ref q43, .ref q59, .int 0, .ref q73, .int (-1), .int 0, .int 0])), (q30, .inl (G.2.1, (o_n p1).toNatClampNeg, .inl (fun _ => 0))), (q43, .inl (G.2.1, 24, .inl (fillF (fun _ => 0) 0 24 (-1)))), (q59, .inl (G.2.1, 16, .inl (fun _ => 0))), (q73, .inl (G.2.1, 4000, .inl (fun _ => 0)))] H; rw [hN0]; exact hP
  have hD9 : va_D A (ow G h0 (q30, q43, q59, q73) (o_new p1)) := by unfold ow o_new; show va_D A [(h0, .inr (2, [.int (o_L p1), .ref q30, .int 0, .ref q43, .ref q59, .int 0, .ref q73, .int (-1), .int 0, .int 0])), (q30, .inl (G.2.1, (o_n p1).toNatClampNeg, .inl (fun _ => 0))), (q43, .inl (G.2.1, 24, .inl (fillF (fun _ => 0) 0 24 (-1)))), (q59, .inl (G.2.1, 16, .inl (fun _ => 0))), (q73, .inl (G.2.1, 4000, .inl (fun _ => 0)))]; rw [hN0]; exact hD
  refine W.widen (k := 4) (n := 4296) (by show 0 + 1 + 1 + 0 + 1 + 1 ≤ 4; decide) (by show 0 + N0 + 24 + 0 + 16 + 4000 ≤ 4296; omega) ?_
  exact W.vret hx hb hr (fun t ht hW => ⟨⟨_, rfl, rfl, (q30, q43, q59, q73), by rw [ht]; exact hP9, gK.moved hW.alike hK, hD9⟩, hS.F ht⟩) hS.2.2 dX0_init_93 hlocks
