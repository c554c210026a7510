/-- an array class of ints is the one of that name -/
theorem gK_int {G : gT} {s : State} {cA : ClassId} {D : va_G} {cl : List vw_C} {tys : List (ClassId × FieldType)} (hK : gK G s) (h : va_K D cl (tys ++ [(cA, .int)]) s) : cA = G.2.1 := by
  have h1 := (h.2 tys.length (cA, .int) (by simp)).2
  have h2 := (hK.2 0 (G.2.1, .int) rfl).2
  exact Option.some.inj (h1.symm.trans h2)
def grown (f : Nat → Int32) (n : Nat) : Nat → Int32 := fun k => if k < n then f k else 0
def aQr (G : gT) (a n N : Nat) (f : Nat → Int32) (A : Nat → Prop) : Array Value → State → Outcome → State → Prop := va_Qr (fun (u : Nat → Int32) => u = grown f n) (fun u q t => va_P G.1 vwCl [(a, .inl (G.2.1, n, .inl f)), (q, .inl (G.2.1, N, .inl u))] t.heap ∧ gK G t ∧ va_D A [(a, .inl (G.2.1, n, .inl f)), (q, .inl (G.2.1, N, .inl u))]) A
abbrev rJ7_copyOf (N : Nat) : Room := { frames := 1, cells := 1, slots := N, locals := 40 }
theorem nJ7_copyOf : yJ7_copyOf_59c91.cls ≠ "java/lang/invoke/MethodHandle" ∧ yJ7_copyOf_59c91.cls ≠ "java/lang/invoke/VarHandle" ∧ (parseMethodDescriptor yJ7_copyOf_59c91.desc).map (fun d => d.parameters.length) = some 2 := by decide +kernel
set_option maxHeartbeats 400000 in
set_option maxRecDepth 100000 in
theorem kJ7_copyOf (l : Launch) (G : gT) (a n sz N : Nat) (h1 : n < N) (h2 : N ≤ 1048576) (f : Nat → Int32) : Met l yJ7_copyOf_59c91 wsJ7_copyOf_59c91 (rJ7_copyOf N) (aPre G a n f sz [.int (nI N)]) (aQr G a n N f (va_A (aw G a n f) sz)) 1 N (va_A (aw G a n f) sz) := by
  refine Met.ofW (cc := cJ7_copyOf_59c91) (maxL := 3) (ret := some (.array .int)) (by decide +kernel) rfl ?_
  intro p e s m args below meth c s₁ B hml hv
  obtain ⟨rfl, hsz, hP, hK, hD0⟩ := hv
  subst hsz
  have hx := B.exec
  have hb := B.bytes
  have hts := atoms_spec (ws := wsJ7_copyOf_59c91) B.pre
  have hown : s.vm.findClass RJ7 = some m.cls := findClass_of_methodNamed B.named
  have hD := hD0.self (sz := s.heap.size)
  generalize hAe : va_A (aw G a n f) s.heap.size = A at hD ⊢
  have hA : ∀ q : Nat, s.heap.size ≤ q → A q := fun q h => by rw [← hAe]; exact Or.inr h
  have hS : va_S A s.heap s.heap [] := va_S.rf
  have hl := lv_entry ([.ref a, .int (nI N)]) (n := 3) (Nat.le_of_ble_eq_true rfl)
  rw [lg_entry_eq]
  generalize (lg_sl ([.ref a, .int (nI N)]) ++ List.replicate (3 - (lg_sl ([.ref a, .int (nI N)])).length) Slot.unset).toArray = ls at hl ⊢
  have hl : lv_has ls 3 [(0, .ref a), (1, .int (nI N))] := hl
  refine lv_iload_n hx hb dJ7_copyOf_59c91_0 rfl (lv_at hl 1 rfl) ?_
  refine lv_aload_n hx hb dJ7_copyOf_59c91_1 rfl (lv_at hl 0 rfl) ?_
  refine va_alen (v := nI n) hx hb hK hP 0 0 rfl rfl rfl dJ7_copyOf_59c91_2 ?_
  refine lv_icmp_ne (tgt := 14) hx hb dJ7_copyOf_59c91_3 (by decide) (fun c1 => ?_) (fun c1 => absurd ((nI_eq (by omega) (by omega)).mp c1) (by omega))
  refine lv_iload_n hx hb dJ7_copyOf_59c91_14 rfl (lv_at hl 1 rfl) ?_
  refine va_newa (atype := .int) (ty := .int) (N' := N) (a0 := (N, .inl (fun _ => 0))) hx hb (hts (.arrayClass .int) (by decide +kernel)) rfl hK hP hD hS hA (fun _ => rfl) (nI_pos (by omega)) (nI_clamp (by omega)) (by show N * 4 ≤ _; omega) (by show 0 + 1 ≤ 1; omega) (by show 0 + N ≤ N; omega) dJ7_copyOf_59c91_15 (fun q cA H hK2 hP hD hS => ?_)
  have ec := gK_int hK hK2
  subst ec
  have hP : va_P G.1 vwCl [(a, .inl (G.2.1, n, .inl f)), (q, .inl (G.2.1, N, .inl (fun _ => 0)))] H := hP
  have hD : va_D A [(a, .inl (G.2.1, n, .inl f)), (q, .inl (G.2.1, N, .inl (fun _ => 0)))] := hD
  refine lv_astore_n (lv' := [(2, .ref q), (0, .ref a), (1, .int (nI N))]) hx hb dJ7_copyOf_59c91_17 rfl hl (by decide) rfl (fun ls hl => ?_)
  refine lv_aload_n hx hb dJ7_copyOf_59c91_18 rfl (lv_at hl 1 rfl) ?_
  refine lv_iconst (v := 0) hx hb dJ7_copyOf_59c91_19 (by decide) ?_
  refine lv_aload_n hx hb dJ7_copyOf_59c91_20 rfl (lv_at hl 0 rfl) ?_
  refine lv_iconst (v := 0) hx hb dJ7_copyOf_59c91_21 (by decide) ?_
  refine lv_aload_n hx hb dJ7_copyOf_59c91_22 rfl (lv_at hl 1 rfl) ?_
  refine va_alen (v := nI n) hx hb hK hP 0 0 rfl rfl rfl dJ7_copyOf_59c91_23 ?_
  refine lv_iload_n hx hb dJ7_copyOf_59c91_24 rfl (lv_at hl 2 rfl) ?_
  refine va_mmin hx hb (by rw [hml]; exact hl.1.symm) hown (hts (.methodLink RJ7 304 Lib.Math.min.name) (by decide +kernel)) (hts (.static Lib.Math.min.name) (by decide +kernel)) (hts (.initialized "java/lang/Math") (by decide +kernel)) (hts (.code Lib.Math.min.name Lib.Math.min.code 2 (some .int)) (by decide +kernel)) (Nat.le_of_ble_eq_true rfl) (Nat.le_of_ble_eq_true rfl) (by show 0 + 1 ≤ 1; omega) (by show 0 + N ≤ N; omega) dJ7_copyOf_59c91_25 ?_
  refine wn_i (y := nI n) (by rw [if_neg (nI_nlt (by omega) (by omega))]) ?_
  refine va_copyi (ty := .int) (f := f) (g := fun _ => 0) hx hb (by rw [hml]; exact hl.1.symm) hown (hts (.methodLink RJ7 150 arraycopyName) (by decide +kernel)) (hts (.native arraycopyName) (by decide +kernel)) (hts (.static arraycopyName) (by decide +kernel)) (hts (.initialized "java/lang/System") (by decide +kernel)) hK hP hD hS 0 1 0 0 rfl rfl rfl rfl rfl (by decide) (by decide) (nI_pos (by omega)) (by rw [sb_cl0, nI_clamp (by omega)]; omega) (by rw [sb_cl0, nI_clamp (by omega)]; omega) (fun _ _ => rfl) (Nat.le_of_ble_eq_true rfl) (Nat.le_of_ble_eq_true rfl) dJ7_copyOf_59c91_28 (fun H locs hP hD hS => ?_)
  have e1 : va_cpy f (fun _ => 0) (0 : Int32).toNatClampNeg (0 : Int32).toNatClampNeg (nI n).toNatClampNeg = grown f n := by
    rw [sb_cl0, nI_clamp (by omega)]
    funext k
    unfold va_cpy grown
    by_cases hk : k < n
    · rw [if_pos (by omega), if_pos hk]; congr 1; omega
    · rw [if_neg (by omega), if_neg hk]
  rw [e1] at hP hD
  have hP : va_P G.1 vwCl [(a, .inl (G.2.1, n, .inl f)), (q, .inl (G.2.1, N, .inl (grown f n)))] H := hP
  have hD : va_D A [(a, .inl (G.2.1, n, .inl f)), (q, .inl (G.2.1, N, .inl (grown f n)))] := hD
  refine lv_aload_n hx hb dJ7_copyOf_59c91_31 rfl (lv_at hl 0 rfl) ?_
  refine W.widen (k := 1) (n := N) (by omega) (by omega) ?_
  exact W.aret hx hb B.returns (Or.inr ⟨_, rfl⟩) (Or.inr ⟨_, rfl⟩) (fun t ht hW => ⟨⟨_, q, rfl, rfl, by rw [ht]; exact hP, gK.moved hW.alike hK, hD⟩, hS.F ht⟩) hS.2.2 dJ7_copyOf_59c91_32 B.notSynchronized
