/-! contracts: leaf -/
-- OwnMemory.isReference
abbrev rX0_isReference : Room := { frames := 0, cells := 0, slots := 0, locals := 0 }
theorem nX0_isReference : yX0_isReference.cls ≠ "java/lang/invoke/MethodHandle" ∧ yX0_isReference.cls ≠ "java/lang/invoke/VarHandle" ∧ (parseMethodDescriptor yX0_isReference.desc).map (fun d => d.parameters.length) = some 1 := by decide +kernel
noncomputable def fX0_isReference (F : Nat) (p1 : Int32) : Option Int32 := cIf ((p1.toUInt32 >>> ((16 : Int32).toUInt32 &&& Int32.toUInt32 31)).toInt32 = 65530) (some 1) (some 0)
set_option maxHeartbeats 4000000 in
set_option maxRecDepth 100000 in
theorem kX0_isReference (l : Launch) (sz F : Nat) (p1 : Int32) (r : Int32) (hg : fX0_isReference F p1 = some r) : Met l yX0_isReference wsX0_isReference rX0_isReference (sPre sz [.int p1]) (sQi r sz) 0 0 (fun q => sz ≤ q) := by
  refine sMet (own := RX0) (Qc := sQi r) (by decide +kernel) rfl rfl (Nat.le_of_ble_eq_true rfl) ?_
  intro p e s m args below meth c S hr hlocks H locs hS ls hl
  have hl : lv_has ls 1 [(0, .int p1)] := hl
  have hx := S.1
  have hb := S.2.1
  have hts := S.2.2.2.2
  have hown := S.2.2.2.1
  unfold fX0_isReference at hg
  refine lv_iload_n hx hb dX0_isReference_0 rfl (lv_at hl 0 rfl) ?_
  refine lv_bipush (v := 16) hx hb dX0_isReference_1 (by decide) ?_
  refine lv_iushr (v := (p1.toUInt32 >>> ((16 : Int32).toUInt32 &&& Int32.toUInt32 31)).toInt32) hx hb dX0_isReference_3 rfl ?_
  refine lv_ldc (v := 65530) hx hb hown (hts (.constant RX0 186 (65530)) (by decide +kernel)) dX0_isReference_4 ?_
  refine lv_icmp_ne (tgt := 13) hx hb dX0_isReference_6 (by decide) (fun c1 => ?_) (fun c1 => ?_)
  · have hg := cIf_fe c1 hg
    refine lv_iconst (v := 0) hx hb dX0_isReference_13 (by decide) ?_
    exact se_z S hr hlocks hS rfl hg dX0_isReference_14
  · have hg := cIf_te c1 hg
    refine lv_iconst (v := 1) hx hb dX0_isReference_9 (by decide) ?_
    refine lv_goto (tgt := 14) hx hb dX0_isReference_10 (by decide) ?_
    exact se_z S hr hlocks hS rfl hg dX0_isReference_14
-- OwnMemory.isUpTo
abbrev rX0_isUpTo : Room := { frames := 0, cells := 0, slots := 0, locals := 0 }
theorem nX0_isUpTo : yX0_isUpTo.cls ≠ "java/lang/invoke/MethodHandle" ∧ yX0_isUpTo.cls ≠ "java/lang/invoke/VarHandle" ∧ (parseMethodDescriptor yX0_isUpTo.desc).map (fun d => d.parameters.length) = some 2 := by decide +kernel
noncomputable def fX0_isUpTo (F : Nat) (p1 : Int32) (p2 : Int32) : Option Int32 := cIf (p1 < 0) (some 0) (cIf (p2 < p1) (some 0) (some 1))
set_option maxHeartbeats 4000000 in
set_option maxRecDepth 100000 in
theorem kX0_isUpTo (l : Launch) (sz F : Nat) (p1 : Int32) (p2 : Int32) (r : Int32) (hg : fX0_isUpTo F p1 p2 = some r) : Met l yX0_isUpTo wsX0_isUpTo rX0_isUpTo (sPre sz [.int p1, .int p2]) (sQi r sz) 0 0 (fun q => sz ≤ q) := by
  refine sMet (own := RX0) (Qc := sQi r) (by decide +kernel) rfl rfl (Nat.le_of_ble_eq_true rfl) ?_
  intro p e s m args below meth c S hr hlocks H locs hS ls hl
  have hl : lv_has ls 2 [(0, .int p1), (1, .int p2)] := hl
  have hx := S.1
  have hb := S.2.1
  have hts := S.2.2.2.2
  have hown := S.2.2.2.1
  unfold fX0_isUpTo at hg
  refine lv_iload_n hx hb dX0_isUpTo_0 rfl (lv_at hl 0 rfl) ?_
  refine lv_if_lt (tgt := 13) hx hb dX0_isUpTo_1 (by decide) (fun c1 => ?_) (fun c1 => ?_)
  · have hg := cIf_te c1 hg
    refine lv_iconst (v := 0) hx hb dX0_isUpTo_13 (by decide) ?_
    exact se_z S hr hlocks hS rfl hg dX0_isUpTo_14
  · have hg := cIf_fe c1 hg
    refine lv_iload_n hx hb dX0_isUpTo_4 rfl (lv_at hl 0 rfl) ?_
    refine lv_iload_n hx hb dX0_isUpTo_5 rfl (lv_at hl 1 rfl) ?_
    refine lv_icmp_gt (tgt := 13) hx hb dX0_isUpTo_6 (by decide) (fun c2 => ?_) (fun c2 => ?_)
    · have hg := cIf_te c2 hg
      refine lv_iconst (v := 0) hx hb dX0_isUpTo_13 (by decide) ?_
      exact se_z S hr hlocks hS rfl hg dX0_isUpTo_14
    · have hg := cIf_fe c2 hg
      refine lv_iconst (v := 1) hx hb dX0_isUpTo_9 (by decide) ?_
      refine lv_goto (tgt := 14) hx hb dX0_isUpTo_10 (by decide) ?_
      exact se_z S hr hlocks hS rfl hg dX0_isUpTo_14
-- OwnMemory.shapeOf
abbrev rX0_shapeOf : Room := { frames := 0, cells := 0, slots := 0, locals := 0 }
theorem nX0_shapeOf : yX0_shapeOf.cls ≠ "java/lang/invoke/MethodHandle" ∧ yX0_shapeOf.cls ≠ "java/lang/invoke/VarHandle" ∧ (parseMethodDescriptor yX0_shapeOf.desc).map (fun d => d.parameters.length) = some 4 := by decide +kernel
noncomputable def fX0_shapeOf (F : Nat) (p1 : Int32) (p2 : Int32) (p3 : Int32) (p4 : Int32) : Option Int32 := some (((p1 ||| (p2 <<< (4 &&& 31))) ||| (p3 <<< (8 &&& 31))) ||| (p4 <<< (12 &&& 31)))
set_option maxHeartbeats 4000000 in
set_option maxRecDepth 100000 in
theorem kX0_shapeOf (l : Launch) (sz F : Nat) (p1 : Int32) (p2 : Int32) (p3 : Int32) (p4 : Int32) (r : Int32) (hg : fX0_shapeOf F p1 p2 p3 p4 = some r) : Met l yX0_shapeOf wsX0_shapeOf rX0_shapeOf (sPre sz [.int p1, .int p2, .int p3, .int p4]) (sQi r sz) 0 0 (fun q => sz ≤ q) := by
  refine sMet (own := RX0) (Qc := sQi r) (by decide +kernel) rfl rfl (Nat.le_of_ble_eq_true rfl) ?_
  intro p e s m args below meth c S hr hlocks H locs hS ls hl
  have hl : lv_has ls 4 [(0, .int p1), (1, .int p2), (2, .int p3), (3, .int p4)] := hl
  have hx := S.1
  have hb := S.2.1
  have hts := S.2.2.2.2
  have hown := S.2.2.2.1
  unfold fX0_shapeOf at hg
  refine lv_iload_n hx hb dX0_shapeOf_0 rfl (lv_at hl 0 rfl) ?_
  refine lv_iload_n hx hb dX0_shapeOf_1 rfl (lv_at hl 1 rfl) ?_
  refine lv_iconst (v := 4) hx hb dX0_shapeOf_2 (by decide) ?_
  refine lv_ishl hx hb dX0_shapeOf_3 ?_
  refine lv_ior hx hb dX0_shapeOf_4 ?_
  refine lv_iload_n hx hb dX0_shapeOf_5 rfl (lv_at hl 2 rfl) ?_
  refine lv_bipush (v := 8) hx hb dX0_shapeOf_6 (by decide) ?_
  refine lv_ishl hx hb dX0_shapeOf_8 ?_
  refine lv_ior hx hb dX0_shapeOf_9 ?_
  refine lv_iload_n hx hb dX0_shapeOf_10 rfl (lv_at hl 3 rfl) ?_
  refine lv_bipush (v := 12) hx hb dX0_shapeOf_11 (by decide) ?_
  refine lv_ishl hx hb dX0_shapeOf_13 ?_
  refine lv_ior hx hb dX0_shapeOf_14 ?_
  exact se_i S hr hlocks hS hg dX0_shapeOf_15
-- OwnMemory.kindAt
abbrev rX0_kindAt : Room := { frames := 0, cells := 0, slots := 0, locals := 0 }
theorem nX0_kindAt : yX0_kindAt.cls = RX0 ∧ yX0_kindAt.cls ≠ "java/lang/invoke/MethodHandle" ∧ yX0_kindAt.cls ≠ "java/lang/invoke/VarHandle" ∧ (parseMethodDescriptor yX0_kindAt.desc).map (fun d => d.parameters.length) = some 1 := by decide +kernel
noncomputable def fX0_kindAt (F : Nat) (σ : oS) (p1 : Int32) : Option (Int32 × oS) := cIf (p1 = (-1)) (some (0, σ)) (ck (vp_in (p1 + 0) (o_lw σ)) (nmd (o_fw σ (p1 + 0).toNatClampNeg) (fun x3 => some ((x3 &&& 15), σ))))
set_option maxHeartbeats 4000000 in
set_option maxRecDepth 100000 in
theorem kX0_kindAt (l : Launch) (G : gT) (h0 : Nat) (h : oH) (sz F : Nat) (σ : oS) (p1 : Int32) (r : Int32) (σr : oS) (hg : fX0_kindAt F σ p1 = some (r, σr)) : Met l yX0_kindAt wsX0_kindAt rX0_kindAt (oPre G h0 h σ sz [.int p1]) (oQi G h0 h r σr (oA G h0 h σ sz)) 0 0 (oA G h0 h σ sz) := by
  refine oMet (Qc := oQi G h0 h r σr) (by decide +kernel) rfl rfl (Nat.le_of_ble_eq_true rfl) ?_
  intro p e s m args below meth c A S hr hlocks hK hA H locs hI ls hl
  have hl : lv_has ls 2 [(0, .ref h0), (1, .int p1)] := hl
  have hin : ∀ w ∈ wsX00, w ∈ wsX0_kindAt := in_ws
  have hx := S.1
  have hb := S.2.1
  have hts := S.2.2.2.2
  have hown := S.2.2.2.1
  unfold fX0_kindAt at hg
  refine lv_iload_n hx hb dX0_kindAt_0 rfl (lv_at hl 1 rfl) ?_
  refine lv_iconst (v := (-1)) hx hb dX0_kindAt_1 (by decide) ?_
  refine lv_icmp_ne (tgt := 9) hx hb dX0_kindAt_2 (by decide) (fun c1 => ?_) (fun c1 => ?_)
  · have hg := cIf_fe c1 hg
    refine lv_aload_n hx hb dX0_kindAt_9 rfl (lv_at hl 0 rfl) ?_
    refine og_words S hin hK hI (ix := 23) (by decide +kernel) dX0_kindAt_10 ?_
    refine lv_iload_n hx hb dX0_kindAt_13 rfl (lv_at hl 1 rfl) ?_
    refine lv_iconst (v := 0) hx hb dX0_kindAt_14 (by decide) ?_
    refine lv_iadd hx hb dX0_kindAt_15 ?_
    obtain ⟨c2, hg⟩ := ck_e hg
    obtain ⟨x3, ex3, hg⟩ := nmd_e hg
    refine or_words S hK hI c2 ex3 dX0_kindAt_16 ?_
    refine lv_bipush (v := 15) hx hb dX0_kindAt_17 (by decide) ?_
    refine lv_iand hx hb dX0_kindAt_19 ?_
    exact oe_i S hr hlocks hK hI hg dX0_kindAt_20
  · have hg := cIf_te c1 hg
    refine lv_iconst (v := 0) hx hb dX0_kindAt_5 (by decide) ?_
    refine lv_goto (tgt := 20) hx hb dX0_kindAt_6 (by decide) ?_
    exact oe_i S hr hlocks hK hI hg dX0_kindAt_20
-- OwnMemory.linksAt
abbrev rX0_linksAt : Room := { frames := 0, cells := 0, slots := 0, locals := 0 }
theorem nX0_linksAt : yX0_linksAt.cls = RX0 ∧ yX0_linksAt.cls ≠ "java/lang/invoke/MethodHandle" ∧ yX0_linksAt.cls ≠ "java/lang/invoke/VarHandle" ∧ (parseMethodDescriptor yX0_linksAt.desc).map (fun d => d.parameters.length) = some 1 := by decide +kernel
noncomputable def fX0_linksAt (F : Nat) (σ : oS) (p1 : Int32) : Option (Int32 × oS) := ck (vp_in (p1 + 0) (o_lw σ)) (nmd (o_fw σ (p1 + 0).toNatClampNeg) (fun x2 => some (((x2 >>> (4 &&& 31)) &&& 15), σ)))
set_option maxHeartbeats 4000000 in
set_option maxRecDepth 100000 in
theorem kX0_linksAt (l : Launch) (G : gT) (h0 : Nat) (h : oH) (sz F : Nat) (σ : oS) (p1 : Int32) (r : Int32) (σr : oS) (hg : fX0_linksAt F σ p1 = some (r, σr)) : Met l yX0_linksAt wsX0_linksAt rX0_linksAt (oPre G h0 h σ sz [.int p1]) (oQi G h0 h r σr (oA G h0 h σ sz)) 0 0 (oA G h0 h σ sz) := by
  refine oMet (Qc := oQi G h0 h r σr) (by decide +kernel) rfl rfl (Nat.le_of_ble_eq_true rfl) ?_
  intro p e s m args below meth c A S hr hlocks hK hA H locs hI ls hl
  have hl : lv_has ls 2 [(0, .ref h0), (1, .int p1)] := hl
  have hin : ∀ w ∈ wsX00, w ∈ wsX0_linksAt := in_ws
  have hx := S.1
  have hb := S.2.1
  have hts := S.2.2.2.2
  have hown := S.2.2.2.1
  unfold fX0_linksAt at hg
  refine lv_aload_n hx hb dX0_linksAt_0 rfl (lv_at hl 0 rfl) ?_
  refine og_words S hin hK hI (ix := 23) (by decide +kernel) dX0_linksAt_1 ?_
  refine lv_iload_n hx hb dX0_linksAt_4 rfl (lv_at hl 1 rfl) ?_
  refine lv_iconst (v := 0) hx hb dX0_linksAt_5 (by decide) ?_
  refine lv_iadd hx hb dX0_linksAt_6 ?_
  obtain ⟨c1, hg⟩ := ck_e hg
  obtain ⟨x2, ex2, hg⟩ := nmd_e hg
  refine or_words S hK hI c1 ex2 dX0_linksAt_7 ?_
  refine lv_iconst (v := 4) hx hb dX0_linksAt_8 (by decide) ?_
  refine lv_ishr hx hb dX0_linksAt_9 ?_
  refine lv_bipush (v := 15) hx hb dX0_linksAt_10 (by decide) ?_
  refine lv_iand hx hb dX0_linksAt_12 ?_
  exact oe_i S hr hlocks hK hI hg dX0_linksAt_13
-- OwnMemory.valuesAt
abbrev rX0_valuesAt : Room := { frames := 0, cells := 0, slots := 0, locals := 0 }
theorem nX0_valuesAt : yX0_valuesAt.cls = RX0 ∧ yX0_valuesAt.cls ≠ "java/lang/invoke/MethodHandle" ∧ yX0_valuesAt.cls ≠ "java/lang/invoke/VarHandle" ∧ (parseMethodDescriptor yX0_valuesAt.desc).map (fun d => d.parameters.length) = some 1 := by decide +kernel
noncomputable def fX0_valuesAt (F : Nat) (σ : oS) (p1 : Int32) : Option (Int32 × oS) := ck (vp_in (p1 + 0) (o_lw σ)) (nmd (o_fw σ (p1 + 0).toNatClampNeg) (fun x2 => some (((x2 >>> (8 &&& 31)) &&& 15), σ)))
set_option maxHeartbeats 4000000 in
set_option maxRecDepth 100000 in
theorem kX0_valuesAt (l : Launch) (G : gT) (h0 : Nat) (h : oH) (sz F : Nat) (σ : oS) (p1 : Int32) (r : Int32) (σr : oS) (hg : fX0_valuesAt F σ p1 = some (r, σr)) : Met l yX0_valuesAt wsX0_valuesAt rX0_valuesAt (oPre G h0 h σ sz [.int p1]) (oQi G h0 h r σr (oA G h0 h σ sz)) 0 0 (oA G h0 h σ sz) := by
  refine oMet (Qc := oQi G h0 h r σr) (by decide +kernel) rfl rfl (Nat.le_of_ble_eq_true rfl) ?_
  intro p e s m args below meth c A S hr hlocks hK hA H locs hI ls hl
  have hl : lv_has ls 2 [(0, .ref h0), (1, .int p1)] := hl
  have hin : ∀ w ∈ wsX00, w ∈ wsX0_valuesAt := in_ws
  have hx := S.1
  have hb := S.2.1
  have hts := S.2.2.2.2
  have hown := S.2.2.2.1
  unfold fX0_valuesAt at hg
  refine lv_aload_n hx hb dX0_valuesAt_0 rfl (lv_at hl 0 rfl) ?_
  refine og_words S hin hK hI (ix := 23) (by decide +kernel) dX0_valuesAt_1 ?_
  refine lv_iload_n hx hb dX0_valuesAt_4 rfl (lv_at hl 1 rfl) ?_
  refine lv_iconst (v := 0) hx hb dX0_valuesAt_5 (by decide) ?_
  refine lv_iadd hx hb dX0_valuesAt_6 ?_
  obtain ⟨c1, hg⟩ := ck_e hg
  obtain ⟨x2, ex2, hg⟩ := nmd_e hg
  refine or_words S hK hI c1 ex2 dX0_valuesAt_7 ?_
  refine lv_bipush (v := 8) hx hb dX0_valuesAt_8 (by decide) ?_
  refine lv_ishr hx hb dX0_valuesAt_10 ?_
  refine lv_bipush (v := 15) hx hb dX0_valuesAt_11 (by decide) ?_
  refine lv_iand hx hb dX0_valuesAt_13 ?_
  exact oe_i S hr hlocks hK hI hg dX0_valuesAt_14
-- OwnMemory.sizeAt
abbrev rX0_sizeAt : Room := { frames := 0, cells := 0, slots := 0, locals := 0 }
theorem nX0_sizeAt : yX0_sizeAt.cls = RX0 ∧ yX0_sizeAt.cls ≠ "java/lang/invoke/MethodHandle" ∧ yX0_sizeAt.cls ≠ "java/lang/invoke/VarHandle" ∧ (parseMethodDescriptor yX0_sizeAt.desc).map (fun d => d.parameters.length) = some 1 := by decide +kernel
noncomputable def fX0_sizeAt (F : Nat) (σ : oS) (p1 : Int32) : Option (Int32 × oS) := ck (vp_in (p1 + 0) (o_lw σ)) (nmd (o_fw σ (p1 + 0).toNatClampNeg) (fun x2 => some ((x2 >>> (12 &&& 31)), σ)))
set_option maxHeartbeats 4000000 in
set_option maxRecDepth 100000 in
theorem kX0_sizeAt (l : Launch) (G : gT) (h0 : Nat) (h : oH) (sz F : Nat) (σ : oS) (p1 : Int32) (r : Int32) (σr : oS) (hg : fX0_sizeAt F σ p1 = some (r, σr)) : Met l yX0_sizeAt wsX0_sizeAt rX0_sizeAt (oPre G h0 h σ sz [.int p1]) (oQi G h0 h r σr (oA G h0 h σ sz)) 0 0 (oA G h0 h σ sz) := by
  refine oMet (Qc := oQi G h0 h r σr) (by decide +kernel) rfl rfl (Nat.le_of_ble_eq_true rfl) ?_
  intro p e s m args below meth c A S hr hlocks hK hA H locs hI ls hl
  have hl : lv_has ls 2 [(0, .ref h0), (1, .int p1)] := hl
  have hin : ∀ w ∈ wsX00, w ∈ wsX0_sizeAt := in_ws
  have hx := S.1
  have hb := S.2.1
  have hts := S.2.2.2.2
  have hown := S.2.2.2.1
  unfold fX0_sizeAt at hg
  refine lv_aload_n hx hb dX0_sizeAt_0 rfl (lv_at hl 0 rfl) ?_
  refine og_words S hin hK hI (ix := 23) (by decide +kernel) dX0_sizeAt_1 ?_
  refine lv_iload_n hx hb dX0_sizeAt_4 rfl (lv_at hl 1 rfl) ?_
  refine lv_iconst (v := 0) hx hb dX0_sizeAt_5 (by decide) ?_
  refine lv_iadd hx hb dX0_sizeAt_6 ?_
  obtain ⟨c1, hg⟩ := ck_e hg
  obtain ⟨x2, ex2, hg⟩ := nmd_e hg
  refine or_words S hK hI c1 ex2 dX0_sizeAt_7 ?_
  refine lv_bipush (v := 12) hx hb dX0_sizeAt_8 (by decide) ?_
  refine lv_ishr hx hb dX0_sizeAt_10 ?_
  exact oe_i S hr hlocks hK hI hg dX0_sizeAt_11
-- OwnMemory.touch
abbrev rX0_touch : Room := { frames := 0, cells := 0, slots := 0, locals := 0 }
theorem nX0_touch : yX0_touch.cls = RX0 ∧ yX0_touch.cls ≠ "java/lang/invoke/MethodHandle" ∧ yX0_touch.cls ≠ "java/lang/invoke/VarHandle" ∧ (parseMethodDescriptor yX0_touch.desc).map (fun d => d.parameters.length) = some 2 := by decide +kernel
noncomputable def fX0_touch (F : Nat) (σ : oS) (p1 : Int32) (p2 : Int32) : Option (Int32 × oS) := cIf (p1 = (-1)) (some ((-1), σ)) (cIf (p2 = 0) (ck (vp_in (p1 + 1) (o_lw σ)) (nmd (o_fw σ (p1 + 1).toNatClampNeg) (fun x4 => cIf (x4 = (-1)) (ck (vp_in (p1 + 1) (o_lw σ)) (nmd (o_s_fw σ (upd (o_fw σ) (p1 + 1).toNatClampNeg p1)) (fun σ7 => ck (vp_in (p1 + 2) (o_lw σ7)) (nmd (o_s_fw σ7 (upd (o_fw σ7) (p1 + 2).toNatClampNeg (o_wt σ7))) (fun σ9 => nmd (o_s_wt σ9 p1) (fun σ10 => some (p1, σ10))))))) (some (p1, σ))))) (ck (vp_in (p1 + 1) (o_lw σ)) (nmd (o_fw σ (p1 + 1).toNatClampNeg) (fun x12 => some (x12, σ)))))
set_option maxHeartbeats 4000000 in
set_option maxRecDepth 100000 in
theorem kX0_touch (l : Launch) (G : gT) (h0 : Nat) (h : oH) (sz F : Nat) (σ : oS) (p1 : Int32) (p2 : Int32) (r : Int32) (σr : oS) (hg : fX0_touch F σ p1 p2 = some (r, σr)) : Met l yX0_touch wsX0_touch rX0_touch (oPre G h0 h σ sz [.int p1, .int p2]) (oQi G h0 h r σr (oA G h0 h σ sz)) 0 0 (oA G h0 h σ sz) := by
  refine oMet (Qc := oQi G h0 h r σr) (by decide +kernel) rfl rfl (Nat.le_of_ble_eq_true rfl) ?_
  intro p e s m args below meth c A S hr hlocks hK hA H locs hI ls hl
  have hl : lv_has ls 3 [(0, .ref h0), (1, .int p1), (2, .int p2)] := hl
  have hin : ∀ w ∈ wsX00, w ∈ wsX0_touch := in_ws
  have hx := S.1
  have hb := S.2.1
  have hts := S.2.2.2.2
  have hown := S.2.2.2.1
  unfold fX0_touch at hg
  refine lv_iload_n hx hb dX0_touch_0 rfl (lv_at hl 1 rfl) ?_
  refine lv_iconst (v := (-1)) hx hb dX0_touch_1 (by decide) ?_
  refine lv_icmp_ne (tgt := 7) hx hb dX0_touch_2 (by decide) (fun c1 => ?_) (fun c1 => ?_)
  · have hg := cIf_fe c1 hg
    refine lv_iload_n hx hb dX0_touch_7 rfl (lv_at hl 2 rfl) ?_
    refine lv_if_eq (tgt := 20) hx hb dX0_touch_8 (by decide) (fun c2 => ?_) (fun c2 => ?_)
    · have hg := cIf_te c2 hg
      refine lv_aload_n hx hb dX0_touch_20 rfl (lv_at hl 0 rfl) ?_
      refine og_words S hin hK hI (ix := 23) (by decide +kernel) dX0_touch_21 ?_
      refine lv_iload_n hx hb dX0_touch_24 rfl (lv_at hl 1 rfl) ?_
      refine lv_iconst (v := 1) hx hb dX0_touch_25 (by decide) ?_
      refine lv_iadd hx hb dX0_touch_26 ?_
      obtain ⟨c3, hg⟩ := ck_e hg
      obtain ⟨x4, ex4, hg⟩ := nmd_e hg
      refine or_words S hK hI c3 ex4 dX0_touch_27 ?_
      refine lv_iconst (v := (-1)) hx hb dX0_touch_28 (by decide) ?_
      refine lv_icmp_ne (tgt := 58) hx hb dX0_touch_29 (by decide) (fun c5 => ?_) (fun c5 => ?_)
      · have hg := cIf_fe c5 hg
        refine lv_iload_n hx hb dX0_touch_58 rfl (lv_at hl 1 rfl) ?_
        exact oe_i S hr hlocks hK hI hg dX0_touch_59
      · have hg := cIf_te c5 hg
        refine lv_aload_n hx hb dX0_touch_32 rfl (lv_at hl 0 rfl) ?_
        refine og_words S hin hK hI (ix := 23) (by decide +kernel) dX0_touch_33 ?_
        refine lv_iload_n hx hb dX0_touch_36 rfl (lv_at hl 1 rfl) ?_
        refine lv_iconst (v := 1) hx hb dX0_touch_37 (by decide) ?_
        refine lv_iadd hx hb dX0_touch_38 ?_
        refine lv_iload_n hx hb dX0_touch_39 rfl (lv_at hl 1 rfl) ?_
        obtain ⟨c6, hg⟩ := ck_e hg
        obtain ⟨σ7, eσ7, hg⟩ := nmd_e hg
        refine ou_words S hK hI c6 eσ7 dX0_touch_40 (fun H locs hI => ?_)
        refine lv_aload_n hx hb dX0_touch_41 rfl (lv_at hl 0 rfl) ?_
        refine og_words S hin hK hI (ix := 23) (by decide +kernel) dX0_touch_42 ?_
        refine lv_iload_n hx hb dX0_touch_45 rfl (lv_at hl 1 rfl) ?_
        refine lv_iconst (v := 2) hx hb dX0_touch_46 (by decide) ?_
        refine lv_iadd hx hb dX0_touch_47 ?_
        refine lv_aload_n hx hb dX0_touch_48 rfl (lv_at hl 0 rfl) ?_
        refine og_waiting S hin hK hI (ix := 48) (by decide +kernel) dX0_touch_49 ?_
        obtain ⟨c8, hg⟩ := ck_e hg
        obtain ⟨σ9, eσ9, hg⟩ := nmd_e hg
        refine ou_words S hK hI c8 eσ9 dX0_touch_52 (fun H locs hI => ?_)
        refine lv_aload_n hx hb dX0_touch_53 rfl (lv_at hl 0 rfl) ?_
        refine lv_iload_n hx hb dX0_touch_54 rfl (lv_at hl 1 rfl) ?_
        obtain ⟨σ10, eσ10, hg⟩ := nmd_e hg
        refine op_waiting S hin hK hI (ix := 48) (by decide +kernel) eσ10 dX0_touch_55 (fun H locs hI => ?_)
        refine lv_iload_n hx hb dX0_touch_58 rfl (lv_at hl 1 rfl) ?_
        exact oe_i S hr hlocks hK hI hg dX0_touch_59
    · have hg := cIf_fe c2 hg
      refine lv_aload_n hx hb dX0_touch_11 rfl (lv_at hl 0 rfl) ?_
      refine og_words S hin hK hI (ix := 23) (by decide +kernel) dX0_touch_12 ?_
      refine lv_iload_n hx hb dX0_touch_15 rfl (lv_at hl 1 rfl) ?_
      refine lv_iconst (v := 1) hx hb dX0_touch_16 (by decide) ?_
      refine lv_iadd hx hb dX0_touch_17 ?_
      obtain ⟨c11, hg⟩ := ck_e hg
      obtain ⟨x12, ex12, hg⟩ := nmd_e hg
      refine or_words S hK hI c11 ex12 dX0_touch_18 ?_
      exact oe_i S hr hlocks hK hI hg dX0_touch_19
  · have hg := cIf_te c1 hg
    refine lv_iconst (v := (-1)) hx hb dX0_touch_5 (by decide) ?_
    exact oe_i S hr hlocks hK hI hg dX0_touch_6
-- OwnMemory.touchRoots
abbrev rX0_touchRoots : Room := { frames := 1, cells := 0, slots := 0, locals := 22 }
theorem nX0_touchRoots : yX0_touchRoots.cls = RX0 ∧ yX0_touchRoots.cls ≠ "java/lang/invoke/MethodHandle" ∧ yX0_touchRoots.cls ≠ "java/lang/invoke/VarHandle" ∧ (parseMethodDescriptor yX0_touchRoots.desc).map (fun d => d.parameters.length) = some 1 := by decide +kernel
noncomputable def LX0_touchRoots_2 (F : Nat) (K : Int32 → oS → Option oS) (v1 : Int32) : Nat → Int32 → oS → Option oS
  | 0, _, _ => none
  | n + 1, v2, σ => cIf (24 ≤ v2) (K v2 σ) (ck (vp_in v2 24) (nmd (o_fr σ v2.toNatClampNeg) (fun x3 => bnd (fX0_touch F σ x3 v1) (fun r5 σ4 => ck (vp_in v2 24) (nmd (o_s_fr σ4 (upd (o_fr σ4) v2.toNatClampNeg r5)) (fun σ7 => nmd (v2 + 1) (fun x8 => LX0_touchRoots_2 F K v1 n x8 σ7)))))))
noncomputable def fX0_touchRoots (F : Nat) (σ : oS) (p1 : Int32) : Option oS := LX0_touchRoots_2 F (fun w9 σ10 => some σ10) p1 F 0 σ
set_option maxHeartbeats 4000000 in
set_option maxRecDepth 100000 in
theorem lX0_touchRoots_2 {p : Program} {l : Launch} {e : Env} {s : State} {m : MethodId} {args : Array Value} {below : List Frame} {meth : Method} {c : Code} {A : Nat → Prop} {G : gT} {h0 : Nat} {h : oH} {F : Nat} (S : CallFix p m c cX0_touchRoots 3 s args wsX0_touchRoots RX0) (hr : meth.sig.returnType = none) (hlocks : meth.locks = false) (hin : ∀ w ∈ wsX00, w ∈ wsX0_touchRoots) (hK : gK G s) (hA : ∀ q, s.heap.size ≤ q → A q) {K : Int32 → oS → Option oS} {res : oS} (v1 : Int32) (n : Nat) : ∀ (v2 : Int32) (σ : oS) (H : Heap) (locs : List Loc) (ls : Array Slot), LX0_touchRoots_2 F K v1 n v2 σ = some res → oI s A G h0 h σ H locs → lv_has ls 3 [(0, .ref h0), (1, .int v1), (2, .int v2)] → (∀ (v2 : Int32) (σ : oS) (H : Heap) (locs : List Loc) (ls : Array Slot), K v2 σ = some res → oI s A G h0 h σ H locs → lv_has ls 3 [(0, .ref h0), (1, .int v1), (2, .int v2)] → W p l e rX0_touchRoots s m args below meth c H locs 0 0 (MQ below (oQv G h0 h res A) args s 0 0 A) (F0 m 31 ls [])) → W p l e rX0_touchRoots s m args below meth c H locs 0 0 (MQ below (oQv G h0 h res A) args s 0 0 A) (F0 m 2 ls []) := by
  have hx := S.1
  have hb := S.2.1
  have hts := S.2.2.2.2
  have hown := S.2.2.2.1
  induction n with
  | zero => intro v2 σ H locs ls hg; rw [LX0_touchRoots_2] at hg; cases hg
  | succ n ih =>
    intro v2 σ H locs ls hg hI hl kk
    rw [LX0_touchRoots_2] at hg
    refine lv_iload_n hx hb dX0_touchRoots_2 rfl (lv_at hl 2 rfl) ?_
    refine lv_bipush (v := 24) hx hb dX0_touchRoots_3 (by decide) ?_
    refine lv_icmp_ge (tgt := 31) hx hb dX0_touchRoots_5 (by decide) (fun c1 => ?_) (fun c1 => ?_)
    · have hg := cIf_te c1 hg
      exact kk v2 σ H locs ls hg hI (lv_sub hl [0, 1, 2] rfl)
    · have hg := cIf_fe c1 hg
      refine lv_aload_n hx hb dX0_touchRoots_8 rfl (lv_at hl 0 rfl) ?_
      refine og_roots S hin hK hI (ix := 30) (by decide +kernel) dX0_touchRoots_9 ?_
      refine lv_iload_n hx hb dX0_touchRoots_12 rfl (lv_at hl 2 rfl) ?_
      refine lv_aload_n hx hb dX0_touchRoots_13 rfl (lv_at hl 0 rfl) ?_
      refine lv_aload_n hx hb dX0_touchRoots_14 rfl (lv_at hl 0 rfl) ?_
      refine og_roots S hin hK hI (ix := 30) (by decide +kernel) dX0_touchRoots_15 ?_
      refine lv_iload_n hx hb dX0_touchRoots_18 rfl (lv_at hl 2 rfl) ?_
      obtain ⟨c2, hg⟩ := ck_e hg
      obtain ⟨x3, ex3, hg⟩ := nmd_e hg
      refine or_roots S hK hI c2 ex3 dX0_touchRoots_19 ?_
      refine lv_iload_n hx hb dX0_touchRoots_20 rfl (lv_at hl 1 rfl) ?_
      obtain ⟨r5, σ4, er5, hg⟩ := bnd_e hg
      refine oc_i S hK hA hI (As := [.int x3, .int v1]) (rest := [.int v2, .ref h.2.1]) (kX0_touch l G h0 h H.size F σ x3 v1  r5 σ4 er5) (cwV 2 hts gX0_touchRoots_X0_touch rfl rfl rfl nX0_touch ⟨Nat.le_of_ble_eq_true rfl, Nat.le_of_ble_eq_true rfl⟩) rfl hl.1 rfl (Nat.le_of_ble_eq_true rfl) dX0_touchRoots_21 ⟨Nat.le_refl _, Nat.le_refl _⟩ (fun H locs hI => ?_)
      obtain ⟨c6, hg⟩ := ck_e hg
      obtain ⟨σ7, eσ7, hg⟩ := nmd_e hg
      refine ou_roots S hK hI c6 eσ7 dX0_touchRoots_24 (fun H locs hI => ?_)
      obtain ⟨x8, ex8, hg⟩ := nmd_e hg
      refine lv_iinc (v := x8) (lv' := [(2, .int x8), (0, .ref h0), (1, .int v1)]) hx hb dX0_touchRoots_25 hl (k := 2) rfl (by rw [ex8]; rfl) (by decide) rfl (fun ls hl => ?_)
      refine lv_goto (tgt := 2) hx hb dX0_touchRoots_28 (by decide) ?_
      exact ih x8 σ7 H locs ls hg hI (lv_sub hl [1, 2, 0] rfl) kk
set_option maxHeartbeats 4000000 in
set_option maxRecDepth 100000 in
theorem kX0_touchRoots (l : Launch) (G : gT) (h0 : Nat) (h : oH) (sz F : Nat) (σ : oS) (p1 : Int32) (σr : oS) (hg : fX0_touchRoots F σ p1 = some σr) : Met l yX0_touchRoots wsX0_touchRoots rX0_touchRoots (oPre G h0 h σ sz [.int p1]) (oQv G h0 h σr (oA G h0 h σ sz)) 0 0 (oA G h0 h σ sz) := by
  refine oMet (Qc := oQv G h0 h σr) (by decide +kernel) rfl rfl (Nat.le_of_ble_eq_true rfl) ?_
  intro p e s m args below meth c A S hr hlocks hK hA H locs hI ls hl
  have hl : lv_has ls 3 [(0, .ref h0), (1, .int p1)] := hl
  have hin : ∀ w ∈ wsX00, w ∈ wsX0_touchRoots := in_ws
  have hx := S.1
  have hb := S.2.1
  have hts := S.2.2.2.2
  have hown := S.2.2.2.1
  unfold fX0_touchRoots at hg
  refine lv_iconst (v := 0) hx hb dX0_touchRoots_0 (by decide) ?_
  refine lv_istore_n (lv' := [(2, .int 0), (0, .ref h0), (1, .int p1)]) hx hb dX0_touchRoots_1 rfl hl (by decide) rfl (fun ls hl => ?_)
  refine lX0_touchRoots_2 S hr hlocks hin hK hA p1 F 0 σ H locs ls hg hI (lv_sub hl [1, 2, 0] rfl) (fun w9 σ10 H locs ls hg hI hl => ?_)
  exact oe_v S hr hlocks hK hI hg dX0_touchRoots_31
-- OwnMemory.touchLeads
abbrev rX0_touchLeads : Room := { frames := 1, cells := 0, slots := 0, locals := 22 }
theorem nX0_touchLeads : yX0_touchLeads.cls = RX0 ∧ yX0_touchLeads.cls ≠ "java/lang/invoke/MethodHandle" ∧ yX0_touchLeads.cls ≠ "java/lang/invoke/VarHandle" ∧ (parseMethodDescriptor yX0_touchLeads.desc).map (fun d => d.parameters.length) = some 2 := by decide +kernel
noncomputable def LX0_touchLeads_15 (F : Nat) (K : Int32 → oS → Option oS) (v1 : Int32) (v2 : Int32) (v3 : Int32) : Nat → Int32 → oS → Option oS
  | 0, _, _ => none
  | n + 1, v4, σ => cIf (v3 ≤ v4) (K v4 σ) (ck (vp_in v4 (o_lw σ)) (nmd (o_fw σ v4.toNatClampNeg) (fun x7 => bnd (fX0_touch F σ x7 v2) (fun r9 σ8 => ck (vp_in v4 (o_lw σ8)) (nmd (o_s_fw σ8 (upd (o_fw σ8) v4.toNatClampNeg r9)) (fun σ11 => nmd (v4 + 1) (fun x12 => LX0_touchLeads_15 F K v1 v2 v3 n x12 σ11)))))))
noncomputable def LX0_touchLeads_60 (F : Nat) (K : Int32 → oS → Option oS) (v1 : Int32) (v2 : Int32) (v3 : Int32) (v4 : Int32) : Nat → Int32 → oS → Option oS
  | 0, _, _ => none
  | n + 1, v5, σ => cIf (v4 ≤ v5) (K v5 σ) (ck (vp_in v5 (o_lw σ)) (nmd (o_fw σ v5.toNatClampNeg) (fun x20 => bnp (fX0_isReference F x20) (fun r21 => cIf (r21 = 0) (nmd (v5 + 2) (fun x23 => LX0_touchLeads_60 F K v1 v2 v3 v4 n x23 σ)) (ck (vp_in (v5 + 1) (o_lw σ)) (nmd (o_fw σ (v5 + 1).toNatClampNeg) (fun x25 => bnd (fX0_touch F σ x25 v2) (fun r27 σ26 => ck (vp_in (v5 + 1) (o_lw σ26)) (nmd (o_s_fw σ26 (upd (o_fw σ26) (v5 + 1).toNatClampNeg r27)) (fun σ29 => nmd (v5 + 2) (fun x30 => LX0_touchLeads_60 F K v1 v2 v3 v4 n x30 σ29)))))))))))
noncomputable def fX0_touchLeads (F : Nat) (σ : oS) (p1 : Int32) (p2 : Int32) : Option oS := bnd (fX0_linksAt F σ p1) (fun r2 σ1 => nmd ((p1 + 3) + r2) (fun x3 => nmd (p1 + 3) (fun x4 => LX0_touchLeads_15 F (fun w13 σ14 => bnd (fX0_valuesAt F σ14 p1) (fun r16 σ15 => nmd (x3 + (2 * r16)) (fun x17 => LX0_touchLeads_60 F (fun w31 σ32 => some σ32) p1 p2 x3 x17 F x3 σ15))) p1 p2 x3 F x4 σ1)))
set_option maxHeartbeats 4000000 in
set_option maxRecDepth 100000 in
theorem lX0_touchLeads_15 {p : Program} {l : Launch} {e : Env} {s : State} {m : MethodId} {args : Array Value} {below : List Frame} {meth : Method} {c : Code} {A : Nat → Prop} {G : gT} {h0 : Nat} {h : oH} {F : Nat} (S : CallFix p m c cX0_touchLeads 6 s args wsX0_touchLeads RX0) (hr : meth.sig.returnType = none) (hlocks : meth.locks = false) (hin : ∀ w ∈ wsX00, w ∈ wsX0_touchLeads) (hK : gK G s) (hA : ∀ q, s.heap.size ≤ q → A q) {K : Int32 → oS → Option oS} {res : oS} (v1 : Int32) (v2 : Int32) (v3 : Int32) (n : Nat) : ∀ (v4 : Int32) (σ : oS) (H : Heap) (locs : List Loc) (ls : Array Slot), LX0_touchLeads_15 F K v1 v2 v3 n v4 σ = some res → oI s A G h0 h σ H locs → lv_has ls 6 [(0, .ref h0), (1, .int v1), (2, .int v2), (3, .int v3), (4, .int v4)] → (∀ (v4 : Int32) (σ : oS) (H : Heap) (locs : List Loc) (ls : Array Slot), K v4 σ = some res → oI s A G h0 h σ H locs → lv_has ls 6 [(0, .ref h0), (1, .int v1), (2, .int v2), (3, .int v3), (4, .int v4)] → W p l e rX0_touchLeads s m args below meth c H locs 0 0 (MQ below (oQv G h0 h res A) args s 0 0 A) (F0 m 46 ls [])) → W p l e rX0_touchLeads s m args below meth c H locs 0 0 (MQ below (oQv G h0 h res A) args s 0 0 A) (F0 m 15 ls []) := by
  have hx := S.1
  have hb := S.2.1
  have hts := S.2.2.2.2
  have hown := S.2.2.2.1
  induction n with
  | zero => intro v4 σ H locs ls hg; rw [LX0_touchLeads_15] at hg; cases hg
  | succ n ih =>
    intro v4 σ H locs ls hg hI hl kk
    rw [LX0_touchLeads_15] at hg
    refine lv_iload hx hb dX0_touchLeads_15 (lv_at hl 4 rfl) ?_
    refine lv_iload_n hx hb dX0_touchLeads_17 rfl (lv_at hl 3 rfl) ?_
    refine lv_icmp_ge (tgt := 46) hx hb dX0_touchLeads_18 (by decide) (fun c5 => ?_) (fun c5 => ?_)
    · have hg := cIf_te c5 hg
      exact kk v4 σ H locs ls hg hI (lv_sub hl [0, 1, 2, 3, 4] rfl)
    · have hg := cIf_fe c5 hg
      refine lv_aload_n hx hb dX0_touchLeads_21 rfl (lv_at hl 0 rfl) ?_
      refine og_words S hin hK hI (ix := 23) (by decide +kernel) dX0_touchLeads_22 ?_
      refine lv_iload hx hb dX0_touchLeads_25 (lv_at hl 4 rfl) ?_
      refine lv_aload_n hx hb dX0_touchLeads_27 rfl (lv_at hl 0 rfl) ?_
      refine lv_aload_n hx hb dX0_touchLeads_28 rfl (lv_at hl 0 rfl) ?_
      refine og_words S hin hK hI (ix := 23) (by decide +kernel) dX0_touchLeads_29 ?_
      refine lv_iload hx hb dX0_touchLeads_32 (lv_at hl 4 rfl) ?_
      obtain ⟨c6, hg⟩ := ck_e hg
      obtain ⟨x7, ex7, hg⟩ := nmd_e hg
      refine or_words S hK hI c6 ex7 dX0_touchLeads_34 ?_
      refine lv_iload_n hx hb dX0_touchLeads_35 rfl (lv_at hl 2 rfl) ?_
      obtain ⟨r9, σ8, er9, hg⟩ := bnd_e hg
      refine oc_i S hK hA hI (As := [.int x7, .int v2]) (rest := [.int v4, .ref h.1]) (kX0_touch l G h0 h H.size F σ x7 v2  r9 σ8 er9) (cwV 2 hts gX0_touchLeads_X0_touch rfl rfl rfl nX0_touch ⟨Nat.le_of_ble_eq_true rfl, Nat.le_of_ble_eq_true rfl⟩) rfl hl.1 rfl (Nat.le_of_ble_eq_true rfl) dX0_touchLeads_36 ⟨Nat.le_refl _, Nat.le_refl _⟩ (fun H locs hI => ?_)
      obtain ⟨c10, hg⟩ := ck_e hg
      obtain ⟨σ11, eσ11, hg⟩ := nmd_e hg
      refine ou_words S hK hI c10 eσ11 dX0_touchLeads_39 (fun H locs hI => ?_)
      obtain ⟨x12, ex12, hg⟩ := nmd_e hg
      refine lv_iinc (v := x12) (lv' := [(4, .int x12), (0, .ref h0), (1, .int v1), (2, .int v2), (3, .int v3)]) hx hb dX0_touchLeads_40 hl (k := 4) rfl (by rw [ex12]; rfl) (by decide) rfl (fun ls hl => ?_)
      refine lv_goto (tgt := 15) hx hb dX0_touchLeads_43 (by decide) ?_
      exact ih x12 σ11 H locs ls hg hI (lv_sub hl [1, 2, 3, 4, 0] rfl) kk
set_option maxHeartbeats 4000000 in
set_option maxRecDepth 100000 in
theorem lX0_touchLeads_60 {p : Program} {l : Launch} {e : Env} {s : State} {m : MethodId} {args : Array Value} {below : List Frame} {meth : Method} {c : Code} {A : Nat → Prop} {G : gT} {h0 : Nat} {h : oH} {F : Nat} (S : CallFix p m c cX0_touchLeads 6 s args wsX0_touchLeads RX0) (hr : meth.sig.returnType = none) (hlocks : meth.locks = false) (hin : ∀ w ∈ wsX00, w ∈ wsX0_touchLeads) (hK : gK G s) (hA : ∀ q, s.heap.size ≤ q → A q) {K : Int32 → oS → Option oS} {res : oS} (v1 : Int32) (v2 : Int32) (v3 : Int32) (v4 : Int32) (n : Nat) : ∀ (v5 : Int32) (σ : oS) (H : Heap) (locs : List Loc) (ls : Array Slot), LX0_touchLeads_60 F K v1 v2 v3 v4 n v5 σ = some res → oI s A G h0 h σ H locs → lv_has ls 6 [(0, .ref h0), (1, .int v1), (2, .int v2), (3, .int v3), (4, .int v4), (5, .int v5)] → (∀ (v5 : Int32) (σ : oS) (H : Heap) (locs : List Loc) (ls : Array Slot), K v5 σ = some res → oI s A G h0 h σ H locs → lv_has ls 6 [(0, .ref h0), (1, .int v1), (2, .int v2), (3, .int v3), (4, .int v4), (5, .int v5)] → W p l e rX0_touchLeads s m args below meth c H locs 0 0 (MQ below (oQv G h0 h res A) args s 0 0 A) (F0 m 109 ls [])) → W p l e rX0_touchLeads s m args below meth c H locs 0 0 (MQ below (oQv G h0 h res A) args s 0 0 A) (F0 m 60 ls []) := by
  have hx := S.1
  have hb := S.2.1
  have hts := S.2.2.2.2
  have hown := S.2.2.2.1
  induction n with
  | zero => intro v5 σ H locs ls hg; rw [LX0_touchLeads_60] at hg; cases hg
  | succ n ih =>
    intro v5 σ H locs ls hg hI hl kk
    rw [LX0_touchLeads_60] at hg
    refine lv_iload hx hb dX0_touchLeads_60 (lv_at hl 5 rfl) ?_
    refine lv_iload hx hb dX0_touchLeads_62 (lv_at hl 4 rfl) ?_
    refine lv_icmp_ge (tgt := 109) hx hb dX0_touchLeads_64 (by decide) (fun c18 => ?_) (fun c18 => ?_)
    · have hg := cIf_te c18 hg
      exact kk v5 σ H locs ls hg hI (lv_sub hl [0, 1, 2, 3, 4, 5] rfl)
    · have hg := cIf_fe c18 hg
      refine lv_aload_n hx hb dX0_touchLeads_67 rfl (lv_at hl 0 rfl) ?_
      refine og_words S hin hK hI (ix := 23) (by decide +kernel) dX0_touchLeads_68 ?_
      refine lv_iload hx hb dX0_touchLeads_71 (lv_at hl 5 rfl) ?_
      obtain ⟨c19, hg⟩ := ck_e hg
      obtain ⟨x20, ex20, hg⟩ := nmd_e hg
      refine or_words S hK hI c19 ex20 dX0_touchLeads_73 ?_
      obtain ⟨r21, er21, hg⟩ := bnp_e hg
      refine os_i S hA hI (As := [.int x20]) (rest := []) (kX0_isReference l H.size F x20 r21 er21) (va_cwS 1 hts gX0_touchLeads_X0_isReference rfl rfl rfl nX0_isReference ⟨Nat.le_of_ble_eq_true rfl, Nat.le_of_ble_eq_true rfl⟩) rfl hl.1 rfl (Nat.le_of_ble_eq_true rfl) dX0_touchLeads_74 ⟨Nat.le_refl _, Nat.le_refl _⟩ (fun H locs hI => ?_)
      refine lv_if_eq (tgt := 103) hx hb dX0_touchLeads_77 (by decide) (fun c22 => ?_) (fun c22 => ?_)
      · have hg := cIf_te c22 hg
        obtain ⟨x23, ex23, hg⟩ := nmd_e hg
        refine lv_iinc (v := x23) (lv' := [(5, .int x23), (0, .ref h0), (1, .int v1), (2, .int v2), (3, .int v3), (4, .int v4)]) hx hb dX0_touchLeads_103 hl (k := 5) rfl (by rw [ex23]; rfl) (by decide) rfl (fun ls hl => ?_)
        refine lv_goto (tgt := 60) hx hb dX0_touchLeads_106 (by decide) ?_
        exact ih x23 σ H locs ls hg hI (lv_sub hl [1, 2, 3, 4, 5, 0] rfl) kk
      · have hg := cIf_fe c22 hg
        refine lv_aload_n hx hb dX0_touchLeads_80 rfl (lv_at hl 0 rfl) ?_
        refine og_words S hin hK hI (ix := 23) (by decide +kernel) dX0_touchLeads_81 ?_
        refine lv_iload hx hb dX0_touchLeads_84 (lv_at hl 5 rfl) ?_
        refine lv_iconst (v := 1) hx hb dX0_touchLeads_86 (by decide) ?_
        refine lv_iadd hx hb dX0_touchLeads_87 ?_
        refine lv_aload_n hx hb dX0_touchLeads_88 rfl (lv_at hl 0 rfl) ?_
        refine lv_aload_n hx hb dX0_touchLeads_89 rfl (lv_at hl 0 rfl) ?_
        refine og_words S hin hK hI (ix := 23) (by decide +kernel) dX0_touchLeads_90 ?_
        refine lv_iload hx hb dX0_touchLeads_93 (lv_at hl 5 rfl) ?_
        refine lv_iconst (v := 1) hx hb dX0_touchLeads_95 (by decide) ?_
        refine lv_iadd hx hb dX0_touchLeads_96 ?_
        obtain ⟨c24, hg⟩ := ck_e hg
        obtain ⟨x25, ex25, hg⟩ := nmd_e hg
        refine or_words S hK hI c24 ex25 dX0_touchLeads_97 ?_
        refine lv_iload_n hx hb dX0_touchLeads_98 rfl (lv_at hl 2 rfl) ?_
        obtain ⟨r27, σ26, er27, hg⟩ := bnd_e hg
        refine oc_i S hK hA hI (As := [.int x25, .int v2]) (rest := [.int (v5 + 1), .ref h.1]) (kX0_touch l G h0 h H.size F σ x25 v2  r27 σ26 er27) (cwV 2 hts gX0_touchLeads_X0_touch rfl rfl rfl nX0_touch ⟨Nat.le_of_ble_eq_true rfl, Nat.le_of_ble_eq_true rfl⟩) rfl hl.1 rfl (Nat.le_of_ble_eq_true rfl) dX0_touchLeads_99 ⟨Nat.le_refl _, Nat.le_refl _⟩ (fun H locs hI => ?_)
        obtain ⟨c28, hg⟩ := ck_e hg
        obtain ⟨σ29, eσ29, hg⟩ := nmd_e hg
        refine ou_words S hK hI c28 eσ29 dX0_touchLeads_102 (fun H locs hI => ?_)
        obtain ⟨x30, ex30, hg⟩ := nmd_e hg
        refine lv_iinc (v := x30) (lv' := [(5, .int x30), (0, .ref h0), (1, .int v1), (2, .int v2), (3, .int v3), (4, .int v4)]) hx hb dX0_touchLeads_103 hl (k := 5) rfl (by rw [ex30]; rfl) (by decide) rfl (fun ls hl => ?_)
        refine lv_goto (tgt := 60) hx hb dX0_touchLeads_106 (by decide) ?_
        exact ih x30 σ29 H locs ls hg hI (lv_sub hl [1, 2, 3, 4, 5, 0] rfl) kk
set_option maxHeartbeats 4000000 in
set_option maxRecDepth 100000 in
theorem kX0_touchLeads (l : Launch) (G : gT) (h0 : Nat) (h : oH) (sz F : Nat) (σ : oS) (p1 : Int32) (p2 : Int32) (σr : oS) (hg : fX0_touchLeads F σ p1 p2 = some σr) : Met l yX0_touchLeads wsX0_touchLeads rX0_touchLeads (oPre G h0 h σ sz [.int p1, .int p2]) (oQv G h0 h σr (oA G h0 h σ sz)) 0 0 (oA G h0 h σ sz) := by
  refine oMet (Qc := oQv G h0 h σr) (by decide +kernel) rfl rfl (Nat.le_of_ble_eq_true rfl) ?_
  intro p e s m args below meth c A S hr hlocks hK hA H locs hI ls hl
  have hl : lv_has ls 6 [(0, .ref h0), (1, .int p1), (2, .int p2)] := hl
  have hin : ∀ w ∈ wsX00, w ∈ wsX0_touchLeads := in_ws
  have hx := S.1
  have hb := S.2.1
  have hts := S.2.2.2.2
  have hown := S.2.2.2.1
  unfold fX0_touchLeads at hg
  refine lv_iload_n hx hb dX0_touchLeads_0 rfl (lv_at hl 1 rfl) ?_
  refine lv_iconst (v := 3) hx hb dX0_touchLeads_1 (by decide) ?_
  refine lv_iadd hx hb dX0_touchLeads_2 ?_
  refine lv_aload_n hx hb dX0_touchLeads_3 rfl (lv_at hl 0 rfl) ?_
  refine lv_iload_n hx hb dX0_touchLeads_4 rfl (lv_at hl 1 rfl) ?_
  obtain ⟨r2, σ1, er2, hg⟩ := bnd_e hg
  refine oc_i S hK hA hI (As := [.int p1]) (rest := [.int (p1 + 3)]) (kX0_linksAt l G h0 h H.size F σ p1  r2 σ1 er2) (cwV 1 hts gX0_touchLeads_X0_linksAt rfl rfl rfl nX0_linksAt ⟨Nat.le_of_ble_eq_true rfl, Nat.le_of_ble_eq_true rfl⟩) rfl hl.1 rfl (Nat.le_of_ble_eq_true rfl) dX0_touchLeads_5 ⟨Nat.le_refl _, Nat.le_refl _⟩ (fun H locs hI => ?_)
  refine lv_iadd hx hb dX0_touchLeads_8 ?_
  obtain ⟨x3, ex3, hg⟩ := nmd_e hg
  refine wn_i ex3 ?_
  refine lv_istore_n (lv' := [(3, .int x3), (0, .ref h0), (1, .int p1), (2, .int p2)]) hx hb dX0_touchLeads_9 rfl hl (by decide) rfl (fun ls hl => ?_)
  refine lv_iload_n hx hb dX0_touchLeads_10 rfl (lv_at hl 2 rfl) ?_
  refine lv_iconst (v := 3) hx hb dX0_touchLeads_11 (by decide) ?_
  refine lv_iadd hx hb dX0_touchLeads_12 ?_
  obtain ⟨x4, ex4, hg⟩ := nmd_e hg
  refine wn_i ex4 ?_
  refine lv_istore (lv' := [(4, .int x4), (3, .int x3), (0, .ref h0), (1, .int p1), (2, .int p2)]) hx hb dX0_touchLeads_13 hl (by decide) rfl (fun ls hl => ?_)
  refine lX0_touchLeads_15 S hr hlocks hin hK hA p1 p2 x3 F x4 σ1 H locs ls hg hI (lv_sub hl [2, 3, 4, 1, 0] rfl) (fun w13 σ14 H locs ls hg hI hl => ?_)
  refine lv_iload_n hx hb dX0_touchLeads_46 rfl (lv_at hl 3 rfl) ?_
  refine lv_iconst (v := 2) hx hb dX0_touchLeads_47 (by decide) ?_
  refine lv_aload_n hx hb dX0_touchLeads_48 rfl (lv_at hl 0 rfl) ?_
  refine lv_iload_n hx hb dX0_touchLeads_49 rfl (lv_at hl 1 rfl) ?_
  obtain ⟨r16, σ15, er16, hg⟩ := bnd_e hg
  refine oc_i S hK hA hI (As := [.int p1]) (rest := [.int 2, .int x3]) (kX0_valuesAt l G h0 h H.size F σ14 p1  r16 σ15 er16) (cwV 1 hts gX0_touchLeads_X0_valuesAt rfl rfl rfl nX0_valuesAt ⟨Nat.le_of_ble_eq_true rfl, Nat.le_of_ble_eq_true rfl⟩) rfl hl.1 rfl (Nat.le_of_ble_eq_true rfl) dX0_touchLeads_50 ⟨Nat.le_refl _, Nat.le_refl _⟩ (fun H locs hI => ?_)
  refine lv_imul hx hb dX0_touchLeads_53 ?_
  refine lv_iadd hx hb dX0_touchLeads_54 ?_
  obtain ⟨x17, ex17, hg⟩ := nmd_e hg
  refine wn_i ex17 ?_
  refine lv_istore (lv' := [(4, .int x17), (0, .ref h0), (1, .int p1), (2, .int p2), (3, .int x3)]) hx hb dX0_touchLeads_55 hl (by decide) rfl (fun ls hl => ?_)
  refine lv_iload_n hx hb dX0_touchLeads_57 rfl (lv_at hl 4 rfl) ?_
  refine lv_istore (lv' := [(5, .int x3), (4, .int x17), (0, .ref h0), (1, .int p1), (2, .int p2), (3, .int x3)]) hx hb dX0_touchLeads_58 hl (by decide) rfl (fun ls hl => ?_)
  refine lX0_touchLeads_60 S hr hlocks hin hK hA p1 p2 x3 x17 F x3 σ15 H locs ls hg hI (lv_sub hl [2, 3, 4, 5, 1, 0] rfl) (fun w31 σ32 H locs ls hg hI hl => ?_)
  exact oe_v S hr hlocks hK hI hg dX0_touchLeads_109
-- OwnMemory.planMoves
abbrev rX0_planMoves : Room := { frames := 1, cells := 0, slots := 0, locals := 21 }
theorem nX0_planMoves : yX0_planMoves.cls = RX0 ∧ yX0_planMoves.cls ≠ "java/lang/invoke/MethodHandle" ∧ yX0_planMoves.cls ≠ "java/lang/invoke/VarHandle" ∧ (parseMethodDescriptor yX0_planMoves.desc).map (fun d => d.parameters.length) = some 0 := by decide +kernel
noncomputable def LX0_planMoves_4 (F : Nat) (K : Int32 → Int32 → oS → Option (Int32 × oS)) : Nat → Int32 → Int32 → oS → Option (Int32 × oS)
  | 0, _, _, _ => none
  | n + 1, v1, v2, σ => cIf ((o_us σ) ≤ v2) (K v1 v2 σ) (ck (vp_in (v2 + 1) (o_lw σ)) (nmd (o_fw σ (v2 + 1).toNatClampNeg) (fun x3 => cIf (x3 = (-1)) (bnd (fX0_sizeAt F σ v2) (fun r6 σ5 => nmd (cIf (3 < r6) r6 3) (fun x7 => nmd (v2 + x7) (fun x8 => LX0_planMoves_4 F K  n v1 x8 σ5)))) (ck (vp_in (v2 + 1) (o_lw σ)) (nmd (o_s_fw σ (upd (o_fw σ) (v2 + 1).toNatClampNeg v1)) (fun σ10 => bnd (fX0_sizeAt F σ10 v2) (fun r12 σ11 => nmd (v1 + r12) (fun x13 => bnd (fX0_sizeAt F σ11 v2) (fun r15 σ14 => nmd (cIf (3 < r15) r15 3) (fun x16 => nmd (v2 + x16) (fun x17 => LX0_planMoves_4 F K  n x13 x17 σ14)))))))))))
noncomputable def fX0_planMoves (F : Nat) (σ : oS) : Option (Int32 × oS) := LX0_planMoves_4 F (fun w18 w19 σ20 => some (w18, σ20))  F 0 0 σ
set_option maxHeartbeats 4000000 in
set_option maxRecDepth 100000 in
theorem lX0_planMoves_4 {p : Program} {l : Launch} {e : Env} {s : State} {m : MethodId} {args : Array Value} {below : List Frame} {meth : Method} {c : Code} {A : Nat → Prop} {G : gT} {h0 : Nat} {h : oH} {F : Nat} (S : CallFix p m c cX0_planMoves 3 s args wsX0_planMoves RX0) (hr : meth.sig.returnType = some .int) (hlocks : meth.locks = false) (hin : ∀ w ∈ wsX00, w ∈ wsX0_planMoves) (hK : gK G s) (hA : ∀ q, s.heap.size ≤ q → A q) {K : Int32 → Int32 → oS → Option (Int32 × oS)} {res : (Int32 × oS)} (n : Nat) : ∀ (v1 : Int32) (v2 : Int32) (σ : oS) (H : Heap) (locs : List Loc) (ls : Array Slot), LX0_planMoves_4 F K n v1 v2 σ = some res → oI s A G h0 h σ H locs → lv_has ls 3 [(0, .ref h0), (1, .int v1), (2, .int v2)] → (∀ (v1 : Int32) (v2 : Int32) (σ : oS) (H : Heap) (locs : List Loc) (ls : Array Slot), K v1 v2 σ = some res → oI s A G h0 h σ H locs → lv_has ls 3 [(0, .ref h0), (1, .int v1), (2, .int v2)] → W p l e rX0_planMoves s m args below meth c H locs 0 0 (MQ below (oQi G h0 h res.1 res.2 A) args s 0 0 A) (F0 m 56 ls [])) → W p l e rX0_planMoves s m args below meth c H locs 0 0 (MQ below (oQi G h0 h res.1 res.2 A) args s 0 0 A) (F0 m 4 ls []) := by
  have hx := S.1
  have hb := S.2.1
  have hts := S.2.2.2.2
  have hown := S.2.2.2.1
  induction n with
  | zero => intro v1 v2 σ H locs ls hg; rw [LX0_planMoves_4] at hg; cases hg
  | succ n ih =>
    intro v1 v2 σ H locs ls hg hI hl kk
    rw [LX0_planMoves_4] at hg
    refine lv_iload_n hx hb dX0_planMoves_4 rfl (lv_at hl 2 rfl) ?_
    refine lv_aload_n hx hb dX0_planMoves_5 rfl (lv_at hl 0 rfl) ?_
    refine og_used S hin hK hI (ix := 27) (by decide +kernel) dX0_planMoves_6 ?_
    refine lv_icmp_ge (tgt := 56) hx hb dX0_planMoves_9 (by decide) (fun c1 => ?_) (fun c1 => ?_)
    · have hg := cIf_te c1 hg
      exact kk v1 v2 σ H locs ls hg hI (lv_sub hl [0, 1, 2] rfl)
    · have hg := cIf_fe c1 hg
      refine lv_aload_n hx hb dX0_planMoves_12 rfl (lv_at hl 0 rfl) ?_
      refine og_words S hin hK hI (ix := 23) (by decide +kernel) dX0_planMoves_13 ?_
      refine lv_iload_n hx hb dX0_planMoves_16 rfl (lv_at hl 2 rfl) ?_
      refine lv_iconst (v := 1) hx hb dX0_planMoves_17 (by decide) ?_
      refine lv_iadd hx hb dX0_planMoves_18 ?_
      obtain ⟨c2, hg⟩ := ck_e hg
      obtain ⟨x3, ex3, hg⟩ := nmd_e hg
      refine or_words S hK hI c2 ex3 dX0_planMoves_19 ?_
      refine lv_iconst (v := (-1)) hx hb dX0_planMoves_20 (by decide) ?_
      refine lv_icmp_eq (tgt := 41) hx hb dX0_planMoves_21 (by decide) (fun c4 => ?_) (fun c4 => ?_)
      · have hg := cIf_te c4 hg
        refine lv_iload_n hx hb dX0_planMoves_41 rfl (lv_at hl 2 rfl) ?_
        refine lv_iconst (v := 3) hx hb dX0_planMoves_42 (by decide) ?_
        refine lv_aload_n hx hb dX0_planMoves_43 rfl (lv_at hl 0 rfl) ?_
        refine lv_iload_n hx hb dX0_planMoves_44 rfl (lv_at hl 2 rfl) ?_
        obtain ⟨r6, σ5, er6, hg⟩ := bnd_e hg
        refine oc_i S hK hA hI (As := [.int v2]) (rest := [.int 3, .int v2]) (kX0_sizeAt l G h0 h H.size F σ v2  r6 σ5 er6) (cwV 1 hts gX0_planMoves_X0_sizeAt rfl rfl rfl nX0_sizeAt ⟨Nat.le_of_ble_eq_true rfl, Nat.le_of_ble_eq_true rfl⟩) rfl hl.1 rfl (Nat.le_of_ble_eq_true rfl) dX0_planMoves_45 ⟨Nat.le_refl _, Nat.le_refl _⟩ (fun H locs hI => ?_)
        obtain ⟨x7, ex7, hg⟩ := nmd_e hg
        refine ox_max S (ix := 16) (by decide +kernel) hl.1 ex7 (Nat.le_of_ble_eq_true rfl) (Nat.le_of_ble_eq_true rfl) (Nat.le_refl _) (Nat.le_refl _) dX0_planMoves_48 ?_
        refine lv_iadd hx hb dX0_planMoves_51 ?_
        obtain ⟨x8, ex8, hg⟩ := nmd_e hg
        refine wn_i ex8 ?_
        refine lv_istore_n (lv' := [(2, .int x8), (0, .ref h0), (1, .int v1)]) hx hb dX0_planMoves_52 rfl hl (by decide) rfl (fun ls hl => ?_)
        refine lv_goto (tgt := 4) hx hb dX0_planMoves_53 (by decide) ?_
        exact ih v1 x8 σ5 H locs ls hg hI (lv_sub hl [1, 2, 0] rfl) kk
      · have hg := cIf_fe c4 hg
        refine lv_aload_n hx hb dX0_planMoves_24 rfl (lv_at hl 0 rfl) ?_
        refine og_words S hin hK hI (ix := 23) (by decide +kernel) dX0_planMoves_25 ?_
        refine lv_iload_n hx hb dX0_planMoves_28 rfl (lv_at hl 2 rfl) ?_
        refine lv_iconst (v := 1) hx hb dX0_planMoves_29 (by decide) ?_
        refine lv_iadd hx hb dX0_planMoves_30 ?_
        refine lv_iload_n hx hb dX0_planMoves_31 rfl (lv_at hl 1 rfl) ?_
        obtain ⟨c9, hg⟩ := ck_e hg
        obtain ⟨σ10, eσ10, hg⟩ := nmd_e hg
        refine ou_words S hK hI c9 eσ10 dX0_planMoves_32 (fun H locs hI => ?_)
        refine lv_iload_n hx hb dX0_planMoves_33 rfl (lv_at hl 1 rfl) ?_
        refine lv_aload_n hx hb dX0_planMoves_34 rfl (lv_at hl 0 rfl) ?_
        refine lv_iload_n hx hb dX0_planMoves_35 rfl (lv_at hl 2 rfl) ?_
        obtain ⟨r12, σ11, er12, hg⟩ := bnd_e hg
        refine oc_i S hK hA hI (As := [.int v2]) (rest := [.int v1]) (kX0_sizeAt l G h0 h H.size F σ10 v2  r12 σ11 er12) (cwV 1 hts gX0_planMoves_X0_sizeAt rfl rfl rfl nX0_sizeAt ⟨Nat.le_of_ble_eq_true rfl, Nat.le_of_ble_eq_true rfl⟩) rfl hl.1 rfl (Nat.le_of_ble_eq_true rfl) dX0_planMoves_36 ⟨Nat.le_refl _, Nat.le_refl _⟩ (fun H locs hI => ?_)
        refine lv_iadd hx hb dX0_planMoves_39 ?_
        obtain ⟨x13, ex13, hg⟩ := nmd_e hg
        refine wn_i ex13 ?_
        refine lv_istore_n (lv' := [(1, .int x13), (0, .ref h0), (2, .int v2)]) hx hb dX0_planMoves_40 rfl hl (by decide) rfl (fun ls hl => ?_)
        refine lv_iload_n hx hb dX0_planMoves_41 rfl (lv_at hl 2 rfl) ?_
        refine lv_iconst (v := 3) hx hb dX0_planMoves_42 (by decide) ?_
        refine lv_aload_n hx hb dX0_planMoves_43 rfl (lv_at hl 1 rfl) ?_
        refine lv_iload_n hx hb dX0_planMoves_44 rfl (lv_at hl 2 rfl) ?_
        obtain ⟨r15, σ14, er15, hg⟩ := bnd_e hg
        refine oc_i S hK hA hI (As := [.int v2]) (rest := [.int 3, .int v2]) (kX0_sizeAt l G h0 h H.size F σ11 v2  r15 σ14 er15) (cwV 1 hts gX0_planMoves_X0_sizeAt rfl rfl rfl nX0_sizeAt ⟨Nat.le_of_ble_eq_true rfl, Nat.le_of_ble_eq_true rfl⟩) rfl hl.1 rfl (Nat.le_of_ble_eq_true rfl) dX0_planMoves_45 ⟨Nat.le_refl _, Nat.le_refl _⟩ (fun H locs hI => ?_)
        obtain ⟨x16, ex16, hg⟩ := nmd_e hg
        refine ox_max S (ix := 16) (by decide +kernel) hl.1 ex16 (Nat.le_of_ble_eq_true rfl) (Nat.le_of_ble_eq_true rfl) (Nat.le_refl _) (Nat.le_refl _) dX0_planMoves_48 ?_
        refine lv_iadd hx hb dX0_planMoves_51 ?_
        obtain ⟨x17, ex17, hg⟩ := nmd_e hg
        refine wn_i ex17 ?_
        refine lv_istore_n (lv' := [(2, .int x17), (1, .int x13), (0, .ref h0)]) hx hb dX0_planMoves_52 rfl hl (by decide) rfl (fun ls hl => ?_)
        refine lv_goto (tgt := 4) hx hb dX0_planMoves_53 (by decide) ?_
        exact ih x13 x17 σ14 H locs ls hg hI (lv_sub hl [2, 1, 0] rfl) kk
set_option maxHeartbeats 4000000 in
set_option maxRecDepth 100000 in
theorem kX0_planMoves (l : Launch) (G : gT) (h0 : Nat) (h : oH) (sz F : Nat) (σ : oS) (r : Int32) (σr : oS) (hg : fX0_planMoves F σ = some (r, σr)) : Met l yX0_planMoves wsX0_planMoves rX0_planMoves (oPre G h0 h σ sz []) (oQi G h0 h r σr (oA G h0 h σ sz)) 0 0 (oA G h0 h σ sz) := by
  refine oMet (Qc := oQi G h0 h r σr) (by decide +kernel) rfl rfl (Nat.le_of_ble_eq_true rfl) ?_
  intro p e s m args below meth c A S hr hlocks hK hA H locs hI ls hl
  have hl : lv_has ls 3 [(0, .ref h0)] := hl
  have hin : ∀ w ∈ wsX00, w ∈ wsX0_planMoves := in_ws
  have hx := S.1
  have hb := S.2.1
  have hts := S.2.2.2.2
  have hown := S.2.2.2.1
  unfold fX0_planMoves at hg
  refine lv_iconst (v := 0) hx hb dX0_planMoves_0 (by decide) ?_
  refine lv_istore_n (lv' := [(1, .int 0), (0, .ref h0)]) hx hb dX0_planMoves_1 rfl hl (by decide) rfl (fun ls hl => ?_)
  refine lv_iconst (v := 0) hx hb dX0_planMoves_2 (by decide) ?_
  refine lv_istore_n (lv' := [(2, .int 0), (1, .int 0), (0, .ref h0)]) hx hb dX0_planMoves_3 rfl hl (by decide) rfl (fun ls hl => ?_)
  refine lX0_planMoves_4 S hr hlocks hin hK hA  F 0 0 σ H locs ls hg hI (lv_sub hl [2, 1, 0] rfl) (fun w18 w19 σ20 H locs ls hg hI hl => ?_)
  refine lv_iload_n hx hb dX0_planMoves_56 rfl (lv_at hl 1 rfl) ?_
  exact oe_i S hr hlocks hK hI hg dX0_planMoves_57
-- OwnMemory.keepNames
abbrev rX0_keepNames : Room := { frames := 0, cells := 0, slots := 0, locals := 0 }
theorem nX0_keepNames : yX0_keepNames.cls = RX0 ∧ yX0_keepNames.cls ≠ "java/lang/invoke/MethodHandle" ∧ yX0_keepNames.cls ≠ "java/lang/invoke/VarHandle" ∧ (parseMethodDescriptor yX0_keepNames.desc).map (fun d => d.parameters.length) = some 0 := by decide +kernel
noncomputable def LX0_keepNames_4 (F : Nat) (K : Int32 → Int32 → oS → Option oS) : Nat → Int32 → Int32 → oS → Option oS
  | 0, _, _, _ => none
  | n + 1, v1, v2, σ => cIf ((o_nc σ) ≤ v2) (K v1 v2 σ) (ck (vp_in v2 (o_ln σ)) (nmd (o_fn σ v2.toNatClampNeg) (fun x3 => ck (vp_in (x3 + 1) (o_lw σ)) (nmd (o_fw σ (x3 + 1).toNatClampNeg) (fun x5 => cIf (x5 = (-1)) (nmd (v2 + 1) (fun x7 => LX0_keepNames_4 F K  n v1 x7 σ)) (ck (vp_in v1 (o_ln σ)) (nmd (o_s_fn σ (upd (o_fn σ) v1.toNatClampNeg x5)) (fun σ9 => nmd (v1 + 1) (fun x10 => nmd (v2 + 1) (fun x11 => LX0_keepNames_4 F K  n x10 x11 σ9))))))))))
noncomputable def fX0_keepNames (F : Nat) (σ : oS) : Option oS := LX0_keepNames_4 F (fun w12 w13 σ14 => nmd (o_s_nc σ14 w12) (fun σ15 => some σ15))  F 0 0 σ
set_option maxHeartbeats 4000000 in
set_option maxRecDepth 100000 in
theorem lX0_keepNames_4 {p : Program} {l : Launch} {e : Env} {s : State} {m : MethodId} {args : Array Value} {below : List Frame} {meth : Method} {c : Code} {A : Nat → Prop} {G : gT} {h0 : Nat} {h : oH} {F : Nat} (S : CallFix p m c cX0_keepNames 4 s args wsX0_keepNames RX0) (hr : meth.sig.returnType = none) (hlocks : meth.locks = false) (hin : ∀ w ∈ wsX00, w ∈ wsX0_keepNames) (hK : gK G s) (hA : ∀ q, s.heap.size ≤ q → A q) {K : Int32 → Int32 → oS → Option oS} {res : oS} (n : Nat) : ∀ (v1 : Int32) (v2 : Int32) (σ : oS) (H : Heap) (locs : List Loc) (ls : Array Slot), LX0_keepNames_4 F K n v1 v2 σ = some res → oI s A G h0 h σ H locs → lv_has ls 4 [(0, .ref h0), (1, .int v1), (2, .int v2)] → (∀ (v1 : Int32) (v2 : Int32) (σ : oS) (H : Heap) (locs : List Loc) (ls : Array Slot), K v1 v2 σ = some res → oI s A G h0 h σ H locs → lv_has ls 4 [(0, .ref h0), (1, .int v1), (2, .int v2)] → W p l e rX0_keepNames s m args below meth c H locs 0 0 (MQ below (oQv G h0 h res A) args s 0 0 A) (F0 m 47 ls [])) → W p l e rX0_keepNames s m args below meth c H locs 0 0 (MQ below (oQv G h0 h res A) args s 0 0 A) (F0 m 4 ls []) := by
  have hx := S.1
  have hb := S.2.1
  have hts := S.2.2.2.2
  have hown := S.2.2.2.1
  induction n with
  | zero => intro v1 v2 σ H locs ls hg; rw [LX0_keepNames_4] at hg; cases hg
  | succ n ih =>
    intro v1 v2 σ H locs ls hg hI hl kk
    rw [LX0_keepNames_4] at hg
    refine lv_iload_n hx hb dX0_keepNames_4 rfl (lv_at hl 2 rfl) ?_
    refine lv_aload_n hx hb dX0_keepNames_5 rfl (lv_at hl 0 rfl) ?_
    refine og_nameCount S hin hK hI (ix := 42) (by decide +kernel) dX0_keepNames_6 ?_
    refine lv_icmp_ge (tgt := 47) hx hb dX0_keepNames_9 (by decide) (fun c1 => ?_) (fun c1 => ?_)
    · have hg := cIf_te c1 hg
      exact kk v1 v2 σ H locs ls hg hI (lv_sub hl [0, 1, 2] rfl)
    · have hg := cIf_fe c1 hg
      refine lv_aload_n hx hb dX0_keepNames_12 rfl (lv_at hl 0 rfl) ?_
      refine og_words S hin hK hI (ix := 23) (by decide +kernel) dX0_keepNames_13 ?_
      refine lv_aload_n hx hb dX0_keepNames_16 rfl (lv_at hl 0 rfl) ?_
      refine og_names S hin hK hI (ix := 39) (by decide +kernel) dX0_keepNames_17 ?_
      refine lv_iload_n hx hb dX0_keepNames_20 rfl (lv_at hl 2 rfl) ?_
      obtain ⟨c2, hg⟩ := ck_e hg
      obtain ⟨x3, ex3, hg⟩ := nmd_e hg
      refine or_names S hK hI c2 ex3 dX0_keepNames_21 ?_
      refine lv_iconst (v := 1) hx hb dX0_keepNames_22 (by decide) ?_
      refine lv_iadd hx hb dX0_keepNames_23 ?_
      obtain ⟨c4, hg⟩ := ck_e hg
      obtain ⟨x5, ex5, hg⟩ := nmd_e hg
      refine or_words S hK hI c4 ex5 dX0_keepNames_24 ?_
      refine lv_istore_n (lv' := [(3, .int x5), (0, .ref h0), (1, .int v1), (2, .int v2)]) hx hb dX0_keepNames_25 rfl hl (by decide) rfl (fun ls hl => ?_)
      refine lv_iload_n hx hb dX0_keepNames_26 rfl (lv_at hl 0 rfl) ?_
      refine lv_iconst (v := (-1)) hx hb dX0_keepNames_27 (by decide) ?_
      refine lv_icmp_eq (tgt := 41) hx hb dX0_keepNames_28 (by decide) (fun c6 => ?_) (fun c6 => ?_)
      · have hg := cIf_te c6 hg
        obtain ⟨x7, ex7, hg⟩ := nmd_e hg
        refine lv_iinc (v := x7) (lv' := [(2, .int x7), (3, .int x5), (0, .ref h0), (1, .int v1)]) hx hb dX0_keepNames_41 hl (k := 3) rfl (by rw [ex7]; rfl) (by decide) rfl (fun ls hl => ?_)
        refine lv_goto (tgt := 4) hx hb dX0_keepNames_44 (by decide) ?_
        exact ih v1 x7 σ H locs ls hg hI (lv_sub hl [2, 3, 0] rfl) kk
      · have hg := cIf_fe c6 hg
        refine lv_aload_n hx hb dX0_keepNames_31 rfl (lv_at hl 1 rfl) ?_
        refine og_names S hin hK hI (ix := 39) (by decide +kernel) dX0_keepNames_32 ?_
        refine lv_iload_n hx hb dX0_keepNames_35 rfl (lv_at hl 2 rfl) ?_
        refine lv_iload_n hx hb dX0_keepNames_36 rfl (lv_at hl 0 rfl) ?_
        obtain ⟨c8, hg⟩ := ck_e hg
        obtain ⟨σ9, eσ9, hg⟩ := nmd_e hg
        refine ou_names S hK hI c8 eσ9 dX0_keepNames_37 (fun H locs hI => ?_)
        obtain ⟨x10, ex10, hg⟩ := nmd_e hg
        refine lv_iinc (v := x10) (lv' := [(1, .int x10), (3, .int x5), (0, .ref h0), (2, .int v2)]) hx hb dX0_keepNames_38 hl (k := 2) rfl (by rw [ex10]; rfl) (by decide) rfl (fun ls hl => ?_)
        obtain ⟨x11, ex11, hg⟩ := nmd_e hg
        refine lv_iinc (v := x11) (lv' := [(2, .int x11), (1, .int x10), (3, .int x5), (0, .ref h0)]) hx hb dX0_keepNames_41 hl (k := 3) rfl (by rw [ex11]; rfl) (by decide) rfl (fun ls hl => ?_)
        refine lv_goto (tgt := 4) hx hb dX0_keepNames_44 (by decide) ?_
        exact ih x10 x11 σ9 H locs ls hg hI (lv_sub hl [3, 1, 0] rfl) kk
set_option maxHeartbeats 4000000 in
set_option maxRecDepth 100000 in
theorem kX0_keepNames (l : Launch) (G : gT) (h0 : Nat) (h : oH) (sz F : Nat) (σ : oS) (σr : oS) (hg : fX0_keepNames F σ = some σr) : Met l yX0_keepNames wsX0_keepNames rX0_keepNames (oPre G h0 h σ sz []) (oQv G h0 h σr (oA G h0 h σ sz)) 0 0 (oA G h0 h σ sz) := by
  refine oMet (Qc := oQv G h0 h σr) (by decide +kernel) rfl rfl (Nat.le_of_ble_eq_true rfl) ?_
  intro p e s m args below meth c A S hr hlocks hK hA H locs hI ls hl
  have hl : lv_has ls 4 [(0, .ref h0)] := hl
  have hin : ∀ w ∈ wsX00, w ∈ wsX0_keepNames := in_ws
  have hx := S.1
  have hb := S.2.1
  have hts := S.2.2.2.2
  have hown := S.2.2.2.1
  unfold fX0_keepNames at hg
  refine lv_iconst (v := 0) hx hb dX0_keepNames_0 (by decide) ?_
  refine lv_istore_n (lv' := [(1, .int 0), (0, .ref h0)]) hx hb dX0_keepNames_1 rfl hl (by decide) rfl (fun ls hl => ?_)
  refine lv_iconst (v := 0) hx hb dX0_keepNames_2 (by decide) ?_
  refine lv_istore_n (lv' := [(2, .int 0), (1, .int 0), (0, .ref h0)]) hx hb dX0_keepNames_3 rfl hl (by decide) rfl (fun ls hl => ?_)
  refine lX0_keepNames_4 S hr hlocks hin hK hA  F 0 0 σ H locs ls hg hI (lv_sub hl [2, 1, 0] rfl) (fun w12 w13 σ14 H locs ls hg hI hl => ?_)
  refine lv_aload_n hx hb dX0_keepNames_47 rfl (lv_at hl 0 rfl) ?_
  refine lv_iload_n hx hb dX0_keepNames_48 rfl (lv_at hl 1 rfl) ?_
  obtain ⟨σ15, eσ15, hg⟩ := nmd_e hg
  refine op_nameCount S hin hK hI (ix := 42) (by decide +kernel) eσ15 dX0_keepNames_49 (fun H locs hI => ?_)
  exact oe_v S hr hlocks hK hI hg dX0_keepNames_52
-- OwnMemory.lengthAt
abbrev rX0_lengthAt : Room := { frames := 1, cells := 0, slots := 0, locals := 21 }
theorem nX0_lengthAt : yX0_lengthAt.cls = RX0 ∧ yX0_lengthAt.cls ≠ "java/lang/invoke/MethodHandle" ∧ yX0_lengthAt.cls ≠ "java/lang/invoke/VarHandle" ∧ (parseMethodDescriptor yX0_lengthAt.desc).map (fun d => d.parameters.length) = some 1 := by decide +kernel
noncomputable def fX0_lengthAt (F : Nat) (σ : oS) (p1 : Int32) : Option (Int32 × oS) := bnd (fX0_linksAt F σ p1) (fun r2 σ1 => ck (vp_in ((p1 + 3) + r2) (o_lw σ1)) (nmd (o_fw σ1 ((p1 + 3) + r2).toNatClampNeg) (fun x4 => some (x4, σ1))))
set_option maxHeartbeats 4000000 in
set_option maxRecDepth 100000 in
theorem kX0_lengthAt (l : Launch) (G : gT) (h0 : Nat) (h : oH) (sz F : Nat) (σ : oS) (p1 : Int32) (r : Int32) (σr : oS) (hg : fX0_lengthAt F σ p1 = some (r, σr)) : Met l yX0_lengthAt wsX0_lengthAt rX0_lengthAt (oPre G h0 h σ sz [.int p1]) (oQi G h0 h r σr (oA G h0 h σ sz)) 0 0 (oA G h0 h σ sz) := by
  refine oMet (Qc := oQi G h0 h r σr) (by decide +kernel) rfl rfl (Nat.le_of_ble_eq_true rfl) ?_
  intro p e s m args below meth c A S hr hlocks hK hA H locs hI ls hl
  have hl : lv_has ls 2 [(0, .ref h0), (1, .int p1)] := hl
  have hin : ∀ w ∈ wsX00, w ∈ wsX0_lengthAt := in_ws
  have hx := S.1
  have hb := S.2.1
  have hts := S.2.2.2.2
  have hown := S.2.2.2.1
  unfold fX0_lengthAt at hg
  refine lv_aload_n hx hb dX0_lengthAt_0 rfl (lv_at hl 0 rfl) ?_
  refine og_words S hin hK hI (ix := 23) (by decide +kernel) dX0_lengthAt_1 ?_
  refine lv_iload_n hx hb dX0_lengthAt_4 rfl (lv_at hl 1 rfl) ?_
  refine lv_iconst (v := 3) hx hb dX0_lengthAt_5 (by decide) ?_
  refine lv_iadd hx hb dX0_lengthAt_6 ?_
  refine lv_aload_n hx hb dX0_lengthAt_7 rfl (lv_at hl 0 rfl) ?_
  refine lv_iload_n hx hb dX0_lengthAt_8 rfl (lv_at hl 1 rfl) ?_
  obtain ⟨r2, σ1, er2, hg⟩ := bnd_e hg
  refine oc_i S hK hA hI (As := [.int p1]) (rest := [.int (p1 + 3), .ref h.1]) (kX0_linksAt l G h0 h H.size F σ p1  r2 σ1 er2) (cwV 1 hts gX0_lengthAt_X0_linksAt rfl rfl rfl nX0_linksAt ⟨Nat.le_of_ble_eq_true rfl, Nat.le_of_ble_eq_true rfl⟩) rfl hl.1 rfl (Nat.le_of_ble_eq_true rfl) dX0_lengthAt_9 ⟨Nat.le_refl _, Nat.le_refl _⟩ (fun H locs hI => ?_)
  refine lv_iadd hx hb dX0_lengthAt_12 ?_
  obtain ⟨c3, hg⟩ := ck_e hg
  obtain ⟨x4, ex4, hg⟩ := nmd_e hg
  refine or_words S hK hI c3 ex4 dX0_lengthAt_13 ?_
  exact oe_i S hr hlocks hK hI hg dX0_lengthAt_14
-- OwnMemory.putLength
abbrev rX0_putLength : Room := { frames := 1, cells := 0, slots := 0, locals := 21 }
theorem nX0_putLength : yX0_putLength.cls = RX0 ∧ yX0_putLength.cls ≠ "java/lang/invoke/MethodHandle" ∧ yX0_putLength.cls ≠ "java/lang/invoke/VarHandle" ∧ (parseMethodDescriptor yX0_putLength.desc).map (fun d => d.parameters.length) = some 2 := by decide +kernel
noncomputable def fX0_putLength (F : Nat) (σ : oS) (p1 : Int32) (p2 : Int32) : Option oS := bnd (fX0_linksAt F σ p1) (fun r2 σ1 => ck (vp_in ((p1 + 3) + r2) (o_lw σ1)) (nmd (o_s_fw σ1 (upd (o_fw σ1) ((p1 + 3) + r2).toNatClampNeg p2)) (fun σ4 => some σ4)))
set_option maxHeartbeats 4000000 in
set_option maxRecDepth 100000 in
theorem kX0_putLength (l : Launch) (G : gT) (h0 : Nat) (h : oH) (sz F : Nat) (σ : oS) (p1 : Int32) (p2 : Int32) (σr : oS) (hg : fX0_putLength F σ p1 p2 = some σr) : Met l yX0_putLength wsX0_putLength rX0_putLength (oPre G h0 h σ sz [.int p1, .int p2]) (oQv G h0 h σr (oA G h0 h σ sz)) 0 0 (oA G h0 h σ sz) := by
  refine oMet (Qc := oQv G h0 h σr) (by decide +kernel) rfl rfl (Nat.le_of_ble_eq_true rfl) ?_
  intro p e s m args below meth c A S hr hlocks hK hA H locs hI ls hl
  have hl : lv_has ls 3 [(0, .ref h0), (1, .int p1), (2, .int p2)] := hl
  have hin : ∀ w ∈ wsX00, w ∈ wsX0_putLength := in_ws
  have hx := S.1
  have hb := S.2.1
  have hts := S.2.2.2.2
  have hown := S.2.2.2.1
  unfold fX0_putLength at hg
  refine lv_aload_n hx hb dX0_putLength_0 rfl (lv_at hl 0 rfl) ?_
  refine og_words S hin hK hI (ix := 23) (by decide +kernel) dX0_putLength_1 ?_
  refine lv_iload_n hx hb dX0_putLength_4 rfl (lv_at hl 1 rfl) ?_
  refine lv_iconst (v := 3) hx hb dX0_putLength_5 (by decide) ?_
  refine lv_iadd hx hb dX0_putLength_6 ?_
  refine lv_aload_n hx hb dX0_putLength_7 rfl (lv_at hl 0 rfl) ?_
  refine lv_iload_n hx hb dX0_putLength_8 rfl (lv_at hl 1 rfl) ?_
  obtain ⟨r2, σ1, er2, hg⟩ := bnd_e hg
  refine oc_i S hK hA hI (As := [.int p1]) (rest := [.int (p1 + 3), .ref h.1]) (kX0_linksAt l G h0 h H.size F σ p1  r2 σ1 er2) (cwV 1 hts gX0_putLength_X0_linksAt rfl rfl rfl nX0_linksAt ⟨Nat.le_of_ble_eq_true rfl, Nat.le_of_ble_eq_true rfl⟩) rfl hl.1 rfl (Nat.le_of_ble_eq_true rfl) dX0_putLength_9 ⟨Nat.le_refl _, Nat.le_refl _⟩ (fun H locs hI => ?_)
  refine lv_iadd hx hb dX0_putLength_12 ?_
  refine lv_iload_n hx hb dX0_putLength_13 rfl (lv_at hl 2 rfl) ?_
  obtain ⟨c3, hg⟩ := ck_e hg
  obtain ⟨σ4, eσ4, hg⟩ := nmd_e hg
  refine ou_words S hK hI c3 eσ4 dX0_putLength_14 (fun H locs hI => ?_)
  exact oe_v S hr hlocks hK hI hg dX0_putLength_15
-- OwnMemory.lengthIn
abbrev rX0_lengthIn : Room := { frames := 2, cells := 0, slots := 0, locals := 42 }
theorem nX0_lengthIn : yX0_lengthIn.cls = RX0 ∧ yX0_lengthIn.cls ≠ "java/lang/invoke/MethodHandle" ∧ yX0_lengthIn.cls ≠ "java/lang/invoke/VarHandle" ∧ (parseMethodDescriptor yX0_lengthIn.desc).map (fun d => d.parameters.length) = some 1 := by decide +kernel
noncomputable def fX0_lengthIn (F : Nat) (σ : oS) (p1 : Int32) : Option (Int32 × oS) := ck (vp_in p1 24) (nmd (o_fr σ p1.toNatClampNeg) (fun x2 => bnd (fX0_lengthAt F σ x2) (fun r4 σ3 => some (r4, σ3))))
set_option maxHeartbeats 4000000 in
set_option maxRecDepth 100000 in
theorem kX0_lengthIn (l : Launch) (G : gT) (h0 : Nat) (h : oH) (sz F : Nat) (σ : oS) (p1 : Int32) (r : Int32) (σr : oS) (hg : fX0_lengthIn F σ p1 = some (r, σr)) : Met l yX0_lengthIn wsX0_lengthIn rX0_lengthIn (oPre G h0 h σ sz [.int p1]) (oQi G h0 h r σr (oA G h0 h σ sz)) 0 0 (oA G h0 h σ sz) := by
  refine oMet (Qc := oQi G h0 h r σr) (by decide +kernel) rfl rfl (Nat.le_of_ble_eq_true rfl) ?_
  intro p e s m args below meth c A S hr hlocks hK hA H locs hI ls hl
  have hl : lv_has ls 2 [(0, .ref h0), (1, .int p1)] := hl
  have hin : ∀ w ∈ wsX00, w ∈ wsX0_lengthIn := in_ws
  have hx := S.1
  have hb := S.2.1
  have hts := S.2.2.2.2
  have hown := S.2.2.2.1
  unfold fX0_lengthIn at hg
  refine lv_aload_n hx hb dX0_lengthIn_0 rfl (lv_at hl 0 rfl) ?_
  refine lv_aload_n hx hb dX0_lengthIn_1 rfl (lv_at hl 0 rfl) ?_
  refine og_roots S hin hK hI (ix := 30) (by decide +kernel) dX0_lengthIn_2 ?_
  refine lv_iload_n hx hb dX0_lengthIn_5 rfl (lv_at hl 1 rfl) ?_
  obtain ⟨c1, hg⟩ := ck_e hg
  obtain ⟨x2, ex2, hg⟩ := nmd_e hg
  refine or_roots S hK hI c1 ex2 dX0_lengthIn_6 ?_
  obtain ⟨r4, σ3, er4, hg⟩ := bnd_e hg
  refine oc_i S hK hA hI (As := [.int x2]) (rest := []) (kX0_lengthAt l G h0 h H.size F σ x2  r4 σ3 er4) (cwV 1 hts gX0_lengthIn_X0_lengthAt rfl rfl rfl nX0_lengthAt ⟨Nat.le_of_ble_eq_true rfl, Nat.le_of_ble_eq_true rfl⟩) rfl hl.1 rfl (Nat.le_of_ble_eq_true rfl) dX0_lengthIn_7 ⟨Nat.le_refl _, Nat.le_refl _⟩ (fun H locs hI => ?_)
  exact oe_i S hr hlocks hK hI hg dX0_lengthIn_10
-- OwnMemory.flatOf
abbrev rX0_flatOf : Room := { frames := 1, cells := 0, slots := 0, locals := 21 }
theorem nX0_flatOf : yX0_flatOf.cls = RX0 ∧ yX0_flatOf.cls ≠ "java/lang/invoke/MethodHandle" ∧ yX0_flatOf.cls ≠ "java/lang/invoke/VarHandle" ∧ (parseMethodDescriptor yX0_flatOf.desc).map (fun d => d.parameters.length) = some 1 := by decide +kernel
noncomputable def fX0_flatOf (F : Nat) (σ : oS) (p1 : Int32) : Option (Int32 × oS) := bnd (fX0_kindAt F σ p1) (fun r2 σ1 => cIf (r2 = 4) (ck (vp_in (p1 + 3) (o_lw σ1)) (nmd (o_fw σ1 (p1 + 3).toNatClampNeg) (fun x5 => some (x5, σ1)))) (some (p1, σ1)))
set_option maxHeartbeats 4000000 in
set_option maxRecDepth 100000 in
theorem kX0_flatOf (l : Launch) (G : gT) (h0 : Nat) (h : oH) (sz F : Nat) (σ : oS) (p1 : Int32) (r : Int32) (σr : oS) (hg : fX0_flatOf F σ p1 = some (r, σr)) : Met l yX0_flatOf wsX0_flatOf rX0_flatOf (oPre G h0 h σ sz [.int p1]) (oQi G h0 h r σr (oA G h0 h σ sz)) 0 0 (oA G h0 h σ sz) := by
  refine oMet (Qc := oQi G h0 h r σr) (by decide +kernel) rfl rfl (Nat.le_of_ble_eq_true rfl) ?_
  intro p e s m args below meth c A S hr hlocks hK hA H locs hI ls hl
  have hl : lv_has ls 2 [(0, .ref h0), (1, .int p1)] := hl
  have hin : ∀ w ∈ wsX00, w ∈ wsX0_flatOf := in_ws
  have hx := S.1
  have hb := S.2.1
  have hts := S.2.2.2.2
  have hown := S.2.2.2.1
  unfold fX0_flatOf at hg
  refine lv_aload_n hx hb dX0_flatOf_0 rfl (lv_at hl 0 rfl) ?_
  refine lv_iload_n hx hb dX0_flatOf_1 rfl (lv_at hl 1 rfl) ?_
  obtain ⟨r2, σ1, er2, hg⟩ := bnd_e hg
  refine oc_i S hK hA hI (As := [.int p1]) (rest := []) (kX0_kindAt l G h0 h H.size F σ p1  r2 σ1 er2) (cwV 1 hts gX0_flatOf_X0_kindAt rfl rfl rfl nX0_kindAt ⟨Nat.le_of_ble_eq_true rfl, Nat.le_of_ble_eq_true rfl⟩) rfl hl.1 rfl (Nat.le_of_ble_eq_true rfl) dX0_flatOf_2 ⟨Nat.le_refl _, Nat.le_refl _⟩ (fun H locs hI => ?_)
  refine lv_iconst (v := 4) hx hb dX0_flatOf_5 (by decide) ?_
  refine lv_icmp_ne (tgt := 20) hx hb dX0_flatOf_6 (by decide) (fun c3 => ?_) (fun c3 => ?_)
  · have hg := cIf_fe c3 hg
    refine lv_iload_n hx hb dX0_flatOf_20 rfl (lv_at hl 1 rfl) ?_
    exact oe_i S hr hlocks hK hI hg dX0_flatOf_21
  · have hg := cIf_te c3 hg
    refine lv_aload_n hx hb dX0_flatOf_9 rfl (lv_at hl 0 rfl) ?_
    refine og_words S hin hK hI (ix := 23) (by decide +kernel) dX0_flatOf_10 ?_
    refine lv_iload_n hx hb dX0_flatOf_13 rfl (lv_at hl 1 rfl) ?_
    refine lv_iconst (v := 3) hx hb dX0_flatOf_14 (by decide) ?_
    refine lv_iadd hx hb dX0_flatOf_15 ?_
    obtain ⟨c4, hg⟩ := ck_e hg
    obtain ⟨x5, ex5, hg⟩ := nmd_e hg
    refine or_words S hK hI c4 ex5 dX0_flatOf_16 ?_
    refine lv_goto (tgt := 21) hx hb dX0_flatOf_17 (by decide) ?_
    exact oe_i S hr hlocks hK hI hg dX0_flatOf_21
-- OwnMemory.unitAt
abbrev rX0_unitAt : Room := { frames := 0, cells := 0, slots := 0, locals := 0 }
theorem nX0_unitAt : yX0_unitAt.cls = RX0 ∧ yX0_unitAt.cls ≠ "java/lang/invoke/MethodHandle" ∧ yX0_unitAt.cls ≠ "java/lang/invoke/VarHandle" ∧ (parseMethodDescriptor yX0_unitAt.desc).map (fun d => d.parameters.length) = some 2 := by decide +kernel
noncomputable def fX0_unitAt (F : Nat) (σ : oS) (p1 : Int32) (p2 : Int32) : Option (Int32 × oS) := ck (vp_in ((p1 + 4) + (p2 / 2)) (o_lw σ)) (nmd (o_fw σ ((p1 + 4) + (p2 / 2)).toNatClampNeg) (fun x2 => some (((x2.toUInt32 >>> ((16 * (p2 - p2 / 2 * 2)).toUInt32 &&& Int32.toUInt32 31)).toInt32 &&& 65535), σ)))
set_option maxHeartbeats 4000000 in
set_option maxRecDepth 100000 in
theorem kX0_unitAt (l : Launch) (G : gT) (h0 : Nat) (h : oH) (sz F : Nat) (σ : oS) (p1 : Int32) (p2 : Int32) (r : Int32) (σr : oS) (hg : fX0_unitAt F σ p1 p2 = some (r, σr)) : Met l yX0_unitAt wsX0_unitAt rX0_unitAt (oPre G h0 h σ sz [.int p1, .int p2]) (oQi G h0 h r σr (oA G h0 h σ sz)) 0 0 (oA G h0 h σ sz) := by
  refine oMet (Qc := oQi G h0 h r σr) (by decide +kernel) rfl rfl (Nat.le_of_ble_eq_true rfl) ?_
  intro p e s m args below meth c A S hr hlocks hK hA H locs hI ls hl
  have hl : lv_has ls 3 [(0, .ref h0), (1, .int p1), (2, .int p2)] := hl
  have hin : ∀ w ∈ wsX00, w ∈ wsX0_unitAt := in_ws
  have hx := S.1
  have hb := S.2.1
  have hts := S.2.2.2.2
  have hown := S.2.2.2.1
  unfold fX0_unitAt at hg
  refine lv_aload_n hx hb dX0_unitAt_0 rfl (lv_at hl 0 rfl) ?_
  refine og_words S hin hK hI (ix := 23) (by decide +kernel) dX0_unitAt_1 ?_
  refine lv_iload_n hx hb dX0_unitAt_4 rfl (lv_at hl 1 rfl) ?_
  refine lv_iconst (v := 4) hx hb dX0_unitAt_5 (by decide) ?_
  refine lv_iadd hx hb dX0_unitAt_6 ?_
  refine lv_iload_n hx hb dX0_unitAt_7 rfl (lv_at hl 2 rfl) ?_
  refine lv_iconst (v := 2) hx hb dX0_unitAt_8 (by decide) ?_
  refine lv_idiv hx hb dX0_unitAt_9 (by decide) ?_
  refine lv_iadd hx hb dX0_unitAt_10 ?_
  obtain ⟨c1, hg⟩ := ck_e hg
  obtain ⟨x2, ex2, hg⟩ := nmd_e hg
  refine or_words S hK hI c1 ex2 dX0_unitAt_11 ?_
  refine lv_bipush (v := 16) hx hb dX0_unitAt_12 (by decide) ?_
  refine lv_iload_n hx hb dX0_unitAt_14 rfl (lv_at hl 2 rfl) ?_
  refine lv_iconst (v := 2) hx hb dX0_unitAt_15 (by decide) ?_
  refine lv_irem hx hb dX0_unitAt_16 (by decide) ?_
  refine lv_imul hx hb dX0_unitAt_17 ?_
  refine lv_iushr (v := (x2.toUInt32 >>> ((16 * (p2 - p2 / 2 * 2)).toUInt32 &&& Int32.toUInt32 31)).toInt32) hx hb dX0_unitAt_18 rfl ?_
  refine lv_ldc (v := 65535) hx hb hown (hts (.constant RX0 107 (65535)) (by decide +kernel)) dX0_unitAt_19 ?_
  refine lv_iand hx hb dX0_unitAt_21 ?_
  exact oe_i S hr hlocks hK hI hg dX0_unitAt_22
-- OwnMemory.putUnit
abbrev rX0_putUnit : Room := { frames := 0, cells := 0, slots := 0, locals := 0 }
theorem nX0_putUnit : yX0_putUnit.cls = RX0 ∧ yX0_putUnit.cls ≠ "java/lang/invoke/MethodHandle" ∧ yX0_putUnit.cls ≠ "java/lang/invoke/VarHandle" ∧ (parseMethodDescriptor yX0_putUnit.desc).map (fun d => d.parameters.length) = some 3 := by decide +kernel
noncomputable def fX0_putUnit (F : Nat) (σ : oS) (p1 : Int32) (p2 : Int32) (p3 : Int32) : Option oS := ck (vp_in ((p1 + 4) + (p2 / 2)) (o_lw σ)) (nmd (o_fw σ ((p1 + 4) + (p2 / 2)).toNatClampNeg) (fun x2 => ck (vp_in ((p1 + 4) + (p2 / 2)) (o_lw σ)) (nmd (o_s_fw σ (upd (o_fw σ) ((p1 + 4) + (p2 / 2)).toNatClampNeg (x2 ||| (p3 <<< ((16 * (p2 - p2 / 2 * 2)) &&& 31))))) (fun σ4 => some σ4))))
set_option maxHeartbeats 4000000 in
set_option maxRecDepth 100000 in
theorem kX0_putUnit (l : Launch) (G : gT) (h0 : Nat) (h : oH) (sz F : Nat) (σ : oS) (p1 : Int32) (p2 : Int32) (p3 : Int32) (σr : oS) (hg : fX0_putUnit F σ p1 p2 p3 = some σr) : Met l yX0_putUnit wsX0_putUnit rX0_putUnit (oPre G h0 h σ sz [.int p1, .int p2, .int p3]) (oQv G h0 h σr (oA G h0 h σ sz)) 0 0 (oA G h0 h σ sz) := by
  refine oMet (Qc := oQv G h0 h σr) (by decide +kernel) rfl rfl (Nat.le_of_ble_eq_true rfl) ?_
  intro p e s m args below meth c A S hr hlocks hK hA H locs hI ls hl
  have hl : lv_has ls 4 [(0, .ref h0), (1, .int p1), (2, .int p2), (3, .int p3)] := hl
  have hin : ∀ w ∈ wsX00, w ∈ wsX0_putUnit := in_ws
  have hx := S.1
  have hb := S.2.1
  have hts := S.2.2.2.2
  have hown := S.2.2.2.1
  unfold fX0_putUnit at hg
  refine lv_aload_n hx hb dX0_putUnit_0 rfl (lv_at hl 0 rfl) ?_
  refine og_words S hin hK hI (ix := 23) (by decide +kernel) dX0_putUnit_1 ?_
  refine lv_iload_n hx hb dX0_putUnit_4 rfl (lv_at hl 1 rfl) ?_
  refine lv_iconst (v := 4) hx hb dX0_putUnit_5 (by decide) ?_
  refine lv_iadd hx hb dX0_putUnit_6 ?_
  refine lv_iload_n hx hb dX0_putUnit_7 rfl (lv_at hl 2 rfl) ?_
  refine lv_iconst (v := 2) hx hb dX0_putUnit_8 (by decide) ?_
  refine lv_idiv hx hb dX0_putUnit_9 (by decide) ?_
  refine lv_iadd hx hb dX0_putUnit_10 ?_
  refine lv_dup2_11 hx hb dX0_putUnit_11 rfl rfl ?_
  obtain ⟨c1, hg⟩ := ck_e hg
  obtain ⟨x2, ex2, hg⟩ := nmd_e hg
  refine or_words S hK hI c1 ex2 dX0_putUnit_12 ?_
  refine lv_iload_n hx hb dX0_putUnit_13 rfl (lv_at hl 3 rfl) ?_
  refine lv_bipush (v := 16) hx hb dX0_putUnit_14 (by decide) ?_
  refine lv_iload_n hx hb dX0_putUnit_16 rfl (lv_at hl 2 rfl) ?_
  refine lv_iconst (v := 2) hx hb dX0_putUnit_17 (by decide) ?_
  refine lv_irem hx hb dX0_putUnit_18 (by decide) ?_
  refine lv_imul hx hb dX0_putUnit_19 ?_
  refine lv_ishl hx hb dX0_putUnit_20 ?_
  refine lv_ior hx hb dX0_putUnit_21 ?_
  obtain ⟨c3, hg⟩ := ck_e hg
  obtain ⟨σ4, eσ4, hg⟩ := nmd_e hg
  refine ou_words S hK hI c3 eσ4 dX0_putUnit_22 (fun H locs hI => ?_)
  exact oe_v S hr hlocks hK hI hg dX0_putUnit_23
-- OwnMemory.copyUnits
abbrev rX0_copyUnits : Room := { frames := 1, cells := 0, slots := 0, locals := 23 }
theorem nX0_copyUnits : yX0_copyUnits.cls = RX0 ∧ yX0_copyUnits.cls ≠ "java/lang/invoke/MethodHandle" ∧ yX0_copyUnits.cls ≠ "java/lang/invoke/VarHandle" ∧ (parseMethodDescriptor yX0_copyUnits.desc).map (fun d => d.parameters.length) = some 5 := by decide +kernel
noncomputable def LX0_copyUnits_3 (F : Nat) (K : Int32 → oS → Option oS) (v1 : Int32) (v2 : Int32) (v3 : Int32) (v4 : Int32) (v5 : Int32) : Nat → Int32 → oS → Option oS
  | 0, _, _ => none
  | n + 1, v6, σ => cIf (v3 ≤ v6) (K v6 σ) (bnd (fX0_unitAt F σ v1 v6) (fun r3 σ2 => bnp (fX0_putUnit F σ2 v4 ((v5 + v6) - v2) r3) (fun σ4 => nmd (v6 + 1) (fun x5 => LX0_copyUnits_3 F K v1 v2 v3 v4 v5 n x5 σ4))))
noncomputable def fX0_copyUnits (F : Nat) (σ : oS) (p1 : Int32) (p2 : Int32) (p3 : Int32) (p4 : Int32) (p5 : Int32) : Option oS := LX0_copyUnits_3 F (fun w6 σ7 => some σ7) p1 p2 p3 p4 p5 F p2 σ
set_option maxHeartbeats 4000000 in
set_option maxRecDepth 100000 in
theorem lX0_copyUnits_3 {p : Program} {l : Launch} {e : Env} {s : State} {m : MethodId} {args : Array Value} {below : List Frame} {meth : Method} {c : Code} {A : Nat → Prop} {G : gT} {h0 : Nat} {h : oH} {F : Nat} (S : CallFix p m c cX0_copyUnits 7 s args wsX0_copyUnits RX0) (hr : meth.sig.returnType = none) (hlocks : meth.locks = false) (hin : ∀ w ∈ wsX00, w ∈ wsX0_copyUnits) (hK : gK G s) (hA : ∀ q, s.heap.size ≤ q → A q) {K : Int32 → oS → Option oS} {res : oS} (v1 : Int32) (v2 : Int32) (v3 : Int32) (v4 : Int32) (v5 : Int32) (n : Nat) : ∀ (v6 : Int32) (σ : oS) (H : Heap) (locs : List Loc) (ls : Array Slot), LX0_copyUnits_3 F K v1 v2 v3 v4 v5 n v6 σ = some res → oI s A G h0 h σ H locs → lv_has ls 7 [(0, .ref h0), (1, .int v1), (2, .int v2), (3, .int v3), (4, .int v4), (5, .int v5), (6, .int v6)] → (∀ (v6 : Int32) (σ : oS) (H : Heap) (locs : List Loc) (ls : Array Slot), K v6 σ = some res → oI s A G h0 h σ H locs → lv_has ls 7 [(0, .ref h0), (1, .int v1), (2, .int v2), (3, .int v3), (4, .int v4), (5, .int v5), (6, .int v6)] → W p l e rX0_copyUnits s m args below meth c H locs 0 0 (MQ below (oQv G h0 h res A) args s 0 0 A) (F0 m 35 ls [])) → W p l e rX0_copyUnits s m args below meth c H locs 0 0 (MQ below (oQv G h0 h res A) args s 0 0 A) (F0 m 3 ls []) := by
  have hx := S.1
  have hb := S.2.1
  have hts := S.2.2.2.2
  have hown := S.2.2.2.1
  induction n with
  | zero => intro v6 σ H locs ls hg; rw [LX0_copyUnits_3] at hg; cases hg
  | succ n ih =>
    intro v6 σ H locs ls hg hI hl kk
    rw [LX0_copyUnits_3] at hg
    refine lv_iload hx hb dX0_copyUnits_3 (lv_at hl 6 rfl) ?_
    refine lv_iload_n hx hb dX0_copyUnits_5 rfl (lv_at hl 3 rfl) ?_
    refine lv_icmp_ge (tgt := 35) hx hb dX0_copyUnits_6 (by decide) (fun c1 => ?_) (fun c1 => ?_)
    · have hg := cIf_te c1 hg
      exact kk v6 σ H locs ls hg hI (lv_sub hl [0, 1, 2, 3, 4, 5, 6] rfl)
    · have hg := cIf_fe c1 hg
      refine lv_aload_n hx hb dX0_copyUnits_9 rfl (lv_at hl 0 rfl) ?_
      refine lv_iload hx hb dX0_copyUnits_10 (lv_at hl 4 rfl) ?_
      refine lv_iload hx hb dX0_copyUnits_12 (lv_at hl 5 rfl) ?_
      refine lv_iload hx hb dX0_copyUnits_14 (lv_at hl 6 rfl) ?_
      refine lv_iadd hx hb dX0_copyUnits_16 ?_
      refine lv_iload_n hx hb dX0_copyUnits_17 rfl (lv_at hl 2 rfl) ?_
      refine lv_isub hx hb dX0_copyUnits_18 ?_
      refine lv_aload_n hx hb dX0_copyUnits_19 rfl (lv_at hl 0 rfl) ?_
      refine lv_iload_n hx hb dX0_copyUnits_20 rfl (lv_at hl 1 rfl) ?_
      refine lv_iload hx hb dX0_copyUnits_21 (lv_at hl 6 rfl) ?_
      obtain ⟨r3, σ2, er3, hg⟩ := bnd_e hg
      refine oc_i S hK hA hI (As := [.int v1, .int v6]) (rest := [.int ((v5 + v6) - v2), .int v4, .ref h0]) (kX0_unitAt l G h0 h H.size F σ v1 v6  r3 σ2 er3) (cwV 2 hts gX0_copyUnits_X0_unitAt rfl rfl rfl nX0_unitAt ⟨Nat.le_of_ble_eq_true rfl, Nat.le_of_ble_eq_true rfl⟩) rfl hl.1 rfl (Nat.le_of_ble_eq_true rfl) dX0_copyUnits_23 ⟨Nat.le_refl _, Nat.le_refl _⟩ (fun H locs hI => ?_)
      obtain ⟨σ4, eσ4, hg⟩ := bnp_e hg
      refine oc_v S hK hA hI (As := [.int v4, .int ((v5 + v6) - v2), .int r3]) (rest := []) (kX0_putUnit l G h0 h H.size F σ2 v4 ((v5 + v6) - v2) r3  σ4 eσ4) (cwV 3 hts gX0_copyUnits_X0_putUnit rfl rfl rfl nX0_putUnit ⟨Nat.le_of_ble_eq_true rfl, Nat.le_of_ble_eq_true rfl⟩) rfl hl.1 rfl (Nat.le_of_ble_eq_true rfl) dX0_copyUnits_26 ⟨Nat.le_refl _, Nat.le_refl _⟩ (fun H locs hI => ?_)
      obtain ⟨x5, ex5, hg⟩ := nmd_e hg
      refine lv_iinc (v := x5) (lv' := [(6, .int x5), (0, .ref h0), (1, .int v1), (2, .int v2), (3, .int v3), (4, .int v4), (5, .int v5)]) hx hb dX0_copyUnits_29 hl (k := 6) rfl (by rw [ex5]; rfl) (by decide) rfl (fun ls hl => ?_)
      refine lv_goto (tgt := 3) hx hb dX0_copyUnits_32 (by decide) ?_
      exact ih x5 σ4 H locs ls hg hI (lv_sub hl [1, 2, 3, 4, 5, 6, 0] rfl) kk
set_option maxHeartbeats 4000000 in
set_option maxRecDepth 100000 in
theorem kX0_copyUnits (l : Launch) (G : gT) (h0 : Nat) (h : oH) (sz F : Nat) (σ : oS) (p1 : Int32) (p2 : Int32) (p3 : Int32) (p4 : Int32) (p5 : Int32) (σr : oS) (hg : fX0_copyUnits F σ p1 p2 p3 p4 p5 = some σr) : Met l yX0_copyUnits wsX0_copyUnits rX0_copyUnits (oPre G h0 h σ sz [.int p1, .int p2, .int p3, .int p4, .int p5]) (oQv G h0 h σr (oA G h0 h σ sz)) 0 0 (oA G h0 h σ sz) := by
  refine oMet (Qc := oQv G h0 h σr) (by decide +kernel) rfl rfl (Nat.le_of_ble_eq_true rfl) ?_
  intro p e s m args below meth c A S hr hlocks hK hA H locs hI ls hl
  have hl : lv_has ls 7 [(0, .ref h0), (1, .int p1), (2, .int p2), (3, .int p3), (4, .int p4), (5, .int p5)] := hl
  have hin : ∀ w ∈ wsX00, w ∈ wsX0_copyUnits := in_ws
  have hx := S.1
  have hb := S.2.1
  have hts := S.2.2.2.2
  have hown := S.2.2.2.1
  unfold fX0_copyUnits at hg
  refine lv_iload_n hx hb dX0_copyUnits_0 rfl (lv_at hl 2 rfl) ?_
  refine lv_istore (lv' := [(6, .int p2), (0, .ref h0), (1, .int p1), (2, .int p2), (3, .int p3), (4, .int p4), (5, .int p5)]) hx hb dX0_copyUnits_1 hl (by decide) rfl (fun ls hl => ?_)
  refine lX0_copyUnits_3 S hr hlocks hin hK hA p1 p2 p3 p4 p5 F p2 σ H locs ls hg hI (lv_sub hl [1, 2, 3, 4, 5, 6, 0] rfl) (fun w6 σ7 H locs ls hg hI hl => ?_)
  exact oe_v S hr hlocks hK hI hg dX0_copyUnits_35
-- OwnMemory.copyAllUnits
abbrev rX0_copyAllUnits : Room := { frames := 2, cells := 0, slots := 0, locals := 49 }
theorem nX0_copyAllUnits : yX0_copyAllUnits.cls = RX0 ∧ yX0_copyAllUnits.cls ≠ "java/lang/invoke/MethodHandle" ∧ yX0_copyAllUnits.cls ≠ "java/lang/invoke/VarHandle" ∧ (parseMethodDescriptor yX0_copyAllUnits.desc).map (fun d => d.parameters.length) = some 2 := by decide +kernel
noncomputable def LX0_copyAllUnits_17 (F : Nat) (K : Int32 → Int32 → Int32 → oS → Option oS) (v1 : Int32) (v2 : Int32) : Nat → Int32 → Int32 → Int32 → oS → Option oS
  | 0, _, _, _, _ => none
  | n + 1, v3, v4, v5, σ => cIf (v5 ≤ 0) (K v3 v4 v5 σ) (cIf (v4 ≤ 0) (K v3 v4 v5 σ) (cIf (4000 ≤ v4) (K v3 v4 v5 σ) (ck (vp_in (v4 - 1) 4000) (nmd (o_fp σ (v4 - 1).toNatClampNeg) (fun x7 => bnd (fX0_kindAt F σ x7) (fun r9 σ8 => cIf (r9 = 3) (ck (vp_in (x7 + 4) (o_lw σ8)) (nmd (o_fw σ8 (x7 + 4).toNatClampNeg) (fun x22 => ck (vp_in (v4 - 1) 4000) (nmd (o_s_fp σ8 (upd (o_fp σ8) (v4 - 1).toNatClampNeg x22)) (fun σ24 => ck (vp_in (x7 + 3) (o_lw σ24)) (nmd (o_fw σ24 (x7 + 3).toNatClampNeg) (fun x26 => ck (vp_in v4 4000) (nmd (o_s_fp σ24 (upd (o_fp σ24) v4.toNatClampNeg x26)) (fun σ28 => nmd (v4 + 1) (fun x29 => nmd (v5 + (-1)) (fun x30 => LX0_copyAllUnits_17 F K v1 v2 n v3 x29 x30 σ28))))))))))) (bnd (fX0_flatOf F σ8 x7) (fun r12 σ11 => bnd (fX0_lengthAt F σ11 x7) (fun r14 σ13 => bnp (fX0_copyUnits F σ13 r12 0 r14 v2 v3) (fun σ15 => bnd (fX0_lengthAt F σ15 x7) (fun r17 σ16 => nmd (v3 + r17) (fun x18 => nmd (v4 + (-1)) (fun x19 => nmd (v5 + (-1)) (fun x20 => LX0_copyAllUnits_17 F K v1 v2 n x18 x19 x20 σ16))))))))))))))
noncomputable def fX0_copyAllUnits (F : Nat) (σ : oS) (p1 : Int32) (p2 : Int32) : Option oS := ck (vp_in 0 4000) (nmd (o_s_fp σ (upd (o_fp σ) (0 : Int32).toNatClampNeg p1)) (fun σ2 => LX0_copyAllUnits_17 F (fun w31 w32 w33 σ34 => some σ34) p1 p2 F 0 1 8000 σ2))
set_option maxHeartbeats 4000000 in
set_option maxRecDepth 100000 in
theorem lX0_copyAllUnits_17 {p : Program} {l : Launch} {e : Env} {s : State} {m : MethodId} {args : Array Value} {below : List Frame} {meth : Method} {c : Code} {A : Nat → Prop} {G : gT} {h0 : Nat} {h : oH} {F : Nat} (S : CallFix p m c cX0_copyAllUnits 7 s args wsX0_copyAllUnits RX0) (hr : meth.sig.returnType = none) (hlocks : meth.locks = false) (hin : ∀ w ∈ wsX00, w ∈ wsX0_copyAllUnits) (hK : gK G s) (hA : ∀ q, s.heap.size ≤ q → A q) {K : Int32 → Int32 → Int32 → oS → Option oS} {res : oS} (v1 : Int32) (v2 : Int32) (n : Nat) : ∀ (v3 : Int32) (v4 : Int32) (v5 : Int32) (σ : oS) (H : Heap) (locs : List Loc) (ls : Array Slot), LX0_copyAllUnits_17 F K v1 v2 n v3 v4 v5 σ = some res → oI s A G h0 h σ H locs → lv_has ls 7 [(0, .ref h0), (1, .int v1), (2, .int v2), (3, .int v3), (4, .int v4), (5, .int v5)] → (∀ (v3 : Int32) (v4 : Int32) (v5 : Int32) (σ : oS) (H : Heap) (locs : List Loc) (ls : Array Slot), K v3 v4 v5 σ = some res → oI s A G h0 h σ H locs → lv_has ls 7 [(0, .ref h0), (1, .int v1), (2, .int v2), (3, .int v3), (4, .int v4), (5, .int v5)] → W p l e rX0_copyAllUnits s m args below meth c H locs 0 0 (MQ below (oQv G h0 h res A) args s 0 0 A) (F0 m 133 ls [])) → W p l e rX0_copyAllUnits s m args below meth c H locs 0 0 (MQ below (oQv G h0 h res A) args s 0 0 A) (F0 m 17 ls []) := by
  have hx := S.1
  have hb := S.2.1
  have hts := S.2.2.2.2
  have hown := S.2.2.2.1
  induction n with
  | zero => intro v3 v4 v5 σ H locs ls hg; rw [LX0_copyAllUnits_17] at hg; cases hg
  | succ n ih =>
    intro v3 v4 v5 σ H locs ls hg hI hl kk
    rw [LX0_copyAllUnits_17] at hg
    refine lv_iload hx hb dX0_copyAllUnits_17 (lv_at hl 5 rfl) ?_
    refine lv_if_le (tgt := 133) hx hb dX0_copyAllUnits_19 (by decide) (fun c3 => ?_) (fun c3 => ?_)
    · have hg := cIf_te c3 hg
      exact kk v3 v4 v5 σ H locs ls hg hI (lv_sub hl [0, 1, 2, 3, 4, 5] rfl)
    · have hg := cIf_fe c3 hg
      refine lv_iload hx hb dX0_copyAllUnits_22 (lv_at hl 4 rfl) ?_
      refine lv_if_le (tgt := 133) hx hb dX0_copyAllUnits_24 (by decide) (fun c4 => ?_) (fun c4 => ?_)
      · have hg := cIf_te c4 hg
        exact kk v3 v4 v5 σ H locs ls hg hI (lv_sub hl [0, 1, 2, 3, 4, 5] rfl)
      · have hg := cIf_fe c4 hg
        refine lv_iload hx hb dX0_copyAllUnits_27 (lv_at hl 4 rfl) ?_
        refine lv_sipush (v := 4000) hx hb dX0_copyAllUnits_29 (by decide) ?_
        refine lv_icmp_ge (tgt := 133) hx hb dX0_copyAllUnits_32 (by decide) (fun c5 => ?_) (fun c5 => ?_)
        · have hg := cIf_te c5 hg
          exact kk v3 v4 v5 σ H locs ls hg hI (lv_sub hl [0, 1, 2, 3, 4, 5] rfl)
        · have hg := cIf_fe c5 hg
          refine lv_aload_n hx hb dX0_copyAllUnits_35 rfl (lv_at hl 0 rfl) ?_
          refine og_pending S hin hK hI (ix := 45) (by decide +kernel) dX0_copyAllUnits_36 ?_
          refine lv_iload hx hb dX0_copyAllUnits_39 (lv_at hl 4 rfl) ?_
          refine lv_iconst (v := 1) hx hb dX0_copyAllUnits_41 (by decide) ?_
          refine lv_isub hx hb dX0_copyAllUnits_42 ?_
          obtain ⟨c6, hg⟩ := ck_e hg
          obtain ⟨x7, ex7, hg⟩ := nmd_e hg
          refine or_pending S hK hI c6 ex7 dX0_copyAllUnits_43 ?_
          refine lv_istore (lv' := [(6, .int x7), (0, .ref h0), (1, .int v1), (2, .int v2), (3, .int v3), (4, .int v4), (5, .int v5)]) hx hb dX0_copyAllUnits_44 hl (by decide) rfl (fun ls hl => ?_)
          refine lv_aload_n hx hb dX0_copyAllUnits_46 rfl (lv_at hl 1 rfl) ?_
          refine lv_iload hx hb dX0_copyAllUnits_47 (lv_at hl 0 rfl) ?_
          obtain ⟨r9, σ8, er9, hg⟩ := bnd_e hg
          refine oc_i S hK hA hI (As := [.int x7]) (rest := []) (kX0_kindAt l G h0 h H.size F σ x7  r9 σ8 er9) (cwV 1 hts gX0_copyAllUnits_X0_kindAt rfl rfl rfl nX0_kindAt ⟨Nat.le_of_ble_eq_true rfl, Nat.le_of_ble_eq_true rfl⟩) rfl hl.1 rfl (Nat.le_of_ble_eq_true rfl) dX0_copyAllUnits_49 ⟨Nat.le_refl _, Nat.le_refl _⟩ (fun H locs hI => ?_)
          refine lv_iconst (v := 3) hx hb dX0_copyAllUnits_52 (by decide) ?_
          refine lv_icmp_ne (tgt := 96) hx hb dX0_copyAllUnits_53 (by decide) (fun c10 => ?_) (fun c10 => ?_)
          · have hg := cIf_fe c10 hg
            refine lv_aload_n hx hb dX0_copyAllUnits_96 rfl (lv_at hl 1 rfl) ?_
            refine lv_aload_n hx hb dX0_copyAllUnits_97 rfl (lv_at hl 1 rfl) ?_
            refine lv_iload hx hb dX0_copyAllUnits_98 (lv_at hl 0 rfl) ?_
            obtain ⟨r12, σ11, er12, hg⟩ := bnd_e hg
            refine oc_i S hK hA hI (As := [.int x7]) (rest := [.ref h0]) (kX0_flatOf l G h0 h H.size F σ8 x7  r12 σ11 er12) (cwV 1 hts gX0_copyAllUnits_X0_flatOf rfl rfl rfl nX0_flatOf ⟨Nat.le_of_ble_eq_true rfl, Nat.le_of_ble_eq_true rfl⟩) rfl hl.1 rfl (Nat.le_of_ble_eq_true rfl) dX0_copyAllUnits_100 ⟨Nat.le_refl _, Nat.le_refl _⟩ (fun H locs hI => ?_)
            refine lv_iconst (v := 0) hx hb dX0_copyAllUnits_103 (by decide) ?_
            refine lv_aload_n hx hb dX0_copyAllUnits_104 rfl (lv_at hl 1 rfl) ?_
            refine lv_iload hx hb dX0_copyAllUnits_105 (lv_at hl 0 rfl) ?_
            obtain ⟨r14, σ13, er14, hg⟩ := bnd_e hg
            refine oc_i S hK hA hI (As := [.int x7]) (rest := [.int 0, .int r12, .ref h0]) (kX0_lengthAt l G h0 h H.size F σ11 x7  r14 σ13 er14) (cwV 1 hts gX0_copyAllUnits_X0_lengthAt rfl rfl rfl nX0_lengthAt ⟨Nat.le_of_ble_eq_true rfl, Nat.le_of_ble_eq_true rfl⟩) rfl hl.1 rfl (Nat.le_of_ble_eq_true rfl) dX0_copyAllUnits_107 ⟨Nat.le_refl _, Nat.le_refl _⟩ (fun H locs hI => ?_)
            refine lv_iload_n hx hb dX0_copyAllUnits_110 rfl (lv_at hl 3 rfl) ?_
            refine lv_iload_n hx hb dX0_copyAllUnits_111 rfl (lv_at hl 4 rfl) ?_
            obtain ⟨σ15, eσ15, hg⟩ := bnp_e hg
            refine oc_v S hK hA hI (As := [.int r12, .int 0, .int r14, .int v2, .int v3]) (rest := []) (kX0_copyUnits l G h0 h H.size F σ13 r12 0 r14 v2 v3  σ15 eσ15) (cwV 5 hts gX0_copyAllUnits_X0_copyUnits rfl rfl rfl nX0_copyUnits ⟨Nat.le_of_ble_eq_true rfl, Nat.le_of_ble_eq_true rfl⟩) rfl hl.1 rfl (Nat.le_of_ble_eq_true rfl) dX0_copyAllUnits_112 ⟨Nat.le_refl _, Nat.le_refl _⟩ (fun H locs hI => ?_)
            refine lv_iload_n hx hb dX0_copyAllUnits_115 rfl (lv_at hl 4 rfl) ?_
            refine lv_aload_n hx hb dX0_copyAllUnits_116 rfl (lv_at hl 1 rfl) ?_
            refine lv_iload hx hb dX0_copyAllUnits_117 (lv_at hl 0 rfl) ?_
            obtain ⟨r17, σ16, er17, hg⟩ := bnd_e hg
            refine oc_i S hK hA hI (As := [.int x7]) (rest := [.int v3]) (kX0_lengthAt l G h0 h H.size F σ15 x7  r17 σ16 er17) (cwV 1 hts gX0_copyAllUnits_X0_lengthAt rfl rfl rfl nX0_lengthAt ⟨Nat.le_of_ble_eq_true rfl, Nat.le_of_ble_eq_true rfl⟩) rfl hl.1 rfl (Nat.le_of_ble_eq_true rfl) dX0_copyAllUnits_119 ⟨Nat.le_refl _, Nat.le_refl _⟩ (fun H locs hI => ?_)
            refine lv_iadd hx hb dX0_copyAllUnits_122 ?_
            obtain ⟨x18, ex18, hg⟩ := nmd_e hg
            refine wn_i ex18 ?_
            refine lv_istore_n (lv' := [(3, .int x18), (6, .int x7), (0, .ref h0), (1, .int v1), (2, .int v2), (4, .int v4), (5, .int v5)]) hx hb dX0_copyAllUnits_123 rfl hl (by decide) rfl (fun ls hl => ?_)
            obtain ⟨x19, ex19, hg⟩ := nmd_e hg
            refine lv_iinc (v := x19) (lv' := [(4, .int x19), (3, .int x18), (6, .int x7), (0, .ref h0), (1, .int v1), (2, .int v2), (5, .int v5)]) hx hb dX0_copyAllUnits_124 hl (k := 5) rfl (by rw [ex19]; rfl) (by decide) rfl (fun ls hl => ?_)
            obtain ⟨x20, ex20, hg⟩ := nmd_e hg
            refine lv_iinc (v := x20) (lv' := [(5, .int x20), (4, .int x19), (3, .int x18), (6, .int x7), (0, .ref h0), (1, .int v1), (2, .int v2)]) hx hb dX0_copyAllUnits_127 hl (k := 6) rfl (by rw [ex20]; rfl) (by decide) rfl (fun ls hl => ?_)
            refine lv_goto (tgt := 17) hx hb dX0_copyAllUnits_130 (by decide) ?_
            exact ih x18 x19 x20 σ16 H locs ls hg hI (lv_sub hl [4, 5, 6, 2, 1, 0] rfl) kk
          · have hg := cIf_te c10 hg
            refine lv_aload_n hx hb dX0_copyAllUnits_56 rfl (lv_at hl 1 rfl) ?_
            refine og_pending S hin hK hI (ix := 45) (by decide +kernel) dX0_copyAllUnits_57 ?_
            refine lv_iload hx hb dX0_copyAllUnits_60 (lv_at hl 5 rfl) ?_
            refine lv_iconst (v := 1) hx hb dX0_copyAllUnits_62 (by decide) ?_
            refine lv_isub hx hb dX0_copyAllUnits_63 ?_
            refine lv_aload_n hx hb dX0_copyAllUnits_64 rfl (lv_at hl 1 rfl) ?_
            refine og_words S hin hK hI (ix := 23) (by decide +kernel) dX0_copyAllUnits_65 ?_
            refine lv_iload hx hb dX0_copyAllUnits_68 (lv_at hl 0 rfl) ?_
            refine lv_iconst (v := 4) hx hb dX0_copyAllUnits_70 (by decide) ?_
            refine lv_iadd hx hb dX0_copyAllUnits_71 ?_
            obtain ⟨c21, hg⟩ := ck_e hg
            obtain ⟨x22, ex22, hg⟩ := nmd_e hg
            refine or_words S hK hI c21 ex22 dX0_copyAllUnits_72 ?_
            obtain ⟨c23, hg⟩ := ck_e hg
            obtain ⟨σ24, eσ24, hg⟩ := nmd_e hg
            refine ou_pending S hK hI c23 eσ24 dX0_copyAllUnits_73 (fun H locs hI => ?_)
            refine lv_aload_n hx hb dX0_copyAllUnits_74 rfl (lv_at hl 1 rfl) ?_
            refine og_pending S hin hK hI (ix := 45) (by decide +kernel) dX0_copyAllUnits_75 ?_
            refine lv_iload hx hb dX0_copyAllUnits_78 (lv_at hl 5 rfl) ?_
            refine lv_aload_n hx hb dX0_copyAllUnits_80 rfl (lv_at hl 1 rfl) ?_
            refine og_words S hin hK hI (ix := 23) (by decide +kernel) dX0_copyAllUnits_81 ?_
            refine lv_iload hx hb dX0_copyAllUnits_84 (lv_at hl 0 rfl) ?_
            refine lv_iconst (v := 3) hx hb dX0_copyAllUnits_86 (by decide) ?_
            refine lv_iadd hx hb dX0_copyAllUnits_87 ?_
            obtain ⟨c25, hg⟩ := ck_e hg
            obtain ⟨x26, ex26, hg⟩ := nmd_e hg
            refine or_words S hK hI c25 ex26 dX0_copyAllUnits_88 ?_
            obtain ⟨c27, hg⟩ := ck_e hg
            obtain ⟨σ28, eσ28, hg⟩ := nmd_e hg
            refine ou_pending S hK hI c27 eσ28 dX0_copyAllUnits_89 (fun H locs hI => ?_)
            obtain ⟨x29, ex29, hg⟩ := nmd_e hg
            refine lv_iinc (v := x29) (lv' := [(4, .int x29), (6, .int x7), (0, .ref h0), (1, .int v1), (2, .int v2), (3, .int v3), (5, .int v5)]) hx hb dX0_copyAllUnits_90 hl (k := 5) rfl (by rw [ex29]; rfl) (by decide) rfl (fun ls hl => ?_)
            refine lv_goto (tgt := 127) hx hb dX0_copyAllUnits_93 (by decide) ?_
            obtain ⟨x30, ex30, hg⟩ := nmd_e hg
            refine lv_iinc (v := x30) (lv' := [(5, .int x30), (4, .int x29), (6, .int x7), (0, .ref h0), (1, .int v1), (2, .int v2), (3, .int v3)]) hx hb dX0_copyAllUnits_127 hl (k := 6) rfl (by rw [ex30]; rfl) (by decide) rfl (fun ls hl => ?_)
            refine lv_goto (tgt := 17) hx hb dX0_copyAllUnits_130 (by decide) ?_
            exact ih v3 x29 x30 σ28 H locs ls hg hI (lv_sub hl [3, 4, 5, 6, 1, 0] rfl) kk
set_option maxHeartbeats 4000000 in
set_option maxRecDepth 100000 in
theorem kX0_copyAllUnits (l : Launch) (G : gT) (h0 : Nat) (h : oH) (sz F : Nat) (σ : oS) (p1 : Int32) (p2 : Int32) (σr : oS) (hg : fX0_copyAllUnits F σ p1 p2 = some σr) : Met l yX0_copyAllUnits wsX0_copyAllUnits rX0_copyAllUnits (oPre G h0 h σ sz [.int p1, .int p2]) (oQv G h0 h σr (oA G h0 h σ sz)) 0 0 (oA G h0 h σ sz) := by
  refine oMet (Qc := oQv G h0 h σr) (by decide +kernel) rfl rfl (Nat.le_of_ble_eq_true rfl) ?_
  intro p e s m args below meth c A S hr hlocks hK hA H locs hI ls hl
  have hl : lv_has ls 7 [(0, .ref h0), (1, .int p1), (2, .int p2)] := hl
  have hin : ∀ w ∈ wsX00, w ∈ wsX0_copyAllUnits := by decide +kernel
  have hx := S.1
  have hb := S.2.1
  have hts := S.2.2.2.2
  have hown := S.2.2.2.1
  unfold fX0_copyAllUnits at hg
  refine lv_iconst (v := 0) hx hb dX0_copyAllUnits_0 (by decide) ?_
  refine lv_istore_n (lv' := [(3, .int 0), (0, .ref h0), (1, .int p1), (2, .int p2)]) hx hb dX0_copyAllUnits_1 rfl hl (by decide) rfl (fun ls hl => ?_)
  refine lv_iconst (v := 1) hx hb dX0_copyAllUnits_2 (by decide) ?_
  refine lv_istore (lv' := [(4, .int 1), (3, .int 0), (0, .ref h0), (1, .int p1), (2, .int p2)]) hx hb dX0_copyAllUnits_3 hl (by decide) rfl (fun ls hl => ?_)
  refine lv_aload_n hx hb dX0_copyAllUnits_5 rfl (lv_at hl 2 rfl) ?_
  refine og_pending S hin hK hI (ix := 45) (by decide +kernel) dX0_copyAllUnits_6 ?_
  refine lv_iconst (v := 0) hx hb dX0_copyAllUnits_9 (by decide) ?_
  refine lv_iload_n hx hb dX0_copyAllUnits_10 rfl (lv_at hl 3 rfl) ?_
  obtain ⟨c1, hg⟩ := ck_e hg
  obtain ⟨σ2, eσ2, hg⟩ := nmd_e hg
  refine ou_pending S hK hI c1 eσ2 dX0_copyAllUnits_11 (fun H locs hI => ?_)
  refine lv_sipush (v := 8000) hx hb dX0_copyAllUnits_12 (by decide) ?_
  refine lv_istore (lv' := [(5, .int 8000), (4, .int 1), (3, .int 0), (0, .ref h0), (1, .int p1), (2, .int p2)]) hx hb dX0_copyAllUnits_15 hl (by decide) rfl (fun ls hl => ?_)
  refine lX0_copyAllUnits_17 S hr hlocks hin hK hA p1 p2 F 0 1 8000 σ2 H locs ls hg hI (lv_sub hl [3, 4, 5, 2, 1, 0] rfl) (fun w31 w32 w33 σ34 H locs ls hg hI hl => ?_)
  exact oe_v S hr hlocks hK hI hg dX0_copyAllUnits_133
-- OwnMemory.hasSameUnits
abbrev rX0_hasSameUnits : Room := { frames := 2, cells := 0, slots := 0, locals := 42 }
theorem nX0_hasSameUnits : yX0_hasSameUnits.cls = RX0 ∧ yX0_hasSameUnits.cls ≠ "java/lang/invoke/MethodHandle" ∧ yX0_hasSameUnits.cls ≠ "java/lang/invoke/VarHandle" ∧ (parseMethodDescriptor yX0_hasSameUnits.desc).map (fun d => d.parameters.length) = some 2 := by decide +kernel
noncomputable def LX0_hasSameUnits_24 (F : Nat) (K : Int32 → oS → Option (Int32 × oS)) (v1 : Int32) (v2 : Int32) (v3 : Int32) : Nat → Int32 → oS → Option (Int32 × oS)
  | 0, _, _ => none
  | n + 1, v4, σ => cIf (v3 ≤ v4) (K v4 σ) (ck (vp_in (v1 + v4) (o_lw σ)) (nmd (o_fw σ (v1 + v4).toNatClampNeg) (fun x10 => ck (vp_in (v2 + v4) (o_lw σ)) (nmd (o_fw σ (v2 + v4).toNatClampNeg) (fun x12 => cIf (x10 = x12) (nmd (v4 + 1) (fun x14 => LX0_hasSameUnits_24 F K v1 v2 v3 n x14 σ)) (some (0, σ)))))))
noncomputable def fX0_hasSameUnits (F : Nat) (σ : oS) (p1 : Int32) (p2 : Int32) : Option (Int32 × oS) := bnd (fX0_lengthAt F σ p1) (fun r2 σ1 => bnd (fX0_lengthAt F σ1 p2) (fun r4 σ3 => cIf (r2 = r4) (bnd (fX0_sizeAt F σ3 p1) (fun r7 σ6 => LX0_hasSameUnits_24 F (fun w15 σ16 => some (1, σ16)) p1 p2 r7 F 4 σ6)) (some (0, σ3))))
set_option maxHeartbeats 4000000 in
set_option maxRecDepth 100000 in
theorem lX0_hasSameUnits_24 {p : Program} {l : Launch} {e : Env} {s : State} {m : MethodId} {args : Array Value} {below : List Frame} {meth : Method} {c : Code} {A : Nat → Prop} {G : gT} {h0 : Nat} {h : oH} {F : Nat} (S : CallFix p m c cX0_hasSameUnits 5 s args wsX0_hasSameUnits RX0) (hr : meth.sig.returnType = some .boolean) (hlocks : meth.locks = false) (hin : ∀ w ∈ wsX00, w ∈ wsX0_hasSameUnits) (hK : gK G s) (hA : ∀ q, s.heap.size ≤ q → A q) {K : Int32 → oS → Option (Int32 × oS)} {res : (Int32 × oS)} (v1 : Int32) (v2 : Int32) (v3 : Int32) (n : Nat) : ∀ (v4 : Int32) (σ : oS) (H : Heap) (locs : List Loc) (ls : Array Slot), LX0_hasSameUnits_24 F K v1 v2 v3 n v4 σ = some res → oI s A G h0 h σ H locs → lv_has ls 5 [(0, .ref h0), (1, .int v1), (2, .int v2), (3, .int v3), (4, .int v4)] → (∀ (v4 : Int32) (σ : oS) (H : Heap) (locs : List Loc) (ls : Array Slot), K v4 σ = some res → oI s A G h0 h σ H locs → lv_has ls 5 [(0, .ref h0), (1, .int v1), (2, .int v2), (3, .int v3), (4, .int v4)] → W p l e rX0_hasSameUnits s m args below meth c H locs 0 0 (MQ below (oQi G h0 h res.1 res.2 A) args s 0 0 A) (F0 m 59 ls [])) → W p l e rX0_hasSameUnits s m args below meth c H locs 0 0 (MQ below (oQi G h0 h res.1 res.2 A) args s 0 0 A) (F0 m 24 ls []) := by
  have hx := S.1
  have hb := S.2.1
  have hts := S.2.2.2.2
  have hown := S.2.2.2.1
  induction n with
  | zero => intro v4 σ H locs ls hg; rw [LX0_hasSameUnits_24] at hg; cases hg
  | succ n ih =>
    intro v4 σ H locs ls hg hI hl kk
    rw [LX0_hasSameUnits_24] at hg
    refine lv_iload hx hb dX0_hasSameUnits_24 (lv_at hl 4 rfl) ?_
    refine lv_iload_n hx hb dX0_hasSameUnits_26 rfl (lv_at hl 3 rfl) ?_
    refine lv_icmp_ge (tgt := 59) hx hb dX0_hasSameUnits_27 (by decide) (fun c8 => ?_) (fun c8 => ?_)
    · have hg := cIf_te c8 hg
      exact kk v4 σ H locs ls hg hI (lv_sub hl [0, 1, 2, 3, 4] rfl)
    · have hg := cIf_fe c8 hg
      refine lv_aload_n hx hb dX0_hasSameUnits_30 rfl (lv_at hl 0 rfl) ?_
      refine og_words S hin hK hI (ix := 23) (by decide +kernel) dX0_hasSameUnits_31 ?_
      refine lv_iload_n hx hb dX0_hasSameUnits_34 rfl (lv_at hl 1 rfl) ?_
      refine lv_iload hx hb dX0_hasSameUnits_35 (lv_at hl 4 rfl) ?_
      refine lv_iadd hx hb dX0_hasSameUnits_37 ?_
      obtain ⟨c9, hg⟩ := ck_e hg
      obtain ⟨x10, ex10, hg⟩ := nmd_e hg
      refine or_words S hK hI c9 ex10 dX0_hasSameUnits_38 ?_
      refine lv_aload_n hx hb dX0_hasSameUnits_39 rfl (lv_at hl 0 rfl) ?_
      refine og_words S hin hK hI (ix := 23) (by decide +kernel) dX0_hasSameUnits_40 ?_
      refine lv_iload_n hx hb dX0_hasSameUnits_43 rfl (lv_at hl 2 rfl) ?_
      refine lv_iload hx hb dX0_hasSameUnits_44 (lv_at hl 4 rfl) ?_
      refine lv_iadd hx hb dX0_hasSameUnits_46 ?_
      obtain ⟨c11, hg⟩ := ck_e hg
      obtain ⟨x12, ex12, hg⟩ := nmd_e hg
      refine or_words S hK hI c11 ex12 dX0_hasSameUnits_47 ?_
      refine lv_icmp_eq (tgt := 53) hx hb dX0_hasSameUnits_48 (by decide) (fun c13 => ?_) (fun c13 => ?_)
      · have hg := cIf_te c13 hg
        obtain ⟨x14, ex14, hg⟩ := nmd_e hg
        refine lv_iinc (v := x14) (lv' := [(4, .int x14), (0, .ref h0), (1, .int v1), (2, .int v2), (3, .int v3)]) hx hb dX0_hasSameUnits_53 hl (k := 4) rfl (by rw [ex14]; rfl) (by decide) rfl (fun ls hl => ?_)
        refine lv_goto (tgt := 24) hx hb dX0_hasSameUnits_56 (by decide) ?_
        exact ih x14 σ H locs ls hg hI (lv_sub hl [1, 2, 3, 4, 0] rfl) kk
      · have hg := cIf_fe c13 hg
        refine lv_iconst (v := 0) hx hb dX0_hasSameUnits_51 (by decide) ?_
        exact oe_z S hr hlocks hK hI rfl hg dX0_hasSameUnits_52
set_option maxHeartbeats 4000000 in
set_option maxRecDepth 100000 in
theorem kX0_hasSameUnits (l : Launch) (G : gT) (h0 : Nat) (h : oH) (sz F : Nat) (σ : oS) (p1 : Int32) (p2 : Int32) (r : Int32) (σr : oS) (hg : fX0_hasSameUnits F σ p1 p2 = some (r, σr)) : Met l yX0_hasSameUnits wsX0_hasSameUnits rX0_hasSameUnits (oPre G h0 h σ sz [.int p1, .int p2]) (oQi G h0 h r σr (oA G h0 h σ sz)) 0 0 (oA G h0 h σ sz) := by
  refine oMet (Qc := oQi G h0 h r σr) (by decide +kernel) rfl rfl (Nat.le_of_ble_eq_true rfl) ?_
  intro p e s m args below meth c A S hr hlocks hK hA H locs hI ls hl
  have hl : lv_has ls 5 [(0, .ref h0), (1, .int p1), (2, .int p2)] := hl
  have hin : ∀ w ∈ wsX00, w ∈ wsX0_hasSameUnits := in_ws
  have hx := S.1
  have hb := S.2.1
  have hts := S.2.2.2.2
  have hown := S.2.2.2.1
  unfold fX0_hasSameUnits at hg
  refine lv_aload_n hx hb dX0_hasSameUnits_0 rfl (lv_at hl 0 rfl) ?_
  refine lv_iload_n hx hb dX0_hasSameUnits_1 rfl (lv_at hl 1 rfl) ?_
  obtain ⟨r2, σ1, er2, hg⟩ := bnd_e hg
  refine oc_i S hK hA hI (As := [.int p1]) (rest := []) (kX0_lengthAt l G h0 h H.size F σ p1  r2 σ1 er2) (cwV 1 hts gX0_hasSameUnits_X0_lengthAt rfl rfl rfl nX0_lengthAt ⟨Nat.le_of_ble_eq_true rfl, Nat.le_of_ble_eq_true rfl⟩) rfl hl.1 rfl (Nat.le_of_ble_eq_true rfl) dX0_hasSameUnits_2 ⟨Nat.le_refl _, Nat.le_refl _⟩ (fun H locs hI => ?_)
  refine lv_aload_n hx hb dX0_hasSameUnits_5 rfl (lv_at hl 0 rfl) ?_
  refine lv_iload_n hx hb dX0_hasSameUnits_6 rfl (lv_at hl 2 rfl) ?_
  obtain ⟨r4, σ3, er4, hg⟩ := bnd_e hg
  refine oc_i S hK hA hI (As := [.int p2]) (rest := [.int r2]) (kX0_lengthAt l G h0 h H.size F σ1 p2  r4 σ3 er4) (cwV 1 hts gX0_hasSameUnits_X0_lengthAt rfl rfl rfl nX0_lengthAt ⟨Nat.le_of_ble_eq_true rfl, Nat.le_of_ble_eq_true rfl⟩) rfl hl.1 rfl (Nat.le_of_ble_eq_true rfl) dX0_hasSameUnits_7 ⟨Nat.le_refl _, Nat.le_refl _⟩ (fun H locs hI => ?_)
  refine lv_icmp_eq (tgt := 15) hx hb dX0_hasSameUnits_10 (by decide) (fun c5 => ?_) (fun c5 => ?_)
  · have hg := cIf_te c5 hg
    refine lv_aload_n hx hb dX0_hasSameUnits_15 rfl (lv_at hl 0 rfl) ?_
    refine lv_iload_n hx hb dX0_hasSameUnits_16 rfl (lv_at hl 1 rfl) ?_
    obtain ⟨r7, σ6, er7, hg⟩ := bnd_e hg
    refine oc_i S hK hA hI (As := [.int p1]) (rest := []) (kX0_sizeAt l G h0 h H.size F σ3 p1  r7 σ6 er7) (cwV 1 hts gX0_hasSameUnits_X0_sizeAt rfl rfl rfl nX0_sizeAt ⟨Nat.le_of_ble_eq_true rfl, Nat.le_of_ble_eq_true rfl⟩) rfl hl.1 rfl (Nat.le_of_ble_eq_true rfl) dX0_hasSameUnits_17 ⟨Nat.le_refl _, Nat.le_refl _⟩ (fun H locs hI => ?_)
    refine lv_istore_n (lv' := [(3, .int r7), (0, .ref h0), (1, .int p1), (2, .int p2)]) hx hb dX0_hasSameUnits_20 rfl hl (by decide) rfl (fun ls hl => ?_)
    refine lv_iconst (v := 4) hx hb dX0_hasSameUnits_21 (by decide) ?_
    refine lv_istore (lv' := [(4, .int 4), (3, .int r7), (0, .ref h0), (1, .int p1), (2, .int p2)]) hx hb dX0_hasSameUnits_22 hl (by decide) rfl (fun ls hl => ?_)
    refine lX0_hasSameUnits_24 S hr hlocks hin hK hA p1 p2 r7 F 4 σ6 H locs ls hg hI (lv_sub hl [2, 3, 4, 1, 0] rfl) (fun w15 σ16 H locs ls hg hI hl => ?_)
    refine lv_iconst (v := 1) hx hb dX0_hasSameUnits_59 (by decide) ?_
    exact oe_z S hr hlocks hK hI rfl hg dX0_hasSameUnits_60
  · have hg := cIf_fe c5 hg
    refine lv_iconst (v := 0) hx hb dX0_hasSameUnits_13 (by decide) ?_
    exact oe_z S hr hlocks hK hI rfl hg dX0_hasSameUnits_14
-- OwnMemory.findName
abbrev rX0_findName : Room := { frames := 3, cells := 0, slots := 0, locals := 66 }
theorem nX0_findName : yX0_findName.cls = RX0 ∧ yX0_findName.cls ≠ "java/lang/invoke/MethodHandle" ∧ yX0_findName.cls ≠ "java/lang/invoke/VarHandle" ∧ (parseMethodDescriptor yX0_findName.desc).map (fun d => d.parameters.length) = some 1 := by decide +kernel
noncomputable def LX0_findName_2 (F : Nat) (K : Int32 → oS → Option (Int32 × oS)) (v1 : Int32) : Nat → Int32 → oS → Option (Int32 × oS)
  | 0, _, _ => none
  | n + 1, v2, σ => cIf ((o_nc σ) ≤ v2) (K v2 σ) (ck (vp_in v2 (o_ln σ)) (nmd (o_fn σ v2.toNatClampNeg) (fun x3 => bnd (fX0_hasSameUnits F σ x3 v1) (fun r5 σ4 => cIf (r5 = 0) (nmd (v2 + 1) (fun x7 => LX0_findName_2 F K v1 n x7 σ4)) (ck (vp_in v2 (o_ln σ4)) (nmd (o_fn σ4 v2.toNatClampNeg) (fun x9 => some (x9, σ4))))))))
noncomputable def fX0_findName (F : Nat) (σ : oS) (p1 : Int32) : Option (Int32 × oS) := LX0_findName_2 F (fun w10 σ11 => some ((-1), σ11)) p1 F 0 σ
set_option maxHeartbeats 4000000 in
set_option maxRecDepth 100000 in
theorem lX0_findName_2 {p : Program} {l : Launch} {e : Env} {s : State} {m : MethodId} {args : Array Value} {below : List Frame} {meth : Method} {c : Code} {A : Nat → Prop} {G : gT} {h0 : Nat} {h : oH} {F : Nat} (S : CallFix p m c cX0_findName 3 s args wsX0_findName RX0) (hr : meth.sig.returnType = some .int) (hlocks : meth.locks = false) (hin : ∀ w ∈ wsX00, w ∈ wsX0_findName) (hK : gK G s) (hA : ∀ q, s.heap.size ≤ q → A q) {K : Int32 → oS → Option (Int32 × oS)} {res : (Int32 × oS)} (v1 : Int32) (n : Nat) : ∀ (v2 : Int32) (σ : oS) (H : Heap) (locs : List Loc) (ls : Array Slot), LX0_findName_2 F K v1 n v2 σ = some res → oI s A G h0 h σ H locs → lv_has ls 3 [(0, .ref h0), (1, .int v1), (2, .int v2)] → (∀ (v2 : Int32) (σ : oS) (H : Heap) (locs : List Loc) (ls : Array Slot), K v2 σ = some res → oI s A G h0 h σ H locs → lv_has ls 3 [(0, .ref h0), (1, .int v1), (2, .int v2)] → W p l e rX0_findName s m args below meth c H locs 0 0 (MQ below (oQi G h0 h res.1 res.2 A) args s 0 0 A) (F0 m 37 ls [])) → W p l e rX0_findName s m args below meth c H locs 0 0 (MQ below (oQi G h0 h res.1 res.2 A) args s 0 0 A) (F0 m 2 ls []) := by
  have hx := S.1
  have hb := S.2.1
  have hts := S.2.2.2.2
  have hown := S.2.2.2.1
  induction n with
  | zero => intro v2 σ H locs ls hg; rw [LX0_findName_2] at hg; cases hg
  | succ n ih =>
    intro v2 σ H locs ls hg hI hl kk
    rw [LX0_findName_2] at hg
    refine lv_iload_n hx hb dX0_findName_2 rfl (lv_at hl 2 rfl) ?_
    refine lv_aload_n hx hb dX0_findName_3 rfl (lv_at hl 0 rfl) ?_
    refine og_nameCount S hin hK hI (ix := 42) (by decide +kernel) dX0_findName_4 ?_
    refine lv_icmp_ge (tgt := 37) hx hb dX0_findName_7 (by decide) (fun c1 => ?_) (fun c1 => ?_)
    · have hg := cIf_te c1 hg
      exact kk v2 σ H locs ls hg hI (lv_sub hl [0, 1, 2] rfl)
    · have hg := cIf_fe c1 hg
      refine lv_aload_n hx hb dX0_findName_10 rfl (lv_at hl 0 rfl) ?_
      refine lv_aload_n hx hb dX0_findName_11 rfl (lv_at hl 0 rfl) ?_
      refine og_names S hin hK hI (ix := 39) (by decide +kernel) dX0_findName_12 ?_
      refine lv_iload_n hx hb dX0_findName_15 rfl (lv_at hl 2 rfl) ?_
      obtain ⟨c2, hg⟩ := ck_e hg
      obtain ⟨x3, ex3, hg⟩ := nmd_e hg
      refine or_names S hK hI c2 ex3 dX0_findName_16 ?_
      refine lv_iload_n hx hb dX0_findName_17 rfl (lv_at hl 1 rfl) ?_
      obtain ⟨r5, σ4, er5, hg⟩ := bnd_e hg
      refine oc_i S hK hA hI (As := [.int x3, .int v1]) (rest := []) (kX0_hasSameUnits l G h0 h H.size F σ x3 v1  r5 σ4 er5) (cwV 2 hts gX0_findName_X0_hasSameUnits rfl rfl rfl nX0_hasSameUnits ⟨Nat.le_of_ble_eq_true rfl, Nat.le_of_ble_eq_true rfl⟩) rfl hl.1 rfl (Nat.le_of_ble_eq_true rfl) dX0_findName_18 ⟨Nat.le_refl _, Nat.le_refl _⟩ (fun H locs hI => ?_)
      refine lv_if_eq (tgt := 31) hx hb dX0_findName_21 (by decide) (fun c6 => ?_) (fun c6 => ?_)
      · have hg := cIf_te c6 hg
        obtain ⟨x7, ex7, hg⟩ := nmd_e hg
        refine lv_iinc (v := x7) (lv' := [(2, .int x7), (0, .ref h0), (1, .int v1)]) hx hb dX0_findName_31 hl (k := 2) rfl (by rw [ex7]; rfl) (by decide) rfl (fun ls hl => ?_)
        refine lv_goto (tgt := 2) hx hb dX0_findName_34 (by decide) ?_
        exact ih x7 σ4 H locs ls hg hI (lv_sub hl [1, 2, 0] rfl) kk
      · have hg := cIf_fe c6 hg
        refine lv_aload_n hx hb dX0_findName_24 rfl (lv_at hl 0 rfl) ?_
        refine og_names S hin hK hI (ix := 39) (by decide +kernel) dX0_findName_25 ?_
        refine lv_iload_n hx hb dX0_findName_28 rfl (lv_at hl 2 rfl) ?_
        obtain ⟨c8, hg⟩ := ck_e hg
        obtain ⟨x9, ex9, hg⟩ := nmd_e hg
        refine or_names S hK hI c8 ex9 dX0_findName_29 ?_
        exact oe_i S hr hlocks hK hI hg dX0_findName_30
set_option maxHeartbeats 4000000 in
set_option maxRecDepth 100000 in
theorem kX0_findName (l : Launch) (G : gT) (h0 : Nat) (h : oH) (sz F : Nat) (σ : oS) (p1 : Int32) (r : Int32) (σr : oS) (hg : fX0_findName F σ p1 = some (r, σr)) : Met l yX0_findName wsX0_findName rX0_findName (oPre G h0 h σ sz [.int p1]) (oQi G h0 h r σr (oA G h0 h σ sz)) 0 0 (oA G h0 h σ sz) := by
  refine oMet (Qc := oQi G h0 h r σr) (by decide +kernel) rfl rfl (Nat.le_of_ble_eq_true rfl) ?_
  intro p e s m args below meth c A S hr hlocks hK hA H locs hI ls hl
  have hl : lv_has ls 3 [(0, .ref h0), (1, .int p1)] := hl
  have hin : ∀ w ∈ wsX00, w ∈ wsX0_findName := in_ws
  have hx := S.1
  have hb := S.2.1
  have hts := S.2.2.2.2
  have hown := S.2.2.2.1
  unfold fX0_findName at hg
  refine lv_iconst (v := 0) hx hb dX0_findName_0 (by decide) ?_
  refine lv_istore_n (lv' := [(2, .int 0), (0, .ref h0), (1, .int p1)]) hx hb dX0_findName_1 rfl hl (by decide) rfl (fun ls hl => ?_)
  refine lX0_findName_2 S hr hlocks hin hK hA p1 F 0 σ H locs ls hg hI (lv_sub hl [1, 2, 0] rfl) (fun w10 σ11 H locs ls hg hI hl => ?_)
  refine lv_iconst (v := (-1)) hx hb dX0_findName_37 (by decide) ?_
  exact oe_i S hr hlocks hK hI hg dX0_findName_38
-- OwnMemory.isStressed
abbrev rX0_isStressed : Room := { frames := 0, cells := 0, slots := 0, locals := 0 }
theorem nX0_isStressed : yX0_isStressed.cls = RX0 ∧ yX0_isStressed.cls ≠ "java/lang/invoke/MethodHandle" ∧ yX0_isStressed.cls ≠ "java/lang/invoke/VarHandle" ∧ (parseMethodDescriptor yX0_isStressed.desc).map (fun d => d.parameters.length) = some 0 := by decide +kernel
noncomputable def fX0_isStressed (F : Nat) (σ : oS) : Option (Int32 × oS) := cIf ((o_st σ) ≤ 0) (some (0, σ)) (ck (¬ (o_st σ) = 0) (cIf ((((o_md σ) + 1) - ((o_md σ) + 1) / (o_st σ) * (o_st σ)) = 0) (some (1, σ)) (some (0, σ))))
set_option maxHeartbeats 4000000 in
set_option maxRecDepth 100000 in
theorem kX0_isStressed (l : Launch) (G : gT) (h0 : Nat) (h : oH) (sz F : Nat) (σ : oS) (r : Int32) (σr : oS) (hg : fX0_isStressed F σ = some (r, σr)) : Met l yX0_isStressed wsX0_isStressed rX0_isStressed (oPre G h0 h σ sz []) (oQi G h0 h r σr (oA G h0 h σ sz)) 0 0 (oA G h0 h σ sz) := by
  refine oMet (Qc := oQi G h0 h r σr) (by decide +kernel) rfl rfl (Nat.le_of_ble_eq_true rfl) ?_
  intro p e s m args below meth c A S hr hlocks hK hA H locs hI ls hl
  have hl : lv_has ls 1 [(0, .ref h0)] := hl
  have hin : ∀ w ∈ wsX00, w ∈ wsX0_isStressed := in_ws
  have hx := S.1
  have hb := S.2.1
  have hts := S.2.2.2.2
  have hown := S.2.2.2.1
  unfold fX0_isStressed at hg
  refine lv_aload_n hx hb dX0_isStressed_0 rfl (lv_at hl 0 rfl) ?_
  refine og_stressEvery S hin hK hI (ix := 51) (by decide +kernel) dX0_isStressed_1 ?_
  refine lv_if_le (tgt := 25) hx hb dX0_isStressed_4 (by decide) (fun c1 => ?_) (fun c1 => ?_)
  · have hg := cIf_te c1 hg
    refine lv_iconst (v := 0) hx hb dX0_isStressed_25 (by decide) ?_
    exact oe_z S hr hlocks hK hI rfl hg dX0_isStressed_26
  · have hg := cIf_fe c1 hg
    refine lv_aload_n hx hb dX0_isStressed_7 rfl (lv_at hl 0 rfl) ?_
    refine og_made S hin hK hI (ix := 54) (by decide +kernel) dX0_isStressed_8 ?_
    refine lv_iconst (v := 1) hx hb dX0_isStressed_11 (by decide) ?_
    refine lv_iadd hx hb dX0_isStressed_12 ?_
    refine lv_aload_n hx hb dX0_isStressed_13 rfl (lv_at hl 0 rfl) ?_
    refine og_stressEvery S hin hK hI (ix := 51) (by decide +kernel) dX0_isStressed_14 ?_
    obtain ⟨c2, hg⟩ := ck_e hg
    refine lv_irem hx hb dX0_isStressed_17 c2 ?_
    refine lv_if_ne (tgt := 25) hx hb dX0_isStressed_18 (by decide) (fun c3 => ?_) (fun c3 => ?_)
    · have hg := cIf_fe c3 hg
      refine lv_iconst (v := 0) hx hb dX0_isStressed_25 (by decide) ?_
      exact oe_z S hr hlocks hK hI rfl hg dX0_isStressed_26
    · have hg := cIf_te c3 hg
      refine lv_iconst (v := 1) hx hb dX0_isStressed_21 (by decide) ?_
      refine lv_goto (tgt := 26) hx hb dX0_isStressed_22 (by decide) ?_
      exact oe_z S hr hlocks hK hI rfl hg dX0_isStressed_26
-- OwnMemory.moveAll
abbrev rX0_moveAll : Room := { frames := 1, cells := 0, slots := 0, locals := 26 }
theorem nX0_moveAll : yX0_moveAll.cls = RX0 ∧ yX0_moveAll.cls ≠ "java/lang/invoke/MethodHandle" ∧ yX0_moveAll.cls ≠ "java/lang/invoke/VarHandle" ∧ (parseMethodDescriptor yX0_moveAll.desc).map (fun d => d.parameters.length) = some 0 := by decide +kernel
noncomputable def LX0_moveAll_4 (F : Nat) (K : Int32 → Int32 → oS → Option oS) : Nat → Int32 → Int32 → oS → Option oS
  | 0, _, _, _ => none
  | n + 1, v1, v2, σ => cIf ((o_us σ) ≤ v2) (K v1 v2 σ) (bnd (fX0_sizeAt F σ v2) (fun r3 σ2 => ck (vp_in (v2 + 1) (o_lw σ2)) (nmd (o_fw σ2 (v2 + 1).toNatClampNeg) (fun x5 => ck (vp_in (v2 + 1) (o_lw σ2)) (nmd (o_s_fw σ2 (upd (o_fw σ2) (v2 + 1).toNatClampNeg (-1))) (fun σ7 => cIf (x5 = (-1)) (nmd (cIf (3 < r3) r3 3) (fun x9 => nmd (v2 + x9) (fun x10 => LX0_moveAll_4 F K  n r3 x10 σ7))) (cIf (v2 ≤ x5) (nmd (cIf (3 < r3) r3 3) (fun x12 => nmd (v2 + x12) (fun x13 => LX0_moveAll_4 F K  n r3 x13 σ7))) (ck (¬ v2 < 0 ∧ ¬ x5 < 0 ∧ ¬ r3 < 0 ∧ v2.toNatClampNeg + r3.toNatClampNeg ≤ (o_lw σ7) ∧ x5.toNatClampNeg + r3.toNatClampNeg ≤ (o_lw σ7)) (nmd (o_s_fw σ7 (va_cpy (o_fw σ7) (o_fw σ7) v2.toNatClampNeg x5.toNatClampNeg r3.toNatClampNeg)) (fun σ15 => nmd (cIf (3 < r3) r3 3) (fun x16 => nmd (v2 + x16) (fun x17 => LX0_moveAll_4 F K  n r3 x17 σ15))))))))))))
noncomputable def fX0_moveAll (F : Nat) (σ : oS) : Option oS := LX0_moveAll_4 F (fun w18 w19 σ20 => some σ20)  F 0 0 σ
set_option maxHeartbeats 4000000 in
set_option maxRecDepth 100000 in
theorem lX0_moveAll_4 {p : Program} {l : Launch} {e : Env} {s : State} {m : MethodId} {args : Array Value} {below : List Frame} {meth : Method} {c : Code} {A : Nat → Prop} {G : gT} {h0 : Nat} {h : oH} {F : Nat} (S : CallFix p m c cX0_moveAll 4 s args wsX0_moveAll RX0) (hr : meth.sig.returnType = none) (hlocks : meth.locks = false) (hin : ∀ w ∈ wsX00, w ∈ wsX0_moveAll) (hK : gK G s) (hA : ∀ q, s.heap.size ≤ q → A q) {K : Int32 → Int32 → oS → Option oS} {res : oS} (n : Nat) : ∀ (v1 : Int32) (v2 : Int32) (σ : oS) (H : Heap) (locs : List Loc) (ls : Array Slot), LX0_moveAll_4 F K n v1 v2 σ = some res → oI s A G h0 h σ H locs → lv_has ls 4 [(0, .ref h0), (1, .int v1), (2, .int v2)] → (∀ (v1 : Int32) (v2 : Int32) (σ : oS) (H : Heap) (locs : List Loc) (ls : Array Slot), K v1 v2 σ = some res → oI s A G h0 h σ H locs → lv_has ls 4 [(0, .ref h0), (1, .int v1), (2, .int v2)] → W p l e rX0_moveAll s m args below meth c H locs 0 0 (MQ below (oQv G h0 h res A) args s 0 0 A) (F0 m 71 ls [])) → W p l e rX0_moveAll s m args below meth c H locs 0 0 (MQ below (oQv G h0 h res A) args s 0 0 A) (F0 m 4 ls []) := by
  have hx := S.1
  have hb := S.2.1
  have hts := S.2.2.2.2
  have hown := S.2.2.2.1
  induction n with
  | zero => intro v1 v2 σ H locs ls hg; rw [LX0_moveAll_4] at hg; cases hg
  | succ n ih =>
    intro v1 v2 σ H locs ls hg hI hl kk
    rw [LX0_moveAll_4] at hg
    refine lv_iload_n hx hb dX0_moveAll_4 rfl (lv_at hl 2 rfl) ?_
    refine lv_aload_n hx hb dX0_moveAll_5 rfl (lv_at hl 0 rfl) ?_
    refine og_used S hin hK hI (ix := 27) (by decide +kernel) dX0_moveAll_6 ?_
    refine lv_icmp_ge (tgt := 71) hx hb dX0_moveAll_9 (by decide) (fun c1 => ?_) (fun c1 => ?_)
    · have hg := cIf_te c1 hg
      exact kk v1 v2 σ H locs ls hg hI (lv_sub hl [0, 1, 2] rfl)
    · have hg := cIf_fe c1 hg
      refine lv_aload_n hx hb dX0_moveAll_12 rfl (lv_at hl 0 rfl) ?_
      refine lv_iload_n hx hb dX0_moveAll_13 rfl (lv_at hl 2 rfl) ?_
      obtain ⟨r3, σ2, er3, hg⟩ := bnd_e hg
      refine oc_i S hK hA hI (As := [.int v2]) (rest := []) (kX0_sizeAt l G h0 h H.size F σ v2  r3 σ2 er3) (cwV 1 hts gX0_moveAll_X0_sizeAt rfl rfl rfl nX0_sizeAt ⟨Nat.le_of_ble_eq_true rfl, Nat.le_of_ble_eq_true rfl⟩) rfl hl.1 rfl (Nat.le_of_ble_eq_true rfl) dX0_moveAll_14 ⟨Nat.le_refl _, Nat.le_refl _⟩ (fun H locs hI => ?_)
      refine lv_istore_n (lv' := [(1, .int r3), (0, .ref h0), (2, .int v2)]) hx hb dX0_moveAll_17 rfl hl (by decide) rfl (fun ls hl => ?_)
      refine lv_aload_n hx hb dX0_moveAll_18 rfl (lv_at hl 1 rfl) ?_
      refine og_words S hin hK hI (ix := 23) (by decide +kernel) dX0_moveAll_19 ?_
      refine lv_iload_n hx hb dX0_moveAll_22 rfl (lv_at hl 2 rfl) ?_
      refine lv_iconst (v := 1) hx hb dX0_moveAll_23 (by decide) ?_
      refine lv_iadd hx hb dX0_moveAll_24 ?_
      obtain ⟨c4, hg⟩ := ck_e hg
      obtain ⟨x5, ex5, hg⟩ := nmd_e hg
      refine or_words S hK hI c4 ex5 dX0_moveAll_25 ?_
      refine lv_istore_n (lv' := [(3, .int x5), (1, .int r3), (0, .ref h0), (2, .int v2)]) hx hb dX0_moveAll_26 rfl hl (by decide) rfl (fun ls hl => ?_)
      refine lv_aload_n hx hb dX0_moveAll_27 rfl (lv_at hl 2 rfl) ?_
      refine og_words S hin hK hI (ix := 23) (by decide +kernel) dX0_moveAll_28 ?_
      refine lv_iload_n hx hb dX0_moveAll_31 rfl (lv_at hl 3 rfl) ?_
      refine lv_iconst (v := 1) hx hb dX0_moveAll_32 (by decide) ?_
      refine lv_iadd hx hb dX0_moveAll_33 ?_
      refine lv_iconst (v := (-1)) hx hb dX0_moveAll_34 (by decide) ?_
      obtain ⟨c6, hg⟩ := ck_e hg
      obtain ⟨σ7, eσ7, hg⟩ := nmd_e hg
      refine ou_words S hK hI c6 eσ7 dX0_moveAll_35 (fun H locs hI => ?_)
      refine lv_iload_n hx hb dX0_moveAll_36 rfl (lv_at hl 0 rfl) ?_
      refine lv_iconst (v := (-1)) hx hb dX0_moveAll_37 (by decide) ?_
      refine lv_icmp_eq (tgt := 60) hx hb dX0_moveAll_38 (by decide) (fun c8 => ?_) (fun c8 => ?_)
      · have hg := cIf_te c8 hg
        refine lv_iload_n hx hb dX0_moveAll_60 rfl (lv_at hl 3 rfl) ?_
        refine lv_iconst (v := 3) hx hb dX0_moveAll_61 (by decide) ?_
        refine lv_iload_n hx hb dX0_moveAll_62 rfl (lv_at hl 1 rfl) ?_
        obtain ⟨x9, ex9, hg⟩ := nmd_e hg
        refine ox_max S (ix := 16) (by decide +kernel) hl.1 ex9 (Nat.le_of_ble_eq_true rfl) (Nat.le_of_ble_eq_true rfl) (Nat.le_refl _) (Nat.le_refl _) dX0_moveAll_63 ?_
        refine lv_iadd hx hb dX0_moveAll_66 ?_
        obtain ⟨x10, ex10, hg⟩ := nmd_e hg
        refine wn_i ex10 ?_
        refine lv_istore_n (lv' := [(2, .int x10), (3, .int x5), (1, .int r3), (0, .ref h0)]) hx hb dX0_moveAll_67 rfl hl (by decide) rfl (fun ls hl => ?_)
        refine lv_goto (tgt := 4) hx hb dX0_moveAll_68 (by decide) ?_
        exact ih r3 x10 σ7 H locs ls hg hI (lv_sub hl [3, 2, 0] rfl) kk
      · have hg := cIf_fe c8 hg
        refine lv_iload_n hx hb dX0_moveAll_41 rfl (lv_at hl 0 rfl) ?_
        refine lv_iload_n hx hb dX0_moveAll_42 rfl (lv_at hl 3 rfl) ?_
        refine lv_icmp_ge (tgt := 60) hx hb dX0_moveAll_43 (by decide) (fun c11 => ?_) (fun c11 => ?_)
        · have hg := cIf_te c11 hg
          refine lv_iload_n hx hb dX0_moveAll_60 rfl (lv_at hl 3 rfl) ?_
          refine lv_iconst (v := 3) hx hb dX0_moveAll_61 (by decide) ?_
          refine lv_iload_n hx hb dX0_moveAll_62 rfl (lv_at hl 1 rfl) ?_
          obtain ⟨x12, ex12, hg⟩ := nmd_e hg
          refine ox_max S (ix := 16) (by decide +kernel) hl.1 ex12 (Nat.le_of_ble_eq_true rfl) (Nat.le_of_ble_eq_true rfl) (Nat.le_refl _) (Nat.le_refl _) dX0_moveAll_63 ?_
          refine lv_iadd hx hb dX0_moveAll_66 ?_
          obtain ⟨x13, ex13, hg⟩ := nmd_e hg
          refine wn_i ex13 ?_
          refine lv_istore_n (lv' := [(2, .int x13), (3, .int x5), (1, .int r3), (0, .ref h0)]) hx hb dX0_moveAll_67 rfl hl (by decide) rfl (fun ls hl => ?_)
          refine lv_goto (tgt := 4) hx hb dX0_moveAll_68 (by decide) ?_
          exact ih r3 x13 σ7 H locs ls hg hI (lv_sub hl [3, 2, 0] rfl) kk
        · have hg := cIf_fe c11 hg
          refine lv_aload_n hx hb dX0_moveAll_46 rfl (lv_at hl 2 rfl) ?_
          refine og_words S hin hK hI (ix := 23) (by decide +kernel) dX0_moveAll_47 ?_
          refine lv_iload_n hx hb dX0_moveAll_50 rfl (lv_at hl 3 rfl) ?_
          refine lv_aload_n hx hb dX0_moveAll_51 rfl (lv_at hl 2 rfl) ?_
          refine og_words S hin hK hI (ix := 23) (by decide +kernel) dX0_moveAll_52 ?_
          refine lv_iload_n hx hb dX0_moveAll_55 rfl (lv_at hl 0 rfl) ?_
          refine lv_iload_n hx hb dX0_moveAll_56 rfl (lv_at hl 1 rfl) ?_
          obtain ⟨c14, hg⟩ := ck_e hg
          obtain ⟨σ15, eσ15, hg⟩ := nmd_e hg
          refine ox_copy S hK hI (ix := 241) (by decide +kernel) hl.1 c14 eσ15 (Nat.le_of_ble_eq_true rfl) (Nat.le_of_ble_eq_true rfl) dX0_moveAll_57 (fun H locs hI => ?_)
          refine lv_iload_n hx hb dX0_moveAll_60 rfl (lv_at hl 3 rfl) ?_
          refine lv_iconst (v := 3) hx hb dX0_moveAll_61 (by decide) ?_
          refine lv_iload_n hx hb dX0_moveAll_62 rfl (lv_at hl 1 rfl) ?_
          obtain ⟨x16, ex16, hg⟩ := nmd_e hg
          refine ox_max S (ix := 16) (by decide +kernel) hl.1 ex16 (Nat.le_of_ble_eq_true rfl) (Nat.le_of_ble_eq_true rfl) (Nat.le_refl _) (Nat.le_refl _) dX0_moveAll_63 ?_
          refine lv_iadd hx hb dX0_moveAll_66 ?_
          obtain ⟨x17, ex17, hg⟩ := nmd_e hg
          refine wn_i ex17 ?_
          refine lv_istore_n (lv' := [(2, .int x17), (3, .int x5), (1, .int r3), (0, .ref h0)]) hx hb dX0_moveAll_67 rfl hl (by decide) rfl (fun ls hl => ?_)
          refine lv_goto (tgt := 4) hx hb dX0_moveAll_68 (by decide) ?_
          exact ih r3 x17 σ15 H locs ls hg hI (lv_sub hl [3, 2, 0] rfl) kk
set_option maxHeartbeats 4000000 in
set_option maxRecDepth 100000 in
theorem kX0_moveAll (l : Launch) (G : gT) (h0 : Nat) (h : oH) (sz F : Nat) (σ : oS) (σr : oS) (hg : fX0_moveAll F σ = some σr) : Met l yX0_moveAll wsX0_moveAll rX0_moveAll (oPre G h0 h σ sz []) (oQv G h0 h σr (oA G h0 h σ sz)) 0 0 (oA G h0 h σ sz) := by
  refine oMet (Qc := oQv G h0 h σr) (by decide +kernel) rfl rfl (Nat.le_of_ble_eq_true rfl) ?_
  intro p e s m args below meth c A S hr hlocks hK hA H locs hI ls hl
  have hl : lv_has ls 4 [(0, .ref h0)] := hl
  have hin : ∀ w ∈ wsX00, w ∈ wsX0_moveAll := in_ws
  have hx := S.1
  have hb := S.2.1
  have hts := S.2.2.2.2
  have hown := S.2.2.2.1
  unfold fX0_moveAll at hg
  refine lv_iconst (v := 0) hx hb dX0_moveAll_0 (by decide) ?_
  refine lv_istore_n (lv' := [(1, .int 0), (0, .ref h0)]) hx hb dX0_moveAll_1 rfl hl (by decide) rfl (fun ls hl => ?_)
  refine lv_iconst (v := 0) hx hb dX0_moveAll_2 (by decide) ?_
  refine lv_istore_n (lv' := [(2, .int 0), (1, .int 0), (0, .ref h0)]) hx hb dX0_moveAll_3 rfl hl (by decide) rfl (fun ls hl => ?_)
  refine lX0_moveAll_4 S hr hlocks hin hK hA  F 0 0 σ H locs ls hg hI (lv_sub hl [2, 1, 0] rfl) (fun w18 w19 σ20 H locs ls hg hI hl => ?_)
  exact oe_v S hr hlocks hK hI hg dX0_moveAll_71
-- OwnMemory.slideTogether
abbrev rX0_slideTogether : Room := { frames := 2, cells := 0, slots := 0, locals := 49 }
theorem nX0_slideTogether : yX0_slideTogether.cls = RX0 ∧ yX0_slideTogether.cls ≠ "java/lang/invoke/MethodHandle" ∧ yX0_slideTogether.cls ≠ "java/lang/invoke/VarHandle" ∧ (parseMethodDescriptor yX0_slideTogether.desc).map (fun d => d.parameters.length) = some 0 := by decide +kernel
noncomputable def LX0_slideTogether_10 (F : Nat) (K : Int32 → oS → Option oS) : Nat → Int32 → oS → Option oS
  | 0, _, _ => none
  | n + 1, v1, σ => cIf (v1 ≤ 0) (K v1 σ) (cIf ((o_wt σ) = (-1)) (K v1 σ) (nmd (o_wt σ) (fun x5 => ck (vp_in (x5 + 2) (o_lw σ)) (nmd (o_fw σ (x5 + 2).toNatClampNeg) (fun x7 => nmd (o_s_wt σ x7) (fun σ8 => bnp (fX0_touchLeads F σ8 x5 0) (fun σ9 => nmd (v1 + (-1)) (fun x10 => LX0_slideTogether_10 F K  n x10 σ9))))))))
noncomputable def LX0_slideTogether_67 (F : Nat) (K : Int32 → oS → Option oS) (v1 : Int32) : Nat → Int32 → oS → Option oS
  | 0, _, _ => none
  | n + 1, v2, σ => cIf ((o_us σ) ≤ v2) (K v2 σ) (ck (vp_in (v2 + 1) (o_lw σ)) (nmd (o_fw σ (v2 + 1).toNatClampNeg) (fun x19 => cIf (x19 = (-1)) (bnd (fX0_sizeAt F σ v2) (fun r22 σ21 => nmd (cIf (3 < r22) r22 3) (fun x23 => nmd (v2 + x23) (fun x24 => LX0_slideTogether_67 F K v1 n x24 σ21)))) (bnp (fX0_touchLeads F σ v2 1) (fun σ25 => bnd (fX0_sizeAt F σ25 v2) (fun r27 σ26 => nmd (cIf (3 < r27) r27 3) (fun x28 => nmd (v2 + x28) (fun x29 => LX0_slideTogether_67 F K v1 n x29 σ26))))))))
noncomputable def JX0_slideTogether_51 (F : Nat) (σ : oS) (v1 : Int32) : Option oS := bnd (fX0_planMoves F σ ) (fun r14 σ13 => bnp (fX0_keepNames F σ13 ) (fun σ15 => bnp (fX0_touchRoots F σ15 1) (fun σ16 => LX0_slideTogether_67 F (fun w30 σ31 => bnp (fX0_moveAll F σ31 ) (fun σ32 => nmd (o_s_us σ32 r14) (fun σ33 => some σ33))) r14 F 0 σ16)))
noncomputable def fX0_slideTogether (F : Nat) (σ : oS) : Option oS := bnp (fX0_touchRoots F σ 0) (fun σ1 => nmd (o_us σ1) (fun x2 => LX0_slideTogether_10 F (fun w11 σ12 => JX0_slideTogether_51 F σ12 w11)  F x2 σ1))
set_option maxHeartbeats 4000000 in
set_option maxRecDepth 100000 in
theorem lX0_slideTogether_10 {p : Program} {l : Launch} {e : Env} {s : State} {m : MethodId} {args : Array Value} {below : List Frame} {meth : Method} {c : Code} {A : Nat → Prop} {G : gT} {h0 : Nat} {h : oH} {F : Nat} (S : CallFix p m c cX0_slideTogether 3 s args wsX0_slideTogether RX0) (hr : meth.sig.returnType = none) (hlocks : meth.locks = false) (hin : ∀ w ∈ wsX00, w ∈ wsX0_slideTogether) (hK : gK G s) (hA : ∀ q, s.heap.size ≤ q → A q) {K : Int32 → oS → Option oS} {res : oS} (n : Nat) : ∀ (v1 : Int32) (σ : oS) (H : Heap) (locs : List Loc) (ls : Array Slot), LX0_slideTogether_10 F K n v1 σ = some res → oI s A G h0 h σ H locs → lv_has ls 3 [(0, .ref h0), (1, .int v1)] → (∀ (v1 : Int32) (σ : oS) (H : Heap) (locs : List Loc) (ls : Array Slot), K v1 σ = some res → oI s A G h0 h σ H locs → lv_has ls 3 [(0, .ref h0), (1, .int v1)] → W p l e rX0_slideTogether s m args below meth c H locs 0 0 (MQ below (oQv G h0 h res A) args s 0 0 A) (F0 m 51 ls [])) → W p l e rX0_slideTogether s m args below meth c H locs 0 0 (MQ below (oQv G h0 h res A) args s 0 0 A) (F0 m 10 ls []) := by
  have hx := S.1
  have hb := S.2.1
  have hts := S.2.2.2.2
  have hown := S.2.2.2.1
  induction n with
  | zero => intro v1 σ H locs ls hg; rw [LX0_slideTogether_10] at hg; cases hg
  | succ n ih =>
    intro v1 σ H locs ls hg hI hl kk
    rw [LX0_slideTogether_10] at hg
    refine lv_iload_n hx hb dX0_slideTogether_10 rfl (lv_at hl 1 rfl) ?_
    refine lv_if_le (tgt := 51) hx hb dX0_slideTogether_11 (by decide) (fun c3 => ?_) (fun c3 => ?_)
    · have hg := cIf_te c3 hg
      exact kk v1 σ H locs ls hg hI (lv_sub hl [0, 1] rfl)
    · have hg := cIf_fe c3 hg
      refine lv_aload_n hx hb dX0_slideTogether_14 rfl (lv_at hl 0 rfl) ?_
      refine og_waiting S hin hK hI (ix := 48) (by decide +kernel) dX0_slideTogether_15 ?_
      refine lv_iconst (v := (-1)) hx hb dX0_slideTogether_18 (by decide) ?_
      refine lv_icmp_eq (tgt := 51) hx hb dX0_slideTogether_19 (by decide) (fun c4 => ?_) (fun c4 => ?_)
      · have hg := cIf_te c4 hg
        exact kk v1 σ H locs ls hg hI (lv_sub hl [0, 1] rfl)
      · have hg := cIf_fe c4 hg
        refine lv_aload_n hx hb dX0_slideTogether_22 rfl (lv_at hl 0 rfl) ?_
        refine og_waiting S hin hK hI (ix := 48) (by decide +kernel) dX0_slideTogether_23 ?_
        obtain ⟨x5, ex5, hg⟩ := nmd_e hg
        refine wn_i ex5 ?_
        refine lv_istore_n (lv' := [(2, .int x5), (0, .ref h0), (1, .int v1)]) hx hb dX0_slideTogether_26 rfl hl (by decide) rfl (fun ls hl => ?_)
        refine lv_aload_n hx hb dX0_slideTogether_27 rfl (lv_at hl 1 rfl) ?_
        refine lv_aload_n hx hb dX0_slideTogether_28 rfl (lv_at hl 1 rfl) ?_
        refine og_words S hin hK hI (ix := 23) (by decide +kernel) dX0_slideTogether_29 ?_
        refine lv_iload_n hx hb dX0_slideTogether_32 rfl (lv_at hl 0 rfl) ?_
        refine lv_iconst (v := 2) hx hb dX0_slideTogether_33 (by decide) ?_
        refine lv_iadd hx hb dX0_slideTogether_34 ?_
        obtain ⟨c6, hg⟩ := ck_e hg
        obtain ⟨x7, ex7, hg⟩ := nmd_e hg
        refine or_words S hK hI c6 ex7 dX0_slideTogether_35 ?_
        obtain ⟨σ8, eσ8, hg⟩ := nmd_e hg
        refine op_waiting S hin hK hI (ix := 48) (by decide +kernel) eσ8 dX0_slideTogether_36 (fun H locs hI => ?_)
        refine lv_aload_n hx hb dX0_slideTogether_39 rfl (lv_at hl 1 rfl) ?_
        refine lv_iload_n hx hb dX0_slideTogether_40 rfl (lv_at hl 0 rfl) ?_
        refine lv_iconst (v := 0) hx hb dX0_slideTogether_41 (by decide) ?_
        obtain ⟨σ9, eσ9, hg⟩ := bnp_e hg
        refine oc_v S hK hA hI (As := [.int x5, .int 0]) (rest := []) (kX0_touchLeads l G h0 h H.size F σ8 x5 0  σ9 eσ9) (cwV 2 hts gX0_slideTogether_X0_touchLeads rfl rfl rfl nX0_touchLeads ⟨Nat.le_of_ble_eq_true rfl, Nat.le_of_ble_eq_true rfl⟩) rfl hl.1 rfl (Nat.le_of_ble_eq_true rfl) dX0_slideTogether_42 ⟨Nat.le_refl _, Nat.le_refl _⟩ (fun H locs hI => ?_)
        obtain ⟨x10, ex10, hg⟩ := nmd_e hg
        refine lv_iinc (v := x10) (lv' := [(1, .int x10), (2, .int x5), (0, .ref h0)]) hx hb dX0_slideTogether_45 hl (k := 2) rfl (by rw [ex10]; rfl) (by decide) rfl (fun ls hl => ?_)
        refine lv_goto (tgt := 10) hx hb dX0_slideTogether_48 (by decide) ?_
        exact ih x10 σ9 H locs ls hg hI (lv_sub hl [2, 0] rfl) kk
set_option maxHeartbeats 4000000 in
set_option maxRecDepth 100000 in
theorem lX0_slideTogether_67 {p : Program} {l : Launch} {e : Env} {s : State} {m : MethodId} {args : Array Value} {below : List Frame} {meth : Method} {c : Code} {A : Nat → Prop} {G : gT} {h0 : Nat} {h : oH} {F : Nat} (S : CallFix p m c cX0_slideTogether 3 s args wsX0_slideTogether RX0) (hr : meth.sig.returnType = none) (hlocks : meth.locks = false) (hin : ∀ w ∈ wsX00, w ∈ wsX0_slideTogether) (hK : gK G s) (hA : ∀ q, s.heap.size ≤ q → A q) {K : Int32 → oS → Option oS} {res : oS} (v1 : Int32) (n : Nat) : ∀ (v2 : Int32) (σ : oS) (H : Heap) (locs : List Loc) (ls : Array Slot), LX0_slideTogether_67 F K v1 n v2 σ = some res → oI s A G h0 h σ H locs → lv_has ls 3 [(0, .ref h0), (1, .int v1), (2, .int v2)] → (∀ (v2 : Int32) (σ : oS) (H : Heap) (locs : List Loc) (ls : Array Slot), K v2 σ = some res → oI s A G h0 h σ H locs → lv_has ls 3 [(0, .ref h0), (1, .int v1), (2, .int v2)] → W p l e rX0_slideTogether s m args below meth c H locs 0 0 (MQ below (oQv G h0 h res A) args s 0 0 A) (F0 m 108 ls [])) → W p l e rX0_slideTogether s m args below meth c H locs 0 0 (MQ below (oQv G h0 h res A) args s 0 0 A) (F0 m 67 ls []) := by
  have hx := S.1
  have hb := S.2.1
  have hts := S.2.2.2.2
  have hown := S.2.2.2.1
  induction n with
  | zero => intro v2 σ H locs ls hg; rw [LX0_slideTogether_67] at hg; cases hg
  | succ n ih =>
    intro v2 σ H locs ls hg hI hl kk
    rw [LX0_slideTogether_67] at hg
    refine lv_iload_n hx hb dX0_slideTogether_67 rfl (lv_at hl 2 rfl) ?_
    refine lv_aload_n hx hb dX0_slideTogether_68 rfl (lv_at hl 0 rfl) ?_
    refine og_used S hin hK hI (ix := 27) (by decide +kernel) dX0_slideTogether_69 ?_
    refine lv_icmp_ge (tgt := 108) hx hb dX0_slideTogether_72 (by decide) (fun c17 => ?_) (fun c17 => ?_)
    · have hg := cIf_te c17 hg
      exact kk v2 σ H locs ls hg hI (lv_sub hl [0, 1, 2] rfl)
    · have hg := cIf_fe c17 hg
      refine lv_aload_n hx hb dX0_slideTogether_75 rfl (lv_at hl 0 rfl) ?_
      refine og_words S hin hK hI (ix := 23) (by decide +kernel) dX0_slideTogether_76 ?_
      refine lv_iload_n hx hb dX0_slideTogether_79 rfl (lv_at hl 2 rfl) ?_
      refine lv_iconst (v := 1) hx hb dX0_slideTogether_80 (by decide) ?_
      refine lv_iadd hx hb dX0_slideTogether_81 ?_
      obtain ⟨c18, hg⟩ := ck_e hg
      obtain ⟨x19, ex19, hg⟩ := nmd_e hg
      refine or_words S hK hI c18 ex19 dX0_slideTogether_82 ?_
      refine lv_iconst (v := (-1)) hx hb dX0_slideTogether_83 (by decide) ?_
      refine lv_icmp_eq (tgt := 93) hx hb dX0_slideTogether_84 (by decide) (fun c20 => ?_) (fun c20 => ?_)
      · have hg := cIf_te c20 hg
        refine lv_iload_n hx hb dX0_slideTogether_93 rfl (lv_at hl 2 rfl) ?_
        refine lv_iconst (v := 3) hx hb dX0_slideTogether_94 (by decide) ?_
        refine lv_aload_n hx hb dX0_slideTogether_95 rfl (lv_at hl 0 rfl) ?_
        refine lv_iload_n hx hb dX0_slideTogether_96 rfl (lv_at hl 2 rfl) ?_
        obtain ⟨r22, σ21, er22, hg⟩ := bnd_e hg
        refine oc_i S hK hA hI (As := [.int v2]) (rest := [.int 3, .int v2]) (kX0_sizeAt l G h0 h H.size F σ v2  r22 σ21 er22) (cwV 1 hts gX0_slideTogether_X0_sizeAt rfl rfl rfl nX0_sizeAt ⟨Nat.le_of_ble_eq_true rfl, Nat.le_of_ble_eq_true rfl⟩) rfl hl.1 rfl (Nat.le_of_ble_eq_true rfl) dX0_slideTogether_97 ⟨Nat.le_refl _, Nat.le_refl _⟩ (fun H locs hI => ?_)
        obtain ⟨x23, ex23, hg⟩ := nmd_e hg
        refine ox_max S (ix := 16) (by decide +kernel) hl.1 ex23 (Nat.le_of_ble_eq_true rfl) (Nat.le_of_ble_eq_true rfl) (Nat.le_refl _) (Nat.le_refl _) dX0_slideTogether_100 ?_
        refine lv_iadd hx hb dX0_slideTogether_103 ?_
        obtain ⟨x24, ex24, hg⟩ := nmd_e hg
        refine wn_i ex24 ?_
        refine lv_istore_n (lv' := [(2, .int x24), (0, .ref h0), (1, .int v1)]) hx hb dX0_slideTogether_104 rfl hl (by decide) rfl (fun ls hl => ?_)
        refine lv_goto (tgt := 67) hx hb dX0_slideTogether_105 (by decide) ?_
        exact ih x24 σ21 H locs ls hg hI (lv_sub hl [1, 2, 0] rfl) kk
      · have hg := cIf_fe c20 hg
        refine lv_aload_n hx hb dX0_slideTogether_87 rfl (lv_at hl 0 rfl) ?_
        refine lv_iload_n hx hb dX0_slideTogether_88 rfl (lv_at hl 2 rfl) ?_
        refine lv_iconst (v := 1) hx hb dX0_slideTogether_89 (by decide) ?_
        obtain ⟨σ25, eσ25, hg⟩ := bnp_e hg
        refine oc_v S hK hA hI (As := [.int v2, .int 1]) (rest := []) (kX0_touchLeads l G h0 h H.size F σ v2 1  σ25 eσ25) (cwV 2 hts gX0_slideTogether_X0_touchLeads rfl rfl rfl nX0_touchLeads ⟨Nat.le_of_ble_eq_true rfl, Nat.le_of_ble_eq_true rfl⟩) rfl hl.1 rfl (Nat.le_of_ble_eq_true rfl) dX0_slideTogether_90 ⟨Nat.le_refl _, Nat.le_refl _⟩ (fun H locs hI => ?_)
        refine lv_iload_n hx hb dX0_slideTogether_93 rfl (lv_at hl 2 rfl) ?_
        refine lv_iconst (v := 3) hx hb dX0_slideTogether_94 (by decide) ?_
        refine lv_aload_n hx hb dX0_slideTogether_95 rfl (lv_at hl 0 rfl) ?_
        refine lv_iload_n hx hb dX0_slideTogether_96 rfl (lv_at hl 2 rfl) ?_
        obtain ⟨r27, σ26, er27, hg⟩ := bnd_e hg
        refine oc_i S hK hA hI (As := [.int v2]) (rest := [.int 3, .int v2]) (kX0_sizeAt l G h0 h H.size F σ25 v2  r27 σ26 er27) (cwV 1 hts gX0_slideTogether_X0_sizeAt rfl rfl rfl nX0_sizeAt ⟨Nat.le_of_ble_eq_true rfl, Nat.le_of_ble_eq_true rfl⟩) rfl hl.1 rfl (Nat.le_of_ble_eq_true rfl) dX0_slideTogether_97 ⟨Nat.le_refl _, Nat.le_refl _⟩ (fun H locs hI => ?_)
        obtain ⟨x28, ex28, hg⟩ := nmd_e hg
        refine ox_max S (ix := 16) (by decide +kernel) hl.1 ex28 (Nat.le_of_ble_eq_true rfl) (Nat.le_of_ble_eq_true rfl) (Nat.le_refl _) (Nat.le_refl _) dX0_slideTogether_100 ?_
        refine lv_iadd hx hb dX0_slideTogether_103 ?_
        obtain ⟨x29, ex29, hg⟩ := nmd_e hg
        refine wn_i ex29 ?_
        refine lv_istore_n (lv' := [(2, .int x29), (0, .ref h0), (1, .int v1)]) hx hb dX0_slideTogether_104 rfl hl (by decide) rfl (fun ls hl => ?_)
        refine lv_goto (tgt := 67) hx hb dX0_slideTogether_105 (by decide) ?_
        exact ih x29 σ26 H locs ls hg hI (lv_sub hl [1, 2, 0] rfl) kk
set_option maxHeartbeats 4000000 in
set_option maxRecDepth 100000 in
theorem jX0_slideTogether_51 {p : Program} {l : Launch} {e : Env} {s : State} {m : MethodId} {args : Array Value} {below : List Frame} {meth : Method} {c : Code} {A : Nat → Prop} {G : gT} {h0 : Nat} {h : oH} {F : Nat} (S : CallFix p m c cX0_slideTogether 3 s args wsX0_slideTogether RX0) (hr : meth.sig.returnType = none) (hlocks : meth.locks = false) (hin : ∀ w ∈ wsX00, w ∈ wsX0_slideTogether) (hK : gK G s) (hA : ∀ q, s.heap.size ≤ q → A q) {res : oS} (σ : oS) (v1 : Int32) (H : Heap) (locs : List Loc) (ls : Array Slot) (hg : JX0_slideTogether_51 F σ v1 = some res) (hI : oI s A G h0 h σ H locs) (hl : lv_has ls 3 [(0, .ref h0), (1, .int v1)]) : W p l e rX0_slideTogether s m args below meth c H locs 0 0 (MQ below (oQv G h0 h res A) args s 0 0 A) (F0 m 51 ls []) := by
  have hx := S.1
  have hb := S.2.1
  have hts := S.2.2.2.2
  have hown := S.2.2.2.1
  unfold JX0_slideTogether_51 at hg
  refine lv_aload_n hx hb dX0_slideTogether_51 rfl (lv_at hl 0 rfl) ?_
  obtain ⟨r14, σ13, er14, hg⟩ := bnd_e hg
  refine oc_i S hK hA hI (As := []) (rest := []) (kX0_planMoves l G h0 h H.size F σ  r14 σ13 er14) (cwV 0 hts gX0_slideTogether_X0_planMoves rfl rfl rfl nX0_planMoves ⟨Nat.le_of_ble_eq_true rfl, Nat.le_of_ble_eq_true rfl⟩) rfl hl.1 rfl (Nat.le_of_ble_eq_true rfl) dX0_slideTogether_52 ⟨Nat.le_refl _, Nat.le_refl _⟩ (fun H locs hI => ?_)
  refine lv_istore_n (lv' := [(1, .int r14), (0, .ref h0)]) hx hb dX0_slideTogether_55 rfl hl (by decide) rfl (fun ls hl => ?_)
  refine lv_aload_n hx hb dX0_slideTogether_56 rfl (lv_at hl 1 rfl) ?_
  obtain ⟨σ15, eσ15, hg⟩ := bnp_e hg
  refine oc_v S hK hA hI (As := []) (rest := []) (kX0_keepNames l G h0 h H.size F σ13  σ15 eσ15) (cwV 0 hts gX0_slideTogether_X0_keepNames rfl rfl rfl nX0_keepNames ⟨Nat.le_of_ble_eq_true rfl, Nat.le_of_ble_eq_true rfl⟩) rfl hl.1 rfl (Nat.le_of_ble_eq_true rfl) dX0_slideTogether_57 ⟨Nat.le_refl _, Nat.le_refl _⟩ (fun H locs hI => ?_)
  refine lv_aload_n hx hb dX0_slideTogether_60 rfl (lv_at hl 1 rfl) ?_
  refine lv_iconst (v := 1) hx hb dX0_slideTogether_61 (by decide) ?_
  obtain ⟨σ16, eσ16, hg⟩ := bnp_e hg
  refine oc_v S hK hA hI (As := [.int 1]) (rest := []) (kX0_touchRoots l G h0 h H.size F σ15 1  σ16 eσ16) (cwV 1 hts gX0_slideTogether_X0_touchRoots rfl rfl rfl nX0_touchRoots ⟨Nat.le_of_ble_eq_true rfl, Nat.le_of_ble_eq_true rfl⟩) rfl hl.1 rfl (Nat.le_of_ble_eq_true rfl) dX0_slideTogether_62 ⟨Nat.le_refl _, Nat.le_refl _⟩ (fun H locs hI => ?_)
  refine lv_iconst (v := 0) hx hb dX0_slideTogether_65 (by decide) ?_
  refine lv_istore_n (lv' := [(2, .int 0), (1, .int r14), (0, .ref h0)]) hx hb dX0_slideTogether_66 rfl hl (by decide) rfl (fun ls hl => ?_)
  refine lX0_slideTogether_67 S hr hlocks hin hK hA r14 F 0 σ16 H locs ls hg hI (lv_sub hl [2, 1, 0] rfl) (fun w30 σ31 H locs ls hg hI hl => ?_)
  refine lv_aload_n hx hb dX0_slideTogether_108 rfl (lv_at hl 0 rfl) ?_
  obtain ⟨σ32, eσ32, hg⟩ := bnp_e hg
  refine oc_v S hK hA hI (As := []) (rest := []) (kX0_moveAll l G h0 h H.size F σ31  σ32 eσ32) (cwV 0 hts gX0_slideTogether_X0_moveAll rfl rfl rfl nX0_moveAll ⟨Nat.le_of_ble_eq_true rfl, Nat.le_of_ble_eq_true rfl⟩) rfl hl.1 rfl (Nat.le_of_ble_eq_true rfl) dX0_slideTogether_109 ⟨Nat.le_refl _, Nat.le_refl _⟩ (fun H locs hI => ?_)
  refine lv_aload_n hx hb dX0_slideTogether_112 rfl (lv_at hl 0 rfl) ?_
  refine lv_iload_n hx hb dX0_slideTogether_113 rfl (lv_at hl 1 rfl) ?_
  obtain ⟨σ33, eσ33, hg⟩ := nmd_e hg
  refine op_used S hin hK hI (ix := 27) (by decide +kernel) eσ33 dX0_slideTogether_114 (fun H locs hI => ?_)
  exact oe_v S hr hlocks hK hI hg dX0_slideTogether_117
set_option maxHeartbeats 4000000 in
set_option maxRecDepth 100000 in
theorem kX0_slideTogether (l : Launch) (G : gT) (h0 : Nat) (h : oH) (sz F : Nat) (σ : oS) (σr : oS) (hg : fX0_slideTogether F σ = some σr) : Met l yX0_slideTogether wsX0_slideTogether rX0_slideTogether (oPre G h0 h σ sz []) (oQv G h0 h σr (oA G h0 h σ sz)) 0 0 (oA G h0 h σ sz) := by
  refine oMet (Qc := oQv G h0 h σr) (by decide +kernel) rfl rfl (Nat.le_of_ble_eq_true rfl) ?_
  intro p e s m args below meth c A S hr hlocks hK hA H locs hI ls hl
  have hl : lv_has ls 3 [(0, .ref h0)] := hl
  have hin : ∀ w ∈ wsX00, w ∈ wsX0_slideTogether := by decide +kernel
  have hx := S.1
  have hb := S.2.1
  have hts := S.2.2.2.2
  have hown := S.2.2.2.1
  unfold fX0_slideTogether at hg
  refine lv_aload_n hx hb dX0_slideTogether_0 rfl (lv_at hl 0 rfl) ?_
  refine lv_iconst (v := 0) hx hb dX0_slideTogether_1 (by decide) ?_
  obtain ⟨σ1, eσ1, hg⟩ := bnp_e hg
  refine oc_v S hK hA hI (As := [.int 0]) (rest := []) (kX0_touchRoots l G h0 h H.size F σ 0  σ1 eσ1) (cwV 1 hts gX0_slideTogether_X0_touchRoots rfl rfl rfl nX0_touchRoots ⟨Nat.le_of_ble_eq_true rfl, Nat.le_of_ble_eq_true rfl⟩) rfl hl.1 rfl (Nat.le_of_ble_eq_true rfl) dX0_slideTogether_2 ⟨Nat.le_refl _, Nat.le_refl _⟩ (fun H locs hI => ?_)
  refine lv_aload_n hx hb dX0_slideTogether_5 rfl (lv_at hl 0 rfl) ?_
  refine og_used S hin hK hI (ix := 27) (by decide +kernel) dX0_slideTogether_6 ?_
  obtain ⟨x2, ex2, hg⟩ := nmd_e hg
  refine wn_i ex2 ?_
  refine lv_istore_n (lv' := [(1, .int x2), (0, .ref h0)]) hx hb dX0_slideTogether_9 rfl hl (by decide) rfl (fun ls hl => ?_)
  refine lX0_slideTogether_10 S hr hlocks hin hK hA  F x2 σ1 H locs ls hg hI (lv_sub hl [1, 0] rfl) (fun w11 σ12 H locs ls hg hI hl => ?_)
  exact jX0_slideTogether_51 S hr hlocks hin hK hA σ12 w11 H locs ls hg hI (lv_sub hl [0, 1] rfl)
-- OwnMemory.collect
abbrev rX0_collect : Room := { frames := 3, cells := 0, slots := 0, locals := 71 }
theorem nX0_collect : yX0_collect.cls = RX0 ∧ yX0_collect.cls ≠ "java/lang/invoke/MethodHandle" ∧ yX0_collect.cls ≠ "java/lang/invoke/VarHandle" ∧ (parseMethodDescriptor yX0_collect.desc).map (fun d => d.parameters.length) = some 0 := by decide +kernel
noncomputable def fX0_collect (F : Nat) (σ : oS) : Option (Int32 × oS) := bnp (fX0_slideTogether F σ ) (fun σ1 => some ((o_us σ1), σ1))
set_option maxHeartbeats 4000000 in
set_option maxRecDepth 100000 in
theorem kX0_collect (l : Launch) (G : gT) (h0 : Nat) (h : oH) (sz F : Nat) (σ : oS) (r : Int32) (σr : oS) (hg : fX0_collect F σ = some (r, σr)) : Met l yX0_collect wsX0_collect rX0_collect (oPre G h0 h σ sz []) (oQi G h0 h r σr (oA G h0 h σ sz)) 0 0 (oA G h0 h σ sz) := by
  refine oMet (Qc := oQi G h0 h r σr) (by decide +kernel) rfl rfl (Nat.le_of_ble_eq_true rfl) ?_
  intro p e s m args below meth c A S hr hlocks hK hA H locs hI ls hl
  have hl : lv_has ls 1 [(0, .ref h0)] := hl
  have hin : ∀ w ∈ wsX00, w ∈ wsX0_collect := by decide +kernel
  have hx := S.1
  have hb := S.2.1
  have hts := S.2.2.2.2
  have hown := S.2.2.2.1
  unfold fX0_collect at hg
  refine lv_aload_n hx hb dX0_collect_0 rfl (lv_at hl 0 rfl) ?_
  obtain ⟨σ1, eσ1, hg⟩ := bnp_e hg
  refine oc_v S hK hA hI (As := []) (rest := []) (kX0_slideTogether l G h0 h H.size F σ  σ1 eσ1) (cwV 0 hts gX0_collect_X0_slideTogether rfl rfl rfl nX0_slideTogether ⟨Nat.le_of_ble_eq_true rfl, Nat.le_of_ble_eq_true rfl⟩) rfl hl.1 rfl (Nat.le_of_ble_eq_true rfl) dX0_collect_1 ⟨Nat.le_refl _, Nat.le_refl _⟩ (fun H locs hI => ?_)
  refine lv_aload_n hx hb dX0_collect_4 rfl (lv_at hl 0 rfl) ?_
  refine og_used S hin hK hI (ix := 27) (by decide +kernel) dX0_collect_5 ?_
  exact oe_i S hr hlocks hK hI hg dX0_collect_8
