/-! contracts: model -/
-- OwnMemoryModel.thrown
abbrev rX1_thrown : Room := { frames := 0, cells := 0, slots := 0, locals := 0 }
theorem nX1_thrown : yX1_thrown.cls = RX1 ∧ yX1_thrown.cls ≠ "java/lang/invoke/MethodHandle" ∧ yX1_thrown.cls ≠ "java/lang/invoke/VarHandle" ∧ (parseMethodDescriptor yX1_thrown.desc).map (fun d => d.parameters.length) = some 0 := by decide +kernel
noncomputable def fX1_thrown (F : Nat) (σ : mS) : Option (Int32 × mS) := some ((m_thrown σ), σ)
set_option maxHeartbeats 4000000 in
set_option maxRecDepth 100000 in
theorem kX1_thrown (l : Launch) (G : gT) (h0 : Nat) (h : (Nat → Nat)) (sz F : Nat) (σ : mS) (r : Int32) (σr : mS) (hg : fX1_thrown F σ = some (r, σr)) : Met l yX1_thrown wsX1_thrown rX1_thrown (mPre G h0 h σ sz []) (mQi G h0 h r σr (mA G h0 h σ sz)) 0 0 (mA G h0 h σ sz) := by
  refine mMet (Qc := mQi G h0 h r σr) (by decide +kernel) rfl rfl (Nat.le_of_ble_eq_true rfl) ?_
  intro p e s m args below meth c A S hr hlocks hK hA H locs hI ls hl
  have hl : lv_has ls 1 [(0, .ref h0)] := hl
  have hin : ∀ w ∈ wsX10, w ∈ wsX1_thrown := in_ws
  have hx := S.1
  have hb := S.2.1
  have hts := S.2.2.2.2
  have hown := S.2.2.2.1
  unfold fX1_thrown at hg
  refine lv_aload_n hx hb dX1_thrown_0 rfl (lv_at hl 0 rfl) ?_
  refine mg_thrown S hin hK hI (ix := 73) (by decide +kernel) dX1_thrown_1 ?_
  exact me_i S hr hlocks hK hI hg dX1_thrown_4
-- OwnMemoryModel.in
abbrev rX1_in : Room := { frames := 0, cells := 0, slots := 0, locals := 0 }
theorem nX1_in : yX1_in.cls ≠ "java/lang/invoke/MethodHandle" ∧ yX1_in.cls ≠ "java/lang/invoke/VarHandle" ∧ (parseMethodDescriptor yX1_in.desc).map (fun d => d.parameters.length) = some 3 := by decide +kernel
noncomputable def fX1_in (F : Nat) (p1 : Int32) (p2 : Int32) (p3 : Int32) : Option Int32 := cIf (p1 < p2) (some 0) (cIf (p3 < p1) (some 0) (some 1))
set_option maxHeartbeats 4000000 in
set_option maxRecDepth 100000 in
theorem kX1_in (l : Launch) (sz F : Nat) (p1 : Int32) (p2 : Int32) (p3 : Int32) (r : Int32) (hg : fX1_in F p1 p2 p3 = some r) : Met l yX1_in wsX1_in rX1_in (sPre sz [.int p1, .int p2, .int p3]) (sQi r sz) 0 0 (fun q => sz ≤ q) := by
  refine sMet (own := RX1) (Qc := sQi r) (by decide +kernel) rfl rfl (Nat.le_of_ble_eq_true rfl) ?_
  intro p e s m args below meth c S hr hlocks H locs hS ls hl
  have hl : lv_has ls 3 [(0, .int p1), (1, .int p2), (2, .int p3)] := hl
  have hx := S.1
  have hb := S.2.1
  have hts := S.2.2.2.2
  have hown := S.2.2.2.1
  unfold fX1_in at hg
  refine lv_iload_n hx hb dX1_in_0 rfl (lv_at hl 0 rfl) ?_
  refine lv_iload_n hx hb dX1_in_1 rfl (lv_at hl 1 rfl) ?_
  refine lv_icmp_lt (tgt := 14) hx hb dX1_in_2 (by decide) (fun c1 => ?_) (fun c1 => ?_)
  · have hg := cIf_te c1 hg
    refine lv_iconst (v := 0) hx hb dX1_in_14 (by decide) ?_
    exact se_z S hr hlocks hS rfl hg dX1_in_15
  · have hg := cIf_fe c1 hg
    refine lv_iload_n hx hb dX1_in_5 rfl (lv_at hl 0 rfl) ?_
    refine lv_iload_n hx hb dX1_in_6 rfl (lv_at hl 2 rfl) ?_
    refine lv_icmp_gt (tgt := 14) hx hb dX1_in_7 (by decide) (fun c2 => ?_) (fun c2 => ?_)
    · have hg := cIf_te c2 hg
      refine lv_iconst (v := 0) hx hb dX1_in_14 (by decide) ?_
      exact se_z S hr hlocks hS rfl hg dX1_in_15
    · have hg := cIf_fe c2 hg
      refine lv_iconst (v := 1) hx hb dX1_in_10 (by decide) ?_
      refine lv_goto (tgt := 15) hx hb dX1_in_11 (by decide) ?_
      exact se_z S hr hlocks hS rfl hg dX1_in_15
-- OwnMemoryModel.isRoot
abbrev rX1_isRoot : Room := { frames := 1, cells := 0, slots := 0, locals := 22 }
theorem nX1_isRoot : yX1_isRoot.cls ≠ "java/lang/invoke/MethodHandle" ∧ yX1_isRoot.cls ≠ "java/lang/invoke/VarHandle" ∧ (parseMethodDescriptor yX1_isRoot.desc).map (fun d => d.parameters.length) = some 1 := by decide +kernel
noncomputable def fX1_isRoot (F : Nat) (p1 : Int32) : Option Int32 := bnp (fX1_in F p1 0 23) (fun r1 => ck (narrow .boolean (.int r1) = .int r1) (some r1))
set_option maxHeartbeats 4000000 in
set_option maxRecDepth 100000 in
theorem kX1_isRoot (l : Launch) (sz F : Nat) (p1 : Int32) (r : Int32) (hg : fX1_isRoot F p1 = some r) : Met l yX1_isRoot wsX1_isRoot rX1_isRoot (sPre sz [.int p1]) (sQi r sz) 0 0 (fun q => sz ≤ q) := by
  refine sMet (own := RX1) (Qc := sQi r) (by decide +kernel) rfl rfl (Nat.le_of_ble_eq_true rfl) ?_
  intro p e s m args below meth c S hr hlocks H locs hS ls hl
  have hl : lv_has ls 1 [(0, .int p1)] := hl
  have hx := S.1
  have hb := S.2.1
  have hts := S.2.2.2.2
  have hown := S.2.2.2.1
  unfold fX1_isRoot at hg
  refine lv_iload_n hx hb dX1_isRoot_0 rfl (lv_at hl 0 rfl) ?_
  refine lv_iconst (v := 0) hx hb dX1_isRoot_1 (by decide) ?_
  refine lv_bipush (v := 23) hx hb dX1_isRoot_2 (by decide) ?_
  obtain ⟨r1, er1, hg⟩ := bnp_e hg
  refine ss_i S hS (As := [.int p1, .int 0, .int 23]) (rest := []) (kX1_in l H.size F p1 0 23 r1 er1) (va_cwS 3 hts gX1_isRoot_X1_in rfl rfl rfl nX1_in ⟨Nat.le_of_ble_eq_true rfl, Nat.le_of_ble_eq_true rfl⟩) rfl hl.1 rfl (Nat.le_of_ble_eq_true rfl) dX1_isRoot_4 ⟨Nat.le_refl _, Nat.le_refl _⟩ (fun H locs hS => ?_)
  obtain ⟨hz, hg⟩ := ck_e hg
  exact se_z S hr hlocks hS hz hg dX1_isRoot_7
-- OwnMemoryModel.says
abbrev rX1_says : Room := { frames := 0, cells := 0, slots := 0, locals := 0 }
theorem nX1_says : yX1_says.cls = RX1 ∧ yX1_says.cls ≠ "java/lang/invoke/MethodHandle" ∧ yX1_says.cls ≠ "java/lang/invoke/VarHandle" ∧ (parseMethodDescriptor yX1_says.desc).map (fun d => d.parameters.length) = some 1 := by decide +kernel
noncomputable def fX1_says (F : Nat) (σ : mS) (p1 : Int32) : Option (Int32 × mS) := cIf (p1 = 0) (nmd (m_s_thrown σ 1) (fun σ2 => ck (narrow .boolean (.int p1) = .int p1) (some (p1, σ2)))) (nmd (m_s_thrown σ 0) (fun σ3 => ck (narrow .boolean (.int p1) = .int p1) (some (p1, σ3))))
set_option maxHeartbeats 4000000 in
set_option maxRecDepth 100000 in
theorem kX1_says (l : Launch) (G : gT) (h0 : Nat) (h : (Nat → Nat)) (sz F : Nat) (σ : mS) (p1 : Int32) (r : Int32) (σr : mS) (hg : fX1_says F σ p1 = some (r, σr)) : Met l yX1_says wsX1_says rX1_says (mPre G h0 h σ sz [.int p1]) (mQi G h0 h r σr (mA G h0 h σ sz)) 0 0 (mA G h0 h σ sz) := by
  refine mMet (Qc := mQi G h0 h r σr) (by decide +kernel) rfl rfl (Nat.le_of_ble_eq_true rfl) ?_
  intro p e s m args below meth c A S hr hlocks hK hA H locs hI ls hl
  have hl : lv_has ls 2 [(0, .ref h0), (1, .int p1)] := hl
  have hin : ∀ w ∈ wsX10, w ∈ wsX1_says := in_ws
  have hx := S.1
  have hb := S.2.1
  have hts := S.2.2.2.2
  have hown := S.2.2.2.1
  unfold fX1_says at hg
  refine lv_aload_n hx hb dX1_says_0 rfl (lv_at hl 0 rfl) ?_
  refine lv_iload_n hx hb dX1_says_1 rfl (lv_at hl 1 rfl) ?_
  refine lv_if_eq (tgt := 9) hx hb dX1_says_2 (by decide) (fun c1 => ?_) (fun c1 => ?_)
  · have hg := cIf_te c1 hg
    refine lv_iconst (v := 1) hx hb dX1_says_9 (by decide) ?_
    obtain ⟨σ2, eσ2, hg⟩ := nmd_e hg
    refine mp_thrown S hin hK hI (ix := 73) (by decide +kernel) eσ2 dX1_says_10 (fun H locs hI => ?_)
    refine lv_iload_n hx hb dX1_says_13 rfl (lv_at hl 1 rfl) ?_
    obtain ⟨hz, hg⟩ := ck_e hg
    exact me_z S hr hlocks hK hI hz hg dX1_says_14
  · have hg := cIf_fe c1 hg
    refine lv_iconst (v := 0) hx hb dX1_says_5 (by decide) ?_
    refine lv_goto (tgt := 10) hx hb dX1_says_6 (by decide) ?_
    obtain ⟨σ3, eσ3, hg⟩ := nmd_e hg
    refine mp_thrown S hin hK hI (ix := 73) (by decide +kernel) eσ3 dX1_says_10 (fun H locs hI => ?_)
    refine lv_iload_n hx hb dX1_says_13 rfl (lv_at hl 1 rfl) ?_
    obtain ⟨hz, hg⟩ := ck_e hg
    exact me_z S hr hlocks hK hI hz hg dX1_says_14
-- OwnMemoryModel.words
abbrev rX1_words : Room := { frames := 0, cells := 0, slots := 0, locals := 0 }
theorem nX1_words : yX1_words.cls = RX1 ∧ yX1_words.cls ≠ "java/lang/invoke/MethodHandle" ∧ yX1_words.cls ≠ "java/lang/invoke/VarHandle" ∧ (parseMethodDescriptor yX1_words.desc).map (fun d => d.parameters.length) = some 1 := by decide +kernel
noncomputable def JX1_words_55 (F : Nat) (σ : mS) (v1 : Int32) : Option (Int32 × mS) := ck (vp_in v1 4096) (nmd (m_length σ v1.toNatClampNeg) (fun x8 => some ((4 + ((x8 + 1) / 2)), σ)))
noncomputable def fX1_words (F : Nat) (σ : mS) (p1 : Int32) : Option (Int32 × mS) := ck (vp_in p1 4096) (nmd (m_kind σ p1.toNatClampNeg) (fun x2 => cIf (x2 = 1) (ck (vp_in p1 4096) (nmd (m_links σ p1.toNatClampNeg) (fun x13 => ck (vp_in p1 4096) (nmd (m_values σ p1.toNatClampNeg) (fun x15 => ck (vp_in p1 4096) (nmd (m_plain σ p1.toNatClampNeg) (fun x17 => some ((((3 + x13) + (2 * x15)) + x17), σ)))))))) (ck (vp_in p1 4096) (nmd (m_kind σ p1.toNatClampNeg) (fun x5 => cIf (x5 = 2) (JX1_words_55 F σ p1) (ck (vp_in p1 4096) (nmd (m_kind σ p1.toNatClampNeg) (fun x10 => cIf (x10 = 5) (JX1_words_55 F σ p1) (some (6, σ))))))))))
set_option maxHeartbeats 4000000 in
set_option maxRecDepth 100000 in
theorem jX1_words_55 {p : Program} {l : Launch} {e : Env} {s : State} {m : MethodId} {args : Array Value} {below : List Frame} {meth : Method} {c : Code} {A : Nat → Prop} {G : gT} {h0 : Nat} {h : (Nat → Nat)} {F : Nat} (S : CallFix p m c cX1_words 2 s args wsX1_words RX1) (hr : meth.sig.returnType = some .int) (hlocks : meth.locks = false) (hin : ∀ w ∈ wsX10, w ∈ wsX1_words) (hK : gK G s) (hA : ∀ q, s.heap.size ≤ q → A q) {res : (Int32 × mS)} (σ : mS) (v1 : Int32) (H : Heap) (locs : List Loc) (ls : Array Slot) (hg : JX1_words_55 F σ v1 = some res) (hI : mI s A G h0 h σ H locs) (hl : lv_has ls 2 [(0, .ref h0), (1, .int v1)]) : W p l e rX1_words s m args below meth c H locs 0 0 (MQ below (mQi G h0 h res.1 res.2 A) args s 0 0 A) (F0 m 55 ls []) := by
  have hx := S.1
  have hb := S.2.1
  have hts := S.2.2.2.2
  have hown := S.2.2.2.1
  unfold JX1_words_55 at hg
  refine lv_iconst (v := 4) hx hb dX1_words_55 (by decide) ?_
  refine lv_aload_n hx hb dX1_words_56 rfl (lv_at hl 0 rfl) ?_
  refine mg_length S hin hK hI (ix := 44) (by decide +kernel) dX1_words_57 ?_
  refine lv_iload_n hx hb dX1_words_60 rfl (lv_at hl 1 rfl) ?_
  obtain ⟨c7, hg⟩ := ck_e hg
  obtain ⟨x8, ex8, hg⟩ := nmd_e hg
  refine mr_length S hK hI c7 ex8 dX1_words_61 ?_
  refine lv_iconst (v := 1) hx hb dX1_words_62 (by decide) ?_
  refine lv_iadd hx hb dX1_words_63 ?_
  refine lv_iconst (v := 2) hx hb dX1_words_64 (by decide) ?_
  refine lv_idiv hx hb dX1_words_65 (by decide) ?_
  refine lv_iadd hx hb dX1_words_66 ?_
  refine lv_goto (tgt := 72) hx hb dX1_words_67 (by decide) ?_
  exact me_i S hr hlocks hK hI hg dX1_words_72
set_option maxHeartbeats 4000000 in
set_option maxRecDepth 100000 in
theorem kX1_words (l : Launch) (G : gT) (h0 : Nat) (h : (Nat → Nat)) (sz F : Nat) (σ : mS) (p1 : Int32) (r : Int32) (σr : mS) (hg : fX1_words F σ p1 = some (r, σr)) : Met l yX1_words wsX1_words rX1_words (mPre G h0 h σ sz [.int p1]) (mQi G h0 h r σr (mA G h0 h σ sz)) 0 0 (mA G h0 h σ sz) := by
  refine mMet (Qc := mQi G h0 h r σr) (by decide +kernel) rfl rfl (Nat.le_of_ble_eq_true rfl) ?_
  intro p e s m args below meth c A S hr hlocks hK hA H locs hI ls hl
  have hl : lv_has ls 2 [(0, .ref h0), (1, .int p1)] := hl
  have hin : ∀ w ∈ wsX10, w ∈ wsX1_words := in_ws
  have hx := S.1
  have hb := S.2.1
  have hts := S.2.2.2.2
  have hown := S.2.2.2.1
  unfold fX1_words at hg
  refine lv_aload_n hx hb dX1_words_0 rfl (lv_at hl 0 rfl) ?_
  refine mg_kind S hin hK hI (ix := 17) (by decide +kernel) dX1_words_1 ?_
  refine lv_iload_n hx hb dX1_words_4 rfl (lv_at hl 1 rfl) ?_
  obtain ⟨c1, hg⟩ := ck_e hg
  obtain ⟨x2, ex2, hg⟩ := nmd_e hg
  refine mr_kind S hK hI c1 ex2 dX1_words_5 ?_
  refine lv_iconst (v := 1) hx hb dX1_words_6 (by decide) ?_
  refine lv_icmp_ne (tgt := 35) hx hb dX1_words_7 (by decide) (fun c3 => ?_) (fun c3 => ?_)
  · have hg := cIf_fe c3 hg
    refine lv_aload_n hx hb dX1_words_35 rfl (lv_at hl 0 rfl) ?_
    refine mg_kind S hin hK hI (ix := 17) (by decide +kernel) dX1_words_36 ?_
    refine lv_iload_n hx hb dX1_words_39 rfl (lv_at hl 1 rfl) ?_
    obtain ⟨c4, hg⟩ := ck_e hg
    obtain ⟨x5, ex5, hg⟩ := nmd_e hg
    refine mr_kind S hK hI c4 ex5 dX1_words_40 ?_
    refine lv_iconst (v := 2) hx hb dX1_words_41 (by decide) ?_
    refine lv_icmp_eq (tgt := 55) hx hb dX1_words_42 (by decide) (fun c6 => ?_) (fun c6 => ?_)
    · have hg := cIf_te c6 hg
      exact jX1_words_55 S hr hlocks hin hK hA σ p1 H locs ls hg hI (lv_sub hl [0, 1] rfl)
    · have hg := cIf_fe c6 hg
      refine lv_aload_n hx hb dX1_words_45 rfl (lv_at hl 0 rfl) ?_
      refine mg_kind S hin hK hI (ix := 17) (by decide +kernel) dX1_words_46 ?_
      refine lv_iload_n hx hb dX1_words_49 rfl (lv_at hl 1 rfl) ?_
      obtain ⟨c9, hg⟩ := ck_e hg
      obtain ⟨x10, ex10, hg⟩ := nmd_e hg
      refine mr_kind S hK hI c9 ex10 dX1_words_50 ?_
      refine lv_iconst (v := 5) hx hb dX1_words_51 (by decide) ?_
      refine lv_icmp_ne (tgt := 70) hx hb dX1_words_52 (by decide) (fun c11 => ?_) (fun c11 => ?_)
      · have hg := cIf_fe c11 hg
        refine lv_bipush (v := 6) hx hb dX1_words_70 (by decide) ?_
        exact me_i S hr hlocks hK hI hg dX1_words_72
      · have hg := cIf_te c11 hg
        exact jX1_words_55 S hr hlocks hin hK hA σ p1 H locs ls hg hI (lv_sub hl [0, 1] rfl)
  · have hg := cIf_te c3 hg
    refine lv_iconst (v := 3) hx hb dX1_words_10 (by decide) ?_
    refine lv_aload_n hx hb dX1_words_11 rfl (lv_at hl 0 rfl) ?_
    refine mg_links S hin hK hI (ix := 20) (by decide +kernel) dX1_words_12 ?_
    refine lv_iload_n hx hb dX1_words_15 rfl (lv_at hl 1 rfl) ?_
    obtain ⟨c12, hg⟩ := ck_e hg
    obtain ⟨x13, ex13, hg⟩ := nmd_e hg
    refine mr_links S hK hI c12 ex13 dX1_words_16 ?_
    refine lv_iadd hx hb dX1_words_17 ?_
    refine lv_iconst (v := 2) hx hb dX1_words_18 (by decide) ?_
    refine lv_aload_n hx hb dX1_words_19 rfl (lv_at hl 0 rfl) ?_
    refine mg_values S hin hK hI (ix := 23) (by decide +kernel) dX1_words_20 ?_
    refine lv_iload_n hx hb dX1_words_23 rfl (lv_at hl 1 rfl) ?_
    obtain ⟨c14, hg⟩ := ck_e hg
    obtain ⟨x15, ex15, hg⟩ := nmd_e hg
    refine mr_values S hK hI c14 ex15 dX1_words_24 ?_
    refine lv_imul hx hb dX1_words_25 ?_
    refine lv_iadd hx hb dX1_words_26 ?_
    refine lv_aload_n hx hb dX1_words_27 rfl (lv_at hl 0 rfl) ?_
    refine mg_plain S hin hK hI (ix := 26) (by decide +kernel) dX1_words_28 ?_
    refine lv_iload_n hx hb dX1_words_31 rfl (lv_at hl 1 rfl) ?_
    obtain ⟨c16, hg⟩ := ck_e hg
    obtain ⟨x17, ex17, hg⟩ := nmd_e hg
    refine mr_plain S hK hI c16 ex17 dX1_words_32 ?_
    refine lv_iadd hx hb dX1_words_33 ?_
    exact me_i S hr hlocks hK hI hg dX1_words_34
-- OwnMemoryModel.come
abbrev rX1_come : Room := { frames := 0, cells := 0, slots := 0, locals := 0 }
theorem nX1_come : yX1_come.cls = RX1 ∧ yX1_come.cls ≠ "java/lang/invoke/MethodHandle" ∧ yX1_come.cls ≠ "java/lang/invoke/VarHandle" ∧ (parseMethodDescriptor yX1_come.desc).map (fun d => d.parameters.length) = some 1 := by decide +kernel
noncomputable def fX1_come (F : Nat) (σ : mS) (p1 : Int32) : Option mS := cIf (p1 = 0) (some σ) (ck (vp_in p1 4096) (nmd (m_there σ p1.toNatClampNeg) (fun x3 => cIf (x3 = 0) (ck (vp_in p1 4096) (nmd (m_s_there σ (upd (m_there σ) p1.toNatClampNeg (vp_nar .boolean 1))) (fun σ6 => ck (vp_in (m_wait σ6) 4096) (nmd (m_s_waiting σ6 (upd (m_waiting σ6) (m_wait σ6).toNatClampNeg p1)) (fun σ8 => nmd (m_s_wait σ8 ((m_wait σ8) + 1)) (fun σ9 => some σ9)))))) (some σ))))
set_option maxHeartbeats 4000000 in
set_option maxRecDepth 100000 in
theorem kX1_come (l : Launch) (G : gT) (h0 : Nat) (h : (Nat → Nat)) (sz F : Nat) (σ : mS) (p1 : Int32) (σr : mS) (hg : fX1_come F σ p1 = some σr) : Met l yX1_come wsX1_come rX1_come (mPre G h0 h σ sz [.int p1]) (mQv G h0 h σr (mA G h0 h σ sz)) 0 0 (mA G h0 h σ sz) := by
  refine mMet (Qc := mQv G h0 h σr) (by decide +kernel) rfl rfl (Nat.le_of_ble_eq_true rfl) ?_
  intro p e s m args below meth c A S hr hlocks hK hA H locs hI ls hl
  have hl : lv_has ls 2 [(0, .ref h0), (1, .int p1)] := hl
  have hin : ∀ w ∈ wsX10, w ∈ wsX1_come := in_ws
  have hx := S.1
  have hb := S.2.1
  have hts := S.2.2.2.2
  have hown := S.2.2.2.1
  unfold fX1_come at hg
  refine lv_iload_n hx hb dX1_come_0 rfl (lv_at hl 1 rfl) ?_
  refine lv_if_eq (tgt := 13) hx hb dX1_come_1 (by decide) (fun c1 => ?_) (fun c1 => ?_)
  · have hg := cIf_te c1 hg
    exact me_v S hr hlocks hK hI hg dX1_come_13
  · have hg := cIf_fe c1 hg
    refine lv_aload_n hx hb dX1_come_4 rfl (lv_at hl 0 rfl) ?_
    refine mg_there S hin hK hI (ix := 62) (by decide +kernel) dX1_come_5 ?_
    refine lv_iload_n hx hb dX1_come_8 rfl (lv_at hl 1 rfl) ?_
    obtain ⟨c2, hg⟩ := ck_e hg
    obtain ⟨x3, ex3, hg⟩ := nmd_e hg
    refine mr_there S hK hI c2 ex3 dX1_come_9 ?_
    refine lv_if_eq (tgt := 14) hx hb dX1_come_10 (by decide) (fun c4 => ?_) (fun c4 => ?_)
    · have hg := cIf_te c4 hg
      refine lv_aload_n hx hb dX1_come_14 rfl (lv_at hl 0 rfl) ?_
      refine mg_there S hin hK hI (ix := 62) (by decide +kernel) dX1_come_15 ?_
      refine lv_iload_n hx hb dX1_come_18 rfl (lv_at hl 1 rfl) ?_
      refine lv_iconst (v := 1) hx hb dX1_come_19 (by decide) ?_
      obtain ⟨c5, hg⟩ := ck_e hg
      obtain ⟨σ6, eσ6, hg⟩ := nmd_e hg
      refine mu_there S hK hI c5 eσ6 dX1_come_20 (fun H locs hI => ?_)
      refine lv_aload_n hx hb dX1_come_21 rfl (lv_at hl 0 rfl) ?_
      refine mg_waiting S hin hK hI (ix := 66) (by decide +kernel) dX1_come_22 ?_
      refine lv_aload_n hx hb dX1_come_25 rfl (lv_at hl 0 rfl) ?_
      refine mg_wait S hin hK hI (ix := 80) (by decide +kernel) dX1_come_26 ?_
      refine lv_iload_n hx hb dX1_come_29 rfl (lv_at hl 1 rfl) ?_
      obtain ⟨c7, hg⟩ := ck_e hg
      obtain ⟨σ8, eσ8, hg⟩ := nmd_e hg
      refine mu_waiting S hK hI c7 eσ8 dX1_come_30 (fun H locs hI => ?_)
      refine lv_aload_n hx hb dX1_come_31 rfl (lv_at hl 0 rfl) ?_
      refine lv_dup hx hb dX1_come_32 rfl ?_
      refine mg_wait S hin hK hI (ix := 80) (by decide +kernel) dX1_come_33 ?_
      refine lv_iconst (v := 1) hx hb dX1_come_36 (by decide) ?_
      refine lv_iadd hx hb dX1_come_37 ?_
      obtain ⟨σ9, eσ9, hg⟩ := nmd_e hg
      refine mp_wait S hin hK hI (ix := 80) (by decide +kernel) eσ9 dX1_come_38 (fun H locs hI => ?_)
      exact me_v S hr hlocks hK hI hg dX1_come_41
    · have hg := cIf_fe c4 hg
      exact me_v S hr hlocks hK hI hg dX1_come_13
-- OwnMemoryModel.look
abbrev rX1_look : Room := { frames := 1, cells := 0, slots := 0, locals := 21 }
theorem nX1_look : yX1_look.cls = RX1 ∧ yX1_look.cls ≠ "java/lang/invoke/MethodHandle" ∧ yX1_look.cls ≠ "java/lang/invoke/VarHandle" ∧ (parseMethodDescriptor yX1_look.desc).map (fun d => d.parameters.length) = some 0 := by decide +kernel
noncomputable def LX1_look_7 (F : Nat) (K : Int32 → mS → Option mS) : Nat → Int32 → mS → Option mS
  | 0, _, _ => none
  | n + 1, v1, σ => cIf ((m_objects σ) ≤ v1) (K v1 σ) (ck (vp_in v1 4096) (nmd (m_s_there σ (upd (m_there σ) v1.toNatClampNeg (vp_nar .boolean 0))) (fun σ4 => nmd (v1 + 1) (fun x5 => LX1_look_7 F K  n x5 σ4))))
noncomputable def LX1_look_30 (F : Nat) (K : Int32 → mS → Option mS) : Nat → Int32 → mS → Option mS
  | 0, _, _ => none
  | n + 1, v1, σ => cIf (24 ≤ v1) (K v1 σ) (ck (vp_in v1 24) (nmd (m_root σ v1.toNatClampNeg) (fun x10 => bnp (fX1_come F σ x10) (fun σ11 => nmd (v1 + 1) (fun x12 => LX1_look_30 F K  n x12 σ11)))))
noncomputable def LX1_look_74 (F : Nat) (K : Int32 → mS → Option mS) (v1 : Int32) (v2 : Int32) : Nat → Int32 → mS → Option mS
  | 0, _, _ => none
  | n + 1, v3, σ => ck (vp_in v2 4096) (nmd (m_links σ v2.toNatClampNeg) (fun x20 => cIf (((8 * v2) + x20) ≤ v3) (K v3 σ) (ck (vp_in v3 32768) (nmd (m_link σ v3.toNatClampNeg) (fun x23 => bnp (fX1_come F σ x23) (fun σ24 => nmd (v3 + 1) (fun x25 => LX1_look_74 F K v1 v2 n x25 σ24)))))))
noncomputable def LX1_look_110 (F : Nat) (K : Int32 → mS → Option mS) (v1 : Int32) (v2 : Int32) : Nat → Int32 → mS → Option mS
  | 0, _, _ => none
  | n + 1, v3, σ => ck (vp_in v2 4096) (nmd (m_values σ v2.toNatClampNeg) (fun x30 => cIf (((8 * v2) + x30) ≤ v3) (K v3 σ) (ck (vp_in v3 32768) (nmd (m_refers σ v3.toNatClampNeg) (fun x33 => bnp (fX1_come F σ x33) (fun σ34 => nmd (v3 + 1) (fun x35 => LX1_look_110 F K v1 v2 n x35 σ34)))))))
noncomputable def LX1_look_54 (F : Nat) (K : Int32 → mS → Option mS) : Nat → Int32 → mS → Option mS
  | 0, _, _ => none
  | n + 1, v1, σ => cIf ((m_wait σ) ≤ v1) (K v1 σ) (ck (vp_in v1 4096) (nmd (m_waiting σ v1.toNatClampNeg) (fun x17 => nmd (8 * x17) (fun x18 => LX1_look_74 F (fun w26 σ27 => nmd (8 * x17) (fun x28 => LX1_look_110 F (fun w36 σ37 => ck (vp_in x17 4096) (nmd (m_kind σ37 x17.toNatClampNeg) (fun x39 => cIf (x39 = 3) (ck (vp_in x17 4096) (nmd (m_a σ37 x17.toNatClampNeg) (fun x64 => bnp (fX1_come F σ37 x64) (fun σ65 => ck (vp_in x17 4096) (nmd (m_kind σ65 x17.toNatClampNeg) (fun x67 => cIf (x67 = 3) (ck (vp_in x17 4096) (nmd (m_b σ65 x17.toNatClampNeg) (fun x78 => bnp (fX1_come F σ65 x78) (fun σ79 => ck (vp_in x17 4096) (nmd (m_kind σ79 x17.toNatClampNeg) (fun x81 => cIf (x81 = 4) (ck (vp_in x17 4096) (nmd (m_spread σ79 x17.toNatClampNeg) (fun x85 => bnp (fX1_come F σ79 x85) (fun σ86 => nmd (v1 + 1) (fun x87 => LX1_look_54 F K  n x87 σ86))))) (nmd (v1 + 1) (fun x83 => LX1_look_54 F K  n x83 σ79)))))))) (ck (vp_in x17 4096) (nmd (m_kind σ65 x17.toNatClampNeg) (fun x70 => cIf (x70 = 4) (ck (vp_in x17 4096) (nmd (m_spread σ65 x17.toNatClampNeg) (fun x74 => bnp (fX1_come F σ65 x74) (fun σ75 => nmd (v1 + 1) (fun x76 => LX1_look_54 F K  n x76 σ75))))) (nmd (v1 + 1) (fun x72 => LX1_look_54 F K  n x72 σ65))))))))))) (ck (vp_in x17 4096) (nmd (m_kind σ37 x17.toNatClampNeg) (fun x42 => cIf (x42 = 3) (ck (vp_in x17 4096) (nmd (m_b σ37 x17.toNatClampNeg) (fun x53 => bnp (fX1_come F σ37 x53) (fun σ54 => ck (vp_in x17 4096) (nmd (m_kind σ54 x17.toNatClampNeg) (fun x56 => cIf (x56 = 4) (ck (vp_in x17 4096) (nmd (m_spread σ54 x17.toNatClampNeg) (fun x60 => bnp (fX1_come F σ54 x60) (fun σ61 => nmd (v1 + 1) (fun x62 => LX1_look_54 F K  n x62 σ61))))) (nmd (v1 + 1) (fun x58 => LX1_look_54 F K  n x58 σ54)))))))) (ck (vp_in x17 4096) (nmd (m_kind σ37 x17.toNatClampNeg) (fun x45 => cIf (x45 = 4) (ck (vp_in x17 4096) (nmd (m_spread σ37 x17.toNatClampNeg) (fun x49 => bnp (fX1_come F σ37 x49) (fun σ50 => nmd (v1 + 1) (fun x51 => LX1_look_54 F K  n x51 σ50))))) (nmd (v1 + 1) (fun x47 => LX1_look_54 F K  n x47 σ37))))))))))) v1 x17 F x28 σ27)) v1 x17 F x18 σ))))
noncomputable def fX1_look (F : Nat) (σ : mS) : Option mS := nmd (m_s_wait σ 0) (fun σ1 => LX1_look_7 F (fun w6 σ7 => LX1_look_30 F (fun w13 σ14 => LX1_look_54 F (fun w88 σ89 => some σ89)  F 0 σ14)  F 0 σ7)  F 0 σ1)
set_option maxHeartbeats 4000000 in
set_option maxRecDepth 100000 in
theorem lX1_look_7 {p : Program} {l : Launch} {e : Env} {s : State} {m : MethodId} {args : Array Value} {below : List Frame} {meth : Method} {c : Code} {A : Nat → Prop} {G : gT} {h0 : Nat} {h : (Nat → Nat)} {F : Nat} (S : CallFix p m c cX1_look 4 s args wsX1_look RX1) (hr : meth.sig.returnType = none) (hlocks : meth.locks = false) (hin : ∀ w ∈ wsX10, w ∈ wsX1_look) (hK : gK G s) (hA : ∀ q, s.heap.size ≤ q → A q) {K : Int32 → mS → Option mS} {res : mS} (n : Nat) : ∀ (v1 : Int32) (σ : mS) (H : Heap) (locs : List Loc) (ls : Array Slot), LX1_look_7 F K n v1 σ = some res → mI s A G h0 h σ H locs → lv_has ls 4 [(0, .ref h0), (1, .int v1)] → (∀ (v1 : Int32) (σ : mS) (H : Heap) (locs : List Loc) (ls : Array Slot), K v1 σ = some res → mI s A G h0 h σ H locs → lv_has ls 4 [(0, .ref h0), (1, .int v1)] → W p l e rX1_look s m args below meth c H locs 0 0 (MQ below (mQv G h0 h res A) args s 0 0 A) (F0 m 28 ls [])) → W p l e rX1_look s m args below meth c H locs 0 0 (MQ below (mQv G h0 h res A) args s 0 0 A) (F0 m 7 ls []) := by
  have hx := S.1
  have hb := S.2.1
  have hts := S.2.2.2.2
  have hown := S.2.2.2.1
  induction n with
  | zero => intro v1 σ H locs ls hg; rw [LX1_look_7] at hg; cases hg
  | succ n ih =>
    intro v1 σ H locs ls hg hI hl kk
    rw [LX1_look_7] at hg
    refine lv_iload_n hx hb dX1_look_7 rfl (lv_at hl 1 rfl) ?_
    refine lv_aload_n hx hb dX1_look_8 rfl (lv_at hl 0 rfl) ?_
    refine mg_objects S hin hK hI (ix := 13) (by decide +kernel) dX1_look_9 ?_
    refine lv_icmp_ge (tgt := 28) hx hb dX1_look_12 (by decide) (fun c2 => ?_) (fun c2 => ?_)
    · have hg := cIf_te c2 hg
      exact kk v1 σ H locs ls hg hI (lv_sub hl [0, 1] rfl)
    · have hg := cIf_fe c2 hg
      refine lv_aload_n hx hb dX1_look_15 rfl (lv_at hl 0 rfl) ?_
      refine mg_there S hin hK hI (ix := 62) (by decide +kernel) dX1_look_16 ?_
      refine lv_iload_n hx hb dX1_look_19 rfl (lv_at hl 1 rfl) ?_
      refine lv_iconst (v := 0) hx hb dX1_look_20 (by decide) ?_
      obtain ⟨c3, hg⟩ := ck_e hg
      obtain ⟨σ4, eσ4, hg⟩ := nmd_e hg
      refine mu_there S hK hI c3 eσ4 dX1_look_21 (fun H locs hI => ?_)
      obtain ⟨x5, ex5, hg⟩ := nmd_e hg
      refine lv_iinc (v := x5) (lv' := [(1, .int x5), (0, .ref h0)]) hx hb dX1_look_22 hl (k := 1) rfl (by rw [ex5]; rfl) (by decide) rfl (fun ls hl => ?_)
      refine lv_goto (tgt := 7) hx hb dX1_look_25 (by decide) ?_
      exact ih x5 σ4 H locs ls hg hI (lv_sub hl [1, 0] rfl) kk
set_option maxHeartbeats 4000000 in
set_option maxRecDepth 100000 in
theorem lX1_look_30 {p : Program} {l : Launch} {e : Env} {s : State} {m : MethodId} {args : Array Value} {below : List Frame} {meth : Method} {c : Code} {A : Nat → Prop} {G : gT} {h0 : Nat} {h : (Nat → Nat)} {F : Nat} (S : CallFix p m c cX1_look 4 s args wsX1_look RX1) (hr : meth.sig.returnType = none) (hlocks : meth.locks = false) (hin : ∀ w ∈ wsX10, w ∈ wsX1_look) (hK : gK G s) (hA : ∀ q, s.heap.size ≤ q → A q) {K : Int32 → mS → Option mS} {res : mS} (n : Nat) : ∀ (v1 : Int32) (σ : mS) (H : Heap) (locs : List Loc) (ls : Array Slot), LX1_look_30 F K n v1 σ = some res → mI s A G h0 h σ H locs → lv_has ls 4 [(0, .ref h0), (1, .int v1)] → (∀ (v1 : Int32) (σ : mS) (H : Heap) (locs : List Loc) (ls : Array Slot), K v1 σ = some res → mI s A G h0 h σ H locs → lv_has ls 4 [(0, .ref h0), (1, .int v1)] → W p l e rX1_look s m args below meth c H locs 0 0 (MQ below (mQv G h0 h res A) args s 0 0 A) (F0 m 52 ls [])) → W p l e rX1_look s m args below meth c H locs 0 0 (MQ below (mQv G h0 h res A) args s 0 0 A) (F0 m 30 ls []) := by
  have hx := S.1
  have hb := S.2.1
  have hts := S.2.2.2.2
  have hown := S.2.2.2.1
  induction n with
  | zero => intro v1 σ H locs ls hg; rw [LX1_look_30] at hg; cases hg
  | succ n ih =>
    intro v1 σ H locs ls hg hI hl kk
    rw [LX1_look_30] at hg
    refine lv_iload_n hx hb dX1_look_30 rfl (lv_at hl 1 rfl) ?_
    refine lv_bipush (v := 24) hx hb dX1_look_31 (by decide) ?_
    refine lv_icmp_ge (tgt := 52) hx hb dX1_look_33 (by decide) (fun c8 => ?_) (fun c8 => ?_)
    · have hg := cIf_te c8 hg
      exact kk v1 σ H locs ls hg hI (lv_sub hl [0, 1] rfl)
    · have hg := cIf_fe c8 hg
      refine lv_aload_n hx hb dX1_look_36 rfl (lv_at hl 0 rfl) ?_
      refine lv_aload_n hx hb dX1_look_37 rfl (lv_at hl 0 rfl) ?_
      refine mg_root S hin hK hI (ix := 9) (by decide +kernel) dX1_look_38 ?_
      refine lv_iload_n hx hb dX1_look_41 rfl (lv_at hl 1 rfl) ?_
      obtain ⟨c9, hg⟩ := ck_e hg
      obtain ⟨x10, ex10, hg⟩ := nmd_e hg
      refine mr_root S hK hI c9 ex10 dX1_look_42 ?_
      obtain ⟨σ11, eσ11, hg⟩ := bnp_e hg
      refine mc_v S hK hA hI (As := [.int x10]) (rest := []) (kX1_come l G h0 h H.size F σ x10  σ11 eσ11) (cwV 1 hts gX1_look_X1_come rfl rfl rfl nX1_come ⟨Nat.le_of_ble_eq_true rfl, Nat.le_of_ble_eq_true rfl⟩) rfl hl.1 rfl (Nat.le_of_ble_eq_true rfl) dX1_look_43 ⟨Nat.le_refl _, Nat.le_refl _⟩ (fun H locs hI => ?_)
      obtain ⟨x12, ex12, hg⟩ := nmd_e hg
      refine lv_iinc (v := x12) (lv' := [(1, .int x12), (0, .ref h0)]) hx hb dX1_look_46 hl (k := 1) rfl (by rw [ex12]; rfl) (by decide) rfl (fun ls hl => ?_)
      refine lv_goto (tgt := 30) hx hb dX1_look_49 (by decide) ?_
      exact ih x12 σ11 H locs ls hg hI (lv_sub hl [1, 0] rfl) kk
set_option maxHeartbeats 4000000 in
set_option maxRecDepth 100000 in
theorem lX1_look_74 {p : Program} {l : Launch} {e : Env} {s : State} {m : MethodId} {args : Array Value} {below : List Frame} {meth : Method} {c : Code} {A : Nat → Prop} {G : gT} {h0 : Nat} {h : (Nat → Nat)} {F : Nat} (S : CallFix p m c cX1_look 4 s args wsX1_look RX1) (hr : meth.sig.returnType = none) (hlocks : meth.locks = false) (hin : ∀ w ∈ wsX10, w ∈ wsX1_look) (hK : gK G s) (hA : ∀ q, s.heap.size ≤ q → A q) {K : Int32 → mS → Option mS} {res : mS} (v1 : Int32) (v2 : Int32) (n : Nat) : ∀ (v3 : Int32) (σ : mS) (H : Heap) (locs : List Loc) (ls : Array Slot), LX1_look_74 F K v1 v2 n v3 σ = some res → mI s A G h0 h σ H locs → lv_has ls 4 [(0, .ref h0), (1, .int v1), (2, .int v2), (3, .int v3)] → (∀ (v3 : Int32) (σ : mS) (H : Heap) (locs : List Loc) (ls : Array Slot), K v3 σ = some res → mI s A G h0 h σ H locs → lv_has ls 4 [(0, .ref h0), (1, .int v1), (2, .int v2), (3, .int v3)] → W p l e rX1_look s m args below meth c H locs 0 0 (MQ below (mQv G h0 h res A) args s 0 0 A) (F0 m 105 ls [])) → W p l e rX1_look s m args below meth c H locs 0 0 (MQ below (mQv G h0 h res A) args s 0 0 A) (F0 m 74 ls []) := by
  have hx := S.1
  have hb := S.2.1
  have hts := S.2.2.2.2
  have hown := S.2.2.2.1
  induction n with
  | zero => intro v3 σ H locs ls hg; rw [LX1_look_74] at hg; cases hg
  | succ n ih =>
    intro v3 σ H locs ls hg hI hl kk
    rw [LX1_look_74] at hg
    refine lv_iload_n hx hb dX1_look_74 rfl (lv_at hl 3 rfl) ?_
    refine lv_bipush (v := 8) hx hb dX1_look_75 (by decide) ?_
    refine lv_iload_n hx hb dX1_look_77 rfl (lv_at hl 2 rfl) ?_
    refine lv_imul hx hb dX1_look_78 ?_
    refine lv_aload_n hx hb dX1_look_79 rfl (lv_at hl 0 rfl) ?_
    refine mg_links S hin hK hI (ix := 20) (by decide +kernel) dX1_look_80 ?_
    refine lv_iload_n hx hb dX1_look_83 rfl (lv_at hl 2 rfl) ?_
    obtain ⟨c19, hg⟩ := ck_e hg
    obtain ⟨x20, ex20, hg⟩ := nmd_e hg
    refine mr_links S hK hI c19 ex20 dX1_look_84 ?_
    refine lv_iadd hx hb dX1_look_85 ?_
    refine lv_icmp_ge (tgt := 105) hx hb dX1_look_86 (by decide) (fun c21 => ?_) (fun c21 => ?_)
    · have hg := cIf_te c21 hg
      exact kk v3 σ H locs ls hg hI (lv_sub hl [0, 1, 2, 3] rfl)
    · have hg := cIf_fe c21 hg
      refine lv_aload_n hx hb dX1_look_89 rfl (lv_at hl 0 rfl) ?_
      refine lv_aload_n hx hb dX1_look_90 rfl (lv_at hl 0 rfl) ?_
      refine mg_link S hin hK hI (ix := 30) (by decide +kernel) dX1_look_91 ?_
      refine lv_iload_n hx hb dX1_look_94 rfl (lv_at hl 3 rfl) ?_
      obtain ⟨c22, hg⟩ := ck_e hg
      obtain ⟨x23, ex23, hg⟩ := nmd_e hg
      refine mr_link S hK hI c22 ex23 dX1_look_95 ?_
      obtain ⟨σ24, eσ24, hg⟩ := bnp_e hg
      refine mc_v S hK hA hI (As := [.int x23]) (rest := []) (kX1_come l G h0 h H.size F σ x23  σ24 eσ24) (cwV 1 hts gX1_look_X1_come rfl rfl rfl nX1_come ⟨Nat.le_of_ble_eq_true rfl, Nat.le_of_ble_eq_true rfl⟩) rfl hl.1 rfl (Nat.le_of_ble_eq_true rfl) dX1_look_96 ⟨Nat.le_refl _, Nat.le_refl _⟩ (fun H locs hI => ?_)
      obtain ⟨x25, ex25, hg⟩ := nmd_e hg
      refine lv_iinc (v := x25) (lv' := [(3, .int x25), (0, .ref h0), (1, .int v1), (2, .int v2)]) hx hb dX1_look_99 hl (k := 3) rfl (by rw [ex25]; rfl) (by decide) rfl (fun ls hl => ?_)
      refine lv_goto (tgt := 74) hx hb dX1_look_102 (by decide) ?_
      exact ih x25 σ24 H locs ls hg hI (lv_sub hl [1, 2, 3, 0] rfl) kk
set_option maxHeartbeats 4000000 in
set_option maxRecDepth 100000 in
theorem lX1_look_110 {p : Program} {l : Launch} {e : Env} {s : State} {m : MethodId} {args : Array Value} {below : List Frame} {meth : Method} {c : Code} {A : Nat → Prop} {G : gT} {h0 : Nat} {h : (Nat → Nat)} {F : Nat} (S : CallFix p m c cX1_look 4 s args wsX1_look RX1) (hr : meth.sig.returnType = none) (hlocks : meth.locks = false) (hin : ∀ w ∈ wsX10, w ∈ wsX1_look) (hK : gK G s) (hA : ∀ q, s.heap.size ≤ q → A q) {K : Int32 → mS → Option mS} {res : mS} (v1 : Int32) (v2 : Int32) (n : Nat) : ∀ (v3 : Int32) (σ : mS) (H : Heap) (locs : List Loc) (ls : Array Slot), LX1_look_110 F K v1 v2 n v3 σ = some res → mI s A G h0 h σ H locs → lv_has ls 4 [(0, .ref h0), (1, .int v1), (2, .int v2), (3, .int v3)] → (∀ (v3 : Int32) (σ : mS) (H : Heap) (locs : List Loc) (ls : Array Slot), K v3 σ = some res → mI s A G h0 h σ H locs → lv_has ls 4 [(0, .ref h0), (1, .int v1), (2, .int v2), (3, .int v3)] → W p l e rX1_look s m args below meth c H locs 0 0 (MQ below (mQv G h0 h res A) args s 0 0 A) (F0 m 141 ls [])) → W p l e rX1_look s m args below meth c H locs 0 0 (MQ below (mQv G h0 h res A) args s 0 0 A) (F0 m 110 ls []) := by
  have hx := S.1
  have hb := S.2.1
  have hts := S.2.2.2.2
  have hown := S.2.2.2.1
  induction n with
  | zero => intro v3 σ H locs ls hg; rw [LX1_look_110] at hg; cases hg
  | succ n ih =>
    intro v3 σ H locs ls hg hI hl kk
    rw [LX1_look_110] at hg
    refine lv_iload_n hx hb dX1_look_110 rfl (lv_at hl 3 rfl) ?_
    refine lv_bipush (v := 8) hx hb dX1_look_111 (by decide) ?_
    refine lv_iload_n hx hb dX1_look_113 rfl (lv_at hl 2 rfl) ?_
    refine lv_imul hx hb dX1_look_114 ?_
    refine lv_aload_n hx hb dX1_look_115 rfl (lv_at hl 0 rfl) ?_
    refine mg_values S hin hK hI (ix := 23) (by decide +kernel) dX1_look_116 ?_
    refine lv_iload_n hx hb dX1_look_119 rfl (lv_at hl 2 rfl) ?_
    obtain ⟨c29, hg⟩ := ck_e hg
    obtain ⟨x30, ex30, hg⟩ := nmd_e hg
    refine mr_values S hK hI c29 ex30 dX1_look_120 ?_
    refine lv_iadd hx hb dX1_look_121 ?_
    refine lv_icmp_ge (tgt := 141) hx hb dX1_look_122 (by decide) (fun c31 => ?_) (fun c31 => ?_)
    · have hg := cIf_te c31 hg
      exact kk v3 σ H locs ls hg hI (lv_sub hl [0, 1, 2, 3] rfl)
    · have hg := cIf_fe c31 hg
      refine lv_aload_n hx hb dX1_look_125 rfl (lv_at hl 0 rfl) ?_
      refine lv_aload_n hx hb dX1_look_126 rfl (lv_at hl 0 rfl) ?_
      refine mg_refers S hin hK hI (ix := 37) (by decide +kernel) dX1_look_127 ?_
      refine lv_iload_n hx hb dX1_look_130 rfl (lv_at hl 3 rfl) ?_
      obtain ⟨c32, hg⟩ := ck_e hg
      obtain ⟨x33, ex33, hg⟩ := nmd_e hg
      refine mr_refers S hK hI c32 ex33 dX1_look_131 ?_
      obtain ⟨σ34, eσ34, hg⟩ := bnp_e hg
      refine mc_v S hK hA hI (As := [.int x33]) (rest := []) (kX1_come l G h0 h H.size F σ x33  σ34 eσ34) (cwV 1 hts gX1_look_X1_come rfl rfl rfl nX1_come ⟨Nat.le_of_ble_eq_true rfl, Nat.le_of_ble_eq_true rfl⟩) rfl hl.1 rfl (Nat.le_of_ble_eq_true rfl) dX1_look_132 ⟨Nat.le_refl _, Nat.le_refl _⟩ (fun H locs hI => ?_)
      obtain ⟨x35, ex35, hg⟩ := nmd_e hg
      refine lv_iinc (v := x35) (lv' := [(3, .int x35), (0, .ref h0), (1, .int v1), (2, .int v2)]) hx hb dX1_look_135 hl (k := 3) rfl (by rw [ex35]; rfl) (by decide) rfl (fun ls hl => ?_)
      refine lv_goto (tgt := 110) hx hb dX1_look_138 (by decide) ?_
      exact ih x35 σ34 H locs ls hg hI (lv_sub hl [1, 2, 3, 0] rfl) kk
set_option maxHeartbeats 4000000 in
set_option maxRecDepth 100000 in
theorem lX1_look_54 {p : Program} {l : Launch} {e : Env} {s : State} {m : MethodId} {args : Array Value} {below : List Frame} {meth : Method} {c : Code} {A : Nat → Prop} {G : gT} {h0 : Nat} {h : (Nat → Nat)} {F : Nat} (S : CallFix p m c cX1_look 4 s args wsX1_look RX1) (hr : meth.sig.returnType = none) (hlocks : meth.locks = false) (hin : ∀ w ∈ wsX10, w ∈ wsX1_look) (hK : gK G s) (hA : ∀ q, s.heap.size ≤ q → A q) {K : Int32 → mS → Option mS} {res : mS} (n : Nat) : ∀ (v1 : Int32) (σ : mS) (H : Heap) (locs : List Loc) (ls : Array Slot), LX1_look_54 F K n v1 σ = some res → mI s A G h0 h σ H locs → lv_has ls 4 [(0, .ref h0), (1, .int v1)] → (∀ (v1 : Int32) (σ : mS) (H : Heap) (locs : List Loc) (ls : Array Slot), K v1 σ = some res → mI s A G h0 h σ H locs → lv_has ls 4 [(0, .ref h0), (1, .int v1)] → W p l e rX1_look s m args below meth c H locs 0 0 (MQ below (mQv G h0 h res A) args s 0 0 A) (F0 m 207 ls [])) → W p l e rX1_look s m args below meth c H locs 0 0 (MQ below (mQv G h0 h res A) args s 0 0 A) (F0 m 54 ls []) := by
  have hx := S.1
  have hb := S.2.1
  have hts := S.2.2.2.2
  have hown := S.2.2.2.1
  induction n with
  | zero => intro v1 σ H locs ls hg; rw [LX1_look_54] at hg; cases hg
  | succ n ih =>
    intro v1 σ H locs ls hg hI hl kk
    rw [LX1_look_54] at hg
    refine lv_iload_n hx hb dX1_look_54 rfl (lv_at hl 1 rfl) ?_
    refine lv_aload_n hx hb dX1_look_55 rfl (lv_at hl 0 rfl) ?_
    refine mg_wait S hin hK hI (ix := 80) (by decide +kernel) dX1_look_56 ?_
    refine lv_icmp_ge (tgt := 207) hx hb dX1_look_59 (by decide) (fun c15 => ?_) (fun c15 => ?_)
    · have hg := cIf_te c15 hg
      exact kk v1 σ H locs ls hg hI (lv_sub hl [0, 1] rfl)
    · have hg := cIf_fe c15 hg
      refine lv_aload_n hx hb dX1_look_62 rfl (lv_at hl 0 rfl) ?_
      refine mg_waiting S hin hK hI (ix := 66) (by decide +kernel) dX1_look_63 ?_
      refine lv_iload_n hx hb dX1_look_66 rfl (lv_at hl 1 rfl) ?_
      obtain ⟨c16, hg⟩ := ck_e hg
      obtain ⟨x17, ex17, hg⟩ := nmd_e hg
      refine mr_waiting S hK hI c16 ex17 dX1_look_67 ?_
      refine lv_istore_n (lv' := [(2, .int x17), (0, .ref h0), (1, .int v1)]) hx hb dX1_look_68 rfl hl (by decide) rfl (fun ls hl => ?_)
      refine lv_bipush (v := 8) hx hb dX1_look_69 (by decide) ?_
      refine lv_iload_n hx hb dX1_look_71 rfl (lv_at hl 0 rfl) ?_
      refine lv_imul hx hb dX1_look_72 ?_
      obtain ⟨x18, ex18, hg⟩ := nmd_e hg
      refine wn_i ex18 ?_
      refine lv_istore_n (lv' := [(3, .int x18), (2, .int x17), (0, .ref h0), (1, .int v1)]) hx hb dX1_look_73 rfl hl (by decide) rfl (fun ls hl => ?_)
      refine lX1_look_74 S hr hlocks hin hK hA v1 x17 F x18 σ H locs ls hg hI (lv_sub hl [2, 3, 1, 0] rfl) (fun w26 σ27 H locs ls hg hI hl => ?_)
      refine lv_bipush (v := 8) hx hb dX1_look_105 (by decide) ?_
      refine lv_iload_n hx hb dX1_look_107 rfl (lv_at hl 2 rfl) ?_
      refine lv_imul hx hb dX1_look_108 ?_
      obtain ⟨x28, ex28, hg⟩ := nmd_e hg
      refine wn_i ex28 ?_
      refine lv_istore_n (lv' := [(3, .int x28), (0, .ref h0), (1, .int v1), (2, .int x17)]) hx hb dX1_look_109 rfl hl (by decide) rfl (fun ls hl => ?_)
      refine lX1_look_110 S hr hlocks hin hK hA v1 x17 F x28 σ27 H locs ls hg hI (lv_sub hl [1, 2, 3, 0] rfl) (fun w36 σ37 H locs ls hg hI hl => ?_)
      refine lv_aload_n hx hb dX1_look_141 rfl (lv_at hl 0 rfl) ?_
      refine mg_kind S hin hK hI (ix := 17) (by decide +kernel) dX1_look_142 ?_
      refine lv_iload_n hx hb dX1_look_145 rfl (lv_at hl 2 rfl) ?_
      obtain ⟨c38, hg⟩ := ck_e hg
      obtain ⟨x39, ex39, hg⟩ := nmd_e hg
      refine mr_kind S hK hI c38 ex39 dX1_look_146 ?_
      refine lv_iconst (v := 3) hx hb dX1_look_147 (by decide) ?_
      refine lv_icmp_ne (tgt := 161) hx hb dX1_look_148 (by decide) (fun c40 => ?_) (fun c40 => ?_)
      · have hg := cIf_fe c40 hg
        refine lv_aload_n hx hb dX1_look_161 rfl (lv_at hl 0 rfl) ?_
        refine mg_kind S hin hK hI (ix := 17) (by decide +kernel) dX1_look_162 ?_
        refine lv_iload_n hx hb dX1_look_165 rfl (lv_at hl 2 rfl) ?_
        obtain ⟨c41, hg⟩ := ck_e hg
        obtain ⟨x42, ex42, hg⟩ := nmd_e hg
        refine mr_kind S hK hI c41 ex42 dX1_look_166 ?_
        refine lv_iconst (v := 3) hx hb dX1_look_167 (by decide) ?_
        refine lv_icmp_ne (tgt := 181) hx hb dX1_look_168 (by decide) (fun c43 => ?_) (fun c43 => ?_)
        · have hg := cIf_fe c43 hg
          refine lv_aload_n hx hb dX1_look_181 rfl (lv_at hl 0 rfl) ?_
          refine mg_kind S hin hK hI (ix := 17) (by decide +kernel) dX1_look_182 ?_
          refine lv_iload_n hx hb dX1_look_185 rfl (lv_at hl 2 rfl) ?_
          obtain ⟨c44, hg⟩ := ck_e hg
          obtain ⟨x45, ex45, hg⟩ := nmd_e hg
          refine mr_kind S hK hI c44 ex45 dX1_look_186 ?_
          refine lv_iconst (v := 4) hx hb dX1_look_187 (by decide) ?_
          refine lv_icmp_ne (tgt := 201) hx hb dX1_look_188 (by decide) (fun c46 => ?_) (fun c46 => ?_)
          · have hg := cIf_fe c46 hg
            obtain ⟨x47, ex47, hg⟩ := nmd_e hg
            refine lv_iinc (v := x47) (lv' := [(1, .int x47), (0, .ref h0), (2, .int x17), (3, .int w36)]) hx hb dX1_look_201 hl (k := 1) rfl (by rw [ex47]; rfl) (by decide) rfl (fun ls hl => ?_)
            refine lv_goto (tgt := 54) hx hb dX1_look_204 (by decide) ?_
            exact ih x47 σ37 H locs ls hg hI (lv_sub hl [1, 0] rfl) kk
          · have hg := cIf_te c46 hg
            refine lv_aload_n hx hb dX1_look_191 rfl (lv_at hl 0 rfl) ?_
            refine lv_aload_n hx hb dX1_look_192 rfl (lv_at hl 0 rfl) ?_
            refine mg_spread S hin hK hI (ix := 59) (by decide +kernel) dX1_look_193 ?_
            refine lv_iload_n hx hb dX1_look_196 rfl (lv_at hl 2 rfl) ?_
            obtain ⟨c48, hg⟩ := ck_e hg
            obtain ⟨x49, ex49, hg⟩ := nmd_e hg
            refine mr_spread S hK hI c48 ex49 dX1_look_197 ?_
            obtain ⟨σ50, eσ50, hg⟩ := bnp_e hg
            refine mc_v S hK hA hI (As := [.int x49]) (rest := []) (kX1_come l G h0 h H.size F σ37 x49  σ50 eσ50) (cwV 1 hts gX1_look_X1_come rfl rfl rfl nX1_come ⟨Nat.le_of_ble_eq_true rfl, Nat.le_of_ble_eq_true rfl⟩) rfl hl.1 rfl (Nat.le_of_ble_eq_true rfl) dX1_look_198 ⟨Nat.le_refl _, Nat.le_refl _⟩ (fun H locs hI => ?_)
            obtain ⟨x51, ex51, hg⟩ := nmd_e hg
            refine lv_iinc (v := x51) (lv' := [(1, .int x51), (0, .ref h0), (2, .int x17), (3, .int w36)]) hx hb dX1_look_201 hl (k := 1) rfl (by rw [ex51]; rfl) (by decide) rfl (fun ls hl => ?_)
            refine lv_goto (tgt := 54) hx hb dX1_look_204 (by decide) ?_
            exact ih x51 σ50 H locs ls hg hI (lv_sub hl [1, 0] rfl) kk
        · have hg := cIf_te c43 hg
          refine lv_aload_n hx hb dX1_look_171 rfl (lv_at hl 0 rfl) ?_
          refine lv_aload_n hx hb dX1_look_172 rfl (lv_at hl 0 rfl) ?_
          refine mg_b S hin hK hI (ix := 53) (by decide +kernel) dX1_look_173 ?_
          refine lv_iload_n hx hb dX1_look_176 rfl (lv_at hl 2 rfl) ?_
          obtain ⟨c52, hg⟩ := ck_e hg
          obtain ⟨x53, ex53, hg⟩ := nmd_e hg
          refine mr_b S hK hI c52 ex53 dX1_look_177 ?_
          obtain ⟨σ54, eσ54, hg⟩ := bnp_e hg
          refine mc_v S hK hA hI (As := [.int x53]) (rest := []) (kX1_come l G h0 h H.size F σ37 x53  σ54 eσ54) (cwV 1 hts gX1_look_X1_come rfl rfl rfl nX1_come ⟨Nat.le_of_ble_eq_true rfl, Nat.le_of_ble_eq_true rfl⟩) rfl hl.1 rfl (Nat.le_of_ble_eq_true rfl) dX1_look_178 ⟨Nat.le_refl _, Nat.le_refl _⟩ (fun H locs hI => ?_)
          refine lv_aload_n hx hb dX1_look_181 rfl (lv_at hl 0 rfl) ?_
          refine mg_kind S hin hK hI (ix := 17) (by decide +kernel) dX1_look_182 ?_
          refine lv_iload_n hx hb dX1_look_185 rfl (lv_at hl 2 rfl) ?_
          obtain ⟨c55, hg⟩ := ck_e hg
          obtain ⟨x56, ex56, hg⟩ := nmd_e hg
          refine mr_kind S hK hI c55 ex56 dX1_look_186 ?_
          refine lv_iconst (v := 4) hx hb dX1_look_187 (by decide) ?_
          refine lv_icmp_ne (tgt := 201) hx hb dX1_look_188 (by decide) (fun c57 => ?_) (fun c57 => ?_)
          · have hg := cIf_fe c57 hg
            obtain ⟨x58, ex58, hg⟩ := nmd_e hg
            refine lv_iinc (v := x58) (lv' := [(1, .int x58), (0, .ref h0), (2, .int x17), (3, .int w36)]) hx hb dX1_look_201 hl (k := 1) rfl (by rw [ex58]; rfl) (by decide) rfl (fun ls hl => ?_)
            refine lv_goto (tgt := 54) hx hb dX1_look_204 (by decide) ?_
            exact ih x58 σ54 H locs ls hg hI (lv_sub hl [1, 0] rfl) kk
          · have hg := cIf_te c57 hg
            refine lv_aload_n hx hb dX1_look_191 rfl (lv_at hl 0 rfl) ?_
            refine lv_aload_n hx hb dX1_look_192 rfl (lv_at hl 0 rfl) ?_
            refine mg_spread S hin hK hI (ix := 59) (by decide +kernel) dX1_look_193 ?_
            refine lv_iload_n hx hb dX1_look_196 rfl (lv_at hl 2 rfl) ?_
            obtain ⟨c59, hg⟩ := ck_e hg
            obtain ⟨x60, ex60, hg⟩ := nmd_e hg
            refine mr_spread S hK hI c59 ex60 dX1_look_197 ?_
            obtain ⟨σ61, eσ61, hg⟩ := bnp_e hg
            refine mc_v S hK hA hI (As := [.int x60]) (rest := []) (kX1_come l G h0 h H.size F σ54 x60  σ61 eσ61) (cwV 1 hts gX1_look_X1_come rfl rfl rfl nX1_come ⟨Nat.le_of_ble_eq_true rfl, Nat.le_of_ble_eq_true rfl⟩) rfl hl.1 rfl (Nat.le_of_ble_eq_true rfl) dX1_look_198 ⟨Nat.le_refl _, Nat.le_refl _⟩ (fun H locs hI => ?_)
            obtain ⟨x62, ex62, hg⟩ := nmd_e hg
            refine lv_iinc (v := x62) (lv' := [(1, .int x62), (0, .ref h0), (2, .int x17), (3, .int w36)]) hx hb dX1_look_201 hl (k := 1) rfl (by rw [ex62]; rfl) (by decide) rfl (fun ls hl => ?_)
            refine lv_goto (tgt := 54) hx hb dX1_look_204 (by decide) ?_
            exact ih x62 σ61 H locs ls hg hI (lv_sub hl [1, 0] rfl) kk
      · have hg := cIf_te c40 hg
        refine lv_aload_n hx hb dX1_look_151 rfl (lv_at hl 0 rfl) ?_
        refine lv_aload_n hx hb dX1_look_152 rfl (lv_at hl 0 rfl) ?_
        refine mg_a S hin hK hI (ix := 50) (by decide +kernel) dX1_look_153 ?_
        refine lv_iload_n hx hb dX1_look_156 rfl (lv_at hl 2 rfl) ?_
        obtain ⟨c63, hg⟩ := ck_e hg
        obtain ⟨x64, ex64, hg⟩ := nmd_e hg
        refine mr_a S hK hI c63 ex64 dX1_look_157 ?_
        obtain ⟨σ65, eσ65, hg⟩ := bnp_e hg
        refine mc_v S hK hA hI (As := [.int x64]) (rest := []) (kX1_come l G h0 h H.size F σ37 x64  σ65 eσ65) (cwV 1 hts gX1_look_X1_come rfl rfl rfl nX1_come ⟨Nat.le_of_ble_eq_true rfl, Nat.le_of_ble_eq_true rfl⟩) rfl hl.1 rfl (Nat.le_of_ble_eq_true rfl) dX1_look_158 ⟨Nat.le_refl _, Nat.le_refl _⟩ (fun H locs hI => ?_)
        refine lv_aload_n hx hb dX1_look_161 rfl (lv_at hl 0 rfl) ?_
        refine mg_kind S hin hK hI (ix := 17) (by decide +kernel) dX1_look_162 ?_
        refine lv_iload_n hx hb dX1_look_165 rfl (lv_at hl 2 rfl) ?_
        obtain ⟨c66, hg⟩ := ck_e hg
        obtain ⟨x67, ex67, hg⟩ := nmd_e hg
        refine mr_kind S hK hI c66 ex67 dX1_look_166 ?_
        refine lv_iconst (v := 3) hx hb dX1_look_167 (by decide) ?_
        refine lv_icmp_ne (tgt := 181) hx hb dX1_look_168 (by decide) (fun c68 => ?_) (fun c68 => ?_)
        · have hg := cIf_fe c68 hg
          refine lv_aload_n hx hb dX1_look_181 rfl (lv_at hl 0 rfl) ?_
          refine mg_kind S hin hK hI (ix := 17) (by decide +kernel) dX1_look_182 ?_
          refine lv_iload_n hx hb dX1_look_185 rfl (lv_at hl 2 rfl) ?_
          obtain ⟨c69, hg⟩ := ck_e hg
          obtain ⟨x70, ex70, hg⟩ := nmd_e hg
          refine mr_kind S hK hI c69 ex70 dX1_look_186 ?_
          refine lv_iconst (v := 4) hx hb dX1_look_187 (by decide) ?_
          refine lv_icmp_ne (tgt := 201) hx hb dX1_look_188 (by decide) (fun c71 => ?_) (fun c71 => ?_)
          · have hg := cIf_fe c71 hg
            obtain ⟨x72, ex72, hg⟩ := nmd_e hg
            refine lv_iinc (v := x72) (lv' := [(1, .int x72), (0, .ref h0), (2, .int x17), (3, .int w36)]) hx hb dX1_look_201 hl (k := 1) rfl (by rw [ex72]; rfl) (by decide) rfl (fun ls hl => ?_)
            refine lv_goto (tgt := 54) hx hb dX1_look_204 (by decide) ?_
            exact ih x72 σ65 H locs ls hg hI (lv_sub hl [1, 0] rfl) kk
          · have hg := cIf_te c71 hg
            refine lv_aload_n hx hb dX1_look_191 rfl (lv_at hl 0 rfl) ?_
            refine lv_aload_n hx hb dX1_look_192 rfl (lv_at hl 0 rfl) ?_
            refine mg_spread S hin hK hI (ix := 59) (by decide +kernel) dX1_look_193 ?_
            refine lv_iload_n hx hb dX1_look_196 rfl (lv_at hl 2 rfl) ?_
            obtain ⟨c73, hg⟩ := ck_e hg
            obtain ⟨x74, ex74, hg⟩ := nmd_e hg
            refine mr_spread S hK hI c73 ex74 dX1_look_197 ?_
            obtain ⟨σ75, eσ75, hg⟩ := bnp_e hg
            refine mc_v S hK hA hI (As := [.int x74]) (rest := []) (kX1_come l G h0 h H.size F σ65 x74  σ75 eσ75) (cwV 1 hts gX1_look_X1_come rfl rfl rfl nX1_come ⟨Nat.le_of_ble_eq_true rfl, Nat.le_of_ble_eq_true rfl⟩) rfl hl.1 rfl (Nat.le_of_ble_eq_true rfl) dX1_look_198 ⟨Nat.le_refl _, Nat.le_refl _⟩ (fun H locs hI => ?_)
            obtain ⟨x76, ex76, hg⟩ := nmd_e hg
            refine lv_iinc (v := x76) (lv' := [(1, .int x76), (0, .ref h0), (2, .int x17), (3, .int w36)]) hx hb dX1_look_201 hl (k := 1) rfl (by rw [ex76]; rfl) (by decide) rfl (fun ls hl => ?_)
            refine lv_goto (tgt := 54) hx hb dX1_look_204 (by decide) ?_
            exact ih x76 σ75 H locs ls hg hI (lv_sub hl [1, 0] rfl) kk
        · have hg := cIf_te c68 hg
          refine lv_aload_n hx hb dX1_look_171 rfl (lv_at hl 0 rfl) ?_
          refine lv_aload_n hx hb dX1_look_172 rfl (lv_at hl 0 rfl) ?_
          refine mg_b S hin hK hI (ix := 53) (by decide +kernel) dX1_look_173 ?_
          refine lv_iload_n hx hb dX1_look_176 rfl (lv_at hl 2 rfl) ?_
          obtain ⟨c77, hg⟩ := ck_e hg
          obtain ⟨x78, ex78, hg⟩ := nmd_e hg
          refine mr_b S hK hI c77 ex78 dX1_look_177 ?_
          obtain ⟨σ79, eσ79, hg⟩ := bnp_e hg
          refine mc_v S hK hA hI (As := [.int x78]) (rest := []) (kX1_come l G h0 h H.size F σ65 x78  σ79 eσ79) (cwV 1 hts gX1_look_X1_come rfl rfl rfl nX1_come ⟨Nat.le_of_ble_eq_true rfl, Nat.le_of_ble_eq_true rfl⟩) rfl hl.1 rfl (Nat.le_of_ble_eq_true rfl) dX1_look_178 ⟨Nat.le_refl _, Nat.le_refl _⟩ (fun H locs hI => ?_)
          refine lv_aload_n hx hb dX1_look_181 rfl (lv_at hl 0 rfl) ?_
          refine mg_kind S hin hK hI (ix := 17) (by decide +kernel) dX1_look_182 ?_
          refine lv_iload_n hx hb dX1_look_185 rfl (lv_at hl 2 rfl) ?_
          obtain ⟨c80, hg⟩ := ck_e hg
          obtain ⟨x81, ex81, hg⟩ := nmd_e hg
          refine mr_kind S hK hI c80 ex81 dX1_look_186 ?_
          refine lv_iconst (v := 4) hx hb dX1_look_187 (by decide) ?_
          refine lv_icmp_ne (tgt := 201) hx hb dX1_look_188 (by decide) (fun c82 => ?_) (fun c82 => ?_)
          · have hg := cIf_fe c82 hg
            obtain ⟨x83, ex83, hg⟩ := nmd_e hg
            refine lv_iinc (v := x83) (lv' := [(1, .int x83), (0, .ref h0), (2, .int x17), (3, .int w36)]) hx hb dX1_look_201 hl (k := 1) rfl (by rw [ex83]; rfl) (by decide) rfl (fun ls hl => ?_)
            refine lv_goto (tgt := 54) hx hb dX1_look_204 (by decide) ?_
            exact ih x83 σ79 H locs ls hg hI (lv_sub hl [1, 0] rfl) kk
          · have hg := cIf_te c82 hg
            refine lv_aload_n hx hb dX1_look_191 rfl (lv_at hl 0 rfl) ?_
            refine lv_aload_n hx hb dX1_look_192 rfl (lv_at hl 0 rfl) ?_
            refine mg_spread S hin hK hI (ix := 59) (by decide +kernel) dX1_look_193 ?_
            refine lv_iload_n hx hb dX1_look_196 rfl (lv_at hl 2 rfl) ?_
            obtain ⟨c84, hg⟩ := ck_e hg
            obtain ⟨x85, ex85, hg⟩ := nmd_e hg
            refine mr_spread S hK hI c84 ex85 dX1_look_197 ?_
            obtain ⟨σ86, eσ86, hg⟩ := bnp_e hg
            refine mc_v S hK hA hI (As := [.int x85]) (rest := []) (kX1_come l G h0 h H.size F σ79 x85  σ86 eσ86) (cwV 1 hts gX1_look_X1_come rfl rfl rfl nX1_come ⟨Nat.le_of_ble_eq_true rfl, Nat.le_of_ble_eq_true rfl⟩) rfl hl.1 rfl (Nat.le_of_ble_eq_true rfl) dX1_look_198 ⟨Nat.le_refl _, Nat.le_refl _⟩ (fun H locs hI => ?_)
            obtain ⟨x87, ex87, hg⟩ := nmd_e hg
            refine lv_iinc (v := x87) (lv' := [(1, .int x87), (0, .ref h0), (2, .int x17), (3, .int w36)]) hx hb dX1_look_201 hl (k := 1) rfl (by rw [ex87]; rfl) (by decide) rfl (fun ls hl => ?_)
            refine lv_goto (tgt := 54) hx hb dX1_look_204 (by decide) ?_
            exact ih x87 σ86 H locs ls hg hI (lv_sub hl [1, 0] rfl) kk
set_option maxHeartbeats 4000000 in
set_option maxRecDepth 100000 in
theorem kX1_look (l : Launch) (G : gT) (h0 : Nat) (h : (Nat → Nat)) (sz F : Nat) (σ : mS) (σr : mS) (hg : fX1_look F σ = some σr) : Met l yX1_look wsX1_look rX1_look (mPre G h0 h σ sz []) (mQv G h0 h σr (mA G h0 h σ sz)) 0 0 (mA G h0 h σ sz) := by
  refine mMet (Qc := mQv G h0 h σr) (by decide +kernel) rfl rfl (Nat.le_of_ble_eq_true rfl) ?_
  intro p e s m args below meth c A S hr hlocks hK hA H locs hI ls hl
  have hl : lv_has ls 4 [(0, .ref h0)] := hl
  have hin : ∀ w ∈ wsX10, w ∈ wsX1_look := in_ws
  have hx := S.1
  have hb := S.2.1
  have hts := S.2.2.2.2
  have hown := S.2.2.2.1
  unfold fX1_look at hg
  refine lv_aload_n hx hb dX1_look_0 rfl (lv_at hl 0 rfl) ?_
  refine lv_iconst (v := 0) hx hb dX1_look_1 (by decide) ?_
  obtain ⟨σ1, eσ1, hg⟩ := nmd_e hg
  refine mp_wait S hin hK hI (ix := 80) (by decide +kernel) eσ1 dX1_look_2 (fun H locs hI => ?_)
  refine lv_iconst (v := 0) hx hb dX1_look_5 (by decide) ?_
  refine lv_istore_n (lv' := [(1, .int 0), (0, .ref h0)]) hx hb dX1_look_6 rfl hl (by decide) rfl (fun ls hl => ?_)
  refine lX1_look_7 S hr hlocks hin hK hA  F 0 σ1 H locs ls hg hI (lv_sub hl [1, 0] rfl) (fun w6 σ7 H locs ls hg hI hl => ?_)
  refine lv_iconst (v := 0) hx hb dX1_look_28 (by decide) ?_
  refine lv_istore_n (lv' := [(1, .int 0), (0, .ref h0)]) hx hb dX1_look_29 rfl hl (by decide) rfl (fun ls hl => ?_)
  refine lX1_look_30 S hr hlocks hin hK hA  F 0 σ7 H locs ls hg hI (lv_sub hl [1, 0] rfl) (fun w13 σ14 H locs ls hg hI hl => ?_)
  refine lv_iconst (v := 0) hx hb dX1_look_52 (by decide) ?_
  refine lv_istore_n (lv' := [(1, .int 0), (0, .ref h0)]) hx hb dX1_look_53 rfl hl (by decide) rfl (fun ls hl => ?_)
  refine lX1_look_54 S hr hlocks hin hK hA  F 0 σ14 H locs ls hg hI (lv_sub hl [1, 0] rfl) (fun w88 σ89 H locs ls hg hI hl => ?_)
  exact me_v S hr hlocks hK hI hg dX1_look_207
-- OwnMemoryModel.taken
abbrev rX1_taken : Room := { frames := 2, cells := 0, slots := 0, locals := 44 }
theorem nX1_taken : yX1_taken.cls = RX1 ∧ yX1_taken.cls ≠ "java/lang/invoke/MethodHandle" ∧ yX1_taken.cls ≠ "java/lang/invoke/VarHandle" ∧ (parseMethodDescriptor yX1_taken.desc).map (fun d => d.parameters.length) = some 0 := by decide +kernel
noncomputable def LX1_taken_8 (F : Nat) (K : Int32 → Int32 → mS → Option (Int32 × mS)) : Nat → Int32 → Int32 → mS → Option (Int32 × mS)
  | 0, _, _, _ => none
  | n + 1, v1, v2, σ => cIf ((m_wait σ) ≤ v2) (K v1 v2 σ) (ck (vp_in v2 4096) (nmd (m_waiting σ v2.toNatClampNeg) (fun x4 => bnd (fX1_words F σ x4) (fun r6 σ5 => nmd (v1 + r6) (fun x7 => nmd (v2 + 1) (fun x8 => LX1_taken_8 F K  n x7 x8 σ5))))))
noncomputable def fX1_taken (F : Nat) (σ : mS) : Option (Int32 × mS) := bnp (fX1_look F σ ) (fun σ1 => LX1_taken_8 F (fun w9 w10 σ11 => some (w9, σ11))  F 0 0 σ1)
set_option maxHeartbeats 4000000 in
set_option maxRecDepth 100000 in
theorem lX1_taken_8 {p : Program} {l : Launch} {e : Env} {s : State} {m : MethodId} {args : Array Value} {below : List Frame} {meth : Method} {c : Code} {A : Nat → Prop} {G : gT} {h0 : Nat} {h : (Nat → Nat)} {F : Nat} (S : CallFix p m c cX1_taken 3 s args wsX1_taken RX1) (hr : meth.sig.returnType = some .int) (hlocks : meth.locks = false) (hin : ∀ w ∈ wsX10, w ∈ wsX1_taken) (hK : gK G s) (hA : ∀ q, s.heap.size ≤ q → A q) {K : Int32 → Int32 → mS → Option (Int32 × mS)} {res : (Int32 × mS)} (n : Nat) : ∀ (v1 : Int32) (v2 : Int32) (σ : mS) (H : Heap) (locs : List Loc) (ls : Array Slot), LX1_taken_8 F K n v1 v2 σ = some res → mI s A G h0 h σ H locs → lv_has ls 3 [(0, .ref h0), (1, .int v1), (2, .int v2)] → (∀ (v1 : Int32) (v2 : Int32) (σ : mS) (H : Heap) (locs : List Loc) (ls : Array Slot), K v1 v2 σ = some res → mI s A G h0 h σ H locs → lv_has ls 3 [(0, .ref h0), (1, .int v1), (2, .int v2)] → W p l e rX1_taken s m args below meth c H locs 0 0 (MQ below (mQi G h0 h res.1 res.2 A) args s 0 0 A) (F0 m 35 ls [])) → W p l e rX1_taken s m args below meth c H locs 0 0 (MQ below (mQi G h0 h res.1 res.2 A) args s 0 0 A) (F0 m 8 ls []) := by
  have hx := S.1
  have hb := S.2.1
  have hts := S.2.2.2.2
  have hown := S.2.2.2.1
  induction n with
  | zero => intro v1 v2 σ H locs ls hg; rw [LX1_taken_8] at hg; cases hg
  | succ n ih =>
    intro v1 v2 σ H locs ls hg hI hl kk
    rw [LX1_taken_8] at hg
    refine lv_iload_n hx hb dX1_taken_8 rfl (lv_at hl 2 rfl) ?_
    refine lv_aload_n hx hb dX1_taken_9 rfl (lv_at hl 0 rfl) ?_
    refine mg_wait S hin hK hI (ix := 80) (by decide +kernel) dX1_taken_10 ?_
    refine lv_icmp_ge (tgt := 35) hx hb dX1_taken_13 (by decide) (fun c2 => ?_) (fun c2 => ?_)
    · have hg := cIf_te c2 hg
      exact kk v1 v2 σ H locs ls hg hI (lv_sub hl [0, 1, 2] rfl)
    · have hg := cIf_fe c2 hg
      refine lv_iload_n hx hb dX1_taken_16 rfl (lv_at hl 1 rfl) ?_
      refine lv_aload_n hx hb dX1_taken_17 rfl (lv_at hl 0 rfl) ?_
      refine lv_aload_n hx hb dX1_taken_18 rfl (lv_at hl 0 rfl) ?_
      refine mg_waiting S hin hK hI (ix := 66) (by decide +kernel) dX1_taken_19 ?_
      refine lv_iload_n hx hb dX1_taken_22 rfl (lv_at hl 2 rfl) ?_
      obtain ⟨c3, hg⟩ := ck_e hg
      obtain ⟨x4, ex4, hg⟩ := nmd_e hg
      refine mr_waiting S hK hI c3 ex4 dX1_taken_23 ?_
      obtain ⟨r6, σ5, er6, hg⟩ := bnd_e hg
      refine mc_i S hK hA hI (As := [.int x4]) (rest := [.int v1]) (kX1_words l G h0 h H.size F σ x4  r6 σ5 er6) (cwV 1 hts gX1_taken_X1_words rfl rfl rfl nX1_words ⟨Nat.le_of_ble_eq_true rfl, Nat.le_of_ble_eq_true rfl⟩) rfl hl.1 rfl (Nat.le_of_ble_eq_true rfl) dX1_taken_24 ⟨Nat.le_refl _, Nat.le_refl _⟩ (fun H locs hI => ?_)
      refine lv_iadd hx hb dX1_taken_27 ?_
      obtain ⟨x7, ex7, hg⟩ := nmd_e hg
      refine wn_i ex7 ?_
      refine lv_istore_n (lv' := [(1, .int x7), (0, .ref h0), (2, .int v2)]) hx hb dX1_taken_28 rfl hl (by decide) rfl (fun ls hl => ?_)
      obtain ⟨x8, ex8, hg⟩ := nmd_e hg
      refine lv_iinc (v := x8) (lv' := [(2, .int x8), (1, .int x7), (0, .ref h0)]) hx hb dX1_taken_29 hl (k := 2) rfl (by rw [ex8]; rfl) (by decide) rfl (fun ls hl => ?_)
      refine lv_goto (tgt := 8) hx hb dX1_taken_32 (by decide) ?_
      exact ih x7 x8 σ5 H locs ls hg hI (lv_sub hl [2, 1, 0] rfl) kk
set_option maxHeartbeats 4000000 in
set_option maxRecDepth 100000 in
theorem kX1_taken (l : Launch) (G : gT) (h0 : Nat) (h : (Nat → Nat)) (sz F : Nat) (σ : mS) (r : Int32) (σr : mS) (hg : fX1_taken F σ = some (r, σr)) : Met l yX1_taken wsX1_taken rX1_taken (mPre G h0 h σ sz []) (mQi G h0 h r σr (mA G h0 h σ sz)) 0 0 (mA G h0 h σ sz) := by
  refine mMet (Qc := mQi G h0 h r σr) (by decide +kernel) rfl rfl (Nat.le_of_ble_eq_true rfl) ?_
  intro p e s m args below meth c A S hr hlocks hK hA H locs hI ls hl
  have hl : lv_has ls 3 [(0, .ref h0)] := hl
  have hin : ∀ w ∈ wsX10, w ∈ wsX1_taken := by decide +kernel
  have hx := S.1
  have hb := S.2.1
  have hts := S.2.2.2.2
  have hown := S.2.2.2.1
  unfold fX1_taken at hg
  refine lv_aload_n hx hb dX1_taken_0 rfl (lv_at hl 0 rfl) ?_
  obtain ⟨σ1, eσ1, hg⟩ := bnp_e hg
  refine mc_v S hK hA hI (As := []) (rest := []) (kX1_look l G h0 h H.size F σ  σ1 eσ1) (cwV 0 hts gX1_taken_X1_look rfl rfl rfl nX1_look ⟨Nat.le_of_ble_eq_true rfl, Nat.le_of_ble_eq_true rfl⟩) rfl hl.1 rfl (Nat.le_of_ble_eq_true rfl) dX1_taken_1 ⟨Nat.le_refl _, Nat.le_refl _⟩ (fun H locs hI => ?_)
  refine lv_iconst (v := 0) hx hb dX1_taken_4 (by decide) ?_
  refine lv_istore_n (lv' := [(1, .int 0), (0, .ref h0)]) hx hb dX1_taken_5 rfl hl (by decide) rfl (fun ls hl => ?_)
  refine lv_iconst (v := 0) hx hb dX1_taken_6 (by decide) ?_
  refine lv_istore_n (lv' := [(2, .int 0), (1, .int 0), (0, .ref h0)]) hx hb dX1_taken_7 rfl hl (by decide) rfl (fun ls hl => ?_)
  refine lX1_taken_8 S hr hlocks hin hK hA  F 0 0 σ1 H locs ls hg hI (lv_sub hl [2, 1, 0] rfl) (fun w9 w10 σ11 H locs ls hg hI hl => ?_)
  refine lv_iload_n hx hb dX1_taken_35 rfl (lv_at hl 1 rfl) ?_
  exact me_i S hr hlocks hK hI hg dX1_taken_36
-- OwnMemoryModel.make
abbrev rX1_make : Room := { frames := 3, cells := 0, slots := 0, locals := 66 }
theorem nX1_make : yX1_make.cls = RX1 ∧ yX1_make.cls ≠ "java/lang/invoke/MethodHandle" ∧ yX1_make.cls ≠ "java/lang/invoke/VarHandle" ∧ (parseMethodDescriptor yX1_make.desc).map (fun d => d.parameters.length) = some 3 := by decide +kernel
noncomputable def fX1_make (F : Nat) (σ : mS) (p1 : Int32) (p2 : Int32) (p3 : Int32) : Option (Int32 × mS) := ck (vp_in (m_objects σ) 4096) (nmd (m_s_kind σ (upd (m_kind σ) (m_objects σ).toNatClampNeg p1)) (fun σ2 => ck (vp_in (m_objects σ2) 4096) (nmd (m_s_length σ2 (upd (m_length σ2) (m_objects σ2).toNatClampNeg p2)) (fun σ4 => ck (vp_in (m_objects σ4) 4096) (nmd (m_s_madeOf σ4 (upd (m_madeOf σ4) (m_objects σ4).toNatClampNeg p3)) (fun σ6 => bnd (fX1_taken F σ6 ) (fun r8 σ7 => bnd (fX1_words F σ7 (m_objects σ7)) (fun r10 σ9 => cIf ((r8 + r10) ≤ (m_limit σ9)) (nmd (m_s_objects σ9 ((m_objects σ9) + 1)) (fun σ12 => some (((m_objects σ12) - 1), σ12))) (ck (vp_in (m_objects σ9) 4096) (nmd (m_s_links σ9 (upd (m_links σ9) (m_objects σ9).toNatClampNeg 0)) (fun σ14 => ck (vp_in (m_objects σ14) 4096) (nmd (m_s_values σ14 (upd (m_values σ14) (m_objects σ14).toNatClampNeg 0)) (fun σ16 => ck (vp_in (m_objects σ16) 4096) (nmd (m_s_plain σ16 (upd (m_plain σ16) (m_objects σ16).toNatClampNeg 0)) (fun σ18 => some (0, σ18))))))))))))))))
set_option maxHeartbeats 4000000 in
set_option maxRecDepth 100000 in
theorem kX1_make (l : Launch) (G : gT) (h0 : Nat) (h : (Nat → Nat)) (sz F : Nat) (σ : mS) (p1 : Int32) (p2 : Int32) (p3 : Int32) (r : Int32) (σr : mS) (hg : fX1_make F σ p1 p2 p3 = some (r, σr)) : Met l yX1_make wsX1_make rX1_make (mPre G h0 h σ sz [.int p1, .int p2, .int p3]) (mQi G h0 h r σr (mA G h0 h σ sz)) 0 0 (mA G h0 h σ sz) := by
  refine mMet (Qc := mQi G h0 h r σr) (by decide +kernel) rfl rfl (Nat.le_of_ble_eq_true rfl) ?_
  intro p e s m args below meth c A S hr hlocks hK hA H locs hI ls hl
  have hl : lv_has ls 4 [(0, .ref h0), (1, .int p1), (2, .int p2), (3, .int p3)] := hl
  have hin : ∀ w ∈ wsX10, w ∈ wsX1_make := by decide +kernel
  have hx := S.1
  have hb := S.2.1
  have hts := S.2.2.2.2
  have hown := S.2.2.2.1
  unfold fX1_make at hg
  refine lv_aload_n hx hb dX1_make_0 rfl (lv_at hl 0 rfl) ?_
  refine mg_kind S hin hK hI (ix := 17) (by decide +kernel) dX1_make_1 ?_
  refine lv_aload_n hx hb dX1_make_4 rfl (lv_at hl 0 rfl) ?_
  refine mg_objects S hin hK hI (ix := 13) (by decide +kernel) dX1_make_5 ?_
  refine lv_iload_n hx hb dX1_make_8 rfl (lv_at hl 1 rfl) ?_
  obtain ⟨c1, hg⟩ := ck_e hg
  obtain ⟨σ2, eσ2, hg⟩ := nmd_e hg
  refine mu_kind S hK hI c1 eσ2 dX1_make_9 (fun H locs hI => ?_)
  refine lv_aload_n hx hb dX1_make_10 rfl (lv_at hl 0 rfl) ?_
  refine mg_length S hin hK hI (ix := 44) (by decide +kernel) dX1_make_11 ?_
  refine lv_aload_n hx hb dX1_make_14 rfl (lv_at hl 0 rfl) ?_
  refine mg_objects S hin hK hI (ix := 13) (by decide +kernel) dX1_make_15 ?_
  refine lv_iload_n hx hb dX1_make_18 rfl (lv_at hl 2 rfl) ?_
  obtain ⟨c3, hg⟩ := ck_e hg
  obtain ⟨σ4, eσ4, hg⟩ := nmd_e hg
  refine mu_length S hK hI c3 eσ4 dX1_make_19 (fun H locs hI => ?_)
  refine lv_aload_n hx hb dX1_make_20 rfl (lv_at hl 0 rfl) ?_
  refine mg_madeOf S hin hK hI (ix := 47) (by decide +kernel) dX1_make_21 ?_
  refine lv_aload_n hx hb dX1_make_24 rfl (lv_at hl 0 rfl) ?_
  refine mg_objects S hin hK hI (ix := 13) (by decide +kernel) dX1_make_25 ?_
  refine lv_iload_n hx hb dX1_make_28 rfl (lv_at hl 3 rfl) ?_
  obtain ⟨c5, hg⟩ := ck_e hg
  obtain ⟨σ6, eσ6, hg⟩ := nmd_e hg
  refine mu_madeOf S hK hI c5 eσ6 dX1_make_29 (fun H locs hI => ?_)
  refine lv_aload_n hx hb dX1_make_30 rfl (lv_at hl 0 rfl) ?_
  obtain ⟨r8, σ7, er8, hg⟩ := bnd_e hg
  refine mc_i S hK hA hI (As := []) (rest := []) (kX1_taken l G h0 h H.size F σ6  r8 σ7 er8) (cwV 0 hts gX1_make_X1_taken rfl rfl rfl nX1_taken ⟨Nat.le_of_ble_eq_true rfl, Nat.le_of_ble_eq_true rfl⟩) rfl hl.1 rfl (Nat.le_of_ble_eq_true rfl) dX1_make_31 ⟨Nat.le_refl _, Nat.le_refl _⟩ (fun H locs hI => ?_)
  refine lv_aload_n hx hb dX1_make_34 rfl (lv_at hl 0 rfl) ?_
  refine lv_aload_n hx hb dX1_make_35 rfl (lv_at hl 0 rfl) ?_
  refine mg_objects S hin hK hI (ix := 13) (by decide +kernel) dX1_make_36 ?_
  obtain ⟨r10, σ9, er10, hg⟩ := bnd_e hg
  refine mc_i S hK hA hI (As := [.int (m_objects σ7)]) (rest := [.int r8]) (kX1_words l G h0 h H.size F σ7 (m_objects σ7)  r10 σ9 er10) (cwV 1 hts gX1_make_X1_words rfl rfl rfl nX1_words ⟨Nat.le_of_ble_eq_true rfl, Nat.le_of_ble_eq_true rfl⟩) rfl hl.1 rfl (Nat.le_of_ble_eq_true rfl) dX1_make_39 ⟨Nat.le_refl _, Nat.le_refl _⟩ (fun H locs hI => ?_)
  refine lv_iadd hx hb dX1_make_42 ?_
  refine lv_aload_n hx hb dX1_make_43 rfl (lv_at hl 0 rfl) ?_
  refine mg_limit S hin hK hI (ix := 70) (by decide +kernel) dX1_make_44 ?_
  refine lv_icmp_le (tgt := 82) hx hb dX1_make_47 (by decide) (fun c11 => ?_) (fun c11 => ?_)
  · have hg := cIf_te c11 hg
    refine lv_aload_n hx hb dX1_make_82 rfl (lv_at hl 0 rfl) ?_
    refine lv_dup hx hb dX1_make_83 rfl ?_
    refine mg_objects S hin hK hI (ix := 13) (by decide +kernel) dX1_make_84 ?_
    refine lv_iconst (v := 1) hx hb dX1_make_87 (by decide) ?_
    refine lv_iadd hx hb dX1_make_88 ?_
    obtain ⟨σ12, eσ12, hg⟩ := nmd_e hg
    refine mp_objects S hin hK hI (ix := 13) (by decide +kernel) eσ12 dX1_make_89 (fun H locs hI => ?_)
    refine lv_aload_n hx hb dX1_make_92 rfl (lv_at hl 0 rfl) ?_
    refine mg_objects S hin hK hI (ix := 13) (by decide +kernel) dX1_make_93 ?_
    refine lv_iconst (v := 1) hx hb dX1_make_96 (by decide) ?_
    refine lv_isub hx hb dX1_make_97 ?_
    exact me_i S hr hlocks hK hI hg dX1_make_98
  · have hg := cIf_fe c11 hg
    refine lv_aload_n hx hb dX1_make_50 rfl (lv_at hl 0 rfl) ?_
    refine mg_links S hin hK hI (ix := 20) (by decide +kernel) dX1_make_51 ?_
    refine lv_aload_n hx hb dX1_make_54 rfl (lv_at hl 0 rfl) ?_
    refine mg_objects S hin hK hI (ix := 13) (by decide +kernel) dX1_make_55 ?_
    refine lv_iconst (v := 0) hx hb dX1_make_58 (by decide) ?_
    obtain ⟨c13, hg⟩ := ck_e hg
    obtain ⟨σ14, eσ14, hg⟩ := nmd_e hg
    refine mu_links S hK hI c13 eσ14 dX1_make_59 (fun H locs hI => ?_)
    refine lv_aload_n hx hb dX1_make_60 rfl (lv_at hl 0 rfl) ?_
    refine mg_values S hin hK hI (ix := 23) (by decide +kernel) dX1_make_61 ?_
    refine lv_aload_n hx hb dX1_make_64 rfl (lv_at hl 0 rfl) ?_
    refine mg_objects S hin hK hI (ix := 13) (by decide +kernel) dX1_make_65 ?_
    refine lv_iconst (v := 0) hx hb dX1_make_68 (by decide) ?_
    obtain ⟨c15, hg⟩ := ck_e hg
    obtain ⟨σ16, eσ16, hg⟩ := nmd_e hg
    refine mu_values S hK hI c15 eσ16 dX1_make_69 (fun H locs hI => ?_)
    refine lv_aload_n hx hb dX1_make_70 rfl (lv_at hl 0 rfl) ?_
    refine mg_plain S hin hK hI (ix := 26) (by decide +kernel) dX1_make_71 ?_
    refine lv_aload_n hx hb dX1_make_74 rfl (lv_at hl 0 rfl) ?_
    refine mg_objects S hin hK hI (ix := 13) (by decide +kernel) dX1_make_75 ?_
    refine lv_iconst (v := 0) hx hb dX1_make_78 (by decide) ?_
    obtain ⟨c17, hg⟩ := ck_e hg
    obtain ⟨σ18, eσ18, hg⟩ := nmd_e hg
    refine mu_plain S hK hI c17 eσ18 dX1_make_79 (fun H locs hI => ?_)
    refine lv_iconst (v := 0) hx hb dX1_make_80 (by decide) ?_
    exact me_i S hr hlocks hK hI hg dX1_make_81
-- OwnMemoryModel.collect
abbrev rX1_collect : Room := { frames := 3, cells := 0, slots := 0, locals := 66 }
theorem nX1_collect : yX1_collect.cls = RX1 ∧ yX1_collect.cls ≠ "java/lang/invoke/MethodHandle" ∧ yX1_collect.cls ≠ "java/lang/invoke/VarHandle" ∧ (parseMethodDescriptor yX1_collect.desc).map (fun d => d.parameters.length) = some 0 := by decide +kernel
noncomputable def fX1_collect (F : Nat) (σ : mS) : Option (Int32 × mS) := nmd (m_s_thrown σ 0) (fun σ1 => bnd (fX1_taken F σ1 ) (fun r3 σ2 => some (r3, σ2)))
set_option maxHeartbeats 4000000 in
set_option maxRecDepth 100000 in
theorem kX1_collect (l : Launch) (G : gT) (h0 : Nat) (h : (Nat → Nat)) (sz F : Nat) (σ : mS) (r : Int32) (σr : mS) (hg : fX1_collect F σ = some (r, σr)) : Met l yX1_collect wsX1_collect rX1_collect (mPre G h0 h σ sz []) (mQi G h0 h r σr (mA G h0 h σ sz)) 0 0 (mA G h0 h σ sz) := by
  refine mMet (Qc := mQi G h0 h r σr) (by decide +kernel) rfl rfl (Nat.le_of_ble_eq_true rfl) ?_
  intro p e s m args below meth c A S hr hlocks hK hA H locs hI ls hl
  have hl : lv_has ls 1 [(0, .ref h0)] := hl
  have hin : ∀ w ∈ wsX10, w ∈ wsX1_collect := by decide +kernel
  have hx := S.1
  have hb := S.2.1
  have hts := S.2.2.2.2
  have hown := S.2.2.2.1
  unfold fX1_collect at hg
  refine lv_aload_n hx hb dX1_collect_0 rfl (lv_at hl 0 rfl) ?_
  refine lv_iconst (v := 0) hx hb dX1_collect_1 (by decide) ?_
  obtain ⟨σ1, eσ1, hg⟩ := nmd_e hg
  refine mp_thrown S hin hK hI (ix := 73) (by decide +kernel) eσ1 dX1_collect_2 (fun H locs hI => ?_)
  refine lv_aload_n hx hb dX1_collect_5 rfl (lv_at hl 0 rfl) ?_
  obtain ⟨r3, σ2, er3, hg⟩ := bnd_e hg
  refine mc_i S hK hA hI (As := []) (rest := []) (kX1_taken l G h0 h H.size F σ1  r3 σ2 er3) (cwV 0 hts gX1_collect_X1_taken rfl rfl rfl nX1_taken ⟨Nat.le_of_ble_eq_true rfl, Nat.le_of_ble_eq_true rfl⟩) rfl hl.1 rfl (Nat.le_of_ble_eq_true rfl) dX1_collect_6 ⟨Nat.le_refl _, Nat.le_refl _⟩ (fun H locs hI => ?_)
  exact me_i S hr hlocks hK hI hg dX1_collect_9
-- OwnMemoryModel.stress
abbrev rX1_stress : Room := { frames := 0, cells := 0, slots := 0, locals := 0 }
theorem nX1_stress : yX1_stress.cls = RX1 ∧ yX1_stress.cls ≠ "java/lang/invoke/MethodHandle" ∧ yX1_stress.cls ≠ "java/lang/invoke/VarHandle" ∧ (parseMethodDescriptor yX1_stress.desc).map (fun d => d.parameters.length) = some 1 := by decide +kernel
noncomputable def fX1_stress (F : Nat) (σ : mS) (p1 : Int32) : Option mS := cIf (p1 < 0) (nmd (m_s_thrown σ 1) (fun σ2 => some σ2)) (nmd (m_s_thrown σ 0) (fun σ3 => some σ3))
set_option maxHeartbeats 4000000 in
set_option maxRecDepth 100000 in
theorem kX1_stress (l : Launch) (G : gT) (h0 : Nat) (h : (Nat → Nat)) (sz F : Nat) (σ : mS) (p1 : Int32) (σr : mS) (hg : fX1_stress F σ p1 = some σr) : Met l yX1_stress wsX1_stress rX1_stress (mPre G h0 h σ sz [.int p1]) (mQv G h0 h σr (mA G h0 h σ sz)) 0 0 (mA G h0 h σ sz) := by
  refine mMet (Qc := mQv G h0 h σr) (by decide +kernel) rfl rfl (Nat.le_of_ble_eq_true rfl) ?_
  intro p e s m args below meth c A S hr hlocks hK hA H locs hI ls hl
  have hl : lv_has ls 2 [(0, .ref h0), (1, .int p1)] := hl
  have hin : ∀ w ∈ wsX10, w ∈ wsX1_stress := in_ws
  have hx := S.1
  have hb := S.2.1
  have hts := S.2.2.2.2
  have hown := S.2.2.2.1
  unfold fX1_stress at hg
  refine lv_aload_n hx hb dX1_stress_0 rfl (lv_at hl 0 rfl) ?_
  refine lv_iload_n hx hb dX1_stress_1 rfl (lv_at hl 1 rfl) ?_
  refine lv_if_lt (tgt := 9) hx hb dX1_stress_2 (by decide) (fun c1 => ?_) (fun c1 => ?_)
  · have hg := cIf_te c1 hg
    refine lv_iconst (v := 1) hx hb dX1_stress_9 (by decide) ?_
    obtain ⟨σ2, eσ2, hg⟩ := nmd_e hg
    refine mp_thrown S hin hK hI (ix := 73) (by decide +kernel) eσ2 dX1_stress_10 (fun H locs hI => ?_)
    exact me_v S hr hlocks hK hI hg dX1_stress_13
  · have hg := cIf_fe c1 hg
    refine lv_iconst (v := 0) hx hb dX1_stress_5 (by decide) ?_
    refine lv_goto (tgt := 10) hx hb dX1_stress_6 (by decide) ?_
    obtain ⟨σ3, eσ3, hg⟩ := nmd_e hg
    refine mp_thrown S hin hK hI (ix := 73) (by decide +kernel) eσ3 dX1_stress_10 (fun H locs hI => ?_)
    exact me_v S hr hlocks hK hI hg dX1_stress_13
-- OwnMemoryModel.take
abbrev rX1_take : Room := { frames := 4, cells := 0, slots := 0, locals := 89 }
theorem nX1_take : yX1_take.cls = RX1 ∧ yX1_take.cls ≠ "java/lang/invoke/MethodHandle" ∧ yX1_take.cls ≠ "java/lang/invoke/VarHandle" ∧ (parseMethodDescriptor yX1_take.desc).map (fun d => d.parameters.length) = some 4 := by decide +kernel
noncomputable def JX1_take_44 (F : Nat) (σ : mS) (v1 : Int32) (v2 : Int32) (v3 : Int32) (v4 : Int32) (t1 : Int32) : Option mS := bnd (fX1_says F σ t1) (fun r4 σ3 => cIf (r4 = 0) (some σ3) (ck (vp_in (m_objects σ3) 4096) (nmd (m_s_links σ3 (upd (m_links σ3) (m_objects σ3).toNatClampNeg v2)) (fun σ7 => ck (vp_in (m_objects σ7) 4096) (nmd (m_s_values σ7 (upd (m_values σ7) (m_objects σ7).toNatClampNeg v3)) (fun σ9 => ck (vp_in (m_objects σ9) 4096) (nmd (m_s_plain σ9 (upd (m_plain σ9) (m_objects σ9).toNatClampNeg v4)) (fun σ11 => bnd (fX1_make F σ11 1 0 0) (fun r13 σ12 => cIf (r13 = 0) (nmd (m_s_thrown σ12 2) (fun σ17 => some σ17)) (ck (vp_in v1 24) (nmd (m_s_root σ12 (upd (m_root σ12) v1.toNatClampNeg r13)) (fun σ16 => some σ16))))))))))))
noncomputable def JX1_take_43 (F : Nat) (σ : mS) (v1 : Int32) (v2 : Int32) (v3 : Int32) (v4 : Int32) : Option mS := JX1_take_44 F σ v1 v2 v3 v4 0
noncomputable def fX1_take (F : Nat) (σ : mS) (p1 : Int32) (p2 : Int32) (p3 : Int32) (p4 : Int32) : Option mS := bnp (fX1_isRoot F p1) (fun r1 => cIf (r1 = 0) (JX1_take_43 F σ p1 p2 p3 p4) (bnp (fX1_in F p2 0 8) (fun r18 => cIf (r18 = 0) (JX1_take_43 F σ p1 p2 p3 p4) (bnp (fX1_in F p3 0 8) (fun r20 => cIf (r20 = 0) (JX1_take_43 F σ p1 p2 p3 p4) (bnp (fX1_in F p4 0 16) (fun r22 => cIf (r22 = 0) (JX1_take_43 F σ p1 p2 p3 p4) (JX1_take_44 F σ p1 p2 p3 p4 1))))))))
set_option maxHeartbeats 4000000 in
set_option maxRecDepth 100000 in
theorem jX1_take_44 {p : Program} {l : Launch} {e : Env} {s : State} {m : MethodId} {args : Array Value} {below : List Frame} {meth : Method} {c : Code} {A : Nat → Prop} {G : gT} {h0 : Nat} {h : (Nat → Nat)} {F : Nat} (S : CallFix p m c cX1_take 6 s args wsX1_take RX1) (hr : meth.sig.returnType = none) (hlocks : meth.locks = false) (hin : ∀ w ∈ wsX10, w ∈ wsX1_take) (hK : gK G s) (hA : ∀ q, s.heap.size ≤ q → A q) {res : mS} (σ : mS) (v1 : Int32) (v2 : Int32) (v3 : Int32) (v4 : Int32) (t1 : Int32) (H : Heap) (locs : List Loc) (ls : Array Slot) (hg : JX1_take_44 F σ v1 v2 v3 v4 t1 = some res) (hI : mI s A G h0 h σ H locs) (hl : lv_has ls 6 [(0, .ref h0), (1, .int v1), (2, .int v2), (3, .int v3), (4, .int v4)]) : W p l e rX1_take s m args below meth c H locs 0 0 (MQ below (mQv G h0 h res A) args s 0 0 A) (F0 m 44 ls [.int t1, .ref h0]) := by
  have hx := S.1
  have hb := S.2.1
  have hts := S.2.2.2.2
  have hown := S.2.2.2.1
  unfold JX1_take_44 at hg
  obtain ⟨r4, σ3, er4, hg⟩ := bnd_e hg
  refine mc_i S hK hA hI (As := [.int t1]) (rest := []) (kX1_says l G h0 h H.size F σ t1  r4 σ3 er4) (cwV 1 hts gX1_take_X1_says rfl rfl rfl nX1_says ⟨Nat.le_of_ble_eq_true rfl, Nat.le_of_ble_eq_true rfl⟩) rfl hl.1 rfl (Nat.le_of_ble_eq_true rfl) dX1_take_44 ⟨Nat.le_refl _, Nat.le_refl _⟩ (fun H locs hI => ?_)
  refine lv_if_ne (tgt := 51) hx hb dX1_take_47 (by decide) (fun c5 => ?_) (fun c5 => ?_)
  · have hg := cIf_fe c5 hg
    refine lv_aload_n hx hb dX1_take_51 rfl (lv_at hl 0 rfl) ?_
    refine mg_links S hin hK hI (ix := 20) (by decide +kernel) dX1_take_52 ?_
    refine lv_aload_n hx hb dX1_take_55 rfl (lv_at hl 0 rfl) ?_
    refine mg_objects S hin hK hI (ix := 13) (by decide +kernel) dX1_take_56 ?_
    refine lv_iload_n hx hb dX1_take_59 rfl (lv_at hl 2 rfl) ?_
    obtain ⟨c6, hg⟩ := ck_e hg
    obtain ⟨σ7, eσ7, hg⟩ := nmd_e hg
    refine mu_links S hK hI c6 eσ7 dX1_take_60 (fun H locs hI => ?_)
    refine lv_aload_n hx hb dX1_take_61 rfl (lv_at hl 0 rfl) ?_
    refine mg_values S hin hK hI (ix := 23) (by decide +kernel) dX1_take_62 ?_
    refine lv_aload_n hx hb dX1_take_65 rfl (lv_at hl 0 rfl) ?_
    refine mg_objects S hin hK hI (ix := 13) (by decide +kernel) dX1_take_66 ?_
    refine lv_iload_n hx hb dX1_take_69 rfl (lv_at hl 3 rfl) ?_
    obtain ⟨c8, hg⟩ := ck_e hg
    obtain ⟨σ9, eσ9, hg⟩ := nmd_e hg
    refine mu_values S hK hI c8 eσ9 dX1_take_70 (fun H locs hI => ?_)
    refine lv_aload_n hx hb dX1_take_71 rfl (lv_at hl 0 rfl) ?_
    refine mg_plain S hin hK hI (ix := 26) (by decide +kernel) dX1_take_72 ?_
    refine lv_aload_n hx hb dX1_take_75 rfl (lv_at hl 0 rfl) ?_
    refine mg_objects S hin hK hI (ix := 13) (by decide +kernel) dX1_take_76 ?_
    refine lv_iload hx hb dX1_take_79 (lv_at hl 4 rfl) ?_
    obtain ⟨c10, hg⟩ := ck_e hg
    obtain ⟨σ11, eσ11, hg⟩ := nmd_e hg
    refine mu_plain S hK hI c10 eσ11 dX1_take_81 (fun H locs hI => ?_)
    refine lv_aload_n hx hb dX1_take_82 rfl (lv_at hl 0 rfl) ?_
    refine lv_iconst (v := 1) hx hb dX1_take_83 (by decide) ?_
    refine lv_iconst (v := 0) hx hb dX1_take_84 (by decide) ?_
    refine lv_iconst (v := 0) hx hb dX1_take_85 (by decide) ?_
    obtain ⟨r13, σ12, er13, hg⟩ := bnd_e hg
    refine mc_i S hK hA hI (As := [.int 1, .int 0, .int 0]) (rest := []) (kX1_make l G h0 h H.size F σ11 1 0 0  r13 σ12 er13) (cwV 3 hts gX1_take_X1_make rfl rfl rfl nX1_make ⟨Nat.le_of_ble_eq_true rfl, Nat.le_of_ble_eq_true rfl⟩) rfl hl.1 rfl (Nat.le_of_ble_eq_true rfl) dX1_take_86 ⟨Nat.le_refl _, Nat.le_refl _⟩ (fun H locs hI => ?_)
    refine lv_istore (lv' := [(5, .int r13), (0, .ref h0), (1, .int v1), (2, .int v2), (3, .int v3), (4, .int v4)]) hx hb dX1_take_89 hl (by decide) rfl (fun ls hl => ?_)
    refine lv_iload hx hb dX1_take_91 (lv_at hl 0 rfl) ?_
    refine lv_if_ne (tgt := 104) hx hb dX1_take_93 (by decide) (fun c14 => ?_) (fun c14 => ?_)
    · have hg := cIf_fe c14 hg
      refine lv_aload_n hx hb dX1_take_104 rfl (lv_at hl 1 rfl) ?_
      refine mg_root S hin hK hI (ix := 9) (by decide +kernel) dX1_take_105 ?_
      refine lv_iload_n hx hb dX1_take_108 rfl (lv_at hl 2 rfl) ?_
      refine lv_iload hx hb dX1_take_109 (lv_at hl 0 rfl) ?_
      obtain ⟨c15, hg⟩ := ck_e hg
      obtain ⟨σ16, eσ16, hg⟩ := nmd_e hg
      refine mu_root S hK hI c15 eσ16 dX1_take_111 (fun H locs hI => ?_)
      exact me_v S hr hlocks hK hI hg dX1_take_112
    · have hg := cIf_te c14 hg
      refine lv_aload_n hx hb dX1_take_96 rfl (lv_at hl 1 rfl) ?_
      refine lv_iconst (v := 2) hx hb dX1_take_97 (by decide) ?_
      obtain ⟨σ17, eσ17, hg⟩ := nmd_e hg
      refine mp_thrown S hin hK hI (ix := 73) (by decide +kernel) eσ17 dX1_take_98 (fun H locs hI => ?_)
      refine lv_goto (tgt := 112) hx hb dX1_take_101 (by decide) ?_
      exact me_v S hr hlocks hK hI hg dX1_take_112
  · have hg := cIf_te c5 hg
    exact me_v S hr hlocks hK hI hg dX1_take_50
set_option maxHeartbeats 4000000 in
set_option maxRecDepth 100000 in
theorem jX1_take_43 {p : Program} {l : Launch} {e : Env} {s : State} {m : MethodId} {args : Array Value} {below : List Frame} {meth : Method} {c : Code} {A : Nat → Prop} {G : gT} {h0 : Nat} {h : (Nat → Nat)} {F : Nat} (S : CallFix p m c cX1_take 6 s args wsX1_take RX1) (hr : meth.sig.returnType = none) (hlocks : meth.locks = false) (hin : ∀ w ∈ wsX10, w ∈ wsX1_take) (hK : gK G s) (hA : ∀ q, s.heap.size ≤ q → A q) {res : mS} (σ : mS) (v1 : Int32) (v2 : Int32) (v3 : Int32) (v4 : Int32) (H : Heap) (locs : List Loc) (ls : Array Slot) (hg : JX1_take_43 F σ v1 v2 v3 v4 = some res) (hI : mI s A G h0 h σ H locs) (hl : lv_has ls 6 [(0, .ref h0), (1, .int v1), (2, .int v2), (3, .int v3), (4, .int v4)]) : W p l e rX1_take s m args below meth c H locs 0 0 (MQ below (mQv G h0 h res A) args s 0 0 A) (F0 m 43 ls [.ref h0]) := by
  have hx := S.1
  have hb := S.2.1
  have hts := S.2.2.2.2
  have hown := S.2.2.2.1
  unfold JX1_take_43 at hg
  refine lv_iconst (v := 0) hx hb dX1_take_43 (by decide) ?_
  exact jX1_take_44 S hr hlocks hin hK hA σ v1 v2 v3 v4 0 H locs ls hg hI (lv_sub hl [0, 1, 2, 3, 4] rfl)
set_option maxHeartbeats 4000000 in
set_option maxRecDepth 100000 in
theorem kX1_take (l : Launch) (G : gT) (h0 : Nat) (h : (Nat → Nat)) (sz F : Nat) (σ : mS) (p1 : Int32) (p2 : Int32) (p3 : Int32) (p4 : Int32) (σr : mS) (hg : fX1_take F σ p1 p2 p3 p4 = some σr) : Met l yX1_take wsX1_take rX1_take (mPre G h0 h σ sz [.int p1, .int p2, .int p3, .int p4]) (mQv G h0 h σr (mA G h0 h σ sz)) 0 0 (mA G h0 h σ sz) := by
  refine mMet (Qc := mQv G h0 h σr) (by decide +kernel) rfl rfl (Nat.le_of_ble_eq_true rfl) ?_
  intro p e s m args below meth c A S hr hlocks hK hA H locs hI ls hl
  have hl : lv_has ls 6 [(0, .ref h0), (1, .int p1), (2, .int p2), (3, .int p3), (4, .int p4)] := hl
  have hin : ∀ w ∈ wsX10, w ∈ wsX1_take := by decide +kernel
  have hx := S.1
  have hb := S.2.1
  have hts := S.2.2.2.2
  have hown := S.2.2.2.1
  unfold fX1_take at hg
  refine lv_aload_n hx hb dX1_take_0 rfl (lv_at hl 0 rfl) ?_
  refine lv_iload_n hx hb dX1_take_1 rfl (lv_at hl 1 rfl) ?_
  obtain ⟨r1, er1, hg⟩ := bnp_e hg
  refine ms_i S hA hI (As := [.int p1]) (rest := [.ref h0]) (kX1_isRoot l H.size F p1 r1 er1) (va_cwS 1 hts gX1_take_X1_isRoot rfl rfl rfl nX1_isRoot ⟨Nat.le_of_ble_eq_true rfl, Nat.le_of_ble_eq_true rfl⟩) rfl hl.1 rfl (Nat.le_of_ble_eq_true rfl) dX1_take_2 ⟨Nat.le_refl _, Nat.le_refl _⟩ (fun H locs hI => ?_)
  refine lv_if_eq (tgt := 43) hx hb dX1_take_5 (by decide) (fun c2 => ?_) (fun c2 => ?_)
  · have hg := cIf_te c2 hg
    exact jX1_take_43 S hr hlocks hin hK hA σ p1 p2 p3 p4 H locs ls hg hI (lv_sub hl [0, 1, 2, 3, 4] rfl)
  · have hg := cIf_fe c2 hg
    refine lv_iload_n hx hb dX1_take_8 rfl (lv_at hl 2 rfl) ?_
    refine lv_iconst (v := 0) hx hb dX1_take_9 (by decide) ?_
    refine lv_bipush (v := 8) hx hb dX1_take_10 (by decide) ?_
    obtain ⟨r18, er18, hg⟩ := bnp_e hg
    refine ms_i S hA hI (As := [.int p2, .int 0, .int 8]) (rest := [.ref h0]) (kX1_in l H.size F p2 0 8 r18 er18) (va_cwS 3 hts gX1_take_X1_in rfl rfl rfl nX1_in ⟨Nat.le_of_ble_eq_true rfl, Nat.le_of_ble_eq_true rfl⟩) rfl hl.1 rfl (Nat.le_of_ble_eq_true rfl) dX1_take_12 ⟨Nat.le_refl _, Nat.le_refl _⟩ (fun H locs hI => ?_)
    refine lv_if_eq (tgt := 43) hx hb dX1_take_15 (by decide) (fun c19 => ?_) (fun c19 => ?_)
    · have hg := cIf_te c19 hg
      exact jX1_take_43 S hr hlocks hin hK hA σ p1 p2 p3 p4 H locs ls hg hI (lv_sub hl [0, 1, 2, 3, 4] rfl)
    · have hg := cIf_fe c19 hg
      refine lv_iload_n hx hb dX1_take_18 rfl (lv_at hl 3 rfl) ?_
      refine lv_iconst (v := 0) hx hb dX1_take_19 (by decide) ?_
      refine lv_bipush (v := 8) hx hb dX1_take_20 (by decide) ?_
      obtain ⟨r20, er20, hg⟩ := bnp_e hg
      refine ms_i S hA hI (As := [.int p3, .int 0, .int 8]) (rest := [.ref h0]) (kX1_in l H.size F p3 0 8 r20 er20) (va_cwS 3 hts gX1_take_X1_in rfl rfl rfl nX1_in ⟨Nat.le_of_ble_eq_true rfl, Nat.le_of_ble_eq_true rfl⟩) rfl hl.1 rfl (Nat.le_of_ble_eq_true rfl) dX1_take_22 ⟨Nat.le_refl _, Nat.le_refl _⟩ (fun H locs hI => ?_)
      refine lv_if_eq (tgt := 43) hx hb dX1_take_25 (by decide) (fun c21 => ?_) (fun c21 => ?_)
      · have hg := cIf_te c21 hg
        exact jX1_take_43 S hr hlocks hin hK hA σ p1 p2 p3 p4 H locs ls hg hI (lv_sub hl [0, 1, 2, 3, 4] rfl)
      · have hg := cIf_fe c21 hg
        refine lv_iload hx hb dX1_take_28 (lv_at hl 4 rfl) ?_
        refine lv_iconst (v := 0) hx hb dX1_take_30 (by decide) ?_
        refine lv_bipush (v := 16) hx hb dX1_take_31 (by decide) ?_
        obtain ⟨r22, er22, hg⟩ := bnp_e hg
        refine ms_i S hA hI (As := [.int p4, .int 0, .int 16]) (rest := [.ref h0]) (kX1_in l H.size F p4 0 16 r22 er22) (va_cwS 3 hts gX1_take_X1_in rfl rfl rfl nX1_in ⟨Nat.le_of_ble_eq_true rfl, Nat.le_of_ble_eq_true rfl⟩) rfl hl.1 rfl (Nat.le_of_ble_eq_true rfl) dX1_take_33 ⟨Nat.le_refl _, Nat.le_refl _⟩ (fun H locs hI => ?_)
        refine lv_if_eq (tgt := 43) hx hb dX1_take_36 (by decide) (fun c23 => ?_) (fun c23 => ?_)
        · have hg := cIf_te c23 hg
          exact jX1_take_43 S hr hlocks hin hK hA σ p1 p2 p3 p4 H locs ls hg hI (lv_sub hl [0, 1, 2, 3, 4] rfl)
        · have hg := cIf_fe c23 hg
          refine lv_iconst (v := 1) hx hb dX1_take_39 (by decide) ?_
          refine lv_goto (tgt := 44) hx hb dX1_take_40 (by decide) ?_
          exact jX1_take_44 S hr hlocks hin hK hA σ p1 p2 p3 p4 1 H locs ls hg hI (lv_sub hl [0, 1, 2, 3, 4] rfl)
-- OwnMemoryModel.copy
abbrev rX1_copy : Room := { frames := 2, cells := 0, slots := 0, locals := 42 }
theorem nX1_copy : yX1_copy.cls = RX1 ∧ yX1_copy.cls ≠ "java/lang/invoke/MethodHandle" ∧ yX1_copy.cls ≠ "java/lang/invoke/VarHandle" ∧ (parseMethodDescriptor yX1_copy.desc).map (fun d => d.parameters.length) = some 2 := by decide +kernel
noncomputable def JX1_copy_20 (F : Nat) (σ : mS) (v1 : Int32) (v2 : Int32) (t1 : Int32) : Option mS := bnd (fX1_says F σ t1) (fun r4 σ3 => cIf (r4 = 0) (some σ3) (ck (vp_in v2 24) (nmd (m_root σ3 v2.toNatClampNeg) (fun x7 => ck (vp_in v1 24) (nmd (m_s_root σ3 (upd (m_root σ3) v1.toNatClampNeg x7)) (fun σ9 => some σ9))))))
noncomputable def JX1_copy_19 (F : Nat) (σ : mS) (v1 : Int32) (v2 : Int32) : Option mS := JX1_copy_20 F σ v1 v2 0
noncomputable def fX1_copy (F : Nat) (σ : mS) (p1 : Int32) (p2 : Int32) : Option mS := bnp (fX1_isRoot F p1) (fun r1 => cIf (r1 = 0) (JX1_copy_19 F σ p1 p2) (bnp (fX1_isRoot F p2) (fun r10 => cIf (r10 = 0) (JX1_copy_19 F σ p1 p2) (JX1_copy_20 F σ p1 p2 1))))
set_option maxHeartbeats 4000000 in
set_option maxRecDepth 100000 in
theorem jX1_copy_20 {p : Program} {l : Launch} {e : Env} {s : State} {m : MethodId} {args : Array Value} {below : List Frame} {meth : Method} {c : Code} {A : Nat → Prop} {G : gT} {h0 : Nat} {h : (Nat → Nat)} {F : Nat} (S : CallFix p m c cX1_copy 3 s args wsX1_copy RX1) (hr : meth.sig.returnType = none) (hlocks : meth.locks = false) (hin : ∀ w ∈ wsX10, w ∈ wsX1_copy) (hK : gK G s) (hA : ∀ q, s.heap.size ≤ q → A q) {res : mS} (σ : mS) (v1 : Int32) (v2 : Int32) (t1 : Int32) (H : Heap) (locs : List Loc) (ls : Array Slot) (hg : JX1_copy_20 F σ v1 v2 t1 = some res) (hI : mI s A G h0 h σ H locs) (hl : lv_has ls 3 [(0, .ref h0), (1, .int v1), (2, .int v2)]) : W p l e rX1_copy s m args below meth c H locs 0 0 (MQ below (mQv G h0 h res A) args s 0 0 A) (F0 m 20 ls [.int t1, .ref h0]) := by
  have hx := S.1
  have hb := S.2.1
  have hts := S.2.2.2.2
  have hown := S.2.2.2.1
  unfold JX1_copy_20 at hg
  obtain ⟨r4, σ3, er4, hg⟩ := bnd_e hg
  refine mc_i S hK hA hI (As := [.int t1]) (rest := []) (kX1_says l G h0 h H.size F σ t1  r4 σ3 er4) (cwV 1 hts gX1_copy_X1_says rfl rfl rfl nX1_says ⟨Nat.le_of_ble_eq_true rfl, Nat.le_of_ble_eq_true rfl⟩) rfl hl.1 rfl (Nat.le_of_ble_eq_true rfl) dX1_copy_20 ⟨Nat.le_refl _, Nat.le_refl _⟩ (fun H locs hI => ?_)
  refine lv_if_eq (tgt := 38) hx hb dX1_copy_23 (by decide) (fun c5 => ?_) (fun c5 => ?_)
  · have hg := cIf_te c5 hg
    exact me_v S hr hlocks hK hI hg dX1_copy_38
  · have hg := cIf_fe c5 hg
    refine lv_aload_n hx hb dX1_copy_26 rfl (lv_at hl 0 rfl) ?_
    refine mg_root S hin hK hI (ix := 9) (by decide +kernel) dX1_copy_27 ?_
    refine lv_iload_n hx hb dX1_copy_30 rfl (lv_at hl 1 rfl) ?_
    refine lv_aload_n hx hb dX1_copy_31 rfl (lv_at hl 0 rfl) ?_
    refine mg_root S hin hK hI (ix := 9) (by decide +kernel) dX1_copy_32 ?_
    refine lv_iload_n hx hb dX1_copy_35 rfl (lv_at hl 2 rfl) ?_
    obtain ⟨c6, hg⟩ := ck_e hg
    obtain ⟨x7, ex7, hg⟩ := nmd_e hg
    refine mr_root S hK hI c6 ex7 dX1_copy_36 ?_
    obtain ⟨c8, hg⟩ := ck_e hg
    obtain ⟨σ9, eσ9, hg⟩ := nmd_e hg
    refine mu_root S hK hI c8 eσ9 dX1_copy_37 (fun H locs hI => ?_)
    exact me_v S hr hlocks hK hI hg dX1_copy_38
set_option maxHeartbeats 4000000 in
set_option maxRecDepth 100000 in
theorem jX1_copy_19 {p : Program} {l : Launch} {e : Env} {s : State} {m : MethodId} {args : Array Value} {below : List Frame} {meth : Method} {c : Code} {A : Nat → Prop} {G : gT} {h0 : Nat} {h : (Nat → Nat)} {F : Nat} (S : CallFix p m c cX1_copy 3 s args wsX1_copy RX1) (hr : meth.sig.returnType = none) (hlocks : meth.locks = false) (hin : ∀ w ∈ wsX10, w ∈ wsX1_copy) (hK : gK G s) (hA : ∀ q, s.heap.size ≤ q → A q) {res : mS} (σ : mS) (v1 : Int32) (v2 : Int32) (H : Heap) (locs : List Loc) (ls : Array Slot) (hg : JX1_copy_19 F σ v1 v2 = some res) (hI : mI s A G h0 h σ H locs) (hl : lv_has ls 3 [(0, .ref h0), (1, .int v1), (2, .int v2)]) : W p l e rX1_copy s m args below meth c H locs 0 0 (MQ below (mQv G h0 h res A) args s 0 0 A) (F0 m 19 ls [.ref h0]) := by
  have hx := S.1
  have hb := S.2.1
  have hts := S.2.2.2.2
  have hown := S.2.2.2.1
  unfold JX1_copy_19 at hg
  refine lv_iconst (v := 0) hx hb dX1_copy_19 (by decide) ?_
  exact jX1_copy_20 S hr hlocks hin hK hA σ v1 v2 0 H locs ls hg hI (lv_sub hl [0, 1, 2] rfl)
set_option maxHeartbeats 4000000 in
set_option maxRecDepth 100000 in
theorem kX1_copy (l : Launch) (G : gT) (h0 : Nat) (h : (Nat → Nat)) (sz F : Nat) (σ : mS) (p1 : Int32) (p2 : Int32) (σr : mS) (hg : fX1_copy F σ p1 p2 = some σr) : Met l yX1_copy wsX1_copy rX1_copy (mPre G h0 h σ sz [.int p1, .int p2]) (mQv G h0 h σr (mA G h0 h σ sz)) 0 0 (mA G h0 h σ sz) := by
  refine mMet (Qc := mQv G h0 h σr) (by decide +kernel) rfl rfl (Nat.le_of_ble_eq_true rfl) ?_
  intro p e s m args below meth c A S hr hlocks hK hA H locs hI ls hl
  have hl : lv_has ls 3 [(0, .ref h0), (1, .int p1), (2, .int p2)] := hl
  have hin : ∀ w ∈ wsX10, w ∈ wsX1_copy := in_ws
  have hx := S.1
  have hb := S.2.1
  have hts := S.2.2.2.2
  have hown := S.2.2.2.1
  unfold fX1_copy at hg
  refine lv_aload_n hx hb dX1_copy_0 rfl (lv_at hl 0 rfl) ?_
  refine lv_iload_n hx hb dX1_copy_1 rfl (lv_at hl 1 rfl) ?_
  obtain ⟨r1, er1, hg⟩ := bnp_e hg
  refine ms_i S hA hI (As := [.int p1]) (rest := [.ref h0]) (kX1_isRoot l H.size F p1 r1 er1) (va_cwS 1 hts gX1_copy_X1_isRoot rfl rfl rfl nX1_isRoot ⟨Nat.le_of_ble_eq_true rfl, Nat.le_of_ble_eq_true rfl⟩) rfl hl.1 rfl (Nat.le_of_ble_eq_true rfl) dX1_copy_2 ⟨Nat.le_refl _, Nat.le_refl _⟩ (fun H locs hI => ?_)
  refine lv_if_eq (tgt := 19) hx hb dX1_copy_5 (by decide) (fun c2 => ?_) (fun c2 => ?_)
  · have hg := cIf_te c2 hg
    exact jX1_copy_19 S hr hlocks hin hK hA σ p1 p2 H locs ls hg hI (lv_sub hl [0, 1, 2] rfl)
  · have hg := cIf_fe c2 hg
    refine lv_iload_n hx hb dX1_copy_8 rfl (lv_at hl 2 rfl) ?_
    obtain ⟨r10, er10, hg⟩ := bnp_e hg
    refine ms_i S hA hI (As := [.int p2]) (rest := [.ref h0]) (kX1_isRoot l H.size F p2 r10 er10) (va_cwS 1 hts gX1_copy_X1_isRoot rfl rfl rfl nX1_isRoot ⟨Nat.le_of_ble_eq_true rfl, Nat.le_of_ble_eq_true rfl⟩) rfl hl.1 rfl (Nat.le_of_ble_eq_true rfl) dX1_copy_9 ⟨Nat.le_refl _, Nat.le_refl _⟩ (fun H locs hI => ?_)
    refine lv_if_eq (tgt := 19) hx hb dX1_copy_12 (by decide) (fun c11 => ?_) (fun c11 => ?_)
    · have hg := cIf_te c11 hg
      exact jX1_copy_19 S hr hlocks hin hK hA σ p1 p2 H locs ls hg hI (lv_sub hl [0, 1, 2] rfl)
    · have hg := cIf_fe c11 hg
      refine lv_iconst (v := 1) hx hb dX1_copy_15 (by decide) ?_
      refine lv_goto (tgt := 20) hx hb dX1_copy_16 (by decide) ?_
      exact jX1_copy_20 S hr hlocks hin hK hA σ p1 p2 1 H locs ls hg hI (lv_sub hl [0, 1, 2] rfl)
-- OwnMemoryModel.drop
abbrev rX1_drop : Room := { frames := 2, cells := 0, slots := 0, locals := 42 }
theorem nX1_drop : yX1_drop.cls = RX1 ∧ yX1_drop.cls ≠ "java/lang/invoke/MethodHandle" ∧ yX1_drop.cls ≠ "java/lang/invoke/VarHandle" ∧ (parseMethodDescriptor yX1_drop.desc).map (fun d => d.parameters.length) = some 1 := by decide +kernel
noncomputable def fX1_drop (F : Nat) (σ : mS) (p1 : Int32) : Option mS := bnp (fX1_isRoot F p1) (fun r1 => bnd (fX1_says F σ r1) (fun r3 σ2 => cIf (r3 = 0) (some σ2) (ck (vp_in p1 24) (nmd (m_s_root σ2 (upd (m_root σ2) p1.toNatClampNeg 0)) (fun σ6 => some σ6)))))
set_option maxHeartbeats 4000000 in
set_option maxRecDepth 100000 in
theorem kX1_drop (l : Launch) (G : gT) (h0 : Nat) (h : (Nat → Nat)) (sz F : Nat) (σ : mS) (p1 : Int32) (σr : mS) (hg : fX1_drop F σ p1 = some σr) : Met l yX1_drop wsX1_drop rX1_drop (mPre G h0 h σ sz [.int p1]) (mQv G h0 h σr (mA G h0 h σ sz)) 0 0 (mA G h0 h σ sz) := by
  refine mMet (Qc := mQv G h0 h σr) (by decide +kernel) rfl rfl (Nat.le_of_ble_eq_true rfl) ?_
  intro p e s m args below meth c A S hr hlocks hK hA H locs hI ls hl
  have hl : lv_has ls 2 [(0, .ref h0), (1, .int p1)] := hl
  have hin : ∀ w ∈ wsX10, w ∈ wsX1_drop := in_ws
  have hx := S.1
  have hb := S.2.1
  have hts := S.2.2.2.2
  have hown := S.2.2.2.1
  unfold fX1_drop at hg
  refine lv_aload_n hx hb dX1_drop_0 rfl (lv_at hl 0 rfl) ?_
  refine lv_iload_n hx hb dX1_drop_1 rfl (lv_at hl 1 rfl) ?_
  obtain ⟨r1, er1, hg⟩ := bnp_e hg
  refine ms_i S hA hI (As := [.int p1]) (rest := [.ref h0]) (kX1_isRoot l H.size F p1 r1 er1) (va_cwS 1 hts gX1_drop_X1_isRoot rfl rfl rfl nX1_isRoot ⟨Nat.le_of_ble_eq_true rfl, Nat.le_of_ble_eq_true rfl⟩) rfl hl.1 rfl (Nat.le_of_ble_eq_true rfl) dX1_drop_2 ⟨Nat.le_refl _, Nat.le_refl _⟩ (fun H locs hI => ?_)
  obtain ⟨r3, σ2, er3, hg⟩ := bnd_e hg
  refine mc_i S hK hA hI (As := [.int r1]) (rest := []) (kX1_says l G h0 h H.size F σ r1  r3 σ2 er3) (cwV 1 hts gX1_drop_X1_says rfl rfl rfl nX1_says ⟨Nat.le_of_ble_eq_true rfl, Nat.le_of_ble_eq_true rfl⟩) rfl hl.1 rfl (Nat.le_of_ble_eq_true rfl) dX1_drop_5 ⟨Nat.le_refl _, Nat.le_refl _⟩ (fun H locs hI => ?_)
  refine lv_if_eq (tgt := 18) hx hb dX1_drop_8 (by decide) (fun c4 => ?_) (fun c4 => ?_)
  · have hg := cIf_te c4 hg
    exact me_v S hr hlocks hK hI hg dX1_drop_18
  · have hg := cIf_fe c4 hg
    refine lv_aload_n hx hb dX1_drop_11 rfl (lv_at hl 0 rfl) ?_
    refine mg_root S hin hK hI (ix := 9) (by decide +kernel) dX1_drop_12 ?_
    refine lv_iload_n hx hb dX1_drop_15 rfl (lv_at hl 1 rfl) ?_
    refine lv_iconst (v := 0) hx hb dX1_drop_16 (by decide) ?_
    obtain ⟨c5, hg⟩ := ck_e hg
    obtain ⟨σ6, eσ6, hg⟩ := nmd_e hg
    refine mu_root S hK hI c5 eσ6 dX1_drop_17 (fun H locs hI => ?_)
    exact me_v S hr hlocks hK hI hg dX1_drop_18
-- OwnMemoryModel.kind
abbrev rX1_kind : Room := { frames := 2, cells := 0, slots := 0, locals := 42 }
theorem nX1_kind : yX1_kind.cls = RX1 ∧ yX1_kind.cls ≠ "java/lang/invoke/MethodHandle" ∧ yX1_kind.cls ≠ "java/lang/invoke/VarHandle" ∧ (parseMethodDescriptor yX1_kind.desc).map (fun d => d.parameters.length) = some 1 := by decide +kernel
noncomputable def fX1_kind (F : Nat) (σ : mS) (p1 : Int32) : Option (Int32 × mS) := bnp (fX1_isRoot F p1) (fun r1 => bnd (fX1_says F σ r1) (fun r3 σ2 => cIf (r3 = 0) (some (0, σ2)) (ck (vp_in p1 24) (nmd (m_root σ2 p1.toNatClampNeg) (fun x6 => ck (vp_in x6 4096) (nmd (m_kind σ2 x6.toNatClampNeg) (fun x8 => some (x8, σ2))))))))
set_option maxHeartbeats 4000000 in
set_option maxRecDepth 100000 in
theorem kX1_kind (l : Launch) (G : gT) (h0 : Nat) (h : (Nat → Nat)) (sz F : Nat) (σ : mS) (p1 : Int32) (r : Int32) (σr : mS) (hg : fX1_kind F σ p1 = some (r, σr)) : Met l yX1_kind wsX1_kind rX1_kind (mPre G h0 h σ sz [.int p1]) (mQi G h0 h r σr (mA G h0 h σ sz)) 0 0 (mA G h0 h σ sz) := by
  refine mMet (Qc := mQi G h0 h r σr) (by decide +kernel) rfl rfl (Nat.le_of_ble_eq_true rfl) ?_
  intro p e s m args below meth c A S hr hlocks hK hA H locs hI ls hl
  have hl : lv_has ls 2 [(0, .ref h0), (1, .int p1)] := hl
  have hin : ∀ w ∈ wsX10, w ∈ wsX1_kind := in_ws
  have hx := S.1
  have hb := S.2.1
  have hts := S.2.2.2.2
  have hown := S.2.2.2.1
  unfold fX1_kind at hg
  refine lv_aload_n hx hb dX1_kind_0 rfl (lv_at hl 0 rfl) ?_
  refine lv_iload_n hx hb dX1_kind_1 rfl (lv_at hl 1 rfl) ?_
  obtain ⟨r1, er1, hg⟩ := bnp_e hg
  refine ms_i S hA hI (As := [.int p1]) (rest := [.ref h0]) (kX1_isRoot l H.size F p1 r1 er1) (va_cwS 1 hts gX1_kind_X1_isRoot rfl rfl rfl nX1_isRoot ⟨Nat.le_of_ble_eq_true rfl, Nat.le_of_ble_eq_true rfl⟩) rfl hl.1 rfl (Nat.le_of_ble_eq_true rfl) dX1_kind_2 ⟨Nat.le_refl _, Nat.le_refl _⟩ (fun H locs hI => ?_)
  obtain ⟨r3, σ2, er3, hg⟩ := bnd_e hg
  refine mc_i S hK hA hI (As := [.int r1]) (rest := []) (kX1_says l G h0 h H.size F σ r1  r3 σ2 er3) (cwV 1 hts gX1_kind_X1_says rfl rfl rfl nX1_says ⟨Nat.le_of_ble_eq_true rfl, Nat.le_of_ble_eq_true rfl⟩) rfl hl.1 rfl (Nat.le_of_ble_eq_true rfl) dX1_kind_5 ⟨Nat.le_refl _, Nat.le_refl _⟩ (fun H locs hI => ?_)
  refine lv_if_eq (tgt := 25) hx hb dX1_kind_8 (by decide) (fun c4 => ?_) (fun c4 => ?_)
  · have hg := cIf_te c4 hg
    refine lv_iconst (v := 0) hx hb dX1_kind_25 (by decide) ?_
    exact me_i S hr hlocks hK hI hg dX1_kind_26
  · have hg := cIf_fe c4 hg
    refine lv_aload_n hx hb dX1_kind_11 rfl (lv_at hl 0 rfl) ?_
    refine mg_kind S hin hK hI (ix := 17) (by decide +kernel) dX1_kind_12 ?_
    refine lv_aload_n hx hb dX1_kind_15 rfl (lv_at hl 0 rfl) ?_
    refine mg_root S hin hK hI (ix := 9) (by decide +kernel) dX1_kind_16 ?_
    refine lv_iload_n hx hb dX1_kind_19 rfl (lv_at hl 1 rfl) ?_
    obtain ⟨c5, hg⟩ := ck_e hg
    obtain ⟨x6, ex6, hg⟩ := nmd_e hg
    refine mr_root S hK hI c5 ex6 dX1_kind_20 ?_
    obtain ⟨c7, hg⟩ := ck_e hg
    obtain ⟨x8, ex8, hg⟩ := nmd_e hg
    refine mr_kind S hK hI c7 ex8 dX1_kind_21 ?_
    refine lv_goto (tgt := 26) hx hb dX1_kind_22 (by decide) ?_
    exact me_i S hr hlocks hK hI hg dX1_kind_26
-- OwnMemoryModel.same
abbrev rX1_same : Room := { frames := 2, cells := 0, slots := 0, locals := 42 }
theorem nX1_same : yX1_same.cls = RX1 ∧ yX1_same.cls ≠ "java/lang/invoke/MethodHandle" ∧ yX1_same.cls ≠ "java/lang/invoke/VarHandle" ∧ (parseMethodDescriptor yX1_same.desc).map (fun d => d.parameters.length) = some 2 := by decide +kernel
noncomputable def JX1_same_20 (F : Nat) (σ : mS) (v1 : Int32) (v2 : Int32) (t1 : Int32) : Option (Int32 × mS) := bnd (fX1_says F σ t1) (fun r4 σ3 => cIf (r4 = 0) (some (0, σ3)) (ck (vp_in v1 24) (nmd (m_root σ3 v1.toNatClampNeg) (fun x7 => ck (vp_in v2 24) (nmd (m_root σ3 v2.toNatClampNeg) (fun x9 => cIf (x7 = x9) (some (1, σ3)) (some (0, σ3))))))))
noncomputable def JX1_same_19 (F : Nat) (σ : mS) (v1 : Int32) (v2 : Int32) : Option (Int32 × mS) := JX1_same_20 F σ v1 v2 0
noncomputable def fX1_same (F : Nat) (σ : mS) (p1 : Int32) (p2 : Int32) : Option (Int32 × mS) := bnp (fX1_isRoot F p1) (fun r1 => cIf (r1 = 0) (JX1_same_19 F σ p1 p2) (bnp (fX1_isRoot F p2) (fun r11 => cIf (r11 = 0) (JX1_same_19 F σ p1 p2) (JX1_same_20 F σ p1 p2 1))))
set_option maxHeartbeats 4000000 in
set_option maxRecDepth 100000 in
theorem jX1_same_20 {p : Program} {l : Launch} {e : Env} {s : State} {m : MethodId} {args : Array Value} {below : List Frame} {meth : Method} {c : Code} {A : Nat → Prop} {G : gT} {h0 : Nat} {h : (Nat → Nat)} {F : Nat} (S : CallFix p m c cX1_same 3 s args wsX1_same RX1) (hr : meth.sig.returnType = some .boolean) (hlocks : meth.locks = false) (hin : ∀ w ∈ wsX10, w ∈ wsX1_same) (hK : gK G s) (hA : ∀ q, s.heap.size ≤ q → A q) {res : (Int32 × mS)} (σ : mS) (v1 : Int32) (v2 : Int32) (t1 : Int32) (H : Heap) (locs : List Loc) (ls : Array Slot) (hg : JX1_same_20 F σ v1 v2 t1 = some res) (hI : mI s A G h0 h σ H locs) (hl : lv_has ls 3 [(0, .ref h0), (1, .int v1), (2, .int v2)]) : W p l e rX1_same s m args below meth c H locs 0 0 (MQ below (mQi G h0 h res.1 res.2 A) args s 0 0 A) (F0 m 20 ls [.int t1, .ref h0]) := by
  have hx := S.1
  have hb := S.2.1
  have hts := S.2.2.2.2
  have hown := S.2.2.2.1
  unfold JX1_same_20 at hg
  obtain ⟨r4, σ3, er4, hg⟩ := bnd_e hg
  refine mc_i S hK hA hI (As := [.int t1]) (rest := []) (kX1_says l G h0 h H.size F σ t1  r4 σ3 er4) (cwV 1 hts gX1_same_X1_says rfl rfl rfl nX1_says ⟨Nat.le_of_ble_eq_true rfl, Nat.le_of_ble_eq_true rfl⟩) rfl hl.1 rfl (Nat.le_of_ble_eq_true rfl) dX1_same_20 ⟨Nat.le_refl _, Nat.le_refl _⟩ (fun H locs hI => ?_)
  refine lv_if_eq (tgt := 45) hx hb dX1_same_23 (by decide) (fun c5 => ?_) (fun c5 => ?_)
  · have hg := cIf_te c5 hg
    refine lv_iconst (v := 0) hx hb dX1_same_45 (by decide) ?_
    exact me_z S hr hlocks hK hI rfl hg dX1_same_46
  · have hg := cIf_fe c5 hg
    refine lv_aload_n hx hb dX1_same_26 rfl (lv_at hl 0 rfl) ?_
    refine mg_root S hin hK hI (ix := 9) (by decide +kernel) dX1_same_27 ?_
    refine lv_iload_n hx hb dX1_same_30 rfl (lv_at hl 1 rfl) ?_
    obtain ⟨c6, hg⟩ := ck_e hg
    obtain ⟨x7, ex7, hg⟩ := nmd_e hg
    refine mr_root S hK hI c6 ex7 dX1_same_31 ?_
    refine lv_aload_n hx hb dX1_same_32 rfl (lv_at hl 0 rfl) ?_
    refine mg_root S hin hK hI (ix := 9) (by decide +kernel) dX1_same_33 ?_
    refine lv_iload_n hx hb dX1_same_36 rfl (lv_at hl 2 rfl) ?_
    obtain ⟨c8, hg⟩ := ck_e hg
    obtain ⟨x9, ex9, hg⟩ := nmd_e hg
    refine mr_root S hK hI c8 ex9 dX1_same_37 ?_
    refine lv_icmp_ne (tgt := 45) hx hb dX1_same_38 (by decide) (fun c10 => ?_) (fun c10 => ?_)
    · have hg := cIf_fe c10 hg
      refine lv_iconst (v := 0) hx hb dX1_same_45 (by decide) ?_
      exact me_z S hr hlocks hK hI rfl hg dX1_same_46
    · have hg := cIf_te c10 hg
      refine lv_iconst (v := 1) hx hb dX1_same_41 (by decide) ?_
      refine lv_goto (tgt := 46) hx hb dX1_same_42 (by decide) ?_
      exact me_z S hr hlocks hK hI rfl hg dX1_same_46
set_option maxHeartbeats 4000000 in
set_option maxRecDepth 100000 in
theorem jX1_same_19 {p : Program} {l : Launch} {e : Env} {s : State} {m : MethodId} {args : Array Value} {below : List Frame} {meth : Method} {c : Code} {A : Nat → Prop} {G : gT} {h0 : Nat} {h : (Nat → Nat)} {F : Nat} (S : CallFix p m c cX1_same 3 s args wsX1_same RX1) (hr : meth.sig.returnType = some .boolean) (hlocks : meth.locks = false) (hin : ∀ w ∈ wsX10, w ∈ wsX1_same) (hK : gK G s) (hA : ∀ q, s.heap.size ≤ q → A q) {res : (Int32 × mS)} (σ : mS) (v1 : Int32) (v2 : Int32) (H : Heap) (locs : List Loc) (ls : Array Slot) (hg : JX1_same_19 F σ v1 v2 = some res) (hI : mI s A G h0 h σ H locs) (hl : lv_has ls 3 [(0, .ref h0), (1, .int v1), (2, .int v2)]) : W p l e rX1_same s m args below meth c H locs 0 0 (MQ below (mQi G h0 h res.1 res.2 A) args s 0 0 A) (F0 m 19 ls [.ref h0]) := by
  have hx := S.1
  have hb := S.2.1
  have hts := S.2.2.2.2
  have hown := S.2.2.2.1
  unfold JX1_same_19 at hg
  refine lv_iconst (v := 0) hx hb dX1_same_19 (by decide) ?_
  exact jX1_same_20 S hr hlocks hin hK hA σ v1 v2 0 H locs ls hg hI (lv_sub hl [0, 1, 2] rfl)
set_option maxHeartbeats 4000000 in
set_option maxRecDepth 100000 in
theorem kX1_same (l : Launch) (G : gT) (h0 : Nat) (h : (Nat → Nat)) (sz F : Nat) (σ : mS) (p1 : Int32) (p2 : Int32) (r : Int32) (σr : mS) (hg : fX1_same F σ p1 p2 = some (r, σr)) : Met l yX1_same wsX1_same rX1_same (mPre G h0 h σ sz [.int p1, .int p2]) (mQi G h0 h r σr (mA G h0 h σ sz)) 0 0 (mA G h0 h σ sz) := by
  refine mMet (Qc := mQi G h0 h r σr) (by decide +kernel) rfl rfl (Nat.le_of_ble_eq_true rfl) ?_
  intro p e s m args below meth c A S hr hlocks hK hA H locs hI ls hl
  have hl : lv_has ls 3 [(0, .ref h0), (1, .int p1), (2, .int p2)] := hl
  have hin : ∀ w ∈ wsX10, w ∈ wsX1_same := in_ws
  have hx := S.1
  have hb := S.2.1
  have hts := S.2.2.2.2
  have hown := S.2.2.2.1
  unfold fX1_same at hg
  refine lv_aload_n hx hb dX1_same_0 rfl (lv_at hl 0 rfl) ?_
  refine lv_iload_n hx hb dX1_same_1 rfl (lv_at hl 1 rfl) ?_
  obtain ⟨r1, er1, hg⟩ := bnp_e hg
  refine ms_i S hA hI (As := [.int p1]) (rest := [.ref h0]) (kX1_isRoot l H.size F p1 r1 er1) (va_cwS 1 hts gX1_same_X1_isRoot rfl rfl rfl nX1_isRoot ⟨Nat.le_of_ble_eq_true rfl, Nat.le_of_ble_eq_true rfl⟩) rfl hl.1 rfl (Nat.le_of_ble_eq_true rfl) dX1_same_2 ⟨Nat.le_refl _, Nat.le_refl _⟩ (fun H locs hI => ?_)
  refine lv_if_eq (tgt := 19) hx hb dX1_same_5 (by decide) (fun c2 => ?_) (fun c2 => ?_)
  · have hg := cIf_te c2 hg
    exact jX1_same_19 S hr hlocks hin hK hA σ p1 p2 H locs ls hg hI (lv_sub hl [0, 1, 2] rfl)
  · have hg := cIf_fe c2 hg
    refine lv_iload_n hx hb dX1_same_8 rfl (lv_at hl 2 rfl) ?_
    obtain ⟨r11, er11, hg⟩ := bnp_e hg
    refine ms_i S hA hI (As := [.int p2]) (rest := [.ref h0]) (kX1_isRoot l H.size F p2 r11 er11) (va_cwS 1 hts gX1_same_X1_isRoot rfl rfl rfl nX1_isRoot ⟨Nat.le_of_ble_eq_true rfl, Nat.le_of_ble_eq_true rfl⟩) rfl hl.1 rfl (Nat.le_of_ble_eq_true rfl) dX1_same_9 ⟨Nat.le_refl _, Nat.le_refl _⟩ (fun H locs hI => ?_)
    refine lv_if_eq (tgt := 19) hx hb dX1_same_12 (by decide) (fun c12 => ?_) (fun c12 => ?_)
    · have hg := cIf_te c12 hg
      exact jX1_same_19 S hr hlocks hin hK hA σ p1 p2 H locs ls hg hI (lv_sub hl [0, 1, 2] rfl)
    · have hg := cIf_fe c12 hg
      refine lv_iconst (v := 1) hx hb dX1_same_15 (by decide) ?_
      refine lv_goto (tgt := 20) hx hb dX1_same_16 (by decide) ?_
      exact jX1_same_20 S hr hlocks hin hK hA σ p1 p2 1 H locs ls hg hI (lv_sub hl [0, 1, 2] rfl)
-- OwnMemoryModel.isBlock
abbrev rX1_isBlock : Room := { frames := 2, cells := 0, slots := 0, locals := 42 }
theorem nX1_isBlock : yX1_isBlock.cls = RX1 ∧ yX1_isBlock.cls ≠ "java/lang/invoke/MethodHandle" ∧ yX1_isBlock.cls ≠ "java/lang/invoke/VarHandle" ∧ (parseMethodDescriptor yX1_isBlock.desc).map (fun d => d.parameters.length) = some 1 := by decide +kernel
noncomputable def fX1_isBlock (F : Nat) (σ : mS) (p1 : Int32) : Option (Int32 × mS) := bnp (fX1_isRoot F p1) (fun r1 => cIf (r1 = 0) (some (0, σ)) (ck (vp_in p1 24) (nmd (m_root σ p1.toNatClampNeg) (fun x4 => ck (vp_in x4 4096) (nmd (m_kind σ x4.toNatClampNeg) (fun x6 => cIf (x6 = 1) (some (1, σ)) (some (0, σ))))))))
set_option maxHeartbeats 4000000 in
set_option maxRecDepth 100000 in
theorem kX1_isBlock (l : Launch) (G : gT) (h0 : Nat) (h : (Nat → Nat)) (sz F : Nat) (σ : mS) (p1 : Int32) (r : Int32) (σr : mS) (hg : fX1_isBlock F σ p1 = some (r, σr)) : Met l yX1_isBlock wsX1_isBlock rX1_isBlock (mPre G h0 h σ sz [.int p1]) (mQi G h0 h r σr (mA G h0 h σ sz)) 0 0 (mA G h0 h σ sz) := by
  refine mMet (Qc := mQi G h0 h r σr) (by decide +kernel) rfl rfl (Nat.le_of_ble_eq_true rfl) ?_
  intro p e s m args below meth c A S hr hlocks hK hA H locs hI ls hl
  have hl : lv_has ls 2 [(0, .ref h0), (1, .int p1)] := hl
  have hin : ∀ w ∈ wsX10, w ∈ wsX1_isBlock := in_ws
  have hx := S.1
  have hb := S.2.1
  have hts := S.2.2.2.2
  have hown := S.2.2.2.1
  unfold fX1_isBlock at hg
  refine lv_iload_n hx hb dX1_isBlock_0 rfl (lv_at hl 1 rfl) ?_
  obtain ⟨r1, er1, hg⟩ := bnp_e hg
  refine ms_i S hA hI (As := [.int p1]) (rest := []) (kX1_isRoot l H.size F p1 r1 er1) (va_cwS 1 hts gX1_isBlock_X1_isRoot rfl rfl rfl nX1_isRoot ⟨Nat.le_of_ble_eq_true rfl, Nat.le_of_ble_eq_true rfl⟩) rfl hl.1 rfl (Nat.le_of_ble_eq_true rfl) dX1_isBlock_1 ⟨Nat.le_refl _, Nat.le_refl _⟩ (fun H locs hI => ?_)
  refine lv_if_eq (tgt := 26) hx hb dX1_isBlock_4 (by decide) (fun c2 => ?_) (fun c2 => ?_)
  · have hg := cIf_te c2 hg
    refine lv_iconst (v := 0) hx hb dX1_isBlock_26 (by decide) ?_
    exact me_z S hr hlocks hK hI rfl hg dX1_isBlock_27
  · have hg := cIf_fe c2 hg
    refine lv_aload_n hx hb dX1_isBlock_7 rfl (lv_at hl 0 rfl) ?_
    refine mg_kind S hin hK hI (ix := 17) (by decide +kernel) dX1_isBlock_8 ?_
    refine lv_aload_n hx hb dX1_isBlock_11 rfl (lv_at hl 0 rfl) ?_
    refine mg_root S hin hK hI (ix := 9) (by decide +kernel) dX1_isBlock_12 ?_
    refine lv_iload_n hx hb dX1_isBlock_15 rfl (lv_at hl 1 rfl) ?_
    obtain ⟨c3, hg⟩ := ck_e hg
    obtain ⟨x4, ex4, hg⟩ := nmd_e hg
    refine mr_root S hK hI c3 ex4 dX1_isBlock_16 ?_
    obtain ⟨c5, hg⟩ := ck_e hg
    obtain ⟨x6, ex6, hg⟩ := nmd_e hg
    refine mr_kind S hK hI c5 ex6 dX1_isBlock_17 ?_
    refine lv_iconst (v := 1) hx hb dX1_isBlock_18 (by decide) ?_
    refine lv_icmp_ne (tgt := 26) hx hb dX1_isBlock_19 (by decide) (fun c7 => ?_) (fun c7 => ?_)
    · have hg := cIf_fe c7 hg
      refine lv_iconst (v := 0) hx hb dX1_isBlock_26 (by decide) ?_
      exact me_z S hr hlocks hK hI rfl hg dX1_isBlock_27
    · have hg := cIf_te c7 hg
      refine lv_iconst (v := 1) hx hb dX1_isBlock_22 (by decide) ?_
      refine lv_goto (tgt := 27) hx hb dX1_isBlock_23 (by decide) ?_
      exact me_z S hr hlocks hK hI rfl hg dX1_isBlock_27
-- OwnMemoryModel.hasLink
abbrev rX1_hasLink : Room := { frames := 3, cells := 0, slots := 0, locals := 63 }
theorem nX1_hasLink : yX1_hasLink.cls = RX1 ∧ yX1_hasLink.cls ≠ "java/lang/invoke/MethodHandle" ∧ yX1_hasLink.cls ≠ "java/lang/invoke/VarHandle" ∧ (parseMethodDescriptor yX1_hasLink.desc).map (fun d => d.parameters.length) = some 2 := by decide +kernel
noncomputable def fX1_hasLink (F : Nat) (σ : mS) (p1 : Int32) (p2 : Int32) : Option (Int32 × mS) := bnd (fX1_isBlock F σ p1) (fun r2 σ1 => cIf (r2 = 0) (some (0, σ1)) (ck (vp_in p1 24) (nmd (m_root σ1 p1.toNatClampNeg) (fun x5 => ck (vp_in x5 4096) (nmd (m_links σ1 x5.toNatClampNeg) (fun x7 => bnp (fX1_in F p2 0 (x7 - 1)) (fun r8 => cIf (r8 = 0) (some (0, σ1)) (some (1, σ1)))))))))
set_option maxHeartbeats 4000000 in
set_option maxRecDepth 100000 in
theorem kX1_hasLink (l : Launch) (G : gT) (h0 : Nat) (h : (Nat → Nat)) (sz F : Nat) (σ : mS) (p1 : Int32) (p2 : Int32) (r : Int32) (σr : mS) (hg : fX1_hasLink F σ p1 p2 = some (r, σr)) : Met l yX1_hasLink wsX1_hasLink rX1_hasLink (mPre G h0 h σ sz [.int p1, .int p2]) (mQi G h0 h r σr (mA G h0 h σ sz)) 0 0 (mA G h0 h σ sz) := by
  refine mMet (Qc := mQi G h0 h r σr) (by decide +kernel) rfl rfl (Nat.le_of_ble_eq_true rfl) ?_
  intro p e s m args below meth c A S hr hlocks hK hA H locs hI ls hl
  have hl : lv_has ls 3 [(0, .ref h0), (1, .int p1), (2, .int p2)] := hl
  have hin : ∀ w ∈ wsX10, w ∈ wsX1_hasLink := in_ws
  have hx := S.1
  have hb := S.2.1
  have hts := S.2.2.2.2
  have hown := S.2.2.2.1
  unfold fX1_hasLink at hg
  refine lv_aload_n hx hb dX1_hasLink_0 rfl (lv_at hl 0 rfl) ?_
  refine lv_iload_n hx hb dX1_hasLink_1 rfl (lv_at hl 1 rfl) ?_
  obtain ⟨r2, σ1, er2, hg⟩ := bnd_e hg
  refine mc_i S hK hA hI (As := [.int p1]) (rest := []) (kX1_isBlock l G h0 h H.size F σ p1  r2 σ1 er2) (cwV 1 hts gX1_hasLink_X1_isBlock rfl rfl rfl nX1_isBlock ⟨Nat.le_of_ble_eq_true rfl, Nat.le_of_ble_eq_true rfl⟩) rfl hl.1 rfl (Nat.le_of_ble_eq_true rfl) dX1_hasLink_2 ⟨Nat.le_refl _, Nat.le_refl _⟩ (fun H locs hI => ?_)
  refine lv_if_eq (tgt := 33) hx hb dX1_hasLink_5 (by decide) (fun c3 => ?_) (fun c3 => ?_)
  · have hg := cIf_te c3 hg
    refine lv_iconst (v := 0) hx hb dX1_hasLink_33 (by decide) ?_
    exact me_z S hr hlocks hK hI rfl hg dX1_hasLink_34
  · have hg := cIf_fe c3 hg
    refine lv_iload_n hx hb dX1_hasLink_8 rfl (lv_at hl 2 rfl) ?_
    refine lv_iconst (v := 0) hx hb dX1_hasLink_9 (by decide) ?_
    refine lv_aload_n hx hb dX1_hasLink_10 rfl (lv_at hl 0 rfl) ?_
    refine mg_links S hin hK hI (ix := 20) (by decide +kernel) dX1_hasLink_11 ?_
    refine lv_aload_n hx hb dX1_hasLink_14 rfl (lv_at hl 0 rfl) ?_
    refine mg_root S hin hK hI (ix := 9) (by decide +kernel) dX1_hasLink_15 ?_
    refine lv_iload_n hx hb dX1_hasLink_18 rfl (lv_at hl 1 rfl) ?_
    obtain ⟨c4, hg⟩ := ck_e hg
    obtain ⟨x5, ex5, hg⟩ := nmd_e hg
    refine mr_root S hK hI c4 ex5 dX1_hasLink_19 ?_
    obtain ⟨c6, hg⟩ := ck_e hg
    obtain ⟨x7, ex7, hg⟩ := nmd_e hg
    refine mr_links S hK hI c6 ex7 dX1_hasLink_20 ?_
    refine lv_iconst (v := 1) hx hb dX1_hasLink_21 (by decide) ?_
    refine lv_isub hx hb dX1_hasLink_22 ?_
    obtain ⟨r8, er8, hg⟩ := bnp_e hg
    refine ms_i S hA hI (As := [.int p2, .int 0, .int (x7 - 1)]) (rest := []) (kX1_in l H.size F p2 0 (x7 - 1) r8 er8) (va_cwS 3 hts gX1_hasLink_X1_in rfl rfl rfl nX1_in ⟨Nat.le_of_ble_eq_true rfl, Nat.le_of_ble_eq_true rfl⟩) rfl hl.1 rfl (Nat.le_of_ble_eq_true rfl) dX1_hasLink_23 ⟨Nat.le_refl _, Nat.le_refl _⟩ (fun H locs hI => ?_)
    refine lv_if_eq (tgt := 33) hx hb dX1_hasLink_26 (by decide) (fun c9 => ?_) (fun c9 => ?_)
    · have hg := cIf_te c9 hg
      refine lv_iconst (v := 0) hx hb dX1_hasLink_33 (by decide) ?_
      exact me_z S hr hlocks hK hI rfl hg dX1_hasLink_34
    · have hg := cIf_fe c9 hg
      refine lv_iconst (v := 1) hx hb dX1_hasLink_29 (by decide) ?_
      refine lv_goto (tgt := 34) hx hb dX1_hasLink_30 (by decide) ?_
      exact me_z S hr hlocks hK hI rfl hg dX1_hasLink_34
-- OwnMemoryModel.hasValue
abbrev rX1_hasValue : Room := { frames := 3, cells := 0, slots := 0, locals := 63 }
theorem nX1_hasValue : yX1_hasValue.cls = RX1 ∧ yX1_hasValue.cls ≠ "java/lang/invoke/MethodHandle" ∧ yX1_hasValue.cls ≠ "java/lang/invoke/VarHandle" ∧ (parseMethodDescriptor yX1_hasValue.desc).map (fun d => d.parameters.length) = some 2 := by decide +kernel
noncomputable def fX1_hasValue (F : Nat) (σ : mS) (p1 : Int32) (p2 : Int32) : Option (Int32 × mS) := bnd (fX1_isBlock F σ p1) (fun r2 σ1 => cIf (r2 = 0) (some (0, σ1)) (ck (vp_in p1 24) (nmd (m_root σ1 p1.toNatClampNeg) (fun x5 => ck (vp_in x5 4096) (nmd (m_values σ1 x5.toNatClampNeg) (fun x7 => bnp (fX1_in F p2 0 (x7 - 1)) (fun r8 => cIf (r8 = 0) (some (0, σ1)) (some (1, σ1)))))))))
set_option maxHeartbeats 4000000 in
set_option maxRecDepth 100000 in
theorem kX1_hasValue (l : Launch) (G : gT) (h0 : Nat) (h : (Nat → Nat)) (sz F : Nat) (σ : mS) (p1 : Int32) (p2 : Int32) (r : Int32) (σr : mS) (hg : fX1_hasValue F σ p1 p2 = some (r, σr)) : Met l yX1_hasValue wsX1_hasValue rX1_hasValue (mPre G h0 h σ sz [.int p1, .int p2]) (mQi G h0 h r σr (mA G h0 h σ sz)) 0 0 (mA G h0 h σ sz) := by
  refine mMet (Qc := mQi G h0 h r σr) (by decide +kernel) rfl rfl (Nat.le_of_ble_eq_true rfl) ?_
  intro p e s m args below meth c A S hr hlocks hK hA H locs hI ls hl
  have hl : lv_has ls 3 [(0, .ref h0), (1, .int p1), (2, .int p2)] := hl
  have hin : ∀ w ∈ wsX10, w ∈ wsX1_hasValue := in_ws
  have hx := S.1
  have hb := S.2.1
  have hts := S.2.2.2.2
  have hown := S.2.2.2.1
  unfold fX1_hasValue at hg
  refine lv_aload_n hx hb dX1_hasValue_0 rfl (lv_at hl 0 rfl) ?_
  refine lv_iload_n hx hb dX1_hasValue_1 rfl (lv_at hl 1 rfl) ?_
  obtain ⟨r2, σ1, er2, hg⟩ := bnd_e hg
  refine mc_i S hK hA hI (As := [.int p1]) (rest := []) (kX1_isBlock l G h0 h H.size F σ p1  r2 σ1 er2) (cwV 1 hts gX1_hasValue_X1_isBlock rfl rfl rfl nX1_isBlock ⟨Nat.le_of_ble_eq_true rfl, Nat.le_of_ble_eq_true rfl⟩) rfl hl.1 rfl (Nat.le_of_ble_eq_true rfl) dX1_hasValue_2 ⟨Nat.le_refl _, Nat.le_refl _⟩ (fun H locs hI => ?_)
  refine lv_if_eq (tgt := 33) hx hb dX1_hasValue_5 (by decide) (fun c3 => ?_) (fun c3 => ?_)
  · have hg := cIf_te c3 hg
    refine lv_iconst (v := 0) hx hb dX1_hasValue_33 (by decide) ?_
    exact me_z S hr hlocks hK hI rfl hg dX1_hasValue_34
  · have hg := cIf_fe c3 hg
    refine lv_iload_n hx hb dX1_hasValue_8 rfl (lv_at hl 2 rfl) ?_
    refine lv_iconst (v := 0) hx hb dX1_hasValue_9 (by decide) ?_
    refine lv_aload_n hx hb dX1_hasValue_10 rfl (lv_at hl 0 rfl) ?_
    refine mg_values S hin hK hI (ix := 23) (by decide +kernel) dX1_hasValue_11 ?_
    refine lv_aload_n hx hb dX1_hasValue_14 rfl (lv_at hl 0 rfl) ?_
    refine mg_root S hin hK hI (ix := 9) (by decide +kernel) dX1_hasValue_15 ?_
    refine lv_iload_n hx hb dX1_hasValue_18 rfl (lv_at hl 1 rfl) ?_
    obtain ⟨c4, hg⟩ := ck_e hg
    obtain ⟨x5, ex5, hg⟩ := nmd_e hg
    refine mr_root S hK hI c4 ex5 dX1_hasValue_19 ?_
    obtain ⟨c6, hg⟩ := ck_e hg
    obtain ⟨x7, ex7, hg⟩ := nmd_e hg
    refine mr_values S hK hI c6 ex7 dX1_hasValue_20 ?_
    refine lv_iconst (v := 1) hx hb dX1_hasValue_21 (by decide) ?_
    refine lv_isub hx hb dX1_hasValue_22 ?_
    obtain ⟨r8, er8, hg⟩ := bnp_e hg
    refine ms_i S hA hI (As := [.int p2, .int 0, .int (x7 - 1)]) (rest := []) (kX1_in l H.size F p2 0 (x7 - 1) r8 er8) (va_cwS 3 hts gX1_hasValue_X1_in rfl rfl rfl nX1_in ⟨Nat.le_of_ble_eq_true rfl, Nat.le_of_ble_eq_true rfl⟩) rfl hl.1 rfl (Nat.le_of_ble_eq_true rfl) dX1_hasValue_23 ⟨Nat.le_refl _, Nat.le_refl _⟩ (fun H locs hI => ?_)
    refine lv_if_eq (tgt := 33) hx hb dX1_hasValue_26 (by decide) (fun c9 => ?_) (fun c9 => ?_)
    · have hg := cIf_te c9 hg
      refine lv_iconst (v := 0) hx hb dX1_hasValue_33 (by decide) ?_
      exact me_z S hr hlocks hK hI rfl hg dX1_hasValue_34
    · have hg := cIf_fe c9 hg
      refine lv_iconst (v := 1) hx hb dX1_hasValue_29 (by decide) ?_
      refine lv_goto (tgt := 34) hx hb dX1_hasValue_30 (by decide) ?_
      exact me_z S hr hlocks hK hI rfl hg dX1_hasValue_34
-- OwnMemoryModel.hasWord
abbrev rX1_hasWord : Room := { frames := 3, cells := 0, slots := 0, locals := 63 }
theorem nX1_hasWord : yX1_hasWord.cls = RX1 ∧ yX1_hasWord.cls ≠ "java/lang/invoke/MethodHandle" ∧ yX1_hasWord.cls ≠ "java/lang/invoke/VarHandle" ∧ (parseMethodDescriptor yX1_hasWord.desc).map (fun d => d.parameters.length) = some 2 := by decide +kernel
noncomputable def fX1_hasWord (F : Nat) (σ : mS) (p1 : Int32) (p2 : Int32) : Option (Int32 × mS) := bnd (fX1_isBlock F σ p1) (fun r2 σ1 => cIf (r2 = 0) (some (0, σ1)) (ck (vp_in p1 24) (nmd (m_root σ1 p1.toNatClampNeg) (fun x5 => ck (vp_in x5 4096) (nmd (m_plain σ1 x5.toNatClampNeg) (fun x7 => bnp (fX1_in F p2 0 (x7 - 1)) (fun r8 => cIf (r8 = 0) (some (0, σ1)) (some (1, σ1)))))))))
set_option maxHeartbeats 4000000 in
set_option maxRecDepth 100000 in
theorem kX1_hasWord (l : Launch) (G : gT) (h0 : Nat) (h : (Nat → Nat)) (sz F : Nat) (σ : mS) (p1 : Int32) (p2 : Int32) (r : Int32) (σr : mS) (hg : fX1_hasWord F σ p1 p2 = some (r, σr)) : Met l yX1_hasWord wsX1_hasWord rX1_hasWord (mPre G h0 h σ sz [.int p1, .int p2]) (mQi G h0 h r σr (mA G h0 h σ sz)) 0 0 (mA G h0 h σ sz) := by
  refine mMet (Qc := mQi G h0 h r σr) (by decide +kernel) rfl rfl (Nat.le_of_ble_eq_true rfl) ?_
  intro p e s m args below meth c A S hr hlocks hK hA H locs hI ls hl
  have hl : lv_has ls 3 [(0, .ref h0), (1, .int p1), (2, .int p2)] := hl
  have hin : ∀ w ∈ wsX10, w ∈ wsX1_hasWord := in_ws
  have hx := S.1
  have hb := S.2.1
  have hts := S.2.2.2.2
  have hown := S.2.2.2.1
  unfold fX1_hasWord at hg
  refine lv_aload_n hx hb dX1_hasWord_0 rfl (lv_at hl 0 rfl) ?_
  refine lv_iload_n hx hb dX1_hasWord_1 rfl (lv_at hl 1 rfl) ?_
  obtain ⟨r2, σ1, er2, hg⟩ := bnd_e hg
  refine mc_i S hK hA hI (As := [.int p1]) (rest := []) (kX1_isBlock l G h0 h H.size F σ p1  r2 σ1 er2) (cwV 1 hts gX1_hasWord_X1_isBlock rfl rfl rfl nX1_isBlock ⟨Nat.le_of_ble_eq_true rfl, Nat.le_of_ble_eq_true rfl⟩) rfl hl.1 rfl (Nat.le_of_ble_eq_true rfl) dX1_hasWord_2 ⟨Nat.le_refl _, Nat.le_refl _⟩ (fun H locs hI => ?_)
  refine lv_if_eq (tgt := 33) hx hb dX1_hasWord_5 (by decide) (fun c3 => ?_) (fun c3 => ?_)
  · have hg := cIf_te c3 hg
    refine lv_iconst (v := 0) hx hb dX1_hasWord_33 (by decide) ?_
    exact me_z S hr hlocks hK hI rfl hg dX1_hasWord_34
  · have hg := cIf_fe c3 hg
    refine lv_iload_n hx hb dX1_hasWord_8 rfl (lv_at hl 2 rfl) ?_
    refine lv_iconst (v := 0) hx hb dX1_hasWord_9 (by decide) ?_
    refine lv_aload_n hx hb dX1_hasWord_10 rfl (lv_at hl 0 rfl) ?_
    refine mg_plain S hin hK hI (ix := 26) (by decide +kernel) dX1_hasWord_11 ?_
    refine lv_aload_n hx hb dX1_hasWord_14 rfl (lv_at hl 0 rfl) ?_
    refine mg_root S hin hK hI (ix := 9) (by decide +kernel) dX1_hasWord_15 ?_
    refine lv_iload_n hx hb dX1_hasWord_18 rfl (lv_at hl 1 rfl) ?_
    obtain ⟨c4, hg⟩ := ck_e hg
    obtain ⟨x5, ex5, hg⟩ := nmd_e hg
    refine mr_root S hK hI c4 ex5 dX1_hasWord_19 ?_
    obtain ⟨c6, hg⟩ := ck_e hg
    obtain ⟨x7, ex7, hg⟩ := nmd_e hg
    refine mr_plain S hK hI c6 ex7 dX1_hasWord_20 ?_
    refine lv_iconst (v := 1) hx hb dX1_hasWord_21 (by decide) ?_
    refine lv_isub hx hb dX1_hasWord_22 ?_
    obtain ⟨r8, er8, hg⟩ := bnp_e hg
    refine ms_i S hA hI (As := [.int p2, .int 0, .int (x7 - 1)]) (rest := []) (kX1_in l H.size F p2 0 (x7 - 1) r8 er8) (va_cwS 3 hts gX1_hasWord_X1_in rfl rfl rfl nX1_in ⟨Nat.le_of_ble_eq_true rfl, Nat.le_of_ble_eq_true rfl⟩) rfl hl.1 rfl (Nat.le_of_ble_eq_true rfl) dX1_hasWord_23 ⟨Nat.le_refl _, Nat.le_refl _⟩ (fun H locs hI => ?_)
    refine lv_if_eq (tgt := 33) hx hb dX1_hasWord_26 (by decide) (fun c9 => ?_) (fun c9 => ?_)
    · have hg := cIf_te c9 hg
      refine lv_iconst (v := 0) hx hb dX1_hasWord_33 (by decide) ?_
      exact me_z S hr hlocks hK hI rfl hg dX1_hasWord_34
    · have hg := cIf_fe c9 hg
      refine lv_iconst (v := 1) hx hb dX1_hasWord_29 (by decide) ?_
      refine lv_goto (tgt := 34) hx hb dX1_hasWord_30 (by decide) ?_
      exact me_z S hr hlocks hK hI rfl hg dX1_hasWord_34
-- OwnMemoryModel.tie
abbrev rX1_tie : Room := { frames := 4, cells := 0, slots := 0, locals := 85 }
theorem nX1_tie : yX1_tie.cls = RX1 ∧ yX1_tie.cls ≠ "java/lang/invoke/MethodHandle" ∧ yX1_tie.cls ≠ "java/lang/invoke/VarHandle" ∧ (parseMethodDescriptor yX1_tie.desc).map (fun d => d.parameters.length) = some 3 := by decide +kernel
noncomputable def JX1_tie_22 (F : Nat) (σ : mS) (v1 : Int32) (v2 : Int32) (v3 : Int32) (t1 : Int32) : Option mS := bnd (fX1_says F σ t1) (fun r5 σ4 => cIf (r5 = 0) (some σ4) (ck (vp_in v1 24) (nmd (m_root σ4 v1.toNatClampNeg) (fun x8 => ck (vp_in v3 24) (nmd (m_root σ4 v3.toNatClampNeg) (fun x10 => ck (vp_in ((8 * x8) + v2) 32768) (nmd (m_s_link σ4 (upd (m_link σ4) ((8 * x8) + v2).toNatClampNeg x10)) (fun σ12 => some σ12))))))))
noncomputable def JX1_tie_21 (F : Nat) (σ : mS) (v1 : Int32) (v2 : Int32) (v3 : Int32) : Option mS := JX1_tie_22 F σ v1 v2 v3 0
noncomputable def fX1_tie (F : Nat) (σ : mS) (p1 : Int32) (p2 : Int32) (p3 : Int32) : Option mS := bnd (fX1_hasLink F σ p1 p2) (fun r2 σ1 => cIf (r2 = 0) (JX1_tie_21 F σ1 p1 p2 p3) (bnp (fX1_isRoot F p3) (fun r13 => cIf (r13 = 0) (JX1_tie_21 F σ1 p1 p2 p3) (JX1_tie_22 F σ1 p1 p2 p3 1))))
set_option maxHeartbeats 4000000 in
set_option maxRecDepth 100000 in
theorem jX1_tie_22 {p : Program} {l : Launch} {e : Env} {s : State} {m : MethodId} {args : Array Value} {below : List Frame} {meth : Method} {c : Code} {A : Nat → Prop} {G : gT} {h0 : Nat} {h : (Nat → Nat)} {F : Nat} (S : CallFix p m c cX1_tie 4 s args wsX1_tie RX1) (hr : meth.sig.returnType = none) (hlocks : meth.locks = false) (hin : ∀ w ∈ wsX10, w ∈ wsX1_tie) (hK : gK G s) (hA : ∀ q, s.heap.size ≤ q → A q) {res : mS} (σ : mS) (v1 : Int32) (v2 : Int32) (v3 : Int32) (t1 : Int32) (H : Heap) (locs : List Loc) (ls : Array Slot) (hg : JX1_tie_22 F σ v1 v2 v3 t1 = some res) (hI : mI s A G h0 h σ H locs) (hl : lv_has ls 4 [(0, .ref h0), (1, .int v1), (2, .int v2), (3, .int v3)]) : W p l e rX1_tie s m args below meth c H locs 0 0 (MQ below (mQv G h0 h res A) args s 0 0 A) (F0 m 22 ls [.int t1, .ref h0]) := by
  have hx := S.1
  have hb := S.2.1
  have hts := S.2.2.2.2
  have hown := S.2.2.2.1
  unfold JX1_tie_22 at hg
  obtain ⟨r5, σ4, er5, hg⟩ := bnd_e hg
  refine mc_i S hK hA hI (As := [.int t1]) (rest := []) (kX1_says l G h0 h H.size F σ t1  r5 σ4 er5) (cwV 1 hts gX1_tie_X1_says rfl rfl rfl nX1_says ⟨Nat.le_of_ble_eq_true rfl, Nat.le_of_ble_eq_true rfl⟩) rfl hl.1 rfl (Nat.le_of_ble_eq_true rfl) dX1_tie_22 ⟨Nat.le_refl _, Nat.le_refl _⟩ (fun H locs hI => ?_)
  refine lv_if_eq (tgt := 50) hx hb dX1_tie_25 (by decide) (fun c6 => ?_) (fun c6 => ?_)
  · have hg := cIf_te c6 hg
    exact me_v S hr hlocks hK hI hg dX1_tie_50
  · have hg := cIf_fe c6 hg
    refine lv_aload_n hx hb dX1_tie_28 rfl (lv_at hl 0 rfl) ?_
    refine mg_link S hin hK hI (ix := 30) (by decide +kernel) dX1_tie_29 ?_
    refine lv_bipush (v := 8) hx hb dX1_tie_32 (by decide) ?_
    refine lv_aload_n hx hb dX1_tie_34 rfl (lv_at hl 0 rfl) ?_
    refine mg_root S hin hK hI (ix := 9) (by decide +kernel) dX1_tie_35 ?_
    refine lv_iload_n hx hb dX1_tie_38 rfl (lv_at hl 1 rfl) ?_
    obtain ⟨c7, hg⟩ := ck_e hg
    obtain ⟨x8, ex8, hg⟩ := nmd_e hg
    refine mr_root S hK hI c7 ex8 dX1_tie_39 ?_
    refine lv_imul hx hb dX1_tie_40 ?_
    refine lv_iload_n hx hb dX1_tie_41 rfl (lv_at hl 2 rfl) ?_
    refine lv_iadd hx hb dX1_tie_42 ?_
    refine lv_aload_n hx hb dX1_tie_43 rfl (lv_at hl 0 rfl) ?_
    refine mg_root S hin hK hI (ix := 9) (by decide +kernel) dX1_tie_44 ?_
    refine lv_iload_n hx hb dX1_tie_47 rfl (lv_at hl 3 rfl) ?_
    obtain ⟨c9, hg⟩ := ck_e hg
    obtain ⟨x10, ex10, hg⟩ := nmd_e hg
    refine mr_root S hK hI c9 ex10 dX1_tie_48 ?_
    obtain ⟨c11, hg⟩ := ck_e hg
    obtain ⟨σ12, eσ12, hg⟩ := nmd_e hg
    refine mu_link S hK hI c11 eσ12 dX1_tie_49 (fun H locs hI => ?_)
    exact me_v S hr hlocks hK hI hg dX1_tie_50
set_option maxHeartbeats 4000000 in
set_option maxRecDepth 100000 in
theorem jX1_tie_21 {p : Program} {l : Launch} {e : Env} {s : State} {m : MethodId} {args : Array Value} {below : List Frame} {meth : Method} {c : Code} {A : Nat → Prop} {G : gT} {h0 : Nat} {h : (Nat → Nat)} {F : Nat} (S : CallFix p m c cX1_tie 4 s args wsX1_tie RX1) (hr : meth.sig.returnType = none) (hlocks : meth.locks = false) (hin : ∀ w ∈ wsX10, w ∈ wsX1_tie) (hK : gK G s) (hA : ∀ q, s.heap.size ≤ q → A q) {res : mS} (σ : mS) (v1 : Int32) (v2 : Int32) (v3 : Int32) (H : Heap) (locs : List Loc) (ls : Array Slot) (hg : JX1_tie_21 F σ v1 v2 v3 = some res) (hI : mI s A G h0 h σ H locs) (hl : lv_has ls 4 [(0, .ref h0), (1, .int v1), (2, .int v2), (3, .int v3)]) : W p l e rX1_tie s m args below meth c H locs 0 0 (MQ below (mQv G h0 h res A) args s 0 0 A) (F0 m 21 ls [.ref h0]) := by
  have hx := S.1
  have hb := S.2.1
  have hts := S.2.2.2.2
  have hown := S.2.2.2.1
  unfold JX1_tie_21 at hg
  refine lv_iconst (v := 0) hx hb dX1_tie_21 (by decide) ?_
  exact jX1_tie_22 S hr hlocks hin hK hA σ v1 v2 v3 0 H locs ls hg hI (lv_sub hl [0, 1, 2, 3] rfl)
set_option maxHeartbeats 4000000 in
set_option maxRecDepth 100000 in
theorem kX1_tie (l : Launch) (G : gT) (h0 : Nat) (h : (Nat → Nat)) (sz F : Nat) (σ : mS) (p1 : Int32) (p2 : Int32) (p3 : Int32) (σr : mS) (hg : fX1_tie F σ p1 p2 p3 = some σr) : Met l yX1_tie wsX1_tie rX1_tie (mPre G h0 h σ sz [.int p1, .int p2, .int p3]) (mQv G h0 h σr (mA G h0 h σ sz)) 0 0 (mA G h0 h σ sz) := by
  refine mMet (Qc := mQv G h0 h σr) (by decide +kernel) rfl rfl (Nat.le_of_ble_eq_true rfl) ?_
  intro p e s m args below meth c A S hr hlocks hK hA H locs hI ls hl
  have hl : lv_has ls 4 [(0, .ref h0), (1, .int p1), (2, .int p2), (3, .int p3)] := hl
  have hin : ∀ w ∈ wsX10, w ∈ wsX1_tie := in_ws
  have hx := S.1
  have hb := S.2.1
  have hts := S.2.2.2.2
  have hown := S.2.2.2.1
  unfold fX1_tie at hg
  refine lv_aload_n hx hb dX1_tie_0 rfl (lv_at hl 0 rfl) ?_
  refine lv_aload_n hx hb dX1_tie_1 rfl (lv_at hl 0 rfl) ?_
  refine lv_iload_n hx hb dX1_tie_2 rfl (lv_at hl 1 rfl) ?_
  refine lv_iload_n hx hb dX1_tie_3 rfl (lv_at hl 2 rfl) ?_
  obtain ⟨r2, σ1, er2, hg⟩ := bnd_e hg
  refine mc_i S hK hA hI (As := [.int p1, .int p2]) (rest := [.ref h0]) (kX1_hasLink l G h0 h H.size F σ p1 p2  r2 σ1 er2) (cwV 2 hts gX1_tie_X1_hasLink rfl rfl rfl nX1_hasLink ⟨Nat.le_of_ble_eq_true rfl, Nat.le_of_ble_eq_true rfl⟩) rfl hl.1 rfl (Nat.le_of_ble_eq_true rfl) dX1_tie_4 ⟨Nat.le_refl _, Nat.le_refl _⟩ (fun H locs hI => ?_)
  refine lv_if_eq (tgt := 21) hx hb dX1_tie_7 (by decide) (fun c3 => ?_) (fun c3 => ?_)
  · have hg := cIf_te c3 hg
    exact jX1_tie_21 S hr hlocks hin hK hA σ1 p1 p2 p3 H locs ls hg hI (lv_sub hl [0, 1, 2, 3] rfl)
  · have hg := cIf_fe c3 hg
    refine lv_iload_n hx hb dX1_tie_10 rfl (lv_at hl 3 rfl) ?_
    obtain ⟨r13, er13, hg⟩ := bnp_e hg
    refine ms_i S hA hI (As := [.int p3]) (rest := [.ref h0]) (kX1_isRoot l H.size F p3 r13 er13) (va_cwS 1 hts gX1_tie_X1_isRoot rfl rfl rfl nX1_isRoot ⟨Nat.le_of_ble_eq_true rfl, Nat.le_of_ble_eq_true rfl⟩) rfl hl.1 rfl (Nat.le_of_ble_eq_true rfl) dX1_tie_11 ⟨Nat.le_refl _, Nat.le_refl _⟩ (fun H locs hI => ?_)
    refine lv_if_eq (tgt := 21) hx hb dX1_tie_14 (by decide) (fun c14 => ?_) (fun c14 => ?_)
    · have hg := cIf_te c14 hg
      exact jX1_tie_21 S hr hlocks hin hK hA σ1 p1 p2 p3 H locs ls hg hI (lv_sub hl [0, 1, 2, 3] rfl)
    · have hg := cIf_fe c14 hg
      refine lv_iconst (v := 1) hx hb dX1_tie_17 (by decide) ?_
      refine lv_goto (tgt := 22) hx hb dX1_tie_18 (by decide) ?_
      exact jX1_tie_22 S hr hlocks hin hK hA σ1 p1 p2 p3 1 H locs ls hg hI (lv_sub hl [0, 1, 2, 3] rfl)
-- OwnMemoryModel.lead
abbrev rX1_lead : Room := { frames := 4, cells := 0, slots := 0, locals := 85 }
theorem nX1_lead : yX1_lead.cls = RX1 ∧ yX1_lead.cls ≠ "java/lang/invoke/MethodHandle" ∧ yX1_lead.cls ≠ "java/lang/invoke/VarHandle" ∧ (parseMethodDescriptor yX1_lead.desc).map (fun d => d.parameters.length) = some 3 := by decide +kernel
noncomputable def JX1_lead_22 (F : Nat) (σ : mS) (v1 : Int32) (v2 : Int32) (v3 : Int32) (t1 : Int32) : Option mS := bnd (fX1_says F σ t1) (fun r5 σ4 => cIf (r5 = 0) (some σ4) (ck (vp_in v1 24) (nmd (m_root σ4 v1.toNatClampNeg) (fun x8 => ck (vp_in ((8 * x8) + v2) 32768) (nmd (m_link σ4 ((8 * x8) + v2).toNatClampNeg) (fun x10 => ck (vp_in v3 24) (nmd (m_s_root σ4 (upd (m_root σ4) v3.toNatClampNeg x10)) (fun σ12 => some σ12))))))))
noncomputable def JX1_lead_21 (F : Nat) (σ : mS) (v1 : Int32) (v2 : Int32) (v3 : Int32) : Option mS := JX1_lead_22 F σ v1 v2 v3 0
noncomputable def fX1_lead (F : Nat) (σ : mS) (p1 : Int32) (p2 : Int32) (p3 : Int32) : Option mS := bnd (fX1_hasLink F σ p1 p2) (fun r2 σ1 => cIf (r2 = 0) (JX1_lead_21 F σ1 p1 p2 p3) (bnp (fX1_isRoot F p3) (fun r13 => cIf (r13 = 0) (JX1_lead_21 F σ1 p1 p2 p3) (JX1_lead_22 F σ1 p1 p2 p3 1))))
set_option maxHeartbeats 4000000 in
set_option maxRecDepth 100000 in
theorem jX1_lead_22 {p : Program} {l : Launch} {e : Env} {s : State} {m : MethodId} {args : Array Value} {below : List Frame} {meth : Method} {c : Code} {A : Nat → Prop} {G : gT} {h0 : Nat} {h : (Nat → Nat)} {F : Nat} (S : CallFix p m c cX1_lead 4 s args wsX1_lead RX1) (hr : meth.sig.returnType = none) (hlocks : meth.locks = false) (hin : ∀ w ∈ wsX10, w ∈ wsX1_lead) (hK : gK G s) (hA : ∀ q, s.heap.size ≤ q → A q) {res : mS} (σ : mS) (v1 : Int32) (v2 : Int32) (v3 : Int32) (t1 : Int32) (H : Heap) (locs : List Loc) (ls : Array Slot) (hg : JX1_lead_22 F σ v1 v2 v3 t1 = some res) (hI : mI s A G h0 h σ H locs) (hl : lv_has ls 4 [(0, .ref h0), (1, .int v1), (2, .int v2), (3, .int v3)]) : W p l e rX1_lead s m args below meth c H locs 0 0 (MQ below (mQv G h0 h res A) args s 0 0 A) (F0 m 22 ls [.int t1, .ref h0]) := by
  have hx := S.1
  have hb := S.2.1
  have hts := S.2.2.2.2
  have hown := S.2.2.2.1
  unfold JX1_lead_22 at hg
  obtain ⟨r5, σ4, er5, hg⟩ := bnd_e hg
  refine mc_i S hK hA hI (As := [.int t1]) (rest := []) (kX1_says l G h0 h H.size F σ t1  r5 σ4 er5) (cwV 1 hts gX1_lead_X1_says rfl rfl rfl nX1_says ⟨Nat.le_of_ble_eq_true rfl, Nat.le_of_ble_eq_true rfl⟩) rfl hl.1 rfl (Nat.le_of_ble_eq_true rfl) dX1_lead_22 ⟨Nat.le_refl _, Nat.le_refl _⟩ (fun H locs hI => ?_)
  refine lv_if_eq (tgt := 50) hx hb dX1_lead_25 (by decide) (fun c6 => ?_) (fun c6 => ?_)
  · have hg := cIf_te c6 hg
    exact me_v S hr hlocks hK hI hg dX1_lead_50
  · have hg := cIf_fe c6 hg
    refine lv_aload_n hx hb dX1_lead_28 rfl (lv_at hl 0 rfl) ?_
    refine mg_root S hin hK hI (ix := 9) (by decide +kernel) dX1_lead_29 ?_
    refine lv_iload_n hx hb dX1_lead_32 rfl (lv_at hl 3 rfl) ?_
    refine lv_aload_n hx hb dX1_lead_33 rfl (lv_at hl 0 rfl) ?_
    refine mg_link S hin hK hI (ix := 30) (by decide +kernel) dX1_lead_34 ?_
    refine lv_bipush (v := 8) hx hb dX1_lead_37 (by decide) ?_
    refine lv_aload_n hx hb dX1_lead_39 rfl (lv_at hl 0 rfl) ?_
    refine mg_root S hin hK hI (ix := 9) (by decide +kernel) dX1_lead_40 ?_
    refine lv_iload_n hx hb dX1_lead_43 rfl (lv_at hl 1 rfl) ?_
    obtain ⟨c7, hg⟩ := ck_e hg
    obtain ⟨x8, ex8, hg⟩ := nmd_e hg
    refine mr_root S hK hI c7 ex8 dX1_lead_44 ?_
    refine lv_imul hx hb dX1_lead_45 ?_
    refine lv_iload_n hx hb dX1_lead_46 rfl (lv_at hl 2 rfl) ?_
    refine lv_iadd hx hb dX1_lead_47 ?_
    obtain ⟨c9, hg⟩ := ck_e hg
    obtain ⟨x10, ex10, hg⟩ := nmd_e hg
    refine mr_link S hK hI c9 ex10 dX1_lead_48 ?_
    obtain ⟨c11, hg⟩ := ck_e hg
    obtain ⟨σ12, eσ12, hg⟩ := nmd_e hg
    refine mu_root S hK hI c11 eσ12 dX1_lead_49 (fun H locs hI => ?_)
    exact me_v S hr hlocks hK hI hg dX1_lead_50
set_option maxHeartbeats 4000000 in
set_option maxRecDepth 100000 in
theorem jX1_lead_21 {p : Program} {l : Launch} {e : Env} {s : State} {m : MethodId} {args : Array Value} {below : List Frame} {meth : Method} {c : Code} {A : Nat → Prop} {G : gT} {h0 : Nat} {h : (Nat → Nat)} {F : Nat} (S : CallFix p m c cX1_lead 4 s args wsX1_lead RX1) (hr : meth.sig.returnType = none) (hlocks : meth.locks = false) (hin : ∀ w ∈ wsX10, w ∈ wsX1_lead) (hK : gK G s) (hA : ∀ q, s.heap.size ≤ q → A q) {res : mS} (σ : mS) (v1 : Int32) (v2 : Int32) (v3 : Int32) (H : Heap) (locs : List Loc) (ls : Array Slot) (hg : JX1_lead_21 F σ v1 v2 v3 = some res) (hI : mI s A G h0 h σ H locs) (hl : lv_has ls 4 [(0, .ref h0), (1, .int v1), (2, .int v2), (3, .int v3)]) : W p l e rX1_lead s m args below meth c H locs 0 0 (MQ below (mQv G h0 h res A) args s 0 0 A) (F0 m 21 ls [.ref h0]) := by
  have hx := S.1
  have hb := S.2.1
  have hts := S.2.2.2.2
  have hown := S.2.2.2.1
  unfold JX1_lead_21 at hg
  refine lv_iconst (v := 0) hx hb dX1_lead_21 (by decide) ?_
  exact jX1_lead_22 S hr hlocks hin hK hA σ v1 v2 v3 0 H locs ls hg hI (lv_sub hl [0, 1, 2, 3] rfl)
set_option maxHeartbeats 4000000 in
set_option maxRecDepth 100000 in
theorem kX1_lead (l : Launch) (G : gT) (h0 : Nat) (h : (Nat → Nat)) (sz F : Nat) (σ : mS) (p1 : Int32) (p2 : Int32) (p3 : Int32) (σr : mS) (hg : fX1_lead F σ p1 p2 p3 = some σr) : Met l yX1_lead wsX1_lead rX1_lead (mPre G h0 h σ sz [.int p1, .int p2, .int p3]) (mQv G h0 h σr (mA G h0 h σ sz)) 0 0 (mA G h0 h σ sz) := by
  refine mMet (Qc := mQv G h0 h σr) (by decide +kernel) rfl rfl (Nat.le_of_ble_eq_true rfl) ?_
  intro p e s m args below meth c A S hr hlocks hK hA H locs hI ls hl
  have hl : lv_has ls 4 [(0, .ref h0), (1, .int p1), (2, .int p2), (3, .int p3)] := hl
  have hin : ∀ w ∈ wsX10, w ∈ wsX1_lead := in_ws
  have hx := S.1
  have hb := S.2.1
  have hts := S.2.2.2.2
  have hown := S.2.2.2.1
  unfold fX1_lead at hg
  refine lv_aload_n hx hb dX1_lead_0 rfl (lv_at hl 0 rfl) ?_
  refine lv_aload_n hx hb dX1_lead_1 rfl (lv_at hl 0 rfl) ?_
  refine lv_iload_n hx hb dX1_lead_2 rfl (lv_at hl 1 rfl) ?_
  refine lv_iload_n hx hb dX1_lead_3 rfl (lv_at hl 2 rfl) ?_
  obtain ⟨r2, σ1, er2, hg⟩ := bnd_e hg
  refine mc_i S hK hA hI (As := [.int p1, .int p2]) (rest := [.ref h0]) (kX1_hasLink l G h0 h H.size F σ p1 p2  r2 σ1 er2) (cwV 2 hts gX1_lead_X1_hasLink rfl rfl rfl nX1_hasLink ⟨Nat.le_of_ble_eq_true rfl, Nat.le_of_ble_eq_true rfl⟩) rfl hl.1 rfl (Nat.le_of_ble_eq_true rfl) dX1_lead_4 ⟨Nat.le_refl _, Nat.le_refl _⟩ (fun H locs hI => ?_)
  refine lv_if_eq (tgt := 21) hx hb dX1_lead_7 (by decide) (fun c3 => ?_) (fun c3 => ?_)
  · have hg := cIf_te c3 hg
    exact jX1_lead_21 S hr hlocks hin hK hA σ1 p1 p2 p3 H locs ls hg hI (lv_sub hl [0, 1, 2, 3] rfl)
  · have hg := cIf_fe c3 hg
    refine lv_iload_n hx hb dX1_lead_10 rfl (lv_at hl 3 rfl) ?_
    obtain ⟨r13, er13, hg⟩ := bnp_e hg
    refine ms_i S hA hI (As := [.int p3]) (rest := [.ref h0]) (kX1_isRoot l H.size F p3 r13 er13) (va_cwS 1 hts gX1_lead_X1_isRoot rfl rfl rfl nX1_isRoot ⟨Nat.le_of_ble_eq_true rfl, Nat.le_of_ble_eq_true rfl⟩) rfl hl.1 rfl (Nat.le_of_ble_eq_true rfl) dX1_lead_11 ⟨Nat.le_refl _, Nat.le_refl _⟩ (fun H locs hI => ?_)
    refine lv_if_eq (tgt := 21) hx hb dX1_lead_14 (by decide) (fun c14 => ?_) (fun c14 => ?_)
    · have hg := cIf_te c14 hg
      exact jX1_lead_21 S hr hlocks hin hK hA σ1 p1 p2 p3 H locs ls hg hI (lv_sub hl [0, 1, 2, 3] rfl)
    · have hg := cIf_fe c14 hg
      refine lv_iconst (v := 1) hx hb dX1_lead_17 (by decide) ?_
      refine lv_goto (tgt := 22) hx hb dX1_lead_18 (by decide) ?_
      exact jX1_lead_22 S hr hlocks hin hK hA σ1 p1 p2 p3 1 H locs ls hg hI (lv_sub hl [0, 1, 2, 3] rfl)
-- OwnMemoryModel.number
abbrev rX1_number : Room := { frames := 4, cells := 0, slots := 0, locals := 85 }
theorem nX1_number : yX1_number.cls = RX1 ∧ yX1_number.cls ≠ "java/lang/invoke/MethodHandle" ∧ yX1_number.cls ≠ "java/lang/invoke/VarHandle" ∧ (parseMethodDescriptor yX1_number.desc).map (fun d => d.parameters.length) = some 3 := by decide +kernel
noncomputable def JX1_number_26 (F : Nat) (σ : mS) (v1 : Int32) (v2 : Int32) (v3 : Int64) (t1 : Int32) : Option mS := bnd (fX1_says F σ t1) (fun r5 σ4 => cIf (r5 = 0) (some σ4) (ck (vp_in v1 24) (nmd (m_root σ4 v1.toNatClampNeg) (fun x8 => ck (vp_in ((8 * x8) + v2) 32768) (nmd (m_s_number σ4 (vp_updL (m_number σ4) ((8 * x8) + v2).toNatClampNeg v3)) (fun σ10 => ck (vp_in v1 24) (nmd (m_root σ10 v1.toNatClampNeg) (fun x12 => ck (vp_in ((8 * x12) + v2) 32768) (nmd (m_s_refers σ10 (upd (m_refers σ10) ((8 * x12) + v2).toNatClampNeg 0)) (fun σ14 => some σ14))))))))))
noncomputable def JX1_number_25 (F : Nat) (σ : mS) (v1 : Int32) (v2 : Int32) (v3 : Int64) : Option mS := JX1_number_26 F σ v1 v2 v3 0
noncomputable def fX1_number (F : Nat) (σ : mS) (p1 : Int32) (p2 : Int32) (p3 : Int64) : Option mS := bnd (fX1_hasValue F σ p1 p2) (fun r2 σ1 => cIf (r2 = 0) (JX1_number_25 F σ1 p1 p2 p3) (cIf ((lg_cmp ((p3.toUInt64 >>> ((48 : Int32).toInt64.toUInt64 &&& Int64.toUInt64 63)).toInt64) 65530) = 0) (JX1_number_25 F σ1 p1 p2 p3) (JX1_number_26 F σ1 p1 p2 p3 1)))
set_option maxHeartbeats 4000000 in
set_option maxRecDepth 100000 in
theorem jX1_number_26 {p : Program} {l : Launch} {e : Env} {s : State} {m : MethodId} {args : Array Value} {below : List Frame} {meth : Method} {c : Code} {A : Nat → Prop} {G : gT} {h0 : Nat} {h : (Nat → Nat)} {F : Nat} (S : CallFix p m c cX1_number 5 s args wsX1_number RX1) (hr : meth.sig.returnType = none) (hlocks : meth.locks = false) (hin : ∀ w ∈ wsX10, w ∈ wsX1_number) (hK : gK G s) (hA : ∀ q, s.heap.size ≤ q → A q) {res : mS} (σ : mS) (v1 : Int32) (v2 : Int32) (v3 : Int64) (t1 : Int32) (H : Heap) (locs : List Loc) (ls : Array Slot) (hg : JX1_number_26 F σ v1 v2 v3 t1 = some res) (hI : mI s A G h0 h σ H locs) (hl : lv_has ls 5 [(0, .ref h0), (1, .int v1), (2, .int v2), (3, .long v3)]) : W p l e rX1_number s m args below meth c H locs 0 0 (MQ below (mQv G h0 h res A) args s 0 0 A) (F0 m 26 ls [.int t1, .ref h0]) := by
  have hx := S.1
  have hb := S.2.1
  have hts := S.2.2.2.2
  have hown := S.2.2.2.1
  unfold JX1_number_26 at hg
  obtain ⟨r5, σ4, er5, hg⟩ := bnd_e hg
  refine mc_i S hK hA hI (As := [.int t1]) (rest := []) (kX1_says l G h0 h H.size F σ t1  r5 σ4 er5) (cwV 1 hts gX1_number_X1_says rfl rfl rfl nX1_says ⟨Nat.le_of_ble_eq_true rfl, Nat.le_of_ble_eq_true rfl⟩) rfl hl.1 rfl (Nat.le_of_ble_eq_true rfl) dX1_number_26 ⟨Nat.le_refl _, Nat.le_refl _⟩ (fun H locs hI => ?_)
  refine lv_if_ne (tgt := 33) hx hb dX1_number_29 (by decide) (fun c6 => ?_) (fun c6 => ?_)
  · have hg := cIf_fe c6 hg
    refine lv_aload_n hx hb dX1_number_33 rfl (lv_at hl 0 rfl) ?_
    refine mg_number S hin hK hI (ix := 33) (by decide +kernel) dX1_number_34 ?_
    refine lv_bipush (v := 8) hx hb dX1_number_37 (by decide) ?_
    refine lv_aload_n hx hb dX1_number_39 rfl (lv_at hl 0 rfl) ?_
    refine mg_root S hin hK hI (ix := 9) (by decide +kernel) dX1_number_40 ?_
    refine lv_iload_n hx hb dX1_number_43 rfl (lv_at hl 1 rfl) ?_
    obtain ⟨c7, hg⟩ := ck_e hg
    obtain ⟨x8, ex8, hg⟩ := nmd_e hg
    refine mr_root S hK hI c7 ex8 dX1_number_44 ?_
    refine lv_imul hx hb dX1_number_45 ?_
    refine lv_iload_n hx hb dX1_number_46 rfl (lv_at hl 2 rfl) ?_
    refine lv_iadd hx hb dX1_number_47 ?_
    refine lv_lload_n hx hb dX1_number_48 rfl (lv_at hl 3 rfl) ?_
    obtain ⟨c9, hg⟩ := ck_e hg
    obtain ⟨σ10, eσ10, hg⟩ := nmd_e hg
    refine mu_number S hK hI c9 eσ10 dX1_number_49 (fun H locs hI => ?_)
    refine lv_aload_n hx hb dX1_number_50 rfl (lv_at hl 0 rfl) ?_
    refine mg_refers S hin hK hI (ix := 37) (by decide +kernel) dX1_number_51 ?_
    refine lv_bipush (v := 8) hx hb dX1_number_54 (by decide) ?_
    refine lv_aload_n hx hb dX1_number_56 rfl (lv_at hl 0 rfl) ?_
    refine mg_root S hin hK hI (ix := 9) (by decide +kernel) dX1_number_57 ?_
    refine lv_iload_n hx hb dX1_number_60 rfl (lv_at hl 1 rfl) ?_
    obtain ⟨c11, hg⟩ := ck_e hg
    obtain ⟨x12, ex12, hg⟩ := nmd_e hg
    refine mr_root S hK hI c11 ex12 dX1_number_61 ?_
    refine lv_imul hx hb dX1_number_62 ?_
    refine lv_iload_n hx hb dX1_number_63 rfl (lv_at hl 2 rfl) ?_
    refine lv_iadd hx hb dX1_number_64 ?_
    refine lv_iconst (v := 0) hx hb dX1_number_65 (by decide) ?_
    obtain ⟨c13, hg⟩ := ck_e hg
    obtain ⟨σ14, eσ14, hg⟩ := nmd_e hg
    refine mu_refers S hK hI c13 eσ14 dX1_number_66 (fun H locs hI => ?_)
    exact me_v S hr hlocks hK hI hg dX1_number_67
  · have hg := cIf_te c6 hg
    exact me_v S hr hlocks hK hI hg dX1_number_32
set_option maxHeartbeats 4000000 in
set_option maxRecDepth 100000 in
theorem jX1_number_25 {p : Program} {l : Launch} {e : Env} {s : State} {m : MethodId} {args : Array Value} {below : List Frame} {meth : Method} {c : Code} {A : Nat → Prop} {G : gT} {h0 : Nat} {h : (Nat → Nat)} {F : Nat} (S : CallFix p m c cX1_number 5 s args wsX1_number RX1) (hr : meth.sig.returnType = none) (hlocks : meth.locks = false) (hin : ∀ w ∈ wsX10, w ∈ wsX1_number) (hK : gK G s) (hA : ∀ q, s.heap.size ≤ q → A q) {res : mS} (σ : mS) (v1 : Int32) (v2 : Int32) (v3 : Int64) (H : Heap) (locs : List Loc) (ls : Array Slot) (hg : JX1_number_25 F σ v1 v2 v3 = some res) (hI : mI s A G h0 h σ H locs) (hl : lv_has ls 5 [(0, .ref h0), (1, .int v1), (2, .int v2), (3, .long v3)]) : W p l e rX1_number s m args below meth c H locs 0 0 (MQ below (mQv G h0 h res A) args s 0 0 A) (F0 m 25 ls [.ref h0]) := by
  have hx := S.1
  have hb := S.2.1
  have hts := S.2.2.2.2
  have hown := S.2.2.2.1
  unfold JX1_number_25 at hg
  refine lv_iconst (v := 0) hx hb dX1_number_25 (by decide) ?_
  exact jX1_number_26 S hr hlocks hin hK hA σ v1 v2 v3 0 H locs ls hg hI (lv_sub hl [0, 1, 2, 3] rfl)
set_option maxHeartbeats 4000000 in
set_option maxRecDepth 100000 in
theorem kX1_number (l : Launch) (G : gT) (h0 : Nat) (h : (Nat → Nat)) (sz F : Nat) (σ : mS) (p1 : Int32) (p2 : Int32) (p3 : Int64) (σr : mS) (hg : fX1_number F σ p1 p2 p3 = some σr) : Met l yX1_number wsX1_number rX1_number (mPre G h0 h σ sz [.int p1, .int p2, .long p3]) (mQv G h0 h σr (mA G h0 h σ sz)) 0 0 (mA G h0 h σ sz) := by
  refine mMet (Qc := mQv G h0 h σr) (by decide +kernel) rfl rfl (Nat.le_of_ble_eq_true rfl) ?_
  intro p e s m args below meth c A S hr hlocks hK hA H locs hI ls hl
  have hl : lv_has ls 5 [(0, .ref h0), (1, .int p1), (2, .int p2), (3, .long p3)] := hl
  have hin : ∀ w ∈ wsX10, w ∈ wsX1_number := by decide +kernel
  have hx := S.1
  have hb := S.2.1
  have hts := S.2.2.2.2
  have hown := S.2.2.2.1
  unfold fX1_number at hg
  refine lv_aload_n hx hb dX1_number_0 rfl (lv_at hl 0 rfl) ?_
  refine lv_aload_n hx hb dX1_number_1 rfl (lv_at hl 0 rfl) ?_
  refine lv_iload_n hx hb dX1_number_2 rfl (lv_at hl 1 rfl) ?_
  refine lv_iload_n hx hb dX1_number_3 rfl (lv_at hl 2 rfl) ?_
  obtain ⟨r2, σ1, er2, hg⟩ := bnd_e hg
  refine mc_i S hK hA hI (As := [.int p1, .int p2]) (rest := [.ref h0]) (kX1_hasValue l G h0 h H.size F σ p1 p2  r2 σ1 er2) (cwV 2 hts gX1_number_X1_hasValue rfl rfl rfl nX1_hasValue ⟨Nat.le_of_ble_eq_true rfl, Nat.le_of_ble_eq_true rfl⟩) rfl hl.1 rfl (Nat.le_of_ble_eq_true rfl) dX1_number_4 ⟨Nat.le_refl _, Nat.le_refl _⟩ (fun H locs hI => ?_)
  refine lv_if_eq (tgt := 25) hx hb dX1_number_7 (by decide) (fun c3 => ?_) (fun c3 => ?_)
  · have hg := cIf_te c3 hg
    exact jX1_number_25 S hr hlocks hin hK hA σ1 p1 p2 p3 H locs ls hg hI (lv_sub hl [0, 1, 2, 3] rfl)
  · have hg := cIf_fe c3 hg
    refine lv_lload_n hx hb dX1_number_10 rfl (lv_at hl 3 rfl) ?_
    refine lv_bipush (v := 48) hx hb dX1_number_11 (by decide) ?_
    refine lv_lushr (v := (p3.toUInt64 >>> ((48 : Int32).toInt64.toUInt64 &&& Int64.toUInt64 63)).toInt64) hx hb dX1_number_13 rfl ?_
    refine lv_ldc2 (v := 65530) hx hb hown (hts (.constantLong RX1 120 (65530)) (by decide +kernel)) dX1_number_14 ?_
    refine W.lcmp hx hb dX1_number_17 ?_
    refine lv_if_eq (tgt := 25) hx hb dX1_number_18 (by decide) (fun c15 => ?_) (fun c15 => ?_)
    · have hg := cIf_te c15 hg
      exact jX1_number_25 S hr hlocks hin hK hA σ1 p1 p2 p3 H locs ls hg hI (lv_sub hl [0, 1, 2, 3] rfl)
    · have hg := cIf_fe c15 hg
      refine lv_iconst (v := 1) hx hb dX1_number_21 (by decide) ?_
      refine lv_goto (tgt := 26) hx hb dX1_number_22 (by decide) ?_
      exact jX1_number_26 S hr hlocks hin hK hA σ1 p1 p2 p3 1 H locs ls hg hI (lv_sub hl [0, 1, 2, 3] rfl)
-- OwnMemoryModel.refer
abbrev rX1_refer : Room := { frames := 4, cells := 0, slots := 0, locals := 85 }
theorem nX1_refer : yX1_refer.cls = RX1 ∧ yX1_refer.cls ≠ "java/lang/invoke/MethodHandle" ∧ yX1_refer.cls ≠ "java/lang/invoke/VarHandle" ∧ (parseMethodDescriptor yX1_refer.desc).map (fun d => d.parameters.length) = some 3 := by decide +kernel
noncomputable def JX1_refer_43 (F : Nat) (σ : mS) (v1 : Int32) (v2 : Int32) (v3 : Int32) (v4 : Int32) (t1 : Int32) : Option mS := bnd (fX1_says F σ t1) (fun r6 σ5 => cIf (r6 = 0) (some σ5) (ck (vp_in v1 24) (nmd (m_root σ5 v1.toNatClampNeg) (fun x9 => ck (vp_in v3 24) (nmd (m_root σ5 v3.toNatClampNeg) (fun x11 => ck (vp_in ((8 * x9) + v2) 32768) (nmd (m_s_refers σ5 (upd (m_refers σ5) ((8 * x9) + v2).toNatClampNeg x11)) (fun σ13 => some σ13))))))))
noncomputable def JX1_refer_42 (F : Nat) (σ : mS) (v1 : Int32) (v2 : Int32) (v3 : Int32) (v4 : Int32) : Option mS := JX1_refer_43 F σ v1 v2 v3 v4 0
noncomputable def JX1_refer_21 (F : Nat) (σ : mS) (v1 : Int32) (v2 : Int32) (v3 : Int32) (t0 : Int32) : Option mS := cIf (t0 = 0) (JX1_refer_42 F σ v1 v2 v3 t0) (ck (vp_in v3 24) (nmd (m_root σ v3.toNatClampNeg) (fun x15 => cIf (x15 ≤ 0) (JX1_refer_42 F σ v1 v2 v3 t0) (JX1_refer_43 F σ v1 v2 v3 t0 1))))
noncomputable def JX1_refer_20 (F : Nat) (σ : mS) (v1 : Int32) (v2 : Int32) (v3 : Int32) : Option mS := JX1_refer_21 F σ v1 v2 v3 0
noncomputable def fX1_refer (F : Nat) (σ : mS) (p1 : Int32) (p2 : Int32) (p3 : Int32) : Option mS := bnd (fX1_hasValue F σ p1 p2) (fun r2 σ1 => cIf (r2 = 0) (JX1_refer_20 F σ1 p1 p2 p3) (bnp (fX1_isRoot F p3) (fun r17 => cIf (r17 = 0) (JX1_refer_20 F σ1 p1 p2 p3) (JX1_refer_21 F σ1 p1 p2 p3 1))))
set_option maxHeartbeats 4000000 in
set_option maxRecDepth 100000 in
theorem jX1_refer_43 {p : Program} {l : Launch} {e : Env} {s : State} {m : MethodId} {args : Array Value} {below : List Frame} {meth : Method} {c : Code} {A : Nat → Prop} {G : gT} {h0 : Nat} {h : (Nat → Nat)} {F : Nat} (S : CallFix p m c cX1_refer 5 s args wsX1_refer RX1) (hr : meth.sig.returnType = none) (hlocks : meth.locks = false) (hin : ∀ w ∈ wsX10, w ∈ wsX1_refer) (hK : gK G s) (hA : ∀ q, s.heap.size ≤ q → A q) {res : mS} (σ : mS) (v1 : Int32) (v2 : Int32) (v3 : Int32) (v4 : Int32) (t1 : Int32) (H : Heap) (locs : List Loc) (ls : Array Slot) (hg : JX1_refer_43 F σ v1 v2 v3 v4 t1 = some res) (hI : mI s A G h0 h σ H locs) (hl : lv_has ls 5 [(0, .ref h0), (1, .int v1), (2, .int v2), (3, .int v3), (4, .int v4)]) : W p l e rX1_refer s m args below meth c H locs 0 0 (MQ below (mQv G h0 h res A) args s 0 0 A) (F0 m 43 ls [.int t1, .ref h0]) := by
  have hx := S.1
  have hb := S.2.1
  have hts := S.2.2.2.2
  have hown := S.2.2.2.1
  unfold JX1_refer_43 at hg
  obtain ⟨r6, σ5, er6, hg⟩ := bnd_e hg
  refine mc_i S hK hA hI (As := [.int t1]) (rest := []) (kX1_says l G h0 h H.size F σ t1  r6 σ5 er6) (cwV 1 hts gX1_refer_X1_says rfl rfl rfl nX1_says ⟨Nat.le_of_ble_eq_true rfl, Nat.le_of_ble_eq_true rfl⟩) rfl hl.1 rfl (Nat.le_of_ble_eq_true rfl) dX1_refer_43 ⟨Nat.le_refl _, Nat.le_refl _⟩ (fun H locs hI => ?_)
  refine lv_if_eq (tgt := 71) hx hb dX1_refer_46 (by decide) (fun c7 => ?_) (fun c7 => ?_)
  · have hg := cIf_te c7 hg
    exact me_v S hr hlocks hK hI hg dX1_refer_71
  · have hg := cIf_fe c7 hg
    refine lv_aload_n hx hb dX1_refer_49 rfl (lv_at hl 0 rfl) ?_
    refine mg_refers S hin hK hI (ix := 37) (by decide +kernel) dX1_refer_50 ?_
    refine lv_bipush (v := 8) hx hb dX1_refer_53 (by decide) ?_
    refine lv_aload_n hx hb dX1_refer_55 rfl (lv_at hl 0 rfl) ?_
    refine mg_root S hin hK hI (ix := 9) (by decide +kernel) dX1_refer_56 ?_
    refine lv_iload_n hx hb dX1_refer_59 rfl (lv_at hl 1 rfl) ?_
    obtain ⟨c8, hg⟩ := ck_e hg
    obtain ⟨x9, ex9, hg⟩ := nmd_e hg
    refine mr_root S hK hI c8 ex9 dX1_refer_60 ?_
    refine lv_imul hx hb dX1_refer_61 ?_
    refine lv_iload_n hx hb dX1_refer_62 rfl (lv_at hl 2 rfl) ?_
    refine lv_iadd hx hb dX1_refer_63 ?_
    refine lv_aload_n hx hb dX1_refer_64 rfl (lv_at hl 0 rfl) ?_
    refine mg_root S hin hK hI (ix := 9) (by decide +kernel) dX1_refer_65 ?_
    refine lv_iload_n hx hb dX1_refer_68 rfl (lv_at hl 3 rfl) ?_
    obtain ⟨c10, hg⟩ := ck_e hg
    obtain ⟨x11, ex11, hg⟩ := nmd_e hg
    refine mr_root S hK hI c10 ex11 dX1_refer_69 ?_
    obtain ⟨c12, hg⟩ := ck_e hg
    obtain ⟨σ13, eσ13, hg⟩ := nmd_e hg
    refine mu_refers S hK hI c12 eσ13 dX1_refer_70 (fun H locs hI => ?_)
    exact me_v S hr hlocks hK hI hg dX1_refer_71
set_option maxHeartbeats 4000000 in
set_option maxRecDepth 100000 in
theorem jX1_refer_42 {p : Program} {l : Launch} {e : Env} {s : State} {m : MethodId} {args : Array Value} {below : List Frame} {meth : Method} {c : Code} {A : Nat → Prop} {G : gT} {h0 : Nat} {h : (Nat → Nat)} {F : Nat} (S : CallFix p m c cX1_refer 5 s args wsX1_refer RX1) (hr : meth.sig.returnType = none) (hlocks : meth.locks = false) (hin : ∀ w ∈ wsX10, w ∈ wsX1_refer) (hK : gK G s) (hA : ∀ q, s.heap.size ≤ q → A q) {res : mS} (σ : mS) (v1 : Int32) (v2 : Int32) (v3 : Int32) (v4 : Int32) (H : Heap) (locs : List Loc) (ls : Array Slot) (hg : JX1_refer_42 F σ v1 v2 v3 v4 = some res) (hI : mI s A G h0 h σ H locs) (hl : lv_has ls 5 [(0, .ref h0), (1, .int v1), (2, .int v2), (3, .int v3), (4, .int v4)]) : W p l e rX1_refer s m args below meth c H locs 0 0 (MQ below (mQv G h0 h res A) args s 0 0 A) (F0 m 42 ls [.ref h0]) := by
  have hx := S.1
  have hb := S.2.1
  have hts := S.2.2.2.2
  have hown := S.2.2.2.1
  unfold JX1_refer_42 at hg
  refine lv_iconst (v := 0) hx hb dX1_refer_42 (by decide) ?_
  exact jX1_refer_43 S hr hlocks hin hK hA σ v1 v2 v3 v4 0 H locs ls hg hI (lv_sub hl [0, 1, 2, 3, 4] rfl)
set_option maxHeartbeats 4000000 in
set_option maxRecDepth 100000 in
theorem jX1_refer_21 {p : Program} {l : Launch} {e : Env} {s : State} {m : MethodId} {args : Array Value} {below : List Frame} {meth : Method} {c : Code} {A : Nat → Prop} {G : gT} {h0 : Nat} {h : (Nat → Nat)} {F : Nat} (S : CallFix p m c cX1_refer 5 s args wsX1_refer RX1) (hr : meth.sig.returnType = none) (hlocks : meth.locks = false) (hin : ∀ w ∈ wsX10, w ∈ wsX1_refer) (hK : gK G s) (hA : ∀ q, s.heap.size ≤ q → A q) {res : mS} (σ : mS) (v1 : Int32) (v2 : Int32) (v3 : Int32) (t0 : Int32) (H : Heap) (locs : List Loc) (ls : Array Slot) (hg : JX1_refer_21 F σ v1 v2 v3 t0 = some res) (hI : mI s A G h0 h σ H locs) (hl : lv_has ls 5 [(0, .ref h0), (1, .int v1), (2, .int v2), (3, .int v3)]) : W p l e rX1_refer s m args below meth c H locs 0 0 (MQ below (mQv G h0 h res A) args s 0 0 A) (F0 m 21 ls [.int t0]) := by
  have hx := S.1
  have hb := S.2.1
  have hts := S.2.2.2.2
  have hown := S.2.2.2.1
  unfold JX1_refer_21 at hg
  refine lv_istore (lv' := [(4, .int t0), (0, .ref h0), (1, .int v1), (2, .int v2), (3, .int v3)]) hx hb dX1_refer_21 hl (by decide) rfl (fun ls hl => ?_)
  refine lv_aload_n hx hb dX1_refer_23 rfl (lv_at hl 1 rfl) ?_
  refine lv_iload hx hb dX1_refer_24 (lv_at hl 0 rfl) ?_
  refine lv_if_eq (tgt := 42) hx hb dX1_refer_26 (by decide) (fun c4 => ?_) (fun c4 => ?_)
  · have hg := cIf_te c4 hg
    exact jX1_refer_42 S hr hlocks hin hK hA σ v1 v2 v3 t0 H locs ls hg hI (lv_sub hl [1, 2, 3, 4, 0] rfl)
  · have hg := cIf_fe c4 hg
    refine lv_aload_n hx hb dX1_refer_29 rfl (lv_at hl 1 rfl) ?_
    refine mg_root S hin hK hI (ix := 9) (by decide +kernel) dX1_refer_30 ?_
    refine lv_iload_n hx hb dX1_refer_33 rfl (lv_at hl 4 rfl) ?_
    obtain ⟨c14, hg⟩ := ck_e hg
    obtain ⟨x15, ex15, hg⟩ := nmd_e hg
    refine mr_root S hK hI c14 ex15 dX1_refer_34 ?_
    refine lv_if_le (tgt := 42) hx hb dX1_refer_35 (by decide) (fun c16 => ?_) (fun c16 => ?_)
    · have hg := cIf_te c16 hg
      exact jX1_refer_42 S hr hlocks hin hK hA σ v1 v2 v3 t0 H locs ls hg hI (lv_sub hl [1, 2, 3, 4, 0] rfl)
    · have hg := cIf_fe c16 hg
      refine lv_iconst (v := 1) hx hb dX1_refer_38 (by decide) ?_
      refine lv_goto (tgt := 43) hx hb dX1_refer_39 (by decide) ?_
      exact jX1_refer_43 S hr hlocks hin hK hA σ v1 v2 v3 t0 1 H locs ls hg hI (lv_sub hl [1, 2, 3, 4, 0] rfl)
set_option maxHeartbeats 4000000 in
set_option maxRecDepth 100000 in
theorem jX1_refer_20 {p : Program} {l : Launch} {e : Env} {s : State} {m : MethodId} {args : Array Value} {below : List Frame} {meth : Method} {c : Code} {A : Nat → Prop} {G : gT} {h0 : Nat} {h : (Nat → Nat)} {F : Nat} (S : CallFix p m c cX1_refer 5 s args wsX1_refer RX1) (hr : meth.sig.returnType = none) (hlocks : meth.locks = false) (hin : ∀ w ∈ wsX10, w ∈ wsX1_refer) (hK : gK G s) (hA : ∀ q, s.heap.size ≤ q → A q) {res : mS} (σ : mS) (v1 : Int32) (v2 : Int32) (v3 : Int32) (H : Heap) (locs : List Loc) (ls : Array Slot) (hg : JX1_refer_20 F σ v1 v2 v3 = some res) (hI : mI s A G h0 h σ H locs) (hl : lv_has ls 5 [(0, .ref h0), (1, .int v1), (2, .int v2), (3, .int v3)]) : W p l e rX1_refer s m args below meth c H locs 0 0 (MQ below (mQv G h0 h res A) args s 0 0 A) (F0 m 20 ls []) := by
  have hx := S.1
  have hb := S.2.1
  have hts := S.2.2.2.2
  have hown := S.2.2.2.1
  unfold JX1_refer_20 at hg
  refine lv_iconst (v := 0) hx hb dX1_refer_20 (by decide) ?_
  exact jX1_refer_21 S hr hlocks hin hK hA σ v1 v2 v3 0 H locs ls hg hI (lv_sub hl [0, 1, 2, 3] rfl)
set_option maxHeartbeats 4000000 in
set_option maxRecDepth 100000 in
theorem kX1_refer (l : Launch) (G : gT) (h0 : Nat) (h : (Nat → Nat)) (sz F : Nat) (σ : mS) (p1 : Int32) (p2 : Int32) (p3 : Int32) (σr : mS) (hg : fX1_refer F σ p1 p2 p3 = some σr) : Met l yX1_refer wsX1_refer rX1_refer (mPre G h0 h σ sz [.int p1, .int p2, .int p3]) (mQv G h0 h σr (mA G h0 h σ sz)) 0 0 (mA G h0 h σ sz) := by
  refine mMet (Qc := mQv G h0 h σr) (by decide +kernel) rfl rfl (Nat.le_of_ble_eq_true rfl) ?_
  intro p e s m args below meth c A S hr hlocks hK hA H locs hI ls hl
  have hl : lv_has ls 5 [(0, .ref h0), (1, .int p1), (2, .int p2), (3, .int p3)] := hl
  have hin : ∀ w ∈ wsX10, w ∈ wsX1_refer := in_ws
  have hx := S.1
  have hb := S.2.1
  have hts := S.2.2.2.2
  have hown := S.2.2.2.1
  unfold fX1_refer at hg
  refine lv_aload_n hx hb dX1_refer_0 rfl (lv_at hl 0 rfl) ?_
  refine lv_iload_n hx hb dX1_refer_1 rfl (lv_at hl 1 rfl) ?_
  refine lv_iload_n hx hb dX1_refer_2 rfl (lv_at hl 2 rfl) ?_
  obtain ⟨r2, σ1, er2, hg⟩ := bnd_e hg
  refine mc_i S hK hA hI (As := [.int p1, .int p2]) (rest := []) (kX1_hasValue l G h0 h H.size F σ p1 p2  r2 σ1 er2) (cwV 2 hts gX1_refer_X1_hasValue rfl rfl rfl nX1_hasValue ⟨Nat.le_of_ble_eq_true rfl, Nat.le_of_ble_eq_true rfl⟩) rfl hl.1 rfl (Nat.le_of_ble_eq_true rfl) dX1_refer_3 ⟨Nat.le_refl _, Nat.le_refl _⟩ (fun H locs hI => ?_)
  refine lv_if_eq (tgt := 20) hx hb dX1_refer_6 (by decide) (fun c3 => ?_) (fun c3 => ?_)
  · have hg := cIf_te c3 hg
    exact jX1_refer_20 S hr hlocks hin hK hA σ1 p1 p2 p3 H locs ls hg hI (lv_sub hl [0, 1, 2, 3] rfl)
  · have hg := cIf_fe c3 hg
    refine lv_iload_n hx hb dX1_refer_9 rfl (lv_at hl 3 rfl) ?_
    obtain ⟨r17, er17, hg⟩ := bnp_e hg
    refine ms_i S hA hI (As := [.int p3]) (rest := []) (kX1_isRoot l H.size F p3 r17 er17) (va_cwS 1 hts gX1_refer_X1_isRoot rfl rfl rfl nX1_isRoot ⟨Nat.le_of_ble_eq_true rfl, Nat.le_of_ble_eq_true rfl⟩) rfl hl.1 rfl (Nat.le_of_ble_eq_true rfl) dX1_refer_10 ⟨Nat.le_refl _, Nat.le_refl _⟩ (fun H locs hI => ?_)
    refine lv_if_eq (tgt := 20) hx hb dX1_refer_13 (by decide) (fun c18 => ?_) (fun c18 => ?_)
    · have hg := cIf_te c18 hg
      exact jX1_refer_20 S hr hlocks hin hK hA σ1 p1 p2 p3 H locs ls hg hI (lv_sub hl [0, 1, 2, 3] rfl)
    · have hg := cIf_fe c18 hg
      refine lv_iconst (v := 1) hx hb dX1_refer_16 (by decide) ?_
      refine lv_goto (tgt := 21) hx hb dX1_refer_17 (by decide) ?_
      exact jX1_refer_21 S hr hlocks hin hK hA σ1 p1 p2 p3 1 H locs ls hg hI (lv_sub hl [0, 1, 2, 3] rfl)
-- OwnMemoryModel.bits
abbrev rX1_bits : Room := { frames := 4, cells := 0, slots := 0, locals := 85 }
theorem nX1_bits : yX1_bits.cls = RX1 ∧ yX1_bits.cls ≠ "java/lang/invoke/MethodHandle" ∧ yX1_bits.cls ≠ "java/lang/invoke/VarHandle" ∧ (parseMethodDescriptor yX1_bits.desc).map (fun d => d.parameters.length) = some 2 := by decide +kernel
noncomputable def JX1_bits_36 (F : Nat) (σ : mS) (v1 : Int32) (v2 : Int32) (v3 : Int32) (t1 : Int32) : Option (Int64 × mS) := bnd (fX1_says F σ t1) (fun r5 σ4 => cIf (r5 = 0) (some (0, σ4)) (ck (vp_in v1 24) (nmd (m_root σ4 v1.toNatClampNeg) (fun x8 => ck (vp_in ((8 * x8) + v2) 32768) (nmd (m_number σ4 ((8 * x8) + v2).toNatClampNeg) (fun x10 => some (x10, σ4)))))))
noncomputable def JX1_bits_35 (F : Nat) (σ : mS) (v1 : Int32) (v2 : Int32) (v3 : Int32) : Option (Int64 × mS) := JX1_bits_36 F σ v1 v2 v3 0
noncomputable def fX1_bits (F : Nat) (σ : mS) (p1 : Int32) (p2 : Int32) : Option (Int64 × mS) := bnd (fX1_hasValue F σ p1 p2) (fun r2 σ1 => cIf (r2 = 0) (JX1_bits_35 F σ1 p1 p2 r2) (ck (vp_in p1 24) (nmd (m_root σ1 p1.toNatClampNeg) (fun x12 => ck (vp_in ((8 * x12) + p2) 32768) (nmd (m_refers σ1 ((8 * x12) + p2).toNatClampNeg) (fun x14 => cIf (x14 = 0) (JX1_bits_36 F σ1 p1 p2 r2 1) (JX1_bits_35 F σ1 p1 p2 r2)))))))
set_option maxHeartbeats 4000000 in
set_option maxRecDepth 100000 in
theorem jX1_bits_36 {p : Program} {l : Launch} {e : Env} {s : State} {m : MethodId} {args : Array Value} {below : List Frame} {meth : Method} {c : Code} {A : Nat → Prop} {G : gT} {h0 : Nat} {h : (Nat → Nat)} {F : Nat} (S : CallFix p m c cX1_bits 4 s args wsX1_bits RX1) (hr : meth.sig.returnType = some .long) (hlocks : meth.locks = false) (hin : ∀ w ∈ wsX10, w ∈ wsX1_bits) (hK : gK G s) (hA : ∀ q, s.heap.size ≤ q → A q) {res : (Int64 × mS)} (σ : mS) (v1 : Int32) (v2 : Int32) (v3 : Int32) (t1 : Int32) (H : Heap) (locs : List Loc) (ls : Array Slot) (hg : JX1_bits_36 F σ v1 v2 v3 t1 = some res) (hI : mI s A G h0 h σ H locs) (hl : lv_has ls 4 [(0, .ref h0), (1, .int v1), (2, .int v2), (3, .int v3)]) : W p l e rX1_bits s m args below meth c H locs 0 0 (MQ below (mQl G h0 h res.1 res.2 A) args s 0 0 A) (F0 m 36 ls [.int t1, .ref h0]) := by
  have hx := S.1
  have hb := S.2.1
  have hts := S.2.2.2.2
  have hown := S.2.2.2.1
  unfold JX1_bits_36 at hg
  obtain ⟨r5, σ4, er5, hg⟩ := bnd_e hg
  refine mc_i S hK hA hI (As := [.int t1]) (rest := []) (kX1_says l G h0 h H.size F σ t1  r5 σ4 er5) (cwV 1 hts gX1_bits_X1_says rfl rfl rfl nX1_says ⟨Nat.le_of_ble_eq_true rfl, Nat.le_of_ble_eq_true rfl⟩) rfl hl.1 rfl (Nat.le_of_ble_eq_true rfl) dX1_bits_36 ⟨Nat.le_refl _, Nat.le_refl _⟩ (fun H locs hI => ?_)
  refine lv_if_eq (tgt := 61) hx hb dX1_bits_39 (by decide) (fun c6 => ?_) (fun c6 => ?_)
  · have hg := cIf_te c6 hg
    refine lv_lconst (v := 0) hx hb dX1_bits_61 (by decide) ?_
    exact me_l S hr hlocks hK hI hg dX1_bits_62
  · have hg := cIf_fe c6 hg
    refine lv_aload_n hx hb dX1_bits_42 rfl (lv_at hl 0 rfl) ?_
    refine mg_number S hin hK hI (ix := 33) (by decide +kernel) dX1_bits_43 ?_
    refine lv_bipush (v := 8) hx hb dX1_bits_46 (by decide) ?_
    refine lv_aload_n hx hb dX1_bits_48 rfl (lv_at hl 0 rfl) ?_
    refine mg_root S hin hK hI (ix := 9) (by decide +kernel) dX1_bits_49 ?_
    refine lv_iload_n hx hb dX1_bits_52 rfl (lv_at hl 1 rfl) ?_
    obtain ⟨c7, hg⟩ := ck_e hg
    obtain ⟨x8, ex8, hg⟩ := nmd_e hg
    refine mr_root S hK hI c7 ex8 dX1_bits_53 ?_
    refine lv_imul hx hb dX1_bits_54 ?_
    refine lv_iload_n hx hb dX1_bits_55 rfl (lv_at hl 2 rfl) ?_
    refine lv_iadd hx hb dX1_bits_56 ?_
    obtain ⟨c9, hg⟩ := ck_e hg
    obtain ⟨x10, ex10, hg⟩ := nmd_e hg
    refine mr_number S hK hI c9 ex10 dX1_bits_57 ?_
    refine lv_goto (tgt := 62) hx hb dX1_bits_58 (by decide) ?_
    exact me_l S hr hlocks hK hI hg dX1_bits_62
set_option maxHeartbeats 4000000 in
set_option maxRecDepth 100000 in
theorem jX1_bits_35 {p : Program} {l : Launch} {e : Env} {s : State} {m : MethodId} {args : Array Value} {below : List Frame} {meth : Method} {c : Code} {A : Nat → Prop} {G : gT} {h0 : Nat} {h : (Nat → Nat)} {F : Nat} (S : CallFix p m c cX1_bits 4 s args wsX1_bits RX1) (hr : meth.sig.returnType = some .long) (hlocks : meth.locks = false) (hin : ∀ w ∈ wsX10, w ∈ wsX1_bits) (hK : gK G s) (hA : ∀ q, s.heap.size ≤ q → A q) {res : (Int64 × mS)} (σ : mS) (v1 : Int32) (v2 : Int32) (v3 : Int32) (H : Heap) (locs : List Loc) (ls : Array Slot) (hg : JX1_bits_35 F σ v1 v2 v3 = some res) (hI : mI s A G h0 h σ H locs) (hl : lv_has ls 4 [(0, .ref h0), (1, .int v1), (2, .int v2), (3, .int v3)]) : W p l e rX1_bits s m args below meth c H locs 0 0 (MQ below (mQl G h0 h res.1 res.2 A) args s 0 0 A) (F0 m 35 ls [.ref h0]) := by
  have hx := S.1
  have hb := S.2.1
  have hts := S.2.2.2.2
  have hown := S.2.2.2.1
  unfold JX1_bits_35 at hg
  refine lv_iconst (v := 0) hx hb dX1_bits_35 (by decide) ?_
  exact jX1_bits_36 S hr hlocks hin hK hA σ v1 v2 v3 0 H locs ls hg hI (lv_sub hl [0, 1, 2, 3] rfl)
set_option maxHeartbeats 4000000 in
set_option maxRecDepth 100000 in
theorem kX1_bits (l : Launch) (G : gT) (h0 : Nat) (h : (Nat → Nat)) (sz F : Nat) (σ : mS) (p1 : Int32) (p2 : Int32) (r : Int64) (σr : mS) (hg : fX1_bits F σ p1 p2 = some (r, σr)) : Met l yX1_bits wsX1_bits rX1_bits (mPre G h0 h σ sz [.int p1, .int p2]) (mQl G h0 h r σr (mA G h0 h σ sz)) 0 0 (mA G h0 h σ sz) := by
  refine mMet (Qc := mQl G h0 h r σr) (by decide +kernel) rfl rfl (Nat.le_of_ble_eq_true rfl) ?_
  intro p e s m args below meth c A S hr hlocks hK hA H locs hI ls hl
  have hl : lv_has ls 4 [(0, .ref h0), (1, .int p1), (2, .int p2)] := hl
  have hin : ∀ w ∈ wsX10, w ∈ wsX1_bits := by decide +kernel
  have hx := S.1
  have hb := S.2.1
  have hts := S.2.2.2.2
  have hown := S.2.2.2.1
  unfold fX1_bits at hg
  refine lv_aload_n hx hb dX1_bits_0 rfl (lv_at hl 0 rfl) ?_
  refine lv_iload_n hx hb dX1_bits_1 rfl (lv_at hl 1 rfl) ?_
  refine lv_iload_n hx hb dX1_bits_2 rfl (lv_at hl 2 rfl) ?_
  obtain ⟨r2, σ1, er2, hg⟩ := bnd_e hg
  refine mc_i S hK hA hI (As := [.int p1, .int p2]) (rest := []) (kX1_hasValue l G h0 h H.size F σ p1 p2  r2 σ1 er2) (cwV 2 hts gX1_bits_X1_hasValue rfl rfl rfl nX1_hasValue ⟨Nat.le_of_ble_eq_true rfl, Nat.le_of_ble_eq_true rfl⟩) rfl hl.1 rfl (Nat.le_of_ble_eq_true rfl) dX1_bits_3 ⟨Nat.le_refl _, Nat.le_refl _⟩ (fun H locs hI => ?_)
  refine lv_istore_n (lv' := [(3, .int r2), (0, .ref h0), (1, .int p1), (2, .int p2)]) hx hb dX1_bits_6 rfl hl (by decide) rfl (fun ls hl => ?_)
  refine lv_aload_n hx hb dX1_bits_7 rfl (lv_at hl 1 rfl) ?_
  refine lv_iload_n hx hb dX1_bits_8 rfl (lv_at hl 0 rfl) ?_
  refine lv_if_eq (tgt := 35) hx hb dX1_bits_9 (by decide) (fun c3 => ?_) (fun c3 => ?_)
  · have hg := cIf_te c3 hg
    exact jX1_bits_35 S hr hlocks hin hK hA σ1 p1 p2 r2 H locs ls hg hI (lv_sub hl [1, 2, 3, 0] rfl)
  · have hg := cIf_fe c3 hg
    refine lv_aload_n hx hb dX1_bits_12 rfl (lv_at hl 1 rfl) ?_
    refine mg_refers S hin hK hI (ix := 37) (by decide +kernel) dX1_bits_13 ?_
    refine lv_bipush (v := 8) hx hb dX1_bits_16 (by decide) ?_
    refine lv_aload_n hx hb dX1_bits_18 rfl (lv_at hl 1 rfl) ?_
    refine mg_root S hin hK hI (ix := 9) (by decide +kernel) dX1_bits_19 ?_
    refine lv_iload_n hx hb dX1_bits_22 rfl (lv_at hl 2 rfl) ?_
    obtain ⟨c11, hg⟩ := ck_e hg
    obtain ⟨x12, ex12, hg⟩ := nmd_e hg
    refine mr_root S hK hI c11 ex12 dX1_bits_23 ?_
    refine lv_imul hx hb dX1_bits_24 ?_
    refine lv_iload_n hx hb dX1_bits_25 rfl (lv_at hl 3 rfl) ?_
    refine lv_iadd hx hb dX1_bits_26 ?_
    obtain ⟨c13, hg⟩ := ck_e hg
    obtain ⟨x14, ex14, hg⟩ := nmd_e hg
    refine mr_refers S hK hI c13 ex14 dX1_bits_27 ?_
    refine lv_if_ne (tgt := 35) hx hb dX1_bits_28 (by decide) (fun c15 => ?_) (fun c15 => ?_)
    · have hg := cIf_fe c15 hg
      exact jX1_bits_35 S hr hlocks hin hK hA σ1 p1 p2 r2 H locs ls hg hI (lv_sub hl [1, 2, 3, 0] rfl)
    · have hg := cIf_te c15 hg
      refine lv_iconst (v := 1) hx hb dX1_bits_31 (by decide) ?_
      refine lv_goto (tgt := 36) hx hb dX1_bits_32 (by decide) ?_
      exact jX1_bits_36 S hr hlocks hin hK hA σ1 p1 p2 r2 1 H locs ls hg hI (lv_sub hl [1, 2, 3, 0] rfl)
-- OwnMemoryModel.follow
abbrev rX1_follow : Room := { frames := 4, cells := 0, slots := 0, locals := 85 }
theorem nX1_follow : yX1_follow.cls = RX1 ∧ yX1_follow.cls ≠ "java/lang/invoke/MethodHandle" ∧ yX1_follow.cls ≠ "java/lang/invoke/VarHandle" ∧ (parseMethodDescriptor yX1_follow.desc).map (fun d => d.parameters.length) = some 3 := by decide +kernel
noncomputable def JX1_follow_22 (F : Nat) (σ : mS) (v1 : Int32) (v2 : Int32) (v3 : Int32) (t1 : Int32) : Option (Int32 × mS) := bnd (fX1_says F σ t1) (fun r5 σ4 => cIf (r5 = 0) (some (0, σ4)) (ck (vp_in v1 24) (nmd (m_root σ4 v1.toNatClampNeg) (fun x8 => ck (vp_in ((8 * x8) + v2) 32768) (nmd (m_refers σ4 ((8 * x8) + v2).toNatClampNeg) (fun x10 => cIf (x10 ≤ 0) (cIf (x10 ≤ 0) (some (0, σ4)) (some (1, σ4))) (ck (vp_in v3 24) (nmd (m_s_root σ4 (upd (m_root σ4) v3.toNatClampNeg x10)) (fun σ14 => cIf (x10 ≤ 0) (some (0, σ14)) (some (1, σ14)))))))))))
noncomputable def JX1_follow_21 (F : Nat) (σ : mS) (v1 : Int32) (v2 : Int32) (v3 : Int32) : Option (Int32 × mS) := JX1_follow_22 F σ v1 v2 v3 0
noncomputable def fX1_follow (F : Nat) (σ : mS) (p1 : Int32) (p2 : Int32) (p3 : Int32) : Option (Int32 × mS) := bnd (fX1_hasValue F σ p1 p2) (fun r2 σ1 => cIf (r2 = 0) (JX1_follow_21 F σ1 p1 p2 p3) (bnp (fX1_isRoot F p3) (fun r16 => cIf (r16 = 0) (JX1_follow_21 F σ1 p1 p2 p3) (JX1_follow_22 F σ1 p1 p2 p3 1))))
set_option maxHeartbeats 4000000 in
set_option maxRecDepth 100000 in
theorem jX1_follow_22 {p : Program} {l : Launch} {e : Env} {s : State} {m : MethodId} {args : Array Value} {below : List Frame} {meth : Method} {c : Code} {A : Nat → Prop} {G : gT} {h0 : Nat} {h : (Nat → Nat)} {F : Nat} (S : CallFix p m c cX1_follow 5 s args wsX1_follow RX1) (hr : meth.sig.returnType = some .boolean) (hlocks : meth.locks = false) (hin : ∀ w ∈ wsX10, w ∈ wsX1_follow) (hK : gK G s) (hA : ∀ q, s.heap.size ≤ q → A q) {res : (Int32 × mS)} (σ : mS) (v1 : Int32) (v2 : Int32) (v3 : Int32) (t1 : Int32) (H : Heap) (locs : List Loc) (ls : Array Slot) (hg : JX1_follow_22 F σ v1 v2 v3 t1 = some res) (hI : mI s A G h0 h σ H locs) (hl : lv_has ls 5 [(0, .ref h0), (1, .int v1), (2, .int v2), (3, .int v3)]) : W p l e rX1_follow s m args below meth c H locs 0 0 (MQ below (mQi G h0 h res.1 res.2 A) args s 0 0 A) (F0 m 22 ls [.int t1, .ref h0]) := by
  have hx := S.1
  have hb := S.2.1
  have hts := S.2.2.2.2
  have hown := S.2.2.2.1
  unfold JX1_follow_22 at hg
  obtain ⟨r5, σ4, er5, hg⟩ := bnd_e hg
  refine mc_i S hK hA hI (As := [.int t1]) (rest := []) (kX1_says l G h0 h H.size F σ t1  r5 σ4 er5) (cwV 1 hts gX1_follow_X1_says rfl rfl rfl nX1_says ⟨Nat.le_of_ble_eq_true rfl, Nat.le_of_ble_eq_true rfl⟩) rfl hl.1 rfl (Nat.le_of_ble_eq_true rfl) dX1_follow_22 ⟨Nat.le_refl _, Nat.le_refl _⟩ (fun H locs hI => ?_)
  refine lv_if_ne (tgt := 30) hx hb dX1_follow_25 (by decide) (fun c6 => ?_) (fun c6 => ?_)
  · have hg := cIf_fe c6 hg
    refine lv_aload_n hx hb dX1_follow_30 rfl (lv_at hl 0 rfl) ?_
    refine mg_refers S hin hK hI (ix := 37) (by decide +kernel) dX1_follow_31 ?_
    refine lv_bipush (v := 8) hx hb dX1_follow_34 (by decide) ?_
    refine lv_aload_n hx hb dX1_follow_36 rfl (lv_at hl 0 rfl) ?_
    refine mg_root S hin hK hI (ix := 9) (by decide +kernel) dX1_follow_37 ?_
    refine lv_iload_n hx hb dX1_follow_40 rfl (lv_at hl 1 rfl) ?_
    obtain ⟨c7, hg⟩ := ck_e hg
    obtain ⟨x8, ex8, hg⟩ := nmd_e hg
    refine mr_root S hK hI c7 ex8 dX1_follow_41 ?_
    refine lv_imul hx hb dX1_follow_42 ?_
    refine lv_iload_n hx hb dX1_follow_43 rfl (lv_at hl 2 rfl) ?_
    refine lv_iadd hx hb dX1_follow_44 ?_
    obtain ⟨c9, hg⟩ := ck_e hg
    obtain ⟨x10, ex10, hg⟩ := nmd_e hg
    refine mr_refers S hK hI c9 ex10 dX1_follow_45 ?_
    refine lv_istore (lv' := [(4, .int x10), (0, .ref h0), (1, .int v1), (2, .int v2), (3, .int v3)]) hx hb dX1_follow_46 hl (by decide) rfl (fun ls hl => ?_)
    refine lv_iload hx hb dX1_follow_48 (lv_at hl 0 rfl) ?_
    refine lv_if_le (tgt := 61) hx hb dX1_follow_50 (by decide) (fun c11 => ?_) (fun c11 => ?_)
    · have hg := cIf_te c11 hg
      refine lv_iload hx hb dX1_follow_61 (lv_at hl 0 rfl) ?_
      refine lv_if_le (tgt := 70) hx hb dX1_follow_63 (by decide) (fun c12 => ?_) (fun c12 => ?_)
      · have hg := cIf_te c12 hg
        refine lv_iconst (v := 0) hx hb dX1_follow_70 (by decide) ?_
        exact me_z S hr hlocks hK hI rfl hg dX1_follow_71
      · have hg := cIf_fe c12 hg
        refine lv_iconst (v := 1) hx hb dX1_follow_66 (by decide) ?_
        refine lv_goto (tgt := 71) hx hb dX1_follow_67 (by decide) ?_
        exact me_z S hr hlocks hK hI rfl hg dX1_follow_71
    · have hg := cIf_fe c11 hg
      refine lv_aload_n hx hb dX1_follow_53 rfl (lv_at hl 1 rfl) ?_
      refine mg_root S hin hK hI (ix := 9) (by decide +kernel) dX1_follow_54 ?_
      refine lv_iload_n hx hb dX1_follow_57 rfl (lv_at hl 4 rfl) ?_
      refine lv_iload hx hb dX1_follow_58 (lv_at hl 0 rfl) ?_
      obtain ⟨c13, hg⟩ := ck_e hg
      obtain ⟨σ14, eσ14, hg⟩ := nmd_e hg
      refine mu_root S hK hI c13 eσ14 dX1_follow_60 (fun H locs hI => ?_)
      refine lv_iload hx hb dX1_follow_61 (lv_at hl 0 rfl) ?_
      refine lv_if_le (tgt := 70) hx hb dX1_follow_63 (by decide) (fun c15 => ?_) (fun c15 => ?_)
      · have hg := cIf_te c15 hg
        refine lv_iconst (v := 0) hx hb dX1_follow_70 (by decide) ?_
        exact me_z S hr hlocks hK hI rfl hg dX1_follow_71
      · have hg := cIf_fe c15 hg
        refine lv_iconst (v := 1) hx hb dX1_follow_66 (by decide) ?_
        refine lv_goto (tgt := 71) hx hb dX1_follow_67 (by decide) ?_
        exact me_z S hr hlocks hK hI rfl hg dX1_follow_71
  · have hg := cIf_te c6 hg
    refine lv_iconst (v := 0) hx hb dX1_follow_28 (by decide) ?_
    exact me_z S hr hlocks hK hI rfl hg dX1_follow_29
set_option maxHeartbeats 4000000 in
set_option maxRecDepth 100000 in
theorem jX1_follow_21 {p : Program} {l : Launch} {e : Env} {s : State} {m : MethodId} {args : Array Value} {below : List Frame} {meth : Method} {c : Code} {A : Nat → Prop} {G : gT} {h0 : Nat} {h : (Nat → Nat)} {F : Nat} (S : CallFix p m c cX1_follow 5 s args wsX1_follow RX1) (hr : meth.sig.returnType = some .boolean) (hlocks : meth.locks = false) (hin : ∀ w ∈ wsX10, w ∈ wsX1_follow) (hK : gK G s) (hA : ∀ q, s.heap.size ≤ q → A q) {res : (Int32 × mS)} (σ : mS) (v1 : Int32) (v2 : Int32) (v3 : Int32) (H : Heap) (locs : List Loc) (ls : Array Slot) (hg : JX1_follow_21 F σ v1 v2 v3 = some res) (hI : mI s A G h0 h σ H locs) (hl : lv_has ls 5 [(0, .ref h0), (1, .int v1), (2, .int v2), (3, .int v3)]) : W p l e rX1_follow s m args below meth c H locs 0 0 (MQ below (mQi G h0 h res.1 res.2 A) args s 0 0 A) (F0 m 21 ls [.ref h0]) := by
  have hx := S.1
  have hb := S.2.1
  have hts := S.2.2.2.2
  have hown := S.2.2.2.1
  unfold JX1_follow_21 at hg
  refine lv_iconst (v := 0) hx hb dX1_follow_21 (by decide) ?_
  exact jX1_follow_22 S hr hlocks hin hK hA σ v1 v2 v3 0 H locs ls hg hI (lv_sub hl [0, 1, 2, 3] rfl)
set_option maxHeartbeats 4000000 in
set_option maxRecDepth 100000 in
theorem kX1_follow (l : Launch) (G : gT) (h0 : Nat) (h : (Nat → Nat)) (sz F : Nat) (σ : mS) (p1 : Int32) (p2 : Int32) (p3 : Int32) (r : Int32) (σr : mS) (hg : fX1_follow F σ p1 p2 p3 = some (r, σr)) : Met l yX1_follow wsX1_follow rX1_follow (mPre G h0 h σ sz [.int p1, .int p2, .int p3]) (mQi G h0 h r σr (mA G h0 h σ sz)) 0 0 (mA G h0 h σ sz) := by
  refine mMet (Qc := mQi G h0 h r σr) (by decide +kernel) rfl rfl (Nat.le_of_ble_eq_true rfl) ?_
  intro p e s m args below meth c A S hr hlocks hK hA H locs hI ls hl
  have hl : lv_has ls 5 [(0, .ref h0), (1, .int p1), (2, .int p2), (3, .int p3)] := hl
  have hin : ∀ w ∈ wsX10, w ∈ wsX1_follow := in_ws
  have hx := S.1
  have hb := S.2.1
  have hts := S.2.2.2.2
  have hown := S.2.2.2.1
  unfold fX1_follow at hg
  refine lv_aload_n hx hb dX1_follow_0 rfl (lv_at hl 0 rfl) ?_
  refine lv_aload_n hx hb dX1_follow_1 rfl (lv_at hl 0 rfl) ?_
  refine lv_iload_n hx hb dX1_follow_2 rfl (lv_at hl 1 rfl) ?_
  refine lv_iload_n hx hb dX1_follow_3 rfl (lv_at hl 2 rfl) ?_
  obtain ⟨r2, σ1, er2, hg⟩ := bnd_e hg
  refine mc_i S hK hA hI (As := [.int p1, .int p2]) (rest := [.ref h0]) (kX1_hasValue l G h0 h H.size F σ p1 p2  r2 σ1 er2) (cwV 2 hts gX1_follow_X1_hasValue rfl rfl rfl nX1_hasValue ⟨Nat.le_of_ble_eq_true rfl, Nat.le_of_ble_eq_true rfl⟩) rfl hl.1 rfl (Nat.le_of_ble_eq_true rfl) dX1_follow_4 ⟨Nat.le_refl _, Nat.le_refl _⟩ (fun H locs hI => ?_)
  refine lv_if_eq (tgt := 21) hx hb dX1_follow_7 (by decide) (fun c3 => ?_) (fun c3 => ?_)
  · have hg := cIf_te c3 hg
    exact jX1_follow_21 S hr hlocks hin hK hA σ1 p1 p2 p3 H locs ls hg hI (lv_sub hl [0, 1, 2, 3] rfl)
  · have hg := cIf_fe c3 hg
    refine lv_iload_n hx hb dX1_follow_10 rfl (lv_at hl 3 rfl) ?_
    obtain ⟨r16, er16, hg⟩ := bnp_e hg
    refine ms_i S hA hI (As := [.int p3]) (rest := [.ref h0]) (kX1_isRoot l H.size F p3 r16 er16) (va_cwS 1 hts gX1_follow_X1_isRoot rfl rfl rfl nX1_isRoot ⟨Nat.le_of_ble_eq_true rfl, Nat.le_of_ble_eq_true rfl⟩) rfl hl.1 rfl (Nat.le_of_ble_eq_true rfl) dX1_follow_11 ⟨Nat.le_refl _, Nat.le_refl _⟩ (fun H locs hI => ?_)
    refine lv_if_eq (tgt := 21) hx hb dX1_follow_14 (by decide) (fun c17 => ?_) (fun c17 => ?_)
    · have hg := cIf_te c17 hg
      exact jX1_follow_21 S hr hlocks hin hK hA σ1 p1 p2 p3 H locs ls hg hI (lv_sub hl [0, 1, 2, 3] rfl)
    · have hg := cIf_fe c17 hg
      refine lv_iconst (v := 1) hx hb dX1_follow_17 (by decide) ?_
      refine lv_goto (tgt := 22) hx hb dX1_follow_18 (by decide) ?_
      exact jX1_follow_22 S hr hlocks hin hK hA σ1 p1 p2 p3 1 H locs ls hg hI (lv_sub hl [0, 1, 2, 3] rfl)
-- OwnMemoryModel.set
abbrev rX1_set : Room := { frames := 4, cells := 0, slots := 0, locals := 85 }
theorem nX1_set : yX1_set.cls = RX1 ∧ yX1_set.cls ≠ "java/lang/invoke/MethodHandle" ∧ yX1_set.cls ≠ "java/lang/invoke/VarHandle" ∧ (parseMethodDescriptor yX1_set.desc).map (fun d => d.parameters.length) = some 3 := by decide +kernel
noncomputable def fX1_set (F : Nat) (σ : mS) (p1 : Int32) (p2 : Int32) (p3 : Int32) : Option mS := bnd (fX1_hasWord F σ p1 p2) (fun r2 σ1 => bnd (fX1_says F σ1 r2) (fun r4 σ3 => cIf (r4 = 0) (some σ3) (ck (vp_in p1 24) (nmd (m_root σ3 p1.toNatClampNeg) (fun x7 => ck (vp_in ((16 * x7) + p2) 65536) (nmd (m_s_word σ3 (upd (m_word σ3) ((16 * x7) + p2).toNatClampNeg p3)) (fun σ9 => some σ9)))))))
set_option maxHeartbeats 4000000 in
set_option maxRecDepth 100000 in
theorem kX1_set (l : Launch) (G : gT) (h0 : Nat) (h : (Nat → Nat)) (sz F : Nat) (σ : mS) (p1 : Int32) (p2 : Int32) (p3 : Int32) (σr : mS) (hg : fX1_set F σ p1 p2 p3 = some σr) : Met l yX1_set wsX1_set rX1_set (mPre G h0 h σ sz [.int p1, .int p2, .int p3]) (mQv G h0 h σr (mA G h0 h σ sz)) 0 0 (mA G h0 h σ sz) := by
  refine mMet (Qc := mQv G h0 h σr) (by decide +kernel) rfl rfl (Nat.le_of_ble_eq_true rfl) ?_
  intro p e s m args below meth c A S hr hlocks hK hA H locs hI ls hl
  have hl : lv_has ls 4 [(0, .ref h0), (1, .int p1), (2, .int p2), (3, .int p3)] := hl
  have hin : ∀ w ∈ wsX10, w ∈ wsX1_set := in_ws
  have hx := S.1
  have hb := S.2.1
  have hts := S.2.2.2.2
  have hown := S.2.2.2.1
  unfold fX1_set at hg
  refine lv_aload_n hx hb dX1_set_0 rfl (lv_at hl 0 rfl) ?_
  refine lv_aload_n hx hb dX1_set_1 rfl (lv_at hl 0 rfl) ?_
  refine lv_iload_n hx hb dX1_set_2 rfl (lv_at hl 1 rfl) ?_
  refine lv_iload_n hx hb dX1_set_3 rfl (lv_at hl 2 rfl) ?_
  obtain ⟨r2, σ1, er2, hg⟩ := bnd_e hg
  refine mc_i S hK hA hI (As := [.int p1, .int p2]) (rest := [.ref h0]) (kX1_hasWord l G h0 h H.size F σ p1 p2  r2 σ1 er2) (cwV 2 hts gX1_set_X1_hasWord rfl rfl rfl nX1_hasWord ⟨Nat.le_of_ble_eq_true rfl, Nat.le_of_ble_eq_true rfl⟩) rfl hl.1 rfl (Nat.le_of_ble_eq_true rfl) dX1_set_4 ⟨Nat.le_refl _, Nat.le_refl _⟩ (fun H locs hI => ?_)
  obtain ⟨r4, σ3, er4, hg⟩ := bnd_e hg
  refine mc_i S hK hA hI (As := [.int r2]) (rest := []) (kX1_says l G h0 h H.size F σ1 r2  r4 σ3 er4) (cwV 1 hts gX1_set_X1_says rfl rfl rfl nX1_says ⟨Nat.le_of_ble_eq_true rfl, Nat.le_of_ble_eq_true rfl⟩) rfl hl.1 rfl (Nat.le_of_ble_eq_true rfl) dX1_set_7 ⟨Nat.le_refl _, Nat.le_refl _⟩ (fun H locs hI => ?_)
  refine lv_if_eq (tgt := 30) hx hb dX1_set_10 (by decide) (fun c5 => ?_) (fun c5 => ?_)
  · have hg := cIf_te c5 hg
    exact me_v S hr hlocks hK hI hg dX1_set_30
  · have hg := cIf_fe c5 hg
    refine lv_aload_n hx hb dX1_set_13 rfl (lv_at hl 0 rfl) ?_
    refine mg_word S hin hK hI (ix := 41) (by decide +kernel) dX1_set_14 ?_
    refine lv_bipush (v := 16) hx hb dX1_set_17 (by decide) ?_
    refine lv_aload_n hx hb dX1_set_19 rfl (lv_at hl 0 rfl) ?_
    refine mg_root S hin hK hI (ix := 9) (by decide +kernel) dX1_set_20 ?_
    refine lv_iload_n hx hb dX1_set_23 rfl (lv_at hl 1 rfl) ?_
    obtain ⟨c6, hg⟩ := ck_e hg
    obtain ⟨x7, ex7, hg⟩ := nmd_e hg
    refine mr_root S hK hI c6 ex7 dX1_set_24 ?_
    refine lv_imul hx hb dX1_set_25 ?_
    refine lv_iload_n hx hb dX1_set_26 rfl (lv_at hl 2 rfl) ?_
    refine lv_iadd hx hb dX1_set_27 ?_
    refine lv_iload_n hx hb dX1_set_28 rfl (lv_at hl 3 rfl) ?_
    obtain ⟨c8, hg⟩ := ck_e hg
    obtain ⟨σ9, eσ9, hg⟩ := nmd_e hg
    refine mu_word S hK hI c8 eσ9 dX1_set_29 (fun H locs hI => ?_)
    exact me_v S hr hlocks hK hI hg dX1_set_30
-- OwnMemoryModel.get
abbrev rX1_get : Room := { frames := 4, cells := 0, slots := 0, locals := 85 }
theorem nX1_get : yX1_get.cls = RX1 ∧ yX1_get.cls ≠ "java/lang/invoke/MethodHandle" ∧ yX1_get.cls ≠ "java/lang/invoke/VarHandle" ∧ (parseMethodDescriptor yX1_get.desc).map (fun d => d.parameters.length) = some 2 := by decide +kernel
noncomputable def fX1_get (F : Nat) (σ : mS) (p1 : Int32) (p2 : Int32) : Option (Int32 × mS) := bnd (fX1_hasWord F σ p1 p2) (fun r2 σ1 => bnd (fX1_says F σ1 r2) (fun r4 σ3 => cIf (r4 = 0) (some (0, σ3)) (ck (vp_in p1 24) (nmd (m_root σ3 p1.toNatClampNeg) (fun x7 => ck (vp_in ((16 * x7) + p2) 65536) (nmd (m_word σ3 ((16 * x7) + p2).toNatClampNeg) (fun x9 => some (x9, σ3))))))))
set_option maxHeartbeats 4000000 in
set_option maxRecDepth 100000 in
theorem kX1_get (l : Launch) (G : gT) (h0 : Nat) (h : (Nat → Nat)) (sz F : Nat) (σ : mS) (p1 : Int32) (p2 : Int32) (r : Int32) (σr : mS) (hg : fX1_get F σ p1 p2 = some (r, σr)) : Met l yX1_get wsX1_get rX1_get (mPre G h0 h σ sz [.int p1, .int p2]) (mQi G h0 h r σr (mA G h0 h σ sz)) 0 0 (mA G h0 h σ sz) := by
  refine mMet (Qc := mQi G h0 h r σr) (by decide +kernel) rfl rfl (Nat.le_of_ble_eq_true rfl) ?_
  intro p e s m args below meth c A S hr hlocks hK hA H locs hI ls hl
  have hl : lv_has ls 3 [(0, .ref h0), (1, .int p1), (2, .int p2)] := hl
  have hin : ∀ w ∈ wsX10, w ∈ wsX1_get := in_ws
  have hx := S.1
  have hb := S.2.1
  have hts := S.2.2.2.2
  have hown := S.2.2.2.1
  unfold fX1_get at hg
  refine lv_aload_n hx hb dX1_get_0 rfl (lv_at hl 0 rfl) ?_
  refine lv_aload_n hx hb dX1_get_1 rfl (lv_at hl 0 rfl) ?_
  refine lv_iload_n hx hb dX1_get_2 rfl (lv_at hl 1 rfl) ?_
  refine lv_iload_n hx hb dX1_get_3 rfl (lv_at hl 2 rfl) ?_
  obtain ⟨r2, σ1, er2, hg⟩ := bnd_e hg
  refine mc_i S hK hA hI (As := [.int p1, .int p2]) (rest := [.ref h0]) (kX1_hasWord l G h0 h H.size F σ p1 p2  r2 σ1 er2) (cwV 2 hts gX1_get_X1_hasWord rfl rfl rfl nX1_hasWord ⟨Nat.le_of_ble_eq_true rfl, Nat.le_of_ble_eq_true rfl⟩) rfl hl.1 rfl (Nat.le_of_ble_eq_true rfl) dX1_get_4 ⟨Nat.le_refl _, Nat.le_refl _⟩ (fun H locs hI => ?_)
  obtain ⟨r4, σ3, er4, hg⟩ := bnd_e hg
  refine mc_i S hK hA hI (As := [.int r2]) (rest := []) (kX1_says l G h0 h H.size F σ1 r2  r4 σ3 er4) (cwV 1 hts gX1_get_X1_says rfl rfl rfl nX1_says ⟨Nat.le_of_ble_eq_true rfl, Nat.le_of_ble_eq_true rfl⟩) rfl hl.1 rfl (Nat.le_of_ble_eq_true rfl) dX1_get_7 ⟨Nat.le_refl _, Nat.le_refl _⟩ (fun H locs hI => ?_)
  refine lv_if_eq (tgt := 32) hx hb dX1_get_10 (by decide) (fun c5 => ?_) (fun c5 => ?_)
  · have hg := cIf_te c5 hg
    refine lv_iconst (v := 0) hx hb dX1_get_32 (by decide) ?_
    exact me_i S hr hlocks hK hI hg dX1_get_33
  · have hg := cIf_fe c5 hg
    refine lv_aload_n hx hb dX1_get_13 rfl (lv_at hl 0 rfl) ?_
    refine mg_word S hin hK hI (ix := 41) (by decide +kernel) dX1_get_14 ?_
    refine lv_bipush (v := 16) hx hb dX1_get_17 (by decide) ?_
    refine lv_aload_n hx hb dX1_get_19 rfl (lv_at hl 0 rfl) ?_
    refine mg_root S hin hK hI (ix := 9) (by decide +kernel) dX1_get_20 ?_
    refine lv_iload_n hx hb dX1_get_23 rfl (lv_at hl 1 rfl) ?_
    obtain ⟨c6, hg⟩ := ck_e hg
    obtain ⟨x7, ex7, hg⟩ := nmd_e hg
    refine mr_root S hK hI c6 ex7 dX1_get_24 ?_
    refine lv_imul hx hb dX1_get_25 ?_
    refine lv_iload_n hx hb dX1_get_26 rfl (lv_at hl 2 rfl) ?_
    refine lv_iadd hx hb dX1_get_27 ?_
    obtain ⟨c8, hg⟩ := ck_e hg
    obtain ⟨x9, ex9, hg⟩ := nmd_e hg
    refine mr_word S hK hI c8 ex9 dX1_get_28 ?_
    refine lv_goto (tgt := 33) hx hb dX1_get_29 (by decide) ?_
    exact me_i S hr hlocks hK hI hg dX1_get_33
-- OwnMemoryModel.isText
abbrev rX1_isText : Room := { frames := 2, cells := 0, slots := 0, locals := 42 }
theorem nX1_isText : yX1_isText.cls = RX1 ∧ yX1_isText.cls ≠ "java/lang/invoke/MethodHandle" ∧ yX1_isText.cls ≠ "java/lang/invoke/VarHandle" ∧ (parseMethodDescriptor yX1_isText.desc).map (fun d => d.parameters.length) = some 1 := by decide +kernel
noncomputable def fX1_isText (F : Nat) (σ : mS) (p1 : Int32) : Option (Int32 × mS) := bnp (fX1_isRoot F p1) (fun r1 => cIf (r1 = 0) (some (0, σ)) (ck (vp_in p1 24) (nmd (m_root σ p1.toNatClampNeg) (fun x4 => ck (vp_in x4 4096) (nmd (m_kind σ x4.toNatClampNeg) (fun x6 => cIf (x6 ≤ 1) (some (0, σ)) (some (1, σ))))))))
set_option maxHeartbeats 4000000 in
set_option maxRecDepth 100000 in
theorem kX1_isText (l : Launch) (G : gT) (h0 : Nat) (h : (Nat → Nat)) (sz F : Nat) (σ : mS) (p1 : Int32) (r : Int32) (σr : mS) (hg : fX1_isText F σ p1 = some (r, σr)) : Met l yX1_isText wsX1_isText rX1_isText (mPre G h0 h σ sz [.int p1]) (mQi G h0 h r σr (mA G h0 h σ sz)) 0 0 (mA G h0 h σ sz) := by
  refine mMet (Qc := mQi G h0 h r σr) (by decide +kernel) rfl rfl (Nat.le_of_ble_eq_true rfl) ?_
  intro p e s m args below meth c A S hr hlocks hK hA H locs hI ls hl
  have hl : lv_has ls 2 [(0, .ref h0), (1, .int p1)] := hl
  have hin : ∀ w ∈ wsX10, w ∈ wsX1_isText := in_ws
  have hx := S.1
  have hb := S.2.1
  have hts := S.2.2.2.2
  have hown := S.2.2.2.1
  unfold fX1_isText at hg
  refine lv_iload_n hx hb dX1_isText_0 rfl (lv_at hl 1 rfl) ?_
  obtain ⟨r1, er1, hg⟩ := bnp_e hg
  refine ms_i S hA hI (As := [.int p1]) (rest := []) (kX1_isRoot l H.size F p1 r1 er1) (va_cwS 1 hts gX1_isText_X1_isRoot rfl rfl rfl nX1_isRoot ⟨Nat.le_of_ble_eq_true rfl, Nat.le_of_ble_eq_true rfl⟩) rfl hl.1 rfl (Nat.le_of_ble_eq_true rfl) dX1_isText_1 ⟨Nat.le_refl _, Nat.le_refl _⟩ (fun H locs hI => ?_)
  refine lv_if_eq (tgt := 26) hx hb dX1_isText_4 (by decide) (fun c2 => ?_) (fun c2 => ?_)
  · have hg := cIf_te c2 hg
    refine lv_iconst (v := 0) hx hb dX1_isText_26 (by decide) ?_
    exact me_z S hr hlocks hK hI rfl hg dX1_isText_27
  · have hg := cIf_fe c2 hg
    refine lv_aload_n hx hb dX1_isText_7 rfl (lv_at hl 0 rfl) ?_
    refine mg_kind S hin hK hI (ix := 17) (by decide +kernel) dX1_isText_8 ?_
    refine lv_aload_n hx hb dX1_isText_11 rfl (lv_at hl 0 rfl) ?_
    refine mg_root S hin hK hI (ix := 9) (by decide +kernel) dX1_isText_12 ?_
    refine lv_iload_n hx hb dX1_isText_15 rfl (lv_at hl 1 rfl) ?_
    obtain ⟨c3, hg⟩ := ck_e hg
    obtain ⟨x4, ex4, hg⟩ := nmd_e hg
    refine mr_root S hK hI c3 ex4 dX1_isText_16 ?_
    obtain ⟨c5, hg⟩ := ck_e hg
    obtain ⟨x6, ex6, hg⟩ := nmd_e hg
    refine mr_kind S hK hI c5 ex6 dX1_isText_17 ?_
    refine lv_iconst (v := 1) hx hb dX1_isText_18 (by decide) ?_
    refine lv_icmp_le (tgt := 26) hx hb dX1_isText_19 (by decide) (fun c7 => ?_) (fun c7 => ?_)
    · have hg := cIf_te c7 hg
      refine lv_iconst (v := 0) hx hb dX1_isText_26 (by decide) ?_
      exact me_z S hr hlocks hK hI rfl hg dX1_isText_27
    · have hg := cIf_fe c7 hg
      refine lv_iconst (v := 1) hx hb dX1_isText_22 (by decide) ?_
      refine lv_goto (tgt := 27) hx hb dX1_isText_23 (by decide) ?_
      exact me_z S hr hlocks hK hI rfl hg dX1_isText_27
-- OwnMemoryModel.unitOf
abbrev rX1_unitOf : Room := { frames := 0, cells := 0, slots := 0, locals := 0 }
theorem nX1_unitOf : yX1_unitOf.cls = RX1 ∧ yX1_unitOf.cls ≠ "java/lang/invoke/MethodHandle" ∧ yX1_unitOf.cls ≠ "java/lang/invoke/VarHandle" ∧ (parseMethodDescriptor yX1_unitOf.desc).map (fun d => d.parameters.length) = some 2 := by decide +kernel
noncomputable def LX1_unitOf_5 (F : Nat) (K : Int32 → Int32 → mS → Option (Int32 × mS)) (v1 : Int32) (v2 : Int32) : Nat → Int32 → Int32 → mS → Option (Int32 × mS)
  | 0, _, _, _ => none
  | n + 1, v3, v4, σ => ck (vp_in v3 4096) (nmd (m_madeOf σ v3.toNatClampNeg) (fun x2 => cIf (x2 ≤ 0) (K v3 v4 σ) (ck (vp_in v3 4096) (nmd (m_madeOf σ v3.toNatClampNeg) (fun x5 => cIf (x5 = 1) (ck (vp_in v3 4096) (nmd (m_b σ v3.toNatClampNeg) (fun x22 => nmd (v4 + x22) (fun x23 => ck (vp_in v3 4096) (nmd (m_a σ v3.toNatClampNeg) (fun x25 => LX1_unitOf_5 F K v1 v2 n x25 x23 σ)))))) (ck (vp_in v3 4096) (nmd (m_a σ v3.toNatClampNeg) (fun x8 => ck (vp_in x8 4096) (nmd (m_length σ x8.toNatClampNeg) (fun x10 => cIf (x10 ≤ v4) (ck (vp_in v3 4096) (nmd (m_a σ v3.toNatClampNeg) (fun x13 => ck (vp_in x13 4096) (nmd (m_length σ x13.toNatClampNeg) (fun x15 => nmd (v4 - x15) (fun x16 => ck (vp_in v3 4096) (nmd (m_b σ v3.toNatClampNeg) (fun x18 => LX1_unitOf_5 F K v1 v2 n x18 x16 σ)))))))) (ck (vp_in v3 4096) (nmd (m_a σ v3.toNatClampNeg) (fun x20 => LX1_unitOf_5 F K v1 v2 n x20 v4 σ)))))))))))))
noncomputable def fX1_unitOf (F : Nat) (σ : mS) (p1 : Int32) (p2 : Int32) : Option (Int32 × mS) := LX1_unitOf_5 F (fun w26 w27 σ28 => ck (vp_in w26 4096) (nmd (m_units σ28 w26.toNatClampNeg) (fun x30 => ck (vp_in w26 4096) (nmd (m_length σ28 w26.toNatClampNeg) (fun x32 => some (((x30 >>> ((16 * ((x32 - 1) - w27)).toInt64 &&& 63)) &&& 65535).toInt32, σ28)))))) p1 p2 F p1 p2 σ
set_option maxHeartbeats 4000000 in
set_option maxRecDepth 100000 in
theorem lX1_unitOf_5 {p : Program} {l : Launch} {e : Env} {s : State} {m : MethodId} {args : Array Value} {below : List Frame} {meth : Method} {c : Code} {A : Nat → Prop} {G : gT} {h0 : Nat} {h : (Nat → Nat)} {F : Nat} (S : CallFix p m c cX1_unitOf 5 s args wsX1_unitOf RX1) (hr : meth.sig.returnType = some .int) (hlocks : meth.locks = false) (hin : ∀ w ∈ wsX10, w ∈ wsX1_unitOf) (hK : gK G s) (hA : ∀ q, s.heap.size ≤ q → A q) {K : Int32 → Int32 → mS → Option (Int32 × mS)} {res : (Int32 × mS)} (v1 : Int32) (v2 : Int32) (n : Nat) : ∀ (v3 : Int32) (v4 : Int32) (σ : mS) (H : Heap) (locs : List Loc) (ls : Array Slot), LX1_unitOf_5 F K v1 v2 n v3 v4 σ = some res → mI s A G h0 h σ H locs → lv_has ls 5 [(0, .ref h0), (1, .int v1), (2, .int v2), (3, .int v3), (4, .int v4)] → (∀ (v3 : Int32) (v4 : Int32) (σ : mS) (H : Heap) (locs : List Loc) (ls : Array Slot), K v3 v4 σ = some res → mI s A G h0 h σ H locs → lv_has ls 5 [(0, .ref h0), (1, .int v1), (2, .int v2), (3, .int v3), (4, .int v4)] → W p l e rX1_unitOf s m args below meth c H locs 0 0 (MQ below (mQi G h0 h res.1 res.2 A) args s 0 0 A) (F0 m 97 ls [])) → W p l e rX1_unitOf s m args below meth c H locs 0 0 (MQ below (mQi G h0 h res.1 res.2 A) args s 0 0 A) (F0 m 5 ls []) := by
  have hx := S.1
  have hb := S.2.1
  have hts := S.2.2.2.2
  have hown := S.2.2.2.1
  induction n with
  | zero => intro v3 v4 σ H locs ls hg; rw [LX1_unitOf_5] at hg; cases hg
  | succ n ih =>
    intro v3 v4 σ H locs ls hg hI hl kk
    rw [LX1_unitOf_5] at hg
    refine lv_aload_n hx hb dX1_unitOf_5 rfl (lv_at hl 0 rfl) ?_
    refine mg_madeOf S hin hK hI (ix := 47) (by decide +kernel) dX1_unitOf_6 ?_
    refine lv_iload_n hx hb dX1_unitOf_9 rfl (lv_at hl 3 rfl) ?_
    obtain ⟨c1, hg⟩ := ck_e hg
    obtain ⟨x2, ex2, hg⟩ := nmd_e hg
    refine mr_madeOf S hK hI c1 ex2 dX1_unitOf_10 ?_
    refine lv_if_le (tgt := 97) hx hb dX1_unitOf_11 (by decide) (fun c3 => ?_) (fun c3 => ?_)
    · have hg := cIf_te c3 hg
      exact kk v3 v4 σ H locs ls hg hI (lv_sub hl [0, 1, 2, 3, 4] rfl)
    · have hg := cIf_fe c3 hg
      refine lv_aload_n hx hb dX1_unitOf_14 rfl (lv_at hl 0 rfl) ?_
      refine mg_madeOf S hin hK hI (ix := 47) (by decide +kernel) dX1_unitOf_15 ?_
      refine lv_iload_n hx hb dX1_unitOf_18 rfl (lv_at hl 3 rfl) ?_
      obtain ⟨c4, hg⟩ := ck_e hg
      obtain ⟨x5, ex5, hg⟩ := nmd_e hg
      refine mr_madeOf S hK hI c4 ex5 dX1_unitOf_19 ?_
      refine lv_iconst (v := 1) hx hb dX1_unitOf_20 (by decide) ?_
      refine lv_icmp_ne (tgt := 45) hx hb dX1_unitOf_21 (by decide) (fun c6 => ?_) (fun c6 => ?_)
      · have hg := cIf_fe c6 hg
        refine lv_iload hx hb dX1_unitOf_45 (lv_at hl 4 rfl) ?_
        refine lv_aload_n hx hb dX1_unitOf_47 rfl (lv_at hl 0 rfl) ?_
        refine mg_length S hin hK hI (ix := 44) (by decide +kernel) dX1_unitOf_48 ?_
        refine lv_aload_n hx hb dX1_unitOf_51 rfl (lv_at hl 0 rfl) ?_
        refine mg_a S hin hK hI (ix := 50) (by decide +kernel) dX1_unitOf_52 ?_
        refine lv_iload_n hx hb dX1_unitOf_55 rfl (lv_at hl 3 rfl) ?_
        obtain ⟨c7, hg⟩ := ck_e hg
        obtain ⟨x8, ex8, hg⟩ := nmd_e hg
        refine mr_a S hK hI c7 ex8 dX1_unitOf_56 ?_
        obtain ⟨c9, hg⟩ := ck_e hg
        obtain ⟨x10, ex10, hg⟩ := nmd_e hg
        refine mr_length S hK hI c9 ex10 dX1_unitOf_57 ?_
        refine lv_icmp_ge (tgt := 71) hx hb dX1_unitOf_58 (by decide) (fun c11 => ?_) (fun c11 => ?_)
        · have hg := cIf_te c11 hg
          refine lv_iload hx hb dX1_unitOf_71 (lv_at hl 4 rfl) ?_
          refine lv_aload_n hx hb dX1_unitOf_73 rfl (lv_at hl 0 rfl) ?_
          refine mg_length S hin hK hI (ix := 44) (by decide +kernel) dX1_unitOf_74 ?_
          refine lv_aload_n hx hb dX1_unitOf_77 rfl (lv_at hl 0 rfl) ?_
          refine mg_a S hin hK hI (ix := 50) (by decide +kernel) dX1_unitOf_78 ?_
          refine lv_iload_n hx hb dX1_unitOf_81 rfl (lv_at hl 3 rfl) ?_
          obtain ⟨c12, hg⟩ := ck_e hg
          obtain ⟨x13, ex13, hg⟩ := nmd_e hg
          refine mr_a S hK hI c12 ex13 dX1_unitOf_82 ?_
          obtain ⟨c14, hg⟩ := ck_e hg
          obtain ⟨x15, ex15, hg⟩ := nmd_e hg
          refine mr_length S hK hI c14 ex15 dX1_unitOf_83 ?_
          refine lv_isub hx hb dX1_unitOf_84 ?_
          obtain ⟨x16, ex16, hg⟩ := nmd_e hg
          refine wn_i ex16 ?_
          refine lv_istore (lv' := [(4, .int x16), (0, .ref h0), (1, .int v1), (2, .int v2), (3, .int v3)]) hx hb dX1_unitOf_85 hl (by decide) rfl (fun ls hl => ?_)
          refine lv_aload_n hx hb dX1_unitOf_87 rfl (lv_at hl 1 rfl) ?_
          refine mg_b S hin hK hI (ix := 53) (by decide +kernel) dX1_unitOf_88 ?_
          refine lv_iload_n hx hb dX1_unitOf_91 rfl (lv_at hl 4 rfl) ?_
          obtain ⟨c17, hg⟩ := ck_e hg
          obtain ⟨x18, ex18, hg⟩ := nmd_e hg
          refine mr_b S hK hI c17 ex18 dX1_unitOf_92 ?_
          refine lv_istore_n (lv' := [(3, .int x18), (4, .int x16), (0, .ref h0), (1, .int v1), (2, .int v2)]) hx hb dX1_unitOf_93 rfl hl (by decide) rfl (fun ls hl => ?_)
          refine lv_goto (tgt := 5) hx hb dX1_unitOf_94 (by decide) ?_
          exact ih x18 x16 σ H locs ls hg hI (lv_sub hl [2, 3, 4, 0, 1] rfl) kk
        · have hg := cIf_fe c11 hg
          refine lv_aload_n hx hb dX1_unitOf_61 rfl (lv_at hl 0 rfl) ?_
          refine mg_a S hin hK hI (ix := 50) (by decide +kernel) dX1_unitOf_62 ?_
          refine lv_iload_n hx hb dX1_unitOf_65 rfl (lv_at hl 3 rfl) ?_
          obtain ⟨c19, hg⟩ := ck_e hg
          obtain ⟨x20, ex20, hg⟩ := nmd_e hg
          refine mr_a S hK hI c19 ex20 dX1_unitOf_66 ?_
          refine lv_istore_n (lv' := [(3, .int x20), (0, .ref h0), (1, .int v1), (2, .int v2), (4, .int v4)]) hx hb dX1_unitOf_67 rfl hl (by decide) rfl (fun ls hl => ?_)
          refine lv_goto (tgt := 5) hx hb dX1_unitOf_68 (by decide) ?_
          exact ih x20 v4 σ H locs ls hg hI (lv_sub hl [1, 2, 3, 0, 4] rfl) kk
      · have hg := cIf_te c6 hg
        refine lv_iload hx hb dX1_unitOf_24 (lv_at hl 4 rfl) ?_
        refine lv_aload_n hx hb dX1_unitOf_26 rfl (lv_at hl 0 rfl) ?_
        refine mg_b S hin hK hI (ix := 53) (by decide +kernel) dX1_unitOf_27 ?_
        refine lv_iload_n hx hb dX1_unitOf_30 rfl (lv_at hl 3 rfl) ?_
        obtain ⟨c21, hg⟩ := ck_e hg
        obtain ⟨x22, ex22, hg⟩ := nmd_e hg
        refine mr_b S hK hI c21 ex22 dX1_unitOf_31 ?_
        refine lv_iadd hx hb dX1_unitOf_32 ?_
        obtain ⟨x23, ex23, hg⟩ := nmd_e hg
        refine wn_i ex23 ?_
        refine lv_istore (lv' := [(4, .int x23), (0, .ref h0), (1, .int v1), (2, .int v2), (3, .int v3)]) hx hb dX1_unitOf_33 hl (by decide) rfl (fun ls hl => ?_)
        refine lv_aload_n hx hb dX1_unitOf_35 rfl (lv_at hl 1 rfl) ?_
        refine mg_a S hin hK hI (ix := 50) (by decide +kernel) dX1_unitOf_36 ?_
        refine lv_iload_n hx hb dX1_unitOf_39 rfl (lv_at hl 4 rfl) ?_
        obtain ⟨c24, hg⟩ := ck_e hg
        obtain ⟨x25, ex25, hg⟩ := nmd_e hg
        refine mr_a S hK hI c24 ex25 dX1_unitOf_40 ?_
        refine lv_istore_n (lv' := [(3, .int x25), (4, .int x23), (0, .ref h0), (1, .int v1), (2, .int v2)]) hx hb dX1_unitOf_41 rfl hl (by decide) rfl (fun ls hl => ?_)
        refine lv_goto (tgt := 5) hx hb dX1_unitOf_42 (by decide) ?_
        exact ih x25 x23 σ H locs ls hg hI (lv_sub hl [2, 3, 4, 0, 1] rfl) kk
set_option maxHeartbeats 4000000 in
set_option maxRecDepth 100000 in
theorem kX1_unitOf (l : Launch) (G : gT) (h0 : Nat) (h : (Nat → Nat)) (sz F : Nat) (σ : mS) (p1 : Int32) (p2 : Int32) (r : Int32) (σr : mS) (hg : fX1_unitOf F σ p1 p2 = some (r, σr)) : Met l yX1_unitOf wsX1_unitOf rX1_unitOf (mPre G h0 h σ sz [.int p1, .int p2]) (mQi G h0 h r σr (mA G h0 h σ sz)) 0 0 (mA G h0 h σ sz) := by
  refine mMet (Qc := mQi G h0 h r σr) (by decide +kernel) rfl rfl (Nat.le_of_ble_eq_true rfl) ?_
  intro p e s m args below meth c A S hr hlocks hK hA H locs hI ls hl
  have hl : lv_has ls 5 [(0, .ref h0), (1, .int p1), (2, .int p2)] := hl
  have hin : ∀ w ∈ wsX10, w ∈ wsX1_unitOf := in_ws
  have hx := S.1
  have hb := S.2.1
  have hts := S.2.2.2.2
  have hown := S.2.2.2.1
  unfold fX1_unitOf at hg
  refine lv_iload_n hx hb dX1_unitOf_0 rfl (lv_at hl 1 rfl) ?_
  refine lv_istore_n (lv' := [(3, .int p1), (0, .ref h0), (1, .int p1), (2, .int p2)]) hx hb dX1_unitOf_1 rfl hl (by decide) rfl (fun ls hl => ?_)
  refine lv_iload_n hx hb dX1_unitOf_2 rfl (lv_at hl 3 rfl) ?_
  refine lv_istore (lv' := [(4, .int p2), (3, .int p1), (0, .ref h0), (1, .int p1), (2, .int p2)]) hx hb dX1_unitOf_3 hl (by decide) rfl (fun ls hl => ?_)
  refine lX1_unitOf_5 S hr hlocks hin hK hA p1 p2 F p1 p2 σ H locs ls hg hI (lv_sub hl [2, 3, 4, 1, 0] rfl) (fun w26 w27 σ28 H locs ls hg hI hl => ?_)
  refine lv_aload_n hx hb dX1_unitOf_97 rfl (lv_at hl 0 rfl) ?_
  refine mg_units S hin hK hI (ix := 56) (by decide +kernel) dX1_unitOf_98 ?_
  refine lv_iload_n hx hb dX1_unitOf_101 rfl (lv_at hl 3 rfl) ?_
  obtain ⟨c29, hg⟩ := ck_e hg
  obtain ⟨x30, ex30, hg⟩ := nmd_e hg
  refine mr_units S hK hI c29 ex30 dX1_unitOf_102 ?_
  refine lv_bipush (v := 16) hx hb dX1_unitOf_103 (by decide) ?_
  refine lv_aload_n hx hb dX1_unitOf_105 rfl (lv_at hl 0 rfl) ?_
  refine mg_length S hin hK hI (ix := 44) (by decide +kernel) dX1_unitOf_106 ?_
  refine lv_iload_n hx hb dX1_unitOf_109 rfl (lv_at hl 3 rfl) ?_
  obtain ⟨c31, hg⟩ := ck_e hg
  obtain ⟨x32, ex32, hg⟩ := nmd_e hg
  refine mr_length S hK hI c31 ex32 dX1_unitOf_110 ?_
  refine lv_iconst (v := 1) hx hb dX1_unitOf_111 (by decide) ?_
  refine lv_isub hx hb dX1_unitOf_112 ?_
  refine lv_iload hx hb dX1_unitOf_113 (lv_at hl 4 rfl) ?_
  refine lv_isub hx hb dX1_unitOf_115 ?_
  refine lv_imul hx hb dX1_unitOf_116 ?_
  refine lv_lshr (v := (x30 >>> ((16 * ((x32 - 1) - w27)).toInt64 &&& 63))) hx hb dX1_unitOf_117 rfl ?_
  refine lv_ldc2 (v := 65535) hx hb hown (hts (.constantLong RX1 125 (65535)) (by decide +kernel)) dX1_unitOf_118 ?_
  refine lv_land hx hb dX1_unitOf_121 ?_
  refine lv_l2i (v := ((x30 >>> ((16 * ((x32 - 1) - w27)).toInt64 &&& 63)) &&& 65535).toInt32) hx hb dX1_unitOf_122 rfl ?_
  exact me_i S hr hlocks hK hI hg dX1_unitOf_123
-- OwnMemoryModel.goOver
abbrev rX1_goOver : Room := { frames := 4, cells := 0, slots := 0, locals := 89 }
theorem nX1_goOver : yX1_goOver.cls = RX1 ∧ yX1_goOver.cls ≠ "java/lang/invoke/MethodHandle" ∧ yX1_goOver.cls ≠ "java/lang/invoke/VarHandle" ∧ (parseMethodDescriptor yX1_goOver.desc).map (fun d => d.parameters.length) = some 1 := by decide +kernel
noncomputable def fX1_goOver (F : Nat) (σ : mS) (p1 : Int32) : Option (Int32 × mS) := ck (vp_in p1 4096) (nmd (m_kind σ p1.toNatClampNeg) (fun x2 => cIf (x2 = 3) (ck (vp_in p1 4096) (nmd (m_length σ p1.toNatClampNeg) (fun x5 => bnd (fX1_make F σ 2 x5 1) (fun r7 σ6 => cIf (r7 = 0) (some (0, σ6)) (ck (vp_in r7 4096) (nmd (m_s_a σ6 (upd (m_a σ6) r7.toNatClampNeg p1)) (fun σ10 => ck (vp_in r7 4096) (nmd (m_s_b σ10 (upd (m_b σ10) r7.toNatClampNeg 0)) (fun σ12 => ck (vp_in p1 4096) (nmd (m_s_kind σ12 (upd (m_kind σ12) p1.toNatClampNeg 4)) (fun σ14 => ck (vp_in p1 4096) (nmd (m_s_spread σ14 (upd (m_spread σ14) p1.toNatClampNeg r7)) (fun σ16 => some (1, σ16)))))))))))))) (some (1, σ))))
set_option maxHeartbeats 4000000 in
set_option maxRecDepth 100000 in
theorem kX1_goOver (l : Launch) (G : gT) (h0 : Nat) (h : (Nat → Nat)) (sz F : Nat) (σ : mS) (p1 : Int32) (r : Int32) (σr : mS) (hg : fX1_goOver F σ p1 = some (r, σr)) : Met l yX1_goOver wsX1_goOver rX1_goOver (mPre G h0 h σ sz [.int p1]) (mQi G h0 h r σr (mA G h0 h σ sz)) 0 0 (mA G h0 h σ sz) := by
  refine mMet (Qc := mQi G h0 h r σr) (by decide +kernel) rfl rfl (Nat.le_of_ble_eq_true rfl) ?_
  intro p e s m args below meth c A S hr hlocks hK hA H locs hI ls hl
  have hl : lv_has ls 3 [(0, .ref h0), (1, .int p1)] := hl
  have hin : ∀ w ∈ wsX10, w ∈ wsX1_goOver := by decide +kernel
  have hx := S.1
  have hb := S.2.1
  have hts := S.2.2.2.2
  have hown := S.2.2.2.1
  unfold fX1_goOver at hg
  refine lv_aload_n hx hb dX1_goOver_0 rfl (lv_at hl 0 rfl) ?_
  refine mg_kind S hin hK hI (ix := 17) (by decide +kernel) dX1_goOver_1 ?_
  refine lv_iload_n hx hb dX1_goOver_4 rfl (lv_at hl 1 rfl) ?_
  obtain ⟨c1, hg⟩ := ck_e hg
  obtain ⟨x2, ex2, hg⟩ := nmd_e hg
  refine mr_kind S hK hI c1 ex2 dX1_goOver_5 ?_
  refine lv_iconst (v := 3) hx hb dX1_goOver_6 (by decide) ?_
  refine lv_icmp_eq (tgt := 12) hx hb dX1_goOver_7 (by decide) (fun c3 => ?_) (fun c3 => ?_)
  · have hg := cIf_te c3 hg
    refine lv_aload_n hx hb dX1_goOver_12 rfl (lv_at hl 0 rfl) ?_
    refine lv_iconst (v := 2) hx hb dX1_goOver_13 (by decide) ?_
    refine lv_aload_n hx hb dX1_goOver_14 rfl (lv_at hl 0 rfl) ?_
    refine mg_length S hin hK hI (ix := 44) (by decide +kernel) dX1_goOver_15 ?_
    refine lv_iload_n hx hb dX1_goOver_18 rfl (lv_at hl 1 rfl) ?_
    obtain ⟨c4, hg⟩ := ck_e hg
    obtain ⟨x5, ex5, hg⟩ := nmd_e hg
    refine mr_length S hK hI c4 ex5 dX1_goOver_19 ?_
    refine lv_iconst (v := 1) hx hb dX1_goOver_20 (by decide) ?_
    obtain ⟨r7, σ6, er7, hg⟩ := bnd_e hg
    refine mc_i S hK hA hI (As := [.int 2, .int x5, .int 1]) (rest := []) (kX1_make l G h0 h H.size F σ 2 x5 1  r7 σ6 er7) (cwV 3 hts gX1_goOver_X1_make rfl rfl rfl nX1_make ⟨Nat.le_of_ble_eq_true rfl, Nat.le_of_ble_eq_true rfl⟩) rfl hl.1 rfl (Nat.le_of_ble_eq_true rfl) dX1_goOver_21 ⟨Nat.le_refl _, Nat.le_refl _⟩ (fun H locs hI => ?_)
    refine lv_istore_n (lv' := [(2, .int r7), (0, .ref h0), (1, .int p1)]) hx hb dX1_goOver_24 rfl hl (by decide) rfl (fun ls hl => ?_)
    refine lv_iload_n hx hb dX1_goOver_25 rfl (lv_at hl 0 rfl) ?_
    refine lv_if_ne (tgt := 31) hx hb dX1_goOver_26 (by decide) (fun c8 => ?_) (fun c8 => ?_)
    · have hg := cIf_fe c8 hg
      refine lv_aload_n hx hb dX1_goOver_31 rfl (lv_at hl 1 rfl) ?_
      refine mg_a S hin hK hI (ix := 50) (by decide +kernel) dX1_goOver_32 ?_
      refine lv_iload_n hx hb dX1_goOver_35 rfl (lv_at hl 0 rfl) ?_
      refine lv_iload_n hx hb dX1_goOver_36 rfl (lv_at hl 2 rfl) ?_
      obtain ⟨c9, hg⟩ := ck_e hg
      obtain ⟨σ10, eσ10, hg⟩ := nmd_e hg
      refine mu_a S hK hI c9 eσ10 dX1_goOver_37 (fun H locs hI => ?_)
      refine lv_aload_n hx hb dX1_goOver_38 rfl (lv_at hl 1 rfl) ?_
      refine mg_b S hin hK hI (ix := 53) (by decide +kernel) dX1_goOver_39 ?_
      refine lv_iload_n hx hb dX1_goOver_42 rfl (lv_at hl 0 rfl) ?_
      refine lv_iconst (v := 0) hx hb dX1_goOver_43 (by decide) ?_
      obtain ⟨c11, hg⟩ := ck_e hg
      obtain ⟨σ12, eσ12, hg⟩ := nmd_e hg
      refine mu_b S hK hI c11 eσ12 dX1_goOver_44 (fun H locs hI => ?_)
      refine lv_aload_n hx hb dX1_goOver_45 rfl (lv_at hl 1 rfl) ?_
      refine mg_kind S hin hK hI (ix := 17) (by decide +kernel) dX1_goOver_46 ?_
      refine lv_iload_n hx hb dX1_goOver_49 rfl (lv_at hl 2 rfl) ?_
      refine lv_iconst (v := 4) hx hb dX1_goOver_50 (by decide) ?_
      obtain ⟨c13, hg⟩ := ck_e hg
      obtain ⟨σ14, eσ14, hg⟩ := nmd_e hg
      refine mu_kind S hK hI c13 eσ14 dX1_goOver_51 (fun H locs hI => ?_)
      refine lv_aload_n hx hb dX1_goOver_52 rfl (lv_at hl 1 rfl) ?_
      refine mg_spread S hin hK hI (ix := 59) (by decide +kernel) dX1_goOver_53 ?_
      refine lv_iload_n hx hb dX1_goOver_56 rfl (lv_at hl 2 rfl) ?_
      refine lv_iload_n hx hb dX1_goOver_57 rfl (lv_at hl 0 rfl) ?_
      obtain ⟨c15, hg⟩ := ck_e hg
      obtain ⟨σ16, eσ16, hg⟩ := nmd_e hg
      refine mu_spread S hK hI c15 eσ16 dX1_goOver_58 (fun H locs hI => ?_)
      refine lv_iconst (v := 1) hx hb dX1_goOver_59 (by decide) ?_
      exact me_z S hr hlocks hK hI rfl hg dX1_goOver_60
    · have hg := cIf_te c8 hg
      refine lv_iconst (v := 0) hx hb dX1_goOver_29 (by decide) ?_
      exact me_z S hr hlocks hK hI rfl hg dX1_goOver_30
  · have hg := cIf_fe c3 hg
    refine lv_iconst (v := 1) hx hb dX1_goOver_10 (by decide) ?_
    exact me_z S hr hlocks hK hI rfl hg dX1_goOver_11
-- OwnMemoryModel.full
abbrev rX1_full : Room := { frames := 0, cells := 0, slots := 0, locals := 0 }
theorem nX1_full : yX1_full.cls = RX1 ∧ yX1_full.cls ≠ "java/lang/invoke/MethodHandle" ∧ yX1_full.cls ≠ "java/lang/invoke/VarHandle" ∧ (parseMethodDescriptor yX1_full.desc).map (fun d => d.parameters.length) = some 1 := by decide +kernel
noncomputable def fX1_full (F : Nat) (σ : mS) (p1 : Int32) : Option (Int32 × mS) := cIf (p1 = 0) (nmd (m_s_thrown σ 2) (fun σ3 => some (p1, σ3))) (nmd (m_s_thrown σ 0) (fun σ2 => some (p1, σ2)))
set_option maxHeartbeats 4000000 in
set_option maxRecDepth 100000 in
theorem kX1_full (l : Launch) (G : gT) (h0 : Nat) (h : (Nat → Nat)) (sz F : Nat) (σ : mS) (p1 : Int32) (r : Int32) (σr : mS) (hg : fX1_full F σ p1 = some (r, σr)) : Met l yX1_full wsX1_full rX1_full (mPre G h0 h σ sz [.int p1]) (mQi G h0 h r σr (mA G h0 h σ sz)) 0 0 (mA G h0 h σ sz) := by
  refine mMet (Qc := mQi G h0 h r σr) (by decide +kernel) rfl rfl (Nat.le_of_ble_eq_true rfl) ?_
  intro p e s m args below meth c A S hr hlocks hK hA H locs hI ls hl
  have hl : lv_has ls 2 [(0, .ref h0), (1, .int p1)] := hl
  have hin : ∀ w ∈ wsX10, w ∈ wsX1_full := in_ws
  have hx := S.1
  have hb := S.2.1
  have hts := S.2.2.2.2
  have hown := S.2.2.2.1
  unfold fX1_full at hg
  refine lv_aload_n hx hb dX1_full_0 rfl (lv_at hl 0 rfl) ?_
  refine lv_iload_n hx hb dX1_full_1 rfl (lv_at hl 1 rfl) ?_
  refine lv_if_ne (tgt := 9) hx hb dX1_full_2 (by decide) (fun c1 => ?_) (fun c1 => ?_)
  · have hg := cIf_fe c1 hg
    refine lv_iconst (v := 0) hx hb dX1_full_9 (by decide) ?_
    obtain ⟨σ2, eσ2, hg⟩ := nmd_e hg
    refine mp_thrown S hin hK hI (ix := 73) (by decide +kernel) eσ2 dX1_full_10 (fun H locs hI => ?_)
    refine lv_iload_n hx hb dX1_full_13 rfl (lv_at hl 1 rfl) ?_
    exact me_i S hr hlocks hK hI hg dX1_full_14
  · have hg := cIf_te c1 hg
    refine lv_iconst (v := 2) hx hb dX1_full_5 (by decide) ?_
    refine lv_goto (tgt := 10) hx hb dX1_full_6 (by decide) ?_
    obtain ⟨σ3, eσ3, hg⟩ := nmd_e hg
    refine mp_thrown S hin hK hI (ix := 73) (by decide +kernel) eσ3 dX1_full_10 (fun H locs hI => ?_)
    refine lv_iload_n hx hb dX1_full_13 rfl (lv_at hl 1 rfl) ?_
    exact me_i S hr hlocks hK hI hg dX1_full_14
-- OwnMemoryModel.text
abbrev rX1_text : Room := { frames := 4, cells := 0, slots := 0, locals := 89 }
theorem nX1_text : yX1_text.cls = RX1 ∧ yX1_text.cls ≠ "java/lang/invoke/MethodHandle" ∧ yX1_text.cls ≠ "java/lang/invoke/VarHandle" ∧ (parseMethodDescriptor yX1_text.desc).map (fun d => d.parameters.length) = some 3 := by decide +kernel
noncomputable def JX1_text_23 (F : Nat) (σ : mS) (v1 : Int32) (v2 : Int64) (v4 : Int32) (t1 : Int32) : Option mS := bnd (fX1_says F σ t1) (fun r4 σ3 => cIf (r4 = 0) (some σ3) (bnd (fX1_make F σ3 2 v4 0) (fun r7 σ6 => bnd (fX1_full F σ6 r7) (fun r9 σ8 => cIf (r9 = 0) (some σ8) (ck (vp_in r9 4096) (nmd (m_s_units σ8 (vp_updL (m_units σ8) r9.toNatClampNeg v2)) (fun σ12 => ck (vp_in v1 24) (nmd (m_s_root σ12 (upd (m_root σ12) v1.toNatClampNeg r9)) (fun σ14 => some σ14)))))))))
noncomputable def JX1_text_22 (F : Nat) (σ : mS) (v1 : Int32) (v2 : Int64) (v4 : Int32) : Option mS := JX1_text_23 F σ v1 v2 v4 0
noncomputable def fX1_text (F : Nat) (σ : mS) (p1 : Int32) (p2 : Int64) (p3 : Int32) : Option mS := bnp (fX1_isRoot F p1) (fun r1 => cIf (r1 = 0) (JX1_text_22 F σ p1 p2 p3) (bnp (fX1_in F p3 0 4) (fun r15 => cIf (r15 = 0) (JX1_text_22 F σ p1 p2 p3) (JX1_text_23 F σ p1 p2 p3 1))))
set_option maxHeartbeats 4000000 in
set_option maxRecDepth 100000 in
theorem jX1_text_23 {p : Program} {l : Launch} {e : Env} {s : State} {m : MethodId} {args : Array Value} {below : List Frame} {meth : Method} {c : Code} {A : Nat → Prop} {G : gT} {h0 : Nat} {h : (Nat → Nat)} {F : Nat} (S : CallFix p m c cX1_text 6 s args wsX1_text RX1) (hr : meth.sig.returnType = none) (hlocks : meth.locks = false) (hin : ∀ w ∈ wsX10, w ∈ wsX1_text) (hK : gK G s) (hA : ∀ q, s.heap.size ≤ q → A q) {res : mS} (σ : mS) (v1 : Int32) (v2 : Int64) (v4 : Int32) (t1 : Int32) (H : Heap) (locs : List Loc) (ls : Array Slot) (hg : JX1_text_23 F σ v1 v2 v4 t1 = some res) (hI : mI s A G h0 h σ H locs) (hl : lv_has ls 6 [(0, .ref h0), (1, .int v1), (2, .long v2), (4, .int v4)]) : W p l e rX1_text s m args below meth c H locs 0 0 (MQ below (mQv G h0 h res A) args s 0 0 A) (F0 m 23 ls [.int t1, .ref h0]) := by
  have hx := S.1
  have hb := S.2.1
  have hts := S.2.2.2.2
  have hown := S.2.2.2.1
  unfold JX1_text_23 at hg
  obtain ⟨r4, σ3, er4, hg⟩ := bnd_e hg
  refine mc_i S hK hA hI (As := [.int t1]) (rest := []) (kX1_says l G h0 h H.size F σ t1  r4 σ3 er4) (cwV 1 hts gX1_text_X1_says rfl rfl rfl nX1_says ⟨Nat.le_of_ble_eq_true rfl, Nat.le_of_ble_eq_true rfl⟩) rfl hl.1 rfl (Nat.le_of_ble_eq_true rfl) dX1_text_23 ⟨Nat.le_refl _, Nat.le_refl _⟩ (fun H locs hI => ?_)
  refine lv_if_ne (tgt := 30) hx hb dX1_text_26 (by decide) (fun c5 => ?_) (fun c5 => ?_)
  · have hg := cIf_fe c5 hg
    refine lv_aload_n hx hb dX1_text_30 rfl (lv_at hl 0 rfl) ?_
    refine lv_aload_n hx hb dX1_text_31 rfl (lv_at hl 0 rfl) ?_
    refine lv_iconst (v := 2) hx hb dX1_text_32 (by decide) ?_
    refine lv_iload hx hb dX1_text_33 (lv_at hl 3 rfl) ?_
    refine lv_iconst (v := 0) hx hb dX1_text_35 (by decide) ?_
    obtain ⟨r7, σ6, er7, hg⟩ := bnd_e hg
    refine mc_i S hK hA hI (As := [.int 2, .int v4, .int 0]) (rest := [.ref h0]) (kX1_make l G h0 h H.size F σ3 2 v4 0  r7 σ6 er7) (cwV 3 hts gX1_text_X1_make rfl rfl rfl nX1_make ⟨Nat.le_of_ble_eq_true rfl, Nat.le_of_ble_eq_true rfl⟩) rfl hl.1 rfl (Nat.le_of_ble_eq_true rfl) dX1_text_36 ⟨Nat.le_refl _, Nat.le_refl _⟩ (fun H locs hI => ?_)
    obtain ⟨r9, σ8, er9, hg⟩ := bnd_e hg
    refine mc_i S hK hA hI (As := [.int r7]) (rest := []) (kX1_full l G h0 h H.size F σ6 r7  r9 σ8 er9) (cwV 1 hts gX1_text_X1_full rfl rfl rfl nX1_full ⟨Nat.le_of_ble_eq_true rfl, Nat.le_of_ble_eq_true rfl⟩) rfl hl.1 rfl (Nat.le_of_ble_eq_true rfl) dX1_text_39 ⟨Nat.le_refl _, Nat.le_refl _⟩ (fun H locs hI => ?_)
    refine lv_istore (lv' := [(5, .int r9), (0, .ref h0), (1, .int v1), (2, .long v2), (4, .int v4)]) hx hb dX1_text_42 hl (by decide) rfl (fun ls hl => ?_)
    refine lv_iload hx hb dX1_text_44 (lv_at hl 0 rfl) ?_
    refine lv_if_ne (tgt := 50) hx hb dX1_text_46 (by decide) (fun c10 => ?_) (fun c10 => ?_)
    · have hg := cIf_fe c10 hg
      refine lv_aload_n hx hb dX1_text_50 rfl (lv_at hl 1 rfl) ?_
      refine mg_units S hin hK hI (ix := 56) (by decide +kernel) dX1_text_51 ?_
      refine lv_iload hx hb dX1_text_54 (lv_at hl 0 rfl) ?_
      refine lv_lload_n hx hb dX1_text_56 rfl (lv_at hl 3 rfl) ?_
      obtain ⟨c11, hg⟩ := ck_e hg
      obtain ⟨σ12, eσ12, hg⟩ := nmd_e hg
      refine mu_units S hK hI c11 eσ12 dX1_text_57 (fun H locs hI => ?_)
      refine lv_aload_n hx hb dX1_text_58 rfl (lv_at hl 1 rfl) ?_
      refine mg_root S hin hK hI (ix := 9) (by decide +kernel) dX1_text_59 ?_
      refine lv_iload_n hx hb dX1_text_62 rfl (lv_at hl 2 rfl) ?_
      refine lv_iload hx hb dX1_text_63 (lv_at hl 0 rfl) ?_
      obtain ⟨c13, hg⟩ := ck_e hg
      obtain ⟨σ14, eσ14, hg⟩ := nmd_e hg
      refine mu_root S hK hI c13 eσ14 dX1_text_65 (fun H locs hI => ?_)
      exact me_v S hr hlocks hK hI hg dX1_text_66
    · have hg := cIf_te c10 hg
      exact me_v S hr hlocks hK hI hg dX1_text_49
  · have hg := cIf_te c5 hg
    exact me_v S hr hlocks hK hI hg dX1_text_29
set_option maxHeartbeats 4000000 in
set_option maxRecDepth 100000 in
theorem jX1_text_22 {p : Program} {l : Launch} {e : Env} {s : State} {m : MethodId} {args : Array Value} {below : List Frame} {meth : Method} {c : Code} {A : Nat → Prop} {G : gT} {h0 : Nat} {h : (Nat → Nat)} {F : Nat} (S : CallFix p m c cX1_text 6 s args wsX1_text RX1) (hr : meth.sig.returnType = none) (hlocks : meth.locks = false) (hin : ∀ w ∈ wsX10, w ∈ wsX1_text) (hK : gK G s) (hA : ∀ q, s.heap.size ≤ q → A q) {res : mS} (σ : mS) (v1 : Int32) (v2 : Int64) (v4 : Int32) (H : Heap) (locs : List Loc) (ls : Array Slot) (hg : JX1_text_22 F σ v1 v2 v4 = some res) (hI : mI s A G h0 h σ H locs) (hl : lv_has ls 6 [(0, .ref h0), (1, .int v1), (2, .long v2), (4, .int v4)]) : W p l e rX1_text s m args below meth c H locs 0 0 (MQ below (mQv G h0 h res A) args s 0 0 A) (F0 m 22 ls [.ref h0]) := by
  have hx := S.1
  have hb := S.2.1
  have hts := S.2.2.2.2
  have hown := S.2.2.2.1
  unfold JX1_text_22 at hg
  refine lv_iconst (v := 0) hx hb dX1_text_22 (by decide) ?_
  exact jX1_text_23 S hr hlocks hin hK hA σ v1 v2 v4 0 H locs ls hg hI (lv_sub hl [0, 1, 2, 3] rfl)
set_option maxHeartbeats 4000000 in
set_option maxRecDepth 100000 in
theorem kX1_text (l : Launch) (G : gT) (h0 : Nat) (h : (Nat → Nat)) (sz F : Nat) (σ : mS) (p1 : Int32) (p2 : Int64) (p3 : Int32) (σr : mS) (hg : fX1_text F σ p1 p2 p3 = some σr) : Met l yX1_text wsX1_text rX1_text (mPre G h0 h σ sz [.int p1, .long p2, .int p3]) (mQv G h0 h σr (mA G h0 h σ sz)) 0 0 (mA G h0 h σ sz) := by
  refine mMet (Qc := mQv G h0 h σr) (by decide +kernel) rfl rfl (Nat.le_of_ble_eq_true rfl) ?_
  intro p e s m args below meth c A S hr hlocks hK hA H locs hI ls hl
  have hl : lv_has ls 6 [(0, .ref h0), (1, .int p1), (2, .long p2), (4, .int p3)] := hl
  have hin : ∀ w ∈ wsX10, w ∈ wsX1_text := by decide +kernel
  have hx := S.1
  have hb := S.2.1
  have hts := S.2.2.2.2
  have hown := S.2.2.2.1
  unfold fX1_text at hg
  refine lv_aload_n hx hb dX1_text_0 rfl (lv_at hl 0 rfl) ?_
  refine lv_iload_n hx hb dX1_text_1 rfl (lv_at hl 1 rfl) ?_
  obtain ⟨r1, er1, hg⟩ := bnp_e hg
  refine ms_i S hA hI (As := [.int p1]) (rest := [.ref h0]) (kX1_isRoot l H.size F p1 r1 er1) (va_cwS 1 hts gX1_text_X1_isRoot rfl rfl rfl nX1_isRoot ⟨Nat.le_of_ble_eq_true rfl, Nat.le_of_ble_eq_true rfl⟩) rfl hl.1 rfl (Nat.le_of_ble_eq_true rfl) dX1_text_2 ⟨Nat.le_refl _, Nat.le_refl _⟩ (fun H locs hI => ?_)
  refine lv_if_eq (tgt := 22) hx hb dX1_text_5 (by decide) (fun c2 => ?_) (fun c2 => ?_)
  · have hg := cIf_te c2 hg
    exact jX1_text_22 S hr hlocks hin hK hA σ p1 p2 p3 H locs ls hg hI (lv_sub hl [0, 1, 2, 3] rfl)
  · have hg := cIf_fe c2 hg
    refine lv_iload hx hb dX1_text_8 (lv_at hl 3 rfl) ?_
    refine lv_iconst (v := 0) hx hb dX1_text_10 (by decide) ?_
    refine lv_iconst (v := 4) hx hb dX1_text_11 (by decide) ?_
    obtain ⟨r15, er15, hg⟩ := bnp_e hg
    refine ms_i S hA hI (As := [.int p3, .int 0, .int 4]) (rest := [.ref h0]) (kX1_in l H.size F p3 0 4 r15 er15) (va_cwS 3 hts gX1_text_X1_in rfl rfl rfl nX1_in ⟨Nat.le_of_ble_eq_true rfl, Nat.le_of_ble_eq_true rfl⟩) rfl hl.1 rfl (Nat.le_of_ble_eq_true rfl) dX1_text_12 ⟨Nat.le_refl _, Nat.le_refl _⟩ (fun H locs hI => ?_)
    refine lv_if_eq (tgt := 22) hx hb dX1_text_15 (by decide) (fun c16 => ?_) (fun c16 => ?_)
    · have hg := cIf_te c16 hg
      exact jX1_text_22 S hr hlocks hin hK hA σ p1 p2 p3 H locs ls hg hI (lv_sub hl [0, 1, 2, 3] rfl)
    · have hg := cIf_fe c16 hg
      refine lv_iconst (v := 1) hx hb dX1_text_18 (by decide) ?_
      refine lv_goto (tgt := 23) hx hb dX1_text_19 (by decide) ?_
      exact jX1_text_23 S hr hlocks hin hK hA σ p1 p2 p3 1 H locs ls hg hI (lv_sub hl [0, 1, 2, 3] rfl)
-- OwnMemoryModel.join
abbrev rX1_join : Room := { frames := 4, cells := 0, slots := 0, locals := 89 }
theorem nX1_join : yX1_join.cls = RX1 ∧ yX1_join.cls ≠ "java/lang/invoke/MethodHandle" ∧ yX1_join.cls ≠ "java/lang/invoke/VarHandle" ∧ (parseMethodDescriptor yX1_join.desc).map (fun d => d.parameters.length) = some 3 := by decide +kernel
noncomputable def JX1_join_89 (F : Nat) (σ : mS) (v1 : Int32) (v2 : Int32) (v3 : Int32) (v4 : Int32) (v5 : Int32) (v6 : Int32) : Option mS := ck (vp_in v4 4096) (nmd (m_length σ v4.toNatClampNeg) (fun x19 => cIf (x19 = 0) (ck (vp_in v1 24) (nmd (m_s_root σ (upd (m_root σ) v1.toNatClampNeg v5)) (fun σ24 => some σ24))) (ck (vp_in v1 24) (nmd (m_s_root σ (upd (m_root σ) v1.toNatClampNeg v4)) (fun σ22 => some σ22)))))
noncomputable def JX1_join_144 (F : Nat) (σ : mS) (v1 : Int32) (v2 : Int32) (v3 : Int32) (v4 : Int32) (v5 : Int32) (v6 : Int32) (t0 : Int32) : Option mS := bnd (fX1_full F σ t0) (fun r33 σ32 => cIf (r33 = 0) (some σ32) (ck (vp_in t0 4096) (nmd (m_s_a σ32 (upd (m_a σ32) t0.toNatClampNeg v4)) (fun σ36 => ck (vp_in t0 4096) (nmd (m_s_b σ36 (upd (m_b σ36) t0.toNatClampNeg v5)) (fun σ38 => ck (vp_in v1 24) (nmd (m_s_root σ38 (upd (m_root σ38) v1.toNatClampNeg t0)) (fun σ40 => some σ40))))))))
noncomputable def JX1_join_138 (F : Nat) (σ : mS) (v1 : Int32) (v2 : Int32) (v3 : Int32) (v4 : Int32) (v5 : Int32) (v6 : Int32) (t1 : Int32) : Option mS := bnd (fX1_make F σ t1 v6 2) (fun r31 σ30 => JX1_join_144 F σ30 v1 v2 v3 v4 v5 v6 r31)
noncomputable def JX1_join_29 (F : Nat) (σ : mS) (v1 : Int32) (v2 : Int32) (v3 : Int32) (t1 : Int32) : Option mS := bnd (fX1_says F σ t1) (fun r4 σ3 => cIf (r4 = 0) (some σ3) (ck (vp_in v2 24) (nmd (m_root σ3 v2.toNatClampNeg) (fun x7 => ck (vp_in v3 24) (nmd (m_root σ3 v3.toNatClampNeg) (fun x9 => ck (vp_in x7 4096) (nmd (m_length σ3 x7.toNatClampNeg) (fun x11 => ck (vp_in x9 4096) (nmd (m_length σ3 x9.toNatClampNeg) (fun x13 => nmd (x11 + x13) (fun x14 => ck (vp_in x7 4096) (nmd (m_length σ3 x7.toNatClampNeg) (fun x16 => cIf (x16 = 0) (JX1_join_89 F σ3 v1 v2 v3 x7 x9 x14) (ck (vp_in x9 4096) (nmd (m_length σ3 x9.toNatClampNeg) (fun x26 => cIf (x26 = 0) (JX1_join_89 F σ3 v1 v2 v3 x7 x9 x14) (cIf (x14 ≤ 4000) (cIf (x14 ≤ 24) (JX1_join_138 F σ3 v1 v2 v3 x7 x9 x14 2) (JX1_join_138 F σ3 v1 v2 v3 x7 x9 x14 3)) (JX1_join_144 F σ3 v1 v2 v3 x7 x9 x14 0))))))))))))))))))
noncomputable def JX1_join_28 (F : Nat) (σ : mS) (v1 : Int32) (v2 : Int32) (v3 : Int32) : Option mS := JX1_join_29 F σ v1 v2 v3 0
noncomputable def fX1_join (F : Nat) (σ : mS) (p1 : Int32) (p2 : Int32) (p3 : Int32) : Option mS := bnp (fX1_isRoot F p1) (fun r1 => cIf (r1 = 0) (JX1_join_28 F σ p1 p2 p3) (bnd (fX1_isText F σ p2) (fun r42 σ41 => cIf (r42 = 0) (JX1_join_28 F σ41 p1 p2 p3) (bnd (fX1_isText F σ41 p3) (fun r45 σ44 => cIf (r45 = 0) (JX1_join_28 F σ44 p1 p2 p3) (JX1_join_29 F σ44 p1 p2 p3 1))))))
set_option maxHeartbeats 4000000 in
set_option maxRecDepth 100000 in
theorem jX1_join_89 {p : Program} {l : Launch} {e : Env} {s : State} {m : MethodId} {args : Array Value} {below : List Frame} {meth : Method} {c : Code} {A : Nat → Prop} {G : gT} {h0 : Nat} {h : (Nat → Nat)} {F : Nat} (S : CallFix p m c cX1_join 8 s args wsX1_join RX1) (hr : meth.sig.returnType = none) (hlocks : meth.locks = false) (hin : ∀ w ∈ wsX10, w ∈ wsX1_join) (hK : gK G s) (hA : ∀ q, s.heap.size ≤ q → A q) {res : mS} (σ : mS) (v1 : Int32) (v2 : Int32) (v3 : Int32) (v4 : Int32) (v5 : Int32) (v6 : Int32) (H : Heap) (locs : List Loc) (ls : Array Slot) (hg : JX1_join_89 F σ v1 v2 v3 v4 v5 v6 = some res) (hI : mI s A G h0 h σ H locs) (hl : lv_has ls 8 [(0, .ref h0), (1, .int v1), (2, .int v2), (3, .int v3), (4, .int v4), (5, .int v5), (6, .int v6)]) : W p l e rX1_join s m args below meth c H locs 0 0 (MQ below (mQv G h0 h res A) args s 0 0 A) (F0 m 89 ls []) := by
  have hx := S.1
  have hb := S.2.1
  have hts := S.2.2.2.2
  have hown := S.2.2.2.1
  unfold JX1_join_89 at hg
  refine lv_aload_n hx hb dX1_join_89 rfl (lv_at hl 0 rfl) ?_
  refine mg_root S hin hK hI (ix := 9) (by decide +kernel) dX1_join_90 ?_
  refine lv_iload_n hx hb dX1_join_93 rfl (lv_at hl 1 rfl) ?_
  refine lv_aload_n hx hb dX1_join_94 rfl (lv_at hl 0 rfl) ?_
  refine mg_length S hin hK hI (ix := 44) (by decide +kernel) dX1_join_95 ?_
  refine lv_iload hx hb dX1_join_98 (lv_at hl 4 rfl) ?_
  obtain ⟨c18, hg⟩ := ck_e hg
  obtain ⟨x19, ex19, hg⟩ := nmd_e hg
  refine mr_length S hK hI c18 ex19 dX1_join_100 ?_
  refine lv_if_ne (tgt := 109) hx hb dX1_join_101 (by decide) (fun c20 => ?_) (fun c20 => ?_)
  · have hg := cIf_fe c20 hg
    refine lv_iload hx hb dX1_join_109 (lv_at hl 4 rfl) ?_
    obtain ⟨c21, hg⟩ := ck_e hg
    obtain ⟨σ22, eσ22, hg⟩ := nmd_e hg
    refine mu_root S hK hI c21 eσ22 dX1_join_111 (fun H locs hI => ?_)
    exact me_v S hr hlocks hK hI hg dX1_join_112
  · have hg := cIf_te c20 hg
    refine lv_iload hx hb dX1_join_104 (lv_at hl 5 rfl) ?_
    refine lv_goto (tgt := 111) hx hb dX1_join_106 (by decide) ?_
    obtain ⟨c23, hg⟩ := ck_e hg
    obtain ⟨σ24, eσ24, hg⟩ := nmd_e hg
    refine mu_root S hK hI c23 eσ24 dX1_join_111 (fun H locs hI => ?_)
    exact me_v S hr hlocks hK hI hg dX1_join_112
set_option maxHeartbeats 4000000 in
set_option maxRecDepth 100000 in
theorem jX1_join_144 {p : Program} {l : Launch} {e : Env} {s : State} {m : MethodId} {args : Array Value} {below : List Frame} {meth : Method} {c : Code} {A : Nat → Prop} {G : gT} {h0 : Nat} {h : (Nat → Nat)} {F : Nat} (S : CallFix p m c cX1_join 8 s args wsX1_join RX1) (hr : meth.sig.returnType = none) (hlocks : meth.locks = false) (hin : ∀ w ∈ wsX10, w ∈ wsX1_join) (hK : gK G s) (hA : ∀ q, s.heap.size ≤ q → A q) {res : mS} (σ : mS) (v1 : Int32) (v2 : Int32) (v3 : Int32) (v4 : Int32) (v5 : Int32) (v6 : Int32) (t0 : Int32) (H : Heap) (locs : List Loc) (ls : Array Slot) (hg : JX1_join_144 F σ v1 v2 v3 v4 v5 v6 t0 = some res) (hI : mI s A G h0 h σ H locs) (hl : lv_has ls 8 [(0, .ref h0), (1, .int v1), (2, .int v2), (3, .int v3), (4, .int v4), (5, .int v5), (6, .int v6)]) : W p l e rX1_join s m args below meth c H locs 0 0 (MQ below (mQv G h0 h res A) args s 0 0 A) (F0 m 144 ls [.int t0]) := by
  have hx := S.1
  have hb := S.2.1
  have hts := S.2.2.2.2
  have hown := S.2.2.2.1
  unfold JX1_join_144 at hg
  refine lv_istore (lv' := [(7, .int t0), (0, .ref h0), (1, .int v1), (2, .int v2), (3, .int v3), (4, .int v4), (5, .int v5), (6, .int v6)]) hx hb dX1_join_144 hl (by decide) rfl (fun ls hl => ?_)
  refine lv_aload_n hx hb dX1_join_146 rfl (lv_at hl 1 rfl) ?_
  refine lv_iload hx hb dX1_join_147 (lv_at hl 0 rfl) ?_
  obtain ⟨r33, σ32, er33, hg⟩ := bnd_e hg
  refine mc_i S hK hA hI (As := [.int t0]) (rest := []) (kX1_full l G h0 h H.size F σ t0  r33 σ32 er33) (cwV 1 hts gX1_join_X1_full rfl rfl rfl nX1_full ⟨Nat.le_of_ble_eq_true rfl, Nat.le_of_ble_eq_true rfl⟩) rfl hl.1 rfl (Nat.le_of_ble_eq_true rfl) dX1_join_149 ⟨Nat.le_refl _, Nat.le_refl _⟩ (fun H locs hI => ?_)
  refine lv_if_ne (tgt := 156) hx hb dX1_join_152 (by decide) (fun c34 => ?_) (fun c34 => ?_)
  · have hg := cIf_fe c34 hg
    refine lv_aload_n hx hb dX1_join_156 rfl (lv_at hl 1 rfl) ?_
    refine mg_a S hin hK hI (ix := 50) (by decide +kernel) dX1_join_157 ?_
    refine lv_iload hx hb dX1_join_160 (lv_at hl 0 rfl) ?_
    refine lv_iload hx hb dX1_join_162 (lv_at hl 5 rfl) ?_
    obtain ⟨c35, hg⟩ := ck_e hg
    obtain ⟨σ36, eσ36, hg⟩ := nmd_e hg
    refine mu_a S hK hI c35 eσ36 dX1_join_164 (fun H locs hI => ?_)
    refine lv_aload_n hx hb dX1_join_165 rfl (lv_at hl 1 rfl) ?_
    refine mg_b S hin hK hI (ix := 53) (by decide +kernel) dX1_join_166 ?_
    refine lv_iload hx hb dX1_join_169 (lv_at hl 0 rfl) ?_
    refine lv_iload hx hb dX1_join_171 (lv_at hl 6 rfl) ?_
    obtain ⟨c37, hg⟩ := ck_e hg
    obtain ⟨σ38, eσ38, hg⟩ := nmd_e hg
    refine mu_b S hK hI c37 eσ38 dX1_join_173 (fun H locs hI => ?_)
    refine lv_aload_n hx hb dX1_join_174 rfl (lv_at hl 1 rfl) ?_
    refine mg_root S hin hK hI (ix := 9) (by decide +kernel) dX1_join_175 ?_
    refine lv_iload_n hx hb dX1_join_178 rfl (lv_at hl 2 rfl) ?_
    refine lv_iload hx hb dX1_join_179 (lv_at hl 0 rfl) ?_
    obtain ⟨c39, hg⟩ := ck_e hg
    obtain ⟨σ40, eσ40, hg⟩ := nmd_e hg
    refine mu_root S hK hI c39 eσ40 dX1_join_181 (fun H locs hI => ?_)
    exact me_v S hr hlocks hK hI hg dX1_join_182
  · have hg := cIf_te c34 hg
    exact me_v S hr hlocks hK hI hg dX1_join_155
set_option maxHeartbeats 4000000 in
set_option maxRecDepth 100000 in
theorem jX1_join_138 {p : Program} {l : Launch} {e : Env} {s : State} {m : MethodId} {args : Array Value} {below : List Frame} {meth : Method} {c : Code} {A : Nat → Prop} {G : gT} {h0 : Nat} {h : (Nat → Nat)} {F : Nat} (S : CallFix p m c cX1_join 8 s args wsX1_join RX1) (hr : meth.sig.returnType = none) (hlocks : meth.locks = false) (hin : ∀ w ∈ wsX10, w ∈ wsX1_join) (hK : gK G s) (hA : ∀ q, s.heap.size ≤ q → A q) {res : mS} (σ : mS) (v1 : Int32) (v2 : Int32) (v3 : Int32) (v4 : Int32) (v5 : Int32) (v6 : Int32) (t1 : Int32) (H : Heap) (locs : List Loc) (ls : Array Slot) (hg : JX1_join_138 F σ v1 v2 v3 v4 v5 v6 t1 = some res) (hI : mI s A G h0 h σ H locs) (hl : lv_has ls 8 [(0, .ref h0), (1, .int v1), (2, .int v2), (3, .int v3), (4, .int v4), (5, .int v5), (6, .int v6)]) : W p l e rX1_join s m args below meth c H locs 0 0 (MQ below (mQv G h0 h res A) args s 0 0 A) (F0 m 138 ls [.int t1, .ref h0]) := by
  have hx := S.1
  have hb := S.2.1
  have hts := S.2.2.2.2
  have hown := S.2.2.2.1
  unfold JX1_join_138 at hg
  refine lv_iload hx hb dX1_join_138 (lv_at hl 6 rfl) ?_
  refine lv_iconst (v := 2) hx hb dX1_join_140 (by decide) ?_
  obtain ⟨r31, σ30, er31, hg⟩ := bnd_e hg
  refine mc_i S hK hA hI (As := [.int t1, .int v6, .int 2]) (rest := []) (kX1_make l G h0 h H.size F σ t1 v6 2  r31 σ30 er31) (cwV 3 hts gX1_join_X1_make rfl rfl rfl nX1_make ⟨Nat.le_of_ble_eq_true rfl, Nat.le_of_ble_eq_true rfl⟩) rfl hl.1 rfl (Nat.le_of_ble_eq_true rfl) dX1_join_141 ⟨Nat.le_refl _, Nat.le_refl _⟩ (fun H locs hI => ?_)
  exact jX1_join_144 S hr hlocks hin hK hA σ30 v1 v2 v3 v4 v5 v6 r31 H locs ls hg hI (lv_sub hl [0, 1, 2, 3, 4, 5, 6] rfl)
set_option maxHeartbeats 4000000 in
set_option maxRecDepth 100000 in
theorem jX1_join_29 {p : Program} {l : Launch} {e : Env} {s : State} {m : MethodId} {args : Array Value} {below : List Frame} {meth : Method} {c : Code} {A : Nat → Prop} {G : gT} {h0 : Nat} {h : (Nat → Nat)} {F : Nat} (S : CallFix p m c cX1_join 8 s args wsX1_join RX1) (hr : meth.sig.returnType = none) (hlocks : meth.locks = false) (hin : ∀ w ∈ wsX10, w ∈ wsX1_join) (hK : gK G s) (hA : ∀ q, s.heap.size ≤ q → A q) {res : mS} (σ : mS) (v1 : Int32) (v2 : Int32) (v3 : Int32) (t1 : Int32) (H : Heap) (locs : List Loc) (ls : Array Slot) (hg : JX1_join_29 F σ v1 v2 v3 t1 = some res) (hI : mI s A G h0 h σ H locs) (hl : lv_has ls 8 [(0, .ref h0), (1, .int v1), (2, .int v2), (3, .int v3)]) : W p l e rX1_join s m args below meth c H locs 0 0 (MQ below (mQv G h0 h res A) args s 0 0 A) (F0 m 29 ls [.int t1, .ref h0]) := by
  have hx := S.1
  have hb := S.2.1
  have hts := S.2.2.2.2
  have hown := S.2.2.2.1
  unfold JX1_join_29 at hg
  obtain ⟨r4, σ3, er4, hg⟩ := bnd_e hg
  refine mc_i S hK hA hI (As := [.int t1]) (rest := []) (kX1_says l G h0 h H.size F σ t1  r4 σ3 er4) (cwV 1 hts gX1_join_X1_says rfl rfl rfl nX1_says ⟨Nat.le_of_ble_eq_true rfl, Nat.le_of_ble_eq_true rfl⟩) rfl hl.1 rfl (Nat.le_of_ble_eq_true rfl) dX1_join_29 ⟨Nat.le_refl _, Nat.le_refl _⟩ (fun H locs hI => ?_)
  refine lv_if_ne (tgt := 36) hx hb dX1_join_32 (by decide) (fun c5 => ?_) (fun c5 => ?_)
  · have hg := cIf_fe c5 hg
    refine lv_aload_n hx hb dX1_join_36 rfl (lv_at hl 0 rfl) ?_
    refine mg_root S hin hK hI (ix := 9) (by decide +kernel) dX1_join_37 ?_
    refine lv_iload_n hx hb dX1_join_40 rfl (lv_at hl 2 rfl) ?_
    obtain ⟨c6, hg⟩ := ck_e hg
    obtain ⟨x7, ex7, hg⟩ := nmd_e hg
    refine mr_root S hK hI c6 ex7 dX1_join_41 ?_
    refine lv_istore (lv' := [(4, .int x7), (0, .ref h0), (1, .int v1), (2, .int v2), (3, .int v3)]) hx hb dX1_join_42 hl (by decide) rfl (fun ls hl => ?_)
    refine lv_aload_n hx hb dX1_join_44 rfl (lv_at hl 1 rfl) ?_
    refine mg_root S hin hK hI (ix := 9) (by decide +kernel) dX1_join_45 ?_
    refine lv_iload_n hx hb dX1_join_48 rfl (lv_at hl 4 rfl) ?_
    obtain ⟨c8, hg⟩ := ck_e hg
    obtain ⟨x9, ex9, hg⟩ := nmd_e hg
    refine mr_root S hK hI c8 ex9 dX1_join_49 ?_
    refine lv_istore (lv' := [(5, .int x9), (4, .int x7), (0, .ref h0), (1, .int v1), (2, .int v2), (3, .int v3)]) hx hb dX1_join_50 hl (by decide) rfl (fun ls hl => ?_)
    refine lv_aload_n hx hb dX1_join_52 rfl (lv_at hl 2 rfl) ?_
    refine mg_length S hin hK hI (ix := 44) (by decide +kernel) dX1_join_53 ?_
    refine lv_iload hx hb dX1_join_56 (lv_at hl 1 rfl) ?_
    obtain ⟨c10, hg⟩ := ck_e hg
    obtain ⟨x11, ex11, hg⟩ := nmd_e hg
    refine mr_length S hK hI c10 ex11 dX1_join_58 ?_
    refine lv_aload_n hx hb dX1_join_59 rfl (lv_at hl 2 rfl) ?_
    refine mg_length S hin hK hI (ix := 44) (by decide +kernel) dX1_join_60 ?_
    refine lv_iload hx hb dX1_join_63 (lv_at hl 0 rfl) ?_
    obtain ⟨c12, hg⟩ := ck_e hg
    obtain ⟨x13, ex13, hg⟩ := nmd_e hg
    refine mr_length S hK hI c12 ex13 dX1_join_65 ?_
    refine lv_iadd hx hb dX1_join_66 ?_
    obtain ⟨x14, ex14, hg⟩ := nmd_e hg
    refine wn_i ex14 ?_
    refine lv_istore (lv' := [(6, .int x14), (5, .int x9), (4, .int x7), (0, .ref h0), (1, .int v1), (2, .int v2), (3, .int v3)]) hx hb dX1_join_67 hl (by decide) rfl (fun ls hl => ?_)
    refine lv_aload_n hx hb dX1_join_69 rfl (lv_at hl 3 rfl) ?_
    refine mg_length S hin hK hI (ix := 44) (by decide +kernel) dX1_join_70 ?_
    refine lv_iload hx hb dX1_join_73 (lv_at hl 2 rfl) ?_
    obtain ⟨c15, hg⟩ := ck_e hg
    obtain ⟨x16, ex16, hg⟩ := nmd_e hg
    refine mr_length S hK hI c15 ex16 dX1_join_75 ?_
    refine lv_if_eq (tgt := 89) hx hb dX1_join_76 (by decide) (fun c17 => ?_) (fun c17 => ?_)
    · have hg := cIf_te c17 hg
      exact jX1_join_89 S hr hlocks hin hK hA σ3 v1 v2 v3 x7 x9 x14 H locs ls hg hI (lv_sub hl [3, 4, 5, 6, 2, 1, 0] rfl)
    · have hg := cIf_fe c17 hg
      refine lv_aload_n hx hb dX1_join_79 rfl (lv_at hl 3 rfl) ?_
      refine mg_length S hin hK hI (ix := 44) (by decide +kernel) dX1_join_80 ?_
      refine lv_iload hx hb dX1_join_83 (lv_at hl 1 rfl) ?_
      obtain ⟨c25, hg⟩ := ck_e hg
      obtain ⟨x26, ex26, hg⟩ := nmd_e hg
      refine mr_length S hK hI c25 ex26 dX1_join_85 ?_
      refine lv_if_ne (tgt := 113) hx hb dX1_join_86 (by decide) (fun c27 => ?_) (fun c27 => ?_)
      · have hg := cIf_fe c27 hg
        refine lv_iload hx hb dX1_join_113 (lv_at hl 0 rfl) ?_
        refine lv_sipush (v := 4000) hx hb dX1_join_115 (by decide) ?_
        refine lv_icmp_le (tgt := 125) hx hb dX1_join_118 (by decide) (fun c28 => ?_) (fun c28 => ?_)
        · have hg := cIf_te c28 hg
          refine lv_aload_n hx hb dX1_join_125 rfl (lv_at hl 3 rfl) ?_
          refine lv_iload hx hb dX1_join_126 (lv_at hl 0 rfl) ?_
          refine lv_bipush (v := 24) hx hb dX1_join_128 (by decide) ?_
          refine lv_icmp_le (tgt := 137) hx hb dX1_join_130 (by decide) (fun c29 => ?_) (fun c29 => ?_)
          · have hg := cIf_te c29 hg
            refine lv_iconst (v := 2) hx hb dX1_join_137 (by decide) ?_
            exact jX1_join_138 S hr hlocks hin hK hA σ3 v1 v2 v3 x7 x9 x14 2 H locs ls hg hI (lv_sub hl [3, 4, 5, 6, 2, 1, 0] rfl)
          · have hg := cIf_fe c29 hg
            refine lv_iconst (v := 3) hx hb dX1_join_133 (by decide) ?_
            refine lv_goto (tgt := 138) hx hb dX1_join_134 (by decide) ?_
            exact jX1_join_138 S hr hlocks hin hK hA σ3 v1 v2 v3 x7 x9 x14 3 H locs ls hg hI (lv_sub hl [3, 4, 5, 6, 2, 1, 0] rfl)
        · have hg := cIf_fe c28 hg
          refine lv_iconst (v := 0) hx hb dX1_join_121 (by decide) ?_
          refine lv_goto (tgt := 144) hx hb dX1_join_122 (by decide) ?_
          exact jX1_join_144 S hr hlocks hin hK hA σ3 v1 v2 v3 x7 x9 x14 0 H locs ls hg hI (lv_sub hl [3, 4, 5, 6, 2, 1, 0] rfl)
      · have hg := cIf_te c27 hg
        exact jX1_join_89 S hr hlocks hin hK hA σ3 v1 v2 v3 x7 x9 x14 H locs ls hg hI (lv_sub hl [3, 4, 5, 6, 2, 1, 0] rfl)
  · have hg := cIf_te c5 hg
    exact me_v S hr hlocks hK hI hg dX1_join_35
set_option maxHeartbeats 4000000 in
set_option maxRecDepth 100000 in
theorem jX1_join_28 {p : Program} {l : Launch} {e : Env} {s : State} {m : MethodId} {args : Array Value} {below : List Frame} {meth : Method} {c : Code} {A : Nat → Prop} {G : gT} {h0 : Nat} {h : (Nat → Nat)} {F : Nat} (S : CallFix p m c cX1_join 8 s args wsX1_join RX1) (hr : meth.sig.returnType = none) (hlocks : meth.locks = false) (hin : ∀ w ∈ wsX10, w ∈ wsX1_join) (hK : gK G s) (hA : ∀ q, s.heap.size ≤ q → A q) {res : mS} (σ : mS) (v1 : Int32) (v2 : Int32) (v3 : Int32) (H : Heap) (locs : List Loc) (ls : Array Slot) (hg : JX1_join_28 F σ v1 v2 v3 = some res) (hI : mI s A G h0 h σ H locs) (hl : lv_has ls 8 [(0, .ref h0), (1, .int v1), (2, .int v2), (3, .int v3)]) : W p l e rX1_join s m args below meth c H locs 0 0 (MQ below (mQv G h0 h res A) args s 0 0 A) (F0 m 28 ls [.ref h0]) := by
  have hx := S.1
  have hb := S.2.1
  have hts := S.2.2.2.2
  have hown := S.2.2.2.1
  unfold JX1_join_28 at hg
  refine lv_iconst (v := 0) hx hb dX1_join_28 (by decide) ?_
  exact jX1_join_29 S hr hlocks hin hK hA σ v1 v2 v3 0 H locs ls hg hI (lv_sub hl [0, 1, 2, 3] rfl)
set_option maxHeartbeats 4000000 in
set_option maxRecDepth 100000 in
theorem kX1_join (l : Launch) (G : gT) (h0 : Nat) (h : (Nat → Nat)) (sz F : Nat) (σ : mS) (p1 : Int32) (p2 : Int32) (p3 : Int32) (σr : mS) (hg : fX1_join F σ p1 p2 p3 = some σr) : Met l yX1_join wsX1_join rX1_join (mPre G h0 h σ sz [.int p1, .int p2, .int p3]) (mQv G h0 h σr (mA G h0 h σ sz)) 0 0 (mA G h0 h σ sz) := by
  refine mMet (Qc := mQv G h0 h σr) (by decide +kernel) rfl rfl (Nat.le_of_ble_eq_true rfl) ?_
  intro p e s m args below meth c A S hr hlocks hK hA H locs hI ls hl
  have hl : lv_has ls 8 [(0, .ref h0), (1, .int p1), (2, .int p2), (3, .int p3)] := hl
  have hin : ∀ w ∈ wsX10, w ∈ wsX1_join := by decide +kernel
  have hx := S.1
  have hb := S.2.1
  have hts := S.2.2.2.2
  have hown := S.2.2.2.1
  unfold fX1_join at hg
  refine lv_aload_n hx hb dX1_join_0 rfl (lv_at hl 0 rfl) ?_
  refine lv_iload_n hx hb dX1_join_1 rfl (lv_at hl 1 rfl) ?_
  obtain ⟨r1, er1, hg⟩ := bnp_e hg
  refine ms_i S hA hI (As := [.int p1]) (rest := [.ref h0]) (kX1_isRoot l H.size F p1 r1 er1) (va_cwS 1 hts gX1_join_X1_isRoot rfl rfl rfl nX1_isRoot ⟨Nat.le_of_ble_eq_true rfl, Nat.le_of_ble_eq_true rfl⟩) rfl hl.1 rfl (Nat.le_of_ble_eq_true rfl) dX1_join_2 ⟨Nat.le_refl _, Nat.le_refl _⟩ (fun H locs hI => ?_)
  refine lv_if_eq (tgt := 28) hx hb dX1_join_5 (by decide) (fun c2 => ?_) (fun c2 => ?_)
  · have hg := cIf_te c2 hg
    exact jX1_join_28 S hr hlocks hin hK hA σ p1 p2 p3 H locs ls hg hI (lv_sub hl [0, 1, 2, 3] rfl)
  · have hg := cIf_fe c2 hg
    refine lv_aload_n hx hb dX1_join_8 rfl (lv_at hl 0 rfl) ?_
    refine lv_iload_n hx hb dX1_join_9 rfl (lv_at hl 2 rfl) ?_
    obtain ⟨r42, σ41, er42, hg⟩ := bnd_e hg
    refine mc_i S hK hA hI (As := [.int p2]) (rest := [.ref h0]) (kX1_isText l G h0 h H.size F σ p2  r42 σ41 er42) (cwV 1 hts gX1_join_X1_isText rfl rfl rfl nX1_isText ⟨Nat.le_of_ble_eq_true rfl, Nat.le_of_ble_eq_true rfl⟩) rfl hl.1 rfl (Nat.le_of_ble_eq_true rfl) dX1_join_10 ⟨Nat.le_refl _, Nat.le_refl _⟩ (fun H locs hI => ?_)
    refine lv_if_eq (tgt := 28) hx hb dX1_join_13 (by decide) (fun c43 => ?_) (fun c43 => ?_)
    · have hg := cIf_te c43 hg
      exact jX1_join_28 S hr hlocks hin hK hA σ41 p1 p2 p3 H locs ls hg hI (lv_sub hl [0, 1, 2, 3] rfl)
    · have hg := cIf_fe c43 hg
      refine lv_aload_n hx hb dX1_join_16 rfl (lv_at hl 0 rfl) ?_
      refine lv_iload_n hx hb dX1_join_17 rfl (lv_at hl 3 rfl) ?_
      obtain ⟨r45, σ44, er45, hg⟩ := bnd_e hg
      refine mc_i S hK hA hI (As := [.int p3]) (rest := [.ref h0]) (kX1_isText l G h0 h H.size F σ41 p3  r45 σ44 er45) (cwV 1 hts gX1_join_X1_isText rfl rfl rfl nX1_isText ⟨Nat.le_of_ble_eq_true rfl, Nat.le_of_ble_eq_true rfl⟩) rfl hl.1 rfl (Nat.le_of_ble_eq_true rfl) dX1_join_18 ⟨Nat.le_refl _, Nat.le_refl _⟩ (fun H locs hI => ?_)
      refine lv_if_eq (tgt := 28) hx hb dX1_join_21 (by decide) (fun c46 => ?_) (fun c46 => ?_)
      · have hg := cIf_te c46 hg
        exact jX1_join_28 S hr hlocks hin hK hA σ44 p1 p2 p3 H locs ls hg hI (lv_sub hl [0, 1, 2, 3] rfl)
      · have hg := cIf_fe c46 hg
        refine lv_iconst (v := 1) hx hb dX1_join_24 (by decide) ?_
        refine lv_goto (tgt := 29) hx hb dX1_join_25 (by decide) ?_
        exact jX1_join_29 S hr hlocks hin hK hA σ44 p1 p2 p3 1 H locs ls hg hI (lv_sub hl [0, 1, 2, 3] rfl)
-- OwnMemoryModel.partOf
abbrev rX1_partOf : Room := { frames := 5, cells := 0, slots := 0, locals := 111 }
theorem nX1_partOf : yX1_partOf.cls = RX1 ∧ yX1_partOf.cls ≠ "java/lang/invoke/MethodHandle" ∧ yX1_partOf.cls ≠ "java/lang/invoke/VarHandle" ∧ (parseMethodDescriptor yX1_partOf.desc).map (fun d => d.parameters.length) = some 4 := by decide +kernel
noncomputable def fX1_partOf (F : Nat) (σ : mS) (p1 : Int32) (p2 : Int32) (p3 : Int32) (p4 : Int32) : Option (Int32 × mS) := bnd (fX1_goOver F σ p2) (fun r2 σ1 => cIf (r2 = 0) (some (0, σ1)) (bnd (fX1_make F σ1 p1 (p4 - p3) 1) (fun r5 σ4 => ck (vp_in r5 4096) (nmd (m_s_a σ4 (upd (m_a σ4) r5.toNatClampNeg p2)) (fun σ7 => ck (vp_in r5 4096) (nmd (m_s_b σ7 (upd (m_b σ7) r5.toNatClampNeg p3)) (fun σ9 => some (r5, σ9))))))))
set_option maxHeartbeats 4000000 in
set_option maxRecDepth 100000 in
theorem kX1_partOf (l : Launch) (G : gT) (h0 : Nat) (h : (Nat → Nat)) (sz F : Nat) (σ : mS) (p1 : Int32) (p2 : Int32) (p3 : Int32) (p4 : Int32) (r : Int32) (σr : mS) (hg : fX1_partOf F σ p1 p2 p3 p4 = some (r, σr)) : Met l yX1_partOf wsX1_partOf rX1_partOf (mPre G h0 h σ sz [.int p1, .int p2, .int p3, .int p4]) (mQi G h0 h r σr (mA G h0 h σ sz)) 0 0 (mA G h0 h σ sz) := by
  refine mMet (Qc := mQi G h0 h r σr) (by decide +kernel) rfl rfl (Nat.le_of_ble_eq_true rfl) ?_
  intro p e s m args below meth c A S hr hlocks hK hA H locs hI ls hl
  have hl : lv_has ls 6 [(0, .ref h0), (1, .int p1), (2, .int p2), (3, .int p3), (4, .int p4)] := hl
  have hin : ∀ w ∈ wsX10, w ∈ wsX1_partOf := by decide +kernel
  have hx := S.1
  have hb := S.2.1
  have hts := S.2.2.2.2
  have hown := S.2.2.2.1
  unfold fX1_partOf at hg
  refine lv_aload_n hx hb dX1_partOf_0 rfl (lv_at hl 0 rfl) ?_
  refine lv_iload_n hx hb dX1_partOf_1 rfl (lv_at hl 2 rfl) ?_
  obtain ⟨r2, σ1, er2, hg⟩ := bnd_e hg
  refine mc_i S hK hA hI (As := [.int p2]) (rest := []) (kX1_goOver l G h0 h H.size F σ p2  r2 σ1 er2) (cwV 1 hts gX1_partOf_X1_goOver rfl rfl rfl nX1_goOver ⟨Nat.le_of_ble_eq_true rfl, Nat.le_of_ble_eq_true rfl⟩) rfl hl.1 rfl (Nat.le_of_ble_eq_true rfl) dX1_partOf_2 ⟨Nat.le_refl _, Nat.le_refl _⟩ (fun H locs hI => ?_)
  refine lv_if_ne (tgt := 10) hx hb dX1_partOf_5 (by decide) (fun c3 => ?_) (fun c3 => ?_)
  · have hg := cIf_fe c3 hg
    refine lv_aload_n hx hb dX1_partOf_10 rfl (lv_at hl 0 rfl) ?_
    refine lv_iload_n hx hb dX1_partOf_11 rfl (lv_at hl 1 rfl) ?_
    refine lv_iload hx hb dX1_partOf_12 (lv_at hl 4 rfl) ?_
    refine lv_iload_n hx hb dX1_partOf_14 rfl (lv_at hl 3 rfl) ?_
    refine lv_isub hx hb dX1_partOf_15 ?_
    refine lv_iconst (v := 1) hx hb dX1_partOf_16 (by decide) ?_
    obtain ⟨r5, σ4, er5, hg⟩ := bnd_e hg
    refine mc_i S hK hA hI (As := [.int p1, .int (p4 - p3), .int 1]) (rest := []) (kX1_make l G h0 h H.size F σ1 p1 (p4 - p3) 1  r5 σ4 er5) (cwV 3 hts gX1_partOf_X1_make rfl rfl rfl nX1_make ⟨Nat.le_of_ble_eq_true rfl, Nat.le_of_ble_eq_true rfl⟩) rfl hl.1 rfl (Nat.le_of_ble_eq_true rfl) dX1_partOf_17 ⟨Nat.le_refl _, Nat.le_refl _⟩ (fun H locs hI => ?_)
    refine lv_istore (lv' := [(5, .int r5), (0, .ref h0), (1, .int p1), (2, .int p2), (3, .int p3), (4, .int p4)]) hx hb dX1_partOf_20 hl (by decide) rfl (fun ls hl => ?_)
    refine lv_aload_n hx hb dX1_partOf_22 rfl (lv_at hl 1 rfl) ?_
    refine mg_a S hin hK hI (ix := 50) (by decide +kernel) dX1_partOf_23 ?_
    refine lv_iload hx hb dX1_partOf_26 (lv_at hl 0 rfl) ?_
    refine lv_iload_n hx hb dX1_partOf_28 rfl (lv_at hl 3 rfl) ?_
    obtain ⟨c6, hg⟩ := ck_e hg
    obtain ⟨σ7, eσ7, hg⟩ := nmd_e hg
    refine mu_a S hK hI c6 eσ7 dX1_partOf_29 (fun H locs hI => ?_)
    refine lv_aload_n hx hb dX1_partOf_30 rfl (lv_at hl 1 rfl) ?_
    refine mg_b S hin hK hI (ix := 53) (by decide +kernel) dX1_partOf_31 ?_
    refine lv_iload hx hb dX1_partOf_34 (lv_at hl 0 rfl) ?_
    refine lv_iload_n hx hb dX1_partOf_36 rfl (lv_at hl 4 rfl) ?_
    obtain ⟨c8, hg⟩ := ck_e hg
    obtain ⟨σ9, eσ9, hg⟩ := nmd_e hg
    refine mu_b S hK hI c8 eσ9 dX1_partOf_37 (fun H locs hI => ?_)
    refine lv_iload hx hb dX1_partOf_38 (lv_at hl 0 rfl) ?_
    exact me_i S hr hlocks hK hI hg dX1_partOf_40
  · have hg := cIf_te c3 hg
    refine lv_iconst (v := 0) hx hb dX1_partOf_8 (by decide) ?_
    exact me_i S hr hlocks hK hI hg dX1_partOf_9
-- OwnMemoryModel.part
abbrev rX1_part : Room := { frames := 6, cells := 0, slots := 0, locals := 136 }
theorem nX1_part : yX1_part.cls = RX1 ∧ yX1_part.cls ≠ "java/lang/invoke/MethodHandle" ∧ yX1_part.cls ≠ "java/lang/invoke/VarHandle" ∧ (parseMethodDescriptor yX1_part.desc).map (fun d => d.parameters.length) = some 4 := by decide +kernel
noncomputable def JX1_part_59 (F : Nat) (σ : mS) (v1 : Int32) (v2 : Int32) (v3 : Int32) (v4 : Int32) (v5 : Int32) (t1 : Int32) : Option mS := bnd (fX1_says F σ t1) (fun r5 σ4 => cIf (r5 = 0) (some σ4) (ck (vp_in v2 24) (nmd (m_root σ4 v2.toNatClampNeg) (fun x8 => bnd (fX1_partOf F σ4 2 x8 v3 v4) (fun r10 σ9 => bnd (fX1_full F σ9 r10) (fun r12 σ11 => cIf (r12 ≤ 0) (some σ11) (ck (vp_in v1 24) (nmd (m_s_root σ11 (upd (m_root σ11) v1.toNatClampNeg r12)) (fun σ15 => some σ15)))))))))
noncomputable def JX1_part_58 (F : Nat) (σ : mS) (v1 : Int32) (v2 : Int32) (v3 : Int32) (v4 : Int32) (v5 : Int32) : Option mS := JX1_part_59 F σ v1 v2 v3 v4 v5 0
noncomputable def JX1_part_20 (F : Nat) (σ : mS) (v1 : Int32) (v2 : Int32) (v3 : Int32) (v4 : Int32) (t0 : Int32) : Option mS := cIf (t0 = 0) (JX1_part_58 F σ v1 v2 v3 v4 t0) (cIf (v3 < 0) (JX1_part_58 F σ v1 v2 v3 v4 t0) (cIf (v4 < v3) (JX1_part_58 F σ v1 v2 v3 v4 t0) (ck (vp_in v2 24) (nmd (m_root σ v2.toNatClampNeg) (fun x19 => ck (vp_in x19 4096) (nmd (m_length σ x19.toNatClampNeg) (fun x21 => cIf (x21 < v4) (JX1_part_58 F σ v1 v2 v3 v4 t0) (JX1_part_59 F σ v1 v2 v3 v4 t0 1))))))))
noncomputable def JX1_part_19 (F : Nat) (σ : mS) (v1 : Int32) (v2 : Int32) (v3 : Int32) (v4 : Int32) : Option mS := JX1_part_20 F σ v1 v2 v3 v4 0
noncomputable def fX1_part (F : Nat) (σ : mS) (p1 : Int32) (p2 : Int32) (p3 : Int32) (p4 : Int32) : Option mS := bnp (fX1_isRoot F p1) (fun r1 => cIf (r1 = 0) (JX1_part_19 F σ p1 p2 p3 p4) (bnd (fX1_isText F σ p2) (fun r24 σ23 => cIf (r24 = 0) (JX1_part_19 F σ23 p1 p2 p3 p4) (JX1_part_20 F σ23 p1 p2 p3 p4 1))))
set_option maxHeartbeats 4000000 in
set_option maxRecDepth 100000 in
theorem jX1_part_59 {p : Program} {l : Launch} {e : Env} {s : State} {m : MethodId} {args : Array Value} {below : List Frame} {meth : Method} {c : Code} {A : Nat → Prop} {G : gT} {h0 : Nat} {h : (Nat → Nat)} {F : Nat} (S : CallFix p m c cX1_part 7 s args wsX1_part RX1) (hr : meth.sig.returnType = none) (hlocks : meth.locks = false) (hin : ∀ w ∈ wsX10, w ∈ wsX1_part) (hK : gK G s) (hA : ∀ q, s.heap.size ≤ q → A q) {res : mS} (σ : mS) (v1 : Int32) (v2 : Int32) (v3 : Int32) (v4 : Int32) (v5 : Int32) (t1 : Int32) (H : Heap) (locs : List Loc) (ls : Array Slot) (hg : JX1_part_59 F σ v1 v2 v3 v4 v5 t1 = some res) (hI : mI s A G h0 h σ H locs) (hl : lv_has ls 7 [(0, .ref h0), (1, .int v1), (2, .int v2), (3, .int v3), (4, .int v4), (5, .int v5)]) : W p l e rX1_part s m args below meth c H locs 0 0 (MQ below (mQv G h0 h res A) args s 0 0 A) (F0 m 59 ls [.int t1, .ref h0]) := by
  have hx := S.1
  have hb := S.2.1
  have hts := S.2.2.2.2
  have hown := S.2.2.2.1
  unfold JX1_part_59 at hg
  obtain ⟨r5, σ4, er5, hg⟩ := bnd_e hg
  refine mc_i S hK hA hI (As := [.int t1]) (rest := []) (kX1_says l G h0 h H.size F σ t1  r5 σ4 er5) (cwV 1 hts gX1_part_X1_says rfl rfl rfl nX1_says ⟨Nat.le_of_ble_eq_true rfl, Nat.le_of_ble_eq_true rfl⟩) rfl hl.1 rfl (Nat.le_of_ble_eq_true rfl) dX1_part_59 ⟨Nat.le_refl _, Nat.le_refl _⟩ (fun H locs hI => ?_)
  refine lv_if_ne (tgt := 66) hx hb dX1_part_62 (by decide) (fun c6 => ?_) (fun c6 => ?_)
  · have hg := cIf_fe c6 hg
    refine lv_aload_n hx hb dX1_part_66 rfl (lv_at hl 0 rfl) ?_
    refine lv_aload_n hx hb dX1_part_67 rfl (lv_at hl 0 rfl) ?_
    refine lv_iconst (v := 2) hx hb dX1_part_68 (by decide) ?_
    refine lv_aload_n hx hb dX1_part_69 rfl (lv_at hl 0 rfl) ?_
    refine mg_root S hin hK hI (ix := 9) (by decide +kernel) dX1_part_70 ?_
    refine lv_iload_n hx hb dX1_part_73 rfl (lv_at hl 2 rfl) ?_
    obtain ⟨c7, hg⟩ := ck_e hg
    obtain ⟨x8, ex8, hg⟩ := nmd_e hg
    refine mr_root S hK hI c7 ex8 dX1_part_74 ?_
    refine lv_iload_n hx hb dX1_part_75 rfl (lv_at hl 3 rfl) ?_
    refine lv_iload hx hb dX1_part_76 (lv_at hl 4 rfl) ?_
    obtain ⟨r10, σ9, er10, hg⟩ := bnd_e hg
    refine mc_i S hK hA hI (As := [.int 2, .int x8, .int v3, .int v4]) (rest := [.ref h0]) (kX1_partOf l G h0 h H.size F σ4 2 x8 v3 v4  r10 σ9 er10) (cwV 4 hts gX1_part_X1_partOf rfl rfl rfl nX1_partOf ⟨Nat.le_of_ble_eq_true rfl, Nat.le_of_ble_eq_true rfl⟩) rfl hl.1 rfl (Nat.le_of_ble_eq_true rfl) dX1_part_78 ⟨Nat.le_refl _, Nat.le_refl _⟩ (fun H locs hI => ?_)
    obtain ⟨r12, σ11, er12, hg⟩ := bnd_e hg
    refine mc_i S hK hA hI (As := [.int r10]) (rest := []) (kX1_full l G h0 h H.size F σ9 r10  r12 σ11 er12) (cwV 1 hts gX1_part_X1_full rfl rfl rfl nX1_full ⟨Nat.le_of_ble_eq_true rfl, Nat.le_of_ble_eq_true rfl⟩) rfl hl.1 rfl (Nat.le_of_ble_eq_true rfl) dX1_part_81 ⟨Nat.le_refl _, Nat.le_refl _⟩ (fun H locs hI => ?_)
    refine lv_istore (lv' := [(6, .int r12), (0, .ref h0), (1, .int v1), (2, .int v2), (3, .int v3), (4, .int v4), (5, .int v5)]) hx hb dX1_part_84 hl (by decide) rfl (fun ls hl => ?_)
    refine lv_iload hx hb dX1_part_86 (lv_at hl 0 rfl) ?_
    refine lv_if_le (tgt := 99) hx hb dX1_part_88 (by decide) (fun c13 => ?_) (fun c13 => ?_)
    · have hg := cIf_te c13 hg
      exact me_v S hr hlocks hK hI hg dX1_part_99
    · have hg := cIf_fe c13 hg
      refine lv_aload_n hx hb dX1_part_91 rfl (lv_at hl 1 rfl) ?_
      refine mg_root S hin hK hI (ix := 9) (by decide +kernel) dX1_part_92 ?_
      refine lv_iload_n hx hb dX1_part_95 rfl (lv_at hl 2 rfl) ?_
      refine lv_iload hx hb dX1_part_96 (lv_at hl 0 rfl) ?_
      obtain ⟨c14, hg⟩ := ck_e hg
      obtain ⟨σ15, eσ15, hg⟩ := nmd_e hg
      refine mu_root S hK hI c14 eσ15 dX1_part_98 (fun H locs hI => ?_)
      exact me_v S hr hlocks hK hI hg dX1_part_99
  · have hg := cIf_te c6 hg
    exact me_v S hr hlocks hK hI hg dX1_part_65
set_option maxHeartbeats 4000000 in
set_option maxRecDepth 100000 in
theorem jX1_part_58 {p : Program} {l : Launch} {e : Env} {s : State} {m : MethodId} {args : Array Value} {below : List Frame} {meth : Method} {c : Code} {A : Nat → Prop} {G : gT} {h0 : Nat} {h : (Nat → Nat)} {F : Nat} (S : CallFix p m c cX1_part 7 s args wsX1_part RX1) (hr : meth.sig.returnType = none) (hlocks : meth.locks = false) (hin : ∀ w ∈ wsX10, w ∈ wsX1_part) (hK : gK G s) (hA : ∀ q, s.heap.size ≤ q → A q) {res : mS} (σ : mS) (v1 : Int32) (v2 : Int32) (v3 : Int32) (v4 : Int32) (v5 : Int32) (H : Heap) (locs : List Loc) (ls : Array Slot) (hg : JX1_part_58 F σ v1 v2 v3 v4 v5 = some res) (hI : mI s A G h0 h σ H locs) (hl : lv_has ls 7 [(0, .ref h0), (1, .int v1), (2, .int v2), (3, .int v3), (4, .int v4), (5, .int v5)]) : W p l e rX1_part s m args below meth c H locs 0 0 (MQ below (mQv G h0 h res A) args s 0 0 A) (F0 m 58 ls [.ref h0]) := by
  have hx := S.1
  have hb := S.2.1
  have hts := S.2.2.2.2
  have hown := S.2.2.2.1
  unfold JX1_part_58 at hg
  refine lv_iconst (v := 0) hx hb dX1_part_58 (by decide) ?_
  exact jX1_part_59 S hr hlocks hin hK hA σ v1 v2 v3 v4 v5 0 H locs ls hg hI (lv_sub hl [0, 1, 2, 3, 4, 5] rfl)
set_option maxHeartbeats 4000000 in
set_option maxRecDepth 100000 in
theorem jX1_part_20 {p : Program} {l : Launch} {e : Env} {s : State} {m : MethodId} {args : Array Value} {below : List Frame} {meth : Method} {c : Code} {A : Nat → Prop} {G : gT} {h0 : Nat} {h : (Nat → Nat)} {F : Nat} (S : CallFix p m c cX1_part 7 s args wsX1_part RX1) (hr : meth.sig.returnType = none) (hlocks : meth.locks = false) (hin : ∀ w ∈ wsX10, w ∈ wsX1_part) (hK : gK G s) (hA : ∀ q, s.heap.size ≤ q → A q) {res : mS} (σ : mS) (v1 : Int32) (v2 : Int32) (v3 : Int32) (v4 : Int32) (t0 : Int32) (H : Heap) (locs : List Loc) (ls : Array Slot) (hg : JX1_part_20 F σ v1 v2 v3 v4 t0 = some res) (hI : mI s A G h0 h σ H locs) (hl : lv_has ls 7 [(0, .ref h0), (1, .int v1), (2, .int v2), (3, .int v3), (4, .int v4)]) : W p l e rX1_part s m args below meth c H locs 0 0 (MQ below (mQv G h0 h res A) args s 0 0 A) (F0 m 20 ls [.int t0]) := by
  have hx := S.1
  have hb := S.2.1
  have hts := S.2.2.2.2
  have hown := S.2.2.2.1
  unfold JX1_part_20 at hg
  refine lv_istore (lv' := [(5, .int t0), (0, .ref h0), (1, .int v1), (2, .int v2), (3, .int v3), (4, .int v4)]) hx hb dX1_part_20 hl (by decide) rfl (fun ls hl => ?_)
  refine lv_aload_n hx hb dX1_part_22 rfl (lv_at hl 1 rfl) ?_
  refine lv_iload hx hb dX1_part_23 (lv_at hl 0 rfl) ?_
  refine lv_if_eq (tgt := 58) hx hb dX1_part_25 (by decide) (fun c3 => ?_) (fun c3 => ?_)
  · have hg := cIf_te c3 hg
    exact jX1_part_58 S hr hlocks hin hK hA σ v1 v2 v3 v4 t0 H locs ls hg hI (lv_sub hl [1, 2, 3, 4, 5, 0] rfl)
  · have hg := cIf_fe c3 hg
    refine lv_iload_n hx hb dX1_part_28 rfl (lv_at hl 4 rfl) ?_
    refine lv_if_lt (tgt := 58) hx hb dX1_part_29 (by decide) (fun c16 => ?_) (fun c16 => ?_)
    · have hg := cIf_te c16 hg
      exact jX1_part_58 S hr hlocks hin hK hA σ v1 v2 v3 v4 t0 H locs ls hg hI (lv_sub hl [1, 2, 3, 4, 5, 0] rfl)
    · have hg := cIf_fe c16 hg
      refine lv_iload_n hx hb dX1_part_32 rfl (lv_at hl 4 rfl) ?_
      refine lv_iload hx hb dX1_part_33 (lv_at hl 5 rfl) ?_
      refine lv_icmp_gt (tgt := 58) hx hb dX1_part_35 (by decide) (fun c17 => ?_) (fun c17 => ?_)
      · have hg := cIf_te c17 hg
        exact jX1_part_58 S hr hlocks hin hK hA σ v1 v2 v3 v4 t0 H locs ls hg hI (lv_sub hl [1, 2, 3, 4, 5, 0] rfl)
      · have hg := cIf_fe c17 hg
        refine lv_iload hx hb dX1_part_38 (lv_at hl 5 rfl) ?_
        refine lv_aload_n hx hb dX1_part_40 rfl (lv_at hl 1 rfl) ?_
        refine mg_length S hin hK hI (ix := 44) (by decide +kernel) dX1_part_41 ?_
        refine lv_aload_n hx hb dX1_part_44 rfl (lv_at hl 1 rfl) ?_
        refine mg_root S hin hK hI (ix := 9) (by decide +kernel) dX1_part_45 ?_
        refine lv_iload_n hx hb dX1_part_48 rfl (lv_at hl 3 rfl) ?_
        obtain ⟨c18, hg⟩ := ck_e hg
        obtain ⟨x19, ex19, hg⟩ := nmd_e hg
        refine mr_root S hK hI c18 ex19 dX1_part_49 ?_
        obtain ⟨c20, hg⟩ := ck_e hg
        obtain ⟨x21, ex21, hg⟩ := nmd_e hg
        refine mr_length S hK hI c20 ex21 dX1_part_50 ?_
        refine lv_icmp_gt (tgt := 58) hx hb dX1_part_51 (by decide) (fun c22 => ?_) (fun c22 => ?_)
        · have hg := cIf_te c22 hg
          exact jX1_part_58 S hr hlocks hin hK hA σ v1 v2 v3 v4 t0 H locs ls hg hI (lv_sub hl [1, 2, 3, 4, 5, 0] rfl)
        · have hg := cIf_fe c22 hg
          refine lv_iconst (v := 1) hx hb dX1_part_54 (by decide) ?_
          refine lv_goto (tgt := 59) hx hb dX1_part_55 (by decide) ?_
          exact jX1_part_59 S hr hlocks hin hK hA σ v1 v2 v3 v4 t0 1 H locs ls hg hI (lv_sub hl [1, 2, 3, 4, 5, 0] rfl)
set_option maxHeartbeats 4000000 in
set_option maxRecDepth 100000 in
theorem jX1_part_19 {p : Program} {l : Launch} {e : Env} {s : State} {m : MethodId} {args : Array Value} {below : List Frame} {meth : Method} {c : Code} {A : Nat → Prop} {G : gT} {h0 : Nat} {h : (Nat → Nat)} {F : Nat} (S : CallFix p m c cX1_part 7 s args wsX1_part RX1) (hr : meth.sig.returnType = none) (hlocks : meth.locks = false) (hin : ∀ w ∈ wsX10, w ∈ wsX1_part) (hK : gK G s) (hA : ∀ q, s.heap.size ≤ q → A q) {res : mS} (σ : mS) (v1 : Int32) (v2 : Int32) (v3 : Int32) (v4 : Int32) (H : Heap) (locs : List Loc) (ls : Array Slot) (hg : JX1_part_19 F σ v1 v2 v3 v4 = some res) (hI : mI s A G h0 h σ H locs) (hl : lv_has ls 7 [(0, .ref h0), (1, .int v1), (2, .int v2), (3, .int v3), (4, .int v4)]) : W p l e rX1_part s m args below meth c H locs 0 0 (MQ below (mQv G h0 h res A) args s 0 0 A) (F0 m 19 ls []) := by
  have hx := S.1
  have hb := S.2.1
  have hts := S.2.2.2.2
  have hown := S.2.2.2.1
  unfold JX1_part_19 at hg
  refine lv_iconst (v := 0) hx hb dX1_part_19 (by decide) ?_
  exact jX1_part_20 S hr hlocks hin hK hA σ v1 v2 v3 v4 0 H locs ls hg hI (lv_sub hl [0, 1, 2, 3, 4] rfl)
set_option maxHeartbeats 4000000 in
set_option maxRecDepth 100000 in
theorem kX1_part (l : Launch) (G : gT) (h0 : Nat) (h : (Nat → Nat)) (sz F : Nat) (σ : mS) (p1 : Int32) (p2 : Int32) (p3 : Int32) (p4 : Int32) (σr : mS) (hg : fX1_part F σ p1 p2 p3 p4 = some σr) : Met l yX1_part wsX1_part rX1_part (mPre G h0 h σ sz [.int p1, .int p2, .int p3, .int p4]) (mQv G h0 h σr (mA G h0 h σ sz)) 0 0 (mA G h0 h σ sz) := by
  refine mMet (Qc := mQv G h0 h σr) (by decide +kernel) rfl rfl (Nat.le_of_ble_eq_true rfl) ?_
  intro p e s m args below meth c A S hr hlocks hK hA H locs hI ls hl
  have hl : lv_has ls 7 [(0, .ref h0), (1, .int p1), (2, .int p2), (3, .int p3), (4, .int p4)] := hl
  have hin : ∀ w ∈ wsX10, w ∈ wsX1_part := by decide +kernel
  have hx := S.1
  have hb := S.2.1
  have hts := S.2.2.2.2
  have hown := S.2.2.2.1
  unfold fX1_part at hg
  refine lv_iload_n hx hb dX1_part_0 rfl (lv_at hl 1 rfl) ?_
  obtain ⟨r1, er1, hg⟩ := bnp_e hg
  refine ms_i S hA hI (As := [.int p1]) (rest := []) (kX1_isRoot l H.size F p1 r1 er1) (va_cwS 1 hts gX1_part_X1_isRoot rfl rfl rfl nX1_isRoot ⟨Nat.le_of_ble_eq_true rfl, Nat.le_of_ble_eq_true rfl⟩) rfl hl.1 rfl (Nat.le_of_ble_eq_true rfl) dX1_part_1 ⟨Nat.le_refl _, Nat.le_refl _⟩ (fun H locs hI => ?_)
  refine lv_if_eq (tgt := 19) hx hb dX1_part_4 (by decide) (fun c2 => ?_) (fun c2 => ?_)
  · have hg := cIf_te c2 hg
    exact jX1_part_19 S hr hlocks hin hK hA σ p1 p2 p3 p4 H locs ls hg hI (lv_sub hl [0, 1, 2, 3, 4] rfl)
  · have hg := cIf_fe c2 hg
    refine lv_aload_n hx hb dX1_part_7 rfl (lv_at hl 0 rfl) ?_
    refine lv_iload_n hx hb dX1_part_8 rfl (lv_at hl 2 rfl) ?_
    obtain ⟨r24, σ23, er24, hg⟩ := bnd_e hg
    refine mc_i S hK hA hI (As := [.int p2]) (rest := []) (kX1_isText l G h0 h H.size F σ p2  r24 σ23 er24) (cwV 1 hts gX1_part_X1_isText rfl rfl rfl nX1_isText ⟨Nat.le_of_ble_eq_true rfl, Nat.le_of_ble_eq_true rfl⟩) rfl hl.1 rfl (Nat.le_of_ble_eq_true rfl) dX1_part_9 ⟨Nat.le_refl _, Nat.le_refl _⟩ (fun H locs hI => ?_)
    refine lv_if_eq (tgt := 19) hx hb dX1_part_12 (by decide) (fun c25 => ?_) (fun c25 => ?_)
    · have hg := cIf_te c25 hg
      exact jX1_part_19 S hr hlocks hin hK hA σ23 p1 p2 p3 p4 H locs ls hg hI (lv_sub hl [0, 1, 2, 3, 4] rfl)
    · have hg := cIf_fe c25 hg
      refine lv_iconst (v := 1) hx hb dX1_part_15 (by decide) ?_
      refine lv_goto (tgt := 20) hx hb dX1_part_16 (by decide) ?_
      exact jX1_part_20 S hr hlocks hin hK hA σ23 p1 p2 p3 p4 1 H locs ls hg hI (lv_sub hl [0, 1, 2, 3, 4] rfl)
-- OwnMemoryModel.length
abbrev rX1_length : Room := { frames := 3, cells := 0, slots := 0, locals := 63 }
theorem nX1_length : yX1_length.cls = RX1 ∧ yX1_length.cls ≠ "java/lang/invoke/MethodHandle" ∧ yX1_length.cls ≠ "java/lang/invoke/VarHandle" ∧ (parseMethodDescriptor yX1_length.desc).map (fun d => d.parameters.length) = some 1 := by decide +kernel
noncomputable def fX1_length (F : Nat) (σ : mS) (p1 : Int32) : Option (Int32 × mS) := bnd (fX1_isText F σ p1) (fun r2 σ1 => bnd (fX1_says F σ1 r2) (fun r4 σ3 => cIf (r4 = 0) (some (0, σ3)) (ck (vp_in p1 24) (nmd (m_root σ3 p1.toNatClampNeg) (fun x7 => ck (vp_in x7 4096) (nmd (m_length σ3 x7.toNatClampNeg) (fun x9 => some (x9, σ3))))))))
set_option maxHeartbeats 4000000 in
set_option maxRecDepth 100000 in
theorem kX1_length (l : Launch) (G : gT) (h0 : Nat) (h : (Nat → Nat)) (sz F : Nat) (σ : mS) (p1 : Int32) (r : Int32) (σr : mS) (hg : fX1_length F σ p1 = some (r, σr)) : Met l yX1_length wsX1_length rX1_length (mPre G h0 h σ sz [.int p1]) (mQi G h0 h r σr (mA G h0 h σ sz)) 0 0 (mA G h0 h σ sz) := by
  refine mMet (Qc := mQi G h0 h r σr) (by decide +kernel) rfl rfl (Nat.le_of_ble_eq_true rfl) ?_
  intro p e s m args below meth c A S hr hlocks hK hA H locs hI ls hl
  have hl : lv_has ls 2 [(0, .ref h0), (1, .int p1)] := hl
  have hin : ∀ w ∈ wsX10, w ∈ wsX1_length := in_ws
  have hx := S.1
  have hb := S.2.1
  have hts := S.2.2.2.2
  have hown := S.2.2.2.1
  unfold fX1_length at hg
  refine lv_aload_n hx hb dX1_length_0 rfl (lv_at hl 0 rfl) ?_
  refine lv_aload_n hx hb dX1_length_1 rfl (lv_at hl 0 rfl) ?_
  refine lv_iload_n hx hb dX1_length_2 rfl (lv_at hl 1 rfl) ?_
  obtain ⟨r2, σ1, er2, hg⟩ := bnd_e hg
  refine mc_i S hK hA hI (As := [.int p1]) (rest := [.ref h0]) (kX1_isText l G h0 h H.size F σ p1  r2 σ1 er2) (cwV 1 hts gX1_length_X1_isText rfl rfl rfl nX1_isText ⟨Nat.le_of_ble_eq_true rfl, Nat.le_of_ble_eq_true rfl⟩) rfl hl.1 rfl (Nat.le_of_ble_eq_true rfl) dX1_length_3 ⟨Nat.le_refl _, Nat.le_refl _⟩ (fun H locs hI => ?_)
  obtain ⟨r4, σ3, er4, hg⟩ := bnd_e hg
  refine mc_i S hK hA hI (As := [.int r2]) (rest := []) (kX1_says l G h0 h H.size F σ1 r2  r4 σ3 er4) (cwV 1 hts gX1_length_X1_says rfl rfl rfl nX1_says ⟨Nat.le_of_ble_eq_true rfl, Nat.le_of_ble_eq_true rfl⟩) rfl hl.1 rfl (Nat.le_of_ble_eq_true rfl) dX1_length_6 ⟨Nat.le_refl _, Nat.le_refl _⟩ (fun H locs hI => ?_)
  refine lv_if_eq (tgt := 26) hx hb dX1_length_9 (by decide) (fun c5 => ?_) (fun c5 => ?_)
  · have hg := cIf_te c5 hg
    refine lv_iconst (v := 0) hx hb dX1_length_26 (by decide) ?_
    exact me_i S hr hlocks hK hI hg dX1_length_27
  · have hg := cIf_fe c5 hg
    refine lv_aload_n hx hb dX1_length_12 rfl (lv_at hl 0 rfl) ?_
    refine mg_length S hin hK hI (ix := 44) (by decide +kernel) dX1_length_13 ?_
    refine lv_aload_n hx hb dX1_length_16 rfl (lv_at hl 0 rfl) ?_
    refine mg_root S hin hK hI (ix := 9) (by decide +kernel) dX1_length_17 ?_
    refine lv_iload_n hx hb dX1_length_20 rfl (lv_at hl 1 rfl) ?_
    obtain ⟨c6, hg⟩ := ck_e hg
    obtain ⟨x7, ex7, hg⟩ := nmd_e hg
    refine mr_root S hK hI c6 ex7 dX1_length_21 ?_
    obtain ⟨c8, hg⟩ := ck_e hg
    obtain ⟨x9, ex9, hg⟩ := nmd_e hg
    refine mr_length S hK hI c8 ex9 dX1_length_22 ?_
    refine lv_goto (tgt := 27) hx hb dX1_length_23 (by decide) ?_
    exact me_i S hr hlocks hK hI hg dX1_length_27
-- OwnMemoryModel.unit
abbrev rX1_unit : Room := { frames := 5, cells := 0, slots := 0, locals := 111 }
theorem nX1_unit : yX1_unit.cls = RX1 ∧ yX1_unit.cls ≠ "java/lang/invoke/MethodHandle" ∧ yX1_unit.cls ≠ "java/lang/invoke/VarHandle" ∧ (parseMethodDescriptor yX1_unit.desc).map (fun d => d.parameters.length) = some 2 := by decide +kernel
noncomputable def JX1_unit_37 (F : Nat) (σ : mS) (v1 : Int32) (v2 : Int32) (v3 : Int32) (t1 : Int32) : Option (Int32 × mS) := bnd (fX1_says F σ t1) (fun r5 σ4 => cIf (r5 = 0) (some (0, σ4)) (ck (vp_in v1 24) (nmd (m_root σ4 v1.toNatClampNeg) (fun x8 => bnd (fX1_goOver F σ4 x8) (fun r10 σ9 => cIf (r10 = 0) (nmd (m_s_thrown σ9 2) (fun σ16 => some (0, σ16))) (ck (vp_in v1 24) (nmd (m_root σ9 v1.toNatClampNeg) (fun x13 => bnd (fX1_unitOf F σ9 x13 v2) (fun r15 σ14 => some (r15, σ14))))))))))
noncomputable def JX1_unit_36 (F : Nat) (σ : mS) (v1 : Int32) (v2 : Int32) (v3 : Int32) : Option (Int32 × mS) := JX1_unit_37 F σ v1 v2 v3 0
noncomputable def fX1_unit (F : Nat) (σ : mS) (p1 : Int32) (p2 : Int32) : Option (Int32 × mS) := bnd (fX1_isText F σ p1) (fun r2 σ1 => cIf (r2 = 0) (JX1_unit_36 F σ1 p1 p2 r2) (ck (vp_in p1 24) (nmd (m_root σ1 p1.toNatClampNeg) (fun x18 => ck (vp_in x18 4096) (nmd (m_length σ1 x18.toNatClampNeg) (fun x20 => bnp (fX1_in F p2 0 (x20 - 1)) (fun r21 => cIf (r21 = 0) (JX1_unit_36 F σ1 p1 p2 r2) (JX1_unit_37 F σ1 p1 p2 r2 1))))))))
set_option maxHeartbeats 4000000 in
set_option maxRecDepth 100000 in
theorem jX1_unit_37 {p : Program} {l : Launch} {e : Env} {s : State} {m : MethodId} {args : Array Value} {below : List Frame} {meth : Method} {c : Code} {A : Nat → Prop} {G : gT} {h0 : Nat} {h : (Nat → Nat)} {F : Nat} (S : CallFix p m c cX1_unit 4 s args wsX1_unit RX1) (hr : meth.sig.returnType = some .int) (hlocks : meth.locks = false) (hin : ∀ w ∈ wsX10, w ∈ wsX1_unit) (hK : gK G s) (hA : ∀ q, s.heap.size ≤ q → A q) {res : (Int32 × mS)} (σ : mS) (v1 : Int32) (v2 : Int32) (v3 : Int32) (t1 : Int32) (H : Heap) (locs : List Loc) (ls : Array Slot) (hg : JX1_unit_37 F σ v1 v2 v3 t1 = some res) (hI : mI s A G h0 h σ H locs) (hl : lv_has ls 4 [(0, .ref h0), (1, .int v1), (2, .int v2), (3, .int v3)]) : W p l e rX1_unit s m args below meth c H locs 0 0 (MQ below (mQi G h0 h res.1 res.2 A) args s 0 0 A) (F0 m 37 ls [.int t1, .ref h0]) := by
  have hx := S.1
  have hb := S.2.1
  have hts := S.2.2.2.2
  have hown := S.2.2.2.1
  unfold JX1_unit_37 at hg
  obtain ⟨r5, σ4, er5, hg⟩ := bnd_e hg
  refine mc_i S hK hA hI (As := [.int t1]) (rest := []) (kX1_says l G h0 h H.size F σ t1  r5 σ4 er5) (cwV 1 hts gX1_unit_X1_says rfl rfl rfl nX1_says ⟨Nat.le_of_ble_eq_true rfl, Nat.le_of_ble_eq_true rfl⟩) rfl hl.1 rfl (Nat.le_of_ble_eq_true rfl) dX1_unit_37 ⟨Nat.le_refl _, Nat.le_refl _⟩ (fun H locs hI => ?_)
  refine lv_if_ne (tgt := 45) hx hb dX1_unit_40 (by decide) (fun c6 => ?_) (fun c6 => ?_)
  · have hg := cIf_fe c6 hg
    refine lv_aload_n hx hb dX1_unit_45 rfl (lv_at hl 0 rfl) ?_
    refine lv_aload_n hx hb dX1_unit_46 rfl (lv_at hl 0 rfl) ?_
    refine mg_root S hin hK hI (ix := 9) (by decide +kernel) dX1_unit_47 ?_
    refine lv_iload_n hx hb dX1_unit_50 rfl (lv_at hl 1 rfl) ?_
    obtain ⟨c7, hg⟩ := ck_e hg
    obtain ⟨x8, ex8, hg⟩ := nmd_e hg
    refine mr_root S hK hI c7 ex8 dX1_unit_51 ?_
    obtain ⟨r10, σ9, er10, hg⟩ := bnd_e hg
    refine mc_i S hK hA hI (As := [.int x8]) (rest := []) (kX1_goOver l G h0 h H.size F σ4 x8  r10 σ9 er10) (cwV 1 hts gX1_unit_X1_goOver rfl rfl rfl nX1_goOver ⟨Nat.le_of_ble_eq_true rfl, Nat.le_of_ble_eq_true rfl⟩) rfl hl.1 rfl (Nat.le_of_ble_eq_true rfl) dX1_unit_52 ⟨Nat.le_refl _, Nat.le_refl _⟩ (fun H locs hI => ?_)
    refine lv_if_ne (tgt := 65) hx hb dX1_unit_55 (by decide) (fun c11 => ?_) (fun c11 => ?_)
    · have hg := cIf_fe c11 hg
      refine lv_aload_n hx hb dX1_unit_65 rfl (lv_at hl 0 rfl) ?_
      refine lv_aload_n hx hb dX1_unit_66 rfl (lv_at hl 0 rfl) ?_
      refine mg_root S hin hK hI (ix := 9) (by decide +kernel) dX1_unit_67 ?_
      refine lv_iload_n hx hb dX1_unit_70 rfl (lv_at hl 1 rfl) ?_
      obtain ⟨c12, hg⟩ := ck_e hg
      obtain ⟨x13, ex13, hg⟩ := nmd_e hg
      refine mr_root S hK hI c12 ex13 dX1_unit_71 ?_
      refine lv_iload_n hx hb dX1_unit_72 rfl (lv_at hl 2 rfl) ?_
      obtain ⟨r15, σ14, er15, hg⟩ := bnd_e hg
      refine mc_i S hK hA hI (As := [.int x13, .int v2]) (rest := []) (kX1_unitOf l G h0 h H.size F σ9 x13 v2  r15 σ14 er15) (cwV 2 hts gX1_unit_X1_unitOf rfl rfl rfl nX1_unitOf ⟨Nat.le_of_ble_eq_true rfl, Nat.le_of_ble_eq_true rfl⟩) rfl hl.1 rfl (Nat.le_of_ble_eq_true rfl) dX1_unit_73 ⟨Nat.le_refl _, Nat.le_refl _⟩ (fun H locs hI => ?_)
      exact me_i S hr hlocks hK hI hg dX1_unit_76
    · have hg := cIf_te c11 hg
      refine lv_aload_n hx hb dX1_unit_58 rfl (lv_at hl 0 rfl) ?_
      refine lv_iconst (v := 2) hx hb dX1_unit_59 (by decide) ?_
      obtain ⟨σ16, eσ16, hg⟩ := nmd_e hg
      refine mp_thrown S hin hK hI (ix := 73) (by decide +kernel) eσ16 dX1_unit_60 (fun H locs hI => ?_)
      refine lv_iconst (v := 0) hx hb dX1_unit_63 (by decide) ?_
      exact me_i S hr hlocks hK hI hg dX1_unit_64
  · have hg := cIf_te c6 hg
    refine lv_iconst (v := 0) hx hb dX1_unit_43 (by decide) ?_
    exact me_i S hr hlocks hK hI hg dX1_unit_44
set_option maxHeartbeats 4000000 in
set_option maxRecDepth 100000 in
theorem jX1_unit_36 {p : Program} {l : Launch} {e : Env} {s : State} {m : MethodId} {args : Array Value} {below : List Frame} {meth : Method} {c : Code} {A : Nat → Prop} {G : gT} {h0 : Nat} {h : (Nat → Nat)} {F : Nat} (S : CallFix p m c cX1_unit 4 s args wsX1_unit RX1) (hr : meth.sig.returnType = some .int) (hlocks : meth.locks = false) (hin : ∀ w ∈ wsX10, w ∈ wsX1_unit) (hK : gK G s) (hA : ∀ q, s.heap.size ≤ q → A q) {res : (Int32 × mS)} (σ : mS) (v1 : Int32) (v2 : Int32) (v3 : Int32) (H : Heap) (locs : List Loc) (ls : Array Slot) (hg : JX1_unit_36 F σ v1 v2 v3 = some res) (hI : mI s A G h0 h σ H locs) (hl : lv_has ls 4 [(0, .ref h0), (1, .int v1), (2, .int v2), (3, .int v3)]) : W p l e rX1_unit s m args below meth c H locs 0 0 (MQ below (mQi G h0 h res.1 res.2 A) args s 0 0 A) (F0 m 36 ls [.ref h0]) := by
  have hx := S.1
  have hb := S.2.1
  have hts := S.2.2.2.2
  have hown := S.2.2.2.1
  unfold JX1_unit_36 at hg
  refine lv_iconst (v := 0) hx hb dX1_unit_36 (by decide) ?_
  exact jX1_unit_37 S hr hlocks hin hK hA σ v1 v2 v3 0 H locs ls hg hI (lv_sub hl [0, 1, 2, 3] rfl)
set_option maxHeartbeats 4000000 in
set_option maxRecDepth 100000 in
theorem kX1_unit (l : Launch) (G : gT) (h0 : Nat) (h : (Nat → Nat)) (sz F : Nat) (σ : mS) (p1 : Int32) (p2 : Int32) (r : Int32) (σr : mS) (hg : fX1_unit F σ p1 p2 = some (r, σr)) : Met l yX1_unit wsX1_unit rX1_unit (mPre G h0 h σ sz [.int p1, .int p2]) (mQi G h0 h r σr (mA G h0 h σ sz)) 0 0 (mA G h0 h σ sz) := by
  refine mMet (Qc := mQi G h0 h r σr) (by decide +kernel) rfl rfl (Nat.le_of_ble_eq_true rfl) ?_
  intro p e s m args below meth c A S hr hlocks hK hA H locs hI ls hl
  have hl : lv_has ls 4 [(0, .ref h0), (1, .int p1), (2, .int p2)] := hl
  have hin : ∀ w ∈ wsX10, w ∈ wsX1_unit := by decide +kernel
  have hx := S.1
  have hb := S.2.1
  have hts := S.2.2.2.2
  have hown := S.2.2.2.1
  unfold fX1_unit at hg
  refine lv_aload_n hx hb dX1_unit_0 rfl (lv_at hl 0 rfl) ?_
  refine lv_iload_n hx hb dX1_unit_1 rfl (lv_at hl 1 rfl) ?_
  obtain ⟨r2, σ1, er2, hg⟩ := bnd_e hg
  refine mc_i S hK hA hI (As := [.int p1]) (rest := []) (kX1_isText l G h0 h H.size F σ p1  r2 σ1 er2) (cwV 1 hts gX1_unit_X1_isText rfl rfl rfl nX1_isText ⟨Nat.le_of_ble_eq_true rfl, Nat.le_of_ble_eq_true rfl⟩) rfl hl.1 rfl (Nat.le_of_ble_eq_true rfl) dX1_unit_2 ⟨Nat.le_refl _, Nat.le_refl _⟩ (fun H locs hI => ?_)
  refine lv_istore_n (lv' := [(3, .int r2), (0, .ref h0), (1, .int p1), (2, .int p2)]) hx hb dX1_unit_5 rfl hl (by decide) rfl (fun ls hl => ?_)
  refine lv_aload_n hx hb dX1_unit_6 rfl (lv_at hl 1 rfl) ?_
  refine lv_iload_n hx hb dX1_unit_7 rfl (lv_at hl 0 rfl) ?_
  refine lv_if_eq (tgt := 36) hx hb dX1_unit_8 (by decide) (fun c3 => ?_) (fun c3 => ?_)
  · have hg := cIf_te c3 hg
    exact jX1_unit_36 S hr hlocks hin hK hA σ1 p1 p2 r2 H locs ls hg hI (lv_sub hl [1, 2, 3, 0] rfl)
  · have hg := cIf_fe c3 hg
    refine lv_iload_n hx hb dX1_unit_11 rfl (lv_at hl 3 rfl) ?_
    refine lv_iconst (v := 0) hx hb dX1_unit_12 (by decide) ?_
    refine lv_aload_n hx hb dX1_unit_13 rfl (lv_at hl 1 rfl) ?_
    refine mg_length S hin hK hI (ix := 44) (by decide +kernel) dX1_unit_14 ?_
    refine lv_aload_n hx hb dX1_unit_17 rfl (lv_at hl 1 rfl) ?_
    refine mg_root S hin hK hI (ix := 9) (by decide +kernel) dX1_unit_18 ?_
    refine lv_iload_n hx hb dX1_unit_21 rfl (lv_at hl 2 rfl) ?_
    obtain ⟨c17, hg⟩ := ck_e hg
    obtain ⟨x18, ex18, hg⟩ := nmd_e hg
    refine mr_root S hK hI c17 ex18 dX1_unit_22 ?_
    obtain ⟨c19, hg⟩ := ck_e hg
    obtain ⟨x20, ex20, hg⟩ := nmd_e hg
    refine mr_length S hK hI c19 ex20 dX1_unit_23 ?_
    refine lv_iconst (v := 1) hx hb dX1_unit_24 (by decide) ?_
    refine lv_isub hx hb dX1_unit_25 ?_
    obtain ⟨r21, er21, hg⟩ := bnp_e hg
    refine ms_i S hA hI (As := [.int p2, .int 0, .int (x20 - 1)]) (rest := [.ref h0]) (kX1_in l H.size F p2 0 (x20 - 1) r21 er21) (va_cwS 3 hts gX1_unit_X1_in rfl rfl rfl nX1_in ⟨Nat.le_of_ble_eq_true rfl, Nat.le_of_ble_eq_true rfl⟩) rfl hl.1 rfl (Nat.le_of_ble_eq_true rfl) dX1_unit_26 ⟨Nat.le_refl _, Nat.le_refl _⟩ (fun H locs hI => ?_)
    refine lv_if_eq (tgt := 36) hx hb dX1_unit_29 (by decide) (fun c22 => ?_) (fun c22 => ?_)
    · have hg := cIf_te c22 hg
      exact jX1_unit_36 S hr hlocks hin hK hA σ1 p1 p2 r2 H locs ls hg hI (lv_sub hl [1, 2, 3, 0] rfl)
    · have hg := cIf_fe c22 hg
      refine lv_iconst (v := 1) hx hb dX1_unit_32 (by decide) ?_
      refine lv_goto (tgt := 37) hx hb dX1_unit_33 (by decide) ?_
      exact jX1_unit_37 S hr hlocks hin hK hA σ1 p1 p2 r2 1 H locs ls hg hI (lv_sub hl [1, 2, 3, 0] rfl)
-- OwnMemoryModel.order
abbrev rX1_order : Room := { frames := 1, cells := 0, slots := 0, locals := 24 }
theorem nX1_order : yX1_order.cls = RX1 ∧ yX1_order.cls ≠ "java/lang/invoke/MethodHandle" ∧ yX1_order.cls ≠ "java/lang/invoke/VarHandle" ∧ (parseMethodDescriptor yX1_order.desc).map (fun d => d.parameters.length) = some 2 := by decide +kernel
noncomputable def LX1_order_34 (F : Nat) (K : Int32 → mS → Option (Int32 × mS)) (v1 : Int32) (v2 : Int32) (v3 : Int32) : Nat → Int32 → mS → Option (Int32 × mS)
  | 0, _, _ => none
  | n + 1, v4, σ => cIf (v3 ≤ v4) (K v4 σ) (bnd (fX1_unitOf F σ v1 v4) (fun r10 σ9 => bnd (fX1_unitOf F σ9 v2 v4) (fun r12 σ11 => cIf (r10 = r12) (nmd (v4 + 1) (fun x14 => LX1_order_34 F K v1 v2 v3 n x14 σ11)) (cIf (r12 ≤ r10) (some (1, σ11)) (some ((-1), σ11))))))
noncomputable def JX1_order_30 (F : Nat) (σ : mS) (v1 : Int32) (v2 : Int32) (t0 : Int32) : Option (Int32 × mS) := LX1_order_34 F (fun w16 σ17 => ck (vp_in v1 4096) (nmd (m_length σ17 v1.toNatClampNeg) (fun x19 => ck (vp_in v2 4096) (nmd (m_length σ17 v2.toNatClampNeg) (fun x21 => cIf (x19 = x21) (some (0, σ17)) (ck (vp_in v1 4096) (nmd (m_length σ17 v1.toNatClampNeg) (fun x24 => ck (vp_in v2 4096) (nmd (m_length σ17 v2.toNatClampNeg) (fun x26 => cIf (x26 ≤ x24) (some (1, σ17)) (some ((-1), σ17)))))))))))) v1 v2 t0 F 0 σ
noncomputable def fX1_order (F : Nat) (σ : mS) (p1 : Int32) (p2 : Int32) : Option (Int32 × mS) := ck (vp_in p1 4096) (nmd (m_length σ p1.toNatClampNeg) (fun x2 => ck (vp_in p2 4096) (nmd (m_length σ p2.toNatClampNeg) (fun x4 => cIf (x4 ≤ x2) (ck (vp_in p2 4096) (nmd (m_length σ p2.toNatClampNeg) (fun x7 => JX1_order_30 F σ p1 p2 x7))) (ck (vp_in p1 4096) (nmd (m_length σ p1.toNatClampNeg) (fun x29 => JX1_order_30 F σ p1 p2 x29)))))))
set_option maxHeartbeats 4000000 in
set_option maxRecDepth 100000 in
theorem lX1_order_34 {p : Program} {l : Launch} {e : Env} {s : State} {m : MethodId} {args : Array Value} {below : List Frame} {meth : Method} {c : Code} {A : Nat → Prop} {G : gT} {h0 : Nat} {h : (Nat → Nat)} {F : Nat} (S : CallFix p m c cX1_order 7 s args wsX1_order RX1) (hr : meth.sig.returnType = some .int) (hlocks : meth.locks = false) (hin : ∀ w ∈ wsX10, w ∈ wsX1_order) (hK : gK G s) (hA : ∀ q, s.heap.size ≤ q → A q) {K : Int32 → mS → Option (Int32 × mS)} {res : (Int32 × mS)} (v1 : Int32) (v2 : Int32) (v3 : Int32) (n : Nat) : ∀ (v4 : Int32) (σ : mS) (H : Heap) (locs : List Loc) (ls : Array Slot), LX1_order_34 F K v1 v2 v3 n v4 σ = some res → mI s A G h0 h σ H locs → lv_has ls 7 [(0, .ref h0), (1, .int v1), (2, .int v2), (3, .int v3), (4, .int v4)] → (∀ (v4 : Int32) (σ : mS) (H : Heap) (locs : List Loc) (ls : Array Slot), K v4 σ = some res → mI s A G h0 h σ H locs → lv_has ls 7 [(0, .ref h0), (1, .int v1), (2, .int v2), (3, .int v3), (4, .int v4)] → W p l e rX1_order s m args below meth c H locs 0 0 (MQ below (mQi G h0 h res.1 res.2 A) args s 0 0 A) (F0 m 84 ls [])) → W p l e rX1_order s m args below meth c H locs 0 0 (MQ below (mQi G h0 h res.1 res.2 A) args s 0 0 A) (F0 m 34 ls []) := by
  have hx := S.1
  have hb := S.2.1
  have hts := S.2.2.2.2
  have hown := S.2.2.2.1
  induction n with
  | zero => intro v4 σ H locs ls hg; rw [LX1_order_34] at hg; cases hg
  | succ n ih =>
    intro v4 σ H locs ls hg hI hl kk
    rw [LX1_order_34] at hg
    refine lv_iload hx hb dX1_order_34 (lv_at hl 4 rfl) ?_
    refine lv_iload_n hx hb dX1_order_36 rfl (lv_at hl 3 rfl) ?_
    refine lv_icmp_ge (tgt := 84) hx hb dX1_order_37 (by decide) (fun c8 => ?_) (fun c8 => ?_)
    · have hg := cIf_te c8 hg
      exact kk v4 σ H locs ls hg hI (lv_sub hl [0, 1, 2, 3, 4] rfl)
    · have hg := cIf_fe c8 hg
      refine lv_aload_n hx hb dX1_order_40 rfl (lv_at hl 0 rfl) ?_
      refine lv_iload_n hx hb dX1_order_41 rfl (lv_at hl 1 rfl) ?_
      refine lv_iload hx hb dX1_order_42 (lv_at hl 4 rfl) ?_
      obtain ⟨r10, σ9, er10, hg⟩ := bnd_e hg
      refine mc_i S hK hA hI (As := [.int v1, .int v4]) (rest := []) (kX1_unitOf l G h0 h H.size F σ v1 v4  r10 σ9 er10) (cwV 2 hts gX1_order_X1_unitOf rfl rfl rfl nX1_unitOf ⟨Nat.le_of_ble_eq_true rfl, Nat.le_of_ble_eq_true rfl⟩) rfl hl.1 rfl (Nat.le_of_ble_eq_true rfl) dX1_order_44 ⟨Nat.le_refl _, Nat.le_refl _⟩ (fun H locs hI => ?_)
      refine lv_istore (lv' := [(5, .int r10), (0, .ref h0), (1, .int v1), (2, .int v2), (3, .int v3), (4, .int v4)]) hx hb dX1_order_47 hl (by decide) rfl (fun ls hl => ?_)
      refine lv_aload_n hx hb dX1_order_49 rfl (lv_at hl 1 rfl) ?_
      refine lv_iload_n hx hb dX1_order_50 rfl (lv_at hl 3 rfl) ?_
      refine lv_iload hx hb dX1_order_51 (lv_at hl 5 rfl) ?_
      obtain ⟨r12, σ11, er12, hg⟩ := bnd_e hg
      refine mc_i S hK hA hI (As := [.int v2, .int v4]) (rest := []) (kX1_unitOf l G h0 h H.size F σ9 v2 v4  r12 σ11 er12) (cwV 2 hts gX1_order_X1_unitOf rfl rfl rfl nX1_unitOf ⟨Nat.le_of_ble_eq_true rfl, Nat.le_of_ble_eq_true rfl⟩) rfl hl.1 rfl (Nat.le_of_ble_eq_true rfl) dX1_order_53 ⟨Nat.le_refl _, Nat.le_refl _⟩ (fun H locs hI => ?_)
      refine lv_istore (lv' := [(6, .int r12), (5, .int r10), (0, .ref h0), (1, .int v1), (2, .int v2), (3, .int v3), (4, .int v4)]) hx hb dX1_order_56 hl (by decide) rfl (fun ls hl => ?_)
      refine lv_iload hx hb dX1_order_58 (lv_at hl 1 rfl) ?_
      refine lv_iload hx hb dX1_order_60 (lv_at hl 0 rfl) ?_
      refine lv_icmp_eq (tgt := 78) hx hb dX1_order_62 (by decide) (fun c13 => ?_) (fun c13 => ?_)
      · have hg := cIf_te c13 hg
        obtain ⟨x14, ex14, hg⟩ := nmd_e hg
        refine lv_iinc (v := x14) (lv' := [(4, .int x14), (6, .int r12), (5, .int r10), (0, .ref h0), (1, .int v1), (2, .int v2), (3, .int v3)]) hx hb dX1_order_78 hl (k := 6) rfl (by rw [ex14]; rfl) (by decide) rfl (fun ls hl => ?_)
        refine lv_goto (tgt := 34) hx hb dX1_order_81 (by decide) ?_
        exact ih x14 σ11 H locs ls hg hI (lv_sub hl [3, 4, 5, 6, 0] rfl) kk
      · have hg := cIf_fe c13 hg
        refine lv_iload hx hb dX1_order_65 (lv_at hl 1 rfl) ?_
        refine lv_iload hx hb dX1_order_67 (lv_at hl 0 rfl) ?_
        refine lv_icmp_ge (tgt := 76) hx hb dX1_order_69 (by decide) (fun c15 => ?_) (fun c15 => ?_)
        · have hg := cIf_te c15 hg
          refine lv_iconst (v := 1) hx hb dX1_order_76 (by decide) ?_
          exact me_i S hr hlocks hK hI hg dX1_order_77
        · have hg := cIf_fe c15 hg
          refine lv_iconst (v := (-1)) hx hb dX1_order_72 (by decide) ?_
          refine lv_goto (tgt := 77) hx hb dX1_order_73 (by decide) ?_
          exact me_i S hr hlocks hK hI hg dX1_order_77
set_option maxHeartbeats 4000000 in
set_option maxRecDepth 100000 in
theorem jX1_order_30 {p : Program} {l : Launch} {e : Env} {s : State} {m : MethodId} {args : Array Value} {below : List Frame} {meth : Method} {c : Code} {A : Nat → Prop} {G : gT} {h0 : Nat} {h : (Nat → Nat)} {F : Nat} (S : CallFix p m c cX1_order 7 s args wsX1_order RX1) (hr : meth.sig.returnType = some .int) (hlocks : meth.locks = false) (hin : ∀ w ∈ wsX10, w ∈ wsX1_order) (hK : gK G s) (hA : ∀ q, s.heap.size ≤ q → A q) {res : (Int32 × mS)} (σ : mS) (v1 : Int32) (v2 : Int32) (t0 : Int32) (H : Heap) (locs : List Loc) (ls : Array Slot) (hg : JX1_order_30 F σ v1 v2 t0 = some res) (hI : mI s A G h0 h σ H locs) (hl : lv_has ls 7 [(0, .ref h0), (1, .int v1), (2, .int v2)]) : W p l e rX1_order s m args below meth c H locs 0 0 (MQ below (mQi G h0 h res.1 res.2 A) args s 0 0 A) (F0 m 30 ls [.int t0]) := by
  have hx := S.1
  have hb := S.2.1
  have hts := S.2.2.2.2
  have hown := S.2.2.2.1
  unfold JX1_order_30 at hg
  refine lv_istore_n (lv' := [(3, .int t0), (0, .ref h0), (1, .int v1), (2, .int v2)]) hx hb dX1_order_30 rfl hl (by decide) rfl (fun ls hl => ?_)
  refine lv_iconst (v := 0) hx hb dX1_order_31 (by decide) ?_
  refine lv_istore (lv' := [(4, .int 0), (3, .int t0), (0, .ref h0), (1, .int v1), (2, .int v2)]) hx hb dX1_order_32 hl (by decide) rfl (fun ls hl => ?_)
  refine lX1_order_34 S hr hlocks hin hK hA v1 v2 t0 F 0 σ H locs ls hg hI (lv_sub hl [2, 3, 4, 1, 0] rfl) (fun w16 σ17 H locs ls hg hI hl => ?_)
  refine lv_aload_n hx hb dX1_order_84 rfl (lv_at hl 0 rfl) ?_
  refine mg_length S hin hK hI (ix := 44) (by decide +kernel) dX1_order_85 ?_
  refine lv_iload_n hx hb dX1_order_88 rfl (lv_at hl 1 rfl) ?_
  obtain ⟨c18, hg⟩ := ck_e hg
  obtain ⟨x19, ex19, hg⟩ := nmd_e hg
  refine mr_length S hK hI c18 ex19 dX1_order_89 ?_
  refine lv_aload_n hx hb dX1_order_90 rfl (lv_at hl 0 rfl) ?_
  refine mg_length S hin hK hI (ix := 44) (by decide +kernel) dX1_order_91 ?_
  refine lv_iload_n hx hb dX1_order_94 rfl (lv_at hl 2 rfl) ?_
  obtain ⟨c20, hg⟩ := ck_e hg
  obtain ⟨x21, ex21, hg⟩ := nmd_e hg
  refine mr_length S hK hI c20 ex21 dX1_order_95 ?_
  refine lv_icmp_ne (tgt := 103) hx hb dX1_order_96 (by decide) (fun c22 => ?_) (fun c22 => ?_)
  · have hg := cIf_fe c22 hg
    refine lv_aload_n hx hb dX1_order_103 rfl (lv_at hl 0 rfl) ?_
    refine mg_length S hin hK hI (ix := 44) (by decide +kernel) dX1_order_104 ?_
    refine lv_iload_n hx hb dX1_order_107 rfl (lv_at hl 1 rfl) ?_
    obtain ⟨c23, hg⟩ := ck_e hg
    obtain ⟨x24, ex24, hg⟩ := nmd_e hg
    refine mr_length S hK hI c23 ex24 dX1_order_108 ?_
    refine lv_aload_n hx hb dX1_order_109 rfl (lv_at hl 0 rfl) ?_
    refine mg_length S hin hK hI (ix := 44) (by decide +kernel) dX1_order_110 ?_
    refine lv_iload_n hx hb dX1_order_113 rfl (lv_at hl 2 rfl) ?_
    obtain ⟨c25, hg⟩ := ck_e hg
    obtain ⟨x26, ex26, hg⟩ := nmd_e hg
    refine mr_length S hK hI c25 ex26 dX1_order_114 ?_
    refine lv_icmp_ge (tgt := 122) hx hb dX1_order_115 (by decide) (fun c27 => ?_) (fun c27 => ?_)
    · have hg := cIf_te c27 hg
      refine lv_iconst (v := 1) hx hb dX1_order_122 (by decide) ?_
      exact me_i S hr hlocks hK hI hg dX1_order_123
    · have hg := cIf_fe c27 hg
      refine lv_iconst (v := (-1)) hx hb dX1_order_118 (by decide) ?_
      refine lv_goto (tgt := 123) hx hb dX1_order_119 (by decide) ?_
      exact me_i S hr hlocks hK hI hg dX1_order_123
  · have hg := cIf_te c22 hg
    refine lv_iconst (v := 0) hx hb dX1_order_99 (by decide) ?_
    refine lv_goto (tgt := 123) hx hb dX1_order_100 (by decide) ?_
    exact me_i S hr hlocks hK hI hg dX1_order_123
set_option maxHeartbeats 4000000 in
set_option maxRecDepth 100000 in
theorem kX1_order (l : Launch) (G : gT) (h0 : Nat) (h : (Nat → Nat)) (sz F : Nat) (σ : mS) (p1 : Int32) (p2 : Int32) (r : Int32) (σr : mS) (hg : fX1_order F σ p1 p2 = some (r, σr)) : Met l yX1_order wsX1_order rX1_order (mPre G h0 h σ sz [.int p1, .int p2]) (mQi G h0 h r σr (mA G h0 h σ sz)) 0 0 (mA G h0 h σ sz) := by
  refine mMet (Qc := mQi G h0 h r σr) (by decide +kernel) rfl rfl (Nat.le_of_ble_eq_true rfl) ?_
  intro p e s m args below meth c A S hr hlocks hK hA H locs hI ls hl
  have hl : lv_has ls 7 [(0, .ref h0), (1, .int p1), (2, .int p2)] := hl
  have hin : ∀ w ∈ wsX10, w ∈ wsX1_order := in_ws
  have hx := S.1
  have hb := S.2.1
  have hts := S.2.2.2.2
  have hown := S.2.2.2.1
  unfold fX1_order at hg
  refine lv_aload_n hx hb dX1_order_0 rfl (lv_at hl 0 rfl) ?_
  refine mg_length S hin hK hI (ix := 44) (by decide +kernel) dX1_order_1 ?_
  refine lv_iload_n hx hb dX1_order_4 rfl (lv_at hl 1 rfl) ?_
  obtain ⟨c1, hg⟩ := ck_e hg
  obtain ⟨x2, ex2, hg⟩ := nmd_e hg
  refine mr_length S hK hI c1 ex2 dX1_order_5 ?_
  refine lv_aload_n hx hb dX1_order_6 rfl (lv_at hl 0 rfl) ?_
  refine mg_length S hin hK hI (ix := 44) (by decide +kernel) dX1_order_7 ?_
  refine lv_iload_n hx hb dX1_order_10 rfl (lv_at hl 2 rfl) ?_
  obtain ⟨c3, hg⟩ := ck_e hg
  obtain ⟨x4, ex4, hg⟩ := nmd_e hg
  refine mr_length S hK hI c3 ex4 dX1_order_11 ?_
  refine lv_icmp_ge (tgt := 24) hx hb dX1_order_12 (by decide) (fun c5 => ?_) (fun c5 => ?_)
  · have hg := cIf_te c5 hg
    refine lv_aload_n hx hb dX1_order_24 rfl (lv_at hl 0 rfl) ?_
    refine mg_length S hin hK hI (ix := 44) (by decide +kernel) dX1_order_25 ?_
    refine lv_iload_n hx hb dX1_order_28 rfl (lv_at hl 2 rfl) ?_
    obtain ⟨c6, hg⟩ := ck_e hg
    obtain ⟨x7, ex7, hg⟩ := nmd_e hg
    refine mr_length S hK hI c6 ex7 dX1_order_29 ?_
    exact jX1_order_30 S hr hlocks hin hK hA σ p1 p2 x7 H locs ls hg hI (lv_sub hl [0, 1, 2] rfl)
  · have hg := cIf_fe c5 hg
    refine lv_aload_n hx hb dX1_order_15 rfl (lv_at hl 0 rfl) ?_
    refine mg_length S hin hK hI (ix := 44) (by decide +kernel) dX1_order_16 ?_
    refine lv_iload_n hx hb dX1_order_19 rfl (lv_at hl 1 rfl) ?_
    obtain ⟨c28, hg⟩ := ck_e hg
    obtain ⟨x29, ex29, hg⟩ := nmd_e hg
    refine mr_length S hK hI c28 ex29 dX1_order_20 ?_
    refine lv_goto (tgt := 30) hx hb dX1_order_21 (by decide) ?_
    exact jX1_order_30 S hr hlocks hin hK hA σ p1 p2 x29 H locs ls hg hI (lv_sub hl [0, 1, 2] rfl)
-- OwnMemoryModel.compare
abbrev rX1_compare : Room := { frames := 5, cells := 0, slots := 0, locals := 111 }
theorem nX1_compare : yX1_compare.cls = RX1 ∧ yX1_compare.cls ≠ "java/lang/invoke/MethodHandle" ∧ yX1_compare.cls ≠ "java/lang/invoke/VarHandle" ∧ (parseMethodDescriptor yX1_compare.desc).map (fun d => d.parameters.length) = some 2 := by decide +kernel
noncomputable def JX1_compare_22 (F : Nat) (σ : mS) (v1 : Int32) (v2 : Int32) (t1 : Int32) : Option (Int32 × mS) := bnd (fX1_says F σ t1) (fun r5 σ4 => cIf (r5 = 0) (some (0, σ4)) (ck (vp_in v1 24) (nmd (m_root σ4 v1.toNatClampNeg) (fun x8 => bnd (fX1_goOver F σ4 x8) (fun r10 σ9 => cIf (r10 = 0) (nmd (m_s_thrown σ9 2) (fun σ12 => some (0, σ12))) (ck (vp_in v2 24) (nmd (m_root σ9 v2.toNatClampNeg) (fun x14 => bnd (fX1_goOver F σ9 x14) (fun r16 σ15 => cIf (r16 = 0) (nmd (m_s_thrown σ15 2) (fun σ24 => some (0, σ24))) (ck (vp_in v1 24) (nmd (m_root σ15 v1.toNatClampNeg) (fun x19 => ck (vp_in v2 24) (nmd (m_root σ15 v2.toNatClampNeg) (fun x21 => bnd (fX1_order F σ15 x19 x21) (fun r23 σ22 => some (r23, σ22))))))))))))))))
noncomputable def JX1_compare_21 (F : Nat) (σ : mS) (v1 : Int32) (v2 : Int32) : Option (Int32 × mS) := JX1_compare_22 F σ v1 v2 0
noncomputable def fX1_compare (F : Nat) (σ : mS) (p1 : Int32) (p2 : Int32) : Option (Int32 × mS) := bnd (fX1_isText F σ p1) (fun r2 σ1 => cIf (r2 = 0) (JX1_compare_21 F σ1 p1 p2) (bnd (fX1_isText F σ1 p2) (fun r26 σ25 => cIf (r26 = 0) (JX1_compare_21 F σ25 p1 p2) (JX1_compare_22 F σ25 p1 p2 1))))
set_option maxHeartbeats 4000000 in
set_option maxRecDepth 100000 in
theorem jX1_compare_22 {p : Program} {l : Launch} {e : Env} {s : State} {m : MethodId} {args : Array Value} {below : List Frame} {meth : Method} {c : Code} {A : Nat → Prop} {G : gT} {h0 : Nat} {h : (Nat → Nat)} {F : Nat} (S : CallFix p m c cX1_compare 3 s args wsX1_compare RX1) (hr : meth.sig.returnType = some .int) (hlocks : meth.locks = false) (hin : ∀ w ∈ wsX10, w ∈ wsX1_compare) (hK : gK G s) (hA : ∀ q, s.heap.size ≤ q → A q) {res : (Int32 × mS)} (σ : mS) (v1 : Int32) (v2 : Int32) (t1 : Int32) (H : Heap) (locs : List Loc) (ls : Array Slot) (hg : JX1_compare_22 F σ v1 v2 t1 = some res) (hI : mI s A G h0 h σ H locs) (hl : lv_has ls 3 [(0, .ref h0), (1, .int v1), (2, .int v2)]) : W p l e rX1_compare s m args below meth c H locs 0 0 (MQ below (mQi G h0 h res.1 res.2 A) args s 0 0 A) (F0 m 22 ls [.int t1, .ref h0]) := by
  have hx := S.1
  have hb := S.2.1
  have hts := S.2.2.2.2
  have hown := S.2.2.2.1
  unfold JX1_compare_22 at hg
  obtain ⟨r5, σ4, er5, hg⟩ := bnd_e hg
  refine mc_i S hK hA hI (As := [.int t1]) (rest := []) (kX1_says l G h0 h H.size F σ t1  r5 σ4 er5) (cwV 1 hts gX1_compare_X1_says rfl rfl rfl nX1_says ⟨Nat.le_of_ble_eq_true rfl, Nat.le_of_ble_eq_true rfl⟩) rfl hl.1 rfl (Nat.le_of_ble_eq_true rfl) dX1_compare_22 ⟨Nat.le_refl _, Nat.le_refl _⟩ (fun H locs hI => ?_)
  refine lv_if_ne (tgt := 30) hx hb dX1_compare_25 (by decide) (fun c6 => ?_) (fun c6 => ?_)
  · have hg := cIf_fe c6 hg
    refine lv_aload_n hx hb dX1_compare_30 rfl (lv_at hl 0 rfl) ?_
    refine lv_aload_n hx hb dX1_compare_31 rfl (lv_at hl 0 rfl) ?_
    refine mg_root S hin hK hI (ix := 9) (by decide +kernel) dX1_compare_32 ?_
    refine lv_iload_n hx hb dX1_compare_35 rfl (lv_at hl 1 rfl) ?_
    obtain ⟨c7, hg⟩ := ck_e hg
    obtain ⟨x8, ex8, hg⟩ := nmd_e hg
    refine mr_root S hK hI c7 ex8 dX1_compare_36 ?_
    obtain ⟨r10, σ9, er10, hg⟩ := bnd_e hg
    refine mc_i S hK hA hI (As := [.int x8]) (rest := []) (kX1_goOver l G h0 h H.size F σ4 x8  r10 σ9 er10) (cwV 1 hts gX1_compare_X1_goOver rfl rfl rfl nX1_goOver ⟨Nat.le_of_ble_eq_true rfl, Nat.le_of_ble_eq_true rfl⟩) rfl hl.1 rfl (Nat.le_of_ble_eq_true rfl) dX1_compare_37 ⟨Nat.le_refl _, Nat.le_refl _⟩ (fun H locs hI => ?_)
    refine lv_if_eq (tgt := 56) hx hb dX1_compare_40 (by decide) (fun c11 => ?_) (fun c11 => ?_)
    · have hg := cIf_te c11 hg
      refine lv_aload_n hx hb dX1_compare_56 rfl (lv_at hl 0 rfl) ?_
      refine lv_iconst (v := 2) hx hb dX1_compare_57 (by decide) ?_
      obtain ⟨σ12, eσ12, hg⟩ := nmd_e hg
      refine mp_thrown S hin hK hI (ix := 73) (by decide +kernel) eσ12 dX1_compare_58 (fun H locs hI => ?_)
      refine lv_iconst (v := 0) hx hb dX1_compare_61 (by decide) ?_
      exact me_i S hr hlocks hK hI hg dX1_compare_62
    · have hg := cIf_fe c11 hg
      refine lv_aload_n hx hb dX1_compare_43 rfl (lv_at hl 0 rfl) ?_
      refine lv_aload_n hx hb dX1_compare_44 rfl (lv_at hl 0 rfl) ?_
      refine mg_root S hin hK hI (ix := 9) (by decide +kernel) dX1_compare_45 ?_
      refine lv_iload_n hx hb dX1_compare_48 rfl (lv_at hl 2 rfl) ?_
      obtain ⟨c13, hg⟩ := ck_e hg
      obtain ⟨x14, ex14, hg⟩ := nmd_e hg
      refine mr_root S hK hI c13 ex14 dX1_compare_49 ?_
      obtain ⟨r16, σ15, er16, hg⟩ := bnd_e hg
      refine mc_i S hK hA hI (As := [.int x14]) (rest := []) (kX1_goOver l G h0 h H.size F σ9 x14  r16 σ15 er16) (cwV 1 hts gX1_compare_X1_goOver rfl rfl rfl nX1_goOver ⟨Nat.le_of_ble_eq_true rfl, Nat.le_of_ble_eq_true rfl⟩) rfl hl.1 rfl (Nat.le_of_ble_eq_true rfl) dX1_compare_50 ⟨Nat.le_refl _, Nat.le_refl _⟩ (fun H locs hI => ?_)
      refine lv_if_ne (tgt := 63) hx hb dX1_compare_53 (by decide) (fun c17 => ?_) (fun c17 => ?_)
      · have hg := cIf_fe c17 hg
        refine lv_aload_n hx hb dX1_compare_63 rfl (lv_at hl 0 rfl) ?_
        refine lv_aload_n hx hb dX1_compare_64 rfl (lv_at hl 0 rfl) ?_
        refine mg_root S hin hK hI (ix := 9) (by decide +kernel) dX1_compare_65 ?_
        refine lv_iload_n hx hb dX1_compare_68 rfl (lv_at hl 1 rfl) ?_
        obtain ⟨c18, hg⟩ := ck_e hg
        obtain ⟨x19, ex19, hg⟩ := nmd_e hg
        refine mr_root S hK hI c18 ex19 dX1_compare_69 ?_
        refine lv_aload_n hx hb dX1_compare_70 rfl (lv_at hl 0 rfl) ?_
        refine mg_root S hin hK hI (ix := 9) (by decide +kernel) dX1_compare_71 ?_
        refine lv_iload_n hx hb dX1_compare_74 rfl (lv_at hl 2 rfl) ?_
        obtain ⟨c20, hg⟩ := ck_e hg
        obtain ⟨x21, ex21, hg⟩ := nmd_e hg
        refine mr_root S hK hI c20 ex21 dX1_compare_75 ?_
        obtain ⟨r23, σ22, er23, hg⟩ := bnd_e hg
        refine mc_i S hK hA hI (As := [.int x19, .int x21]) (rest := []) (kX1_order l G h0 h H.size F σ15 x19 x21  r23 σ22 er23) (cwV 2 hts gX1_compare_X1_order rfl rfl rfl nX1_order ⟨Nat.le_of_ble_eq_true rfl, Nat.le_of_ble_eq_true rfl⟩) rfl hl.1 rfl (Nat.le_of_ble_eq_true rfl) dX1_compare_76 ⟨Nat.le_refl _, Nat.le_refl _⟩ (fun H locs hI => ?_)
        exact me_i S hr hlocks hK hI hg dX1_compare_79
      · have hg := cIf_te c17 hg
        refine lv_aload_n hx hb dX1_compare_56 rfl (lv_at hl 0 rfl) ?_
        refine lv_iconst (v := 2) hx hb dX1_compare_57 (by decide) ?_
        obtain ⟨σ24, eσ24, hg⟩ := nmd_e hg
        refine mp_thrown S hin hK hI (ix := 73) (by decide +kernel) eσ24 dX1_compare_58 (fun H locs hI => ?_)
        refine lv_iconst (v := 0) hx hb dX1_compare_61 (by decide) ?_
        exact me_i S hr hlocks hK hI hg dX1_compare_62
  · have hg := cIf_te c6 hg
    refine lv_iconst (v := 0) hx hb dX1_compare_28 (by decide) ?_
    exact me_i S hr hlocks hK hI hg dX1_compare_29
set_option maxHeartbeats 4000000 in
set_option maxRecDepth 100000 in
theorem jX1_compare_21 {p : Program} {l : Launch} {e : Env} {s : State} {m : MethodId} {args : Array Value} {below : List Frame} {meth : Method} {c : Code} {A : Nat → Prop} {G : gT} {h0 : Nat} {h : (Nat → Nat)} {F : Nat} (S : CallFix p m c cX1_compare 3 s args wsX1_compare RX1) (hr : meth.sig.returnType = some .int) (hlocks : meth.locks = false) (hin : ∀ w ∈ wsX10, w ∈ wsX1_compare) (hK : gK G s) (hA : ∀ q, s.heap.size ≤ q → A q) {res : (Int32 × mS)} (σ : mS) (v1 : Int32) (v2 : Int32) (H : Heap) (locs : List Loc) (ls : Array Slot) (hg : JX1_compare_21 F σ v1 v2 = some res) (hI : mI s A G h0 h σ H locs) (hl : lv_has ls 3 [(0, .ref h0), (1, .int v1), (2, .int v2)]) : W p l e rX1_compare s m args below meth c H locs 0 0 (MQ below (mQi G h0 h res.1 res.2 A) args s 0 0 A) (F0 m 21 ls [.ref h0]) := by
  have hx := S.1
  have hb := S.2.1
  have hts := S.2.2.2.2
  have hown := S.2.2.2.1
  unfold JX1_compare_21 at hg
  refine lv_iconst (v := 0) hx hb dX1_compare_21 (by decide) ?_
  exact jX1_compare_22 S hr hlocks hin hK hA σ v1 v2 0 H locs ls hg hI (lv_sub hl [0, 1, 2] rfl)
set_option maxHeartbeats 4000000 in
set_option maxRecDepth 100000 in
theorem kX1_compare (l : Launch) (G : gT) (h0 : Nat) (h : (Nat → Nat)) (sz F : Nat) (σ : mS) (p1 : Int32) (p2 : Int32) (r : Int32) (σr : mS) (hg : fX1_compare F σ p1 p2 = some (r, σr)) : Met l yX1_compare wsX1_compare rX1_compare (mPre G h0 h σ sz [.int p1, .int p2]) (mQi G h0 h r σr (mA G h0 h σ sz)) 0 0 (mA G h0 h σ sz) := by
  refine mMet (Qc := mQi G h0 h r σr) (by decide +kernel) rfl rfl (Nat.le_of_ble_eq_true rfl) ?_
  intro p e s m args below meth c A S hr hlocks hK hA H locs hI ls hl
  have hl : lv_has ls 3 [(0, .ref h0), (1, .int p1), (2, .int p2)] := hl
  have hin : ∀ w ∈ wsX10, w ∈ wsX1_compare := by decide +kernel
  have hx := S.1
  have hb := S.2.1
  have hts := S.2.2.2.2
  have hown := S.2.2.2.1
  unfold fX1_compare at hg
  refine lv_aload_n hx hb dX1_compare_0 rfl (lv_at hl 0 rfl) ?_
  refine lv_aload_n hx hb dX1_compare_1 rfl (lv_at hl 0 rfl) ?_
  refine lv_iload_n hx hb dX1_compare_2 rfl (lv_at hl 1 rfl) ?_
  obtain ⟨r2, σ1, er2, hg⟩ := bnd_e hg
  refine mc_i S hK hA hI (As := [.int p1]) (rest := [.ref h0]) (kX1_isText l G h0 h H.size F σ p1  r2 σ1 er2) (cwV 1 hts gX1_compare_X1_isText rfl rfl rfl nX1_isText ⟨Nat.le_of_ble_eq_true rfl, Nat.le_of_ble_eq_true rfl⟩) rfl hl.1 rfl (Nat.le_of_ble_eq_true rfl) dX1_compare_3 ⟨Nat.le_refl _, Nat.le_refl _⟩ (fun H locs hI => ?_)
  refine lv_if_eq (tgt := 21) hx hb dX1_compare_6 (by decide) (fun c3 => ?_) (fun c3 => ?_)
  · have hg := cIf_te c3 hg
    exact jX1_compare_21 S hr hlocks hin hK hA σ1 p1 p2 H locs ls hg hI (lv_sub hl [0, 1, 2] rfl)
  · have hg := cIf_fe c3 hg
    refine lv_aload_n hx hb dX1_compare_9 rfl (lv_at hl 0 rfl) ?_
    refine lv_iload_n hx hb dX1_compare_10 rfl (lv_at hl 2 rfl) ?_
    obtain ⟨r26, σ25, er26, hg⟩ := bnd_e hg
    refine mc_i S hK hA hI (As := [.int p2]) (rest := [.ref h0]) (kX1_isText l G h0 h H.size F σ1 p2  r26 σ25 er26) (cwV 1 hts gX1_compare_X1_isText rfl rfl rfl nX1_isText ⟨Nat.le_of_ble_eq_true rfl, Nat.le_of_ble_eq_true rfl⟩) rfl hl.1 rfl (Nat.le_of_ble_eq_true rfl) dX1_compare_11 ⟨Nat.le_refl _, Nat.le_refl _⟩ (fun H locs hI => ?_)
    refine lv_if_eq (tgt := 21) hx hb dX1_compare_14 (by decide) (fun c27 => ?_) (fun c27 => ?_)
    · have hg := cIf_te c27 hg
      exact jX1_compare_21 S hr hlocks hin hK hA σ25 p1 p2 H locs ls hg hI (lv_sub hl [0, 1, 2] rfl)
    · have hg := cIf_fe c27 hg
      refine lv_iconst (v := 1) hx hb dX1_compare_17 (by decide) ?_
      refine lv_goto (tgt := 22) hx hb dX1_compare_18 (by decide) ?_
      exact jX1_compare_22 S hr hlocks hin hK hA σ25 p1 p2 1 H locs ls hg hI (lv_sub hl [0, 1, 2] rfl)
-- OwnMemoryModel.find
abbrev rX1_find : Room := { frames := 2, cells := 0, slots := 0, locals := 50 }
theorem nX1_find : yX1_find.cls = RX1 ∧ yX1_find.cls ≠ "java/lang/invoke/MethodHandle" ∧ yX1_find.cls ≠ "java/lang/invoke/VarHandle" ∧ (parseMethodDescriptor yX1_find.desc).map (fun d => d.parameters.length) = some 1 := by decide +kernel
noncomputable def LX1_find_6 (F : Nat) (K : Int32 → mS → Option (Int32 × mS)) (v1 : Int32) : Nat → Int32 → mS → Option (Int32 × mS)
  | 0, _, _ => none
  | n + 1, v2, σ => cIf ((m_objects σ) ≤ v2) (K v2 σ) (ck (vp_in v2 4096) (nmd (m_there σ v2.toNatClampNeg) (fun x4 => cIf (x4 = 0) (nmd (v2 + 1) (fun x6 => LX1_find_6 F K v1 n x6 σ)) (ck (vp_in v2 4096) (nmd (m_kind σ v2.toNatClampNeg) (fun x8 => cIf (x8 = 5) (ck (vp_in v2 4096) (nmd (m_length σ v2.toNatClampNeg) (fun x12 => ck (vp_in v1 4096) (nmd (m_length σ v1.toNatClampNeg) (fun x14 => cIf (x12 = x14) (bnd (fX1_order F σ v2 v1) (fun r18 σ17 => cIf (r18 = 0) (some (v2, σ17)) (nmd (v2 + 1) (fun x20 => LX1_find_6 F K v1 n x20 σ17)))) (nmd (v2 + 1) (fun x16 => LX1_find_6 F K v1 n x16 σ))))))) (nmd (v2 + 1) (fun x10 => LX1_find_6 F K v1 n x10 σ))))))))
noncomputable def fX1_find (F : Nat) (σ : mS) (p1 : Int32) : Option (Int32 × mS) := bnp (fX1_look F σ ) (fun σ1 => LX1_find_6 F (fun w21 σ22 => some (0, σ22)) p1 F 1 σ1)
set_option maxHeartbeats 4000000 in
set_option maxRecDepth 100000 in
theorem lX1_find_6 {p : Program} {l : Launch} {e : Env} {s : State} {m : MethodId} {args : Array Value} {below : List Frame} {meth : Method} {c : Code} {A : Nat → Prop} {G : gT} {h0 : Nat} {h : (Nat → Nat)} {F : Nat} (S : CallFix p m c cX1_find 3 s args wsX1_find RX1) (hr : meth.sig.returnType = some .int) (hlocks : meth.locks = false) (hin : ∀ w ∈ wsX10, w ∈ wsX1_find) (hK : gK G s) (hA : ∀ q, s.heap.size ≤ q → A q) {K : Int32 → mS → Option (Int32 × mS)} {res : (Int32 × mS)} (v1 : Int32) (n : Nat) : ∀ (v2 : Int32) (σ : mS) (H : Heap) (locs : List Loc) (ls : Array Slot), LX1_find_6 F K v1 n v2 σ = some res → mI s A G h0 h σ H locs → lv_has ls 3 [(0, .ref h0), (1, .int v1), (2, .int v2)] → (∀ (v2 : Int32) (σ : mS) (H : Heap) (locs : List Loc) (ls : Array Slot), K v2 σ = some res → mI s A G h0 h σ H locs → lv_has ls 3 [(0, .ref h0), (1, .int v1), (2, .int v2)] → W p l e rX1_find s m args below meth c H locs 0 0 (MQ below (mQi G h0 h res.1 res.2 A) args s 0 0 A) (F0 m 65 ls [])) → W p l e rX1_find s m args below meth c H locs 0 0 (MQ below (mQi G h0 h res.1 res.2 A) args s 0 0 A) (F0 m 6 ls []) := by
  have hx := S.1
  have hb := S.2.1
  have hts := S.2.2.2.2
  have hown := S.2.2.2.1
  induction n with
  | zero => intro v2 σ H locs ls hg; rw [LX1_find_6] at hg; cases hg
  | succ n ih =>
    intro v2 σ H locs ls hg hI hl kk
    rw [LX1_find_6] at hg
    refine lv_iload_n hx hb dX1_find_6 rfl (lv_at hl 2 rfl) ?_
    refine lv_aload_n hx hb dX1_find_7 rfl (lv_at hl 0 rfl) ?_
    refine mg_objects S hin hK hI (ix := 13) (by decide +kernel) dX1_find_8 ?_
    refine lv_icmp_ge (tgt := 65) hx hb dX1_find_11 (by decide) (fun c2 => ?_) (fun c2 => ?_)
    · have hg := cIf_te c2 hg
      exact kk v2 σ H locs ls hg hI (lv_sub hl [0, 1, 2] rfl)
    · have hg := cIf_fe c2 hg
      refine lv_aload_n hx hb dX1_find_14 rfl (lv_at hl 0 rfl) ?_
      refine mg_there S hin hK hI (ix := 62) (by decide +kernel) dX1_find_15 ?_
      refine lv_iload_n hx hb dX1_find_18 rfl (lv_at hl 2 rfl) ?_
      obtain ⟨c3, hg⟩ := ck_e hg
      obtain ⟨x4, ex4, hg⟩ := nmd_e hg
      refine mr_there S hK hI c3 ex4 dX1_find_19 ?_
      refine lv_if_eq (tgt := 59) hx hb dX1_find_20 (by decide) (fun c5 => ?_) (fun c5 => ?_)
      · have hg := cIf_te c5 hg
        obtain ⟨x6, ex6, hg⟩ := nmd_e hg
        refine lv_iinc (v := x6) (lv' := [(2, .int x6), (0, .ref h0), (1, .int v1)]) hx hb dX1_find_59 hl (k := 2) rfl (by rw [ex6]; rfl) (by decide) rfl (fun ls hl => ?_)
        refine lv_goto (tgt := 6) hx hb dX1_find_62 (by decide) ?_
        exact ih x6 σ H locs ls hg hI (lv_sub hl [1, 2, 0] rfl) kk
      · have hg := cIf_fe c5 hg
        refine lv_aload_n hx hb dX1_find_23 rfl (lv_at hl 0 rfl) ?_
        refine mg_kind S hin hK hI (ix := 17) (by decide +kernel) dX1_find_24 ?_
        refine lv_iload_n hx hb dX1_find_27 rfl (lv_at hl 2 rfl) ?_
        obtain ⟨c7, hg⟩ := ck_e hg
        obtain ⟨x8, ex8, hg⟩ := nmd_e hg
        refine mr_kind S hK hI c7 ex8 dX1_find_28 ?_
        refine lv_iconst (v := 5) hx hb dX1_find_29 (by decide) ?_
        refine lv_icmp_ne (tgt := 59) hx hb dX1_find_30 (by decide) (fun c9 => ?_) (fun c9 => ?_)
        · have hg := cIf_fe c9 hg
          obtain ⟨x10, ex10, hg⟩ := nmd_e hg
          refine lv_iinc (v := x10) (lv' := [(2, .int x10), (0, .ref h0), (1, .int v1)]) hx hb dX1_find_59 hl (k := 2) rfl (by rw [ex10]; rfl) (by decide) rfl (fun ls hl => ?_)
          refine lv_goto (tgt := 6) hx hb dX1_find_62 (by decide) ?_
          exact ih x10 σ H locs ls hg hI (lv_sub hl [1, 2, 0] rfl) kk
        · have hg := cIf_te c9 hg
          refine lv_aload_n hx hb dX1_find_33 rfl (lv_at hl 0 rfl) ?_
          refine mg_length S hin hK hI (ix := 44) (by decide +kernel) dX1_find_34 ?_
          refine lv_iload_n hx hb dX1_find_37 rfl (lv_at hl 2 rfl) ?_
          obtain ⟨c11, hg⟩ := ck_e hg
          obtain ⟨x12, ex12, hg⟩ := nmd_e hg
          refine mr_length S hK hI c11 ex12 dX1_find_38 ?_
          refine lv_aload_n hx hb dX1_find_39 rfl (lv_at hl 0 rfl) ?_
          refine mg_length S hin hK hI (ix := 44) (by decide +kernel) dX1_find_40 ?_
          refine lv_iload_n hx hb dX1_find_43 rfl (lv_at hl 1 rfl) ?_
          obtain ⟨c13, hg⟩ := ck_e hg
          obtain ⟨x14, ex14, hg⟩ := nmd_e hg
          refine mr_length S hK hI c13 ex14 dX1_find_44 ?_
          refine lv_icmp_ne (tgt := 59) hx hb dX1_find_45 (by decide) (fun c15 => ?_) (fun c15 => ?_)
          · have hg := cIf_fe c15 hg
            obtain ⟨x16, ex16, hg⟩ := nmd_e hg
            refine lv_iinc (v := x16) (lv' := [(2, .int x16), (0, .ref h0), (1, .int v1)]) hx hb dX1_find_59 hl (k := 2) rfl (by rw [ex16]; rfl) (by decide) rfl (fun ls hl => ?_)
            refine lv_goto (tgt := 6) hx hb dX1_find_62 (by decide) ?_
            exact ih x16 σ H locs ls hg hI (lv_sub hl [1, 2, 0] rfl) kk
          · have hg := cIf_te c15 hg
            refine lv_aload_n hx hb dX1_find_48 rfl (lv_at hl 0 rfl) ?_
            refine lv_iload_n hx hb dX1_find_49 rfl (lv_at hl 2 rfl) ?_
            refine lv_iload_n hx hb dX1_find_50 rfl (lv_at hl 1 rfl) ?_
            obtain ⟨r18, σ17, er18, hg⟩ := bnd_e hg
            refine mc_i S hK hA hI (As := [.int v2, .int v1]) (rest := []) (kX1_order l G h0 h H.size F σ v2 v1  r18 σ17 er18) (cwV 2 hts gX1_find_X1_order rfl rfl rfl nX1_order ⟨Nat.le_of_ble_eq_true rfl, Nat.le_of_ble_eq_true rfl⟩) rfl hl.1 rfl (Nat.le_of_ble_eq_true rfl) dX1_find_51 ⟨Nat.le_refl _, Nat.le_refl _⟩ (fun H locs hI => ?_)
            refine lv_if_ne (tgt := 59) hx hb dX1_find_54 (by decide) (fun c19 => ?_) (fun c19 => ?_)
            · have hg := cIf_fe c19 hg
              obtain ⟨x20, ex20, hg⟩ := nmd_e hg
              refine lv_iinc (v := x20) (lv' := [(2, .int x20), (0, .ref h0), (1, .int v1)]) hx hb dX1_find_59 hl (k := 2) rfl (by rw [ex20]; rfl) (by decide) rfl (fun ls hl => ?_)
              refine lv_goto (tgt := 6) hx hb dX1_find_62 (by decide) ?_
              exact ih x20 σ17 H locs ls hg hI (lv_sub hl [1, 2, 0] rfl) kk
            · have hg := cIf_te c19 hg
              refine lv_iload_n hx hb dX1_find_57 rfl (lv_at hl 2 rfl) ?_
              exact me_i S hr hlocks hK hI hg dX1_find_58
set_option maxHeartbeats 4000000 in
set_option maxRecDepth 100000 in
theorem kX1_find (l : Launch) (G : gT) (h0 : Nat) (h : (Nat → Nat)) (sz F : Nat) (σ : mS) (p1 : Int32) (r : Int32) (σr : mS) (hg : fX1_find F σ p1 = some (r, σr)) : Met l yX1_find wsX1_find rX1_find (mPre G h0 h σ sz [.int p1]) (mQi G h0 h r σr (mA G h0 h σ sz)) 0 0 (mA G h0 h σ sz) := by
  refine mMet (Qc := mQi G h0 h r σr) (by decide +kernel) rfl rfl (Nat.le_of_ble_eq_true rfl) ?_
  intro p e s m args below meth c A S hr hlocks hK hA H locs hI ls hl
  have hl : lv_has ls 3 [(0, .ref h0), (1, .int p1)] := hl
  have hin : ∀ w ∈ wsX10, w ∈ wsX1_find := by decide +kernel
  have hx := S.1
  have hb := S.2.1
  have hts := S.2.2.2.2
  have hown := S.2.2.2.1
  unfold fX1_find at hg
  refine lv_aload_n hx hb dX1_find_0 rfl (lv_at hl 0 rfl) ?_
  obtain ⟨σ1, eσ1, hg⟩ := bnp_e hg
  refine mc_v S hK hA hI (As := []) (rest := []) (kX1_look l G h0 h H.size F σ  σ1 eσ1) (cwV 0 hts gX1_find_X1_look rfl rfl rfl nX1_look ⟨Nat.le_of_ble_eq_true rfl, Nat.le_of_ble_eq_true rfl⟩) rfl hl.1 rfl (Nat.le_of_ble_eq_true rfl) dX1_find_1 ⟨Nat.le_refl _, Nat.le_refl _⟩ (fun H locs hI => ?_)
  refine lv_iconst (v := 1) hx hb dX1_find_4 (by decide) ?_
  refine lv_istore_n (lv' := [(2, .int 1), (0, .ref h0), (1, .int p1)]) hx hb dX1_find_5 rfl hl (by decide) rfl (fun ls hl => ?_)
  refine lX1_find_6 S hr hlocks hin hK hA p1 F 1 σ1 H locs ls hg hI (lv_sub hl [1, 2, 0] rfl) (fun w21 σ22 H locs ls hg hI hl => ?_)
  refine lv_iconst (v := 0) hx hb dX1_find_65 (by decide) ?_
  exact me_i S hr hlocks hK hI hg dX1_find_66
-- OwnMemoryModel.name
abbrev rX1_name : Room := { frames := 6, cells := 0, slots := 0, locals := 136 }
theorem nX1_name : yX1_name.cls = RX1 ∧ yX1_name.cls ≠ "java/lang/invoke/MethodHandle" ∧ yX1_name.cls ≠ "java/lang/invoke/VarHandle" ∧ (parseMethodDescriptor yX1_name.desc).map (fun d => d.parameters.length) = some 2 := by decide +kernel
noncomputable def JX1_name_96 (F : Nat) (σ : mS) (v1 : Int32) (v2 : Int32) (v3 : Int32) (v4 : Int32) : Option mS := cIf (v4 ≤ 0) (some σ) (ck (vp_in v1 24) (nmd (m_s_root σ (upd (m_root σ) v1.toNatClampNeg v4)) (fun σ17 => some σ17)))
noncomputable def JX1_name_70 (F : Nat) (σ : mS) (v1 : Int32) (v2 : Int32) (v3 : Int32) (t0 : Int32) : Option mS := cIf (t0 = 0) (ck (vp_in v3 4096) (nmd (m_length σ v3.toNatClampNeg) (fun x19 => bnd (fX1_partOf F σ 5 v3 0 x19) (fun r21 σ20 => bnd (fX1_full F σ20 r21) (fun r23 σ22 => JX1_name_96 F σ22 v1 v2 v3 r23))))) (JX1_name_96 F σ v1 v2 v3 t0)
noncomputable def JX1_name_21 (F : Nat) (σ : mS) (v1 : Int32) (v2 : Int32) (t1 : Int32) : Option mS := bnd (fX1_says F σ t1) (fun r4 σ3 => cIf (r4 = 0) (some σ3) (ck (vp_in v2 24) (nmd (m_root σ3 v2.toNatClampNeg) (fun x7 => ck (vp_in x7 4096) (nmd (m_kind σ3 x7.toNatClampNeg) (fun x9 => cIf (x9 = 5) (ck (vp_in v1 24) (nmd (m_s_root σ3 (upd (m_root σ3) v1.toNatClampNeg x7)) (fun σ27 => some σ27))) (bnd (fX1_goOver F σ3 x7) (fun r12 σ11 => cIf (r12 = 0) (JX1_name_70 F σ11 v1 v2 x7 0) (bnd (fX1_find F σ11 x7) (fun r25 σ24 => JX1_name_70 F σ24 v1 v2 x7 r25))))))))))
noncomputable def JX1_name_20 (F : Nat) (σ : mS) (v1 : Int32) (v2 : Int32) : Option mS := JX1_name_21 F σ v1 v2 0
noncomputable def fX1_name (F : Nat) (σ : mS) (p1 : Int32) (p2 : Int32) : Option mS := bnp (fX1_isRoot F p1) (fun r1 => cIf (r1 = 0) (JX1_name_20 F σ p1 p2) (bnd (fX1_isText F σ p2) (fun r29 σ28 => cIf (r29 = 0) (JX1_name_20 F σ28 p1 p2) (JX1_name_21 F σ28 p1 p2 1))))
set_option maxHeartbeats 4000000 in
set_option maxRecDepth 100000 in
theorem jX1_name_96 {p : Program} {l : Launch} {e : Env} {s : State} {m : MethodId} {args : Array Value} {below : List Frame} {meth : Method} {c : Code} {A : Nat → Prop} {G : gT} {h0 : Nat} {h : (Nat → Nat)} {F : Nat} (S : CallFix p m c cX1_name 5 s args wsX1_name RX1) (hr : meth.sig.returnType = none) (hlocks : meth.locks = false) (hin : ∀ w ∈ wsX10, w ∈ wsX1_name) (hK : gK G s) (hA : ∀ q, s.heap.size ≤ q → A q) {res : mS} (σ : mS) (v1 : Int32) (v2 : Int32) (v3 : Int32) (v4 : Int32) (H : Heap) (locs : List Loc) (ls : Array Slot) (hg : JX1_name_96 F σ v1 v2 v3 v4 = some res) (hI : mI s A G h0 h σ H locs) (hl : lv_has ls 5 [(0, .ref h0), (1, .int v1), (2, .int v2), (3, .int v3), (4, .int v4)]) : W p l e rX1_name s m args below meth c H locs 0 0 (MQ below (mQv G h0 h res A) args s 0 0 A) (F0 m 96 ls []) := by
  have hx := S.1
  have hb := S.2.1
  have hts := S.2.2.2.2
  have hown := S.2.2.2.1
  unfold JX1_name_96 at hg
  refine lv_iload hx hb dX1_name_96 (lv_at hl 4 rfl) ?_
  refine lv_if_le (tgt := 109) hx hb dX1_name_98 (by decide) (fun c15 => ?_) (fun c15 => ?_)
  · have hg := cIf_te c15 hg
    exact me_v S hr hlocks hK hI hg dX1_name_109
  · have hg := cIf_fe c15 hg
    refine lv_aload_n hx hb dX1_name_101 rfl (lv_at hl 0 rfl) ?_
    refine mg_root S hin hK hI (ix := 9) (by decide +kernel) dX1_name_102 ?_
    refine lv_iload_n hx hb dX1_name_105 rfl (lv_at hl 1 rfl) ?_
    refine lv_iload hx hb dX1_name_106 (lv_at hl 4 rfl) ?_
    obtain ⟨c16, hg⟩ := ck_e hg
    obtain ⟨σ17, eσ17, hg⟩ := nmd_e hg
    refine mu_root S hK hI c16 eσ17 dX1_name_108 (fun H locs hI => ?_)
    exact me_v S hr hlocks hK hI hg dX1_name_109
set_option maxHeartbeats 4000000 in
set_option maxRecDepth 100000 in
theorem jX1_name_70 {p : Program} {l : Launch} {e : Env} {s : State} {m : MethodId} {args : Array Value} {below : List Frame} {meth : Method} {c : Code} {A : Nat → Prop} {G : gT} {h0 : Nat} {h : (Nat → Nat)} {F : Nat} (S : CallFix p m c cX1_name 5 s args wsX1_name RX1) (hr : meth.sig.returnType = none) (hlocks : meth.locks = false) (hin : ∀ w ∈ wsX10, w ∈ wsX1_name) (hK : gK G s) (hA : ∀ q, s.heap.size ≤ q → A q) {res : mS} (σ : mS) (v1 : Int32) (v2 : Int32) (v3 : Int32) (t0 : Int32) (H : Heap) (locs : List Loc) (ls : Array Slot) (hg : JX1_name_70 F σ v1 v2 v3 t0 = some res) (hI : mI s A G h0 h σ H locs) (hl : lv_has ls 5 [(0, .ref h0), (1, .int v1), (2, .int v2), (3, .int v3)]) : W p l e rX1_name s m args below meth c H locs 0 0 (MQ below (mQv G h0 h res A) args s 0 0 A) (F0 m 70 ls [.int t0]) := by
  have hx := S.1
  have hb := S.2.1
  have hts := S.2.2.2.2
  have hown := S.2.2.2.1
  unfold JX1_name_70 at hg
  refine lv_istore (lv' := [(4, .int t0), (0, .ref h0), (1, .int v1), (2, .int v2), (3, .int v3)]) hx hb dX1_name_70 hl (by decide) rfl (fun ls hl => ?_)
  refine lv_iload hx hb dX1_name_72 (lv_at hl 0 rfl) ?_
  refine lv_if_ne (tgt := 96) hx hb dX1_name_74 (by decide) (fun c14 => ?_) (fun c14 => ?_)
  · have hg := cIf_fe c14 hg
    exact jX1_name_96 S hr hlocks hin hK hA σ v1 v2 v3 t0 H locs ls hg hI (lv_sub hl [1, 2, 3, 4, 0] rfl)
  · have hg := cIf_te c14 hg
    refine lv_aload_n hx hb dX1_name_77 rfl (lv_at hl 1 rfl) ?_
    refine lv_aload_n hx hb dX1_name_78 rfl (lv_at hl 1 rfl) ?_
    refine lv_iconst (v := 5) hx hb dX1_name_79 (by decide) ?_
    refine lv_iload_n hx hb dX1_name_80 rfl (lv_at hl 4 rfl) ?_
    refine lv_iconst (v := 0) hx hb dX1_name_81 (by decide) ?_
    refine lv_aload_n hx hb dX1_name_82 rfl (lv_at hl 1 rfl) ?_
    refine mg_length S hin hK hI (ix := 44) (by decide +kernel) dX1_name_83 ?_
    refine lv_iload_n hx hb dX1_name_86 rfl (lv_at hl 4 rfl) ?_
    obtain ⟨c18, hg⟩ := ck_e hg
    obtain ⟨x19, ex19, hg⟩ := nmd_e hg
    refine mr_length S hK hI c18 ex19 dX1_name_87 ?_
    obtain ⟨r21, σ20, er21, hg⟩ := bnd_e hg
    refine mc_i S hK hA hI (As := [.int 5, .int v3, .int 0, .int x19]) (rest := [.ref h0]) (kX1_partOf l G h0 h H.size F σ 5 v3 0 x19  r21 σ20 er21) (cwV 4 hts gX1_name_X1_partOf rfl rfl rfl nX1_partOf ⟨Nat.le_of_ble_eq_true rfl, Nat.le_of_ble_eq_true rfl⟩) rfl hl.1 rfl (Nat.le_of_ble_eq_true rfl) dX1_name_88 ⟨Nat.le_refl _, Nat.le_refl _⟩ (fun H locs hI => ?_)
    obtain ⟨r23, σ22, er23, hg⟩ := bnd_e hg
    refine mc_i S hK hA hI (As := [.int r21]) (rest := []) (kX1_full l G h0 h H.size F σ20 r21  r23 σ22 er23) (cwV 1 hts gX1_name_X1_full rfl rfl rfl nX1_full ⟨Nat.le_of_ble_eq_true rfl, Nat.le_of_ble_eq_true rfl⟩) rfl hl.1 rfl (Nat.le_of_ble_eq_true rfl) dX1_name_91 ⟨Nat.le_refl _, Nat.le_refl _⟩ (fun H locs hI => ?_)
    refine lv_istore (lv' := [(4, .int r23), (0, .ref h0), (1, .int v1), (2, .int v2), (3, .int v3)]) hx hb dX1_name_94 hl (by decide) rfl (fun ls hl => ?_)
    exact jX1_name_96 S hr hlocks hin hK hA σ22 v1 v2 v3 r23 H locs ls hg hI (lv_sub hl [1, 2, 3, 4, 0] rfl)
set_option maxHeartbeats 4000000 in
set_option maxRecDepth 100000 in
theorem jX1_name_21 {p : Program} {l : Launch} {e : Env} {s : State} {m : MethodId} {args : Array Value} {below : List Frame} {meth : Method} {c : Code} {A : Nat → Prop} {G : gT} {h0 : Nat} {h : (Nat → Nat)} {F : Nat} (S : CallFix p m c cX1_name 5 s args wsX1_name RX1) (hr : meth.sig.returnType = none) (hlocks : meth.locks = false) (hin : ∀ w ∈ wsX10, w ∈ wsX1_name) (hK : gK G s) (hA : ∀ q, s.heap.size ≤ q → A q) {res : mS} (σ : mS) (v1 : Int32) (v2 : Int32) (t1 : Int32) (H : Heap) (locs : List Loc) (ls : Array Slot) (hg : JX1_name_21 F σ v1 v2 t1 = some res) (hI : mI s A G h0 h σ H locs) (hl : lv_has ls 5 [(0, .ref h0), (1, .int v1), (2, .int v2)]) : W p l e rX1_name s m args below meth c H locs 0 0 (MQ below (mQv G h0 h res A) args s 0 0 A) (F0 m 21 ls [.int t1, .ref h0]) := by
  have hx := S.1
  have hb := S.2.1
  have hts := S.2.2.2.2
  have hown := S.2.2.2.1
  unfold JX1_name_21 at hg
  obtain ⟨r4, σ3, er4, hg⟩ := bnd_e hg
  refine mc_i S hK hA hI (As := [.int t1]) (rest := []) (kX1_says l G h0 h H.size F σ t1  r4 σ3 er4) (cwV 1 hts gX1_name_X1_says rfl rfl rfl nX1_says ⟨Nat.le_of_ble_eq_true rfl, Nat.le_of_ble_eq_true rfl⟩) rfl hl.1 rfl (Nat.le_of_ble_eq_true rfl) dX1_name_21 ⟨Nat.le_refl _, Nat.le_refl _⟩ (fun H locs hI => ?_)
  refine lv_if_ne (tgt := 28) hx hb dX1_name_24 (by decide) (fun c5 => ?_) (fun c5 => ?_)
  · have hg := cIf_fe c5 hg
    refine lv_aload_n hx hb dX1_name_28 rfl (lv_at hl 0 rfl) ?_
    refine mg_root S hin hK hI (ix := 9) (by decide +kernel) dX1_name_29 ?_
    refine lv_iload_n hx hb dX1_name_32 rfl (lv_at hl 2 rfl) ?_
    obtain ⟨c6, hg⟩ := ck_e hg
    obtain ⟨x7, ex7, hg⟩ := nmd_e hg
    refine mr_root S hK hI c6 ex7 dX1_name_33 ?_
    refine lv_istore_n (lv' := [(3, .int x7), (0, .ref h0), (1, .int v1), (2, .int v2)]) hx hb dX1_name_34 rfl hl (by decide) rfl (fun ls hl => ?_)
    refine lv_aload_n hx hb dX1_name_35 rfl (lv_at hl 1 rfl) ?_
    refine mg_kind S hin hK hI (ix := 17) (by decide +kernel) dX1_name_36 ?_
    refine lv_iload_n hx hb dX1_name_39 rfl (lv_at hl 0 rfl) ?_
    obtain ⟨c8, hg⟩ := ck_e hg
    obtain ⟨x9, ex9, hg⟩ := nmd_e hg
    refine mr_kind S hK hI c8 ex9 dX1_name_40 ?_
    refine lv_iconst (v := 5) hx hb dX1_name_41 (by decide) ?_
    refine lv_icmp_ne (tgt := 53) hx hb dX1_name_42 (by decide) (fun c10 => ?_) (fun c10 => ?_)
    · have hg := cIf_fe c10 hg
      refine lv_aload_n hx hb dX1_name_53 rfl (lv_at hl 1 rfl) ?_
      refine lv_iload_n hx hb dX1_name_54 rfl (lv_at hl 0 rfl) ?_
      obtain ⟨r12, σ11, er12, hg⟩ := bnd_e hg
      refine mc_i S hK hA hI (As := [.int x7]) (rest := []) (kX1_goOver l G h0 h H.size F σ3 x7  r12 σ11 er12) (cwV 1 hts gX1_name_X1_goOver rfl rfl rfl nX1_goOver ⟨Nat.le_of_ble_eq_true rfl, Nat.le_of_ble_eq_true rfl⟩) rfl hl.1 rfl (Nat.le_of_ble_eq_true rfl) dX1_name_55 ⟨Nat.le_refl _, Nat.le_refl _⟩ (fun H locs hI => ?_)
      refine lv_if_eq (tgt := 69) hx hb dX1_name_58 (by decide) (fun c13 => ?_) (fun c13 => ?_)
      · have hg := cIf_te c13 hg
        refine lv_iconst (v := 0) hx hb dX1_name_69 (by decide) ?_
        exact jX1_name_70 S hr hlocks hin hK hA σ11 v1 v2 x7 0 H locs ls hg hI (lv_sub hl [1, 2, 3, 0] rfl)
      · have hg := cIf_fe c13 hg
        refine lv_aload_n hx hb dX1_name_61 rfl (lv_at hl 1 rfl) ?_
        refine lv_iload_n hx hb dX1_name_62 rfl (lv_at hl 0 rfl) ?_
        obtain ⟨r25, σ24, er25, hg⟩ := bnd_e hg
        refine mc_i S hK hA hI (As := [.int x7]) (rest := []) (kX1_find l G h0 h H.size F σ11 x7  r25 σ24 er25) (cwV 1 hts gX1_name_X1_find rfl rfl rfl nX1_find ⟨Nat.le_of_ble_eq_true rfl, Nat.le_of_ble_eq_true rfl⟩) rfl hl.1 rfl (Nat.le_of_ble_eq_true rfl) dX1_name_63 ⟨Nat.le_refl _, Nat.le_refl _⟩ (fun H locs hI => ?_)
        refine lv_goto (tgt := 70) hx hb dX1_name_66 (by decide) ?_
        exact jX1_name_70 S hr hlocks hin hK hA σ24 v1 v2 x7 r25 H locs ls hg hI (lv_sub hl [1, 2, 3, 0] rfl)
    · have hg := cIf_te c10 hg
      refine lv_aload_n hx hb dX1_name_45 rfl (lv_at hl 1 rfl) ?_
      refine mg_root S hin hK hI (ix := 9) (by decide +kernel) dX1_name_46 ?_
      refine lv_iload_n hx hb dX1_name_49 rfl (lv_at hl 2 rfl) ?_
      refine lv_iload_n hx hb dX1_name_50 rfl (lv_at hl 0 rfl) ?_
      obtain ⟨c26, hg⟩ := ck_e hg
      obtain ⟨σ27, eσ27, hg⟩ := nmd_e hg
      refine mu_root S hK hI c26 eσ27 dX1_name_51 (fun H locs hI => ?_)
      exact me_v S hr hlocks hK hI hg dX1_name_52
  · have hg := cIf_te c5 hg
    exact me_v S hr hlocks hK hI hg dX1_name_27
set_option maxHeartbeats 4000000 in
set_option maxRecDepth 100000 in
theorem jX1_name_20 {p : Program} {l : Launch} {e : Env} {s : State} {m : MethodId} {args : Array Value} {below : List Frame} {meth : Method} {c : Code} {A : Nat → Prop} {G : gT} {h0 : Nat} {h : (Nat → Nat)} {F : Nat} (S : CallFix p m c cX1_name 5 s args wsX1_name RX1) (hr : meth.sig.returnType = none) (hlocks : meth.locks = false) (hin : ∀ w ∈ wsX10, w ∈ wsX1_name) (hK : gK G s) (hA : ∀ q, s.heap.size ≤ q → A q) {res : mS} (σ : mS) (v1 : Int32) (v2 : Int32) (H : Heap) (locs : List Loc) (ls : Array Slot) (hg : JX1_name_20 F σ v1 v2 = some res) (hI : mI s A G h0 h σ H locs) (hl : lv_has ls 5 [(0, .ref h0), (1, .int v1), (2, .int v2)]) : W p l e rX1_name s m args below meth c H locs 0 0 (MQ below (mQv G h0 h res A) args s 0 0 A) (F0 m 20 ls [.ref h0]) := by
  have hx := S.1
  have hb := S.2.1
  have hts := S.2.2.2.2
  have hown := S.2.2.2.1
  unfold JX1_name_20 at hg
  refine lv_iconst (v := 0) hx hb dX1_name_20 (by decide) ?_
  exact jX1_name_21 S hr hlocks hin hK hA σ v1 v2 0 H locs ls hg hI (lv_sub hl [0, 1, 2] rfl)
set_option maxHeartbeats 4000000 in
set_option maxRecDepth 100000 in
theorem kX1_name (l : Launch) (G : gT) (h0 : Nat) (h : (Nat → Nat)) (sz F : Nat) (σ : mS) (p1 : Int32) (p2 : Int32) (σr : mS) (hg : fX1_name F σ p1 p2 = some σr) : Met l yX1_name wsX1_name rX1_name (mPre G h0 h σ sz [.int p1, .int p2]) (mQv G h0 h σr (mA G h0 h σ sz)) 0 0 (mA G h0 h σ sz) := by
  refine mMet (Qc := mQv G h0 h σr) (by decide +kernel) rfl rfl (Nat.le_of_ble_eq_true rfl) ?_
  intro p e s m args below meth c A S hr hlocks hK hA H locs hI ls hl
  have hl : lv_has ls 5 [(0, .ref h0), (1, .int p1), (2, .int p2)] := hl
  have hin : ∀ w ∈ wsX10, w ∈ wsX1_name := by decide +kernel
  have hx := S.1
  have hb := S.2.1
  have hts := S.2.2.2.2
  have hown := S.2.2.2.1
  unfold fX1_name at hg
  refine lv_aload_n hx hb dX1_name_0 rfl (lv_at hl 0 rfl) ?_
  refine lv_iload_n hx hb dX1_name_1 rfl (lv_at hl 1 rfl) ?_
  obtain ⟨r1, er1, hg⟩ := bnp_e hg
  refine ms_i S hA hI (As := [.int p1]) (rest := [.ref h0]) (kX1_isRoot l H.size F p1 r1 er1) (va_cwS 1 hts gX1_name_X1_isRoot rfl rfl rfl nX1_isRoot ⟨Nat.le_of_ble_eq_true rfl, Nat.le_of_ble_eq_true rfl⟩) rfl hl.1 rfl (Nat.le_of_ble_eq_true rfl) dX1_name_2 ⟨Nat.le_refl _, Nat.le_refl _⟩ (fun H locs hI => ?_)
  refine lv_if_eq (tgt := 20) hx hb dX1_name_5 (by decide) (fun c2 => ?_) (fun c2 => ?_)
  · have hg := cIf_te c2 hg
    exact jX1_name_20 S hr hlocks hin hK hA σ p1 p2 H locs ls hg hI (lv_sub hl [0, 1, 2] rfl)
  · have hg := cIf_fe c2 hg
    refine lv_aload_n hx hb dX1_name_8 rfl (lv_at hl 0 rfl) ?_
    refine lv_iload_n hx hb dX1_name_9 rfl (lv_at hl 2 rfl) ?_
    obtain ⟨r29, σ28, er29, hg⟩ := bnd_e hg
    refine mc_i S hK hA hI (As := [.int p2]) (rest := [.ref h0]) (kX1_isText l G h0 h H.size F σ p2  r29 σ28 er29) (cwV 1 hts gX1_name_X1_isText rfl rfl rfl nX1_isText ⟨Nat.le_of_ble_eq_true rfl, Nat.le_of_ble_eq_true rfl⟩) rfl hl.1 rfl (Nat.le_of_ble_eq_true rfl) dX1_name_10 ⟨Nat.le_refl _, Nat.le_refl _⟩ (fun H locs hI => ?_)
    refine lv_if_eq (tgt := 20) hx hb dX1_name_13 (by decide) (fun c30 => ?_) (fun c30 => ?_)
    · have hg := cIf_te c30 hg
      exact jX1_name_20 S hr hlocks hin hK hA σ28 p1 p2 H locs ls hg hI (lv_sub hl [0, 1, 2] rfl)
    · have hg := cIf_fe c30 hg
      refine lv_iconst (v := 1) hx hb dX1_name_16 (by decide) ?_
      refine lv_goto (tgt := 21) hx hb dX1_name_17 (by decide) ?_
      exact jX1_name_21 S hr hlocks hin hK hA σ28 p1 p2 1 H locs ls hg hI (lv_sub hl [0, 1, 2] rfl)
