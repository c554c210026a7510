/-! contracts of the methods that may throw -/
-- OwnMemory.needRoot (may throw)
abbrev rX0_needRoot (r : Int32 ⊕ Unit) : Room := { frames := 6, cells := cN r, slots := sN r, locals := 90 }
theorem nX0_needRoot : yX0_needRoot.cls ≠ "java/lang/invoke/MethodHandle" ∧ yX0_needRoot.cls ≠ "java/lang/invoke/VarHandle" ∧ (parseMethodDescriptor yX0_needRoot.desc).map (fun d => d.parameters.length) = some 1 := by decide +kernel
noncomputable def fX0_needRoot (F : Nat) (p1 : Int32) : Option (Int32 ⊕ Unit) := cIf (p1 < 0) (some (.inl 1)) (cIf (p1 < 24) (some (.inr ())) (some (.inl 1)))
set_option maxHeartbeats 4000000 in
set_option maxRecDepth 100000 in
theorem kX0_needRoot (l : Launch) (htr : l.stackTraces = false) (sz F : Nat) (p1 : Int32) (r : Int32 ⊕ Unit) (hg : fX0_needRoot F p1 = some r) : vx_Met l yX0_needRoot wsX0_needRoot (rX0_needRoot r) (sPreX sz [.int p1]) (sXv r sz) (sXX r sz) (cN r) (sN r) (fun q => sz ≤ q) := by
  refine sxMet (Qc := sXv r) (XC := sXX r) (by decide +kernel) rfl rfl (Nat.le_of_ble_eq_true rfl) ?_
  intro p e s m args below meth c S hr hlocks hno hZ H locs hS ls hl
  have hl : lv_has ls 1 [(0, .int p1)] := hl
  have hx := S.1
  have hb := S.2.1
  unfold fX0_needRoot at hg
  refine lv_iload_n hx hb dX0_needRoot_0 rfl (lv_at hl 0 rfl) ?_
  refine lv_if_lt (tgt := 10) hx hb dX0_needRoot_1 (by decide) (fun c1 => ?_) (fun c1 => ?_)
  · have hg := cIf_te c1 hg
    have e1 := sm_e hg
    subst e1
    exact oth1_s S hS hZ hno hlocks htr (is := 162) (tx := "no such root") (by decide +kernel) (by decide +kernel) (by decide +kernel) (by decide +kernel) hl.1 dX0_needRoot_10 dX0_needRoot_13 dX0_needRoot_14 dX0_needRoot_16 dX0_needRoot_19 (Nat.le_of_ble_eq_true rfl) (Nat.le_of_ble_eq_true rfl) (Nat.le_refl _) (Nat.le_refl _) (Nat.le_refl _) (Nat.le_refl _)
  · have hg := cIf_fe c1 hg
    refine lv_iload_n hx hb dX0_needRoot_4 rfl (lv_at hl 0 rfl) ?_
    refine lv_bipush (v := 24) hx hb dX0_needRoot_5 (by decide) ?_
    refine lv_icmp_lt (tgt := 20) hx hb dX0_needRoot_7 (by decide) (fun c2 => ?_) (fun c2 => ?_)
    · have hg := cIf_te c2 hg
      have e1 := sm_e hg
      subst e1
      exact sxe_v S hr hlocks hS dX0_needRoot_20
    · have hg := cIf_fe c2 hg
      have e1 := sm_e hg
      subst e1
      exact oth1_s S hS hZ hno hlocks htr (is := 162) (tx := "no such root") (by decide +kernel) (by decide +kernel) (by decide +kernel) (by decide +kernel) hl.1 dX0_needRoot_10 dX0_needRoot_13 dX0_needRoot_14 dX0_needRoot_16 dX0_needRoot_19 (Nat.le_of_ble_eq_true rfl) (Nat.le_of_ble_eq_true rfl) (Nat.le_refl _) (Nat.le_refl _) (Nat.le_refl _) (Nat.le_refl _)
-- OwnMemory.needText (may throw)
abbrev rX0_needText (C N : Nat) : Room := { frames := 7, cells := C, slots := N, locals := 110 }
theorem nX0_needText : yX0_needText.cls = RX0 ∧ yX0_needText.cls ≠ "java/lang/invoke/MethodHandle" ∧ yX0_needText.cls ≠ "java/lang/invoke/VarHandle" ∧ (parseMethodDescriptor yX0_needText.desc).map (fun d => d.parameters.length) = some 1 := by decide +kernel
noncomputable def fX0_needText (F : Nat) (σ : oS) (p1 : Int32) : xT Unit := bndN (fX0_needRoot F p1) σ (ck (vp_in p1 24) (nmd (o_fr σ p1.toNatClampNeg) (fun x4 => bnd (fX0_kindAt F σ x4) (fun r6 σ5 => cIf (r6 = 0) (some (.inl 1, σ5, 1, 6)) (cIf (r6 = 1) (some (.inl 1, σ5, 1, 6)) (some (.inr (), σ5, 0, 0)))))))
set_option maxHeartbeats 4000000 in
set_option maxRecDepth 100000 in
theorem kX0_needText (l : Launch) (htr : l.stackTraces = false) (G : gT) (h0 : Nat) (h : oH) (sz F : Nat) (σ : oS) (p1 : Int32) (r : Int32 ⊕ Unit) (σr : oS) (C N : Nat) (hg : fX0_needText F σ p1 = some (r, σr, C, N)) : vx_Met l yX0_needText wsX0_needText (rX0_needText C N) (oPreX G h0 h σ sz [.int p1]) (oxv G h0 h r σr (oA G h0 h σ sz)) (oxX G h0 h r σr (oA G h0 h σ sz)) C N (oA G h0 h σ sz) := by
  refine oxMet (Qc := oxv G h0 h r σr) (XC := oxX G h0 h r σr) (by decide +kernel) rfl rfl (Nat.le_of_ble_eq_true rfl) ?_
  intro p e s m args below meth c A S hr hlocks hno hK hA hZ H locs hI ls hl
  have hl : lv_has ls 3 [(0, .ref h0), (1, .int p1)] := hl
  have hin : ∀ w ∈ wsX00, w ∈ wsX0_needText := by decide +kernel
  have hx := S.1
  have hb := S.2.1
  have hts := S.2.2.2.2
  have hown := S.2.2.2.1
  have hC : 0 + C ≤ C := by omega
  have hN : 0 + N ≤ N := by omega
  unfold fX0_needText at hg
  refine lv_iload_n hx hb dX0_needText_0 rfl (lv_at hl 1 rfl) ?_
  rcases bndN_e hg with ⟨e1, hc2, er, eσ, eC, eN⟩ | ⟨hc2, hg⟩
  · subst er; subst eσ
    exact ont_x (mc := 1) (ms := 6) S hK hA hZ hI hno hlocks (As := [.int p1]) (rest := []) (kX0_needRoot l htr H.size F p1 (.inl e1) hc2) (va_cwS 1 hts gX0_needText_X0_needRoot rfl rfl rfl nX0_needRoot ⟨Nat.le_of_ble_eq_true rfl, Nat.le_of_ble_eq_true rfl⟩) rfl hl.1 rfl (Nat.le_of_ble_eq_true rfl) dX0_needText_1 ⟨by show 0 + 1 ≤ C; omega, by show 0 + 6 ≤ N; omega⟩ rfl (by show 0 + 1 ≤ C; omega) (by show 0 + 6 ≤ N; omega)
  · refine onv (mc := 0) (ms := 0) S hA hZ hI (As := [.int p1]) (rest := []) (kX0_needRoot l htr H.size F p1 (.inr ()) hc2) (va_cwS 1 hts gX0_needText_X0_needRoot rfl rfl rfl nX0_needRoot ⟨Nat.le_of_ble_eq_true rfl, Nat.le_of_ble_eq_true rfl⟩) rfl hl.1 rfl (Nat.le_of_ble_eq_true rfl) dX0_needText_1 ⟨by show 0 + 0 ≤ C; omega, by show 0 + 0 ≤ N; omega⟩ (fun H locs hI => ?_)
    refine lv_aload_n hx hb dX0_needText_4 rfl (lv_at hl 0 rfl) ?_
    refine lv_aload_n hx hb dX0_needText_5 rfl (lv_at hl 0 rfl) ?_
    refine og_roots S hin hK hI (ix := 30) (by decide +kernel) dX0_needText_6 ?_
    refine lv_iload_n hx hb dX0_needText_9 rfl (lv_at hl 1 rfl) ?_
    obtain ⟨c3, hg⟩ := ck_e hg
    obtain ⟨x4, ex4, hg⟩ := nmd_e hg
    refine or_roots S hK hI c3 ex4 dX0_needText_10 ?_
    obtain ⟨r6, σ5, er6, hg⟩ := bnd_e hg
    refine oc_i S hK hA hI (As := [.int x4]) (rest := []) (kX0_kindAt l G h0 h H.size F σ x4  r6 σ5 er6) (cwV 1 hts gX0_needText_X0_kindAt rfl rfl rfl nX0_kindAt ⟨Nat.le_of_ble_eq_true rfl, Nat.le_of_ble_eq_true rfl⟩) rfl hl.1 rfl (Nat.le_of_ble_eq_true rfl) dX0_needText_11 ⟨by show (0 + 0) + 0 ≤ C; omega, by show (0 + 0) + 0 ≤ N; omega⟩ (fun H locs hI => ?_)
    refine lv_istore_n (lv' := [(2, .int r6), (0, .ref h0), (1, .int p1)]) hx hb dX0_needText_14 rfl hl (by decide) rfl (fun ls hl => ?_)
    refine lv_iload_n hx hb dX0_needText_15 rfl (lv_at hl 0 rfl) ?_
    refine lv_if_eq (tgt := 24) hx hb dX0_needText_16 (by decide) (fun c7 => ?_) (fun c7 => ?_)
    · have hg := cIf_te c7 hg
      obtain ⟨e1, e2, e3, e4⟩ := x4_e hg
      subst e1; subst e2
      exact oth1_x S hK hZ hI rfl hno hlocks htr (is := 164) (tx := "no text") (by decide +kernel) (by decide +kernel) (by decide +kernel) (by decide +kernel) hl.1 dX0_needText_24 dX0_needText_27 dX0_needText_28 dX0_needText_30 dX0_needText_33 (Nat.le_of_ble_eq_true rfl) (Nat.le_of_ble_eq_true rfl) (by show ((0 + 0) + 0) + 1 ≤ C; omega) (by show ((0 + 0) + 0) + 6 ≤ N; omega) (by omega) (by omega)
    · have hg := cIf_fe c7 hg
      refine lv_iload_n hx hb dX0_needText_19 rfl (lv_at hl 0 rfl) ?_
      refine lv_iconst (v := 1) hx hb dX0_needText_20 (by decide) ?_
      refine lv_icmp_ne (tgt := 34) hx hb dX0_needText_21 (by decide) (fun c8 => ?_) (fun c8 => ?_)
      · have hg := cIf_fe c8 hg
        exact oxe_v S hr hlocks hK hI rfl hg (by omega) (by omega) dX0_needText_34
      · have hg := cIf_te c8 hg
        obtain ⟨e1, e2, e3, e4⟩ := x4_e hg
        subst e1; subst e2
        exact oth1_x S hK hZ hI rfl hno hlocks htr (is := 164) (tx := "no text") (by decide +kernel) (by decide +kernel) (by decide +kernel) (by decide +kernel) hl.1 dX0_needText_24 dX0_needText_27 dX0_needText_28 dX0_needText_30 dX0_needText_33 (Nat.le_of_ble_eq_true rfl) (Nat.le_of_ble_eq_true rfl) (by show ((0 + 0) + 0) + 1 ≤ C; omega) (by show ((0 + 0) + 0) + 6 ≤ N; omega) (by omega) (by omega)
-- OwnMemory.needBlock (may throw)
abbrev rX0_needBlock (C N : Nat) : Room := { frames := 7, cells := C, slots := N, locals := 110 }
theorem nX0_needBlock : yX0_needBlock.cls = RX0 ∧ yX0_needBlock.cls ≠ "java/lang/invoke/MethodHandle" ∧ yX0_needBlock.cls ≠ "java/lang/invoke/VarHandle" ∧ (parseMethodDescriptor yX0_needBlock.desc).map (fun d => d.parameters.length) = some 1 := by decide +kernel
noncomputable def fX0_needBlock (F : Nat) (σ : oS) (p1 : Int32) : xT Int32 := bndN (fX0_needRoot F p1) σ (ck (vp_in p1 24) (nmd (o_fr σ p1.toNatClampNeg) (fun x4 => bnd (fX0_kindAt F σ x4) (fun r6 σ5 => cIf (r6 = 1) (some (.inr x4, σ5, 0, 0)) (some (.inl 1, σ5, 1, 6))))))
set_option maxHeartbeats 4000000 in
set_option maxRecDepth 100000 in
theorem kX0_needBlock (l : Launch) (htr : l.stackTraces = false) (G : gT) (h0 : Nat) (h : oH) (sz F : Nat) (σ : oS) (p1 : Int32) (r : Int32 ⊕ Int32) (σr : oS) (C N : Nat) (hg : fX0_needBlock F σ p1 = some (r, σr, C, N)) : vx_Met l yX0_needBlock wsX0_needBlock (rX0_needBlock C N) (oPreX G h0 h σ sz [.int p1]) (oxi G h0 h r σr (oA G h0 h σ sz)) (oxX G h0 h r σr (oA G h0 h σ sz)) C N (oA G h0 h σ sz) := by
  refine oxMet (Qc := oxi G h0 h r σr) (XC := oxX G h0 h r σr) (by decide +kernel) rfl rfl (Nat.le_of_ble_eq_true rfl) ?_
  intro p e s m args below meth c A S hr hlocks hno hK hA hZ H locs hI ls hl
  have hl : lv_has ls 3 [(0, .ref h0), (1, .int p1)] := hl
  have hin : ∀ w ∈ wsX00, w ∈ wsX0_needBlock := by decide +kernel
  have hx := S.1
  have hb := S.2.1
  have hts := S.2.2.2.2
  have hown := S.2.2.2.1
  have hC : 0 + C ≤ C := by omega
  have hN : 0 + N ≤ N := by omega
  unfold fX0_needBlock at hg
  refine lv_iload_n hx hb dX0_needBlock_0 rfl (lv_at hl 1 rfl) ?_
  rcases bndN_e hg with ⟨e1, hc2, er, eσ, eC, eN⟩ | ⟨hc2, hg⟩
  · subst er; subst eσ
    exact ont_x (mc := 1) (ms := 6) S hK hA hZ hI hno hlocks (As := [.int p1]) (rest := []) (kX0_needRoot l htr H.size F p1 (.inl e1) hc2) (va_cwS 1 hts gX0_needBlock_X0_needRoot rfl rfl rfl nX0_needRoot ⟨Nat.le_of_ble_eq_true rfl, Nat.le_of_ble_eq_true rfl⟩) rfl hl.1 rfl (Nat.le_of_ble_eq_true rfl) dX0_needBlock_1 ⟨by show 0 + 1 ≤ C; omega, by show 0 + 6 ≤ N; omega⟩ rfl (by show 0 + 1 ≤ C; omega) (by show 0 + 6 ≤ N; omega)
  · refine onv (mc := 0) (ms := 0) S hA hZ hI (As := [.int p1]) (rest := []) (kX0_needRoot l htr H.size F p1 (.inr ()) hc2) (va_cwS 1 hts gX0_needBlock_X0_needRoot rfl rfl rfl nX0_needRoot ⟨Nat.le_of_ble_eq_true rfl, Nat.le_of_ble_eq_true rfl⟩) rfl hl.1 rfl (Nat.le_of_ble_eq_true rfl) dX0_needBlock_1 ⟨by show 0 + 0 ≤ C; omega, by show 0 + 0 ≤ N; omega⟩ (fun H locs hI => ?_)
    refine lv_aload_n hx hb dX0_needBlock_4 rfl (lv_at hl 0 rfl) ?_
    refine og_roots S hin hK hI (ix := 30) (by decide +kernel) dX0_needBlock_5 ?_
    refine lv_iload_n hx hb dX0_needBlock_8 rfl (lv_at hl 1 rfl) ?_
    obtain ⟨c3, hg⟩ := ck_e hg
    obtain ⟨x4, ex4, hg⟩ := nmd_e hg
    refine or_roots S hK hI c3 ex4 dX0_needBlock_9 ?_
    refine lv_istore_n (lv' := [(2, .int x4), (0, .ref h0), (1, .int p1)]) hx hb dX0_needBlock_10 rfl hl (by decide) rfl (fun ls hl => ?_)
    refine lv_aload_n hx hb dX0_needBlock_11 rfl (lv_at hl 1 rfl) ?_
    refine lv_iload_n hx hb dX0_needBlock_12 rfl (lv_at hl 0 rfl) ?_
    obtain ⟨r6, σ5, er6, hg⟩ := bnd_e hg
    refine oc_i S hK hA hI (As := [.int x4]) (rest := []) (kX0_kindAt l G h0 h H.size F σ x4  r6 σ5 er6) (cwV 1 hts gX0_needBlock_X0_kindAt rfl rfl rfl nX0_kindAt ⟨Nat.le_of_ble_eq_true rfl, Nat.le_of_ble_eq_true rfl⟩) rfl hl.1 rfl (Nat.le_of_ble_eq_true rfl) dX0_needBlock_13 ⟨by show (0 + 0) + 0 ≤ C; omega, by show (0 + 0) + 0 ≤ N; omega⟩ (fun H locs hI => ?_)
    refine lv_iconst (v := 1) hx hb dX0_needBlock_16 (by decide) ?_
    refine lv_icmp_eq (tgt := 30) hx hb dX0_needBlock_17 (by decide) (fun c7 => ?_) (fun c7 => ?_)
    · have hg := cIf_te c7 hg
      refine lv_iload_n hx hb dX0_needBlock_30 rfl (lv_at hl 0 rfl) ?_
      exact oxe_i S hr hlocks hK hI rfl hg (by omega) (by omega) dX0_needBlock_31
    · have hg := cIf_fe c7 hg
      obtain ⟨e1, e2, e3, e4⟩ := x4_e hg
      subst e1; subst e2
      exact oth1_x S hK hZ hI rfl hno hlocks htr (is := 166) (tx := "no block") (by decide +kernel) (by decide +kernel) (by decide +kernel) (by decide +kernel) hl.1 dX0_needBlock_20 dX0_needBlock_23 dX0_needBlock_24 dX0_needBlock_26 dX0_needBlock_29 (Nat.le_of_ble_eq_true rfl) (Nat.le_of_ble_eq_true rfl) (by show ((0 + 0) + 0) + 1 ≤ C; omega) (by show ((0 + 0) + 0) + 6 ≤ N; omega) (by omega) (by omega)
-- OwnMemory.linkSlot (may throw)
abbrev rX0_linkSlot (C N : Nat) : Room := { frames := 8, cells := C, slots := N, locals := 132 }
theorem nX0_linkSlot : yX0_linkSlot.cls = RX0 ∧ yX0_linkSlot.cls ≠ "java/lang/invoke/MethodHandle" ∧ yX0_linkSlot.cls ≠ "java/lang/invoke/VarHandle" ∧ (parseMethodDescriptor yX0_linkSlot.desc).map (fun d => d.parameters.length) = some 2 := by decide +kernel
noncomputable def fX0_linkSlot (F : Nat) (σ : oS) (p1 : Int32) (p2 : Int32) : xT Int32 := bndX (fX0_needBlock F σ p1) (fun a1 σ1 => cIf (p2 < 0) (some (.inl 1, σ1, 1, 6)) (bnd (fX0_linksAt F σ1 a1) (fun r4 σ3 => cIf (p2 < r4) (some (.inr ((a1 + 3) + p2), σ3, 0, 0)) (some (.inl 1, σ3, 1, 6)))))
set_option maxHeartbeats 4000000 in
set_option maxRecDepth 100000 in
theorem kX0_linkSlot (l : Launch) (htr : l.stackTraces = false) (G : gT) (h0 : Nat) (h : oH) (sz F : Nat) (σ : oS) (p1 : Int32) (p2 : Int32) (r : Int32 ⊕ Int32) (σr : oS) (C N : Nat) (hg : fX0_linkSlot F σ p1 p2 = some (r, σr, C, N)) : vx_Met l yX0_linkSlot wsX0_linkSlot (rX0_linkSlot C N) (oPreX G h0 h σ sz [.int p1, .int p2]) (oxi G h0 h r σr (oA G h0 h σ sz)) (oxX G h0 h r σr (oA G h0 h σ sz)) C N (oA G h0 h σ sz) := by
  refine oxMet (Qc := oxi G h0 h r σr) (XC := oxX G h0 h r σr) (by decide +kernel) rfl rfl (Nat.le_of_ble_eq_true rfl) ?_
  intro p e s m args below meth c A S hr hlocks hno hK hA hZ H locs hI ls hl
  have hl : lv_has ls 4 [(0, .ref h0), (1, .int p1), (2, .int p2)] := hl
  have hin : ∀ w ∈ wsX00, w ∈ wsX0_linkSlot := by decide +kernel
  have hx := S.1
  have hb := S.2.1
  have hts := S.2.2.2.2
  have hown := S.2.2.2.1
  have hC : 0 + C ≤ C := by omega
  have hN : 0 + N ≤ N := by omega
  unfold fX0_linkSlot at hg
  refine lv_aload_n hx hb dX0_linkSlot_0 rfl (lv_at hl 0 rfl) ?_
  refine lv_iload_n hx hb dX0_linkSlot_1 rfl (lv_at hl 1 rfl) ?_
  rcases bndX_e hg with ⟨e1, hc1, er⟩ | ⟨a1, σ1, c1, n1, C1, N1, hc1, hg, eC, eN⟩
  · subst er
    exact oxt_ix S hK hA hZ hI hno hlocks (As := [.int p1]) (rest := []) (kX0_needBlock l htr G h0 h H.size F σ p1 _ _ _ _ hc1) (cwV 1 hts gX0_linkSlot_X0_needBlock rfl rfl rfl nX0_needBlock ⟨Nat.le_of_ble_eq_true rfl, Nat.le_of_ble_eq_true rfl⟩) rfl hl.1 rfl (Nat.le_of_ble_eq_true rfl) dX0_linkSlot_2 ⟨by show 0 + C ≤ C; omega, by show 0 + N ≤ N; omega⟩ rfl (by omega) (by omega)
  · refine oxc_i S hK hA hZ hI (As := [.int p1]) (rest := []) (kX0_needBlock l htr G h0 h H.size F σ p1 _ _ _ _ hc1) (cwV 1 hts gX0_linkSlot_X0_needBlock rfl rfl rfl nX0_needBlock ⟨Nat.le_of_ble_eq_true rfl, Nat.le_of_ble_eq_true rfl⟩) rfl hl.1 rfl (Nat.le_of_ble_eq_true rfl) dX0_linkSlot_2 ⟨by show 0 + c1 ≤ C; omega, by show 0 + n1 ≤ N; omega⟩ (fun H locs hI => ?_)
    have hC : (0 + c1) + C1 ≤ C := by omega
    have hN : (0 + n1) + N1 ≤ N := by omega
    refine lv_istore_n (lv' := [(3, .int a1), (0, .ref h0), (1, .int p1), (2, .int p2)]) hx hb dX0_linkSlot_5 rfl hl (by decide) rfl (fun ls hl => ?_)
    refine lv_iload_n hx hb dX0_linkSlot_6 rfl (lv_at hl 3 rfl) ?_
    refine lv_if_lt (tgt := 19) hx hb dX0_linkSlot_7 (by decide) (fun c2 => ?_) (fun c2 => ?_)
    · have hg := cIf_te c2 hg
      obtain ⟨e1, e2, e3, e4⟩ := x4_e hg
      subst e1; subst e2
      exact oth1_x S hK hZ hI rfl hno hlocks htr (is := 174) (tx := "no such link") (by decide +kernel) (by decide +kernel) (by decide +kernel) (by decide +kernel) hl.1 dX0_linkSlot_19 dX0_linkSlot_22 dX0_linkSlot_23 dX0_linkSlot_25 dX0_linkSlot_28 (Nat.le_of_ble_eq_true rfl) (Nat.le_of_ble_eq_true rfl) (by show (0 + c1) + 1 ≤ C; omega) (by show (0 + n1) + 6 ≤ N; omega) (by omega) (by omega)
    · have hg := cIf_fe c2 hg
      refine lv_iload_n hx hb dX0_linkSlot_10 rfl (lv_at hl 3 rfl) ?_
      refine lv_aload_n hx hb dX0_linkSlot_11 rfl (lv_at hl 1 rfl) ?_
      refine lv_iload_n hx hb dX0_linkSlot_12 rfl (lv_at hl 0 rfl) ?_
      obtain ⟨r4, σ3, er4, hg⟩ := bnd_e hg
      refine oc_i S hK hA hI (As := [.int a1]) (rest := [.int p2]) (kX0_linksAt l G h0 h H.size F σ1 a1  r4 σ3 er4) (cwV 1 hts gX0_linkSlot_X0_linksAt rfl rfl rfl nX0_linksAt ⟨Nat.le_of_ble_eq_true rfl, Nat.le_of_ble_eq_true rfl⟩) rfl hl.1 rfl (Nat.le_of_ble_eq_true rfl) dX0_linkSlot_13 ⟨by show (0 + c1) + 0 ≤ C; omega, by show (0 + n1) + 0 ≤ N; omega⟩ (fun H locs hI => ?_)
      refine lv_icmp_lt (tgt := 29) hx hb dX0_linkSlot_16 (by decide) (fun c5 => ?_) (fun c5 => ?_)
      · have hg := cIf_te c5 hg
        refine lv_iload_n hx hb dX0_linkSlot_29 rfl (lv_at hl 0 rfl) ?_
        refine lv_iconst (v := 3) hx hb dX0_linkSlot_30 (by decide) ?_
        refine lv_iadd hx hb dX0_linkSlot_31 ?_
        refine lv_iload_n hx hb dX0_linkSlot_32 rfl (lv_at hl 3 rfl) ?_
        refine lv_iadd hx hb dX0_linkSlot_33 ?_
        exact oxe_i S hr hlocks hK hI rfl hg (by omega) (by omega) dX0_linkSlot_34
      · have hg := cIf_fe c5 hg
        obtain ⟨e1, e2, e3, e4⟩ := x4_e hg
        subst e1; subst e2
        exact oth1_x S hK hZ hI rfl hno hlocks htr (is := 174) (tx := "no such link") (by decide +kernel) (by decide +kernel) (by decide +kernel) (by decide +kernel) hl.1 dX0_linkSlot_19 dX0_linkSlot_22 dX0_linkSlot_23 dX0_linkSlot_25 dX0_linkSlot_28 (Nat.le_of_ble_eq_true rfl) (Nat.le_of_ble_eq_true rfl) (by show ((0 + c1) + 0) + 1 ≤ C; omega) (by show ((0 + n1) + 0) + 6 ≤ N; omega) (by omega) (by omega)
-- OwnMemory.valueSlot (may throw)
abbrev rX0_valueSlot (C N : Nat) : Room := { frames := 8, cells := C, slots := N, locals := 132 }
theorem nX0_valueSlot : yX0_valueSlot.cls = RX0 ∧ yX0_valueSlot.cls ≠ "java/lang/invoke/MethodHandle" ∧ yX0_valueSlot.cls ≠ "java/lang/invoke/VarHandle" ∧ (parseMethodDescriptor yX0_valueSlot.desc).map (fun d => d.parameters.length) = some 2 := by decide +kernel
noncomputable def fX0_valueSlot (F : Nat) (σ : oS) (p1 : Int32) (p2 : Int32) : xT Int32 := bndX (fX0_needBlock F σ p1) (fun a1 σ1 => cIf (p2 < 0) (some (.inl 1, σ1, 1, 6)) (bnd (fX0_valuesAt F σ1 a1) (fun r4 σ3 => cIf (p2 < r4) (bnd (fX0_linksAt F σ3 a1) (fun r7 σ6 => some (.inr (((a1 + 3) + r7) + (2 * p2)), σ6, 0, 0))) (some (.inl 1, σ3, 1, 6)))))
set_option maxHeartbeats 4000000 in
set_option maxRecDepth 100000 in
theorem kX0_valueSlot (l : Launch) (htr : l.stackTraces = false) (G : gT) (h0 : Nat) (h : oH) (sz F : Nat) (σ : oS) (p1 : Int32) (p2 : Int32) (r : Int32 ⊕ Int32) (σr : oS) (C N : Nat) (hg : fX0_valueSlot F σ p1 p2 = some (r, σr, C, N)) : vx_Met l yX0_valueSlot wsX0_valueSlot (rX0_valueSlot C N) (oPreX G h0 h σ sz [.int p1, .int p2]) (oxi G h0 h r σr (oA G h0 h σ sz)) (oxX G h0 h r σr (oA G h0 h σ sz)) C N (oA G h0 h σ sz) := by
  refine oxMet (Qc := oxi G h0 h r σr) (XC := oxX G h0 h r σr) (by decide +kernel) rfl rfl (Nat.le_of_ble_eq_true rfl) ?_
  intro p e s m args below meth c A S hr hlocks hno hK hA hZ H locs hI ls hl
  have hl : lv_has ls 4 [(0, .ref h0), (1, .int p1), (2, .int p2)] := hl
  have hin : ∀ w ∈ wsX00, w ∈ wsX0_valueSlot := by decide +kernel
  have hx := S.1
  have hb := S.2.1
  have hts := S.2.2.2.2
  have hown := S.2.2.2.1
  have hC : 0 + C ≤ C := by omega
  have hN : 0 + N ≤ N := by omega
  unfold fX0_valueSlot at hg
  refine lv_aload_n hx hb dX0_valueSlot_0 rfl (lv_at hl 0 rfl) ?_
  refine lv_iload_n hx hb dX0_valueSlot_1 rfl (lv_at hl 1 rfl) ?_
  rcases bndX_e hg with ⟨e1, hc1, er⟩ | ⟨a1, σ1, c1, n1, C1, N1, hc1, hg, eC, eN⟩
  · subst er
    exact oxt_ix S hK hA hZ hI hno hlocks (As := [.int p1]) (rest := []) (kX0_needBlock l htr G h0 h H.size F σ p1 _ _ _ _ hc1) (cwV 1 hts gX0_valueSlot_X0_needBlock rfl rfl rfl nX0_needBlock ⟨Nat.le_of_ble_eq_true rfl, Nat.le_of_ble_eq_true rfl⟩) rfl hl.1 rfl (Nat.le_of_ble_eq_true rfl) dX0_valueSlot_2 ⟨by show 0 + C ≤ C; omega, by show 0 + N ≤ N; omega⟩ rfl (by omega) (by omega)
  · refine oxc_i S hK hA hZ hI (As := [.int p1]) (rest := []) (kX0_needBlock l htr G h0 h H.size F σ p1 _ _ _ _ hc1) (cwV 1 hts gX0_valueSlot_X0_needBlock rfl rfl rfl nX0_needBlock ⟨Nat.le_of_ble_eq_true rfl, Nat.le_of_ble_eq_true rfl⟩) rfl hl.1 rfl (Nat.le_of_ble_eq_true rfl) dX0_valueSlot_2 ⟨by show 0 + c1 ≤ C; omega, by show 0 + n1 ≤ N; omega⟩ (fun H locs hI => ?_)
    have hC : (0 + c1) + C1 ≤ C := by omega
    have hN : (0 + n1) + N1 ≤ N := by omega
    refine lv_istore_n (lv' := [(3, .int a1), (0, .ref h0), (1, .int p1), (2, .int p2)]) hx hb dX0_valueSlot_5 rfl hl (by decide) rfl (fun ls hl => ?_)
    refine lv_iload_n hx hb dX0_valueSlot_6 rfl (lv_at hl 3 rfl) ?_
    refine lv_if_lt (tgt := 19) hx hb dX0_valueSlot_7 (by decide) (fun c2 => ?_) (fun c2 => ?_)
    · have hg := cIf_te c2 hg
      obtain ⟨e1, e2, e3, e4⟩ := x4_e hg
      subst e1; subst e2
      exact oth1_x S hK hZ hI rfl hno hlocks htr (is := 179) (tx := "no such value") (by decide +kernel) (by decide +kernel) (by decide +kernel) (by decide +kernel) hl.1 dX0_valueSlot_19 dX0_valueSlot_22 dX0_valueSlot_23 dX0_valueSlot_25 dX0_valueSlot_28 (Nat.le_of_ble_eq_true rfl) (Nat.le_of_ble_eq_true rfl) (by show (0 + c1) + 1 ≤ C; omega) (by show (0 + n1) + 6 ≤ N; omega) (by omega) (by omega)
    · have hg := cIf_fe c2 hg
      refine lv_iload_n hx hb dX0_valueSlot_10 rfl (lv_at hl 3 rfl) ?_
      refine lv_aload_n hx hb dX0_valueSlot_11 rfl (lv_at hl 1 rfl) ?_
      refine lv_iload_n hx hb dX0_valueSlot_12 rfl (lv_at hl 0 rfl) ?_
      obtain ⟨r4, σ3, er4, hg⟩ := bnd_e hg
      refine oc_i S hK hA hI (As := [.int a1]) (rest := [.int p2]) (kX0_valuesAt l G h0 h H.size F σ1 a1  r4 σ3 er4) (cwV 1 hts gX0_valueSlot_X0_valuesAt rfl rfl rfl nX0_valuesAt ⟨Nat.le_of_ble_eq_true rfl, Nat.le_of_ble_eq_true rfl⟩) rfl hl.1 rfl (Nat.le_of_ble_eq_true rfl) dX0_valueSlot_13 ⟨by show (0 + c1) + 0 ≤ C; omega, by show (0 + n1) + 0 ≤ N; omega⟩ (fun H locs hI => ?_)
      refine lv_icmp_lt (tgt := 29) hx hb dX0_valueSlot_16 (by decide) (fun c5 => ?_) (fun c5 => ?_)
      · have hg := cIf_te c5 hg
        refine lv_iload_n hx hb dX0_valueSlot_29 rfl (lv_at hl 0 rfl) ?_
        refine lv_iconst (v := 3) hx hb dX0_valueSlot_30 (by decide) ?_
        refine lv_iadd hx hb dX0_valueSlot_31 ?_
        refine lv_aload_n hx hb dX0_valueSlot_32 rfl (lv_at hl 1 rfl) ?_
        refine lv_iload_n hx hb dX0_valueSlot_33 rfl (lv_at hl 0 rfl) ?_
        obtain ⟨r7, σ6, er7, hg⟩ := bnd_e hg
        refine oc_i S hK hA hI (As := [.int a1]) (rest := [.int (a1 + 3)]) (kX0_linksAt l G h0 h H.size F σ3 a1  r7 σ6 er7) (cwV 1 hts gX0_valueSlot_X0_linksAt rfl rfl rfl nX0_linksAt ⟨Nat.le_of_ble_eq_true rfl, Nat.le_of_ble_eq_true rfl⟩) rfl hl.1 rfl (Nat.le_of_ble_eq_true rfl) dX0_valueSlot_34 ⟨by show ((0 + c1) + 0) + 0 ≤ C; omega, by show ((0 + n1) + 0) + 0 ≤ N; omega⟩ (fun H locs hI => ?_)
        refine lv_iadd hx hb dX0_valueSlot_37 ?_
        refine lv_iconst (v := 2) hx hb dX0_valueSlot_38 (by decide) ?_
        refine lv_iload_n hx hb dX0_valueSlot_39 rfl (lv_at hl 3 rfl) ?_
        refine lv_imul hx hb dX0_valueSlot_40 ?_
        refine lv_iadd hx hb dX0_valueSlot_41 ?_
        exact oxe_i S hr hlocks hK hI rfl hg (by omega) (by omega) dX0_valueSlot_42
      · have hg := cIf_fe c5 hg
        obtain ⟨e1, e2, e3, e4⟩ := x4_e hg
        subst e1; subst e2
        exact oth1_x S hK hZ hI rfl hno hlocks htr (is := 179) (tx := "no such value") (by decide +kernel) (by decide +kernel) (by decide +kernel) (by decide +kernel) hl.1 dX0_valueSlot_19 dX0_valueSlot_22 dX0_valueSlot_23 dX0_valueSlot_25 dX0_valueSlot_28 (Nat.le_of_ble_eq_true rfl) (Nat.le_of_ble_eq_true rfl) (by show ((0 + c1) + 0) + 1 ≤ C; omega) (by show ((0 + n1) + 0) + 6 ≤ N; omega) (by omega) (by omega)
-- OwnMemory.plainSlot (may throw)
abbrev rX0_plainSlot (C N : Nat) : Room := { frames := 8, cells := C, slots := N, locals := 132 }
theorem nX0_plainSlot : yX0_plainSlot.cls = RX0 ∧ yX0_plainSlot.cls ≠ "java/lang/invoke/MethodHandle" ∧ yX0_plainSlot.cls ≠ "java/lang/invoke/VarHandle" ∧ (parseMethodDescriptor yX0_plainSlot.desc).map (fun d => d.parameters.length) = some 2 := by decide +kernel
noncomputable def fX0_plainSlot (F : Nat) (σ : oS) (p1 : Int32) (p2 : Int32) : xT Int32 := bndX (fX0_needBlock F σ p1) (fun a1 σ1 => bnd (fX0_linksAt F σ1 a1) (fun r3 σ2 => bnd (fX0_valuesAt F σ2 a1) (fun r5 σ4 => nmd ((3 + r3) + (2 * r5)) (fun x6 => cIf (p2 < 0) (some (.inl 1, σ4, 1, 6)) (bnd (fX0_sizeAt F σ4 a1) (fun r9 σ8 => cIf (p2 < (r9 - x6)) (some (.inr ((a1 + x6) + p2), σ8, 0, 0)) (some (.inl 1, σ8, 1, 6))))))))
set_option maxHeartbeats 4000000 in
set_option maxRecDepth 100000 in
theorem kX0_plainSlot (l : Launch) (htr : l.stackTraces = false) (G : gT) (h0 : Nat) (h : oH) (sz F : Nat) (σ : oS) (p1 : Int32) (p2 : Int32) (r : Int32 ⊕ Int32) (σr : oS) (C N : Nat) (hg : fX0_plainSlot F σ p1 p2 = some (r, σr, C, N)) : vx_Met l yX0_plainSlot wsX0_plainSlot (rX0_plainSlot C N) (oPreX G h0 h σ sz [.int p1, .int p2]) (oxi G h0 h r σr (oA G h0 h σ sz)) (oxX G h0 h r σr (oA G h0 h σ sz)) C N (oA G h0 h σ sz) := by
  refine oxMet (Qc := oxi G h0 h r σr) (XC := oxX G h0 h r σr) (by decide +kernel) rfl rfl (Nat.le_of_ble_eq_true rfl) ?_
  intro p e s m args below meth c A S hr hlocks hno hK hA hZ H locs hI ls hl
  have hl : lv_has ls 5 [(0, .ref h0), (1, .int p1), (2, .int p2)] := hl
  have hin : ∀ w ∈ wsX00, w ∈ wsX0_plainSlot := by decide +kernel
  have hx := S.1
  have hb := S.2.1
  have hts := S.2.2.2.2
  have hown := S.2.2.2.1
  have hC : 0 + C ≤ C := by omega
  have hN : 0 + N ≤ N := by omega
  unfold fX0_plainSlot at hg
  refine lv_aload_n hx hb dX0_plainSlot_0 rfl (lv_at hl 0 rfl) ?_
  refine lv_iload_n hx hb dX0_plainSlot_1 rfl (lv_at hl 1 rfl) ?_
  rcases bndX_e hg with ⟨e1, hc1, er⟩ | ⟨a1, σ1, c1, n1, C1, N1, hc1, hg, eC, eN⟩
  · subst er
    exact oxt_ix S hK hA hZ hI hno hlocks (As := [.int p1]) (rest := []) (kX0_needBlock l htr G h0 h H.size F σ p1 _ _ _ _ hc1) (cwV 1 hts gX0_plainSlot_X0_needBlock rfl rfl rfl nX0_needBlock ⟨Nat.le_of_ble_eq_true rfl, Nat.le_of_ble_eq_true rfl⟩) rfl hl.1 rfl (Nat.le_of_ble_eq_true rfl) dX0_plainSlot_2 ⟨by show 0 + C ≤ C; omega, by show 0 + N ≤ N; omega⟩ rfl (by omega) (by omega)
  · refine oxc_i S hK hA hZ hI (As := [.int p1]) (rest := []) (kX0_needBlock l htr G h0 h H.size F σ p1 _ _ _ _ hc1) (cwV 1 hts gX0_plainSlot_X0_needBlock rfl rfl rfl nX0_needBlock ⟨Nat.le_of_ble_eq_true rfl, Nat.le_of_ble_eq_true rfl⟩) rfl hl.1 rfl (Nat.le_of_ble_eq_true rfl) dX0_plainSlot_2 ⟨by show 0 + c1 ≤ C; omega, by show 0 + n1 ≤ N; omega⟩ (fun H locs hI => ?_)
    have hC : (0 + c1) + C1 ≤ C := by omega
    have hN : (0 + n1) + N1 ≤ N := by omega
    refine lv_istore_n (lv' := [(3, .int a1), (0, .ref h0), (1, .int p1), (2, .int p2)]) hx hb dX0_plainSlot_5 rfl hl (by decide) rfl (fun ls hl => ?_)
    refine lv_iconst (v := 3) hx hb dX0_plainSlot_6 (by decide) ?_
    refine lv_aload_n hx hb dX0_plainSlot_7 rfl (lv_at hl 1 rfl) ?_
    refine lv_iload_n hx hb dX0_plainSlot_8 rfl (lv_at hl 0 rfl) ?_
    obtain ⟨r3, σ2, er3, hg⟩ := bnd_e hg
    refine oc_i S hK hA hI (As := [.int a1]) (rest := [.int 3]) (kX0_linksAt l G h0 h H.size F σ1 a1  r3 σ2 er3) (cwV 1 hts gX0_plainSlot_X0_linksAt rfl rfl rfl nX0_linksAt ⟨Nat.le_of_ble_eq_true rfl, Nat.le_of_ble_eq_true rfl⟩) rfl hl.1 rfl (Nat.le_of_ble_eq_true rfl) dX0_plainSlot_9 ⟨by show (0 + c1) + 0 ≤ C; omega, by show (0 + n1) + 0 ≤ N; omega⟩ (fun H locs hI => ?_)
    refine lv_iadd hx hb dX0_plainSlot_12 ?_
    refine lv_iconst (v := 2) hx hb dX0_plainSlot_13 (by decide) ?_
    refine lv_aload_n hx hb dX0_plainSlot_14 rfl (lv_at hl 1 rfl) ?_
    refine lv_iload_n hx hb dX0_plainSlot_15 rfl (lv_at hl 0 rfl) ?_
    obtain ⟨r5, σ4, er5, hg⟩ := bnd_e hg
    refine oc_i S hK hA hI (As := [.int a1]) (rest := [.int 2, .int (3 + r3)]) (kX0_valuesAt l G h0 h H.size F σ2 a1  r5 σ4 er5) (cwV 1 hts gX0_plainSlot_X0_valuesAt rfl rfl rfl nX0_valuesAt ⟨Nat.le_of_ble_eq_true rfl, Nat.le_of_ble_eq_true rfl⟩) rfl hl.1 rfl (Nat.le_of_ble_eq_true rfl) dX0_plainSlot_16 ⟨by show ((0 + c1) + 0) + 0 ≤ C; omega, by show ((0 + n1) + 0) + 0 ≤ N; omega⟩ (fun H locs hI => ?_)
    refine lv_imul hx hb dX0_plainSlot_19 ?_
    refine lv_iadd hx hb dX0_plainSlot_20 ?_
    obtain ⟨x6, ex6, hg⟩ := nmd_e hg
    refine wn_i ex6 ?_
    refine lv_istore (lv' := [(4, .int x6), (3, .int a1), (0, .ref h0), (1, .int p1), (2, .int p2)]) hx hb dX0_plainSlot_21 hl (by decide) rfl (fun ls hl => ?_)
    refine lv_iload_n hx hb dX0_plainSlot_23 rfl (lv_at hl 4 rfl) ?_
    refine lv_if_lt (tgt := 39) hx hb dX0_plainSlot_24 (by decide) (fun c7 => ?_) (fun c7 => ?_)
    · have hg := cIf_te c7 hg
      obtain ⟨e1, e2, e3, e4⟩ := x4_e hg
      subst e1; subst e2
      exact oth1_x S hK hZ hI rfl hno hlocks htr (is := 184) (tx := "no such plain word") (by decide +kernel) (by decide +kernel) (by decide +kernel) (by decide +kernel) hl.1 dX0_plainSlot_39 dX0_plainSlot_42 dX0_plainSlot_43 dX0_plainSlot_45 dX0_plainSlot_48 (Nat.le_of_ble_eq_true rfl) (Nat.le_of_ble_eq_true rfl) (by show (((0 + c1) + 0) + 0) + 1 ≤ C; omega) (by show (((0 + n1) + 0) + 0) + 6 ≤ N; omega) (by omega) (by omega)
    · have hg := cIf_fe c7 hg
      refine lv_iload_n hx hb dX0_plainSlot_27 rfl (lv_at hl 4 rfl) ?_
      refine lv_aload_n hx hb dX0_plainSlot_28 rfl (lv_at hl 2 rfl) ?_
      refine lv_iload_n hx hb dX0_plainSlot_29 rfl (lv_at hl 1 rfl) ?_
      obtain ⟨r9, σ8, er9, hg⟩ := bnd_e hg
      refine oc_i S hK hA hI (As := [.int a1]) (rest := [.int p2]) (kX0_sizeAt l G h0 h H.size F σ4 a1  r9 σ8 er9) (cwV 1 hts gX0_plainSlot_X0_sizeAt rfl rfl rfl nX0_sizeAt ⟨Nat.le_of_ble_eq_true rfl, Nat.le_of_ble_eq_true rfl⟩) rfl hl.1 rfl (Nat.le_of_ble_eq_true rfl) dX0_plainSlot_30 ⟨by show (((0 + c1) + 0) + 0) + 0 ≤ C; omega, by show (((0 + n1) + 0) + 0) + 0 ≤ N; omega⟩ (fun H locs hI => ?_)
      refine lv_iload hx hb dX0_plainSlot_33 (lv_at hl 0 rfl) ?_
      refine lv_isub hx hb dX0_plainSlot_35 ?_
      refine lv_icmp_lt (tgt := 49) hx hb dX0_plainSlot_36 (by decide) (fun c10 => ?_) (fun c10 => ?_)
      · have hg := cIf_te c10 hg
        refine lv_iload_n hx hb dX0_plainSlot_49 rfl (lv_at hl 1 rfl) ?_
        refine lv_iload hx hb dX0_plainSlot_50 (lv_at hl 0 rfl) ?_
        refine lv_iadd hx hb dX0_plainSlot_52 ?_
        refine lv_iload_n hx hb dX0_plainSlot_53 rfl (lv_at hl 4 rfl) ?_
        refine lv_iadd hx hb dX0_plainSlot_54 ?_
        exact oxe_i S hr hlocks hK hI rfl hg (by omega) (by omega) dX0_plainSlot_55
      · have hg := cIf_fe c10 hg
        obtain ⟨e1, e2, e3, e4⟩ := x4_e hg
        subst e1; subst e2
        exact oth1_x S hK hZ hI rfl hno hlocks htr (is := 184) (tx := "no such plain word") (by decide +kernel) (by decide +kernel) (by decide +kernel) (by decide +kernel) hl.1 dX0_plainSlot_39 dX0_plainSlot_42 dX0_plainSlot_43 dX0_plainSlot_45 dX0_plainSlot_48 (Nat.le_of_ble_eq_true rfl) (Nat.le_of_ble_eq_true rfl) (by show ((((0 + c1) + 0) + 0) + 0) + 1 ≤ C; omega) (by show ((((0 + n1) + 0) + 0) + 0) + 6 ≤ N; omega) (by omega) (by omega)
-- OwnMemory.copy (may throw)
abbrev rX0_copy (C N : Nat) : Room := { frames := 7, cells := C, slots := N, locals := 110 }
theorem nX0_copy : yX0_copy.cls = RX0 ∧ yX0_copy.cls ≠ "java/lang/invoke/MethodHandle" ∧ yX0_copy.cls ≠ "java/lang/invoke/VarHandle" ∧ (parseMethodDescriptor yX0_copy.desc).map (fun d => d.parameters.length) = some 2 := by decide +kernel
noncomputable def fX0_copy (F : Nat) (σ : oS) (p1 : Int32) (p2 : Int32) : xT Unit := bndN (fX0_needRoot F p1) σ (bndN (fX0_needRoot F p2) σ (ck (vp_in p2 24) (nmd (o_fr σ p2.toNatClampNeg) (fun x6 => ck (vp_in p1 24) (nmd (o_s_fr σ (upd (o_fr σ) p1.toNatClampNeg x6)) (fun σ8 => some (.inr (), σ8, 0, 0)))))))
set_option maxHeartbeats 4000000 in
set_option maxRecDepth 100000 in
theorem kX0_copy (l : Launch) (htr : l.stackTraces = false) (G : gT) (h0 : Nat) (h : oH) (sz F : Nat) (σ : oS) (p1 : Int32) (p2 : Int32) (r : Int32 ⊕ Unit) (σr : oS) (C N : Nat) (hg : fX0_copy F σ p1 p2 = some (r, σr, C, N)) : vx_Met l yX0_copy wsX0_copy (rX0_copy C N) (oPreX G h0 h σ sz [.int p1, .int p2]) (oxv G h0 h r σr (oA G h0 h σ sz)) (oxX G h0 h r σr (oA G h0 h σ sz)) C N (oA G h0 h σ sz) := by
  refine oxMet (Qc := oxv G h0 h r σr) (XC := oxX G h0 h r σr) (by decide +kernel) rfl rfl (Nat.le_of_ble_eq_true rfl) ?_
  intro p e s m args below meth c A S hr hlocks hno hK hA hZ H locs hI ls hl
  have hl : lv_has ls 3 [(0, .ref h0), (1, .int p1), (2, .int p2)] := hl
  have hin : ∀ w ∈ wsX00, w ∈ wsX0_copy := by decide +kernel
  have hx := S.1
  have hb := S.2.1
  have hts := S.2.2.2.2
  have hown := S.2.2.2.1
  have hC : 0 + C ≤ C := by omega
  have hN : 0 + N ≤ N := by omega
  unfold fX0_copy at hg
  refine lv_iload_n hx hb dX0_copy_0 rfl (lv_at hl 1 rfl) ?_
  rcases bndN_e hg with ⟨e1, hc2, er, eσ, eC, eN⟩ | ⟨hc2, hg⟩
  · subst er; subst eσ
    exact ont_x (mc := 1) (ms := 6) S hK hA hZ hI hno hlocks (As := [.int p1]) (rest := []) (kX0_needRoot l htr H.size F p1 (.inl e1) hc2) (va_cwS 1 hts gX0_copy_X0_needRoot rfl rfl rfl nX0_needRoot ⟨Nat.le_of_ble_eq_true rfl, Nat.le_of_ble_eq_true rfl⟩) rfl hl.1 rfl (Nat.le_of_ble_eq_true rfl) dX0_copy_1 ⟨by show 0 + 1 ≤ C; omega, by show 0 + 6 ≤ N; omega⟩ rfl (by show 0 + 1 ≤ C; omega) (by show 0 + 6 ≤ N; omega)
  · refine onv (mc := 0) (ms := 0) S hA hZ hI (As := [.int p1]) (rest := []) (kX0_needRoot l htr H.size F p1 (.inr ()) hc2) (va_cwS 1 hts gX0_copy_X0_needRoot rfl rfl rfl nX0_needRoot ⟨Nat.le_of_ble_eq_true rfl, Nat.le_of_ble_eq_true rfl⟩) rfl hl.1 rfl (Nat.le_of_ble_eq_true rfl) dX0_copy_1 ⟨by show 0 + 0 ≤ C; omega, by show 0 + 0 ≤ N; omega⟩ (fun H locs hI => ?_)
    refine lv_iload_n hx hb dX0_copy_4 rfl (lv_at hl 2 rfl) ?_
    rcases bndN_e hg with ⟨e3, hc4, er, eσ, eC, eN⟩ | ⟨hc4, hg⟩
    · subst er; subst eσ
      exact ont_x (mc := 1) (ms := 6) S hK hA hZ hI hno hlocks (As := [.int p2]) (rest := []) (kX0_needRoot l htr H.size F p2 (.inl e3) hc4) (va_cwS 1 hts gX0_copy_X0_needRoot rfl rfl rfl nX0_needRoot ⟨Nat.le_of_ble_eq_true rfl, Nat.le_of_ble_eq_true rfl⟩) rfl hl.1 rfl (Nat.le_of_ble_eq_true rfl) dX0_copy_5 ⟨by show (0 + 0) + 1 ≤ C; omega, by show (0 + 0) + 6 ≤ N; omega⟩ rfl (by show (0 + 0) + 1 ≤ C; omega) (by show (0 + 0) + 6 ≤ N; omega)
    · refine onv (mc := 0) (ms := 0) S hA hZ hI (As := [.int p2]) (rest := []) (kX0_needRoot l htr H.size F p2 (.inr ()) hc4) (va_cwS 1 hts gX0_copy_X0_needRoot rfl rfl rfl nX0_needRoot ⟨Nat.le_of_ble_eq_true rfl, Nat.le_of_ble_eq_true rfl⟩) rfl hl.1 rfl (Nat.le_of_ble_eq_true rfl) dX0_copy_5 ⟨by show (0 + 0) + 0 ≤ C; omega, by show (0 + 0) + 0 ≤ N; omega⟩ (fun H locs hI => ?_)
      refine lv_aload_n hx hb dX0_copy_8 rfl (lv_at hl 0 rfl) ?_
      refine og_roots S hin hK hI (ix := 30) (by decide +kernel) dX0_copy_9 ?_
      refine lv_iload_n hx hb dX0_copy_12 rfl (lv_at hl 1 rfl) ?_
      refine lv_aload_n hx hb dX0_copy_13 rfl (lv_at hl 0 rfl) ?_
      refine og_roots S hin hK hI (ix := 30) (by decide +kernel) dX0_copy_14 ?_
      refine lv_iload_n hx hb dX0_copy_17 rfl (lv_at hl 2 rfl) ?_
      obtain ⟨c5, hg⟩ := ck_e hg
      obtain ⟨x6, ex6, hg⟩ := nmd_e hg
      refine or_roots S hK hI c5 ex6 dX0_copy_18 ?_
      obtain ⟨c7, hg⟩ := ck_e hg
      obtain ⟨σ8, eσ8, hg⟩ := nmd_e hg
      refine ou_roots S hK hI c7 eσ8 dX0_copy_19 (fun H locs hI => ?_)
      exact oxe_v S hr hlocks hK hI rfl hg (by omega) (by omega) dX0_copy_20
-- OwnMemory.drop (may throw)
abbrev rX0_drop (C N : Nat) : Room := { frames := 7, cells := C, slots := N, locals := 110 }
theorem nX0_drop : yX0_drop.cls = RX0 ∧ yX0_drop.cls ≠ "java/lang/invoke/MethodHandle" ∧ yX0_drop.cls ≠ "java/lang/invoke/VarHandle" ∧ (parseMethodDescriptor yX0_drop.desc).map (fun d => d.parameters.length) = some 1 := by decide +kernel
noncomputable def fX0_drop (F : Nat) (σ : oS) (p1 : Int32) : xT Unit := bndN (fX0_needRoot F p1) σ (ck (vp_in p1 24) (nmd (o_s_fr σ (upd (o_fr σ) p1.toNatClampNeg (-1))) (fun σ4 => some (.inr (), σ4, 0, 0))))
set_option maxHeartbeats 4000000 in
set_option maxRecDepth 100000 in
theorem kX0_drop (l : Launch) (htr : l.stackTraces = false) (G : gT) (h0 : Nat) (h : oH) (sz F : Nat) (σ : oS) (p1 : Int32) (r : Int32 ⊕ Unit) (σr : oS) (C N : Nat) (hg : fX0_drop F σ p1 = some (r, σr, C, N)) : vx_Met l yX0_drop wsX0_drop (rX0_drop C N) (oPreX G h0 h σ sz [.int p1]) (oxv G h0 h r σr (oA G h0 h σ sz)) (oxX G h0 h r σr (oA G h0 h σ sz)) C N (oA G h0 h σ sz) := by
  refine oxMet (Qc := oxv G h0 h r σr) (XC := oxX G h0 h r σr) (by decide +kernel) rfl rfl (Nat.le_of_ble_eq_true rfl) ?_
  intro p e s m args below meth c A S hr hlocks hno hK hA hZ H locs hI ls hl
  have hl : lv_has ls 2 [(0, .ref h0), (1, .int p1)] := hl
  have hin : ∀ w ∈ wsX00, w ∈ wsX0_drop := by decide +kernel
  have hx := S.1
  have hb := S.2.1
  have hts := S.2.2.2.2
  have hown := S.2.2.2.1
  have hC : 0 + C ≤ C := by omega
  have hN : 0 + N ≤ N := by omega
  unfold fX0_drop at hg
  refine lv_iload_n hx hb dX0_drop_0 rfl (lv_at hl 1 rfl) ?_
  rcases bndN_e hg with ⟨e1, hc2, er, eσ, eC, eN⟩ | ⟨hc2, hg⟩
  · subst er; subst eσ
    exact ont_x (mc := 1) (ms := 6) S hK hA hZ hI hno hlocks (As := [.int p1]) (rest := []) (kX0_needRoot l htr H.size F p1 (.inl e1) hc2) (va_cwS 1 hts gX0_drop_X0_needRoot rfl rfl rfl nX0_needRoot ⟨Nat.le_of_ble_eq_true rfl, Nat.le_of_ble_eq_true rfl⟩) rfl hl.1 rfl (Nat.le_of_ble_eq_true rfl) dX0_drop_1 ⟨by show 0 + 1 ≤ C; omega, by show 0 + 6 ≤ N; omega⟩ rfl (by show 0 + 1 ≤ C; omega) (by show 0 + 6 ≤ N; omega)
  · refine onv (mc := 0) (ms := 0) S hA hZ hI (As := [.int p1]) (rest := []) (kX0_needRoot l htr H.size F p1 (.inr ()) hc2) (va_cwS 1 hts gX0_drop_X0_needRoot rfl rfl rfl nX0_needRoot ⟨Nat.le_of_ble_eq_true rfl, Nat.le_of_ble_eq_true rfl⟩) rfl hl.1 rfl (Nat.le_of_ble_eq_true rfl) dX0_drop_1 ⟨by show 0 + 0 ≤ C; omega, by show 0 + 0 ≤ N; omega⟩ (fun H locs hI => ?_)
    refine lv_aload_n hx hb dX0_drop_4 rfl (lv_at hl 0 rfl) ?_
    refine og_roots S hin hK hI (ix := 30) (by decide +kernel) dX0_drop_5 ?_
    refine lv_iload_n hx hb dX0_drop_8 rfl (lv_at hl 1 rfl) ?_
    refine lv_iconst (v := (-1)) hx hb dX0_drop_9 (by decide) ?_
    obtain ⟨c3, hg⟩ := ck_e hg
    obtain ⟨σ4, eσ4, hg⟩ := nmd_e hg
    refine ou_roots S hK hI c3 eσ4 dX0_drop_10 (fun H locs hI => ?_)
    exact oxe_v S hr hlocks hK hI rfl hg (by omega) (by omega) dX0_drop_11
-- OwnMemory.kind (may throw)
abbrev rX0_kind (C N : Nat) : Room := { frames := 7, cells := C, slots := N, locals := 110 }
theorem nX0_kind : yX0_kind.cls = RX0 ∧ yX0_kind.cls ≠ "java/lang/invoke/MethodHandle" ∧ yX0_kind.cls ≠ "java/lang/invoke/VarHandle" ∧ (parseMethodDescriptor yX0_kind.desc).map (fun d => d.parameters.length) = some 1 := by decide +kernel
noncomputable def fX0_kind (F : Nat) (σ : oS) (p1 : Int32) : xT Int32 := bndN (fX0_needRoot F p1) σ (ck (vp_in p1 24) (nmd (o_fr σ p1.toNatClampNeg) (fun x4 => bnd (fX0_kindAt F σ x4) (fun r6 σ5 => some (.inr r6, σ5, 0, 0)))))
set_option maxHeartbeats 4000000 in
set_option maxRecDepth 100000 in
theorem kX0_kind (l : Launch) (htr : l.stackTraces = false) (G : gT) (h0 : Nat) (h : oH) (sz F : Nat) (σ : oS) (p1 : Int32) (r : Int32 ⊕ Int32) (σr : oS) (C N : Nat) (hg : fX0_kind F σ p1 = some (r, σr, C, N)) : vx_Met l yX0_kind wsX0_kind (rX0_kind C N) (oPreX G h0 h σ sz [.int p1]) (oxi G h0 h r σr (oA G h0 h σ sz)) (oxX G h0 h r σr (oA G h0 h σ sz)) C N (oA G h0 h σ sz) := by
  refine oxMet (Qc := oxi G h0 h r σr) (XC := oxX G h0 h r σr) (by decide +kernel) rfl rfl (Nat.le_of_ble_eq_true rfl) ?_
  intro p e s m args below meth c A S hr hlocks hno hK hA hZ H locs hI ls hl
  have hl : lv_has ls 2 [(0, .ref h0), (1, .int p1)] := hl
  have hin : ∀ w ∈ wsX00, w ∈ wsX0_kind := by decide +kernel
  have hx := S.1
  have hb := S.2.1
  have hts := S.2.2.2.2
  have hown := S.2.2.2.1
  have hC : 0 + C ≤ C := by omega
  have hN : 0 + N ≤ N := by omega
  unfold fX0_kind at hg
  refine lv_iload_n hx hb dX0_kind_0 rfl (lv_at hl 1 rfl) ?_
  rcases bndN_e hg with ⟨e1, hc2, er, eσ, eC, eN⟩ | ⟨hc2, hg⟩
  · subst er; subst eσ
    exact ont_x (mc := 1) (ms := 6) S hK hA hZ hI hno hlocks (As := [.int p1]) (rest := []) (kX0_needRoot l htr H.size F p1 (.inl e1) hc2) (va_cwS 1 hts gX0_kind_X0_needRoot rfl rfl rfl nX0_needRoot ⟨Nat.le_of_ble_eq_true rfl, Nat.le_of_ble_eq_true rfl⟩) rfl hl.1 rfl (Nat.le_of_ble_eq_true rfl) dX0_kind_1 ⟨by show 0 + 1 ≤ C; omega, by show 0 + 6 ≤ N; omega⟩ rfl (by show 0 + 1 ≤ C; omega) (by show 0 + 6 ≤ N; omega)
  · refine onv (mc := 0) (ms := 0) S hA hZ hI (As := [.int p1]) (rest := []) (kX0_needRoot l htr H.size F p1 (.inr ()) hc2) (va_cwS 1 hts gX0_kind_X0_needRoot rfl rfl rfl nX0_needRoot ⟨Nat.le_of_ble_eq_true rfl, Nat.le_of_ble_eq_true rfl⟩) rfl hl.1 rfl (Nat.le_of_ble_eq_true rfl) dX0_kind_1 ⟨by show 0 + 0 ≤ C; omega, by show 0 + 0 ≤ N; omega⟩ (fun H locs hI => ?_)
    refine lv_aload_n hx hb dX0_kind_4 rfl (lv_at hl 0 rfl) ?_
    refine lv_aload_n hx hb dX0_kind_5 rfl (lv_at hl 0 rfl) ?_
    refine og_roots S hin hK hI (ix := 30) (by decide +kernel) dX0_kind_6 ?_
    refine lv_iload_n hx hb dX0_kind_9 rfl (lv_at hl 1 rfl) ?_
    obtain ⟨c3, hg⟩ := ck_e hg
    obtain ⟨x4, ex4, hg⟩ := nmd_e hg
    refine or_roots S hK hI c3 ex4 dX0_kind_10 ?_
    obtain ⟨r6, σ5, er6, hg⟩ := bnd_e hg
    refine oc_i S hK hA hI (As := [.int x4]) (rest := []) (kX0_kindAt l G h0 h H.size F σ x4  r6 σ5 er6) (cwV 1 hts gX0_kind_X0_kindAt rfl rfl rfl nX0_kindAt ⟨Nat.le_of_ble_eq_true rfl, Nat.le_of_ble_eq_true rfl⟩) rfl hl.1 rfl (Nat.le_of_ble_eq_true rfl) dX0_kind_11 ⟨by show (0 + 0) + 0 ≤ C; omega, by show (0 + 0) + 0 ≤ N; omega⟩ (fun H locs hI => ?_)
    exact oxe_i S hr hlocks hK hI rfl hg (by omega) (by omega) dX0_kind_14
-- OwnMemory.same (may throw)
abbrev rX0_same (C N : Nat) : Room := { frames := 7, cells := C, slots := N, locals := 110 }
theorem nX0_same : yX0_same.cls = RX0 ∧ yX0_same.cls ≠ "java/lang/invoke/MethodHandle" ∧ yX0_same.cls ≠ "java/lang/invoke/VarHandle" ∧ (parseMethodDescriptor yX0_same.desc).map (fun d => d.parameters.length) = some 2 := by decide +kernel
noncomputable def fX0_same (F : Nat) (σ : oS) (p1 : Int32) (p2 : Int32) : xT Int32 := bndN (fX0_needRoot F p1) σ (bndN (fX0_needRoot F p2) σ (ck (vp_in p1 24) (nmd (o_fr σ p1.toNatClampNeg) (fun x6 => ck (vp_in p2 24) (nmd (o_fr σ p2.toNatClampNeg) (fun x8 => cIf (x6 = x8) (some (.inr 1, σ, 0, 0)) (some (.inr 0, σ, 0, 0))))))))
set_option maxHeartbeats 4000000 in
set_option maxRecDepth 100000 in
theorem kX0_same (l : Launch) (htr : l.stackTraces = false) (G : gT) (h0 : Nat) (h : oH) (sz F : Nat) (σ : oS) (p1 : Int32) (p2 : Int32) (r : Int32 ⊕ Int32) (σr : oS) (C N : Nat) (hg : fX0_same F σ p1 p2 = some (r, σr, C, N)) : vx_Met l yX0_same wsX0_same (rX0_same C N) (oPreX G h0 h σ sz [.int p1, .int p2]) (oxi G h0 h r σr (oA G h0 h σ sz)) (oxX G h0 h r σr (oA G h0 h σ sz)) C N (oA G h0 h σ sz) := by
  refine oxMet (Qc := oxi G h0 h r σr) (XC := oxX G h0 h r σr) (by decide +kernel) rfl rfl (Nat.le_of_ble_eq_true rfl) ?_
  intro p e s m args below meth c A S hr hlocks hno hK hA hZ H locs hI ls hl
  have hl : lv_has ls 3 [(0, .ref h0), (1, .int p1), (2, .int p2)] := hl
  have hin : ∀ w ∈ wsX00, w ∈ wsX0_same := by decide +kernel
  have hx := S.1
  have hb := S.2.1
  have hts := S.2.2.2.2
  have hown := S.2.2.2.1
  have hC : 0 + C ≤ C := by omega
  have hN : 0 + N ≤ N := by omega
  unfold fX0_same at hg
  refine lv_iload_n hx hb dX0_same_0 rfl (lv_at hl 1 rfl) ?_
  rcases bndN_e hg with ⟨e1, hc2, er, eσ, eC, eN⟩ | ⟨hc2, hg⟩
  · subst er; subst eσ
    exact ont_x (mc := 1) (ms := 6) S hK hA hZ hI hno hlocks (As := [.int p1]) (rest := []) (kX0_needRoot l htr H.size F p1 (.inl e1) hc2) (va_cwS 1 hts gX0_same_X0_needRoot rfl rfl rfl nX0_needRoot ⟨Nat.le_of_ble_eq_true rfl, Nat.le_of_ble_eq_true rfl⟩) rfl hl.1 rfl (Nat.le_of_ble_eq_true rfl) dX0_same_1 ⟨by show 0 + 1 ≤ C; omega, by show 0 + 6 ≤ N; omega⟩ rfl (by show 0 + 1 ≤ C; omega) (by show 0 + 6 ≤ N; omega)
  · refine onv (mc := 0) (ms := 0) S hA hZ hI (As := [.int p1]) (rest := []) (kX0_needRoot l htr H.size F p1 (.inr ()) hc2) (va_cwS 1 hts gX0_same_X0_needRoot rfl rfl rfl nX0_needRoot ⟨Nat.le_of_ble_eq_true rfl, Nat.le_of_ble_eq_true rfl⟩) rfl hl.1 rfl (Nat.le_of_ble_eq_true rfl) dX0_same_1 ⟨by show 0 + 0 ≤ C; omega, by show 0 + 0 ≤ N; omega⟩ (fun H locs hI => ?_)
    refine lv_iload_n hx hb dX0_same_4 rfl (lv_at hl 2 rfl) ?_
    rcases bndN_e hg with ⟨e3, hc4, er, eσ, eC, eN⟩ | ⟨hc4, hg⟩
    · subst er; subst eσ
      exact ont_x (mc := 1) (ms := 6) S hK hA hZ hI hno hlocks (As := [.int p2]) (rest := []) (kX0_needRoot l htr H.size F p2 (.inl e3) hc4) (va_cwS 1 hts gX0_same_X0_needRoot rfl rfl rfl nX0_needRoot ⟨Nat.le_of_ble_eq_true rfl, Nat.le_of_ble_eq_true rfl⟩) rfl hl.1 rfl (Nat.le_of_ble_eq_true rfl) dX0_same_5 ⟨by show (0 + 0) + 1 ≤ C; omega, by show (0 + 0) + 6 ≤ N; omega⟩ rfl (by show (0 + 0) + 1 ≤ C; omega) (by show (0 + 0) + 6 ≤ N; omega)
    · refine onv (mc := 0) (ms := 0) S hA hZ hI (As := [.int p2]) (rest := []) (kX0_needRoot l htr H.size F p2 (.inr ()) hc4) (va_cwS 1 hts gX0_same_X0_needRoot rfl rfl rfl nX0_needRoot ⟨Nat.le_of_ble_eq_true rfl, Nat.le_of_ble_eq_true rfl⟩) rfl hl.1 rfl (Nat.le_of_ble_eq_true rfl) dX0_same_5 ⟨by show (0 + 0) + 0 ≤ C; omega, by show (0 + 0) + 0 ≤ N; omega⟩ (fun H locs hI => ?_)
      refine lv_aload_n hx hb dX0_same_8 rfl (lv_at hl 0 rfl) ?_
      refine og_roots S hin hK hI (ix := 30) (by decide +kernel) dX0_same_9 ?_
      refine lv_iload_n hx hb dX0_same_12 rfl (lv_at hl 1 rfl) ?_
      obtain ⟨c5, hg⟩ := ck_e hg
      obtain ⟨x6, ex6, hg⟩ := nmd_e hg
      refine or_roots S hK hI c5 ex6 dX0_same_13 ?_
      refine lv_aload_n hx hb dX0_same_14 rfl (lv_at hl 0 rfl) ?_
      refine og_roots S hin hK hI (ix := 30) (by decide +kernel) dX0_same_15 ?_
      refine lv_iload_n hx hb dX0_same_18 rfl (lv_at hl 2 rfl) ?_
      obtain ⟨c7, hg⟩ := ck_e hg
      obtain ⟨x8, ex8, hg⟩ := nmd_e hg
      refine or_roots S hK hI c7 ex8 dX0_same_19 ?_
      refine lv_icmp_ne (tgt := 27) hx hb dX0_same_20 (by decide) (fun c9 => ?_) (fun c9 => ?_)
      · have hg := cIf_fe c9 hg
        refine lv_iconst (v := 0) hx hb dX0_same_27 (by decide) ?_
        exact oxe_z S hr hlocks hK hI rfl rfl hg (by omega) (by omega) dX0_same_28
      · have hg := cIf_te c9 hg
        refine lv_iconst (v := 1) hx hb dX0_same_23 (by decide) ?_
        refine lv_goto (tgt := 28) hx hb dX0_same_24 (by decide) ?_
        exact oxe_z S hr hlocks hK hI rfl rfl hg (by omega) (by omega) dX0_same_28
-- OwnMemory.tie (may throw)
abbrev rX0_tie (C N : Nat) : Room := { frames := 9, cells := C, slots := N, locals := 155 }
theorem nX0_tie : yX0_tie.cls = RX0 ∧ yX0_tie.cls ≠ "java/lang/invoke/MethodHandle" ∧ yX0_tie.cls ≠ "java/lang/invoke/VarHandle" ∧ (parseMethodDescriptor yX0_tie.desc).map (fun d => d.parameters.length) = some 3 := by decide +kernel
noncomputable def fX0_tie (F : Nat) (σ : oS) (p1 : Int32) (p2 : Int32) (p3 : Int32) : xT Unit := bndX (fX0_linkSlot F σ p1 p2) (fun a1 σ1 => bndN (fX0_needRoot F p3) σ1 (ck (vp_in p3 24) (nmd (o_fr σ1 p3.toNatClampNeg) (fun x5 => ck (vp_in a1 (o_lw σ1)) (nmd (o_s_fw σ1 (upd (o_fw σ1) a1.toNatClampNeg x5)) (fun σ7 => some (.inr (), σ7, 0, 0)))))))
set_option maxHeartbeats 4000000 in
set_option maxRecDepth 100000 in
theorem kX0_tie (l : Launch) (htr : l.stackTraces = false) (G : gT) (h0 : Nat) (h : oH) (sz F : Nat) (σ : oS) (p1 : Int32) (p2 : Int32) (p3 : Int32) (r : Int32 ⊕ Unit) (σr : oS) (C N : Nat) (hg : fX0_tie F σ p1 p2 p3 = some (r, σr, C, N)) : vx_Met l yX0_tie wsX0_tie (rX0_tie C N) (oPreX G h0 h σ sz [.int p1, .int p2, .int p3]) (oxv G h0 h r σr (oA G h0 h σ sz)) (oxX G h0 h r σr (oA G h0 h σ sz)) C N (oA G h0 h σ sz) := by
  refine oxMet (Qc := oxv G h0 h r σr) (XC := oxX G h0 h r σr) (by decide +kernel) rfl rfl (Nat.le_of_ble_eq_true rfl) ?_
  intro p e s m args below meth c A S hr hlocks hno hK hA hZ H locs hI ls hl
  have hl : lv_has ls 5 [(0, .ref h0), (1, .int p1), (2, .int p2), (3, .int p3)] := hl
  have hin : ∀ w ∈ wsX00, w ∈ wsX0_tie := by decide +kernel
  have hx := S.1
  have hb := S.2.1
  have hts := S.2.2.2.2
  have hown := S.2.2.2.1
  have hC : 0 + C ≤ C := by omega
  have hN : 0 + N ≤ N := by omega
  unfold fX0_tie at hg
  refine lv_aload_n hx hb dX0_tie_0 rfl (lv_at hl 0 rfl) ?_
  refine lv_iload_n hx hb dX0_tie_1 rfl (lv_at hl 1 rfl) ?_
  refine lv_iload_n hx hb dX0_tie_2 rfl (lv_at hl 2 rfl) ?_
  rcases bndX_e hg with ⟨e1, hc1, er⟩ | ⟨a1, σ1, c1, n1, C1, N1, hc1, hg, eC, eN⟩
  · subst er
    exact oxt_ix S hK hA hZ hI hno hlocks (As := [.int p1, .int p2]) (rest := []) (kX0_linkSlot l htr G h0 h H.size F σ p1 p2 _ _ _ _ hc1) (cwV 2 hts gX0_tie_X0_linkSlot rfl rfl rfl nX0_linkSlot ⟨Nat.le_of_ble_eq_true rfl, Nat.le_of_ble_eq_true rfl⟩) rfl hl.1 rfl (Nat.le_of_ble_eq_true rfl) dX0_tie_3 ⟨by show 0 + C ≤ C; omega, by show 0 + N ≤ N; omega⟩ rfl (by omega) (by omega)
  · refine oxc_i S hK hA hZ hI (As := [.int p1, .int p2]) (rest := []) (kX0_linkSlot l htr G h0 h H.size F σ p1 p2 _ _ _ _ hc1) (cwV 2 hts gX0_tie_X0_linkSlot rfl rfl rfl nX0_linkSlot ⟨Nat.le_of_ble_eq_true rfl, Nat.le_of_ble_eq_true rfl⟩) rfl hl.1 rfl (Nat.le_of_ble_eq_true rfl) dX0_tie_3 ⟨by show 0 + c1 ≤ C; omega, by show 0 + n1 ≤ N; omega⟩ (fun H locs hI => ?_)
    have hC : (0 + c1) + C1 ≤ C := by omega
    have hN : (0 + n1) + N1 ≤ N := by omega
    refine lv_istore (lv' := [(4, .int a1), (0, .ref h0), (1, .int p1), (2, .int p2), (3, .int p3)]) hx hb dX0_tie_6 hl (by decide) rfl (fun ls hl => ?_)
    refine lv_iload_n hx hb dX0_tie_8 rfl (lv_at hl 4 rfl) ?_
    rcases bndN_e hg with ⟨e2, hc3, er, eσ, eC, eN⟩ | ⟨hc3, hg⟩
    · subst er; subst eσ
      exact ont_x (mc := 1) (ms := 6) S hK hA hZ hI hno hlocks (As := [.int p3]) (rest := []) (kX0_needRoot l htr H.size F p3 (.inl e2) hc3) (va_cwS 1 hts gX0_tie_X0_needRoot rfl rfl rfl nX0_needRoot ⟨Nat.le_of_ble_eq_true rfl, Nat.le_of_ble_eq_true rfl⟩) rfl hl.1 rfl (Nat.le_of_ble_eq_true rfl) dX0_tie_9 ⟨by show (0 + c1) + 1 ≤ C; omega, by show (0 + n1) + 6 ≤ N; omega⟩ rfl (by show (0 + c1) + 1 ≤ C; omega) (by show (0 + n1) + 6 ≤ N; omega)
    · refine onv (mc := 0) (ms := 0) S hA hZ hI (As := [.int p3]) (rest := []) (kX0_needRoot l htr H.size F p3 (.inr ()) hc3) (va_cwS 1 hts gX0_tie_X0_needRoot rfl rfl rfl nX0_needRoot ⟨Nat.le_of_ble_eq_true rfl, Nat.le_of_ble_eq_true rfl⟩) rfl hl.1 rfl (Nat.le_of_ble_eq_true rfl) dX0_tie_9 ⟨by show (0 + c1) + 0 ≤ C; omega, by show (0 + n1) + 0 ≤ N; omega⟩ (fun H locs hI => ?_)
      refine lv_aload_n hx hb dX0_tie_12 rfl (lv_at hl 1 rfl) ?_
      refine og_words S hin hK hI (ix := 23) (by decide +kernel) dX0_tie_13 ?_
      refine lv_iload hx hb dX0_tie_16 (lv_at hl 0 rfl) ?_
      refine lv_aload_n hx hb dX0_tie_18 rfl (lv_at hl 1 rfl) ?_
      refine og_roots S hin hK hI (ix := 30) (by decide +kernel) dX0_tie_19 ?_
      refine lv_iload_n hx hb dX0_tie_22 rfl (lv_at hl 4 rfl) ?_
      obtain ⟨c4, hg⟩ := ck_e hg
      obtain ⟨x5, ex5, hg⟩ := nmd_e hg
      refine or_roots S hK hI c4 ex5 dX0_tie_23 ?_
      obtain ⟨c6, hg⟩ := ck_e hg
      obtain ⟨σ7, eσ7, hg⟩ := nmd_e hg
      refine ou_words S hK hI c6 eσ7 dX0_tie_24 (fun H locs hI => ?_)
      exact oxe_v S hr hlocks hK hI rfl hg (by omega) (by omega) dX0_tie_25
-- OwnMemory.lead (may throw)
abbrev rX0_lead (C N : Nat) : Room := { frames := 9, cells := C, slots := N, locals := 155 }
theorem nX0_lead : yX0_lead.cls = RX0 ∧ yX0_lead.cls ≠ "java/lang/invoke/MethodHandle" ∧ yX0_lead.cls ≠ "java/lang/invoke/VarHandle" ∧ (parseMethodDescriptor yX0_lead.desc).map (fun d => d.parameters.length) = some 3 := by decide +kernel
noncomputable def fX0_lead (F : Nat) (σ : oS) (p1 : Int32) (p2 : Int32) (p3 : Int32) : xT Unit := bndX (fX0_linkSlot F σ p1 p2) (fun a1 σ1 => bndN (fX0_needRoot F p3) σ1 (ck (vp_in a1 (o_lw σ1)) (nmd (o_fw σ1 a1.toNatClampNeg) (fun x5 => ck (vp_in p3 24) (nmd (o_s_fr σ1 (upd (o_fr σ1) p3.toNatClampNeg x5)) (fun σ7 => some (.inr (), σ7, 0, 0)))))))
set_option maxHeartbeats 4000000 in
set_option maxRecDepth 100000 in
theorem kX0_lead (l : Launch) (htr : l.stackTraces = false) (G : gT) (h0 : Nat) (h : oH) (sz F : Nat) (σ : oS) (p1 : Int32) (p2 : Int32) (p3 : Int32) (r : Int32 ⊕ Unit) (σr : oS) (C N : Nat) (hg : fX0_lead F σ p1 p2 p3 = some (r, σr, C, N)) : vx_Met l yX0_lead wsX0_lead (rX0_lead C N) (oPreX G h0 h σ sz [.int p1, .int p2, .int p3]) (oxv G h0 h r σr (oA G h0 h σ sz)) (oxX G h0 h r σr (oA G h0 h σ sz)) C N (oA G h0 h σ sz) := by
  refine oxMet (Qc := oxv G h0 h r σr) (XC := oxX G h0 h r σr) (by decide +kernel) rfl rfl (Nat.le_of_ble_eq_true rfl) ?_
  intro p e s m args below meth c A S hr hlocks hno hK hA hZ H locs hI ls hl
  have hl : lv_has ls 5 [(0, .ref h0), (1, .int p1), (2, .int p2), (3, .int p3)] := hl
  have hin : ∀ w ∈ wsX00, w ∈ wsX0_lead := by decide +kernel
  have hx := S.1
  have hb := S.2.1
  have hts := S.2.2.2.2
  have hown := S.2.2.2.1
  have hC : 0 + C ≤ C := by omega
  have hN : 0 + N ≤ N := by omega
  unfold fX0_lead at hg
  refine lv_aload_n hx hb dX0_lead_0 rfl (lv_at hl 0 rfl) ?_
  refine lv_iload_n hx hb dX0_lead_1 rfl (lv_at hl 1 rfl) ?_
  refine lv_iload_n hx hb dX0_lead_2 rfl (lv_at hl 2 rfl) ?_
  rcases bndX_e hg with ⟨e1, hc1, er⟩ | ⟨a1, σ1, c1, n1, C1, N1, hc1, hg, eC, eN⟩
  · subst er
    exact oxt_ix S hK hA hZ hI hno hlocks (As := [.int p1, .int p2]) (rest := []) (kX0_linkSlot l htr G h0 h H.size F σ p1 p2 _ _ _ _ hc1) (cwV 2 hts gX0_lead_X0_linkSlot rfl rfl rfl nX0_linkSlot ⟨Nat.le_of_ble_eq_true rfl, Nat.le_of_ble_eq_true rfl⟩) rfl hl.1 rfl (Nat.le_of_ble_eq_true rfl) dX0_lead_3 ⟨by show 0 + C ≤ C; omega, by show 0 + N ≤ N; omega⟩ rfl (by omega) (by omega)
  · refine oxc_i S hK hA hZ hI (As := [.int p1, .int p2]) (rest := []) (kX0_linkSlot l htr G h0 h H.size F σ p1 p2 _ _ _ _ hc1) (cwV 2 hts gX0_lead_X0_linkSlot rfl rfl rfl nX0_linkSlot ⟨Nat.le_of_ble_eq_true rfl, Nat.le_of_ble_eq_true rfl⟩) rfl hl.1 rfl (Nat.le_of_ble_eq_true rfl) dX0_lead_3 ⟨by show 0 + c1 ≤ C; omega, by show 0 + n1 ≤ N; omega⟩ (fun H locs hI => ?_)
    have hC : (0 + c1) + C1 ≤ C := by omega
    have hN : (0 + n1) + N1 ≤ N := by omega
    refine lv_istore (lv' := [(4, .int a1), (0, .ref h0), (1, .int p1), (2, .int p2), (3, .int p3)]) hx hb dX0_lead_6 hl (by decide) rfl (fun ls hl => ?_)
    refine lv_iload_n hx hb dX0_lead_8 rfl (lv_at hl 4 rfl) ?_
    rcases bndN_e hg with ⟨e2, hc3, er, eσ, eC, eN⟩ | ⟨hc3, hg⟩
    · subst er; subst eσ
      exact ont_x (mc := 1) (ms := 6) S hK hA hZ hI hno hlocks (As := [.int p3]) (rest := []) (kX0_needRoot l htr H.size F p3 (.inl e2) hc3) (va_cwS 1 hts gX0_lead_X0_needRoot rfl rfl rfl nX0_needRoot ⟨Nat.le_of_ble_eq_true rfl, Nat.le_of_ble_eq_true rfl⟩) rfl hl.1 rfl (Nat.le_of_ble_eq_true rfl) dX0_lead_9 ⟨by show (0 + c1) + 1 ≤ C; omega, by show (0 + n1) + 6 ≤ N; omega⟩ rfl (by show (0 + c1) + 1 ≤ C; omega) (by show (0 + n1) + 6 ≤ N; omega)
    · refine onv (mc := 0) (ms := 0) S hA hZ hI (As := [.int p3]) (rest := []) (kX0_needRoot l htr H.size F p3 (.inr ()) hc3) (va_cwS 1 hts gX0_lead_X0_needRoot rfl rfl rfl nX0_needRoot ⟨Nat.le_of_ble_eq_true rfl, Nat.le_of_ble_eq_true rfl⟩) rfl hl.1 rfl (Nat.le_of_ble_eq_true rfl) dX0_lead_9 ⟨by show (0 + c1) + 0 ≤ C; omega, by show (0 + n1) + 0 ≤ N; omega⟩ (fun H locs hI => ?_)
      refine lv_aload_n hx hb dX0_lead_12 rfl (lv_at hl 1 rfl) ?_
      refine og_roots S hin hK hI (ix := 30) (by decide +kernel) dX0_lead_13 ?_
      refine lv_iload_n hx hb dX0_lead_16 rfl (lv_at hl 4 rfl) ?_
      refine lv_aload_n hx hb dX0_lead_17 rfl (lv_at hl 1 rfl) ?_
      refine og_words S hin hK hI (ix := 23) (by decide +kernel) dX0_lead_18 ?_
      refine lv_iload hx hb dX0_lead_21 (lv_at hl 0 rfl) ?_
      obtain ⟨c4, hg⟩ := ck_e hg
      obtain ⟨x5, ex5, hg⟩ := nmd_e hg
      refine or_words S hK hI c4 ex5 dX0_lead_23 ?_
      obtain ⟨c6, hg⟩ := ck_e hg
      obtain ⟨σ7, eσ7, hg⟩ := nmd_e hg
      refine ou_roots S hK hI c6 eσ7 dX0_lead_24 (fun H locs hI => ?_)
      exact oxe_v S hr hlocks hK hI rfl hg (by omega) (by omega) dX0_lead_25
-- OwnMemory.number (may throw)
abbrev rX0_number (C N : Nat) : Room := { frames := 9, cells := C, slots := N, locals := 155 }
theorem nX0_number : yX0_number.cls = RX0 ∧ yX0_number.cls ≠ "java/lang/invoke/MethodHandle" ∧ yX0_number.cls ≠ "java/lang/invoke/VarHandle" ∧ (parseMethodDescriptor yX0_number.desc).map (fun d => d.parameters.length) = some 3 := by decide +kernel
noncomputable def fX0_number (F : Nat) (σ : oS) (p1 : Int32) (p2 : Int32) (p3 : Int64) : xT Unit := bndX (fX0_valueSlot F σ p1 p2) (fun a1 σ1 => nmd (((p3.toUInt64 >>> ((32 : Int32).toInt64.toUInt64 &&& Int64.toUInt64 63)).toInt64).toInt32) (fun x2 => bnp (fX0_isReference F x2) (fun r3 => cIf (r3 = 0) (ck (vp_in a1 (o_lw σ1)) (nmd (o_s_fw σ1 (upd (o_fw σ1) a1.toNatClampNeg x2)) (fun σ6 => ck (vp_in (a1 + 1) (o_lw σ6)) (nmd (o_s_fw σ6 (upd (o_fw σ6) (a1 + 1).toNatClampNeg p3.toInt32)) (fun σ8 => some (.inr (), σ8, 0, 0)))))) (some (.inl 1, σ1, 1, 6)))))
set_option maxHeartbeats 4000000 in
set_option maxRecDepth 100000 in
theorem kX0_number (l : Launch) (htr : l.stackTraces = false) (G : gT) (h0 : Nat) (h : oH) (sz F : Nat) (σ : oS) (p1 : Int32) (p2 : Int32) (p3 : Int64) (r : Int32 ⊕ Unit) (σr : oS) (C N : Nat) (hg : fX0_number F σ p1 p2 p3 = some (r, σr, C, N)) : vx_Met l yX0_number wsX0_number (rX0_number C N) (oPreX G h0 h σ sz [.int p1, .int p2, .long p3]) (oxv G h0 h r σr (oA G h0 h σ sz)) (oxX G h0 h r σr (oA G h0 h σ sz)) C N (oA G h0 h σ sz) := by
  refine oxMet (Qc := oxv G h0 h r σr) (XC := oxX G h0 h r σr) (by decide +kernel) rfl rfl (Nat.le_of_ble_eq_true rfl) ?_
  intro p e s m args below meth c A S hr hlocks hno hK hA hZ H locs hI ls hl
  have hl : lv_has ls 7 [(0, .ref h0), (1, .int p1), (2, .int p2), (3, .long p3)] := hl
  have hin : ∀ w ∈ wsX00, w ∈ wsX0_number := by decide +kernel
  have hx := S.1
  have hb := S.2.1
  have hts := S.2.2.2.2
  have hown := S.2.2.2.1
  have hC : 0 + C ≤ C := by omega
  have hN : 0 + N ≤ N := by omega
  unfold fX0_number at hg
  refine lv_aload_n hx hb dX0_number_0 rfl (lv_at hl 0 rfl) ?_
  refine lv_iload_n hx hb dX0_number_1 rfl (lv_at hl 1 rfl) ?_
  refine lv_iload_n hx hb dX0_number_2 rfl (lv_at hl 2 rfl) ?_
  rcases bndX_e hg with ⟨e1, hc1, er⟩ | ⟨a1, σ1, c1, n1, C1, N1, hc1, hg, eC, eN⟩
  · subst er
    exact oxt_ix S hK hA hZ hI hno hlocks (As := [.int p1, .int p2]) (rest := []) (kX0_valueSlot l htr G h0 h H.size F σ p1 p2 _ _ _ _ hc1) (cwV 2 hts gX0_number_X0_valueSlot rfl rfl rfl nX0_valueSlot ⟨Nat.le_of_ble_eq_true rfl, Nat.le_of_ble_eq_true rfl⟩) rfl hl.1 rfl (Nat.le_of_ble_eq_true rfl) dX0_number_3 ⟨by show 0 + C ≤ C; omega, by show 0 + N ≤ N; omega⟩ rfl (by omega) (by omega)
  · refine oxc_i S hK hA hZ hI (As := [.int p1, .int p2]) (rest := []) (kX0_valueSlot l htr G h0 h H.size F σ p1 p2 _ _ _ _ hc1) (cwV 2 hts gX0_number_X0_valueSlot rfl rfl rfl nX0_valueSlot ⟨Nat.le_of_ble_eq_true rfl, Nat.le_of_ble_eq_true rfl⟩) rfl hl.1 rfl (Nat.le_of_ble_eq_true rfl) dX0_number_3 ⟨by show 0 + c1 ≤ C; omega, by show 0 + n1 ≤ N; omega⟩ (fun H locs hI => ?_)
    have hC : (0 + c1) + C1 ≤ C := by omega
    have hN : (0 + n1) + N1 ≤ N := by omega
    refine lv_istore (lv' := [(5, .int a1), (0, .ref h0), (1, .int p1), (2, .int p2), (3, .long p3)]) hx hb dX0_number_6 hl (by decide) rfl (fun ls hl => ?_)
    refine lv_lload_n hx hb dX0_number_8 rfl (lv_at hl 4 rfl) ?_
    refine lv_bipush (v := 32) hx hb dX0_number_9 (by decide) ?_
    refine lv_lushr (v := (p3.toUInt64 >>> ((32 : Int32).toInt64.toUInt64 &&& Int64.toUInt64 63)).toInt64) hx hb dX0_number_11 rfl ?_
    refine lv_l2i (v := ((p3.toUInt64 >>> ((32 : Int32).toInt64.toUInt64 &&& Int64.toUInt64 63)).toInt64).toInt32) hx hb dX0_number_12 rfl ?_
    obtain ⟨x2, ex2, hg⟩ := nmd_e hg
    refine wn_i ex2 ?_
    refine lv_istore (lv' := [(6, .int x2), (5, .int a1), (0, .ref h0), (1, .int p1), (2, .int p2), (3, .long p3)]) hx hb dX0_number_13 hl (by decide) rfl (fun ls hl => ?_)
    refine lv_iload hx hb dX0_number_15 (lv_at hl 0 rfl) ?_
    obtain ⟨r3, er3, hg⟩ := bnp_e hg
    refine os_i S hA hI (As := [.int x2]) (rest := []) (kX0_isReference l H.size F x2 r3 er3) (va_cwS 1 hts gX0_number_X0_isReference rfl rfl rfl nX0_isReference ⟨Nat.le_of_ble_eq_true rfl, Nat.le_of_ble_eq_true rfl⟩) rfl hl.1 rfl (Nat.le_of_ble_eq_true rfl) dX0_number_17 ⟨by show (0 + c1) + 0 ≤ C; omega, by show (0 + n1) + 0 ≤ N; omega⟩ (fun H locs hI => ?_)
    refine lv_if_eq (tgt := 33) hx hb dX0_number_20 (by decide) (fun c4 => ?_) (fun c4 => ?_)
    · have hg := cIf_te c4 hg
      refine lv_aload_n hx hb dX0_number_33 rfl (lv_at hl 2 rfl) ?_
      refine og_words S hin hK hI (ix := 23) (by decide +kernel) dX0_number_34 ?_
      refine lv_iload hx hb dX0_number_37 (lv_at hl 1 rfl) ?_
      refine lv_iload hx hb dX0_number_39 (lv_at hl 0 rfl) ?_
      obtain ⟨c5, hg⟩ := ck_e hg
      obtain ⟨σ6, eσ6, hg⟩ := nmd_e hg
      refine ou_words S hK hI c5 eσ6 dX0_number_41 (fun H locs hI => ?_)
      refine lv_aload_n hx hb dX0_number_42 rfl (lv_at hl 2 rfl) ?_
      refine og_words S hin hK hI (ix := 23) (by decide +kernel) dX0_number_43 ?_
      refine lv_iload hx hb dX0_number_46 (lv_at hl 1 rfl) ?_
      refine lv_iconst (v := 1) hx hb dX0_number_48 (by decide) ?_
      refine lv_iadd hx hb dX0_number_49 ?_
      refine lv_lload_n hx hb dX0_number_50 rfl (lv_at hl 5 rfl) ?_
      refine lv_l2i (v := p3.toInt32) hx hb dX0_number_51 rfl ?_
      obtain ⟨c7, hg⟩ := ck_e hg
      obtain ⟨σ8, eσ8, hg⟩ := nmd_e hg
      refine ou_words S hK hI c7 eσ8 dX0_number_52 (fun H locs hI => ?_)
      exact oxe_v S hr hlocks hK hI rfl hg (by omega) (by omega) dX0_number_53
    · have hg := cIf_fe c4 hg
      obtain ⟨e1, e2, e3, e4⟩ := x4_e hg
      subst e1; subst e2
      exact oth1_x S hK hZ hI rfl hno hlocks htr (is := 90) (tx := "kept for references") (by decide +kernel) (by decide +kernel) (by decide +kernel) (by decide +kernel) hl.1 dX0_number_23 dX0_number_26 dX0_number_27 dX0_number_29 dX0_number_32 (Nat.le_of_ble_eq_true rfl) (Nat.le_of_ble_eq_true rfl) (by show ((0 + c1) + 0) + 1 ≤ C; omega) (by show ((0 + n1) + 0) + 6 ≤ N; omega) (by omega) (by omega)
-- OwnMemory.refer (may throw)
abbrev rX0_refer (C N : Nat) : Room := { frames := 9, cells := C, slots := N, locals := 155 }
theorem nX0_refer : yX0_refer.cls = RX0 ∧ yX0_refer.cls ≠ "java/lang/invoke/MethodHandle" ∧ yX0_refer.cls ≠ "java/lang/invoke/VarHandle" ∧ (parseMethodDescriptor yX0_refer.desc).map (fun d => d.parameters.length) = some 3 := by decide +kernel
noncomputable def fX0_refer (F : Nat) (σ : oS) (p1 : Int32) (p2 : Int32) (p3 : Int32) : xT Unit := bndX (fX0_valueSlot F σ p1 p2) (fun a1 σ1 => bndN (fX0_needRoot F p3) σ1 (ck (vp_in p3 24) (nmd (o_fr σ1 p3.toNatClampNeg) (fun x5 => cIf (x5 = (-1)) (some (.inl 1, σ1, 1, 6)) (ck (vp_in a1 (o_lw σ1)) (nmd (o_s_fw σ1 (upd (o_fw σ1) a1.toNatClampNeg (-393216))) (fun σ8 => ck (vp_in p3 24) (nmd (o_fr σ8 p3.toNatClampNeg) (fun x10 => ck (vp_in (a1 + 1) (o_lw σ8)) (nmd (o_s_fw σ8 (upd (o_fw σ8) (a1 + 1).toNatClampNeg x10)) (fun σ12 => some (.inr (), σ12, 0, 0))))))))))))
set_option maxHeartbeats 4000000 in
set_option maxRecDepth 100000 in
theorem kX0_refer (l : Launch) (htr : l.stackTraces = false) (G : gT) (h0 : Nat) (h : oH) (sz F : Nat) (σ : oS) (p1 : Int32) (p2 : Int32) (p3 : Int32) (r : Int32 ⊕ Unit) (σr : oS) (C N : Nat) (hg : fX0_refer F σ p1 p2 p3 = some (r, σr, C, N)) : vx_Met l yX0_refer wsX0_refer (rX0_refer C N) (oPreX G h0 h σ sz [.int p1, .int p2, .int p3]) (oxv G h0 h r σr (oA G h0 h σ sz)) (oxX G h0 h r σr (oA G h0 h σ sz)) C N (oA G h0 h σ sz) := by
  refine oxMet (Qc := oxv G h0 h r σr) (XC := oxX G h0 h r σr) (by decide +kernel) rfl rfl (Nat.le_of_ble_eq_true rfl) ?_
  intro p e s m args below meth c A S hr hlocks hno hK hA hZ H locs hI ls hl
  have hl : lv_has ls 5 [(0, .ref h0), (1, .int p1), (2, .int p2), (3, .int p3)] := hl
  have hin : ∀ w ∈ wsX00, w ∈ wsX0_refer := by decide +kernel
  have hx := S.1
  have hb := S.2.1
  have hts := S.2.2.2.2
  have hown := S.2.2.2.1
  have hC : 0 + C ≤ C := by omega
  have hN : 0 + N ≤ N := by omega
  unfold fX0_refer at hg
  refine lv_aload_n hx hb dX0_refer_0 rfl (lv_at hl 0 rfl) ?_
  refine lv_iload_n hx hb dX0_refer_1 rfl (lv_at hl 1 rfl) ?_
  refine lv_iload_n hx hb dX0_refer_2 rfl (lv_at hl 2 rfl) ?_
  rcases bndX_e hg with ⟨e1, hc1, er⟩ | ⟨a1, σ1, c1, n1, C1, N1, hc1, hg, eC, eN⟩
  · subst er
    exact oxt_ix S hK hA hZ hI hno hlocks (As := [.int p1, .int p2]) (rest := []) (kX0_valueSlot l htr G h0 h H.size F σ p1 p2 _ _ _ _ hc1) (cwV 2 hts gX0_refer_X0_valueSlot rfl rfl rfl nX0_valueSlot ⟨Nat.le_of_ble_eq_true rfl, Nat.le_of_ble_eq_true rfl⟩) rfl hl.1 rfl (Nat.le_of_ble_eq_true rfl) dX0_refer_3 ⟨by show 0 + C ≤ C; omega, by show 0 + N ≤ N; omega⟩ rfl (by omega) (by omega)
  · refine oxc_i S hK hA hZ hI (As := [.int p1, .int p2]) (rest := []) (kX0_valueSlot l htr G h0 h H.size F σ p1 p2 _ _ _ _ hc1) (cwV 2 hts gX0_refer_X0_valueSlot rfl rfl rfl nX0_valueSlot ⟨Nat.le_of_ble_eq_true rfl, Nat.le_of_ble_eq_true rfl⟩) rfl hl.1 rfl (Nat.le_of_ble_eq_true rfl) dX0_refer_3 ⟨by show 0 + c1 ≤ C; omega, by show 0 + n1 ≤ N; omega⟩ (fun H locs hI => ?_)
    have hC : (0 + c1) + C1 ≤ C := by omega
    have hN : (0 + n1) + N1 ≤ N := by omega
    refine lv_istore (lv' := [(4, .int a1), (0, .ref h0), (1, .int p1), (2, .int p2), (3, .int p3)]) hx hb dX0_refer_6 hl (by decide) rfl (fun ls hl => ?_)
    refine lv_iload_n hx hb dX0_refer_8 rfl (lv_at hl 4 rfl) ?_
    rcases bndN_e hg with ⟨e2, hc3, er, eσ, eC, eN⟩ | ⟨hc3, hg⟩
    · subst er; subst eσ
      exact ont_x (mc := 1) (ms := 6) S hK hA hZ hI hno hlocks (As := [.int p3]) (rest := []) (kX0_needRoot l htr H.size F p3 (.inl e2) hc3) (va_cwS 1 hts gX0_refer_X0_needRoot rfl rfl rfl nX0_needRoot ⟨Nat.le_of_ble_eq_true rfl, Nat.le_of_ble_eq_true rfl⟩) rfl hl.1 rfl (Nat.le_of_ble_eq_true rfl) dX0_refer_9 ⟨by show (0 + c1) + 1 ≤ C; omega, by show (0 + n1) + 6 ≤ N; omega⟩ rfl (by show (0 + c1) + 1 ≤ C; omega) (by show (0 + n1) + 6 ≤ N; omega)
    · refine onv (mc := 0) (ms := 0) S hA hZ hI (As := [.int p3]) (rest := []) (kX0_needRoot l htr H.size F p3 (.inr ()) hc3) (va_cwS 1 hts gX0_refer_X0_needRoot rfl rfl rfl nX0_needRoot ⟨Nat.le_of_ble_eq_true rfl, Nat.le_of_ble_eq_true rfl⟩) rfl hl.1 rfl (Nat.le_of_ble_eq_true rfl) dX0_refer_9 ⟨by show (0 + c1) + 0 ≤ C; omega, by show (0 + n1) + 0 ≤ N; omega⟩ (fun H locs hI => ?_)
      refine lv_aload_n hx hb dX0_refer_12 rfl (lv_at hl 1 rfl) ?_
      refine og_roots S hin hK hI (ix := 30) (by decide +kernel) dX0_refer_13 ?_
      refine lv_iload_n hx hb dX0_refer_16 rfl (lv_at hl 4 rfl) ?_
      obtain ⟨c4, hg⟩ := ck_e hg
      obtain ⟨x5, ex5, hg⟩ := nmd_e hg
      refine or_roots S hK hI c4 ex5 dX0_refer_17 ?_
      refine lv_iconst (v := (-1)) hx hb dX0_refer_18 (by decide) ?_
      refine lv_icmp_ne (tgt := 32) hx hb dX0_refer_19 (by decide) (fun c6 => ?_) (fun c6 => ?_)
      · have hg := cIf_fe c6 hg
        refine lv_aload_n hx hb dX0_refer_32 rfl (lv_at hl 1 rfl) ?_
        refine og_words S hin hK hI (ix := 23) (by decide +kernel) dX0_refer_33 ?_
        refine lv_iload hx hb dX0_refer_36 (lv_at hl 0 rfl) ?_
        refine lv_ldc (v := (-393216)) hx hb hown (hts (.constant RX0 94 (-393216)) (by decide +kernel)) dX0_refer_38 ?_
        obtain ⟨c7, hg⟩ := ck_e hg
        obtain ⟨σ8, eσ8, hg⟩ := nmd_e hg
        refine ou_words S hK hI c7 eσ8 dX0_refer_40 (fun H locs hI => ?_)
        refine lv_aload_n hx hb dX0_refer_41 rfl (lv_at hl 1 rfl) ?_
        refine og_words S hin hK hI (ix := 23) (by decide +kernel) dX0_refer_42 ?_
        refine lv_iload hx hb dX0_refer_45 (lv_at hl 0 rfl) ?_
        refine lv_iconst (v := 1) hx hb dX0_refer_47 (by decide) ?_
        refine lv_iadd hx hb dX0_refer_48 ?_
        refine lv_aload_n hx hb dX0_refer_49 rfl (lv_at hl 1 rfl) ?_
        refine og_roots S hin hK hI (ix := 30) (by decide +kernel) dX0_refer_50 ?_
        refine lv_iload_n hx hb dX0_refer_53 rfl (lv_at hl 4 rfl) ?_
        obtain ⟨c9, hg⟩ := ck_e hg
        obtain ⟨x10, ex10, hg⟩ := nmd_e hg
        refine or_roots S hK hI c9 ex10 dX0_refer_54 ?_
        obtain ⟨c11, hg⟩ := ck_e hg
        obtain ⟨σ12, eσ12, hg⟩ := nmd_e hg
        refine ou_words S hK hI c11 eσ12 dX0_refer_55 (fun H locs hI => ?_)
        exact oxe_v S hr hlocks hK hI rfl hg (by omega) (by omega) dX0_refer_56
      · have hg := cIf_te c6 hg
        obtain ⟨e1, e2, e3, e4⟩ := x4_e hg
        subst e1; subst e2
        exact oth1_x S hK hZ hI rfl hno hlocks htr (is := 92) (tx := "nothing to refer to") (by decide +kernel) (by decide +kernel) (by decide +kernel) (by decide +kernel) hl.1 dX0_refer_22 dX0_refer_25 dX0_refer_26 dX0_refer_28 dX0_refer_31 (Nat.le_of_ble_eq_true rfl) (Nat.le_of_ble_eq_true rfl) (by show ((0 + c1) + 0) + 1 ≤ C; omega) (by show ((0 + n1) + 0) + 6 ≤ N; omega) (by omega) (by omega)
-- OwnMemory.bits (may throw)
abbrev rX0_bits (C N : Nat) : Room := { frames := 9, cells := C, slots := N, locals := 155 }
theorem nX0_bits : yX0_bits.cls = RX0 ∧ yX0_bits.cls ≠ "java/lang/invoke/MethodHandle" ∧ yX0_bits.cls ≠ "java/lang/invoke/VarHandle" ∧ (parseMethodDescriptor yX0_bits.desc).map (fun d => d.parameters.length) = some 2 := by decide +kernel
noncomputable def fX0_bits (F : Nat) (σ : oS) (p1 : Int32) (p2 : Int32) : xT Int64 := bndX (fX0_valueSlot F σ p1 p2) (fun a1 σ1 => ck (vp_in a1 (o_lw σ1)) (nmd (o_fw σ1 a1.toNatClampNeg) (fun x3 => bnp (fX0_isReference F x3) (fun r4 => cIf (r4 = 0) (ck (vp_in a1 (o_lw σ1)) (nmd (o_fw σ1 a1.toNatClampNeg) (fun x7 => ck (vp_in (a1 + 1) (o_lw σ1)) (nmd (o_fw σ1 (a1 + 1).toNatClampNeg) (fun x9 => some (.inr ((x7.toInt64 <<< ((32 : Int32).toInt64 &&& 63)) ||| (x9.toInt64 &&& 4294967295)), σ1, 0, 0)))))) (some (.inl 1, σ1, 1, 6))))))
set_option maxHeartbeats 4000000 in
set_option maxRecDepth 100000 in
theorem kX0_bits (l : Launch) (htr : l.stackTraces = false) (G : gT) (h0 : Nat) (h : oH) (sz F : Nat) (σ : oS) (p1 : Int32) (p2 : Int32) (r : Int32 ⊕ Int64) (σr : oS) (C N : Nat) (hg : fX0_bits F σ p1 p2 = some (r, σr, C, N)) : vx_Met l yX0_bits wsX0_bits (rX0_bits C N) (oPreX G h0 h σ sz [.int p1, .int p2]) (oxl G h0 h r σr (oA G h0 h σ sz)) (oxX G h0 h r σr (oA G h0 h σ sz)) C N (oA G h0 h σ sz) := by
  refine oxMet (Qc := oxl G h0 h r σr) (XC := oxX G h0 h r σr) (by decide +kernel) rfl rfl (Nat.le_of_ble_eq_true rfl) ?_
  intro p e s m args below meth c A S hr hlocks hno hK hA hZ H locs hI ls hl
  have hl : lv_has ls 4 [(0, .ref h0), (1, .int p1), (2, .int p2)] := hl
  have hin : ∀ w ∈ wsX00, w ∈ wsX0_bits := by decide +kernel
  have hx := S.1
  have hb := S.2.1
  have hts := S.2.2.2.2
  have hown := S.2.2.2.1
  have hC : 0 + C ≤ C := by omega
  have hN : 0 + N ≤ N := by omega
  unfold fX0_bits at hg
  refine lv_aload_n hx hb dX0_bits_0 rfl (lv_at hl 0 rfl) ?_
  refine lv_iload_n hx hb dX0_bits_1 rfl (lv_at hl 1 rfl) ?_
  refine lv_iload_n hx hb dX0_bits_2 rfl (lv_at hl 2 rfl) ?_
  rcases bndX_e hg with ⟨e1, hc1, er⟩ | ⟨a1, σ1, c1, n1, C1, N1, hc1, hg, eC, eN⟩
  · subst er
    exact oxt_ix S hK hA hZ hI hno hlocks (As := [.int p1, .int p2]) (rest := []) (kX0_valueSlot l htr G h0 h H.size F σ p1 p2 _ _ _ _ hc1) (cwV 2 hts gX0_bits_X0_valueSlot rfl rfl rfl nX0_valueSlot ⟨Nat.le_of_ble_eq_true rfl, Nat.le_of_ble_eq_true rfl⟩) rfl hl.1 rfl (Nat.le_of_ble_eq_true rfl) dX0_bits_3 ⟨by show 0 + C ≤ C; omega, by show 0 + N ≤ N; omega⟩ rfl (by omega) (by omega)
  · refine oxc_i S hK hA hZ hI (As := [.int p1, .int p2]) (rest := []) (kX0_valueSlot l htr G h0 h H.size F σ p1 p2 _ _ _ _ hc1) (cwV 2 hts gX0_bits_X0_valueSlot rfl rfl rfl nX0_valueSlot ⟨Nat.le_of_ble_eq_true rfl, Nat.le_of_ble_eq_true rfl⟩) rfl hl.1 rfl (Nat.le_of_ble_eq_true rfl) dX0_bits_3 ⟨by show 0 + c1 ≤ C; omega, by show 0 + n1 ≤ N; omega⟩ (fun H locs hI => ?_)
    have hC : (0 + c1) + C1 ≤ C := by omega
    have hN : (0 + n1) + N1 ≤ N := by omega
    refine lv_istore_n (lv' := [(3, .int a1), (0, .ref h0), (1, .int p1), (2, .int p2)]) hx hb dX0_bits_6 rfl hl (by decide) rfl (fun ls hl => ?_)
    refine lv_aload_n hx hb dX0_bits_7 rfl (lv_at hl 1 rfl) ?_
    refine og_words S hin hK hI (ix := 23) (by decide +kernel) dX0_bits_8 ?_
    refine lv_iload_n hx hb dX0_bits_11 rfl (lv_at hl 0 rfl) ?_
    obtain ⟨c2, hg⟩ := ck_e hg
    obtain ⟨x3, ex3, hg⟩ := nmd_e hg
    refine or_words S hK hI c2 ex3 dX0_bits_12 ?_
    obtain ⟨r4, er4, hg⟩ := bnp_e hg
    refine os_i S hA hI (As := [.int x3]) (rest := []) (kX0_isReference l H.size F x3 r4 er4) (va_cwS 1 hts gX0_bits_X0_isReference rfl rfl rfl nX0_isReference ⟨Nat.le_of_ble_eq_true rfl, Nat.le_of_ble_eq_true rfl⟩) rfl hl.1 rfl (Nat.le_of_ble_eq_true rfl) dX0_bits_13 ⟨by show (0 + c1) + 0 ≤ C; omega, by show (0 + n1) + 0 ≤ N; omega⟩ (fun H locs hI => ?_)
    refine lv_if_eq (tgt := 29) hx hb dX0_bits_16 (by decide) (fun c5 => ?_) (fun c5 => ?_)
    · have hg := cIf_te c5 hg
      refine lv_aload_n hx hb dX0_bits_29 rfl (lv_at hl 1 rfl) ?_
      refine og_words S hin hK hI (ix := 23) (by decide +kernel) dX0_bits_30 ?_
      refine lv_iload_n hx hb dX0_bits_33 rfl (lv_at hl 0 rfl) ?_
      obtain ⟨c6, hg⟩ := ck_e hg
      obtain ⟨x7, ex7, hg⟩ := nmd_e hg
      refine or_words S hK hI c6 ex7 dX0_bits_34 ?_
      refine lv_i2l (v := x7.toInt64) hx hb dX0_bits_35 rfl ?_
      refine lv_bipush (v := 32) hx hb dX0_bits_36 (by decide) ?_
      refine lv_lshl (v := (x7.toInt64 <<< ((32 : Int32).toInt64 &&& 63))) hx hb dX0_bits_38 rfl ?_
      refine lv_aload_n hx hb dX0_bits_39 rfl (lv_at hl 1 rfl) ?_
      refine og_words S hin hK hI (ix := 23) (by decide +kernel) dX0_bits_40 ?_
      refine lv_iload_n hx hb dX0_bits_43 rfl (lv_at hl 0 rfl) ?_
      refine lv_iconst (v := 1) hx hb dX0_bits_44 (by decide) ?_
      refine lv_iadd hx hb dX0_bits_45 ?_
      obtain ⟨c8, hg⟩ := ck_e hg
      obtain ⟨x9, ex9, hg⟩ := nmd_e hg
      refine or_words S hK hI c8 ex9 dX0_bits_46 ?_
      refine lv_i2l (v := x9.toInt64) hx hb dX0_bits_47 rfl ?_
      refine lv_ldc2 (v := 4294967295) hx hb hown (hts (.constantLong RX0 97 (4294967295)) (by decide +kernel)) dX0_bits_48 ?_
      refine lv_land hx hb dX0_bits_51 ?_
      refine lv_lor hx hb dX0_bits_52 ?_
      exact oxe_l S hr hlocks hK hI rfl hg (by omega) (by omega) dX0_bits_53
    · have hg := cIf_fe c5 hg
      obtain ⟨e1, e2, e3, e4⟩ := x4_e hg
      subst e1; subst e2
      exact oth1_x S hK hZ hI rfl hno hlocks htr (is := 95) (tx := "a reference") (by decide +kernel) (by decide +kernel) (by decide +kernel) (by decide +kernel) hl.1 dX0_bits_19 dX0_bits_22 dX0_bits_23 dX0_bits_25 dX0_bits_28 (Nat.le_of_ble_eq_true rfl) (Nat.le_of_ble_eq_true rfl) (by show ((0 + c1) + 0) + 1 ≤ C; omega) (by show ((0 + n1) + 0) + 6 ≤ N; omega) (by omega) (by omega)
-- OwnMemory.follow (may throw)
abbrev rX0_follow (C N : Nat) : Room := { frames := 9, cells := C, slots := N, locals := 155 }
theorem nX0_follow : yX0_follow.cls = RX0 ∧ yX0_follow.cls ≠ "java/lang/invoke/MethodHandle" ∧ yX0_follow.cls ≠ "java/lang/invoke/VarHandle" ∧ (parseMethodDescriptor yX0_follow.desc).map (fun d => d.parameters.length) = some 3 := by decide +kernel
noncomputable def fX0_follow (F : Nat) (σ : oS) (p1 : Int32) (p2 : Int32) (p3 : Int32) : xT Int32 := bndX (fX0_valueSlot F σ p1 p2) (fun a1 σ1 => bndN (fX0_needRoot F p3) σ1 (ck (vp_in a1 (o_lw σ1)) (nmd (o_fw σ1 a1.toNatClampNeg) (fun x5 => bnp (fX0_isReference F x5) (fun r6 => cIf (r6 = 0) (some (.inr 0, σ1, 0, 0)) (ck (vp_in (a1 + 1) (o_lw σ1)) (nmd (o_fw σ1 (a1 + 1).toNatClampNeg) (fun x9 => ck (vp_in p3 24) (nmd (o_s_fr σ1 (upd (o_fr σ1) p3.toNatClampNeg x9)) (fun σ11 => some (.inr 1, σ11, 0, 0)))))))))))
set_option maxHeartbeats 4000000 in
set_option maxRecDepth 100000 in
theorem kX0_follow (l : Launch) (htr : l.stackTraces = false) (G : gT) (h0 : Nat) (h : oH) (sz F : Nat) (σ : oS) (p1 : Int32) (p2 : Int32) (p3 : Int32) (r : Int32 ⊕ Int32) (σr : oS) (C N : Nat) (hg : fX0_follow F σ p1 p2 p3 = some (r, σr, C, N)) : vx_Met l yX0_follow wsX0_follow (rX0_follow C N) (oPreX G h0 h σ sz [.int p1, .int p2, .int p3]) (oxi G h0 h r σr (oA G h0 h σ sz)) (oxX G h0 h r σr (oA G h0 h σ sz)) C N (oA G h0 h σ sz) := by
  refine oxMet (Qc := oxi G h0 h r σr) (XC := oxX G h0 h r σr) (by decide +kernel) rfl rfl (Nat.le_of_ble_eq_true rfl) ?_
  intro p e s m args below meth c A S hr hlocks hno hK hA hZ H locs hI ls hl
  have hl : lv_has ls 5 [(0, .ref h0), (1, .int p1), (2, .int p2), (3, .int p3)] := hl
  have hin : ∀ w ∈ wsX00, w ∈ wsX0_follow := by decide +kernel
  have hx := S.1
  have hb := S.2.1
  have hts := S.2.2.2.2
  have hown := S.2.2.2.1
  have hC : 0 + C ≤ C := by omega
  have hN : 0 + N ≤ N := by omega
  unfold fX0_follow at hg
  refine lv_aload_n hx hb dX0_follow_0 rfl (lv_at hl 0 rfl) ?_
  refine lv_iload_n hx hb dX0_follow_1 rfl (lv_at hl 1 rfl) ?_
  refine lv_iload_n hx hb dX0_follow_2 rfl (lv_at hl 2 rfl) ?_
  rcases bndX_e hg with ⟨e1, hc1, er⟩ | ⟨a1, σ1, c1, n1, C1, N1, hc1, hg, eC, eN⟩
  · subst er
    exact oxt_ix S hK hA hZ hI hno hlocks (As := [.int p1, .int p2]) (rest := []) (kX0_valueSlot l htr G h0 h H.size F σ p1 p2 _ _ _ _ hc1) (cwV 2 hts gX0_follow_X0_valueSlot rfl rfl rfl nX0_valueSlot ⟨Nat.le_of_ble_eq_true rfl, Nat.le_of_ble_eq_true rfl⟩) rfl hl.1 rfl (Nat.le_of_ble_eq_true rfl) dX0_follow_3 ⟨by show 0 + C ≤ C; omega, by show 0 + N ≤ N; omega⟩ rfl (by omega) (by omega)
  · refine oxc_i S hK hA hZ hI (As := [.int p1, .int p2]) (rest := []) (kX0_valueSlot l htr G h0 h H.size F σ p1 p2 _ _ _ _ hc1) (cwV 2 hts gX0_follow_X0_valueSlot rfl rfl rfl nX0_valueSlot ⟨Nat.le_of_ble_eq_true rfl, Nat.le_of_ble_eq_true rfl⟩) rfl hl.1 rfl (Nat.le_of_ble_eq_true rfl) dX0_follow_3 ⟨by show 0 + c1 ≤ C; omega, by show 0 + n1 ≤ N; omega⟩ (fun H locs hI => ?_)
    have hC : (0 + c1) + C1 ≤ C := by omega
    have hN : (0 + n1) + N1 ≤ N := by omega
    refine lv_istore (lv' := [(4, .int a1), (0, .ref h0), (1, .int p1), (2, .int p2), (3, .int p3)]) hx hb dX0_follow_6 hl (by decide) rfl (fun ls hl => ?_)
    refine lv_iload_n hx hb dX0_follow_8 rfl (lv_at hl 4 rfl) ?_
    rcases bndN_e hg with ⟨e2, hc3, er, eσ, eC, eN⟩ | ⟨hc3, hg⟩
    · subst er; subst eσ
      exact ont_x (mc := 1) (ms := 6) S hK hA hZ hI hno hlocks (As := [.int p3]) (rest := []) (kX0_needRoot l htr H.size F p3 (.inl e2) hc3) (va_cwS 1 hts gX0_follow_X0_needRoot rfl rfl rfl nX0_needRoot ⟨Nat.le_of_ble_eq_true rfl, Nat.le_of_ble_eq_true rfl⟩) rfl hl.1 rfl (Nat.le_of_ble_eq_true rfl) dX0_follow_9 ⟨by show (0 + c1) + 1 ≤ C; omega, by show (0 + n1) + 6 ≤ N; omega⟩ rfl (by show (0 + c1) + 1 ≤ C; omega) (by show (0 + n1) + 6 ≤ N; omega)
    · refine onv (mc := 0) (ms := 0) S hA hZ hI (As := [.int p3]) (rest := []) (kX0_needRoot l htr H.size F p3 (.inr ()) hc3) (va_cwS 1 hts gX0_follow_X0_needRoot rfl rfl rfl nX0_needRoot ⟨Nat.le_of_ble_eq_true rfl, Nat.le_of_ble_eq_true rfl⟩) rfl hl.1 rfl (Nat.le_of_ble_eq_true rfl) dX0_follow_9 ⟨by show (0 + c1) + 0 ≤ C; omega, by show (0 + n1) + 0 ≤ N; omega⟩ (fun H locs hI => ?_)
      refine lv_aload_n hx hb dX0_follow_12 rfl (lv_at hl 1 rfl) ?_
      refine og_words S hin hK hI (ix := 23) (by decide +kernel) dX0_follow_13 ?_
      refine lv_iload hx hb dX0_follow_16 (lv_at hl 0 rfl) ?_
      obtain ⟨c4, hg⟩ := ck_e hg
      obtain ⟨x5, ex5, hg⟩ := nmd_e hg
      refine or_words S hK hI c4 ex5 dX0_follow_18 ?_
      obtain ⟨r6, er6, hg⟩ := bnp_e hg
      refine os_i S hA hI (As := [.int x5]) (rest := []) (kX0_isReference l H.size F x5 r6 er6) (va_cwS 1 hts gX0_follow_X0_isReference rfl rfl rfl nX0_isReference ⟨Nat.le_of_ble_eq_true rfl, Nat.le_of_ble_eq_true rfl⟩) rfl hl.1 rfl (Nat.le_of_ble_eq_true rfl) dX0_follow_19 ⟨by show ((0 + c1) + 0) + 0 ≤ C; omega, by show ((0 + n1) + 0) + 0 ≤ N; omega⟩ (fun H locs hI => ?_)
      refine lv_if_ne (tgt := 27) hx hb dX0_follow_22 (by decide) (fun c7 => ?_) (fun c7 => ?_)
      · have hg := cIf_fe c7 hg
        refine lv_aload_n hx hb dX0_follow_27 rfl (lv_at hl 1 rfl) ?_
        refine og_roots S hin hK hI (ix := 30) (by decide +kernel) dX0_follow_28 ?_
        refine lv_iload_n hx hb dX0_follow_31 rfl (lv_at hl 4 rfl) ?_
        refine lv_aload_n hx hb dX0_follow_32 rfl (lv_at hl 1 rfl) ?_
        refine og_words S hin hK hI (ix := 23) (by decide +kernel) dX0_follow_33 ?_
        refine lv_iload hx hb dX0_follow_36 (lv_at hl 0 rfl) ?_
        refine lv_iconst (v := 1) hx hb dX0_follow_38 (by decide) ?_
        refine lv_iadd hx hb dX0_follow_39 ?_
        obtain ⟨c8, hg⟩ := ck_e hg
        obtain ⟨x9, ex9, hg⟩ := nmd_e hg
        refine or_words S hK hI c8 ex9 dX0_follow_40 ?_
        obtain ⟨c10, hg⟩ := ck_e hg
        obtain ⟨σ11, eσ11, hg⟩ := nmd_e hg
        refine ou_roots S hK hI c10 eσ11 dX0_follow_41 (fun H locs hI => ?_)
        refine lv_iconst (v := 1) hx hb dX0_follow_42 (by decide) ?_
        exact oxe_z S hr hlocks hK hI rfl rfl hg (by omega) (by omega) dX0_follow_43
      · have hg := cIf_te c7 hg
        refine lv_iconst (v := 0) hx hb dX0_follow_25 (by decide) ?_
        exact oxe_z S hr hlocks hK hI rfl rfl hg (by omega) (by omega) dX0_follow_26
-- OwnMemory.set (may throw)
abbrev rX0_set (C N : Nat) : Room := { frames := 9, cells := C, slots := N, locals := 156 }
theorem nX0_set : yX0_set.cls = RX0 ∧ yX0_set.cls ≠ "java/lang/invoke/MethodHandle" ∧ yX0_set.cls ≠ "java/lang/invoke/VarHandle" ∧ (parseMethodDescriptor yX0_set.desc).map (fun d => d.parameters.length) = some 3 := by decide +kernel
noncomputable def fX0_set (F : Nat) (σ : oS) (p1 : Int32) (p2 : Int32) (p3 : Int32) : xT Unit := bndX (fX0_plainSlot F σ p1 p2) (fun a1 σ1 => ck (vp_in a1 (o_lw σ1)) (nmd (o_s_fw σ1 (upd (o_fw σ1) a1.toNatClampNeg p3)) (fun σ3 => some (.inr (), σ3, 0, 0))))
set_option maxHeartbeats 4000000 in
set_option maxRecDepth 100000 in
theorem kX0_set (l : Launch) (htr : l.stackTraces = false) (G : gT) (h0 : Nat) (h : oH) (sz F : Nat) (σ : oS) (p1 : Int32) (p2 : Int32) (p3 : Int32) (r : Int32 ⊕ Unit) (σr : oS) (C N : Nat) (hg : fX0_set F σ p1 p2 p3 = some (r, σr, C, N)) : vx_Met l yX0_set wsX0_set (rX0_set C N) (oPreX G h0 h σ sz [.int p1, .int p2, .int p3]) (oxv G h0 h r σr (oA G h0 h σ sz)) (oxX G h0 h r σr (oA G h0 h σ sz)) C N (oA G h0 h σ sz) := by
  refine oxMet (Qc := oxv G h0 h r σr) (XC := oxX G h0 h r σr) (by decide +kernel) rfl rfl (Nat.le_of_ble_eq_true rfl) ?_
  intro p e s m args below meth c A S hr hlocks hno hK hA hZ H locs hI ls hl
  have hl : lv_has ls 4 [(0, .ref h0), (1, .int p1), (2, .int p2), (3, .int p3)] := hl
  have hin : ∀ w ∈ wsX00, w ∈ wsX0_set := by decide +kernel
  have hx := S.1
  have hb := S.2.1
  have hts := S.2.2.2.2
  have hown := S.2.2.2.1
  have hC : 0 + C ≤ C := by omega
  have hN : 0 + N ≤ N := by omega
  unfold fX0_set at hg
  refine lv_aload_n hx hb dX0_set_0 rfl (lv_at hl 0 rfl) ?_
  refine og_words S hin hK hI (ix := 23) (by decide +kernel) dX0_set_1 ?_
  refine lv_aload_n hx hb dX0_set_4 rfl (lv_at hl 0 rfl) ?_
  refine lv_iload_n hx hb dX0_set_5 rfl (lv_at hl 1 rfl) ?_
  refine lv_iload_n hx hb dX0_set_6 rfl (lv_at hl 2 rfl) ?_
  rcases bndX_e hg with ⟨e1, hc1, er⟩ | ⟨a1, σ1, c1, n1, C1, N1, hc1, hg, eC, eN⟩
  · subst er
    exact oxt_ix S hK hA hZ hI hno hlocks (As := [.int p1, .int p2]) (rest := [.ref h.1]) (kX0_plainSlot l htr G h0 h H.size F σ p1 p2 _ _ _ _ hc1) (cwV 2 hts gX0_set_X0_plainSlot rfl rfl rfl nX0_plainSlot ⟨Nat.le_of_ble_eq_true rfl, Nat.le_of_ble_eq_true rfl⟩) rfl hl.1 rfl (Nat.le_of_ble_eq_true rfl) dX0_set_7 ⟨by show 0 + C ≤ C; omega, by show 0 + N ≤ N; omega⟩ rfl (by omega) (by omega)
  · refine oxc_i S hK hA hZ hI (As := [.int p1, .int p2]) (rest := [.ref h.1]) (kX0_plainSlot l htr G h0 h H.size F σ p1 p2 _ _ _ _ hc1) (cwV 2 hts gX0_set_X0_plainSlot rfl rfl rfl nX0_plainSlot ⟨Nat.le_of_ble_eq_true rfl, Nat.le_of_ble_eq_true rfl⟩) rfl hl.1 rfl (Nat.le_of_ble_eq_true rfl) dX0_set_7 ⟨by show 0 + c1 ≤ C; omega, by show 0 + n1 ≤ N; omega⟩ (fun H locs hI => ?_)
    have hC : (0 + c1) + C1 ≤ C := by omega
    have hN : (0 + n1) + N1 ≤ N := by omega
    refine lv_iload_n hx hb dX0_set_10 rfl (lv_at hl 3 rfl) ?_
    obtain ⟨c2, hg⟩ := ck_e hg
    obtain ⟨σ3, eσ3, hg⟩ := nmd_e hg
    refine ou_words S hK hI c2 eσ3 dX0_set_11 (fun H locs hI => ?_)
    exact oxe_v S hr hlocks hK hI rfl hg (by omega) (by omega) dX0_set_12
-- OwnMemory.get (may throw)
abbrev rX0_get (C N : Nat) : Room := { frames := 9, cells := C, slots := N, locals := 156 }
theorem nX0_get : yX0_get.cls = RX0 ∧ yX0_get.cls ≠ "java/lang/invoke/MethodHandle" ∧ yX0_get.cls ≠ "java/lang/invoke/VarHandle" ∧ (parseMethodDescriptor yX0_get.desc).map (fun d => d.parameters.length) = some 2 := by decide +kernel
noncomputable def fX0_get (F : Nat) (σ : oS) (p1 : Int32) (p2 : Int32) : xT Int32 := bndX (fX0_plainSlot F σ p1 p2) (fun a1 σ1 => ck (vp_in a1 (o_lw σ1)) (nmd (o_fw σ1 a1.toNatClampNeg) (fun x3 => some (.inr x3, σ1, 0, 0))))
set_option maxHeartbeats 4000000 in
set_option maxRecDepth 100000 in
theorem kX0_get (l : Launch) (htr : l.stackTraces = false) (G : gT) (h0 : Nat) (h : oH) (sz F : Nat) (σ : oS) (p1 : Int32) (p2 : Int32) (r : Int32 ⊕ Int32) (σr : oS) (C N : Nat) (hg : fX0_get F σ p1 p2 = some (r, σr, C, N)) : vx_Met l yX0_get wsX0_get (rX0_get C N) (oPreX G h0 h σ sz [.int p1, .int p2]) (oxi G h0 h r σr (oA G h0 h σ sz)) (oxX G h0 h r σr (oA G h0 h σ sz)) C N (oA G h0 h σ sz) := by
  refine oxMet (Qc := oxi G h0 h r σr) (XC := oxX G h0 h r σr) (by decide +kernel) rfl rfl (Nat.le_of_ble_eq_true rfl) ?_
  intro p e s m args below meth c A S hr hlocks hno hK hA hZ H locs hI ls hl
  have hl : lv_has ls 3 [(0, .ref h0), (1, .int p1), (2, .int p2)] := hl
  have hin : ∀ w ∈ wsX00, w ∈ wsX0_get := by decide +kernel
  have hx := S.1
  have hb := S.2.1
  have hts := S.2.2.2.2
  have hown := S.2.2.2.1
  have hC : 0 + C ≤ C := by omega
  have hN : 0 + N ≤ N := by omega
  unfold fX0_get at hg
  refine lv_aload_n hx hb dX0_get_0 rfl (lv_at hl 0 rfl) ?_
  refine og_words S hin hK hI (ix := 23) (by decide +kernel) dX0_get_1 ?_
  refine lv_aload_n hx hb dX0_get_4 rfl (lv_at hl 0 rfl) ?_
  refine lv_iload_n hx hb dX0_get_5 rfl (lv_at hl 1 rfl) ?_
  refine lv_iload_n hx hb dX0_get_6 rfl (lv_at hl 2 rfl) ?_
  rcases bndX_e hg with ⟨e1, hc1, er⟩ | ⟨a1, σ1, c1, n1, C1, N1, hc1, hg, eC, eN⟩
  · subst er
    exact oxt_ix S hK hA hZ hI hno hlocks (As := [.int p1, .int p2]) (rest := [.ref h.1]) (kX0_plainSlot l htr G h0 h H.size F σ p1 p2 _ _ _ _ hc1) (cwV 2 hts gX0_get_X0_plainSlot rfl rfl rfl nX0_plainSlot ⟨Nat.le_of_ble_eq_true rfl, Nat.le_of_ble_eq_true rfl⟩) rfl hl.1 rfl (Nat.le_of_ble_eq_true rfl) dX0_get_7 ⟨by show 0 + C ≤ C; omega, by show 0 + N ≤ N; omega⟩ rfl (by omega) (by omega)
  · refine oxc_i S hK hA hZ hI (As := [.int p1, .int p2]) (rest := [.ref h.1]) (kX0_plainSlot l htr G h0 h H.size F σ p1 p2 _ _ _ _ hc1) (cwV 2 hts gX0_get_X0_plainSlot rfl rfl rfl nX0_plainSlot ⟨Nat.le_of_ble_eq_true rfl, Nat.le_of_ble_eq_true rfl⟩) rfl hl.1 rfl (Nat.le_of_ble_eq_true rfl) dX0_get_7 ⟨by show 0 + c1 ≤ C; omega, by show 0 + n1 ≤ N; omega⟩ (fun H locs hI => ?_)
    have hC : (0 + c1) + C1 ≤ C := by omega
    have hN : (0 + n1) + N1 ≤ N := by omega
    obtain ⟨c2, hg⟩ := ck_e hg
    obtain ⟨x3, ex3, hg⟩ := nmd_e hg
    refine or_words S hK hI c2 ex3 dX0_get_10 ?_
    exact oxe_i S hr hlocks hK hI rfl hg (by omega) (by omega) dX0_get_11
-- OwnMemory.length (may throw)
abbrev rX0_length (C N : Nat) : Room := { frames := 8, cells := C, slots := N, locals := 132 }
theorem nX0_length : yX0_length.cls = RX0 ∧ yX0_length.cls ≠ "java/lang/invoke/MethodHandle" ∧ yX0_length.cls ≠ "java/lang/invoke/VarHandle" ∧ (parseMethodDescriptor yX0_length.desc).map (fun d => d.parameters.length) = some 1 := by decide +kernel
noncomputable def fX0_length (F : Nat) (σ : oS) (p1 : Int32) : xT Int32 := bndX (fX0_needText F σ p1) (fun a1 σ1 => bnd (fX0_lengthIn F σ1 p1) (fun r3 σ2 => some (.inr r3, σ2, 0, 0)))
set_option maxHeartbeats 4000000 in
set_option maxRecDepth 100000 in
theorem kX0_length (l : Launch) (htr : l.stackTraces = false) (G : gT) (h0 : Nat) (h : oH) (sz F : Nat) (σ : oS) (p1 : Int32) (r : Int32 ⊕ Int32) (σr : oS) (C N : Nat) (hg : fX0_length F σ p1 = some (r, σr, C, N)) : vx_Met l yX0_length wsX0_length (rX0_length C N) (oPreX G h0 h σ sz [.int p1]) (oxi G h0 h r σr (oA G h0 h σ sz)) (oxX G h0 h r σr (oA G h0 h σ sz)) C N (oA G h0 h σ sz) := by
  refine oxMet (Qc := oxi G h0 h r σr) (XC := oxX G h0 h r σr) (by decide +kernel) rfl rfl (Nat.le_of_ble_eq_true rfl) ?_
  intro p e s m args below meth c A S hr hlocks hno hK hA hZ H locs hI ls hl
  have hl : lv_has ls 2 [(0, .ref h0), (1, .int p1)] := hl
  have hin : ∀ w ∈ wsX00, w ∈ wsX0_length := by decide +kernel
  have hx := S.1
  have hb := S.2.1
  have hts := S.2.2.2.2
  have hown := S.2.2.2.1
  have hC : 0 + C ≤ C := by omega
  have hN : 0 + N ≤ N := by omega
  unfold fX0_length at hg
  refine lv_aload_n hx hb dX0_length_0 rfl (lv_at hl 0 rfl) ?_
  refine lv_iload_n hx hb dX0_length_1 rfl (lv_at hl 1 rfl) ?_
  rcases bndX_e hg with ⟨e1, hc1, er⟩ | ⟨a1, σ1, c1, n1, C1, N1, hc1, hg, eC, eN⟩
  · subst er
    exact oxt_vx S hK hA hZ hI hno hlocks (As := [.int p1]) (rest := []) (kX0_needText l htr G h0 h H.size F σ p1 _ _ _ _ hc1) (cwV 1 hts gX0_length_X0_needText rfl rfl rfl nX0_needText ⟨Nat.le_of_ble_eq_true rfl, Nat.le_of_ble_eq_true rfl⟩) rfl hl.1 rfl (Nat.le_of_ble_eq_true rfl) dX0_length_2 ⟨by show 0 + C ≤ C; omega, by show 0 + N ≤ N; omega⟩ rfl (by omega) (by omega)
  · refine oxc_v S hK hA hZ hI (As := [.int p1]) (rest := []) (kX0_needText l htr G h0 h H.size F σ p1 _ _ _ _ hc1) (cwV 1 hts gX0_length_X0_needText rfl rfl rfl nX0_needText ⟨Nat.le_of_ble_eq_true rfl, Nat.le_of_ble_eq_true rfl⟩) rfl hl.1 rfl (Nat.le_of_ble_eq_true rfl) dX0_length_2 ⟨by show 0 + c1 ≤ C; omega, by show 0 + n1 ≤ N; omega⟩ (fun H locs hI => ?_)
    have hC : (0 + c1) + C1 ≤ C := by omega
    have hN : (0 + n1) + N1 ≤ N := by omega
    refine lv_aload_n hx hb dX0_length_5 rfl (lv_at hl 0 rfl) ?_
    refine lv_iload_n hx hb dX0_length_6 rfl (lv_at hl 1 rfl) ?_
    obtain ⟨r3, σ2, er3, hg⟩ := bnd_e hg
    refine oc_i S hK hA hI (As := [.int p1]) (rest := []) (kX0_lengthIn l G h0 h H.size F σ1 p1  r3 σ2 er3) (cwV 1 hts gX0_length_X0_lengthIn rfl rfl rfl nX0_lengthIn ⟨Nat.le_of_ble_eq_true rfl, Nat.le_of_ble_eq_true rfl⟩) rfl hl.1 rfl (Nat.le_of_ble_eq_true rfl) dX0_length_7 ⟨by show (0 + c1) + 0 ≤ C; omega, by show (0 + n1) + 0 ≤ N; omega⟩ (fun H locs hI => ?_)
    exact oxe_i S hr hlocks hK hI rfl hg (by omega) (by omega) dX0_length_10
-- OwnMemory.stress (may throw)
abbrev rX0_stress (C N : Nat) : Room := { frames := 6, cells := C, slots := N, locals := 90 }
theorem nX0_stress : yX0_stress.cls = RX0 ∧ yX0_stress.cls ≠ "java/lang/invoke/MethodHandle" ∧ yX0_stress.cls ≠ "java/lang/invoke/VarHandle" ∧ (parseMethodDescriptor yX0_stress.desc).map (fun d => d.parameters.length) = some 1 := by decide +kernel
noncomputable def fX0_stress (F : Nat) (σ : oS) (p1 : Int32) : xT Unit := cIf (0 ≤ p1) (nmd (o_s_st σ p1) (fun σ2 => nmd (o_s_md σ2 0) (fun σ3 => some (.inr (), σ3, 0, 0)))) (some (.inl 1, σ, 1, 6))
set_option maxHeartbeats 4000000 in
set_option maxRecDepth 100000 in
theorem kX0_stress (l : Launch) (htr : l.stackTraces = false) (G : gT) (h0 : Nat) (h : oH) (sz F : Nat) (σ : oS) (p1 : Int32) (r : Int32 ⊕ Unit) (σr : oS) (C N : Nat) (hg : fX0_stress F σ p1 = some (r, σr, C, N)) : vx_Met l yX0_stress wsX0_stress (rX0_stress C N) (oPreX G h0 h σ sz [.int p1]) (oxv G h0 h r σr (oA G h0 h σ sz)) (oxX G h0 h r σr (oA G h0 h σ sz)) C N (oA G h0 h σ sz) := by
  refine oxMet (Qc := oxv G h0 h r σr) (XC := oxX G h0 h r σr) (by decide +kernel) rfl rfl (Nat.le_of_ble_eq_true rfl) ?_
  intro p e s m args below meth c A S hr hlocks hno hK hA hZ H locs hI ls hl
  have hl : lv_has ls 2 [(0, .ref h0), (1, .int p1)] := hl
  have hin : ∀ w ∈ wsX00, w ∈ wsX0_stress := by decide +kernel
  have hx := S.1
  have hb := S.2.1
  have hts := S.2.2.2.2
  have hown := S.2.2.2.1
  have hC : 0 + C ≤ C := by omega
  have hN : 0 + N ≤ N := by omega
  unfold fX0_stress at hg
  refine lv_iload_n hx hb dX0_stress_0 rfl (lv_at hl 1 rfl) ?_
  refine lv_if_ge (tgt := 14) hx hb dX0_stress_1 (by decide) (fun c1 => ?_) (fun c1 => ?_)
  · have hg := cIf_te c1 hg
    refine lv_aload_n hx hb dX0_stress_14 rfl (lv_at hl 0 rfl) ?_
    refine lv_iload_n hx hb dX0_stress_15 rfl (lv_at hl 1 rfl) ?_
    obtain ⟨σ2, eσ2, hg⟩ := nmd_e hg
    refine op_stressEvery S hin hK hI (ix := 51) (by decide +kernel) eσ2 dX0_stress_16 (fun H locs hI => ?_)
    refine lv_aload_n hx hb dX0_stress_19 rfl (lv_at hl 0 rfl) ?_
    refine lv_iconst (v := 0) hx hb dX0_stress_20 (by decide) ?_
    obtain ⟨σ3, eσ3, hg⟩ := nmd_e hg
    refine op_made S hin hK hI (ix := 54) (by decide +kernel) eσ3 dX0_stress_21 (fun H locs hI => ?_)
    exact oxe_v S hr hlocks hK hI rfl hg (by omega) (by omega) dX0_stress_24
  · have hg := cIf_fe c1 hg
    obtain ⟨e1, e2, e3, e4⟩ := x4_e hg
    subst e1; subst e2
    exact oth1_x S hK hZ hI rfl hno hlocks htr (is := 160) (tx := "below 0") (by decide +kernel) (by decide +kernel) (by decide +kernel) (by decide +kernel) hl.1 dX0_stress_4 dX0_stress_7 dX0_stress_8 dX0_stress_10 dX0_stress_13 (Nat.le_of_ble_eq_true rfl) (Nat.le_of_ble_eq_true rfl) (by show 0 + 1 ≤ C; omega) (by show 0 + 6 ≤ N; omega) (by omega) (by omega)
